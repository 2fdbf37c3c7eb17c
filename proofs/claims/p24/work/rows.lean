section
-- ===== PART A: goes FIRST, ahead of the names: the tables' words, and 'selects' of the private methods out of them =====
/-- a private method of a class that the tables say can be made, by its rows of tables_1 -/
def lw_okq (q : MethodName × Nat) : Prop := (q.1.cls ≠ "java/lang/invoke/MethodHandle" ∧ q.1.cls ≠ "java/lang/invoke/VarHandle") ∧ Cond.instantiable q.1.cls q.2 ∈ tables_1 ∧ Cond.privateMethod q.1 ∈ tables_1 ∧ Cond.instanceMethod q.1 ∈ tables_1
theorem lw_p0 : lw_okq (⟨"BellowsRound", "commit", "(I)I"⟩, 9) := ⟨⟨by decide +kernel, by decide +kernel⟩, List.mem_of_getElem? (i := 8) (by decide +kernel), List.mem_of_getElem? (i := 232) (by decide +kernel), List.mem_of_getElem? (i := 233) (by decide +kernel)⟩
theorem lw_p1 : lw_okq (⟨"BellowsRound", "remember", "()V"⟩, 9) := ⟨⟨by decide +kernel, by decide +kernel⟩, List.mem_of_getElem? (i := 8) (by decide +kernel), List.mem_of_getElem? (i := 236) (by decide +kernel), List.mem_of_getElem? (i := 237) (by decide +kernel)⟩
theorem lw_p2 : lw_okq (⟨"BellowsRound", "dropOldestState", "()V"⟩, 9) := ⟨⟨by decide +kernel, by decide +kernel⟩, List.mem_of_getElem? (i := 8) (by decide +kernel), List.mem_of_getElem? (i := 240) (by decide +kernel), List.mem_of_getElem? (i := 241) (by decide +kernel)⟩
theorem lw_p3 : lw_okq (⟨"BellowsRound$State", "reasonOfSmithy", "(LBellowsRound$Smithy;)I"⟩, 15) := ⟨⟨by decide +kernel, by decide +kernel⟩, List.mem_of_getElem? (i := 16) (by decide +kernel), List.mem_of_getElem? (i := 305) (by decide +kernel), List.mem_of_getElem? (i := 306) (by decide +kernel)⟩
theorem lw_p4 : lw_okq (⟨"BellowsRound$State", "endDayOf", "(LBellowsRound$Smithy;)V"⟩, 15) := ⟨⟨by decide +kernel, by decide +kernel⟩, List.mem_of_getElem? (i := 16) (by decide +kernel), List.mem_of_getElem? (i := 353) (by decide +kernel), List.mem_of_getElem? (i := 354) (by decide +kernel)⟩
def lw_privs_1 : List (MethodName × Nat) := [(⟨"BellowsRound", "commit", "(I)I"⟩, 9), (⟨"BellowsRound", "remember", "()V"⟩, 9), (⟨"BellowsRound", "dropOldestState", "()V"⟩, 9), (⟨"BellowsRound$State", "reasonOfSmithy", "(LBellowsRound$Smithy;)I"⟩, 15), (⟨"BellowsRound$State", "endDayOf", "(LBellowsRound$Smithy;)V"⟩, 15)]
theorem lw_r1 : ∀ q ∈ lw_privs_1, lw_okq q := List.forall_mem_cons.mpr ⟨lw_p0, List.forall_mem_cons.mpr ⟨lw_p1, List.forall_mem_cons.mpr ⟨lw_p2, List.forall_mem_cons.mpr ⟨lw_p3, List.forall_mem_cons.mpr ⟨lw_p4, fun _ h => absurd h List.not_mem_nil⟩⟩⟩⟩⟩
def lw_privs : List (MethodName × Nat) := lw_privs_1
def lw_tbl : List Cond := k2_sels lw_privs ++ tables_1
theorem lw_privs_ok : ∀ q ∈ lw_privs, lw_okq q := lw_r1
-- ===== end of PART A; then your names; then what follows =====
end
section
/-! ===== BEGIN words of one list among another's, by their places ===== -/
theorem goodIn_r {big : List Cond} (ws : List Cond) (ps : List Nat) (hp : ws = ps.filterMap (fun i => big[i]?)) (h : ws.all goodWord = true) : GoodIn big ws := by
  intro w hw
  have h1 := List.all_eq_true.mp h w hw
  rw [hp] at hw
  obtain ⟨i, -, hi⟩ := List.mem_filterMap.mp hw
  have hm : w ∈ big := by first | exact List.mem_of_getElem? hi | exact List.getElem?_mem hi
  exact ⟨hm, good_of_word h1⟩
theorem goodIn_app {big a b : List Cond} (ha : GoodIn big a) (hb : GoodIn big b) : GoodIn big (a ++ b) := fun w h => (List.mem_append.mp h).elim (ha w) (hb w)
theorem goodIn_ca {big a b : List Cond} {c : Cond} (ha : GoodIn big (c :: a)) (hb : GoodIn big b) : GoodIn big (c :: (a ++ b)) := fun w h => (List.mem_cons.mp h).elim (fun e => ha w (List.mem_cons.mpr (Or.inl e))) (fun h => (List.mem_append.mp h).elim (fun h => ha w (List.mem_cons.mpr (Or.inr h))) (hb w))
theorem goodIn_sub {big ws : List Cond} (hm : ∀ w ∈ ws, w ∈ big) (h : ws.all goodWord = true) : GoodIn big ws := fun w hw => ⟨hm w hw, good_of_word (List.all_eq_true.mp h w hw)⟩
/-! ===== END ===== -/

/-! ===== BEGIN printed: names, fields, word lists, decode rows ===== -/
def RX0 : String := "BellowsRound$OrderText"
def TX0 : u_T := fun k => match k with
  | 0 => ("BellowsRound$OrderText", "characters", "[C", true)
  | 1 => ("BellowsRound$OrderText", "length", "I", false)
  | 2 => ("BellowsRound$OrderText", "letter", "I", false)
  | 3 => ("BellowsRound$OrderText", "number", "I", false)
  | 4 => ("BellowsRound$OrderText", "behind", "I", false)
  | _ => ("BellowsRound$OrderText", "brokenAt", "I", false)
def tyX0 : Nat → FieldType := fun k => match k with
  | 0 => .array .char
  | 1 => .int
  | 2 => .int
  | 3 => .int
  | 4 => .int
  | _ => .int
abbrev wsX00 : List Cond := u_ws RX0 TX0 6
theorem nmX0 : ∀ a, a < 6 → ∀ b, b < 6 → a ≠ b → (TX0 a).2.1 ≠ (TX0 b).2.1 := by decide +kernel
theorem tyX0_ok : ∀ k, k < 6 → parseFieldDescriptor (TX0 k).2.2.1 = some (tyX0 k) := by decide +kernel
abbrev cX0_init : ByteArray := prog_2_method_1_code
def yX0_init : MethodName := ⟨RX0, "<init>", "()V"⟩
def RX1 : String := "BellowsRound$Smithy"
def TX1 : u_T := fun k => match k with
  | 0 => ("BellowsRound$Smithy", "mile", "I", false)
  | 1 => ("BellowsRound$Smithy", "size", "I", false)
  | 2 => ("BellowsRound$Smithy", "wear", "I", false)
  | 3 => ("BellowsRound$Smithy", "heat", "I", false)
  | 4 => ("BellowsRound$Smithy", "coldDays", "I", false)
  | 5 => ("BellowsRound$Smithy", "debt", "I", false)
  | 6 => ("BellowsRound$Smithy", "paid", "I", false)
  | _ => ("BellowsRound$Smithy", "mends", "I", false)
def tyX1 : Nat → FieldType := fun k => match k with
  | 0 => .int
  | 1 => .int
  | 2 => .int
  | 3 => .int
  | 4 => .int
  | 5 => .int
  | 6 => .int
  | _ => .int
abbrev wsX10 : List Cond := u_ws RX1 TX1 8
theorem nmX1 : ∀ a, a < 8 → ∀ b, b < 8 → a ≠ b → (TX1 a).2.1 ≠ (TX1 b).2.1 := by decide +kernel
theorem tyX1_ok : ∀ k, k < 8 → parseFieldDescriptor (TX1 k).2.2.1 = some (tyX1 k) := by decide +kernel
abbrev cX1_init : ByteArray := prog_3_method_1_code
def yX1_init : MethodName := ⟨RX1, "<init>", "()V"⟩
abbrev cX1_beginAt : ByteArray := prog_3_method_2_code
def yX1_beginAt : MethodName := ⟨RX1, "beginAt", "(II)V"⟩
abbrev cX1_copyFrom : ByteArray := prog_3_method_3_code
def yX1_copyFrom : MethodName := ⟨RX1, "copyFrom", "(LBellowsRound$Smithy;)V"⟩
abbrev cX1_leatherOfMend : ByteArray := prog_3_method_4_code
def yX1_leatherOfMend : MethodName := ⟨RX1, "leatherOfMend", "(Z)I"⟩
abbrev cX1_wearBehindMend : ByteArray := prog_3_method_5_code
def yX1_wearBehindMend : MethodName := ⟨RX1, "wearBehindMend", "(Z)I"⟩
def RX2 : String := "BellowsRound$State"
def TX2 : u_T := fun k => match k with
  | 0 => ("BellowsRound$State", "smithies", "[LBellowsRound$Smithy;", true)
  | 1 => ("BellowsRound$State", "smithyCount", "I", false)
  | 2 => ("BellowsRound$State", "cold", "I", false)
  | 3 => ("BellowsRound$State", "hours", "I", false)
  | 4 => ("BellowsRound$State", "rate", "I", false)
  | 5 => ("BellowsRound$State", "patience", "I", false)
  | 6 => ("BellowsRound$State", "day", "I", false)
  | 7 => ("BellowsRound$State", "mile", "I", false)
  | 8 => ("BellowsRound$State", "hoursLeft", "I", false)
  | 9 => ("BellowsRound$State", "leather", "I", false)
  | 10 => ("BellowsRound$State", "money", "I", false)
  | 11 => ("BellowsRound$State", "paidForLeather", "I", false)
  | 12 => ("BellowsRound$State", "owedForMends", "I", false)
  | 13 => ("BellowsRound$State", "longestCold", "I", false)
  | _ => ("BellowsRound$State", "milesWalked", "I", false)
def tyX2 : Nat → FieldType := fun k => match k with
  | 0 => .array (.object "BellowsRound$Smithy")
  | 1 => .int
  | 2 => .int
  | 3 => .int
  | 4 => .int
  | 5 => .int
  | 6 => .int
  | 7 => .int
  | 8 => .int
  | 9 => .int
  | 10 => .int
  | 11 => .int
  | 12 => .int
  | 13 => .int
  | _ => .int
abbrev wsX20 : List Cond := u_ws RX2 TX2 15
theorem nmX2 : ∀ a, a < 15 → ∀ b, b < 15 → a ≠ b → (TX2 a).2.1 ≠ (TX2 b).2.1 := by decide +kernel
theorem tyX2_ok : ∀ k, k < 15 → parseFieldDescriptor (TX2 k).2.2.1 = some (tyX2 k) := by decide +kernel
abbrev cX2_init : ByteArray := prog_4_method_1_code
def yX2_init : MethodName := ⟨RX2, "<init>", "()V"⟩
abbrev cX2_copyFrom : ByteArray := prog_4_method_2_code
def yX2_copyFrom : MethodName := ⟨RX2, "copyFrom", "(LBellowsRound$State;)V"⟩
abbrev cX2_find : ByteArray := prog_4_method_3_code
def yX2_find : MethodName := ⟨RX2, "find", "(I)LBellowsRound$Smithy;"⟩
abbrev cX2_addSmithy : ByteArray := prog_4_method_4_code
def yX2_addSmithy : MethodName := ⟨RX2, "addSmithy", "(II)I"⟩
abbrev cX2_walkTo : ByteArray := prog_4_method_5_code
def yX2_walkTo : MethodName := ⟨RX2, "walkTo", "(I)I"⟩
abbrev cX2_buyLeather : ByteArray := prog_4_method_6_code
def yX2_buyLeather : MethodName := ⟨RX2, "buyLeather", "(I)I"⟩
abbrev cX2_mendBellows : ByteArray := prog_4_method_7_code
def yX2_mendBellows : MethodName := ⟨RX2, "mendBellows", "(IZ)I"⟩
abbrev cX2_collectDebt : ByteArray := prog_4_method_8_code
def yX2_collectDebt : MethodName := ⟨RX2, "collectDebt", "(I)I"⟩
abbrev cX2_endDays : ByteArray := prog_4_method_9_code
def yX2_endDays : MethodName := ⟨RX2, "endDays", "(I)I"⟩
abbrev cX2_endDayOf : ByteArray := prog_4_method_10_code
def yX2_endDayOf : MethodName := ⟨RX2, "endDayOf", "(LBellowsRound$Smithy;)V"⟩
abbrev cX2_changeSetting : ByteArray := prog_4_method_11_code
def yX2_changeSetting : MethodName := ⟨RX2, "changeSetting", "(II)I"⟩
abbrev cX2_isInRange : ByteArray := prog_4_method_12_code
def yX2_isInRange : MethodName := ⟨RX2, "isInRange", "(II)Z"⟩
abbrev cX2_isCold : ByteArray := prog_4_method_14_code
def yX2_isCold : MethodName := ⟨RX2, "isCold", "(I)Z"⟩
abbrev cX2_coldSet : ByteArray := prog_4_method_15_code
def yX2_coldSet : MethodName := ⟨RX2, "coldSet", "()I"⟩
abbrev cX2_debtsTogether : ByteArray := prog_4_method_17_code
def yX2_debtsTogether : MethodName := ⟨RX2, "debtsTogether", "()I"⟩
abbrev cX2_priceOfMend : ByteArray := prog_4_method_18_code
def yX2_priceOfMend : MethodName := ⟨RX2, "priceOfMend", "(LBellowsRound$Smithy;Z)I"⟩
abbrev cX2_reasonAgainst : ByteArray := prog_4_method_19_code
def yX2_reasonAgainst : MethodName := ⟨RX2, "reasonAgainst", "(LBellowsRound$Smithy;Z)I"⟩
abbrev cX2_reasonOfSmithy : ByteArray := prog_4_method_20_code
def yX2_reasonOfSmithy : MethodName := ⟨RX2, "reasonOfSmithy", "(LBellowsRound$Smithy;)I"⟩
def RX3 : String := "BellowsRound"
def TX3 : u_T := fun k => match k with
  | 0 => ("BellowsRound", "now", "LBellowsRound$State;", false)
  | 1 => ("BellowsRound", "trial", "LBellowsRound$State;", false)
  | 2 => ("BellowsRound", "history", "[LBellowsRound$State;", true)
  | 3 => ("BellowsRound", "states", "I", false)
  | 4 => ("BellowsRound", "text", "LBellowsRound$OrderText;", true)
  | 5 => ("BellowsRound", "ordersTried", "I", false)
  | 6 => ("BellowsRound", "faultPosition", "I", false)
  | 7 => ("BellowsRound", "faultReason", "I", false)
  | _ => ("BellowsRound", "faultCause", "I", false)
def tyX3 : Nat → FieldType := fun k => match k with
  | 0 => .object "BellowsRound$State"
  | 1 => .object "BellowsRound$State"
  | 2 => .array (.object "BellowsRound$State")
  | 3 => .int
  | 4 => .object "BellowsRound$OrderText"
  | 5 => .int
  | 6 => .int
  | 7 => .int
  | _ => .int
abbrev wsX30 : List Cond := u_ws RX3 TX3 9
theorem nmX3 : ∀ a, a < 9 → ∀ b, b < 9 → a ≠ b → (TX3 a).2.1 ≠ (TX3 b).2.1 := by decide +kernel
theorem tyX3_ok : ∀ k, k < 9 → parseFieldDescriptor (TX3 k).2.2.1 = some (tyX3 k) := by decide +kernel
abbrev cX3_init : ByteArray := prog_1_method_1_code
def yX3_init : MethodName := ⟨RX3, "<init>", "()V"⟩
abbrev cX3_smithy : ByteArray := prog_1_method_2_code
def yX3_smithy : MethodName := ⟨RX3, "smithy", "(II)I"⟩
abbrev cX3_walk : ByteArray := prog_1_method_3_code
def yX3_walk : MethodName := ⟨RX3, "walk", "(I)I"⟩
abbrev cX3_buy : ByteArray := prog_1_method_4_code
def yX3_buy : MethodName := ⟨RX3, "buy", "(I)I"⟩
abbrev cX3_patch : ByteArray := prog_1_method_5_code
def yX3_patch : MethodName := ⟨RX3, "patch", "(I)I"⟩
abbrev cX3_hide : ByteArray := prog_1_method_6_code
def yX3_hide : MethodName := ⟨RX3, "hide", "(I)I"⟩
abbrev cX3_collect : ByteArray := prog_1_method_7_code
def yX3_collect : MethodName := ⟨RX3, "collect", "(I)I"⟩
abbrev cX3_end : ByteArray := prog_1_method_8_code
def yX3_end : MethodName := ⟨RX3, "end", "(I)I"⟩
abbrev cX3_set : ByteArray := prog_1_method_9_code
def yX3_set : MethodName := ⟨RX3, "set", "(II)I"⟩
abbrev cX3_smithyOf : ByteArray := prog_1_method_10_code
def yX3_smithyOf : MethodName := ⟨RX3, "smithyOf", "(II)I"⟩
abbrev cX3_why : ByteArray := prog_1_method_11_code
def yX3_why : MethodName := ⟨RX3, "why", "(II)I"⟩
abbrev cX3_mend : ByteArray := prog_1_method_12_code
def yX3_mend : MethodName := ⟨RX3, "mend", "(III)I"⟩
abbrev cX3_count : ByteArray := prog_1_method_17_code
def yX3_count : MethodName := ⟨RX3, "count", "(I)I"⟩
abbrev cX3_commit : ByteArray := prog_1_method_23_code
def yX3_commit : MethodName := ⟨RX3, "commit", "(I)I"⟩
abbrev cX3_remember : ByteArray := prog_1_method_24_code
def yX3_remember : MethodName := ⟨RX3, "remember", "()V"⟩
abbrev cX3_dropOldestState : ByteArray := prog_1_method_25_code
def yX3_dropOldestState : MethodName := ⟨RX3, "dropOldestState", "()V"⟩
abbrev cX3_isFlag : ByteArray := prog_1_method_28_code
def yX3_isFlag : MethodName := ⟨RX3, "isFlag", "(I)Z"⟩
abbrev cX3_leakOf : ByteArray := prog_1_method_29_code
def yX3_leakOf : MethodName := ⟨RX3, "leakOf", "(I)I"⟩
abbrev cX3_wearBehindDay : ByteArray := prog_1_method_30_code
def yX3_wearBehindDay : MethodName := ⟨RX3, "wearBehindDay", "(II)I"⟩
abbrev cX3_heatBehindDay : ByteArray := prog_1_method_31_code
def yX3_heatBehindDay : MethodName := ⟨RX3, "heatBehindDay", "(II)I"⟩
abbrev cX3_tensBegun : ByteArray := prog_1_method_32_code
def yX3_tensBegun : MethodName := ⟨RX3, "tensBegun", "(I)I"⟩
abbrev cX3_hoursOfWay : ByteArray := prog_1_method_33_code
def yX3_hoursOfWay : MethodName := ⟨RX3, "hoursOfWay", "(II)I"⟩
abbrev cX3_hoursOfMend : ByteArray := prog_1_method_34_code
def yX3_hoursOfMend : MethodName := ⟨RX3, "hoursOfMend", "(Z)I"⟩
def RX4 : String := "BellowsRoundModel"
def TX4 : u_T := fun k => match k with
  | _ => ("", "", "", false)
def tyX4 : Nat → FieldType := fun k => match k with
  | _ => .int
abbrev wsX40 : List Cond := u_ws RX4 TX4 0
theorem nmX4 : ∀ a, a < 0 → ∀ b, b < 0 → a ≠ b → (TX4 a).2.1 ≠ (TX4 b).2.1 := by decide +kernel
theorem tyX4_ok : ∀ k, k < 0 → parseFieldDescriptor (TX4 k).2.2.1 = some (tyX4 k) := by decide +kernel
def RJ6 : String := "java/lang/Integer"
def TJ6 : u_T := fun k => match k with
  | _ => ("", "", "", false)
def tyJ6 : Nat → FieldType := fun k => match k with
  | _ => .int
abbrev wsJ60 : List Cond := u_ws RJ6 TJ6 0
theorem nmJ6 : ∀ a, a < 0 → ∀ b, b < 0 → a ≠ b → (TJ6 a).2.1 ≠ (TJ6 b).2.1 := by decide +kernel
theorem tyJ6_ok : ∀ k, k < 0 → parseFieldDescriptor (TJ6 k).2.2.1 = some (tyJ6 k) := by decide +kernel
abbrev cJ6_bitCount_0f7a4 : ByteArray := prog_7_method_49_code
def yJ6_bitCount_0f7a4 : MethodName := ⟨RJ6, "bitCount", "(I)I"⟩
def RJ9 : String := "java/lang/Math"
def TJ9 : u_T := fun k => match k with
  | _ => ("", "", "", false)
def tyJ9 : Nat → FieldType := fun k => match k with
  | _ => .int
abbrev wsJ90 : List Cond := u_ws RJ9 TJ9 0
theorem nmJ9 : ∀ a, a < 0 → ∀ b, b < 0 → a ≠ b → (TJ9 a).2.1 ≠ (TJ9 b).2.1 := by decide +kernel
theorem tyJ9_ok : ∀ k, k < 0 → parseFieldDescriptor (TJ9 k).2.2.1 = some (tyJ9 k) := by decide +kernel
abbrev cJ9_abs_0f7a4 : ByteArray := prog_8_method_59_code
def yJ9_abs_0f7a4 : MethodName := ⟨RJ9, "abs", "(I)I"⟩
abbrev cJ9_max_7cf53 : ByteArray := prog_8_method_65_code
def yJ9_max_7cf53 : MethodName := ⟨RJ9, "max", "(II)I"⟩
abbrev cJ9_min_7cf53 : ByteArray := prog_8_method_69_code
def yJ9_min_7cf53 : MethodName := ⟨RJ9, "min", "(II)I"⟩
def RL : String := "BellowsRoundLaw"
abbrev cL_cell : ByteArray := method_2_code
def yL_cell : MethodName := ⟨RL, "cell", "([II)I"⟩
abbrev cL_low : ByteArray := method_3_code
def yL_low : MethodName := ⟨RL, "low", "(II)I"⟩
abbrev cL_apart : ByteArray := method_4_code
def yL_apart : MethodName := ⟨RL, "apart", "(II)I"⟩
abbrev cL_tens : ByteArray := method_5_code
def yL_tens : MethodName := ⟨RL, "tens", "(I)I"⟩
abbrev cL_day : ByteArray := method_6_code
def yL_day : MethodName := ⟨RL, "day", "([I[II)V"⟩
abbrev cL_colds : ByteArray := method_7_code
def yL_colds : MethodName := ⟨RL, "colds", "([I[I)I"⟩
abbrev cL_takes : ByteArray := method_8_code
def yL_takes : MethodName := ⟨RL, "takes", "([IIZ)I"⟩
abbrev cL_owes : ByteArray := method_9_code
def yL_owes : MethodName := ⟨RL, "owes", "([I[IIZ)I"⟩
abbrev cL_why : ByteArray := method_10_code
def yL_why : MethodName := ⟨RL, "why", "([I[IIZ)I"⟩
abbrev cL_walks : ByteArray := method_11_code
def yL_walks : MethodName := ⟨RL, "walks", "([II)I"⟩
abbrev cL_buys : ByteArray := method_12_code
def yL_buys : MethodName := ⟨RL, "buys", "([II)I"⟩
abbrev cL_mends : ByteArray := method_13_code
def yL_mends : MethodName := ⟨RL, "mends", "([I[IIZ)I"⟩
abbrev cL_collects : ByteArray := method_14_code
def yL_collects : MethodName := ⟨RL, "collects", "([I[II)I"⟩
abbrev cL_ends : ByteArray := method_15_code
def yL_ends : MethodName := ⟨RL, "ends", "([I[II)I"⟩
abbrev cL_acts : ByteArray := method_16_code
def yL_acts : MethodName := ⟨RL, "acts", "(LBellowsRound;[I[II)Z"⟩
abbrev cL_areSmithies : ByteArray := method_17_code
def yL_areSmithies : MethodName := ⟨RL, "areSmithies", "(LBellowsRound;[I[I)Z"⟩
abbrev cL_isSo : ByteArray := method_18_code
def yL_isSo : MethodName := ⟨RL, "isSo", "(LBellowsRound;[I[I)Z"⟩
abbrev cL_law : ByteArray := code
def yL_law : MethodName := ⟨RL, "law", "([I)Z"⟩
end
section
def wsX0_init : List Cond := .code yX0_init cX0_init 1 none :: ([.methodLink RX0 3 objectInit, .instanceMethod objectInit, .code objectInit ⟨#[0xb1]⟩ 1 none, .arrayClass .char, .fieldLink RX0 9 "BellowsRound$OrderText" "characters" "[C"] ++ wsX00)
def wsX1_init : List Cond := .code yX1_init cX1_init 1 none :: ([.methodLink RX1 3 objectInit, .instanceMethod objectInit, .code objectInit ⟨#[0xb1]⟩ 1 none])
def wsX1_beginAt : List Cond := .code yX1_beginAt cX1_beginAt 3 none :: ([.fieldLink RX1 9 "BellowsRound$Smithy" "mile" "I", .fieldLink RX1 15 "BellowsRound$Smithy" "size" "I", .fieldLink RX1 18 "BellowsRound$Smithy" "wear" "I", .fieldLink RX1 21 "BellowsRound$Smithy" "heat" "I", .fieldLink RX1 24 "BellowsRound$Smithy" "coldDays" "I", .fieldLink RX1 27 "BellowsRound$Smithy" "debt" "I", .fieldLink RX1 30 "BellowsRound$Smithy" "paid" "I", .fieldLink RX1 33 "BellowsRound$Smithy" "mends" "I"] ++ wsX10)
def wsX1_copyFrom : List Cond := .code yX1_copyFrom cX1_copyFrom 2 none :: ([.fieldLink RX1 9 "BellowsRound$Smithy" "mile" "I", .fieldLink RX1 15 "BellowsRound$Smithy" "size" "I", .fieldLink RX1 18 "BellowsRound$Smithy" "wear" "I", .fieldLink RX1 21 "BellowsRound$Smithy" "heat" "I", .fieldLink RX1 24 "BellowsRound$Smithy" "coldDays" "I", .fieldLink RX1 27 "BellowsRound$Smithy" "debt" "I", .fieldLink RX1 30 "BellowsRound$Smithy" "paid" "I", .fieldLink RX1 33 "BellowsRound$Smithy" "mends" "I"] ++ wsX10)
def wsX3_tensBegun : List Cond := .code yX3_tensBegun cX3_tensBegun 1 (some .int) :: ([])
def wsX1_leatherOfMend : List Cond := .code yX1_leatherOfMend cX1_leatherOfMend 2 (some .int) :: ([.fieldLink RX1 15 "BellowsRound$Smithy" "size" "I", .fieldLink RX1 18 "BellowsRound$Smithy" "wear" "I", .static yX3_tensBegun, .initialized RX3, .code yX3_tensBegun cX3_tensBegun 1 (some .int)] ++ wsX10)
def wsX1_wearBehindMend : List Cond := .code yX1_wearBehindMend cX1_wearBehindMend 2 (some .int) :: ([.fieldLink RX1 18 "BellowsRound$Smithy" "wear" "I"] ++ wsX10)
def wsX2_init : List Cond := .code yX2_init cX2_init 2 none :: ([.methodLink RX2 3 objectInit, .instanceMethod objectInit, .code objectInit ⟨#[0xb1]⟩ 1 none, .classLink RX2 9 RX1, .fieldLink RX2 11 "BellowsRound$State" "smithies" "[LBellowsRound$Smithy;", .fieldLink RX2 17 "BellowsRound$State" "cold" "I", .fieldLink RX2 21 "BellowsRound$State" "hours" "I", .fieldLink RX2 24 "BellowsRound$State" "rate" "I", .fieldLink RX2 27 "BellowsRound$State" "patience" "I", .fieldLink RX2 30 "BellowsRound$State" "hoursLeft" "I", .fieldLink RX2 33 "BellowsRound$State" "money" "I", .instantiable RX1 8, .initialized RX1, .instanceMethod yX1_init, .code yX1_init cX1_init 1 none, .methodLink RX1 3 objectInit] ++ wsX20 ++ wsX10)
def wsX2_find : List Cond := .code yX2_find cX2_find 2 (some (.object "BellowsRound$Smithy")) :: ([.fieldLink RX2 37 "BellowsRound$State" "smithyCount" "I", .fieldLink RX2 11 "BellowsRound$State" "smithies" "[LBellowsRound$Smithy;"] ++ wsX20)
def wsX2_copyFrom_r1 : List Cond := [Cond.fieldLink RX2 37 "BellowsRound$State" "smithyCount" "I", Cond.fieldLink RX2 17 "BellowsRound$State" "cold" "I", Cond.fieldLink RX2 21 "BellowsRound$State" "hours" "I", Cond.fieldLink RX2 24 "BellowsRound$State" "rate" "I", Cond.fieldLink RX2 27 "BellowsRound$State" "patience" "I", Cond.fieldLink RX2 40 "BellowsRound$State" "day" "I", Cond.fieldLink RX2 43 "BellowsRound$State" "mile" "I", Cond.fieldLink RX2 30 "BellowsRound$State" "hoursLeft" "I", Cond.fieldLink RX2 46 "BellowsRound$State" "leather" "I", Cond.fieldLink RX2 33 "BellowsRound$State" "money" "I", Cond.fieldLink RX2 49 "BellowsRound$State" "paidForLeather" "I", Cond.fieldLink RX2 52 "BellowsRound$State" "owedForMends" "I", Cond.fieldLink RX2 55 "BellowsRound$State" "longestCold" "I", Cond.fieldLink RX2 58 "BellowsRound$State" "milesWalked" "I", Cond.methodLink RX2 61 yX2_find, Cond.instanceMethod yX2_find, Cond.selects RX2 yX2_find yX2_find, Cond.initialized RX2, Cond.code yX2_find cX2_find 2 (some (.object "BellowsRound$Smithy")), Cond.fieldLink RX2 11 "BellowsRound$State" "smithies" "[LBellowsRound$Smithy;", Cond.methodLink RX2 65 yX1_copyFrom, Cond.instanceMethod yX1_copyFrom, Cond.selects RX1 yX1_copyFrom yX1_copyFrom, Cond.initialized RX1]
def wsX2_copyFrom_r2 : List Cond := [Cond.code yX1_copyFrom cX1_copyFrom 2 none, Cond.fieldLink RX1 9 "BellowsRound$Smithy" "mile" "I", Cond.fieldLink RX1 15 "BellowsRound$Smithy" "size" "I", Cond.fieldLink RX1 18 "BellowsRound$Smithy" "wear" "I", Cond.fieldLink RX1 21 "BellowsRound$Smithy" "heat" "I", Cond.fieldLink RX1 24 "BellowsRound$Smithy" "coldDays" "I", Cond.fieldLink RX1 27 "BellowsRound$Smithy" "debt" "I", Cond.fieldLink RX1 30 "BellowsRound$Smithy" "paid" "I", Cond.fieldLink RX1 33 "BellowsRound$Smithy" "mends" "I"]
def wsX2_copyFrom : List Cond := .code yX2_copyFrom cX2_copyFrom 5 none :: ((wsX2_copyFrom_r1 ++ wsX2_copyFrom_r2) ++ wsX20 ++ wsX10)
def wsX2_addSmithy : List Cond := .code yX2_addSmithy cX2_addSmithy 5 (some .int) :: ([.constant RX2 69 (-1000000001), .fieldLink RX2 37 "BellowsRound$State" "smithyCount" "I", .constant RX2 70 (-1000000003), .methodLink RX2 61 yX2_find, .instanceMethod yX2_find, .selects RX2 yX2_find yX2_find, .initialized RX2, .code yX2_find cX2_find 2 (some (.object "BellowsRound$Smithy")), .fieldLink RX2 11 "BellowsRound$State" "smithies" "[LBellowsRound$Smithy;", .methodLink RX2 71 yX1_beginAt, .instanceMethod yX1_beginAt, .selects RX1 yX1_beginAt yX1_beginAt, .initialized RX1, .code yX1_beginAt cX1_beginAt 3 none, .fieldLink RX1 9 "BellowsRound$Smithy" "mile" "I", .fieldLink RX1 15 "BellowsRound$Smithy" "size" "I", .fieldLink RX1 18 "BellowsRound$Smithy" "wear" "I", .fieldLink RX1 21 "BellowsRound$Smithy" "heat" "I", .fieldLink RX1 24 "BellowsRound$Smithy" "coldDays" "I", .fieldLink RX1 27 "BellowsRound$Smithy" "debt" "I", .fieldLink RX1 30 "BellowsRound$Smithy" "paid" "I", .fieldLink RX1 33 "BellowsRound$Smithy" "mends" "I"] ++ wsX20 ++ wsX10)
def wsX3_hoursOfWay : List Cond := .code yX3_hoursOfWay cX3_hoursOfWay 2 (some .int) :: ([.methodLink RX3 251 Lib.Math.abs.name, .static Lib.Math.abs.name, .initialized "java/lang/Math", .code Lib.Math.abs.name Lib.Math.abs.code 1 (some .int), .methodLink RX3 254 yX3_tensBegun, .static yX3_tensBegun, .initialized RX3, .code yX3_tensBegun cX3_tensBegun 1 (some .int)])
def wsX2_walkTo : List Cond := .code yX2_walkTo cX2_walkTo 3 (some .int) :: ([.constant RX2 69 (-1000000001), .fieldLink RX2 43 "BellowsRound$State" "mile" "I", .fieldLink RX2 30 "BellowsRound$State" "hoursLeft" "I", .constant RX2 79 (-1000000002), .fieldLink RX2 58 "BellowsRound$State" "milesWalked" "I", .methodLink RX2 80 Lib.Math.abs.name, .static Lib.Math.abs.name, .initialized "java/lang/Math", .code Lib.Math.abs.name Lib.Math.abs.code 1 (some .int), .static yX3_hoursOfWay, .initialized RX3, .code yX3_hoursOfWay cX3_hoursOfWay 2 (some .int), .methodLink RX3 251 Lib.Math.abs.name, .methodLink RX3 254 yX3_tensBegun, .static yX3_tensBegun, .code yX3_tensBegun cX3_tensBegun 1 (some .int)] ++ wsX20)
def wsX2_buyLeather : List Cond := .code yX2_buyLeather cX2_buyLeather 3 (some .int) :: ([.constant RX2 69 (-1000000001), .fieldLink RX2 43 "BellowsRound$State" "mile" "I", .constant RX2 79 (-1000000002), .fieldLink RX2 46 "BellowsRound$State" "leather" "I", .constant RX2 70 (-1000000003), .fieldLink RX2 33 "BellowsRound$State" "money" "I", .fieldLink RX2 49 "BellowsRound$State" "paidForLeather" "I"] ++ wsX20)
def wsX3_hoursOfMend : List Cond := .code yX3_hoursOfMend cX3_hoursOfMend 1 (some .int) :: ([])
def wsX2_reasonOfSmithy : List Cond := .code yX2_reasonOfSmithy cX2_reasonOfSmithy 2 (some .int) :: ([.fieldLink RX2 100 "BellowsRound$Smithy" "debt" "I", .fieldLink RX2 27 "BellowsRound$State" "patience" "I", .fieldLink RX2 106 "BellowsRound$Smithy" "wear" "I"] ++ wsX10 ++ wsX20)
def wsX2_reasonAgainst : List Cond := .code yX2_reasonAgainst cX2_reasonAgainst 3 (some .int) :: ([.fieldLink RX2 112 "BellowsRound$Smithy" "mile" "I", .fieldLink RX2 43 "BellowsRound$State" "mile" "I", .fieldLink RX2 30 "BellowsRound$State" "hoursLeft" "I", .fieldLink RX2 46 "BellowsRound$State" "leather" "I", .static yX3_hoursOfMend, .initialized RX3, .code yX3_hoursOfMend cX3_hoursOfMend 1 (some .int), .methodLink RX2 97 yX1_leatherOfMend, .instanceMethod yX1_leatherOfMend, .selects RX1 yX1_leatherOfMend yX1_leatherOfMend, .initialized RX1, .code yX1_leatherOfMend cX1_leatherOfMend 2 (some .int), .fieldLink RX1 15 "BellowsRound$Smithy" "size" "I", .fieldLink RX1 18 "BellowsRound$Smithy" "wear" "I", .static yX3_tensBegun, .code yX3_tensBegun cX3_tensBegun 1 (some .int), .methodLink RX2 170 yX2_reasonOfSmithy, .instanceMethod yX2_reasonOfSmithy, .selects RX2 yX2_reasonOfSmithy yX2_reasonOfSmithy, .initialized RX2, .code yX2_reasonOfSmithy cX2_reasonOfSmithy 2 (some .int), .fieldLink RX2 100 "BellowsRound$Smithy" "debt" "I", .fieldLink RX2 27 "BellowsRound$State" "patience" "I", .fieldLink RX2 106 "BellowsRound$Smithy" "wear" "I"] ++ wsX10 ++ wsX20)
def wsX2_priceOfMend : List Cond := .code yX2_priceOfMend cX2_priceOfMend 3 (some .int) :: ([.fieldLink RX2 24 "BellowsRound$State" "rate" "I", .static yX3_hoursOfMend, .initialized RX3, .code yX3_hoursOfMend cX3_hoursOfMend 1 (some .int), .methodLink RX2 97 yX1_leatherOfMend, .instanceMethod yX1_leatherOfMend, .selects RX1 yX1_leatherOfMend yX1_leatherOfMend, .initialized RX1, .code yX1_leatherOfMend cX1_leatherOfMend 2 (some .int), .fieldLink RX1 15 "BellowsRound$Smithy" "size" "I", .fieldLink RX1 18 "BellowsRound$Smithy" "wear" "I", .static yX3_tensBegun, .code yX3_tensBegun cX3_tensBegun 1 (some .int)] ++ wsX20 ++ wsX10)
def wsX2_mendBellows_r1 : List Cond := [Cond.constant RX2 69 (-1000000001), Cond.constant RX2 79 (-1000000002), Cond.fieldLink RX2 30 "BellowsRound$State" "hoursLeft" "I", Cond.fieldLink RX2 46 "BellowsRound$State" "leather" "I", Cond.fieldLink RX2 52 "BellowsRound$State" "owedForMends" "I", Cond.fieldLink RX2 100 "BellowsRound$Smithy" "debt" "I", Cond.fieldLink RX2 106 "BellowsRound$Smithy" "wear" "I", Cond.fieldLink RX2 109 "BellowsRound$Smithy" "mends" "I", Cond.methodLink RX2 61 yX2_find, Cond.instanceMethod yX2_find, Cond.selects RX2 yX2_find yX2_find, Cond.initialized RX2, Cond.code yX2_find cX2_find 2 (some (.object "BellowsRound$Smithy")), Cond.fieldLink RX2 37 "BellowsRound$State" "smithyCount" "I", Cond.fieldLink RX2 11 "BellowsRound$State" "smithies" "[LBellowsRound$Smithy;", Cond.methodLink RX2 86 yX2_reasonAgainst, Cond.instanceMethod yX2_reasonAgainst, Cond.selects RX2 yX2_reasonAgainst yX2_reasonAgainst, Cond.code yX2_reasonAgainst cX2_reasonAgainst 3 (some .int), Cond.fieldLink RX2 112 "BellowsRound$Smithy" "mile" "I", Cond.fieldLink RX2 43 "BellowsRound$State" "mile" "I", Cond.static yX3_hoursOfMend, Cond.initialized RX3, Cond.code yX3_hoursOfMend cX3_hoursOfMend 1 (some .int)]
def wsX2_mendBellows_r2 : List Cond := [Cond.methodLink RX2 97 yX1_leatherOfMend, Cond.instanceMethod yX1_leatherOfMend, Cond.selects RX1 yX1_leatherOfMend yX1_leatherOfMend, Cond.initialized RX1, Cond.code yX1_leatherOfMend cX1_leatherOfMend 2 (some .int), Cond.fieldLink RX1 15 "BellowsRound$Smithy" "size" "I", Cond.fieldLink RX1 18 "BellowsRound$Smithy" "wear" "I", Cond.static yX3_tensBegun, Cond.code yX3_tensBegun cX3_tensBegun 1 (some .int), Cond.methodLink RX2 170 yX2_reasonOfSmithy, Cond.instanceMethod yX2_reasonOfSmithy, Cond.selects RX2 yX2_reasonOfSmithy yX2_reasonOfSmithy, Cond.code yX2_reasonOfSmithy cX2_reasonOfSmithy 2 (some .int), Cond.fieldLink RX2 27 "BellowsRound$State" "patience" "I", Cond.methodLink RX2 90 yX2_priceOfMend, Cond.instanceMethod yX2_priceOfMend, Cond.selects RX2 yX2_priceOfMend yX2_priceOfMend, Cond.code yX2_priceOfMend cX2_priceOfMend 3 (some .int), Cond.fieldLink RX2 24 "BellowsRound$State" "rate" "I", Cond.methodLink RX2 103 yX1_wearBehindMend, Cond.instanceMethod yX1_wearBehindMend, Cond.selects RX1 yX1_wearBehindMend yX1_wearBehindMend, Cond.code yX1_wearBehindMend cX1_wearBehindMend 2 (some .int)]
def wsX2_mendBellows : List Cond := .code yX2_mendBellows cX2_mendBellows 5 (some .int) :: ((wsX2_mendBellows_r1 ++ wsX2_mendBellows_r2) ++ wsX20 ++ wsX10)
def wsX2_isCold : List Cond := .code yX2_isCold cX2_isCold 2 (some .boolean) :: ([.fieldLink RX2 17 "BellowsRound$State" "cold" "I"] ++ wsX20)
def wsX2_collectDebt : List Cond := .code yX2_collectDebt cX2_collectDebt 4 (some .int) :: ([.constant RX2 69 (-1000000001), .fieldLink RX2 112 "BellowsRound$Smithy" "mile" "I", .fieldLink RX2 43 "BellowsRound$State" "mile" "I", .fieldLink RX2 100 "BellowsRound$Smithy" "debt" "I", .constant RX2 79 (-1000000002), .fieldLink RX2 113 "BellowsRound$Smithy" "heat" "I", .fieldLink RX2 120 "BellowsRound$Smithy" "paid" "I", .fieldLink RX2 33 "BellowsRound$State" "money" "I", .methodLink RX2 61 yX2_find, .instanceMethod yX2_find, .selects RX2 yX2_find yX2_find, .initialized RX2, .code yX2_find cX2_find 2 (some (.object "BellowsRound$Smithy")), .fieldLink RX2 37 "BellowsRound$State" "smithyCount" "I", .fieldLink RX2 11 "BellowsRound$State" "smithies" "[LBellowsRound$Smithy;", .methodLink RX2 116 yX2_isCold, .instanceMethod yX2_isCold, .selects RX2 yX2_isCold yX2_isCold, .code yX2_isCold cX2_isCold 2 (some .boolean), .fieldLink RX2 17 "BellowsRound$State" "cold" "I"] ++ wsX10 ++ wsX20)
def wsX3_wearBehindDay : List Cond := .code yX3_wearBehindDay cX3_wearBehindDay 2 (some .int) :: ([.methodLink RX3 243 Lib.Math.min.name, .static Lib.Math.min.name, .initialized "java/lang/Math", .code Lib.Math.min.name Lib.Math.min.code 2 (some .int)])
def wsX3_leakOf : List Cond := .code yX3_leakOf cX3_leakOf 1 (some .int) :: ([])
def wsX3_heatBehindDay : List Cond := .code yX3_heatBehindDay cX3_heatBehindDay 3 (some .int) :: ([.methodLink RX3 243 Lib.Math.min.name, .static Lib.Math.min.name, .initialized "java/lang/Math", .code Lib.Math.min.name Lib.Math.min.code 2 (some .int), .methodLink RX3 248 Lib.Math.max.name, .static Lib.Math.max.name, .code Lib.Math.max.name Lib.Math.max.code 2 (some .int), .methodLink RX3 78 yX3_leakOf, .static yX3_leakOf, .initialized RX3, .code yX3_leakOf cX3_leakOf 1 (some .int)])
def wsX2_endDayOf_r1 : List Cond := [Cond.fieldLink RX2 106 "BellowsRound$Smithy" "wear" "I", Cond.fieldLink RX2 135 "BellowsRound$Smithy" "size" "I", Cond.fieldLink RX2 113 "BellowsRound$Smithy" "heat" "I", Cond.fieldLink RX2 144 "BellowsRound$Smithy" "coldDays" "I", Cond.fieldLink RX2 55 "BellowsRound$State" "longestCold" "I", Cond.methodLink RX2 147 Lib.Math.max.name, Cond.static Lib.Math.max.name, Cond.initialized "java/lang/Math", Cond.code Lib.Math.max.name Lib.Math.max.code 2 (some .int), Cond.static yX3_wearBehindDay, Cond.initialized RX3, Cond.code yX3_wearBehindDay cX3_wearBehindDay 2 (some .int), Cond.methodLink RX3 243 Lib.Math.min.name, Cond.static Lib.Math.min.name, Cond.code Lib.Math.min.name Lib.Math.min.code 2 (some .int), Cond.static yX3_heatBehindDay, Cond.code yX3_heatBehindDay cX3_heatBehindDay 3 (some .int), Cond.methodLink RX3 248 Lib.Math.max.name, Cond.methodLink RX3 78 yX3_leakOf, Cond.static yX3_leakOf, Cond.code yX3_leakOf cX3_leakOf 1 (some .int), Cond.methodLink RX2 116 yX2_isCold, Cond.instanceMethod yX2_isCold, Cond.selects RX2 yX2_isCold yX2_isCold]
def wsX2_endDayOf_r2 : List Cond := [Cond.initialized RX2, Cond.code yX2_isCold cX2_isCold 2 (some .boolean), Cond.fieldLink RX2 17 "BellowsRound$State" "cold" "I"]
def wsX2_endDayOf : List Cond := .code yX2_endDayOf cX2_endDayOf 2 none :: ((wsX2_endDayOf_r1 ++ wsX2_endDayOf_r2) ++ wsX10 ++ wsX20)
def wsX2_coldSet : List Cond := .code yX2_coldSet cX2_coldSet 4 (some .int) :: ([.fieldLink RX2 37 "BellowsRound$State" "smithyCount" "I", .fieldLink RX2 113 "BellowsRound$Smithy" "heat" "I", .methodLink RX2 61 yX2_find, .instanceMethod yX2_find, .selects RX2 yX2_find yX2_find, .initialized RX2, .code yX2_find cX2_find 2 (some (.object "BellowsRound$Smithy")), .fieldLink RX2 11 "BellowsRound$State" "smithies" "[LBellowsRound$Smithy;", .methodLink RX2 116 yX2_isCold, .instanceMethod yX2_isCold, .selects RX2 yX2_isCold yX2_isCold, .code yX2_isCold cX2_isCold 2 (some .boolean), .fieldLink RX2 17 "BellowsRound$State" "cold" "I"] ++ wsX20 ++ wsX10)
def wsJ6_bitCount_0f7a4 : List Cond := .code yJ6_bitCount_0f7a4 cJ6_bitCount_0f7a4 1 (some .int) :: ([.constant RJ6 265 (1431655765), .constant RJ6 266 (858993459), .constant RJ6 267 (252645135)])
def wsX2_endDays_r1 : List Cond := [Cond.constant RX2 69 (-1000000001), Cond.fieldLink RX2 40 "BellowsRound$State" "day" "I", Cond.constant RX2 70 (-1000000003), Cond.fieldLink RX2 37 "BellowsRound$State" "smithyCount" "I", Cond.fieldLink RX2 21 "BellowsRound$State" "hours" "I", Cond.fieldLink RX2 30 "BellowsRound$State" "hoursLeft" "I", Cond.methodLink RX2 61 yX2_find, Cond.instanceMethod yX2_find, Cond.selects RX2 yX2_find yX2_find, Cond.initialized RX2, Cond.code yX2_find cX2_find 2 (some (.object "BellowsRound$Smithy")), Cond.fieldLink RX2 11 "BellowsRound$State" "smithies" "[LBellowsRound$Smithy;", Cond.methodLink RX2 123 yX2_endDayOf, Cond.instanceMethod yX2_endDayOf, Cond.selects RX2 yX2_endDayOf yX2_endDayOf, Cond.code yX2_endDayOf cX2_endDayOf 2 none, Cond.fieldLink RX2 106 "BellowsRound$Smithy" "wear" "I", Cond.fieldLink RX2 135 "BellowsRound$Smithy" "size" "I", Cond.fieldLink RX2 113 "BellowsRound$Smithy" "heat" "I", Cond.fieldLink RX2 144 "BellowsRound$Smithy" "coldDays" "I", Cond.fieldLink RX2 55 "BellowsRound$State" "longestCold" "I", Cond.methodLink RX2 147 Lib.Math.max.name, Cond.static Lib.Math.max.name, Cond.initialized "java/lang/Math"]
def wsX2_endDays_r2 : List Cond := [Cond.code Lib.Math.max.name Lib.Math.max.code 2 (some .int), Cond.static yX3_wearBehindDay, Cond.initialized RX3, Cond.code yX3_wearBehindDay cX3_wearBehindDay 2 (some .int), Cond.methodLink RX3 243 Lib.Math.min.name, Cond.static Lib.Math.min.name, Cond.code Lib.Math.min.name Lib.Math.min.code 2 (some .int), Cond.static yX3_heatBehindDay, Cond.code yX3_heatBehindDay cX3_heatBehindDay 3 (some .int), Cond.methodLink RX3 248 Lib.Math.max.name, Cond.methodLink RX3 78 yX3_leakOf, Cond.static yX3_leakOf, Cond.code yX3_leakOf cX3_leakOf 1 (some .int), Cond.methodLink RX2 116 yX2_isCold, Cond.instanceMethod yX2_isCold, Cond.selects RX2 yX2_isCold yX2_isCold, Cond.code yX2_isCold cX2_isCold 2 (some .boolean), Cond.fieldLink RX2 17 "BellowsRound$State" "cold" "I", Cond.methodLink RX2 126 yX2_coldSet, Cond.instanceMethod yX2_coldSet, Cond.selects RX2 yX2_coldSet yX2_coldSet, Cond.code yX2_coldSet cX2_coldSet 4 (some .int), Cond.methodLink RX2 130 yJ6_bitCount_0f7a4, Cond.static yJ6_bitCount_0f7a4]
def wsX2_endDays_r3 : List Cond := [Cond.initialized RJ6, Cond.code yJ6_bitCount_0f7a4 cJ6_bitCount_0f7a4 1 (some .int), Cond.constant RJ6 265 (1431655765), Cond.constant RJ6 266 (858993459), Cond.constant RJ6 267 (252645135)]
def wsX2_endDays : List Cond := .code yX2_endDays cX2_endDays 5 (some .int) :: ((wsX2_endDays_r1 ++ (wsX2_endDays_r2 ++ wsX2_endDays_r3)) ++ wsX20 ++ wsX10)
def wsX2_isInRange : List Cond := .code yX2_isInRange cX2_isInRange 2 (some .boolean) :: ([])
def wsX2_changeSetting : List Cond := .code yX2_changeSetting cX2_changeSetting 4 (some .int) :: ([.constant RX2 69 (-1000000001), .fieldLink RX2 17 "BellowsRound$State" "cold" "I", .fieldLink RX2 21 "BellowsRound$State" "hours" "I", .fieldLink RX2 24 "BellowsRound$State" "rate" "I", .fieldLink RX2 27 "BellowsRound$State" "patience" "I", .methodLink RX2 150 yX2_isInRange, .static yX2_isInRange, .initialized RX2, .code yX2_isInRange cX2_isInRange 2 (some .boolean)] ++ wsX20)
def wsX2_debtsTogether : List Cond := .code yX2_debtsTogether cX2_debtsTogether 4 (some .int) :: ([.fieldLink RX2 37 "BellowsRound$State" "smithyCount" "I", .fieldLink RX2 100 "BellowsRound$Smithy" "debt" "I", .methodLink RX2 61 yX2_find, .instanceMethod yX2_find, .selects RX2 yX2_find yX2_find, .initialized RX2, .code yX2_find cX2_find 2 (some (.object "BellowsRound$Smithy")), .fieldLink RX2 11 "BellowsRound$State" "smithies" "[LBellowsRound$Smithy;"] ++ wsX20 ++ wsX10)
def wsX3_init_r1 : List Cond := [Cond.methodLink RX3 3 objectInit, Cond.instanceMethod objectInit, Cond.code objectInit ⟨#[0xb1]⟩ 1 none, Cond.classLink RX3 9 RX2, Cond.instantiable RX2 15, Cond.initialized RX2, Cond.fieldLink RX3 12 "BellowsRound" "now" "LBellowsRound$State;", Cond.fieldLink RX3 16 "BellowsRound" "trial" "LBellowsRound$State;", Cond.fieldLink RX3 19 "BellowsRound" "history" "[LBellowsRound$State;", Cond.classLink RX3 23 RX0, Cond.instantiable RX0 6, Cond.initialized RX0, Cond.fieldLink RX3 26 "BellowsRound" "text" "LBellowsRound$OrderText;", Cond.methodLink RX3 11 yX2_init, Cond.instanceMethod yX2_init, Cond.code yX2_init cX2_init 2 none, Cond.methodLink RX2 3 objectInit, Cond.classLink RX2 9 RX1, Cond.fieldLink RX2 11 "BellowsRound$State" "smithies" "[LBellowsRound$Smithy;", Cond.fieldLink RX2 17 "BellowsRound$State" "cold" "I", Cond.fieldLink RX2 21 "BellowsRound$State" "hours" "I", Cond.fieldLink RX2 24 "BellowsRound$State" "rate" "I", Cond.fieldLink RX2 27 "BellowsRound$State" "patience" "I", Cond.fieldLink RX2 30 "BellowsRound$State" "hoursLeft" "I"]
def wsX3_init_r2 : List Cond := [Cond.fieldLink RX2 33 "BellowsRound$State" "money" "I", Cond.instantiable RX1 8, Cond.initialized RX1, Cond.instanceMethod yX1_init, Cond.code yX1_init cX1_init 1 none, Cond.methodLink RX1 3 objectInit, Cond.instanceMethod yX0_init, Cond.code yX0_init cX0_init 1 none, Cond.methodLink RX0 3 objectInit, Cond.arrayClass .char, Cond.fieldLink RX0 9 "BellowsRound$OrderText" "characters" "[C"]
def wsX3_init : List Cond := .code yX3_init cX3_init 2 none :: ((wsX3_init_r1 ++ wsX3_init_r2) ++ wsX20 ++ wsX30 ++ wsX00 ++ wsX10)
def wsX3_dropOldestState : List Cond := .code yX3_dropOldestState cX3_dropOldestState 3 none :: ([.fieldLink RX3 19 "BellowsRound" "history" "[LBellowsRound$State;", .fieldLink RX3 176 "BellowsRound" "states" "I"] ++ wsX30)
def wsX3_remember_r1 : List Cond := [Cond.fieldLink RX3 176 "BellowsRound" "states" "I", Cond.fieldLink RX3 19 "BellowsRound" "history" "[LBellowsRound$State;", Cond.fieldLink RX3 12 "BellowsRound" "now" "LBellowsRound$State;", Cond.methodLink RX3 218 yX3_dropOldestState, Cond.instanceMethod yX3_dropOldestState, Cond.selects RX3 yX3_dropOldestState yX3_dropOldestState, Cond.initialized RX3, Cond.code yX3_dropOldestState cX3_dropOldestState 3 none, Cond.methodLink RX3 30 yX2_copyFrom, Cond.instanceMethod yX2_copyFrom, Cond.selects RX2 yX2_copyFrom yX2_copyFrom, Cond.initialized RX2, Cond.code yX2_copyFrom cX2_copyFrom 5 none, Cond.fieldLink RX2 37 "BellowsRound$State" "smithyCount" "I", Cond.fieldLink RX2 17 "BellowsRound$State" "cold" "I", Cond.fieldLink RX2 21 "BellowsRound$State" "hours" "I", Cond.fieldLink RX2 24 "BellowsRound$State" "rate" "I", Cond.fieldLink RX2 27 "BellowsRound$State" "patience" "I", Cond.fieldLink RX2 40 "BellowsRound$State" "day" "I", Cond.fieldLink RX2 43 "BellowsRound$State" "mile" "I", Cond.fieldLink RX2 30 "BellowsRound$State" "hoursLeft" "I", Cond.fieldLink RX2 46 "BellowsRound$State" "leather" "I", Cond.fieldLink RX2 33 "BellowsRound$State" "money" "I", Cond.fieldLink RX2 49 "BellowsRound$State" "paidForLeather" "I"]
def wsX3_remember_r2 : List Cond := [Cond.fieldLink RX2 52 "BellowsRound$State" "owedForMends" "I", Cond.fieldLink RX2 55 "BellowsRound$State" "longestCold" "I", Cond.fieldLink RX2 58 "BellowsRound$State" "milesWalked" "I", Cond.methodLink RX2 61 yX2_find, Cond.instanceMethod yX2_find, Cond.selects RX2 yX2_find yX2_find, Cond.code yX2_find cX2_find 2 (some (.object "BellowsRound$Smithy")), Cond.fieldLink RX2 11 "BellowsRound$State" "smithies" "[LBellowsRound$Smithy;", Cond.methodLink RX2 65 yX1_copyFrom, Cond.instanceMethod yX1_copyFrom, Cond.selects RX1 yX1_copyFrom yX1_copyFrom, Cond.initialized RX1, Cond.code yX1_copyFrom cX1_copyFrom 2 none, Cond.fieldLink RX1 9 "BellowsRound$Smithy" "mile" "I", Cond.fieldLink RX1 15 "BellowsRound$Smithy" "size" "I", Cond.fieldLink RX1 18 "BellowsRound$Smithy" "wear" "I", Cond.fieldLink RX1 21 "BellowsRound$Smithy" "heat" "I", Cond.fieldLink RX1 24 "BellowsRound$Smithy" "coldDays" "I", Cond.fieldLink RX1 27 "BellowsRound$Smithy" "debt" "I", Cond.fieldLink RX1 30 "BellowsRound$Smithy" "paid" "I", Cond.fieldLink RX1 33 "BellowsRound$Smithy" "mends" "I"]
def wsX3_remember : List Cond := .code yX3_remember cX3_remember 2 none :: ((wsX3_remember_r1 ++ wsX3_remember_r2) ++ wsX30 ++ wsX20 ++ wsX10)
def wsX3_commit_r1 : List Cond := [Cond.fieldLink RX3 12 "BellowsRound" "now" "LBellowsRound$State;", Cond.fieldLink RX3 16 "BellowsRound" "trial" "LBellowsRound$State;", Cond.methodLink RX3 215 yX3_remember, Cond.instanceMethod yX3_remember, Cond.selects RX3 yX3_remember yX3_remember, Cond.initialized RX3, Cond.code yX3_remember cX3_remember 2 none, Cond.fieldLink RX3 176 "BellowsRound" "states" "I", Cond.fieldLink RX3 19 "BellowsRound" "history" "[LBellowsRound$State;", Cond.methodLink RX3 218 yX3_dropOldestState, Cond.instanceMethod yX3_dropOldestState, Cond.selects RX3 yX3_dropOldestState yX3_dropOldestState, Cond.code yX3_dropOldestState cX3_dropOldestState 3 none, Cond.methodLink RX3 30 yX2_copyFrom, Cond.instanceMethod yX2_copyFrom, Cond.selects RX2 yX2_copyFrom yX2_copyFrom, Cond.initialized RX2, Cond.code yX2_copyFrom cX2_copyFrom 5 none, Cond.fieldLink RX2 37 "BellowsRound$State" "smithyCount" "I", Cond.fieldLink RX2 17 "BellowsRound$State" "cold" "I", Cond.fieldLink RX2 21 "BellowsRound$State" "hours" "I", Cond.fieldLink RX2 24 "BellowsRound$State" "rate" "I", Cond.fieldLink RX2 27 "BellowsRound$State" "patience" "I", Cond.fieldLink RX2 40 "BellowsRound$State" "day" "I"]
def wsX3_commit_r2 : List Cond := [Cond.fieldLink RX2 43 "BellowsRound$State" "mile" "I", Cond.fieldLink RX2 30 "BellowsRound$State" "hoursLeft" "I", Cond.fieldLink RX2 46 "BellowsRound$State" "leather" "I", Cond.fieldLink RX2 33 "BellowsRound$State" "money" "I", Cond.fieldLink RX2 49 "BellowsRound$State" "paidForLeather" "I", Cond.fieldLink RX2 52 "BellowsRound$State" "owedForMends" "I", Cond.fieldLink RX2 55 "BellowsRound$State" "longestCold" "I", Cond.fieldLink RX2 58 "BellowsRound$State" "milesWalked" "I", Cond.methodLink RX2 61 yX2_find, Cond.instanceMethod yX2_find, Cond.selects RX2 yX2_find yX2_find, Cond.code yX2_find cX2_find 2 (some (.object "BellowsRound$Smithy")), Cond.fieldLink RX2 11 "BellowsRound$State" "smithies" "[LBellowsRound$Smithy;", Cond.methodLink RX2 65 yX1_copyFrom, Cond.instanceMethod yX1_copyFrom, Cond.selects RX1 yX1_copyFrom yX1_copyFrom, Cond.initialized RX1, Cond.code yX1_copyFrom cX1_copyFrom 2 none, Cond.fieldLink RX1 9 "BellowsRound$Smithy" "mile" "I", Cond.fieldLink RX1 15 "BellowsRound$Smithy" "size" "I", Cond.fieldLink RX1 18 "BellowsRound$Smithy" "wear" "I", Cond.fieldLink RX1 21 "BellowsRound$Smithy" "heat" "I", Cond.fieldLink RX1 24 "BellowsRound$Smithy" "coldDays" "I", Cond.fieldLink RX1 27 "BellowsRound$Smithy" "debt" "I"]
def wsX3_commit_r3 : List Cond := [Cond.fieldLink RX1 30 "BellowsRound$Smithy" "paid" "I", Cond.fieldLink RX1 33 "BellowsRound$Smithy" "mends" "I"]
def wsX3_commit : List Cond := .code yX3_commit cX3_commit 3 (some .int) :: ((wsX3_commit_r1 ++ (wsX3_commit_r2 ++ wsX3_commit_r3)) ++ wsX30 ++ wsX20 ++ wsX10)
def wsX3_smithy_r1 : List Cond := [Cond.fieldLink RX3 16 "BellowsRound" "trial" "LBellowsRound$State;", Cond.fieldLink RX3 12 "BellowsRound" "now" "LBellowsRound$State;", Cond.methodLink RX3 30 yX2_copyFrom, Cond.instanceMethod yX2_copyFrom, Cond.selects RX2 yX2_copyFrom yX2_copyFrom, Cond.initialized RX2, Cond.code yX2_copyFrom cX2_copyFrom 5 none, Cond.fieldLink RX2 37 "BellowsRound$State" "smithyCount" "I", Cond.fieldLink RX2 17 "BellowsRound$State" "cold" "I", Cond.fieldLink RX2 21 "BellowsRound$State" "hours" "I", Cond.fieldLink RX2 24 "BellowsRound$State" "rate" "I", Cond.fieldLink RX2 27 "BellowsRound$State" "patience" "I", Cond.fieldLink RX2 40 "BellowsRound$State" "day" "I", Cond.fieldLink RX2 43 "BellowsRound$State" "mile" "I", Cond.fieldLink RX2 30 "BellowsRound$State" "hoursLeft" "I", Cond.fieldLink RX2 46 "BellowsRound$State" "leather" "I", Cond.fieldLink RX2 33 "BellowsRound$State" "money" "I", Cond.fieldLink RX2 49 "BellowsRound$State" "paidForLeather" "I", Cond.fieldLink RX2 52 "BellowsRound$State" "owedForMends" "I", Cond.fieldLink RX2 55 "BellowsRound$State" "longestCold" "I", Cond.fieldLink RX2 58 "BellowsRound$State" "milesWalked" "I", Cond.methodLink RX2 61 yX2_find, Cond.instanceMethod yX2_find, Cond.selects RX2 yX2_find yX2_find]
def wsX3_smithy_r2 : List Cond := [Cond.code yX2_find cX2_find 2 (some (.object "BellowsRound$Smithy")), Cond.fieldLink RX2 11 "BellowsRound$State" "smithies" "[LBellowsRound$Smithy;", Cond.methodLink RX2 65 yX1_copyFrom, Cond.instanceMethod yX1_copyFrom, Cond.selects RX1 yX1_copyFrom yX1_copyFrom, Cond.initialized RX1, Cond.code yX1_copyFrom cX1_copyFrom 2 none, Cond.fieldLink RX1 9 "BellowsRound$Smithy" "mile" "I", Cond.fieldLink RX1 15 "BellowsRound$Smithy" "size" "I", Cond.fieldLink RX1 18 "BellowsRound$Smithy" "wear" "I", Cond.fieldLink RX1 21 "BellowsRound$Smithy" "heat" "I", Cond.fieldLink RX1 24 "BellowsRound$Smithy" "coldDays" "I", Cond.fieldLink RX1 27 "BellowsRound$Smithy" "debt" "I", Cond.fieldLink RX1 30 "BellowsRound$Smithy" "paid" "I", Cond.fieldLink RX1 33 "BellowsRound$Smithy" "mends" "I", Cond.methodLink RX3 34 yX2_addSmithy, Cond.instanceMethod yX2_addSmithy, Cond.selects RX2 yX2_addSmithy yX2_addSmithy, Cond.code yX2_addSmithy cX2_addSmithy 5 (some .int), Cond.constant RX2 69 (-1000000001), Cond.constant RX2 70 (-1000000003), Cond.methodLink RX2 71 yX1_beginAt, Cond.instanceMethod yX1_beginAt, Cond.selects RX1 yX1_beginAt yX1_beginAt]
def wsX3_smithy_r3 : List Cond := [Cond.code yX1_beginAt cX1_beginAt 3 none, Cond.methodLink RX3 38 yX3_commit, Cond.instanceMethod yX3_commit, Cond.selects RX3 yX3_commit yX3_commit, Cond.initialized RX3, Cond.code yX3_commit cX3_commit 3 (some .int), Cond.methodLink RX3 215 yX3_remember, Cond.instanceMethod yX3_remember, Cond.selects RX3 yX3_remember yX3_remember, Cond.code yX3_remember cX3_remember 2 none, Cond.fieldLink RX3 176 "BellowsRound" "states" "I", Cond.fieldLink RX3 19 "BellowsRound" "history" "[LBellowsRound$State;", Cond.methodLink RX3 218 yX3_dropOldestState, Cond.instanceMethod yX3_dropOldestState, Cond.selects RX3 yX3_dropOldestState yX3_dropOldestState, Cond.code yX3_dropOldestState cX3_dropOldestState 3 none]
def wsX3_smithy : List Cond := .code yX3_smithy cX3_smithy 3 (some .int) :: ((wsX3_smithy_r1 ++ (wsX3_smithy_r2 ++ wsX3_smithy_r3)) ++ wsX30 ++ wsX20 ++ wsX10)
def wsX3_walk_r1 : List Cond := [Cond.fieldLink RX3 16 "BellowsRound" "trial" "LBellowsRound$State;", Cond.fieldLink RX3 12 "BellowsRound" "now" "LBellowsRound$State;", Cond.methodLink RX3 30 yX2_copyFrom, Cond.instanceMethod yX2_copyFrom, Cond.selects RX2 yX2_copyFrom yX2_copyFrom, Cond.initialized RX2, Cond.code yX2_copyFrom cX2_copyFrom 5 none, Cond.fieldLink RX2 37 "BellowsRound$State" "smithyCount" "I", Cond.fieldLink RX2 17 "BellowsRound$State" "cold" "I", Cond.fieldLink RX2 21 "BellowsRound$State" "hours" "I", Cond.fieldLink RX2 24 "BellowsRound$State" "rate" "I", Cond.fieldLink RX2 27 "BellowsRound$State" "patience" "I", Cond.fieldLink RX2 40 "BellowsRound$State" "day" "I", Cond.fieldLink RX2 43 "BellowsRound$State" "mile" "I", Cond.fieldLink RX2 30 "BellowsRound$State" "hoursLeft" "I", Cond.fieldLink RX2 46 "BellowsRound$State" "leather" "I", Cond.fieldLink RX2 33 "BellowsRound$State" "money" "I", Cond.fieldLink RX2 49 "BellowsRound$State" "paidForLeather" "I", Cond.fieldLink RX2 52 "BellowsRound$State" "owedForMends" "I", Cond.fieldLink RX2 55 "BellowsRound$State" "longestCold" "I", Cond.fieldLink RX2 58 "BellowsRound$State" "milesWalked" "I", Cond.methodLink RX2 61 yX2_find, Cond.instanceMethod yX2_find, Cond.selects RX2 yX2_find yX2_find]
def wsX3_walk_r2 : List Cond := [Cond.code yX2_find cX2_find 2 (some (.object "BellowsRound$Smithy")), Cond.fieldLink RX2 11 "BellowsRound$State" "smithies" "[LBellowsRound$Smithy;", Cond.methodLink RX2 65 yX1_copyFrom, Cond.instanceMethod yX1_copyFrom, Cond.selects RX1 yX1_copyFrom yX1_copyFrom, Cond.initialized RX1, Cond.code yX1_copyFrom cX1_copyFrom 2 none, Cond.fieldLink RX1 9 "BellowsRound$Smithy" "mile" "I", Cond.fieldLink RX1 15 "BellowsRound$Smithy" "size" "I", Cond.fieldLink RX1 18 "BellowsRound$Smithy" "wear" "I", Cond.fieldLink RX1 21 "BellowsRound$Smithy" "heat" "I", Cond.fieldLink RX1 24 "BellowsRound$Smithy" "coldDays" "I", Cond.fieldLink RX1 27 "BellowsRound$Smithy" "debt" "I", Cond.fieldLink RX1 30 "BellowsRound$Smithy" "paid" "I", Cond.fieldLink RX1 33 "BellowsRound$Smithy" "mends" "I", Cond.methodLink RX3 42 yX2_walkTo, Cond.instanceMethod yX2_walkTo, Cond.selects RX2 yX2_walkTo yX2_walkTo, Cond.code yX2_walkTo cX2_walkTo 3 (some .int), Cond.constant RX2 69 (-1000000001), Cond.constant RX2 79 (-1000000002), Cond.methodLink RX2 80 Lib.Math.abs.name, Cond.static Lib.Math.abs.name, Cond.initialized "java/lang/Math"]
def wsX3_walk_r3 : List Cond := [Cond.code Lib.Math.abs.name Lib.Math.abs.code 1 (some .int), Cond.static yX3_hoursOfWay, Cond.initialized RX3, Cond.code yX3_hoursOfWay cX3_hoursOfWay 2 (some .int), Cond.methodLink RX3 251 Lib.Math.abs.name, Cond.methodLink RX3 254 yX3_tensBegun, Cond.static yX3_tensBegun, Cond.code yX3_tensBegun cX3_tensBegun 1 (some .int), Cond.methodLink RX3 38 yX3_commit, Cond.instanceMethod yX3_commit, Cond.selects RX3 yX3_commit yX3_commit, Cond.code yX3_commit cX3_commit 3 (some .int), Cond.methodLink RX3 215 yX3_remember, Cond.instanceMethod yX3_remember, Cond.selects RX3 yX3_remember yX3_remember, Cond.code yX3_remember cX3_remember 2 none, Cond.fieldLink RX3 176 "BellowsRound" "states" "I", Cond.fieldLink RX3 19 "BellowsRound" "history" "[LBellowsRound$State;", Cond.methodLink RX3 218 yX3_dropOldestState, Cond.instanceMethod yX3_dropOldestState, Cond.selects RX3 yX3_dropOldestState yX3_dropOldestState, Cond.code yX3_dropOldestState cX3_dropOldestState 3 none]
def wsX3_walk : List Cond := .code yX3_walk cX3_walk 2 (some .int) :: ((wsX3_walk_r1 ++ (wsX3_walk_r2 ++ wsX3_walk_r3)) ++ wsX30 ++ wsX20 ++ wsX10)
def wsX3_buy_r1 : List Cond := [Cond.fieldLink RX3 16 "BellowsRound" "trial" "LBellowsRound$State;", Cond.fieldLink RX3 12 "BellowsRound" "now" "LBellowsRound$State;", Cond.methodLink RX3 30 yX2_copyFrom, Cond.instanceMethod yX2_copyFrom, Cond.selects RX2 yX2_copyFrom yX2_copyFrom, Cond.initialized RX2, Cond.code yX2_copyFrom cX2_copyFrom 5 none, Cond.fieldLink RX2 37 "BellowsRound$State" "smithyCount" "I", Cond.fieldLink RX2 17 "BellowsRound$State" "cold" "I", Cond.fieldLink RX2 21 "BellowsRound$State" "hours" "I", Cond.fieldLink RX2 24 "BellowsRound$State" "rate" "I", Cond.fieldLink RX2 27 "BellowsRound$State" "patience" "I", Cond.fieldLink RX2 40 "BellowsRound$State" "day" "I", Cond.fieldLink RX2 43 "BellowsRound$State" "mile" "I", Cond.fieldLink RX2 30 "BellowsRound$State" "hoursLeft" "I", Cond.fieldLink RX2 46 "BellowsRound$State" "leather" "I", Cond.fieldLink RX2 33 "BellowsRound$State" "money" "I", Cond.fieldLink RX2 49 "BellowsRound$State" "paidForLeather" "I", Cond.fieldLink RX2 52 "BellowsRound$State" "owedForMends" "I", Cond.fieldLink RX2 55 "BellowsRound$State" "longestCold" "I", Cond.fieldLink RX2 58 "BellowsRound$State" "milesWalked" "I", Cond.methodLink RX2 61 yX2_find, Cond.instanceMethod yX2_find, Cond.selects RX2 yX2_find yX2_find]
def wsX3_buy_r2 : List Cond := [Cond.code yX2_find cX2_find 2 (some (.object "BellowsRound$Smithy")), Cond.fieldLink RX2 11 "BellowsRound$State" "smithies" "[LBellowsRound$Smithy;", Cond.methodLink RX2 65 yX1_copyFrom, Cond.instanceMethod yX1_copyFrom, Cond.selects RX1 yX1_copyFrom yX1_copyFrom, Cond.initialized RX1, Cond.code yX1_copyFrom cX1_copyFrom 2 none, Cond.fieldLink RX1 9 "BellowsRound$Smithy" "mile" "I", Cond.fieldLink RX1 15 "BellowsRound$Smithy" "size" "I", Cond.fieldLink RX1 18 "BellowsRound$Smithy" "wear" "I", Cond.fieldLink RX1 21 "BellowsRound$Smithy" "heat" "I", Cond.fieldLink RX1 24 "BellowsRound$Smithy" "coldDays" "I", Cond.fieldLink RX1 27 "BellowsRound$Smithy" "debt" "I", Cond.fieldLink RX1 30 "BellowsRound$Smithy" "paid" "I", Cond.fieldLink RX1 33 "BellowsRound$Smithy" "mends" "I", Cond.methodLink RX3 45 yX2_buyLeather, Cond.instanceMethod yX2_buyLeather, Cond.selects RX2 yX2_buyLeather yX2_buyLeather, Cond.code yX2_buyLeather cX2_buyLeather 3 (some .int), Cond.constant RX2 69 (-1000000001), Cond.constant RX2 79 (-1000000002), Cond.constant RX2 70 (-1000000003), Cond.methodLink RX3 38 yX3_commit, Cond.instanceMethod yX3_commit]
def wsX3_buy_r3 : List Cond := [Cond.selects RX3 yX3_commit yX3_commit, Cond.initialized RX3, Cond.code yX3_commit cX3_commit 3 (some .int), Cond.methodLink RX3 215 yX3_remember, Cond.instanceMethod yX3_remember, Cond.selects RX3 yX3_remember yX3_remember, Cond.code yX3_remember cX3_remember 2 none, Cond.fieldLink RX3 176 "BellowsRound" "states" "I", Cond.fieldLink RX3 19 "BellowsRound" "history" "[LBellowsRound$State;", Cond.methodLink RX3 218 yX3_dropOldestState, Cond.instanceMethod yX3_dropOldestState, Cond.selects RX3 yX3_dropOldestState yX3_dropOldestState, Cond.code yX3_dropOldestState cX3_dropOldestState 3 none]
def wsX3_buy : List Cond := .code yX3_buy cX3_buy 2 (some .int) :: ((wsX3_buy_r1 ++ (wsX3_buy_r2 ++ wsX3_buy_r3)) ++ wsX30 ++ wsX20 ++ wsX10)
def wsX3_patch_r1 : List Cond := [Cond.fieldLink RX3 16 "BellowsRound" "trial" "LBellowsRound$State;", Cond.fieldLink RX3 12 "BellowsRound" "now" "LBellowsRound$State;", Cond.methodLink RX3 30 yX2_copyFrom, Cond.instanceMethod yX2_copyFrom, Cond.selects RX2 yX2_copyFrom yX2_copyFrom, Cond.initialized RX2, Cond.code yX2_copyFrom cX2_copyFrom 5 none, Cond.fieldLink RX2 37 "BellowsRound$State" "smithyCount" "I", Cond.fieldLink RX2 17 "BellowsRound$State" "cold" "I", Cond.fieldLink RX2 21 "BellowsRound$State" "hours" "I", Cond.fieldLink RX2 24 "BellowsRound$State" "rate" "I", Cond.fieldLink RX2 27 "BellowsRound$State" "patience" "I", Cond.fieldLink RX2 40 "BellowsRound$State" "day" "I", Cond.fieldLink RX2 43 "BellowsRound$State" "mile" "I", Cond.fieldLink RX2 30 "BellowsRound$State" "hoursLeft" "I", Cond.fieldLink RX2 46 "BellowsRound$State" "leather" "I", Cond.fieldLink RX2 33 "BellowsRound$State" "money" "I", Cond.fieldLink RX2 49 "BellowsRound$State" "paidForLeather" "I", Cond.fieldLink RX2 52 "BellowsRound$State" "owedForMends" "I", Cond.fieldLink RX2 55 "BellowsRound$State" "longestCold" "I", Cond.fieldLink RX2 58 "BellowsRound$State" "milesWalked" "I", Cond.methodLink RX2 61 yX2_find, Cond.instanceMethod yX2_find, Cond.selects RX2 yX2_find yX2_find]
def wsX3_patch_r2 : List Cond := [Cond.code yX2_find cX2_find 2 (some (.object "BellowsRound$Smithy")), Cond.fieldLink RX2 11 "BellowsRound$State" "smithies" "[LBellowsRound$Smithy;", Cond.methodLink RX2 65 yX1_copyFrom, Cond.instanceMethod yX1_copyFrom, Cond.selects RX1 yX1_copyFrom yX1_copyFrom, Cond.initialized RX1, Cond.code yX1_copyFrom cX1_copyFrom 2 none, Cond.fieldLink RX1 9 "BellowsRound$Smithy" "mile" "I", Cond.fieldLink RX1 15 "BellowsRound$Smithy" "size" "I", Cond.fieldLink RX1 18 "BellowsRound$Smithy" "wear" "I", Cond.fieldLink RX1 21 "BellowsRound$Smithy" "heat" "I", Cond.fieldLink RX1 24 "BellowsRound$Smithy" "coldDays" "I", Cond.fieldLink RX1 27 "BellowsRound$Smithy" "debt" "I", Cond.fieldLink RX1 30 "BellowsRound$Smithy" "paid" "I", Cond.fieldLink RX1 33 "BellowsRound$Smithy" "mends" "I", Cond.methodLink RX3 48 yX2_mendBellows, Cond.instanceMethod yX2_mendBellows, Cond.selects RX2 yX2_mendBellows yX2_mendBellows, Cond.code yX2_mendBellows cX2_mendBellows 5 (some .int), Cond.constant RX2 69 (-1000000001), Cond.constant RX2 79 (-1000000002), Cond.fieldLink RX2 100 "BellowsRound$Smithy" "debt" "I", Cond.fieldLink RX2 106 "BellowsRound$Smithy" "wear" "I", Cond.fieldLink RX2 109 "BellowsRound$Smithy" "mends" "I"]
def wsX3_patch_r3 : List Cond := [Cond.methodLink RX2 86 yX2_reasonAgainst, Cond.instanceMethod yX2_reasonAgainst, Cond.selects RX2 yX2_reasonAgainst yX2_reasonAgainst, Cond.code yX2_reasonAgainst cX2_reasonAgainst 3 (some .int), Cond.fieldLink RX2 112 "BellowsRound$Smithy" "mile" "I", Cond.static yX3_hoursOfMend, Cond.initialized RX3, Cond.code yX3_hoursOfMend cX3_hoursOfMend 1 (some .int), Cond.methodLink RX2 97 yX1_leatherOfMend, Cond.instanceMethod yX1_leatherOfMend, Cond.selects RX1 yX1_leatherOfMend yX1_leatherOfMend, Cond.code yX1_leatherOfMend cX1_leatherOfMend 2 (some .int), Cond.static yX3_tensBegun, Cond.code yX3_tensBegun cX3_tensBegun 1 (some .int), Cond.methodLink RX2 170 yX2_reasonOfSmithy, Cond.instanceMethod yX2_reasonOfSmithy, Cond.selects RX2 yX2_reasonOfSmithy yX2_reasonOfSmithy, Cond.code yX2_reasonOfSmithy cX2_reasonOfSmithy 2 (some .int), Cond.methodLink RX2 90 yX2_priceOfMend, Cond.instanceMethod yX2_priceOfMend, Cond.selects RX2 yX2_priceOfMend yX2_priceOfMend, Cond.code yX2_priceOfMend cX2_priceOfMend 3 (some .int), Cond.methodLink RX2 103 yX1_wearBehindMend, Cond.instanceMethod yX1_wearBehindMend]
def wsX3_patch_r4 : List Cond := [Cond.selects RX1 yX1_wearBehindMend yX1_wearBehindMend, Cond.code yX1_wearBehindMend cX1_wearBehindMend 2 (some .int), Cond.methodLink RX3 38 yX3_commit, Cond.instanceMethod yX3_commit, Cond.selects RX3 yX3_commit yX3_commit, Cond.code yX3_commit cX3_commit 3 (some .int), Cond.methodLink RX3 215 yX3_remember, Cond.instanceMethod yX3_remember, Cond.selects RX3 yX3_remember yX3_remember, Cond.code yX3_remember cX3_remember 2 none, Cond.fieldLink RX3 176 "BellowsRound" "states" "I", Cond.fieldLink RX3 19 "BellowsRound" "history" "[LBellowsRound$State;", Cond.methodLink RX3 218 yX3_dropOldestState, Cond.instanceMethod yX3_dropOldestState, Cond.selects RX3 yX3_dropOldestState yX3_dropOldestState, Cond.code yX3_dropOldestState cX3_dropOldestState 3 none]
def wsX3_patch : List Cond := .code yX3_patch cX3_patch 2 (some .int) :: ((wsX3_patch_r1 ++ (wsX3_patch_r2 ++ (wsX3_patch_r3 ++ wsX3_patch_r4))) ++ wsX30 ++ wsX20 ++ wsX10)
def wsX3_hide_r1 : List Cond := [Cond.fieldLink RX3 16 "BellowsRound" "trial" "LBellowsRound$State;", Cond.fieldLink RX3 12 "BellowsRound" "now" "LBellowsRound$State;", Cond.methodLink RX3 30 yX2_copyFrom, Cond.instanceMethod yX2_copyFrom, Cond.selects RX2 yX2_copyFrom yX2_copyFrom, Cond.initialized RX2, Cond.code yX2_copyFrom cX2_copyFrom 5 none, Cond.fieldLink RX2 37 "BellowsRound$State" "smithyCount" "I", Cond.fieldLink RX2 17 "BellowsRound$State" "cold" "I", Cond.fieldLink RX2 21 "BellowsRound$State" "hours" "I", Cond.fieldLink RX2 24 "BellowsRound$State" "rate" "I", Cond.fieldLink RX2 27 "BellowsRound$State" "patience" "I", Cond.fieldLink RX2 40 "BellowsRound$State" "day" "I", Cond.fieldLink RX2 43 "BellowsRound$State" "mile" "I", Cond.fieldLink RX2 30 "BellowsRound$State" "hoursLeft" "I", Cond.fieldLink RX2 46 "BellowsRound$State" "leather" "I", Cond.fieldLink RX2 33 "BellowsRound$State" "money" "I", Cond.fieldLink RX2 49 "BellowsRound$State" "paidForLeather" "I", Cond.fieldLink RX2 52 "BellowsRound$State" "owedForMends" "I", Cond.fieldLink RX2 55 "BellowsRound$State" "longestCold" "I", Cond.fieldLink RX2 58 "BellowsRound$State" "milesWalked" "I", Cond.methodLink RX2 61 yX2_find, Cond.instanceMethod yX2_find, Cond.selects RX2 yX2_find yX2_find]
def wsX3_hide_r2 : List Cond := [Cond.code yX2_find cX2_find 2 (some (.object "BellowsRound$Smithy")), Cond.fieldLink RX2 11 "BellowsRound$State" "smithies" "[LBellowsRound$Smithy;", Cond.methodLink RX2 65 yX1_copyFrom, Cond.instanceMethod yX1_copyFrom, Cond.selects RX1 yX1_copyFrom yX1_copyFrom, Cond.initialized RX1, Cond.code yX1_copyFrom cX1_copyFrom 2 none, Cond.fieldLink RX1 9 "BellowsRound$Smithy" "mile" "I", Cond.fieldLink RX1 15 "BellowsRound$Smithy" "size" "I", Cond.fieldLink RX1 18 "BellowsRound$Smithy" "wear" "I", Cond.fieldLink RX1 21 "BellowsRound$Smithy" "heat" "I", Cond.fieldLink RX1 24 "BellowsRound$Smithy" "coldDays" "I", Cond.fieldLink RX1 27 "BellowsRound$Smithy" "debt" "I", Cond.fieldLink RX1 30 "BellowsRound$Smithy" "paid" "I", Cond.fieldLink RX1 33 "BellowsRound$Smithy" "mends" "I", Cond.methodLink RX3 48 yX2_mendBellows, Cond.instanceMethod yX2_mendBellows, Cond.selects RX2 yX2_mendBellows yX2_mendBellows, Cond.code yX2_mendBellows cX2_mendBellows 5 (some .int), Cond.constant RX2 69 (-1000000001), Cond.constant RX2 79 (-1000000002), Cond.fieldLink RX2 100 "BellowsRound$Smithy" "debt" "I", Cond.fieldLink RX2 106 "BellowsRound$Smithy" "wear" "I", Cond.fieldLink RX2 109 "BellowsRound$Smithy" "mends" "I"]
def wsX3_hide_r3 : List Cond := [Cond.methodLink RX2 86 yX2_reasonAgainst, Cond.instanceMethod yX2_reasonAgainst, Cond.selects RX2 yX2_reasonAgainst yX2_reasonAgainst, Cond.code yX2_reasonAgainst cX2_reasonAgainst 3 (some .int), Cond.fieldLink RX2 112 "BellowsRound$Smithy" "mile" "I", Cond.static yX3_hoursOfMend, Cond.initialized RX3, Cond.code yX3_hoursOfMend cX3_hoursOfMend 1 (some .int), Cond.methodLink RX2 97 yX1_leatherOfMend, Cond.instanceMethod yX1_leatherOfMend, Cond.selects RX1 yX1_leatherOfMend yX1_leatherOfMend, Cond.code yX1_leatherOfMend cX1_leatherOfMend 2 (some .int), Cond.static yX3_tensBegun, Cond.code yX3_tensBegun cX3_tensBegun 1 (some .int), Cond.methodLink RX2 170 yX2_reasonOfSmithy, Cond.instanceMethod yX2_reasonOfSmithy, Cond.selects RX2 yX2_reasonOfSmithy yX2_reasonOfSmithy, Cond.code yX2_reasonOfSmithy cX2_reasonOfSmithy 2 (some .int), Cond.methodLink RX2 90 yX2_priceOfMend, Cond.instanceMethod yX2_priceOfMend, Cond.selects RX2 yX2_priceOfMend yX2_priceOfMend, Cond.code yX2_priceOfMend cX2_priceOfMend 3 (some .int), Cond.methodLink RX2 103 yX1_wearBehindMend, Cond.instanceMethod yX1_wearBehindMend]
def wsX3_hide_r4 : List Cond := [Cond.selects RX1 yX1_wearBehindMend yX1_wearBehindMend, Cond.code yX1_wearBehindMend cX1_wearBehindMend 2 (some .int), Cond.methodLink RX3 38 yX3_commit, Cond.instanceMethod yX3_commit, Cond.selects RX3 yX3_commit yX3_commit, Cond.code yX3_commit cX3_commit 3 (some .int), Cond.methodLink RX3 215 yX3_remember, Cond.instanceMethod yX3_remember, Cond.selects RX3 yX3_remember yX3_remember, Cond.code yX3_remember cX3_remember 2 none, Cond.fieldLink RX3 176 "BellowsRound" "states" "I", Cond.fieldLink RX3 19 "BellowsRound" "history" "[LBellowsRound$State;", Cond.methodLink RX3 218 yX3_dropOldestState, Cond.instanceMethod yX3_dropOldestState, Cond.selects RX3 yX3_dropOldestState yX3_dropOldestState, Cond.code yX3_dropOldestState cX3_dropOldestState 3 none]
def wsX3_hide : List Cond := .code yX3_hide cX3_hide 2 (some .int) :: ((wsX3_hide_r1 ++ (wsX3_hide_r2 ++ (wsX3_hide_r3 ++ wsX3_hide_r4))) ++ wsX30 ++ wsX20 ++ wsX10)
def wsX3_collect_r1 : List Cond := [Cond.fieldLink RX3 16 "BellowsRound" "trial" "LBellowsRound$State;", Cond.fieldLink RX3 12 "BellowsRound" "now" "LBellowsRound$State;", Cond.methodLink RX3 30 yX2_copyFrom, Cond.instanceMethod yX2_copyFrom, Cond.selects RX2 yX2_copyFrom yX2_copyFrom, Cond.initialized RX2, Cond.code yX2_copyFrom cX2_copyFrom 5 none, Cond.fieldLink RX2 37 "BellowsRound$State" "smithyCount" "I", Cond.fieldLink RX2 17 "BellowsRound$State" "cold" "I", Cond.fieldLink RX2 21 "BellowsRound$State" "hours" "I", Cond.fieldLink RX2 24 "BellowsRound$State" "rate" "I", Cond.fieldLink RX2 27 "BellowsRound$State" "patience" "I", Cond.fieldLink RX2 40 "BellowsRound$State" "day" "I", Cond.fieldLink RX2 43 "BellowsRound$State" "mile" "I", Cond.fieldLink RX2 30 "BellowsRound$State" "hoursLeft" "I", Cond.fieldLink RX2 46 "BellowsRound$State" "leather" "I", Cond.fieldLink RX2 33 "BellowsRound$State" "money" "I", Cond.fieldLink RX2 49 "BellowsRound$State" "paidForLeather" "I", Cond.fieldLink RX2 52 "BellowsRound$State" "owedForMends" "I", Cond.fieldLink RX2 55 "BellowsRound$State" "longestCold" "I", Cond.fieldLink RX2 58 "BellowsRound$State" "milesWalked" "I", Cond.methodLink RX2 61 yX2_find, Cond.instanceMethod yX2_find, Cond.selects RX2 yX2_find yX2_find]
def wsX3_collect_r2 : List Cond := [Cond.code yX2_find cX2_find 2 (some (.object "BellowsRound$Smithy")), Cond.fieldLink RX2 11 "BellowsRound$State" "smithies" "[LBellowsRound$Smithy;", Cond.methodLink RX2 65 yX1_copyFrom, Cond.instanceMethod yX1_copyFrom, Cond.selects RX1 yX1_copyFrom yX1_copyFrom, Cond.initialized RX1, Cond.code yX1_copyFrom cX1_copyFrom 2 none, Cond.fieldLink RX1 9 "BellowsRound$Smithy" "mile" "I", Cond.fieldLink RX1 15 "BellowsRound$Smithy" "size" "I", Cond.fieldLink RX1 18 "BellowsRound$Smithy" "wear" "I", Cond.fieldLink RX1 21 "BellowsRound$Smithy" "heat" "I", Cond.fieldLink RX1 24 "BellowsRound$Smithy" "coldDays" "I", Cond.fieldLink RX1 27 "BellowsRound$Smithy" "debt" "I", Cond.fieldLink RX1 30 "BellowsRound$Smithy" "paid" "I", Cond.fieldLink RX1 33 "BellowsRound$Smithy" "mends" "I", Cond.methodLink RX3 52 yX2_collectDebt, Cond.instanceMethod yX2_collectDebt, Cond.selects RX2 yX2_collectDebt yX2_collectDebt, Cond.code yX2_collectDebt cX2_collectDebt 4 (some .int), Cond.constant RX2 69 (-1000000001), Cond.fieldLink RX2 112 "BellowsRound$Smithy" "mile" "I", Cond.fieldLink RX2 100 "BellowsRound$Smithy" "debt" "I", Cond.constant RX2 79 (-1000000002), Cond.fieldLink RX2 113 "BellowsRound$Smithy" "heat" "I"]
def wsX3_collect_r3 : List Cond := [Cond.fieldLink RX2 120 "BellowsRound$Smithy" "paid" "I", Cond.methodLink RX2 116 yX2_isCold, Cond.instanceMethod yX2_isCold, Cond.selects RX2 yX2_isCold yX2_isCold, Cond.code yX2_isCold cX2_isCold 2 (some .boolean), Cond.methodLink RX3 38 yX3_commit, Cond.instanceMethod yX3_commit, Cond.selects RX3 yX3_commit yX3_commit, Cond.initialized RX3, Cond.code yX3_commit cX3_commit 3 (some .int), Cond.methodLink RX3 215 yX3_remember, Cond.instanceMethod yX3_remember, Cond.selects RX3 yX3_remember yX3_remember, Cond.code yX3_remember cX3_remember 2 none, Cond.fieldLink RX3 176 "BellowsRound" "states" "I", Cond.fieldLink RX3 19 "BellowsRound" "history" "[LBellowsRound$State;", Cond.methodLink RX3 218 yX3_dropOldestState, Cond.instanceMethod yX3_dropOldestState, Cond.selects RX3 yX3_dropOldestState yX3_dropOldestState, Cond.code yX3_dropOldestState cX3_dropOldestState 3 none]
def wsX3_collect : List Cond := .code yX3_collect cX3_collect 2 (some .int) :: ((wsX3_collect_r1 ++ (wsX3_collect_r2 ++ wsX3_collect_r3)) ++ wsX30 ++ wsX20 ++ wsX10)
def wsX3_end_r1 : List Cond := [Cond.fieldLink RX3 16 "BellowsRound" "trial" "LBellowsRound$State;", Cond.fieldLink RX3 12 "BellowsRound" "now" "LBellowsRound$State;", Cond.methodLink RX3 30 yX2_copyFrom, Cond.instanceMethod yX2_copyFrom, Cond.selects RX2 yX2_copyFrom yX2_copyFrom, Cond.initialized RX2, Cond.code yX2_copyFrom cX2_copyFrom 5 none, Cond.fieldLink RX2 37 "BellowsRound$State" "smithyCount" "I", Cond.fieldLink RX2 17 "BellowsRound$State" "cold" "I", Cond.fieldLink RX2 21 "BellowsRound$State" "hours" "I", Cond.fieldLink RX2 24 "BellowsRound$State" "rate" "I", Cond.fieldLink RX2 27 "BellowsRound$State" "patience" "I", Cond.fieldLink RX2 40 "BellowsRound$State" "day" "I", Cond.fieldLink RX2 43 "BellowsRound$State" "mile" "I", Cond.fieldLink RX2 30 "BellowsRound$State" "hoursLeft" "I", Cond.fieldLink RX2 46 "BellowsRound$State" "leather" "I", Cond.fieldLink RX2 33 "BellowsRound$State" "money" "I", Cond.fieldLink RX2 49 "BellowsRound$State" "paidForLeather" "I", Cond.fieldLink RX2 52 "BellowsRound$State" "owedForMends" "I", Cond.fieldLink RX2 55 "BellowsRound$State" "longestCold" "I", Cond.fieldLink RX2 58 "BellowsRound$State" "milesWalked" "I", Cond.methodLink RX2 61 yX2_find, Cond.instanceMethod yX2_find, Cond.selects RX2 yX2_find yX2_find]
def wsX3_end_r2 : List Cond := [Cond.code yX2_find cX2_find 2 (some (.object "BellowsRound$Smithy")), Cond.fieldLink RX2 11 "BellowsRound$State" "smithies" "[LBellowsRound$Smithy;", Cond.methodLink RX2 65 yX1_copyFrom, Cond.instanceMethod yX1_copyFrom, Cond.selects RX1 yX1_copyFrom yX1_copyFrom, Cond.initialized RX1, Cond.code yX1_copyFrom cX1_copyFrom 2 none, Cond.fieldLink RX1 9 "BellowsRound$Smithy" "mile" "I", Cond.fieldLink RX1 15 "BellowsRound$Smithy" "size" "I", Cond.fieldLink RX1 18 "BellowsRound$Smithy" "wear" "I", Cond.fieldLink RX1 21 "BellowsRound$Smithy" "heat" "I", Cond.fieldLink RX1 24 "BellowsRound$Smithy" "coldDays" "I", Cond.fieldLink RX1 27 "BellowsRound$Smithy" "debt" "I", Cond.fieldLink RX1 30 "BellowsRound$Smithy" "paid" "I", Cond.fieldLink RX1 33 "BellowsRound$Smithy" "mends" "I", Cond.methodLink RX3 55 yX2_endDays, Cond.instanceMethod yX2_endDays, Cond.selects RX2 yX2_endDays yX2_endDays, Cond.code yX2_endDays cX2_endDays 5 (some .int), Cond.constant RX2 69 (-1000000001), Cond.constant RX2 70 (-1000000003), Cond.methodLink RX2 123 yX2_endDayOf, Cond.instanceMethod yX2_endDayOf, Cond.selects RX2 yX2_endDayOf yX2_endDayOf]
def wsX3_end_r3 : List Cond := [Cond.code yX2_endDayOf cX2_endDayOf 2 none, Cond.fieldLink RX2 106 "BellowsRound$Smithy" "wear" "I", Cond.fieldLink RX2 135 "BellowsRound$Smithy" "size" "I", Cond.fieldLink RX2 113 "BellowsRound$Smithy" "heat" "I", Cond.fieldLink RX2 144 "BellowsRound$Smithy" "coldDays" "I", Cond.methodLink RX2 147 Lib.Math.max.name, Cond.static Lib.Math.max.name, Cond.initialized "java/lang/Math", Cond.code Lib.Math.max.name Lib.Math.max.code 2 (some .int), Cond.static yX3_wearBehindDay, Cond.initialized RX3, Cond.code yX3_wearBehindDay cX3_wearBehindDay 2 (some .int), Cond.methodLink RX3 243 Lib.Math.min.name, Cond.static Lib.Math.min.name, Cond.code Lib.Math.min.name Lib.Math.min.code 2 (some .int), Cond.static yX3_heatBehindDay, Cond.code yX3_heatBehindDay cX3_heatBehindDay 3 (some .int), Cond.methodLink RX3 248 Lib.Math.max.name, Cond.methodLink RX3 78 yX3_leakOf, Cond.static yX3_leakOf, Cond.code yX3_leakOf cX3_leakOf 1 (some .int), Cond.methodLink RX2 116 yX2_isCold, Cond.instanceMethod yX2_isCold, Cond.selects RX2 yX2_isCold yX2_isCold]
def wsX3_end_r4 : List Cond := [Cond.code yX2_isCold cX2_isCold 2 (some .boolean), Cond.methodLink RX2 126 yX2_coldSet, Cond.instanceMethod yX2_coldSet, Cond.selects RX2 yX2_coldSet yX2_coldSet, Cond.code yX2_coldSet cX2_coldSet 4 (some .int), Cond.methodLink RX2 130 yJ6_bitCount_0f7a4, Cond.static yJ6_bitCount_0f7a4, Cond.initialized RJ6, Cond.code yJ6_bitCount_0f7a4 cJ6_bitCount_0f7a4 1 (some .int), Cond.constant RJ6 265 (1431655765), Cond.constant RJ6 266 (858993459), Cond.constant RJ6 267 (252645135), Cond.methodLink RX3 38 yX3_commit, Cond.instanceMethod yX3_commit, Cond.selects RX3 yX3_commit yX3_commit, Cond.code yX3_commit cX3_commit 3 (some .int), Cond.methodLink RX3 215 yX3_remember, Cond.instanceMethod yX3_remember, Cond.selects RX3 yX3_remember yX3_remember, Cond.code yX3_remember cX3_remember 2 none, Cond.fieldLink RX3 176 "BellowsRound" "states" "I", Cond.fieldLink RX3 19 "BellowsRound" "history" "[LBellowsRound$State;", Cond.methodLink RX3 218 yX3_dropOldestState, Cond.instanceMethod yX3_dropOldestState]
def wsX3_end_r5 : List Cond := [Cond.selects RX3 yX3_dropOldestState yX3_dropOldestState, Cond.code yX3_dropOldestState cX3_dropOldestState 3 none]
def wsX3_end : List Cond := .code yX3_end cX3_end 2 (some .int) :: ((wsX3_end_r1 ++ (wsX3_end_r2 ++ (wsX3_end_r3 ++ (wsX3_end_r4 ++ wsX3_end_r5)))) ++ wsX30 ++ wsX20 ++ wsX10)
def wsX3_set_r1 : List Cond := [Cond.fieldLink RX3 16 "BellowsRound" "trial" "LBellowsRound$State;", Cond.fieldLink RX3 12 "BellowsRound" "now" "LBellowsRound$State;", Cond.methodLink RX3 30 yX2_copyFrom, Cond.instanceMethod yX2_copyFrom, Cond.selects RX2 yX2_copyFrom yX2_copyFrom, Cond.initialized RX2, Cond.code yX2_copyFrom cX2_copyFrom 5 none, Cond.fieldLink RX2 37 "BellowsRound$State" "smithyCount" "I", Cond.fieldLink RX2 17 "BellowsRound$State" "cold" "I", Cond.fieldLink RX2 21 "BellowsRound$State" "hours" "I", Cond.fieldLink RX2 24 "BellowsRound$State" "rate" "I", Cond.fieldLink RX2 27 "BellowsRound$State" "patience" "I", Cond.fieldLink RX2 40 "BellowsRound$State" "day" "I", Cond.fieldLink RX2 43 "BellowsRound$State" "mile" "I", Cond.fieldLink RX2 30 "BellowsRound$State" "hoursLeft" "I", Cond.fieldLink RX2 46 "BellowsRound$State" "leather" "I", Cond.fieldLink RX2 33 "BellowsRound$State" "money" "I", Cond.fieldLink RX2 49 "BellowsRound$State" "paidForLeather" "I", Cond.fieldLink RX2 52 "BellowsRound$State" "owedForMends" "I", Cond.fieldLink RX2 55 "BellowsRound$State" "longestCold" "I", Cond.fieldLink RX2 58 "BellowsRound$State" "milesWalked" "I", Cond.methodLink RX2 61 yX2_find, Cond.instanceMethod yX2_find, Cond.selects RX2 yX2_find yX2_find]
def wsX3_set_r2 : List Cond := [Cond.code yX2_find cX2_find 2 (some (.object "BellowsRound$Smithy")), Cond.fieldLink RX2 11 "BellowsRound$State" "smithies" "[LBellowsRound$Smithy;", Cond.methodLink RX2 65 yX1_copyFrom, Cond.instanceMethod yX1_copyFrom, Cond.selects RX1 yX1_copyFrom yX1_copyFrom, Cond.initialized RX1, Cond.code yX1_copyFrom cX1_copyFrom 2 none, Cond.fieldLink RX1 9 "BellowsRound$Smithy" "mile" "I", Cond.fieldLink RX1 15 "BellowsRound$Smithy" "size" "I", Cond.fieldLink RX1 18 "BellowsRound$Smithy" "wear" "I", Cond.fieldLink RX1 21 "BellowsRound$Smithy" "heat" "I", Cond.fieldLink RX1 24 "BellowsRound$Smithy" "coldDays" "I", Cond.fieldLink RX1 27 "BellowsRound$Smithy" "debt" "I", Cond.fieldLink RX1 30 "BellowsRound$Smithy" "paid" "I", Cond.fieldLink RX1 33 "BellowsRound$Smithy" "mends" "I", Cond.methodLink RX3 58 yX2_changeSetting, Cond.instanceMethod yX2_changeSetting, Cond.selects RX2 yX2_changeSetting yX2_changeSetting, Cond.code yX2_changeSetting cX2_changeSetting 4 (some .int), Cond.constant RX2 69 (-1000000001), Cond.methodLink RX2 150 yX2_isInRange, Cond.static yX2_isInRange, Cond.code yX2_isInRange cX2_isInRange 2 (some .boolean), Cond.methodLink RX3 38 yX3_commit]
def wsX3_set_r3 : List Cond := [Cond.instanceMethod yX3_commit, Cond.selects RX3 yX3_commit yX3_commit, Cond.initialized RX3, Cond.code yX3_commit cX3_commit 3 (some .int), Cond.methodLink RX3 215 yX3_remember, Cond.instanceMethod yX3_remember, Cond.selects RX3 yX3_remember yX3_remember, Cond.code yX3_remember cX3_remember 2 none, Cond.fieldLink RX3 176 "BellowsRound" "states" "I", Cond.fieldLink RX3 19 "BellowsRound" "history" "[LBellowsRound$State;", Cond.methodLink RX3 218 yX3_dropOldestState, Cond.instanceMethod yX3_dropOldestState, Cond.selects RX3 yX3_dropOldestState yX3_dropOldestState, Cond.code yX3_dropOldestState cX3_dropOldestState 3 none]
def wsX3_set : List Cond := .code yX3_set cX3_set 3 (some .int) :: ((wsX3_set_r1 ++ (wsX3_set_r2 ++ wsX3_set_r3)) ++ wsX30 ++ wsX20 ++ wsX10)
def wsX3_smithyOf_r1 : List Cond := [Cond.fieldLink RX3 12 "BellowsRound" "now" "LBellowsRound$State;", Cond.constant RX3 65 (-1000000001), Cond.fieldLink RX3 66 "BellowsRound$Smithy" "mile" "I", Cond.fieldLink RX3 72 "BellowsRound$Smithy" "size" "I", Cond.fieldLink RX3 75 "BellowsRound$Smithy" "wear" "I", Cond.fieldLink RX3 81 "BellowsRound$Smithy" "heat" "I", Cond.fieldLink RX3 88 "BellowsRound$Smithy" "coldDays" "I", Cond.fieldLink RX3 91 "BellowsRound$Smithy" "debt" "I", Cond.fieldLink RX3 94 "BellowsRound$Smithy" "paid" "I", Cond.fieldLink RX3 97 "BellowsRound$Smithy" "mends" "I", Cond.fieldLink RX3 100 "BellowsRound$State" "mile" "I", Cond.methodLink RX3 61 yX2_find, Cond.instanceMethod yX2_find, Cond.selects RX2 yX2_find yX2_find, Cond.initialized RX2, Cond.code yX2_find cX2_find 2 (some (.object "BellowsRound$Smithy")), Cond.fieldLink RX2 37 "BellowsRound$State" "smithyCount" "I", Cond.fieldLink RX2 11 "BellowsRound$State" "smithies" "[LBellowsRound$Smithy;", Cond.methodLink RX3 78 yX3_leakOf, Cond.static yX3_leakOf, Cond.initialized RX3, Cond.code yX3_leakOf cX3_leakOf 1 (some .int), Cond.methodLink RX3 84 yX2_isCold, Cond.instanceMethod yX2_isCold]
def wsX3_smithyOf_r2 : List Cond := [Cond.selects RX2 yX2_isCold yX2_isCold, Cond.code yX2_isCold cX2_isCold 2 (some .boolean), Cond.fieldLink RX2 17 "BellowsRound$State" "cold" "I", Cond.methodLink RX3 101 yX3_hoursOfWay, Cond.static yX3_hoursOfWay, Cond.code yX3_hoursOfWay cX3_hoursOfWay 2 (some .int), Cond.methodLink RX3 251 Lib.Math.abs.name, Cond.static Lib.Math.abs.name, Cond.initialized "java/lang/Math", Cond.code Lib.Math.abs.name Lib.Math.abs.code 1 (some .int), Cond.methodLink RX3 254 yX3_tensBegun, Cond.static yX3_tensBegun, Cond.code yX3_tensBegun cX3_tensBegun 1 (some .int)]
def wsX3_smithyOf : List Cond := .code yX3_smithyOf cX3_smithyOf 4 (some .int) :: ((wsX3_smithyOf_r1 ++ wsX3_smithyOf_r2) ++ wsX30 ++ wsX10 ++ wsX20)
def wsX3_isFlag : List Cond := .code yX3_isFlag cX3_isFlag 1 (some .boolean) :: ([])
def wsX3_why_r1 : List Cond := [Cond.fieldLink RX3 12 "BellowsRound" "now" "LBellowsRound$State;", Cond.constant RX3 65 (-1000000001), Cond.methodLink RX3 61 yX2_find, Cond.instanceMethod yX2_find, Cond.selects RX2 yX2_find yX2_find, Cond.initialized RX2, Cond.code yX2_find cX2_find 2 (some (.object "BellowsRound$Smithy")), Cond.fieldLink RX2 37 "BellowsRound$State" "smithyCount" "I", Cond.fieldLink RX2 11 "BellowsRound$State" "smithies" "[LBellowsRound$Smithy;", Cond.methodLink RX3 104 yX3_isFlag, Cond.static yX3_isFlag, Cond.initialized RX3, Cond.code yX3_isFlag cX3_isFlag 1 (some .boolean), Cond.methodLink RX3 107 yX2_reasonAgainst, Cond.instanceMethod yX2_reasonAgainst, Cond.selects RX2 yX2_reasonAgainst yX2_reasonAgainst, Cond.code yX2_reasonAgainst cX2_reasonAgainst 3 (some .int), Cond.fieldLink RX2 112 "BellowsRound$Smithy" "mile" "I", Cond.fieldLink RX2 43 "BellowsRound$State" "mile" "I", Cond.fieldLink RX2 30 "BellowsRound$State" "hoursLeft" "I", Cond.fieldLink RX2 46 "BellowsRound$State" "leather" "I", Cond.static yX3_hoursOfMend, Cond.code yX3_hoursOfMend cX3_hoursOfMend 1 (some .int), Cond.methodLink RX2 97 yX1_leatherOfMend]
def wsX3_why_r2 : List Cond := [Cond.instanceMethod yX1_leatherOfMend, Cond.selects RX1 yX1_leatherOfMend yX1_leatherOfMend, Cond.initialized RX1, Cond.code yX1_leatherOfMend cX1_leatherOfMend 2 (some .int), Cond.fieldLink RX1 15 "BellowsRound$Smithy" "size" "I", Cond.fieldLink RX1 18 "BellowsRound$Smithy" "wear" "I", Cond.static yX3_tensBegun, Cond.code yX3_tensBegun cX3_tensBegun 1 (some .int), Cond.methodLink RX2 170 yX2_reasonOfSmithy, Cond.instanceMethod yX2_reasonOfSmithy, Cond.selects RX2 yX2_reasonOfSmithy yX2_reasonOfSmithy, Cond.code yX2_reasonOfSmithy cX2_reasonOfSmithy 2 (some .int), Cond.fieldLink RX2 100 "BellowsRound$Smithy" "debt" "I", Cond.fieldLink RX2 27 "BellowsRound$State" "patience" "I", Cond.fieldLink RX2 106 "BellowsRound$Smithy" "wear" "I"]
def wsX3_why : List Cond := .code yX3_why cX3_why 4 (some .int) :: ((wsX3_why_r1 ++ wsX3_why_r2) ++ wsX30 ++ wsX20 ++ wsX10)
def wsX3_mend_r1 : List Cond := [Cond.fieldLink RX3 12 "BellowsRound" "now" "LBellowsRound$State;", Cond.constant RX3 65 (-1000000001), Cond.methodLink RX3 61 yX2_find, Cond.instanceMethod yX2_find, Cond.selects RX2 yX2_find yX2_find, Cond.initialized RX2, Cond.code yX2_find cX2_find 2 (some (.object "BellowsRound$Smithy")), Cond.fieldLink RX2 37 "BellowsRound$State" "smithyCount" "I", Cond.fieldLink RX2 11 "BellowsRound$State" "smithies" "[LBellowsRound$Smithy;", Cond.methodLink RX3 104 yX3_isFlag, Cond.static yX3_isFlag, Cond.initialized RX3, Cond.code yX3_isFlag cX3_isFlag 1 (some .boolean), Cond.methodLink RX3 111 yX3_hoursOfMend, Cond.static yX3_hoursOfMend, Cond.code yX3_hoursOfMend cX3_hoursOfMend 1 (some .int), Cond.methodLink RX3 115 yX1_leatherOfMend, Cond.instanceMethod yX1_leatherOfMend, Cond.selects RX1 yX1_leatherOfMend yX1_leatherOfMend, Cond.initialized RX1, Cond.code yX1_leatherOfMend cX1_leatherOfMend 2 (some .int), Cond.fieldLink RX1 15 "BellowsRound$Smithy" "size" "I", Cond.fieldLink RX1 18 "BellowsRound$Smithy" "wear" "I", Cond.static yX3_tensBegun]
def wsX3_mend_r2 : List Cond := [Cond.code yX3_tensBegun cX3_tensBegun 1 (some .int), Cond.methodLink RX3 118 yX2_priceOfMend, Cond.instanceMethod yX2_priceOfMend, Cond.selects RX2 yX2_priceOfMend yX2_priceOfMend, Cond.code yX2_priceOfMend cX2_priceOfMend 3 (some .int), Cond.fieldLink RX2 24 "BellowsRound$State" "rate" "I", Cond.methodLink RX2 97 yX1_leatherOfMend, Cond.methodLink RX3 121 yX1_wearBehindMend, Cond.instanceMethod yX1_wearBehindMend, Cond.selects RX1 yX1_wearBehindMend yX1_wearBehindMend, Cond.code yX1_wearBehindMend cX1_wearBehindMend 2 (some .int)]
def wsX3_mend : List Cond := .code yX3_mend cX3_mend 6 (some .int) :: ((wsX3_mend_r1 ++ wsX3_mend_r2) ++ wsX30 ++ wsX20 ++ wsX10)
def wsX3_count_r1 : List Cond := [Cond.fieldLink RX3 12 "BellowsRound" "now" "LBellowsRound$State;", Cond.fieldLink RX3 133 "BellowsRound$State" "smithyCount" "I", Cond.fieldLink RX3 146 "BellowsRound$State" "day" "I", Cond.fieldLink RX3 100 "BellowsRound$State" "mile" "I", Cond.fieldLink RX3 149 "BellowsRound$State" "hoursLeft" "I", Cond.fieldLink RX3 152 "BellowsRound$State" "leather" "I", Cond.fieldLink RX3 155 "BellowsRound$State" "money" "I", Cond.fieldLink RX3 161 "BellowsRound$State" "paidForLeather" "I", Cond.fieldLink RX3 164 "BellowsRound$State" "owedForMends" "I", Cond.fieldLink RX3 170 "BellowsRound$State" "longestCold" "I", Cond.fieldLink RX3 173 "BellowsRound$State" "milesWalked" "I", Cond.fieldLink RX3 176 "BellowsRound" "states" "I", Cond.fieldLink RX3 26 "BellowsRound" "text" "LBellowsRound$OrderText;", Cond.fieldLink RX3 179 "BellowsRound$OrderText" "length" "I", Cond.fieldLink RX3 182 "BellowsRound$State" "cold" "I", Cond.fieldLink RX3 185 "BellowsRound$State" "hours" "I", Cond.fieldLink RX3 188 "BellowsRound$State" "rate" "I", Cond.fieldLink RX3 191 "BellowsRound$State" "patience" "I", Cond.constant RX3 65 (-1000000001), Cond.methodLink RX3 158 yX2_debtsTogether, Cond.instanceMethod yX2_debtsTogether, Cond.selects RX2 yX2_debtsTogether yX2_debtsTogether, Cond.initialized RX2, Cond.code yX2_debtsTogether cX2_debtsTogether 4 (some .int)]
def wsX3_count_r2 : List Cond := [Cond.fieldLink RX2 37 "BellowsRound$State" "smithyCount" "I", Cond.fieldLink RX2 100 "BellowsRound$Smithy" "debt" "I", Cond.methodLink RX2 61 yX2_find, Cond.instanceMethod yX2_find, Cond.selects RX2 yX2_find yX2_find, Cond.code yX2_find cX2_find 2 (some (.object "BellowsRound$Smithy")), Cond.fieldLink RX2 11 "BellowsRound$State" "smithies" "[LBellowsRound$Smithy;", Cond.methodLink RX3 167 yX2_coldSet, Cond.instanceMethod yX2_coldSet, Cond.selects RX2 yX2_coldSet yX2_coldSet, Cond.code yX2_coldSet cX2_coldSet 4 (some .int), Cond.fieldLink RX2 113 "BellowsRound$Smithy" "heat" "I", Cond.methodLink RX2 116 yX2_isCold, Cond.instanceMethod yX2_isCold, Cond.selects RX2 yX2_isCold yX2_isCold, Cond.code yX2_isCold cX2_isCold 2 (some .boolean), Cond.fieldLink RX2 17 "BellowsRound$State" "cold" "I"]
def wsX3_count : List Cond := .code yX3_count cX3_count 2 (some .int) :: ((wsX3_count_r1 ++ wsX3_count_r2) ++ wsX30 ++ wsX20 ++ wsX00 ++ wsX10)
def wsJ9_abs_0f7a4 : List Cond := .code yJ9_abs_0f7a4 cJ9_abs_0f7a4 1 (some .int) :: ([])
def wsJ9_max_7cf53 : List Cond := .code yJ9_max_7cf53 cJ9_max_7cf53 2 (some .int) :: ([])
def wsJ9_min_7cf53 : List Cond := .code yJ9_min_7cf53 cJ9_min_7cf53 2 (some .int) :: ([])
def wsL_cell : List Cond := .code yL_cell cL_cell 2 (some .int) :: ([.constant RL 7 (40503)])
def wsL_low : List Cond := .code yL_low cL_low 2 (some .int) :: ([.constant RL 8 (2147483647)])
def wsL_apart : List Cond := .code yL_apart cL_apart 2 (some .int) :: ([])
def wsL_tens : List Cond := .code yL_tens cL_tens 1 (some .int) :: ([])
def wsL_day : List Cond := .code yL_day cL_day 4 none :: ([])
def wsL_colds : List Cond := .code yL_colds cL_colds 4 (some .int) :: ([])
def wsL_takes : List Cond := .code yL_takes cL_takes 3 (some .int) :: ([.methodLink RL 9 yL_tens, .static yL_tens, .initialized RL, .code yL_tens cL_tens 1 (some .int)])
def wsL_owes : List Cond := .code yL_owes cL_owes 4 (some .int) :: ([.methodLink RL 15 yL_takes, .static yL_takes, .initialized RL, .code yL_takes cL_takes 3 (some .int), .methodLink RL 9 yL_tens, .static yL_tens, .code yL_tens cL_tens 1 (some .int)])
def wsL_why : List Cond := .code yL_why cL_why 5 (some .int) :: ([.methodLink RL 15 yL_takes, .static yL_takes, .initialized RL, .code yL_takes cL_takes 3 (some .int), .methodLink RL 9 yL_tens, .static yL_tens, .code yL_tens cL_tens 1 (some .int)])
def wsL_walks : List Cond := .code yL_walks cL_walks 3 (some .int) :: ([.constant RL 23 (-1000000002), .methodLink RL 19 yL_apart, .static yL_apart, .initialized RL, .code yL_apart cL_apart 2 (some .int), .methodLink RL 9 yL_tens, .static yL_tens, .code yL_tens cL_tens 1 (some .int)])
def wsL_buys : List Cond := .code yL_buys cL_buys 2 (some .int) :: ([.constant RL 23 (-1000000002), .constant RL 24 (-1000000003)])
def wsL_mends : List Cond := .code yL_mends cL_mends 5 (some .int) :: ([.constant RL 23 (-1000000002), .methodLink RL 25 yL_why, .static yL_why, .initialized RL, .code yL_why cL_why 5 (some .int), .methodLink RL 15 yL_takes, .static yL_takes, .code yL_takes cL_takes 3 (some .int), .methodLink RL 9 yL_tens, .static yL_tens, .code yL_tens cL_tens 1 (some .int), .methodLink RL 29 yL_owes, .static yL_owes, .code yL_owes cL_owes 4 (some .int)])
def wsL_collects : List Cond := .code yL_collects cL_collects 4 (some .int) :: ([.constant RL 23 (-1000000002)])
def wsL_ends : List Cond := .code yL_ends cL_ends 5 (some .int) :: ([.methodLink RL 32 yL_day, .static yL_day, .initialized RL, .code yL_day cL_day 4 none, .methodLink RL 36 yL_colds, .static yL_colds, .code yL_colds cL_colds 4 (some .int)])
def wsL_acts_r1 : List Cond := [Cond.constant RL 40 (10000000), Cond.constant RL 24 (-1000000003), Cond.constant RL 65 (-1000000001), Cond.methodLink RL 41 yL_low, Cond.static yL_low, Cond.initialized RL, Cond.code yL_low cL_low 2 (some .int), Cond.constant RL 8 (2147483647), Cond.methodLink RL 44 yX3_smithy, Cond.instanceMethod yX3_smithy, Cond.selects RX3 yX3_smithy yX3_smithy, Cond.initialized RX3, Cond.code yX3_smithy cX3_smithy 3 (some .int), Cond.fieldLink RX3 16 "BellowsRound" "trial" "LBellowsRound$State;", Cond.fieldLink RX3 12 "BellowsRound" "now" "LBellowsRound$State;", Cond.methodLink RX3 30 yX2_copyFrom, Cond.instanceMethod yX2_copyFrom, Cond.selects RX2 yX2_copyFrom yX2_copyFrom, Cond.initialized RX2, Cond.code yX2_copyFrom cX2_copyFrom 5 none, Cond.fieldLink RX2 37 "BellowsRound$State" "smithyCount" "I", Cond.fieldLink RX2 17 "BellowsRound$State" "cold" "I", Cond.fieldLink RX2 21 "BellowsRound$State" "hours" "I", Cond.fieldLink RX2 24 "BellowsRound$State" "rate" "I"]
def wsL_acts_r2 : List Cond := [Cond.fieldLink RX2 27 "BellowsRound$State" "patience" "I", Cond.fieldLink RX2 40 "BellowsRound$State" "day" "I", Cond.fieldLink RX2 43 "BellowsRound$State" "mile" "I", Cond.fieldLink RX2 30 "BellowsRound$State" "hoursLeft" "I", Cond.fieldLink RX2 46 "BellowsRound$State" "leather" "I", Cond.fieldLink RX2 33 "BellowsRound$State" "money" "I", Cond.fieldLink RX2 49 "BellowsRound$State" "paidForLeather" "I", Cond.fieldLink RX2 52 "BellowsRound$State" "owedForMends" "I", Cond.fieldLink RX2 55 "BellowsRound$State" "longestCold" "I", Cond.fieldLink RX2 58 "BellowsRound$State" "milesWalked" "I", Cond.methodLink RX2 61 yX2_find, Cond.instanceMethod yX2_find, Cond.selects RX2 yX2_find yX2_find, Cond.code yX2_find cX2_find 2 (some (.object "BellowsRound$Smithy")), Cond.fieldLink RX2 11 "BellowsRound$State" "smithies" "[LBellowsRound$Smithy;", Cond.methodLink RX2 65 yX1_copyFrom, Cond.instanceMethod yX1_copyFrom, Cond.selects RX1 yX1_copyFrom yX1_copyFrom, Cond.initialized RX1, Cond.code yX1_copyFrom cX1_copyFrom 2 none, Cond.fieldLink RX1 9 "BellowsRound$Smithy" "mile" "I", Cond.fieldLink RX1 15 "BellowsRound$Smithy" "size" "I", Cond.fieldLink RX1 18 "BellowsRound$Smithy" "wear" "I", Cond.fieldLink RX1 21 "BellowsRound$Smithy" "heat" "I"]
def wsL_acts_r3 : List Cond := [Cond.fieldLink RX1 24 "BellowsRound$Smithy" "coldDays" "I", Cond.fieldLink RX1 27 "BellowsRound$Smithy" "debt" "I", Cond.fieldLink RX1 30 "BellowsRound$Smithy" "paid" "I", Cond.fieldLink RX1 33 "BellowsRound$Smithy" "mends" "I", Cond.methodLink RX3 34 yX2_addSmithy, Cond.instanceMethod yX2_addSmithy, Cond.selects RX2 yX2_addSmithy yX2_addSmithy, Cond.code yX2_addSmithy cX2_addSmithy 5 (some .int), Cond.constant RX2 69 (-1000000001), Cond.constant RX2 70 (-1000000003), Cond.methodLink RX2 71 yX1_beginAt, Cond.instanceMethod yX1_beginAt, Cond.selects RX1 yX1_beginAt yX1_beginAt, Cond.code yX1_beginAt cX1_beginAt 3 none, Cond.methodLink RX3 38 yX3_commit, Cond.instanceMethod yX3_commit, Cond.selects RX3 yX3_commit yX3_commit, Cond.code yX3_commit cX3_commit 3 (some .int), Cond.methodLink RX3 215 yX3_remember, Cond.instanceMethod yX3_remember, Cond.selects RX3 yX3_remember yX3_remember, Cond.code yX3_remember cX3_remember 2 none, Cond.fieldLink RX3 176 "BellowsRound" "states" "I", Cond.fieldLink RX3 19 "BellowsRound" "history" "[LBellowsRound$State;"]
def wsL_acts_r4 : List Cond := [Cond.methodLink RX3 218 yX3_dropOldestState, Cond.instanceMethod yX3_dropOldestState, Cond.selects RX3 yX3_dropOldestState yX3_dropOldestState, Cond.code yX3_dropOldestState cX3_dropOldestState 3 none, Cond.methodLink RL 49 yL_walks, Cond.static yL_walks, Cond.code yL_walks cL_walks 3 (some .int), Cond.constant RL 23 (-1000000002), Cond.methodLink RL 19 yL_apart, Cond.static yL_apart, Cond.code yL_apart cL_apart 2 (some .int), Cond.methodLink RL 9 yL_tens, Cond.static yL_tens, Cond.code yL_tens cL_tens 1 (some .int), Cond.methodLink RL 53 yX3_walk, Cond.instanceMethod yX3_walk, Cond.selects RX3 yX3_walk yX3_walk, Cond.code yX3_walk cX3_walk 2 (some .int), Cond.methodLink RX3 42 yX2_walkTo, Cond.instanceMethod yX2_walkTo, Cond.selects RX2 yX2_walkTo yX2_walkTo, Cond.code yX2_walkTo cX2_walkTo 3 (some .int), Cond.constant RX2 79 (-1000000002), Cond.methodLink RX2 80 Lib.Math.abs.name]
def wsL_acts_r5 : List Cond := [Cond.static Lib.Math.abs.name, Cond.initialized "java/lang/Math", Cond.code Lib.Math.abs.name Lib.Math.abs.code 1 (some .int), Cond.static yX3_hoursOfWay, Cond.code yX3_hoursOfWay cX3_hoursOfWay 2 (some .int), Cond.methodLink RX3 251 Lib.Math.abs.name, Cond.methodLink RX3 254 yX3_tensBegun, Cond.static yX3_tensBegun, Cond.code yX3_tensBegun cX3_tensBegun 1 (some .int), Cond.methodLink RL 56 yL_buys, Cond.static yL_buys, Cond.code yL_buys cL_buys 2 (some .int), Cond.methodLink RL 59 yX3_buy, Cond.instanceMethod yX3_buy, Cond.selects RX3 yX3_buy yX3_buy, Cond.code yX3_buy cX3_buy 2 (some .int), Cond.methodLink RX3 45 yX2_buyLeather, Cond.instanceMethod yX2_buyLeather, Cond.selects RX2 yX2_buyLeather yX2_buyLeather, Cond.code yX2_buyLeather cX2_buyLeather 3 (some .int), Cond.methodLink RL 62 yX3_patch, Cond.instanceMethod yX3_patch, Cond.selects RX3 yX3_patch yX3_patch, Cond.code yX3_patch cX3_patch 2 (some .int)]
def wsL_acts_r6 : List Cond := [Cond.methodLink RX3 48 yX2_mendBellows, Cond.instanceMethod yX2_mendBellows, Cond.selects RX2 yX2_mendBellows yX2_mendBellows, Cond.code yX2_mendBellows cX2_mendBellows 5 (some .int), Cond.fieldLink RX2 100 "BellowsRound$Smithy" "debt" "I", Cond.fieldLink RX2 106 "BellowsRound$Smithy" "wear" "I", Cond.fieldLink RX2 109 "BellowsRound$Smithy" "mends" "I", Cond.methodLink RX2 86 yX2_reasonAgainst, Cond.instanceMethod yX2_reasonAgainst, Cond.selects RX2 yX2_reasonAgainst yX2_reasonAgainst, Cond.code yX2_reasonAgainst cX2_reasonAgainst 3 (some .int), Cond.fieldLink RX2 112 "BellowsRound$Smithy" "mile" "I", Cond.static yX3_hoursOfMend, Cond.code yX3_hoursOfMend cX3_hoursOfMend 1 (some .int), Cond.methodLink RX2 97 yX1_leatherOfMend, Cond.instanceMethod yX1_leatherOfMend, Cond.selects RX1 yX1_leatherOfMend yX1_leatherOfMend, Cond.code yX1_leatherOfMend cX1_leatherOfMend 2 (some .int), Cond.methodLink RX2 170 yX2_reasonOfSmithy, Cond.instanceMethod yX2_reasonOfSmithy, Cond.selects RX2 yX2_reasonOfSmithy yX2_reasonOfSmithy, Cond.code yX2_reasonOfSmithy cX2_reasonOfSmithy 2 (some .int), Cond.methodLink RX2 90 yX2_priceOfMend, Cond.instanceMethod yX2_priceOfMend]
def wsL_acts_r7 : List Cond := [Cond.selects RX2 yX2_priceOfMend yX2_priceOfMend, Cond.code yX2_priceOfMend cX2_priceOfMend 3 (some .int), Cond.methodLink RX2 103 yX1_wearBehindMend, Cond.instanceMethod yX1_wearBehindMend, Cond.selects RX1 yX1_wearBehindMend yX1_wearBehindMend, Cond.code yX1_wearBehindMend cX1_wearBehindMend 2 (some .int), Cond.methodLink RL 66 yX3_hide, Cond.instanceMethod yX3_hide, Cond.selects RX3 yX3_hide yX3_hide, Cond.code yX3_hide cX3_hide 2 (some .int), Cond.methodLink RL 69 yX3_collect, Cond.instanceMethod yX3_collect, Cond.selects RX3 yX3_collect yX3_collect, Cond.code yX3_collect cX3_collect 2 (some .int), Cond.methodLink RX3 52 yX2_collectDebt, Cond.instanceMethod yX2_collectDebt, Cond.selects RX2 yX2_collectDebt yX2_collectDebt, Cond.code yX2_collectDebt cX2_collectDebt 4 (some .int), Cond.fieldLink RX2 113 "BellowsRound$Smithy" "heat" "I", Cond.fieldLink RX2 120 "BellowsRound$Smithy" "paid" "I", Cond.methodLink RX2 116 yX2_isCold, Cond.instanceMethod yX2_isCold, Cond.selects RX2 yX2_isCold yX2_isCold, Cond.code yX2_isCold cX2_isCold 2 (some .boolean)]
def wsL_acts_r8 : List Cond := [Cond.methodLink RL 72 yL_mends, Cond.static yL_mends, Cond.code yL_mends cL_mends 5 (some .int), Cond.methodLink RL 25 yL_why, Cond.static yL_why, Cond.code yL_why cL_why 5 (some .int), Cond.methodLink RL 15 yL_takes, Cond.static yL_takes, Cond.code yL_takes cL_takes 3 (some .int), Cond.methodLink RL 29 yL_owes, Cond.static yL_owes, Cond.code yL_owes cL_owes 4 (some .int), Cond.methodLink RL 75 yL_collects, Cond.static yL_collects, Cond.code yL_collects cL_collects 4 (some .int), Cond.methodLink RL 79 yX3_end, Cond.instanceMethod yX3_end, Cond.selects RX3 yX3_end yX3_end, Cond.code yX3_end cX3_end 2 (some .int), Cond.methodLink RX3 55 yX2_endDays, Cond.instanceMethod yX2_endDays, Cond.selects RX2 yX2_endDays yX2_endDays, Cond.code yX2_endDays cX2_endDays 5 (some .int), Cond.methodLink RX2 123 yX2_endDayOf]
def wsL_acts_r9 : List Cond := [Cond.instanceMethod yX2_endDayOf, Cond.selects RX2 yX2_endDayOf yX2_endDayOf, Cond.code yX2_endDayOf cX2_endDayOf 2 none, Cond.fieldLink RX2 135 "BellowsRound$Smithy" "size" "I", Cond.fieldLink RX2 144 "BellowsRound$Smithy" "coldDays" "I", Cond.methodLink RX2 147 Lib.Math.max.name, Cond.static Lib.Math.max.name, Cond.code Lib.Math.max.name Lib.Math.max.code 2 (some .int), Cond.static yX3_wearBehindDay, Cond.code yX3_wearBehindDay cX3_wearBehindDay 2 (some .int), Cond.methodLink RX3 243 Lib.Math.min.name, Cond.static Lib.Math.min.name, Cond.code Lib.Math.min.name Lib.Math.min.code 2 (some .int), Cond.static yX3_heatBehindDay, Cond.code yX3_heatBehindDay cX3_heatBehindDay 3 (some .int), Cond.methodLink RX3 248 Lib.Math.max.name, Cond.methodLink RX3 78 yX3_leakOf, Cond.static yX3_leakOf, Cond.code yX3_leakOf cX3_leakOf 1 (some .int), Cond.methodLink RX2 126 yX2_coldSet, Cond.instanceMethod yX2_coldSet, Cond.selects RX2 yX2_coldSet yX2_coldSet, Cond.code yX2_coldSet cX2_coldSet 4 (some .int), Cond.methodLink RX2 130 yJ6_bitCount_0f7a4]
def wsL_acts_r10 : List Cond := [Cond.static yJ6_bitCount_0f7a4, Cond.initialized RJ6, Cond.code yJ6_bitCount_0f7a4 cJ6_bitCount_0f7a4 1 (some .int), Cond.constant RJ6 265 (1431655765), Cond.constant RJ6 266 (858993459), Cond.constant RJ6 267 (252645135), Cond.methodLink RL 82 yL_ends, Cond.static yL_ends, Cond.code yL_ends cL_ends 5 (some .int), Cond.methodLink RL 32 yL_day, Cond.static yL_day, Cond.code yL_day cL_day 4 none, Cond.methodLink RL 36 yL_colds, Cond.static yL_colds, Cond.code yL_colds cL_colds 4 (some .int), Cond.methodLink RL 85 yX3_set, Cond.instanceMethod yX3_set, Cond.selects RX3 yX3_set yX3_set, Cond.code yX3_set cX3_set 3 (some .int), Cond.methodLink RX3 58 yX2_changeSetting, Cond.instanceMethod yX2_changeSetting, Cond.selects RX2 yX2_changeSetting yX2_changeSetting, Cond.code yX2_changeSetting cX2_changeSetting 4 (some .int), Cond.methodLink RX2 150 yX2_isInRange]
def wsL_acts_r11 : List Cond := [Cond.static yX2_isInRange, Cond.code yX2_isInRange cX2_isInRange 2 (some .boolean)]
def wsL_acts : List Cond := .code yL_acts cL_acts 9 (some .boolean) :: ((wsL_acts_r1 ++ (wsL_acts_r2 ++ (wsL_acts_r3 ++ (wsL_acts_r4 ++ (wsL_acts_r5 ++ (wsL_acts_r6 ++ (wsL_acts_r7 ++ (wsL_acts_r8 ++ (wsL_acts_r9 ++ (wsL_acts_r10 ++ wsL_acts_r11)))))))))) ++ wsX30 ++ wsX20 ++ wsX10)
def wsL_areSmithies_r1 : List Cond := [Cond.constant RL 65 (-1000000001), Cond.methodLink RL 88 yX3_smithyOf, Cond.instanceMethod yX3_smithyOf, Cond.selects RX3 yX3_smithyOf yX3_smithyOf, Cond.initialized RX3, Cond.code yX3_smithyOf cX3_smithyOf 4 (some .int), Cond.fieldLink RX3 12 "BellowsRound" "now" "LBellowsRound$State;", Cond.constant RX3 65 (-1000000001), Cond.fieldLink RX3 66 "BellowsRound$Smithy" "mile" "I", Cond.fieldLink RX3 72 "BellowsRound$Smithy" "size" "I", Cond.fieldLink RX3 75 "BellowsRound$Smithy" "wear" "I", Cond.fieldLink RX3 81 "BellowsRound$Smithy" "heat" "I", Cond.fieldLink RX3 88 "BellowsRound$Smithy" "coldDays" "I", Cond.fieldLink RX3 91 "BellowsRound$Smithy" "debt" "I", Cond.fieldLink RX3 94 "BellowsRound$Smithy" "paid" "I", Cond.fieldLink RX3 97 "BellowsRound$Smithy" "mends" "I", Cond.fieldLink RX3 100 "BellowsRound$State" "mile" "I", Cond.methodLink RX3 61 yX2_find, Cond.instanceMethod yX2_find, Cond.selects RX2 yX2_find yX2_find, Cond.initialized RX2, Cond.code yX2_find cX2_find 2 (some (.object "BellowsRound$Smithy")), Cond.fieldLink RX2 37 "BellowsRound$State" "smithyCount" "I", Cond.fieldLink RX2 11 "BellowsRound$State" "smithies" "[LBellowsRound$Smithy;"]
def wsL_areSmithies_r2 : List Cond := [Cond.methodLink RX3 78 yX3_leakOf, Cond.static yX3_leakOf, Cond.code yX3_leakOf cX3_leakOf 1 (some .int), Cond.methodLink RX3 84 yX2_isCold, Cond.instanceMethod yX2_isCold, Cond.selects RX2 yX2_isCold yX2_isCold, Cond.code yX2_isCold cX2_isCold 2 (some .boolean), Cond.fieldLink RX2 17 "BellowsRound$State" "cold" "I", Cond.methodLink RX3 101 yX3_hoursOfWay, Cond.static yX3_hoursOfWay, Cond.code yX3_hoursOfWay cX3_hoursOfWay 2 (some .int), Cond.methodLink RX3 251 Lib.Math.abs.name, Cond.static Lib.Math.abs.name, Cond.initialized "java/lang/Math", Cond.code Lib.Math.abs.name Lib.Math.abs.code 1 (some .int), Cond.methodLink RX3 254 yX3_tensBegun, Cond.static yX3_tensBegun, Cond.code yX3_tensBegun cX3_tensBegun 1 (some .int), Cond.methodLink RL 91 yX3_why, Cond.instanceMethod yX3_why, Cond.selects RX3 yX3_why yX3_why, Cond.code yX3_why cX3_why 4 (some .int), Cond.methodLink RX3 104 yX3_isFlag, Cond.static yX3_isFlag]
def wsL_areSmithies_r3 : List Cond := [Cond.code yX3_isFlag cX3_isFlag 1 (some .boolean), Cond.methodLink RX3 107 yX2_reasonAgainst, Cond.instanceMethod yX2_reasonAgainst, Cond.selects RX2 yX2_reasonAgainst yX2_reasonAgainst, Cond.code yX2_reasonAgainst cX2_reasonAgainst 3 (some .int), Cond.fieldLink RX2 112 "BellowsRound$Smithy" "mile" "I", Cond.fieldLink RX2 43 "BellowsRound$State" "mile" "I", Cond.fieldLink RX2 30 "BellowsRound$State" "hoursLeft" "I", Cond.fieldLink RX2 46 "BellowsRound$State" "leather" "I", Cond.static yX3_hoursOfMend, Cond.code yX3_hoursOfMend cX3_hoursOfMend 1 (some .int), Cond.methodLink RX2 97 yX1_leatherOfMend, Cond.instanceMethod yX1_leatherOfMend, Cond.selects RX1 yX1_leatherOfMend yX1_leatherOfMend, Cond.initialized RX1, Cond.code yX1_leatherOfMend cX1_leatherOfMend 2 (some .int), Cond.fieldLink RX1 15 "BellowsRound$Smithy" "size" "I", Cond.fieldLink RX1 18 "BellowsRound$Smithy" "wear" "I", Cond.methodLink RX2 170 yX2_reasonOfSmithy, Cond.instanceMethod yX2_reasonOfSmithy, Cond.selects RX2 yX2_reasonOfSmithy yX2_reasonOfSmithy, Cond.code yX2_reasonOfSmithy cX2_reasonOfSmithy 2 (some .int), Cond.fieldLink RX2 100 "BellowsRound$Smithy" "debt" "I", Cond.fieldLink RX2 27 "BellowsRound$State" "patience" "I"]
def wsL_areSmithies_r4 : List Cond := [Cond.fieldLink RX2 106 "BellowsRound$Smithy" "wear" "I", Cond.methodLink RL 93 yX3_mend, Cond.instanceMethod yX3_mend, Cond.selects RX3 yX3_mend yX3_mend, Cond.code yX3_mend cX3_mend 6 (some .int), Cond.methodLink RX3 111 yX3_hoursOfMend, Cond.methodLink RX3 115 yX1_leatherOfMend, Cond.methodLink RX3 118 yX2_priceOfMend, Cond.instanceMethod yX2_priceOfMend, Cond.selects RX2 yX2_priceOfMend yX2_priceOfMend, Cond.code yX2_priceOfMend cX2_priceOfMend 3 (some .int), Cond.fieldLink RX2 24 "BellowsRound$State" "rate" "I", Cond.methodLink RX3 121 yX1_wearBehindMend, Cond.instanceMethod yX1_wearBehindMend, Cond.selects RX1 yX1_wearBehindMend yX1_wearBehindMend, Cond.code yX1_wearBehindMend cX1_wearBehindMend 2 (some .int), Cond.methodLink RL 19 yL_apart, Cond.static yL_apart, Cond.initialized RL, Cond.code yL_apart cL_apart 2 (some .int), Cond.methodLink RL 9 yL_tens, Cond.static yL_tens, Cond.code yL_tens cL_tens 1 (some .int), Cond.methodLink RL 25 yL_why]
def wsL_areSmithies_r5 : List Cond := [Cond.static yL_why, Cond.code yL_why cL_why 5 (some .int), Cond.methodLink RL 15 yL_takes, Cond.static yL_takes, Cond.code yL_takes cL_takes 3 (some .int), Cond.methodLink RL 29 yL_owes, Cond.static yL_owes, Cond.code yL_owes cL_owes 4 (some .int), Cond.methodLink RL 97 yX3_count, Cond.instanceMethod yX3_count, Cond.selects RX3 yX3_count yX3_count, Cond.code yX3_count cX3_count 2 (some .int), Cond.fieldLink RX3 133 "BellowsRound$State" "smithyCount" "I", Cond.fieldLink RX3 146 "BellowsRound$State" "day" "I", Cond.fieldLink RX3 149 "BellowsRound$State" "hoursLeft" "I", Cond.fieldLink RX3 152 "BellowsRound$State" "leather" "I", Cond.fieldLink RX3 155 "BellowsRound$State" "money" "I", Cond.fieldLink RX3 161 "BellowsRound$State" "paidForLeather" "I", Cond.fieldLink RX3 164 "BellowsRound$State" "owedForMends" "I", Cond.fieldLink RX3 170 "BellowsRound$State" "longestCold" "I", Cond.fieldLink RX3 173 "BellowsRound$State" "milesWalked" "I", Cond.fieldLink RX3 176 "BellowsRound" "states" "I", Cond.fieldLink RX3 26 "BellowsRound" "text" "LBellowsRound$OrderText;", Cond.fieldLink RX3 179 "BellowsRound$OrderText" "length" "I"]
def wsL_areSmithies_r6 : List Cond := [Cond.fieldLink RX3 182 "BellowsRound$State" "cold" "I", Cond.fieldLink RX3 185 "BellowsRound$State" "hours" "I", Cond.fieldLink RX3 188 "BellowsRound$State" "rate" "I", Cond.fieldLink RX3 191 "BellowsRound$State" "patience" "I", Cond.methodLink RX3 158 yX2_debtsTogether, Cond.instanceMethod yX2_debtsTogether, Cond.selects RX2 yX2_debtsTogether yX2_debtsTogether, Cond.code yX2_debtsTogether cX2_debtsTogether 4 (some .int), Cond.methodLink RX2 61 yX2_find, Cond.methodLink RX3 167 yX2_coldSet, Cond.instanceMethod yX2_coldSet, Cond.selects RX2 yX2_coldSet yX2_coldSet, Cond.code yX2_coldSet cX2_coldSet 4 (some .int), Cond.fieldLink RX2 113 "BellowsRound$Smithy" "heat" "I", Cond.methodLink RX2 116 yX2_isCold]
def wsL_areSmithies : List Cond := .code yL_areSmithies cL_areSmithies 9 (some .boolean) :: ((wsL_areSmithies_r1 ++ (wsL_areSmithies_r2 ++ (wsL_areSmithies_r3 ++ (wsL_areSmithies_r4 ++ (wsL_areSmithies_r5 ++ wsL_areSmithies_r6))))) ++ wsX30 ++ wsX10 ++ wsX20 ++ wsX00)
def wsL_isSo_r1 : List Cond := [Cond.methodLink RL 100 yL_areSmithies, Cond.static yL_areSmithies, Cond.initialized RL, Cond.code yL_areSmithies cL_areSmithies 9 (some .boolean), Cond.constant RL 65 (-1000000001), Cond.methodLink RL 88 yX3_smithyOf, Cond.instanceMethod yX3_smithyOf, Cond.selects RX3 yX3_smithyOf yX3_smithyOf, Cond.initialized RX3, Cond.code yX3_smithyOf cX3_smithyOf 4 (some .int), Cond.fieldLink RX3 12 "BellowsRound" "now" "LBellowsRound$State;", Cond.constant RX3 65 (-1000000001), Cond.fieldLink RX3 66 "BellowsRound$Smithy" "mile" "I", Cond.fieldLink RX3 72 "BellowsRound$Smithy" "size" "I", Cond.fieldLink RX3 75 "BellowsRound$Smithy" "wear" "I", Cond.fieldLink RX3 81 "BellowsRound$Smithy" "heat" "I", Cond.fieldLink RX3 88 "BellowsRound$Smithy" "coldDays" "I", Cond.fieldLink RX3 91 "BellowsRound$Smithy" "debt" "I", Cond.fieldLink RX3 94 "BellowsRound$Smithy" "paid" "I", Cond.fieldLink RX3 97 "BellowsRound$Smithy" "mends" "I", Cond.fieldLink RX3 100 "BellowsRound$State" "mile" "I", Cond.methodLink RX3 61 yX2_find, Cond.instanceMethod yX2_find, Cond.selects RX2 yX2_find yX2_find]
def wsL_isSo_r2 : List Cond := [Cond.initialized RX2, Cond.code yX2_find cX2_find 2 (some (.object "BellowsRound$Smithy")), Cond.fieldLink RX2 37 "BellowsRound$State" "smithyCount" "I", Cond.fieldLink RX2 11 "BellowsRound$State" "smithies" "[LBellowsRound$Smithy;", Cond.methodLink RX3 78 yX3_leakOf, Cond.static yX3_leakOf, Cond.code yX3_leakOf cX3_leakOf 1 (some .int), Cond.methodLink RX3 84 yX2_isCold, Cond.instanceMethod yX2_isCold, Cond.selects RX2 yX2_isCold yX2_isCold, Cond.code yX2_isCold cX2_isCold 2 (some .boolean), Cond.fieldLink RX2 17 "BellowsRound$State" "cold" "I", Cond.methodLink RX3 101 yX3_hoursOfWay, Cond.static yX3_hoursOfWay, Cond.code yX3_hoursOfWay cX3_hoursOfWay 2 (some .int), Cond.methodLink RX3 251 Lib.Math.abs.name, Cond.static Lib.Math.abs.name, Cond.initialized "java/lang/Math", Cond.code Lib.Math.abs.name Lib.Math.abs.code 1 (some .int), Cond.methodLink RX3 254 yX3_tensBegun, Cond.static yX3_tensBegun, Cond.code yX3_tensBegun cX3_tensBegun 1 (some .int), Cond.methodLink RL 91 yX3_why, Cond.instanceMethod yX3_why]
def wsL_isSo_r3 : List Cond := [Cond.selects RX3 yX3_why yX3_why, Cond.code yX3_why cX3_why 4 (some .int), Cond.methodLink RX3 104 yX3_isFlag, Cond.static yX3_isFlag, Cond.code yX3_isFlag cX3_isFlag 1 (some .boolean), Cond.methodLink RX3 107 yX2_reasonAgainst, Cond.instanceMethod yX2_reasonAgainst, Cond.selects RX2 yX2_reasonAgainst yX2_reasonAgainst, Cond.code yX2_reasonAgainst cX2_reasonAgainst 3 (some .int), Cond.fieldLink RX2 112 "BellowsRound$Smithy" "mile" "I", Cond.fieldLink RX2 43 "BellowsRound$State" "mile" "I", Cond.fieldLink RX2 30 "BellowsRound$State" "hoursLeft" "I", Cond.fieldLink RX2 46 "BellowsRound$State" "leather" "I", Cond.static yX3_hoursOfMend, Cond.code yX3_hoursOfMend cX3_hoursOfMend 1 (some .int), Cond.methodLink RX2 97 yX1_leatherOfMend, Cond.instanceMethod yX1_leatherOfMend, Cond.selects RX1 yX1_leatherOfMend yX1_leatherOfMend, Cond.initialized RX1, Cond.code yX1_leatherOfMend cX1_leatherOfMend 2 (some .int), Cond.fieldLink RX1 15 "BellowsRound$Smithy" "size" "I", Cond.fieldLink RX1 18 "BellowsRound$Smithy" "wear" "I", Cond.methodLink RX2 170 yX2_reasonOfSmithy, Cond.instanceMethod yX2_reasonOfSmithy]
def wsL_isSo_r4 : List Cond := [Cond.selects RX2 yX2_reasonOfSmithy yX2_reasonOfSmithy, Cond.code yX2_reasonOfSmithy cX2_reasonOfSmithy 2 (some .int), Cond.fieldLink RX2 100 "BellowsRound$Smithy" "debt" "I", Cond.fieldLink RX2 27 "BellowsRound$State" "patience" "I", Cond.fieldLink RX2 106 "BellowsRound$Smithy" "wear" "I", Cond.methodLink RL 93 yX3_mend, Cond.instanceMethod yX3_mend, Cond.selects RX3 yX3_mend yX3_mend, Cond.code yX3_mend cX3_mend 6 (some .int), Cond.methodLink RX3 111 yX3_hoursOfMend, Cond.methodLink RX3 115 yX1_leatherOfMend, Cond.methodLink RX3 118 yX2_priceOfMend, Cond.instanceMethod yX2_priceOfMend, Cond.selects RX2 yX2_priceOfMend yX2_priceOfMend, Cond.code yX2_priceOfMend cX2_priceOfMend 3 (some .int), Cond.fieldLink RX2 24 "BellowsRound$State" "rate" "I", Cond.methodLink RX3 121 yX1_wearBehindMend, Cond.instanceMethod yX1_wearBehindMend, Cond.selects RX1 yX1_wearBehindMend yX1_wearBehindMend, Cond.code yX1_wearBehindMend cX1_wearBehindMend 2 (some .int), Cond.methodLink RL 19 yL_apart, Cond.static yL_apart, Cond.code yL_apart cL_apart 2 (some .int), Cond.methodLink RL 9 yL_tens]
def wsL_isSo_r5 : List Cond := [Cond.static yL_tens, Cond.code yL_tens cL_tens 1 (some .int), Cond.methodLink RL 25 yL_why, Cond.static yL_why, Cond.code yL_why cL_why 5 (some .int), Cond.methodLink RL 15 yL_takes, Cond.static yL_takes, Cond.code yL_takes cL_takes 3 (some .int), Cond.methodLink RL 29 yL_owes, Cond.static yL_owes, Cond.code yL_owes cL_owes 4 (some .int), Cond.methodLink RL 97 yX3_count, Cond.instanceMethod yX3_count, Cond.selects RX3 yX3_count yX3_count, Cond.code yX3_count cX3_count 2 (some .int), Cond.fieldLink RX3 133 "BellowsRound$State" "smithyCount" "I", Cond.fieldLink RX3 146 "BellowsRound$State" "day" "I", Cond.fieldLink RX3 149 "BellowsRound$State" "hoursLeft" "I", Cond.fieldLink RX3 152 "BellowsRound$State" "leather" "I", Cond.fieldLink RX3 155 "BellowsRound$State" "money" "I", Cond.fieldLink RX3 161 "BellowsRound$State" "paidForLeather" "I", Cond.fieldLink RX3 164 "BellowsRound$State" "owedForMends" "I", Cond.fieldLink RX3 170 "BellowsRound$State" "longestCold" "I", Cond.fieldLink RX3 173 "BellowsRound$State" "milesWalked" "I"]
def wsL_isSo_r6 : List Cond := [Cond.fieldLink RX3 176 "BellowsRound" "states" "I", Cond.fieldLink RX3 26 "BellowsRound" "text" "LBellowsRound$OrderText;", Cond.fieldLink RX3 179 "BellowsRound$OrderText" "length" "I", Cond.fieldLink RX3 182 "BellowsRound$State" "cold" "I", Cond.fieldLink RX3 185 "BellowsRound$State" "hours" "I", Cond.fieldLink RX3 188 "BellowsRound$State" "rate" "I", Cond.fieldLink RX3 191 "BellowsRound$State" "patience" "I", Cond.methodLink RX3 158 yX2_debtsTogether, Cond.instanceMethod yX2_debtsTogether, Cond.selects RX2 yX2_debtsTogether yX2_debtsTogether, Cond.code yX2_debtsTogether cX2_debtsTogether 4 (some .int), Cond.methodLink RX2 61 yX2_find, Cond.methodLink RX3 167 yX2_coldSet, Cond.instanceMethod yX2_coldSet, Cond.selects RX2 yX2_coldSet yX2_coldSet, Cond.code yX2_coldSet cX2_coldSet 4 (some .int), Cond.fieldLink RX2 113 "BellowsRound$Smithy" "heat" "I", Cond.methodLink RX2 116 yX2_isCold, Cond.methodLink RL 36 yL_colds, Cond.static yL_colds, Cond.code yL_colds cL_colds 4 (some .int)]
def wsL_isSo : List Cond := .code yL_isSo cL_isSo 5 (some .boolean) :: ((wsL_isSo_r1 ++ (wsL_isSo_r2 ++ (wsL_isSo_r3 ++ (wsL_isSo_r4 ++ (wsL_isSo_r5 ++ wsL_isSo_r6))))) ++ wsX30 ++ wsX10 ++ wsX20 ++ wsX00)
def wsL_law_r1 : List Cond := [Cond.classLink RL 45 RX3, Cond.instantiable RX3 9, Cond.initialized RX3, Cond.arrayClass .int, Cond.constant RL 8 (2147483647), Cond.constant RL 65 (-1000000001), Cond.methodLink RL 104 yX3_init, Cond.instanceMethod yX3_init, Cond.code yX3_init cX3_init 2 none, Cond.methodLink RX3 3 objectInit, Cond.instanceMethod objectInit, Cond.code objectInit ⟨#[0xb1]⟩ 1 none, Cond.classLink RX3 9 RX2, Cond.instantiable RX2 15, Cond.initialized RX2, Cond.fieldLink RX3 12 "BellowsRound" "now" "LBellowsRound$State;", Cond.fieldLink RX3 16 "BellowsRound" "trial" "LBellowsRound$State;", Cond.fieldLink RX3 19 "BellowsRound" "history" "[LBellowsRound$State;", Cond.classLink RX3 23 RX0, Cond.instantiable RX0 6, Cond.initialized RX0, Cond.fieldLink RX3 26 "BellowsRound" "text" "LBellowsRound$OrderText;", Cond.methodLink RX3 11 yX2_init, Cond.instanceMethod yX2_init]
def wsL_law_r2 : List Cond := [Cond.code yX2_init cX2_init 2 none, Cond.methodLink RX2 3 objectInit, Cond.classLink RX2 9 RX1, Cond.fieldLink RX2 11 "BellowsRound$State" "smithies" "[LBellowsRound$Smithy;", Cond.fieldLink RX2 17 "BellowsRound$State" "cold" "I", Cond.fieldLink RX2 21 "BellowsRound$State" "hours" "I", Cond.fieldLink RX2 24 "BellowsRound$State" "rate" "I", Cond.fieldLink RX2 27 "BellowsRound$State" "patience" "I", Cond.fieldLink RX2 30 "BellowsRound$State" "hoursLeft" "I", Cond.fieldLink RX2 33 "BellowsRound$State" "money" "I", Cond.instantiable RX1 8, Cond.initialized RX1, Cond.instanceMethod yX1_init, Cond.code yX1_init cX1_init 1 none, Cond.methodLink RX1 3 objectInit, Cond.instanceMethod yX0_init, Cond.code yX0_init cX0_init 1 none, Cond.methodLink RX0 3 objectInit, Cond.arrayClass .char, Cond.fieldLink RX0 9 "BellowsRound$OrderText" "characters" "[C", Cond.methodLink RL 97 yX3_count, Cond.instanceMethod yX3_count, Cond.selects RX3 yX3_count yX3_count, Cond.code yX3_count cX3_count 2 (some .int)]
def wsL_law_r3 : List Cond := [Cond.fieldLink RX3 133 "BellowsRound$State" "smithyCount" "I", Cond.fieldLink RX3 146 "BellowsRound$State" "day" "I", Cond.fieldLink RX3 100 "BellowsRound$State" "mile" "I", Cond.fieldLink RX3 149 "BellowsRound$State" "hoursLeft" "I", Cond.fieldLink RX3 152 "BellowsRound$State" "leather" "I", Cond.fieldLink RX3 155 "BellowsRound$State" "money" "I", Cond.fieldLink RX3 161 "BellowsRound$State" "paidForLeather" "I", Cond.fieldLink RX3 164 "BellowsRound$State" "owedForMends" "I", Cond.fieldLink RX3 170 "BellowsRound$State" "longestCold" "I", Cond.fieldLink RX3 173 "BellowsRound$State" "milesWalked" "I", Cond.fieldLink RX3 176 "BellowsRound" "states" "I", Cond.fieldLink RX3 179 "BellowsRound$OrderText" "length" "I", Cond.fieldLink RX3 182 "BellowsRound$State" "cold" "I", Cond.fieldLink RX3 185 "BellowsRound$State" "hours" "I", Cond.fieldLink RX3 188 "BellowsRound$State" "rate" "I", Cond.fieldLink RX3 191 "BellowsRound$State" "patience" "I", Cond.constant RX3 65 (-1000000001), Cond.methodLink RX3 158 yX2_debtsTogether, Cond.instanceMethod yX2_debtsTogether, Cond.selects RX2 yX2_debtsTogether yX2_debtsTogether, Cond.code yX2_debtsTogether cX2_debtsTogether 4 (some .int), Cond.fieldLink RX2 37 "BellowsRound$State" "smithyCount" "I", Cond.fieldLink RX2 100 "BellowsRound$Smithy" "debt" "I", Cond.methodLink RX2 61 yX2_find]
def wsL_law_r4 : List Cond := [Cond.instanceMethod yX2_find, Cond.selects RX2 yX2_find yX2_find, Cond.code yX2_find cX2_find 2 (some (.object "BellowsRound$Smithy")), Cond.methodLink RX3 167 yX2_coldSet, Cond.instanceMethod yX2_coldSet, Cond.selects RX2 yX2_coldSet yX2_coldSet, Cond.code yX2_coldSet cX2_coldSet 4 (some .int), Cond.fieldLink RX2 113 "BellowsRound$Smithy" "heat" "I", Cond.methodLink RX2 116 yX2_isCold, Cond.instanceMethod yX2_isCold, Cond.selects RX2 yX2_isCold yX2_isCold, Cond.code yX2_isCold cX2_isCold 2 (some .boolean), Cond.methodLink RL 105 yL_cell, Cond.static yL_cell, Cond.initialized RL, Cond.code yL_cell cL_cell 2 (some .int), Cond.constant RL 7 (40503), Cond.methodLink RL 108 yL_acts, Cond.static yL_acts, Cond.code yL_acts cL_acts 9 (some .boolean), Cond.constant RL 40 (10000000), Cond.constant RL 24 (-1000000003), Cond.methodLink RL 41 yL_low, Cond.static yL_low]
def wsL_law_r5 : List Cond := [Cond.code yL_low cL_low 2 (some .int), Cond.methodLink RL 44 yX3_smithy, Cond.instanceMethod yX3_smithy, Cond.selects RX3 yX3_smithy yX3_smithy, Cond.code yX3_smithy cX3_smithy 3 (some .int), Cond.methodLink RX3 30 yX2_copyFrom, Cond.instanceMethod yX2_copyFrom, Cond.selects RX2 yX2_copyFrom yX2_copyFrom, Cond.code yX2_copyFrom cX2_copyFrom 5 none, Cond.fieldLink RX2 40 "BellowsRound$State" "day" "I", Cond.fieldLink RX2 43 "BellowsRound$State" "mile" "I", Cond.fieldLink RX2 46 "BellowsRound$State" "leather" "I", Cond.fieldLink RX2 49 "BellowsRound$State" "paidForLeather" "I", Cond.fieldLink RX2 52 "BellowsRound$State" "owedForMends" "I", Cond.fieldLink RX2 55 "BellowsRound$State" "longestCold" "I", Cond.fieldLink RX2 58 "BellowsRound$State" "milesWalked" "I", Cond.methodLink RX2 65 yX1_copyFrom, Cond.instanceMethod yX1_copyFrom, Cond.selects RX1 yX1_copyFrom yX1_copyFrom, Cond.code yX1_copyFrom cX1_copyFrom 2 none, Cond.fieldLink RX1 9 "BellowsRound$Smithy" "mile" "I", Cond.fieldLink RX1 15 "BellowsRound$Smithy" "size" "I", Cond.fieldLink RX1 18 "BellowsRound$Smithy" "wear" "I", Cond.fieldLink RX1 21 "BellowsRound$Smithy" "heat" "I"]
def wsL_law_r6 : List Cond := [Cond.fieldLink RX1 24 "BellowsRound$Smithy" "coldDays" "I", Cond.fieldLink RX1 27 "BellowsRound$Smithy" "debt" "I", Cond.fieldLink RX1 30 "BellowsRound$Smithy" "paid" "I", Cond.fieldLink RX1 33 "BellowsRound$Smithy" "mends" "I", Cond.methodLink RX3 34 yX2_addSmithy, Cond.instanceMethod yX2_addSmithy, Cond.selects RX2 yX2_addSmithy yX2_addSmithy, Cond.code yX2_addSmithy cX2_addSmithy 5 (some .int), Cond.constant RX2 69 (-1000000001), Cond.constant RX2 70 (-1000000003), Cond.methodLink RX2 71 yX1_beginAt, Cond.instanceMethod yX1_beginAt, Cond.selects RX1 yX1_beginAt yX1_beginAt, Cond.code yX1_beginAt cX1_beginAt 3 none, Cond.methodLink RX3 38 yX3_commit, Cond.instanceMethod yX3_commit, Cond.selects RX3 yX3_commit yX3_commit, Cond.code yX3_commit cX3_commit 3 (some .int), Cond.methodLink RX3 215 yX3_remember, Cond.instanceMethod yX3_remember, Cond.selects RX3 yX3_remember yX3_remember, Cond.code yX3_remember cX3_remember 2 none, Cond.methodLink RX3 218 yX3_dropOldestState, Cond.instanceMethod yX3_dropOldestState]
def wsL_law_r7 : List Cond := [Cond.selects RX3 yX3_dropOldestState yX3_dropOldestState, Cond.code yX3_dropOldestState cX3_dropOldestState 3 none, Cond.methodLink RL 49 yL_walks, Cond.static yL_walks, Cond.code yL_walks cL_walks 3 (some .int), Cond.constant RL 23 (-1000000002), Cond.methodLink RL 19 yL_apart, Cond.static yL_apart, Cond.code yL_apart cL_apart 2 (some .int), Cond.methodLink RL 9 yL_tens, Cond.static yL_tens, Cond.code yL_tens cL_tens 1 (some .int), Cond.methodLink RL 53 yX3_walk, Cond.instanceMethod yX3_walk, Cond.selects RX3 yX3_walk yX3_walk, Cond.code yX3_walk cX3_walk 2 (some .int), Cond.methodLink RX3 42 yX2_walkTo, Cond.instanceMethod yX2_walkTo, Cond.selects RX2 yX2_walkTo yX2_walkTo, Cond.code yX2_walkTo cX2_walkTo 3 (some .int), Cond.constant RX2 79 (-1000000002), Cond.methodLink RX2 80 Lib.Math.abs.name, Cond.static Lib.Math.abs.name, Cond.initialized "java/lang/Math"]
def wsL_law_r8 : List Cond := [Cond.code Lib.Math.abs.name Lib.Math.abs.code 1 (some .int), Cond.static yX3_hoursOfWay, Cond.code yX3_hoursOfWay cX3_hoursOfWay 2 (some .int), Cond.methodLink RX3 251 Lib.Math.abs.name, Cond.methodLink RX3 254 yX3_tensBegun, Cond.static yX3_tensBegun, Cond.code yX3_tensBegun cX3_tensBegun 1 (some .int), Cond.methodLink RL 56 yL_buys, Cond.static yL_buys, Cond.code yL_buys cL_buys 2 (some .int), Cond.methodLink RL 59 yX3_buy, Cond.instanceMethod yX3_buy, Cond.selects RX3 yX3_buy yX3_buy, Cond.code yX3_buy cX3_buy 2 (some .int), Cond.methodLink RX3 45 yX2_buyLeather, Cond.instanceMethod yX2_buyLeather, Cond.selects RX2 yX2_buyLeather yX2_buyLeather, Cond.code yX2_buyLeather cX2_buyLeather 3 (some .int), Cond.methodLink RL 62 yX3_patch, Cond.instanceMethod yX3_patch, Cond.selects RX3 yX3_patch yX3_patch, Cond.code yX3_patch cX3_patch 2 (some .int), Cond.methodLink RX3 48 yX2_mendBellows, Cond.instanceMethod yX2_mendBellows]
def wsL_law_r9 : List Cond := [Cond.selects RX2 yX2_mendBellows yX2_mendBellows, Cond.code yX2_mendBellows cX2_mendBellows 5 (some .int), Cond.fieldLink RX2 106 "BellowsRound$Smithy" "wear" "I", Cond.fieldLink RX2 109 "BellowsRound$Smithy" "mends" "I", Cond.methodLink RX2 86 yX2_reasonAgainst, Cond.instanceMethod yX2_reasonAgainst, Cond.selects RX2 yX2_reasonAgainst yX2_reasonAgainst, Cond.code yX2_reasonAgainst cX2_reasonAgainst 3 (some .int), Cond.fieldLink RX2 112 "BellowsRound$Smithy" "mile" "I", Cond.static yX3_hoursOfMend, Cond.code yX3_hoursOfMend cX3_hoursOfMend 1 (some .int), Cond.methodLink RX2 97 yX1_leatherOfMend, Cond.instanceMethod yX1_leatherOfMend, Cond.selects RX1 yX1_leatherOfMend yX1_leatherOfMend, Cond.code yX1_leatherOfMend cX1_leatherOfMend 2 (some .int), Cond.methodLink RX2 170 yX2_reasonOfSmithy, Cond.instanceMethod yX2_reasonOfSmithy, Cond.selects RX2 yX2_reasonOfSmithy yX2_reasonOfSmithy, Cond.code yX2_reasonOfSmithy cX2_reasonOfSmithy 2 (some .int), Cond.methodLink RX2 90 yX2_priceOfMend, Cond.instanceMethod yX2_priceOfMend, Cond.selects RX2 yX2_priceOfMend yX2_priceOfMend, Cond.code yX2_priceOfMend cX2_priceOfMend 3 (some .int), Cond.methodLink RX2 103 yX1_wearBehindMend]
def wsL_law_r10 : List Cond := [Cond.instanceMethod yX1_wearBehindMend, Cond.selects RX1 yX1_wearBehindMend yX1_wearBehindMend, Cond.code yX1_wearBehindMend cX1_wearBehindMend 2 (some .int), Cond.methodLink RL 66 yX3_hide, Cond.instanceMethod yX3_hide, Cond.selects RX3 yX3_hide yX3_hide, Cond.code yX3_hide cX3_hide 2 (some .int), Cond.methodLink RL 69 yX3_collect, Cond.instanceMethod yX3_collect, Cond.selects RX3 yX3_collect yX3_collect, Cond.code yX3_collect cX3_collect 2 (some .int), Cond.methodLink RX3 52 yX2_collectDebt, Cond.instanceMethod yX2_collectDebt, Cond.selects RX2 yX2_collectDebt yX2_collectDebt, Cond.code yX2_collectDebt cX2_collectDebt 4 (some .int), Cond.fieldLink RX2 120 "BellowsRound$Smithy" "paid" "I", Cond.methodLink RL 72 yL_mends, Cond.static yL_mends, Cond.code yL_mends cL_mends 5 (some .int), Cond.methodLink RL 25 yL_why, Cond.static yL_why, Cond.code yL_why cL_why 5 (some .int), Cond.methodLink RL 15 yL_takes, Cond.static yL_takes]
def wsL_law_r11 : List Cond := [Cond.code yL_takes cL_takes 3 (some .int), Cond.methodLink RL 29 yL_owes, Cond.static yL_owes, Cond.code yL_owes cL_owes 4 (some .int), Cond.methodLink RL 75 yL_collects, Cond.static yL_collects, Cond.code yL_collects cL_collects 4 (some .int), Cond.methodLink RL 79 yX3_end, Cond.instanceMethod yX3_end, Cond.selects RX3 yX3_end yX3_end, Cond.code yX3_end cX3_end 2 (some .int), Cond.methodLink RX3 55 yX2_endDays, Cond.instanceMethod yX2_endDays, Cond.selects RX2 yX2_endDays yX2_endDays, Cond.code yX2_endDays cX2_endDays 5 (some .int), Cond.methodLink RX2 123 yX2_endDayOf, Cond.instanceMethod yX2_endDayOf, Cond.selects RX2 yX2_endDayOf yX2_endDayOf, Cond.code yX2_endDayOf cX2_endDayOf 2 none, Cond.fieldLink RX2 135 "BellowsRound$Smithy" "size" "I", Cond.fieldLink RX2 144 "BellowsRound$Smithy" "coldDays" "I", Cond.methodLink RX2 147 Lib.Math.max.name, Cond.static Lib.Math.max.name, Cond.code Lib.Math.max.name Lib.Math.max.code 2 (some .int)]
def wsL_law_r12 : List Cond := [Cond.static yX3_wearBehindDay, Cond.code yX3_wearBehindDay cX3_wearBehindDay 2 (some .int), Cond.methodLink RX3 243 Lib.Math.min.name, Cond.static Lib.Math.min.name, Cond.code Lib.Math.min.name Lib.Math.min.code 2 (some .int), Cond.static yX3_heatBehindDay, Cond.code yX3_heatBehindDay cX3_heatBehindDay 3 (some .int), Cond.methodLink RX3 248 Lib.Math.max.name, Cond.methodLink RX3 78 yX3_leakOf, Cond.static yX3_leakOf, Cond.code yX3_leakOf cX3_leakOf 1 (some .int), Cond.methodLink RX2 126 yX2_coldSet, Cond.methodLink RX2 130 yJ6_bitCount_0f7a4, Cond.static yJ6_bitCount_0f7a4, Cond.initialized RJ6, Cond.code yJ6_bitCount_0f7a4 cJ6_bitCount_0f7a4 1 (some .int), Cond.constant RJ6 265 (1431655765), Cond.constant RJ6 266 (858993459), Cond.constant RJ6 267 (252645135), Cond.methodLink RL 82 yL_ends, Cond.static yL_ends, Cond.code yL_ends cL_ends 5 (some .int), Cond.methodLink RL 32 yL_day, Cond.static yL_day]
def wsL_law_r13 : List Cond := [Cond.code yL_day cL_day 4 none, Cond.methodLink RL 36 yL_colds, Cond.static yL_colds, Cond.code yL_colds cL_colds 4 (some .int), Cond.methodLink RL 85 yX3_set, Cond.instanceMethod yX3_set, Cond.selects RX3 yX3_set yX3_set, Cond.code yX3_set cX3_set 3 (some .int), Cond.methodLink RX3 58 yX2_changeSetting, Cond.instanceMethod yX2_changeSetting, Cond.selects RX2 yX2_changeSetting yX2_changeSetting, Cond.code yX2_changeSetting cX2_changeSetting 4 (some .int), Cond.methodLink RX2 150 yX2_isInRange, Cond.static yX2_isInRange, Cond.code yX2_isInRange cX2_isInRange 2 (some .boolean), Cond.methodLink RL 112 yL_isSo, Cond.static yL_isSo, Cond.code yL_isSo cL_isSo 5 (some .boolean), Cond.methodLink RL 100 yL_areSmithies, Cond.static yL_areSmithies, Cond.code yL_areSmithies cL_areSmithies 9 (some .boolean), Cond.methodLink RL 88 yX3_smithyOf, Cond.instanceMethod yX3_smithyOf, Cond.selects RX3 yX3_smithyOf yX3_smithyOf]
def wsL_law_r14 : List Cond := [Cond.code yX3_smithyOf cX3_smithyOf 4 (some .int), Cond.fieldLink RX3 66 "BellowsRound$Smithy" "mile" "I", Cond.fieldLink RX3 72 "BellowsRound$Smithy" "size" "I", Cond.fieldLink RX3 75 "BellowsRound$Smithy" "wear" "I", Cond.fieldLink RX3 81 "BellowsRound$Smithy" "heat" "I", Cond.fieldLink RX3 88 "BellowsRound$Smithy" "coldDays" "I", Cond.fieldLink RX3 91 "BellowsRound$Smithy" "debt" "I", Cond.fieldLink RX3 94 "BellowsRound$Smithy" "paid" "I", Cond.fieldLink RX3 97 "BellowsRound$Smithy" "mends" "I", Cond.methodLink RX3 61 yX2_find, Cond.methodLink RX3 84 yX2_isCold, Cond.methodLink RX3 101 yX3_hoursOfWay, Cond.methodLink RL 91 yX3_why, Cond.instanceMethod yX3_why, Cond.selects RX3 yX3_why yX3_why, Cond.code yX3_why cX3_why 4 (some .int), Cond.methodLink RX3 104 yX3_isFlag, Cond.static yX3_isFlag, Cond.code yX3_isFlag cX3_isFlag 1 (some .boolean), Cond.methodLink RX3 107 yX2_reasonAgainst, Cond.methodLink RL 93 yX3_mend, Cond.instanceMethod yX3_mend, Cond.selects RX3 yX3_mend yX3_mend, Cond.code yX3_mend cX3_mend 6 (some .int)]
def wsL_law_r15 : List Cond := [Cond.methodLink RX3 111 yX3_hoursOfMend, Cond.methodLink RX3 115 yX1_leatherOfMend, Cond.methodLink RX3 118 yX2_priceOfMend, Cond.methodLink RX3 121 yX1_wearBehindMend]
def wsL_law : List Cond := (wsL_law_r1 ++ (wsL_law_r2 ++ (wsL_law_r3 ++ (wsL_law_r4 ++ (wsL_law_r5 ++ (wsL_law_r6 ++ (wsL_law_r7 ++ (wsL_law_r8 ++ (wsL_law_r9 ++ (wsL_law_r10 ++ (wsL_law_r11 ++ (wsL_law_r12 ++ (wsL_law_r13 ++ (wsL_law_r14 ++ wsL_law_r15)))))))))))))) ++ wsX30 ++ wsX20 ++ wsX00 ++ wsX10 ++ ([] : List Cond)
end
section
theorem dX0_init_0 : decode cX0_init 0 = .ok (.aload_n 0, 1) := by decide +kernel
theorem dX0_init_1 : decode cX0_init 1 = .ok (.invokespecial 3, 3) := by decide +kernel
theorem dX0_init_4 : decode cX0_init 4 = .ok (.aload_n 0, 1) := by decide +kernel
theorem dX0_init_5 : decode cX0_init 5 = .ok (.bipush 60, 2) := by decide +kernel
theorem dX0_init_7 : decode cX0_init 7 = .ok (.newarray .char, 2) := by decide +kernel
theorem dX0_init_9 : decode cX0_init 9 = .ok (.putfield 9, 3) := by decide +kernel
theorem dX0_init_12 : decode cX0_init 12 = .ok (.return_, 1) := by decide +kernel
theorem dX1_init_0 : decode cX1_init 0 = .ok (.aload_n 0, 1) := by decide +kernel
theorem dX1_init_1 : decode cX1_init 1 = .ok (.invokespecial 3, 3) := by decide +kernel
theorem dX1_init_4 : decode cX1_init 4 = .ok (.return_, 1) := by decide +kernel
theorem dX1_beginAt_0 : decode cX1_beginAt 0 = .ok (.aload_n 0, 1) := by decide +kernel
theorem dX1_beginAt_1 : decode cX1_beginAt 1 = .ok (.iload_n 1, 1) := by decide +kernel
theorem dX1_beginAt_2 : decode cX1_beginAt 2 = .ok (.putfield 9, 3) := by decide +kernel
theorem dX1_beginAt_5 : decode cX1_beginAt 5 = .ok (.aload_n 0, 1) := by decide +kernel
theorem dX1_beginAt_6 : decode cX1_beginAt 6 = .ok (.iload_n 2, 1) := by decide +kernel
theorem dX1_beginAt_7 : decode cX1_beginAt 7 = .ok (.putfield 15, 3) := by decide +kernel
theorem dX1_beginAt_10 : decode cX1_beginAt 10 = .ok (.aload_n 0, 1) := by decide +kernel
theorem dX1_beginAt_11 : decode cX1_beginAt 11 = .ok (.iconst 0, 1) := by decide +kernel
theorem dX1_beginAt_12 : decode cX1_beginAt 12 = .ok (.putfield 18, 3) := by decide +kernel
theorem dX1_beginAt_15 : decode cX1_beginAt 15 = .ok (.aload_n 0, 1) := by decide +kernel
theorem dX1_beginAt_16 : decode cX1_beginAt 16 = .ok (.bipush 100, 2) := by decide +kernel
theorem dX1_beginAt_18 : decode cX1_beginAt 18 = .ok (.putfield 21, 3) := by decide +kernel
theorem dX1_beginAt_21 : decode cX1_beginAt 21 = .ok (.aload_n 0, 1) := by decide +kernel
theorem dX1_beginAt_22 : decode cX1_beginAt 22 = .ok (.iconst 0, 1) := by decide +kernel
theorem dX1_beginAt_23 : decode cX1_beginAt 23 = .ok (.putfield 24, 3) := by decide +kernel
theorem dX1_beginAt_26 : decode cX1_beginAt 26 = .ok (.aload_n 0, 1) := by decide +kernel
theorem dX1_beginAt_27 : decode cX1_beginAt 27 = .ok (.iconst 0, 1) := by decide +kernel
theorem dX1_beginAt_28 : decode cX1_beginAt 28 = .ok (.putfield 27, 3) := by decide +kernel
theorem dX1_beginAt_31 : decode cX1_beginAt 31 = .ok (.aload_n 0, 1) := by decide +kernel
theorem dX1_beginAt_32 : decode cX1_beginAt 32 = .ok (.iconst 0, 1) := by decide +kernel
theorem dX1_beginAt_33 : decode cX1_beginAt 33 = .ok (.putfield 30, 3) := by decide +kernel
theorem dX1_beginAt_36 : decode cX1_beginAt 36 = .ok (.aload_n 0, 1) := by decide +kernel
theorem dX1_beginAt_37 : decode cX1_beginAt 37 = .ok (.iconst 0, 1) := by decide +kernel
theorem dX1_beginAt_38 : decode cX1_beginAt 38 = .ok (.putfield 33, 3) := by decide +kernel
theorem dX1_beginAt_41 : decode cX1_beginAt 41 = .ok (.return_, 1) := by decide +kernel
theorem dX1_copyFrom_0 : decode cX1_copyFrom 0 = .ok (.aload_n 0, 1) := by decide +kernel
theorem dX1_copyFrom_1 : decode cX1_copyFrom 1 = .ok (.aload_n 1, 1) := by decide +kernel
theorem dX1_copyFrom_2 : decode cX1_copyFrom 2 = .ok (.getfield 9, 3) := by decide +kernel
theorem dX1_copyFrom_5 : decode cX1_copyFrom 5 = .ok (.putfield 9, 3) := by decide +kernel
theorem dX1_copyFrom_8 : decode cX1_copyFrom 8 = .ok (.aload_n 0, 1) := by decide +kernel
theorem dX1_copyFrom_9 : decode cX1_copyFrom 9 = .ok (.aload_n 1, 1) := by decide +kernel
theorem dX1_copyFrom_10 : decode cX1_copyFrom 10 = .ok (.getfield 15, 3) := by decide +kernel
theorem dX1_copyFrom_13 : decode cX1_copyFrom 13 = .ok (.putfield 15, 3) := by decide +kernel
theorem dX1_copyFrom_16 : decode cX1_copyFrom 16 = .ok (.aload_n 0, 1) := by decide +kernel
theorem dX1_copyFrom_17 : decode cX1_copyFrom 17 = .ok (.aload_n 1, 1) := by decide +kernel
theorem dX1_copyFrom_18 : decode cX1_copyFrom 18 = .ok (.getfield 18, 3) := by decide +kernel
theorem dX1_copyFrom_21 : decode cX1_copyFrom 21 = .ok (.putfield 18, 3) := by decide +kernel
theorem dX1_copyFrom_24 : decode cX1_copyFrom 24 = .ok (.aload_n 0, 1) := by decide +kernel
theorem dX1_copyFrom_25 : decode cX1_copyFrom 25 = .ok (.aload_n 1, 1) := by decide +kernel
theorem dX1_copyFrom_26 : decode cX1_copyFrom 26 = .ok (.getfield 21, 3) := by decide +kernel
theorem dX1_copyFrom_29 : decode cX1_copyFrom 29 = .ok (.putfield 21, 3) := by decide +kernel
theorem dX1_copyFrom_32 : decode cX1_copyFrom 32 = .ok (.aload_n 0, 1) := by decide +kernel
theorem dX1_copyFrom_33 : decode cX1_copyFrom 33 = .ok (.aload_n 1, 1) := by decide +kernel
theorem dX1_copyFrom_34 : decode cX1_copyFrom 34 = .ok (.getfield 24, 3) := by decide +kernel
theorem dX1_copyFrom_37 : decode cX1_copyFrom 37 = .ok (.putfield 24, 3) := by decide +kernel
theorem dX1_copyFrom_40 : decode cX1_copyFrom 40 = .ok (.aload_n 0, 1) := by decide +kernel
theorem dX1_copyFrom_41 : decode cX1_copyFrom 41 = .ok (.aload_n 1, 1) := by decide +kernel
theorem dX1_copyFrom_42 : decode cX1_copyFrom 42 = .ok (.getfield 27, 3) := by decide +kernel
theorem dX1_copyFrom_45 : decode cX1_copyFrom 45 = .ok (.putfield 27, 3) := by decide +kernel
theorem dX1_copyFrom_48 : decode cX1_copyFrom 48 = .ok (.aload_n 0, 1) := by decide +kernel
theorem dX1_copyFrom_49 : decode cX1_copyFrom 49 = .ok (.aload_n 1, 1) := by decide +kernel
theorem dX1_copyFrom_50 : decode cX1_copyFrom 50 = .ok (.getfield 30, 3) := by decide +kernel
theorem dX1_copyFrom_53 : decode cX1_copyFrom 53 = .ok (.putfield 30, 3) := by decide +kernel
theorem dX1_copyFrom_56 : decode cX1_copyFrom 56 = .ok (.aload_n 0, 1) := by decide +kernel
theorem dX1_copyFrom_57 : decode cX1_copyFrom 57 = .ok (.aload_n 1, 1) := by decide +kernel
theorem dX1_copyFrom_58 : decode cX1_copyFrom 58 = .ok (.getfield 33, 3) := by decide +kernel
theorem dX1_copyFrom_61 : decode cX1_copyFrom 61 = .ok (.putfield 33, 3) := by decide +kernel
theorem dX1_copyFrom_64 : decode cX1_copyFrom 64 = .ok (.return_, 1) := by decide +kernel
set_option maxRecDepth 20000 in
theorem ggX1_leatherOfMend_X3_tensBegun : GoodIn wsX1_leatherOfMend wsX3_tensBegun := goodIn_r _ [5] (by decide +kernel) (by decide +kernel)
set_option maxRecDepth 20000 in
theorem gX1_leatherOfMend_X3_tensBegun_n36 : GoodIn wsX1_leatherOfMend (wsX3_tensBegun) := ggX1_leatherOfMend_X3_tensBegun
theorem dX1_leatherOfMend_0 : decode cX1_leatherOfMend 0 = .ok (.iload_n 1, 1) := by decide +kernel
theorem dX1_leatherOfMend_1 : decode cX1_leatherOfMend 1 = .ok (.ifCond .eq 12, 3) := by decide +kernel
theorem dX1_leatherOfMend_4 : decode cX1_leatherOfMend 4 = .ok (.iconst 4, 1) := by decide +kernel
theorem dX1_leatherOfMend_5 : decode cX1_leatherOfMend 5 = .ok (.aload_n 0, 1) := by decide +kernel
theorem dX1_leatherOfMend_6 : decode cX1_leatherOfMend 6 = .ok (.getfield 15, 3) := by decide +kernel
theorem dX1_leatherOfMend_9 : decode cX1_leatherOfMend 9 = .ok (.imul, 1) := by decide +kernel
theorem dX1_leatherOfMend_10 : decode cX1_leatherOfMend 10 = .ok (.goto 10, 3) := by decide +kernel
theorem dX1_leatherOfMend_13 : decode cX1_leatherOfMend 13 = .ok (.aload_n 0, 1) := by decide +kernel
theorem dX1_leatherOfMend_14 : decode cX1_leatherOfMend 14 = .ok (.getfield 18, 3) := by decide +kernel
theorem dX1_leatherOfMend_17 : decode cX1_leatherOfMend 17 = .ok (.invokestatic 36, 3) := by decide +kernel
theorem dX1_leatherOfMend_20 : decode cX1_leatherOfMend 20 = .ok (.ireturn, 1) := by decide +kernel
theorem dX1_wearBehindMend_0 : decode cX1_wearBehindMend 0 = .ok (.iload_n 1, 1) := by decide +kernel
theorem dX1_wearBehindMend_1 : decode cX1_wearBehindMend 1 = .ok (.ifCond .eq 7, 3) := by decide +kernel
theorem dX1_wearBehindMend_4 : decode cX1_wearBehindMend 4 = .ok (.iconst 0, 1) := by decide +kernel
theorem dX1_wearBehindMend_5 : decode cX1_wearBehindMend 5 = .ok (.goto 9, 3) := by decide +kernel
theorem dX1_wearBehindMend_8 : decode cX1_wearBehindMend 8 = .ok (.aload_n 0, 1) := by decide +kernel
theorem dX1_wearBehindMend_9 : decode cX1_wearBehindMend 9 = .ok (.getfield 18, 3) := by decide +kernel
theorem dX1_wearBehindMend_12 : decode cX1_wearBehindMend 12 = .ok (.iconst 3, 1) := by decide +kernel
theorem dX1_wearBehindMend_13 : decode cX1_wearBehindMend 13 = .ok (.idiv, 1) := by decide +kernel
theorem dX1_wearBehindMend_14 : decode cX1_wearBehindMend 14 = .ok (.ireturn, 1) := by decide +kernel
set_option maxRecDepth 20000 in
theorem ggX2_init_X1_init : GoodIn wsX2_init wsX1_init := goodIn_r _ [15, 16, 2, 3] (by decide +kernel) (by decide +kernel)
set_option maxRecDepth 20000 in
theorem gX2_init_X1_init_n36 : GoodIn wsX2_init (wsX1_init) := ggX2_init_X1_init
theorem dX2_init_0 : decode cX2_init 0 = .ok (.aload_n 0, 1) := by decide +kernel
theorem dX2_init_1 : decode cX2_init 1 = .ok (.invokespecial 3, 3) := by decide +kernel
theorem dX2_init_4 : decode cX2_init 4 = .ok (.aload_n 0, 1) := by decide +kernel
theorem dX2_init_5 : decode cX2_init 5 = .ok (.bipush 8, 2) := by decide +kernel
theorem dX2_init_7 : decode cX2_init 7 = .ok (.anewarray 9, 3) := by decide +kernel
theorem dX2_init_10 : decode cX2_init 10 = .ok (.putfield 11, 3) := by decide +kernel
theorem dX2_init_13 : decode cX2_init 13 = .ok (.aload_n 0, 1) := by decide +kernel
theorem dX2_init_14 : decode cX2_init 14 = .ok (.bipush 30, 2) := by decide +kernel
theorem dX2_init_16 : decode cX2_init 16 = .ok (.putfield 17, 3) := by decide +kernel
theorem dX2_init_19 : decode cX2_init 19 = .ok (.aload_n 0, 1) := by decide +kernel
theorem dX2_init_20 : decode cX2_init 20 = .ok (.bipush 10, 2) := by decide +kernel
theorem dX2_init_22 : decode cX2_init 22 = .ok (.putfield 21, 3) := by decide +kernel
theorem dX2_init_25 : decode cX2_init 25 = .ok (.aload_n 0, 1) := by decide +kernel
theorem dX2_init_26 : decode cX2_init 26 = .ok (.iconst 4, 1) := by decide +kernel
theorem dX2_init_27 : decode cX2_init 27 = .ok (.putfield 24, 3) := by decide +kernel
theorem dX2_init_30 : decode cX2_init 30 = .ok (.aload_n 0, 1) := by decide +kernel
theorem dX2_init_31 : decode cX2_init 31 = .ok (.bipush 60, 2) := by decide +kernel
theorem dX2_init_33 : decode cX2_init 33 = .ok (.putfield 27, 3) := by decide +kernel
theorem dX2_init_36 : decode cX2_init 36 = .ok (.aload_n 0, 1) := by decide +kernel
theorem dX2_init_37 : decode cX2_init 37 = .ok (.aload_n 0, 1) := by decide +kernel
theorem dX2_init_38 : decode cX2_init 38 = .ok (.getfield 21, 3) := by decide +kernel
theorem dX2_init_41 : decode cX2_init 41 = .ok (.putfield 30, 3) := by decide +kernel
theorem dX2_init_44 : decode cX2_init 44 = .ok (.aload_n 0, 1) := by decide +kernel
theorem dX2_init_45 : decode cX2_init 45 = .ok (.bipush 100, 2) := by decide +kernel
theorem dX2_init_47 : decode cX2_init 47 = .ok (.putfield 33, 3) := by decide +kernel
theorem dX2_init_50 : decode cX2_init 50 = .ok (.iconst 0, 1) := by decide +kernel
theorem dX2_init_51 : decode cX2_init 51 = .ok (.istore_n 1, 1) := by decide +kernel
theorem dX2_init_52 : decode cX2_init 52 = .ok (.iload_n 1, 1) := by decide +kernel
theorem dX2_init_53 : decode cX2_init 53 = .ok (.aload_n 0, 1) := by decide +kernel
theorem dX2_init_54 : decode cX2_init 54 = .ok (.getfield 11, 3) := by decide +kernel
theorem dX2_init_57 : decode cX2_init 57 = .ok (.arraylength, 1) := by decide +kernel
theorem dX2_init_58 : decode cX2_init 58 = .ok (.if_icmp .ge 22, 3) := by decide +kernel
theorem dX2_init_61 : decode cX2_init 61 = .ok (.aload_n 0, 1) := by decide +kernel
theorem dX2_init_62 : decode cX2_init 62 = .ok (.getfield 11, 3) := by decide +kernel
theorem dX2_init_65 : decode cX2_init 65 = .ok (.iload_n 1, 1) := by decide +kernel
theorem dX2_init_66 : decode cX2_init 66 = .ok (.new 9, 3) := by decide +kernel
theorem dX2_init_69 : decode cX2_init 69 = .ok (.dup, 1) := by decide +kernel
theorem dX2_init_70 : decode cX2_init 70 = .ok (.invokespecial 36, 3) := by decide +kernel
theorem dX2_init_73 : decode cX2_init 73 = .ok (.aastore, 1) := by decide +kernel
theorem dX2_init_74 : decode cX2_init 74 = .ok (.iinc 1 1, 3) := by decide +kernel
theorem dX2_init_77 : decode cX2_init 77 = .ok (.goto (-25), 3) := by decide +kernel
theorem dX2_init_80 : decode cX2_init 80 = .ok (.return_, 1) := by decide +kernel
set_option maxRecDepth 20000 in
theorem ggX2_copyFrom_X2_find : GoodIn wsX2_copyFrom wsX2_find := goodIn_r _ [19, 1, 20, 34, 35, 36, 37, 38, 39, 40, 41, 42, 43, 44, 45, 46, 47, 48] (by decide +kernel) (by decide +kernel)
set_option maxRecDepth 20000 in
theorem gX2_copyFrom_X2_find : GoodIn wsX2_copyFrom (wsV RX2 61 RX2 yX2_find wsX2_find) := goodIn_app (goodIn_of _ (by decide +kernel)) ggX2_copyFrom_X2_find
set_option maxRecDepth 20000 in
theorem ggX2_copyFrom_X1_copyFrom : GoodIn wsX2_copyFrom wsX1_copyFrom := goodIn_r _ [25, 26, 27, 28, 29, 30, 31, 32, 33, 49, 50, 51, 52, 53, 54, 55, 56] (by decide +kernel) (by decide +kernel)
set_option maxRecDepth 20000 in
theorem gX2_copyFrom_X1_copyFrom : GoodIn wsX2_copyFrom (wsV RX2 65 RX1 yX1_copyFrom wsX1_copyFrom) := goodIn_app (goodIn_of _ (by decide +kernel)) ggX2_copyFrom_X1_copyFrom
theorem dX2_copyFrom_0 : decode cX2_copyFrom 0 = .ok (.aload_n 0, 1) := by decide +kernel
theorem dX2_copyFrom_1 : decode cX2_copyFrom 1 = .ok (.aload_n 1, 1) := by decide +kernel
theorem dX2_copyFrom_2 : decode cX2_copyFrom 2 = .ok (.getfield 37, 3) := by decide +kernel
theorem dX2_copyFrom_5 : decode cX2_copyFrom 5 = .ok (.putfield 37, 3) := by decide +kernel
theorem dX2_copyFrom_8 : decode cX2_copyFrom 8 = .ok (.aload_n 0, 1) := by decide +kernel
theorem dX2_copyFrom_9 : decode cX2_copyFrom 9 = .ok (.aload_n 1, 1) := by decide +kernel
theorem dX2_copyFrom_10 : decode cX2_copyFrom 10 = .ok (.getfield 17, 3) := by decide +kernel
theorem dX2_copyFrom_13 : decode cX2_copyFrom 13 = .ok (.putfield 17, 3) := by decide +kernel
theorem dX2_copyFrom_16 : decode cX2_copyFrom 16 = .ok (.aload_n 0, 1) := by decide +kernel
theorem dX2_copyFrom_17 : decode cX2_copyFrom 17 = .ok (.aload_n 1, 1) := by decide +kernel
theorem dX2_copyFrom_18 : decode cX2_copyFrom 18 = .ok (.getfield 21, 3) := by decide +kernel
theorem dX2_copyFrom_21 : decode cX2_copyFrom 21 = .ok (.putfield 21, 3) := by decide +kernel
theorem dX2_copyFrom_24 : decode cX2_copyFrom 24 = .ok (.aload_n 0, 1) := by decide +kernel
theorem dX2_copyFrom_25 : decode cX2_copyFrom 25 = .ok (.aload_n 1, 1) := by decide +kernel
theorem dX2_copyFrom_26 : decode cX2_copyFrom 26 = .ok (.getfield 24, 3) := by decide +kernel
theorem dX2_copyFrom_29 : decode cX2_copyFrom 29 = .ok (.putfield 24, 3) := by decide +kernel
theorem dX2_copyFrom_32 : decode cX2_copyFrom 32 = .ok (.aload_n 0, 1) := by decide +kernel
theorem dX2_copyFrom_33 : decode cX2_copyFrom 33 = .ok (.aload_n 1, 1) := by decide +kernel
theorem dX2_copyFrom_34 : decode cX2_copyFrom 34 = .ok (.getfield 27, 3) := by decide +kernel
theorem dX2_copyFrom_37 : decode cX2_copyFrom 37 = .ok (.putfield 27, 3) := by decide +kernel
theorem dX2_copyFrom_40 : decode cX2_copyFrom 40 = .ok (.aload_n 0, 1) := by decide +kernel
theorem dX2_copyFrom_41 : decode cX2_copyFrom 41 = .ok (.aload_n 1, 1) := by decide +kernel
theorem dX2_copyFrom_42 : decode cX2_copyFrom 42 = .ok (.getfield 40, 3) := by decide +kernel
theorem dX2_copyFrom_45 : decode cX2_copyFrom 45 = .ok (.putfield 40, 3) := by decide +kernel
theorem dX2_copyFrom_48 : decode cX2_copyFrom 48 = .ok (.aload_n 0, 1) := by decide +kernel
theorem dX2_copyFrom_49 : decode cX2_copyFrom 49 = .ok (.aload_n 1, 1) := by decide +kernel
theorem dX2_copyFrom_50 : decode cX2_copyFrom 50 = .ok (.getfield 43, 3) := by decide +kernel
theorem dX2_copyFrom_53 : decode cX2_copyFrom 53 = .ok (.putfield 43, 3) := by decide +kernel
theorem dX2_copyFrom_56 : decode cX2_copyFrom 56 = .ok (.aload_n 0, 1) := by decide +kernel
theorem dX2_copyFrom_57 : decode cX2_copyFrom 57 = .ok (.aload_n 1, 1) := by decide +kernel
theorem dX2_copyFrom_58 : decode cX2_copyFrom 58 = .ok (.getfield 30, 3) := by decide +kernel
theorem dX2_copyFrom_61 : decode cX2_copyFrom 61 = .ok (.putfield 30, 3) := by decide +kernel
theorem dX2_copyFrom_64 : decode cX2_copyFrom 64 = .ok (.aload_n 0, 1) := by decide +kernel
theorem dX2_copyFrom_65 : decode cX2_copyFrom 65 = .ok (.aload_n 1, 1) := by decide +kernel
theorem dX2_copyFrom_66 : decode cX2_copyFrom 66 = .ok (.getfield 46, 3) := by decide +kernel
theorem dX2_copyFrom_69 : decode cX2_copyFrom 69 = .ok (.putfield 46, 3) := by decide +kernel
theorem dX2_copyFrom_72 : decode cX2_copyFrom 72 = .ok (.aload_n 0, 1) := by decide +kernel
theorem dX2_copyFrom_73 : decode cX2_copyFrom 73 = .ok (.aload_n 1, 1) := by decide +kernel
theorem dX2_copyFrom_74 : decode cX2_copyFrom 74 = .ok (.getfield 33, 3) := by decide +kernel
theorem dX2_copyFrom_77 : decode cX2_copyFrom 77 = .ok (.putfield 33, 3) := by decide +kernel
theorem dX2_copyFrom_80 : decode cX2_copyFrom 80 = .ok (.aload_n 0, 1) := by decide +kernel
theorem dX2_copyFrom_81 : decode cX2_copyFrom 81 = .ok (.aload_n 1, 1) := by decide +kernel
theorem dX2_copyFrom_82 : decode cX2_copyFrom 82 = .ok (.getfield 49, 3) := by decide +kernel
theorem dX2_copyFrom_85 : decode cX2_copyFrom 85 = .ok (.putfield 49, 3) := by decide +kernel
theorem dX2_copyFrom_88 : decode cX2_copyFrom 88 = .ok (.aload_n 0, 1) := by decide +kernel
theorem dX2_copyFrom_89 : decode cX2_copyFrom 89 = .ok (.aload_n 1, 1) := by decide +kernel
theorem dX2_copyFrom_90 : decode cX2_copyFrom 90 = .ok (.getfield 52, 3) := by decide +kernel
theorem dX2_copyFrom_93 : decode cX2_copyFrom 93 = .ok (.putfield 52, 3) := by decide +kernel
theorem dX2_copyFrom_96 : decode cX2_copyFrom 96 = .ok (.aload_n 0, 1) := by decide +kernel
theorem dX2_copyFrom_97 : decode cX2_copyFrom 97 = .ok (.aload_n 1, 1) := by decide +kernel
theorem dX2_copyFrom_98 : decode cX2_copyFrom 98 = .ok (.getfield 55, 3) := by decide +kernel
theorem dX2_copyFrom_101 : decode cX2_copyFrom 101 = .ok (.putfield 55, 3) := by decide +kernel
theorem dX2_copyFrom_104 : decode cX2_copyFrom 104 = .ok (.aload_n 0, 1) := by decide +kernel
theorem dX2_copyFrom_105 : decode cX2_copyFrom 105 = .ok (.aload_n 1, 1) := by decide +kernel
theorem dX2_copyFrom_106 : decode cX2_copyFrom 106 = .ok (.getfield 58, 3) := by decide +kernel
theorem dX2_copyFrom_109 : decode cX2_copyFrom 109 = .ok (.putfield 58, 3) := by decide +kernel
theorem dX2_copyFrom_112 : decode cX2_copyFrom 112 = .ok (.iconst 0, 1) := by decide +kernel
theorem dX2_copyFrom_113 : decode cX2_copyFrom 113 = .ok (.istore_n 2, 1) := by decide +kernel
theorem dX2_copyFrom_114 : decode cX2_copyFrom 114 = .ok (.iload_n 2, 1) := by decide +kernel
theorem dX2_copyFrom_115 : decode cX2_copyFrom 115 = .ok (.aload_n 0, 1) := by decide +kernel
theorem dX2_copyFrom_116 : decode cX2_copyFrom 116 = .ok (.getfield 37, 3) := by decide +kernel
theorem dX2_copyFrom_119 : decode cX2_copyFrom 119 = .ok (.if_icmp .ge 37, 3) := by decide +kernel
theorem dX2_copyFrom_122 : decode cX2_copyFrom 122 = .ok (.aload_n 0, 1) := by decide +kernel
theorem dX2_copyFrom_123 : decode cX2_copyFrom 123 = .ok (.iload_n 2, 1) := by decide +kernel
theorem dX2_copyFrom_124 : decode cX2_copyFrom 124 = .ok (.invokevirtual 61, 3) := by decide +kernel
theorem dX2_copyFrom_127 : decode cX2_copyFrom 127 = .ok (.astore_n 3, 1) := by decide +kernel
theorem dX2_copyFrom_128 : decode cX2_copyFrom 128 = .ok (.aload_n 1, 1) := by decide +kernel
theorem dX2_copyFrom_129 : decode cX2_copyFrom 129 = .ok (.iload_n 2, 1) := by decide +kernel
theorem dX2_copyFrom_130 : decode cX2_copyFrom 130 = .ok (.invokevirtual 61, 3) := by decide +kernel
theorem dX2_copyFrom_133 : decode cX2_copyFrom 133 = .ok (.astore 4, 2) := by decide +kernel
theorem dX2_copyFrom_135 : decode cX2_copyFrom 135 = .ok (.aload_n 3, 1) := by decide +kernel
theorem dX2_copyFrom_136 : decode cX2_copyFrom 136 = .ok (.ifnull 14, 3) := by decide +kernel
theorem dX2_copyFrom_139 : decode cX2_copyFrom 139 = .ok (.aload 4, 2) := by decide +kernel
theorem dX2_copyFrom_141 : decode cX2_copyFrom 141 = .ok (.ifnull 9, 3) := by decide +kernel
theorem dX2_copyFrom_144 : decode cX2_copyFrom 144 = .ok (.aload_n 3, 1) := by decide +kernel
theorem dX2_copyFrom_145 : decode cX2_copyFrom 145 = .ok (.aload 4, 2) := by decide +kernel
theorem dX2_copyFrom_147 : decode cX2_copyFrom 147 = .ok (.invokevirtual 65, 3) := by decide +kernel
theorem dX2_copyFrom_150 : decode cX2_copyFrom 150 = .ok (.iinc 2 1, 3) := by decide +kernel
theorem dX2_copyFrom_153 : decode cX2_copyFrom 153 = .ok (.goto (-39), 3) := by decide +kernel
theorem dX2_copyFrom_156 : decode cX2_copyFrom 156 = .ok (.return_, 1) := by decide +kernel
theorem dX2_find_0 : decode cX2_find 0 = .ok (.iload_n 1, 1) := by decide +kernel
theorem dX2_find_1 : decode cX2_find 1 = .ok (.ifCond .lt 20, 3) := by decide +kernel
theorem dX2_find_4 : decode cX2_find 4 = .ok (.iload_n 1, 1) := by decide +kernel
theorem dX2_find_5 : decode cX2_find 5 = .ok (.aload_n 0, 1) := by decide +kernel
theorem dX2_find_6 : decode cX2_find 6 = .ok (.getfield 37, 3) := by decide +kernel
theorem dX2_find_9 : decode cX2_find 9 = .ok (.if_icmp .ge 12, 3) := by decide +kernel
theorem dX2_find_12 : decode cX2_find 12 = .ok (.iload_n 1, 1) := by decide +kernel
theorem dX2_find_13 : decode cX2_find 13 = .ok (.aload_n 0, 1) := by decide +kernel
theorem dX2_find_14 : decode cX2_find 14 = .ok (.getfield 11, 3) := by decide +kernel
theorem dX2_find_17 : decode cX2_find 17 = .ok (.arraylength, 1) := by decide +kernel
theorem dX2_find_18 : decode cX2_find 18 = .ok (.if_icmp .lt 5, 3) := by decide +kernel
theorem dX2_find_21 : decode cX2_find 21 = .ok (.aconst_null, 1) := by decide +kernel
theorem dX2_find_22 : decode cX2_find 22 = .ok (.areturn, 1) := by decide +kernel
theorem dX2_find_23 : decode cX2_find 23 = .ok (.aload_n 0, 1) := by decide +kernel
theorem dX2_find_24 : decode cX2_find 24 = .ok (.getfield 11, 3) := by decide +kernel
theorem dX2_find_27 : decode cX2_find 27 = .ok (.iload_n 1, 1) := by decide +kernel
theorem dX2_find_28 : decode cX2_find 28 = .ok (.aaload, 1) := by decide +kernel
theorem dX2_find_29 : decode cX2_find 29 = .ok (.areturn, 1) := by decide +kernel
set_option maxRecDepth 20000 in
theorem ggX2_addSmithy_X2_find : GoodIn wsX2_addSmithy wsX2_find := goodIn_r _ [8, 2, 9, 23, 24, 25, 26, 27, 28, 29, 30, 31, 32, 33, 34, 35, 36, 37] (by decide +kernel) (by decide +kernel)
set_option maxRecDepth 20000 in
theorem gX2_addSmithy_X2_find : GoodIn wsX2_addSmithy (wsV RX2 61 RX2 yX2_find wsX2_find) := goodIn_app (goodIn_of _ (by decide +kernel)) ggX2_addSmithy_X2_find
set_option maxRecDepth 20000 in
theorem ggX2_addSmithy_X1_beginAt : GoodIn wsX2_addSmithy wsX1_beginAt := goodIn_r _ [14, 15, 16, 17, 18, 19, 20, 21, 22, 38, 39, 40, 41, 42, 43, 44, 45] (by decide +kernel) (by decide +kernel)
set_option maxRecDepth 20000 in
theorem gX2_addSmithy_X1_beginAt : GoodIn wsX2_addSmithy (wsV RX2 71 RX1 yX1_beginAt wsX1_beginAt) := goodIn_app (goodIn_of _ (by decide +kernel)) ggX2_addSmithy_X1_beginAt
theorem dX2_addSmithy_0 : decode cX2_addSmithy 0 = .ok (.iload_n 1, 1) := by decide +kernel
theorem dX2_addSmithy_1 : decode cX2_addSmithy 1 = .ok (.ifCond .lt 20, 3) := by decide +kernel
theorem dX2_addSmithy_4 : decode cX2_addSmithy 4 = .ok (.iload_n 1, 1) := by decide +kernel
theorem dX2_addSmithy_5 : decode cX2_addSmithy 5 = .ok (.bipush 99, 2) := by decide +kernel
theorem dX2_addSmithy_7 : decode cX2_addSmithy 7 = .ok (.if_icmp .gt 14, 3) := by decide +kernel
theorem dX2_addSmithy_10 : decode cX2_addSmithy 10 = .ok (.iload_n 2, 1) := by decide +kernel
theorem dX2_addSmithy_11 : decode cX2_addSmithy 11 = .ok (.iconst 1, 1) := by decide +kernel
theorem dX2_addSmithy_12 : decode cX2_addSmithy 12 = .ok (.if_icmp .lt 9, 3) := by decide +kernel
theorem dX2_addSmithy_15 : decode cX2_addSmithy 15 = .ok (.iload_n 2, 1) := by decide +kernel
theorem dX2_addSmithy_16 : decode cX2_addSmithy 16 = .ok (.bipush 9, 2) := by decide +kernel
theorem dX2_addSmithy_18 : decode cX2_addSmithy 18 = .ok (.if_icmp .le 6, 3) := by decide +kernel
theorem dX2_addSmithy_21 : decode cX2_addSmithy 21 = .ok (.ldc 69, 2) := by decide +kernel
theorem dX2_addSmithy_23 : decode cX2_addSmithy 23 = .ok (.ireturn, 1) := by decide +kernel
theorem dX2_addSmithy_24 : decode cX2_addSmithy 24 = .ok (.aload_n 0, 1) := by decide +kernel
theorem dX2_addSmithy_25 : decode cX2_addSmithy 25 = .ok (.getfield 37, 3) := by decide +kernel
theorem dX2_addSmithy_28 : decode cX2_addSmithy 28 = .ok (.bipush 8, 2) := by decide +kernel
theorem dX2_addSmithy_30 : decode cX2_addSmithy 30 = .ok (.if_icmp .lt 6, 3) := by decide +kernel
theorem dX2_addSmithy_33 : decode cX2_addSmithy 33 = .ok (.ldc 70, 2) := by decide +kernel
theorem dX2_addSmithy_35 : decode cX2_addSmithy 35 = .ok (.ireturn, 1) := by decide +kernel
theorem dX2_addSmithy_36 : decode cX2_addSmithy 36 = .ok (.aload_n 0, 1) := by decide +kernel
theorem dX2_addSmithy_37 : decode cX2_addSmithy 37 = .ok (.getfield 37, 3) := by decide +kernel
theorem dX2_addSmithy_40 : decode cX2_addSmithy 40 = .ok (.istore_n 3, 1) := by decide +kernel
theorem dX2_addSmithy_41 : decode cX2_addSmithy 41 = .ok (.aload_n 0, 1) := by decide +kernel
theorem dX2_addSmithy_42 : decode cX2_addSmithy 42 = .ok (.dup, 1) := by decide +kernel
theorem dX2_addSmithy_43 : decode cX2_addSmithy 43 = .ok (.getfield 37, 3) := by decide +kernel
theorem dX2_addSmithy_46 : decode cX2_addSmithy 46 = .ok (.iconst 1, 1) := by decide +kernel
theorem dX2_addSmithy_47 : decode cX2_addSmithy 47 = .ok (.iadd, 1) := by decide +kernel
theorem dX2_addSmithy_48 : decode cX2_addSmithy 48 = .ok (.putfield 37, 3) := by decide +kernel
theorem dX2_addSmithy_51 : decode cX2_addSmithy 51 = .ok (.aload_n 0, 1) := by decide +kernel
theorem dX2_addSmithy_52 : decode cX2_addSmithy 52 = .ok (.iload_n 3, 1) := by decide +kernel
theorem dX2_addSmithy_53 : decode cX2_addSmithy 53 = .ok (.invokevirtual 61, 3) := by decide +kernel
theorem dX2_addSmithy_56 : decode cX2_addSmithy 56 = .ok (.astore 4, 2) := by decide +kernel
theorem dX2_addSmithy_58 : decode cX2_addSmithy 58 = .ok (.aload 4, 2) := by decide +kernel
theorem dX2_addSmithy_60 : decode cX2_addSmithy 60 = .ok (.ifnull 10, 3) := by decide +kernel
theorem dX2_addSmithy_63 : decode cX2_addSmithy 63 = .ok (.aload 4, 2) := by decide +kernel
theorem dX2_addSmithy_65 : decode cX2_addSmithy 65 = .ok (.iload_n 1, 1) := by decide +kernel
theorem dX2_addSmithy_66 : decode cX2_addSmithy 66 = .ok (.iload_n 2, 1) := by decide +kernel
theorem dX2_addSmithy_67 : decode cX2_addSmithy 67 = .ok (.invokevirtual 71, 3) := by decide +kernel
theorem dX2_addSmithy_70 : decode cX2_addSmithy 70 = .ok (.iload_n 3, 1) := by decide +kernel
theorem dX2_addSmithy_71 : decode cX2_addSmithy 71 = .ok (.ireturn, 1) := by decide +kernel
set_option maxRecDepth 20000 in
theorem ggX2_walkTo_X3_hoursOfWay : GoodIn wsX2_walkTo wsX3_hoursOfWay := goodIn_r _ [12, 13, 7, 8, 9, 14, 15, 11, 16] (by decide +kernel) (by decide +kernel)
set_option maxRecDepth 20000 in
theorem gX2_walkTo_X3_hoursOfWay_n75 : GoodIn wsX2_walkTo (wsX3_hoursOfWay) := ggX2_walkTo_X3_hoursOfWay
theorem dX2_walkTo_0 : decode cX2_walkTo 0 = .ok (.iload_n 1, 1) := by decide +kernel
theorem dX2_walkTo_1 : decode cX2_walkTo 1 = .ok (.ifCond .lt 9, 3) := by decide +kernel
theorem dX2_walkTo_4 : decode cX2_walkTo 4 = .ok (.iload_n 1, 1) := by decide +kernel
theorem dX2_walkTo_5 : decode cX2_walkTo 5 = .ok (.bipush 99, 2) := by decide +kernel
theorem dX2_walkTo_7 : decode cX2_walkTo 7 = .ok (.if_icmp .le 6, 3) := by decide +kernel
theorem dX2_walkTo_10 : decode cX2_walkTo 10 = .ok (.ldc 69, 2) := by decide +kernel
theorem dX2_walkTo_12 : decode cX2_walkTo 12 = .ok (.ireturn, 1) := by decide +kernel
theorem dX2_walkTo_13 : decode cX2_walkTo 13 = .ok (.aload_n 0, 1) := by decide +kernel
theorem dX2_walkTo_14 : decode cX2_walkTo 14 = .ok (.getfield 43, 3) := by decide +kernel
theorem dX2_walkTo_17 : decode cX2_walkTo 17 = .ok (.iload_n 1, 1) := by decide +kernel
theorem dX2_walkTo_18 : decode cX2_walkTo 18 = .ok (.invokestatic 75, 3) := by decide +kernel
theorem dX2_walkTo_21 : decode cX2_walkTo 21 = .ok (.istore_n 2, 1) := by decide +kernel
theorem dX2_walkTo_22 : decode cX2_walkTo 22 = .ok (.iload_n 2, 1) := by decide +kernel
theorem dX2_walkTo_23 : decode cX2_walkTo 23 = .ok (.aload_n 0, 1) := by decide +kernel
theorem dX2_walkTo_24 : decode cX2_walkTo 24 = .ok (.getfield 30, 3) := by decide +kernel
theorem dX2_walkTo_27 : decode cX2_walkTo 27 = .ok (.if_icmp .le 6, 3) := by decide +kernel
theorem dX2_walkTo_30 : decode cX2_walkTo 30 = .ok (.ldc 79, 2) := by decide +kernel
theorem dX2_walkTo_32 : decode cX2_walkTo 32 = .ok (.ireturn, 1) := by decide +kernel
theorem dX2_walkTo_33 : decode cX2_walkTo 33 = .ok (.aload_n 0, 1) := by decide +kernel
theorem dX2_walkTo_34 : decode cX2_walkTo 34 = .ok (.dup, 1) := by decide +kernel
theorem dX2_walkTo_35 : decode cX2_walkTo 35 = .ok (.getfield 30, 3) := by decide +kernel
theorem dX2_walkTo_38 : decode cX2_walkTo 38 = .ok (.iload_n 2, 1) := by decide +kernel
theorem dX2_walkTo_39 : decode cX2_walkTo 39 = .ok (.isub, 1) := by decide +kernel
theorem dX2_walkTo_40 : decode cX2_walkTo 40 = .ok (.putfield 30, 3) := by decide +kernel
theorem dX2_walkTo_43 : decode cX2_walkTo 43 = .ok (.aload_n 0, 1) := by decide +kernel
theorem dX2_walkTo_44 : decode cX2_walkTo 44 = .ok (.dup, 1) := by decide +kernel
theorem dX2_walkTo_45 : decode cX2_walkTo 45 = .ok (.getfield 58, 3) := by decide +kernel
theorem dX2_walkTo_48 : decode cX2_walkTo 48 = .ok (.iload_n 1, 1) := by decide +kernel
theorem dX2_walkTo_49 : decode cX2_walkTo 49 = .ok (.aload_n 0, 1) := by decide +kernel
theorem dX2_walkTo_50 : decode cX2_walkTo 50 = .ok (.getfield 43, 3) := by decide +kernel
theorem dX2_walkTo_53 : decode cX2_walkTo 53 = .ok (.isub, 1) := by decide +kernel
theorem dX2_walkTo_54 : decode cX2_walkTo 54 = .ok (.invokestatic 80, 3) := by decide +kernel
theorem dX2_walkTo_57 : decode cX2_walkTo 57 = .ok (.iadd, 1) := by decide +kernel
theorem dX2_walkTo_58 : decode cX2_walkTo 58 = .ok (.putfield 58, 3) := by decide +kernel
theorem dX2_walkTo_61 : decode cX2_walkTo 61 = .ok (.aload_n 0, 1) := by decide +kernel
theorem dX2_walkTo_62 : decode cX2_walkTo 62 = .ok (.iload_n 1, 1) := by decide +kernel
theorem dX2_walkTo_63 : decode cX2_walkTo 63 = .ok (.putfield 43, 3) := by decide +kernel
theorem dX2_walkTo_66 : decode cX2_walkTo 66 = .ok (.aload_n 0, 1) := by decide +kernel
theorem dX2_walkTo_67 : decode cX2_walkTo 67 = .ok (.getfield 30, 3) := by decide +kernel
theorem dX2_walkTo_70 : decode cX2_walkTo 70 = .ok (.ireturn, 1) := by decide +kernel
theorem dX2_buyLeather_0 : decode cX2_buyLeather 0 = .ok (.iload_n 1, 1) := by decide +kernel
theorem dX2_buyLeather_1 : decode cX2_buyLeather 1 = .ok (.iconst 1, 1) := by decide +kernel
theorem dX2_buyLeather_2 : decode cX2_buyLeather 2 = .ok (.if_icmp .lt 10, 3) := by decide +kernel
theorem dX2_buyLeather_5 : decode cX2_buyLeather 5 = .ok (.iload_n 1, 1) := by decide +kernel
theorem dX2_buyLeather_6 : decode cX2_buyLeather 6 = .ok (.sipush 999, 3) := by decide +kernel
theorem dX2_buyLeather_9 : decode cX2_buyLeather 9 = .ok (.if_icmp .le 6, 3) := by decide +kernel
theorem dX2_buyLeather_12 : decode cX2_buyLeather 12 = .ok (.ldc 69, 2) := by decide +kernel
theorem dX2_buyLeather_14 : decode cX2_buyLeather 14 = .ok (.ireturn, 1) := by decide +kernel
theorem dX2_buyLeather_15 : decode cX2_buyLeather 15 = .ok (.aload_n 0, 1) := by decide +kernel
theorem dX2_buyLeather_16 : decode cX2_buyLeather 16 = .ok (.getfield 43, 3) := by decide +kernel
theorem dX2_buyLeather_19 : decode cX2_buyLeather 19 = .ok (.ifCond .eq 6, 3) := by decide +kernel
theorem dX2_buyLeather_22 : decode cX2_buyLeather 22 = .ok (.ldc 79, 2) := by decide +kernel
theorem dX2_buyLeather_24 : decode cX2_buyLeather 24 = .ok (.ireturn, 1) := by decide +kernel
theorem dX2_buyLeather_25 : decode cX2_buyLeather 25 = .ok (.aload_n 0, 1) := by decide +kernel
theorem dX2_buyLeather_26 : decode cX2_buyLeather 26 = .ok (.getfield 46, 3) := by decide +kernel
theorem dX2_buyLeather_29 : decode cX2_buyLeather 29 = .ok (.iload_n 1, 1) := by decide +kernel
theorem dX2_buyLeather_30 : decode cX2_buyLeather 30 = .ok (.iadd, 1) := by decide +kernel
theorem dX2_buyLeather_31 : decode cX2_buyLeather 31 = .ok (.sipush 999, 3) := by decide +kernel
theorem dX2_buyLeather_34 : decode cX2_buyLeather 34 = .ok (.if_icmp .le 6, 3) := by decide +kernel
theorem dX2_buyLeather_37 : decode cX2_buyLeather 37 = .ok (.ldc 70, 2) := by decide +kernel
theorem dX2_buyLeather_39 : decode cX2_buyLeather 39 = .ok (.ireturn, 1) := by decide +kernel
theorem dX2_buyLeather_40 : decode cX2_buyLeather 40 = .ok (.iconst 2, 1) := by decide +kernel
theorem dX2_buyLeather_41 : decode cX2_buyLeather 41 = .ok (.iload_n 1, 1) := by decide +kernel
theorem dX2_buyLeather_42 : decode cX2_buyLeather 42 = .ok (.imul, 1) := by decide +kernel
theorem dX2_buyLeather_43 : decode cX2_buyLeather 43 = .ok (.istore_n 2, 1) := by decide +kernel
theorem dX2_buyLeather_44 : decode cX2_buyLeather 44 = .ok (.aload_n 0, 1) := by decide +kernel
theorem dX2_buyLeather_45 : decode cX2_buyLeather 45 = .ok (.dup, 1) := by decide +kernel
theorem dX2_buyLeather_46 : decode cX2_buyLeather 46 = .ok (.getfield 46, 3) := by decide +kernel
theorem dX2_buyLeather_49 : decode cX2_buyLeather 49 = .ok (.iload_n 1, 1) := by decide +kernel
theorem dX2_buyLeather_50 : decode cX2_buyLeather 50 = .ok (.iadd, 1) := by decide +kernel
theorem dX2_buyLeather_51 : decode cX2_buyLeather 51 = .ok (.putfield 46, 3) := by decide +kernel
theorem dX2_buyLeather_54 : decode cX2_buyLeather 54 = .ok (.aload_n 0, 1) := by decide +kernel
theorem dX2_buyLeather_55 : decode cX2_buyLeather 55 = .ok (.dup, 1) := by decide +kernel
theorem dX2_buyLeather_56 : decode cX2_buyLeather 56 = .ok (.getfield 33, 3) := by decide +kernel
theorem dX2_buyLeather_59 : decode cX2_buyLeather 59 = .ok (.iload_n 2, 1) := by decide +kernel
theorem dX2_buyLeather_60 : decode cX2_buyLeather 60 = .ok (.isub, 1) := by decide +kernel
theorem dX2_buyLeather_61 : decode cX2_buyLeather 61 = .ok (.putfield 33, 3) := by decide +kernel
theorem dX2_buyLeather_64 : decode cX2_buyLeather 64 = .ok (.aload_n 0, 1) := by decide +kernel
theorem dX2_buyLeather_65 : decode cX2_buyLeather 65 = .ok (.dup, 1) := by decide +kernel
theorem dX2_buyLeather_66 : decode cX2_buyLeather 66 = .ok (.getfield 49, 3) := by decide +kernel
theorem dX2_buyLeather_69 : decode cX2_buyLeather 69 = .ok (.iload_n 2, 1) := by decide +kernel
theorem dX2_buyLeather_70 : decode cX2_buyLeather 70 = .ok (.iadd, 1) := by decide +kernel
theorem dX2_buyLeather_71 : decode cX2_buyLeather 71 = .ok (.putfield 49, 3) := by decide +kernel
theorem dX2_buyLeather_74 : decode cX2_buyLeather 74 = .ok (.aload_n 0, 1) := by decide +kernel
theorem dX2_buyLeather_75 : decode cX2_buyLeather 75 = .ok (.getfield 46, 3) := by decide +kernel
theorem dX2_buyLeather_78 : decode cX2_buyLeather 78 = .ok (.ireturn, 1) := by decide +kernel
set_option maxRecDepth 20000 in
theorem ggX2_mendBellows_X2_find : GoodIn wsX2_mendBellows wsX2_find := goodIn_r _ [13, 14, 15, 48, 49, 50, 51, 52, 53, 54, 55, 56, 57, 58, 59, 60, 61, 62] (by decide +kernel) (by decide +kernel)
set_option maxRecDepth 20000 in
theorem gX2_mendBellows_X2_find : GoodIn wsX2_mendBellows (wsV RX2 61 RX2 yX2_find wsX2_find) := goodIn_app (goodIn_of _ (by decide +kernel)) ggX2_mendBellows_X2_find
set_option maxRecDepth 20000 in
theorem ggX2_mendBellows_X2_reasonAgainst : GoodIn wsX2_mendBellows wsX2_reasonAgainst := goodIn_r _ [19, 20, 21, 3, 4, 22, 23, 24, 25, 26, 27, 28, 29, 30, 31, 32, 33, 34, 35, 36, 12, 37, 6, 38, 7, 63, 64, 65, 66, 67, 68, 69, 70, 48, 49, 50, 51, 52, 53, 54, 55, 56, 57, 58, 59, 60, 61, 62] (by decide +kernel) (by decide +kernel)
set_option maxRecDepth 20000 in
theorem gX2_mendBellows_X2_reasonAgainst : GoodIn wsX2_mendBellows (wsV RX2 86 RX2 yX2_reasonAgainst wsX2_reasonAgainst) := goodIn_app (goodIn_of _ (by decide +kernel)) ggX2_mendBellows_X2_reasonAgainst
set_option maxRecDepth 20000 in
theorem ggX2_mendBellows_X2_priceOfMend : GoodIn wsX2_mendBellows wsX2_priceOfMend := goodIn_r _ [42, 43, 22, 23, 24, 25, 26, 27, 28, 29, 30, 31, 32, 33, 48, 49, 50, 51, 52, 53, 54, 55, 56, 57, 58, 59, 60, 61, 62, 63, 64, 65, 66, 67, 68, 69, 70] (by decide +kernel) (by decide +kernel)
set_option maxRecDepth 20000 in
theorem gX2_mendBellows_X2_priceOfMend : GoodIn wsX2_mendBellows (wsV RX2 90 RX2 yX2_priceOfMend wsX2_priceOfMend) := goodIn_app (goodIn_of _ (by decide +kernel)) ggX2_mendBellows_X2_priceOfMend
set_option maxRecDepth 20000 in
theorem ggX2_mendBellows_X3_hoursOfMend : GoodIn wsX2_mendBellows wsX3_hoursOfMend := goodIn_r _ [24] (by decide +kernel) (by decide +kernel)
set_option maxRecDepth 20000 in
theorem gX2_mendBellows_X3_hoursOfMend_n93 : GoodIn wsX2_mendBellows (wsX3_hoursOfMend) := ggX2_mendBellows_X3_hoursOfMend
set_option maxRecDepth 20000 in
theorem ggX2_mendBellows_X1_leatherOfMend : GoodIn wsX2_mendBellows wsX1_leatherOfMend := goodIn_r _ [29, 30, 31, 32, 23, 33, 63, 64, 65, 66, 67, 68, 69, 70] (by decide +kernel) (by decide +kernel)
set_option maxRecDepth 20000 in
theorem gX2_mendBellows_X1_leatherOfMend : GoodIn wsX2_mendBellows (wsV RX2 97 RX1 yX1_leatherOfMend wsX1_leatherOfMend) := goodIn_app (goodIn_of _ (by decide +kernel)) ggX2_mendBellows_X1_leatherOfMend
set_option maxRecDepth 20000 in
theorem ggX2_mendBellows_X1_wearBehindMend : GoodIn wsX2_mendBellows wsX1_wearBehindMend := goodIn_r _ [47, 31, 63, 64, 65, 66, 67, 68, 69, 70] (by decide +kernel) (by decide +kernel)
set_option maxRecDepth 20000 in
theorem gX2_mendBellows_X1_wearBehindMend : GoodIn wsX2_mendBellows (wsV RX2 103 RX1 yX1_wearBehindMend wsX1_wearBehindMend) := goodIn_app (goodIn_of _ (by decide +kernel)) ggX2_mendBellows_X1_wearBehindMend
theorem dX2_mendBellows_0 : decode cX2_mendBellows 0 = .ok (.aload_n 0, 1) := by decide +kernel
theorem dX2_mendBellows_1 : decode cX2_mendBellows 1 = .ok (.iload_n 1, 1) := by decide +kernel
theorem dX2_mendBellows_2 : decode cX2_mendBellows 2 = .ok (.invokevirtual 61, 3) := by decide +kernel
theorem dX2_mendBellows_5 : decode cX2_mendBellows 5 = .ok (.astore_n 3, 1) := by decide +kernel
theorem dX2_mendBellows_6 : decode cX2_mendBellows 6 = .ok (.aload_n 3, 1) := by decide +kernel
theorem dX2_mendBellows_7 : decode cX2_mendBellows 7 = .ok (.ifnonnull 6, 3) := by decide +kernel
theorem dX2_mendBellows_10 : decode cX2_mendBellows 10 = .ok (.ldc 69, 2) := by decide +kernel
theorem dX2_mendBellows_12 : decode cX2_mendBellows 12 = .ok (.ireturn, 1) := by decide +kernel
theorem dX2_mendBellows_13 : decode cX2_mendBellows 13 = .ok (.aload_n 0, 1) := by decide +kernel
theorem dX2_mendBellows_14 : decode cX2_mendBellows 14 = .ok (.aload_n 3, 1) := by decide +kernel
theorem dX2_mendBellows_15 : decode cX2_mendBellows 15 = .ok (.iload_n 2, 1) := by decide +kernel
theorem dX2_mendBellows_16 : decode cX2_mendBellows 16 = .ok (.invokevirtual 86, 3) := by decide +kernel
theorem dX2_mendBellows_19 : decode cX2_mendBellows 19 = .ok (.ifCond .eq 6, 3) := by decide +kernel
theorem dX2_mendBellows_22 : decode cX2_mendBellows 22 = .ok (.ldc 79, 2) := by decide +kernel
theorem dX2_mendBellows_24 : decode cX2_mendBellows 24 = .ok (.ireturn, 1) := by decide +kernel
theorem dX2_mendBellows_25 : decode cX2_mendBellows 25 = .ok (.aload_n 0, 1) := by decide +kernel
theorem dX2_mendBellows_26 : decode cX2_mendBellows 26 = .ok (.aload_n 3, 1) := by decide +kernel
theorem dX2_mendBellows_27 : decode cX2_mendBellows 27 = .ok (.iload_n 2, 1) := by decide +kernel
theorem dX2_mendBellows_28 : decode cX2_mendBellows 28 = .ok (.invokevirtual 90, 3) := by decide +kernel
theorem dX2_mendBellows_31 : decode cX2_mendBellows 31 = .ok (.istore 4, 2) := by decide +kernel
theorem dX2_mendBellows_33 : decode cX2_mendBellows 33 = .ok (.aload_n 0, 1) := by decide +kernel
theorem dX2_mendBellows_34 : decode cX2_mendBellows 34 = .ok (.dup, 1) := by decide +kernel
theorem dX2_mendBellows_35 : decode cX2_mendBellows 35 = .ok (.getfield 30, 3) := by decide +kernel
theorem dX2_mendBellows_38 : decode cX2_mendBellows 38 = .ok (.iload_n 2, 1) := by decide +kernel
theorem dX2_mendBellows_39 : decode cX2_mendBellows 39 = .ok (.invokestatic 93, 3) := by decide +kernel
theorem dX2_mendBellows_42 : decode cX2_mendBellows 42 = .ok (.isub, 1) := by decide +kernel
theorem dX2_mendBellows_43 : decode cX2_mendBellows 43 = .ok (.putfield 30, 3) := by decide +kernel
theorem dX2_mendBellows_46 : decode cX2_mendBellows 46 = .ok (.aload_n 0, 1) := by decide +kernel
theorem dX2_mendBellows_47 : decode cX2_mendBellows 47 = .ok (.dup, 1) := by decide +kernel
theorem dX2_mendBellows_48 : decode cX2_mendBellows 48 = .ok (.getfield 46, 3) := by decide +kernel
theorem dX2_mendBellows_51 : decode cX2_mendBellows 51 = .ok (.aload_n 3, 1) := by decide +kernel
theorem dX2_mendBellows_52 : decode cX2_mendBellows 52 = .ok (.iload_n 2, 1) := by decide +kernel
theorem dX2_mendBellows_53 : decode cX2_mendBellows 53 = .ok (.invokevirtual 97, 3) := by decide +kernel
theorem dX2_mendBellows_56 : decode cX2_mendBellows 56 = .ok (.isub, 1) := by decide +kernel
theorem dX2_mendBellows_57 : decode cX2_mendBellows 57 = .ok (.putfield 46, 3) := by decide +kernel
theorem dX2_mendBellows_60 : decode cX2_mendBellows 60 = .ok (.aload_n 0, 1) := by decide +kernel
theorem dX2_mendBellows_61 : decode cX2_mendBellows 61 = .ok (.dup, 1) := by decide +kernel
theorem dX2_mendBellows_62 : decode cX2_mendBellows 62 = .ok (.getfield 52, 3) := by decide +kernel
theorem dX2_mendBellows_65 : decode cX2_mendBellows 65 = .ok (.iload 4, 2) := by decide +kernel
theorem dX2_mendBellows_67 : decode cX2_mendBellows 67 = .ok (.iadd, 1) := by decide +kernel
theorem dX2_mendBellows_68 : decode cX2_mendBellows 68 = .ok (.putfield 52, 3) := by decide +kernel
theorem dX2_mendBellows_71 : decode cX2_mendBellows 71 = .ok (.aload_n 3, 1) := by decide +kernel
theorem dX2_mendBellows_72 : decode cX2_mendBellows 72 = .ok (.dup, 1) := by decide +kernel
theorem dX2_mendBellows_73 : decode cX2_mendBellows 73 = .ok (.getfield 100, 3) := by decide +kernel
theorem dX2_mendBellows_76 : decode cX2_mendBellows 76 = .ok (.iload 4, 2) := by decide +kernel
theorem dX2_mendBellows_78 : decode cX2_mendBellows 78 = .ok (.iadd, 1) := by decide +kernel
theorem dX2_mendBellows_79 : decode cX2_mendBellows 79 = .ok (.putfield 100, 3) := by decide +kernel
theorem dX2_mendBellows_82 : decode cX2_mendBellows 82 = .ok (.aload_n 3, 1) := by decide +kernel
theorem dX2_mendBellows_83 : decode cX2_mendBellows 83 = .ok (.aload_n 3, 1) := by decide +kernel
theorem dX2_mendBellows_84 : decode cX2_mendBellows 84 = .ok (.iload_n 2, 1) := by decide +kernel
theorem dX2_mendBellows_85 : decode cX2_mendBellows 85 = .ok (.invokevirtual 103, 3) := by decide +kernel
theorem dX2_mendBellows_88 : decode cX2_mendBellows 88 = .ok (.putfield 106, 3) := by decide +kernel
theorem dX2_mendBellows_91 : decode cX2_mendBellows 91 = .ok (.aload_n 3, 1) := by decide +kernel
theorem dX2_mendBellows_92 : decode cX2_mendBellows 92 = .ok (.dup, 1) := by decide +kernel
theorem dX2_mendBellows_93 : decode cX2_mendBellows 93 = .ok (.getfield 109, 3) := by decide +kernel
theorem dX2_mendBellows_96 : decode cX2_mendBellows 96 = .ok (.iconst 1, 1) := by decide +kernel
theorem dX2_mendBellows_97 : decode cX2_mendBellows 97 = .ok (.iadd, 1) := by decide +kernel
theorem dX2_mendBellows_98 : decode cX2_mendBellows 98 = .ok (.putfield 109, 3) := by decide +kernel
theorem dX2_mendBellows_101 : decode cX2_mendBellows 101 = .ok (.iload_n 2, 1) := by decide +kernel
theorem dX2_mendBellows_102 : decode cX2_mendBellows 102 = .ok (.ifCond .eq 10, 3) := by decide +kernel
theorem dX2_mendBellows_105 : decode cX2_mendBellows 105 = .ok (.aload_n 3, 1) := by decide +kernel
theorem dX2_mendBellows_106 : decode cX2_mendBellows 106 = .ok (.getfield 100, 3) := by decide +kernel
theorem dX2_mendBellows_109 : decode cX2_mendBellows 109 = .ok (.goto 7, 3) := by decide +kernel
theorem dX2_mendBellows_112 : decode cX2_mendBellows 112 = .ok (.aload_n 3, 1) := by decide +kernel
theorem dX2_mendBellows_113 : decode cX2_mendBellows 113 = .ok (.getfield 106, 3) := by decide +kernel
theorem dX2_mendBellows_116 : decode cX2_mendBellows 116 = .ok (.ireturn, 1) := by decide +kernel
set_option maxRecDepth 20000 in
theorem ggX2_collectDebt_X2_find : GoodIn wsX2_collectDebt wsX2_find := goodIn_r _ [13, 14, 15, 29, 30, 31, 32, 33, 34, 35, 36, 37, 38, 39, 40, 41, 42, 43] (by decide +kernel) (by decide +kernel)
set_option maxRecDepth 20000 in
theorem gX2_collectDebt_X2_find : GoodIn wsX2_collectDebt (wsV RX2 61 RX2 yX2_find wsX2_find) := goodIn_app (goodIn_of _ (by decide +kernel)) ggX2_collectDebt_X2_find
set_option maxRecDepth 20000 in
theorem ggX2_collectDebt_X2_isCold : GoodIn wsX2_collectDebt wsX2_isCold := goodIn_r _ [19, 20, 29, 30, 31, 32, 33, 34, 35, 36, 37, 38, 39, 40, 41, 42, 43] (by decide +kernel) (by decide +kernel)
set_option maxRecDepth 20000 in
theorem gX2_collectDebt_X2_isCold : GoodIn wsX2_collectDebt (wsV RX2 116 RX2 yX2_isCold wsX2_isCold) := goodIn_app (goodIn_of _ (by decide +kernel)) ggX2_collectDebt_X2_isCold
theorem dX2_collectDebt_0 : decode cX2_collectDebt 0 = .ok (.aload_n 0, 1) := by decide +kernel
theorem dX2_collectDebt_1 : decode cX2_collectDebt 1 = .ok (.iload_n 1, 1) := by decide +kernel
theorem dX2_collectDebt_2 : decode cX2_collectDebt 2 = .ok (.invokevirtual 61, 3) := by decide +kernel
theorem dX2_collectDebt_5 : decode cX2_collectDebt 5 = .ok (.astore_n 2, 1) := by decide +kernel
theorem dX2_collectDebt_6 : decode cX2_collectDebt 6 = .ok (.aload_n 2, 1) := by decide +kernel
theorem dX2_collectDebt_7 : decode cX2_collectDebt 7 = .ok (.ifnonnull 6, 3) := by decide +kernel
theorem dX2_collectDebt_10 : decode cX2_collectDebt 10 = .ok (.ldc 69, 2) := by decide +kernel
theorem dX2_collectDebt_12 : decode cX2_collectDebt 12 = .ok (.ireturn, 1) := by decide +kernel
theorem dX2_collectDebt_13 : decode cX2_collectDebt 13 = .ok (.aload_n 2, 1) := by decide +kernel
theorem dX2_collectDebt_14 : decode cX2_collectDebt 14 = .ok (.getfield 112, 3) := by decide +kernel
theorem dX2_collectDebt_17 : decode cX2_collectDebt 17 = .ok (.aload_n 0, 1) := by decide +kernel
theorem dX2_collectDebt_18 : decode cX2_collectDebt 18 = .ok (.getfield 43, 3) := by decide +kernel
theorem dX2_collectDebt_21 : decode cX2_collectDebt 21 = .ok (.if_icmp .ne 10, 3) := by decide +kernel
theorem dX2_collectDebt_24 : decode cX2_collectDebt 24 = .ok (.aload_n 2, 1) := by decide +kernel
theorem dX2_collectDebt_25 : decode cX2_collectDebt 25 = .ok (.getfield 100, 3) := by decide +kernel
theorem dX2_collectDebt_28 : decode cX2_collectDebt 28 = .ok (.ifCond .gt 6, 3) := by decide +kernel
theorem dX2_collectDebt_31 : decode cX2_collectDebt 31 = .ok (.ldc 79, 2) := by decide +kernel
theorem dX2_collectDebt_33 : decode cX2_collectDebt 33 = .ok (.ireturn, 1) := by decide +kernel
theorem dX2_collectDebt_34 : decode cX2_collectDebt 34 = .ok (.aload_n 0, 1) := by decide +kernel
theorem dX2_collectDebt_35 : decode cX2_collectDebt 35 = .ok (.aload_n 2, 1) := by decide +kernel
theorem dX2_collectDebt_36 : decode cX2_collectDebt 36 = .ok (.getfield 113, 3) := by decide +kernel
theorem dX2_collectDebt_39 : decode cX2_collectDebt 39 = .ok (.invokevirtual 116, 3) := by decide +kernel
theorem dX2_collectDebt_42 : decode cX2_collectDebt 42 = .ok (.ifCond .eq 12, 3) := by decide +kernel
theorem dX2_collectDebt_45 : decode cX2_collectDebt 45 = .ok (.aload_n 2, 1) := by decide +kernel
theorem dX2_collectDebt_46 : decode cX2_collectDebt 46 = .ok (.getfield 100, 3) := by decide +kernel
theorem dX2_collectDebt_49 : decode cX2_collectDebt 49 = .ok (.iconst 2, 1) := by decide +kernel
theorem dX2_collectDebt_50 : decode cX2_collectDebt 50 = .ok (.idiv, 1) := by decide +kernel
theorem dX2_collectDebt_51 : decode cX2_collectDebt 51 = .ok (.goto 7, 3) := by decide +kernel
theorem dX2_collectDebt_54 : decode cX2_collectDebt 54 = .ok (.aload_n 2, 1) := by decide +kernel
theorem dX2_collectDebt_55 : decode cX2_collectDebt 55 = .ok (.getfield 100, 3) := by decide +kernel
theorem dX2_collectDebt_58 : decode cX2_collectDebt 58 = .ok (.istore_n 3, 1) := by decide +kernel
theorem dX2_collectDebt_59 : decode cX2_collectDebt 59 = .ok (.aload_n 2, 1) := by decide +kernel
theorem dX2_collectDebt_60 : decode cX2_collectDebt 60 = .ok (.dup, 1) := by decide +kernel
theorem dX2_collectDebt_61 : decode cX2_collectDebt 61 = .ok (.getfield 100, 3) := by decide +kernel
theorem dX2_collectDebt_64 : decode cX2_collectDebt 64 = .ok (.iload_n 3, 1) := by decide +kernel
theorem dX2_collectDebt_65 : decode cX2_collectDebt 65 = .ok (.isub, 1) := by decide +kernel
theorem dX2_collectDebt_66 : decode cX2_collectDebt 66 = .ok (.putfield 100, 3) := by decide +kernel
theorem dX2_collectDebt_69 : decode cX2_collectDebt 69 = .ok (.aload_n 2, 1) := by decide +kernel
theorem dX2_collectDebt_70 : decode cX2_collectDebt 70 = .ok (.dup, 1) := by decide +kernel
theorem dX2_collectDebt_71 : decode cX2_collectDebt 71 = .ok (.getfield 120, 3) := by decide +kernel
theorem dX2_collectDebt_74 : decode cX2_collectDebt 74 = .ok (.iload_n 3, 1) := by decide +kernel
theorem dX2_collectDebt_75 : decode cX2_collectDebt 75 = .ok (.iadd, 1) := by decide +kernel
theorem dX2_collectDebt_76 : decode cX2_collectDebt 76 = .ok (.putfield 120, 3) := by decide +kernel
theorem dX2_collectDebt_79 : decode cX2_collectDebt 79 = .ok (.aload_n 0, 1) := by decide +kernel
theorem dX2_collectDebt_80 : decode cX2_collectDebt 80 = .ok (.dup, 1) := by decide +kernel
theorem dX2_collectDebt_81 : decode cX2_collectDebt 81 = .ok (.getfield 33, 3) := by decide +kernel
theorem dX2_collectDebt_84 : decode cX2_collectDebt 84 = .ok (.iload_n 3, 1) := by decide +kernel
theorem dX2_collectDebt_85 : decode cX2_collectDebt 85 = .ok (.iadd, 1) := by decide +kernel
theorem dX2_collectDebt_86 : decode cX2_collectDebt 86 = .ok (.putfield 33, 3) := by decide +kernel
theorem dX2_collectDebt_89 : decode cX2_collectDebt 89 = .ok (.iload_n 3, 1) := by decide +kernel
theorem dX2_collectDebt_90 : decode cX2_collectDebt 90 = .ok (.ireturn, 1) := by decide +kernel
set_option maxRecDepth 20000 in
theorem ggX2_endDays_X2_find : GoodIn wsX2_endDays wsX2_find := goodIn_r _ [11, 4, 12, 54, 55, 56, 57, 58, 59, 60, 61, 62, 63, 64, 65, 66, 67, 68] (by decide +kernel) (by decide +kernel)
set_option maxRecDepth 20000 in
theorem gX2_endDays_X2_find : GoodIn wsX2_endDays (wsV RX2 61 RX2 yX2_find wsX2_find) := goodIn_app (goodIn_of _ (by decide +kernel)) ggX2_endDays_X2_find
set_option maxRecDepth 20000 in
theorem ggX2_endDays_X2_endDayOf : GoodIn wsX2_endDays wsX2_endDayOf := goodIn_r _ [16, 17, 18, 19, 20, 21, 22, 23, 24, 25, 26, 27, 28, 29, 30, 31, 32, 33, 34, 35, 36, 37, 38, 39, 40, 10, 41, 42, 69, 70, 71, 72, 73, 74, 75, 76, 54, 55, 56, 57, 58, 59, 60, 61, 62, 63, 64, 65, 66, 67, 68] (by decide +kernel) (by decide +kernel)
set_option maxRecDepth 20000 in
theorem gX2_endDays_X2_endDayOf : GoodIn wsX2_endDays (wsV RX2 123 RX2 yX2_endDayOf wsX2_endDayOf) := goodIn_app (goodIn_of _ (by decide +kernel)) ggX2_endDays_X2_endDayOf
set_option maxRecDepth 20000 in
theorem ggX2_endDays_X2_coldSet : GoodIn wsX2_endDays wsX2_coldSet := goodIn_r _ [46, 4, 19, 7, 8, 9, 10, 11, 12, 38, 39, 40, 41, 42, 54, 55, 56, 57, 58, 59, 60, 61, 62, 63, 64, 65, 66, 67, 68, 69, 70, 71, 72, 73, 74, 75, 76] (by decide +kernel) (by decide +kernel)
set_option maxRecDepth 20000 in
theorem gX2_endDays_X2_coldSet : GoodIn wsX2_endDays (wsV RX2 126 RX2 yX2_coldSet wsX2_coldSet) := goodIn_app (goodIn_of _ (by decide +kernel)) ggX2_endDays_X2_coldSet
set_option maxRecDepth 20000 in
theorem ggX2_endDays_J6_bitCount_0f7a4 : GoodIn wsX2_endDays wsJ6_bitCount_0f7a4 := goodIn_r _ [50, 51, 52, 53] (by decide +kernel) (by decide +kernel)
set_option maxRecDepth 20000 in
theorem gX2_endDays_J6_bitCount_0f7a4 : GoodIn wsX2_endDays (va_wsS RX2 130 yJ6_bitCount_0f7a4 wsJ6_bitCount_0f7a4) := goodIn_app (goodIn_of _ (by decide +kernel)) ggX2_endDays_J6_bitCount_0f7a4
theorem dX2_endDays_0 : decode cX2_endDays 0 = .ok (.iload_n 1, 1) := by decide +kernel
theorem dX2_endDays_1 : decode cX2_endDays 1 = .ok (.iconst 1, 1) := by decide +kernel
theorem dX2_endDays_2 : decode cX2_endDays 2 = .ok (.if_icmp .lt 9, 3) := by decide +kernel
theorem dX2_endDays_5 : decode cX2_endDays 5 = .ok (.iload_n 1, 1) := by decide +kernel
theorem dX2_endDays_6 : decode cX2_endDays 6 = .ok (.bipush 99, 2) := by decide +kernel
theorem dX2_endDays_8 : decode cX2_endDays 8 = .ok (.if_icmp .le 6, 3) := by decide +kernel
theorem dX2_endDays_11 : decode cX2_endDays 11 = .ok (.ldc 69, 2) := by decide +kernel
theorem dX2_endDays_13 : decode cX2_endDays 13 = .ok (.ireturn, 1) := by decide +kernel
theorem dX2_endDays_14 : decode cX2_endDays 14 = .ok (.aload_n 0, 1) := by decide +kernel
theorem dX2_endDays_15 : decode cX2_endDays 15 = .ok (.getfield 40, 3) := by decide +kernel
theorem dX2_endDays_18 : decode cX2_endDays 18 = .ok (.iload_n 1, 1) := by decide +kernel
theorem dX2_endDays_19 : decode cX2_endDays 19 = .ok (.iadd, 1) := by decide +kernel
theorem dX2_endDays_20 : decode cX2_endDays 20 = .ok (.sipush 9999, 3) := by decide +kernel
theorem dX2_endDays_23 : decode cX2_endDays 23 = .ok (.if_icmp .le 6, 3) := by decide +kernel
theorem dX2_endDays_26 : decode cX2_endDays 26 = .ok (.ldc 70, 2) := by decide +kernel
theorem dX2_endDays_28 : decode cX2_endDays 28 = .ok (.ireturn, 1) := by decide +kernel
theorem dX2_endDays_29 : decode cX2_endDays 29 = .ok (.iconst 0, 1) := by decide +kernel
theorem dX2_endDays_30 : decode cX2_endDays 30 = .ok (.istore_n 2, 1) := by decide +kernel
theorem dX2_endDays_31 : decode cX2_endDays 31 = .ok (.iload_n 2, 1) := by decide +kernel
theorem dX2_endDays_32 : decode cX2_endDays 32 = .ok (.aload_n 0, 1) := by decide +kernel
theorem dX2_endDays_33 : decode cX2_endDays 33 = .ok (.getfield 37, 3) := by decide +kernel
theorem dX2_endDays_36 : decode cX2_endDays 36 = .ok (.if_icmp .ge 39, 3) := by decide +kernel
theorem dX2_endDays_39 : decode cX2_endDays 39 = .ok (.aload_n 0, 1) := by decide +kernel
theorem dX2_endDays_40 : decode cX2_endDays 40 = .ok (.iload_n 2, 1) := by decide +kernel
theorem dX2_endDays_41 : decode cX2_endDays 41 = .ok (.invokevirtual 61, 3) := by decide +kernel
theorem dX2_endDays_44 : decode cX2_endDays 44 = .ok (.astore_n 3, 1) := by decide +kernel
theorem dX2_endDays_45 : decode cX2_endDays 45 = .ok (.iconst 0, 1) := by decide +kernel
theorem dX2_endDays_46 : decode cX2_endDays 46 = .ok (.istore 4, 2) := by decide +kernel
theorem dX2_endDays_48 : decode cX2_endDays 48 = .ok (.iload 4, 2) := by decide +kernel
theorem dX2_endDays_50 : decode cX2_endDays 50 = .ok (.iload_n 1, 1) := by decide +kernel
theorem dX2_endDays_51 : decode cX2_endDays 51 = .ok (.if_icmp .ge 18, 3) := by decide +kernel
theorem dX2_endDays_54 : decode cX2_endDays 54 = .ok (.aload_n 3, 1) := by decide +kernel
theorem dX2_endDays_55 : decode cX2_endDays 55 = .ok (.ifnull 14, 3) := by decide +kernel
theorem dX2_endDays_58 : decode cX2_endDays 58 = .ok (.aload_n 0, 1) := by decide +kernel
theorem dX2_endDays_59 : decode cX2_endDays 59 = .ok (.aload_n 3, 1) := by decide +kernel
theorem dX2_endDays_60 : decode cX2_endDays 60 = .ok (.invokevirtual 123, 3) := by decide +kernel
theorem dX2_endDays_63 : decode cX2_endDays 63 = .ok (.iinc 4 1, 3) := by decide +kernel
theorem dX2_endDays_66 : decode cX2_endDays 66 = .ok (.goto (-18), 3) := by decide +kernel
theorem dX2_endDays_69 : decode cX2_endDays 69 = .ok (.iinc 2 1, 3) := by decide +kernel
theorem dX2_endDays_72 : decode cX2_endDays 72 = .ok (.goto (-41), 3) := by decide +kernel
theorem dX2_endDays_75 : decode cX2_endDays 75 = .ok (.aload_n 0, 1) := by decide +kernel
theorem dX2_endDays_76 : decode cX2_endDays 76 = .ok (.dup, 1) := by decide +kernel
theorem dX2_endDays_77 : decode cX2_endDays 77 = .ok (.getfield 40, 3) := by decide +kernel
theorem dX2_endDays_80 : decode cX2_endDays 80 = .ok (.iload_n 1, 1) := by decide +kernel
theorem dX2_endDays_81 : decode cX2_endDays 81 = .ok (.iadd, 1) := by decide +kernel
theorem dX2_endDays_82 : decode cX2_endDays 82 = .ok (.putfield 40, 3) := by decide +kernel
theorem dX2_endDays_85 : decode cX2_endDays 85 = .ok (.aload_n 0, 1) := by decide +kernel
theorem dX2_endDays_86 : decode cX2_endDays 86 = .ok (.aload_n 0, 1) := by decide +kernel
theorem dX2_endDays_87 : decode cX2_endDays 87 = .ok (.getfield 21, 3) := by decide +kernel
theorem dX2_endDays_90 : decode cX2_endDays 90 = .ok (.putfield 30, 3) := by decide +kernel
theorem dX2_endDays_93 : decode cX2_endDays 93 = .ok (.aload_n 0, 1) := by decide +kernel
theorem dX2_endDays_94 : decode cX2_endDays 94 = .ok (.invokevirtual 126, 3) := by decide +kernel
theorem dX2_endDays_97 : decode cX2_endDays 97 = .ok (.invokestatic 130, 3) := by decide +kernel
theorem dX2_endDays_100 : decode cX2_endDays 100 = .ok (.ireturn, 1) := by decide +kernel
set_option maxRecDepth 20000 in
theorem ggX2_endDayOf_X3_wearBehindDay : GoodIn wsX2_endDayOf wsX3_wearBehindDay := goodIn_r _ [12, 13, 14, 8, 15] (by decide +kernel) (by decide +kernel)
set_option maxRecDepth 20000 in
theorem gX2_endDayOf_X3_wearBehindDay_n138 : GoodIn wsX2_endDayOf (wsX3_wearBehindDay) := ggX2_endDayOf_X3_wearBehindDay
set_option maxRecDepth 20000 in
theorem ggX2_endDayOf_X3_heatBehindDay : GoodIn wsX2_endDayOf wsX3_heatBehindDay := goodIn_r _ [17, 13, 14, 8, 15, 18, 7, 9, 19, 20, 11, 21] (by decide +kernel) (by decide +kernel)
set_option maxRecDepth 20000 in
theorem gX2_endDayOf_X3_heatBehindDay_n141 : GoodIn wsX2_endDayOf (wsX3_heatBehindDay) := ggX2_endDayOf_X3_heatBehindDay
set_option maxRecDepth 20000 in
theorem ggX2_endDayOf_X2_isCold : GoodIn wsX2_endDayOf wsX2_isCold := goodIn_r _ [26, 27, 36, 37, 38, 39, 40, 41, 42, 43, 44, 45, 46, 47, 48, 49, 50] (by decide +kernel) (by decide +kernel)
set_option maxRecDepth 20000 in
theorem gX2_endDayOf_X2_isCold : GoodIn wsX2_endDayOf (wsV RX2 116 RX2 yX2_isCold wsX2_isCold) := goodIn_app (goodIn_of _ (by decide +kernel)) ggX2_endDayOf_X2_isCold
theorem dX2_endDayOf_0 : decode cX2_endDayOf 0 = .ok (.aload_n 1, 1) := by decide +kernel
theorem dX2_endDayOf_1 : decode cX2_endDayOf 1 = .ok (.aload_n 1, 1) := by decide +kernel
theorem dX2_endDayOf_2 : decode cX2_endDayOf 2 = .ok (.getfield 106, 3) := by decide +kernel
theorem dX2_endDayOf_5 : decode cX2_endDayOf 5 = .ok (.aload_n 1, 1) := by decide +kernel
theorem dX2_endDayOf_6 : decode cX2_endDayOf 6 = .ok (.getfield 135, 3) := by decide +kernel
theorem dX2_endDayOf_9 : decode cX2_endDayOf 9 = .ok (.invokestatic 138, 3) := by decide +kernel
theorem dX2_endDayOf_12 : decode cX2_endDayOf 12 = .ok (.putfield 106, 3) := by decide +kernel
theorem dX2_endDayOf_15 : decode cX2_endDayOf 15 = .ok (.aload_n 1, 1) := by decide +kernel
theorem dX2_endDayOf_16 : decode cX2_endDayOf 16 = .ok (.aload_n 1, 1) := by decide +kernel
theorem dX2_endDayOf_17 : decode cX2_endDayOf 17 = .ok (.getfield 113, 3) := by decide +kernel
theorem dX2_endDayOf_20 : decode cX2_endDayOf 20 = .ok (.aload_n 1, 1) := by decide +kernel
theorem dX2_endDayOf_21 : decode cX2_endDayOf 21 = .ok (.getfield 106, 3) := by decide +kernel
theorem dX2_endDayOf_24 : decode cX2_endDayOf 24 = .ok (.invokestatic 141, 3) := by decide +kernel
theorem dX2_endDayOf_27 : decode cX2_endDayOf 27 = .ok (.putfield 113, 3) := by decide +kernel
theorem dX2_endDayOf_30 : decode cX2_endDayOf 30 = .ok (.aload_n 1, 1) := by decide +kernel
theorem dX2_endDayOf_31 : decode cX2_endDayOf 31 = .ok (.aload_n 0, 1) := by decide +kernel
theorem dX2_endDayOf_32 : decode cX2_endDayOf 32 = .ok (.aload_n 1, 1) := by decide +kernel
theorem dX2_endDayOf_33 : decode cX2_endDayOf 33 = .ok (.getfield 113, 3) := by decide +kernel
theorem dX2_endDayOf_36 : decode cX2_endDayOf 36 = .ok (.invokevirtual 116, 3) := by decide +kernel
theorem dX2_endDayOf_39 : decode cX2_endDayOf 39 = .ok (.ifCond .eq 12, 3) := by decide +kernel
theorem dX2_endDayOf_42 : decode cX2_endDayOf 42 = .ok (.aload_n 1, 1) := by decide +kernel
theorem dX2_endDayOf_43 : decode cX2_endDayOf 43 = .ok (.getfield 144, 3) := by decide +kernel
theorem dX2_endDayOf_46 : decode cX2_endDayOf 46 = .ok (.iconst 1, 1) := by decide +kernel
theorem dX2_endDayOf_47 : decode cX2_endDayOf 47 = .ok (.iadd, 1) := by decide +kernel
theorem dX2_endDayOf_48 : decode cX2_endDayOf 48 = .ok (.goto 4, 3) := by decide +kernel
theorem dX2_endDayOf_51 : decode cX2_endDayOf 51 = .ok (.iconst 0, 1) := by decide +kernel
theorem dX2_endDayOf_52 : decode cX2_endDayOf 52 = .ok (.putfield 144, 3) := by decide +kernel
theorem dX2_endDayOf_55 : decode cX2_endDayOf 55 = .ok (.aload_n 0, 1) := by decide +kernel
end
section
theorem dX2_endDayOf_56 : decode cX2_endDayOf 56 = .ok (.aload_n 0, 1) := by decide +kernel
theorem dX2_endDayOf_57 : decode cX2_endDayOf 57 = .ok (.getfield 55, 3) := by decide +kernel
theorem dX2_endDayOf_60 : decode cX2_endDayOf 60 = .ok (.aload_n 1, 1) := by decide +kernel
theorem dX2_endDayOf_61 : decode cX2_endDayOf 61 = .ok (.getfield 144, 3) := by decide +kernel
theorem dX2_endDayOf_64 : decode cX2_endDayOf 64 = .ok (.invokestatic 147, 3) := by decide +kernel
theorem dX2_endDayOf_67 : decode cX2_endDayOf 67 = .ok (.putfield 55, 3) := by decide +kernel
theorem dX2_endDayOf_70 : decode cX2_endDayOf 70 = .ok (.return_, 1) := by decide +kernel
set_option maxRecDepth 20000 in
theorem ggX2_changeSetting_X2_isInRange : GoodIn wsX2_changeSetting wsX2_isInRange := goodIn_r _ [9] (by decide +kernel) (by decide +kernel)
set_option maxRecDepth 20000 in
theorem gX2_changeSetting_X2_isInRange : GoodIn wsX2_changeSetting (va_wsS RX2 150 yX2_isInRange wsX2_isInRange) := goodIn_app (goodIn_of _ (by decide +kernel)) ggX2_changeSetting_X2_isInRange
theorem dX2_changeSetting_0 : decode cX2_changeSetting 0 = .ok (.iload_n 1, 1) := by decide +kernel
theorem dX2_changeSetting_1 : decode cX2_changeSetting 1 = .ok (.iload_n 2, 1) := by decide +kernel
theorem dX2_changeSetting_2 : decode cX2_changeSetting 2 = .ok (.invokestatic 150, 3) := by decide +kernel
theorem dX2_changeSetting_5 : decode cX2_changeSetting 5 = .ok (.ifCond .ne 6, 3) := by decide +kernel
theorem dX2_changeSetting_8 : decode cX2_changeSetting 8 = .ok (.ldc 69, 2) := by decide +kernel
theorem dX2_changeSetting_10 : decode cX2_changeSetting 10 = .ok (.ireturn, 1) := by decide +kernel
theorem dX2_changeSetting_11 : decode cX2_changeSetting 11 = .ok (.iload_n 1, 1) := by decide +kernel
theorem dX2_changeSetting_12 : decode cX2_changeSetting 12 = .ok (.tableswitch 64 0 2 #[28, 40, 52], 28) := by decide +kernel
theorem dX2_changeSetting_40 : decode cX2_changeSetting 40 = .ok (.aload_n 0, 1) := by decide +kernel
theorem dX2_changeSetting_41 : decode cX2_changeSetting 41 = .ok (.getfield 17, 3) := by decide +kernel
theorem dX2_changeSetting_44 : decode cX2_changeSetting 44 = .ok (.istore_n 3, 1) := by decide +kernel
theorem dX2_changeSetting_45 : decode cX2_changeSetting 45 = .ok (.aload_n 0, 1) := by decide +kernel
theorem dX2_changeSetting_46 : decode cX2_changeSetting 46 = .ok (.iload_n 2, 1) := by decide +kernel
theorem dX2_changeSetting_47 : decode cX2_changeSetting 47 = .ok (.putfield 17, 3) := by decide +kernel
theorem dX2_changeSetting_50 : decode cX2_changeSetting 50 = .ok (.iload_n 3, 1) := by decide +kernel
theorem dX2_changeSetting_51 : decode cX2_changeSetting 51 = .ok (.ireturn, 1) := by decide +kernel
theorem dX2_changeSetting_52 : decode cX2_changeSetting 52 = .ok (.aload_n 0, 1) := by decide +kernel
theorem dX2_changeSetting_53 : decode cX2_changeSetting 53 = .ok (.getfield 21, 3) := by decide +kernel
theorem dX2_changeSetting_56 : decode cX2_changeSetting 56 = .ok (.istore_n 3, 1) := by decide +kernel
theorem dX2_changeSetting_57 : decode cX2_changeSetting 57 = .ok (.aload_n 0, 1) := by decide +kernel
theorem dX2_changeSetting_58 : decode cX2_changeSetting 58 = .ok (.iload_n 2, 1) := by decide +kernel
theorem dX2_changeSetting_59 : decode cX2_changeSetting 59 = .ok (.putfield 21, 3) := by decide +kernel
theorem dX2_changeSetting_62 : decode cX2_changeSetting 62 = .ok (.iload_n 3, 1) := by decide +kernel
theorem dX2_changeSetting_63 : decode cX2_changeSetting 63 = .ok (.ireturn, 1) := by decide +kernel
theorem dX2_changeSetting_64 : decode cX2_changeSetting 64 = .ok (.aload_n 0, 1) := by decide +kernel
theorem dX2_changeSetting_65 : decode cX2_changeSetting 65 = .ok (.getfield 24, 3) := by decide +kernel
theorem dX2_changeSetting_68 : decode cX2_changeSetting 68 = .ok (.istore_n 3, 1) := by decide +kernel
theorem dX2_changeSetting_69 : decode cX2_changeSetting 69 = .ok (.aload_n 0, 1) := by decide +kernel
theorem dX2_changeSetting_70 : decode cX2_changeSetting 70 = .ok (.iload_n 2, 1) := by decide +kernel
theorem dX2_changeSetting_71 : decode cX2_changeSetting 71 = .ok (.putfield 24, 3) := by decide +kernel
theorem dX2_changeSetting_74 : decode cX2_changeSetting 74 = .ok (.iload_n 3, 1) := by decide +kernel
theorem dX2_changeSetting_75 : decode cX2_changeSetting 75 = .ok (.ireturn, 1) := by decide +kernel
theorem dX2_changeSetting_76 : decode cX2_changeSetting 76 = .ok (.aload_n 0, 1) := by decide +kernel
theorem dX2_changeSetting_77 : decode cX2_changeSetting 77 = .ok (.getfield 27, 3) := by decide +kernel
theorem dX2_changeSetting_80 : decode cX2_changeSetting 80 = .ok (.istore_n 3, 1) := by decide +kernel
theorem dX2_changeSetting_81 : decode cX2_changeSetting 81 = .ok (.aload_n 0, 1) := by decide +kernel
theorem dX2_changeSetting_82 : decode cX2_changeSetting 82 = .ok (.iload_n 2, 1) := by decide +kernel
theorem dX2_changeSetting_83 : decode cX2_changeSetting 83 = .ok (.putfield 27, 3) := by decide +kernel
theorem dX2_changeSetting_86 : decode cX2_changeSetting 86 = .ok (.iload_n 3, 1) := by decide +kernel
theorem dX2_changeSetting_87 : decode cX2_changeSetting 87 = .ok (.ireturn, 1) := by decide +kernel
theorem dX2_isInRange_0 : decode cX2_isInRange 0 = .ok (.iload_n 0, 1) := by decide +kernel
theorem dX2_isInRange_1 : decode cX2_isInRange 1 = .ok (.tableswitch 98 0 3 #[31, 48, 65, 81], 31) := by decide +kernel
theorem dX2_isInRange_32 : decode cX2_isInRange 32 = .ok (.iload_n 1, 1) := by decide +kernel
theorem dX2_isInRange_33 : decode cX2_isInRange 33 = .ok (.iconst 1, 1) := by decide +kernel
theorem dX2_isInRange_34 : decode cX2_isInRange 34 = .ok (.if_icmp .lt 13, 3) := by decide +kernel
theorem dX2_isInRange_37 : decode cX2_isInRange 37 = .ok (.iload_n 1, 1) := by decide +kernel
theorem dX2_isInRange_38 : decode cX2_isInRange 38 = .ok (.bipush 99, 2) := by decide +kernel
theorem dX2_isInRange_40 : decode cX2_isInRange 40 = .ok (.if_icmp .gt 7, 3) := by decide +kernel
theorem dX2_isInRange_43 : decode cX2_isInRange 43 = .ok (.iconst 1, 1) := by decide +kernel
theorem dX2_isInRange_44 : decode cX2_isInRange 44 = .ok (.goto 4, 3) := by decide +kernel
theorem dX2_isInRange_47 : decode cX2_isInRange 47 = .ok (.iconst 0, 1) := by decide +kernel
theorem dX2_isInRange_48 : decode cX2_isInRange 48 = .ok (.ireturn, 1) := by decide +kernel
theorem dX2_isInRange_49 : decode cX2_isInRange 49 = .ok (.iload_n 1, 1) := by decide +kernel
theorem dX2_isInRange_50 : decode cX2_isInRange 50 = .ok (.iconst 1, 1) := by decide +kernel
theorem dX2_isInRange_51 : decode cX2_isInRange 51 = .ok (.if_icmp .lt 13, 3) := by decide +kernel
theorem dX2_isInRange_54 : decode cX2_isInRange 54 = .ok (.iload_n 1, 1) := by decide +kernel
theorem dX2_isInRange_55 : decode cX2_isInRange 55 = .ok (.bipush 24, 2) := by decide +kernel
theorem dX2_isInRange_57 : decode cX2_isInRange 57 = .ok (.if_icmp .gt 7, 3) := by decide +kernel
theorem dX2_isInRange_60 : decode cX2_isInRange 60 = .ok (.iconst 1, 1) := by decide +kernel
theorem dX2_isInRange_61 : decode cX2_isInRange 61 = .ok (.goto 4, 3) := by decide +kernel
theorem dX2_isInRange_64 : decode cX2_isInRange 64 = .ok (.iconst 0, 1) := by decide +kernel
theorem dX2_isInRange_65 : decode cX2_isInRange 65 = .ok (.ireturn, 1) := by decide +kernel
theorem dX2_isInRange_66 : decode cX2_isInRange 66 = .ok (.iload_n 1, 1) := by decide +kernel
theorem dX2_isInRange_67 : decode cX2_isInRange 67 = .ok (.ifCond .lt 13, 3) := by decide +kernel
theorem dX2_isInRange_70 : decode cX2_isInRange 70 = .ok (.iload_n 1, 1) := by decide +kernel
theorem dX2_isInRange_71 : decode cX2_isInRange 71 = .ok (.bipush 20, 2) := by decide +kernel
theorem dX2_isInRange_73 : decode cX2_isInRange 73 = .ok (.if_icmp .gt 7, 3) := by decide +kernel
theorem dX2_isInRange_76 : decode cX2_isInRange 76 = .ok (.iconst 1, 1) := by decide +kernel
theorem dX2_isInRange_77 : decode cX2_isInRange 77 = .ok (.goto 4, 3) := by decide +kernel
theorem dX2_isInRange_80 : decode cX2_isInRange 80 = .ok (.iconst 0, 1) := by decide +kernel
theorem dX2_isInRange_81 : decode cX2_isInRange 81 = .ok (.ireturn, 1) := by decide +kernel
theorem dX2_isInRange_82 : decode cX2_isInRange 82 = .ok (.iload_n 1, 1) := by decide +kernel
theorem dX2_isInRange_83 : decode cX2_isInRange 83 = .ok (.ifCond .lt 14, 3) := by decide +kernel
theorem dX2_isInRange_86 : decode cX2_isInRange 86 = .ok (.iload_n 1, 1) := by decide +kernel
theorem dX2_isInRange_87 : decode cX2_isInRange 87 = .ok (.sipush 500, 3) := by decide +kernel
theorem dX2_isInRange_90 : decode cX2_isInRange 90 = .ok (.if_icmp .gt 7, 3) := by decide +kernel
theorem dX2_isInRange_93 : decode cX2_isInRange 93 = .ok (.iconst 1, 1) := by decide +kernel
theorem dX2_isInRange_94 : decode cX2_isInRange 94 = .ok (.goto 4, 3) := by decide +kernel
theorem dX2_isInRange_97 : decode cX2_isInRange 97 = .ok (.iconst 0, 1) := by decide +kernel
theorem dX2_isInRange_98 : decode cX2_isInRange 98 = .ok (.ireturn, 1) := by decide +kernel
theorem dX2_isInRange_99 : decode cX2_isInRange 99 = .ok (.iconst 0, 1) := by decide +kernel
theorem dX2_isInRange_100 : decode cX2_isInRange 100 = .ok (.ireturn, 1) := by decide +kernel
theorem dX2_isCold_0 : decode cX2_isCold 0 = .ok (.iload_n 1, 1) := by decide +kernel
theorem dX2_isCold_1 : decode cX2_isCold 1 = .ok (.aload_n 0, 1) := by decide +kernel
theorem dX2_isCold_2 : decode cX2_isCold 2 = .ok (.getfield 17, 3) := by decide +kernel
theorem dX2_isCold_5 : decode cX2_isCold 5 = .ok (.if_icmp .ge 7, 3) := by decide +kernel
theorem dX2_isCold_8 : decode cX2_isCold 8 = .ok (.iconst 1, 1) := by decide +kernel
theorem dX2_isCold_9 : decode cX2_isCold 9 = .ok (.goto 4, 3) := by decide +kernel
theorem dX2_isCold_12 : decode cX2_isCold 12 = .ok (.iconst 0, 1) := by decide +kernel
theorem dX2_isCold_13 : decode cX2_isCold 13 = .ok (.ireturn, 1) := by decide +kernel
set_option maxRecDepth 20000 in
theorem ggX2_coldSet_X2_find : GoodIn wsX2_coldSet wsX2_find := goodIn_r _ [7, 1, 8, 14, 15, 16, 17, 18, 19, 20, 21, 22, 23, 24, 25, 26, 27, 28] (by decide +kernel) (by decide +kernel)
set_option maxRecDepth 20000 in
theorem gX2_coldSet_X2_find : GoodIn wsX2_coldSet (wsV RX2 61 RX2 yX2_find wsX2_find) := goodIn_app (goodIn_of _ (by decide +kernel)) ggX2_coldSet_X2_find
set_option maxRecDepth 20000 in
theorem ggX2_coldSet_X2_isCold : GoodIn wsX2_coldSet wsX2_isCold := goodIn_r _ [12, 13, 14, 15, 16, 17, 18, 19, 20, 21, 22, 23, 24, 25, 26, 27, 28] (by decide +kernel) (by decide +kernel)
set_option maxRecDepth 20000 in
theorem gX2_coldSet_X2_isCold : GoodIn wsX2_coldSet (wsV RX2 116 RX2 yX2_isCold wsX2_isCold) := goodIn_app (goodIn_of _ (by decide +kernel)) ggX2_coldSet_X2_isCold
theorem dX2_coldSet_0 : decode cX2_coldSet 0 = .ok (.iconst 0, 1) := by decide +kernel
theorem dX2_coldSet_1 : decode cX2_coldSet 1 = .ok (.istore_n 1, 1) := by decide +kernel
theorem dX2_coldSet_2 : decode cX2_coldSet 2 = .ok (.iconst 0, 1) := by decide +kernel
theorem dX2_coldSet_3 : decode cX2_coldSet 3 = .ok (.istore_n 2, 1) := by decide +kernel
theorem dX2_coldSet_4 : decode cX2_coldSet 4 = .ok (.iload_n 2, 1) := by decide +kernel
theorem dX2_coldSet_5 : decode cX2_coldSet 5 = .ok (.aload_n 0, 1) := by decide +kernel
theorem dX2_coldSet_6 : decode cX2_coldSet 6 = .ok (.getfield 37, 3) := by decide +kernel
theorem dX2_coldSet_9 : decode cX2_coldSet 9 = .ok (.if_icmp .ge 36, 3) := by decide +kernel
theorem dX2_coldSet_12 : decode cX2_coldSet 12 = .ok (.aload_n 0, 1) := by decide +kernel
theorem dX2_coldSet_13 : decode cX2_coldSet 13 = .ok (.iload_n 2, 1) := by decide +kernel
theorem dX2_coldSet_14 : decode cX2_coldSet 14 = .ok (.invokevirtual 61, 3) := by decide +kernel
theorem dX2_coldSet_17 : decode cX2_coldSet 17 = .ok (.astore_n 3, 1) := by decide +kernel
theorem dX2_coldSet_18 : decode cX2_coldSet 18 = .ok (.aload_n 3, 1) := by decide +kernel
theorem dX2_coldSet_19 : decode cX2_coldSet 19 = .ok (.ifnull 20, 3) := by decide +kernel
theorem dX2_coldSet_22 : decode cX2_coldSet 22 = .ok (.aload_n 0, 1) := by decide +kernel
theorem dX2_coldSet_23 : decode cX2_coldSet 23 = .ok (.aload_n 3, 1) := by decide +kernel
theorem dX2_coldSet_24 : decode cX2_coldSet 24 = .ok (.getfield 113, 3) := by decide +kernel
theorem dX2_coldSet_27 : decode cX2_coldSet 27 = .ok (.invokevirtual 116, 3) := by decide +kernel
theorem dX2_coldSet_30 : decode cX2_coldSet 30 = .ok (.ifCond .eq 9, 3) := by decide +kernel
theorem dX2_coldSet_33 : decode cX2_coldSet 33 = .ok (.iload_n 1, 1) := by decide +kernel
theorem dX2_coldSet_34 : decode cX2_coldSet 34 = .ok (.iconst 1, 1) := by decide +kernel
theorem dX2_coldSet_35 : decode cX2_coldSet 35 = .ok (.iload_n 2, 1) := by decide +kernel
theorem dX2_coldSet_36 : decode cX2_coldSet 36 = .ok (.ishl, 1) := by decide +kernel
theorem dX2_coldSet_37 : decode cX2_coldSet 37 = .ok (.ior, 1) := by decide +kernel
theorem dX2_coldSet_38 : decode cX2_coldSet 38 = .ok (.istore_n 1, 1) := by decide +kernel
theorem dX2_coldSet_39 : decode cX2_coldSet 39 = .ok (.iinc 2 1, 3) := by decide +kernel
theorem dX2_coldSet_42 : decode cX2_coldSet 42 = .ok (.goto (-38), 3) := by decide +kernel
theorem dX2_coldSet_45 : decode cX2_coldSet 45 = .ok (.iload_n 1, 1) := by decide +kernel
theorem dX2_coldSet_46 : decode cX2_coldSet 46 = .ok (.ireturn, 1) := by decide +kernel
set_option maxRecDepth 20000 in
theorem ggX2_debtsTogether_X2_find : GoodIn wsX2_debtsTogether wsX2_find := goodIn_r _ [7, 1, 8, 9, 10, 11, 12, 13, 14, 15, 16, 17, 18, 19, 20, 21, 22, 23] (by decide +kernel) (by decide +kernel)
set_option maxRecDepth 20000 in
theorem gX2_debtsTogether_X2_find : GoodIn wsX2_debtsTogether (wsV RX2 61 RX2 yX2_find wsX2_find) := goodIn_app (goodIn_of _ (by decide +kernel)) ggX2_debtsTogether_X2_find
theorem dX2_debtsTogether_0 : decode cX2_debtsTogether 0 = .ok (.iconst 0, 1) := by decide +kernel
theorem dX2_debtsTogether_1 : decode cX2_debtsTogether 1 = .ok (.istore_n 1, 1) := by decide +kernel
theorem dX2_debtsTogether_2 : decode cX2_debtsTogether 2 = .ok (.iconst 0, 1) := by decide +kernel
theorem dX2_debtsTogether_3 : decode cX2_debtsTogether 3 = .ok (.istore_n 2, 1) := by decide +kernel
theorem dX2_debtsTogether_4 : decode cX2_debtsTogether 4 = .ok (.iload_n 2, 1) := by decide +kernel
theorem dX2_debtsTogether_5 : decode cX2_debtsTogether 5 = .ok (.aload_n 0, 1) := by decide +kernel
theorem dX2_debtsTogether_6 : decode cX2_debtsTogether 6 = .ok (.getfield 37, 3) := by decide +kernel
theorem dX2_debtsTogether_9 : decode cX2_debtsTogether 9 = .ok (.if_icmp .ge 26, 3) := by decide +kernel
theorem dX2_debtsTogether_12 : decode cX2_debtsTogether 12 = .ok (.aload_n 0, 1) := by decide +kernel
theorem dX2_debtsTogether_13 : decode cX2_debtsTogether 13 = .ok (.iload_n 2, 1) := by decide +kernel
theorem dX2_debtsTogether_14 : decode cX2_debtsTogether 14 = .ok (.invokevirtual 61, 3) := by decide +kernel
theorem dX2_debtsTogether_17 : decode cX2_debtsTogether 17 = .ok (.astore_n 3, 1) := by decide +kernel
theorem dX2_debtsTogether_18 : decode cX2_debtsTogether 18 = .ok (.aload_n 3, 1) := by decide +kernel
theorem dX2_debtsTogether_19 : decode cX2_debtsTogether 19 = .ok (.ifnull 10, 3) := by decide +kernel
theorem dX2_debtsTogether_22 : decode cX2_debtsTogether 22 = .ok (.iload_n 1, 1) := by decide +kernel
theorem dX2_debtsTogether_23 : decode cX2_debtsTogether 23 = .ok (.aload_n 3, 1) := by decide +kernel
theorem dX2_debtsTogether_24 : decode cX2_debtsTogether 24 = .ok (.getfield 100, 3) := by decide +kernel
theorem dX2_debtsTogether_27 : decode cX2_debtsTogether 27 = .ok (.iadd, 1) := by decide +kernel
theorem dX2_debtsTogether_28 : decode cX2_debtsTogether 28 = .ok (.istore_n 1, 1) := by decide +kernel
theorem dX2_debtsTogether_29 : decode cX2_debtsTogether 29 = .ok (.iinc 2 1, 3) := by decide +kernel
theorem dX2_debtsTogether_32 : decode cX2_debtsTogether 32 = .ok (.goto (-28), 3) := by decide +kernel
theorem dX2_debtsTogether_35 : decode cX2_debtsTogether 35 = .ok (.iload_n 1, 1) := by decide +kernel
theorem dX2_debtsTogether_36 : decode cX2_debtsTogether 36 = .ok (.ireturn, 1) := by decide +kernel
set_option maxRecDepth 20000 in
theorem ggX2_priceOfMend_X3_hoursOfMend : GoodIn wsX2_priceOfMend wsX3_hoursOfMend := goodIn_r _ [4] (by decide +kernel) (by decide +kernel)
set_option maxRecDepth 20000 in
theorem gX2_priceOfMend_X3_hoursOfMend_n93 : GoodIn wsX2_priceOfMend (wsX3_hoursOfMend) := ggX2_priceOfMend_X3_hoursOfMend
set_option maxRecDepth 20000 in
theorem ggX2_priceOfMend_X1_leatherOfMend : GoodIn wsX2_priceOfMend wsX1_leatherOfMend := goodIn_r _ [9, 10, 11, 12, 3, 13, 29, 30, 31, 32, 33, 34, 35, 36] (by decide +kernel) (by decide +kernel)
set_option maxRecDepth 20000 in
theorem gX2_priceOfMend_X1_leatherOfMend : GoodIn wsX2_priceOfMend (wsV RX2 97 RX1 yX1_leatherOfMend wsX1_leatherOfMend) := goodIn_app (goodIn_of _ (by decide +kernel)) ggX2_priceOfMend_X1_leatherOfMend
theorem dX2_priceOfMend_0 : decode cX2_priceOfMend 0 = .ok (.aload_n 0, 1) := by decide +kernel
theorem dX2_priceOfMend_1 : decode cX2_priceOfMend 1 = .ok (.getfield 24, 3) := by decide +kernel
theorem dX2_priceOfMend_4 : decode cX2_priceOfMend 4 = .ok (.iload_n 2, 1) := by decide +kernel
theorem dX2_priceOfMend_5 : decode cX2_priceOfMend 5 = .ok (.invokestatic 93, 3) := by decide +kernel
theorem dX2_priceOfMend_8 : decode cX2_priceOfMend 8 = .ok (.imul, 1) := by decide +kernel
theorem dX2_priceOfMend_9 : decode cX2_priceOfMend 9 = .ok (.iconst 3, 1) := by decide +kernel
theorem dX2_priceOfMend_10 : decode cX2_priceOfMend 10 = .ok (.aload_n 1, 1) := by decide +kernel
theorem dX2_priceOfMend_11 : decode cX2_priceOfMend 11 = .ok (.iload_n 2, 1) := by decide +kernel
theorem dX2_priceOfMend_12 : decode cX2_priceOfMend 12 = .ok (.invokevirtual 97, 3) := by decide +kernel
theorem dX2_priceOfMend_15 : decode cX2_priceOfMend 15 = .ok (.imul, 1) := by decide +kernel
theorem dX2_priceOfMend_16 : decode cX2_priceOfMend 16 = .ok (.iadd, 1) := by decide +kernel
theorem dX2_priceOfMend_17 : decode cX2_priceOfMend 17 = .ok (.ireturn, 1) := by decide +kernel
set_option maxRecDepth 20000 in
theorem ggX2_reasonAgainst_X3_hoursOfMend : GoodIn wsX2_reasonAgainst wsX3_hoursOfMend := goodIn_r _ [7] (by decide +kernel) (by decide +kernel)
set_option maxRecDepth 20000 in
theorem gX2_reasonAgainst_X3_hoursOfMend_n93 : GoodIn wsX2_reasonAgainst (wsX3_hoursOfMend) := ggX2_reasonAgainst_X3_hoursOfMend
set_option maxRecDepth 20000 in
theorem ggX2_reasonAgainst_X1_leatherOfMend : GoodIn wsX2_reasonAgainst wsX1_leatherOfMend := goodIn_r _ [12, 13, 14, 15, 6, 16, 25, 26, 27, 28, 29, 30, 31, 32] (by decide +kernel) (by decide +kernel)
set_option maxRecDepth 20000 in
theorem gX2_reasonAgainst_X1_leatherOfMend : GoodIn wsX2_reasonAgainst (wsV RX2 97 RX1 yX1_leatherOfMend wsX1_leatherOfMend) := goodIn_app (goodIn_of _ (by decide +kernel)) ggX2_reasonAgainst_X1_leatherOfMend
set_option maxRecDepth 20000 in
theorem ggX2_reasonAgainst_X2_reasonOfSmithy : GoodIn wsX2_reasonAgainst wsX2_reasonOfSmithy := goodIn_r _ [21, 22, 23, 24, 25, 26, 27, 28, 29, 30, 31, 32, 33, 34, 35, 36, 37, 38, 39, 40, 41, 42, 43, 44, 45, 46, 47] (by decide +kernel) (by decide +kernel)
set_option maxRecDepth 20000 in
theorem gX2_reasonAgainst_X2_reasonOfSmithy : GoodIn wsX2_reasonAgainst (wsV RX2 170 RX2 yX2_reasonOfSmithy wsX2_reasonOfSmithy) := goodIn_app (goodIn_of _ (by decide +kernel)) ggX2_reasonAgainst_X2_reasonOfSmithy
theorem dX2_reasonAgainst_0 : decode cX2_reasonAgainst 0 = .ok (.aload_n 1, 1) := by decide +kernel
theorem dX2_reasonAgainst_1 : decode cX2_reasonAgainst 1 = .ok (.getfield 112, 3) := by decide +kernel
theorem dX2_reasonAgainst_4 : decode cX2_reasonAgainst 4 = .ok (.aload_n 0, 1) := by decide +kernel
theorem dX2_reasonAgainst_5 : decode cX2_reasonAgainst 5 = .ok (.getfield 43, 3) := by decide +kernel
theorem dX2_reasonAgainst_8 : decode cX2_reasonAgainst 8 = .ok (.if_icmp .eq 5, 3) := by decide +kernel
theorem dX2_reasonAgainst_11 : decode cX2_reasonAgainst 11 = .ok (.iconst 1, 1) := by decide +kernel
theorem dX2_reasonAgainst_12 : decode cX2_reasonAgainst 12 = .ok (.ireturn, 1) := by decide +kernel
theorem dX2_reasonAgainst_13 : decode cX2_reasonAgainst 13 = .ok (.iload_n 2, 1) := by decide +kernel
theorem dX2_reasonAgainst_14 : decode cX2_reasonAgainst 14 = .ok (.invokestatic 93, 3) := by decide +kernel
theorem dX2_reasonAgainst_17 : decode cX2_reasonAgainst 17 = .ok (.aload_n 0, 1) := by decide +kernel
theorem dX2_reasonAgainst_18 : decode cX2_reasonAgainst 18 = .ok (.getfield 30, 3) := by decide +kernel
theorem dX2_reasonAgainst_21 : decode cX2_reasonAgainst 21 = .ok (.if_icmp .le 5, 3) := by decide +kernel
theorem dX2_reasonAgainst_24 : decode cX2_reasonAgainst 24 = .ok (.iconst 2, 1) := by decide +kernel
theorem dX2_reasonAgainst_25 : decode cX2_reasonAgainst 25 = .ok (.ireturn, 1) := by decide +kernel
theorem dX2_reasonAgainst_26 : decode cX2_reasonAgainst 26 = .ok (.aload_n 1, 1) := by decide +kernel
theorem dX2_reasonAgainst_27 : decode cX2_reasonAgainst 27 = .ok (.iload_n 2, 1) := by decide +kernel
theorem dX2_reasonAgainst_28 : decode cX2_reasonAgainst 28 = .ok (.invokevirtual 97, 3) := by decide +kernel
theorem dX2_reasonAgainst_31 : decode cX2_reasonAgainst 31 = .ok (.aload_n 0, 1) := by decide +kernel
theorem dX2_reasonAgainst_32 : decode cX2_reasonAgainst 32 = .ok (.getfield 46, 3) := by decide +kernel
theorem dX2_reasonAgainst_35 : decode cX2_reasonAgainst 35 = .ok (.if_icmp .le 5, 3) := by decide +kernel
theorem dX2_reasonAgainst_38 : decode cX2_reasonAgainst 38 = .ok (.iconst 3, 1) := by decide +kernel
theorem dX2_reasonAgainst_39 : decode cX2_reasonAgainst 39 = .ok (.ireturn, 1) := by decide +kernel
theorem dX2_reasonAgainst_40 : decode cX2_reasonAgainst 40 = .ok (.aload_n 0, 1) := by decide +kernel
theorem dX2_reasonAgainst_41 : decode cX2_reasonAgainst 41 = .ok (.aload_n 1, 1) := by decide +kernel
theorem dX2_reasonAgainst_42 : decode cX2_reasonAgainst 42 = .ok (.invokevirtual 170, 3) := by decide +kernel
theorem dX2_reasonAgainst_45 : decode cX2_reasonAgainst 45 = .ok (.ireturn, 1) := by decide +kernel
theorem dX2_reasonOfSmithy_0 : decode cX2_reasonOfSmithy 0 = .ok (.aload_n 1, 1) := by decide +kernel
theorem dX2_reasonOfSmithy_1 : decode cX2_reasonOfSmithy 1 = .ok (.getfield 100, 3) := by decide +kernel
theorem dX2_reasonOfSmithy_4 : decode cX2_reasonOfSmithy 4 = .ok (.aload_n 0, 1) := by decide +kernel
theorem dX2_reasonOfSmithy_5 : decode cX2_reasonOfSmithy 5 = .ok (.getfield 27, 3) := by decide +kernel
theorem dX2_reasonOfSmithy_8 : decode cX2_reasonOfSmithy 8 = .ok (.if_icmp .le 5, 3) := by decide +kernel
theorem dX2_reasonOfSmithy_11 : decode cX2_reasonOfSmithy 11 = .ok (.iconst 4, 1) := by decide +kernel
theorem dX2_reasonOfSmithy_12 : decode cX2_reasonOfSmithy 12 = .ok (.ireturn, 1) := by decide +kernel
theorem dX2_reasonOfSmithy_13 : decode cX2_reasonOfSmithy 13 = .ok (.aload_n 1, 1) := by decide +kernel
theorem dX2_reasonOfSmithy_14 : decode cX2_reasonOfSmithy 14 = .ok (.getfield 106, 3) := by decide +kernel
theorem dX2_reasonOfSmithy_17 : decode cX2_reasonOfSmithy 17 = .ok (.ifCond .ne 7, 3) := by decide +kernel
theorem dX2_reasonOfSmithy_20 : decode cX2_reasonOfSmithy 20 = .ok (.iconst 5, 1) := by decide +kernel
theorem dX2_reasonOfSmithy_21 : decode cX2_reasonOfSmithy 21 = .ok (.goto 4, 3) := by decide +kernel
theorem dX2_reasonOfSmithy_24 : decode cX2_reasonOfSmithy 24 = .ok (.iconst 0, 1) := by decide +kernel
theorem dX2_reasonOfSmithy_25 : decode cX2_reasonOfSmithy 25 = .ok (.ireturn, 1) := by decide +kernel
set_option maxRecDepth 20000 in
theorem ggX3_init_X2_init : GoodIn wsX3_init wsX2_init := goodIn_r _ [16, 17, 2, 3, 18, 19, 20, 21, 22, 23, 24, 25, 26, 27, 28, 29, 30, 36, 37, 38, 39, 40, 41, 42, 43, 44, 45, 46, 47, 48, 49, 50, 66, 67, 68, 69, 70, 71, 72, 73] (by decide +kernel) (by decide +kernel)
set_option maxRecDepth 20000 in
theorem gX3_init_X2_init : GoodIn wsX3_init (wsX2_init) := ggX3_init_X2_init
set_option maxRecDepth 20000 in
theorem ggX3_init_X0_init : GoodIn wsX3_init wsX0_init := goodIn_r _ [32, 33, 2, 3, 34, 35, 60, 61, 62, 63, 64, 65] (by decide +kernel) (by decide +kernel)
set_option maxRecDepth 20000 in
theorem gX3_init_X0_init_n25 : GoodIn wsX3_init (wsX0_init) := ggX3_init_X0_init
theorem dX3_init_0 : decode cX3_init 0 = .ok (.aload_n 0, 1) := by decide +kernel
theorem dX3_init_1 : decode cX3_init 1 = .ok (.invokespecial 3, 3) := by decide +kernel
theorem dX3_init_4 : decode cX3_init 4 = .ok (.aload_n 0, 1) := by decide +kernel
theorem dX3_init_5 : decode cX3_init 5 = .ok (.new 9, 3) := by decide +kernel
theorem dX3_init_8 : decode cX3_init 8 = .ok (.dup, 1) := by decide +kernel
theorem dX3_init_9 : decode cX3_init 9 = .ok (.invokespecial 11, 3) := by decide +kernel
theorem dX3_init_12 : decode cX3_init 12 = .ok (.putfield 12, 3) := by decide +kernel
theorem dX3_init_15 : decode cX3_init 15 = .ok (.aload_n 0, 1) := by decide +kernel
theorem dX3_init_16 : decode cX3_init 16 = .ok (.new 9, 3) := by decide +kernel
theorem dX3_init_19 : decode cX3_init 19 = .ok (.dup, 1) := by decide +kernel
theorem dX3_init_20 : decode cX3_init 20 = .ok (.invokespecial 11, 3) := by decide +kernel
theorem dX3_init_23 : decode cX3_init 23 = .ok (.putfield 16, 3) := by decide +kernel
theorem dX3_init_26 : decode cX3_init 26 = .ok (.aload_n 0, 1) := by decide +kernel
theorem dX3_init_27 : decode cX3_init 27 = .ok (.iconst 4, 1) := by decide +kernel
theorem dX3_init_28 : decode cX3_init 28 = .ok (.anewarray 9, 3) := by decide +kernel
theorem dX3_init_31 : decode cX3_init 31 = .ok (.putfield 19, 3) := by decide +kernel
theorem dX3_init_34 : decode cX3_init 34 = .ok (.aload_n 0, 1) := by decide +kernel
theorem dX3_init_35 : decode cX3_init 35 = .ok (.new 23, 3) := by decide +kernel
theorem dX3_init_38 : decode cX3_init 38 = .ok (.dup, 1) := by decide +kernel
theorem dX3_init_39 : decode cX3_init 39 = .ok (.invokespecial 25, 3) := by decide +kernel
theorem dX3_init_42 : decode cX3_init 42 = .ok (.putfield 26, 3) := by decide +kernel
theorem dX3_init_45 : decode cX3_init 45 = .ok (.iconst 0, 1) := by decide +kernel
theorem dX3_init_46 : decode cX3_init 46 = .ok (.istore_n 1, 1) := by decide +kernel
theorem dX3_init_47 : decode cX3_init 47 = .ok (.iload_n 1, 1) := by decide +kernel
theorem dX3_init_48 : decode cX3_init 48 = .ok (.aload_n 0, 1) := by decide +kernel
theorem dX3_init_49 : decode cX3_init 49 = .ok (.getfield 19, 3) := by decide +kernel
theorem dX3_init_52 : decode cX3_init 52 = .ok (.arraylength, 1) := by decide +kernel
theorem dX3_init_53 : decode cX3_init 53 = .ok (.if_icmp .ge 22, 3) := by decide +kernel
theorem dX3_init_56 : decode cX3_init 56 = .ok (.aload_n 0, 1) := by decide +kernel
theorem dX3_init_57 : decode cX3_init 57 = .ok (.getfield 19, 3) := by decide +kernel
theorem dX3_init_60 : decode cX3_init 60 = .ok (.iload_n 1, 1) := by decide +kernel
theorem dX3_init_61 : decode cX3_init 61 = .ok (.new 9, 3) := by decide +kernel
theorem dX3_init_64 : decode cX3_init 64 = .ok (.dup, 1) := by decide +kernel
theorem dX3_init_65 : decode cX3_init 65 = .ok (.invokespecial 11, 3) := by decide +kernel
theorem dX3_init_68 : decode cX3_init 68 = .ok (.aastore, 1) := by decide +kernel
theorem dX3_init_69 : decode cX3_init 69 = .ok (.iinc 1 1, 3) := by decide +kernel
theorem dX3_init_72 : decode cX3_init 72 = .ok (.goto (-25), 3) := by decide +kernel
theorem dX3_init_75 : decode cX3_init 75 = .ok (.return_, 1) := by decide +kernel
set_option maxRecDepth 20000 in
theorem ggX3_smithy_X2_copyFrom : GoodIn wsX3_smithy wsX2_copyFrom := goodIn_r _ [7, 8, 9, 10, 11, 12, 13, 14, 15, 16, 17, 18, 19, 20, 21, 22, 23, 24, 6, 25, 26, 27, 28, 29, 30, 31, 32, 33, 34, 35, 36, 37, 38, 39, 74, 75, 76, 77, 78, 79, 80, 81, 82, 83, 84, 85, 86, 87, 88, 89, 90, 91, 92, 93, 94, 95, 96] (by decide +kernel) (by decide +kernel)
set_option maxRecDepth 20000 in
theorem gX3_smithy_X2_copyFrom : GoodIn wsX3_smithy (wsV RX3 30 RX2 yX2_copyFrom wsX2_copyFrom) := goodIn_app (goodIn_of _ (by decide +kernel)) ggX3_smithy_X2_copyFrom
set_option maxRecDepth 20000 in
theorem ggX3_smithy_X2_addSmithy : GoodIn wsX3_smithy wsX2_addSmithy := goodIn_r _ [43, 44, 8, 45, 22, 23, 24, 6, 25, 26, 46, 47, 48, 30, 49, 32, 33, 34, 35, 36, 37, 38, 39, 74, 75, 76, 77, 78, 79, 80, 81, 82, 83, 84, 85, 86, 87, 88, 89, 90, 91, 92, 93, 94, 95, 96] (by decide +kernel) (by decide +kernel)
set_option maxRecDepth 20000 in
theorem gX3_smithy_X2_addSmithy : GoodIn wsX3_smithy (wsV RX3 34 RX2 yX2_addSmithy wsX2_addSmithy) := goodIn_app (goodIn_of _ (by decide +kernel)) ggX3_smithy_X2_addSmithy
set_option maxRecDepth 20000 in
theorem ggX3_smithy_X3_commit : GoodIn wsX3_smithy wsX3_commit := goodIn_r _ [54, 2, 1, 55, 56, 57, 53, 58, 59, 60, 61, 62, 63, 64, 3, 4, 5, 6, 7, 8, 9, 10, 11, 12, 13, 14, 15, 16, 17, 18, 19, 20, 21, 22, 23, 24, 25, 26, 27, 28, 29, 30, 31, 32, 33, 34, 35, 36, 37, 38, 39, 65, 66, 67, 68, 69, 70, 71, 72, 73, 74, 75, 76, 77, 78, 79, 80, 81, 82, 83, 84, 85, 86, 87, 88, 89, 90, 91, 92, 93, 94, 95, 96] (by decide +kernel) (by decide +kernel)
set_option maxRecDepth 20000 in
theorem gX3_smithy_X3_commit : GoodIn wsX3_smithy (wsV RX3 38 RX3 yX3_commit wsX3_commit) := goodIn_app (goodIn_of _ (by decide +kernel)) ggX3_smithy_X3_commit
theorem dX3_smithy_0 : decode cX3_smithy 0 = .ok (.aload_n 0, 1) := by decide +kernel
theorem dX3_smithy_1 : decode cX3_smithy 1 = .ok (.getfield 16, 3) := by decide +kernel
theorem dX3_smithy_4 : decode cX3_smithy 4 = .ok (.aload_n 0, 1) := by decide +kernel
theorem dX3_smithy_5 : decode cX3_smithy 5 = .ok (.getfield 12, 3) := by decide +kernel
theorem dX3_smithy_8 : decode cX3_smithy 8 = .ok (.invokevirtual 30, 3) := by decide +kernel
theorem dX3_smithy_11 : decode cX3_smithy 11 = .ok (.aload_n 0, 1) := by decide +kernel
theorem dX3_smithy_12 : decode cX3_smithy 12 = .ok (.aload_n 0, 1) := by decide +kernel
theorem dX3_smithy_13 : decode cX3_smithy 13 = .ok (.getfield 16, 3) := by decide +kernel
theorem dX3_smithy_16 : decode cX3_smithy 16 = .ok (.iload_n 1, 1) := by decide +kernel
theorem dX3_smithy_17 : decode cX3_smithy 17 = .ok (.iload_n 2, 1) := by decide +kernel
theorem dX3_smithy_18 : decode cX3_smithy 18 = .ok (.invokevirtual 34, 3) := by decide +kernel
theorem dX3_smithy_21 : decode cX3_smithy 21 = .ok (.invokevirtual 38, 3) := by decide +kernel
theorem dX3_smithy_24 : decode cX3_smithy 24 = .ok (.ireturn, 1) := by decide +kernel
set_option maxRecDepth 20000 in
theorem ggX3_walk_X2_copyFrom : GoodIn wsX3_walk wsX2_copyFrom := goodIn_r _ [7, 8, 9, 10, 11, 12, 13, 14, 15, 16, 17, 18, 19, 20, 21, 22, 23, 24, 6, 25, 26, 27, 28, 29, 30, 31, 32, 33, 34, 35, 36, 37, 38, 39, 80, 81, 82, 83, 84, 85, 86, 87, 88, 89, 90, 91, 92, 93, 94, 95, 96, 97, 98, 99, 100, 101, 102] (by decide +kernel) (by decide +kernel)
set_option maxRecDepth 20000 in
theorem gX3_walk_X2_copyFrom : GoodIn wsX3_walk (wsV RX3 30 RX2 yX2_copyFrom wsX2_copyFrom) := goodIn_app (goodIn_of _ (by decide +kernel)) ggX3_walk_X2_copyFrom
set_option maxRecDepth 20000 in
theorem ggX3_walk_X2_walkTo : GoodIn wsX3_walk wsX2_walkTo := goodIn_r _ [43, 44, 14, 15, 45, 21, 46, 47, 48, 49, 50, 51, 52, 53, 54, 55, 56, 80, 81, 82, 83, 84, 85, 86, 87, 88, 89, 90, 91, 92, 93, 94] (by decide +kernel) (by decide +kernel)
set_option maxRecDepth 20000 in
theorem gX3_walk_X2_walkTo : GoodIn wsX3_walk (wsV RX3 42 RX2 yX2_walkTo wsX2_walkTo) := goodIn_app (goodIn_of _ (by decide +kernel)) ggX3_walk_X2_walkTo
set_option maxRecDepth 20000 in
theorem ggX3_walk_X3_commit : GoodIn wsX3_walk wsX3_commit := goodIn_r _ [60, 2, 1, 61, 62, 63, 51, 64, 65, 66, 67, 68, 69, 70, 3, 4, 5, 6, 7, 8, 9, 10, 11, 12, 13, 14, 15, 16, 17, 18, 19, 20, 21, 22, 23, 24, 25, 26, 27, 28, 29, 30, 31, 32, 33, 34, 35, 36, 37, 38, 39, 71, 72, 73, 74, 75, 76, 77, 78, 79, 80, 81, 82, 83, 84, 85, 86, 87, 88, 89, 90, 91, 92, 93, 94, 95, 96, 97, 98, 99, 100, 101, 102] (by decide +kernel) (by decide +kernel)
set_option maxRecDepth 20000 in
theorem gX3_walk_X3_commit : GoodIn wsX3_walk (wsV RX3 38 RX3 yX3_commit wsX3_commit) := goodIn_app (goodIn_of _ (by decide +kernel)) ggX3_walk_X3_commit
theorem dX3_walk_0 : decode cX3_walk 0 = .ok (.aload_n 0, 1) := by decide +kernel
theorem dX3_walk_1 : decode cX3_walk 1 = .ok (.getfield 16, 3) := by decide +kernel
theorem dX3_walk_4 : decode cX3_walk 4 = .ok (.aload_n 0, 1) := by decide +kernel
theorem dX3_walk_5 : decode cX3_walk 5 = .ok (.getfield 12, 3) := by decide +kernel
theorem dX3_walk_8 : decode cX3_walk 8 = .ok (.invokevirtual 30, 3) := by decide +kernel
theorem dX3_walk_11 : decode cX3_walk 11 = .ok (.aload_n 0, 1) := by decide +kernel
theorem dX3_walk_12 : decode cX3_walk 12 = .ok (.aload_n 0, 1) := by decide +kernel
theorem dX3_walk_13 : decode cX3_walk 13 = .ok (.getfield 16, 3) := by decide +kernel
theorem dX3_walk_16 : decode cX3_walk 16 = .ok (.iload_n 1, 1) := by decide +kernel
theorem dX3_walk_17 : decode cX3_walk 17 = .ok (.invokevirtual 42, 3) := by decide +kernel
theorem dX3_walk_20 : decode cX3_walk 20 = .ok (.invokevirtual 38, 3) := by decide +kernel
theorem dX3_walk_23 : decode cX3_walk 23 = .ok (.ireturn, 1) := by decide +kernel
set_option maxRecDepth 20000 in
theorem ggX3_buy_X2_copyFrom : GoodIn wsX3_buy wsX2_copyFrom := goodIn_r _ [7, 8, 9, 10, 11, 12, 13, 14, 15, 16, 17, 18, 19, 20, 21, 22, 23, 24, 6, 25, 26, 27, 28, 29, 30, 31, 32, 33, 34, 35, 36, 37, 38, 39, 71, 72, 73, 74, 75, 76, 77, 78, 79, 80, 81, 82, 83, 84, 85, 86, 87, 88, 89, 90, 91, 92, 93] (by decide +kernel) (by decide +kernel)
set_option maxRecDepth 20000 in
theorem gX3_buy_X2_copyFrom : GoodIn wsX3_buy (wsV RX3 30 RX2 yX2_copyFrom wsX2_copyFrom) := goodIn_app (goodIn_of _ (by decide +kernel)) ggX3_buy_X2_copyFrom
set_option maxRecDepth 20000 in
theorem ggX3_buy_X2_buyLeather : GoodIn wsX3_buy wsX2_buyLeather := goodIn_r _ [43, 44, 14, 45, 16, 46, 17, 18, 71, 72, 73, 74, 75, 76, 77, 78, 79, 80, 81, 82, 83, 84, 85] (by decide +kernel) (by decide +kernel)
set_option maxRecDepth 20000 in
theorem gX3_buy_X2_buyLeather : GoodIn wsX3_buy (wsV RX3 45 RX2 yX2_buyLeather wsX2_buyLeather) := goodIn_app (goodIn_of _ (by decide +kernel)) ggX3_buy_X2_buyLeather
set_option maxRecDepth 20000 in
theorem ggX3_buy_X3_commit : GoodIn wsX3_buy wsX3_commit := goodIn_r _ [51, 2, 1, 52, 53, 54, 50, 55, 56, 57, 58, 59, 60, 61, 3, 4, 5, 6, 7, 8, 9, 10, 11, 12, 13, 14, 15, 16, 17, 18, 19, 20, 21, 22, 23, 24, 25, 26, 27, 28, 29, 30, 31, 32, 33, 34, 35, 36, 37, 38, 39, 62, 63, 64, 65, 66, 67, 68, 69, 70, 71, 72, 73, 74, 75, 76, 77, 78, 79, 80, 81, 82, 83, 84, 85, 86, 87, 88, 89, 90, 91, 92, 93] (by decide +kernel) (by decide +kernel)
set_option maxRecDepth 20000 in
theorem gX3_buy_X3_commit : GoodIn wsX3_buy (wsV RX3 38 RX3 yX3_commit wsX3_commit) := goodIn_app (goodIn_of _ (by decide +kernel)) ggX3_buy_X3_commit
theorem dX3_buy_0 : decode cX3_buy 0 = .ok (.aload_n 0, 1) := by decide +kernel
theorem dX3_buy_1 : decode cX3_buy 1 = .ok (.getfield 16, 3) := by decide +kernel
theorem dX3_buy_4 : decode cX3_buy 4 = .ok (.aload_n 0, 1) := by decide +kernel
theorem dX3_buy_5 : decode cX3_buy 5 = .ok (.getfield 12, 3) := by decide +kernel
theorem dX3_buy_8 : decode cX3_buy 8 = .ok (.invokevirtual 30, 3) := by decide +kernel
theorem dX3_buy_11 : decode cX3_buy 11 = .ok (.aload_n 0, 1) := by decide +kernel
theorem dX3_buy_12 : decode cX3_buy 12 = .ok (.aload_n 0, 1) := by decide +kernel
theorem dX3_buy_13 : decode cX3_buy 13 = .ok (.getfield 16, 3) := by decide +kernel
theorem dX3_buy_16 : decode cX3_buy 16 = .ok (.iload_n 1, 1) := by decide +kernel
theorem dX3_buy_17 : decode cX3_buy 17 = .ok (.invokevirtual 45, 3) := by decide +kernel
theorem dX3_buy_20 : decode cX3_buy 20 = .ok (.invokevirtual 38, 3) := by decide +kernel
theorem dX3_buy_23 : decode cX3_buy 23 = .ok (.ireturn, 1) := by decide +kernel
set_option maxRecDepth 20000 in
theorem ggX3_patch_X2_copyFrom : GoodIn wsX3_patch wsX2_copyFrom := goodIn_r _ [7, 8, 9, 10, 11, 12, 13, 14, 15, 16, 17, 18, 19, 20, 21, 22, 23, 24, 6, 25, 26, 27, 28, 29, 30, 31, 32, 33, 34, 35, 36, 37, 38, 39, 98, 99, 100, 101, 102, 103, 104, 105, 106, 107, 108, 109, 110, 111, 112, 113, 114, 115, 116, 117, 118, 119, 120] (by decide +kernel) (by decide +kernel)
set_option maxRecDepth 20000 in
theorem gX3_patch_X2_copyFrom : GoodIn wsX3_patch (wsV RX3 30 RX2 yX2_copyFrom wsX2_copyFrom) := goodIn_app (goodIn_of _ (by decide +kernel)) ggX3_patch_X2_copyFrom
set_option maxRecDepth 20000 in
theorem ggX3_patch_X2_mendBellows : GoodIn wsX3_patch wsX2_mendBellows := goodIn_r _ [43, 44, 45, 15, 16, 19, 46, 47, 48, 22, 23, 24, 6, 25, 8, 26, 49, 50, 51, 52, 53, 14, 54, 55, 56, 57, 58, 59, 30, 60, 33, 34, 61, 62, 63, 64, 65, 66, 12, 67, 68, 69, 70, 11, 71, 72, 73, 74, 98, 99, 100, 101, 102, 103, 104, 105, 106, 107, 108, 109, 110, 111, 112, 113, 114, 115, 116, 117, 118, 119, 120] (by decide +kernel) (by decide +kernel)
set_option maxRecDepth 20000 in
theorem gX3_patch_X2_mendBellows : GoodIn wsX3_patch (wsV RX3 48 RX2 yX2_mendBellows wsX2_mendBellows) := goodIn_app (goodIn_of _ (by decide +kernel)) ggX3_patch_X2_mendBellows
set_option maxRecDepth 20000 in
theorem ggX3_patch_X3_commit : GoodIn wsX3_patch wsX3_commit := goodIn_r _ [78, 2, 1, 79, 80, 81, 55, 82, 83, 84, 85, 86, 87, 88, 3, 4, 5, 6, 7, 8, 9, 10, 11, 12, 13, 14, 15, 16, 17, 18, 19, 20, 21, 22, 23, 24, 25, 26, 27, 28, 29, 30, 31, 32, 33, 34, 35, 36, 37, 38, 39, 89, 90, 91, 92, 93, 94, 95, 96, 97, 98, 99, 100, 101, 102, 103, 104, 105, 106, 107, 108, 109, 110, 111, 112, 113, 114, 115, 116, 117, 118, 119, 120] (by decide +kernel) (by decide +kernel)
set_option maxRecDepth 20000 in
theorem gX3_patch_X3_commit : GoodIn wsX3_patch (wsV RX3 38 RX3 yX3_commit wsX3_commit) := goodIn_app (goodIn_of _ (by decide +kernel)) ggX3_patch_X3_commit
theorem dX3_patch_0 : decode cX3_patch 0 = .ok (.aload_n 0, 1) := by decide +kernel
theorem dX3_patch_1 : decode cX3_patch 1 = .ok (.getfield 16, 3) := by decide +kernel
theorem dX3_patch_4 : decode cX3_patch 4 = .ok (.aload_n 0, 1) := by decide +kernel
theorem dX3_patch_5 : decode cX3_patch 5 = .ok (.getfield 12, 3) := by decide +kernel
theorem dX3_patch_8 : decode cX3_patch 8 = .ok (.invokevirtual 30, 3) := by decide +kernel
theorem dX3_patch_11 : decode cX3_patch 11 = .ok (.aload_n 0, 1) := by decide +kernel
theorem dX3_patch_12 : decode cX3_patch 12 = .ok (.aload_n 0, 1) := by decide +kernel
theorem dX3_patch_13 : decode cX3_patch 13 = .ok (.getfield 16, 3) := by decide +kernel
theorem dX3_patch_16 : decode cX3_patch 16 = .ok (.iload_n 1, 1) := by decide +kernel
theorem dX3_patch_17 : decode cX3_patch 17 = .ok (.iconst 0, 1) := by decide +kernel
theorem dX3_patch_18 : decode cX3_patch 18 = .ok (.invokevirtual 48, 3) := by decide +kernel
theorem dX3_patch_21 : decode cX3_patch 21 = .ok (.invokevirtual 38, 3) := by decide +kernel
theorem dX3_patch_24 : decode cX3_patch 24 = .ok (.ireturn, 1) := by decide +kernel
set_option maxRecDepth 20000 in
theorem ggX3_hide_X2_copyFrom : GoodIn wsX3_hide wsX2_copyFrom := goodIn_r _ [7, 8, 9, 10, 11, 12, 13, 14, 15, 16, 17, 18, 19, 20, 21, 22, 23, 24, 6, 25, 26, 27, 28, 29, 30, 31, 32, 33, 34, 35, 36, 37, 38, 39, 98, 99, 100, 101, 102, 103, 104, 105, 106, 107, 108, 109, 110, 111, 112, 113, 114, 115, 116, 117, 118, 119, 120] (by decide +kernel) (by decide +kernel)
set_option maxRecDepth 20000 in
theorem gX3_hide_X2_copyFrom : GoodIn wsX3_hide (wsV RX3 30 RX2 yX2_copyFrom wsX2_copyFrom) := goodIn_app (goodIn_of _ (by decide +kernel)) ggX3_hide_X2_copyFrom
set_option maxRecDepth 20000 in
theorem ggX3_hide_X2_mendBellows : GoodIn wsX3_hide wsX2_mendBellows := goodIn_r _ [43, 44, 45, 15, 16, 19, 46, 47, 48, 22, 23, 24, 6, 25, 8, 26, 49, 50, 51, 52, 53, 14, 54, 55, 56, 57, 58, 59, 30, 60, 33, 34, 61, 62, 63, 64, 65, 66, 12, 67, 68, 69, 70, 11, 71, 72, 73, 74, 98, 99, 100, 101, 102, 103, 104, 105, 106, 107, 108, 109, 110, 111, 112, 113, 114, 115, 116, 117, 118, 119, 120] (by decide +kernel) (by decide +kernel)
set_option maxRecDepth 20000 in
theorem gX3_hide_X2_mendBellows : GoodIn wsX3_hide (wsV RX3 48 RX2 yX2_mendBellows wsX2_mendBellows) := goodIn_app (goodIn_of _ (by decide +kernel)) ggX3_hide_X2_mendBellows
set_option maxRecDepth 20000 in
theorem ggX3_hide_X3_commit : GoodIn wsX3_hide wsX3_commit := goodIn_r _ [78, 2, 1, 79, 80, 81, 55, 82, 83, 84, 85, 86, 87, 88, 3, 4, 5, 6, 7, 8, 9, 10, 11, 12, 13, 14, 15, 16, 17, 18, 19, 20, 21, 22, 23, 24, 25, 26, 27, 28, 29, 30, 31, 32, 33, 34, 35, 36, 37, 38, 39, 89, 90, 91, 92, 93, 94, 95, 96, 97, 98, 99, 100, 101, 102, 103, 104, 105, 106, 107, 108, 109, 110, 111, 112, 113, 114, 115, 116, 117, 118, 119, 120] (by decide +kernel) (by decide +kernel)
set_option maxRecDepth 20000 in
theorem gX3_hide_X3_commit : GoodIn wsX3_hide (wsV RX3 38 RX3 yX3_commit wsX3_commit) := goodIn_app (goodIn_of _ (by decide +kernel)) ggX3_hide_X3_commit
theorem dX3_hide_0 : decode cX3_hide 0 = .ok (.aload_n 0, 1) := by decide +kernel
theorem dX3_hide_1 : decode cX3_hide 1 = .ok (.getfield 16, 3) := by decide +kernel
theorem dX3_hide_4 : decode cX3_hide 4 = .ok (.aload_n 0, 1) := by decide +kernel
theorem dX3_hide_5 : decode cX3_hide 5 = .ok (.getfield 12, 3) := by decide +kernel
theorem dX3_hide_8 : decode cX3_hide 8 = .ok (.invokevirtual 30, 3) := by decide +kernel
theorem dX3_hide_11 : decode cX3_hide 11 = .ok (.aload_n 0, 1) := by decide +kernel
theorem dX3_hide_12 : decode cX3_hide 12 = .ok (.aload_n 0, 1) := by decide +kernel
theorem dX3_hide_13 : decode cX3_hide 13 = .ok (.getfield 16, 3) := by decide +kernel
theorem dX3_hide_16 : decode cX3_hide 16 = .ok (.iload_n 1, 1) := by decide +kernel
theorem dX3_hide_17 : decode cX3_hide 17 = .ok (.iconst 1, 1) := by decide +kernel
theorem dX3_hide_18 : decode cX3_hide 18 = .ok (.invokevirtual 48, 3) := by decide +kernel
theorem dX3_hide_21 : decode cX3_hide 21 = .ok (.invokevirtual 38, 3) := by decide +kernel
theorem dX3_hide_24 : decode cX3_hide 24 = .ok (.ireturn, 1) := by decide +kernel
set_option maxRecDepth 20000 in
theorem ggX3_collect_X2_copyFrom : GoodIn wsX3_collect wsX2_copyFrom := goodIn_r _ [7, 8, 9, 10, 11, 12, 13, 14, 15, 16, 17, 18, 19, 20, 21, 22, 23, 24, 6, 25, 26, 27, 28, 29, 30, 31, 32, 33, 34, 35, 36, 37, 38, 39, 78, 79, 80, 81, 82, 83, 84, 85, 86, 87, 88, 89, 90, 91, 92, 93, 94, 95, 96, 97, 98, 99, 100] (by decide +kernel) (by decide +kernel)
set_option maxRecDepth 20000 in
theorem gX3_collect_X2_copyFrom : GoodIn wsX3_collect (wsV RX3 30 RX2 yX2_copyFrom wsX2_copyFrom) := goodIn_app (goodIn_of _ (by decide +kernel)) ggX3_collect_X2_copyFrom
set_option maxRecDepth 20000 in
theorem ggX3_collect_X2_collectDebt : GoodIn wsX3_collect wsX2_collectDebt := goodIn_r _ [43, 44, 45, 14, 46, 47, 48, 49, 17, 22, 23, 24, 6, 25, 8, 26, 50, 51, 52, 53, 9, 93, 94, 95, 96, 97, 98, 99, 100, 78, 79, 80, 81, 82, 83, 84, 85, 86, 87, 88, 89, 90, 91, 92] (by decide +kernel) (by decide +kernel)
set_option maxRecDepth 20000 in
theorem gX3_collect_X2_collectDebt : GoodIn wsX3_collect (wsV RX3 52 RX2 yX2_collectDebt wsX2_collectDebt) := goodIn_app (goodIn_of _ (by decide +kernel)) ggX3_collect_X2_collectDebt
set_option maxRecDepth 20000 in
theorem ggX3_collect_X3_commit : GoodIn wsX3_collect wsX3_commit := goodIn_r _ [58, 2, 1, 59, 60, 61, 57, 62, 63, 64, 65, 66, 67, 68, 3, 4, 5, 6, 7, 8, 9, 10, 11, 12, 13, 14, 15, 16, 17, 18, 19, 20, 21, 22, 23, 24, 25, 26, 27, 28, 29, 30, 31, 32, 33, 34, 35, 36, 37, 38, 39, 69, 70, 71, 72, 73, 74, 75, 76, 77, 78, 79, 80, 81, 82, 83, 84, 85, 86, 87, 88, 89, 90, 91, 92, 93, 94, 95, 96, 97, 98, 99, 100] (by decide +kernel) (by decide +kernel)
set_option maxRecDepth 20000 in
theorem gX3_collect_X3_commit : GoodIn wsX3_collect (wsV RX3 38 RX3 yX3_commit wsX3_commit) := goodIn_app (goodIn_of _ (by decide +kernel)) ggX3_collect_X3_commit
theorem dX3_collect_0 : decode cX3_collect 0 = .ok (.aload_n 0, 1) := by decide +kernel
theorem dX3_collect_1 : decode cX3_collect 1 = .ok (.getfield 16, 3) := by decide +kernel
theorem dX3_collect_4 : decode cX3_collect 4 = .ok (.aload_n 0, 1) := by decide +kernel
theorem dX3_collect_5 : decode cX3_collect 5 = .ok (.getfield 12, 3) := by decide +kernel
theorem dX3_collect_8 : decode cX3_collect 8 = .ok (.invokevirtual 30, 3) := by decide +kernel
theorem dX3_collect_11 : decode cX3_collect 11 = .ok (.aload_n 0, 1) := by decide +kernel
theorem dX3_collect_12 : decode cX3_collect 12 = .ok (.aload_n 0, 1) := by decide +kernel
theorem dX3_collect_13 : decode cX3_collect 13 = .ok (.getfield 16, 3) := by decide +kernel
theorem dX3_collect_16 : decode cX3_collect 16 = .ok (.iload_n 1, 1) := by decide +kernel
theorem dX3_collect_17 : decode cX3_collect 17 = .ok (.invokevirtual 52, 3) := by decide +kernel
theorem dX3_collect_20 : decode cX3_collect 20 = .ok (.invokevirtual 38, 3) := by decide +kernel
theorem dX3_collect_23 : decode cX3_collect 23 = .ok (.ireturn, 1) := by decide +kernel
set_option maxRecDepth 20000 in
theorem ggX3_end_X2_copyFrom : GoodIn wsX3_end wsX2_copyFrom := goodIn_r _ [7, 8, 9, 10, 11, 12, 13, 14, 15, 16, 17, 18, 19, 20, 21, 22, 23, 24, 6, 25, 26, 27, 28, 29, 30, 31, 32, 33, 34, 35, 36, 37, 38, 39, 108, 109, 110, 111, 112, 113, 114, 115, 116, 117, 118, 119, 120, 121, 122, 123, 124, 125, 126, 127, 128, 129, 130] (by decide +kernel) (by decide +kernel)
set_option maxRecDepth 20000 in
theorem gX3_end_X2_copyFrom : GoodIn wsX3_end (wsV RX3 30 RX2 yX2_copyFrom wsX2_copyFrom) := goodIn_app (goodIn_of _ (by decide +kernel)) ggX3_end_X2_copyFrom
set_option maxRecDepth 20000 in
theorem ggX3_end_X2_endDays : GoodIn wsX3_end wsX2_endDays := goodIn_r _ [43, 44, 13, 45, 8, 10, 15, 22, 23, 24, 6, 25, 26, 46, 47, 48, 49, 50, 51, 52, 53, 20, 54, 55, 56, 57, 58, 59, 60, 61, 62, 63, 64, 65, 66, 67, 68, 69, 70, 71, 72, 73, 9, 74, 75, 76, 77, 78, 79, 80, 81, 82, 83, 84, 108, 109, 110, 111, 112, 113, 114, 115, 116, 117, 118, 119, 120, 121, 122, 123, 124, 125, 126, 127, 128, 129, 130] (by decide +kernel) (by decide +kernel)
set_option maxRecDepth 20000 in
theorem gX3_end_X2_endDays : GoodIn wsX3_end (wsV RX3 55 RX2 yX2_endDays wsX2_endDays) := goodIn_app (goodIn_of _ (by decide +kernel)) ggX3_end_X2_endDays
set_option maxRecDepth 20000 in
theorem ggX3_end_X3_commit : GoodIn wsX3_end wsX3_commit := goodIn_r _ [88, 2, 1, 89, 90, 91, 59, 92, 93, 94, 95, 96, 97, 98, 3, 4, 5, 6, 7, 8, 9, 10, 11, 12, 13, 14, 15, 16, 17, 18, 19, 20, 21, 22, 23, 24, 25, 26, 27, 28, 29, 30, 31, 32, 33, 34, 35, 36, 37, 38, 39, 99, 100, 101, 102, 103, 104, 105, 106, 107, 108, 109, 110, 111, 112, 113, 114, 115, 116, 117, 118, 119, 120, 121, 122, 123, 124, 125, 126, 127, 128, 129, 130] (by decide +kernel) (by decide +kernel)
set_option maxRecDepth 20000 in
theorem gX3_end_X3_commit : GoodIn wsX3_end (wsV RX3 38 RX3 yX3_commit wsX3_commit) := goodIn_app (goodIn_of _ (by decide +kernel)) ggX3_end_X3_commit
theorem dX3_end_0 : decode cX3_end 0 = .ok (.aload_n 0, 1) := by decide +kernel
theorem dX3_end_1 : decode cX3_end 1 = .ok (.getfield 16, 3) := by decide +kernel
theorem dX3_end_4 : decode cX3_end 4 = .ok (.aload_n 0, 1) := by decide +kernel
theorem dX3_end_5 : decode cX3_end 5 = .ok (.getfield 12, 3) := by decide +kernel
theorem dX3_end_8 : decode cX3_end 8 = .ok (.invokevirtual 30, 3) := by decide +kernel
theorem dX3_end_11 : decode cX3_end 11 = .ok (.aload_n 0, 1) := by decide +kernel
theorem dX3_end_12 : decode cX3_end 12 = .ok (.aload_n 0, 1) := by decide +kernel
theorem dX3_end_13 : decode cX3_end 13 = .ok (.getfield 16, 3) := by decide +kernel
theorem dX3_end_16 : decode cX3_end 16 = .ok (.iload_n 1, 1) := by decide +kernel
theorem dX3_end_17 : decode cX3_end 17 = .ok (.invokevirtual 55, 3) := by decide +kernel
theorem dX3_end_20 : decode cX3_end 20 = .ok (.invokevirtual 38, 3) := by decide +kernel
theorem dX3_end_23 : decode cX3_end 23 = .ok (.ireturn, 1) := by decide +kernel
set_option maxRecDepth 20000 in
theorem ggX3_set_X2_copyFrom : GoodIn wsX3_set wsX2_copyFrom := goodIn_r _ [7, 8, 9, 10, 11, 12, 13, 14, 15, 16, 17, 18, 19, 20, 21, 22, 23, 24, 6, 25, 26, 27, 28, 29, 30, 31, 32, 33, 34, 35, 36, 37, 38, 39, 72, 73, 74, 75, 76, 77, 78, 79, 80, 81, 82, 83, 84, 85, 86, 87, 88, 89, 90, 91, 92, 93, 94] (by decide +kernel) (by decide +kernel)
set_option maxRecDepth 20000 in
theorem gX3_set_X2_copyFrom : GoodIn wsX3_set (wsV RX3 30 RX2 yX2_copyFrom wsX2_copyFrom) := goodIn_app (goodIn_of _ (by decide +kernel)) ggX3_set_X2_copyFrom
set_option maxRecDepth 20000 in
theorem ggX3_set_X2_changeSetting : GoodIn wsX3_set wsX2_changeSetting := goodIn_r _ [43, 44, 9, 10, 11, 12, 45, 46, 6, 47, 72, 73, 74, 75, 76, 77, 78, 79, 80, 81, 82, 83, 84, 85, 86] (by decide +kernel) (by decide +kernel)
set_option maxRecDepth 20000 in
theorem gX3_set_X2_changeSetting : GoodIn wsX3_set (wsV RX3 58 RX2 yX2_changeSetting wsX2_changeSetting) := goodIn_app (goodIn_of _ (by decide +kernel)) ggX3_set_X2_changeSetting
set_option maxRecDepth 20000 in
theorem ggX3_set_X3_commit : GoodIn wsX3_set wsX3_commit := goodIn_r _ [52, 2, 1, 53, 54, 55, 51, 56, 57, 58, 59, 60, 61, 62, 3, 4, 5, 6, 7, 8, 9, 10, 11, 12, 13, 14, 15, 16, 17, 18, 19, 20, 21, 22, 23, 24, 25, 26, 27, 28, 29, 30, 31, 32, 33, 34, 35, 36, 37, 38, 39, 63, 64, 65, 66, 67, 68, 69, 70, 71, 72, 73, 74, 75, 76, 77, 78, 79, 80, 81, 82, 83, 84, 85, 86, 87, 88, 89, 90, 91, 92, 93, 94] (by decide +kernel) (by decide +kernel)
set_option maxRecDepth 20000 in
theorem gX3_set_X3_commit : GoodIn wsX3_set (wsV RX3 38 RX3 yX3_commit wsX3_commit) := goodIn_app (goodIn_of _ (by decide +kernel)) ggX3_set_X3_commit
theorem dX3_set_0 : decode cX3_set 0 = .ok (.aload_n 0, 1) := by decide +kernel
theorem dX3_set_1 : decode cX3_set 1 = .ok (.getfield 16, 3) := by decide +kernel
theorem dX3_set_4 : decode cX3_set 4 = .ok (.aload_n 0, 1) := by decide +kernel
theorem dX3_set_5 : decode cX3_set 5 = .ok (.getfield 12, 3) := by decide +kernel
theorem dX3_set_8 : decode cX3_set 8 = .ok (.invokevirtual 30, 3) := by decide +kernel
theorem dX3_set_11 : decode cX3_set 11 = .ok (.aload_n 0, 1) := by decide +kernel
theorem dX3_set_12 : decode cX3_set 12 = .ok (.aload_n 0, 1) := by decide +kernel
theorem dX3_set_13 : decode cX3_set 13 = .ok (.getfield 16, 3) := by decide +kernel
theorem dX3_set_16 : decode cX3_set 16 = .ok (.iload_n 1, 1) := by decide +kernel
theorem dX3_set_17 : decode cX3_set 17 = .ok (.iload_n 2, 1) := by decide +kernel
theorem dX3_set_18 : decode cX3_set 18 = .ok (.invokevirtual 58, 3) := by decide +kernel
theorem dX3_set_21 : decode cX3_set 21 = .ok (.invokevirtual 38, 3) := by decide +kernel
theorem dX3_set_24 : decode cX3_set 24 = .ok (.ireturn, 1) := by decide +kernel
set_option maxRecDepth 20000 in
theorem ggX3_smithyOf_X2_find : GoodIn wsX3_smithyOf wsX2_find := goodIn_r _ [16, 17, 18, 55, 56, 57, 58, 59, 60, 61, 62, 63, 64, 65, 66, 67, 68, 69] (by decide +kernel) (by decide +kernel)
set_option maxRecDepth 20000 in
theorem gX3_smithyOf_X2_find : GoodIn wsX3_smithyOf (wsV RX3 61 RX2 yX2_find wsX2_find) := goodIn_app (goodIn_of _ (by decide +kernel)) ggX3_smithyOf_X2_find
set_option maxRecDepth 20000 in
theorem ggX3_smithyOf_X3_leakOf : GoodIn wsX3_smithyOf wsX3_leakOf := goodIn_r _ [22] (by decide +kernel) (by decide +kernel)
set_option maxRecDepth 20000 in
theorem gX3_smithyOf_X3_leakOf : GoodIn wsX3_smithyOf (va_wsS RX3 78 yX3_leakOf wsX3_leakOf) := goodIn_app (goodIn_of _ (by decide +kernel)) ggX3_smithyOf_X3_leakOf
set_option maxRecDepth 20000 in
theorem ggX3_smithyOf_X2_isCold : GoodIn wsX3_smithyOf wsX2_isCold := goodIn_r _ [26, 27, 55, 56, 57, 58, 59, 60, 61, 62, 63, 64, 65, 66, 67, 68, 69] (by decide +kernel) (by decide +kernel)
set_option maxRecDepth 20000 in
theorem gX3_smithyOf_X2_isCold : GoodIn wsX3_smithyOf (wsV RX3 84 RX2 yX2_isCold wsX2_isCold) := goodIn_app (goodIn_of _ (by decide +kernel)) ggX3_smithyOf_X2_isCold
set_option maxRecDepth 20000 in
theorem ggX3_smithyOf_X3_hoursOfWay : GoodIn wsX3_smithyOf wsX3_hoursOfWay := goodIn_r _ [30, 31, 32, 33, 34, 35, 36, 21, 37] (by decide +kernel) (by decide +kernel)
set_option maxRecDepth 20000 in
theorem gX3_smithyOf_X3_hoursOfWay : GoodIn wsX3_smithyOf (va_wsS RX3 101 yX3_hoursOfWay wsX3_hoursOfWay) := goodIn_app (goodIn_of _ (by decide +kernel)) ggX3_smithyOf_X3_hoursOfWay
theorem dX3_smithyOf_0 : decode cX3_smithyOf 0 = .ok (.aload_n 0, 1) := by decide +kernel
theorem dX3_smithyOf_1 : decode cX3_smithyOf 1 = .ok (.getfield 12, 3) := by decide +kernel
theorem dX3_smithyOf_4 : decode cX3_smithyOf 4 = .ok (.iload_n 1, 1) := by decide +kernel
theorem dX3_smithyOf_5 : decode cX3_smithyOf 5 = .ok (.invokevirtual 61, 3) := by decide +kernel
theorem dX3_smithyOf_8 : decode cX3_smithyOf 8 = .ok (.astore_n 3, 1) := by decide +kernel
theorem dX3_smithyOf_9 : decode cX3_smithyOf 9 = .ok (.aload_n 3, 1) := by decide +kernel
theorem dX3_smithyOf_10 : decode cX3_smithyOf 10 = .ok (.ifnonnull 6, 3) := by decide +kernel
theorem dX3_smithyOf_13 : decode cX3_smithyOf 13 = .ok (.ldc 65, 2) := by decide +kernel
theorem dX3_smithyOf_15 : decode cX3_smithyOf 15 = .ok (.ireturn, 1) := by decide +kernel
theorem dX3_smithyOf_16 : decode cX3_smithyOf 16 = .ok (.iload_n 2, 1) := by decide +kernel
theorem dX3_smithyOf_17 : decode cX3_smithyOf 17 = .ok (.tableswitch 142 0 10 #[59, 64, 69, 74, 82, 87, 107, 112, 117, 122, 127], 59) := by decide +kernel
theorem dX3_smithyOf_76 : decode cX3_smithyOf 76 = .ok (.aload_n 3, 1) := by decide +kernel
theorem dX3_smithyOf_77 : decode cX3_smithyOf 77 = .ok (.getfield 66, 3) := by decide +kernel
theorem dX3_smithyOf_80 : decode cX3_smithyOf 80 = .ok (.ireturn, 1) := by decide +kernel
theorem dX3_smithyOf_81 : decode cX3_smithyOf 81 = .ok (.aload_n 3, 1) := by decide +kernel
theorem dX3_smithyOf_82 : decode cX3_smithyOf 82 = .ok (.getfield 72, 3) := by decide +kernel
theorem dX3_smithyOf_85 : decode cX3_smithyOf 85 = .ok (.ireturn, 1) := by decide +kernel
theorem dX3_smithyOf_86 : decode cX3_smithyOf 86 = .ok (.aload_n 3, 1) := by decide +kernel
theorem dX3_smithyOf_87 : decode cX3_smithyOf 87 = .ok (.getfield 75, 3) := by decide +kernel
theorem dX3_smithyOf_90 : decode cX3_smithyOf 90 = .ok (.ireturn, 1) := by decide +kernel
theorem dX3_smithyOf_91 : decode cX3_smithyOf 91 = .ok (.aload_n 3, 1) := by decide +kernel
theorem dX3_smithyOf_92 : decode cX3_smithyOf 92 = .ok (.getfield 75, 3) := by decide +kernel
theorem dX3_smithyOf_95 : decode cX3_smithyOf 95 = .ok (.invokestatic 78, 3) := by decide +kernel
theorem dX3_smithyOf_98 : decode cX3_smithyOf 98 = .ok (.ireturn, 1) := by decide +kernel
theorem dX3_smithyOf_99 : decode cX3_smithyOf 99 = .ok (.aload_n 3, 1) := by decide +kernel
theorem dX3_smithyOf_100 : decode cX3_smithyOf 100 = .ok (.getfield 81, 3) := by decide +kernel
theorem dX3_smithyOf_103 : decode cX3_smithyOf 103 = .ok (.ireturn, 1) := by decide +kernel
theorem dX3_smithyOf_104 : decode cX3_smithyOf 104 = .ok (.aload_n 0, 1) := by decide +kernel
theorem dX3_smithyOf_105 : decode cX3_smithyOf 105 = .ok (.getfield 12, 3) := by decide +kernel
theorem dX3_smithyOf_108 : decode cX3_smithyOf 108 = .ok (.aload_n 3, 1) := by decide +kernel
theorem dX3_smithyOf_109 : decode cX3_smithyOf 109 = .ok (.getfield 81, 3) := by decide +kernel
theorem dX3_smithyOf_112 : decode cX3_smithyOf 112 = .ok (.invokevirtual 84, 3) := by decide +kernel
theorem dX3_smithyOf_115 : decode cX3_smithyOf 115 = .ok (.ifCond .eq 7, 3) := by decide +kernel
theorem dX3_smithyOf_118 : decode cX3_smithyOf 118 = .ok (.iconst 1, 1) := by decide +kernel
theorem dX3_smithyOf_119 : decode cX3_smithyOf 119 = .ok (.goto 4, 3) := by decide +kernel
theorem dX3_smithyOf_122 : decode cX3_smithyOf 122 = .ok (.iconst 0, 1) := by decide +kernel
theorem dX3_smithyOf_123 : decode cX3_smithyOf 123 = .ok (.ireturn, 1) := by decide +kernel
theorem dX3_smithyOf_124 : decode cX3_smithyOf 124 = .ok (.aload_n 3, 1) := by decide +kernel
theorem dX3_smithyOf_125 : decode cX3_smithyOf 125 = .ok (.getfield 88, 3) := by decide +kernel
theorem dX3_smithyOf_128 : decode cX3_smithyOf 128 = .ok (.ireturn, 1) := by decide +kernel
theorem dX3_smithyOf_129 : decode cX3_smithyOf 129 = .ok (.aload_n 3, 1) := by decide +kernel
theorem dX3_smithyOf_130 : decode cX3_smithyOf 130 = .ok (.getfield 91, 3) := by decide +kernel
theorem dX3_smithyOf_133 : decode cX3_smithyOf 133 = .ok (.ireturn, 1) := by decide +kernel
theorem dX3_smithyOf_134 : decode cX3_smithyOf 134 = .ok (.aload_n 3, 1) := by decide +kernel
theorem dX3_smithyOf_135 : decode cX3_smithyOf 135 = .ok (.getfield 94, 3) := by decide +kernel
theorem dX3_smithyOf_138 : decode cX3_smithyOf 138 = .ok (.ireturn, 1) := by decide +kernel
theorem dX3_smithyOf_139 : decode cX3_smithyOf 139 = .ok (.aload_n 3, 1) := by decide +kernel
theorem dX3_smithyOf_140 : decode cX3_smithyOf 140 = .ok (.getfield 97, 3) := by decide +kernel
theorem dX3_smithyOf_143 : decode cX3_smithyOf 143 = .ok (.ireturn, 1) := by decide +kernel
theorem dX3_smithyOf_144 : decode cX3_smithyOf 144 = .ok (.aload_n 0, 1) := by decide +kernel
theorem dX3_smithyOf_145 : decode cX3_smithyOf 145 = .ok (.getfield 12, 3) := by decide +kernel
theorem dX3_smithyOf_148 : decode cX3_smithyOf 148 = .ok (.getfield 100, 3) := by decide +kernel
theorem dX3_smithyOf_151 : decode cX3_smithyOf 151 = .ok (.aload_n 3, 1) := by decide +kernel
theorem dX3_smithyOf_152 : decode cX3_smithyOf 152 = .ok (.getfield 66, 3) := by decide +kernel
theorem dX3_smithyOf_155 : decode cX3_smithyOf 155 = .ok (.invokestatic 101, 3) := by decide +kernel
theorem dX3_smithyOf_158 : decode cX3_smithyOf 158 = .ok (.ireturn, 1) := by decide +kernel
theorem dX3_smithyOf_159 : decode cX3_smithyOf 159 = .ok (.ldc 65, 2) := by decide +kernel
theorem dX3_smithyOf_161 : decode cX3_smithyOf 161 = .ok (.ireturn, 1) := by decide +kernel
set_option maxRecDepth 20000 in
theorem ggX3_why_X2_find : GoodIn wsX3_why wsX2_find := goodIn_r _ [7, 8, 9, 49, 50, 51, 52, 53, 54, 55, 56, 57, 58, 59, 60, 61, 62, 63] (by decide +kernel) (by decide +kernel)
set_option maxRecDepth 20000 in
theorem gX3_why_X2_find : GoodIn wsX3_why (wsV RX3 61 RX2 yX2_find wsX2_find) := goodIn_app (goodIn_of _ (by decide +kernel)) ggX3_why_X2_find
set_option maxRecDepth 20000 in
theorem ggX3_why_X3_isFlag : GoodIn wsX3_why wsX3_isFlag := goodIn_r _ [13] (by decide +kernel) (by decide +kernel)
set_option maxRecDepth 20000 in
theorem gX3_why_X3_isFlag : GoodIn wsX3_why (va_wsS RX3 104 yX3_isFlag wsX3_isFlag) := goodIn_app (goodIn_of _ (by decide +kernel)) ggX3_why_X3_isFlag
set_option maxRecDepth 20000 in
theorem ggX3_why_X2_reasonAgainst : GoodIn wsX3_why wsX2_reasonAgainst := goodIn_r _ [17, 18, 19, 20, 21, 22, 12, 23, 24, 25, 26, 27, 28, 29, 30, 31, 32, 33, 34, 35, 6, 36, 37, 38, 39, 64, 65, 66, 67, 68, 69, 70, 71, 49, 50, 51, 52, 53, 54, 55, 56, 57, 58, 59, 60, 61, 62, 63] (by decide +kernel) (by decide +kernel)
set_option maxRecDepth 20000 in
theorem gX3_why_X2_reasonAgainst : GoodIn wsX3_why (wsV RX3 107 RX2 yX2_reasonAgainst wsX2_reasonAgainst) := goodIn_app (goodIn_of _ (by decide +kernel)) ggX3_why_X2_reasonAgainst
theorem dX3_why_0 : decode cX3_why 0 = .ok (.aload_n 0, 1) := by decide +kernel
theorem dX3_why_1 : decode cX3_why 1 = .ok (.getfield 12, 3) := by decide +kernel
theorem dX3_why_4 : decode cX3_why 4 = .ok (.iload_n 1, 1) := by decide +kernel
theorem dX3_why_5 : decode cX3_why 5 = .ok (.invokevirtual 61, 3) := by decide +kernel
theorem dX3_why_8 : decode cX3_why 8 = .ok (.astore_n 3, 1) := by decide +kernel
theorem dX3_why_9 : decode cX3_why 9 = .ok (.aload_n 3, 1) := by decide +kernel
theorem dX3_why_10 : decode cX3_why 10 = .ok (.ifnull 10, 3) := by decide +kernel
theorem dX3_why_13 : decode cX3_why 13 = .ok (.iload_n 2, 1) := by decide +kernel
theorem dX3_why_14 : decode cX3_why 14 = .ok (.invokestatic 104, 3) := by decide +kernel
theorem dX3_why_17 : decode cX3_why 17 = .ok (.ifCond .ne 6, 3) := by decide +kernel
theorem dX3_why_20 : decode cX3_why 20 = .ok (.ldc 65, 2) := by decide +kernel
theorem dX3_why_22 : decode cX3_why 22 = .ok (.ireturn, 1) := by decide +kernel
theorem dX3_why_23 : decode cX3_why 23 = .ok (.aload_n 0, 1) := by decide +kernel
theorem dX3_why_24 : decode cX3_why 24 = .ok (.getfield 12, 3) := by decide +kernel
theorem dX3_why_27 : decode cX3_why 27 = .ok (.aload_n 3, 1) := by decide +kernel
theorem dX3_why_28 : decode cX3_why 28 = .ok (.iload_n 2, 1) := by decide +kernel
theorem dX3_why_29 : decode cX3_why 29 = .ok (.iconst 1, 1) := by decide +kernel
theorem dX3_why_30 : decode cX3_why 30 = .ok (.if_icmp .ne 7, 3) := by decide +kernel
theorem dX3_why_33 : decode cX3_why 33 = .ok (.iconst 1, 1) := by decide +kernel
theorem dX3_why_34 : decode cX3_why 34 = .ok (.goto 4, 3) := by decide +kernel
theorem dX3_why_37 : decode cX3_why 37 = .ok (.iconst 0, 1) := by decide +kernel
theorem dX3_why_38 : decode cX3_why 38 = .ok (.invokevirtual 107, 3) := by decide +kernel
end
section
theorem dX3_why_41 : decode cX3_why 41 = .ok (.ireturn, 1) := by decide +kernel
set_option maxRecDepth 20000 in
theorem ggX3_mend_X2_find : GoodIn wsX3_mend wsX2_find := goodIn_r _ [7, 8, 9, 45, 46, 47, 48, 49, 50, 51, 52, 53, 54, 55, 56, 57, 58, 59] (by decide +kernel) (by decide +kernel)
set_option maxRecDepth 20000 in
theorem gX3_mend_X2_find : GoodIn wsX3_mend (wsV RX3 61 RX2 yX2_find wsX2_find) := goodIn_app (goodIn_of _ (by decide +kernel)) ggX3_mend_X2_find
set_option maxRecDepth 20000 in
theorem ggX3_mend_X3_isFlag : GoodIn wsX3_mend wsX3_isFlag := goodIn_r _ [13] (by decide +kernel) (by decide +kernel)
set_option maxRecDepth 20000 in
theorem gX3_mend_X3_isFlag : GoodIn wsX3_mend (va_wsS RX3 104 yX3_isFlag wsX3_isFlag) := goodIn_app (goodIn_of _ (by decide +kernel)) ggX3_mend_X3_isFlag
set_option maxRecDepth 20000 in
theorem ggX3_mend_X3_hoursOfMend : GoodIn wsX3_mend wsX3_hoursOfMend := goodIn_r _ [16] (by decide +kernel) (by decide +kernel)
set_option maxRecDepth 20000 in
theorem gX3_mend_X3_hoursOfMend : GoodIn wsX3_mend (va_wsS RX3 111 yX3_hoursOfMend wsX3_hoursOfMend) := goodIn_app (goodIn_of _ (by decide +kernel)) ggX3_mend_X3_hoursOfMend
set_option maxRecDepth 20000 in
theorem ggX3_mend_X1_leatherOfMend : GoodIn wsX3_mend wsX1_leatherOfMend := goodIn_r _ [21, 22, 23, 24, 12, 25, 60, 61, 62, 63, 64, 65, 66, 67] (by decide +kernel) (by decide +kernel)
set_option maxRecDepth 20000 in
theorem gX3_mend_X1_leatherOfMend : GoodIn wsX3_mend (wsV RX3 115 RX1 yX1_leatherOfMend wsX1_leatherOfMend) := goodIn_app (goodIn_of _ (by decide +kernel)) ggX3_mend_X1_leatherOfMend
set_option maxRecDepth 20000 in
theorem ggX3_mend_X2_priceOfMend : GoodIn wsX3_mend wsX2_priceOfMend := goodIn_r _ [29, 30, 15, 12, 16, 31, 18, 19, 20, 21, 22, 23, 24, 25, 45, 46, 47, 48, 49, 50, 51, 52, 53, 54, 55, 56, 57, 58, 59, 60, 61, 62, 63, 64, 65, 66, 67] (by decide +kernel) (by decide +kernel)
set_option maxRecDepth 20000 in
theorem gX3_mend_X2_priceOfMend : GoodIn wsX3_mend (wsV RX3 118 RX2 yX2_priceOfMend wsX2_priceOfMend) := goodIn_app (goodIn_of _ (by decide +kernel)) ggX3_mend_X2_priceOfMend
set_option maxRecDepth 20000 in
theorem ggX3_mend_X1_wearBehindMend : GoodIn wsX3_mend wsX1_wearBehindMend := goodIn_r _ [35, 23, 60, 61, 62, 63, 64, 65, 66, 67] (by decide +kernel) (by decide +kernel)
set_option maxRecDepth 20000 in
theorem gX3_mend_X1_wearBehindMend : GoodIn wsX3_mend (wsV RX3 121 RX1 yX1_wearBehindMend wsX1_wearBehindMend) := goodIn_app (goodIn_of _ (by decide +kernel)) ggX3_mend_X1_wearBehindMend
theorem dX3_mend_0 : decode cX3_mend 0 = .ok (.aload_n 0, 1) := by decide +kernel
theorem dX3_mend_1 : decode cX3_mend 1 = .ok (.getfield 12, 3) := by decide +kernel
theorem dX3_mend_4 : decode cX3_mend 4 = .ok (.iload_n 1, 1) := by decide +kernel
theorem dX3_mend_5 : decode cX3_mend 5 = .ok (.invokevirtual 61, 3) := by decide +kernel
theorem dX3_mend_8 : decode cX3_mend 8 = .ok (.astore 4, 2) := by decide +kernel
theorem dX3_mend_10 : decode cX3_mend 10 = .ok (.aload 4, 2) := by decide +kernel
theorem dX3_mend_12 : decode cX3_mend 12 = .ok (.ifnull 10, 3) := by decide +kernel
theorem dX3_mend_15 : decode cX3_mend 15 = .ok (.iload_n 2, 1) := by decide +kernel
theorem dX3_mend_16 : decode cX3_mend 16 = .ok (.invokestatic 104, 3) := by decide +kernel
theorem dX3_mend_19 : decode cX3_mend 19 = .ok (.ifCond .ne 6, 3) := by decide +kernel
theorem dX3_mend_22 : decode cX3_mend 22 = .ok (.ldc 65, 2) := by decide +kernel
theorem dX3_mend_24 : decode cX3_mend 24 = .ok (.ireturn, 1) := by decide +kernel
theorem dX3_mend_25 : decode cX3_mend 25 = .ok (.iload_n 2, 1) := by decide +kernel
theorem dX3_mend_26 : decode cX3_mend 26 = .ok (.iconst 1, 1) := by decide +kernel
theorem dX3_mend_27 : decode cX3_mend 27 = .ok (.if_icmp .ne 7, 3) := by decide +kernel
theorem dX3_mend_30 : decode cX3_mend 30 = .ok (.iconst 1, 1) := by decide +kernel
theorem dX3_mend_31 : decode cX3_mend 31 = .ok (.goto 4, 3) := by decide +kernel
theorem dX3_mend_34 : decode cX3_mend 34 = .ok (.iconst 0, 1) := by decide +kernel
theorem dX3_mend_35 : decode cX3_mend 35 = .ok (.istore 5, 2) := by decide +kernel
theorem dX3_mend_37 : decode cX3_mend 37 = .ok (.iload_n 3, 1) := by decide +kernel
theorem dX3_mend_38 : decode cX3_mend 38 = .ok (.tableswitch 64 0 3 #[30, 36, 44, 56], 30) := by decide +kernel
theorem dX3_mend_68 : decode cX3_mend 68 = .ok (.iload 5, 2) := by decide +kernel
theorem dX3_mend_70 : decode cX3_mend 70 = .ok (.invokestatic 111, 3) := by decide +kernel
theorem dX3_mend_73 : decode cX3_mend 73 = .ok (.ireturn, 1) := by decide +kernel
theorem dX3_mend_74 : decode cX3_mend 74 = .ok (.aload 4, 2) := by decide +kernel
theorem dX3_mend_76 : decode cX3_mend 76 = .ok (.iload 5, 2) := by decide +kernel
theorem dX3_mend_78 : decode cX3_mend 78 = .ok (.invokevirtual 115, 3) := by decide +kernel
theorem dX3_mend_81 : decode cX3_mend 81 = .ok (.ireturn, 1) := by decide +kernel
theorem dX3_mend_82 : decode cX3_mend 82 = .ok (.aload_n 0, 1) := by decide +kernel
theorem dX3_mend_83 : decode cX3_mend 83 = .ok (.getfield 12, 3) := by decide +kernel
theorem dX3_mend_86 : decode cX3_mend 86 = .ok (.aload 4, 2) := by decide +kernel
theorem dX3_mend_88 : decode cX3_mend 88 = .ok (.iload 5, 2) := by decide +kernel
theorem dX3_mend_90 : decode cX3_mend 90 = .ok (.invokevirtual 118, 3) := by decide +kernel
theorem dX3_mend_93 : decode cX3_mend 93 = .ok (.ireturn, 1) := by decide +kernel
theorem dX3_mend_94 : decode cX3_mend 94 = .ok (.aload 4, 2) := by decide +kernel
theorem dX3_mend_96 : decode cX3_mend 96 = .ok (.iload 5, 2) := by decide +kernel
theorem dX3_mend_98 : decode cX3_mend 98 = .ok (.invokevirtual 121, 3) := by decide +kernel
theorem dX3_mend_101 : decode cX3_mend 101 = .ok (.ireturn, 1) := by decide +kernel
theorem dX3_mend_102 : decode cX3_mend 102 = .ok (.ldc 65, 2) := by decide +kernel
theorem dX3_mend_104 : decode cX3_mend 104 = .ok (.ireturn, 1) := by decide +kernel
set_option maxRecDepth 20000 in
theorem ggX3_count_X2_debtsTogether : GoodIn wsX3_count wsX2_debtsTogether := goodIn_r _ [24, 25, 26, 27, 28, 29, 23, 30, 31, 51, 52, 53, 54, 55, 56, 57, 58, 59, 60, 61, 62, 63, 64, 65, 72, 73, 74, 75, 76, 77, 78, 79] (by decide +kernel) (by decide +kernel)
set_option maxRecDepth 20000 in
theorem gX3_count_X2_debtsTogether : GoodIn wsX3_count (wsV RX3 158 RX2 yX2_debtsTogether wsX2_debtsTogether) := goodIn_app (goodIn_of _ (by decide +kernel)) ggX3_count_X2_debtsTogether
set_option maxRecDepth 20000 in
theorem ggX3_count_X2_coldSet : GoodIn wsX3_count wsX2_coldSet := goodIn_r _ [35, 25, 36, 27, 28, 29, 23, 30, 31, 37, 38, 39, 40, 41, 51, 52, 53, 54, 55, 56, 57, 58, 59, 60, 61, 62, 63, 64, 65, 72, 73, 74, 75, 76, 77, 78, 79] (by decide +kernel) (by decide +kernel)
set_option maxRecDepth 20000 in
theorem gX3_count_X2_coldSet : GoodIn wsX3_count (wsV RX3 167 RX2 yX2_coldSet wsX2_coldSet) := goodIn_app (goodIn_of _ (by decide +kernel)) ggX3_count_X2_coldSet
theorem dX3_count_0 : decode cX3_count 0 = .ok (.iload_n 1, 1) := by decide +kernel
theorem dX3_count_1 : decode cX3_count 1 = .ok (.tableswitch 252 0 23 #[111, 119, 127, 135, 143, 151, 159, 167, 175, 183, 191, 199, 207, 212, 252, 252, 252, 252, 252, 252, 220, 228, 236, 244], 111) := by decide +kernel
theorem dX3_count_112 : decode cX3_count 112 = .ok (.aload_n 0, 1) := by decide +kernel
theorem dX3_count_113 : decode cX3_count 113 = .ok (.getfield 12, 3) := by decide +kernel
theorem dX3_count_116 : decode cX3_count 116 = .ok (.getfield 133, 3) := by decide +kernel
theorem dX3_count_119 : decode cX3_count 119 = .ok (.ireturn, 1) := by decide +kernel
theorem dX3_count_120 : decode cX3_count 120 = .ok (.aload_n 0, 1) := by decide +kernel
theorem dX3_count_121 : decode cX3_count 121 = .ok (.getfield 12, 3) := by decide +kernel
theorem dX3_count_124 : decode cX3_count 124 = .ok (.getfield 146, 3) := by decide +kernel
theorem dX3_count_127 : decode cX3_count 127 = .ok (.ireturn, 1) := by decide +kernel
theorem dX3_count_128 : decode cX3_count 128 = .ok (.aload_n 0, 1) := by decide +kernel
theorem dX3_count_129 : decode cX3_count 129 = .ok (.getfield 12, 3) := by decide +kernel
theorem dX3_count_132 : decode cX3_count 132 = .ok (.getfield 100, 3) := by decide +kernel
theorem dX3_count_135 : decode cX3_count 135 = .ok (.ireturn, 1) := by decide +kernel
theorem dX3_count_136 : decode cX3_count 136 = .ok (.aload_n 0, 1) := by decide +kernel
theorem dX3_count_137 : decode cX3_count 137 = .ok (.getfield 12, 3) := by decide +kernel
theorem dX3_count_140 : decode cX3_count 140 = .ok (.getfield 149, 3) := by decide +kernel
theorem dX3_count_143 : decode cX3_count 143 = .ok (.ireturn, 1) := by decide +kernel
theorem dX3_count_144 : decode cX3_count 144 = .ok (.aload_n 0, 1) := by decide +kernel
theorem dX3_count_145 : decode cX3_count 145 = .ok (.getfield 12, 3) := by decide +kernel
theorem dX3_count_148 : decode cX3_count 148 = .ok (.getfield 152, 3) := by decide +kernel
theorem dX3_count_151 : decode cX3_count 151 = .ok (.ireturn, 1) := by decide +kernel
theorem dX3_count_152 : decode cX3_count 152 = .ok (.aload_n 0, 1) := by decide +kernel
theorem dX3_count_153 : decode cX3_count 153 = .ok (.getfield 12, 3) := by decide +kernel
theorem dX3_count_156 : decode cX3_count 156 = .ok (.getfield 155, 3) := by decide +kernel
theorem dX3_count_159 : decode cX3_count 159 = .ok (.ireturn, 1) := by decide +kernel
theorem dX3_count_160 : decode cX3_count 160 = .ok (.aload_n 0, 1) := by decide +kernel
theorem dX3_count_161 : decode cX3_count 161 = .ok (.getfield 12, 3) := by decide +kernel
theorem dX3_count_164 : decode cX3_count 164 = .ok (.invokevirtual 158, 3) := by decide +kernel
theorem dX3_count_167 : decode cX3_count 167 = .ok (.ireturn, 1) := by decide +kernel
theorem dX3_count_168 : decode cX3_count 168 = .ok (.aload_n 0, 1) := by decide +kernel
theorem dX3_count_169 : decode cX3_count 169 = .ok (.getfield 12, 3) := by decide +kernel
theorem dX3_count_172 : decode cX3_count 172 = .ok (.getfield 161, 3) := by decide +kernel
theorem dX3_count_175 : decode cX3_count 175 = .ok (.ireturn, 1) := by decide +kernel
theorem dX3_count_176 : decode cX3_count 176 = .ok (.aload_n 0, 1) := by decide +kernel
theorem dX3_count_177 : decode cX3_count 177 = .ok (.getfield 12, 3) := by decide +kernel
theorem dX3_count_180 : decode cX3_count 180 = .ok (.getfield 164, 3) := by decide +kernel
theorem dX3_count_183 : decode cX3_count 183 = .ok (.ireturn, 1) := by decide +kernel
theorem dX3_count_184 : decode cX3_count 184 = .ok (.aload_n 0, 1) := by decide +kernel
theorem dX3_count_185 : decode cX3_count 185 = .ok (.getfield 12, 3) := by decide +kernel
theorem dX3_count_188 : decode cX3_count 188 = .ok (.invokevirtual 167, 3) := by decide +kernel
theorem dX3_count_191 : decode cX3_count 191 = .ok (.ireturn, 1) := by decide +kernel
theorem dX3_count_192 : decode cX3_count 192 = .ok (.aload_n 0, 1) := by decide +kernel
theorem dX3_count_193 : decode cX3_count 193 = .ok (.getfield 12, 3) := by decide +kernel
theorem dX3_count_196 : decode cX3_count 196 = .ok (.getfield 170, 3) := by decide +kernel
theorem dX3_count_199 : decode cX3_count 199 = .ok (.ireturn, 1) := by decide +kernel
theorem dX3_count_200 : decode cX3_count 200 = .ok (.aload_n 0, 1) := by decide +kernel
theorem dX3_count_201 : decode cX3_count 201 = .ok (.getfield 12, 3) := by decide +kernel
theorem dX3_count_204 : decode cX3_count 204 = .ok (.getfield 173, 3) := by decide +kernel
theorem dX3_count_207 : decode cX3_count 207 = .ok (.ireturn, 1) := by decide +kernel
theorem dX3_count_208 : decode cX3_count 208 = .ok (.aload_n 0, 1) := by decide +kernel
theorem dX3_count_209 : decode cX3_count 209 = .ok (.getfield 176, 3) := by decide +kernel
theorem dX3_count_212 : decode cX3_count 212 = .ok (.ireturn, 1) := by decide +kernel
theorem dX3_count_213 : decode cX3_count 213 = .ok (.aload_n 0, 1) := by decide +kernel
theorem dX3_count_214 : decode cX3_count 214 = .ok (.getfield 26, 3) := by decide +kernel
theorem dX3_count_217 : decode cX3_count 217 = .ok (.getfield 179, 3) := by decide +kernel
theorem dX3_count_220 : decode cX3_count 220 = .ok (.ireturn, 1) := by decide +kernel
theorem dX3_count_221 : decode cX3_count 221 = .ok (.aload_n 0, 1) := by decide +kernel
theorem dX3_count_222 : decode cX3_count 222 = .ok (.getfield 12, 3) := by decide +kernel
theorem dX3_count_225 : decode cX3_count 225 = .ok (.getfield 182, 3) := by decide +kernel
theorem dX3_count_228 : decode cX3_count 228 = .ok (.ireturn, 1) := by decide +kernel
theorem dX3_count_229 : decode cX3_count 229 = .ok (.aload_n 0, 1) := by decide +kernel
theorem dX3_count_230 : decode cX3_count 230 = .ok (.getfield 12, 3) := by decide +kernel
theorem dX3_count_233 : decode cX3_count 233 = .ok (.getfield 185, 3) := by decide +kernel
theorem dX3_count_236 : decode cX3_count 236 = .ok (.ireturn, 1) := by decide +kernel
theorem dX3_count_237 : decode cX3_count 237 = .ok (.aload_n 0, 1) := by decide +kernel
theorem dX3_count_238 : decode cX3_count 238 = .ok (.getfield 12, 3) := by decide +kernel
theorem dX3_count_241 : decode cX3_count 241 = .ok (.getfield 188, 3) := by decide +kernel
theorem dX3_count_244 : decode cX3_count 244 = .ok (.ireturn, 1) := by decide +kernel
theorem dX3_count_245 : decode cX3_count 245 = .ok (.aload_n 0, 1) := by decide +kernel
theorem dX3_count_246 : decode cX3_count 246 = .ok (.getfield 12, 3) := by decide +kernel
theorem dX3_count_249 : decode cX3_count 249 = .ok (.getfield 191, 3) := by decide +kernel
theorem dX3_count_252 : decode cX3_count 252 = .ok (.ireturn, 1) := by decide +kernel
theorem dX3_count_253 : decode cX3_count 253 = .ok (.ldc 65, 2) := by decide +kernel
theorem dX3_count_255 : decode cX3_count 255 = .ok (.ireturn, 1) := by decide +kernel
set_option maxRecDepth 20000 in
theorem ggX3_commit_X3_remember : GoodIn wsX3_commit wsX3_remember := goodIn_r _ [7, 8, 9, 1, 10, 11, 12, 6, 13, 14, 15, 16, 17, 18, 19, 20, 21, 22, 23, 24, 25, 26, 27, 28, 29, 30, 31, 32, 33, 34, 35, 36, 37, 38, 39, 40, 41, 42, 43, 44, 45, 46, 47, 48, 49, 50, 51, 52, 53, 54, 55, 56, 57, 58, 59, 60, 61, 62, 63, 64, 65, 66, 67, 68, 69, 70, 71, 72, 73, 74, 75, 76, 77, 78, 79, 80, 81, 82] (by decide +kernel) (by decide +kernel)
set_option maxRecDepth 20000 in
theorem gX3_commit_X3_remember : GoodIn wsX3_commit (wsV RX3 215 RX3 yX3_remember wsX3_remember) := goodIn_app (goodIn_of _ (by decide +kernel)) ggX3_commit_X3_remember
theorem dX3_commit_0 : decode cX3_commit 0 = .ok (.iload_n 1, 1) := by decide +kernel
theorem dX3_commit_1 : decode cX3_commit 1 = .ok (.ifCond .ge 5, 3) := by decide +kernel
theorem dX3_commit_4 : decode cX3_commit 4 = .ok (.iload_n 1, 1) := by decide +kernel
theorem dX3_commit_5 : decode cX3_commit 5 = .ok (.ireturn, 1) := by decide +kernel
theorem dX3_commit_6 : decode cX3_commit 6 = .ok (.aload_n 0, 1) := by decide +kernel
theorem dX3_commit_7 : decode cX3_commit 7 = .ok (.invokevirtual 215, 3) := by decide +kernel
theorem dX3_commit_10 : decode cX3_commit 10 = .ok (.aload_n 0, 1) := by decide +kernel
theorem dX3_commit_11 : decode cX3_commit 11 = .ok (.getfield 12, 3) := by decide +kernel
theorem dX3_commit_14 : decode cX3_commit 14 = .ok (.astore_n 2, 1) := by decide +kernel
theorem dX3_commit_15 : decode cX3_commit 15 = .ok (.aload_n 0, 1) := by decide +kernel
theorem dX3_commit_16 : decode cX3_commit 16 = .ok (.aload_n 0, 1) := by decide +kernel
theorem dX3_commit_17 : decode cX3_commit 17 = .ok (.getfield 16, 3) := by decide +kernel
theorem dX3_commit_20 : decode cX3_commit 20 = .ok (.putfield 12, 3) := by decide +kernel
theorem dX3_commit_23 : decode cX3_commit 23 = .ok (.aload_n 0, 1) := by decide +kernel
theorem dX3_commit_24 : decode cX3_commit 24 = .ok (.aload_n 2, 1) := by decide +kernel
theorem dX3_commit_25 : decode cX3_commit 25 = .ok (.putfield 16, 3) := by decide +kernel
theorem dX3_commit_28 : decode cX3_commit 28 = .ok (.iload_n 1, 1) := by decide +kernel
theorem dX3_commit_29 : decode cX3_commit 29 = .ok (.ireturn, 1) := by decide +kernel
set_option maxRecDepth 20000 in
theorem ggX3_remember_X3_dropOldestState : GoodIn wsX3_remember wsX3_dropOldestState := goodIn_r _ [8, 2, 1, 46, 47, 48, 49, 50, 51, 52, 53, 54] (by decide +kernel) (by decide +kernel)
set_option maxRecDepth 20000 in
theorem gX3_remember_X3_dropOldestState : GoodIn wsX3_remember (wsV RX3 218 RX3 yX3_dropOldestState wsX3_dropOldestState) := goodIn_app (goodIn_of _ (by decide +kernel)) ggX3_remember_X3_dropOldestState
set_option maxRecDepth 20000 in
theorem ggX3_remember_X2_copyFrom : GoodIn wsX3_remember wsX2_copyFrom := goodIn_r _ [13, 14, 15, 16, 17, 18, 19, 20, 21, 22, 23, 24, 25, 26, 27, 28, 29, 30, 12, 31, 32, 33, 34, 35, 36, 37, 38, 39, 40, 41, 42, 43, 44, 45, 55, 56, 57, 58, 59, 60, 61, 62, 63, 64, 65, 66, 67, 68, 69, 70, 71, 72, 73, 74, 75, 76, 77] (by decide +kernel) (by decide +kernel)
set_option maxRecDepth 20000 in
theorem gX3_remember_X2_copyFrom : GoodIn wsX3_remember (wsV RX3 30 RX2 yX2_copyFrom wsX2_copyFrom) := goodIn_app (goodIn_of _ (by decide +kernel)) ggX3_remember_X2_copyFrom
theorem dX3_remember_0 : decode cX3_remember 0 = .ok (.aload_n 0, 1) := by decide +kernel
theorem dX3_remember_1 : decode cX3_remember 1 = .ok (.getfield 176, 3) := by decide +kernel
theorem dX3_remember_4 : decode cX3_remember 4 = .ok (.aload_n 0, 1) := by decide +kernel
theorem dX3_remember_5 : decode cX3_remember 5 = .ok (.getfield 19, 3) := by decide +kernel
theorem dX3_remember_8 : decode cX3_remember 8 = .ok (.arraylength, 1) := by decide +kernel
theorem dX3_remember_9 : decode cX3_remember 9 = .ok (.if_icmp .lt 7, 3) := by decide +kernel
theorem dX3_remember_12 : decode cX3_remember 12 = .ok (.aload_n 0, 1) := by decide +kernel
theorem dX3_remember_13 : decode cX3_remember 13 = .ok (.invokevirtual 218, 3) := by decide +kernel
theorem dX3_remember_16 : decode cX3_remember 16 = .ok (.aload_n 0, 1) := by decide +kernel
theorem dX3_remember_17 : decode cX3_remember 17 = .ok (.getfield 176, 3) := by decide +kernel
theorem dX3_remember_20 : decode cX3_remember 20 = .ok (.ifCond .lt 15, 3) := by decide +kernel
theorem dX3_remember_23 : decode cX3_remember 23 = .ok (.aload_n 0, 1) := by decide +kernel
theorem dX3_remember_24 : decode cX3_remember 24 = .ok (.getfield 176, 3) := by decide +kernel
theorem dX3_remember_27 : decode cX3_remember 27 = .ok (.aload_n 0, 1) := by decide +kernel
theorem dX3_remember_28 : decode cX3_remember 28 = .ok (.getfield 19, 3) := by decide +kernel
theorem dX3_remember_31 : decode cX3_remember 31 = .ok (.arraylength, 1) := by decide +kernel
theorem dX3_remember_32 : decode cX3_remember 32 = .ok (.if_icmp .lt 4, 3) := by decide +kernel
theorem dX3_remember_35 : decode cX3_remember 35 = .ok (.return_, 1) := by decide +kernel
theorem dX3_remember_36 : decode cX3_remember 36 = .ok (.aload_n 0, 1) := by decide +kernel
theorem dX3_remember_37 : decode cX3_remember 37 = .ok (.getfield 19, 3) := by decide +kernel
theorem dX3_remember_40 : decode cX3_remember 40 = .ok (.aload_n 0, 1) := by decide +kernel
theorem dX3_remember_41 : decode cX3_remember 41 = .ok (.getfield 176, 3) := by decide +kernel
theorem dX3_remember_44 : decode cX3_remember 44 = .ok (.aaload, 1) := by decide +kernel
theorem dX3_remember_45 : decode cX3_remember 45 = .ok (.astore_n 1, 1) := by decide +kernel
theorem dX3_remember_46 : decode cX3_remember 46 = .ok (.aload_n 1, 1) := by decide +kernel
theorem dX3_remember_47 : decode cX3_remember 47 = .ok (.ifnull 21, 3) := by decide +kernel
theorem dX3_remember_50 : decode cX3_remember 50 = .ok (.aload_n 1, 1) := by decide +kernel
theorem dX3_remember_51 : decode cX3_remember 51 = .ok (.aload_n 0, 1) := by decide +kernel
theorem dX3_remember_52 : decode cX3_remember 52 = .ok (.getfield 12, 3) := by decide +kernel
theorem dX3_remember_55 : decode cX3_remember 55 = .ok (.invokevirtual 30, 3) := by decide +kernel
theorem dX3_remember_58 : decode cX3_remember 58 = .ok (.aload_n 0, 1) := by decide +kernel
theorem dX3_remember_59 : decode cX3_remember 59 = .ok (.dup, 1) := by decide +kernel
theorem dX3_remember_60 : decode cX3_remember 60 = .ok (.getfield 176, 3) := by decide +kernel
theorem dX3_remember_63 : decode cX3_remember 63 = .ok (.iconst 1, 1) := by decide +kernel
theorem dX3_remember_64 : decode cX3_remember 64 = .ok (.iadd, 1) := by decide +kernel
theorem dX3_remember_65 : decode cX3_remember 65 = .ok (.putfield 176, 3) := by decide +kernel
theorem dX3_remember_68 : decode cX3_remember 68 = .ok (.return_, 1) := by decide +kernel
theorem dX3_dropOldestState_0 : decode cX3_dropOldestState 0 = .ok (.iconst 0, 1) := by decide +kernel
theorem dX3_dropOldestState_1 : decode cX3_dropOldestState 1 = .ok (.istore_n 1, 1) := by decide +kernel
theorem dX3_dropOldestState_2 : decode cX3_dropOldestState 2 = .ok (.iload_n 1, 1) := by decide +kernel
theorem dX3_dropOldestState_3 : decode cX3_dropOldestState 3 = .ok (.iconst 1, 1) := by decide +kernel
theorem dX3_dropOldestState_4 : decode cX3_dropOldestState 4 = .ok (.iadd, 1) := by decide +kernel
theorem dX3_dropOldestState_5 : decode cX3_dropOldestState 5 = .ok (.aload_n 0, 1) := by decide +kernel
theorem dX3_dropOldestState_6 : decode cX3_dropOldestState 6 = .ok (.getfield 19, 3) := by decide +kernel
theorem dX3_dropOldestState_9 : decode cX3_dropOldestState 9 = .ok (.arraylength, 1) := by decide +kernel
theorem dX3_dropOldestState_10 : decode cX3_dropOldestState 10 = .ok (.if_icmp .ge 39, 3) := by decide +kernel
theorem dX3_dropOldestState_13 : decode cX3_dropOldestState 13 = .ok (.aload_n 0, 1) := by decide +kernel
theorem dX3_dropOldestState_14 : decode cX3_dropOldestState 14 = .ok (.getfield 19, 3) := by decide +kernel
theorem dX3_dropOldestState_17 : decode cX3_dropOldestState 17 = .ok (.iload_n 1, 1) := by decide +kernel
theorem dX3_dropOldestState_18 : decode cX3_dropOldestState 18 = .ok (.aaload, 1) := by decide +kernel
theorem dX3_dropOldestState_19 : decode cX3_dropOldestState 19 = .ok (.astore_n 2, 1) := by decide +kernel
theorem dX3_dropOldestState_20 : decode cX3_dropOldestState 20 = .ok (.aload_n 0, 1) := by decide +kernel
theorem dX3_dropOldestState_21 : decode cX3_dropOldestState 21 = .ok (.getfield 19, 3) := by decide +kernel
theorem dX3_dropOldestState_24 : decode cX3_dropOldestState 24 = .ok (.iload_n 1, 1) := by decide +kernel
theorem dX3_dropOldestState_25 : decode cX3_dropOldestState 25 = .ok (.aload_n 0, 1) := by decide +kernel
theorem dX3_dropOldestState_26 : decode cX3_dropOldestState 26 = .ok (.getfield 19, 3) := by decide +kernel
theorem dX3_dropOldestState_29 : decode cX3_dropOldestState 29 = .ok (.iload_n 1, 1) := by decide +kernel
theorem dX3_dropOldestState_30 : decode cX3_dropOldestState 30 = .ok (.iconst 1, 1) := by decide +kernel
theorem dX3_dropOldestState_31 : decode cX3_dropOldestState 31 = .ok (.iadd, 1) := by decide +kernel
theorem dX3_dropOldestState_32 : decode cX3_dropOldestState 32 = .ok (.aaload, 1) := by decide +kernel
theorem dX3_dropOldestState_33 : decode cX3_dropOldestState 33 = .ok (.aastore, 1) := by decide +kernel
theorem dX3_dropOldestState_34 : decode cX3_dropOldestState 34 = .ok (.aload_n 0, 1) := by decide +kernel
theorem dX3_dropOldestState_35 : decode cX3_dropOldestState 35 = .ok (.getfield 19, 3) := by decide +kernel
theorem dX3_dropOldestState_38 : decode cX3_dropOldestState 38 = .ok (.iload_n 1, 1) := by decide +kernel
theorem dX3_dropOldestState_39 : decode cX3_dropOldestState 39 = .ok (.iconst 1, 1) := by decide +kernel
theorem dX3_dropOldestState_40 : decode cX3_dropOldestState 40 = .ok (.iadd, 1) := by decide +kernel
theorem dX3_dropOldestState_41 : decode cX3_dropOldestState 41 = .ok (.aload_n 2, 1) := by decide +kernel
theorem dX3_dropOldestState_42 : decode cX3_dropOldestState 42 = .ok (.aastore, 1) := by decide +kernel
theorem dX3_dropOldestState_43 : decode cX3_dropOldestState 43 = .ok (.iinc 1 1, 3) := by decide +kernel
theorem dX3_dropOldestState_46 : decode cX3_dropOldestState 46 = .ok (.goto (-44), 3) := by decide +kernel
theorem dX3_dropOldestState_49 : decode cX3_dropOldestState 49 = .ok (.aload_n 0, 1) := by decide +kernel
theorem dX3_dropOldestState_50 : decode cX3_dropOldestState 50 = .ok (.dup, 1) := by decide +kernel
theorem dX3_dropOldestState_51 : decode cX3_dropOldestState 51 = .ok (.getfield 176, 3) := by decide +kernel
theorem dX3_dropOldestState_54 : decode cX3_dropOldestState 54 = .ok (.iconst 1, 1) := by decide +kernel
theorem dX3_dropOldestState_55 : decode cX3_dropOldestState 55 = .ok (.isub, 1) := by decide +kernel
theorem dX3_dropOldestState_56 : decode cX3_dropOldestState 56 = .ok (.putfield 176, 3) := by decide +kernel
theorem dX3_dropOldestState_59 : decode cX3_dropOldestState 59 = .ok (.return_, 1) := by decide +kernel
theorem dX3_isFlag_0 : decode cX3_isFlag 0 = .ok (.iload_n 0, 1) := by decide +kernel
theorem dX3_isFlag_1 : decode cX3_isFlag 1 = .ok (.ifCond .eq 8, 3) := by decide +kernel
theorem dX3_isFlag_4 : decode cX3_isFlag 4 = .ok (.iload_n 0, 1) := by decide +kernel
theorem dX3_isFlag_5 : decode cX3_isFlag 5 = .ok (.iconst 1, 1) := by decide +kernel
theorem dX3_isFlag_6 : decode cX3_isFlag 6 = .ok (.if_icmp .ne 7, 3) := by decide +kernel
theorem dX3_isFlag_9 : decode cX3_isFlag 9 = .ok (.iconst 1, 1) := by decide +kernel
theorem dX3_isFlag_10 : decode cX3_isFlag 10 = .ok (.goto 4, 3) := by decide +kernel
theorem dX3_isFlag_13 : decode cX3_isFlag 13 = .ok (.iconst 0, 1) := by decide +kernel
theorem dX3_isFlag_14 : decode cX3_isFlag 14 = .ok (.ireturn, 1) := by decide +kernel
theorem dX3_leakOf_0 : decode cX3_leakOf 0 = .ok (.iload_n 0, 1) := by decide +kernel
theorem dX3_leakOf_1 : decode cX3_leakOf 1 = .ok (.bipush 10, 2) := by decide +kernel
theorem dX3_leakOf_3 : decode cX3_leakOf 3 = .ok (.idiv, 1) := by decide +kernel
theorem dX3_leakOf_4 : decode cX3_leakOf 4 = .ok (.ireturn, 1) := by decide +kernel
theorem dX3_wearBehindDay_0 : decode cX3_wearBehindDay 0 = .ok (.bipush 100, 2) := by decide +kernel
theorem dX3_wearBehindDay_2 : decode cX3_wearBehindDay 2 = .ok (.iload_n 0, 1) := by decide +kernel
theorem dX3_wearBehindDay_3 : decode cX3_wearBehindDay 3 = .ok (.iload_n 1, 1) := by decide +kernel
theorem dX3_wearBehindDay_4 : decode cX3_wearBehindDay 4 = .ok (.iconst 2, 1) := by decide +kernel
theorem dX3_wearBehindDay_5 : decode cX3_wearBehindDay 5 = .ok (.idiv, 1) := by decide +kernel
theorem dX3_wearBehindDay_6 : decode cX3_wearBehindDay 6 = .ok (.iadd, 1) := by decide +kernel
theorem dX3_wearBehindDay_7 : decode cX3_wearBehindDay 7 = .ok (.iconst 1, 1) := by decide +kernel
theorem dX3_wearBehindDay_8 : decode cX3_wearBehindDay 8 = .ok (.iadd, 1) := by decide +kernel
theorem dX3_wearBehindDay_9 : decode cX3_wearBehindDay 9 = .ok (.invokestatic 243, 3) := by decide +kernel
theorem dX3_wearBehindDay_12 : decode cX3_wearBehindDay 12 = .ok (.ireturn, 1) := by decide +kernel
set_option maxRecDepth 20000 in
theorem ggX3_heatBehindDay_X3_leakOf : GoodIn wsX3_heatBehindDay wsX3_leakOf := goodIn_r _ [11] (by decide +kernel) (by decide +kernel)
set_option maxRecDepth 20000 in
theorem gX3_heatBehindDay_X3_leakOf : GoodIn wsX3_heatBehindDay (va_wsS RX3 78 yX3_leakOf wsX3_leakOf) := goodIn_app (goodIn_of _ (by decide +kernel)) ggX3_heatBehindDay_X3_leakOf
theorem dX3_heatBehindDay_0 : decode cX3_heatBehindDay 0 = .ok (.iload_n 1, 1) := by decide +kernel
theorem dX3_heatBehindDay_1 : decode cX3_heatBehindDay 1 = .ok (.invokestatic 78, 3) := by decide +kernel
theorem dX3_heatBehindDay_4 : decode cX3_heatBehindDay 4 = .ok (.istore_n 2, 1) := by decide +kernel
theorem dX3_heatBehindDay_5 : decode cX3_heatBehindDay 5 = .ok (.iload_n 2, 1) := by decide +kernel
theorem dX3_heatBehindDay_6 : decode cX3_heatBehindDay 6 = .ok (.ifCond .ne 13, 3) := by decide +kernel
theorem dX3_heatBehindDay_9 : decode cX3_heatBehindDay 9 = .ok (.bipush 100, 2) := by decide +kernel
theorem dX3_heatBehindDay_11 : decode cX3_heatBehindDay 11 = .ok (.iload_n 0, 1) := by decide +kernel
theorem dX3_heatBehindDay_12 : decode cX3_heatBehindDay 12 = .ok (.bipush 10, 2) := by decide +kernel
theorem dX3_heatBehindDay_14 : decode cX3_heatBehindDay 14 = .ok (.iadd, 1) := by decide +kernel
theorem dX3_heatBehindDay_15 : decode cX3_heatBehindDay 15 = .ok (.invokestatic 243, 3) := by decide +kernel
theorem dX3_heatBehindDay_18 : decode cX3_heatBehindDay 18 = .ok (.ireturn, 1) := by decide +kernel
theorem dX3_heatBehindDay_19 : decode cX3_heatBehindDay 19 = .ok (.iconst 0, 1) := by decide +kernel
theorem dX3_heatBehindDay_20 : decode cX3_heatBehindDay 20 = .ok (.iload_n 0, 1) := by decide +kernel
theorem dX3_heatBehindDay_21 : decode cX3_heatBehindDay 21 = .ok (.iload_n 2, 1) := by decide +kernel
theorem dX3_heatBehindDay_22 : decode cX3_heatBehindDay 22 = .ok (.iconst 2, 1) := by decide +kernel
theorem dX3_heatBehindDay_23 : decode cX3_heatBehindDay 23 = .ok (.imul, 1) := by decide +kernel
theorem dX3_heatBehindDay_24 : decode cX3_heatBehindDay 24 = .ok (.isub, 1) := by decide +kernel
theorem dX3_heatBehindDay_25 : decode cX3_heatBehindDay 25 = .ok (.invokestatic 248, 3) := by decide +kernel
theorem dX3_heatBehindDay_28 : decode cX3_heatBehindDay 28 = .ok (.ireturn, 1) := by decide +kernel
theorem dX3_tensBegun_0 : decode cX3_tensBegun 0 = .ok (.iload_n 0, 1) := by decide +kernel
theorem dX3_tensBegun_1 : decode cX3_tensBegun 1 = .ok (.bipush 9, 2) := by decide +kernel
theorem dX3_tensBegun_3 : decode cX3_tensBegun 3 = .ok (.iadd, 1) := by decide +kernel
theorem dX3_tensBegun_4 : decode cX3_tensBegun 4 = .ok (.bipush 10, 2) := by decide +kernel
theorem dX3_tensBegun_6 : decode cX3_tensBegun 6 = .ok (.idiv, 1) := by decide +kernel
theorem dX3_tensBegun_7 : decode cX3_tensBegun 7 = .ok (.ireturn, 1) := by decide +kernel
set_option maxRecDepth 20000 in
theorem ggX3_hoursOfWay_X3_tensBegun : GoodIn wsX3_hoursOfWay wsX3_tensBegun := goodIn_r _ [8] (by decide +kernel) (by decide +kernel)
set_option maxRecDepth 20000 in
theorem gX3_hoursOfWay_X3_tensBegun : GoodIn wsX3_hoursOfWay (va_wsS RX3 254 yX3_tensBegun wsX3_tensBegun) := goodIn_app (goodIn_of _ (by decide +kernel)) ggX3_hoursOfWay_X3_tensBegun
theorem dX3_hoursOfWay_0 : decode cX3_hoursOfWay 0 = .ok (.iload_n 0, 1) := by decide +kernel
theorem dX3_hoursOfWay_1 : decode cX3_hoursOfWay 1 = .ok (.iload_n 1, 1) := by decide +kernel
theorem dX3_hoursOfWay_2 : decode cX3_hoursOfWay 2 = .ok (.isub, 1) := by decide +kernel
theorem dX3_hoursOfWay_3 : decode cX3_hoursOfWay 3 = .ok (.invokestatic 251, 3) := by decide +kernel
theorem dX3_hoursOfWay_6 : decode cX3_hoursOfWay 6 = .ok (.invokestatic 254, 3) := by decide +kernel
theorem dX3_hoursOfWay_9 : decode cX3_hoursOfWay 9 = .ok (.ireturn, 1) := by decide +kernel
theorem dX3_hoursOfMend_0 : decode cX3_hoursOfMend 0 = .ok (.iload_n 0, 1) := by decide +kernel
theorem dX3_hoursOfMend_1 : decode cX3_hoursOfMend 1 = .ok (.ifCond .eq 7, 3) := by decide +kernel
theorem dX3_hoursOfMend_4 : decode cX3_hoursOfMend 4 = .ok (.iconst 3, 1) := by decide +kernel
theorem dX3_hoursOfMend_5 : decode cX3_hoursOfMend 5 = .ok (.goto 4, 3) := by decide +kernel
theorem dX3_hoursOfMend_8 : decode cX3_hoursOfMend 8 = .ok (.iconst 1, 1) := by decide +kernel
theorem dX3_hoursOfMend_9 : decode cX3_hoursOfMend 9 = .ok (.ireturn, 1) := by decide +kernel
theorem dJ6_bitCount_0f7a4_0 : decode cJ6_bitCount_0f7a4 0 = .ok (.iload_n 0, 1) := by decide +kernel
theorem dJ6_bitCount_0f7a4_1 : decode cJ6_bitCount_0f7a4 1 = .ok (.iload_n 0, 1) := by decide +kernel
theorem dJ6_bitCount_0f7a4_2 : decode cJ6_bitCount_0f7a4 2 = .ok (.iconst 1, 1) := by decide +kernel
theorem dJ6_bitCount_0f7a4_3 : decode cJ6_bitCount_0f7a4 3 = .ok (.iushr, 1) := by decide +kernel
theorem dJ6_bitCount_0f7a4_4 : decode cJ6_bitCount_0f7a4 4 = .ok (.ldc_w 265, 3) := by decide +kernel
theorem dJ6_bitCount_0f7a4_7 : decode cJ6_bitCount_0f7a4 7 = .ok (.iand, 1) := by decide +kernel
theorem dJ6_bitCount_0f7a4_8 : decode cJ6_bitCount_0f7a4 8 = .ok (.isub, 1) := by decide +kernel
theorem dJ6_bitCount_0f7a4_9 : decode cJ6_bitCount_0f7a4 9 = .ok (.istore_n 0, 1) := by decide +kernel
theorem dJ6_bitCount_0f7a4_10 : decode cJ6_bitCount_0f7a4 10 = .ok (.iload_n 0, 1) := by decide +kernel
theorem dJ6_bitCount_0f7a4_11 : decode cJ6_bitCount_0f7a4 11 = .ok (.ldc_w 266, 3) := by decide +kernel
theorem dJ6_bitCount_0f7a4_14 : decode cJ6_bitCount_0f7a4 14 = .ok (.iand, 1) := by decide +kernel
theorem dJ6_bitCount_0f7a4_15 : decode cJ6_bitCount_0f7a4 15 = .ok (.iload_n 0, 1) := by decide +kernel
theorem dJ6_bitCount_0f7a4_16 : decode cJ6_bitCount_0f7a4 16 = .ok (.iconst 2, 1) := by decide +kernel
theorem dJ6_bitCount_0f7a4_17 : decode cJ6_bitCount_0f7a4 17 = .ok (.iushr, 1) := by decide +kernel
theorem dJ6_bitCount_0f7a4_18 : decode cJ6_bitCount_0f7a4 18 = .ok (.ldc_w 266, 3) := by decide +kernel
theorem dJ6_bitCount_0f7a4_21 : decode cJ6_bitCount_0f7a4 21 = .ok (.iand, 1) := by decide +kernel
theorem dJ6_bitCount_0f7a4_22 : decode cJ6_bitCount_0f7a4 22 = .ok (.iadd, 1) := by decide +kernel
theorem dJ6_bitCount_0f7a4_23 : decode cJ6_bitCount_0f7a4 23 = .ok (.istore_n 0, 1) := by decide +kernel
theorem dJ6_bitCount_0f7a4_24 : decode cJ6_bitCount_0f7a4 24 = .ok (.iload_n 0, 1) := by decide +kernel
theorem dJ6_bitCount_0f7a4_25 : decode cJ6_bitCount_0f7a4 25 = .ok (.iload_n 0, 1) := by decide +kernel
theorem dJ6_bitCount_0f7a4_26 : decode cJ6_bitCount_0f7a4 26 = .ok (.iconst 4, 1) := by decide +kernel
theorem dJ6_bitCount_0f7a4_27 : decode cJ6_bitCount_0f7a4 27 = .ok (.iushr, 1) := by decide +kernel
theorem dJ6_bitCount_0f7a4_28 : decode cJ6_bitCount_0f7a4 28 = .ok (.iadd, 1) := by decide +kernel
theorem dJ6_bitCount_0f7a4_29 : decode cJ6_bitCount_0f7a4 29 = .ok (.ldc_w 267, 3) := by decide +kernel
theorem dJ6_bitCount_0f7a4_32 : decode cJ6_bitCount_0f7a4 32 = .ok (.iand, 1) := by decide +kernel
theorem dJ6_bitCount_0f7a4_33 : decode cJ6_bitCount_0f7a4 33 = .ok (.istore_n 0, 1) := by decide +kernel
theorem dJ6_bitCount_0f7a4_34 : decode cJ6_bitCount_0f7a4 34 = .ok (.iload_n 0, 1) := by decide +kernel
theorem dJ6_bitCount_0f7a4_35 : decode cJ6_bitCount_0f7a4 35 = .ok (.iload_n 0, 1) := by decide +kernel
theorem dJ6_bitCount_0f7a4_36 : decode cJ6_bitCount_0f7a4 36 = .ok (.bipush 8, 2) := by decide +kernel
theorem dJ6_bitCount_0f7a4_38 : decode cJ6_bitCount_0f7a4 38 = .ok (.iushr, 1) := by decide +kernel
theorem dJ6_bitCount_0f7a4_39 : decode cJ6_bitCount_0f7a4 39 = .ok (.iadd, 1) := by decide +kernel
theorem dJ6_bitCount_0f7a4_40 : decode cJ6_bitCount_0f7a4 40 = .ok (.istore_n 0, 1) := by decide +kernel
theorem dJ6_bitCount_0f7a4_41 : decode cJ6_bitCount_0f7a4 41 = .ok (.iload_n 0, 1) := by decide +kernel
theorem dJ6_bitCount_0f7a4_42 : decode cJ6_bitCount_0f7a4 42 = .ok (.iload_n 0, 1) := by decide +kernel
theorem dJ6_bitCount_0f7a4_43 : decode cJ6_bitCount_0f7a4 43 = .ok (.bipush 16, 2) := by decide +kernel
theorem dJ6_bitCount_0f7a4_45 : decode cJ6_bitCount_0f7a4 45 = .ok (.iushr, 1) := by decide +kernel
theorem dJ6_bitCount_0f7a4_46 : decode cJ6_bitCount_0f7a4 46 = .ok (.iadd, 1) := by decide +kernel
theorem dJ6_bitCount_0f7a4_47 : decode cJ6_bitCount_0f7a4 47 = .ok (.istore_n 0, 1) := by decide +kernel
theorem dJ6_bitCount_0f7a4_48 : decode cJ6_bitCount_0f7a4 48 = .ok (.iload_n 0, 1) := by decide +kernel
theorem dJ6_bitCount_0f7a4_49 : decode cJ6_bitCount_0f7a4 49 = .ok (.bipush 63, 2) := by decide +kernel
theorem dJ6_bitCount_0f7a4_51 : decode cJ6_bitCount_0f7a4 51 = .ok (.iand, 1) := by decide +kernel
theorem dJ6_bitCount_0f7a4_52 : decode cJ6_bitCount_0f7a4 52 = .ok (.ireturn, 1) := by decide +kernel
theorem dJ9_abs_0f7a4_0 : decode cJ9_abs_0f7a4 0 = .ok (.iload_n 0, 1) := by decide +kernel
theorem dJ9_abs_0f7a4_1 : decode cJ9_abs_0f7a4 1 = .ok (.ifCond .ge 8, 3) := by decide +kernel
theorem dJ9_abs_0f7a4_4 : decode cJ9_abs_0f7a4 4 = .ok (.iload_n 0, 1) := by decide +kernel
theorem dJ9_abs_0f7a4_5 : decode cJ9_abs_0f7a4 5 = .ok (.ineg, 1) := by decide +kernel
theorem dJ9_abs_0f7a4_6 : decode cJ9_abs_0f7a4 6 = .ok (.goto 4, 3) := by decide +kernel
theorem dJ9_abs_0f7a4_9 : decode cJ9_abs_0f7a4 9 = .ok (.iload_n 0, 1) := by decide +kernel
theorem dJ9_abs_0f7a4_10 : decode cJ9_abs_0f7a4 10 = .ok (.ireturn, 1) := by decide +kernel
theorem dJ9_max_7cf53_0 : decode cJ9_max_7cf53 0 = .ok (.iload_n 0, 1) := by decide +kernel
theorem dJ9_max_7cf53_1 : decode cJ9_max_7cf53 1 = .ok (.iload_n 1, 1) := by decide +kernel
theorem dJ9_max_7cf53_2 : decode cJ9_max_7cf53 2 = .ok (.if_icmp .lt 7, 3) := by decide +kernel
theorem dJ9_max_7cf53_5 : decode cJ9_max_7cf53 5 = .ok (.iload_n 0, 1) := by decide +kernel
theorem dJ9_max_7cf53_6 : decode cJ9_max_7cf53 6 = .ok (.goto 4, 3) := by decide +kernel
theorem dJ9_max_7cf53_9 : decode cJ9_max_7cf53 9 = .ok (.iload_n 1, 1) := by decide +kernel
theorem dJ9_max_7cf53_10 : decode cJ9_max_7cf53 10 = .ok (.ireturn, 1) := by decide +kernel
theorem dJ9_min_7cf53_0 : decode cJ9_min_7cf53 0 = .ok (.iload_n 0, 1) := by decide +kernel
theorem dJ9_min_7cf53_1 : decode cJ9_min_7cf53 1 = .ok (.iload_n 1, 1) := by decide +kernel
theorem dJ9_min_7cf53_2 : decode cJ9_min_7cf53 2 = .ok (.if_icmp .gt 7, 3) := by decide +kernel
theorem dJ9_min_7cf53_5 : decode cJ9_min_7cf53 5 = .ok (.iload_n 0, 1) := by decide +kernel
theorem dJ9_min_7cf53_6 : decode cJ9_min_7cf53 6 = .ok (.goto 4, 3) := by decide +kernel
theorem dJ9_min_7cf53_9 : decode cJ9_min_7cf53 9 = .ok (.iload_n 1, 1) := by decide +kernel
theorem dJ9_min_7cf53_10 : decode cJ9_min_7cf53 10 = .ok (.ireturn, 1) := by decide +kernel
theorem dL_cell_0 : decode cL_cell 0 = .ok (.iload_n 1, 1) := by decide +kernel
theorem dL_cell_1 : decode cL_cell 1 = .ok (.aload_n 0, 1) := by decide +kernel
theorem dL_cell_2 : decode cL_cell 2 = .ok (.arraylength, 1) := by decide +kernel
theorem dL_cell_3 : decode cL_cell 3 = .ok (.if_icmp .ge 9, 3) := by decide +kernel
theorem dL_cell_6 : decode cL_cell 6 = .ok (.aload_n 0, 1) := by decide +kernel
theorem dL_cell_7 : decode cL_cell 7 = .ok (.iload_n 1, 1) := by decide +kernel
theorem dL_cell_8 : decode cL_cell 8 = .ok (.iaload, 1) := by decide +kernel
theorem dL_cell_9 : decode cL_cell 9 = .ok (.goto 9, 3) := by decide +kernel
theorem dL_cell_12 : decode cL_cell 12 = .ok (.ldc 7, 2) := by decide +kernel
theorem dL_cell_14 : decode cL_cell 14 = .ok (.iload_n 1, 1) := by decide +kernel
theorem dL_cell_15 : decode cL_cell 15 = .ok (.iconst 3, 1) := by decide +kernel
theorem dL_cell_16 : decode cL_cell 16 = .ok (.iadd, 1) := by decide +kernel
theorem dL_cell_17 : decode cL_cell 17 = .ok (.imul, 1) := by decide +kernel
theorem dL_cell_18 : decode cL_cell 18 = .ok (.ireturn, 1) := by decide +kernel
theorem dL_low_0 : decode cL_low 0 = .ok (.iload_n 0, 1) := by decide +kernel
theorem dL_low_1 : decode cL_low 1 = .ok (.ldc 8, 2) := by decide +kernel
theorem dL_low_3 : decode cL_low 3 = .ok (.iand, 1) := by decide +kernel
theorem dL_low_4 : decode cL_low 4 = .ok (.iload_n 1, 1) := by decide +kernel
theorem dL_low_5 : decode cL_low 5 = .ok (.irem, 1) := by decide +kernel
theorem dL_low_6 : decode cL_low 6 = .ok (.ireturn, 1) := by decide +kernel
theorem dL_apart_0 : decode cL_apart 0 = .ok (.iload_n 0, 1) := by decide +kernel
theorem dL_apart_1 : decode cL_apart 1 = .ok (.iload_n 1, 1) := by decide +kernel
theorem dL_apart_2 : decode cL_apart 2 = .ok (.if_icmp .ge 9, 3) := by decide +kernel
theorem dL_apart_5 : decode cL_apart 5 = .ok (.iload_n 1, 1) := by decide +kernel
theorem dL_apart_6 : decode cL_apart 6 = .ok (.iload_n 0, 1) := by decide +kernel
theorem dL_apart_7 : decode cL_apart 7 = .ok (.isub, 1) := by decide +kernel
theorem dL_apart_8 : decode cL_apart 8 = .ok (.goto 6, 3) := by decide +kernel
theorem dL_apart_11 : decode cL_apart 11 = .ok (.iload_n 0, 1) := by decide +kernel
theorem dL_apart_12 : decode cL_apart 12 = .ok (.iload_n 1, 1) := by decide +kernel
theorem dL_apart_13 : decode cL_apart 13 = .ok (.isub, 1) := by decide +kernel
theorem dL_apart_14 : decode cL_apart 14 = .ok (.ireturn, 1) := by decide +kernel
theorem dL_tens_0 : decode cL_tens 0 = .ok (.iload_n 0, 1) := by decide +kernel
theorem dL_tens_1 : decode cL_tens 1 = .ok (.bipush 10, 2) := by decide +kernel
theorem dL_tens_3 : decode cL_tens 3 = .ok (.idiv, 1) := by decide +kernel
theorem dL_tens_4 : decode cL_tens 4 = .ok (.iload_n 0, 1) := by decide +kernel
theorem dL_tens_5 : decode cL_tens 5 = .ok (.bipush 10, 2) := by decide +kernel
theorem dL_tens_7 : decode cL_tens 7 = .ok (.irem, 1) := by decide +kernel
theorem dL_tens_8 : decode cL_tens 8 = .ok (.ifCond .le 7, 3) := by decide +kernel
theorem dL_tens_11 : decode cL_tens 11 = .ok (.iconst 1, 1) := by decide +kernel
theorem dL_tens_12 : decode cL_tens 12 = .ok (.goto 4, 3) := by decide +kernel
theorem dL_tens_15 : decode cL_tens 15 = .ok (.iconst 0, 1) := by decide +kernel
theorem dL_tens_16 : decode cL_tens 16 = .ok (.iadd, 1) := by decide +kernel
theorem dL_tens_17 : decode cL_tens 17 = .ok (.ireturn, 1) := by decide +kernel
theorem dL_day_0 : decode cL_day 0 = .ok (.aload_n 1, 1) := by decide +kernel
theorem dL_day_1 : decode cL_day 1 = .ok (.iload_n 2, 1) := by decide +kernel
theorem dL_day_2 : decode cL_day 2 = .ok (.iconst 2, 1) := by decide +kernel
theorem dL_day_3 : decode cL_day 3 = .ok (.iadd, 1) := by decide +kernel
theorem dL_day_4 : decode cL_day 4 = .ok (.dup2, 1) := by decide +kernel
theorem dL_day_5 : decode cL_day 5 = .ok (.iaload, 1) := by decide +kernel
theorem dL_day_6 : decode cL_day 6 = .ok (.iconst 1, 1) := by decide +kernel
theorem dL_day_7 : decode cL_day 7 = .ok (.aload_n 1, 1) := by decide +kernel
theorem dL_day_8 : decode cL_day 8 = .ok (.iload_n 2, 1) := by decide +kernel
theorem dL_day_9 : decode cL_day 9 = .ok (.iconst 1, 1) := by decide +kernel
theorem dL_day_10 : decode cL_day 10 = .ok (.iadd, 1) := by decide +kernel
theorem dL_day_11 : decode cL_day 11 = .ok (.iaload, 1) := by decide +kernel
theorem dL_day_12 : decode cL_day 12 = .ok (.iconst 2, 1) := by decide +kernel
theorem dL_day_13 : decode cL_day 13 = .ok (.idiv, 1) := by decide +kernel
theorem dL_day_14 : decode cL_day 14 = .ok (.iadd, 1) := by decide +kernel
theorem dL_day_15 : decode cL_day 15 = .ok (.iadd, 1) := by decide +kernel
theorem dL_day_16 : decode cL_day 16 = .ok (.iastore, 1) := by decide +kernel
theorem dL_day_17 : decode cL_day 17 = .ok (.aload_n 1, 1) := by decide +kernel
theorem dL_day_18 : decode cL_day 18 = .ok (.iload_n 2, 1) := by decide +kernel
theorem dL_day_19 : decode cL_day 19 = .ok (.iconst 2, 1) := by decide +kernel
theorem dL_day_20 : decode cL_day 20 = .ok (.iadd, 1) := by decide +kernel
theorem dL_day_21 : decode cL_day 21 = .ok (.aload_n 1, 1) := by decide +kernel
theorem dL_day_22 : decode cL_day 22 = .ok (.iload_n 2, 1) := by decide +kernel
theorem dL_day_23 : decode cL_day 23 = .ok (.iconst 2, 1) := by decide +kernel
theorem dL_day_24 : decode cL_day 24 = .ok (.iadd, 1) := by decide +kernel
theorem dL_day_25 : decode cL_day 25 = .ok (.iaload, 1) := by decide +kernel
theorem dL_day_26 : decode cL_day 26 = .ok (.bipush 100, 2) := by decide +kernel
theorem dL_day_28 : decode cL_day 28 = .ok (.if_icmp .le 8, 3) := by decide +kernel
theorem dL_day_31 : decode cL_day 31 = .ok (.bipush 100, 2) := by decide +kernel
theorem dL_day_33 : decode cL_day 33 = .ok (.goto 8, 3) := by decide +kernel
theorem dL_day_36 : decode cL_day 36 = .ok (.aload_n 1, 1) := by decide +kernel
theorem dL_day_37 : decode cL_day 37 = .ok (.iload_n 2, 1) := by decide +kernel
theorem dL_day_38 : decode cL_day 38 = .ok (.iconst 2, 1) := by decide +kernel
theorem dL_day_39 : decode cL_day 39 = .ok (.iadd, 1) := by decide +kernel
theorem dL_day_40 : decode cL_day 40 = .ok (.iaload, 1) := by decide +kernel
theorem dL_day_41 : decode cL_day 41 = .ok (.iastore, 1) := by decide +kernel
theorem dL_day_42 : decode cL_day 42 = .ok (.aload_n 1, 1) := by decide +kernel
theorem dL_day_43 : decode cL_day 43 = .ok (.iload_n 2, 1) := by decide +kernel
theorem dL_day_44 : decode cL_day 44 = .ok (.iconst 2, 1) := by decide +kernel
theorem dL_day_45 : decode cL_day 45 = .ok (.iadd, 1) := by decide +kernel
theorem dL_day_46 : decode cL_day 46 = .ok (.iaload, 1) := by decide +kernel
theorem dL_day_47 : decode cL_day 47 = .ok (.bipush 10, 2) := by decide +kernel
theorem dL_day_49 : decode cL_day 49 = .ok (.idiv, 1) := by decide +kernel
theorem dL_day_50 : decode cL_day 50 = .ok (.istore_n 3, 1) := by decide +kernel
theorem dL_day_51 : decode cL_day 51 = .ok (.aload_n 1, 1) := by decide +kernel
theorem dL_day_52 : decode cL_day 52 = .ok (.iload_n 2, 1) := by decide +kernel
theorem dL_day_53 : decode cL_day 53 = .ok (.iconst 3, 1) := by decide +kernel
theorem dL_day_54 : decode cL_day 54 = .ok (.iadd, 1) := by decide +kernel
theorem dL_day_55 : decode cL_day 55 = .ok (.dup2, 1) := by decide +kernel
theorem dL_day_56 : decode cL_day 56 = .ok (.iaload, 1) := by decide +kernel
theorem dL_day_57 : decode cL_day 57 = .ok (.iload_n 3, 1) := by decide +kernel
theorem dL_day_58 : decode cL_day 58 = .ok (.ifCond .ne 8, 3) := by decide +kernel
theorem dL_day_61 : decode cL_day 61 = .ok (.bipush (-10), 2) := by decide +kernel
theorem dL_day_63 : decode cL_day 63 = .ok (.goto 6, 3) := by decide +kernel
theorem dL_day_66 : decode cL_day 66 = .ok (.iload_n 3, 1) := by decide +kernel
theorem dL_day_67 : decode cL_day 67 = .ok (.iload_n 3, 1) := by decide +kernel
theorem dL_day_68 : decode cL_day 68 = .ok (.iadd, 1) := by decide +kernel
theorem dL_day_69 : decode cL_day 69 = .ok (.isub, 1) := by decide +kernel
theorem dL_day_70 : decode cL_day 70 = .ok (.iastore, 1) := by decide +kernel
theorem dL_day_71 : decode cL_day 71 = .ok (.aload_n 1, 1) := by decide +kernel
theorem dL_day_72 : decode cL_day 72 = .ok (.iload_n 2, 1) := by decide +kernel
theorem dL_day_73 : decode cL_day 73 = .ok (.iconst 3, 1) := by decide +kernel
theorem dL_day_74 : decode cL_day 74 = .ok (.iadd, 1) := by decide +kernel
theorem dL_day_75 : decode cL_day 75 = .ok (.aload_n 1, 1) := by decide +kernel
theorem dL_day_76 : decode cL_day 76 = .ok (.iload_n 2, 1) := by decide +kernel
theorem dL_day_77 : decode cL_day 77 = .ok (.iconst 3, 1) := by decide +kernel
theorem dL_day_78 : decode cL_day 78 = .ok (.iadd, 1) := by decide +kernel
theorem dL_day_79 : decode cL_day 79 = .ok (.iaload, 1) := by decide +kernel
theorem dL_day_80 : decode cL_day 80 = .ok (.bipush 100, 2) := by decide +kernel
theorem dL_day_82 : decode cL_day 82 = .ok (.if_icmp .le 8, 3) := by decide +kernel
theorem dL_day_85 : decode cL_day 85 = .ok (.bipush 100, 2) := by decide +kernel
theorem dL_day_87 : decode cL_day 87 = .ok (.goto 20, 3) := by decide +kernel
theorem dL_day_90 : decode cL_day 90 = .ok (.aload_n 1, 1) := by decide +kernel
theorem dL_day_91 : decode cL_day 91 = .ok (.iload_n 2, 1) := by decide +kernel
theorem dL_day_92 : decode cL_day 92 = .ok (.iconst 3, 1) := by decide +kernel
theorem dL_day_93 : decode cL_day 93 = .ok (.iadd, 1) := by decide +kernel
theorem dL_day_94 : decode cL_day 94 = .ok (.iaload, 1) := by decide +kernel
theorem dL_day_95 : decode cL_day 95 = .ok (.ifCond .ge 7, 3) := by decide +kernel
theorem dL_day_98 : decode cL_day 98 = .ok (.iconst 0, 1) := by decide +kernel
theorem dL_day_99 : decode cL_day 99 = .ok (.goto 8, 3) := by decide +kernel
theorem dL_day_102 : decode cL_day 102 = .ok (.aload_n 1, 1) := by decide +kernel
theorem dL_day_103 : decode cL_day 103 = .ok (.iload_n 2, 1) := by decide +kernel
theorem dL_day_104 : decode cL_day 104 = .ok (.iconst 3, 1) := by decide +kernel
theorem dL_day_105 : decode cL_day 105 = .ok (.iadd, 1) := by decide +kernel
theorem dL_day_106 : decode cL_day 106 = .ok (.iaload, 1) := by decide +kernel
theorem dL_day_107 : decode cL_day 107 = .ok (.iastore, 1) := by decide +kernel
theorem dL_day_108 : decode cL_day 108 = .ok (.aload_n 1, 1) := by decide +kernel
theorem dL_day_109 : decode cL_day 109 = .ok (.iload_n 2, 1) := by decide +kernel
theorem dL_day_110 : decode cL_day 110 = .ok (.iconst 4, 1) := by decide +kernel
theorem dL_day_111 : decode cL_day 111 = .ok (.iadd, 1) := by decide +kernel
theorem dL_day_112 : decode cL_day 112 = .ok (.aload_n 1, 1) := by decide +kernel
theorem dL_day_113 : decode cL_day 113 = .ok (.iload_n 2, 1) := by decide +kernel
theorem dL_day_114 : decode cL_day 114 = .ok (.iconst 3, 1) := by decide +kernel
theorem dL_day_115 : decode cL_day 115 = .ok (.iadd, 1) := by decide +kernel
theorem dL_day_116 : decode cL_day 116 = .ok (.iaload, 1) := by decide +kernel
theorem dL_day_117 : decode cL_day 117 = .ok (.aload_n 0, 1) := by decide +kernel
theorem dL_day_118 : decode cL_day 118 = .ok (.bipush 10, 2) := by decide +kernel
theorem dL_day_120 : decode cL_day 120 = .ok (.iaload, 1) := by decide +kernel
theorem dL_day_121 : decode cL_day 121 = .ok (.if_icmp .ge 13, 3) := by decide +kernel
theorem dL_day_124 : decode cL_day 124 = .ok (.aload_n 1, 1) := by decide +kernel
theorem dL_day_125 : decode cL_day 125 = .ok (.iload_n 2, 1) := by decide +kernel
theorem dL_day_126 : decode cL_day 126 = .ok (.iconst 4, 1) := by decide +kernel
theorem dL_day_127 : decode cL_day 127 = .ok (.iadd, 1) := by decide +kernel
theorem dL_day_128 : decode cL_day 128 = .ok (.iaload, 1) := by decide +kernel
theorem dL_day_129 : decode cL_day 129 = .ok (.iconst 1, 1) := by decide +kernel
theorem dL_day_130 : decode cL_day 130 = .ok (.iadd, 1) := by decide +kernel
theorem dL_day_131 : decode cL_day 131 = .ok (.goto 4, 3) := by decide +kernel
theorem dL_day_134 : decode cL_day 134 = .ok (.iconst 0, 1) := by decide +kernel
theorem dL_day_135 : decode cL_day 135 = .ok (.iastore, 1) := by decide +kernel
theorem dL_day_136 : decode cL_day 136 = .ok (.aload_n 0, 1) := by decide +kernel
theorem dL_day_137 : decode cL_day 137 = .ok (.bipush 8, 2) := by decide +kernel
theorem dL_day_139 : decode cL_day 139 = .ok (.aload_n 0, 1) := by decide +kernel
theorem dL_day_140 : decode cL_day 140 = .ok (.bipush 8, 2) := by decide +kernel
theorem dL_day_142 : decode cL_day 142 = .ok (.iaload, 1) := by decide +kernel
theorem dL_day_143 : decode cL_day 143 = .ok (.aload_n 1, 1) := by decide +kernel
theorem dL_day_144 : decode cL_day 144 = .ok (.iload_n 2, 1) := by decide +kernel
theorem dL_day_145 : decode cL_day 145 = .ok (.iconst 4, 1) := by decide +kernel
theorem dL_day_146 : decode cL_day 146 = .ok (.iadd, 1) := by decide +kernel
theorem dL_day_147 : decode cL_day 147 = .ok (.iaload, 1) := by decide +kernel
theorem dL_day_148 : decode cL_day 148 = .ok (.if_icmp .ge 11, 3) := by decide +kernel
theorem dL_day_151 : decode cL_day 151 = .ok (.aload_n 1, 1) := by decide +kernel
theorem dL_day_152 : decode cL_day 152 = .ok (.iload_n 2, 1) := by decide +kernel
theorem dL_day_153 : decode cL_day 153 = .ok (.iconst 4, 1) := by decide +kernel
theorem dL_day_154 : decode cL_day 154 = .ok (.iadd, 1) := by decide +kernel
theorem dL_day_155 : decode cL_day 155 = .ok (.iaload, 1) := by decide +kernel
theorem dL_day_156 : decode cL_day 156 = .ok (.goto 7, 3) := by decide +kernel
theorem dL_day_159 : decode cL_day 159 = .ok (.aload_n 0, 1) := by decide +kernel
theorem dL_day_160 : decode cL_day 160 = .ok (.bipush 8, 2) := by decide +kernel
theorem dL_day_162 : decode cL_day 162 = .ok (.iaload, 1) := by decide +kernel
theorem dL_day_163 : decode cL_day 163 = .ok (.iastore, 1) := by decide +kernel
theorem dL_day_164 : decode cL_day 164 = .ok (.return_, 1) := by decide +kernel
theorem dL_colds_0 : decode cL_colds 0 = .ok (.iconst 0, 1) := by decide +kernel
theorem dL_colds_1 : decode cL_colds 1 = .ok (.istore_n 2, 1) := by decide +kernel
theorem dL_colds_2 : decode cL_colds 2 = .ok (.iconst 0, 1) := by decide +kernel
theorem dL_colds_3 : decode cL_colds 3 = .ok (.istore_n 3, 1) := by decide +kernel
theorem dL_colds_4 : decode cL_colds 4 = .ok (.iload_n 3, 1) := by decide +kernel
theorem dL_colds_5 : decode cL_colds 5 = .ok (.aload_n 0, 1) := by decide +kernel
theorem dL_colds_6 : decode cL_colds 6 = .ok (.iconst 0, 1) := by decide +kernel
theorem dL_colds_7 : decode cL_colds 7 = .ok (.iaload, 1) := by decide +kernel
theorem dL_colds_8 : decode cL_colds 8 = .ok (.if_icmp .ge 34, 3) := by decide +kernel
theorem dL_colds_11 : decode cL_colds 11 = .ok (.iload_n 2, 1) := by decide +kernel
theorem dL_colds_12 : decode cL_colds 12 = .ok (.aload_n 1, 1) := by decide +kernel
theorem dL_colds_13 : decode cL_colds 13 = .ok (.bipush 8, 2) := by decide +kernel
theorem dL_colds_15 : decode cL_colds 15 = .ok (.iload_n 3, 1) := by decide +kernel
theorem dL_colds_16 : decode cL_colds 16 = .ok (.imul, 1) := by decide +kernel
theorem dL_colds_17 : decode cL_colds 17 = .ok (.iconst 3, 1) := by decide +kernel
theorem dL_colds_18 : decode cL_colds 18 = .ok (.iadd, 1) := by decide +kernel
theorem dL_colds_19 : decode cL_colds 19 = .ok (.iaload, 1) := by decide +kernel
theorem dL_colds_20 : decode cL_colds 20 = .ok (.aload_n 0, 1) := by decide +kernel
theorem dL_colds_21 : decode cL_colds 21 = .ok (.bipush 10, 2) := by decide +kernel
theorem dL_colds_23 : decode cL_colds 23 = .ok (.iaload, 1) := by decide +kernel
theorem dL_colds_24 : decode cL_colds 24 = .ok (.if_icmp .ge 9, 3) := by decide +kernel
theorem dL_colds_27 : decode cL_colds 27 = .ok (.iconst 1, 1) := by decide +kernel
theorem dL_colds_28 : decode cL_colds 28 = .ok (.iload_n 3, 1) := by decide +kernel
theorem dL_colds_29 : decode cL_colds 29 = .ok (.ishl, 1) := by decide +kernel
theorem dL_colds_30 : decode cL_colds 30 = .ok (.goto 4, 3) := by decide +kernel
theorem dL_colds_33 : decode cL_colds 33 = .ok (.iconst 0, 1) := by decide +kernel
theorem dL_colds_34 : decode cL_colds 34 = .ok (.ior, 1) := by decide +kernel
theorem dL_colds_35 : decode cL_colds 35 = .ok (.istore_n 2, 1) := by decide +kernel
theorem dL_colds_36 : decode cL_colds 36 = .ok (.iinc 3 1, 3) := by decide +kernel
theorem dL_colds_39 : decode cL_colds 39 = .ok (.goto (-35), 3) := by decide +kernel
theorem dL_colds_42 : decode cL_colds 42 = .ok (.iload_n 2, 1) := by decide +kernel
theorem dL_colds_43 : decode cL_colds 43 = .ok (.ireturn, 1) := by decide +kernel
set_option maxRecDepth 20000 in
theorem ggL_takes_L_tens : GoodIn wsL_takes wsL_tens := goodIn_r _ [4] (by decide +kernel) (by decide +kernel)
set_option maxRecDepth 20000 in
theorem gL_takes_L_tens : GoodIn wsL_takes (va_wsS RL 9 yL_tens wsL_tens) := goodIn_app (goodIn_of _ (by decide +kernel)) ggL_takes_L_tens
theorem dL_takes_0 : decode cL_takes 0 = .ok (.iload_n 2, 1) := by decide +kernel
theorem dL_takes_1 : decode cL_takes 1 = .ok (.ifCond .eq 13, 3) := by decide +kernel
theorem dL_takes_4 : decode cL_takes 4 = .ok (.iconst 4, 1) := by decide +kernel
theorem dL_takes_5 : decode cL_takes 5 = .ok (.aload_n 0, 1) := by decide +kernel
theorem dL_takes_6 : decode cL_takes 6 = .ok (.iload_n 1, 1) := by decide +kernel
theorem dL_takes_7 : decode cL_takes 7 = .ok (.iconst 1, 1) := by decide +kernel
theorem dL_takes_8 : decode cL_takes 8 = .ok (.iadd, 1) := by decide +kernel
theorem dL_takes_9 : decode cL_takes 9 = .ok (.iaload, 1) := by decide +kernel
theorem dL_takes_10 : decode cL_takes 10 = .ok (.imul, 1) := by decide +kernel
theorem dL_takes_11 : decode cL_takes 11 = .ok (.goto 11, 3) := by decide +kernel
theorem dL_takes_14 : decode cL_takes 14 = .ok (.aload_n 0, 1) := by decide +kernel
theorem dL_takes_15 : decode cL_takes 15 = .ok (.iload_n 1, 1) := by decide +kernel
theorem dL_takes_16 : decode cL_takes 16 = .ok (.iconst 2, 1) := by decide +kernel
theorem dL_takes_17 : decode cL_takes 17 = .ok (.iadd, 1) := by decide +kernel
theorem dL_takes_18 : decode cL_takes 18 = .ok (.iaload, 1) := by decide +kernel
theorem dL_takes_19 : decode cL_takes 19 = .ok (.invokestatic 9, 3) := by decide +kernel
theorem dL_takes_22 : decode cL_takes 22 = .ok (.ireturn, 1) := by decide +kernel
set_option maxRecDepth 20000 in
theorem ggL_owes_L_takes : GoodIn wsL_owes wsL_takes := goodIn_r _ [4, 5, 6, 3, 7] (by decide +kernel) (by decide +kernel)
set_option maxRecDepth 20000 in
theorem gL_owes_L_takes : GoodIn wsL_owes (va_wsS RL 15 yL_takes wsL_takes) := goodIn_app (goodIn_of _ (by decide +kernel)) ggL_owes_L_takes
theorem dL_owes_0 : decode cL_owes 0 = .ok (.iload_n 3, 1) := by decide +kernel
theorem dL_owes_1 : decode cL_owes 1 = .ok (.ifCond .eq 7, 3) := by decide +kernel
theorem dL_owes_4 : decode cL_owes 4 = .ok (.iconst 3, 1) := by decide +kernel
theorem dL_owes_5 : decode cL_owes 5 = .ok (.goto 4, 3) := by decide +kernel
theorem dL_owes_8 : decode cL_owes 8 = .ok (.iconst 1, 1) := by decide +kernel
theorem dL_owes_9 : decode cL_owes 9 = .ok (.aload_n 0, 1) := by decide +kernel
theorem dL_owes_10 : decode cL_owes 10 = .ok (.bipush 12, 2) := by decide +kernel
theorem dL_owes_12 : decode cL_owes 12 = .ok (.iaload, 1) := by decide +kernel
theorem dL_owes_13 : decode cL_owes 13 = .ok (.imul, 1) := by decide +kernel
theorem dL_owes_14 : decode cL_owes 14 = .ok (.iconst 3, 1) := by decide +kernel
theorem dL_owes_15 : decode cL_owes 15 = .ok (.aload_n 1, 1) := by decide +kernel
theorem dL_owes_16 : decode cL_owes 16 = .ok (.iload_n 2, 1) := by decide +kernel
theorem dL_owes_17 : decode cL_owes 17 = .ok (.iload_n 3, 1) := by decide +kernel
theorem dL_owes_18 : decode cL_owes 18 = .ok (.invokestatic 15, 3) := by decide +kernel
theorem dL_owes_21 : decode cL_owes 21 = .ok (.imul, 1) := by decide +kernel
theorem dL_owes_22 : decode cL_owes 22 = .ok (.iadd, 1) := by decide +kernel
theorem dL_owes_23 : decode cL_owes 23 = .ok (.ireturn, 1) := by decide +kernel
set_option maxRecDepth 20000 in
theorem ggL_why_L_takes : GoodIn wsL_why wsL_takes := goodIn_r _ [4, 5, 6, 3, 7] (by decide +kernel) (by decide +kernel)
set_option maxRecDepth 20000 in
theorem gL_why_L_takes : GoodIn wsL_why (va_wsS RL 15 yL_takes wsL_takes) := goodIn_app (goodIn_of _ (by decide +kernel)) ggL_why_L_takes
theorem dL_why_0 : decode cL_why 0 = .ok (.iload_n 3, 1) := by decide +kernel
theorem dL_why_1 : decode cL_why 1 = .ok (.ifCond .eq 7, 3) := by decide +kernel
theorem dL_why_4 : decode cL_why 4 = .ok (.iconst 3, 1) := by decide +kernel
theorem dL_why_5 : decode cL_why 5 = .ok (.goto 4, 3) := by decide +kernel
theorem dL_why_8 : decode cL_why 8 = .ok (.iconst 1, 1) := by decide +kernel
theorem dL_why_9 : decode cL_why 9 = .ok (.istore 4, 2) := by decide +kernel
theorem dL_why_11 : decode cL_why 11 = .ok (.aload_n 0, 1) := by decide +kernel
theorem dL_why_12 : decode cL_why 12 = .ok (.iconst 2, 1) := by decide +kernel
theorem dL_why_13 : decode cL_why 13 = .ok (.iaload, 1) := by decide +kernel
theorem dL_why_14 : decode cL_why 14 = .ok (.aload_n 1, 1) := by decide +kernel
theorem dL_why_15 : decode cL_why 15 = .ok (.iload_n 2, 1) := by decide +kernel
theorem dL_why_16 : decode cL_why 16 = .ok (.iaload, 1) := by decide +kernel
theorem dL_why_17 : decode cL_why 17 = .ok (.if_icmp .eq 7, 3) := by decide +kernel
theorem dL_why_20 : decode cL_why 20 = .ok (.iconst 1, 1) := by decide +kernel
theorem dL_why_21 : decode cL_why 21 = .ok (.goto 60, 3) := by decide +kernel
theorem dL_why_24 : decode cL_why 24 = .ok (.aload_n 0, 1) := by decide +kernel
theorem dL_why_25 : decode cL_why 25 = .ok (.iconst 3, 1) := by decide +kernel
theorem dL_why_26 : decode cL_why 26 = .ok (.iaload, 1) := by decide +kernel
theorem dL_why_27 : decode cL_why 27 = .ok (.iload 4, 2) := by decide +kernel
theorem dL_why_29 : decode cL_why 29 = .ok (.if_icmp .ge 7, 3) := by decide +kernel
theorem dL_why_32 : decode cL_why 32 = .ok (.iconst 2, 1) := by decide +kernel
theorem dL_why_33 : decode cL_why 33 = .ok (.goto 48, 3) := by decide +kernel
theorem dL_why_36 : decode cL_why 36 = .ok (.aload_n 0, 1) := by decide +kernel
theorem dL_why_37 : decode cL_why 37 = .ok (.iconst 4, 1) := by decide +kernel
theorem dL_why_38 : decode cL_why 38 = .ok (.iaload, 1) := by decide +kernel
theorem dL_why_39 : decode cL_why 39 = .ok (.aload_n 1, 1) := by decide +kernel
theorem dL_why_40 : decode cL_why 40 = .ok (.iload_n 2, 1) := by decide +kernel
theorem dL_why_41 : decode cL_why 41 = .ok (.iload_n 3, 1) := by decide +kernel
theorem dL_why_42 : decode cL_why 42 = .ok (.invokestatic 15, 3) := by decide +kernel
theorem dL_why_45 : decode cL_why 45 = .ok (.if_icmp .ge 7, 3) := by decide +kernel
theorem dL_why_48 : decode cL_why 48 = .ok (.iconst 3, 1) := by decide +kernel
theorem dL_why_49 : decode cL_why 49 = .ok (.goto 32, 3) := by decide +kernel
theorem dL_why_52 : decode cL_why 52 = .ok (.aload_n 1, 1) := by decide +kernel
theorem dL_why_53 : decode cL_why 53 = .ok (.iload_n 2, 1) := by decide +kernel
theorem dL_why_54 : decode cL_why 54 = .ok (.iconst 5, 1) := by decide +kernel
theorem dL_why_55 : decode cL_why 55 = .ok (.iadd, 1) := by decide +kernel
theorem dL_why_56 : decode cL_why 56 = .ok (.iaload, 1) := by decide +kernel
theorem dL_why_57 : decode cL_why 57 = .ok (.aload_n 0, 1) := by decide +kernel
theorem dL_why_58 : decode cL_why 58 = .ok (.bipush 13, 2) := by decide +kernel
theorem dL_why_60 : decode cL_why 60 = .ok (.iaload, 1) := by decide +kernel
end
section
theorem dL_why_61 : decode cL_why 61 = .ok (.if_icmp .le 7, 3) := by decide +kernel
theorem dL_why_64 : decode cL_why 64 = .ok (.iconst 4, 1) := by decide +kernel
theorem dL_why_65 : decode cL_why 65 = .ok (.goto 16, 3) := by decide +kernel
theorem dL_why_68 : decode cL_why 68 = .ok (.aload_n 1, 1) := by decide +kernel
theorem dL_why_69 : decode cL_why 69 = .ok (.iload_n 2, 1) := by decide +kernel
theorem dL_why_70 : decode cL_why 70 = .ok (.iconst 2, 1) := by decide +kernel
theorem dL_why_71 : decode cL_why 71 = .ok (.iadd, 1) := by decide +kernel
theorem dL_why_72 : decode cL_why 72 = .ok (.iaload, 1) := by decide +kernel
theorem dL_why_73 : decode cL_why 73 = .ok (.ifCond .ne 7, 3) := by decide +kernel
theorem dL_why_76 : decode cL_why 76 = .ok (.iconst 5, 1) := by decide +kernel
theorem dL_why_77 : decode cL_why 77 = .ok (.goto 4, 3) := by decide +kernel
theorem dL_why_80 : decode cL_why 80 = .ok (.iconst 0, 1) := by decide +kernel
theorem dL_why_81 : decode cL_why 81 = .ok (.ireturn, 1) := by decide +kernel
set_option maxRecDepth 20000 in
theorem ggL_walks_L_apart : GoodIn wsL_walks wsL_apart := goodIn_r _ [5] (by decide +kernel) (by decide +kernel)
set_option maxRecDepth 20000 in
theorem gL_walks_L_apart : GoodIn wsL_walks (va_wsS RL 19 yL_apart wsL_apart) := goodIn_app (goodIn_of _ (by decide +kernel)) ggL_walks_L_apart
set_option maxRecDepth 20000 in
theorem ggL_walks_L_tens : GoodIn wsL_walks wsL_tens := goodIn_r _ [8] (by decide +kernel) (by decide +kernel)
set_option maxRecDepth 20000 in
theorem gL_walks_L_tens : GoodIn wsL_walks (va_wsS RL 9 yL_tens wsL_tens) := goodIn_app (goodIn_of _ (by decide +kernel)) ggL_walks_L_tens
theorem dL_walks_0 : decode cL_walks 0 = .ok (.aload_n 0, 1) := by decide +kernel
theorem dL_walks_1 : decode cL_walks 1 = .ok (.iconst 2, 1) := by decide +kernel
theorem dL_walks_2 : decode cL_walks 2 = .ok (.iaload, 1) := by decide +kernel
theorem dL_walks_3 : decode cL_walks 3 = .ok (.iload_n 1, 1) := by decide +kernel
theorem dL_walks_4 : decode cL_walks 4 = .ok (.invokestatic 19, 3) := by decide +kernel
theorem dL_walks_7 : decode cL_walks 7 = .ok (.invokestatic 9, 3) := by decide +kernel
theorem dL_walks_10 : decode cL_walks 10 = .ok (.istore_n 2, 1) := by decide +kernel
theorem dL_walks_11 : decode cL_walks 11 = .ok (.iload_n 2, 1) := by decide +kernel
theorem dL_walks_12 : decode cL_walks 12 = .ok (.aload_n 0, 1) := by decide +kernel
theorem dL_walks_13 : decode cL_walks 13 = .ok (.iconst 3, 1) := by decide +kernel
theorem dL_walks_14 : decode cL_walks 14 = .ok (.iaload, 1) := by decide +kernel
theorem dL_walks_15 : decode cL_walks 15 = .ok (.if_icmp .le 6, 3) := by decide +kernel
theorem dL_walks_18 : decode cL_walks 18 = .ok (.ldc 23, 2) := by decide +kernel
theorem dL_walks_20 : decode cL_walks 20 = .ok (.ireturn, 1) := by decide +kernel
theorem dL_walks_21 : decode cL_walks 21 = .ok (.aload_n 0, 1) := by decide +kernel
theorem dL_walks_22 : decode cL_walks 22 = .ok (.iconst 3, 1) := by decide +kernel
theorem dL_walks_23 : decode cL_walks 23 = .ok (.dup2, 1) := by decide +kernel
theorem dL_walks_24 : decode cL_walks 24 = .ok (.iaload, 1) := by decide +kernel
theorem dL_walks_25 : decode cL_walks 25 = .ok (.iload_n 2, 1) := by decide +kernel
theorem dL_walks_26 : decode cL_walks 26 = .ok (.isub, 1) := by decide +kernel
theorem dL_walks_27 : decode cL_walks 27 = .ok (.iastore, 1) := by decide +kernel
theorem dL_walks_28 : decode cL_walks 28 = .ok (.aload_n 0, 1) := by decide +kernel
theorem dL_walks_29 : decode cL_walks 29 = .ok (.bipush 9, 2) := by decide +kernel
theorem dL_walks_31 : decode cL_walks 31 = .ok (.dup2, 1) := by decide +kernel
theorem dL_walks_32 : decode cL_walks 32 = .ok (.iaload, 1) := by decide +kernel
theorem dL_walks_33 : decode cL_walks 33 = .ok (.aload_n 0, 1) := by decide +kernel
theorem dL_walks_34 : decode cL_walks 34 = .ok (.iconst 2, 1) := by decide +kernel
theorem dL_walks_35 : decode cL_walks 35 = .ok (.iaload, 1) := by decide +kernel
theorem dL_walks_36 : decode cL_walks 36 = .ok (.iload_n 1, 1) := by decide +kernel
theorem dL_walks_37 : decode cL_walks 37 = .ok (.invokestatic 19, 3) := by decide +kernel
theorem dL_walks_40 : decode cL_walks 40 = .ok (.iadd, 1) := by decide +kernel
theorem dL_walks_41 : decode cL_walks 41 = .ok (.iastore, 1) := by decide +kernel
theorem dL_walks_42 : decode cL_walks 42 = .ok (.aload_n 0, 1) := by decide +kernel
theorem dL_walks_43 : decode cL_walks 43 = .ok (.iconst 2, 1) := by decide +kernel
theorem dL_walks_44 : decode cL_walks 44 = .ok (.iload_n 1, 1) := by decide +kernel
theorem dL_walks_45 : decode cL_walks 45 = .ok (.iastore, 1) := by decide +kernel
theorem dL_walks_46 : decode cL_walks 46 = .ok (.aload_n 0, 1) := by decide +kernel
theorem dL_walks_47 : decode cL_walks 47 = .ok (.iconst 3, 1) := by decide +kernel
theorem dL_walks_48 : decode cL_walks 48 = .ok (.iaload, 1) := by decide +kernel
theorem dL_walks_49 : decode cL_walks 49 = .ok (.ireturn, 1) := by decide +kernel
theorem dL_buys_0 : decode cL_buys 0 = .ok (.aload_n 0, 1) := by decide +kernel
theorem dL_buys_1 : decode cL_buys 1 = .ok (.iconst 2, 1) := by decide +kernel
theorem dL_buys_2 : decode cL_buys 2 = .ok (.iaload, 1) := by decide +kernel
theorem dL_buys_3 : decode cL_buys 3 = .ok (.ifCond .gt 14, 3) := by decide +kernel
theorem dL_buys_6 : decode cL_buys 6 = .ok (.aload_n 0, 1) := by decide +kernel
theorem dL_buys_7 : decode cL_buys 7 = .ok (.iconst 4, 1) := by decide +kernel
theorem dL_buys_8 : decode cL_buys 8 = .ok (.iaload, 1) := by decide +kernel
theorem dL_buys_9 : decode cL_buys 9 = .ok (.iload_n 1, 1) := by decide +kernel
theorem dL_buys_10 : decode cL_buys 10 = .ok (.iadd, 1) := by decide +kernel
theorem dL_buys_11 : decode cL_buys 11 = .ok (.sipush 999, 3) := by decide +kernel
theorem dL_buys_14 : decode cL_buys 14 = .ok (.if_icmp .le 17, 3) := by decide +kernel
theorem dL_buys_17 : decode cL_buys 17 = .ok (.aload_n 0, 1) := by decide +kernel
theorem dL_buys_18 : decode cL_buys 18 = .ok (.iconst 2, 1) := by decide +kernel
theorem dL_buys_19 : decode cL_buys 19 = .ok (.iaload, 1) := by decide +kernel
theorem dL_buys_20 : decode cL_buys 20 = .ok (.ifCond .le 8, 3) := by decide +kernel
theorem dL_buys_23 : decode cL_buys 23 = .ok (.ldc 23, 2) := by decide +kernel
theorem dL_buys_25 : decode cL_buys 25 = .ok (.goto 5, 3) := by decide +kernel
theorem dL_buys_28 : decode cL_buys 28 = .ok (.ldc 24, 2) := by decide +kernel
theorem dL_buys_30 : decode cL_buys 30 = .ok (.ireturn, 1) := by decide +kernel
theorem dL_buys_31 : decode cL_buys 31 = .ok (.aload_n 0, 1) := by decide +kernel
theorem dL_buys_32 : decode cL_buys 32 = .ok (.iconst 4, 1) := by decide +kernel
theorem dL_buys_33 : decode cL_buys 33 = .ok (.dup2, 1) := by decide +kernel
theorem dL_buys_34 : decode cL_buys 34 = .ok (.iaload, 1) := by decide +kernel
theorem dL_buys_35 : decode cL_buys 35 = .ok (.iload_n 1, 1) := by decide +kernel
theorem dL_buys_36 : decode cL_buys 36 = .ok (.iadd, 1) := by decide +kernel
theorem dL_buys_37 : decode cL_buys 37 = .ok (.iastore, 1) := by decide +kernel
theorem dL_buys_38 : decode cL_buys 38 = .ok (.aload_n 0, 1) := by decide +kernel
theorem dL_buys_39 : decode cL_buys 39 = .ok (.iconst 5, 1) := by decide +kernel
theorem dL_buys_40 : decode cL_buys 40 = .ok (.dup2, 1) := by decide +kernel
theorem dL_buys_41 : decode cL_buys 41 = .ok (.iaload, 1) := by decide +kernel
theorem dL_buys_42 : decode cL_buys 42 = .ok (.iconst 2, 1) := by decide +kernel
theorem dL_buys_43 : decode cL_buys 43 = .ok (.iload_n 1, 1) := by decide +kernel
theorem dL_buys_44 : decode cL_buys 44 = .ok (.imul, 1) := by decide +kernel
theorem dL_buys_45 : decode cL_buys 45 = .ok (.isub, 1) := by decide +kernel
theorem dL_buys_46 : decode cL_buys 46 = .ok (.iastore, 1) := by decide +kernel
theorem dL_buys_47 : decode cL_buys 47 = .ok (.aload_n 0, 1) := by decide +kernel
theorem dL_buys_48 : decode cL_buys 48 = .ok (.bipush 6, 2) := by decide +kernel
theorem dL_buys_50 : decode cL_buys 50 = .ok (.dup2, 1) := by decide +kernel
theorem dL_buys_51 : decode cL_buys 51 = .ok (.iaload, 1) := by decide +kernel
theorem dL_buys_52 : decode cL_buys 52 = .ok (.iconst 2, 1) := by decide +kernel
theorem dL_buys_53 : decode cL_buys 53 = .ok (.iload_n 1, 1) := by decide +kernel
theorem dL_buys_54 : decode cL_buys 54 = .ok (.imul, 1) := by decide +kernel
theorem dL_buys_55 : decode cL_buys 55 = .ok (.iadd, 1) := by decide +kernel
theorem dL_buys_56 : decode cL_buys 56 = .ok (.iastore, 1) := by decide +kernel
theorem dL_buys_57 : decode cL_buys 57 = .ok (.aload_n 0, 1) := by decide +kernel
theorem dL_buys_58 : decode cL_buys 58 = .ok (.iconst 4, 1) := by decide +kernel
theorem dL_buys_59 : decode cL_buys 59 = .ok (.iaload, 1) := by decide +kernel
theorem dL_buys_60 : decode cL_buys 60 = .ok (.ireturn, 1) := by decide +kernel
set_option maxRecDepth 20000 in
theorem ggL_mends_L_why : GoodIn wsL_mends wsL_why := goodIn_r _ [5, 6, 7, 4, 8, 9, 10, 11] (by decide +kernel) (by decide +kernel)
set_option maxRecDepth 20000 in
theorem gL_mends_L_why : GoodIn wsL_mends (va_wsS RL 25 yL_why wsL_why) := goodIn_app (goodIn_of _ (by decide +kernel)) ggL_mends_L_why
set_option maxRecDepth 20000 in
theorem ggL_mends_L_owes : GoodIn wsL_mends wsL_owes := goodIn_r _ [14, 6, 7, 4, 8, 9, 10, 11] (by decide +kernel) (by decide +kernel)
set_option maxRecDepth 20000 in
theorem gL_mends_L_owes : GoodIn wsL_mends (va_wsS RL 29 yL_owes wsL_owes) := goodIn_app (goodIn_of _ (by decide +kernel)) ggL_mends_L_owes
set_option maxRecDepth 20000 in
theorem ggL_mends_L_takes : GoodIn wsL_mends wsL_takes := goodIn_r _ [8, 9, 10, 4, 11] (by decide +kernel) (by decide +kernel)
set_option maxRecDepth 20000 in
theorem gL_mends_L_takes : GoodIn wsL_mends (va_wsS RL 15 yL_takes wsL_takes) := goodIn_app (goodIn_of _ (by decide +kernel)) ggL_mends_L_takes
theorem dL_mends_0 : decode cL_mends 0 = .ok (.aload_n 0, 1) := by decide +kernel
theorem dL_mends_1 : decode cL_mends 1 = .ok (.aload_n 1, 1) := by decide +kernel
theorem dL_mends_2 : decode cL_mends 2 = .ok (.iload_n 2, 1) := by decide +kernel
theorem dL_mends_3 : decode cL_mends 3 = .ok (.iload_n 3, 1) := by decide +kernel
theorem dL_mends_4 : decode cL_mends 4 = .ok (.invokestatic 25, 3) := by decide +kernel
theorem dL_mends_7 : decode cL_mends 7 = .ok (.ifCond .le 6, 3) := by decide +kernel
theorem dL_mends_10 : decode cL_mends 10 = .ok (.ldc 23, 2) := by decide +kernel
theorem dL_mends_12 : decode cL_mends 12 = .ok (.ireturn, 1) := by decide +kernel
theorem dL_mends_13 : decode cL_mends 13 = .ok (.aload_n 0, 1) := by decide +kernel
theorem dL_mends_14 : decode cL_mends 14 = .ok (.aload_n 1, 1) := by decide +kernel
theorem dL_mends_15 : decode cL_mends 15 = .ok (.iload_n 2, 1) := by decide +kernel
theorem dL_mends_16 : decode cL_mends 16 = .ok (.iload_n 3, 1) := by decide +kernel
theorem dL_mends_17 : decode cL_mends 17 = .ok (.invokestatic 29, 3) := by decide +kernel
theorem dL_mends_20 : decode cL_mends 20 = .ok (.istore 4, 2) := by decide +kernel
theorem dL_mends_22 : decode cL_mends 22 = .ok (.aload_n 0, 1) := by decide +kernel
theorem dL_mends_23 : decode cL_mends 23 = .ok (.iconst 3, 1) := by decide +kernel
theorem dL_mends_24 : decode cL_mends 24 = .ok (.dup2, 1) := by decide +kernel
theorem dL_mends_25 : decode cL_mends 25 = .ok (.iaload, 1) := by decide +kernel
theorem dL_mends_26 : decode cL_mends 26 = .ok (.iload_n 3, 1) := by decide +kernel
theorem dL_mends_27 : decode cL_mends 27 = .ok (.ifCond .eq 7, 3) := by decide +kernel
theorem dL_mends_30 : decode cL_mends 30 = .ok (.iconst 3, 1) := by decide +kernel
theorem dL_mends_31 : decode cL_mends 31 = .ok (.goto 4, 3) := by decide +kernel
theorem dL_mends_34 : decode cL_mends 34 = .ok (.iconst 1, 1) := by decide +kernel
theorem dL_mends_35 : decode cL_mends 35 = .ok (.isub, 1) := by decide +kernel
theorem dL_mends_36 : decode cL_mends 36 = .ok (.iastore, 1) := by decide +kernel
theorem dL_mends_37 : decode cL_mends 37 = .ok (.aload_n 0, 1) := by decide +kernel
theorem dL_mends_38 : decode cL_mends 38 = .ok (.iconst 4, 1) := by decide +kernel
theorem dL_mends_39 : decode cL_mends 39 = .ok (.dup2, 1) := by decide +kernel
theorem dL_mends_40 : decode cL_mends 40 = .ok (.iaload, 1) := by decide +kernel
theorem dL_mends_41 : decode cL_mends 41 = .ok (.aload_n 1, 1) := by decide +kernel
theorem dL_mends_42 : decode cL_mends 42 = .ok (.iload_n 2, 1) := by decide +kernel
theorem dL_mends_43 : decode cL_mends 43 = .ok (.iload_n 3, 1) := by decide +kernel
theorem dL_mends_44 : decode cL_mends 44 = .ok (.invokestatic 15, 3) := by decide +kernel
theorem dL_mends_47 : decode cL_mends 47 = .ok (.isub, 1) := by decide +kernel
theorem dL_mends_48 : decode cL_mends 48 = .ok (.iastore, 1) := by decide +kernel
theorem dL_mends_49 : decode cL_mends 49 = .ok (.aload_n 0, 1) := by decide +kernel
theorem dL_mends_50 : decode cL_mends 50 = .ok (.bipush 7, 2) := by decide +kernel
theorem dL_mends_52 : decode cL_mends 52 = .ok (.dup2, 1) := by decide +kernel
theorem dL_mends_53 : decode cL_mends 53 = .ok (.iaload, 1) := by decide +kernel
theorem dL_mends_54 : decode cL_mends 54 = .ok (.iload 4, 2) := by decide +kernel
theorem dL_mends_56 : decode cL_mends 56 = .ok (.iadd, 1) := by decide +kernel
theorem dL_mends_57 : decode cL_mends 57 = .ok (.iastore, 1) := by decide +kernel
theorem dL_mends_58 : decode cL_mends 58 = .ok (.aload_n 1, 1) := by decide +kernel
theorem dL_mends_59 : decode cL_mends 59 = .ok (.iload_n 2, 1) := by decide +kernel
theorem dL_mends_60 : decode cL_mends 60 = .ok (.iconst 5, 1) := by decide +kernel
theorem dL_mends_61 : decode cL_mends 61 = .ok (.iadd, 1) := by decide +kernel
theorem dL_mends_62 : decode cL_mends 62 = .ok (.dup2, 1) := by decide +kernel
theorem dL_mends_63 : decode cL_mends 63 = .ok (.iaload, 1) := by decide +kernel
theorem dL_mends_64 : decode cL_mends 64 = .ok (.iload 4, 2) := by decide +kernel
theorem dL_mends_66 : decode cL_mends 66 = .ok (.iadd, 1) := by decide +kernel
theorem dL_mends_67 : decode cL_mends 67 = .ok (.iastore, 1) := by decide +kernel
theorem dL_mends_68 : decode cL_mends 68 = .ok (.aload_n 1, 1) := by decide +kernel
theorem dL_mends_69 : decode cL_mends 69 = .ok (.iload_n 2, 1) := by decide +kernel
theorem dL_mends_70 : decode cL_mends 70 = .ok (.bipush 7, 2) := by decide +kernel
theorem dL_mends_72 : decode cL_mends 72 = .ok (.iadd, 1) := by decide +kernel
theorem dL_mends_73 : decode cL_mends 73 = .ok (.dup2, 1) := by decide +kernel
theorem dL_mends_74 : decode cL_mends 74 = .ok (.iaload, 1) := by decide +kernel
theorem dL_mends_75 : decode cL_mends 75 = .ok (.iconst 1, 1) := by decide +kernel
theorem dL_mends_76 : decode cL_mends 76 = .ok (.iadd, 1) := by decide +kernel
theorem dL_mends_77 : decode cL_mends 77 = .ok (.iastore, 1) := by decide +kernel
theorem dL_mends_78 : decode cL_mends 78 = .ok (.aload_n 1, 1) := by decide +kernel
theorem dL_mends_79 : decode cL_mends 79 = .ok (.iload_n 2, 1) := by decide +kernel
theorem dL_mends_80 : decode cL_mends 80 = .ok (.iconst 2, 1) := by decide +kernel
theorem dL_mends_81 : decode cL_mends 81 = .ok (.iadd, 1) := by decide +kernel
theorem dL_mends_82 : decode cL_mends 82 = .ok (.iload_n 3, 1) := by decide +kernel
theorem dL_mends_83 : decode cL_mends 83 = .ok (.ifCond .eq 7, 3) := by decide +kernel
theorem dL_mends_86 : decode cL_mends 86 = .ok (.iconst 0, 1) := by decide +kernel
theorem dL_mends_87 : decode cL_mends 87 = .ok (.goto 10, 3) := by decide +kernel
theorem dL_mends_90 : decode cL_mends 90 = .ok (.aload_n 1, 1) := by decide +kernel
theorem dL_mends_91 : decode cL_mends 91 = .ok (.iload_n 2, 1) := by decide +kernel
theorem dL_mends_92 : decode cL_mends 92 = .ok (.iconst 2, 1) := by decide +kernel
theorem dL_mends_93 : decode cL_mends 93 = .ok (.iadd, 1) := by decide +kernel
theorem dL_mends_94 : decode cL_mends 94 = .ok (.iaload, 1) := by decide +kernel
theorem dL_mends_95 : decode cL_mends 95 = .ok (.iconst 3, 1) := by decide +kernel
theorem dL_mends_96 : decode cL_mends 96 = .ok (.idiv, 1) := by decide +kernel
theorem dL_mends_97 : decode cL_mends 97 = .ok (.iastore, 1) := by decide +kernel
theorem dL_mends_98 : decode cL_mends 98 = .ok (.iload_n 3, 1) := by decide +kernel
theorem dL_mends_99 : decode cL_mends 99 = .ok (.ifCond .eq 11, 3) := by decide +kernel
theorem dL_mends_102 : decode cL_mends 102 = .ok (.aload_n 1, 1) := by decide +kernel
theorem dL_mends_103 : decode cL_mends 103 = .ok (.iload_n 2, 1) := by decide +kernel
theorem dL_mends_104 : decode cL_mends 104 = .ok (.iconst 5, 1) := by decide +kernel
theorem dL_mends_105 : decode cL_mends 105 = .ok (.iadd, 1) := by decide +kernel
theorem dL_mends_106 : decode cL_mends 106 = .ok (.iaload, 1) := by decide +kernel
theorem dL_mends_107 : decode cL_mends 107 = .ok (.goto 8, 3) := by decide +kernel
theorem dL_mends_110 : decode cL_mends 110 = .ok (.aload_n 1, 1) := by decide +kernel
theorem dL_mends_111 : decode cL_mends 111 = .ok (.iload_n 2, 1) := by decide +kernel
theorem dL_mends_112 : decode cL_mends 112 = .ok (.iconst 2, 1) := by decide +kernel
theorem dL_mends_113 : decode cL_mends 113 = .ok (.iadd, 1) := by decide +kernel
theorem dL_mends_114 : decode cL_mends 114 = .ok (.iaload, 1) := by decide +kernel
theorem dL_mends_115 : decode cL_mends 115 = .ok (.ireturn, 1) := by decide +kernel
theorem dL_collects_0 : decode cL_collects 0 = .ok (.aload_n 0, 1) := by decide +kernel
theorem dL_collects_1 : decode cL_collects 1 = .ok (.iconst 2, 1) := by decide +kernel
theorem dL_collects_2 : decode cL_collects 2 = .ok (.iaload, 1) := by decide +kernel
theorem dL_collects_3 : decode cL_collects 3 = .ok (.aload_n 1, 1) := by decide +kernel
theorem dL_collects_4 : decode cL_collects 4 = .ok (.iload_n 2, 1) := by decide +kernel
theorem dL_collects_5 : decode cL_collects 5 = .ok (.iaload, 1) := by decide +kernel
theorem dL_collects_6 : decode cL_collects 6 = .ok (.if_icmp .ne 11, 3) := by decide +kernel
theorem dL_collects_9 : decode cL_collects 9 = .ok (.aload_n 1, 1) := by decide +kernel
theorem dL_collects_10 : decode cL_collects 10 = .ok (.iload_n 2, 1) := by decide +kernel
theorem dL_collects_11 : decode cL_collects 11 = .ok (.iconst 5, 1) := by decide +kernel
theorem dL_collects_12 : decode cL_collects 12 = .ok (.iadd, 1) := by decide +kernel
theorem dL_collects_13 : decode cL_collects 13 = .ok (.iaload, 1) := by decide +kernel
theorem dL_collects_14 : decode cL_collects 14 = .ok (.ifCond .ne 6, 3) := by decide +kernel
theorem dL_collects_17 : decode cL_collects 17 = .ok (.ldc 23, 2) := by decide +kernel
theorem dL_collects_19 : decode cL_collects 19 = .ok (.ireturn, 1) := by decide +kernel
theorem dL_collects_20 : decode cL_collects 20 = .ok (.aload_n 1, 1) := by decide +kernel
theorem dL_collects_21 : decode cL_collects 21 = .ok (.iload_n 2, 1) := by decide +kernel
theorem dL_collects_22 : decode cL_collects 22 = .ok (.iconst 3, 1) := by decide +kernel
theorem dL_collects_23 : decode cL_collects 23 = .ok (.iadd, 1) := by decide +kernel
theorem dL_collects_24 : decode cL_collects 24 = .ok (.iaload, 1) := by decide +kernel
theorem dL_collects_25 : decode cL_collects 25 = .ok (.aload_n 0, 1) := by decide +kernel
theorem dL_collects_26 : decode cL_collects 26 = .ok (.bipush 10, 2) := by decide +kernel
theorem dL_collects_28 : decode cL_collects 28 = .ok (.iaload, 1) := by decide +kernel
theorem dL_collects_29 : decode cL_collects 29 = .ok (.if_icmp .ge 13, 3) := by decide +kernel
theorem dL_collects_32 : decode cL_collects 32 = .ok (.aload_n 1, 1) := by decide +kernel
theorem dL_collects_33 : decode cL_collects 33 = .ok (.iload_n 2, 1) := by decide +kernel
theorem dL_collects_34 : decode cL_collects 34 = .ok (.iconst 5, 1) := by decide +kernel
theorem dL_collects_35 : decode cL_collects 35 = .ok (.iadd, 1) := by decide +kernel
theorem dL_collects_36 : decode cL_collects 36 = .ok (.iaload, 1) := by decide +kernel
theorem dL_collects_37 : decode cL_collects 37 = .ok (.iconst 2, 1) := by decide +kernel
theorem dL_collects_38 : decode cL_collects 38 = .ok (.idiv, 1) := by decide +kernel
theorem dL_collects_39 : decode cL_collects 39 = .ok (.goto 8, 3) := by decide +kernel
theorem dL_collects_42 : decode cL_collects 42 = .ok (.aload_n 1, 1) := by decide +kernel
theorem dL_collects_43 : decode cL_collects 43 = .ok (.iload_n 2, 1) := by decide +kernel
theorem dL_collects_44 : decode cL_collects 44 = .ok (.iconst 5, 1) := by decide +kernel
theorem dL_collects_45 : decode cL_collects 45 = .ok (.iadd, 1) := by decide +kernel
theorem dL_collects_46 : decode cL_collects 46 = .ok (.iaload, 1) := by decide +kernel
theorem dL_collects_47 : decode cL_collects 47 = .ok (.istore_n 3, 1) := by decide +kernel
theorem dL_collects_48 : decode cL_collects 48 = .ok (.aload_n 1, 1) := by decide +kernel
theorem dL_collects_49 : decode cL_collects 49 = .ok (.iload_n 2, 1) := by decide +kernel
theorem dL_collects_50 : decode cL_collects 50 = .ok (.iconst 5, 1) := by decide +kernel
theorem dL_collects_51 : decode cL_collects 51 = .ok (.iadd, 1) := by decide +kernel
theorem dL_collects_52 : decode cL_collects 52 = .ok (.dup2, 1) := by decide +kernel
theorem dL_collects_53 : decode cL_collects 53 = .ok (.iaload, 1) := by decide +kernel
theorem dL_collects_54 : decode cL_collects 54 = .ok (.iload_n 3, 1) := by decide +kernel
theorem dL_collects_55 : decode cL_collects 55 = .ok (.isub, 1) := by decide +kernel
theorem dL_collects_56 : decode cL_collects 56 = .ok (.iastore, 1) := by decide +kernel
theorem dL_collects_57 : decode cL_collects 57 = .ok (.aload_n 1, 1) := by decide +kernel
theorem dL_collects_58 : decode cL_collects 58 = .ok (.iload_n 2, 1) := by decide +kernel
theorem dL_collects_59 : decode cL_collects 59 = .ok (.bipush 6, 2) := by decide +kernel
theorem dL_collects_61 : decode cL_collects 61 = .ok (.iadd, 1) := by decide +kernel
theorem dL_collects_62 : decode cL_collects 62 = .ok (.dup2, 1) := by decide +kernel
theorem dL_collects_63 : decode cL_collects 63 = .ok (.iaload, 1) := by decide +kernel
theorem dL_collects_64 : decode cL_collects 64 = .ok (.iload_n 3, 1) := by decide +kernel
theorem dL_collects_65 : decode cL_collects 65 = .ok (.iadd, 1) := by decide +kernel
theorem dL_collects_66 : decode cL_collects 66 = .ok (.iastore, 1) := by decide +kernel
theorem dL_collects_67 : decode cL_collects 67 = .ok (.aload_n 0, 1) := by decide +kernel
theorem dL_collects_68 : decode cL_collects 68 = .ok (.iconst 5, 1) := by decide +kernel
theorem dL_collects_69 : decode cL_collects 69 = .ok (.dup2, 1) := by decide +kernel
theorem dL_collects_70 : decode cL_collects 70 = .ok (.iaload, 1) := by decide +kernel
theorem dL_collects_71 : decode cL_collects 71 = .ok (.iload_n 3, 1) := by decide +kernel
theorem dL_collects_72 : decode cL_collects 72 = .ok (.iadd, 1) := by decide +kernel
theorem dL_collects_73 : decode cL_collects 73 = .ok (.iastore, 1) := by decide +kernel
theorem dL_collects_74 : decode cL_collects 74 = .ok (.iload_n 3, 1) := by decide +kernel
theorem dL_collects_75 : decode cL_collects 75 = .ok (.ireturn, 1) := by decide +kernel
set_option maxRecDepth 20000 in
theorem ggL_ends_L_day : GoodIn wsL_ends wsL_day := goodIn_r _ [4] (by decide +kernel) (by decide +kernel)
set_option maxRecDepth 20000 in
theorem gL_ends_L_day : GoodIn wsL_ends (va_wsS RL 32 yL_day wsL_day) := goodIn_app (goodIn_of _ (by decide +kernel)) ggL_ends_L_day
set_option maxRecDepth 20000 in
theorem ggL_ends_L_colds : GoodIn wsL_ends wsL_colds := goodIn_r _ [7] (by decide +kernel) (by decide +kernel)
set_option maxRecDepth 20000 in
theorem gL_ends_L_colds : GoodIn wsL_ends (va_wsS RL 36 yL_colds wsL_colds) := goodIn_app (goodIn_of _ (by decide +kernel)) ggL_ends_L_colds
theorem dL_ends_0 : decode cL_ends 0 = .ok (.iconst 0, 1) := by decide +kernel
theorem dL_ends_1 : decode cL_ends 1 = .ok (.istore_n 3, 1) := by decide +kernel
theorem dL_ends_2 : decode cL_ends 2 = .ok (.iload_n 3, 1) := by decide +kernel
theorem dL_ends_3 : decode cL_ends 3 = .ok (.iload_n 2, 1) := by decide +kernel
theorem dL_ends_4 : decode cL_ends 4 = .ok (.if_icmp .ge 36, 3) := by decide +kernel
theorem dL_ends_7 : decode cL_ends 7 = .ok (.iconst 0, 1) := by decide +kernel
theorem dL_ends_8 : decode cL_ends 8 = .ok (.istore 4, 2) := by decide +kernel
theorem dL_ends_10 : decode cL_ends 10 = .ok (.iload 4, 2) := by decide +kernel
theorem dL_ends_12 : decode cL_ends 12 = .ok (.aload_n 0, 1) := by decide +kernel
theorem dL_ends_13 : decode cL_ends 13 = .ok (.iconst 0, 1) := by decide +kernel
theorem dL_ends_14 : decode cL_ends 14 = .ok (.iaload, 1) := by decide +kernel
theorem dL_ends_15 : decode cL_ends 15 = .ok (.if_icmp .ge 19, 3) := by decide +kernel
theorem dL_ends_18 : decode cL_ends 18 = .ok (.aload_n 0, 1) := by decide +kernel
theorem dL_ends_19 : decode cL_ends 19 = .ok (.aload_n 1, 1) := by decide +kernel
theorem dL_ends_20 : decode cL_ends 20 = .ok (.bipush 8, 2) := by decide +kernel
theorem dL_ends_22 : decode cL_ends 22 = .ok (.iload 4, 2) := by decide +kernel
theorem dL_ends_24 : decode cL_ends 24 = .ok (.imul, 1) := by decide +kernel
theorem dL_ends_25 : decode cL_ends 25 = .ok (.invokestatic 32, 3) := by decide +kernel
theorem dL_ends_28 : decode cL_ends 28 = .ok (.iinc 4 1, 3) := by decide +kernel
theorem dL_ends_31 : decode cL_ends 31 = .ok (.goto (-21), 3) := by decide +kernel
theorem dL_ends_34 : decode cL_ends 34 = .ok (.iinc 3 1, 3) := by decide +kernel
theorem dL_ends_37 : decode cL_ends 37 = .ok (.goto (-35), 3) := by decide +kernel
theorem dL_ends_40 : decode cL_ends 40 = .ok (.aload_n 0, 1) := by decide +kernel
theorem dL_ends_41 : decode cL_ends 41 = .ok (.iconst 1, 1) := by decide +kernel
theorem dL_ends_42 : decode cL_ends 42 = .ok (.dup2, 1) := by decide +kernel
theorem dL_ends_43 : decode cL_ends 43 = .ok (.iaload, 1) := by decide +kernel
theorem dL_ends_44 : decode cL_ends 44 = .ok (.iload_n 2, 1) := by decide +kernel
theorem dL_ends_45 : decode cL_ends 45 = .ok (.iadd, 1) := by decide +kernel
theorem dL_ends_46 : decode cL_ends 46 = .ok (.iastore, 1) := by decide +kernel
theorem dL_ends_47 : decode cL_ends 47 = .ok (.aload_n 0, 1) := by decide +kernel
theorem dL_ends_48 : decode cL_ends 48 = .ok (.iconst 3, 1) := by decide +kernel
theorem dL_ends_49 : decode cL_ends 49 = .ok (.aload_n 0, 1) := by decide +kernel
theorem dL_ends_50 : decode cL_ends 50 = .ok (.bipush 11, 2) := by decide +kernel
theorem dL_ends_52 : decode cL_ends 52 = .ok (.iaload, 1) := by decide +kernel
theorem dL_ends_53 : decode cL_ends 53 = .ok (.iastore, 1) := by decide +kernel
theorem dL_ends_54 : decode cL_ends 54 = .ok (.iconst 0, 1) := by decide +kernel
theorem dL_ends_55 : decode cL_ends 55 = .ok (.istore_n 3, 1) := by decide +kernel
theorem dL_ends_56 : decode cL_ends 56 = .ok (.aload_n 0, 1) := by decide +kernel
theorem dL_ends_57 : decode cL_ends 57 = .ok (.aload_n 1, 1) := by decide +kernel
theorem dL_ends_58 : decode cL_ends 58 = .ok (.invokestatic 36, 3) := by decide +kernel
theorem dL_ends_61 : decode cL_ends 61 = .ok (.istore 4, 2) := by decide +kernel
theorem dL_ends_63 : decode cL_ends 63 = .ok (.iload 4, 2) := by decide +kernel
theorem dL_ends_65 : decode cL_ends 65 = .ok (.ifCond .le 19, 3) := by decide +kernel
theorem dL_ends_68 : decode cL_ends 68 = .ok (.iload_n 3, 1) := by decide +kernel
theorem dL_ends_69 : decode cL_ends 69 = .ok (.iload 4, 2) := by decide +kernel
theorem dL_ends_71 : decode cL_ends 71 = .ok (.iconst 2, 1) := by decide +kernel
theorem dL_ends_72 : decode cL_ends 72 = .ok (.irem, 1) := by decide +kernel
theorem dL_ends_73 : decode cL_ends 73 = .ok (.iadd, 1) := by decide +kernel
theorem dL_ends_74 : decode cL_ends 74 = .ok (.istore_n 3, 1) := by decide +kernel
theorem dL_ends_75 : decode cL_ends 75 = .ok (.iload 4, 2) := by decide +kernel
theorem dL_ends_77 : decode cL_ends 77 = .ok (.iconst 2, 1) := by decide +kernel
theorem dL_ends_78 : decode cL_ends 78 = .ok (.idiv, 1) := by decide +kernel
theorem dL_ends_79 : decode cL_ends 79 = .ok (.istore 4, 2) := by decide +kernel
theorem dL_ends_81 : decode cL_ends 81 = .ok (.goto (-18), 3) := by decide +kernel
theorem dL_ends_84 : decode cL_ends 84 = .ok (.iload_n 3, 1) := by decide +kernel
theorem dL_ends_85 : decode cL_ends 85 = .ok (.ireturn, 1) := by decide +kernel
set_option maxRecDepth 20000 in
theorem ggL_acts_L_low : GoodIn wsL_acts wsL_low := goodIn_r _ [7, 8] (by decide +kernel) (by decide +kernel)
set_option maxRecDepth 20000 in
theorem gL_acts_L_low : GoodIn wsL_acts (va_wsS RL 41 yL_low wsL_low) := goodIn_app (goodIn_of _ (by decide +kernel)) ggL_acts_L_low
set_option maxRecDepth 20000 in
theorem ggL_acts_X3_smithy : GoodIn wsL_acts wsX3_smithy := goodIn_r _ [13, 14, 15, 16, 17, 18, 19, 20, 21, 22, 23, 24, 25, 26, 27, 28, 29, 30, 31, 32, 33, 34, 35, 36, 37, 38, 39, 40, 41, 42, 43, 44, 45, 46, 47, 48, 49, 50, 51, 52, 53, 54, 55, 56, 57, 58, 59, 60, 61, 62, 63, 64, 65, 12, 66, 67, 68, 69, 70, 71, 72, 73, 74, 75, 76, 243, 244, 245, 246, 247, 248, 249, 250, 251, 252, 253, 254, 255, 256, 257, 258, 259, 260, 261, 262, 263, 264, 265, 266, 267, 268, 269, 270, 271, 272, 273, 274] (by decide +kernel) (by decide +kernel)
set_option maxRecDepth 20000 in
theorem gL_acts_X3_smithy : GoodIn wsL_acts (wsV RL 44 RX3 yX3_smithy wsX3_smithy) := goodIn_app (goodIn_of _ (by decide +kernel)) ggL_acts_X3_smithy
set_option maxRecDepth 20000 in
theorem ggL_acts_L_walks : GoodIn wsL_acts wsL_walks := goodIn_r _ [79, 80, 81, 82, 6, 83, 84, 85, 86] (by decide +kernel) (by decide +kernel)
set_option maxRecDepth 20000 in
theorem gL_acts_L_walks : GoodIn wsL_acts (va_wsS RL 49 yL_walks wsL_walks) := goodIn_app (goodIn_of _ (by decide +kernel)) ggL_acts_L_walks
set_option maxRecDepth 20000 in
theorem ggL_acts_X3_walk : GoodIn wsL_acts wsX3_walk := goodIn_r _ [90, 14, 15, 16, 17, 18, 19, 20, 21, 22, 23, 24, 25, 26, 27, 28, 29, 30, 31, 32, 33, 34, 35, 36, 37, 38, 39, 40, 41, 42, 43, 44, 45, 46, 47, 48, 49, 50, 51, 52, 91, 92, 93, 94, 57, 95, 96, 97, 98, 99, 100, 12, 101, 102, 103, 104, 105, 63, 64, 65, 66, 67, 68, 69, 70, 71, 72, 73, 74, 75, 76, 243, 244, 245, 246, 247, 248, 249, 250, 251, 252, 253, 254, 255, 256, 257, 258, 259, 260, 261, 262, 263, 264, 265, 266, 267, 268, 269, 270, 271, 272, 273, 274] (by decide +kernel) (by decide +kernel)
set_option maxRecDepth 20000 in
theorem gL_acts_X3_walk : GoodIn wsL_acts (wsV RL 53 RX3 yX3_walk wsX3_walk) := goodIn_app (goodIn_of _ (by decide +kernel)) ggL_acts_X3_walk
set_option maxRecDepth 20000 in
theorem ggL_acts_L_buys : GoodIn wsL_acts wsL_buys := goodIn_r _ [108, 80, 2] (by decide +kernel) (by decide +kernel)
set_option maxRecDepth 20000 in
theorem gL_acts_L_buys : GoodIn wsL_acts (va_wsS RL 56 yL_buys wsL_buys) := goodIn_app (goodIn_of _ (by decide +kernel)) ggL_acts_L_buys
set_option maxRecDepth 20000 in
theorem ggL_acts_X3_buy : GoodIn wsL_acts wsX3_buy := goodIn_r _ [112, 14, 15, 16, 17, 18, 19, 20, 21, 22, 23, 24, 25, 26, 27, 28, 29, 30, 31, 32, 33, 34, 35, 36, 37, 38, 39, 40, 41, 42, 43, 44, 45, 46, 47, 48, 49, 50, 51, 52, 113, 114, 115, 116, 57, 95, 58, 63, 64, 65, 12, 66, 67, 68, 69, 70, 71, 72, 73, 74, 75, 76, 243, 244, 245, 246, 247, 248, 249, 250, 251, 252, 253, 254, 255, 256, 257, 258, 259, 260, 261, 262, 263, 264, 265, 266, 267, 268, 269, 270, 271, 272, 273, 274] (by decide +kernel) (by decide +kernel)
set_option maxRecDepth 20000 in
theorem gL_acts_X3_buy : GoodIn wsL_acts (wsV RL 59 RX3 yX3_buy wsX3_buy) := goodIn_app (goodIn_of _ (by decide +kernel)) ggL_acts_X3_buy
set_option maxRecDepth 20000 in
theorem ggL_acts_X3_patch : GoodIn wsL_acts wsX3_patch := goodIn_r _ [120, 14, 15, 16, 17, 18, 19, 20, 21, 22, 23, 24, 25, 26, 27, 28, 29, 30, 31, 32, 33, 34, 35, 36, 37, 38, 39, 40, 41, 42, 43, 44, 45, 46, 47, 48, 49, 50, 51, 52, 121, 122, 123, 124, 57, 95, 125, 126, 127, 128, 129, 130, 131, 132, 133, 12, 134, 135, 136, 137, 138, 104, 105, 139, 140, 141, 142, 143, 144, 145, 146, 147, 148, 149, 150, 63, 64, 65, 66, 67, 68, 69, 70, 71, 72, 73, 74, 75, 76, 243, 244, 245, 246, 247, 248, 249, 250, 251, 252, 253, 254, 255, 256, 257, 258, 259, 260, 261, 262, 263, 264, 265, 266, 267, 268, 269, 270, 271, 272, 273, 274] (by decide +kernel) (by decide +kernel)
set_option maxRecDepth 20000 in
theorem gL_acts_X3_patch : GoodIn wsL_acts (wsV RL 62 RX3 yX3_patch wsX3_patch) := goodIn_app (goodIn_of _ (by decide +kernel)) ggL_acts_X3_patch
set_option maxRecDepth 20000 in
theorem ggL_acts_X3_hide : GoodIn wsL_acts wsX3_hide := goodIn_r _ [154, 14, 15, 16, 17, 18, 19, 20, 21, 22, 23, 24, 25, 26, 27, 28, 29, 30, 31, 32, 33, 34, 35, 36, 37, 38, 39, 40, 41, 42, 43, 44, 45, 46, 47, 48, 49, 50, 51, 52, 121, 122, 123, 124, 57, 95, 125, 126, 127, 128, 129, 130, 131, 132, 133, 12, 134, 135, 136, 137, 138, 104, 105, 139, 140, 141, 142, 143, 144, 145, 146, 147, 148, 149, 150, 63, 64, 65, 66, 67, 68, 69, 70, 71, 72, 73, 74, 75, 76, 243, 244, 245, 246, 247, 248, 249, 250, 251, 252, 253, 254, 255, 256, 257, 258, 259, 260, 261, 262, 263, 264, 265, 266, 267, 268, 269, 270, 271, 272, 273, 274] (by decide +kernel) (by decide +kernel)
set_option maxRecDepth 20000 in
theorem gL_acts_X3_hide : GoodIn wsL_acts (wsV RL 66 RX3 yX3_hide wsX3_hide) := goodIn_app (goodIn_of _ (by decide +kernel)) ggL_acts_X3_hide
set_option maxRecDepth 20000 in
theorem ggL_acts_X3_collect : GoodIn wsL_acts wsX3_collect := goodIn_r _ [158, 14, 15, 16, 17, 18, 19, 20, 21, 22, 23, 24, 25, 26, 27, 28, 29, 30, 31, 32, 33, 34, 35, 36, 37, 38, 39, 40, 41, 42, 43, 44, 45, 46, 47, 48, 49, 50, 51, 52, 159, 160, 161, 162, 57, 132, 125, 95, 163, 164, 165, 166, 167, 168, 63, 64, 65, 12, 66, 67, 68, 69, 70, 71, 72, 73, 74, 75, 76, 243, 244, 245, 246, 247, 248, 249, 250, 251, 252, 253, 254, 255, 256, 257, 258, 259, 260, 261, 262, 263, 264, 265, 266, 267, 268, 269, 270, 271, 272, 273, 274] (by decide +kernel) (by decide +kernel)
set_option maxRecDepth 20000 in
theorem gL_acts_X3_collect : GoodIn wsL_acts (wsV RL 69 RX3 yX3_collect wsX3_collect) := goodIn_app (goodIn_of _ (by decide +kernel)) ggL_acts_X3_collect
set_option maxRecDepth 20000 in
theorem ggL_acts_L_mends : GoodIn wsL_acts wsL_mends := goodIn_r _ [171, 80, 172, 173, 6, 174, 175, 176, 177, 84, 85, 86, 178, 179, 180] (by decide +kernel) (by decide +kernel)
set_option maxRecDepth 20000 in
theorem gL_acts_L_mends : GoodIn wsL_acts (va_wsS RL 72 yL_mends wsL_mends) := goodIn_app (goodIn_of _ (by decide +kernel)) ggL_acts_L_mends
set_option maxRecDepth 20000 in
theorem ggL_acts_L_collects : GoodIn wsL_acts wsL_collects := goodIn_r _ [183, 80] (by decide +kernel) (by decide +kernel)
set_option maxRecDepth 20000 in
theorem gL_acts_L_collects : GoodIn wsL_acts (va_wsS RL 75 yL_collects wsL_collects) := goodIn_app (goodIn_of _ (by decide +kernel)) ggL_acts_L_collects
set_option maxRecDepth 20000 in
theorem ggL_acts_X3_end : GoodIn wsL_acts wsX3_end := goodIn_r _ [187, 14, 15, 16, 17, 18, 19, 20, 21, 22, 23, 24, 25, 26, 27, 28, 29, 30, 31, 32, 33, 34, 35, 36, 37, 38, 39, 40, 41, 42, 43, 44, 45, 46, 47, 48, 49, 50, 51, 52, 188, 189, 190, 191, 57, 58, 192, 193, 194, 195, 126, 196, 163, 197, 198, 199, 98, 200, 201, 12, 202, 203, 204, 205, 206, 207, 208, 209, 210, 211, 165, 166, 167, 168, 212, 213, 214, 215, 216, 217, 218, 219, 220, 221, 222, 63, 64, 65, 66, 67, 68, 69, 70, 71, 72, 73, 74, 75, 76, 243, 244, 245, 246, 247, 248, 249, 250, 251, 252, 253, 254, 255, 256, 257, 258, 259, 260, 261, 262, 263, 264, 265, 266, 267, 268, 269, 270, 271, 272, 273, 274] (by decide +kernel) (by decide +kernel)
set_option maxRecDepth 20000 in
theorem gL_acts_X3_end : GoodIn wsL_acts (wsV RL 79 RX3 yX3_end wsX3_end) := goodIn_app (goodIn_of _ (by decide +kernel)) ggL_acts_X3_end
set_option maxRecDepth 20000 in
theorem ggL_acts_L_ends : GoodIn wsL_acts wsL_ends := goodIn_r _ [225, 226, 227, 6, 228, 229, 230, 231] (by decide +kernel) (by decide +kernel)
set_option maxRecDepth 20000 in
theorem gL_acts_L_ends : GoodIn wsL_acts (va_wsS RL 82 yL_ends wsL_ends) := goodIn_app (goodIn_of _ (by decide +kernel)) ggL_acts_L_ends
set_option maxRecDepth 20000 in
theorem ggL_acts_X3_set : GoodIn wsL_acts wsX3_set := goodIn_r _ [235, 14, 15, 16, 17, 18, 19, 20, 21, 22, 23, 24, 25, 26, 27, 28, 29, 30, 31, 32, 33, 34, 35, 36, 37, 38, 39, 40, 41, 42, 43, 44, 45, 46, 47, 48, 49, 50, 51, 52, 236, 237, 238, 239, 57, 240, 241, 242, 63, 64, 65, 12, 66, 67, 68, 69, 70, 71, 72, 73, 74, 75, 76, 243, 244, 245, 246, 247, 248, 249, 250, 251, 252, 253, 254, 255, 256, 257, 258, 259, 260, 261, 262, 263, 264, 265, 266, 267, 268, 269, 270, 271, 272, 273, 274] (by decide +kernel) (by decide +kernel)
set_option maxRecDepth 20000 in
theorem gL_acts_X3_set : GoodIn wsL_acts (wsV RL 85 RX3 yX3_set wsX3_set) := goodIn_app (goodIn_of _ (by decide +kernel)) ggL_acts_X3_set
theorem dL_acts_0 : decode cL_acts 0 = .ok (.iload_n 3, 1) := by decide +kernel
theorem dL_acts_1 : decode cL_acts 1 = .ok (.iconst 5, 1) := by decide +kernel
theorem dL_acts_2 : decode cL_acts 2 = .ok (.ishr, 1) := by decide +kernel
theorem dL_acts_3 : decode cL_acts 3 = .ok (.ldc 40, 2) := by decide +kernel
theorem dL_acts_5 : decode cL_acts 5 = .ok (.invokestatic 41, 3) := by decide +kernel
theorem dL_acts_8 : decode cL_acts 8 = .ok (.istore 4, 2) := by decide +kernel
theorem dL_acts_10 : decode cL_acts 10 = .ok (.iload_n 3, 1) := by decide +kernel
theorem dL_acts_11 : decode cL_acts 11 = .ok (.bipush 32, 2) := by decide +kernel
theorem dL_acts_13 : decode cL_acts 13 = .ok (.invokestatic 41, 3) := by decide +kernel
theorem dL_acts_16 : decode cL_acts 16 = .ok (.istore 5, 2) := by decide +kernel
theorem dL_acts_18 : decode cL_acts 18 = .ok (.iload 5, 2) := by decide +kernel
theorem dL_acts_20 : decode cL_acts 20 = .ok (.iconst 4, 1) := by decide +kernel
theorem dL_acts_21 : decode cL_acts 21 = .ok (.if_icmp .ge 150, 3) := by decide +kernel
theorem dL_acts_24 : decode cL_acts 24 = .ok (.iload 4, 2) := by decide +kernel
theorem dL_acts_26 : decode cL_acts 26 = .ok (.iload 4, 2) := by decide +kernel
theorem dL_acts_28 : decode cL_acts 28 = .ok (.iconst 3, 1) := by decide +kernel
theorem dL_acts_29 : decode cL_acts 29 = .ok (.irem, 1) := by decide +kernel
theorem dL_acts_30 : decode cL_acts 30 = .ok (.ifCond .ne 8, 3) := by decide +kernel
theorem dL_acts_33 : decode cL_acts 33 = .ok (.bipush 100, 2) := by decide +kernel
theorem dL_acts_35 : decode cL_acts 35 = .ok (.goto 5, 3) := by decide +kernel
theorem dL_acts_38 : decode cL_acts 38 = .ok (.bipush 25, 2) := by decide +kernel
theorem dL_acts_40 : decode cL_acts 40 = .ok (.irem, 1) := by decide +kernel
theorem dL_acts_41 : decode cL_acts 41 = .ok (.istore 6, 2) := by decide +kernel
theorem dL_acts_43 : decode cL_acts 43 = .ok (.iconst 1, 1) := by decide +kernel
theorem dL_acts_44 : decode cL_acts 44 = .ok (.iload 4, 2) := by decide +kernel
theorem dL_acts_46 : decode cL_acts 46 = .ok (.bipush 100, 2) := by decide +kernel
theorem dL_acts_48 : decode cL_acts 48 = .ok (.idiv, 1) := by decide +kernel
theorem dL_acts_49 : decode cL_acts 49 = .ok (.bipush 9, 2) := by decide +kernel
theorem dL_acts_51 : decode cL_acts 51 = .ok (.irem, 1) := by decide +kernel
theorem dL_acts_52 : decode cL_acts 52 = .ok (.iadd, 1) := by decide +kernel
theorem dL_acts_53 : decode cL_acts 53 = .ok (.istore 7, 2) := by decide +kernel
theorem dL_acts_55 : decode cL_acts 55 = .ok (.aload_n 1, 1) := by decide +kernel
theorem dL_acts_56 : decode cL_acts 56 = .ok (.iconst 0, 1) := by decide +kernel
theorem dL_acts_57 : decode cL_acts 57 = .ok (.iaload, 1) := by decide +kernel
theorem dL_acts_58 : decode cL_acts 58 = .ok (.bipush 8, 2) := by decide +kernel
theorem dL_acts_60 : decode cL_acts 60 = .ok (.if_icmp .ne 22, 3) := by decide +kernel
theorem dL_acts_63 : decode cL_acts 63 = .ok (.aload_n 0, 1) := by decide +kernel
theorem dL_acts_64 : decode cL_acts 64 = .ok (.iload 6, 2) := by decide +kernel
theorem dL_acts_66 : decode cL_acts 66 = .ok (.iload 7, 2) := by decide +kernel
theorem dL_acts_68 : decode cL_acts 68 = .ok (.invokevirtual 44, 3) := by decide +kernel
theorem dL_acts_71 : decode cL_acts 71 = .ok (.ldc 24, 2) := by decide +kernel
theorem dL_acts_73 : decode cL_acts 73 = .ok (.if_icmp .ne 7, 3) := by decide +kernel
theorem dL_acts_76 : decode cL_acts 76 = .ok (.iconst 1, 1) := by decide +kernel
theorem dL_acts_77 : decode cL_acts 77 = .ok (.goto 4, 3) := by decide +kernel
theorem dL_acts_80 : decode cL_acts 80 = .ok (.iconst 0, 1) := by decide +kernel
theorem dL_acts_81 : decode cL_acts 81 = .ok (.ireturn, 1) := by decide +kernel
theorem dL_acts_82 : decode cL_acts 82 = .ok (.iconst 0, 1) := by decide +kernel
theorem dL_acts_83 : decode cL_acts 83 = .ok (.istore 8, 2) := by decide +kernel
theorem dL_acts_85 : decode cL_acts 85 = .ok (.iload 8, 2) := by decide +kernel
theorem dL_acts_87 : decode cL_acts 87 = .ok (.bipush 8, 2) := by decide +kernel
theorem dL_acts_89 : decode cL_acts 89 = .ok (.if_icmp .ge 53, 3) := by decide +kernel
theorem dL_acts_92 : decode cL_acts 92 = .ok (.aload_n 2, 1) := by decide +kernel
theorem dL_acts_93 : decode cL_acts 93 = .ok (.bipush 8, 2) := by decide +kernel
theorem dL_acts_95 : decode cL_acts 95 = .ok (.aload_n 1, 1) := by decide +kernel
theorem dL_acts_96 : decode cL_acts 96 = .ok (.iconst 0, 1) := by decide +kernel
theorem dL_acts_97 : decode cL_acts 97 = .ok (.iaload, 1) := by decide +kernel
theorem dL_acts_98 : decode cL_acts 98 = .ok (.imul, 1) := by decide +kernel
theorem dL_acts_99 : decode cL_acts 99 = .ok (.iload 8, 2) := by decide +kernel
theorem dL_acts_101 : decode cL_acts 101 = .ok (.iadd, 1) := by decide +kernel
theorem dL_acts_102 : decode cL_acts 102 = .ok (.iload 8, 2) := by decide +kernel
theorem dL_acts_104 : decode cL_acts 104 = .ok (.ifCond .ne 8, 3) := by decide +kernel
theorem dL_acts_107 : decode cL_acts 107 = .ok (.iload 6, 2) := by decide +kernel
theorem dL_acts_109 : decode cL_acts 109 = .ok (.goto 26, 3) := by decide +kernel
theorem dL_acts_112 : decode cL_acts 112 = .ok (.iload 8, 2) := by decide +kernel
theorem dL_acts_114 : decode cL_acts 114 = .ok (.iconst 1, 1) := by decide +kernel
theorem dL_acts_115 : decode cL_acts 115 = .ok (.if_icmp .ne 8, 3) := by decide +kernel
theorem dL_acts_118 : decode cL_acts 118 = .ok (.iload 7, 2) := by decide +kernel
theorem dL_acts_120 : decode cL_acts 120 = .ok (.goto 15, 3) := by decide +kernel
theorem dL_acts_123 : decode cL_acts 123 = .ok (.iload 8, 2) := by decide +kernel
theorem dL_acts_125 : decode cL_acts 125 = .ok (.iconst 3, 1) := by decide +kernel
theorem dL_acts_126 : decode cL_acts 126 = .ok (.if_icmp .ne 8, 3) := by decide +kernel
theorem dL_acts_129 : decode cL_acts 129 = .ok (.bipush 100, 2) := by decide +kernel
theorem dL_acts_131 : decode cL_acts 131 = .ok (.goto 4, 3) := by decide +kernel
theorem dL_acts_134 : decode cL_acts 134 = .ok (.iconst 0, 1) := by decide +kernel
theorem dL_acts_135 : decode cL_acts 135 = .ok (.iastore, 1) := by decide +kernel
theorem dL_acts_136 : decode cL_acts 136 = .ok (.iinc 8 1, 3) := by decide +kernel
theorem dL_acts_139 : decode cL_acts 139 = .ok (.goto (-54), 3) := by decide +kernel
theorem dL_acts_142 : decode cL_acts 142 = .ok (.aload_n 1, 1) := by decide +kernel
theorem dL_acts_143 : decode cL_acts 143 = .ok (.iconst 0, 1) := by decide +kernel
theorem dL_acts_144 : decode cL_acts 144 = .ok (.dup2, 1) := by decide +kernel
theorem dL_acts_145 : decode cL_acts 145 = .ok (.iaload, 1) := by decide +kernel
theorem dL_acts_146 : decode cL_acts 146 = .ok (.iconst 1, 1) := by decide +kernel
theorem dL_acts_147 : decode cL_acts 147 = .ok (.iadd, 1) := by decide +kernel
theorem dL_acts_148 : decode cL_acts 148 = .ok (.iastore, 1) := by decide +kernel
theorem dL_acts_149 : decode cL_acts 149 = .ok (.aload_n 0, 1) := by decide +kernel
theorem dL_acts_150 : decode cL_acts 150 = .ok (.iload 6, 2) := by decide +kernel
theorem dL_acts_152 : decode cL_acts 152 = .ok (.iload 7, 2) := by decide +kernel
theorem dL_acts_154 : decode cL_acts 154 = .ok (.invokevirtual 44, 3) := by decide +kernel
theorem dL_acts_157 : decode cL_acts 157 = .ok (.aload_n 1, 1) := by decide +kernel
theorem dL_acts_158 : decode cL_acts 158 = .ok (.iconst 0, 1) := by decide +kernel
theorem dL_acts_159 : decode cL_acts 159 = .ok (.iaload, 1) := by decide +kernel
theorem dL_acts_160 : decode cL_acts 160 = .ok (.iconst 1, 1) := by decide +kernel
theorem dL_acts_161 : decode cL_acts 161 = .ok (.isub, 1) := by decide +kernel
theorem dL_acts_162 : decode cL_acts 162 = .ok (.if_icmp .ne 7, 3) := by decide +kernel
theorem dL_acts_165 : decode cL_acts 165 = .ok (.iconst 1, 1) := by decide +kernel
theorem dL_acts_166 : decode cL_acts 166 = .ok (.goto 4, 3) := by decide +kernel
theorem dL_acts_169 : decode cL_acts 169 = .ok (.iconst 0, 1) := by decide +kernel
theorem dL_acts_170 : decode cL_acts 170 = .ok (.ireturn, 1) := by decide +kernel
theorem dL_acts_171 : decode cL_acts 171 = .ok (.iload 5, 2) := by decide +kernel
theorem dL_acts_173 : decode cL_acts 173 = .ok (.bipush 11, 2) := by decide +kernel
theorem dL_acts_175 : decode cL_acts 175 = .ok (.if_icmp .ge 67, 3) := by decide +kernel
theorem dL_acts_178 : decode cL_acts 178 = .ok (.iload 5, 2) := by decide +kernel
theorem dL_acts_180 : decode cL_acts 180 = .ok (.bipush 6, 2) := by decide +kernel
theorem dL_acts_182 : decode cL_acts 182 = .ok (.if_icmp .lt 9, 3) := by decide +kernel
theorem dL_acts_185 : decode cL_acts 185 = .ok (.aload_n 1, 1) := by decide +kernel
theorem dL_acts_186 : decode cL_acts 186 = .ok (.iconst 0, 1) := by decide +kernel
theorem dL_acts_187 : decode cL_acts 187 = .ok (.iaload, 1) := by decide +kernel
theorem dL_acts_188 : decode cL_acts 188 = .ok (.ifCond .ne 16, 3) := by decide +kernel
theorem dL_acts_191 : decode cL_acts 191 = .ok (.iload 4, 2) := by decide +kernel
theorem dL_acts_193 : decode cL_acts 193 = .ok (.bipush 100, 2) := by decide +kernel
theorem dL_acts_195 : decode cL_acts 195 = .ok (.irem, 1) := by decide +kernel
theorem dL_acts_196 : decode cL_acts 196 = .ok (.iload 4, 2) := by decide +kernel
theorem dL_acts_198 : decode cL_acts 198 = .ok (.iconst 2, 1) := by decide +kernel
theorem dL_acts_199 : decode cL_acts 199 = .ok (.irem, 1) := by decide +kernel
theorem dL_acts_200 : decode cL_acts 200 = .ok (.imul, 1) := by decide +kernel
theorem dL_acts_201 : decode cL_acts 201 = .ok (.goto 14, 3) := by decide +kernel
theorem dL_acts_204 : decode cL_acts 204 = .ok (.aload_n 2, 1) := by decide +kernel
theorem dL_acts_205 : decode cL_acts 205 = .ok (.bipush 8, 2) := by decide +kernel
theorem dL_acts_207 : decode cL_acts 207 = .ok (.iload 4, 2) := by decide +kernel
theorem dL_acts_209 : decode cL_acts 209 = .ok (.aload_n 1, 1) := by decide +kernel
theorem dL_acts_210 : decode cL_acts 210 = .ok (.iconst 0, 1) := by decide +kernel
theorem dL_acts_211 : decode cL_acts 211 = .ok (.iaload, 1) := by decide +kernel
theorem dL_acts_212 : decode cL_acts 212 = .ok (.irem, 1) := by decide +kernel
theorem dL_acts_213 : decode cL_acts 213 = .ok (.imul, 1) := by decide +kernel
theorem dL_acts_214 : decode cL_acts 214 = .ok (.iaload, 1) := by decide +kernel
theorem dL_acts_215 : decode cL_acts 215 = .ok (.istore 6, 2) := by decide +kernel
theorem dL_acts_217 : decode cL_acts 217 = .ok (.aload_n 1, 1) := by decide +kernel
theorem dL_acts_218 : decode cL_acts 218 = .ok (.iload 6, 2) := by decide +kernel
theorem dL_acts_220 : decode cL_acts 220 = .ok (.invokestatic 49, 3) := by decide +kernel
theorem dL_acts_223 : decode cL_acts 223 = .ok (.istore 7, 2) := by decide +kernel
theorem dL_acts_225 : decode cL_acts 225 = .ok (.aload_n 0, 1) := by decide +kernel
theorem dL_acts_226 : decode cL_acts 226 = .ok (.iload 6, 2) := by decide +kernel
theorem dL_acts_228 : decode cL_acts 228 = .ok (.invokevirtual 53, 3) := by decide +kernel
theorem dL_acts_231 : decode cL_acts 231 = .ok (.iload 7, 2) := by decide +kernel
theorem dL_acts_233 : decode cL_acts 233 = .ok (.if_icmp .ne 7, 3) := by decide +kernel
theorem dL_acts_236 : decode cL_acts 236 = .ok (.iconst 1, 1) := by decide +kernel
theorem dL_acts_237 : decode cL_acts 237 = .ok (.goto 4, 3) := by decide +kernel
theorem dL_acts_240 : decode cL_acts 240 = .ok (.iconst 0, 1) := by decide +kernel
theorem dL_acts_241 : decode cL_acts 241 = .ok (.ireturn, 1) := by decide +kernel
theorem dL_acts_242 : decode cL_acts 242 = .ok (.iload 5, 2) := by decide +kernel
theorem dL_acts_244 : decode cL_acts 244 = .ok (.bipush 14, 2) := by decide +kernel
theorem dL_acts_246 : decode cL_acts 246 = .ok (.if_icmp .ge 50, 3) := by decide +kernel
theorem dL_acts_249 : decode cL_acts 249 = .ok (.iconst 1, 1) := by decide +kernel
theorem dL_acts_250 : decode cL_acts 250 = .ok (.iload 4, 2) := by decide +kernel
theorem dL_acts_252 : decode cL_acts 252 = .ok (.iload 4, 2) := by decide +kernel
theorem dL_acts_254 : decode cL_acts 254 = .ok (.iconst 4, 1) := by decide +kernel
theorem dL_acts_255 : decode cL_acts 255 = .ok (.irem, 1) := by decide +kernel
theorem dL_acts_256 : decode cL_acts 256 = .ok (.ifCond .ne 9, 3) := by decide +kernel
theorem dL_acts_259 : decode cL_acts 259 = .ok (.sipush 999, 3) := by decide +kernel
theorem dL_acts_262 : decode cL_acts 262 = .ok (.goto 5, 3) := by decide +kernel
theorem dL_acts_265 : decode cL_acts 265 = .ok (.bipush 60, 2) := by decide +kernel
theorem dL_acts_267 : decode cL_acts 267 = .ok (.irem, 1) := by decide +kernel
theorem dL_acts_268 : decode cL_acts 268 = .ok (.iadd, 1) := by decide +kernel
theorem dL_acts_269 : decode cL_acts 269 = .ok (.istore 6, 2) := by decide +kernel
theorem dL_acts_271 : decode cL_acts 271 = .ok (.aload_n 1, 1) := by decide +kernel
theorem dL_acts_272 : decode cL_acts 272 = .ok (.iload 6, 2) := by decide +kernel
theorem dL_acts_274 : decode cL_acts 274 = .ok (.invokestatic 56, 3) := by decide +kernel
theorem dL_acts_277 : decode cL_acts 277 = .ok (.istore 7, 2) := by decide +kernel
theorem dL_acts_279 : decode cL_acts 279 = .ok (.aload_n 0, 1) := by decide +kernel
theorem dL_acts_280 : decode cL_acts 280 = .ok (.iload 6, 2) := by decide +kernel
theorem dL_acts_282 : decode cL_acts 282 = .ok (.invokevirtual 59, 3) := by decide +kernel
theorem dL_acts_285 : decode cL_acts 285 = .ok (.iload 7, 2) := by decide +kernel
theorem dL_acts_287 : decode cL_acts 287 = .ok (.if_icmp .ne 7, 3) := by decide +kernel
theorem dL_acts_290 : decode cL_acts 290 = .ok (.iconst 1, 1) := by decide +kernel
theorem dL_acts_291 : decode cL_acts 291 = .ok (.goto 4, 3) := by decide +kernel
theorem dL_acts_294 : decode cL_acts 294 = .ok (.iconst 0, 1) := by decide +kernel
theorem dL_acts_295 : decode cL_acts 295 = .ok (.ireturn, 1) := by decide +kernel
theorem dL_acts_296 : decode cL_acts 296 = .ok (.iload 5, 2) := by decide +kernel
theorem dL_acts_298 : decode cL_acts 298 = .ok (.bipush 23, 2) := by decide +kernel
theorem dL_acts_300 : decode cL_acts 300 = .ok (.if_icmp .ge 193, 3) := by decide +kernel
theorem dL_acts_303 : decode cL_acts 303 = .ok (.aload_n 1, 1) := by decide +kernel
theorem dL_acts_304 : decode cL_acts 304 = .ok (.iconst 0, 1) := by decide +kernel
theorem dL_acts_305 : decode cL_acts 305 = .ok (.iaload, 1) := by decide +kernel
theorem dL_acts_306 : decode cL_acts 306 = .ok (.ifCond .ne 39, 3) := by decide +kernel
theorem dL_acts_309 : decode cL_acts 309 = .ok (.aload_n 0, 1) := by decide +kernel
theorem dL_acts_310 : decode cL_acts 310 = .ok (.iconst 0, 1) := by decide +kernel
theorem dL_acts_311 : decode cL_acts 311 = .ok (.invokevirtual 62, 3) := by decide +kernel
theorem dL_acts_314 : decode cL_acts 314 = .ok (.ldc 65, 2) := by decide +kernel
theorem dL_acts_316 : decode cL_acts 316 = .ok (.if_icmp .ne 27, 3) := by decide +kernel
theorem dL_acts_319 : decode cL_acts 319 = .ok (.aload_n 0, 1) := by decide +kernel
theorem dL_acts_320 : decode cL_acts 320 = .ok (.iconst 0, 1) := by decide +kernel
theorem dL_acts_321 : decode cL_acts 321 = .ok (.invokevirtual 66, 3) := by decide +kernel
theorem dL_acts_324 : decode cL_acts 324 = .ok (.ldc 65, 2) := by decide +kernel
theorem dL_acts_326 : decode cL_acts 326 = .ok (.if_icmp .ne 17, 3) := by decide +kernel
theorem dL_acts_329 : decode cL_acts 329 = .ok (.aload_n 0, 1) := by decide +kernel
theorem dL_acts_330 : decode cL_acts 330 = .ok (.iconst 0, 1) := by decide +kernel
theorem dL_acts_331 : decode cL_acts 331 = .ok (.invokevirtual 69, 3) := by decide +kernel
theorem dL_acts_334 : decode cL_acts 334 = .ok (.ldc 65, 2) := by decide +kernel
theorem dL_acts_336 : decode cL_acts 336 = .ok (.if_icmp .ne 7, 3) := by decide +kernel
theorem dL_acts_339 : decode cL_acts 339 = .ok (.iconst 1, 1) := by decide +kernel
theorem dL_acts_340 : decode cL_acts 340 = .ok (.goto 4, 3) := by decide +kernel
theorem dL_acts_343 : decode cL_acts 343 = .ok (.iconst 0, 1) := by decide +kernel
theorem dL_acts_344 : decode cL_acts 344 = .ok (.ireturn, 1) := by decide +kernel
theorem dL_acts_345 : decode cL_acts 345 = .ok (.iload 4, 2) := by decide +kernel
theorem dL_acts_347 : decode cL_acts 347 = .ok (.aload_n 1, 1) := by decide +kernel
theorem dL_acts_348 : decode cL_acts 348 = .ok (.iconst 0, 1) := by decide +kernel
theorem dL_acts_349 : decode cL_acts 349 = .ok (.iaload, 1) := by decide +kernel
theorem dL_acts_350 : decode cL_acts 350 = .ok (.irem, 1) := by decide +kernel
theorem dL_acts_351 : decode cL_acts 351 = .ok (.istore 6, 2) := by decide +kernel
theorem dL_acts_353 : decode cL_acts 353 = .ok (.iconst 0, 1) := by decide +kernel
theorem dL_acts_354 : decode cL_acts 354 = .ok (.istore 7, 2) := by decide +kernel
theorem dL_acts_356 : decode cL_acts 356 = .ok (.iload 7, 2) := by decide +kernel
theorem dL_acts_358 : decode cL_acts 358 = .ok (.bipush 8, 2) := by decide +kernel
theorem dL_acts_360 : decode cL_acts 360 = .ok (.if_icmp .ge 40, 3) := by decide +kernel
theorem dL_acts_363 : decode cL_acts 363 = .ok (.aload_n 2, 1) := by decide +kernel
theorem dL_acts_364 : decode cL_acts 364 = .ok (.bipush 8, 2) := by decide +kernel
theorem dL_acts_366 : decode cL_acts 366 = .ok (.iload 6, 2) := by decide +kernel
theorem dL_acts_368 : decode cL_acts 368 = .ok (.imul, 1) := by decide +kernel
theorem dL_acts_369 : decode cL_acts 369 = .ok (.iaload, 1) := by decide +kernel
theorem dL_acts_370 : decode cL_acts 370 = .ok (.aload_n 1, 1) := by decide +kernel
theorem dL_acts_371 : decode cL_acts 371 = .ok (.iconst 2, 1) := by decide +kernel
theorem dL_acts_372 : decode cL_acts 372 = .ok (.iaload, 1) := by decide +kernel
theorem dL_acts_373 : decode cL_acts 373 = .ok (.if_icmp .eq 27, 3) := by decide +kernel
theorem dL_acts_376 : decode cL_acts 376 = .ok (.iload 4, 2) := by decide +kernel
theorem dL_acts_378 : decode cL_acts 378 = .ok (.bipush 7, 2) := by decide +kernel
theorem dL_acts_380 : decode cL_acts 380 = .ok (.irem, 1) := by decide +kernel
theorem dL_acts_381 : decode cL_acts 381 = .ok (.ifCond .le 19, 3) := by decide +kernel
theorem dL_acts_384 : decode cL_acts 384 = .ok (.iload 6, 2) := by decide +kernel
theorem dL_acts_386 : decode cL_acts 386 = .ok (.iconst 1, 1) := by decide +kernel
theorem dL_acts_387 : decode cL_acts 387 = .ok (.iadd, 1) := by decide +kernel
theorem dL_acts_388 : decode cL_acts 388 = .ok (.aload_n 1, 1) := by decide +kernel
theorem dL_acts_389 : decode cL_acts 389 = .ok (.iconst 0, 1) := by decide +kernel
theorem dL_acts_390 : decode cL_acts 390 = .ok (.iaload, 1) := by decide +kernel
theorem dL_acts_391 : decode cL_acts 391 = .ok (.irem, 1) := by decide +kernel
theorem dL_acts_392 : decode cL_acts 392 = .ok (.istore 6, 2) := by decide +kernel
theorem dL_acts_394 : decode cL_acts 394 = .ok (.iinc 7 1, 3) := by decide +kernel
theorem dL_acts_397 : decode cL_acts 397 = .ok (.goto (-41), 3) := by decide +kernel
theorem dL_acts_400 : decode cL_acts 400 = .ok (.iload 5, 2) := by decide +kernel
theorem dL_acts_402 : decode cL_acts 402 = .ok (.bipush 20, 2) := by decide +kernel
theorem dL_acts_404 : decode cL_acts 404 = .ok (.if_icmp .ge 28, 3) := by decide +kernel
theorem dL_acts_407 : decode cL_acts 407 = .ok (.aload_n 1, 1) := by decide +kernel
theorem dL_acts_408 : decode cL_acts 408 = .ok (.aload_n 2, 1) := by decide +kernel
theorem dL_acts_409 : decode cL_acts 409 = .ok (.bipush 8, 2) := by decide +kernel
theorem dL_acts_411 : decode cL_acts 411 = .ok (.iload 6, 2) := by decide +kernel
theorem dL_acts_413 : decode cL_acts 413 = .ok (.imul, 1) := by decide +kernel
theorem dL_acts_414 : decode cL_acts 414 = .ok (.iload 5, 2) := by decide +kernel
theorem dL_acts_416 : decode cL_acts 416 = .ok (.bipush 17, 2) := by decide +kernel
theorem dL_acts_418 : decode cL_acts 418 = .ok (.if_icmp .le 7, 3) := by decide +kernel
theorem dL_acts_421 : decode cL_acts 421 = .ok (.iconst 1, 1) := by decide +kernel
theorem dL_acts_422 : decode cL_acts 422 = .ok (.goto 4, 3) := by decide +kernel
theorem dL_acts_425 : decode cL_acts 425 = .ok (.iconst 0, 1) := by decide +kernel
theorem dL_acts_426 : decode cL_acts 426 = .ok (.invokestatic 72, 3) := by decide +kernel
theorem dL_acts_429 : decode cL_acts 429 = .ok (.goto 13, 3) := by decide +kernel
theorem dL_acts_432 : decode cL_acts 432 = .ok (.aload_n 1, 1) := by decide +kernel
theorem dL_acts_433 : decode cL_acts 433 = .ok (.aload_n 2, 1) := by decide +kernel
theorem dL_acts_434 : decode cL_acts 434 = .ok (.bipush 8, 2) := by decide +kernel
theorem dL_acts_436 : decode cL_acts 436 = .ok (.iload 6, 2) := by decide +kernel
theorem dL_acts_438 : decode cL_acts 438 = .ok (.imul, 1) := by decide +kernel
theorem dL_acts_439 : decode cL_acts 439 = .ok (.invokestatic 75, 3) := by decide +kernel
theorem dL_acts_442 : decode cL_acts 442 = .ok (.istore 7, 2) := by decide +kernel
theorem dL_acts_444 : decode cL_acts 444 = .ok (.iload 5, 2) := by decide +kernel
theorem dL_acts_446 : decode cL_acts 446 = .ok (.bipush 18, 2) := by decide +kernel
theorem dL_acts_448 : decode cL_acts 448 = .ok (.if_icmp .ge 12, 3) := by decide +kernel
theorem dL_acts_451 : decode cL_acts 451 = .ok (.aload_n 0, 1) := by decide +kernel
theorem dL_acts_452 : decode cL_acts 452 = .ok (.iload 6, 2) := by decide +kernel
theorem dL_acts_454 : decode cL_acts 454 = .ok (.invokevirtual 62, 3) := by decide +kernel
theorem dL_acts_457 : decode cL_acts 457 = .ok (.goto 25, 3) := by decide +kernel
theorem dL_acts_460 : decode cL_acts 460 = .ok (.iload 5, 2) := by decide +kernel
theorem dL_acts_462 : decode cL_acts 462 = .ok (.bipush 20, 2) := by decide +kernel
theorem dL_acts_464 : decode cL_acts 464 = .ok (.if_icmp .ge 12, 3) := by decide +kernel
theorem dL_acts_467 : decode cL_acts 467 = .ok (.aload_n 0, 1) := by decide +kernel
theorem dL_acts_468 : decode cL_acts 468 = .ok (.iload 6, 2) := by decide +kernel
theorem dL_acts_470 : decode cL_acts 470 = .ok (.invokevirtual 66, 3) := by decide +kernel
theorem dL_acts_473 : decode cL_acts 473 = .ok (.goto 9, 3) := by decide +kernel
theorem dL_acts_476 : decode cL_acts 476 = .ok (.aload_n 0, 1) := by decide +kernel
theorem dL_acts_477 : decode cL_acts 477 = .ok (.iload 6, 2) := by decide +kernel
theorem dL_acts_479 : decode cL_acts 479 = .ok (.invokevirtual 69, 3) := by decide +kernel
theorem dL_acts_482 : decode cL_acts 482 = .ok (.iload 7, 2) := by decide +kernel
theorem dL_acts_484 : decode cL_acts 484 = .ok (.if_icmp .ne 7, 3) := by decide +kernel
theorem dL_acts_487 : decode cL_acts 487 = .ok (.iconst 1, 1) := by decide +kernel
theorem dL_acts_488 : decode cL_acts 488 = .ok (.goto 4, 3) := by decide +kernel
theorem dL_acts_491 : decode cL_acts 491 = .ok (.iconst 0, 1) := by decide +kernel
theorem dL_acts_492 : decode cL_acts 492 = .ok (.ireturn, 1) := by decide +kernel
theorem dL_acts_493 : decode cL_acts 493 = .ok (.iload 5, 2) := by decide +kernel
theorem dL_acts_495 : decode cL_acts 495 = .ok (.bipush 29, 2) := by decide +kernel
theorem dL_acts_497 : decode cL_acts 497 = .ok (.if_icmp .ge 79, 3) := by decide +kernel
theorem dL_acts_500 : decode cL_acts 500 = .ok (.iconst 1, 1) := by decide +kernel
theorem dL_acts_501 : decode cL_acts 501 = .ok (.iload 4, 2) := by decide +kernel
theorem dL_acts_503 : decode cL_acts 503 = .ok (.iload 4, 2) := by decide +kernel
theorem dL_acts_505 : decode cL_acts 505 = .ok (.iconst 4, 1) := by decide +kernel
theorem dL_acts_506 : decode cL_acts 506 = .ok (.irem, 1) := by decide +kernel
theorem dL_acts_507 : decode cL_acts 507 = .ok (.ifCond .ne 8, 3) := by decide +kernel
theorem dL_acts_510 : decode cL_acts 510 = .ok (.bipush 99, 2) := by decide +kernel
theorem dL_acts_512 : decode cL_acts 512 = .ok (.goto 5, 3) := by decide +kernel
theorem dL_acts_515 : decode cL_acts 515 = .ok (.bipush 6, 2) := by decide +kernel
theorem dL_acts_517 : decode cL_acts 517 = .ok (.irem, 1) := by decide +kernel
theorem dL_acts_518 : decode cL_acts 518 = .ok (.iadd, 1) := by decide +kernel
theorem dL_acts_519 : decode cL_acts 519 = .ok (.istore 6, 2) := by decide +kernel
theorem dL_acts_521 : decode cL_acts 521 = .ok (.aload_n 1, 1) := by decide +kernel
theorem dL_acts_522 : decode cL_acts 522 = .ok (.iconst 1, 1) := by decide +kernel
theorem dL_acts_523 : decode cL_acts 523 = .ok (.iaload, 1) := by decide +kernel
end
section
theorem dL_acts_524 : decode cL_acts 524 = .ok (.iload 6, 2) := by decide +kernel
theorem dL_acts_526 : decode cL_acts 526 = .ok (.iadd, 1) := by decide +kernel
theorem dL_acts_527 : decode cL_acts 527 = .ok (.sipush 9999, 3) := by decide +kernel
theorem dL_acts_530 : decode cL_acts 530 = .ok (.if_icmp .le 20, 3) := by decide +kernel
theorem dL_acts_533 : decode cL_acts 533 = .ok (.aload_n 0, 1) := by decide +kernel
theorem dL_acts_534 : decode cL_acts 534 = .ok (.iload 6, 2) := by decide +kernel
theorem dL_acts_536 : decode cL_acts 536 = .ok (.invokevirtual 79, 3) := by decide +kernel
theorem dL_acts_539 : decode cL_acts 539 = .ok (.ldc 24, 2) := by decide +kernel
theorem dL_acts_541 : decode cL_acts 541 = .ok (.if_icmp .ne 7, 3) := by decide +kernel
theorem dL_acts_544 : decode cL_acts 544 = .ok (.iconst 1, 1) := by decide +kernel
theorem dL_acts_545 : decode cL_acts 545 = .ok (.goto 4, 3) := by decide +kernel
theorem dL_acts_548 : decode cL_acts 548 = .ok (.iconst 0, 1) := by decide +kernel
theorem dL_acts_549 : decode cL_acts 549 = .ok (.ireturn, 1) := by decide +kernel
theorem dL_acts_550 : decode cL_acts 550 = .ok (.aload_n 1, 1) := by decide +kernel
theorem dL_acts_551 : decode cL_acts 551 = .ok (.aload_n 2, 1) := by decide +kernel
theorem dL_acts_552 : decode cL_acts 552 = .ok (.iload 6, 2) := by decide +kernel
theorem dL_acts_554 : decode cL_acts 554 = .ok (.invokestatic 82, 3) := by decide +kernel
theorem dL_acts_557 : decode cL_acts 557 = .ok (.istore 7, 2) := by decide +kernel
theorem dL_acts_559 : decode cL_acts 559 = .ok (.aload_n 0, 1) := by decide +kernel
theorem dL_acts_560 : decode cL_acts 560 = .ok (.iload 6, 2) := by decide +kernel
theorem dL_acts_562 : decode cL_acts 562 = .ok (.invokevirtual 79, 3) := by decide +kernel
theorem dL_acts_565 : decode cL_acts 565 = .ok (.iload 7, 2) := by decide +kernel
theorem dL_acts_567 : decode cL_acts 567 = .ok (.if_icmp .ne 7, 3) := by decide +kernel
theorem dL_acts_570 : decode cL_acts 570 = .ok (.iconst 1, 1) := by decide +kernel
theorem dL_acts_571 : decode cL_acts 571 = .ok (.goto 4, 3) := by decide +kernel
theorem dL_acts_574 : decode cL_acts 574 = .ok (.iconst 0, 1) := by decide +kernel
theorem dL_acts_575 : decode cL_acts 575 = .ok (.ireturn, 1) := by decide +kernel
theorem dL_acts_576 : decode cL_acts 576 = .ok (.iload 4, 2) := by decide +kernel
theorem dL_acts_578 : decode cL_acts 578 = .ok (.iconst 4, 1) := by decide +kernel
theorem dL_acts_579 : decode cL_acts 579 = .ok (.irem, 1) := by decide +kernel
theorem dL_acts_580 : decode cL_acts 580 = .ok (.istore 6, 2) := by decide +kernel
theorem dL_acts_582 : decode cL_acts 582 = .ok (.aload_n 1, 1) := by decide +kernel
theorem dL_acts_583 : decode cL_acts 583 = .ok (.bipush 10, 2) := by decide +kernel
theorem dL_acts_585 : decode cL_acts 585 = .ok (.iload 6, 2) := by decide +kernel
theorem dL_acts_587 : decode cL_acts 587 = .ok (.iadd, 1) := by decide +kernel
theorem dL_acts_588 : decode cL_acts 588 = .ok (.iaload, 1) := by decide +kernel
theorem dL_acts_589 : decode cL_acts 589 = .ok (.istore 7, 2) := by decide +kernel
theorem dL_acts_591 : decode cL_acts 591 = .ok (.aload_n 1, 1) := by decide +kernel
theorem dL_acts_592 : decode cL_acts 592 = .ok (.bipush 10, 2) := by decide +kernel
theorem dL_acts_594 : decode cL_acts 594 = .ok (.iload 6, 2) := by decide +kernel
theorem dL_acts_596 : decode cL_acts 596 = .ok (.iadd, 1) := by decide +kernel
theorem dL_acts_597 : decode cL_acts 597 = .ok (.iload 6, 2) := by decide +kernel
theorem dL_acts_599 : decode cL_acts 599 = .ok (.ifCond .ne 15, 3) := by decide +kernel
theorem dL_acts_602 : decode cL_acts 602 = .ok (.iconst 1, 1) := by decide +kernel
theorem dL_acts_603 : decode cL_acts 603 = .ok (.iload 4, 2) := by decide +kernel
theorem dL_acts_605 : decode cL_acts 605 = .ok (.iconst 4, 1) := by decide +kernel
theorem dL_acts_606 : decode cL_acts 606 = .ok (.idiv, 1) := by decide +kernel
theorem dL_acts_607 : decode cL_acts 607 = .ok (.bipush 99, 2) := by decide +kernel
theorem dL_acts_609 : decode cL_acts 609 = .ok (.irem, 1) := by decide +kernel
theorem dL_acts_610 : decode cL_acts 610 = .ok (.iadd, 1) := by decide +kernel
theorem dL_acts_611 : decode cL_acts 611 = .ok (.goto 45, 3) := by decide +kernel
theorem dL_acts_614 : decode cL_acts 614 = .ok (.iload 6, 2) := by decide +kernel
theorem dL_acts_616 : decode cL_acts 616 = .ok (.iconst 1, 1) := by decide +kernel
theorem dL_acts_617 : decode cL_acts 617 = .ok (.if_icmp .ne 15, 3) := by decide +kernel
theorem dL_acts_620 : decode cL_acts 620 = .ok (.iconst 1, 1) := by decide +kernel
theorem dL_acts_621 : decode cL_acts 621 = .ok (.iload 4, 2) := by decide +kernel
theorem dL_acts_623 : decode cL_acts 623 = .ok (.iconst 4, 1) := by decide +kernel
theorem dL_acts_624 : decode cL_acts 624 = .ok (.idiv, 1) := by decide +kernel
theorem dL_acts_625 : decode cL_acts 625 = .ok (.bipush 24, 2) := by decide +kernel
theorem dL_acts_627 : decode cL_acts 627 = .ok (.irem, 1) := by decide +kernel
theorem dL_acts_628 : decode cL_acts 628 = .ok (.iadd, 1) := by decide +kernel
theorem dL_acts_629 : decode cL_acts 629 = .ok (.goto 27, 3) := by decide +kernel
theorem dL_acts_632 : decode cL_acts 632 = .ok (.iload 6, 2) := by decide +kernel
theorem dL_acts_634 : decode cL_acts 634 = .ok (.iconst 2, 1) := by decide +kernel
theorem dL_acts_635 : decode cL_acts 635 = .ok (.if_icmp .ne 13, 3) := by decide +kernel
theorem dL_acts_638 : decode cL_acts 638 = .ok (.iload 4, 2) := by decide +kernel
theorem dL_acts_640 : decode cL_acts 640 = .ok (.iconst 4, 1) := by decide +kernel
theorem dL_acts_641 : decode cL_acts 641 = .ok (.idiv, 1) := by decide +kernel
theorem dL_acts_642 : decode cL_acts 642 = .ok (.bipush 21, 2) := by decide +kernel
theorem dL_acts_644 : decode cL_acts 644 = .ok (.irem, 1) := by decide +kernel
theorem dL_acts_645 : decode cL_acts 645 = .ok (.goto 11, 3) := by decide +kernel
theorem dL_acts_648 : decode cL_acts 648 = .ok (.iload 4, 2) := by decide +kernel
theorem dL_acts_650 : decode cL_acts 650 = .ok (.iconst 4, 1) := by decide +kernel
theorem dL_acts_651 : decode cL_acts 651 = .ok (.idiv, 1) := by decide +kernel
theorem dL_acts_652 : decode cL_acts 652 = .ok (.sipush 501, 3) := by decide +kernel
theorem dL_acts_655 : decode cL_acts 655 = .ok (.irem, 1) := by decide +kernel
theorem dL_acts_656 : decode cL_acts 656 = .ok (.iastore, 1) := by decide +kernel
theorem dL_acts_657 : decode cL_acts 657 = .ok (.aload_n 0, 1) := by decide +kernel
theorem dL_acts_658 : decode cL_acts 658 = .ok (.iload 6, 2) := by decide +kernel
theorem dL_acts_660 : decode cL_acts 660 = .ok (.aload_n 1, 1) := by decide +kernel
theorem dL_acts_661 : decode cL_acts 661 = .ok (.bipush 10, 2) := by decide +kernel
theorem dL_acts_663 : decode cL_acts 663 = .ok (.iload 6, 2) := by decide +kernel
theorem dL_acts_665 : decode cL_acts 665 = .ok (.iadd, 1) := by decide +kernel
theorem dL_acts_666 : decode cL_acts 666 = .ok (.iaload, 1) := by decide +kernel
theorem dL_acts_667 : decode cL_acts 667 = .ok (.invokevirtual 85, 3) := by decide +kernel
theorem dL_acts_670 : decode cL_acts 670 = .ok (.iload 7, 2) := by decide +kernel
theorem dL_acts_672 : decode cL_acts 672 = .ok (.if_icmp .ne 7, 3) := by decide +kernel
theorem dL_acts_675 : decode cL_acts 675 = .ok (.iconst 1, 1) := by decide +kernel
theorem dL_acts_676 : decode cL_acts 676 = .ok (.goto 4, 3) := by decide +kernel
theorem dL_acts_679 : decode cL_acts 679 = .ok (.iconst 0, 1) := by decide +kernel
theorem dL_acts_680 : decode cL_acts 680 = .ok (.ireturn, 1) := by decide +kernel
set_option maxRecDepth 20000 in
theorem ggL_areSmithies_X3_smithyOf : GoodIn wsL_areSmithies wsX3_smithyOf := goodIn_r _ [6, 7, 8, 9, 10, 11, 12, 13, 14, 15, 16, 17, 18, 19, 20, 21, 22, 23, 24, 25, 26, 5, 27, 28, 29, 30, 31, 32, 33, 34, 35, 36, 37, 38, 39, 40, 41, 42, 136, 137, 138, 139, 140, 141, 142, 143, 144, 145, 146, 147, 148, 149, 150, 151, 152, 153, 154, 155, 156, 157, 158, 159, 160, 161, 162, 163, 164, 165, 166, 167] (by decide +kernel) (by decide +kernel)
set_option maxRecDepth 20000 in
theorem gL_areSmithies_X3_smithyOf : GoodIn wsL_areSmithies (wsV RL 88 RX3 yX3_smithyOf wsX3_smithyOf) := goodIn_app (goodIn_of _ (by decide +kernel)) ggL_areSmithies_X3_smithyOf
set_option maxRecDepth 20000 in
theorem ggL_areSmithies_X3_why : GoodIn wsL_areSmithies wsX3_why := goodIn_r _ [46, 7, 8, 18, 19, 20, 21, 22, 23, 24, 47, 48, 5, 49, 50, 51, 52, 53, 54, 55, 56, 57, 58, 59, 60, 61, 62, 63, 64, 65, 66, 41, 42, 67, 68, 69, 70, 71, 72, 73, 136, 137, 138, 139, 140, 141, 142, 143, 144, 153, 154, 155, 156, 157, 158, 159, 160, 161, 162, 163, 164, 165, 166, 167, 145, 146, 147, 148, 149, 150, 151, 152] (by decide +kernel) (by decide +kernel)
set_option maxRecDepth 20000 in
theorem gL_areSmithies_X3_why : GoodIn wsL_areSmithies (wsV RL 91 RX3 yX3_why wsX3_why) := goodIn_app (goodIn_of _ (by decide +kernel)) ggL_areSmithies_X3_why
set_option maxRecDepth 20000 in
theorem ggL_areSmithies_X3_mend : GoodIn wsL_areSmithies wsX3_mend := goodIn_r _ [77, 7, 8, 18, 19, 20, 21, 22, 23, 24, 47, 48, 5, 49, 78, 58, 59, 79, 61, 62, 63, 64, 65, 66, 41, 42, 80, 81, 82, 83, 84, 60, 85, 86, 87, 88, 136, 137, 138, 139, 140, 141, 142, 143, 144, 153, 154, 155, 156, 157, 158, 159, 160, 161, 162, 163, 164, 165, 166, 167, 145, 146, 147, 148, 149, 150, 151, 152] (by decide +kernel) (by decide +kernel)
set_option maxRecDepth 20000 in
theorem gL_areSmithies_X3_mend : GoodIn wsL_areSmithies (wsV RL 93 RX3 yX3_mend wsX3_mend) := goodIn_app (goodIn_of _ (by decide +kernel)) ggL_areSmithies_X3_mend
set_option maxRecDepth 20000 in
theorem ggL_areSmithies_L_apart : GoodIn wsL_areSmithies wsL_apart := goodIn_r _ [92] (by decide +kernel) (by decide +kernel)
set_option maxRecDepth 20000 in
theorem gL_areSmithies_L_apart : GoodIn wsL_areSmithies (va_wsS RL 19 yL_apart wsL_apart) := goodIn_app (goodIn_of _ (by decide +kernel)) ggL_areSmithies_L_apart
set_option maxRecDepth 20000 in
theorem ggL_areSmithies_L_tens : GoodIn wsL_areSmithies wsL_tens := goodIn_r _ [95] (by decide +kernel) (by decide +kernel)
set_option maxRecDepth 20000 in
theorem gL_areSmithies_L_tens : GoodIn wsL_areSmithies (va_wsS RL 9 yL_tens wsL_tens) := goodIn_app (goodIn_of _ (by decide +kernel)) ggL_areSmithies_L_tens
set_option maxRecDepth 20000 in
theorem ggL_areSmithies_L_why : GoodIn wsL_areSmithies wsL_why := goodIn_r _ [98, 99, 100, 91, 101, 93, 94, 95] (by decide +kernel) (by decide +kernel)
set_option maxRecDepth 20000 in
theorem gL_areSmithies_L_why : GoodIn wsL_areSmithies (va_wsS RL 25 yL_why wsL_why) := goodIn_app (goodIn_of _ (by decide +kernel)) ggL_areSmithies_L_why
set_option maxRecDepth 20000 in
theorem ggL_areSmithies_L_takes : GoodIn wsL_areSmithies wsL_takes := goodIn_r _ [101, 93, 94, 91, 95] (by decide +kernel) (by decide +kernel)
set_option maxRecDepth 20000 in
theorem gL_areSmithies_L_takes : GoodIn wsL_areSmithies (va_wsS RL 15 yL_takes wsL_takes) := goodIn_app (goodIn_of _ (by decide +kernel)) ggL_areSmithies_L_takes
set_option maxRecDepth 20000 in
theorem ggL_areSmithies_L_owes : GoodIn wsL_areSmithies wsL_owes := goodIn_r _ [104, 99, 100, 91, 101, 93, 94, 95] (by decide +kernel) (by decide +kernel)
set_option maxRecDepth 20000 in
theorem gL_areSmithies_L_owes : GoodIn wsL_areSmithies (va_wsS RL 29 yL_owes wsL_owes) := goodIn_app (goodIn_of _ (by decide +kernel)) ggL_areSmithies_L_owes
set_option maxRecDepth 20000 in
theorem ggL_areSmithies_X3_count : GoodIn wsL_areSmithies wsX3_count := goodIn_r _ [108, 7, 109, 110, 17, 111, 112, 113, 114, 115, 116, 117, 118, 119, 120, 121, 122, 123, 124, 8, 125, 126, 127, 21, 128, 23, 71, 129, 19, 20, 22, 24, 130, 131, 132, 133, 134, 135, 29, 30, 31, 32, 136, 137, 138, 139, 140, 141, 142, 143, 144, 153, 154, 155, 156, 157, 158, 159, 160, 161, 162, 163, 164, 165, 166, 167, 168, 169, 170, 171, 172, 173, 145, 146, 147, 148, 149, 150, 151, 152] (by decide +kernel) (by decide +kernel)
set_option maxRecDepth 20000 in
theorem gL_areSmithies_X3_count : GoodIn wsL_areSmithies (wsV RL 97 RX3 yX3_count wsX3_count) := goodIn_app (goodIn_of _ (by decide +kernel)) ggL_areSmithies_X3_count
theorem dL_areSmithies_0 : decode cL_areSmithies 0 = .ok (.iconst 0, 1) := by decide +kernel
theorem dL_areSmithies_1 : decode cL_areSmithies 1 = .ok (.istore_n 3, 1) := by decide +kernel
theorem dL_areSmithies_2 : decode cL_areSmithies 2 = .ok (.iconst 0, 1) := by decide +kernel
theorem dL_areSmithies_3 : decode cL_areSmithies 3 = .ok (.istore 4, 2) := by decide +kernel
theorem dL_areSmithies_5 : decode cL_areSmithies 5 = .ok (.aload_n 0, 1) := by decide +kernel
theorem dL_areSmithies_6 : decode cL_areSmithies 6 = .ok (.aload_n 1, 1) := by decide +kernel
theorem dL_areSmithies_7 : decode cL_areSmithies 7 = .ok (.iconst 0, 1) := by decide +kernel
theorem dL_areSmithies_8 : decode cL_areSmithies 8 = .ok (.iaload, 1) := by decide +kernel
theorem dL_areSmithies_9 : decode cL_areSmithies 9 = .ok (.iconst 0, 1) := by decide +kernel
theorem dL_areSmithies_10 : decode cL_areSmithies 10 = .ok (.invokevirtual 88, 3) := by decide +kernel
theorem dL_areSmithies_13 : decode cL_areSmithies 13 = .ok (.ldc 65, 2) := by decide +kernel
theorem dL_areSmithies_15 : decode cL_areSmithies 15 = .ok (.if_icmp .ne 45, 3) := by decide +kernel
theorem dL_areSmithies_18 : decode cL_areSmithies 18 = .ok (.aload_n 0, 1) := by decide +kernel
theorem dL_areSmithies_19 : decode cL_areSmithies 19 = .ok (.iconst (-1), 1) := by decide +kernel
theorem dL_areSmithies_20 : decode cL_areSmithies 20 = .ok (.iconst 0, 1) := by decide +kernel
theorem dL_areSmithies_21 : decode cL_areSmithies 21 = .ok (.invokevirtual 88, 3) := by decide +kernel
theorem dL_areSmithies_24 : decode cL_areSmithies 24 = .ok (.ldc 65, 2) := by decide +kernel
theorem dL_areSmithies_26 : decode cL_areSmithies 26 = .ok (.if_icmp .ne 34, 3) := by decide +kernel
theorem dL_areSmithies_29 : decode cL_areSmithies 29 = .ok (.aload_n 0, 1) := by decide +kernel
theorem dL_areSmithies_30 : decode cL_areSmithies 30 = .ok (.aload_n 1, 1) := by decide +kernel
theorem dL_areSmithies_31 : decode cL_areSmithies 31 = .ok (.iconst 0, 1) := by decide +kernel
theorem dL_areSmithies_32 : decode cL_areSmithies 32 = .ok (.iaload, 1) := by decide +kernel
theorem dL_areSmithies_33 : decode cL_areSmithies 33 = .ok (.iconst 0, 1) := by decide +kernel
theorem dL_areSmithies_34 : decode cL_areSmithies 34 = .ok (.invokevirtual 91, 3) := by decide +kernel
theorem dL_areSmithies_37 : decode cL_areSmithies 37 = .ok (.ldc 65, 2) := by decide +kernel
theorem dL_areSmithies_39 : decode cL_areSmithies 39 = .ok (.if_icmp .ne 21, 3) := by decide +kernel
theorem dL_areSmithies_42 : decode cL_areSmithies 42 = .ok (.aload_n 0, 1) := by decide +kernel
theorem dL_areSmithies_43 : decode cL_areSmithies 43 = .ok (.aload_n 1, 1) := by decide +kernel
theorem dL_areSmithies_44 : decode cL_areSmithies 44 = .ok (.iconst 0, 1) := by decide +kernel
theorem dL_areSmithies_45 : decode cL_areSmithies 45 = .ok (.iaload, 1) := by decide +kernel
theorem dL_areSmithies_46 : decode cL_areSmithies 46 = .ok (.iconst 0, 1) := by decide +kernel
theorem dL_areSmithies_47 : decode cL_areSmithies 47 = .ok (.iconst 0, 1) := by decide +kernel
theorem dL_areSmithies_48 : decode cL_areSmithies 48 = .ok (.invokevirtual 93, 3) := by decide +kernel
theorem dL_areSmithies_51 : decode cL_areSmithies 51 = .ok (.ldc 65, 2) := by decide +kernel
theorem dL_areSmithies_53 : decode cL_areSmithies 53 = .ok (.if_icmp .ne 7, 3) := by decide +kernel
theorem dL_areSmithies_56 : decode cL_areSmithies 56 = .ok (.iconst 1, 1) := by decide +kernel
theorem dL_areSmithies_57 : decode cL_areSmithies 57 = .ok (.goto 4, 3) := by decide +kernel
theorem dL_areSmithies_60 : decode cL_areSmithies 60 = .ok (.iconst 0, 1) := by decide +kernel
theorem dL_areSmithies_61 : decode cL_areSmithies 61 = .ok (.istore 5, 2) := by decide +kernel
theorem dL_areSmithies_63 : decode cL_areSmithies 63 = .ok (.iconst 0, 1) := by decide +kernel
theorem dL_areSmithies_64 : decode cL_areSmithies 64 = .ok (.istore 6, 2) := by decide +kernel
theorem dL_areSmithies_66 : decode cL_areSmithies 66 = .ok (.iload 6, 2) := by decide +kernel
theorem dL_areSmithies_68 : decode cL_areSmithies 68 = .ok (.aload_n 1, 1) := by decide +kernel
theorem dL_areSmithies_69 : decode cL_areSmithies 69 = .ok (.iconst 0, 1) := by decide +kernel
theorem dL_areSmithies_70 : decode cL_areSmithies 70 = .ok (.iaload, 1) := by decide +kernel
theorem dL_areSmithies_71 : decode cL_areSmithies 71 = .ok (.if_icmp .ge 478, 3) := by decide +kernel
theorem dL_areSmithies_74 : decode cL_areSmithies 74 = .ok (.iload 5, 2) := by decide +kernel
theorem dL_areSmithies_76 : decode cL_areSmithies 76 = .ok (.ifCond .eq 473, 3) := by decide +kernel
theorem dL_areSmithies_79 : decode cL_areSmithies 79 = .ok (.bipush 8, 2) := by decide +kernel
theorem dL_areSmithies_81 : decode cL_areSmithies 81 = .ok (.iload 6, 2) := by decide +kernel
theorem dL_areSmithies_83 : decode cL_areSmithies 83 = .ok (.imul, 1) := by decide +kernel
theorem dL_areSmithies_84 : decode cL_areSmithies 84 = .ok (.istore 7, 2) := by decide +kernel
theorem dL_areSmithies_86 : decode cL_areSmithies 86 = .ok (.iload_n 3, 1) := by decide +kernel
theorem dL_areSmithies_87 : decode cL_areSmithies 87 = .ok (.aload_n 2, 1) := by decide +kernel
theorem dL_areSmithies_88 : decode cL_areSmithies 88 = .ok (.iload 7, 2) := by decide +kernel
theorem dL_areSmithies_90 : decode cL_areSmithies 90 = .ok (.iconst 5, 1) := by decide +kernel
theorem dL_areSmithies_91 : decode cL_areSmithies 91 = .ok (.iadd, 1) := by decide +kernel
theorem dL_areSmithies_92 : decode cL_areSmithies 92 = .ok (.iaload, 1) := by decide +kernel
theorem dL_areSmithies_93 : decode cL_areSmithies 93 = .ok (.iadd, 1) := by decide +kernel
theorem dL_areSmithies_94 : decode cL_areSmithies 94 = .ok (.istore_n 3, 1) := by decide +kernel
theorem dL_areSmithies_95 : decode cL_areSmithies 95 = .ok (.iload 4, 2) := by decide +kernel
theorem dL_areSmithies_97 : decode cL_areSmithies 97 = .ok (.aload_n 2, 1) := by decide +kernel
theorem dL_areSmithies_98 : decode cL_areSmithies 98 = .ok (.iload 7, 2) := by decide +kernel
theorem dL_areSmithies_100 : decode cL_areSmithies 100 = .ok (.bipush 6, 2) := by decide +kernel
theorem dL_areSmithies_102 : decode cL_areSmithies 102 = .ok (.iadd, 1) := by decide +kernel
theorem dL_areSmithies_103 : decode cL_areSmithies 103 = .ok (.iaload, 1) := by decide +kernel
theorem dL_areSmithies_104 : decode cL_areSmithies 104 = .ok (.iadd, 1) := by decide +kernel
theorem dL_areSmithies_105 : decode cL_areSmithies 105 = .ok (.istore 4, 2) := by decide +kernel
theorem dL_areSmithies_107 : decode cL_areSmithies 107 = .ok (.aload_n 0, 1) := by decide +kernel
theorem dL_areSmithies_108 : decode cL_areSmithies 108 = .ok (.iload 6, 2) := by decide +kernel
theorem dL_areSmithies_110 : decode cL_areSmithies 110 = .ok (.iconst 0, 1) := by decide +kernel
theorem dL_areSmithies_111 : decode cL_areSmithies 111 = .ok (.invokevirtual 88, 3) := by decide +kernel
theorem dL_areSmithies_114 : decode cL_areSmithies 114 = .ok (.aload_n 2, 1) := by decide +kernel
theorem dL_areSmithies_115 : decode cL_areSmithies 115 = .ok (.iload 7, 2) := by decide +kernel
theorem dL_areSmithies_117 : decode cL_areSmithies 117 = .ok (.iaload, 1) := by decide +kernel
theorem dL_areSmithies_118 : decode cL_areSmithies 118 = .ok (.if_icmp .ne 209, 3) := by decide +kernel
theorem dL_areSmithies_121 : decode cL_areSmithies 121 = .ok (.aload_n 0, 1) := by decide +kernel
theorem dL_areSmithies_122 : decode cL_areSmithies 122 = .ok (.iload 6, 2) := by decide +kernel
theorem dL_areSmithies_124 : decode cL_areSmithies 124 = .ok (.iconst 1, 1) := by decide +kernel
theorem dL_areSmithies_125 : decode cL_areSmithies 125 = .ok (.invokevirtual 88, 3) := by decide +kernel
theorem dL_areSmithies_128 : decode cL_areSmithies 128 = .ok (.aload_n 2, 1) := by decide +kernel
theorem dL_areSmithies_129 : decode cL_areSmithies 129 = .ok (.iload 7, 2) := by decide +kernel
theorem dL_areSmithies_131 : decode cL_areSmithies 131 = .ok (.iconst 1, 1) := by decide +kernel
theorem dL_areSmithies_132 : decode cL_areSmithies 132 = .ok (.iadd, 1) := by decide +kernel
theorem dL_areSmithies_133 : decode cL_areSmithies 133 = .ok (.iaload, 1) := by decide +kernel
theorem dL_areSmithies_134 : decode cL_areSmithies 134 = .ok (.if_icmp .ne 193, 3) := by decide +kernel
theorem dL_areSmithies_137 : decode cL_areSmithies 137 = .ok (.aload_n 0, 1) := by decide +kernel
theorem dL_areSmithies_138 : decode cL_areSmithies 138 = .ok (.iload 6, 2) := by decide +kernel
theorem dL_areSmithies_140 : decode cL_areSmithies 140 = .ok (.iconst 2, 1) := by decide +kernel
theorem dL_areSmithies_141 : decode cL_areSmithies 141 = .ok (.invokevirtual 88, 3) := by decide +kernel
theorem dL_areSmithies_144 : decode cL_areSmithies 144 = .ok (.aload_n 2, 1) := by decide +kernel
theorem dL_areSmithies_145 : decode cL_areSmithies 145 = .ok (.iload 7, 2) := by decide +kernel
theorem dL_areSmithies_147 : decode cL_areSmithies 147 = .ok (.iconst 2, 1) := by decide +kernel
theorem dL_areSmithies_148 : decode cL_areSmithies 148 = .ok (.iadd, 1) := by decide +kernel
theorem dL_areSmithies_149 : decode cL_areSmithies 149 = .ok (.iaload, 1) := by decide +kernel
theorem dL_areSmithies_150 : decode cL_areSmithies 150 = .ok (.if_icmp .ne 177, 3) := by decide +kernel
theorem dL_areSmithies_153 : decode cL_areSmithies 153 = .ok (.aload_n 0, 1) := by decide +kernel
theorem dL_areSmithies_154 : decode cL_areSmithies 154 = .ok (.iload 6, 2) := by decide +kernel
theorem dL_areSmithies_156 : decode cL_areSmithies 156 = .ok (.iconst 3, 1) := by decide +kernel
theorem dL_areSmithies_157 : decode cL_areSmithies 157 = .ok (.invokevirtual 88, 3) := by decide +kernel
theorem dL_areSmithies_160 : decode cL_areSmithies 160 = .ok (.aload_n 2, 1) := by decide +kernel
theorem dL_areSmithies_161 : decode cL_areSmithies 161 = .ok (.iload 7, 2) := by decide +kernel
theorem dL_areSmithies_163 : decode cL_areSmithies 163 = .ok (.iconst 2, 1) := by decide +kernel
theorem dL_areSmithies_164 : decode cL_areSmithies 164 = .ok (.iadd, 1) := by decide +kernel
theorem dL_areSmithies_165 : decode cL_areSmithies 165 = .ok (.iaload, 1) := by decide +kernel
theorem dL_areSmithies_166 : decode cL_areSmithies 166 = .ok (.bipush 10, 2) := by decide +kernel
theorem dL_areSmithies_168 : decode cL_areSmithies 168 = .ok (.idiv, 1) := by decide +kernel
theorem dL_areSmithies_169 : decode cL_areSmithies 169 = .ok (.if_icmp .ne 158, 3) := by decide +kernel
theorem dL_areSmithies_172 : decode cL_areSmithies 172 = .ok (.aload_n 0, 1) := by decide +kernel
theorem dL_areSmithies_173 : decode cL_areSmithies 173 = .ok (.iload 6, 2) := by decide +kernel
theorem dL_areSmithies_175 : decode cL_areSmithies 175 = .ok (.iconst 4, 1) := by decide +kernel
theorem dL_areSmithies_176 : decode cL_areSmithies 176 = .ok (.invokevirtual 88, 3) := by decide +kernel
theorem dL_areSmithies_179 : decode cL_areSmithies 179 = .ok (.aload_n 2, 1) := by decide +kernel
theorem dL_areSmithies_180 : decode cL_areSmithies 180 = .ok (.iload 7, 2) := by decide +kernel
theorem dL_areSmithies_182 : decode cL_areSmithies 182 = .ok (.iconst 3, 1) := by decide +kernel
theorem dL_areSmithies_183 : decode cL_areSmithies 183 = .ok (.iadd, 1) := by decide +kernel
theorem dL_areSmithies_184 : decode cL_areSmithies 184 = .ok (.iaload, 1) := by decide +kernel
theorem dL_areSmithies_185 : decode cL_areSmithies 185 = .ok (.if_icmp .ne 142, 3) := by decide +kernel
theorem dL_areSmithies_188 : decode cL_areSmithies 188 = .ok (.aload_n 0, 1) := by decide +kernel
theorem dL_areSmithies_189 : decode cL_areSmithies 189 = .ok (.iload 6, 2) := by decide +kernel
theorem dL_areSmithies_191 : decode cL_areSmithies 191 = .ok (.iconst 5, 1) := by decide +kernel
theorem dL_areSmithies_192 : decode cL_areSmithies 192 = .ok (.invokevirtual 88, 3) := by decide +kernel
theorem dL_areSmithies_195 : decode cL_areSmithies 195 = .ok (.aload_n 2, 1) := by decide +kernel
theorem dL_areSmithies_196 : decode cL_areSmithies 196 = .ok (.iload 7, 2) := by decide +kernel
theorem dL_areSmithies_198 : decode cL_areSmithies 198 = .ok (.iconst 3, 1) := by decide +kernel
theorem dL_areSmithies_199 : decode cL_areSmithies 199 = .ok (.iadd, 1) := by decide +kernel
theorem dL_areSmithies_200 : decode cL_areSmithies 200 = .ok (.iaload, 1) := by decide +kernel
theorem dL_areSmithies_201 : decode cL_areSmithies 201 = .ok (.aload_n 1, 1) := by decide +kernel
theorem dL_areSmithies_202 : decode cL_areSmithies 202 = .ok (.bipush 10, 2) := by decide +kernel
theorem dL_areSmithies_204 : decode cL_areSmithies 204 = .ok (.iaload, 1) := by decide +kernel
theorem dL_areSmithies_205 : decode cL_areSmithies 205 = .ok (.if_icmp .ge 7, 3) := by decide +kernel
theorem dL_areSmithies_208 : decode cL_areSmithies 208 = .ok (.iconst 1, 1) := by decide +kernel
theorem dL_areSmithies_209 : decode cL_areSmithies 209 = .ok (.goto 4, 3) := by decide +kernel
theorem dL_areSmithies_212 : decode cL_areSmithies 212 = .ok (.iconst 0, 1) := by decide +kernel
theorem dL_areSmithies_213 : decode cL_areSmithies 213 = .ok (.if_icmp .ne 114, 3) := by decide +kernel
theorem dL_areSmithies_216 : decode cL_areSmithies 216 = .ok (.aload_n 0, 1) := by decide +kernel
theorem dL_areSmithies_217 : decode cL_areSmithies 217 = .ok (.iload 6, 2) := by decide +kernel
theorem dL_areSmithies_219 : decode cL_areSmithies 219 = .ok (.bipush 6, 2) := by decide +kernel
theorem dL_areSmithies_221 : decode cL_areSmithies 221 = .ok (.invokevirtual 88, 3) := by decide +kernel
theorem dL_areSmithies_224 : decode cL_areSmithies 224 = .ok (.aload_n 2, 1) := by decide +kernel
theorem dL_areSmithies_225 : decode cL_areSmithies 225 = .ok (.iload 7, 2) := by decide +kernel
theorem dL_areSmithies_227 : decode cL_areSmithies 227 = .ok (.iconst 4, 1) := by decide +kernel
theorem dL_areSmithies_228 : decode cL_areSmithies 228 = .ok (.iadd, 1) := by decide +kernel
theorem dL_areSmithies_229 : decode cL_areSmithies 229 = .ok (.iaload, 1) := by decide +kernel
theorem dL_areSmithies_230 : decode cL_areSmithies 230 = .ok (.if_icmp .ne 97, 3) := by decide +kernel
theorem dL_areSmithies_233 : decode cL_areSmithies 233 = .ok (.aload_n 0, 1) := by decide +kernel
theorem dL_areSmithies_234 : decode cL_areSmithies 234 = .ok (.iload 6, 2) := by decide +kernel
theorem dL_areSmithies_236 : decode cL_areSmithies 236 = .ok (.bipush 7, 2) := by decide +kernel
theorem dL_areSmithies_238 : decode cL_areSmithies 238 = .ok (.invokevirtual 88, 3) := by decide +kernel
theorem dL_areSmithies_241 : decode cL_areSmithies 241 = .ok (.aload_n 2, 1) := by decide +kernel
theorem dL_areSmithies_242 : decode cL_areSmithies 242 = .ok (.iload 7, 2) := by decide +kernel
theorem dL_areSmithies_244 : decode cL_areSmithies 244 = .ok (.iconst 5, 1) := by decide +kernel
theorem dL_areSmithies_245 : decode cL_areSmithies 245 = .ok (.iadd, 1) := by decide +kernel
theorem dL_areSmithies_246 : decode cL_areSmithies 246 = .ok (.iaload, 1) := by decide +kernel
theorem dL_areSmithies_247 : decode cL_areSmithies 247 = .ok (.if_icmp .ne 80, 3) := by decide +kernel
theorem dL_areSmithies_250 : decode cL_areSmithies 250 = .ok (.aload_n 0, 1) := by decide +kernel
theorem dL_areSmithies_251 : decode cL_areSmithies 251 = .ok (.iload 6, 2) := by decide +kernel
theorem dL_areSmithies_253 : decode cL_areSmithies 253 = .ok (.bipush 8, 2) := by decide +kernel
theorem dL_areSmithies_255 : decode cL_areSmithies 255 = .ok (.invokevirtual 88, 3) := by decide +kernel
theorem dL_areSmithies_258 : decode cL_areSmithies 258 = .ok (.aload_n 2, 1) := by decide +kernel
theorem dL_areSmithies_259 : decode cL_areSmithies 259 = .ok (.iload 7, 2) := by decide +kernel
theorem dL_areSmithies_261 : decode cL_areSmithies 261 = .ok (.bipush 6, 2) := by decide +kernel
theorem dL_areSmithies_263 : decode cL_areSmithies 263 = .ok (.iadd, 1) := by decide +kernel
theorem dL_areSmithies_264 : decode cL_areSmithies 264 = .ok (.iaload, 1) := by decide +kernel
theorem dL_areSmithies_265 : decode cL_areSmithies 265 = .ok (.if_icmp .ne 62, 3) := by decide +kernel
theorem dL_areSmithies_268 : decode cL_areSmithies 268 = .ok (.aload_n 0, 1) := by decide +kernel
theorem dL_areSmithies_269 : decode cL_areSmithies 269 = .ok (.iload 6, 2) := by decide +kernel
theorem dL_areSmithies_271 : decode cL_areSmithies 271 = .ok (.bipush 9, 2) := by decide +kernel
theorem dL_areSmithies_273 : decode cL_areSmithies 273 = .ok (.invokevirtual 88, 3) := by decide +kernel
theorem dL_areSmithies_276 : decode cL_areSmithies 276 = .ok (.aload_n 2, 1) := by decide +kernel
theorem dL_areSmithies_277 : decode cL_areSmithies 277 = .ok (.iload 7, 2) := by decide +kernel
theorem dL_areSmithies_279 : decode cL_areSmithies 279 = .ok (.bipush 7, 2) := by decide +kernel
theorem dL_areSmithies_281 : decode cL_areSmithies 281 = .ok (.iadd, 1) := by decide +kernel
theorem dL_areSmithies_282 : decode cL_areSmithies 282 = .ok (.iaload, 1) := by decide +kernel
theorem dL_areSmithies_283 : decode cL_areSmithies 283 = .ok (.if_icmp .ne 44, 3) := by decide +kernel
theorem dL_areSmithies_286 : decode cL_areSmithies 286 = .ok (.aload_n 0, 1) := by decide +kernel
theorem dL_areSmithies_287 : decode cL_areSmithies 287 = .ok (.iload 6, 2) := by decide +kernel
theorem dL_areSmithies_289 : decode cL_areSmithies 289 = .ok (.bipush 10, 2) := by decide +kernel
theorem dL_areSmithies_291 : decode cL_areSmithies 291 = .ok (.invokevirtual 88, 3) := by decide +kernel
theorem dL_areSmithies_294 : decode cL_areSmithies 294 = .ok (.aload_n 1, 1) := by decide +kernel
theorem dL_areSmithies_295 : decode cL_areSmithies 295 = .ok (.iconst 2, 1) := by decide +kernel
theorem dL_areSmithies_296 : decode cL_areSmithies 296 = .ok (.iaload, 1) := by decide +kernel
theorem dL_areSmithies_297 : decode cL_areSmithies 297 = .ok (.aload_n 2, 1) := by decide +kernel
theorem dL_areSmithies_298 : decode cL_areSmithies 298 = .ok (.iload 7, 2) := by decide +kernel
theorem dL_areSmithies_300 : decode cL_areSmithies 300 = .ok (.iaload, 1) := by decide +kernel
theorem dL_areSmithies_301 : decode cL_areSmithies 301 = .ok (.invokestatic 19, 3) := by decide +kernel
theorem dL_areSmithies_304 : decode cL_areSmithies 304 = .ok (.invokestatic 9, 3) := by decide +kernel
theorem dL_areSmithies_307 : decode cL_areSmithies 307 = .ok (.if_icmp .ne 20, 3) := by decide +kernel
theorem dL_areSmithies_310 : decode cL_areSmithies 310 = .ok (.aload_n 0, 1) := by decide +kernel
theorem dL_areSmithies_311 : decode cL_areSmithies 311 = .ok (.iload 6, 2) := by decide +kernel
theorem dL_areSmithies_313 : decode cL_areSmithies 313 = .ok (.bipush 11, 2) := by decide +kernel
theorem dL_areSmithies_315 : decode cL_areSmithies 315 = .ok (.invokevirtual 88, 3) := by decide +kernel
theorem dL_areSmithies_318 : decode cL_areSmithies 318 = .ok (.ldc 65, 2) := by decide +kernel
theorem dL_areSmithies_320 : decode cL_areSmithies 320 = .ok (.if_icmp .ne 7, 3) := by decide +kernel
theorem dL_areSmithies_323 : decode cL_areSmithies 323 = .ok (.iconst 1, 1) := by decide +kernel
theorem dL_areSmithies_324 : decode cL_areSmithies 324 = .ok (.goto 4, 3) := by decide +kernel
theorem dL_areSmithies_327 : decode cL_areSmithies 327 = .ok (.iconst 0, 1) := by decide +kernel
theorem dL_areSmithies_328 : decode cL_areSmithies 328 = .ok (.istore 5, 2) := by decide +kernel
theorem dL_areSmithies_330 : decode cL_areSmithies 330 = .ok (.iconst 0, 1) := by decide +kernel
theorem dL_areSmithies_331 : decode cL_areSmithies 331 = .ok (.istore 8, 2) := by decide +kernel
theorem dL_areSmithies_333 : decode cL_areSmithies 333 = .ok (.iload 8, 2) := by decide +kernel
theorem dL_areSmithies_335 : decode cL_areSmithies 335 = .ok (.iconst 2, 1) := by decide +kernel
theorem dL_areSmithies_336 : decode cL_areSmithies 336 = .ok (.if_icmp .ge 157, 3) := by decide +kernel
theorem dL_areSmithies_339 : decode cL_areSmithies 339 = .ok (.iload 5, 2) := by decide +kernel
theorem dL_areSmithies_341 : decode cL_areSmithies 341 = .ok (.ifCond .eq 152, 3) := by decide +kernel
theorem dL_areSmithies_344 : decode cL_areSmithies 344 = .ok (.aload_n 0, 1) := by decide +kernel
theorem dL_areSmithies_345 : decode cL_areSmithies 345 = .ok (.iload 6, 2) := by decide +kernel
theorem dL_areSmithies_347 : decode cL_areSmithies 347 = .ok (.iload 8, 2) := by decide +kernel
theorem dL_areSmithies_349 : decode cL_areSmithies 349 = .ok (.invokevirtual 91, 3) := by decide +kernel
theorem dL_areSmithies_352 : decode cL_areSmithies 352 = .ok (.aload_n 1, 1) := by decide +kernel
theorem dL_areSmithies_353 : decode cL_areSmithies 353 = .ok (.aload_n 2, 1) := by decide +kernel
theorem dL_areSmithies_354 : decode cL_areSmithies 354 = .ok (.iload 7, 2) := by decide +kernel
theorem dL_areSmithies_356 : decode cL_areSmithies 356 = .ok (.iload 8, 2) := by decide +kernel
theorem dL_areSmithies_358 : decode cL_areSmithies 358 = .ok (.iconst 1, 1) := by decide +kernel
theorem dL_areSmithies_359 : decode cL_areSmithies 359 = .ok (.if_icmp .ne 7, 3) := by decide +kernel
theorem dL_areSmithies_362 : decode cL_areSmithies 362 = .ok (.iconst 1, 1) := by decide +kernel
theorem dL_areSmithies_363 : decode cL_areSmithies 363 = .ok (.goto 4, 3) := by decide +kernel
theorem dL_areSmithies_366 : decode cL_areSmithies 366 = .ok (.iconst 0, 1) := by decide +kernel
theorem dL_areSmithies_367 : decode cL_areSmithies 367 = .ok (.invokestatic 25, 3) := by decide +kernel
theorem dL_areSmithies_370 : decode cL_areSmithies 370 = .ok (.if_icmp .ne 114, 3) := by decide +kernel
theorem dL_areSmithies_373 : decode cL_areSmithies 373 = .ok (.aload_n 0, 1) := by decide +kernel
theorem dL_areSmithies_374 : decode cL_areSmithies 374 = .ok (.iload 6, 2) := by decide +kernel
theorem dL_areSmithies_376 : decode cL_areSmithies 376 = .ok (.iload 8, 2) := by decide +kernel
theorem dL_areSmithies_378 : decode cL_areSmithies 378 = .ok (.iconst 0, 1) := by decide +kernel
theorem dL_areSmithies_379 : decode cL_areSmithies 379 = .ok (.invokevirtual 93, 3) := by decide +kernel
theorem dL_areSmithies_382 : decode cL_areSmithies 382 = .ok (.iconst 1, 1) := by decide +kernel
theorem dL_areSmithies_383 : decode cL_areSmithies 383 = .ok (.iconst 2, 1) := by decide +kernel
theorem dL_areSmithies_384 : decode cL_areSmithies 384 = .ok (.iload 8, 2) := by decide +kernel
theorem dL_areSmithies_386 : decode cL_areSmithies 386 = .ok (.imul, 1) := by decide +kernel
theorem dL_areSmithies_387 : decode cL_areSmithies 387 = .ok (.iadd, 1) := by decide +kernel
theorem dL_areSmithies_388 : decode cL_areSmithies 388 = .ok (.if_icmp .ne 96, 3) := by decide +kernel
theorem dL_areSmithies_391 : decode cL_areSmithies 391 = .ok (.aload_n 0, 1) := by decide +kernel
theorem dL_areSmithies_392 : decode cL_areSmithies 392 = .ok (.iload 6, 2) := by decide +kernel
theorem dL_areSmithies_394 : decode cL_areSmithies 394 = .ok (.iload 8, 2) := by decide +kernel
theorem dL_areSmithies_396 : decode cL_areSmithies 396 = .ok (.iconst 1, 1) := by decide +kernel
theorem dL_areSmithies_397 : decode cL_areSmithies 397 = .ok (.invokevirtual 93, 3) := by decide +kernel
theorem dL_areSmithies_400 : decode cL_areSmithies 400 = .ok (.aload_n 2, 1) := by decide +kernel
theorem dL_areSmithies_401 : decode cL_areSmithies 401 = .ok (.iload 7, 2) := by decide +kernel
theorem dL_areSmithies_403 : decode cL_areSmithies 403 = .ok (.iload 8, 2) := by decide +kernel
theorem dL_areSmithies_405 : decode cL_areSmithies 405 = .ok (.iconst 1, 1) := by decide +kernel
theorem dL_areSmithies_406 : decode cL_areSmithies 406 = .ok (.if_icmp .ne 7, 3) := by decide +kernel
theorem dL_areSmithies_409 : decode cL_areSmithies 409 = .ok (.iconst 1, 1) := by decide +kernel
theorem dL_areSmithies_410 : decode cL_areSmithies 410 = .ok (.goto 4, 3) := by decide +kernel
theorem dL_areSmithies_413 : decode cL_areSmithies 413 = .ok (.iconst 0, 1) := by decide +kernel
theorem dL_areSmithies_414 : decode cL_areSmithies 414 = .ok (.invokestatic 15, 3) := by decide +kernel
theorem dL_areSmithies_417 : decode cL_areSmithies 417 = .ok (.if_icmp .ne 67, 3) := by decide +kernel
theorem dL_areSmithies_420 : decode cL_areSmithies 420 = .ok (.aload_n 0, 1) := by decide +kernel
theorem dL_areSmithies_421 : decode cL_areSmithies 421 = .ok (.iload 6, 2) := by decide +kernel
theorem dL_areSmithies_423 : decode cL_areSmithies 423 = .ok (.iload 8, 2) := by decide +kernel
theorem dL_areSmithies_425 : decode cL_areSmithies 425 = .ok (.iconst 2, 1) := by decide +kernel
theorem dL_areSmithies_426 : decode cL_areSmithies 426 = .ok (.invokevirtual 93, 3) := by decide +kernel
theorem dL_areSmithies_429 : decode cL_areSmithies 429 = .ok (.aload_n 1, 1) := by decide +kernel
theorem dL_areSmithies_430 : decode cL_areSmithies 430 = .ok (.aload_n 2, 1) := by decide +kernel
theorem dL_areSmithies_431 : decode cL_areSmithies 431 = .ok (.iload 7, 2) := by decide +kernel
theorem dL_areSmithies_433 : decode cL_areSmithies 433 = .ok (.iload 8, 2) := by decide +kernel
theorem dL_areSmithies_435 : decode cL_areSmithies 435 = .ok (.iconst 1, 1) := by decide +kernel
theorem dL_areSmithies_436 : decode cL_areSmithies 436 = .ok (.if_icmp .ne 7, 3) := by decide +kernel
theorem dL_areSmithies_439 : decode cL_areSmithies 439 = .ok (.iconst 1, 1) := by decide +kernel
theorem dL_areSmithies_440 : decode cL_areSmithies 440 = .ok (.goto 4, 3) := by decide +kernel
theorem dL_areSmithies_443 : decode cL_areSmithies 443 = .ok (.iconst 0, 1) := by decide +kernel
theorem dL_areSmithies_444 : decode cL_areSmithies 444 = .ok (.invokestatic 29, 3) := by decide +kernel
theorem dL_areSmithies_447 : decode cL_areSmithies 447 = .ok (.if_icmp .ne 37, 3) := by decide +kernel
theorem dL_areSmithies_450 : decode cL_areSmithies 450 = .ok (.aload_n 0, 1) := by decide +kernel
theorem dL_areSmithies_451 : decode cL_areSmithies 451 = .ok (.iload 6, 2) := by decide +kernel
theorem dL_areSmithies_453 : decode cL_areSmithies 453 = .ok (.iload 8, 2) := by decide +kernel
theorem dL_areSmithies_455 : decode cL_areSmithies 455 = .ok (.iconst 3, 1) := by decide +kernel
theorem dL_areSmithies_456 : decode cL_areSmithies 456 = .ok (.invokevirtual 93, 3) := by decide +kernel
theorem dL_areSmithies_459 : decode cL_areSmithies 459 = .ok (.iload 8, 2) := by decide +kernel
theorem dL_areSmithies_461 : decode cL_areSmithies 461 = .ok (.iconst 1, 1) := by decide +kernel
theorem dL_areSmithies_462 : decode cL_areSmithies 462 = .ok (.if_icmp .ne 7, 3) := by decide +kernel
theorem dL_areSmithies_465 : decode cL_areSmithies 465 = .ok (.iconst 0, 1) := by decide +kernel
theorem dL_areSmithies_466 : decode cL_areSmithies 466 = .ok (.goto 11, 3) := by decide +kernel
theorem dL_areSmithies_469 : decode cL_areSmithies 469 = .ok (.aload_n 2, 1) := by decide +kernel
theorem dL_areSmithies_470 : decode cL_areSmithies 470 = .ok (.iload 7, 2) := by decide +kernel
theorem dL_areSmithies_472 : decode cL_areSmithies 472 = .ok (.iconst 2, 1) := by decide +kernel
theorem dL_areSmithies_473 : decode cL_areSmithies 473 = .ok (.iadd, 1) := by decide +kernel
theorem dL_areSmithies_474 : decode cL_areSmithies 474 = .ok (.iaload, 1) := by decide +kernel
theorem dL_areSmithies_475 : decode cL_areSmithies 475 = .ok (.iconst 3, 1) := by decide +kernel
theorem dL_areSmithies_476 : decode cL_areSmithies 476 = .ok (.idiv, 1) := by decide +kernel
theorem dL_areSmithies_477 : decode cL_areSmithies 477 = .ok (.if_icmp .ne 7, 3) := by decide +kernel
theorem dL_areSmithies_480 : decode cL_areSmithies 480 = .ok (.iconst 1, 1) := by decide +kernel
theorem dL_areSmithies_481 : decode cL_areSmithies 481 = .ok (.goto 4, 3) := by decide +kernel
theorem dL_areSmithies_484 : decode cL_areSmithies 484 = .ok (.iconst 0, 1) := by decide +kernel
theorem dL_areSmithies_485 : decode cL_areSmithies 485 = .ok (.istore 5, 2) := by decide +kernel
theorem dL_areSmithies_487 : decode cL_areSmithies 487 = .ok (.iinc 8 1, 3) := by decide +kernel
theorem dL_areSmithies_490 : decode cL_areSmithies 490 = .ok (.goto (-157), 3) := by decide +kernel
theorem dL_areSmithies_493 : decode cL_areSmithies 493 = .ok (.iload 5, 2) := by decide +kernel
theorem dL_areSmithies_495 : decode cL_areSmithies 495 = .ok (.ifCond .eq 45, 3) := by decide +kernel
theorem dL_areSmithies_498 : decode cL_areSmithies 498 = .ok (.aload_n 0, 1) := by decide +kernel
theorem dL_areSmithies_499 : decode cL_areSmithies 499 = .ok (.iload 6, 2) := by decide +kernel
theorem dL_areSmithies_501 : decode cL_areSmithies 501 = .ok (.iconst 2, 1) := by decide +kernel
theorem dL_areSmithies_502 : decode cL_areSmithies 502 = .ok (.invokevirtual 91, 3) := by decide +kernel
theorem dL_areSmithies_505 : decode cL_areSmithies 505 = .ok (.ldc 65, 2) := by decide +kernel
theorem dL_areSmithies_507 : decode cL_areSmithies 507 = .ok (.if_icmp .ne 33, 3) := by decide +kernel
theorem dL_areSmithies_510 : decode cL_areSmithies 510 = .ok (.aload_n 0, 1) := by decide +kernel
theorem dL_areSmithies_511 : decode cL_areSmithies 511 = .ok (.iload 6, 2) := by decide +kernel
theorem dL_areSmithies_513 : decode cL_areSmithies 513 = .ok (.iconst 2, 1) := by decide +kernel
theorem dL_areSmithies_514 : decode cL_areSmithies 514 = .ok (.iconst 0, 1) := by decide +kernel
theorem dL_areSmithies_515 : decode cL_areSmithies 515 = .ok (.invokevirtual 93, 3) := by decide +kernel
theorem dL_areSmithies_518 : decode cL_areSmithies 518 = .ok (.ldc 65, 2) := by decide +kernel
theorem dL_areSmithies_520 : decode cL_areSmithies 520 = .ok (.if_icmp .ne 20, 3) := by decide +kernel
theorem dL_areSmithies_523 : decode cL_areSmithies 523 = .ok (.aload_n 0, 1) := by decide +kernel
theorem dL_areSmithies_524 : decode cL_areSmithies 524 = .ok (.iload 6, 2) := by decide +kernel
theorem dL_areSmithies_526 : decode cL_areSmithies 526 = .ok (.iconst 0, 1) := by decide +kernel
theorem dL_areSmithies_527 : decode cL_areSmithies 527 = .ok (.iconst 4, 1) := by decide +kernel
theorem dL_areSmithies_528 : decode cL_areSmithies 528 = .ok (.invokevirtual 93, 3) := by decide +kernel
theorem dL_areSmithies_531 : decode cL_areSmithies 531 = .ok (.ldc 65, 2) := by decide +kernel
theorem dL_areSmithies_533 : decode cL_areSmithies 533 = .ok (.if_icmp .ne 7, 3) := by decide +kernel
theorem dL_areSmithies_536 : decode cL_areSmithies 536 = .ok (.iconst 1, 1) := by decide +kernel
theorem dL_areSmithies_537 : decode cL_areSmithies 537 = .ok (.goto 4, 3) := by decide +kernel
theorem dL_areSmithies_540 : decode cL_areSmithies 540 = .ok (.iconst 0, 1) := by decide +kernel
theorem dL_areSmithies_541 : decode cL_areSmithies 541 = .ok (.istore 5, 2) := by decide +kernel
theorem dL_areSmithies_543 : decode cL_areSmithies 543 = .ok (.iinc 6 1, 3) := by decide +kernel
theorem dL_areSmithies_546 : decode cL_areSmithies 546 = .ok (.goto (-480), 3) := by decide +kernel
theorem dL_areSmithies_549 : decode cL_areSmithies 549 = .ok (.iload 5, 2) := by decide +kernel
theorem dL_areSmithies_551 : decode cL_areSmithies 551 = .ok (.ifCond .eq 50, 3) := by decide +kernel
theorem dL_areSmithies_554 : decode cL_areSmithies 554 = .ok (.aload_n 0, 1) := by decide +kernel
theorem dL_areSmithies_555 : decode cL_areSmithies 555 = .ok (.bipush 6, 2) := by decide +kernel
theorem dL_areSmithies_557 : decode cL_areSmithies 557 = .ok (.invokevirtual 97, 3) := by decide +kernel
theorem dL_areSmithies_560 : decode cL_areSmithies 560 = .ok (.iload_n 3, 1) := by decide +kernel
theorem dL_areSmithies_561 : decode cL_areSmithies 561 = .ok (.if_icmp .ne 40, 3) := by decide +kernel
theorem dL_areSmithies_564 : decode cL_areSmithies 564 = .ok (.aload_n 0, 1) := by decide +kernel
theorem dL_areSmithies_565 : decode cL_areSmithies 565 = .ok (.bipush 8, 2) := by decide +kernel
theorem dL_areSmithies_567 : decode cL_areSmithies 567 = .ok (.invokevirtual 97, 3) := by decide +kernel
theorem dL_areSmithies_570 : decode cL_areSmithies 570 = .ok (.iload_n 3, 1) := by decide +kernel
theorem dL_areSmithies_571 : decode cL_areSmithies 571 = .ok (.iload 4, 2) := by decide +kernel
theorem dL_areSmithies_573 : decode cL_areSmithies 573 = .ok (.iadd, 1) := by decide +kernel
theorem dL_areSmithies_574 : decode cL_areSmithies 574 = .ok (.if_icmp .ne 27, 3) := by decide +kernel
theorem dL_areSmithies_577 : decode cL_areSmithies 577 = .ok (.aload_n 0, 1) := by decide +kernel
theorem dL_areSmithies_578 : decode cL_areSmithies 578 = .ok (.iconst 5, 1) := by decide +kernel
theorem dL_areSmithies_579 : decode cL_areSmithies 579 = .ok (.invokevirtual 97, 3) := by decide +kernel
theorem dL_areSmithies_582 : decode cL_areSmithies 582 = .ok (.bipush 100, 2) := by decide +kernel
theorem dL_areSmithies_584 : decode cL_areSmithies 584 = .ok (.iload 4, 2) := by decide +kernel
theorem dL_areSmithies_586 : decode cL_areSmithies 586 = .ok (.iadd, 1) := by decide +kernel
theorem dL_areSmithies_587 : decode cL_areSmithies 587 = .ok (.aload_n 0, 1) := by decide +kernel
theorem dL_areSmithies_588 : decode cL_areSmithies 588 = .ok (.bipush 7, 2) := by decide +kernel
theorem dL_areSmithies_590 : decode cL_areSmithies 590 = .ok (.invokevirtual 97, 3) := by decide +kernel
theorem dL_areSmithies_593 : decode cL_areSmithies 593 = .ok (.isub, 1) := by decide +kernel
theorem dL_areSmithies_594 : decode cL_areSmithies 594 = .ok (.if_icmp .ne 7, 3) := by decide +kernel
theorem dL_areSmithies_597 : decode cL_areSmithies 597 = .ok (.iconst 1, 1) := by decide +kernel
theorem dL_areSmithies_598 : decode cL_areSmithies 598 = .ok (.goto 4, 3) := by decide +kernel
theorem dL_areSmithies_601 : decode cL_areSmithies 601 = .ok (.iconst 0, 1) := by decide +kernel
theorem dL_areSmithies_602 : decode cL_areSmithies 602 = .ok (.ireturn, 1) := by decide +kernel
set_option maxRecDepth 20000 in
theorem ggL_isSo_L_areSmithies : GoodIn wsL_isSo wsL_areSmithies := goodIn_r _ [4, 5, 6, 7, 8, 9, 10, 11, 12, 13, 14, 15, 16, 17, 18, 19, 20, 21, 22, 23, 24, 25, 26, 27, 28, 29, 30, 31, 32, 33, 34, 35, 36, 37, 38, 39, 40, 41, 42, 43, 44, 45, 46, 47, 48, 49, 50, 51, 52, 53, 54, 55, 56, 57, 58, 59, 60, 61, 62, 63, 64, 65, 66, 67, 68, 69, 70, 71, 72, 73, 74, 75, 76, 77, 78, 79, 80, 81, 82, 83, 84, 85, 86, 87, 88, 89, 90, 91, 92, 93, 94, 3, 95, 96, 97, 98, 99, 100, 101, 102, 103, 104, 105, 106, 107, 108, 109, 110, 111, 112, 113, 114, 115, 116, 117, 118, 119, 120, 121, 122, 123, 124, 125, 126, 127, 128, 129, 130, 131, 132, 133, 134, 135, 136, 137, 138, 142, 143, 144, 145, 146, 147, 148, 149, 150, 151, 152, 153, 154, 155, 156, 157, 158, 159, 160, 161, 162, 163, 164, 165, 166, 167, 168, 169, 170, 171, 172, 173, 174, 175, 176, 177, 178, 179] (by decide +kernel) (by decide +kernel)
set_option maxRecDepth 20000 in
theorem gL_isSo_L_areSmithies : GoodIn wsL_isSo (va_wsS RL 100 yL_areSmithies wsL_areSmithies) := goodIn_app (goodIn_of _ (by decide +kernel)) ggL_isSo_L_areSmithies
set_option maxRecDepth 20000 in
theorem ggL_isSo_X3_count : GoodIn wsL_isSo wsX3_count := goodIn_r _ [111, 11, 112, 113, 21, 114, 115, 116, 117, 118, 119, 120, 121, 122, 123, 124, 125, 126, 127, 12, 128, 129, 130, 25, 131, 27, 75, 132, 23, 24, 26, 28, 133, 134, 135, 136, 137, 138, 33, 34, 35, 36, 142, 143, 144, 145, 146, 147, 148, 149, 150, 159, 160, 161, 162, 163, 164, 165, 166, 167, 168, 169, 170, 171, 172, 173, 174, 175, 176, 177, 178, 179, 151, 152, 153, 154, 155, 156, 157, 158] (by decide +kernel) (by decide +kernel)
set_option maxRecDepth 20000 in
theorem gL_isSo_X3_count : GoodIn wsL_isSo (wsV RL 97 RX3 yX3_count wsX3_count) := goodIn_app (goodIn_of _ (by decide +kernel)) ggL_isSo_X3_count
set_option maxRecDepth 20000 in
theorem ggL_isSo_L_colds : GoodIn wsL_isSo wsL_colds := goodIn_r _ [141] (by decide +kernel) (by decide +kernel)
set_option maxRecDepth 20000 in
theorem gL_isSo_L_colds : GoodIn wsL_isSo (va_wsS RL 36 yL_colds wsL_colds) := goodIn_app (goodIn_of _ (by decide +kernel)) ggL_isSo_L_colds
theorem dL_isSo_0 : decode cL_isSo 0 = .ok (.aload_n 0, 1) := by decide +kernel
theorem dL_isSo_1 : decode cL_isSo 1 = .ok (.aload_n 1, 1) := by decide +kernel
theorem dL_isSo_2 : decode cL_isSo 2 = .ok (.aload_n 2, 1) := by decide +kernel
theorem dL_isSo_3 : decode cL_isSo 3 = .ok (.invokestatic 100, 3) := by decide +kernel
theorem dL_isSo_6 : decode cL_isSo 6 = .ok (.istore_n 3, 1) := by decide +kernel
theorem dL_isSo_7 : decode cL_isSo 7 = .ok (.iconst 0, 1) := by decide +kernel
theorem dL_isSo_8 : decode cL_isSo 8 = .ok (.istore 4, 2) := by decide +kernel
theorem dL_isSo_10 : decode cL_isSo 10 = .ok (.iload 4, 2) := by decide +kernel
theorem dL_isSo_12 : decode cL_isSo 12 = .ok (.bipush 6, 2) := by decide +kernel
theorem dL_isSo_14 : decode cL_isSo 14 = .ok (.if_icmp .ge 32, 3) := by decide +kernel
theorem dL_isSo_17 : decode cL_isSo 17 = .ok (.iload_n 3, 1) := by decide +kernel
theorem dL_isSo_18 : decode cL_isSo 18 = .ok (.ifCond .eq 28, 3) := by decide +kernel
theorem dL_isSo_21 : decode cL_isSo 21 = .ok (.aload_n 0, 1) := by decide +kernel
theorem dL_isSo_22 : decode cL_isSo 22 = .ok (.iload 4, 2) := by decide +kernel
theorem dL_isSo_24 : decode cL_isSo 24 = .ok (.invokevirtual 97, 3) := by decide +kernel
theorem dL_isSo_27 : decode cL_isSo 27 = .ok (.aload_n 1, 1) := by decide +kernel
theorem dL_isSo_28 : decode cL_isSo 28 = .ok (.iload 4, 2) := by decide +kernel
theorem dL_isSo_30 : decode cL_isSo 30 = .ok (.iaload, 1) := by decide +kernel
theorem dL_isSo_31 : decode cL_isSo 31 = .ok (.if_icmp .ne 7, 3) := by decide +kernel
theorem dL_isSo_34 : decode cL_isSo 34 = .ok (.iconst 1, 1) := by decide +kernel
theorem dL_isSo_35 : decode cL_isSo 35 = .ok (.goto 4, 3) := by decide +kernel
theorem dL_isSo_38 : decode cL_isSo 38 = .ok (.iconst 0, 1) := by decide +kernel
theorem dL_isSo_39 : decode cL_isSo 39 = .ok (.istore_n 3, 1) := by decide +kernel
theorem dL_isSo_40 : decode cL_isSo 40 = .ok (.iinc 4 1, 3) := by decide +kernel
theorem dL_isSo_43 : decode cL_isSo 43 = .ok (.goto (-33), 3) := by decide +kernel
theorem dL_isSo_46 : decode cL_isSo 46 = .ok (.iload_n 3, 1) := by decide +kernel
theorem dL_isSo_47 : decode cL_isSo 47 = .ok (.ifCond .eq 134, 3) := by decide +kernel
theorem dL_isSo_50 : decode cL_isSo 50 = .ok (.aload_n 0, 1) := by decide +kernel
theorem dL_isSo_51 : decode cL_isSo 51 = .ok (.bipush 7, 2) := by decide +kernel
theorem dL_isSo_53 : decode cL_isSo 53 = .ok (.invokevirtual 97, 3) := by decide +kernel
theorem dL_isSo_56 : decode cL_isSo 56 = .ok (.aload_n 1, 1) := by decide +kernel
theorem dL_isSo_57 : decode cL_isSo 57 = .ok (.bipush 6, 2) := by decide +kernel
theorem dL_isSo_59 : decode cL_isSo 59 = .ok (.iaload, 1) := by decide +kernel
theorem dL_isSo_60 : decode cL_isSo 60 = .ok (.if_icmp .ne 121, 3) := by decide +kernel
theorem dL_isSo_63 : decode cL_isSo 63 = .ok (.aload_n 0, 1) := by decide +kernel
theorem dL_isSo_64 : decode cL_isSo 64 = .ok (.bipush 8, 2) := by decide +kernel
theorem dL_isSo_66 : decode cL_isSo 66 = .ok (.invokevirtual 97, 3) := by decide +kernel
theorem dL_isSo_69 : decode cL_isSo 69 = .ok (.aload_n 1, 1) := by decide +kernel
theorem dL_isSo_70 : decode cL_isSo 70 = .ok (.bipush 7, 2) := by decide +kernel
theorem dL_isSo_72 : decode cL_isSo 72 = .ok (.iaload, 1) := by decide +kernel
theorem dL_isSo_73 : decode cL_isSo 73 = .ok (.if_icmp .ne 108, 3) := by decide +kernel
theorem dL_isSo_76 : decode cL_isSo 76 = .ok (.aload_n 0, 1) := by decide +kernel
theorem dL_isSo_77 : decode cL_isSo 77 = .ok (.bipush 9, 2) := by decide +kernel
theorem dL_isSo_79 : decode cL_isSo 79 = .ok (.invokevirtual 97, 3) := by decide +kernel
theorem dL_isSo_82 : decode cL_isSo 82 = .ok (.aload_n 1, 1) := by decide +kernel
theorem dL_isSo_83 : decode cL_isSo 83 = .ok (.aload_n 2, 1) := by decide +kernel
theorem dL_isSo_84 : decode cL_isSo 84 = .ok (.invokestatic 36, 3) := by decide +kernel
theorem dL_isSo_87 : decode cL_isSo 87 = .ok (.if_icmp .ne 94, 3) := by decide +kernel
theorem dL_isSo_90 : decode cL_isSo 90 = .ok (.aload_n 0, 1) := by decide +kernel
theorem dL_isSo_91 : decode cL_isSo 91 = .ok (.bipush 10, 2) := by decide +kernel
theorem dL_isSo_93 : decode cL_isSo 93 = .ok (.invokevirtual 97, 3) := by decide +kernel
theorem dL_isSo_96 : decode cL_isSo 96 = .ok (.aload_n 1, 1) := by decide +kernel
theorem dL_isSo_97 : decode cL_isSo 97 = .ok (.bipush 8, 2) := by decide +kernel
theorem dL_isSo_99 : decode cL_isSo 99 = .ok (.iaload, 1) := by decide +kernel
theorem dL_isSo_100 : decode cL_isSo 100 = .ok (.if_icmp .ne 81, 3) := by decide +kernel
theorem dL_isSo_103 : decode cL_isSo 103 = .ok (.aload_n 0, 1) := by decide +kernel
theorem dL_isSo_104 : decode cL_isSo 104 = .ok (.bipush 11, 2) := by decide +kernel
theorem dL_isSo_106 : decode cL_isSo 106 = .ok (.invokevirtual 97, 3) := by decide +kernel
theorem dL_isSo_109 : decode cL_isSo 109 = .ok (.aload_n 1, 1) := by decide +kernel
theorem dL_isSo_110 : decode cL_isSo 110 = .ok (.bipush 9, 2) := by decide +kernel
theorem dL_isSo_112 : decode cL_isSo 112 = .ok (.iaload, 1) := by decide +kernel
theorem dL_isSo_113 : decode cL_isSo 113 = .ok (.if_icmp .ne 68, 3) := by decide +kernel
theorem dL_isSo_116 : decode cL_isSo 116 = .ok (.aload_n 0, 1) := by decide +kernel
theorem dL_isSo_117 : decode cL_isSo 117 = .ok (.bipush 13, 2) := by decide +kernel
theorem dL_isSo_119 : decode cL_isSo 119 = .ok (.invokevirtual 97, 3) := by decide +kernel
theorem dL_isSo_122 : decode cL_isSo 122 = .ok (.ifCond .ne 59, 3) := by decide +kernel
theorem dL_isSo_125 : decode cL_isSo 125 = .ok (.aload_n 0, 1) := by decide +kernel
theorem dL_isSo_126 : decode cL_isSo 126 = .ok (.bipush 20, 2) := by decide +kernel
theorem dL_isSo_128 : decode cL_isSo 128 = .ok (.invokevirtual 97, 3) := by decide +kernel
theorem dL_isSo_131 : decode cL_isSo 131 = .ok (.aload_n 1, 1) := by decide +kernel
theorem dL_isSo_132 : decode cL_isSo 132 = .ok (.bipush 10, 2) := by decide +kernel
theorem dL_isSo_134 : decode cL_isSo 134 = .ok (.iaload, 1) := by decide +kernel
theorem dL_isSo_135 : decode cL_isSo 135 = .ok (.if_icmp .ne 46, 3) := by decide +kernel
theorem dL_isSo_138 : decode cL_isSo 138 = .ok (.aload_n 0, 1) := by decide +kernel
theorem dL_isSo_139 : decode cL_isSo 139 = .ok (.bipush 21, 2) := by decide +kernel
theorem dL_isSo_141 : decode cL_isSo 141 = .ok (.invokevirtual 97, 3) := by decide +kernel
theorem dL_isSo_144 : decode cL_isSo 144 = .ok (.aload_n 1, 1) := by decide +kernel
theorem dL_isSo_145 : decode cL_isSo 145 = .ok (.bipush 11, 2) := by decide +kernel
theorem dL_isSo_147 : decode cL_isSo 147 = .ok (.iaload, 1) := by decide +kernel
theorem dL_isSo_148 : decode cL_isSo 148 = .ok (.if_icmp .ne 33, 3) := by decide +kernel
theorem dL_isSo_151 : decode cL_isSo 151 = .ok (.aload_n 0, 1) := by decide +kernel
theorem dL_isSo_152 : decode cL_isSo 152 = .ok (.bipush 22, 2) := by decide +kernel
theorem dL_isSo_154 : decode cL_isSo 154 = .ok (.invokevirtual 97, 3) := by decide +kernel
theorem dL_isSo_157 : decode cL_isSo 157 = .ok (.aload_n 1, 1) := by decide +kernel
theorem dL_isSo_158 : decode cL_isSo 158 = .ok (.bipush 12, 2) := by decide +kernel
theorem dL_isSo_160 : decode cL_isSo 160 = .ok (.iaload, 1) := by decide +kernel
theorem dL_isSo_161 : decode cL_isSo 161 = .ok (.if_icmp .ne 20, 3) := by decide +kernel
theorem dL_isSo_164 : decode cL_isSo 164 = .ok (.aload_n 0, 1) := by decide +kernel
theorem dL_isSo_165 : decode cL_isSo 165 = .ok (.bipush 23, 2) := by decide +kernel
theorem dL_isSo_167 : decode cL_isSo 167 = .ok (.invokevirtual 97, 3) := by decide +kernel
theorem dL_isSo_170 : decode cL_isSo 170 = .ok (.aload_n 1, 1) := by decide +kernel
theorem dL_isSo_171 : decode cL_isSo 171 = .ok (.bipush 13, 2) := by decide +kernel
theorem dL_isSo_173 : decode cL_isSo 173 = .ok (.iaload, 1) := by decide +kernel
theorem dL_isSo_174 : decode cL_isSo 174 = .ok (.if_icmp .ne 7, 3) := by decide +kernel
theorem dL_isSo_177 : decode cL_isSo 177 = .ok (.iconst 1, 1) := by decide +kernel
theorem dL_isSo_178 : decode cL_isSo 178 = .ok (.goto 4, 3) := by decide +kernel
theorem dL_isSo_181 : decode cL_isSo 181 = .ok (.iconst 0, 1) := by decide +kernel
theorem dL_isSo_182 : decode cL_isSo 182 = .ok (.ireturn, 1) := by decide +kernel
end
section
/-! ===== each method's words, by name ===== -/
theorem in_X1_beginAt_wsX10 : ∀ w ∈ wsX10, w ∈ wsX1_beginAt := by decide +kernel
theorem k_X1_beginAt_9 : Cond.fieldLink RX1 9 "BellowsRound$Smithy" "mile" "I" ∈ wsX1_beginAt := by decide +kernel
theorem k_X1_beginAt_15 : Cond.fieldLink RX1 15 "BellowsRound$Smithy" "size" "I" ∈ wsX1_beginAt := by decide +kernel
theorem k_X1_beginAt_18 : Cond.fieldLink RX1 18 "BellowsRound$Smithy" "wear" "I" ∈ wsX1_beginAt := by decide +kernel
theorem k_X1_beginAt_21 : Cond.fieldLink RX1 21 "BellowsRound$Smithy" "heat" "I" ∈ wsX1_beginAt := by decide +kernel
theorem k_X1_beginAt_24 : Cond.fieldLink RX1 24 "BellowsRound$Smithy" "coldDays" "I" ∈ wsX1_beginAt := by decide +kernel
theorem k_X1_beginAt_27 : Cond.fieldLink RX1 27 "BellowsRound$Smithy" "debt" "I" ∈ wsX1_beginAt := by decide +kernel
theorem k_X1_beginAt_30 : Cond.fieldLink RX1 30 "BellowsRound$Smithy" "paid" "I" ∈ wsX1_beginAt := by decide +kernel
theorem k_X1_beginAt_33 : Cond.fieldLink RX1 33 "BellowsRound$Smithy" "mends" "I" ∈ wsX1_beginAt := by decide +kernel
theorem in_X1_copyFrom_wsX10 : ∀ w ∈ wsX10, w ∈ wsX1_copyFrom := by decide +kernel
theorem k_X1_copyFrom_9 : Cond.fieldLink RX1 9 "BellowsRound$Smithy" "mile" "I" ∈ wsX1_copyFrom := by decide +kernel
theorem k_X1_copyFrom_15 : Cond.fieldLink RX1 15 "BellowsRound$Smithy" "size" "I" ∈ wsX1_copyFrom := by decide +kernel
theorem k_X1_copyFrom_18 : Cond.fieldLink RX1 18 "BellowsRound$Smithy" "wear" "I" ∈ wsX1_copyFrom := by decide +kernel
theorem k_X1_copyFrom_21 : Cond.fieldLink RX1 21 "BellowsRound$Smithy" "heat" "I" ∈ wsX1_copyFrom := by decide +kernel
theorem k_X1_copyFrom_24 : Cond.fieldLink RX1 24 "BellowsRound$Smithy" "coldDays" "I" ∈ wsX1_copyFrom := by decide +kernel
theorem k_X1_copyFrom_27 : Cond.fieldLink RX1 27 "BellowsRound$Smithy" "debt" "I" ∈ wsX1_copyFrom := by decide +kernel
theorem k_X1_copyFrom_30 : Cond.fieldLink RX1 30 "BellowsRound$Smithy" "paid" "I" ∈ wsX1_copyFrom := by decide +kernel
theorem k_X1_copyFrom_33 : Cond.fieldLink RX1 33 "BellowsRound$Smithy" "mends" "I" ∈ wsX1_copyFrom := by decide +kernel
theorem in_X1_leatherOfMend_wsX10 : ∀ w ∈ wsX10, w ∈ wsX1_leatherOfMend := by decide +kernel
theorem k_X1_leatherOfMend_15 : Cond.fieldLink RX1 15 "BellowsRound$Smithy" "size" "I" ∈ wsX1_leatherOfMend := by decide +kernel
theorem k_X1_leatherOfMend_18 : Cond.fieldLink RX1 18 "BellowsRound$Smithy" "wear" "I" ∈ wsX1_leatherOfMend := by decide +kernel
theorem ki_X1_leatherOfMend_X3_tensBegun : Cond.initialized RX3 ∈ wsX1_leatherOfMend := by decide +kernel
theorem ks_X1_leatherOfMend_X3_tensBegun : Cond.static yX3_tensBegun ∈ wsX1_leatherOfMend := by decide +kernel
theorem in_X1_wearBehindMend_wsX10 : ∀ w ∈ wsX10, w ∈ wsX1_wearBehindMend := by decide +kernel
theorem k_X1_wearBehindMend_18 : Cond.fieldLink RX1 18 "BellowsRound$Smithy" "wear" "I" ∈ wsX1_wearBehindMend := by decide +kernel
theorem in_X2_find_wsX20 : ∀ w ∈ wsX20, w ∈ wsX2_find := by decide +kernel
theorem k_X2_find_37 : Cond.fieldLink RX2 37 "BellowsRound$State" "smithyCount" "I" ∈ wsX2_find := by decide +kernel
theorem k_X2_find_11 : Cond.fieldLink RX2 11 "BellowsRound$State" "smithies" "[LBellowsRound$Smithy;" ∈ wsX2_find := by decide +kernel
theorem in_X2_copyFrom_wsX10 : ∀ w ∈ wsX10, w ∈ wsX2_copyFrom := by decide +kernel
theorem in_X2_copyFrom_wsX20 : ∀ w ∈ wsX20, w ∈ wsX2_copyFrom := by decide +kernel
theorem k_X2_copyFrom_37 : Cond.fieldLink RX2 37 "BellowsRound$State" "smithyCount" "I" ∈ wsX2_copyFrom := by decide +kernel
theorem k_X2_copyFrom_17 : Cond.fieldLink RX2 17 "BellowsRound$State" "cold" "I" ∈ wsX2_copyFrom := by decide +kernel
theorem k_X2_copyFrom_21 : Cond.fieldLink RX2 21 "BellowsRound$State" "hours" "I" ∈ wsX2_copyFrom := by decide +kernel
theorem k_X2_copyFrom_24 : Cond.fieldLink RX2 24 "BellowsRound$State" "rate" "I" ∈ wsX2_copyFrom := by decide +kernel
theorem k_X2_copyFrom_27 : Cond.fieldLink RX2 27 "BellowsRound$State" "patience" "I" ∈ wsX2_copyFrom := by decide +kernel
theorem k_X2_copyFrom_40 : Cond.fieldLink RX2 40 "BellowsRound$State" "day" "I" ∈ wsX2_copyFrom := by decide +kernel
theorem k_X2_copyFrom_43 : Cond.fieldLink RX2 43 "BellowsRound$State" "mile" "I" ∈ wsX2_copyFrom := by decide +kernel
theorem k_X2_copyFrom_30 : Cond.fieldLink RX2 30 "BellowsRound$State" "hoursLeft" "I" ∈ wsX2_copyFrom := by decide +kernel
theorem k_X2_copyFrom_46 : Cond.fieldLink RX2 46 "BellowsRound$State" "leather" "I" ∈ wsX2_copyFrom := by decide +kernel
theorem k_X2_copyFrom_33 : Cond.fieldLink RX2 33 "BellowsRound$State" "money" "I" ∈ wsX2_copyFrom := by decide +kernel
theorem k_X2_copyFrom_49 : Cond.fieldLink RX2 49 "BellowsRound$State" "paidForLeather" "I" ∈ wsX2_copyFrom := by decide +kernel
theorem k_X2_copyFrom_52 : Cond.fieldLink RX2 52 "BellowsRound$State" "owedForMends" "I" ∈ wsX2_copyFrom := by decide +kernel
theorem k_X2_copyFrom_55 : Cond.fieldLink RX2 55 "BellowsRound$State" "longestCold" "I" ∈ wsX2_copyFrom := by decide +kernel
theorem k_X2_copyFrom_58 : Cond.fieldLink RX2 58 "BellowsRound$State" "milesWalked" "I" ∈ wsX2_copyFrom := by decide +kernel
theorem k_X2_copyFrom_11 : Cond.fieldLink RX2 11 "BellowsRound$State" "smithies" "[LBellowsRound$Smithy;" ∈ wsX2_copyFrom := by decide +kernel
theorem in_X2_addSmithy_wsX10 : ∀ w ∈ wsX10, w ∈ wsX2_addSmithy := by decide +kernel
theorem in_X2_addSmithy_wsX20 : ∀ w ∈ wsX20, w ∈ wsX2_addSmithy := by decide +kernel
theorem k_X2_addSmithy_37 : Cond.fieldLink RX2 37 "BellowsRound$State" "smithyCount" "I" ∈ wsX2_addSmithy := by decide +kernel
theorem k_X2_addSmithy_11 : Cond.fieldLink RX2 11 "BellowsRound$State" "smithies" "[LBellowsRound$Smithy;" ∈ wsX2_addSmithy := by decide +kernel
theorem k_X2_addSmithy_69 : Cond.constant RX2 69 (-1000000001) ∈ wsX2_addSmithy := by decide +kernel
theorem k_X2_addSmithy_70 : Cond.constant RX2 70 (-1000000003) ∈ wsX2_addSmithy := by decide +kernel
theorem k_X3_hoursOfWay_251 : Cond.methodLink RX3 251 Lib.Math.abs.name ∈ wsX3_hoursOfWay := by decide +kernel
theorem ks_X3_hoursOfWay_abs : Cond.static Lib.Math.abs.name ∈ wsX3_hoursOfWay := by decide +kernel
theorem kc_X3_hoursOfWay_abs : Cond.code Lib.Math.abs.name Lib.Math.abs.code 1 (some .int) ∈ wsX3_hoursOfWay := by decide +kernel
theorem ki_X3_hoursOfWay_math : Cond.initialized "java/lang/Math" ∈ wsX3_hoursOfWay := by decide +kernel
theorem in_X2_walkTo_wsX20 : ∀ w ∈ wsX20, w ∈ wsX2_walkTo := by decide +kernel
theorem k_X2_walkTo_43 : Cond.fieldLink RX2 43 "BellowsRound$State" "mile" "I" ∈ wsX2_walkTo := by decide +kernel
theorem k_X2_walkTo_30 : Cond.fieldLink RX2 30 "BellowsRound$State" "hoursLeft" "I" ∈ wsX2_walkTo := by decide +kernel
theorem k_X2_walkTo_58 : Cond.fieldLink RX2 58 "BellowsRound$State" "milesWalked" "I" ∈ wsX2_walkTo := by decide +kernel
theorem k_X2_walkTo_69 : Cond.constant RX2 69 (-1000000001) ∈ wsX2_walkTo := by decide +kernel
theorem k_X2_walkTo_79 : Cond.constant RX2 79 (-1000000002) ∈ wsX2_walkTo := by decide +kernel
theorem ki_X2_walkTo_X3_hoursOfWay : Cond.initialized RX3 ∈ wsX2_walkTo := by decide +kernel
theorem ks_X2_walkTo_X3_hoursOfWay : Cond.static yX3_hoursOfWay ∈ wsX2_walkTo := by decide +kernel
theorem k_X2_walkTo_80 : Cond.methodLink RX2 80 Lib.Math.abs.name ∈ wsX2_walkTo := by decide +kernel
theorem ks_X2_walkTo_abs : Cond.static Lib.Math.abs.name ∈ wsX2_walkTo := by decide +kernel
theorem kc_X2_walkTo_abs : Cond.code Lib.Math.abs.name Lib.Math.abs.code 1 (some .int) ∈ wsX2_walkTo := by decide +kernel
theorem ki_X2_walkTo_math : Cond.initialized "java/lang/Math" ∈ wsX2_walkTo := by decide +kernel
theorem in_X2_buyLeather_wsX20 : ∀ w ∈ wsX20, w ∈ wsX2_buyLeather := by decide +kernel
theorem k_X2_buyLeather_43 : Cond.fieldLink RX2 43 "BellowsRound$State" "mile" "I" ∈ wsX2_buyLeather := by decide +kernel
theorem k_X2_buyLeather_46 : Cond.fieldLink RX2 46 "BellowsRound$State" "leather" "I" ∈ wsX2_buyLeather := by decide +kernel
theorem k_X2_buyLeather_33 : Cond.fieldLink RX2 33 "BellowsRound$State" "money" "I" ∈ wsX2_buyLeather := by decide +kernel
theorem k_X2_buyLeather_49 : Cond.fieldLink RX2 49 "BellowsRound$State" "paidForLeather" "I" ∈ wsX2_buyLeather := by decide +kernel
theorem k_X2_buyLeather_69 : Cond.constant RX2 69 (-1000000001) ∈ wsX2_buyLeather := by decide +kernel
theorem k_X2_buyLeather_79 : Cond.constant RX2 79 (-1000000002) ∈ wsX2_buyLeather := by decide +kernel
theorem k_X2_buyLeather_70 : Cond.constant RX2 70 (-1000000003) ∈ wsX2_buyLeather := by decide +kernel
theorem in_X2_reasonOfSmithy_wsX10 : ∀ w ∈ wsX10, w ∈ wsX2_reasonOfSmithy := by decide +kernel
theorem in_X2_reasonOfSmithy_wsX20 : ∀ w ∈ wsX20, w ∈ wsX2_reasonOfSmithy := by decide +kernel
theorem k_X2_reasonOfSmithy_100 : Cond.fieldLink RX2 100 "BellowsRound$Smithy" "debt" "I" ∈ wsX2_reasonOfSmithy := by decide +kernel
theorem k_X2_reasonOfSmithy_27 : Cond.fieldLink RX2 27 "BellowsRound$State" "patience" "I" ∈ wsX2_reasonOfSmithy := by decide +kernel
theorem k_X2_reasonOfSmithy_106 : Cond.fieldLink RX2 106 "BellowsRound$Smithy" "wear" "I" ∈ wsX2_reasonOfSmithy := by decide +kernel
theorem in_X2_reasonAgainst_wsX10 : ∀ w ∈ wsX10, w ∈ wsX2_reasonAgainst := by decide +kernel
theorem in_X2_reasonAgainst_wsX20 : ∀ w ∈ wsX20, w ∈ wsX2_reasonAgainst := by decide +kernel
theorem k_X2_reasonAgainst_112 : Cond.fieldLink RX2 112 "BellowsRound$Smithy" "mile" "I" ∈ wsX2_reasonAgainst := by decide +kernel
theorem k_X2_reasonAgainst_43 : Cond.fieldLink RX2 43 "BellowsRound$State" "mile" "I" ∈ wsX2_reasonAgainst := by decide +kernel
theorem k_X2_reasonAgainst_30 : Cond.fieldLink RX2 30 "BellowsRound$State" "hoursLeft" "I" ∈ wsX2_reasonAgainst := by decide +kernel
theorem k_X2_reasonAgainst_46 : Cond.fieldLink RX2 46 "BellowsRound$State" "leather" "I" ∈ wsX2_reasonAgainst := by decide +kernel
theorem k_X2_reasonAgainst_100 : Cond.fieldLink RX2 100 "BellowsRound$Smithy" "debt" "I" ∈ wsX2_reasonAgainst := by decide +kernel
theorem k_X2_reasonAgainst_27 : Cond.fieldLink RX2 27 "BellowsRound$State" "patience" "I" ∈ wsX2_reasonAgainst := by decide +kernel
theorem k_X2_reasonAgainst_106 : Cond.fieldLink RX2 106 "BellowsRound$Smithy" "wear" "I" ∈ wsX2_reasonAgainst := by decide +kernel
theorem ki_X2_reasonAgainst_X3_hoursOfMend : Cond.initialized RX3 ∈ wsX2_reasonAgainst := by decide +kernel
theorem ks_X2_reasonAgainst_X3_hoursOfMend : Cond.static yX3_hoursOfMend ∈ wsX2_reasonAgainst := by decide +kernel
theorem in_X2_priceOfMend_wsX10 : ∀ w ∈ wsX10, w ∈ wsX2_priceOfMend := by decide +kernel
theorem in_X2_priceOfMend_wsX20 : ∀ w ∈ wsX20, w ∈ wsX2_priceOfMend := by decide +kernel
theorem k_X2_priceOfMend_24 : Cond.fieldLink RX2 24 "BellowsRound$State" "rate" "I" ∈ wsX2_priceOfMend := by decide +kernel
theorem ki_X2_priceOfMend_X3_hoursOfMend : Cond.initialized RX3 ∈ wsX2_priceOfMend := by decide +kernel
theorem ks_X2_priceOfMend_X3_hoursOfMend : Cond.static yX3_hoursOfMend ∈ wsX2_priceOfMend := by decide +kernel
theorem in_X2_mendBellows_wsX10 : ∀ w ∈ wsX10, w ∈ wsX2_mendBellows := by decide +kernel
theorem in_X2_mendBellows_wsX20 : ∀ w ∈ wsX20, w ∈ wsX2_mendBellows := by decide +kernel
theorem k_X2_mendBellows_30 : Cond.fieldLink RX2 30 "BellowsRound$State" "hoursLeft" "I" ∈ wsX2_mendBellows := by decide +kernel
theorem k_X2_mendBellows_46 : Cond.fieldLink RX2 46 "BellowsRound$State" "leather" "I" ∈ wsX2_mendBellows := by decide +kernel
theorem k_X2_mendBellows_52 : Cond.fieldLink RX2 52 "BellowsRound$State" "owedForMends" "I" ∈ wsX2_mendBellows := by decide +kernel
theorem k_X2_mendBellows_100 : Cond.fieldLink RX2 100 "BellowsRound$Smithy" "debt" "I" ∈ wsX2_mendBellows := by decide +kernel
theorem k_X2_mendBellows_106 : Cond.fieldLink RX2 106 "BellowsRound$Smithy" "wear" "I" ∈ wsX2_mendBellows := by decide +kernel
theorem k_X2_mendBellows_109 : Cond.fieldLink RX2 109 "BellowsRound$Smithy" "mends" "I" ∈ wsX2_mendBellows := by decide +kernel
theorem k_X2_mendBellows_37 : Cond.fieldLink RX2 37 "BellowsRound$State" "smithyCount" "I" ∈ wsX2_mendBellows := by decide +kernel
theorem k_X2_mendBellows_11 : Cond.fieldLink RX2 11 "BellowsRound$State" "smithies" "[LBellowsRound$Smithy;" ∈ wsX2_mendBellows := by decide +kernel
theorem k_X2_mendBellows_112 : Cond.fieldLink RX2 112 "BellowsRound$Smithy" "mile" "I" ∈ wsX2_mendBellows := by decide +kernel
theorem k_X2_mendBellows_43 : Cond.fieldLink RX2 43 "BellowsRound$State" "mile" "I" ∈ wsX2_mendBellows := by decide +kernel
theorem k_X2_mendBellows_27 : Cond.fieldLink RX2 27 "BellowsRound$State" "patience" "I" ∈ wsX2_mendBellows := by decide +kernel
theorem k_X2_mendBellows_24 : Cond.fieldLink RX2 24 "BellowsRound$State" "rate" "I" ∈ wsX2_mendBellows := by decide +kernel
theorem k_X2_mendBellows_69 : Cond.constant RX2 69 (-1000000001) ∈ wsX2_mendBellows := by decide +kernel
theorem k_X2_mendBellows_79 : Cond.constant RX2 79 (-1000000002) ∈ wsX2_mendBellows := by decide +kernel
theorem ki_X2_mendBellows_X3_hoursOfMend : Cond.initialized RX3 ∈ wsX2_mendBellows := by decide +kernel
theorem ks_X2_mendBellows_X3_hoursOfMend : Cond.static yX3_hoursOfMend ∈ wsX2_mendBellows := by decide +kernel
theorem in_X2_isCold_wsX20 : ∀ w ∈ wsX20, w ∈ wsX2_isCold := by decide +kernel
theorem k_X2_isCold_17 : Cond.fieldLink RX2 17 "BellowsRound$State" "cold" "I" ∈ wsX2_isCold := by decide +kernel
theorem in_X2_collectDebt_wsX10 : ∀ w ∈ wsX10, w ∈ wsX2_collectDebt := by decide +kernel
theorem in_X2_collectDebt_wsX20 : ∀ w ∈ wsX20, w ∈ wsX2_collectDebt := by decide +kernel
theorem k_X2_collectDebt_112 : Cond.fieldLink RX2 112 "BellowsRound$Smithy" "mile" "I" ∈ wsX2_collectDebt := by decide +kernel
theorem k_X2_collectDebt_43 : Cond.fieldLink RX2 43 "BellowsRound$State" "mile" "I" ∈ wsX2_collectDebt := by decide +kernel
theorem k_X2_collectDebt_100 : Cond.fieldLink RX2 100 "BellowsRound$Smithy" "debt" "I" ∈ wsX2_collectDebt := by decide +kernel
theorem k_X2_collectDebt_113 : Cond.fieldLink RX2 113 "BellowsRound$Smithy" "heat" "I" ∈ wsX2_collectDebt := by decide +kernel
theorem k_X2_collectDebt_120 : Cond.fieldLink RX2 120 "BellowsRound$Smithy" "paid" "I" ∈ wsX2_collectDebt := by decide +kernel
theorem k_X2_collectDebt_33 : Cond.fieldLink RX2 33 "BellowsRound$State" "money" "I" ∈ wsX2_collectDebt := by decide +kernel
theorem k_X2_collectDebt_37 : Cond.fieldLink RX2 37 "BellowsRound$State" "smithyCount" "I" ∈ wsX2_collectDebt := by decide +kernel
theorem k_X2_collectDebt_11 : Cond.fieldLink RX2 11 "BellowsRound$State" "smithies" "[LBellowsRound$Smithy;" ∈ wsX2_collectDebt := by decide +kernel
theorem k_X2_collectDebt_17 : Cond.fieldLink RX2 17 "BellowsRound$State" "cold" "I" ∈ wsX2_collectDebt := by decide +kernel
theorem k_X2_collectDebt_69 : Cond.constant RX2 69 (-1000000001) ∈ wsX2_collectDebt := by decide +kernel
theorem k_X2_collectDebt_79 : Cond.constant RX2 79 (-1000000002) ∈ wsX2_collectDebt := by decide +kernel
theorem k_X3_wearBehindDay_243 : Cond.methodLink RX3 243 Lib.Math.min.name ∈ wsX3_wearBehindDay := by decide +kernel
theorem ks_X3_wearBehindDay_min : Cond.static Lib.Math.min.name ∈ wsX3_wearBehindDay := by decide +kernel
theorem kc_X3_wearBehindDay_min : Cond.code Lib.Math.min.name Lib.Math.min.code 2 (some .int) ∈ wsX3_wearBehindDay := by decide +kernel
theorem ki_X3_wearBehindDay_math : Cond.initialized "java/lang/Math" ∈ wsX3_wearBehindDay := by decide +kernel
theorem k_X3_heatBehindDay_243 : Cond.methodLink RX3 243 Lib.Math.min.name ∈ wsX3_heatBehindDay := by decide +kernel
theorem ks_X3_heatBehindDay_min : Cond.static Lib.Math.min.name ∈ wsX3_heatBehindDay := by decide +kernel
theorem kc_X3_heatBehindDay_min : Cond.code Lib.Math.min.name Lib.Math.min.code 2 (some .int) ∈ wsX3_heatBehindDay := by decide +kernel
theorem ki_X3_heatBehindDay_math : Cond.initialized "java/lang/Math" ∈ wsX3_heatBehindDay := by decide +kernel
theorem k_X3_heatBehindDay_248 : Cond.methodLink RX3 248 Lib.Math.max.name ∈ wsX3_heatBehindDay := by decide +kernel
theorem ks_X3_heatBehindDay_max : Cond.static Lib.Math.max.name ∈ wsX3_heatBehindDay := by decide +kernel
theorem kc_X3_heatBehindDay_max : Cond.code Lib.Math.max.name Lib.Math.max.code 2 (some .int) ∈ wsX3_heatBehindDay := by decide +kernel
theorem in_X2_endDayOf_wsX10 : ∀ w ∈ wsX10, w ∈ wsX2_endDayOf := by decide +kernel
theorem in_X2_endDayOf_wsX20 : ∀ w ∈ wsX20, w ∈ wsX2_endDayOf := by decide +kernel
theorem k_X2_endDayOf_106 : Cond.fieldLink RX2 106 "BellowsRound$Smithy" "wear" "I" ∈ wsX2_endDayOf := by decide +kernel
theorem k_X2_endDayOf_135 : Cond.fieldLink RX2 135 "BellowsRound$Smithy" "size" "I" ∈ wsX2_endDayOf := by decide +kernel
theorem k_X2_endDayOf_113 : Cond.fieldLink RX2 113 "BellowsRound$Smithy" "heat" "I" ∈ wsX2_endDayOf := by decide +kernel
theorem k_X2_endDayOf_144 : Cond.fieldLink RX2 144 "BellowsRound$Smithy" "coldDays" "I" ∈ wsX2_endDayOf := by decide +kernel
theorem k_X2_endDayOf_55 : Cond.fieldLink RX2 55 "BellowsRound$State" "longestCold" "I" ∈ wsX2_endDayOf := by decide +kernel
theorem k_X2_endDayOf_17 : Cond.fieldLink RX2 17 "BellowsRound$State" "cold" "I" ∈ wsX2_endDayOf := by decide +kernel
theorem ki_X2_endDayOf_X3_wearBehindDay : Cond.initialized RX3 ∈ wsX2_endDayOf := by decide +kernel
theorem ks_X2_endDayOf_X3_wearBehindDay : Cond.static yX3_wearBehindDay ∈ wsX2_endDayOf := by decide +kernel
theorem ki_X2_endDayOf_X3_heatBehindDay : Cond.initialized RX3 ∈ wsX2_endDayOf := by decide +kernel
theorem ks_X2_endDayOf_X3_heatBehindDay : Cond.static yX3_heatBehindDay ∈ wsX2_endDayOf := by decide +kernel
theorem k_X2_endDayOf_147 : Cond.methodLink RX2 147 Lib.Math.max.name ∈ wsX2_endDayOf := by decide +kernel
theorem ks_X2_endDayOf_max : Cond.static Lib.Math.max.name ∈ wsX2_endDayOf := by decide +kernel
theorem kc_X2_endDayOf_max : Cond.code Lib.Math.max.name Lib.Math.max.code 2 (some .int) ∈ wsX2_endDayOf := by decide +kernel
theorem ki_X2_endDayOf_math : Cond.initialized "java/lang/Math" ∈ wsX2_endDayOf := by decide +kernel
theorem in_X2_coldSet_wsX10 : ∀ w ∈ wsX10, w ∈ wsX2_coldSet := by decide +kernel
theorem in_X2_coldSet_wsX20 : ∀ w ∈ wsX20, w ∈ wsX2_coldSet := by decide +kernel
theorem k_X2_coldSet_37 : Cond.fieldLink RX2 37 "BellowsRound$State" "smithyCount" "I" ∈ wsX2_coldSet := by decide +kernel
theorem k_X2_coldSet_113 : Cond.fieldLink RX2 113 "BellowsRound$Smithy" "heat" "I" ∈ wsX2_coldSet := by decide +kernel
theorem k_X2_coldSet_11 : Cond.fieldLink RX2 11 "BellowsRound$State" "smithies" "[LBellowsRound$Smithy;" ∈ wsX2_coldSet := by decide +kernel
theorem k_X2_coldSet_17 : Cond.fieldLink RX2 17 "BellowsRound$State" "cold" "I" ∈ wsX2_coldSet := by decide +kernel
theorem k_J6_bitCount_0f7a4_265 : Cond.constant RJ6 265 (1431655765) ∈ wsJ6_bitCount_0f7a4 := by decide +kernel
theorem k_J6_bitCount_0f7a4_266 : Cond.constant RJ6 266 (858993459) ∈ wsJ6_bitCount_0f7a4 := by decide +kernel
theorem k_J6_bitCount_0f7a4_267 : Cond.constant RJ6 267 (252645135) ∈ wsJ6_bitCount_0f7a4 := by decide +kernel
theorem in_X2_endDays_wsX10 : ∀ w ∈ wsX10, w ∈ wsX2_endDays := by decide +kernel
theorem in_X2_endDays_wsX20 : ∀ w ∈ wsX20, w ∈ wsX2_endDays := by decide +kernel
theorem k_X2_endDays_40 : Cond.fieldLink RX2 40 "BellowsRound$State" "day" "I" ∈ wsX2_endDays := by decide +kernel
theorem k_X2_endDays_37 : Cond.fieldLink RX2 37 "BellowsRound$State" "smithyCount" "I" ∈ wsX2_endDays := by decide +kernel
theorem k_X2_endDays_21 : Cond.fieldLink RX2 21 "BellowsRound$State" "hours" "I" ∈ wsX2_endDays := by decide +kernel
theorem k_X2_endDays_30 : Cond.fieldLink RX2 30 "BellowsRound$State" "hoursLeft" "I" ∈ wsX2_endDays := by decide +kernel
theorem k_X2_endDays_11 : Cond.fieldLink RX2 11 "BellowsRound$State" "smithies" "[LBellowsRound$Smithy;" ∈ wsX2_endDays := by decide +kernel
theorem k_X2_endDays_106 : Cond.fieldLink RX2 106 "BellowsRound$Smithy" "wear" "I" ∈ wsX2_endDays := by decide +kernel
theorem k_X2_endDays_135 : Cond.fieldLink RX2 135 "BellowsRound$Smithy" "size" "I" ∈ wsX2_endDays := by decide +kernel
theorem k_X2_endDays_113 : Cond.fieldLink RX2 113 "BellowsRound$Smithy" "heat" "I" ∈ wsX2_endDays := by decide +kernel
theorem k_X2_endDays_144 : Cond.fieldLink RX2 144 "BellowsRound$Smithy" "coldDays" "I" ∈ wsX2_endDays := by decide +kernel
theorem k_X2_endDays_55 : Cond.fieldLink RX2 55 "BellowsRound$State" "longestCold" "I" ∈ wsX2_endDays := by decide +kernel
theorem k_X2_endDays_17 : Cond.fieldLink RX2 17 "BellowsRound$State" "cold" "I" ∈ wsX2_endDays := by decide +kernel
theorem k_X2_endDays_69 : Cond.constant RX2 69 (-1000000001) ∈ wsX2_endDays := by decide +kernel
theorem k_X2_endDays_70 : Cond.constant RX2 70 (-1000000003) ∈ wsX2_endDays := by decide +kernel
theorem in_X2_changeSetting_wsX20 : ∀ w ∈ wsX20, w ∈ wsX2_changeSetting := by decide +kernel
theorem k_X2_changeSetting_17 : Cond.fieldLink RX2 17 "BellowsRound$State" "cold" "I" ∈ wsX2_changeSetting := by decide +kernel
theorem k_X2_changeSetting_21 : Cond.fieldLink RX2 21 "BellowsRound$State" "hours" "I" ∈ wsX2_changeSetting := by decide +kernel
theorem k_X2_changeSetting_24 : Cond.fieldLink RX2 24 "BellowsRound$State" "rate" "I" ∈ wsX2_changeSetting := by decide +kernel
theorem k_X2_changeSetting_27 : Cond.fieldLink RX2 27 "BellowsRound$State" "patience" "I" ∈ wsX2_changeSetting := by decide +kernel
theorem k_X2_changeSetting_69 : Cond.constant RX2 69 (-1000000001) ∈ wsX2_changeSetting := by decide +kernel
theorem in_X2_debtsTogether_wsX10 : ∀ w ∈ wsX10, w ∈ wsX2_debtsTogether := by decide +kernel
theorem in_X2_debtsTogether_wsX20 : ∀ w ∈ wsX20, w ∈ wsX2_debtsTogether := by decide +kernel
theorem k_X2_debtsTogether_37 : Cond.fieldLink RX2 37 "BellowsRound$State" "smithyCount" "I" ∈ wsX2_debtsTogether := by decide +kernel
theorem k_X2_debtsTogether_100 : Cond.fieldLink RX2 100 "BellowsRound$Smithy" "debt" "I" ∈ wsX2_debtsTogether := by decide +kernel
theorem k_X2_debtsTogether_11 : Cond.fieldLink RX2 11 "BellowsRound$State" "smithies" "[LBellowsRound$Smithy;" ∈ wsX2_debtsTogether := by decide +kernel
theorem in_X3_dropOldestState_wsX30 : ∀ w ∈ wsX30, w ∈ wsX3_dropOldestState := by decide +kernel
theorem k_X3_dropOldestState_19 : Cond.fieldLink RX3 19 "BellowsRound" "history" "[LBellowsRound$State;" ∈ wsX3_dropOldestState := by decide +kernel
theorem k_X3_dropOldestState_176 : Cond.fieldLink RX3 176 "BellowsRound" "states" "I" ∈ wsX3_dropOldestState := by decide +kernel
theorem in_X3_remember_wsX10 : ∀ w ∈ wsX10, w ∈ wsX3_remember := by decide +kernel
theorem in_X3_remember_wsX20 : ∀ w ∈ wsX20, w ∈ wsX3_remember := by decide +kernel
theorem in_X3_remember_wsX30 : ∀ w ∈ wsX30, w ∈ wsX3_remember := by decide +kernel
theorem k_X3_remember_176 : Cond.fieldLink RX3 176 "BellowsRound" "states" "I" ∈ wsX3_remember := by decide +kernel
theorem k_X3_remember_19 : Cond.fieldLink RX3 19 "BellowsRound" "history" "[LBellowsRound$State;" ∈ wsX3_remember := by decide +kernel
theorem k_X3_remember_12 : Cond.fieldLink RX3 12 "BellowsRound" "now" "LBellowsRound$State;" ∈ wsX3_remember := by decide +kernel
theorem in_X3_commit_wsX10 : ∀ w ∈ wsX10, w ∈ wsX3_commit := by decide +kernel
theorem in_X3_commit_wsX20 : ∀ w ∈ wsX20, w ∈ wsX3_commit := by decide +kernel
theorem in_X3_commit_wsX30 : ∀ w ∈ wsX30, w ∈ wsX3_commit := by decide +kernel
theorem k_X3_commit_12 : Cond.fieldLink RX3 12 "BellowsRound" "now" "LBellowsRound$State;" ∈ wsX3_commit := by decide +kernel
theorem k_X3_commit_16 : Cond.fieldLink RX3 16 "BellowsRound" "trial" "LBellowsRound$State;" ∈ wsX3_commit := by decide +kernel
theorem k_X3_commit_176 : Cond.fieldLink RX3 176 "BellowsRound" "states" "I" ∈ wsX3_commit := by decide +kernel
theorem k_X3_commit_19 : Cond.fieldLink RX3 19 "BellowsRound" "history" "[LBellowsRound$State;" ∈ wsX3_commit := by decide +kernel
theorem in_X3_smithy_wsX10 : ∀ w ∈ wsX10, w ∈ wsX3_smithy := by decide +kernel
theorem in_X3_smithy_wsX20 : ∀ w ∈ wsX20, w ∈ wsX3_smithy := by decide +kernel
theorem in_X3_smithy_wsX30 : ∀ w ∈ wsX30, w ∈ wsX3_smithy := by decide +kernel
theorem k_X3_smithy_16 : Cond.fieldLink RX3 16 "BellowsRound" "trial" "LBellowsRound$State;" ∈ wsX3_smithy := by decide +kernel
theorem k_X3_smithy_12 : Cond.fieldLink RX3 12 "BellowsRound" "now" "LBellowsRound$State;" ∈ wsX3_smithy := by decide +kernel
theorem k_X3_smithy_176 : Cond.fieldLink RX3 176 "BellowsRound" "states" "I" ∈ wsX3_smithy := by decide +kernel
theorem k_X3_smithy_19 : Cond.fieldLink RX3 19 "BellowsRound" "history" "[LBellowsRound$State;" ∈ wsX3_smithy := by decide +kernel
theorem in_X3_walk_wsX10 : ∀ w ∈ wsX10, w ∈ wsX3_walk := by decide +kernel
theorem in_X3_walk_wsX20 : ∀ w ∈ wsX20, w ∈ wsX3_walk := by decide +kernel
theorem in_X3_walk_wsX30 : ∀ w ∈ wsX30, w ∈ wsX3_walk := by decide +kernel
theorem k_X3_walk_16 : Cond.fieldLink RX3 16 "BellowsRound" "trial" "LBellowsRound$State;" ∈ wsX3_walk := by decide +kernel
theorem k_X3_walk_12 : Cond.fieldLink RX3 12 "BellowsRound" "now" "LBellowsRound$State;" ∈ wsX3_walk := by decide +kernel
theorem k_X3_walk_176 : Cond.fieldLink RX3 176 "BellowsRound" "states" "I" ∈ wsX3_walk := by decide +kernel
theorem k_X3_walk_19 : Cond.fieldLink RX3 19 "BellowsRound" "history" "[LBellowsRound$State;" ∈ wsX3_walk := by decide +kernel
theorem in_X3_buy_wsX10 : ∀ w ∈ wsX10, w ∈ wsX3_buy := by decide +kernel
theorem in_X3_buy_wsX20 : ∀ w ∈ wsX20, w ∈ wsX3_buy := by decide +kernel
theorem in_X3_buy_wsX30 : ∀ w ∈ wsX30, w ∈ wsX3_buy := by decide +kernel
theorem k_X3_buy_16 : Cond.fieldLink RX3 16 "BellowsRound" "trial" "LBellowsRound$State;" ∈ wsX3_buy := by decide +kernel
theorem k_X3_buy_12 : Cond.fieldLink RX3 12 "BellowsRound" "now" "LBellowsRound$State;" ∈ wsX3_buy := by decide +kernel
theorem k_X3_buy_176 : Cond.fieldLink RX3 176 "BellowsRound" "states" "I" ∈ wsX3_buy := by decide +kernel
theorem k_X3_buy_19 : Cond.fieldLink RX3 19 "BellowsRound" "history" "[LBellowsRound$State;" ∈ wsX3_buy := by decide +kernel
theorem in_X3_patch_wsX10 : ∀ w ∈ wsX10, w ∈ wsX3_patch := by decide +kernel
theorem in_X3_patch_wsX20 : ∀ w ∈ wsX20, w ∈ wsX3_patch := by decide +kernel
theorem in_X3_patch_wsX30 : ∀ w ∈ wsX30, w ∈ wsX3_patch := by decide +kernel
theorem k_X3_patch_16 : Cond.fieldLink RX3 16 "BellowsRound" "trial" "LBellowsRound$State;" ∈ wsX3_patch := by decide +kernel
theorem k_X3_patch_12 : Cond.fieldLink RX3 12 "BellowsRound" "now" "LBellowsRound$State;" ∈ wsX3_patch := by decide +kernel
theorem k_X3_patch_176 : Cond.fieldLink RX3 176 "BellowsRound" "states" "I" ∈ wsX3_patch := by decide +kernel
theorem k_X3_patch_19 : Cond.fieldLink RX3 19 "BellowsRound" "history" "[LBellowsRound$State;" ∈ wsX3_patch := by decide +kernel
theorem in_X3_hide_wsX10 : ∀ w ∈ wsX10, w ∈ wsX3_hide := by decide +kernel
theorem in_X3_hide_wsX20 : ∀ w ∈ wsX20, w ∈ wsX3_hide := by decide +kernel
theorem in_X3_hide_wsX30 : ∀ w ∈ wsX30, w ∈ wsX3_hide := by decide +kernel
theorem k_X3_hide_16 : Cond.fieldLink RX3 16 "BellowsRound" "trial" "LBellowsRound$State;" ∈ wsX3_hide := by decide +kernel
theorem k_X3_hide_12 : Cond.fieldLink RX3 12 "BellowsRound" "now" "LBellowsRound$State;" ∈ wsX3_hide := by decide +kernel
theorem k_X3_hide_176 : Cond.fieldLink RX3 176 "BellowsRound" "states" "I" ∈ wsX3_hide := by decide +kernel
theorem k_X3_hide_19 : Cond.fieldLink RX3 19 "BellowsRound" "history" "[LBellowsRound$State;" ∈ wsX3_hide := by decide +kernel
theorem in_X3_collect_wsX10 : ∀ w ∈ wsX10, w ∈ wsX3_collect := by decide +kernel
theorem in_X3_collect_wsX20 : ∀ w ∈ wsX20, w ∈ wsX3_collect := by decide +kernel
theorem in_X3_collect_wsX30 : ∀ w ∈ wsX30, w ∈ wsX3_collect := by decide +kernel
theorem k_X3_collect_16 : Cond.fieldLink RX3 16 "BellowsRound" "trial" "LBellowsRound$State;" ∈ wsX3_collect := by decide +kernel
theorem k_X3_collect_12 : Cond.fieldLink RX3 12 "BellowsRound" "now" "LBellowsRound$State;" ∈ wsX3_collect := by decide +kernel
theorem k_X3_collect_176 : Cond.fieldLink RX3 176 "BellowsRound" "states" "I" ∈ wsX3_collect := by decide +kernel
theorem k_X3_collect_19 : Cond.fieldLink RX3 19 "BellowsRound" "history" "[LBellowsRound$State;" ∈ wsX3_collect := by decide +kernel
theorem in_X3_end_wsX10 : ∀ w ∈ wsX10, w ∈ wsX3_end := by decide +kernel
theorem in_X3_end_wsX20 : ∀ w ∈ wsX20, w ∈ wsX3_end := by decide +kernel
theorem in_X3_end_wsX30 : ∀ w ∈ wsX30, w ∈ wsX3_end := by decide +kernel
theorem k_X3_end_16 : Cond.fieldLink RX3 16 "BellowsRound" "trial" "LBellowsRound$State;" ∈ wsX3_end := by decide +kernel
theorem k_X3_end_12 : Cond.fieldLink RX3 12 "BellowsRound" "now" "LBellowsRound$State;" ∈ wsX3_end := by decide +kernel
theorem k_X3_end_176 : Cond.fieldLink RX3 176 "BellowsRound" "states" "I" ∈ wsX3_end := by decide +kernel
theorem k_X3_end_19 : Cond.fieldLink RX3 19 "BellowsRound" "history" "[LBellowsRound$State;" ∈ wsX3_end := by decide +kernel
theorem in_X3_set_wsX10 : ∀ w ∈ wsX10, w ∈ wsX3_set := by decide +kernel
theorem in_X3_set_wsX20 : ∀ w ∈ wsX20, w ∈ wsX3_set := by decide +kernel
theorem in_X3_set_wsX30 : ∀ w ∈ wsX30, w ∈ wsX3_set := by decide +kernel
theorem k_X3_set_16 : Cond.fieldLink RX3 16 "BellowsRound" "trial" "LBellowsRound$State;" ∈ wsX3_set := by decide +kernel
theorem k_X3_set_12 : Cond.fieldLink RX3 12 "BellowsRound" "now" "LBellowsRound$State;" ∈ wsX3_set := by decide +kernel
theorem k_X3_set_176 : Cond.fieldLink RX3 176 "BellowsRound" "states" "I" ∈ wsX3_set := by decide +kernel
theorem k_X3_set_19 : Cond.fieldLink RX3 19 "BellowsRound" "history" "[LBellowsRound$State;" ∈ wsX3_set := by decide +kernel
theorem in_X3_smithyOf_wsX10 : ∀ w ∈ wsX10, w ∈ wsX3_smithyOf := by decide +kernel
theorem in_X3_smithyOf_wsX20 : ∀ w ∈ wsX20, w ∈ wsX3_smithyOf := by decide +kernel
theorem in_X3_smithyOf_wsX30 : ∀ w ∈ wsX30, w ∈ wsX3_smithyOf := by decide +kernel
theorem k_X3_smithyOf_12 : Cond.fieldLink RX3 12 "BellowsRound" "now" "LBellowsRound$State;" ∈ wsX3_smithyOf := by decide +kernel
theorem k_X3_smithyOf_66 : Cond.fieldLink RX3 66 "BellowsRound$Smithy" "mile" "I" ∈ wsX3_smithyOf := by decide +kernel
theorem k_X3_smithyOf_72 : Cond.fieldLink RX3 72 "BellowsRound$Smithy" "size" "I" ∈ wsX3_smithyOf := by decide +kernel
theorem k_X3_smithyOf_75 : Cond.fieldLink RX3 75 "BellowsRound$Smithy" "wear" "I" ∈ wsX3_smithyOf := by decide +kernel
theorem k_X3_smithyOf_81 : Cond.fieldLink RX3 81 "BellowsRound$Smithy" "heat" "I" ∈ wsX3_smithyOf := by decide +kernel
theorem k_X3_smithyOf_88 : Cond.fieldLink RX3 88 "BellowsRound$Smithy" "coldDays" "I" ∈ wsX3_smithyOf := by decide +kernel
theorem k_X3_smithyOf_91 : Cond.fieldLink RX3 91 "BellowsRound$Smithy" "debt" "I" ∈ wsX3_smithyOf := by decide +kernel
theorem k_X3_smithyOf_94 : Cond.fieldLink RX3 94 "BellowsRound$Smithy" "paid" "I" ∈ wsX3_smithyOf := by decide +kernel
theorem k_X3_smithyOf_97 : Cond.fieldLink RX3 97 "BellowsRound$Smithy" "mends" "I" ∈ wsX3_smithyOf := by decide +kernel
theorem k_X3_smithyOf_100 : Cond.fieldLink RX3 100 "BellowsRound$State" "mile" "I" ∈ wsX3_smithyOf := by decide +kernel
theorem k_X3_smithyOf_65 : Cond.constant RX3 65 (-1000000001) ∈ wsX3_smithyOf := by decide +kernel
theorem in_X3_why_wsX10 : ∀ w ∈ wsX10, w ∈ wsX3_why := by decide +kernel
theorem in_X3_why_wsX20 : ∀ w ∈ wsX20, w ∈ wsX3_why := by decide +kernel
theorem in_X3_why_wsX30 : ∀ w ∈ wsX30, w ∈ wsX3_why := by decide +kernel
theorem k_X3_why_12 : Cond.fieldLink RX3 12 "BellowsRound" "now" "LBellowsRound$State;" ∈ wsX3_why := by decide +kernel
theorem k_X3_why_65 : Cond.constant RX3 65 (-1000000001) ∈ wsX3_why := by decide +kernel
theorem in_X3_mend_wsX10 : ∀ w ∈ wsX10, w ∈ wsX3_mend := by decide +kernel
theorem in_X3_mend_wsX20 : ∀ w ∈ wsX20, w ∈ wsX3_mend := by decide +kernel
theorem in_X3_mend_wsX30 : ∀ w ∈ wsX30, w ∈ wsX3_mend := by decide +kernel
theorem k_X3_mend_12 : Cond.fieldLink RX3 12 "BellowsRound" "now" "LBellowsRound$State;" ∈ wsX3_mend := by decide +kernel
theorem k_X3_mend_65 : Cond.constant RX3 65 (-1000000001) ∈ wsX3_mend := by decide +kernel
theorem in_X3_count_wsX00 : ∀ w ∈ wsX00, w ∈ wsX3_count := by decide +kernel
theorem in_X3_count_wsX10 : ∀ w ∈ wsX10, w ∈ wsX3_count := by decide +kernel
theorem in_X3_count_wsX20 : ∀ w ∈ wsX20, w ∈ wsX3_count := by decide +kernel
theorem in_X3_count_wsX30 : ∀ w ∈ wsX30, w ∈ wsX3_count := by decide +kernel
theorem k_X3_count_12 : Cond.fieldLink RX3 12 "BellowsRound" "now" "LBellowsRound$State;" ∈ wsX3_count := by decide +kernel
theorem k_X3_count_133 : Cond.fieldLink RX3 133 "BellowsRound$State" "smithyCount" "I" ∈ wsX3_count := by decide +kernel
theorem k_X3_count_146 : Cond.fieldLink RX3 146 "BellowsRound$State" "day" "I" ∈ wsX3_count := by decide +kernel
theorem k_X3_count_100 : Cond.fieldLink RX3 100 "BellowsRound$State" "mile" "I" ∈ wsX3_count := by decide +kernel
theorem k_X3_count_149 : Cond.fieldLink RX3 149 "BellowsRound$State" "hoursLeft" "I" ∈ wsX3_count := by decide +kernel
theorem k_X3_count_152 : Cond.fieldLink RX3 152 "BellowsRound$State" "leather" "I" ∈ wsX3_count := by decide +kernel
theorem k_X3_count_155 : Cond.fieldLink RX3 155 "BellowsRound$State" "money" "I" ∈ wsX3_count := by decide +kernel
theorem k_X3_count_161 : Cond.fieldLink RX3 161 "BellowsRound$State" "paidForLeather" "I" ∈ wsX3_count := by decide +kernel
theorem k_X3_count_164 : Cond.fieldLink RX3 164 "BellowsRound$State" "owedForMends" "I" ∈ wsX3_count := by decide +kernel
theorem k_X3_count_170 : Cond.fieldLink RX3 170 "BellowsRound$State" "longestCold" "I" ∈ wsX3_count := by decide +kernel
theorem k_X3_count_173 : Cond.fieldLink RX3 173 "BellowsRound$State" "milesWalked" "I" ∈ wsX3_count := by decide +kernel
theorem k_X3_count_176 : Cond.fieldLink RX3 176 "BellowsRound" "states" "I" ∈ wsX3_count := by decide +kernel
theorem k_X3_count_26 : Cond.fieldLink RX3 26 "BellowsRound" "text" "LBellowsRound$OrderText;" ∈ wsX3_count := by decide +kernel
theorem k_X3_count_179 : Cond.fieldLink RX3 179 "BellowsRound$OrderText" "length" "I" ∈ wsX3_count := by decide +kernel
theorem k_X3_count_182 : Cond.fieldLink RX3 182 "BellowsRound$State" "cold" "I" ∈ wsX3_count := by decide +kernel
theorem k_X3_count_185 : Cond.fieldLink RX3 185 "BellowsRound$State" "hours" "I" ∈ wsX3_count := by decide +kernel
theorem k_X3_count_188 : Cond.fieldLink RX3 188 "BellowsRound$State" "rate" "I" ∈ wsX3_count := by decide +kernel
theorem k_X3_count_191 : Cond.fieldLink RX3 191 "BellowsRound$State" "patience" "I" ∈ wsX3_count := by decide +kernel
theorem k_X3_count_65 : Cond.constant RX3 65 (-1000000001) ∈ wsX3_count := by decide +kernel
theorem k_L_cell_7 : Cond.constant RL 7 (40503) ∈ wsL_cell := by decide +kernel
theorem k_L_low_8 : Cond.constant RL 8 (2147483647) ∈ wsL_low := by decide +kernel
theorem k_L_walks_23 : Cond.constant RL 23 (-1000000002) ∈ wsL_walks := by decide +kernel
theorem k_L_buys_23 : Cond.constant RL 23 (-1000000002) ∈ wsL_buys := by decide +kernel
theorem k_L_buys_24 : Cond.constant RL 24 (-1000000003) ∈ wsL_buys := by decide +kernel
theorem k_L_mends_23 : Cond.constant RL 23 (-1000000002) ∈ wsL_mends := by decide +kernel
theorem k_L_collects_23 : Cond.constant RL 23 (-1000000002) ∈ wsL_collects := by decide +kernel
theorem in_L_acts_wsX10 : ∀ w ∈ wsX10, w ∈ wsL_acts := by decide +kernel
theorem in_L_acts_wsX20 : ∀ w ∈ wsX20, w ∈ wsL_acts := by decide +kernel
theorem in_L_acts_wsX30 : ∀ w ∈ wsX30, w ∈ wsL_acts := by decide +kernel
theorem k_L_acts_40 : Cond.constant RL 40 (10000000) ∈ wsL_acts := by decide +kernel
theorem k_L_acts_24 : Cond.constant RL 24 (-1000000003) ∈ wsL_acts := by decide +kernel
theorem k_L_acts_65 : Cond.constant RL 65 (-1000000001) ∈ wsL_acts := by decide +kernel
theorem k_L_acts_8 : Cond.constant RL 8 (2147483647) ∈ wsL_acts := by decide +kernel
theorem k_L_acts_23 : Cond.constant RL 23 (-1000000002) ∈ wsL_acts := by decide +kernel
theorem in_L_areSmithies_wsX00 : ∀ w ∈ wsX00, w ∈ wsL_areSmithies := by decide +kernel
theorem in_L_areSmithies_wsX10 : ∀ w ∈ wsX10, w ∈ wsL_areSmithies := by decide +kernel
theorem in_L_areSmithies_wsX20 : ∀ w ∈ wsX20, w ∈ wsL_areSmithies := by decide +kernel
theorem in_L_areSmithies_wsX30 : ∀ w ∈ wsX30, w ∈ wsL_areSmithies := by decide +kernel
theorem k_L_areSmithies_65 : Cond.constant RL 65 (-1000000001) ∈ wsL_areSmithies := by decide +kernel
theorem in_L_isSo_wsX00 : ∀ w ∈ wsX00, w ∈ wsL_isSo := by decide +kernel
theorem in_L_isSo_wsX10 : ∀ w ∈ wsX10, w ∈ wsL_isSo := by decide +kernel
theorem in_L_isSo_wsX20 : ∀ w ∈ wsX20, w ∈ wsL_isSo := by decide +kernel
theorem in_L_isSo_wsX30 : ∀ w ∈ wsX30, w ∈ wsL_isSo := by decide +kernel
theorem k_L_isSo_65 : Cond.constant RL 65 (-1000000001) ∈ wsL_isSo := by decide +kernel
end
section
abbrev vwCl : List vw_C := [(RX0, TX0, 6), (RX1, TX1, 8), (RX2, TX2, 15), (RX3, TX3, 9)]
/-! ===== THE LOGIC: one memory for class and reference, contracts PM, walks PW: thin rows over the kit's ===== -/
abbrev Mem : Type := (Nat → Nat → Int32) × (Nat → Nat)
abbrev QT : Type := Option Value → Mem → Prop
/-- the cell of the object i: 0 BellowsRound, 1 OrderText, 2 its characters, 3 the history, 4 and 5 the law's rows (one place, 10: 14 ints, then 64), 6+10p.. the State p, its row, its smithies -/
def cellOf (cA : Nat → ClassId) (ad : Nat → Nat) (M : Mem) (i : Nat) : va_E :=
  if i = 0 then .inr (3, [.ref (ad (6 + 10 * M.2 0)), .ref (ad (6 + 10 * M.2 1)), .ref (ad 3), .int (M.1 8 0), .ref (ad 1), .int (M.1 8 1), .int (M.1 8 2), .int (M.1 8 3), .int (M.1 8 4)])
  else if i = 1 then .inr (0, [.ref (ad 2), .int (M.1 6 0), .int (M.1 6 1), .int (M.1 6 2), .int (M.1 6 3), .int (M.1 6 4)])
  else if i = 2 then .inl (cA 0, 60, .inl (M.1 7))
  else if i = 3 then .inl (cA 3, 4, .inr (.inr (.inr (.inr (fun j => some (ad (6 + 10 * M.2 (2 + j))))))))
  else if i = 4 then .inl (cA 1, 14, .inl (fun j => if j < 14 then M.1 10 j else 0))
  else if i = 5 then .inl (cA 1, 64, .inl (fun j => M.1 10 (14 + j)))
  else if (i - 6) % 10 = 0 then .inr (2, [.ref (ad (i + 1)), .int (M.1 ((i - 6) / 10) 0), .int (M.1 ((i - 6) / 10) 10), .int (M.1 ((i - 6) / 10) 11), .int (M.1 ((i - 6) / 10) 12), .int (M.1 ((i - 6) / 10) 13), .int (M.1 ((i - 6) / 10) 1), .int (M.1 ((i - 6) / 10) 2), .int (M.1 ((i - 6) / 10) 3), .int (M.1 ((i - 6) / 10) 4), .int (M.1 ((i - 6) / 10) 5), .int (M.1 ((i - 6) / 10) 6), .int (M.1 ((i - 6) / 10) 7), .int (M.1 ((i - 6) / 10) 8), .int (M.1 ((i - 6) / 10) 9)])
  else if (i - 6) % 10 = 1 then .inl (cA 2, 8, .inr (.inr (.inr (.inr (fun j => some (ad (i + 1 + j)))))))
  else .inr (1, [.int (M.1 ((i - 6) / 10) (14 + 8 * ((i - 6) % 10 - 2))), .int (M.1 ((i - 6) / 10) (14 + 8 * ((i - 6) % 10 - 2) + 1)), .int (M.1 ((i - 6) / 10) (14 + 8 * ((i - 6) % 10 - 2) + 2)), .int (M.1 ((i - 6) / 10) (14 + 8 * ((i - 6) % 10 - 2) + 3)), .int (M.1 ((i - 6) / 10) (14 + 8 * ((i - 6) % 10 - 2) + 4)), .int (M.1 ((i - 6) / 10) (14 + 8 * ((i - 6) % 10 - 2) + 5)), .int (M.1 ((i - 6) / 10) (14 + 8 * ((i - 6) % 10 - 2) + 6)), .int (M.1 ((i - 6) / 10) (14 + 8 * ((i - 6) % 10 - 2) + 7))])
def Wld (cA : Nat → ClassId) (ad : Nat → Nat) (M : Mem) : va_W := (List.range 66).map (fun i => (ad i, cellOf cA ad M i))
def AA (ad : Nat → Nat) : Nat → Prop := fun q => ∃ i, i < 66 ∧ q = ad i
def TYS (cA : Nat → ClassId) : List (ClassId × FieldType) := [(cA 0, .char), (cA 1, .int), (cA 2, .object "BellowsRound$Smithy"), (cA 3, .object "BellowsRound$State")]
def rmD (d : Nat) : Room := { frames := d, cells := 0, slots := 0, locals := 32 * d }
def INJ (ad : Nat → Nat) : Prop := ∀ i j, i < 66 → j < 66 → ad i = ad j → i = j
def NST (U : State) : Prop := va_Nw (.methodLinkNest RX2 75 yX3_hoursOfWay "BellowsRound") U ∧ va_Nw (.methodLinkNest RX2 93 yX3_hoursOfMend "BellowsRound") U ∧ va_Nw (.methodLinkNest RX1 36 yX3_tensBegun "BellowsRound") U ∧ va_Nw (.methodLinkNest RX2 138 yX3_wearBehindDay "BellowsRound") U ∧ va_Nw (.methodLinkNest RX2 141 yX3_heatBehindDay "BellowsRound") U
def WOK (cA : Nat → ClassId) (ad : Nat → Nat) (D : va_G) (M : Mem) (H : Heap) : Prop := va_P D vwCl (Wld cA ad M) H
def EOK (cA : Nat → ClassId) (D : va_G) (U : State) : Prop := va_K D vwCl (TYS cA) U ∧ NST U
def QQ (cA : Nat → ClassId) (ad : Nat → Nat) (D : va_G) (Q : QT) : Array Value → State → Outcome → State → Prop := fun _ st oc t => (∃ (r : Option Value) (M : Mem), oc = .returned r ∧ Q r M ∧ WOK cA ad D M t.heap) ∧ va_F (AA ad) st t
def PM (cA : Nat → ClassId) (ad : Nat → Nat) (D : va_G) (y : MethodName) (ws : List Cond) (d : Nat) (av : List Value) (M : Mem) (Q : QT) : Prop :=
  INJ ad → ∀ l : Launch, Met l y ws (rmD d) (va_Pc av (fun U => WOK cA ad D M U.heap ∧ EOK cA D U)) (QQ cA ad D Q) 0 0 (AA ad)
def prs : Nat → List (Option Value) → List (Nat × Value)
  | _, [] => []
  | k, some v :: t => (k, v) :: prs (k + 1) t
  | k, none :: t => prs (k + 1) t
def ENV (cA : Nat → ClassId) (ad : Nat → Nat) (D : va_G) (own : String) (ws : List Cond) (cc : ByteArray) (nL : Nat) (ret : Option FieldType) (p : Program) (s : State) (m : MethodId) (args : Array Value) (meth : Method) (c : Code) : Prop :=
  p.tables.exec = Jvm.exec ∧ c.code = cc ∧ c.maxLocals = nL ∧ s.vm.findClass own = some m.cls ∧ (∀ w ∈ ws, w.before args s = true) ∧ meth.sig.returnType = ret ∧ meth.locks = false ∧ EOK cA D s ∧ INJ ad
def PW (cA : Nat → ClassId) (ad : Nat → Nat) (D : va_G) (own : String) (ws : List Cond) (cc : ByteArray) (nL : Nat) (ret : Option FieldType) (d pc : Nat) (lv : List (Option Value)) (st : List Value) (M : Mem) (Q : QT) : Prop :=
  ∀ (p : Program) (l : Launch) (e : Env) (s : State) (m : MethodId) (args : Array Value) (below : List Frame) (meth : Method) (c : Code) (H : Heap) (locs : List Loc) (ls : Array Slot),
    ENV cA ad D own ws cc nL ret p s m args meth c → WOK cA ad D M H → va_S (AA ad) s.heap H locs → lv_has ls nL (prs 0 lv) →
    W p l e (rmD d) s m args below meth c H locs 0 0 (MQ below (QQ cA ad D Q) args s 0 0 (AA ad)) (F0 m pc ls st)
-- locals
theorem prs_mem : ∀ (lv : List (Option Value)) (k i : Nat) (v : Value), (i, v) ∈ prs k lv ↔ ∃ j, i = k + j ∧ lv[j]? = some (some v) := by
  intro lv
  induction lv with
  | nil => intro k i v; simp [prs]
  | cons a t ih =>
    intro k i v
    cases a with
    | none =>
      simp only [prs]
      rw [ih (k + 1) i v]
      constructor
      · rintro ⟨j, h1, h2⟩
        exact ⟨j + 1, by omega, by simpa using h2⟩
      · rintro ⟨j, h1, h2⟩
        cases j with
        | zero => simp at h2
        | succ j => exact ⟨j, by omega, by simpa using h2⟩
    | some w =>
      simp only [prs, List.mem_cons]
      rw [ih (k + 1) i v]
      constructor
      · rintro (h | ⟨j, h1, h2⟩)
        · exact ⟨0, by simp only [Prod.mk.injEq] at h; omega, by simp only [Prod.mk.injEq] at h; simp [h.2]⟩
        · exact ⟨j + 1, by omega, by simpa using h2⟩
      · rintro ⟨j, h1, h2⟩
        cases j with
        | zero =>
          left
          simp at h2
          simp [h1, h2]
        | succ j => right; exact ⟨j, by omega, by simpa using h2⟩
theorem prs_get {ls : Array Slot} {nL : Nat} {lv : List (Option Value)} (h : lv_has ls nL (prs 0 lv)) {i : Nat} {v : Value} (hi : lv[i]? = some (some v)) : ls[i]? = some (.val v) :=
  h.2.2 (i, v) ((prs_mem lv 0 i v).mpr ⟨i, by omega, hi⟩)
theorem prs_set {ls : Array Slot} {nL : Nat} {lv : List (Option Value)} {i : Nat} {v : Value} (hc : ∀ w, (some w) ∈ lv → w.category = 1) (h : lv_has ls nL ((i, v) :: (prs 0 lv).filter (fun q => !(q.1 == i) && !(q.1 + 1 == i && q.2.category == 2)))) : lv_has ls nL (prs 0 (lv.set i (some v))) := by
  refine ⟨h.1, h.2.1, ?_⟩
  rintro ⟨j, w⟩ hm
  obtain ⟨k, h1, h2⟩ := (prs_mem _ 0 j w).mp hm
  have hk : j = k := by omega
  subst hk
  by_cases hj : j = i
  · subst hj
    have hlt : j < lv.length := by
      rcases Nat.lt_or_ge j lv.length with q | q
      · exact q
      · rw [List.getElem?_eq_none (by simpa using q)] at h2; cases h2
    rw [List.getElem?_set_self hlt] at h2
    cases h2
    exact h.2.2 _ List.mem_cons_self
  · rw [List.getElem?_set_ne (fun q => hj q.symm)] at h2
    refine h.2.2 (j, w) (List.mem_cons_of_mem _ (List.mem_filter.mpr ⟨(prs_mem lv 0 j w).mpr ⟨j, by omega, h2⟩, ?_⟩))
    have hw := hc w (List.mem_of_getElem? h2)
    simp [hj, hw]
-- the world
theorem wld_get (cA : Nat → ClassId) (ad : Nat → Nat) (M : Mem) {i : Nat} (hi : i < 66) : (Wld cA ad M)[i]? = some (ad i, cellOf cA ad M i) := by
  unfold Wld
  rw [List.getElem?_map, List.getElem?_range hi]
  rfl
theorem wld_lt {cA : Nat → ClassId} {ad : Nat → Nat} {M : Mem} {i : Nat} {q : Nat × va_E} (h : (Wld cA ad M)[i]? = some q) : i < 66 ∧ q = (ad i, cellOf cA ad M i) := by
  have hl : i < 66 := by
    rcases Nat.lt_or_ge i 66 with w | w
    · exact w
    · unfold Wld at h
      rw [List.getElem?_eq_none (by simpa using w)] at h; cases h
  rw [wld_get cA ad M hl] at h
  exact ⟨hl, (Option.some.inj h).symm⟩
theorem wld_D {cA : Nat → ClassId} {ad : Nat → Nat} (hI : INJ ad) (M : Mem) : va_D (AA ad) (Wld cA ad M) := by
  refine ⟨fun i j p q hi hj hpq => ?_, fun k q hk => ?_⟩
  · obtain ⟨h1, rfl⟩ := wld_lt hi
    obtain ⟨h2, rfl⟩ := wld_lt hj
    exact hI i j h1 h2 hpq
  · obtain ⟨h1, rfl⟩ := wld_lt hk
    exact ⟨k, h1, rfl⟩
theorem wld_set {cA : Nat → ClassId} {ad : Nat → Nat} {M M' : Mem} {i : Nat} {e : va_E} (hi : i < 66) (h1 : cellOf cA ad M' i = e) (h2 : ∀ j, j < 66 → j ≠ i → cellOf cA ad M' j = cellOf cA ad M j) : (Wld cA ad M).set i (ad i, e) = Wld cA ad M' := by
  apply List.ext_getElem?
  intro j
  by_cases hj : j < 66
  · rw [wld_get cA ad M' hj]
    by_cases hji : j = i
    · subst hji
      rw [List.getElem?_set_self (by unfold Wld; simpa using hj), h1]
    · rw [List.getElem?_set_ne (fun q => hji q.symm), wld_get cA ad M hj, h2 j hj hji]
  · rw [List.getElem?_eq_none (by unfold Wld; simp; omega), List.getElem?_eq_none (by unfold Wld; simp; omega)]
def ownI (p k : Nat) : Nat := if p < 6 then (if k < 14 then 6 + 10 * p else 8 + 10 * p + (k - 14) / 8) else if p = 6 then 1 else if p = 7 then 2 else if p = 8 then 0 else if k < 14 then 4 else 5
/-- one int is written -/
def mput (M : Mem) (p k : Nat) (x : Int32) : Mem := (va_up M.1 p (upd (M.1 p) k x), M.2)
theorem mput_ne {M : Mem} {p k q : Nat} {x : Int32} (h : q ≠ p) : (mput M p k x).1 q = M.1 q := by simp [mput, va_up, h]
theorem mput_eq {M : Mem} {p k : Nat} {x : Int32} : (mput M p k x).1 p = upd (M.1 p) k x := by simp [mput, va_up]
theorem mput_no {M : Mem} {p k q j : Nat} {x : Int32} (h : q ≠ p ∨ j ≠ k) : (mput M p k x).1 q j = M.1 q j := by
  by_cases hq : q = p
  · subst hq
    rw [mput_eq]
    rcases h with h | h
    · exact absurd rfl h
    · simp [upd, h]
  · rw [mput_ne hq]
theorem mput_at {M : Mem} {p k : Nat} {x : Int32} : (mput M p k x).1 p k = x := by rw [mput_eq]; simp [upd]
theorem mput_r {M : Mem} {p k : Nat} {x : Int32} : (mput M p k x).2 = M.2 := rfl
theorem cell_other (cA : Nat → ClassId) (ad : Nat → Nat) (M : Mem) {p k j : Nat} {x : Int32} (hp : p < 11) (hj : j < 66) (hne : j ≠ ownI p k) : cellOf cA ad (mput M p k x) j = cellOf cA ad M j := by
  have hp6 : 6 ≤ p → ownI p k = if p = 6 then 1 else if p = 7 then 2 else if p = 8 then 0 else if k < 14 then 4 else 5 := fun h => by
    unfold ownI; rw [if_neg (by omega)]
  have hpl : p < 6 → k < 14 → ownI p k = 6 + 10 * p := fun h h2 => by unfold ownI; rw [if_pos h, if_pos h2]
  have hps : p < 6 → ¬ k < 14 → ownI p k = 8 + 10 * p + (k - 14) / 8 := fun h h2 => by unfold ownI; rw [if_pos h, if_neg h2]
  have hq : ∀ q, q ≠ p → (mput M p k x).1 q = M.1 q := fun q h => mput_ne h
  have e6 : j = 1 → (mput M p k x).1 6 = M.1 6 := fun h => hq 6 (fun z => by subst z; exact hne (by rw [hp6 (by omega)]; simp; omega))
  have e7 : j = 2 → (mput M p k x).1 7 = M.1 7 := fun h => hq 7 (fun z => by subst z; exact hne (by rw [hp6 (by omega)]; simp; omega))
  have e8 : j = 0 → (mput M p k x).1 8 = M.1 8 := fun h => hq 8 (fun z => by subst z; exact hne (by rw [hp6 (by omega)]; simp; omega))
  have h104 : 9 ≤ p → k < 14 → ownI p k = 4 := fun h h2 => by rw [hp6 (by omega), if_neg (by omega), if_neg (by omega), if_neg (by omega), if_pos h2]
  have h105 : 9 ≤ p → ¬ k < 14 → ownI p k = 5 := fun h h2 => by rw [hp6 (by omega), if_neg (by omega), if_neg (by omega), if_neg (by omega), if_neg h2]
  have e4 : j = 4 → (fun i => if i < 14 then (mput M p k x).1 10 i else 0) = (fun i => if i < 14 then M.1 10 i else 0) := fun h => by
    funext i
    by_cases hi : i < 14
    · rw [if_pos hi, if_pos hi]
      refine mput_no ?_
      by_cases hz : (10 : Nat) = p
      · right
        intro hk
        exact hne (by rw [h104 (by omega) (by omega)]; exact h)
      · exact Or.inl hz
    · rw [if_neg hi, if_neg hi]
  have e5 : j = 5 → (fun i => (mput M p k x).1 10 (14 + i)) = (fun i => M.1 10 (14 + i)) := fun h => by
    funext i
    refine mput_no ?_
    by_cases hz : (10 : Nat) = p
    · right
      intro hk
      exact hne (by rw [h105 (by omega) (by omega)]; exact h)
    · exact Or.inl hz
  have es : 6 ≤ j → (j - 6) % 10 = 0 → ∀ i, i < 14 → (mput M p k x).1 ((j - 6) / 10) i = M.1 ((j - 6) / 10) i := fun h h2 i hi => by
    refine mput_no ?_
    by_cases hz : (j - 6) / 10 = p
    · right
      intro hk
      exact hne (by rw [hpl (by omega) (by omega)]; omega)
    · exact Or.inl hz
  have em : 6 ≤ j → ¬ (j - 6) % 10 = 0 → ¬ (j - 6) % 10 = 1 → ∀ i, i < 8 → (mput M p k x).1 ((j - 6) / 10) (14 + 8 * ((j - 6) % 10 - 2) + i) = M.1 ((j - 6) / 10) (14 + 8 * ((j - 6) % 10 - 2) + i) := fun h h2 h3 i hi => by
    refine mput_no ?_
    by_cases hz : (j - 6) / 10 = p
    · right
      intro hk
      exact hne (by rw [hps (by omega) (by omega)]; omega)
    · exact Or.inl hz
  unfold cellOf
  simp only [mput_r]
  by_cases h0 : j = 0
  · simp only [if_pos h0, e8 h0]
  by_cases h1 : j = 1
  · simp only [if_neg h0, if_pos h1, e6 h1]
  by_cases h2 : j = 2
  · simp only [if_neg h0, if_neg h1, if_pos h2, e7 h2]
  by_cases h3 : j = 3
  · simp only [if_neg h0, if_neg h1, if_neg h2, if_pos h3]
  by_cases h4 : j = 4
  · simp only [if_neg h0, if_neg h1, if_neg h2, if_neg h3, if_pos h4, e4 h4]
  by_cases h5 : j = 5
  · simp only [if_neg h0, if_neg h1, if_neg h2, if_neg h3, if_neg h4, if_pos h5, e5 h5]
  have hj10 : 6 ≤ j := by omega
  simp only [if_neg h0, if_neg h1, if_neg h2, if_neg h3, if_neg h4, if_neg h5]
  by_cases hr : (j - 6) % 10 = 0
  · have q := es hj10 hr
    simp only [if_pos hr, q 0 (by omega), q 1 (by omega), q 2 (by omega), q 3 (by omega), q 4 (by omega), q 5 (by omega), q 6 (by omega), q 7 (by omega), q 8 (by omega), q 9 (by omega), q 10 (by omega), q 11 (by omega), q 12 (by omega), q 13 (by omega)]
  by_cases hr1 : (j - 6) % 10 = 1
  · simp only [if_neg hr, if_pos hr1]
  · have q := em hj10 hr hr1
    have q0 := q 0 (by omega)
    rw [Nat.add_zero] at q0
    simp only [if_neg hr, if_neg hr1, q0, q 1 (by omega), q 2 (by omega), q 3 (by omega), q 4 (by omega), q 5 (by omega), q 6 (by omega), q 7 (by omega)]
end
section
/-! ===== contracts from walks; ends; calls ===== -/
theorem PM_of {cA : Nat → ClassId} {ad : Nat → Nat} {D : va_G} {y : MethodName} {ws ws' : List Cond} {cc : ByteArray} {nL : Nat} {ret : Option FieldType} {d : Nat} {av : List Value} {lv : List (Option Value)} {M : Mem} {Q : QT}
    (hy : plainName y.cls = true) (hw : ws = Cond.code y cc nL ret :: ws') (hlen : (lg_sl av).length ≤ nL) (hlv : lv_args 0 av = prs 0 lv)
    (k : PW cA ad D y.cls ws cc nL ret d 0 lv [] M Q) : PM cA ad D y ws d av M Q := by
  intro hI l
  refine Met.ofW (cc := cc) (maxL := nL) (ret := ret) hy hw ?_
  intro p e s m args below meth c s₁ B hml hv
  obtain ⟨rfl, hW, hE⟩ := hv
  have hl := lv_entry av (n := nL) hlen
  rw [lg_entry_eq]
  rw [hlv] at hl
  exact k p l e s m _ below meth c s.heap [] _ ⟨B.exec, B.bytes, hml, findClass_of_methodNamed B.named, atoms_spec (ws := ws) B.pre, B.returns, B.notSynchronized, hE, hI⟩ hW va_S.rf hl
def catok : List (Option Value) → Bool
  | [] => true
  | some v :: t => (v.category == 1) && catok t
  | none :: t => catok t
theorem catok_of : ∀ {lv : List (Option Value)}, catok lv = true → ∀ w, (some w) ∈ lv → w.category = 1
  | [], _, w, h => by cases h
  | some v :: t, hc, w, h => by
    simp only [catok, Bool.and_eq_true, beq_iff_eq] at hc
    rcases List.mem_cons.mp h with q | q
    · cases q; exact hc.1
    · exact catok_of hc.2 w q
  | none :: t, hc, w, h => by
    simp only [catok] at hc
    rcases List.mem_cons.mp h with q | q
    · cases q
    · exact catok_of hc w q
section ROWS
variable {cA : Nat → ClassId} {ad : Nat → Nat} {D : va_G} {own : String} {ws : List Cond} {cc : ByteArray} {nL : Nat} {ret : Option FieldType} {d pc n : Nat} {lv : List (Option Value)} {st rest : List Value} {M : Mem} {Q : QT}
theorem r_iret {v : Int32} (h : decode cc pc = .ok (.ireturn, 1)) (hr : ret = some .int) (hq : Q (some (.int v)) M) : PW cA ad D own ws cc nL ret d pc lv [.int v] M Q := by
  intro p l e s m args below meth c H locs ls E hW hS hl
  subst hr
  exact W.iret E.1 E.2.1 E.2.2.2.2.2.1 (fun t ht _ => ⟨⟨_, M, rfl, hq, by rw [ht]; exact hW⟩, hS.F ht⟩) hS.2.2 h E.2.2.2.2.2.2.1
theorem r_zret {v : Int32} (h : decode cc pc = .ok (.ireturn, 1)) (hr : ret = some .boolean) (hv : v = 0 ∨ v = 1) (hq : Q (some (.int v)) M) : PW cA ad D own ws cc nL ret d pc lv [.int v] M Q := by
  intro p l e s m args below meth c H locs ls E hW hS hl
  subst hr
  exact W.zret E.1 E.2.1 E.2.2.2.2.2.1 (by rcases hv with rfl | rfl <;> decide +kernel) (fun t ht _ => ⟨⟨_, M, rfl, hq, by rw [ht]; exact hW⟩, hS.F ht⟩) hS.2.2 h E.2.2.2.2.2.2.1
theorem r_vret (h : decode cc pc = .ok (.return_, 1)) (hr : ret = none) (hq : Q none M) : PW cA ad D own ws cc nL ret d pc lv [] M Q := by
  intro p l e s m args below meth c H locs ls E hW hS hl
  subst hr
  exact W.vret E.1 E.2.1 E.2.2.2.2.2.1 (fun t ht _ => ⟨⟨_, M, rfl, hq, by rw [ht]; exact hW⟩, hS.F ht⟩) hS.2.2 h E.2.2.2.2.2.2.1
theorem r_aret {v : Value} {C : String} (h : decode cc pc = .ok (.areturn, 1)) (hr : ret = some (.object C)) (hv : v = .null ∨ ∃ a, v = .ref a) (hq : Q (some v) M) : PW cA ad D own ws cc nL ret d pc lv [v] M Q := by
  intro p l e s m args below meth c H locs ls E hW hS hl
  subst hr
  exact W.aret E.1 E.2.1 E.2.2.2.2.2.1 (Or.inl ⟨C, rfl⟩) hv (fun t ht _ => ⟨⟨_, M, rfl, hq, by rw [ht]; exact hW⟩, hS.F ht⟩) hS.2.2 h E.2.2.2.2.2.2.1
theorem r_iload_n {k : Fin 4} {i : Nat} {x : Int32} (h : decode cc pc = .ok (.iload_n k, 1)) (hi : (k : Nat) = i) (hg : lv[i]? = some (some (.int x))) (hn : pc + 1 = n) (kk : PW cA ad D own ws cc nL ret d n lv (.int x :: st) M Q) : PW cA ad D own ws cc nL ret d pc lv st M Q := by
  intro p l e s m args below meth c H locs ls E hW hS hl
  subst hn
  exact lv_iload_n E.1 E.2.1 h hi (prs_get hl hg) (kk p l e s m args below meth c H locs ls E hW hS hl)
theorem r_iload {i : Nat} {x : Int32} (h : decode cc pc = .ok (.iload i, 2)) (hg : lv[i]? = some (some (.int x))) (hn : pc + 2 = n) (kk : PW cA ad D own ws cc nL ret d n lv (.int x :: st) M Q) : PW cA ad D own ws cc nL ret d pc lv st M Q := by
  intro p l e s m args below meth c H locs ls E hW hS hl
  subst hn
  exact lv_iload E.1 E.2.1 h (prs_get hl hg) (kk p l e s m args below meth c H locs ls E hW hS hl)
theorem r_fload_n {k : Fin 4} {i : Nat} {x : UInt32} (h : decode cc pc = .ok (.fload_n k, 1)) (hi : (k : Nat) = i) (hg : lv[i]? = some (some (.float x))) (hn : pc + 1 = n) (kk : PW cA ad D own ws cc nL ret d n lv (.float x :: st) M Q) : PW cA ad D own ws cc nL ret d pc lv st M Q := by
  intro p l e s m args below meth c H locs ls E hW hS hl
  subst hn
  exact lv_fload_n E.1 E.2.1 h hi (prs_get hl hg) (kk p l e s m args below meth c H locs ls E hW hS hl)
theorem r_aload_n {k : Fin 4} {i : Nat} {x : Nat} (h : decode cc pc = .ok (.aload_n k, 1)) (hi : (k : Nat) = i) (hg : lv[i]? = some (some (.ref x))) (hn : pc + 1 = n) (kk : PW cA ad D own ws cc nL ret d n lv (.ref x :: st) M Q) : PW cA ad D own ws cc nL ret d pc lv st M Q := by
  intro p l e s m args below meth c H locs ls E hW hS hl
  subst hn
  exact lv_aload_n E.1 E.2.1 h hi (prs_get hl hg) (kk p l e s m args below meth c H locs ls E hW hS hl)
theorem r_aload {i : Nat} {x : Nat} (h : decode cc pc = .ok (.aload i, 2)) (hg : lv[i]? = some (some (.ref x))) (hn : pc + 2 = n) (kk : PW cA ad D own ws cc nL ret d n lv (.ref x :: st) M Q) : PW cA ad D own ws cc nL ret d pc lv st M Q := by
  intro p l e s m args below meth c H locs ls E hW hS hl
  subst hn
  exact lv_aload E.1 E.2.1 h (prs_get hl hg) (kk p l e s m args below meth c H locs ls E hW hS hl)
theorem r_aload_nN {k : Fin 4} {i : Nat} (h : decode cc pc = .ok (.aload_n k, 1)) (hi : (k : Nat) = i) (hg : lv[i]? = some (some .null)) (hn : pc + 1 = n) (kk : PW cA ad D own ws cc nL ret d n lv (.null :: st) M Q) : PW cA ad D own ws cc nL ret d pc lv st M Q := by
  intro p l e s m args below meth c H locs ls E hW hS hl
  subst hn
  exact lv_aload_nN E.1 E.2.1 h hi (prs_get hl hg) (kk p l e s m args below meth c H locs ls E hW hS hl)
theorem r_istore_n {k : Fin 4} {i : Nat} {x : Int32} (hL : i < nL) (hc : catok lv = true) (h : decode cc pc = .ok (.istore_n k, 1)) (hi : (k : Nat) = i) (hn : pc + 1 = n) (kk : PW cA ad D own ws cc nL ret d n (lv.set i (some (.int x))) st M Q) : PW cA ad D own ws cc nL ret d pc lv (.int x :: st) M Q := by
  intro p l e s m args below meth c H locs ls E hW hS hl
  subst hn
  exact lv_istore_n E.1 E.2.1 h hi hl hL rfl (fun ls hl => kk p l e s m args below meth c H locs ls E hW hS (prs_set (catok_of hc) hl))
theorem r_istore {i : Nat} {x : Int32} (hL : i < nL) (hc : catok lv = true) (h : decode cc pc = .ok (.istore i, 2)) (hn : pc + 2 = n) (kk : PW cA ad D own ws cc nL ret d n (lv.set i (some (.int x))) st M Q) : PW cA ad D own ws cc nL ret d pc lv (.int x :: st) M Q := by
  intro p l e s m args below meth c H locs ls E hW hS hl
  subst hn
  exact lv_istore E.1 E.2.1 h hl hL rfl (fun ls hl => kk p l e s m args below meth c H locs ls E hW hS (prs_set (catok_of hc) hl))
theorem r_fstore_n {k : Fin 4} {i : Nat} {x : UInt32} (hL : i < nL) (hc : catok lv = true) (h : decode cc pc = .ok (.fstore_n k, 1)) (hi : (k : Nat) = i) (hn : pc + 1 = n) (kk : PW cA ad D own ws cc nL ret d n (lv.set i (some (.float x))) st M Q) : PW cA ad D own ws cc nL ret d pc lv (.float x :: st) M Q := by
  intro p l e s m args below meth c H locs ls E hW hS hl
  subst hn
  exact lv_fstore_n E.1 E.2.1 h hi hl hL rfl (fun ls hl => kk p l e s m args below meth c H locs ls E hW hS (prs_set (catok_of hc) hl))
theorem r_astore_n {k : Fin 4} {i : Nat} {x : Nat} (hL : i < nL) (hc : catok lv = true) (h : decode cc pc = .ok (.astore_n k, 1)) (hi : (k : Nat) = i) (hn : pc + 1 = n) (kk : PW cA ad D own ws cc nL ret d n (lv.set i (some (.ref x))) st M Q) : PW cA ad D own ws cc nL ret d pc lv (.ref x :: st) M Q := by
  intro p l e s m args below meth c H locs ls E hW hS hl
  subst hn
  exact lv_astore_n E.1 E.2.1 h hi hl hL rfl (fun ls hl => kk p l e s m args below meth c H locs ls E hW hS (prs_set (catok_of hc) hl))
theorem r_astore {i : Nat} {x : Nat} (hL : i < nL) (hc : catok lv = true) (h : decode cc pc = .ok (.astore i, 2)) (hn : pc + 2 = n) (kk : PW cA ad D own ws cc nL ret d n (lv.set i (some (.ref x))) st M Q) : PW cA ad D own ws cc nL ret d pc lv (.ref x :: st) M Q := by
  intro p l e s m args below meth c H locs ls E hW hS hl
  subst hn
  exact lv_astore E.1 E.2.1 h hl hL rfl (fun ls hl => kk p l e s m args below meth c H locs ls E hW hS (prs_set (catok_of hc) hl))
theorem r_astore_nN {k : Fin 4} {i : Nat} (hL : i < nL) (hc : catok lv = true) (h : decode cc pc = .ok (.astore_n k, 1)) (hi : (k : Nat) = i) (hn : pc + 1 = n) (kk : PW cA ad D own ws cc nL ret d n (lv.set i (some .null)) st M Q) : PW cA ad D own ws cc nL ret d pc lv (.null :: st) M Q := by
  intro p l e s m args below meth c H locs ls E hW hS hl
  subst hn
  exact lv_astore_nN E.1 E.2.1 h hi hl hL rfl (fun ls hl => kk p l e s m args below meth c H locs ls E hW hS (prs_set (catok_of hc) hl))
theorem r_iinc {i : Nat} {z : Int} {x v : Int32} (hL : i < nL) (hc : catok lv = true) (h : decode cc pc = .ok (.iinc i z, 3)) (hg : lv[i]? = some (some (.int x))) (hv : x + Int32.ofInt z = v) (hn : pc + 3 = n) (kk : PW cA ad D own ws cc nL ret d n (lv.set i (some (.int v))) st M Q) : PW cA ad D own ws cc nL ret d pc lv st M Q := by
  intro p l e s m args below meth c H locs ls E hW hS hl
  subst hn
  have hm : (i, Value.int x) ∈ prs 0 lv := (prs_mem lv 0 i _).mpr ⟨i, by omega, hg⟩
  obtain ⟨k, hk⟩ := List.getElem?_of_mem hm
  exact lv_iinc E.1 E.2.1 h hl hk hv hL rfl (fun ls hl => kk p l e s m args below meth c H locs ls E hW hS (prs_set (catok_of hc) hl))
-- STRAIGHT
theorem r_iconst {k : Int} {v : Int32} (h : decode cc pc = .ok (.iconst k, 1)) (hv : Int32.ofInt k = v) (hn : pc + 1 = n) (kk : PW cA ad D own ws cc nL ret d n lv (.int v :: st) M Q) : PW cA ad D own ws cc nL ret d pc lv (st) M Q := by
  intro p l e s m args below meth c H locs ls E hW hS hl
  subst hn
  exact lv_iconst E.1 E.2.1 h hv (kk p l e s m args below meth c H locs ls E hW hS hl)
theorem r_bipush {k : Int} {v : Int32} (h : decode cc pc = .ok (.bipush k, 2)) (hv : (Int8.ofInt k).toInt32 = v) (hn : pc + 2 = n) (kk : PW cA ad D own ws cc nL ret d n lv (.int v :: st) M Q) : PW cA ad D own ws cc nL ret d pc lv (st) M Q := by
  intro p l e s m args below meth c H locs ls E hW hS hl
  subst hn
  exact lv_bipush E.1 E.2.1 h hv (kk p l e s m args below meth c H locs ls E hW hS hl)
theorem r_sipush {k : Int} {v : Int32} (h : decode cc pc = .ok (.sipush k, 3)) (hv : (Int16.ofInt k).toInt32 = v) (hn : pc + 3 = n) (kk : PW cA ad D own ws cc nL ret d n lv (.int v :: st) M Q) : PW cA ad D own ws cc nL ret d pc lv (st) M Q := by
  intro p l e s m args below meth c H locs ls E hW hS hl
  subst hn
  exact lv_sipush E.1 E.2.1 h hv (kk p l e s m args below meth c H locs ls E hW hS hl)
theorem r_ldc {i : Nat} {v : Int32} (h : decode cc pc = .ok (.ldc i, 2)) (hw : Cond.constant own i v ∈ ws) (hn : pc + 2 = n) (kk : PW cA ad D own ws cc nL ret d n lv (.int v :: st) M Q) : PW cA ad D own ws cc nL ret d pc lv (st) M Q := by
  intro p l e s m args below meth c H locs ls E hW hS hl
  subst hn
  exact lv_ldc E.1 E.2.1 E.2.2.2.1 (E.2.2.2.2.1 _ hw) h (kk p l e s m args below meth c H locs ls E hW hS hl)
theorem r_ldcw {i : Nat} {v : Int32} (h : decode cc pc = .ok (.ldc_w i, 3)) (hw : Cond.constant own i v ∈ ws) (hn : pc + 3 = n) (kk : PW cA ad D own ws cc nL ret d n lv (.int v :: st) M Q) : PW cA ad D own ws cc nL ret d pc lv (st) M Q := by
  intro p l e s m args below meth c H locs ls E hW hS hl
  subst hn
  exact lv_ldcw E.1 E.2.1 E.2.2.2.1 (E.2.2.2.2.1 _ hw) h (kk p l e s m args below meth c H locs ls E hW hS hl)
theorem r_ldcf {i : Nat} {v : UInt32} (h : decode cc pc = .ok (.ldc i, 2)) (hw : Cond.constantFloat own i v ∈ ws) (hn : pc + 2 = n) (kk : PW cA ad D own ws cc nL ret d n lv (.float v :: st) M Q) : PW cA ad D own ws cc nL ret d pc lv (st) M Q := by
  intro p l e s m args below meth c H locs ls E hW hS hl
  subst hn
  exact lv_ldcf E.1 E.2.1 E.2.2.2.1 (E.2.2.2.2.1 _ hw) h (kk p l e s m args below meth c H locs ls E hW hS hl)
theorem r_iadd {x y : Int32} (h : decode cc pc = .ok (.iadd, 1)) (hn : pc + 1 = n) (kk : PW cA ad D own ws cc nL ret d n lv (.int (x + y) :: st) M Q) : PW cA ad D own ws cc nL ret d pc lv (.int y :: .int x :: st) M Q := by
  intro p l e s m args below meth c H locs ls E hW hS hl
  subst hn
  exact lv_iadd E.1 E.2.1 h (kk p l e s m args below meth c H locs ls E hW hS hl)
theorem r_isub {x y : Int32} (h : decode cc pc = .ok (.isub, 1)) (hn : pc + 1 = n) (kk : PW cA ad D own ws cc nL ret d n lv (.int (x - y) :: st) M Q) : PW cA ad D own ws cc nL ret d pc lv (.int y :: .int x :: st) M Q := by
  intro p l e s m args below meth c H locs ls E hW hS hl
  subst hn
  exact lv_isub E.1 E.2.1 h (kk p l e s m args below meth c H locs ls E hW hS hl)
theorem r_imul {x y : Int32} (h : decode cc pc = .ok (.imul, 1)) (hn : pc + 1 = n) (kk : PW cA ad D own ws cc nL ret d n lv (.int (x * y) :: st) M Q) : PW cA ad D own ws cc nL ret d pc lv (.int y :: .int x :: st) M Q := by
  intro p l e s m args below meth c H locs ls E hW hS hl
  subst hn
  exact lv_imul E.1 E.2.1 h (kk p l e s m args below meth c H locs ls E hW hS hl)
theorem r_iand {x y : Int32} (h : decode cc pc = .ok (.iand, 1)) (hn : pc + 1 = n) (kk : PW cA ad D own ws cc nL ret d n lv (.int (x &&& y) :: st) M Q) : PW cA ad D own ws cc nL ret d pc lv (.int y :: .int x :: st) M Q := by
  intro p l e s m args below meth c H locs ls E hW hS hl
  subst hn
  exact lv_iand E.1 E.2.1 h (kk p l e s m args below meth c H locs ls E hW hS hl)
theorem r_ior {x y : Int32} (h : decode cc pc = .ok (.ior, 1)) (hn : pc + 1 = n) (kk : PW cA ad D own ws cc nL ret d n lv (.int (x ||| y) :: st) M Q) : PW cA ad D own ws cc nL ret d pc lv (.int y :: .int x :: st) M Q := by
  intro p l e s m args below meth c H locs ls E hW hS hl
  subst hn
  exact lv_ior E.1 E.2.1 h (kk p l e s m args below meth c H locs ls E hW hS hl)
theorem r_ixor {x y : Int32} (h : decode cc pc = .ok (.ixor, 1)) (hn : pc + 1 = n) (kk : PW cA ad D own ws cc nL ret d n lv (.int (x ^^^ y) :: st) M Q) : PW cA ad D own ws cc nL ret d pc lv (.int y :: .int x :: st) M Q := by
  intro p l e s m args below meth c H locs ls E hW hS hl
  subst hn
  exact lv_ixor E.1 E.2.1 h (kk p l e s m args below meth c H locs ls E hW hS hl)
theorem r_idiv {x y : Int32} (h : decode cc pc = .ok (.idiv, 1)) (hne : ¬ y = 0) (hn : pc + 1 = n) (kk : PW cA ad D own ws cc nL ret d n lv (.int (x / y) :: st) M Q) : PW cA ad D own ws cc nL ret d pc lv (.int y :: .int x :: st) M Q := by
  intro p l e s m args below meth c H locs ls E hW hS hl
  subst hn
  exact lv_idiv E.1 E.2.1 h hne (kk p l e s m args below meth c H locs ls E hW hS hl)
theorem r_ineg {x : Int32} (h : decode cc pc = .ok (.ineg, 1)) (hn : pc + 1 = n) (kk : PW cA ad D own ws cc nL ret d n lv (.int (-x) :: st) M Q) : PW cA ad D own ws cc nL ret d pc lv (.int x :: st) M Q := by
  intro p l e s m args below meth c H locs ls E hW hS hl
  subst hn
  exact lv_ineg E.1 E.2.1 h (kk p l e s m args below meth c H locs ls E hW hS hl)
theorem r_ishl {x y : Int32} (h : decode cc pc = .ok (.ishl, 1)) (hn : pc + 1 = n) (kk : PW cA ad D own ws cc nL ret d n lv (.int (x <<< (y &&& 31)) :: st) M Q) : PW cA ad D own ws cc nL ret d pc lv (.int y :: .int x :: st) M Q := by
  intro p l e s m args below meth c H locs ls E hW hS hl
  subst hn
  exact lv_ishl E.1 E.2.1 h (kk p l e s m args below meth c H locs ls E hW hS hl)
theorem r_ishr {x y : Int32} (h : decode cc pc = .ok (.ishr, 1)) (hn : pc + 1 = n) (kk : PW cA ad D own ws cc nL ret d n lv (.int (x >>> (y &&& 31)) :: st) M Q) : PW cA ad D own ws cc nL ret d pc lv (.int y :: .int x :: st) M Q := by
  intro p l e s m args below meth c H locs ls E hW hS hl
  subst hn
  exact lv_ishr E.1 E.2.1 h (kk p l e s m args below meth c H locs ls E hW hS hl)
theorem r_iushr {x y : Int32} (h : decode cc pc = .ok (.iushr, 1)) (hn : pc + 1 = n) (kk : PW cA ad D own ws cc nL ret d n lv (.int (x.toUInt32 >>> (y.toUInt32 &&& Int32.toUInt32 31)).toInt32 :: st) M Q) : PW cA ad D own ws cc nL ret d pc lv (.int y :: .int x :: st) M Q := by
  intro p l e s m args below meth c H locs ls E hW hS hl
  subst hn
  exact lv_iushr E.1 E.2.1 h rfl (kk p l e s m args below meth c H locs ls E hW hS hl)
theorem r_i2c {x : Int32} (h : decode cc pc = .ok (.i2c, 1)) (hn : pc + 1 = n) (kk : PW cA ad D own ws cc nL ret d n lv (.int (x.toUInt32 % 65536).toInt32 :: st) M Q) : PW cA ad D own ws cc nL ret d pc lv (.int x :: st) M Q := by
  intro p l e s m args below meth c H locs ls E hW hS hl
  subst hn
  exact lv_i2c E.1 E.2.1 h rfl (kk p l e s m args below meth c H locs ls E hW hS hl)
theorem r_dup {v : Value} (h : decode cc pc = .ok (.dup, 1)) (hv : v.category = 1) (hn : pc + 1 = n) (kk : PW cA ad D own ws cc nL ret d n lv (v :: v :: st) M Q) : PW cA ad D own ws cc nL ret d pc lv (v :: st) M Q := by
  intro p l e s m args below meth c H locs ls E hW hS hl
  subst hn
  exact lv_dup E.1 E.2.1 h hv (kk p l e s m args below meth c H locs ls E hW hS hl)
theorem r_dup2 {v w : Value} (h : decode cc pc = .ok (.dup2, 1)) (hv : w.category = 1) (hw : v.category = 1) (hn : pc + 1 = n) (kk : PW cA ad D own ws cc nL ret d n lv (w :: v :: w :: v :: st) M Q) : PW cA ad D own ws cc nL ret d pc lv (w :: v :: st) M Q := by
  intro p l e s m args below meth c H locs ls E hW hS hl
  subst hn
  exact lv_dup2_11 E.1 E.2.1 h hv hw (kk p l e s m args below meth c H locs ls E hW hS hl)
theorem r_null (h : decode cc pc = .ok (.aconst_null, 1)) (hn : pc + 1 = n) (kk : PW cA ad D own ws cc nL ret d n lv (.null :: st) M Q) : PW cA ad D own ws cc nL ret d pc lv (st) M Q := by
  intro p l e s m args below meth c H locs ls E hW hS hl
  subst hn
  exact lv_null E.1 E.2.1 h (kk p l e s m args below meth c H locs ls E hW hS hl)
theorem r_i2f {x : Int32} (h : decode cc pc = .ok (.i2f, 1)) (hn : pc + 1 = n) (kk : PW cA ad D own ws cc nL ret d n lv (.float (FP.i2f x) :: st) M Q) : PW cA ad D own ws cc nL ret d pc lv (.int x :: st) M Q := by
  intro p l e s m args below meth c H locs ls E hW hS hl
  subst hn
  exact lv_i2f E.1 E.2.1 h (kk p l e s m args below meth c H locs ls E hW hS hl)
theorem r_f2i {x : UInt32} (h : decode cc pc = .ok (.f2i, 1)) (hn : pc + 1 = n) (kk : PW cA ad D own ws cc nL ret d n lv (.int (FP.f2i x) :: st) M Q) : PW cA ad D own ws cc nL ret d pc lv (.float x :: st) M Q := by
  intro p l e s m args below meth c H locs ls E hW hS hl
  subst hn
  exact lv_f2i E.1 E.2.1 h (kk p l e s m args below meth c H locs ls E hW hS hl)
theorem r_fdiv {x y : UInt32} (h : decode cc pc = .ok (.fdiv, 1)) (hne : vf_n32 (FP.fdiv x y)) (hn : pc + 1 = n) (kk : PW cA ad D own ws cc nL ret d n lv (.float (FP.fdiv x y) :: st) M Q) : PW cA ad D own ws cc nL ret d pc lv (.float y :: .float x :: st) M Q := by
  intro p l e s m args below meth c H locs ls E hW hS hl
  subst hn
  exact lv_fdiv E.1 E.2.1 h hne (kk p l e s m args below meth c H locs ls E hW hS hl)
theorem r_fmul {x y : UInt32} (h : decode cc pc = .ok (.fmul, 1)) (hne : vf_n32 (FP.fmul x y)) (hn : pc + 1 = n) (kk : PW cA ad D own ws cc nL ret d n lv (.float (FP.fmul x y) :: st) M Q) : PW cA ad D own ws cc nL ret d pc lv (.float y :: .float x :: st) M Q := by
  intro p l e s m args below meth c H locs ls E hW hS hl
  subst hn
  exact lv_fmul E.1 E.2.1 h hne (kk p l e s m args below meth c H locs ls E hW hS hl)
theorem r_fsub {x y : UInt32} (h : decode cc pc = .ok (.fsub, 1)) (hne : vf_n32 (FP.fsub x y)) (hn : pc + 1 = n) (kk : PW cA ad D own ws cc nL ret d n lv (.float (FP.fsub x y) :: st) M Q) : PW cA ad D own ws cc nL ret d pc lv (.float y :: .float x :: st) M Q := by
  intro p l e s m args below meth c H locs ls E hW hS hl
  subst hn
  exact lv_fsub E.1 E.2.1 h hne (kk p l e s m args below meth c H locs ls E hW hS hl)
theorem r_fcmp {x y : UInt32} {op : CmpOp} (h : decode cc pc = .ok (.fcmp op, 1)) (hn : pc + 1 = n) (kk : PW cA ad D own ws cc nL ret d n lv (.int (Op.cmpValue (FP.fcmp x y) op) :: st) M Q) : PW cA ad D own ws cc nL ret d pc lv (.float y :: .float x :: st) M Q := by
  intro p l e s m args below meth c H locs ls E hW hS hl
  subst hn
  exact lv_fcmp E.1 E.2.1 h (kk p l e s m args below meth c H locs ls E hW hS hl)
theorem r_fconst0 (h : decode cc pc = .ok (.fconst 0, 1)) (hn : pc + 1 = n) (kk : PW cA ad D own ws cc nL ret d n lv (.float FP.fconst0 :: st) M Q) : PW cA ad D own ws cc nL ret d pc lv (st) M Q := by
  intro p l e s m args below meth c H locs ls E hW hS hl
  subst hn
  exact lv_fconst0 E.1 E.2.1 h (kk p l e s m args below meth c H locs ls E hW hS hl)
theorem r_fconst1 (h : decode cc pc = .ok (.fconst 1, 1)) (hn : pc + 1 = n) (kk : PW cA ad D own ws cc nL ret d n lv (.float FP.fconst1 :: st) M Q) : PW cA ad D own ws cc nL ret d pc lv (st) M Q := by
  intro p l e s m args below meth c H locs ls E hW hS hl
  subst hn
  exact lv_fconst1 E.1 E.2.1 h (kk p l e s m args below meth c H locs ls E hW hS hl)
theorem r_fconst2 (h : decode cc pc = .ok (.fconst 2, 1)) (hn : pc + 1 = n) (kk : PW cA ad D own ws cc nL ret d n lv (.float FP.fconst2 :: st) M Q) : PW cA ad D own ws cc nL ret d pc lv (st) M Q := by
  intro p l e s m args below meth c H locs ls E hW hS hl
  subst hn
  exact lv_fconst2 E.1 E.2.1 h (kk p l e s m args below meth c H locs ls E hW hS hl)
theorem r_if_eq {x : Int32} {off : Int} {tgt : Nat} (h : decode cc pc = .ok (.ifCond .eq off, 3)) (ht : (pc : Int) + off = (tgt : Int)) (hn : pc + 3 = n) (kt : x = 0 → PW cA ad D own ws cc nL ret d tgt lv st M Q) (kf : ¬ x = 0 → PW cA ad D own ws cc nL ret d n lv st M Q) : PW cA ad D own ws cc nL ret d pc lv (.int x :: st) M Q := by
  intro p l e s m args below meth c H locs ls E hW hS hl
  subst hn
  exact lv_if_eq E.1 E.2.1 h ht (fun q => kt q p l e s m args below meth c H locs ls E hW hS hl) (fun q => kf q p l e s m args below meth c H locs ls E hW hS hl)
theorem r_icmp_eq {x y : Int32} {off : Int} {tgt : Nat} (h : decode cc pc = .ok (.if_icmp .eq off, 3)) (ht : (pc : Int) + off = (tgt : Int)) (hn : pc + 3 = n) (kt : x = y → PW cA ad D own ws cc nL ret d tgt lv st M Q) (kf : ¬ x = y → PW cA ad D own ws cc nL ret d n lv st M Q) : PW cA ad D own ws cc nL ret d pc lv (.int y :: .int x :: st) M Q := by
  intro p l e s m args below meth c H locs ls E hW hS hl
  subst hn
  exact lv_icmp_eq E.1 E.2.1 h ht (fun q => kt q p l e s m args below meth c H locs ls E hW hS hl) (fun q => kf q p l e s m args below meth c H locs ls E hW hS hl)
theorem r_if_ne {x : Int32} {off : Int} {tgt : Nat} (h : decode cc pc = .ok (.ifCond .ne off, 3)) (ht : (pc : Int) + off = (tgt : Int)) (hn : pc + 3 = n) (kt : ¬ x = 0 → PW cA ad D own ws cc nL ret d tgt lv st M Q) (kf : x = 0 → PW cA ad D own ws cc nL ret d n lv st M Q) : PW cA ad D own ws cc nL ret d pc lv (.int x :: st) M Q := by
  intro p l e s m args below meth c H locs ls E hW hS hl
  subst hn
  exact lv_if_ne E.1 E.2.1 h ht (fun q => kt q p l e s m args below meth c H locs ls E hW hS hl) (fun q => kf q p l e s m args below meth c H locs ls E hW hS hl)
theorem r_icmp_ne {x y : Int32} {off : Int} {tgt : Nat} (h : decode cc pc = .ok (.if_icmp .ne off, 3)) (ht : (pc : Int) + off = (tgt : Int)) (hn : pc + 3 = n) (kt : ¬ x = y → PW cA ad D own ws cc nL ret d tgt lv st M Q) (kf : x = y → PW cA ad D own ws cc nL ret d n lv st M Q) : PW cA ad D own ws cc nL ret d pc lv (.int y :: .int x :: st) M Q := by
  intro p l e s m args below meth c H locs ls E hW hS hl
  subst hn
  exact lv_icmp_ne E.1 E.2.1 h ht (fun q => kt q p l e s m args below meth c H locs ls E hW hS hl) (fun q => kf q p l e s m args below meth c H locs ls E hW hS hl)
theorem r_if_lt {x : Int32} {off : Int} {tgt : Nat} (h : decode cc pc = .ok (.ifCond .lt off, 3)) (ht : (pc : Int) + off = (tgt : Int)) (hn : pc + 3 = n) (kt : x < 0 → PW cA ad D own ws cc nL ret d tgt lv st M Q) (kf : ¬ x < 0 → PW cA ad D own ws cc nL ret d n lv st M Q) : PW cA ad D own ws cc nL ret d pc lv (.int x :: st) M Q := by
  intro p l e s m args below meth c H locs ls E hW hS hl
  subst hn
  exact lv_if_lt E.1 E.2.1 h ht (fun q => kt q p l e s m args below meth c H locs ls E hW hS hl) (fun q => kf q p l e s m args below meth c H locs ls E hW hS hl)
theorem r_icmp_lt {x y : Int32} {off : Int} {tgt : Nat} (h : decode cc pc = .ok (.if_icmp .lt off, 3)) (ht : (pc : Int) + off = (tgt : Int)) (hn : pc + 3 = n) (kt : x < y → PW cA ad D own ws cc nL ret d tgt lv st M Q) (kf : ¬ x < y → PW cA ad D own ws cc nL ret d n lv st M Q) : PW cA ad D own ws cc nL ret d pc lv (.int y :: .int x :: st) M Q := by
  intro p l e s m args below meth c H locs ls E hW hS hl
  subst hn
  exact lv_icmp_lt E.1 E.2.1 h ht (fun q => kt q p l e s m args below meth c H locs ls E hW hS hl) (fun q => kf q p l e s m args below meth c H locs ls E hW hS hl)
theorem r_if_ge {x : Int32} {off : Int} {tgt : Nat} (h : decode cc pc = .ok (.ifCond .ge off, 3)) (ht : (pc : Int) + off = (tgt : Int)) (hn : pc + 3 = n) (kt : 0 ≤ x → PW cA ad D own ws cc nL ret d tgt lv st M Q) (kf : ¬ 0 ≤ x → PW cA ad D own ws cc nL ret d n lv st M Q) : PW cA ad D own ws cc nL ret d pc lv (.int x :: st) M Q := by
  intro p l e s m args below meth c H locs ls E hW hS hl
  subst hn
  exact lv_if_ge E.1 E.2.1 h ht (fun q => kt q p l e s m args below meth c H locs ls E hW hS hl) (fun q => kf q p l e s m args below meth c H locs ls E hW hS hl)
theorem r_icmp_ge {x y : Int32} {off : Int} {tgt : Nat} (h : decode cc pc = .ok (.if_icmp .ge off, 3)) (ht : (pc : Int) + off = (tgt : Int)) (hn : pc + 3 = n) (kt : y ≤ x → PW cA ad D own ws cc nL ret d tgt lv st M Q) (kf : ¬ y ≤ x → PW cA ad D own ws cc nL ret d n lv st M Q) : PW cA ad D own ws cc nL ret d pc lv (.int y :: .int x :: st) M Q := by
  intro p l e s m args below meth c H locs ls E hW hS hl
  subst hn
  exact lv_icmp_ge E.1 E.2.1 h ht (fun q => kt q p l e s m args below meth c H locs ls E hW hS hl) (fun q => kf q p l e s m args below meth c H locs ls E hW hS hl)
theorem r_if_gt {x : Int32} {off : Int} {tgt : Nat} (h : decode cc pc = .ok (.ifCond .gt off, 3)) (ht : (pc : Int) + off = (tgt : Int)) (hn : pc + 3 = n) (kt : 0 < x → PW cA ad D own ws cc nL ret d tgt lv st M Q) (kf : ¬ 0 < x → PW cA ad D own ws cc nL ret d n lv st M Q) : PW cA ad D own ws cc nL ret d pc lv (.int x :: st) M Q := by
  intro p l e s m args below meth c H locs ls E hW hS hl
  subst hn
  exact lv_if_gt E.1 E.2.1 h ht (fun q => kt q p l e s m args below meth c H locs ls E hW hS hl) (fun q => kf q p l e s m args below meth c H locs ls E hW hS hl)
theorem r_icmp_gt {x y : Int32} {off : Int} {tgt : Nat} (h : decode cc pc = .ok (.if_icmp .gt off, 3)) (ht : (pc : Int) + off = (tgt : Int)) (hn : pc + 3 = n) (kt : y < x → PW cA ad D own ws cc nL ret d tgt lv st M Q) (kf : ¬ y < x → PW cA ad D own ws cc nL ret d n lv st M Q) : PW cA ad D own ws cc nL ret d pc lv (.int y :: .int x :: st) M Q := by
  intro p l e s m args below meth c H locs ls E hW hS hl
  subst hn
  exact lv_icmp_gt E.1 E.2.1 h ht (fun q => kt q p l e s m args below meth c H locs ls E hW hS hl) (fun q => kf q p l e s m args below meth c H locs ls E hW hS hl)
theorem r_if_le {x : Int32} {off : Int} {tgt : Nat} (h : decode cc pc = .ok (.ifCond .le off, 3)) (ht : (pc : Int) + off = (tgt : Int)) (hn : pc + 3 = n) (kt : x ≤ 0 → PW cA ad D own ws cc nL ret d tgt lv st M Q) (kf : ¬ x ≤ 0 → PW cA ad D own ws cc nL ret d n lv st M Q) : PW cA ad D own ws cc nL ret d pc lv (.int x :: st) M Q := by
  intro p l e s m args below meth c H locs ls E hW hS hl
  subst hn
  exact lv_if_le E.1 E.2.1 h ht (fun q => kt q p l e s m args below meth c H locs ls E hW hS hl) (fun q => kf q p l e s m args below meth c H locs ls E hW hS hl)
theorem r_icmp_le {x y : Int32} {off : Int} {tgt : Nat} (h : decode cc pc = .ok (.if_icmp .le off, 3)) (ht : (pc : Int) + off = (tgt : Int)) (hn : pc + 3 = n) (kt : x ≤ y → PW cA ad D own ws cc nL ret d tgt lv st M Q) (kf : ¬ x ≤ y → PW cA ad D own ws cc nL ret d n lv st M Q) : PW cA ad D own ws cc nL ret d pc lv (.int y :: .int x :: st) M Q := by
  intro p l e s m args below meth c H locs ls E hW hS hl
  subst hn
  exact lv_icmp_le E.1 E.2.1 h ht (fun q => kt q p l e s m args below meth c H locs ls E hW hS hl) (fun q => kf q p l e s m args below meth c H locs ls E hW hS hl)
theorem r_goto {off : Int} {tgt : Nat} (h : decode cc pc = .ok (.goto off, 3)) (ht : (pc : Int) + off = (tgt : Int)) (kk : PW cA ad D own ws cc nL ret d tgt lv st M Q) : PW cA ad D own ws cc nL ret d pc lv st M Q := by
  intro p l e s m args below meth c H locs ls E hW hS hl
  exact lv_goto E.1 E.2.1 h ht (kk p l e s m args below meth c H locs ls E hW hS hl)
theorem r_ifnull {x : Nat} {off : Int} (h : decode cc pc = .ok (.ifnull off, 3)) (hn : pc + 3 = n) (kk : PW cA ad D own ws cc nL ret d n lv st M Q) : PW cA ad D own ws cc nL ret d pc lv (.ref x :: st) M Q := by
  intro p l e s m args below meth c H locs ls E hW hS hl
  subst hn
  exact lv_ifnull E.1 E.2.1 h (kk p l e s m args below meth c H locs ls E hW hS hl)
theorem r_ifnullN {off : Int} {tgt : Nat} (h : decode cc pc = .ok (.ifnull off, 3)) (ht : (pc : Int) + off = (tgt : Int)) (kk : PW cA ad D own ws cc nL ret d tgt lv st M Q) : PW cA ad D own ws cc nL ret d pc lv (.null :: st) M Q := by
  intro p l e s m args below meth c H locs ls E hW hS hl
  exact lv_ifnullN E.1 E.2.1 h ht (kk p l e s m args below meth c H locs ls E hW hS hl)
theorem r_ifnonnull {x : Nat} {off : Int} {tgt : Nat} (h : decode cc pc = .ok (.ifnonnull off, 3)) (ht : (pc : Int) + off = (tgt : Int)) (kk : PW cA ad D own ws cc nL ret d tgt lv st M Q) : PW cA ad D own ws cc nL ret d pc lv (.ref x :: st) M Q := by
  intro p l e s m args below meth c H locs ls E hW hS hl
  exact lv_ifnonnull E.1 E.2.1 h ht (kk p l e s m args below meth c H locs ls E hW hS hl)
theorem r_ifnonnullN {off : Int} (h : decode cc pc = .ok (.ifnonnull off, 3)) (hn : pc + 3 = n) (kk : PW cA ad D own ws cc nL ret d n lv st M Q) : PW cA ad D own ws cc nL ret d pc lv (.null :: st) M Q := by
  intro p l e s m args below meth c H locs ls E hW hS hl
  subst hn
  exact lv_ifnonnullN E.1 E.2.1 h (kk p l e s m args below meth c H locs ls E hW hS hl)
theorem r_tableIn {dflt lo hi : Int} {offs : Array Int} {len : Nat} {x : Int32} {off : Int} {tgt : Nat} (h : decode cc pc = .ok (.tableswitch dflt lo hi offs, len)) (h1 : ¬ x.toInt < lo) (h2 : ¬ hi < x.toInt) (ho : offs[(x.toInt - lo).toNat]? = some off) (ht : (pc : Int) + off = (tgt : Int)) (kk : PW cA ad D own ws cc nL ret d tgt lv st M Q) : PW cA ad D own ws cc nL ret d pc lv (.int x :: st) M Q := by
  intro p l e s m args below meth c H locs ls E hW hS hl
  exact lv_tableIn E.1 E.2.1 h h1 h2 ho ht (kk p l e s m args below meth c H locs ls E hW hS hl)
theorem r_tableOut {dflt lo hi : Int} {offs : Array Int} {len : Nat} {x : Int32} {tgt : Nat} (h : decode cc pc = .ok (.tableswitch dflt lo hi offs, len)) (h1 : x.toInt < lo ∨ hi < x.toInt) (ht : (pc : Int) + dflt = (tgt : Int)) (kk : PW cA ad D own ws cc nL ret d tgt lv st M Q) : PW cA ad D own ws cc nL ret d pc lv (.int x :: st) M Q := by
  intro p l e s m args below meth c H locs ls E hW hS hl
  exact lv_tableOut E.1 E.2.1 h h1 ht (kk p l e s m args below meth c H locs ls E hW hS hl)
theorem r_lookup {dflt : Int} {ps : Array (Int × Int)} {len : Nat} {x : Int32} {off : Int} {tgt : Nat} (h : decode cc pc = .ok (.lookupswitch dflt ps, len)) (hp : (ps.toList.zip (ps.toList.drop 1)).all (fun (a, next) => a.1 < next.1) = true) (ho : Op.lookupswitch.offset ps.toList dflt x.toInt = off) (ht : (pc : Int) + off = (tgt : Int)) (kk : PW cA ad D own ws cc nL ret d tgt lv st M Q) : PW cA ad D own ws cc nL ret d pc lv (.int x :: st) M Q := by
  intro p l e s m args below meth c H locs ls E hW hS hl
  exact lv_lookup E.1 E.2.1 h hp ho ht (kk p l e s m args below meth c H locs ls E hW hS hl)
theorem r_mmax {i : Nat} {x y : Int32} (hd : 1 ≤ d) (h1 : Cond.methodLink own i Lib.Math.max.name ∈ ws) (h2 : Cond.static Lib.Math.max.name ∈ ws) (h3 : Cond.initialized "java/lang/Math" ∈ ws) (h4 : Cond.code Lib.Math.max.name Lib.Math.max.code 2 (some .int) ∈ ws) (hst : (st.map fun v => v.category).sum ≤ 8) (h : decode cc pc = .ok (.invokestatic i, 3)) (hn : pc + 3 = n) (kk : PW cA ad D own ws cc nL ret d n lv (.int (if x < y then y else x) :: st) M Q) : PW cA ad D own ws cc nL ret d pc lv (.int y :: .int x :: st) M Q := by
  intro p l e s m args below meth c H locs ls E hW hS hl
  subst hn
  exact va_mmax E.1 E.2.1 (E.2.2.1.trans hl.1.symm) E.2.2.2.1 (E.2.2.2.2.1 _ h1) (E.2.2.2.2.1 _ h2) (E.2.2.2.2.1 _ h3) (E.2.2.2.2.1 _ h4) hd (by show _ ≤ 32 * d; omega) (Nat.zero_le _) (Nat.zero_le _) h (kk p l e s m args below meth c H locs ls E hW hS hl)
theorem r_mmin {i : Nat} {x y : Int32} (hd : 1 ≤ d) (h1 : Cond.methodLink own i Lib.Math.min.name ∈ ws) (h2 : Cond.static Lib.Math.min.name ∈ ws) (h3 : Cond.initialized "java/lang/Math" ∈ ws) (h4 : Cond.code Lib.Math.min.name Lib.Math.min.code 2 (some .int) ∈ ws) (hst : (st.map fun v => v.category).sum ≤ 8) (h : decode cc pc = .ok (.invokestatic i, 3)) (hn : pc + 3 = n) (kk : PW cA ad D own ws cc nL ret d n lv (.int (if y < x then y else x) :: st) M Q) : PW cA ad D own ws cc nL ret d pc lv (.int y :: .int x :: st) M Q := by
  intro p l e s m args below meth c H locs ls E hW hS hl
  subst hn
  exact va_mmin E.1 E.2.1 (E.2.2.1.trans hl.1.symm) E.2.2.2.1 (E.2.2.2.2.1 _ h1) (E.2.2.2.2.1 _ h2) (E.2.2.2.2.1 _ h3) (E.2.2.2.2.1 _ h4) hd (by show _ ≤ 32 * d; omega) (Nat.zero_le _) (Nat.zero_le _) h (kk p l e s m args below meth c H locs ls E hW hS hl)
theorem r_mabs {i : Nat} {x : Int32} (hd : 1 ≤ d) (h1 : Cond.methodLink own i Lib.Math.abs.name ∈ ws) (h2 : Cond.static Lib.Math.abs.name ∈ ws) (h3 : Cond.initialized "java/lang/Math" ∈ ws) (h4 : Cond.code Lib.Math.abs.name Lib.Math.abs.code 1 (some .int) ∈ ws) (hst : (st.map fun v => v.category).sum ≤ 8) (h : decode cc pc = .ok (.invokestatic i, 3)) (hn : pc + 3 = n) (kk : PW cA ad D own ws cc nL ret d n lv (.int (if 0 ≤ x then x else 0 - x) :: st) M Q) : PW cA ad D own ws cc nL ret d pc lv (.int x :: st) M Q := by
  intro p l e s m args below meth c H locs ls E hW hS hl
  subst hn
  exact va_mabs E.1 E.2.1 (E.2.2.1.trans hl.1.symm) E.2.2.2.1 (E.2.2.2.2.1 _ h1) (E.2.2.2.2.1 _ h2) (E.2.2.2.2.1 _ h3) (E.2.2.2.2.1 _ h4) hd (by show _ ≤ 32 * d; omega) (Nat.zero_le _) (Nat.zero_le _) h (kk p l e s m args below meth c H locs ls E hW hS hl)
/-- a field is read -/
theorem r_get {index i ci k N : Nat} {C : String} {T : u_T} {fs : List Value} {v : Value} (hi : i < 66) (hc : cellOf cA ad M i = .inr (ci, fs)) (hcl : vwCl[ci]? = some (C, T, N)) (hin : ∀ w ∈ u_ws C T N, w ∈ ws) (hk : k < N) (hlink : Cond.fieldLink own index (T k).1 (T k).2.1 (T k).2.2.1 ∈ ws) (hv : fs[k]? = some v) (h : decode cc pc = .ok (.getfield index, 3)) (hn : pc + 3 = n) (kk : PW cA ad D own ws cc nL ret d n lv (v :: st) M Q) : PW cA ad D own ws cc nL ret d pc lv (.ref (ad i) :: st) M Q := by
  intro p l e s m args below meth c H locs ls E hW hS hl
  subst hn
  exact va_get E.1 E.2.1 E.2.2.2.2.1 hin E.2.2.2.1 E.2.2.2.2.2.2.2.1.1 hW i ((wld_get cA ad M hi).trans (by rw [hc])) hcl k hk (E.2.2.2.2.1 _ hlink) (fun _ h9 => h9) hv h (kk p l e s m args below meth c H locs ls E hW hS hl)
/-- a field is written -/
theorem r_put {index i ci k N : Nat} {C : String} {T : u_T} {fs : List Value} {v : Value} {ty : FieldType} {M' : Mem} (hi : i < 66) (hc : cellOf cA ad M i = .inr (ci, fs)) (hcl : vwCl[ci]? = some (C, T, N)) (ty0 : Nat → FieldType) (hty : ∀ k, k < N → parseFieldDescriptor (T k).2.2.1 = some (ty0 k)) (hnm : ∀ a, a < N → ∀ b, b < N → a ≠ b → (T a).2.1 ≠ (T b).2.1) (hin : ∀ w ∈ u_ws C T N, w ∈ ws) (hk : k < N) (hlink : Cond.fieldLink own index (T k).1 (T k).2.1 (T k).2.2.1 ∈ ws) (hfin : (T k).2.2.2 = false) (hd : parseFieldDescriptor (T k).2.2.1 = some ty) (hna : narrow ty v = v) (hfit : fits ty v = true) (hlk : k < fs.length) (hM : cellOf cA ad M' i = .inr (ci, fs.set k v)) (hM2 : ∀ j, j < 66 → j ≠ i → cellOf cA ad M' j = cellOf cA ad M j) (h : decode cc pc = .ok (.putfield index, 3)) (hn : pc + 3 = n) (kk : PW cA ad D own ws cc nL ret d n lv st M' Q) : PW cA ad D own ws cc nL ret d pc lv (v :: .ref (ad i) :: st) M Q := by
  intro p l e s m args below meth c H locs ls E hW hS hl
  subst hn
  refine va_put E.1 E.2.1 E.2.2.2.2.1 hin ty0 hty hnm E.2.2.2.1 E.2.2.2.2.2.2.2.1.1 hW (wld_D E.2.2.2.2.2.2.2.2 M) hS i ((wld_get cA ad M hi).trans (by rw [hc])) hcl k hk (E.2.2.2.2.1 _ hlink) (fun _ h9 => h9) hfin hd hna hfit hlk h (fun H1 locs1 hP1 hD1 hS1 => ?_)
  rw [wld_set hi hM hM2] at hP1
  exact kk p l e s m args below meth c H1 locs1 ls E hP1 hS1 hl
/-- an int of a row is read -/
theorem r_iald {i len : Nat} {f : Nat → Int32} {j : Int32} (hi : i < 66) (hc : cellOf cA ad M i = .inl (cA 1, len, .inl f)) (hin : vp_in j len) (h : decode cc pc = .ok (.iaload, 1)) (hn : pc + 1 = n) (kk : PW cA ad D own ws cc nL ret d n lv (.int (f j.toNatClampNeg) :: st) M Q) : PW cA ad D own ws cc nL ret d pc lv (.int j :: .ref (ad i) :: st) M Q := by
  intro p l e s m args below meth c H locs ls E hW hS hl
  subst hn
  exact va_iald E.1 E.2.1 E.2.2.2.2.2.2.2.1.1 hW i 1 ((wld_get cA ad M hi).trans (by rw [hc])) rfl hin h (kk p l e s m args below meth c H locs ls E hW hS hl)
theorem r_cald {j : Int32} (hin : vp_in j 60) (h : decode cc pc = .ok (.caload, 1)) (hn : pc + 1 = n) (kk : PW cA ad D own ws cc nL ret d n lv (.int (M.1 7 j.toNatClampNeg) :: st) M Q) : PW cA ad D own ws cc nL ret d pc lv (.int j :: .ref (ad 2) :: st) M Q := by
  intro p l e s m args below meth c H locs ls E hW hS hl
  subst hn
  exact va_cald E.1 E.2.1 E.2.2.2.2.2.2.2.1.1 hW 2 0 (wld_get cA ad M (by decide)) rfl hin h (kk p l e s m args below meth c H locs ls E hW hS hl)
theorem r_alen {i len : Nat} {x : ((Nat → Int32) ⊕ (Nat → Int64) ⊕ (Nat → UInt32) ⊕ (Nat → UInt64) ⊕ (Nat → Option Nat))} {t : Nat} {ty : FieldType} {v : Int32} (hi : i < 66) (hc : cellOf cA ad M i = .inl (cA t, len, x)) (ht : (TYS cA)[t]? = some (cA t, ty)) (hv : Int32.ofNat len = v) (h : decode cc pc = .ok (.arraylength, 1)) (hn : pc + 1 = n) (kk : PW cA ad D own ws cc nL ret d n lv (.int v :: st) M Q) : PW cA ad D own ws cc nL ret d pc lv (.ref (ad i) :: st) M Q := by
  intro p l e s m args below meth c H locs ls E hW hS hl
  subst hn
  exact va_alen E.1 E.2.1 E.2.2.2.2.2.2.2.1.1 hW i t ((wld_get cA ad M hi).trans (by rw [hc])) ht hv h (kk p l e s m args below meth c H locs ls E hW hS hl)
theorem r_aald {i len t : Nat} {C : String} {f : Nat → Option Nat} {j : Int32} {a : Nat} (hi : i < 66) (hc : cellOf cA ad M i = .inl (cA t, len, .inr (.inr (.inr (.inr f))))) (ht : (TYS cA)[t]? = some (cA t, .object C)) (hin : vp_in j len) (hf : f j.toNatClampNeg = some a) (h : decode cc pc = .ok (.aaload, 1)) (hn : pc + 1 = n) (kk : PW cA ad D own ws cc nL ret d n lv (.ref a :: st) M Q) : PW cA ad D own ws cc nL ret d pc lv (.int j :: .ref (ad i) :: st) M Q := by
  intro p l e s m args below meth c H locs ls E hW hS hl
  subst hn
  refine va_aldq E.1 E.2.1 E.2.2.2.2.2.2.2.1.1 hW i t ((wld_get cA ad M hi).trans (by rw [hc])) ht hin h ?_
  rw [hf]
  exact kk p l e s m args below meth c H locs ls E hW hS hl
theorem r_iast {i len p' k' : Nat} {f : Nat → Int32} {j x : Int32} (hi : i < 66) (hc : cellOf cA ad M i = .inl (cA 1, len, .inl f)) (hin : vp_in j len) (hM : cellOf cA ad (mput M p' k' x) i = .inl (cA 1, len, .inl (upd f j.toNatClampNeg x))) (hp : p' < 11) (ho : ownI p' k' = i) (h : decode cc pc = .ok (.iastore, 1)) (hn : pc + 1 = n) (kk : PW cA ad D own ws cc nL ret d n lv st (mput M p' k' x) Q) : PW cA ad D own ws cc nL ret d pc lv (.int x :: .int j :: .ref (ad i) :: st) M Q := by
  intro p l e s m args below meth c H locs ls E hW hS hl
  subst hn
  refine va_iast E.1 E.2.1 E.2.2.2.2.2.2.2.1.1 hW (wld_D E.2.2.2.2.2.2.2.2 M) hS i 1 ((wld_get cA ad M hi).trans (by rw [hc])) rfl hin h (fun H1 locs1 hP1 hD1 hS1 => ?_)
  rw [wld_set hi hM (fun j2 h1 h2 => cell_other cA ad M hp h1 (by rw [ho]; exact h2))] at hP1
  exact kk p l e s m args below meth c H1 locs1 ls E hP1 hS1 hl
theorem r_irem {x y : Int32} (h : decode cc pc = .ok (.irem, 1)) (hne : ¬ y = 0) (hn : pc + 1 = n) (kk : PW cA ad D own ws cc nL ret d n lv (.int (x % y) :: st) M Q) : PW cA ad D own ws cc nL ret d pc lv (.int y :: .int x :: st) M Q := by
  intro p l e s m args below meth c H locs ls E hW hS hl
  subst hn
  exact lv_irem E.1 E.2.1 h hne (kk p l e s m args below meth c H locs ls E hW hS hl)
theorem r_cast {j x : Int32} (hin : vp_in j 60) (h : decode cc pc = .ok (.castore, 1)) (hn : pc + 1 = n) (kk : PW cA ad D own ws cc nL ret d n lv st (mput M 7 j.toNatClampNeg (vp_nar .char x)) Q) : PW cA ad D own ws cc nL ret d pc lv (.int x :: .int j :: .ref (ad 2) :: st) M Q := by
  intro p l e s m args below meth c H locs ls E hW hS hl
  subst hn
  refine va_cast E.1 E.2.1 E.2.2.2.2.2.2.2.1.1 hW (wld_D E.2.2.2.2.2.2.2.2 M) hS 2 0 (wld_get cA ad M (by decide)) rfl hin h (fun H1 locs1 hP1 hD1 hS1 => ?_)
  have hw := wld_set (cA := cA) (ad := ad) (M := M) (M' := mput M 7 j.toNatClampNeg (vp_nar .char x)) (i := 2) (e := .inl (cA 0, 60, .inl (upd (M.1 7) j.toNatClampNeg (vp_nar .char x)))) (by decide) (by simp [cellOf, mput_eq]) (fun j2 h1 h2 => cell_other cA ad M (by decide) h1 (by simp [ownI]; exact h2))
  rw [hw] at hP1
  exact kk p l e s m args below meth c H1 locs1 ls E hP1 hS1 hl
/-- behind a call -/
theorem call_k {p : Program} {l : Launch} {e : Env} {R : Room} {s : State} {m : MethodId} {args : Array Value} {below : List Frame} {meth : Method} {c : Code} {H : Heap} {locs : List Loc} {Z : State → Prop} {ls : Array Slot} {st0 : List Value} {a : Array Value} {Q' : QT}
    (hr : va_Run p l e R s m args below meth c H locs 0 0 0 0 (F0 m pc ls st0) rest (QQ cA ad D Q' a) (AA ad)) (hS : va_S (AA ad) s.heap H locs)
    (kk : ∀ (r : Option Value) (M' : Mem) (H1 : Heap) (locs1 : List Loc), Q' r M' → WOK cA ad D M' H1 → va_S (AA ad) s.heap H1 locs1 → W p l e R s m args below meth c H1 locs1 0 0 Z (F0 m (pc + 3) ls (r.toList ++ rest))) : W p l e R s m args below meth c H locs 0 0 Z (F0 m pc ls st0) := by
  intro T hT X
  obtain ⟨v, st₀, t, T', L, h0, X', hL, e1, e2, ⟨⟨r, M', hv, hq, hw⟩, hz, hk⟩, st⟩ := hr T hT X
  cases hv
  rw [h0] at hz hk
  obtain ⟨t2, a1, b1⟩ := kk v M' T'.heap (locs ++ L) hq (by rw [e1]; exact hw)
    ⟨Nat.le_trans hS.1 (by rw [e1]; exact hz), fun q h1 h2 => by rw [e1, hk q (Nat.lt_of_lt_of_le h1 hS.1) h2]; exact hS.2.1 q h1 h2, fun q hq => by
      rcases List.mem_append.mp hq with h | h
      · exact hS.2.2 q h
      · exact hL q h⟩ T' rfl X'
  exact ⟨t2, st t2 a1, b1⟩
theorem NST.moved {u U : State} (h : u.vm = U.vm) (hz : NST u) : NST U := ⟨va_Nw.same rfl h hz.1, va_Nw.same rfl h hz.2.1, va_Nw.same rfl h hz.2.2.1, va_Nw.same rfl h hz.2.2.2.1, va_Nw.same rfl h hz.2.2.2.2⟩
theorem NST.warm {s U : State} (hW : s.WarmedH U.vm) (hz : NST s) : NST U := ⟨va_Nw.warmM hW hz.1, va_Nw.warmM hW hz.2.1, va_Nw.warmM hW hz.2.2.1, va_Nw.warmM hW hz.2.2.2.1, va_Nw.warmM hW hz.2.2.2.2⟩
theorem pc_blind (cA : Nat → ClassId) (ad : Nat → Nat) (D : va_G) (av : List Value) (M : Mem) : FrameBlind (va_Pc av (fun U => WOK cA ad D M U.heap ∧ EOK cA D U)) :=
  fun a U g mk h => ⟨h.1, h.2.1, va_K.moved (u := U) (U := U.calling g mk a) (Vm.Alike.refl U.vm) h.2.2.1, NST.moved (u := U) (U := U.calling g mk a) rfl h.2.2.2⟩
theorem pc_ok {cA : Nat → ClassId} {ad : Nat → Nat} {D : va_G} {av : List Value} {M : Mem} {s U : State} {H : Heap} (hE : EOK cA D s) (hW : WOK cA ad D M H) (hU : U.heap = H) (hw : s.WarmedH U.vm) : va_Pc av (fun U => WOK cA ad D M U.heap ∧ EOK cA D U) av.toArray U :=
  ⟨rfl, by rw [hU]; exact hW, va_K.moved hw.alike hE.1, NST.warm hw hE.2⟩
/-- a call of an instance method -/
theorem r_callV {index i np d' ci N maxL : Nat} {y : MethodName} {ws' wst : List Cond} {bytes : ByteArray} {rty : Option FieldType} {C : String} {T : u_T} {fs : List Value} {As : List Value} {Q' : QT}
    (hM : PM cA ad D y ws' d' (.ref (ad i) :: As) M Q') (hg : GoodIn ws (wsV own index C y ws')) (hw : ws' = Cond.code y bytes maxL rty :: wst) (hd : y.cls = C ∧ y.cls ≠ "java/lang/invoke/MethodHandle" ∧ y.cls ≠ "java/lang/invoke/VarHandle" ∧ (parseMethodDescriptor y.desc).map (fun d => d.parameters.length) = some np) (hnp : As.length = np) (hdep : d' + 1 ≤ d) (hmax : maxL ≤ 13)
    (hi : i < 66) (hc : cellOf cA ad M i = .inr (ci, fs)) (hcl : vwCl[ci]? = some (C, T, N)) (h : decode cc pc = .ok (.invokevirtual index, 3)) (hn : pc + 3 = n) (hst : st = As.reverse ++ .ref (ad i) :: rest) (hcat : (rest.map fun v => v.category).sum ≤ 8)
    (kk : ∀ r M', Q' r M' → PW cA ad D own ws cc nL ret d n lv (r.toList ++ rest) M' Q) : PW cA ad D own ws cc nL ret d pc lv st M Q := by
  intro p l e s m args below meth c H locs ls E hW hS hl
  subst hn
  have hE := E
  obtain ⟨hx, hb, hml, hown, hts, hr, hlocks, hek, hI⟩ := E
  refine call_k (va_runV (As := As) (rest := rest) ⟨hx, hb, hml, hown, hts⟩ (hM hI l) (cwV np hts hg hw rfl rfl hd ⟨hdep, by show _ ≤ 32 * d; show 8 + (maxL + 11) + 32 * d' ≤ 32 * d; omega⟩) ⟨pc_blind cA ad D _ M, va_recv hek.1 hW hcl ((wld_get cA ad M hi).trans (by rw [hc])), fun U hU hw => pc_ok hek hW hU hw⟩ rfl hnp hl.1 hst (lv_room hcat) h ⟨Nat.zero_le _, Nat.zero_le _⟩) hS (fun r M' H1 locs1 hq hW1 hS1 => ?_)
  exact kk r M' hq p l e s m args below meth c H1 locs1 ls hE hW1 hS1 hl
theorem r_callS {index np d' maxL : Nat} {y : MethodName} {ws' wst : List Cond} {bytes : ByteArray} {rty : Option FieldType} {As : List Value} {Q' : QT}
    (hM : PM cA ad D y ws' d' As M Q') (hg : GoodIn ws (va_wsS own index y ws')) (hw : ws' = Cond.code y bytes maxL rty :: wst) (hd : y.cls ≠ "java/lang/invoke/MethodHandle" ∧ y.cls ≠ "java/lang/invoke/VarHandle" ∧ (parseMethodDescriptor y.desc).map (fun d => d.parameters.length) = some np) (hnp : As.length = np) (hdep : d' + 1 ≤ d) (hmax : maxL ≤ 13)
    (h : decode cc pc = .ok (.invokestatic index, 3)) (hn : pc + 3 = n) (hst : st = As.reverse ++ rest) (hcat : (rest.map fun v => v.category).sum ≤ 8)
    (kk : ∀ r M', Q' r M' → PW cA ad D own ws cc nL ret d n lv (r.toList ++ rest) M' Q) : PW cA ad D own ws cc nL ret d pc lv st M Q := by
  intro p l e s m args below meth c H locs ls E hW hS hl
  subst hn
  have hE := E
  obtain ⟨hx, hb, hml, hown, hts, hr, hlocks, hek, hI⟩ := E
  refine call_k (va_runS (As := As) (rest := rest) ⟨hx, hb, hml, hown, hts⟩ (hM hI l) (va_cwS np hts hg hw rfl rfl hd ⟨hdep, by show 8 + (maxL + 11) + 32 * d' ≤ 32 * d; omega⟩) ⟨pc_blind cA ad D _ M, fun U hU hw => pc_ok hek hW hU hw⟩ rfl hnp hl.1 hst (lv_room hcat) h ⟨Nat.zero_le _, Nat.zero_le _⟩) hS (fun r M' H1 locs1 hq hW1 hS1 => ?_)
  exact kk r M' hq p l e s m args below meth c H1 locs1 ls hE hW1 hS1 hl
theorem r_callSN {index np d' maxL : Nat} {y : MethodName} {ws' wst : List Cond} {bytes : ByteArray} {rty : Option FieldType} {As : List Value} {Q' : QT} {host : String}
    (hM : PM cA ad D y ws' d' As M Q') (hg : GoodIn ws ws') (hw : ws' = Cond.code y bytes maxL rty :: wst) (hnn : ∀ U, NST U → va_Nw (.methodLinkNest own index y host) U) (h1 : Cond.initialized y.cls ∈ ws) (h2 : Cond.static y ∈ ws) (hd : y.cls ≠ "java/lang/invoke/MethodHandle" ∧ y.cls ≠ "java/lang/invoke/VarHandle" ∧ (parseMethodDescriptor y.desc).map (fun d => d.parameters.length) = some np) (hnp : As.length = np) (hdep : d' + 1 ≤ d) (hmax : maxL ≤ 13)
    (h : decode cc pc = .ok (.invokestatic index, 3)) (hn : pc + 3 = n) (hst : st = As.reverse ++ rest) (hcat : (rest.map fun v => v.category).sum ≤ 8)
    (kk : ∀ r M', Q' r M' → PW cA ad D own ws cc nL ret d n lv (r.toList ++ rest) M' Q) : PW cA ad D own ws cc nL ret d pc lv st M Q := by
  intro p l e s m args below meth c H locs ls E hW hS hl
  subst hn
  have hE := E
  obtain ⟨hx, hb, hml, hown, hts, hr, hlocks, hek, hI⟩ := E
  refine call_k (va_runSN (As := As) (rest := rest) ⟨hx, hb, hml, hown, hts⟩ (hM hI l) ⟨va_cnB np hts hg hw rfl rfl (hnn s hek.2) (hts _ h1) hd ⟨hdep, by show 8 + (maxL + 11) + 32 * d' ≤ 32 * d; omega⟩, hts _ h2, trivial⟩ ⟨pc_blind cA ad D _ M, fun U hU hw => pc_ok hek hW hU hw⟩ rfl hnp hl.1 hst (lv_room hcat) h ⟨Nat.zero_le _, Nat.zero_le _⟩) hS (fun r M' H1 locs1 hq hW1 hS1 => ?_)
  exact kk r M' hq p l e s m args below meth c H1 locs1 ls hE hW1 hS1 hl
theorem pw_drop {lv' : List (Option Value)} {i : Nat} (hl' : lv' = lv.set i none) (kk : PW cA ad D own ws cc nL ret d pc lv' st M Q) : PW cA ad D own ws cc nL ret d pc lv st M Q := by
  intro p l e s m args below meth c H locs ls E hW hS hl
  refine kk p l e s m args below meth c H locs ls E hW hS ⟨hl.1, hl.2.1, ?_⟩
  rintro ⟨j, w⟩ hm
  obtain ⟨k, h1, h2⟩ := (prs_mem _ 0 j w).mp hm
  have hk : j = k := by omega
  subst hk
  refine prs_get hl ?_
  rw [hl'] at h2
  by_cases hj : j = i
  · subst hj
    by_cases hlt : j < lv.length
    · rw [List.getElem?_set_self hlt] at h2
      cases h2
    · rw [List.getElem?_eq_none (by simpa using hlt)] at h2
      cases h2
  · rw [List.getElem?_set_ne (fun q => hj q.symm)] at h2
    exact h2
theorem pw_mg {pcM : Nat} {x : Int32} (k1 : PW cA ad D own ws cc nL ret d pcM lv (.int x :: st) M Q) (k2 : PW cA ad D own ws cc nL ret d pcM lv (.int x :: st) M Q → PW cA ad D own ws cc nL ret d pc lv st M Q) : PW cA ad D own ws cc nL ret d pc lv st M Q := k2 k1
theorem r_top {x : Int32} (kk : ∀ y, y = x → PW cA ad D own ws cc nL ret d pc lv (.int y :: st) M Q) : PW cA ad D own ws cc nL ret d pc lv (.int x :: st) M Q := kk x rfl
theorem pw_sx {x y : Int32} (h : x = y) (kk : PW cA ad D own ws cc nL ret d pc lv (.int y :: st) M Q) : PW cA ad D own ws cc nL ret d pc lv (.int x :: st) M Q := h ▸ kk
theorem pw_mem {M2 : Mem} (h : M = M2) (kk : PW cA ad D own ws cc nL ret d pc lv st M2 Q) : PW cA ad D own ws cc nL ret d pc lv st M Q := h ▸ kk
theorem i10 {P : Prop} {dP : Decidable P} (h : (if P then (1 : Int32) else 0) = 0) : ¬ P := by
  intro q
  rw [if_pos q] at h
  exact absurd h (by decide)
theorem i11 {P : Prop} {dP : Decidable P} (h : ¬ (if P then (1 : Int32) else 0) = 0) : P := by
  by_cases q : P
  · exact q
  · rw [if_neg q] at h
    exact absurd rfl h
theorem pw_cut {P : Prop} (h : P) (k : P → PW cA ad D own ws cc nL ret d pc lv st M Q) : PW cA ad D own ws cc nL ret d pc lv st M Q := k h
theorem pw_post {Q' : QT} (h : PW cA ad D own ws cc nL ret d pc lv st M Q') (hq : ∀ r M', Q' r M' → Q r M') : PW cA ad D own ws cc nL ret d pc lv st M Q := by
  intro p l e s m args below meth c H locs ls E hW hS hl T hT X
  obtain ⟨t, a, o, b1, b2, ⟨⟨r, M', h1, h2, h3⟩, h4⟩, b4⟩ := h p l e s m args below meth c H locs ls E hW hS hl T hT X
  exact ⟨t, a, o, b1, b2, ⟨⟨r, M', h1, hq _ _ h2, h3⟩, h4⟩, b4⟩
end ROWS
end
section
/-! ===== what the methods answer, as plain functions of a state's 78 ints: 0 smithies, 1 day, 2 mile, 3 hours left, 4 leather, 5 money, 6 paid for leather, 7 owed so far, 8 longest cold, 9 walked, 10.. settings, 14+8k+j smithy k (mile size wear heat cold debt paid mends) ===== -/
abbrev Vec : Type := Nat → Int32
abbrev IA : Int32 := -1000000001
abbrev NP : Int32 := -1000000002
abbrev LR : Int32 := -1000000003
abbrev NF : Int32 := -1000000004
def tens (v : Int32) : Int32 := (v + 9) / 10
def absI (v : Int32) : Int32 := if 0 ≤ v then v else 0 - v
def hB (a b : Int32) : Int32 := tens (absI (a - b))
def bI (b : Bool) : Int32 := if b = true then 1 else 0
def hM (b : Bool) : Int32 := if b = true then 3 else 1
def leatherOf (u : Vec) (k : Nat) (b : Bool) : Int32 := if b = true then 4 * u (14 + 8 * k + 1) else tens (u (14 + 8 * k + 2))
def owes (u : Vec) (k : Nat) (b : Bool) : Int32 := u 12 * hM b + 3 * leatherOf u k b
def rsn (u : Vec) (k : Nat) : Int32 := if u (14 + 8 * k + 5) ≤ u 13 then (if u (14 + 8 * k + 2) = 0 then 5 else 0) else 4
def whyNot (u : Vec) (k : Nat) (b : Bool) : Int32 := if u (14 + 8 * k) = u 2 then (if hM b ≤ u 3 then (if leatherOf u k b ≤ u 4 then rsn u k else 3) else 2) else 1
def wearBM (u : Vec) (k : Nat) (b : Bool) : Int32 := if b = true then 0 else u (14 + 8 * k + 2) / 3
/-- the State p holds u -/
def setp (M : Mem) (p : Nat) (u : Vec) : Mem := (va_up M.1 p u, M.2)
theorem mput_s (M : Mem) (p k : Nat) (x : Int32) : mput M p k x = setp M p (upd (M.1 p) k x) := rfl
theorem setp_at (M : Mem) (p : Nat) (u : Vec) : (setp M p u).1 p = u := by simp [setp, va_up]
theorem setp_ne (M : Mem) {p q : Nat} (u : Vec) (h : q ≠ p) : (setp M p u).1 q = M.1 q := by simp [setp, va_up, h]
theorem setp_r (M : Mem) (p : Nat) (u : Vec) : (setp M p u).2 = M.2 := rfl
theorem setp_2 (M : Mem) (p : Nat) (u v : Vec) : setp (setp M p u) p v = setp M p v := by
  unfold setp
  congr 1
  funext q
  by_cases h : q = p
  · simp [va_up, h]
  · simp [va_up, h]
theorem setp_self (M : Mem) (p : Nat) : setp M p (M.1 p) = M := by
  unfold setp
  have : va_up M.1 p (M.1 p) = M.1 := by
    funext q
    by_cases h : q = p
    · simp [va_up, h]
    · simp [va_up, h]
  rw [this]
theorem setp_swap (M : Mem) {p q : Nat} (u v : Vec) (h : p ≠ q) : setp (setp M p u) q v = setp (setp M q v) p u := by
  unfold setp
  congr 1
  funext r
  by_cases h1 : r = p
  · subst h1
    simp [va_up, h]
  · by_cases h2 : r = q
    · subst h2
      simp [va_up, h1]
    · simp [va_up, h1, h2]
theorem upd_at (f : Vec) (k : Nat) (x : Int32) : upd f k x k = x := by simp [upd]
theorem upd_ne (f : Vec) {k j : Nat} (x : Int32) (h : j ≠ k) : upd f k x j = f j := by simp [upd, h]
theorem upd_2 (f : Vec) (k : Nat) (x y : Int32) : upd (upd f k x) k y = upd f k y := by
  funext j
  by_cases h : j = k
  · simp [upd, h]
  · simp [upd, h]
theorem upd_sw (f : Vec) {k j : Nat} (x y : Int32) (h : k ≠ j) : upd (upd f k x) j y = upd (upd f j y) k x := by
  funext i
  by_cases h1 : i = k
  · subst h1
    simp [upd, h]
  · by_cases h2 : i = j
    · subst h2
      simp [upd, h1]
    · simp [upd, h1, h2]
theorem upd_id (f : Vec) (k : Nat) : upd f k (f k) = f := by
  funext i
  by_cases h : i = k
  · subst h; simp [upd]
  · simp [upd, h]
-- the changes of a state: the answer, and the state then (on an error: as it was)
def walkU (u : Vec) (to : Int32) : Vec := upd (upd (upd u 3 (u 3 - hB (u 2) to)) 9 (u 9 + absI (to - u 2))) 2 to
def walkS (u : Vec) (to : Int32) : Int32 × Vec := if to < 0 then (IA, u) else if to ≤ 99 then (if hB (u 2) to ≤ u 3 then (u 3 - hB (u 2) to, walkU u to) else (NP, u)) else (IA, u)
def buyU (u : Vec) (x : Int32) : Vec := upd (upd (upd u 4 (u 4 + x)) 5 (u 5 - 2 * x)) 6 (u 6 + 2 * x)
def buyS (u : Vec) (x : Int32) : Int32 × Vec := if x < 1 then (IA, u) else if x ≤ 999 then (if u 2 = 0 then (if u 4 + x ≤ 999 then (u 4 + x, buyU u x) else (LR, u)) else (NP, u)) else (IA, u)
def isSm (u : Vec) (j : Int32) : Prop := ¬ j < 0 ∧ j < u 0
def mendU (u : Vec) (k : Nat) (b : Bool) : Vec := upd (upd (upd (upd (upd (upd u 3 (u 3 - hM b)) 4 (u 4 - leatherOf u k b)) 7 (u 7 + owes u k b)) (14 + 8 * k + 5) (u (14 + 8 * k + 5) + owes u k b)) (14 + 8 * k + 2) (wearBM u k b)) (14 + 8 * k + 7) (u (14 + 8 * k + 7) + 1)
def mendR (u : Vec) (k : Nat) (b : Bool) : Int32 := if b = true then u (14 + 8 * k + 5) + owes u k b else wearBM u k b
def mendS (u : Vec) (k : Nat) (b : Bool) : Int32 × Vec := if whyNot u k b = 0 then (mendR u k b, mendU u k b) else (NP, u)
def pays (u : Vec) (k : Nat) : Int32 := if u (14 + 8 * k + 3) < u 10 then u (14 + 8 * k + 5) / 2 else u (14 + 8 * k + 5)
def collU (u : Vec) (k : Nat) : Vec := upd (upd (upd u (14 + 8 * k + 5) (u (14 + 8 * k + 5) - pays u k)) (14 + 8 * k + 6) (u (14 + 8 * k + 6) + pays u k)) 5 (u 5 + pays u k)
def collS (u : Vec) (k : Nat) : Int32 × Vec := if u (14 + 8 * k) = u 2 then (if 0 < u (14 + 8 * k + 5) then (pays u k, collU u k) else (NP, u)) else (NP, u)
def addU (u : Vec) (k : Nat) (mile size : Int32) : Vec := upd (upd (upd (upd (upd (upd (upd (upd (upd u 0 (u 0 + 1)) (14 + 8 * k) mile) (14 + 8 * k + 1) size) (14 + 8 * k + 2) 0) (14 + 8 * k + 3) 100) (14 + 8 * k + 4) 0) (14 + 8 * k + 5) 0) (14 + 8 * k + 6) 0) (14 + 8 * k + 7) 0
def addS (u : Vec) (k : Nat) (mile size : Int32) : Int32 × Vec := if mile < 0 then (IA, u) else if 99 < mile then (IA, u) else if size < 1 then (IA, u) else if size ≤ 9 then (if u 0 < 8 then (u 0, addU u k mile size) else (LR, u)) else (IA, u)
def rng (v a b : Int32) : Bool := if v < a then false else if b < v then false else true
def inRng (w v : Int32) : Bool := if w = 0 then rng v 1 99 else if w = 1 then rng v 1 24 else if w = 2 then rng v 0 20 else if w = 3 then rng v 0 500 else false
def setS (u : Vec) (w v : Int32) : Int32 × Vec := if inRng w v = true then (if w = 0 then (u 10, upd u 10 v) else if w = 1 then (u 11, upd u 11 v) else if w = 2 then (u 12, upd u 12 v) else (u 13, upd u 13 v)) else (IA, u)
def wearD (w z : Int32) : Int32 := if w + z / 2 + 1 < 100 then w + z / 2 + 1 else 100
def heatD (h w : Int32) : Int32 := if w / 10 = 0 then (if h + 10 < 100 then h + 10 else 100) else (if 0 < h - w / 10 * 2 then h - w / 10 * 2 else 0)
/-- a day of the smithy k, the class's way -/
def dayW (u : Vec) (k : Nat) : Int32 := wearD (u (14 + 8 * k + 2)) (u (14 + 8 * k + 1))
def dayH (u : Vec) (k : Nat) : Int32 := heatD (u (14 + 8 * k + 3)) (dayW u k)
def dayC (u : Vec) (k : Nat) : Int32 := if dayH u k < u 10 then u (14 + 8 * k + 4) + 1 else 0
def dayU (u : Vec) (k : Nat) : Vec := upd (upd (upd (upd u (14 + 8 * k + 2) (dayW u k)) (14 + 8 * k + 3) (dayH u k)) (14 + 8 * k + 4) (dayC u k)) 8 (if u 8 < dayC u k then dayC u k else u 8)
def daysU (u : Vec) (k : Nat) : Nat → Vec
  | 0 => u
  | i + 1 => dayU (daysU u k i) k
def allU (u : Vec) (d : Nat) : Nat → Vec
  | 0 => u
  | k + 1 => daysU (allU u d k) k d
def endU (u : Vec) (n d : Nat) : Vec := upd (upd (allU u d n) 1 (u 1 + nI d)) 3 (u 11)
def csN (u : Vec) : Nat → Int32
  | 0 => 0
  | i + 1 => if u (14 + 8 * i + 3) < u 10 then csN u i ||| ((1 : Int32) <<< (nI i &&& 31)) else csN u i
def sumN (u : Vec) (j : Nat) : Nat → Int32
  | 0 => 0
  | i + 1 => sumN u j i + u (14 + 8 * i + j)
def copyU (v u : Vec) (n : Nat) : Vec := fun k => if k < 14 + 8 * n then u k else v k
def bitc (x : Int32) : Int32 :=
  let a := x - ((x.toUInt32 >>> ((1 : Int32).toUInt32 &&& Int32.toUInt32 31)).toInt32 &&& 1431655765)
  let b := (a &&& 858993459) + ((a.toUInt32 >>> ((2 : Int32).toUInt32 &&& Int32.toUInt32 31)).toInt32 &&& 858993459)
  let c := (b + (b.toUInt32 >>> ((4 : Int32).toUInt32 &&& Int32.toUInt32 31)).toInt32) &&& 252645135
  let d := c + (c.toUInt32 >>> ((8 : Int32).toUInt32 &&& Int32.toUInt32 31)).toInt32
  let e := d + (d.toUInt32 >>> ((16 : Int32).toUInt32 &&& Int32.toUInt32 31)).toInt32
  e &&& 63
theorem bI_0 {b : Bool} (h : bI b = 0) : b = false := by cases b; rfl; exact absurd h (by decide)
theorem bI_1 {b : Bool} (h : ¬ bI b = 0) : b = true := by cases b; exact absurd rfl h; rfl
theorem nI_inc (i : Nat) : nI i + Int32.ofInt 1 = nI (i + 1) := nI_1 i
theorem copyU_0 (v u : Vec) : upd (upd (upd (upd (upd (upd (upd (upd (upd (upd (upd (upd (upd (upd v 0 (u 0)) 10 (u 10)) 11 (u 11)) 12 (u 12)) 13 (u 13)) 1 (u 1)) 2 (u 2)) 3 (u 3)) 4 (u 4)) 5 (u 5)) 6 (u 6)) 7 (u 7)) 8 (u 8)) 9 (u 9) = copyU v u 0 := by
  funext k
  by_cases hk : k < 14
  · have h : k = 0 ∨ k = 1 ∨ k = 2 ∨ k = 3 ∨ k = 4 ∨ k = 5 ∨ k = 6 ∨ k = 7 ∨ k = 8 ∨ k = 9 ∨ k = 10 ∨ k = 11 ∨ k = 12 ∨ k = 13 := by omega
    rcases h with rfl | rfl | rfl | rfl | rfl | rfl | rfl | rfl | rfl | rfl | rfl | rfl | rfl | rfl <;> simp [upd, copyU]
  · have e : copyU v u 0 k = v k := by simp [copyU]; omega
    rw [e]
    repeat rw [upd_ne _ _ (by omega)]
theorem copyU_s (v u : Vec) (i : Nat) : upd (upd (upd (upd (upd (upd (upd (upd (copyU v u i) (14 + 8 * i) (u (14 + 8 * i))) (14 + 8 * i + 1) (u (14 + 8 * i + 1))) (14 + 8 * i + 2) (u (14 + 8 * i + 2))) (14 + 8 * i + 3) (u (14 + 8 * i + 3))) (14 + 8 * i + 4) (u (14 + 8 * i + 4))) (14 + 8 * i + 5) (u (14 + 8 * i + 5))) (14 + 8 * i + 6) (u (14 + 8 * i + 6))) (14 + 8 * i + 7) (u (14 + 8 * i + 7)) = copyU v u (i + 1) := by
  funext k
  by_cases hk : 14 + 8 * i ≤ k ∧ k < 14 + 8 * i + 8
  · have e : copyU v u (i + 1) k = u k := by simp [copyU]; omega
    rw [e]
    have h : k = 14 + 8 * i ∨ k = 14 + 8 * i + 1 ∨ k = 14 + 8 * i + 2 ∨ k = 14 + 8 * i + 3 ∨ k = 14 + 8 * i + 4 ∨ k = 14 + 8 * i + 5 ∨ k = 14 + 8 * i + 6 ∨ k = 14 + 8 * i + 7 := by omega
    rcases h with rfl | rfl | rfl | rfl | rfl | rfl | rfl | rfl <;> simp [upd]
  · have e : copyU v u (i + 1) k = copyU v u i k := by
      by_cases h2 : k < 14 + 8 * i
      · have h3 : k < 14 + 8 * (i + 1) := by omega
        simp only [copyU, h2, h3, if_true]
      · have h3 : ¬ k < 14 + 8 * (i + 1) := by omega
        simp only [copyU, h2, h3, if_false]
    rw [e]
    repeat rw [upd_ne _ _ (by omega)]
end
section
/-! ===== short names: P_ a walk, C_ a contract ===== -/
abbrev P_X1_beginAt (cA : Nat → ClassId) (ad : Nat → Nat) (D : va_G) (pc : Nat) (lv : List (Option Value)) (st : List Value) (M : Mem) (Q : QT) : Prop := PW cA ad D RX1 wsX1_beginAt cX1_beginAt 3 none 0 pc lv st M Q
abbrev C_X1_beginAt (cA : Nat → ClassId) (ad : Nat → Nat) (D : va_G) (av : List Value) (M : Mem) (Q : QT) : Prop := PM cA ad D yX1_beginAt wsX1_beginAt 0 av M Q
abbrev P_X1_copyFrom (cA : Nat → ClassId) (ad : Nat → Nat) (D : va_G) (pc : Nat) (lv : List (Option Value)) (st : List Value) (M : Mem) (Q : QT) : Prop := PW cA ad D RX1 wsX1_copyFrom cX1_copyFrom 2 none 0 pc lv st M Q
abbrev C_X1_copyFrom (cA : Nat → ClassId) (ad : Nat → Nat) (D : va_G) (av : List Value) (M : Mem) (Q : QT) : Prop := PM cA ad D yX1_copyFrom wsX1_copyFrom 0 av M Q
abbrev P_X3_tensBegun (cA : Nat → ClassId) (ad : Nat → Nat) (D : va_G) (pc : Nat) (lv : List (Option Value)) (st : List Value) (M : Mem) (Q : QT) : Prop := PW cA ad D RX3 wsX3_tensBegun cX3_tensBegun 1 (some .int) 0 pc lv st M Q
abbrev C_X3_tensBegun (cA : Nat → ClassId) (ad : Nat → Nat) (D : va_G) (av : List Value) (M : Mem) (Q : QT) : Prop := PM cA ad D yX3_tensBegun wsX3_tensBegun 0 av M Q
abbrev P_X1_leatherOfMend (cA : Nat → ClassId) (ad : Nat → Nat) (D : va_G) (pc : Nat) (lv : List (Option Value)) (st : List Value) (M : Mem) (Q : QT) : Prop := PW cA ad D RX1 wsX1_leatherOfMend cX1_leatherOfMend 2 (some .int) 1 pc lv st M Q
abbrev C_X1_leatherOfMend (cA : Nat → ClassId) (ad : Nat → Nat) (D : va_G) (av : List Value) (M : Mem) (Q : QT) : Prop := PM cA ad D yX1_leatherOfMend wsX1_leatherOfMend 1 av M Q
abbrev P_X1_wearBehindMend (cA : Nat → ClassId) (ad : Nat → Nat) (D : va_G) (pc : Nat) (lv : List (Option Value)) (st : List Value) (M : Mem) (Q : QT) : Prop := PW cA ad D RX1 wsX1_wearBehindMend cX1_wearBehindMend 2 (some .int) 0 pc lv st M Q
abbrev C_X1_wearBehindMend (cA : Nat → ClassId) (ad : Nat → Nat) (D : va_G) (av : List Value) (M : Mem) (Q : QT) : Prop := PM cA ad D yX1_wearBehindMend wsX1_wearBehindMend 0 av M Q
abbrev P_X2_find (cA : Nat → ClassId) (ad : Nat → Nat) (D : va_G) (pc : Nat) (lv : List (Option Value)) (st : List Value) (M : Mem) (Q : QT) : Prop := PW cA ad D RX2 wsX2_find cX2_find 2 (some (.object "BellowsRound$Smithy")) 0 pc lv st M Q
abbrev C_X2_find (cA : Nat → ClassId) (ad : Nat → Nat) (D : va_G) (av : List Value) (M : Mem) (Q : QT) : Prop := PM cA ad D yX2_find wsX2_find 0 av M Q
abbrev P_X2_copyFrom (cA : Nat → ClassId) (ad : Nat → Nat) (D : va_G) (pc : Nat) (lv : List (Option Value)) (st : List Value) (M : Mem) (Q : QT) : Prop := PW cA ad D RX2 wsX2_copyFrom cX2_copyFrom 5 none 1 pc lv st M Q
abbrev C_X2_copyFrom (cA : Nat → ClassId) (ad : Nat → Nat) (D : va_G) (av : List Value) (M : Mem) (Q : QT) : Prop := PM cA ad D yX2_copyFrom wsX2_copyFrom 1 av M Q
abbrev P_X2_addSmithy (cA : Nat → ClassId) (ad : Nat → Nat) (D : va_G) (pc : Nat) (lv : List (Option Value)) (st : List Value) (M : Mem) (Q : QT) : Prop := PW cA ad D RX2 wsX2_addSmithy cX2_addSmithy 5 (some .int) 1 pc lv st M Q
abbrev C_X2_addSmithy (cA : Nat → ClassId) (ad : Nat → Nat) (D : va_G) (av : List Value) (M : Mem) (Q : QT) : Prop := PM cA ad D yX2_addSmithy wsX2_addSmithy 1 av M Q
abbrev P_X3_hoursOfWay (cA : Nat → ClassId) (ad : Nat → Nat) (D : va_G) (pc : Nat) (lv : List (Option Value)) (st : List Value) (M : Mem) (Q : QT) : Prop := PW cA ad D RX3 wsX3_hoursOfWay cX3_hoursOfWay 2 (some .int) 1 pc lv st M Q
abbrev C_X3_hoursOfWay (cA : Nat → ClassId) (ad : Nat → Nat) (D : va_G) (av : List Value) (M : Mem) (Q : QT) : Prop := PM cA ad D yX3_hoursOfWay wsX3_hoursOfWay 1 av M Q
abbrev P_X2_walkTo (cA : Nat → ClassId) (ad : Nat → Nat) (D : va_G) (pc : Nat) (lv : List (Option Value)) (st : List Value) (M : Mem) (Q : QT) : Prop := PW cA ad D RX2 wsX2_walkTo cX2_walkTo 3 (some .int) 2 pc lv st M Q
abbrev C_X2_walkTo (cA : Nat → ClassId) (ad : Nat → Nat) (D : va_G) (av : List Value) (M : Mem) (Q : QT) : Prop := PM cA ad D yX2_walkTo wsX2_walkTo 2 av M Q
abbrev P_X2_buyLeather (cA : Nat → ClassId) (ad : Nat → Nat) (D : va_G) (pc : Nat) (lv : List (Option Value)) (st : List Value) (M : Mem) (Q : QT) : Prop := PW cA ad D RX2 wsX2_buyLeather cX2_buyLeather 3 (some .int) 0 pc lv st M Q
abbrev C_X2_buyLeather (cA : Nat → ClassId) (ad : Nat → Nat) (D : va_G) (av : List Value) (M : Mem) (Q : QT) : Prop := PM cA ad D yX2_buyLeather wsX2_buyLeather 0 av M Q
abbrev P_X3_hoursOfMend (cA : Nat → ClassId) (ad : Nat → Nat) (D : va_G) (pc : Nat) (lv : List (Option Value)) (st : List Value) (M : Mem) (Q : QT) : Prop := PW cA ad D RX3 wsX3_hoursOfMend cX3_hoursOfMend 1 (some .int) 0 pc lv st M Q
abbrev C_X3_hoursOfMend (cA : Nat → ClassId) (ad : Nat → Nat) (D : va_G) (av : List Value) (M : Mem) (Q : QT) : Prop := PM cA ad D yX3_hoursOfMend wsX3_hoursOfMend 0 av M Q
abbrev P_X2_reasonOfSmithy (cA : Nat → ClassId) (ad : Nat → Nat) (D : va_G) (pc : Nat) (lv : List (Option Value)) (st : List Value) (M : Mem) (Q : QT) : Prop := PW cA ad D RX2 wsX2_reasonOfSmithy cX2_reasonOfSmithy 2 (some .int) 0 pc lv st M Q
abbrev C_X2_reasonOfSmithy (cA : Nat → ClassId) (ad : Nat → Nat) (D : va_G) (av : List Value) (M : Mem) (Q : QT) : Prop := PM cA ad D yX2_reasonOfSmithy wsX2_reasonOfSmithy 0 av M Q
abbrev P_X2_reasonAgainst (cA : Nat → ClassId) (ad : Nat → Nat) (D : va_G) (pc : Nat) (lv : List (Option Value)) (st : List Value) (M : Mem) (Q : QT) : Prop := PW cA ad D RX2 wsX2_reasonAgainst cX2_reasonAgainst 3 (some .int) 2 pc lv st M Q
abbrev C_X2_reasonAgainst (cA : Nat → ClassId) (ad : Nat → Nat) (D : va_G) (av : List Value) (M : Mem) (Q : QT) : Prop := PM cA ad D yX2_reasonAgainst wsX2_reasonAgainst 2 av M Q
abbrev P_X2_priceOfMend (cA : Nat → ClassId) (ad : Nat → Nat) (D : va_G) (pc : Nat) (lv : List (Option Value)) (st : List Value) (M : Mem) (Q : QT) : Prop := PW cA ad D RX2 wsX2_priceOfMend cX2_priceOfMend 3 (some .int) 2 pc lv st M Q
abbrev C_X2_priceOfMend (cA : Nat → ClassId) (ad : Nat → Nat) (D : va_G) (av : List Value) (M : Mem) (Q : QT) : Prop := PM cA ad D yX2_priceOfMend wsX2_priceOfMend 2 av M Q
abbrev P_X2_mendBellows (cA : Nat → ClassId) (ad : Nat → Nat) (D : va_G) (pc : Nat) (lv : List (Option Value)) (st : List Value) (M : Mem) (Q : QT) : Prop := PW cA ad D RX2 wsX2_mendBellows cX2_mendBellows 5 (some .int) 3 pc lv st M Q
abbrev C_X2_mendBellows (cA : Nat → ClassId) (ad : Nat → Nat) (D : va_G) (av : List Value) (M : Mem) (Q : QT) : Prop := PM cA ad D yX2_mendBellows wsX2_mendBellows 3 av M Q
abbrev P_X2_isCold (cA : Nat → ClassId) (ad : Nat → Nat) (D : va_G) (pc : Nat) (lv : List (Option Value)) (st : List Value) (M : Mem) (Q : QT) : Prop := PW cA ad D RX2 wsX2_isCold cX2_isCold 2 (some .boolean) 0 pc lv st M Q
abbrev C_X2_isCold (cA : Nat → ClassId) (ad : Nat → Nat) (D : va_G) (av : List Value) (M : Mem) (Q : QT) : Prop := PM cA ad D yX2_isCold wsX2_isCold 0 av M Q
abbrev P_X2_collectDebt (cA : Nat → ClassId) (ad : Nat → Nat) (D : va_G) (pc : Nat) (lv : List (Option Value)) (st : List Value) (M : Mem) (Q : QT) : Prop := PW cA ad D RX2 wsX2_collectDebt cX2_collectDebt 4 (some .int) 1 pc lv st M Q
abbrev C_X2_collectDebt (cA : Nat → ClassId) (ad : Nat → Nat) (D : va_G) (av : List Value) (M : Mem) (Q : QT) : Prop := PM cA ad D yX2_collectDebt wsX2_collectDebt 1 av M Q
abbrev P_X3_wearBehindDay (cA : Nat → ClassId) (ad : Nat → Nat) (D : va_G) (pc : Nat) (lv : List (Option Value)) (st : List Value) (M : Mem) (Q : QT) : Prop := PW cA ad D RX3 wsX3_wearBehindDay cX3_wearBehindDay 2 (some .int) 1 pc lv st M Q
abbrev C_X3_wearBehindDay (cA : Nat → ClassId) (ad : Nat → Nat) (D : va_G) (av : List Value) (M : Mem) (Q : QT) : Prop := PM cA ad D yX3_wearBehindDay wsX3_wearBehindDay 1 av M Q
abbrev P_X3_leakOf (cA : Nat → ClassId) (ad : Nat → Nat) (D : va_G) (pc : Nat) (lv : List (Option Value)) (st : List Value) (M : Mem) (Q : QT) : Prop := PW cA ad D RX3 wsX3_leakOf cX3_leakOf 1 (some .int) 0 pc lv st M Q
abbrev C_X3_leakOf (cA : Nat → ClassId) (ad : Nat → Nat) (D : va_G) (av : List Value) (M : Mem) (Q : QT) : Prop := PM cA ad D yX3_leakOf wsX3_leakOf 0 av M Q
abbrev P_X3_heatBehindDay (cA : Nat → ClassId) (ad : Nat → Nat) (D : va_G) (pc : Nat) (lv : List (Option Value)) (st : List Value) (M : Mem) (Q : QT) : Prop := PW cA ad D RX3 wsX3_heatBehindDay cX3_heatBehindDay 3 (some .int) 1 pc lv st M Q
abbrev C_X3_heatBehindDay (cA : Nat → ClassId) (ad : Nat → Nat) (D : va_G) (av : List Value) (M : Mem) (Q : QT) : Prop := PM cA ad D yX3_heatBehindDay wsX3_heatBehindDay 1 av M Q
abbrev P_X2_endDayOf (cA : Nat → ClassId) (ad : Nat → Nat) (D : va_G) (pc : Nat) (lv : List (Option Value)) (st : List Value) (M : Mem) (Q : QT) : Prop := PW cA ad D RX2 wsX2_endDayOf cX2_endDayOf 2 none 2 pc lv st M Q
abbrev C_X2_endDayOf (cA : Nat → ClassId) (ad : Nat → Nat) (D : va_G) (av : List Value) (M : Mem) (Q : QT) : Prop := PM cA ad D yX2_endDayOf wsX2_endDayOf 2 av M Q
abbrev P_X2_coldSet (cA : Nat → ClassId) (ad : Nat → Nat) (D : va_G) (pc : Nat) (lv : List (Option Value)) (st : List Value) (M : Mem) (Q : QT) : Prop := PW cA ad D RX2 wsX2_coldSet cX2_coldSet 4 (some .int) 1 pc lv st M Q
abbrev C_X2_coldSet (cA : Nat → ClassId) (ad : Nat → Nat) (D : va_G) (av : List Value) (M : Mem) (Q : QT) : Prop := PM cA ad D yX2_coldSet wsX2_coldSet 1 av M Q
abbrev P_J6_bitCount_0f7a4 (cA : Nat → ClassId) (ad : Nat → Nat) (D : va_G) (pc : Nat) (lv : List (Option Value)) (st : List Value) (M : Mem) (Q : QT) : Prop := PW cA ad D RJ6 wsJ6_bitCount_0f7a4 cJ6_bitCount_0f7a4 1 (some .int) 0 pc lv st M Q
abbrev C_J6_bitCount_0f7a4 (cA : Nat → ClassId) (ad : Nat → Nat) (D : va_G) (av : List Value) (M : Mem) (Q : QT) : Prop := PM cA ad D yJ6_bitCount_0f7a4 wsJ6_bitCount_0f7a4 0 av M Q
abbrev P_X2_endDays (cA : Nat → ClassId) (ad : Nat → Nat) (D : va_G) (pc : Nat) (lv : List (Option Value)) (st : List Value) (M : Mem) (Q : QT) : Prop := PW cA ad D RX2 wsX2_endDays cX2_endDays 5 (some .int) 3 pc lv st M Q
abbrev C_X2_endDays (cA : Nat → ClassId) (ad : Nat → Nat) (D : va_G) (av : List Value) (M : Mem) (Q : QT) : Prop := PM cA ad D yX2_endDays wsX2_endDays 3 av M Q
abbrev P_X2_isInRange (cA : Nat → ClassId) (ad : Nat → Nat) (D : va_G) (pc : Nat) (lv : List (Option Value)) (st : List Value) (M : Mem) (Q : QT) : Prop := PW cA ad D RX2 wsX2_isInRange cX2_isInRange 2 (some .boolean) 0 pc lv st M Q
abbrev C_X2_isInRange (cA : Nat → ClassId) (ad : Nat → Nat) (D : va_G) (av : List Value) (M : Mem) (Q : QT) : Prop := PM cA ad D yX2_isInRange wsX2_isInRange 0 av M Q
abbrev P_X2_changeSetting (cA : Nat → ClassId) (ad : Nat → Nat) (D : va_G) (pc : Nat) (lv : List (Option Value)) (st : List Value) (M : Mem) (Q : QT) : Prop := PW cA ad D RX2 wsX2_changeSetting cX2_changeSetting 4 (some .int) 1 pc lv st M Q
abbrev C_X2_changeSetting (cA : Nat → ClassId) (ad : Nat → Nat) (D : va_G) (av : List Value) (M : Mem) (Q : QT) : Prop := PM cA ad D yX2_changeSetting wsX2_changeSetting 1 av M Q
abbrev P_X2_debtsTogether (cA : Nat → ClassId) (ad : Nat → Nat) (D : va_G) (pc : Nat) (lv : List (Option Value)) (st : List Value) (M : Mem) (Q : QT) : Prop := PW cA ad D RX2 wsX2_debtsTogether cX2_debtsTogether 4 (some .int) 1 pc lv st M Q
abbrev C_X2_debtsTogether (cA : Nat → ClassId) (ad : Nat → Nat) (D : va_G) (av : List Value) (M : Mem) (Q : QT) : Prop := PM cA ad D yX2_debtsTogether wsX2_debtsTogether 1 av M Q
abbrev P_X3_dropOldestState (cA : Nat → ClassId) (ad : Nat → Nat) (D : va_G) (pc : Nat) (lv : List (Option Value)) (st : List Value) (M : Mem) (Q : QT) : Prop := PW cA ad D RX3 wsX3_dropOldestState cX3_dropOldestState 3 none 0 pc lv st M Q
abbrev C_X3_dropOldestState (cA : Nat → ClassId) (ad : Nat → Nat) (D : va_G) (av : List Value) (M : Mem) (Q : QT) : Prop := PM cA ad D yX3_dropOldestState wsX3_dropOldestState 0 av M Q
abbrev P_X3_remember (cA : Nat → ClassId) (ad : Nat → Nat) (D : va_G) (pc : Nat) (lv : List (Option Value)) (st : List Value) (M : Mem) (Q : QT) : Prop := PW cA ad D RX3 wsX3_remember cX3_remember 2 none 2 pc lv st M Q
abbrev C_X3_remember (cA : Nat → ClassId) (ad : Nat → Nat) (D : va_G) (av : List Value) (M : Mem) (Q : QT) : Prop := PM cA ad D yX3_remember wsX3_remember 2 av M Q
abbrev P_X3_commit (cA : Nat → ClassId) (ad : Nat → Nat) (D : va_G) (pc : Nat) (lv : List (Option Value)) (st : List Value) (M : Mem) (Q : QT) : Prop := PW cA ad D RX3 wsX3_commit cX3_commit 3 (some .int) 3 pc lv st M Q
abbrev C_X3_commit (cA : Nat → ClassId) (ad : Nat → Nat) (D : va_G) (av : List Value) (M : Mem) (Q : QT) : Prop := PM cA ad D yX3_commit wsX3_commit 3 av M Q
abbrev P_X3_smithy (cA : Nat → ClassId) (ad : Nat → Nat) (D : va_G) (pc : Nat) (lv : List (Option Value)) (st : List Value) (M : Mem) (Q : QT) : Prop := PW cA ad D RX3 wsX3_smithy cX3_smithy 3 (some .int) 4 pc lv st M Q
abbrev C_X3_smithy (cA : Nat → ClassId) (ad : Nat → Nat) (D : va_G) (av : List Value) (M : Mem) (Q : QT) : Prop := PM cA ad D yX3_smithy wsX3_smithy 4 av M Q
abbrev P_X3_walk (cA : Nat → ClassId) (ad : Nat → Nat) (D : va_G) (pc : Nat) (lv : List (Option Value)) (st : List Value) (M : Mem) (Q : QT) : Prop := PW cA ad D RX3 wsX3_walk cX3_walk 2 (some .int) 4 pc lv st M Q
abbrev C_X3_walk (cA : Nat → ClassId) (ad : Nat → Nat) (D : va_G) (av : List Value) (M : Mem) (Q : QT) : Prop := PM cA ad D yX3_walk wsX3_walk 4 av M Q
abbrev P_X3_buy (cA : Nat → ClassId) (ad : Nat → Nat) (D : va_G) (pc : Nat) (lv : List (Option Value)) (st : List Value) (M : Mem) (Q : QT) : Prop := PW cA ad D RX3 wsX3_buy cX3_buy 2 (some .int) 4 pc lv st M Q
abbrev C_X3_buy (cA : Nat → ClassId) (ad : Nat → Nat) (D : va_G) (av : List Value) (M : Mem) (Q : QT) : Prop := PM cA ad D yX3_buy wsX3_buy 4 av M Q
abbrev P_X3_patch (cA : Nat → ClassId) (ad : Nat → Nat) (D : va_G) (pc : Nat) (lv : List (Option Value)) (st : List Value) (M : Mem) (Q : QT) : Prop := PW cA ad D RX3 wsX3_patch cX3_patch 2 (some .int) 4 pc lv st M Q
abbrev C_X3_patch (cA : Nat → ClassId) (ad : Nat → Nat) (D : va_G) (av : List Value) (M : Mem) (Q : QT) : Prop := PM cA ad D yX3_patch wsX3_patch 4 av M Q
abbrev P_X3_hide (cA : Nat → ClassId) (ad : Nat → Nat) (D : va_G) (pc : Nat) (lv : List (Option Value)) (st : List Value) (M : Mem) (Q : QT) : Prop := PW cA ad D RX3 wsX3_hide cX3_hide 2 (some .int) 4 pc lv st M Q
abbrev C_X3_hide (cA : Nat → ClassId) (ad : Nat → Nat) (D : va_G) (av : List Value) (M : Mem) (Q : QT) : Prop := PM cA ad D yX3_hide wsX3_hide 4 av M Q
abbrev P_X3_collect (cA : Nat → ClassId) (ad : Nat → Nat) (D : va_G) (pc : Nat) (lv : List (Option Value)) (st : List Value) (M : Mem) (Q : QT) : Prop := PW cA ad D RX3 wsX3_collect cX3_collect 2 (some .int) 4 pc lv st M Q
abbrev C_X3_collect (cA : Nat → ClassId) (ad : Nat → Nat) (D : va_G) (av : List Value) (M : Mem) (Q : QT) : Prop := PM cA ad D yX3_collect wsX3_collect 4 av M Q
abbrev P_X3_end (cA : Nat → ClassId) (ad : Nat → Nat) (D : va_G) (pc : Nat) (lv : List (Option Value)) (st : List Value) (M : Mem) (Q : QT) : Prop := PW cA ad D RX3 wsX3_end cX3_end 2 (some .int) 4 pc lv st M Q
abbrev C_X3_end (cA : Nat → ClassId) (ad : Nat → Nat) (D : va_G) (av : List Value) (M : Mem) (Q : QT) : Prop := PM cA ad D yX3_end wsX3_end 4 av M Q
abbrev P_X3_set (cA : Nat → ClassId) (ad : Nat → Nat) (D : va_G) (pc : Nat) (lv : List (Option Value)) (st : List Value) (M : Mem) (Q : QT) : Prop := PW cA ad D RX3 wsX3_set cX3_set 3 (some .int) 4 pc lv st M Q
abbrev C_X3_set (cA : Nat → ClassId) (ad : Nat → Nat) (D : va_G) (av : List Value) (M : Mem) (Q : QT) : Prop := PM cA ad D yX3_set wsX3_set 4 av M Q
abbrev P_X3_smithyOf (cA : Nat → ClassId) (ad : Nat → Nat) (D : va_G) (pc : Nat) (lv : List (Option Value)) (st : List Value) (M : Mem) (Q : QT) : Prop := PW cA ad D RX3 wsX3_smithyOf cX3_smithyOf 4 (some .int) 2 pc lv st M Q
abbrev C_X3_smithyOf (cA : Nat → ClassId) (ad : Nat → Nat) (D : va_G) (av : List Value) (M : Mem) (Q : QT) : Prop := PM cA ad D yX3_smithyOf wsX3_smithyOf 2 av M Q
abbrev P_X3_isFlag (cA : Nat → ClassId) (ad : Nat → Nat) (D : va_G) (pc : Nat) (lv : List (Option Value)) (st : List Value) (M : Mem) (Q : QT) : Prop := PW cA ad D RX3 wsX3_isFlag cX3_isFlag 1 (some .boolean) 0 pc lv st M Q
abbrev C_X3_isFlag (cA : Nat → ClassId) (ad : Nat → Nat) (D : va_G) (av : List Value) (M : Mem) (Q : QT) : Prop := PM cA ad D yX3_isFlag wsX3_isFlag 0 av M Q
abbrev P_X3_why (cA : Nat → ClassId) (ad : Nat → Nat) (D : va_G) (pc : Nat) (lv : List (Option Value)) (st : List Value) (M : Mem) (Q : QT) : Prop := PW cA ad D RX3 wsX3_why cX3_why 4 (some .int) 3 pc lv st M Q
abbrev C_X3_why (cA : Nat → ClassId) (ad : Nat → Nat) (D : va_G) (av : List Value) (M : Mem) (Q : QT) : Prop := PM cA ad D yX3_why wsX3_why 3 av M Q
abbrev P_X3_mend (cA : Nat → ClassId) (ad : Nat → Nat) (D : va_G) (pc : Nat) (lv : List (Option Value)) (st : List Value) (M : Mem) (Q : QT) : Prop := PW cA ad D RX3 wsX3_mend cX3_mend 6 (some .int) 3 pc lv st M Q
abbrev C_X3_mend (cA : Nat → ClassId) (ad : Nat → Nat) (D : va_G) (av : List Value) (M : Mem) (Q : QT) : Prop := PM cA ad D yX3_mend wsX3_mend 3 av M Q
abbrev P_X3_count (cA : Nat → ClassId) (ad : Nat → Nat) (D : va_G) (pc : Nat) (lv : List (Option Value)) (st : List Value) (M : Mem) (Q : QT) : Prop := PW cA ad D RX3 wsX3_count cX3_count 2 (some .int) 2 pc lv st M Q
abbrev C_X3_count (cA : Nat → ClassId) (ad : Nat → Nat) (D : va_G) (av : List Value) (M : Mem) (Q : QT) : Prop := PM cA ad D yX3_count wsX3_count 2 av M Q
abbrev P_J9_abs_0f7a4 (cA : Nat → ClassId) (ad : Nat → Nat) (D : va_G) (pc : Nat) (lv : List (Option Value)) (st : List Value) (M : Mem) (Q : QT) : Prop := PW cA ad D RJ9 wsJ9_abs_0f7a4 cJ9_abs_0f7a4 1 (some .int) 0 pc lv st M Q
abbrev C_J9_abs_0f7a4 (cA : Nat → ClassId) (ad : Nat → Nat) (D : va_G) (av : List Value) (M : Mem) (Q : QT) : Prop := PM cA ad D yJ9_abs_0f7a4 wsJ9_abs_0f7a4 0 av M Q
abbrev P_J9_max_7cf53 (cA : Nat → ClassId) (ad : Nat → Nat) (D : va_G) (pc : Nat) (lv : List (Option Value)) (st : List Value) (M : Mem) (Q : QT) : Prop := PW cA ad D RJ9 wsJ9_max_7cf53 cJ9_max_7cf53 2 (some .int) 0 pc lv st M Q
abbrev C_J9_max_7cf53 (cA : Nat → ClassId) (ad : Nat → Nat) (D : va_G) (av : List Value) (M : Mem) (Q : QT) : Prop := PM cA ad D yJ9_max_7cf53 wsJ9_max_7cf53 0 av M Q
abbrev P_J9_min_7cf53 (cA : Nat → ClassId) (ad : Nat → Nat) (D : va_G) (pc : Nat) (lv : List (Option Value)) (st : List Value) (M : Mem) (Q : QT) : Prop := PW cA ad D RJ9 wsJ9_min_7cf53 cJ9_min_7cf53 2 (some .int) 0 pc lv st M Q
abbrev C_J9_min_7cf53 (cA : Nat → ClassId) (ad : Nat → Nat) (D : va_G) (av : List Value) (M : Mem) (Q : QT) : Prop := PM cA ad D yJ9_min_7cf53 wsJ9_min_7cf53 0 av M Q
abbrev P_L_cell (cA : Nat → ClassId) (ad : Nat → Nat) (D : va_G) (pc : Nat) (lv : List (Option Value)) (st : List Value) (M : Mem) (Q : QT) : Prop := PW cA ad D RL wsL_cell cL_cell 2 (some .int) 0 pc lv st M Q
abbrev C_L_cell (cA : Nat → ClassId) (ad : Nat → Nat) (D : va_G) (av : List Value) (M : Mem) (Q : QT) : Prop := PM cA ad D yL_cell wsL_cell 0 av M Q
abbrev P_L_low (cA : Nat → ClassId) (ad : Nat → Nat) (D : va_G) (pc : Nat) (lv : List (Option Value)) (st : List Value) (M : Mem) (Q : QT) : Prop := PW cA ad D RL wsL_low cL_low 2 (some .int) 0 pc lv st M Q
abbrev C_L_low (cA : Nat → ClassId) (ad : Nat → Nat) (D : va_G) (av : List Value) (M : Mem) (Q : QT) : Prop := PM cA ad D yL_low wsL_low 0 av M Q
abbrev P_L_apart (cA : Nat → ClassId) (ad : Nat → Nat) (D : va_G) (pc : Nat) (lv : List (Option Value)) (st : List Value) (M : Mem) (Q : QT) : Prop := PW cA ad D RL wsL_apart cL_apart 2 (some .int) 0 pc lv st M Q
abbrev C_L_apart (cA : Nat → ClassId) (ad : Nat → Nat) (D : va_G) (av : List Value) (M : Mem) (Q : QT) : Prop := PM cA ad D yL_apart wsL_apart 0 av M Q
abbrev P_L_tens (cA : Nat → ClassId) (ad : Nat → Nat) (D : va_G) (pc : Nat) (lv : List (Option Value)) (st : List Value) (M : Mem) (Q : QT) : Prop := PW cA ad D RL wsL_tens cL_tens 1 (some .int) 0 pc lv st M Q
abbrev C_L_tens (cA : Nat → ClassId) (ad : Nat → Nat) (D : va_G) (av : List Value) (M : Mem) (Q : QT) : Prop := PM cA ad D yL_tens wsL_tens 0 av M Q
abbrev P_L_day (cA : Nat → ClassId) (ad : Nat → Nat) (D : va_G) (pc : Nat) (lv : List (Option Value)) (st : List Value) (M : Mem) (Q : QT) : Prop := PW cA ad D RL wsL_day cL_day 4 none 0 pc lv st M Q
abbrev C_L_day (cA : Nat → ClassId) (ad : Nat → Nat) (D : va_G) (av : List Value) (M : Mem) (Q : QT) : Prop := PM cA ad D yL_day wsL_day 0 av M Q
abbrev P_L_colds (cA : Nat → ClassId) (ad : Nat → Nat) (D : va_G) (pc : Nat) (lv : List (Option Value)) (st : List Value) (M : Mem) (Q : QT) : Prop := PW cA ad D RL wsL_colds cL_colds 4 (some .int) 0 pc lv st M Q
abbrev C_L_colds (cA : Nat → ClassId) (ad : Nat → Nat) (D : va_G) (av : List Value) (M : Mem) (Q : QT) : Prop := PM cA ad D yL_colds wsL_colds 0 av M Q
abbrev P_L_takes (cA : Nat → ClassId) (ad : Nat → Nat) (D : va_G) (pc : Nat) (lv : List (Option Value)) (st : List Value) (M : Mem) (Q : QT) : Prop := PW cA ad D RL wsL_takes cL_takes 3 (some .int) 1 pc lv st M Q
abbrev C_L_takes (cA : Nat → ClassId) (ad : Nat → Nat) (D : va_G) (av : List Value) (M : Mem) (Q : QT) : Prop := PM cA ad D yL_takes wsL_takes 1 av M Q
abbrev P_L_owes (cA : Nat → ClassId) (ad : Nat → Nat) (D : va_G) (pc : Nat) (lv : List (Option Value)) (st : List Value) (M : Mem) (Q : QT) : Prop := PW cA ad D RL wsL_owes cL_owes 4 (some .int) 2 pc lv st M Q
abbrev C_L_owes (cA : Nat → ClassId) (ad : Nat → Nat) (D : va_G) (av : List Value) (M : Mem) (Q : QT) : Prop := PM cA ad D yL_owes wsL_owes 2 av M Q
abbrev P_L_why (cA : Nat → ClassId) (ad : Nat → Nat) (D : va_G) (pc : Nat) (lv : List (Option Value)) (st : List Value) (M : Mem) (Q : QT) : Prop := PW cA ad D RL wsL_why cL_why 5 (some .int) 2 pc lv st M Q
abbrev C_L_why (cA : Nat → ClassId) (ad : Nat → Nat) (D : va_G) (av : List Value) (M : Mem) (Q : QT) : Prop := PM cA ad D yL_why wsL_why 2 av M Q
abbrev P_L_walks (cA : Nat → ClassId) (ad : Nat → Nat) (D : va_G) (pc : Nat) (lv : List (Option Value)) (st : List Value) (M : Mem) (Q : QT) : Prop := PW cA ad D RL wsL_walks cL_walks 3 (some .int) 1 pc lv st M Q
abbrev C_L_walks (cA : Nat → ClassId) (ad : Nat → Nat) (D : va_G) (av : List Value) (M : Mem) (Q : QT) : Prop := PM cA ad D yL_walks wsL_walks 1 av M Q
abbrev P_L_buys (cA : Nat → ClassId) (ad : Nat → Nat) (D : va_G) (pc : Nat) (lv : List (Option Value)) (st : List Value) (M : Mem) (Q : QT) : Prop := PW cA ad D RL wsL_buys cL_buys 2 (some .int) 0 pc lv st M Q
abbrev C_L_buys (cA : Nat → ClassId) (ad : Nat → Nat) (D : va_G) (av : List Value) (M : Mem) (Q : QT) : Prop := PM cA ad D yL_buys wsL_buys 0 av M Q
abbrev P_L_mends (cA : Nat → ClassId) (ad : Nat → Nat) (D : va_G) (pc : Nat) (lv : List (Option Value)) (st : List Value) (M : Mem) (Q : QT) : Prop := PW cA ad D RL wsL_mends cL_mends 5 (some .int) 3 pc lv st M Q
abbrev C_L_mends (cA : Nat → ClassId) (ad : Nat → Nat) (D : va_G) (av : List Value) (M : Mem) (Q : QT) : Prop := PM cA ad D yL_mends wsL_mends 3 av M Q
abbrev P_L_collects (cA : Nat → ClassId) (ad : Nat → Nat) (D : va_G) (pc : Nat) (lv : List (Option Value)) (st : List Value) (M : Mem) (Q : QT) : Prop := PW cA ad D RL wsL_collects cL_collects 4 (some .int) 0 pc lv st M Q
abbrev C_L_collects (cA : Nat → ClassId) (ad : Nat → Nat) (D : va_G) (av : List Value) (M : Mem) (Q : QT) : Prop := PM cA ad D yL_collects wsL_collects 0 av M Q
abbrev P_L_ends (cA : Nat → ClassId) (ad : Nat → Nat) (D : va_G) (pc : Nat) (lv : List (Option Value)) (st : List Value) (M : Mem) (Q : QT) : Prop := PW cA ad D RL wsL_ends cL_ends 5 (some .int) 1 pc lv st M Q
abbrev C_L_ends (cA : Nat → ClassId) (ad : Nat → Nat) (D : va_G) (av : List Value) (M : Mem) (Q : QT) : Prop := PM cA ad D yL_ends wsL_ends 1 av M Q
abbrev P_L_acts (cA : Nat → ClassId) (ad : Nat → Nat) (D : va_G) (pc : Nat) (lv : List (Option Value)) (st : List Value) (M : Mem) (Q : QT) : Prop := PW cA ad D RL wsL_acts cL_acts 9 (some .boolean) 5 pc lv st M Q
abbrev C_L_acts (cA : Nat → ClassId) (ad : Nat → Nat) (D : va_G) (av : List Value) (M : Mem) (Q : QT) : Prop := PM cA ad D yL_acts wsL_acts 5 av M Q
abbrev P_L_areSmithies (cA : Nat → ClassId) (ad : Nat → Nat) (D : va_G) (pc : Nat) (lv : List (Option Value)) (st : List Value) (M : Mem) (Q : QT) : Prop := PW cA ad D RL wsL_areSmithies cL_areSmithies 9 (some .boolean) 4 pc lv st M Q
abbrev C_L_areSmithies (cA : Nat → ClassId) (ad : Nat → Nat) (D : va_G) (av : List Value) (M : Mem) (Q : QT) : Prop := PM cA ad D yL_areSmithies wsL_areSmithies 4 av M Q
abbrev P_L_isSo (cA : Nat → ClassId) (ad : Nat → Nat) (D : va_G) (pc : Nat) (lv : List (Option Value)) (st : List Value) (M : Mem) (Q : QT) : Prop := PW cA ad D RL wsL_isSo cL_isSo 5 (some .boolean) 5 pc lv st M Q
abbrev C_L_isSo (cA : Nat → ClassId) (ad : Nat → Nat) (D : va_G) (av : List Value) (M : Mem) (Q : QT) : Prop := PM cA ad D yL_isSo wsL_isSo 5 av M Q
end
section
/-! ===== leaves ===== -/
section LEAF
variable {cA : Nat → ClassId} {ad : Nat → Nat} {D : va_G} {M : Mem}
set_option maxHeartbeats 4000000 in
set_option maxRecDepth 100000 in
theorem m_X3_tensBegun {v : Int32} : C_X3_tensBegun cA ad D [.int v] M (Ri (tens v) M) := by
  refine PM_of (lv := [some (.int v)]) (by decide +kernel) rfl (Nat.le_of_ble_eq_true rfl) rfl ?_
  refine r_il0 (n := 1) dX3_tensBegun_0 rfl ?_
  refine r_bipush (v := 9) (n := 3) dX3_tensBegun_1 (by decide) rfl ?_
  refine r_iadd (n := 4) dX3_tensBegun_3 rfl ?_
  refine r_bipush (v := 10) (n := 6) dX3_tensBegun_4 (by decide) rfl ?_
  refine r_idiv (n := 7) dX3_tensBegun_6 (by decide) rfl ?_
  exact e_i dX3_tensBegun_7 rfl rfl rfl

set_option maxHeartbeats 4000000 in
set_option maxRecDepth 100000 in
theorem m_X3_hoursOfMend (b : Bool) : C_X3_hoursOfMend cA ad D [.int (bI b)] M (Ri (hM b) M) := by
  refine PM_of (lv := [some (.int (bI b))]) (by decide +kernel) rfl (Nat.le_of_ble_eq_true rfl) rfl ?_
  refine r_il0 (n := 1) dX3_hoursOfMend_0 rfl ?_
  refine r_if_eq (tgt := 8) (n := 4) dX3_hoursOfMend_1 (by decide) rfl (fun c_1 => ?_) (fun c_1 => ?_)
  · refine r_iconst (v := 1) (n := 9) dX3_hoursOfMend_8 (by decide) rfl ?_
    exact e_i dX3_hoursOfMend_9 rfl (by cases b <;> simp_all [hM, bI]) rfl
  · refine r_iconst (v := 3) (n := 5) dX3_hoursOfMend_4 (by decide) rfl ?_
    refine r_goto (tgt := 9) dX3_hoursOfMend_5 (by decide) ?_
    exact e_i dX3_hoursOfMend_9 rfl (by cases b <;> simp_all [hM, bI]) rfl

set_option maxHeartbeats 4000000 in
set_option maxRecDepth 100000 in
theorem m_X3_leakOf {v : Int32} : C_X3_leakOf cA ad D [.int v] M (Ri (v / 10) M) := by
  refine PM_of (lv := [some (.int v)]) (by decide +kernel) rfl (Nat.le_of_ble_eq_true rfl) rfl ?_
  refine r_il0 (n := 1) dX3_leakOf_0 rfl ?_
  refine r_bipush (v := 10) (n := 3) dX3_leakOf_1 (by decide) rfl ?_
  refine r_idiv (n := 4) dX3_leakOf_3 (by decide) rfl ?_
  exact e_i dX3_leakOf_4 rfl rfl rfl

set_option maxHeartbeats 4000000 in
set_option maxRecDepth 100000 in
theorem m_X3_hoursOfWay {v w : Int32} : C_X3_hoursOfWay cA ad D [.int v, .int w] M (Ri (hB v w) M) := by
  refine PM_of (lv := [some (.int v), some (.int w)]) (by decide +kernel) rfl (Nat.le_of_ble_eq_true rfl) rfl ?_
  refine r_il0 (n := 1) dX3_hoursOfWay_0 rfl ?_
  refine r_il1 (n := 2) dX3_hoursOfWay_1 rfl ?_
  refine r_isub (n := 3) dX3_hoursOfWay_2 rfl ?_
  refine r_mabs (n := 6) (by decide) k_X3_hoursOfWay_251 ks_X3_hoursOfWay_abs ki_X3_hoursOfWay_math kc_X3_hoursOfWay_abs (Nat.le_of_ble_eq_true rfl) dX3_hoursOfWay_3 rfl ?_
  refine cS_i (n := 9) (np := 1) (m_X3_tensBegun) gX3_hoursOfWay_X3_tensBegun rfl (by decide +kernel) rfl (by decide) (by decide) dX3_hoursOfWay_6 rfl rfl (Nat.le_of_ble_eq_true rfl) ?_
  exact e_i dX3_hoursOfWay_9 rfl rfl rfl

set_option maxHeartbeats 4000000 in
set_option maxRecDepth 100000 in
theorem m_X3_isFlag {v : Int32} : C_X3_isFlag cA ad D [.int v] M (Ri (if v = 0 ∨ v = 1 then 1 else 0) M) := by
  refine PM_of (lv := [some (.int v)]) (by decide +kernel) rfl (Nat.le_of_ble_eq_true rfl) rfl ?_
  refine r_il0 (n := 1) dX3_isFlag_0 rfl ?_
  refine r_if_eq (tgt := 9) (n := 4) dX3_isFlag_1 (by decide) rfl (fun c_1 => ?_) (fun c_1 => ?_)
  · refine r_iconst (v := 1) (n := 10) dX3_isFlag_9 (by decide) rfl ?_
    refine r_goto (tgt := 14) dX3_isFlag_10 (by decide) ?_
    exact e_z dX3_isFlag_14 rfl (by decide) (by simp_all) rfl
  · refine r_il0 (n := 5) dX3_isFlag_4 rfl ?_
    refine r_iconst (v := 1) (n := 6) dX3_isFlag_5 (by decide) rfl ?_
    refine r_icmp_ne (tgt := 13) (n := 9) dX3_isFlag_6 (by decide) rfl (fun c_6 => ?_) (fun c_6 => ?_)
    · refine r_iconst (v := 0) (n := 14) dX3_isFlag_13 (by decide) rfl ?_
      exact e_z dX3_isFlag_14 rfl (by decide) (by simp_all) rfl
    · refine r_iconst (v := 1) (n := 10) dX3_isFlag_9 (by decide) rfl ?_
      refine r_goto (tgt := 14) dX3_isFlag_10 (by decide) ?_
      exact e_z dX3_isFlag_14 rfl (by decide) (by simp_all) rfl

set_option maxHeartbeats 4000000 in
set_option maxRecDepth 100000 in
theorem m_X2_isCold {p : Nat} (hp : p < 6) {h : Int32} : C_X2_isCold cA ad D [.ref (ad (6 + 10 * p)), .int h] M (Ri (if h < M.1 p 10 then 1 else 0) M) := by
  refine PM_of (lv := [some (.ref (ad (6 + 10 * p))), some (.int h)]) (by decide +kernel) rfl (Nat.le_of_ble_eq_true rfl) rfl ?_
  refine r_il1 (n := 1) dX2_isCold_0 rfl ?_
  refine r_al0 (n := 2) dX2_isCold_1 rfl ?_
  refine g_st_cold (n := 5) (by first | assumption | omega) in_X2_isCold_wsX20 k_X2_isCold_17 dX2_isCold_2 rfl ?_
  refine r_icmp_ge (tgt := 12) (n := 8) dX2_isCold_5 (by decide) rfl (fun c_5 => ?_) (fun c_5 => ?_)
  · refine r_iconst (v := 0) (n := 13) dX2_isCold_12 (by decide) rfl ?_
    exact e_z dX2_isCold_13 rfl (by decide) (by simp_all [Int32.not_le]) rfl
  · refine r_iconst (v := 1) (n := 9) dX2_isCold_8 (by decide) rfl ?_
    refine r_goto (tgt := 13) dX2_isCold_9 (by decide) ?_
    exact e_z dX2_isCold_13 rfl (by decide) (by simp_all [Int32.not_le]) rfl

set_option maxHeartbeats 4000000 in
set_option maxRecDepth 100000 in
theorem m_X1_leatherOfMend {p k : Nat} (hp : p < 6) (hk : k < 8) (b : Bool) : C_X1_leatherOfMend cA ad D [.ref (ad (8 + 10 * p + k)), .int (bI b)] M (Ri (leatherOf (M.1 p) k b) M) := by
  refine PM_of (lv := [some (.ref (ad (8 + 10 * p + k))), some (.int (bI b))]) (by decide +kernel) rfl (Nat.le_of_ble_eq_true rfl) rfl ?_
  refine r_il1 (n := 1) dX1_leatherOfMend_0 rfl ?_
  refine r_if_eq (tgt := 13) (n := 4) dX1_leatherOfMend_1 (by decide) rfl (fun c_1 => ?_) (fun c_1 => ?_)
  · refine r_al0 (n := 14) dX1_leatherOfMend_13 rfl ?_
    refine g_sm_wear (n := 17) (by first | assumption | omega) (by first | assumption | omega) in_X1_leatherOfMend_wsX10 k_X1_leatherOfMend_18 dX1_leatherOfMend_14 rfl ?_
    refine cN_i (n := 20) (np := 1) (m_X3_tensBegun) gX1_leatherOfMend_X3_tensBegun_n36 rfl (fun _ h => h.2.2.1) ki_X1_leatherOfMend_X3_tensBegun ks_X1_leatherOfMend_X3_tensBegun (by decide +kernel) rfl (by decide) (by decide) dX1_leatherOfMend_17 rfl rfl (Nat.le_of_ble_eq_true rfl) ?_
    exact e_i dX1_leatherOfMend_20 rfl (by cases b <;> simp_all [leatherOf, bI]) rfl
  · refine r_iconst (v := 4) (n := 5) dX1_leatherOfMend_4 (by decide) rfl ?_
    refine r_al0 (n := 6) dX1_leatherOfMend_5 rfl ?_
    refine g_sm_size (n := 9) (by first | assumption | omega) (by first | assumption | omega) in_X1_leatherOfMend_wsX10 k_X1_leatherOfMend_15 dX1_leatherOfMend_6 rfl ?_
    refine r_imul (n := 10) dX1_leatherOfMend_9 rfl ?_
    refine r_goto (tgt := 20) dX1_leatherOfMend_10 (by decide) ?_
    exact e_i dX1_leatherOfMend_20 rfl (by cases b <;> simp_all [leatherOf, bI]) rfl

set_option maxHeartbeats 4000000 in
set_option maxRecDepth 100000 in
theorem m_X1_wearBehindMend {p k : Nat} (hp : p < 6) (hk : k < 8) (b : Bool) : C_X1_wearBehindMend cA ad D [.ref (ad (8 + 10 * p + k)), .int (bI b)] M (Ri (wearBM (M.1 p) k b) M) := by
  refine PM_of (lv := [some (.ref (ad (8 + 10 * p + k))), some (.int (bI b))]) (by decide +kernel) rfl (Nat.le_of_ble_eq_true rfl) rfl ?_
  refine r_il1 (n := 1) dX1_wearBehindMend_0 rfl ?_
  refine r_if_eq (tgt := 8) (n := 4) dX1_wearBehindMend_1 (by decide) rfl (fun c_1 => ?_) (fun c_1 => ?_)
  · refine r_al0 (n := 9) dX1_wearBehindMend_8 rfl ?_
    refine g_sm_wear (n := 12) (by first | assumption | omega) (by first | assumption | omega) in_X1_wearBehindMend_wsX10 k_X1_wearBehindMend_18 dX1_wearBehindMend_9 rfl ?_
    refine r_iconst (v := 3) (n := 13) dX1_wearBehindMend_12 (by decide) rfl ?_
    refine r_idiv (n := 14) dX1_wearBehindMend_13 (by decide) rfl ?_
    exact e_i dX1_wearBehindMend_14 rfl (by cases b <;> simp_all [wearBM, bI]) rfl
  · refine r_iconst (v := 0) (n := 5) dX1_wearBehindMend_4 (by decide) rfl ?_
    refine r_goto (tgt := 14) dX1_wearBehindMend_5 (by decide) ?_
    exact e_i dX1_wearBehindMend_14 rfl (by cases b <;> simp_all [wearBM, bI]) rfl

set_option maxHeartbeats 4000000 in
set_option maxRecDepth 100000 in
theorem m_X3_wearBehindDay {v w : Int32} : C_X3_wearBehindDay cA ad D [.int v, .int w] M (Ri (wearD v w) M) := by
  refine PM_of (lv := [some (.int v), some (.int w)]) (by decide +kernel) rfl (Nat.le_of_ble_eq_true rfl) rfl ?_
  refine r_bipush (v := 100) (n := 2) dX3_wearBehindDay_0 (by decide) rfl ?_
  refine r_il0 (n := 3) dX3_wearBehindDay_2 rfl ?_
  refine r_il1 (n := 4) dX3_wearBehindDay_3 rfl ?_
  refine r_iconst (v := 2) (n := 5) dX3_wearBehindDay_4 (by decide) rfl ?_
  refine r_idiv (n := 6) dX3_wearBehindDay_5 (by decide) rfl ?_
  refine r_iadd (n := 7) dX3_wearBehindDay_6 rfl ?_
  refine r_iconst (v := 1) (n := 8) dX3_wearBehindDay_7 (by decide) rfl ?_
  refine r_iadd (n := 9) dX3_wearBehindDay_8 rfl ?_
  refine r_mmin (n := 12) (by decide) k_X3_wearBehindDay_243 ks_X3_wearBehindDay_min ki_X3_wearBehindDay_math kc_X3_wearBehindDay_min (Nat.le_of_ble_eq_true rfl) dX3_wearBehindDay_9 rfl ?_
  exact e_i dX3_wearBehindDay_12 rfl rfl rfl

set_option maxHeartbeats 4000000 in
set_option maxRecDepth 100000 in
theorem m_X3_heatBehindDay {v w : Int32} : C_X3_heatBehindDay cA ad D [.int v, .int w] M (Ri (heatD v w) M) := by
  refine PM_of (lv := [some (.int v), some (.int w), none]) (by decide +kernel) rfl (Nat.le_of_ble_eq_true rfl) rfl ?_
  refine r_il1 (n := 1) dX3_heatBehindDay_0 rfl ?_
  refine cS_i (n := 4) (np := 1) (m_X3_leakOf) gX3_heatBehindDay_X3_leakOf rfl (by decide +kernel) rfl (by decide) (by decide) dX3_heatBehindDay_1 rfl rfl (Nat.le_of_ble_eq_true rfl) ?_
  refine r_is2 (n := 5) (by decide) rfl dX3_heatBehindDay_4 rfl ?_
  refine r_il2 (n := 6) dX3_heatBehindDay_5 rfl ?_
  refine r_if_ne (tgt := 19) (n := 9) dX3_heatBehindDay_6 (by decide) rfl (fun c_6 => ?_) (fun c_6 => ?_)
  · refine r_iconst (v := 0) (n := 20) dX3_heatBehindDay_19 (by decide) rfl ?_
    refine r_il0 (n := 21) dX3_heatBehindDay_20 rfl ?_
    refine r_il2 (n := 22) dX3_heatBehindDay_21 rfl ?_
    refine r_iconst (v := 2) (n := 23) dX3_heatBehindDay_22 (by decide) rfl ?_
    refine r_imul (n := 24) dX3_heatBehindDay_23 rfl ?_
    refine r_isub (n := 25) dX3_heatBehindDay_24 rfl ?_
    refine r_mmax (n := 28) (by decide) k_X3_heatBehindDay_248 ks_X3_heatBehindDay_max ki_X3_heatBehindDay_math kc_X3_heatBehindDay_max (Nat.le_of_ble_eq_true rfl) dX3_heatBehindDay_25 rfl ?_
    exact e_i dX3_heatBehindDay_28 rfl (by simp_all [heatD]) rfl
  · refine r_bipush (v := 100) (n := 11) dX3_heatBehindDay_9 (by decide) rfl ?_
    refine r_il0 (n := 12) dX3_heatBehindDay_11 rfl ?_
    refine r_bipush (v := 10) (n := 14) dX3_heatBehindDay_12 (by decide) rfl ?_
    refine r_iadd (n := 15) dX3_heatBehindDay_14 rfl ?_
    refine r_mmin (n := 18) (by decide) k_X3_heatBehindDay_243 ks_X3_heatBehindDay_min ki_X3_heatBehindDay_math kc_X3_heatBehindDay_min (Nat.le_of_ble_eq_true rfl) dX3_heatBehindDay_15 rfl ?_
    exact e_i dX3_heatBehindDay_18 rfl (by simp_all [heatD]) rfl

end LEAF
end
section
/-! ===== the class's states ===== -/
section STATES
variable {cA : Nat → ClassId} {ad : Nat → Nat} {D : va_G} {M : Mem}
set_option maxHeartbeats 4000000 in
set_option maxRecDepth 100000 in
theorem m_X2_find_s {p k : Nat} (hp : p < 6) {N : Nat} (hN : M.1 p 0 = nI N) (h8 : N ≤ 8) (hk : k < N) : C_X2_find cA ad D [.ref (ad (6 + 10 * p)), .int (nI k)] M (Ra (ad (8 + 10 * p + k)) M) := by
  refine PM_of (lv := [some (.ref (ad (6 + 10 * p))), some (.int (nI k))]) (by decide +kernel) rfl (Nat.le_of_ble_eq_true rfl) rfl ?_
  refine r_il1 (n := 1) dX2_find_0 rfl ?_
  refine r_if_lt (tgt := 21) (n := 4) dX2_find_1 (by decide) rfl (fun c_1 => ?_) (fun c_1 => ?_)
  · exact absurd c_1 (nI_pos (by omega))
  · refine r_il1 (n := 5) dX2_find_4 rfl ?_
    refine r_al0 (n := 6) dX2_find_5 rfl ?_
    refine g_st_smithyCount (n := 9) (by first | assumption | omega) in_X2_find_wsX20 k_X2_find_37 dX2_find_6 rfl ?_
    refine r_icmp_ge (tgt := 21) (n := 12) dX2_find_9 (by decide) rfl (fun c_9 => ?_) (fun c_9 => ?_)
    · exact absurd c_9 (by rw [hN]; exact nI_ge hk (by omega))
    · refine r_il1 (n := 13) dX2_find_12 rfl ?_
      refine r_al0 (n := 14) dX2_find_13 rfl ?_
      refine g_st_smithies (n := 17) (by first | assumption | omega) in_X2_find_wsX20 k_X2_find_11 dX2_find_14 rfl ?_
      refine a_lenSms (n := 18) (by first | assumption | omega) dX2_find_17 rfl ?_
      refine r_icmp_lt (tgt := 23) (n := 21) dX2_find_18 (by decide) rfl (fun c_18 => ?_) (fun c_18 => ?_)
      · refine r_al0 (n := 24) dX2_find_23 rfl ?_
        refine g_st_smithies (n := 27) (by first | assumption | omega) in_X2_find_wsX20 k_X2_find_11 dX2_find_24 rfl ?_
        refine r_il1 (n := 28) dX2_find_27 rfl ?_
        refine a_sms (n := 29) (by first | assumption | omega) rfl (by omega) dX2_find_28 rfl ?_
        exact e_a dX2_find_29 rfl rfl rfl
      · exact absurd c_18 (fun h => h (show nI k < nI 8 from nI_lt (by omega) (by omega)))

set_option maxHeartbeats 4000000 in
set_option maxRecDepth 100000 in
theorem m_X2_find_n {p : Nat} (hp : p < 6) {j : Int32} (hj : ¬ isSm (M.1 p) j) : C_X2_find cA ad D [.ref (ad (6 + 10 * p)), .int j] M (Rn M) := by
  refine PM_of (lv := [some (.ref (ad (6 + 10 * p))), some (.int j)]) (by decide +kernel) rfl (Nat.le_of_ble_eq_true rfl) rfl ?_
  refine r_il1 (n := 1) dX2_find_0 rfl ?_
  refine r_if_lt (tgt := 21) (n := 4) dX2_find_1 (by decide) rfl (fun c_1 => ?_) (fun c_1 => ?_)
  · refine r_null (n := 22) dX2_find_21 rfl ?_
    exact e_n dX2_find_22 rfl rfl
  · refine r_il1 (n := 5) dX2_find_4 rfl ?_
    refine r_al0 (n := 6) dX2_find_5 rfl ?_
    refine g_st_smithyCount (n := 9) (by first | assumption | omega) in_X2_find_wsX20 k_X2_find_37 dX2_find_6 rfl ?_
    refine r_icmp_ge (tgt := 21) (n := 12) dX2_find_9 (by decide) rfl (fun c_9 => ?_) (fun c_9 => ?_)
    · refine r_null (n := 22) dX2_find_21 rfl ?_
      exact e_n dX2_find_22 rfl rfl
    · exact absurd ⟨c_1, Int32.not_le.mp c_9⟩ hj

set_option maxHeartbeats 4000000 in
set_option maxRecDepth 100000 in
theorem m_X1_copyFrom {p k q i : Nat} (hp : p < 6) (hk : k < 8) (hq : q < 6) (hi : i < 8) (hpq : q ≠ p) : C_X1_copyFrom cA ad D [.ref (ad (8 + 10 * p + k)), .ref (ad (8 + 10 * q + i))] M (Rv (setp M p (upd (upd (upd (upd (upd (upd (upd (upd (M.1 p) (14 + 8 * k) (M.1 q (14 + 8 * i))) (14 + 8 * k + 1) (M.1 q (14 + 8 * i + 1))) (14 + 8 * k + 2) (M.1 q (14 + 8 * i + 2))) (14 + 8 * k + 3) (M.1 q (14 + 8 * i + 3))) (14 + 8 * k + 4) (M.1 q (14 + 8 * i + 4))) (14 + 8 * k + 5) (M.1 q (14 + 8 * i + 5))) (14 + 8 * k + 6) (M.1 q (14 + 8 * i + 6))) (14 + 8 * k + 7) (M.1 q (14 + 8 * i + 7))))) := by
  refine PM_of (lv := [some (.ref (ad (8 + 10 * p + k))), some (.ref (ad (8 + 10 * q + i)))]) (by decide +kernel) rfl (Nat.le_of_ble_eq_true rfl) rfl ?_
  refine r_al0 (n := 1) dX1_copyFrom_0 rfl ?_
  refine r_al1 (n := 2) dX1_copyFrom_1 rfl ?_
  refine g_sm_mile (n := 5) (by first | assumption | omega) (by first | assumption | omega) in_X1_copyFrom_wsX10 k_X1_copyFrom_9 dX1_copyFrom_2 rfl ?_
  refine p_sm_mile (n := 8) (by first | assumption | omega) (by first | assumption | omega) in_X1_copyFrom_wsX10 k_X1_copyFrom_9 dX1_copyFrom_5 rfl ?_
  refine r_al0 (n := 9) dX1_copyFrom_8 rfl ?_
  refine r_al1 (n := 10) dX1_copyFrom_9 rfl ?_
  refine g_sm_size (n := 13) (by first | assumption | omega) (by first | assumption | omega) in_X1_copyFrom_wsX10 k_X1_copyFrom_15 dX1_copyFrom_10 rfl ?_
  refine p_sm_size (n := 16) (by first | assumption | omega) (by first | assumption | omega) in_X1_copyFrom_wsX10 k_X1_copyFrom_15 dX1_copyFrom_13 rfl ?_
  refine r_al0 (n := 17) dX1_copyFrom_16 rfl ?_
  refine r_al1 (n := 18) dX1_copyFrom_17 rfl ?_
  refine g_sm_wear (n := 21) (by first | assumption | omega) (by first | assumption | omega) in_X1_copyFrom_wsX10 k_X1_copyFrom_18 dX1_copyFrom_18 rfl ?_
  refine p_sm_wear (n := 24) (by first | assumption | omega) (by first | assumption | omega) in_X1_copyFrom_wsX10 k_X1_copyFrom_18 dX1_copyFrom_21 rfl ?_
  refine r_al0 (n := 25) dX1_copyFrom_24 rfl ?_
  refine r_al1 (n := 26) dX1_copyFrom_25 rfl ?_
  refine g_sm_heat (n := 29) (by first | assumption | omega) (by first | assumption | omega) in_X1_copyFrom_wsX10 k_X1_copyFrom_21 dX1_copyFrom_26 rfl ?_
  refine p_sm_heat (n := 32) (by first | assumption | omega) (by first | assumption | omega) in_X1_copyFrom_wsX10 k_X1_copyFrom_21 dX1_copyFrom_29 rfl ?_
  refine r_al0 (n := 33) dX1_copyFrom_32 rfl ?_
  refine r_al1 (n := 34) dX1_copyFrom_33 rfl ?_
  refine g_sm_coldDays (n := 37) (by first | assumption | omega) (by first | assumption | omega) in_X1_copyFrom_wsX10 k_X1_copyFrom_24 dX1_copyFrom_34 rfl ?_
  refine p_sm_coldDays (n := 40) (by first | assumption | omega) (by first | assumption | omega) in_X1_copyFrom_wsX10 k_X1_copyFrom_24 dX1_copyFrom_37 rfl ?_
  refine r_al0 (n := 41) dX1_copyFrom_40 rfl ?_
  refine r_al1 (n := 42) dX1_copyFrom_41 rfl ?_
  refine g_sm_debt (n := 45) (by first | assumption | omega) (by first | assumption | omega) in_X1_copyFrom_wsX10 k_X1_copyFrom_27 dX1_copyFrom_42 rfl ?_
  refine p_sm_debt (n := 48) (by first | assumption | omega) (by first | assumption | omega) in_X1_copyFrom_wsX10 k_X1_copyFrom_27 dX1_copyFrom_45 rfl ?_
  refine r_al0 (n := 49) dX1_copyFrom_48 rfl ?_
  refine r_al1 (n := 50) dX1_copyFrom_49 rfl ?_
  refine g_sm_paid (n := 53) (by first | assumption | omega) (by first | assumption | omega) in_X1_copyFrom_wsX10 k_X1_copyFrom_30 dX1_copyFrom_50 rfl ?_
  refine p_sm_paid (n := 56) (by first | assumption | omega) (by first | assumption | omega) in_X1_copyFrom_wsX10 k_X1_copyFrom_30 dX1_copyFrom_53 rfl ?_
  refine r_al0 (n := 57) dX1_copyFrom_56 rfl ?_
  refine r_al1 (n := 58) dX1_copyFrom_57 rfl ?_
  refine g_sm_mends (n := 61) (by first | assumption | omega) (by first | assumption | omega) in_X1_copyFrom_wsX10 k_X1_copyFrom_33 dX1_copyFrom_58 rfl ?_
  refine p_sm_mends (n := 64) (by first | assumption | omega) (by first | assumption | omega) in_X1_copyFrom_wsX10 k_X1_copyFrom_33 dX1_copyFrom_61 rfl ?_
  exact e_v dX1_copyFrom_64 rfl (by simp only [mput_s, setp_at, setp_2, setp_ne _ _ hpq])

set_option maxHeartbeats 4000000 in
set_option maxRecDepth 100000 in
theorem m_X1_beginAt {p k : Nat} (hp : p < 6) (hk : k < 8) {v w : Int32} : C_X1_beginAt cA ad D [.ref (ad (8 + 10 * p + k)), .int v, .int w] M (Rv (setp M p (upd (upd (upd (upd (upd (upd (upd (upd (M.1 p) (14 + 8 * k) v) (14 + 8 * k + 1) w) (14 + 8 * k + 2) 0) (14 + 8 * k + 3) 100) (14 + 8 * k + 4) 0) (14 + 8 * k + 5) 0) (14 + 8 * k + 6) 0) (14 + 8 * k + 7) 0))) := by
  refine PM_of (lv := [some (.ref (ad (8 + 10 * p + k))), some (.int v), some (.int w)]) (by decide +kernel) rfl (Nat.le_of_ble_eq_true rfl) rfl ?_
  refine r_al0 (n := 1) dX1_beginAt_0 rfl ?_
  refine r_il1 (n := 2) dX1_beginAt_1 rfl ?_
  refine p_sm_mile (n := 5) (by first | assumption | omega) (by first | assumption | omega) in_X1_beginAt_wsX10 k_X1_beginAt_9 dX1_beginAt_2 rfl ?_
  refine r_al0 (n := 6) dX1_beginAt_5 rfl ?_
  refine r_il2 (n := 7) dX1_beginAt_6 rfl ?_
  refine p_sm_size (n := 10) (by first | assumption | omega) (by first | assumption | omega) in_X1_beginAt_wsX10 k_X1_beginAt_15 dX1_beginAt_7 rfl ?_
  refine r_al0 (n := 11) dX1_beginAt_10 rfl ?_
  refine r_iconst (v := 0) (n := 12) dX1_beginAt_11 (by decide) rfl ?_
  refine p_sm_wear (n := 15) (by first | assumption | omega) (by first | assumption | omega) in_X1_beginAt_wsX10 k_X1_beginAt_18 dX1_beginAt_12 rfl ?_
  refine r_al0 (n := 16) dX1_beginAt_15 rfl ?_
  refine r_bipush (v := 100) (n := 18) dX1_beginAt_16 (by decide) rfl ?_
  refine p_sm_heat (n := 21) (by first | assumption | omega) (by first | assumption | omega) in_X1_beginAt_wsX10 k_X1_beginAt_21 dX1_beginAt_18 rfl ?_
  refine r_al0 (n := 22) dX1_beginAt_21 rfl ?_
  refine r_iconst (v := 0) (n := 23) dX1_beginAt_22 (by decide) rfl ?_
  refine p_sm_coldDays (n := 26) (by first | assumption | omega) (by first | assumption | omega) in_X1_beginAt_wsX10 k_X1_beginAt_24 dX1_beginAt_23 rfl ?_
  refine r_al0 (n := 27) dX1_beginAt_26 rfl ?_
  refine r_iconst (v := 0) (n := 28) dX1_beginAt_27 (by decide) rfl ?_
  refine p_sm_debt (n := 31) (by first | assumption | omega) (by first | assumption | omega) in_X1_beginAt_wsX10 k_X1_beginAt_27 dX1_beginAt_28 rfl ?_
  refine r_al0 (n := 32) dX1_beginAt_31 rfl ?_
  refine r_iconst (v := 0) (n := 33) dX1_beginAt_32 (by decide) rfl ?_
  refine p_sm_paid (n := 36) (by first | assumption | omega) (by first | assumption | omega) in_X1_beginAt_wsX10 k_X1_beginAt_30 dX1_beginAt_33 rfl ?_
  refine r_al0 (n := 37) dX1_beginAt_36 rfl ?_
  refine r_iconst (v := 0) (n := 38) dX1_beginAt_37 (by decide) rfl ?_
  refine p_sm_mends (n := 41) (by first | assumption | omega) (by first | assumption | omega) in_X1_beginAt_wsX10 k_X1_beginAt_33 dX1_beginAt_38 rfl ?_
  exact e_v dX1_beginAt_41 rfl (by simp only [mput_s, setp_at, setp_2])

set_option maxHeartbeats 4000000 in
set_option maxRecDepth 100000 in
theorem l_X2_copyFrom {p q : Nat} (hp : p < 6) (hq : q < 6) (hpq : q ≠ p) {N : Nat} (hN : M.1 q 0 = nI N) (h8 : N ≤ 8) (v : Vec) : ∀ (m i : Nat), i + m = N →
    P_X2_copyFrom cA ad D 114 [some (.ref (ad (6 + 10 * p))), some (.ref (ad (6 + 10 * q))), some (.int (nI i)), none, none] [] (setp M p (copyU v (M.1 q) i)) (Rv (setp M p (copyU v (M.1 q) N))) := by
  have hc : ∀ i, copyU v (M.1 q) i 0 = nI N := fun i => by rw [show copyU v (M.1 q) i 0 = M.1 q 0 by simp [copyU]]; exact hN
  intro m
  induction m with
  | zero =>
    intro i hi
    have : i = N := by omega
    subst this
    refine r_il2 (n := 115) dX2_copyFrom_114 rfl ?_
    refine r_al0 (n := 116) dX2_copyFrom_115 rfl ?_
    refine g_st_smithyCount (n := 119) (by first | assumption | omega) in_X2_copyFrom_wsX20 k_X2_copyFrom_37 dX2_copyFrom_116 rfl ?_
    refine r_icmp_ge (tgt := 156) (n := 122) dX2_copyFrom_119 (by decide) rfl (fun c_119 => ?_) (fun c_119 => ?_)
    · exact e_v dX2_copyFrom_156 rfl rfl
    · exact absurd c_119 (fun h => h (by rw [setp_at, hc]; exact nI_le (Nat.le_refl _) (by omega)))
  | succ m ih =>
    intro i hi
    refine r_il2 (n := 115) dX2_copyFrom_114 rfl ?_
    refine r_al0 (n := 116) dX2_copyFrom_115 rfl ?_
    refine g_st_smithyCount (n := 119) (by first | assumption | omega) in_X2_copyFrom_wsX20 k_X2_copyFrom_37 dX2_copyFrom_116 rfl ?_
    refine r_icmp_ge (tgt := 156) (n := 122) dX2_copyFrom_119 (by decide) rfl (fun c_119 => ?_) (fun c_119 => ?_)
    · exact absurd c_119 (by rw [setp_at, hc]; exact nI_ge (by omega) (by omega))
    · refine r_al0 (n := 123) dX2_copyFrom_122 rfl ?_
      refine r_il2 (n := 124) dX2_copyFrom_123 rfl ?_
      refine cV_a (n := 127) (np := 1) (m_X2_find_s (N := N) (k := i) (by first | assumption | omega) (by rw [setp_at]; exact hc i) h8 (by omega)) gX2_copyFrom_X2_find rfl (by decide +kernel) rfl (by decide) (by decide) (by omega) (cell_st cA ad _ (by first | assumption | omega)) rfl dX2_copyFrom_124 rfl rfl (Nat.le_of_ble_eq_true rfl) ?_
      refine r_as3 (n := 128) (by decide) rfl dX2_copyFrom_127 rfl ?_
      refine r_al1 (n := 129) dX2_copyFrom_128 rfl ?_
      refine r_il2 (n := 130) dX2_copyFrom_129 rfl ?_
      refine cV_a (n := 133) (np := 1) (m_X2_find_s (N := N) (k := i) (by first | assumption | omega) (by rw [setp_ne _ _ hpq]; exact hN) h8 (by omega)) gX2_copyFrom_X2_find rfl (by decide +kernel) rfl (by decide) (by decide) (by omega) (cell_st cA ad _ (by first | assumption | omega)) rfl dX2_copyFrom_130 rfl rfl (Nat.le_of_ble_eq_true rfl) ?_
      refine r_as4 (n := 135) (by decide) rfl dX2_copyFrom_133 rfl ?_
      refine r_al3 (n := 136) dX2_copyFrom_135 rfl ?_
      refine r_ifnull (n := 139) dX2_copyFrom_136 rfl ?_
      refine r_al4 (n := 141) dX2_copyFrom_139 rfl ?_
      refine r_ifnull (n := 144) dX2_copyFrom_141 rfl ?_
      refine r_al3 (n := 145) dX2_copyFrom_144 rfl ?_
      refine r_al4 (n := 147) dX2_copyFrom_145 rfl ?_
      refine cV_v (n := 150) (np := 1) (m_X1_copyFrom (by first | assumption | omega) (by omega) (by first | assumption | omega) (by omega) hpq) gX2_copyFrom_X1_copyFrom rfl (by decide +kernel) rfl (by decide) (by decide) (by omega) (cell_sm cA ad _ (by first | assumption | omega) (by omega)) rfl dX2_copyFrom_147 rfl rfl (Nat.le_of_ble_eq_true rfl) ?_
      simp only [setp_at, setp_2, setp_ne _ _ hpq]
      rw [copyU_s]
      refine r_ii2 (n := 153) (by decide) rfl dX2_copyFrom_150 (nI_inc _) rfl ?_
      refine r_goto (tgt := 114) dX2_copyFrom_153 (by decide) ?_
      refine r_dr3 ?_
      refine r_dr4 ?_
      exact ih (i + 1) (by omega)

set_option maxHeartbeats 4000000 in
set_option maxRecDepth 100000 in
theorem m_X2_copyFrom {p q : Nat} (hp : p < 6) (hq : q < 6) (hpq : q ≠ p) {N : Nat} (hN : M.1 q 0 = nI N) (h8 : N ≤ 8) : C_X2_copyFrom cA ad D [.ref (ad (6 + 10 * p)), .ref (ad (6 + 10 * q))] M (Rv (setp M p (copyU (M.1 p) (M.1 q) N))) := by
  refine PM_of (lv := [some (.ref (ad (6 + 10 * p))), some (.ref (ad (6 + 10 * q))), none, none, none]) (by decide +kernel) rfl (Nat.le_of_ble_eq_true rfl) rfl ?_
  refine r_al0 (n := 1) dX2_copyFrom_0 rfl ?_
  refine r_al1 (n := 2) dX2_copyFrom_1 rfl ?_
  refine g_st_smithyCount (n := 5) (by first | assumption | omega) in_X2_copyFrom_wsX20 k_X2_copyFrom_37 dX2_copyFrom_2 rfl ?_
  refine p_st_smithyCount (n := 8) (by first | assumption | omega) in_X2_copyFrom_wsX20 k_X2_copyFrom_37 dX2_copyFrom_5 rfl ?_
  refine r_al0 (n := 9) dX2_copyFrom_8 rfl ?_
  refine r_al1 (n := 10) dX2_copyFrom_9 rfl ?_
  refine g_st_cold (n := 13) (by first | assumption | omega) in_X2_copyFrom_wsX20 k_X2_copyFrom_17 dX2_copyFrom_10 rfl ?_
  refine p_st_cold (n := 16) (by first | assumption | omega) in_X2_copyFrom_wsX20 k_X2_copyFrom_17 dX2_copyFrom_13 rfl ?_
  refine r_al0 (n := 17) dX2_copyFrom_16 rfl ?_
  refine r_al1 (n := 18) dX2_copyFrom_17 rfl ?_
  refine g_st_hours (n := 21) (by first | assumption | omega) in_X2_copyFrom_wsX20 k_X2_copyFrom_21 dX2_copyFrom_18 rfl ?_
  refine p_st_hours (n := 24) (by first | assumption | omega) in_X2_copyFrom_wsX20 k_X2_copyFrom_21 dX2_copyFrom_21 rfl ?_
  refine r_al0 (n := 25) dX2_copyFrom_24 rfl ?_
  refine r_al1 (n := 26) dX2_copyFrom_25 rfl ?_
  refine g_st_rate (n := 29) (by first | assumption | omega) in_X2_copyFrom_wsX20 k_X2_copyFrom_24 dX2_copyFrom_26 rfl ?_
  refine p_st_rate (n := 32) (by first | assumption | omega) in_X2_copyFrom_wsX20 k_X2_copyFrom_24 dX2_copyFrom_29 rfl ?_
  refine r_al0 (n := 33) dX2_copyFrom_32 rfl ?_
  refine r_al1 (n := 34) dX2_copyFrom_33 rfl ?_
  refine g_st_patience (n := 37) (by first | assumption | omega) in_X2_copyFrom_wsX20 k_X2_copyFrom_27 dX2_copyFrom_34 rfl ?_
  refine p_st_patience (n := 40) (by first | assumption | omega) in_X2_copyFrom_wsX20 k_X2_copyFrom_27 dX2_copyFrom_37 rfl ?_
  refine r_al0 (n := 41) dX2_copyFrom_40 rfl ?_
  refine r_al1 (n := 42) dX2_copyFrom_41 rfl ?_
  refine g_st_day (n := 45) (by first | assumption | omega) in_X2_copyFrom_wsX20 k_X2_copyFrom_40 dX2_copyFrom_42 rfl ?_
  refine p_st_day (n := 48) (by first | assumption | omega) in_X2_copyFrom_wsX20 k_X2_copyFrom_40 dX2_copyFrom_45 rfl ?_
  refine r_al0 (n := 49) dX2_copyFrom_48 rfl ?_
  refine r_al1 (n := 50) dX2_copyFrom_49 rfl ?_
  refine g_st_mile (n := 53) (by first | assumption | omega) in_X2_copyFrom_wsX20 k_X2_copyFrom_43 dX2_copyFrom_50 rfl ?_
  refine p_st_mile (n := 56) (by first | assumption | omega) in_X2_copyFrom_wsX20 k_X2_copyFrom_43 dX2_copyFrom_53 rfl ?_
  refine r_al0 (n := 57) dX2_copyFrom_56 rfl ?_
  refine r_al1 (n := 58) dX2_copyFrom_57 rfl ?_
  refine g_st_hoursLeft (n := 61) (by first | assumption | omega) in_X2_copyFrom_wsX20 k_X2_copyFrom_30 dX2_copyFrom_58 rfl ?_
  refine p_st_hoursLeft (n := 64) (by first | assumption | omega) in_X2_copyFrom_wsX20 k_X2_copyFrom_30 dX2_copyFrom_61 rfl ?_
  refine r_al0 (n := 65) dX2_copyFrom_64 rfl ?_
  refine r_al1 (n := 66) dX2_copyFrom_65 rfl ?_
  refine g_st_leather (n := 69) (by first | assumption | omega) in_X2_copyFrom_wsX20 k_X2_copyFrom_46 dX2_copyFrom_66 rfl ?_
  refine p_st_leather (n := 72) (by first | assumption | omega) in_X2_copyFrom_wsX20 k_X2_copyFrom_46 dX2_copyFrom_69 rfl ?_
  refine r_al0 (n := 73) dX2_copyFrom_72 rfl ?_
  refine r_al1 (n := 74) dX2_copyFrom_73 rfl ?_
  refine g_st_money (n := 77) (by first | assumption | omega) in_X2_copyFrom_wsX20 k_X2_copyFrom_33 dX2_copyFrom_74 rfl ?_
  refine p_st_money (n := 80) (by first | assumption | omega) in_X2_copyFrom_wsX20 k_X2_copyFrom_33 dX2_copyFrom_77 rfl ?_
  refine r_al0 (n := 81) dX2_copyFrom_80 rfl ?_
  refine r_al1 (n := 82) dX2_copyFrom_81 rfl ?_
  refine g_st_paidForLeather (n := 85) (by first | assumption | omega) in_X2_copyFrom_wsX20 k_X2_copyFrom_49 dX2_copyFrom_82 rfl ?_
  refine p_st_paidForLeather (n := 88) (by first | assumption | omega) in_X2_copyFrom_wsX20 k_X2_copyFrom_49 dX2_copyFrom_85 rfl ?_
  refine r_al0 (n := 89) dX2_copyFrom_88 rfl ?_
  refine r_al1 (n := 90) dX2_copyFrom_89 rfl ?_
  refine g_st_owedForMends (n := 93) (by first | assumption | omega) in_X2_copyFrom_wsX20 k_X2_copyFrom_52 dX2_copyFrom_90 rfl ?_
  refine p_st_owedForMends (n := 96) (by first | assumption | omega) in_X2_copyFrom_wsX20 k_X2_copyFrom_52 dX2_copyFrom_93 rfl ?_
  refine r_al0 (n := 97) dX2_copyFrom_96 rfl ?_
  refine r_al1 (n := 98) dX2_copyFrom_97 rfl ?_
  refine g_st_longestCold (n := 101) (by first | assumption | omega) in_X2_copyFrom_wsX20 k_X2_copyFrom_55 dX2_copyFrom_98 rfl ?_
  refine p_st_longestCold (n := 104) (by first | assumption | omega) in_X2_copyFrom_wsX20 k_X2_copyFrom_55 dX2_copyFrom_101 rfl ?_
  refine r_al0 (n := 105) dX2_copyFrom_104 rfl ?_
  refine r_al1 (n := 106) dX2_copyFrom_105 rfl ?_
  refine g_st_milesWalked (n := 109) (by first | assumption | omega) in_X2_copyFrom_wsX20 k_X2_copyFrom_58 dX2_copyFrom_106 rfl ?_
  refine p_st_milesWalked (n := 112) (by first | assumption | omega) in_X2_copyFrom_wsX20 k_X2_copyFrom_58 dX2_copyFrom_109 rfl ?_
  refine r_iconst (v := 0) (n := 113) dX2_copyFrom_112 (by decide) rfl ?_
  refine r_is2 (n := 114) (by decide) rfl dX2_copyFrom_113 rfl ?_
  simp only [mput_s, setp_at, setp_2, setp_ne _ _ hpq]
  rw [copyU_0]
  exact l_X2_copyFrom hp hq hpq hN h8 (M.1 p) N 0 (by omega)

set_option maxHeartbeats 4000000 in
set_option maxRecDepth 100000 in
theorem m_X2_walkTo {p : Nat} (hp : p < 6) {v : Int32} : C_X2_walkTo cA ad D [.ref (ad (6 + 10 * p)), .int v] M (Ri (walkS (M.1 p) v).1 (setp M p (walkS (M.1 p) v).2)) := by
  refine PM_of (lv := [some (.ref (ad (6 + 10 * p))), some (.int v), none]) (by decide +kernel) rfl (Nat.le_of_ble_eq_true rfl) rfl ?_
  refine r_il1 (n := 1) dX2_walkTo_0 rfl ?_
  refine r_if_lt (tgt := 10) (n := 4) dX2_walkTo_1 (by decide) rfl (fun c_1 => ?_) (fun c_1 => ?_)
  · refine r_ldc (n := 12) dX2_walkTo_10 k_X2_walkTo_69 rfl ?_
    exact e_i dX2_walkTo_12 rfl (by simp only [walkS, *, if_true, if_false, ite_true, ite_false]; try simp (disch := omega) only [mput_s, setp_at, setp_2, setp_r, upd_at, upd_ne]) (by simp only [walkS, *, if_true, if_false]; first | rw [setp_self] | (simp (disch := omega) only [mput_s, setp_at, setp_2, setp_r, upd_at, upd_ne]; rfl))
  · refine r_il1 (n := 5) dX2_walkTo_4 rfl ?_
    refine r_bipush (v := 99) (n := 7) dX2_walkTo_5 (by decide) rfl ?_
    refine r_icmp_le (tgt := 13) (n := 10) dX2_walkTo_7 (by decide) rfl (fun c_7 => ?_) (fun c_7 => ?_)
    · refine r_al0 (n := 14) dX2_walkTo_13 rfl ?_
      refine g_st_mile (n := 17) (by first | assumption | omega) in_X2_walkTo_wsX20 k_X2_walkTo_43 dX2_walkTo_14 rfl ?_
      refine r_il1 (n := 18) dX2_walkTo_17 rfl ?_
      refine cN_i (n := 21) (np := 2) (m_X3_hoursOfWay) gX2_walkTo_X3_hoursOfWay_n75 rfl (fun _ h => h.1) ki_X2_walkTo_X3_hoursOfWay ks_X2_walkTo_X3_hoursOfWay (by decide +kernel) rfl (by decide) (by decide) dX2_walkTo_18 rfl rfl (Nat.le_of_ble_eq_true rfl) ?_
      refine r_is2 (n := 22) (by decide) rfl dX2_walkTo_21 rfl ?_
      refine r_il2 (n := 23) dX2_walkTo_22 rfl ?_
      refine r_al0 (n := 24) dX2_walkTo_23 rfl ?_
      refine g_st_hoursLeft (n := 27) (by first | assumption | omega) in_X2_walkTo_wsX20 k_X2_walkTo_30 dX2_walkTo_24 rfl ?_
      refine r_icmp_le (tgt := 33) (n := 30) dX2_walkTo_27 (by decide) rfl (fun c_27 => ?_) (fun c_27 => ?_)
      · refine r_al0 (n := 34) dX2_walkTo_33 rfl ?_
        refine r_dup (n := 35) dX2_walkTo_34 rfl rfl ?_
        refine g_st_hoursLeft (n := 38) (by first | assumption | omega) in_X2_walkTo_wsX20 k_X2_walkTo_30 dX2_walkTo_35 rfl ?_
        refine r_il2 (n := 39) dX2_walkTo_38 rfl ?_
        refine r_isub (n := 40) dX2_walkTo_39 rfl ?_
        refine p_st_hoursLeft (n := 43) (by first | assumption | omega) in_X2_walkTo_wsX20 k_X2_walkTo_30 dX2_walkTo_40 rfl ?_
        refine r_al0 (n := 44) dX2_walkTo_43 rfl ?_
        refine r_dup (n := 45) dX2_walkTo_44 rfl rfl ?_
        refine g_st_milesWalked (n := 48) (by first | assumption | omega) in_X2_walkTo_wsX20 k_X2_walkTo_58 dX2_walkTo_45 rfl ?_
        refine r_il1 (n := 49) dX2_walkTo_48 rfl ?_
        refine r_al0 (n := 50) dX2_walkTo_49 rfl ?_
        refine g_st_mile (n := 53) (by first | assumption | omega) in_X2_walkTo_wsX20 k_X2_walkTo_43 dX2_walkTo_50 rfl ?_
        refine r_isub (n := 54) dX2_walkTo_53 rfl ?_
        refine r_mabs (n := 57) (by decide) k_X2_walkTo_80 ks_X2_walkTo_abs ki_X2_walkTo_math kc_X2_walkTo_abs (Nat.le_of_ble_eq_true rfl) dX2_walkTo_54 rfl ?_
        refine r_iadd (n := 58) dX2_walkTo_57 rfl ?_
        refine p_st_milesWalked (n := 61) (by first | assumption | omega) in_X2_walkTo_wsX20 k_X2_walkTo_58 dX2_walkTo_58 rfl ?_
        refine r_al0 (n := 62) dX2_walkTo_61 rfl ?_
        refine r_il1 (n := 63) dX2_walkTo_62 rfl ?_
        refine p_st_mile (n := 66) (by first | assumption | omega) in_X2_walkTo_wsX20 k_X2_walkTo_43 dX2_walkTo_63 rfl ?_
        refine r_al0 (n := 67) dX2_walkTo_66 rfl ?_
        refine g_st_hoursLeft (n := 70) (by first | assumption | omega) in_X2_walkTo_wsX20 k_X2_walkTo_30 dX2_walkTo_67 rfl ?_
        exact e_i dX2_walkTo_70 rfl (by simp only [walkS, *, if_true, if_false, ite_true, ite_false]; try simp (disch := omega) only [mput_s, setp_at, setp_2, setp_r, upd_at, upd_ne]) (by simp only [walkS, *, if_true, if_false]; first | rw [setp_self] | (simp (disch := omega) only [mput_s, setp_at, setp_2, setp_r, upd_at, upd_ne]; rfl))
      · refine r_ldc (n := 32) dX2_walkTo_30 k_X2_walkTo_79 rfl ?_
        exact e_i dX2_walkTo_32 rfl (by simp only [walkS, *, if_true, if_false, ite_true, ite_false]; try simp (disch := omega) only [mput_s, setp_at, setp_2, setp_r, upd_at, upd_ne]) (by simp only [walkS, *, if_true, if_false]; first | rw [setp_self] | (simp (disch := omega) only [mput_s, setp_at, setp_2, setp_r, upd_at, upd_ne]; rfl))
    · refine r_ldc (n := 12) dX2_walkTo_10 k_X2_walkTo_69 rfl ?_
      exact e_i dX2_walkTo_12 rfl (by simp only [walkS, *, if_true, if_false, ite_true, ite_false]; try simp (disch := omega) only [mput_s, setp_at, setp_2, setp_r, upd_at, upd_ne]) (by simp only [walkS, *, if_true, if_false]; first | rw [setp_self] | (simp (disch := omega) only [mput_s, setp_at, setp_2, setp_r, upd_at, upd_ne]; rfl))

set_option maxHeartbeats 4000000 in
set_option maxRecDepth 100000 in
theorem m_X2_buyLeather {p : Nat} (hp : p < 6) {v : Int32} : C_X2_buyLeather cA ad D [.ref (ad (6 + 10 * p)), .int v] M (Ri (buyS (M.1 p) v).1 (setp M p (buyS (M.1 p) v).2)) := by
  refine PM_of (lv := [some (.ref (ad (6 + 10 * p))), some (.int v), none]) (by decide +kernel) rfl (Nat.le_of_ble_eq_true rfl) rfl ?_
  refine r_il1 (n := 1) dX2_buyLeather_0 rfl ?_
  refine r_iconst (v := 1) (n := 2) dX2_buyLeather_1 (by decide) rfl ?_
  refine r_icmp_lt (tgt := 12) (n := 5) dX2_buyLeather_2 (by decide) rfl (fun c_2 => ?_) (fun c_2 => ?_)
  · refine r_ldc (n := 14) dX2_buyLeather_12 k_X2_buyLeather_69 rfl ?_
    exact e_i dX2_buyLeather_14 rfl (by simp only [buyS, *, if_true, if_false]; try simp (disch := omega) only [mput_s, setp_at, setp_2, setp_r, upd_at, upd_ne]) (by simp only [buyS, *, if_true, if_false]; first | rw [setp_self] | (simp (disch := omega) only [mput_s, setp_at, setp_2, setp_r, upd_at, upd_ne]; rfl))
  · refine r_il1 (n := 6) dX2_buyLeather_5 rfl ?_
    refine r_sipush (v := 999) (n := 9) dX2_buyLeather_6 (by decide) rfl ?_
    refine r_icmp_le (tgt := 15) (n := 12) dX2_buyLeather_9 (by decide) rfl (fun c_9 => ?_) (fun c_9 => ?_)
    · refine r_al0 (n := 16) dX2_buyLeather_15 rfl ?_
      refine g_st_mile (n := 19) (by first | assumption | omega) in_X2_buyLeather_wsX20 k_X2_buyLeather_43 dX2_buyLeather_16 rfl ?_
      refine r_if_eq (tgt := 25) (n := 22) dX2_buyLeather_19 (by decide) rfl (fun c_19 => ?_) (fun c_19 => ?_)
      · refine r_al0 (n := 26) dX2_buyLeather_25 rfl ?_
        refine g_st_leather (n := 29) (by first | assumption | omega) in_X2_buyLeather_wsX20 k_X2_buyLeather_46 dX2_buyLeather_26 rfl ?_
        refine r_il1 (n := 30) dX2_buyLeather_29 rfl ?_
        refine r_iadd (n := 31) dX2_buyLeather_30 rfl ?_
        refine r_sipush (v := 999) (n := 34) dX2_buyLeather_31 (by decide) rfl ?_
        refine r_icmp_le (tgt := 40) (n := 37) dX2_buyLeather_34 (by decide) rfl (fun c_34 => ?_) (fun c_34 => ?_)
        · refine r_iconst (v := 2) (n := 41) dX2_buyLeather_40 (by decide) rfl ?_
          refine r_il1 (n := 42) dX2_buyLeather_41 rfl ?_
          refine r_imul (n := 43) dX2_buyLeather_42 rfl ?_
          refine r_is2 (n := 44) (by decide) rfl dX2_buyLeather_43 rfl ?_
          refine r_al0 (n := 45) dX2_buyLeather_44 rfl ?_
          refine r_dup (n := 46) dX2_buyLeather_45 rfl rfl ?_
          refine g_st_leather (n := 49) (by first | assumption | omega) in_X2_buyLeather_wsX20 k_X2_buyLeather_46 dX2_buyLeather_46 rfl ?_
          refine r_il1 (n := 50) dX2_buyLeather_49 rfl ?_
          refine r_iadd (n := 51) dX2_buyLeather_50 rfl ?_
          refine p_st_leather (n := 54) (by first | assumption | omega) in_X2_buyLeather_wsX20 k_X2_buyLeather_46 dX2_buyLeather_51 rfl ?_
          refine r_al0 (n := 55) dX2_buyLeather_54 rfl ?_
          refine r_dup (n := 56) dX2_buyLeather_55 rfl rfl ?_
          refine g_st_money (n := 59) (by first | assumption | omega) in_X2_buyLeather_wsX20 k_X2_buyLeather_33 dX2_buyLeather_56 rfl ?_
          refine r_il2 (n := 60) dX2_buyLeather_59 rfl ?_
          refine r_isub (n := 61) dX2_buyLeather_60 rfl ?_
          refine p_st_money (n := 64) (by first | assumption | omega) in_X2_buyLeather_wsX20 k_X2_buyLeather_33 dX2_buyLeather_61 rfl ?_
          refine r_al0 (n := 65) dX2_buyLeather_64 rfl ?_
          refine r_dup (n := 66) dX2_buyLeather_65 rfl rfl ?_
          refine g_st_paidForLeather (n := 69) (by first | assumption | omega) in_X2_buyLeather_wsX20 k_X2_buyLeather_49 dX2_buyLeather_66 rfl ?_
          refine r_il2 (n := 70) dX2_buyLeather_69 rfl ?_
          refine r_iadd (n := 71) dX2_buyLeather_70 rfl ?_
          refine p_st_paidForLeather (n := 74) (by first | assumption | omega) in_X2_buyLeather_wsX20 k_X2_buyLeather_49 dX2_buyLeather_71 rfl ?_
          refine r_al0 (n := 75) dX2_buyLeather_74 rfl ?_
          refine g_st_leather (n := 78) (by first | assumption | omega) in_X2_buyLeather_wsX20 k_X2_buyLeather_46 dX2_buyLeather_75 rfl ?_
          exact e_i dX2_buyLeather_78 rfl (by simp only [buyS, *, if_true, if_false]; try simp (disch := omega) only [mput_s, setp_at, setp_2, setp_r, upd_at, upd_ne]) (by simp only [buyS, *, if_true, if_false]; first | rw [setp_self] | (simp (disch := omega) only [mput_s, setp_at, setp_2, setp_r, upd_at, upd_ne]; rfl))
        · refine r_ldc (n := 39) dX2_buyLeather_37 k_X2_buyLeather_70 rfl ?_
          exact e_i dX2_buyLeather_39 rfl (by simp only [buyS, *, if_true, if_false]; try simp (disch := omega) only [mput_s, setp_at, setp_2, setp_r, upd_at, upd_ne]) (by simp only [buyS, *, if_true, if_false]; first | rw [setp_self] | (simp (disch := omega) only [mput_s, setp_at, setp_2, setp_r, upd_at, upd_ne]; rfl))
      · refine r_ldc (n := 24) dX2_buyLeather_22 k_X2_buyLeather_79 rfl ?_
        exact e_i dX2_buyLeather_24 rfl (by simp only [buyS, *, if_true, if_false]; try simp (disch := omega) only [mput_s, setp_at, setp_2, setp_r, upd_at, upd_ne]) (by simp only [buyS, *, if_true, if_false]; first | rw [setp_self] | (simp (disch := omega) only [mput_s, setp_at, setp_2, setp_r, upd_at, upd_ne]; rfl))
    · refine r_ldc (n := 14) dX2_buyLeather_12 k_X2_buyLeather_69 rfl ?_
      exact e_i dX2_buyLeather_14 rfl (by simp only [buyS, *, if_true, if_false]; try simp (disch := omega) only [mput_s, setp_at, setp_2, setp_r, upd_at, upd_ne]) (by simp only [buyS, *, if_true, if_false]; first | rw [setp_self] | (simp (disch := omega) only [mput_s, setp_at, setp_2, setp_r, upd_at, upd_ne]; rfl))

end STATES
end
section
/-! ===== the class's states, more ===== -/
section STATES2
variable {cA : Nat → ClassId} {ad : Nat → Nat} {D : va_G} {M : Mem}
set_option maxHeartbeats 4000000 in
set_option maxRecDepth 100000 in
theorem m_X2_reasonOfSmithy {p k : Nat} (hp : p < 6) (hk : k < 8) : C_X2_reasonOfSmithy cA ad D [.ref (ad (6 + 10 * p)), .ref (ad (8 + 10 * p + k))] M (Ri (rsn (M.1 p) k) M) := by
  refine PM_of (lv := [some (.ref (ad (6 + 10 * p))), some (.ref (ad (8 + 10 * p + k)))]) (by decide +kernel) rfl (Nat.le_of_ble_eq_true rfl) rfl ?_
  refine r_al1 (n := 1) dX2_reasonOfSmithy_0 rfl ?_
  refine g_sm_debt (n := 4) (by first | assumption | omega) (by first | assumption | omega) in_X2_reasonOfSmithy_wsX10 k_X2_reasonOfSmithy_100 dX2_reasonOfSmithy_1 rfl ?_
  refine r_al0 (n := 5) dX2_reasonOfSmithy_4 rfl ?_
  refine g_st_patience (n := 8) (by first | assumption | omega) in_X2_reasonOfSmithy_wsX20 k_X2_reasonOfSmithy_27 dX2_reasonOfSmithy_5 rfl ?_
  refine r_icmp_le (tgt := 13) (n := 11) dX2_reasonOfSmithy_8 (by decide) rfl (fun c_8 => ?_) (fun c_8 => ?_)
  · refine r_al1 (n := 14) dX2_reasonOfSmithy_13 rfl ?_
    refine g_sm_wear (n := 17) (by first | assumption | omega) (by first | assumption | omega) in_X2_reasonOfSmithy_wsX10 k_X2_reasonOfSmithy_106 dX2_reasonOfSmithy_14 rfl ?_
    refine r_if_ne (tgt := 24) (n := 20) dX2_reasonOfSmithy_17 (by decide) rfl (fun c_17 => ?_) (fun c_17 => ?_)
    · refine r_iconst (v := 0) (n := 25) dX2_reasonOfSmithy_24 (by decide) rfl ?_
      exact e_i dX2_reasonOfSmithy_25 rfl (by simp only [rsn, *, if_true, if_false]) rfl
    · refine r_iconst (v := 5) (n := 21) dX2_reasonOfSmithy_20 (by decide) rfl ?_
      refine r_goto (tgt := 25) dX2_reasonOfSmithy_21 (by decide) ?_
      exact e_i dX2_reasonOfSmithy_25 rfl (by simp only [rsn, *, if_true, if_false]) rfl
  · refine r_iconst (v := 4) (n := 12) dX2_reasonOfSmithy_11 (by decide) rfl ?_
    exact e_i dX2_reasonOfSmithy_12 rfl (by simp only [rsn, *, if_true, if_false]) rfl

set_option maxHeartbeats 4000000 in
set_option maxRecDepth 100000 in
theorem m_X2_reasonAgainst {p k : Nat} (hp : p < 6) (hk : k < 8) (b : Bool) : C_X2_reasonAgainst cA ad D [.ref (ad (6 + 10 * p)), .ref (ad (8 + 10 * p + k)), .int (bI b)] M (Ri (whyNot (M.1 p) k b) M) := by
  refine PM_of (lv := [some (.ref (ad (6 + 10 * p))), some (.ref (ad (8 + 10 * p + k))), some (.int (bI b))]) (by decide +kernel) rfl (Nat.le_of_ble_eq_true rfl) rfl ?_
  refine r_al1 (n := 1) dX2_reasonAgainst_0 rfl ?_
  refine g_sm_mile (n := 4) (by first | assumption | omega) (by first | assumption | omega) in_X2_reasonAgainst_wsX10 k_X2_reasonAgainst_112 dX2_reasonAgainst_1 rfl ?_
  refine r_al0 (n := 5) dX2_reasonAgainst_4 rfl ?_
  refine g_st_mile (n := 8) (by first | assumption | omega) in_X2_reasonAgainst_wsX20 k_X2_reasonAgainst_43 dX2_reasonAgainst_5 rfl ?_
  refine r_icmp_eq (tgt := 13) (n := 11) dX2_reasonAgainst_8 (by decide) rfl (fun c_8 => ?_) (fun c_8 => ?_)
  · refine r_il2 (n := 14) dX2_reasonAgainst_13 rfl ?_
    refine cN_i (n := 17) (np := 1) (m_X3_hoursOfMend b) gX2_reasonAgainst_X3_hoursOfMend_n93 rfl (fun _ h => h.2.1) ki_X2_reasonAgainst_X3_hoursOfMend ks_X2_reasonAgainst_X3_hoursOfMend (by decide +kernel) rfl (by decide) (by decide) dX2_reasonAgainst_14 rfl rfl (Nat.le_of_ble_eq_true rfl) ?_
    refine r_al0 (n := 18) dX2_reasonAgainst_17 rfl ?_
    refine g_st_hoursLeft (n := 21) (by first | assumption | omega) in_X2_reasonAgainst_wsX20 k_X2_reasonAgainst_30 dX2_reasonAgainst_18 rfl ?_
    refine r_icmp_le (tgt := 26) (n := 24) dX2_reasonAgainst_21 (by decide) rfl (fun c_21 => ?_) (fun c_21 => ?_)
    · refine r_al1 (n := 27) dX2_reasonAgainst_26 rfl ?_
      refine r_il2 (n := 28) dX2_reasonAgainst_27 rfl ?_
      refine cV_i (n := 31) (np := 1) (m_X1_leatherOfMend (by assumption) (by assumption) b) gX2_reasonAgainst_X1_leatherOfMend rfl (by decide +kernel) rfl (by decide) (by decide) (by omega) (cell_sm cA ad _ (by first | assumption | omega) (by first | assumption | omega)) rfl dX2_reasonAgainst_28 rfl rfl (Nat.le_of_ble_eq_true rfl) ?_
      refine r_al0 (n := 32) dX2_reasonAgainst_31 rfl ?_
      refine g_st_leather (n := 35) (by first | assumption | omega) in_X2_reasonAgainst_wsX20 k_X2_reasonAgainst_46 dX2_reasonAgainst_32 rfl ?_
      refine r_icmp_le (tgt := 40) (n := 38) dX2_reasonAgainst_35 (by decide) rfl (fun c_35 => ?_) (fun c_35 => ?_)
      · refine r_al0 (n := 41) dX2_reasonAgainst_40 rfl ?_
        refine r_al1 (n := 42) dX2_reasonAgainst_41 rfl ?_
        refine cV_i (n := 45) (np := 1) (m_X2_reasonOfSmithy (by assumption) (by assumption)) gX2_reasonAgainst_X2_reasonOfSmithy rfl (by decide +kernel) rfl (by decide) (by decide) (by omega) (cell_st cA ad _ (by first | assumption | omega)) rfl dX2_reasonAgainst_42 rfl rfl (Nat.le_of_ble_eq_true rfl) ?_
        exact e_i dX2_reasonAgainst_45 rfl (by simp only [whyNot, *, if_true, if_false]) rfl
      · refine r_iconst (v := 3) (n := 39) dX2_reasonAgainst_38 (by decide) rfl ?_
        exact e_i dX2_reasonAgainst_39 rfl (by simp only [whyNot, *, if_true, if_false]) rfl
    · refine r_iconst (v := 2) (n := 25) dX2_reasonAgainst_24 (by decide) rfl ?_
      exact e_i dX2_reasonAgainst_25 rfl (by simp only [whyNot, *, if_true, if_false]) rfl
  · refine r_iconst (v := 1) (n := 12) dX2_reasonAgainst_11 (by decide) rfl ?_
    exact e_i dX2_reasonAgainst_12 rfl (by simp only [whyNot, *, if_true, if_false]) rfl

set_option maxHeartbeats 4000000 in
set_option maxRecDepth 100000 in
theorem m_X2_priceOfMend {p k : Nat} (hp : p < 6) (hk : k < 8) (b : Bool) : C_X2_priceOfMend cA ad D [.ref (ad (6 + 10 * p)), .ref (ad (8 + 10 * p + k)), .int (bI b)] M (Ri (owes (M.1 p) k b) M) := by
  refine PM_of (lv := [some (.ref (ad (6 + 10 * p))), some (.ref (ad (8 + 10 * p + k))), some (.int (bI b))]) (by decide +kernel) rfl (Nat.le_of_ble_eq_true rfl) rfl ?_
  refine r_al0 (n := 1) dX2_priceOfMend_0 rfl ?_
  refine g_st_rate (n := 4) (by first | assumption | omega) in_X2_priceOfMend_wsX20 k_X2_priceOfMend_24 dX2_priceOfMend_1 rfl ?_
  refine r_il2 (n := 5) dX2_priceOfMend_4 rfl ?_
  refine cN_i (n := 8) (np := 1) (m_X3_hoursOfMend b) gX2_priceOfMend_X3_hoursOfMend_n93 rfl (fun _ h => h.2.1) ki_X2_priceOfMend_X3_hoursOfMend ks_X2_priceOfMend_X3_hoursOfMend (by decide +kernel) rfl (by decide) (by decide) dX2_priceOfMend_5 rfl rfl (Nat.le_of_ble_eq_true rfl) ?_
  refine r_imul (n := 9) dX2_priceOfMend_8 rfl ?_
  refine r_iconst (v := 3) (n := 10) dX2_priceOfMend_9 (by decide) rfl ?_
  refine r_al1 (n := 11) dX2_priceOfMend_10 rfl ?_
  refine r_il2 (n := 12) dX2_priceOfMend_11 rfl ?_
  refine cV_i (n := 15) (np := 1) (m_X1_leatherOfMend (by assumption) (by assumption) b) gX2_priceOfMend_X1_leatherOfMend rfl (by decide +kernel) rfl (by decide) (by decide) (by omega) (cell_sm cA ad _ (by first | assumption | omega) (by first | assumption | omega)) rfl dX2_priceOfMend_12 rfl rfl (Nat.le_of_ble_eq_true rfl) ?_
  refine r_imul (n := 16) dX2_priceOfMend_15 rfl ?_
  refine r_iadd (n := 17) dX2_priceOfMend_16 rfl ?_
  exact e_i dX2_priceOfMend_17 rfl rfl rfl

set_option maxHeartbeats 4000000 in
set_option maxRecDepth 100000 in
theorem m_X2_mendBellows_n {p : Nat} (hp : p < 6) {j : Int32} (hj : ¬ isSm (M.1 p) j) (b : Bool) : C_X2_mendBellows cA ad D [.ref (ad (6 + 10 * p)), .int j, .int (bI b)] M (Ri IA M) := by
  refine PM_of (lv := [some (.ref (ad (6 + 10 * p))), some (.int j), some (.int (bI b)), none, none]) (by decide +kernel) rfl (Nat.le_of_ble_eq_true rfl) rfl ?_
  refine r_al0 (n := 1) dX2_mendBellows_0 rfl ?_
  refine r_il1 (n := 2) dX2_mendBellows_1 rfl ?_
  refine cV_n (n := 5) (np := 1) (m_X2_find_n (by assumption) hj) gX2_mendBellows_X2_find rfl (by decide +kernel) rfl (by decide) (by decide) (by omega) (cell_st cA ad _ (by first | assumption | omega)) rfl dX2_mendBellows_2 rfl rfl (Nat.le_of_ble_eq_true rfl) ?_
  refine r_as3N (n := 6) (by decide) rfl dX2_mendBellows_5 rfl ?_
  refine r_al3N (n := 7) dX2_mendBellows_6 rfl ?_
  refine r_ifnonnullN (n := 10) dX2_mendBellows_7 rfl ?_
  refine r_ldc (n := 12) dX2_mendBellows_10 k_X2_mendBellows_69 rfl ?_
  exact e_i dX2_mendBellows_12 rfl rfl rfl

set_option maxHeartbeats 4000000 in
set_option maxRecDepth 100000 in
theorem m_X2_mendBellows_s {p k : Nat} (hp : p < 6) {N : Nat} (hN : M.1 p 0 = nI N) (h8 : N ≤ 8) (hk : k < N) (b : Bool) : C_X2_mendBellows cA ad D [.ref (ad (6 + 10 * p)), .int (nI k), .int (bI b)] M (Ri (mendS (M.1 p) k b).1 (setp M p (mendS (M.1 p) k b).2)) := by
  refine PM_of (lv := [some (.ref (ad (6 + 10 * p))), some (.int (nI k)), some (.int (bI b)), none, none]) (by decide +kernel) rfl (Nat.le_of_ble_eq_true rfl) rfl ?_
  refine r_al0 (n := 1) dX2_mendBellows_0 rfl ?_
  refine r_il1 (n := 2) dX2_mendBellows_1 rfl ?_
  refine cV_a (n := 5) (np := 1) (m_X2_find_s (N := N) (k := k) (by first | assumption | omega) hN h8 (by first | assumption | omega)) gX2_mendBellows_X2_find rfl (by decide +kernel) rfl (by decide) (by decide) (by omega) (cell_st cA ad _ (by first | assumption | omega)) rfl dX2_mendBellows_2 rfl rfl (Nat.le_of_ble_eq_true rfl) ?_
  refine r_as3 (n := 6) (by decide) rfl dX2_mendBellows_5 rfl ?_
  refine r_al3 (n := 7) dX2_mendBellows_6 rfl ?_
  refine r_ifnonnull (tgt := 13) dX2_mendBellows_7 (by decide) ?_
  refine r_al0 (n := 14) dX2_mendBellows_13 rfl ?_
  refine r_al3 (n := 15) dX2_mendBellows_14 rfl ?_
  refine r_il2 (n := 16) dX2_mendBellows_15 rfl ?_
  refine cV_i (n := 19) (np := 2) (m_X2_reasonAgainst (by assumption) (by omega) b) gX2_mendBellows_X2_reasonAgainst rfl (by decide +kernel) rfl (by decide) (by decide) (by omega) (cell_st cA ad _ (by first | assumption | omega)) rfl dX2_mendBellows_16 rfl rfl (Nat.le_of_ble_eq_true rfl) ?_
  refine r_if_eq (tgt := 25) (n := 22) dX2_mendBellows_19 (by decide) rfl (fun c_19 => ?_) (fun c_19 => ?_)
  · refine r_al0 (n := 26) dX2_mendBellows_25 rfl ?_
    refine r_al3 (n := 27) dX2_mendBellows_26 rfl ?_
    refine r_il2 (n := 28) dX2_mendBellows_27 rfl ?_
    refine cV_i (n := 31) (np := 2) (m_X2_priceOfMend (by assumption) (by omega) b) gX2_mendBellows_X2_priceOfMend rfl (by decide +kernel) rfl (by decide) (by decide) (by omega) (cell_st cA ad _ (by first | assumption | omega)) rfl dX2_mendBellows_28 rfl rfl (Nat.le_of_ble_eq_true rfl) ?_
    refine r_is4 (n := 33) (by decide) rfl dX2_mendBellows_31 rfl ?_
    refine r_al0 (n := 34) dX2_mendBellows_33 rfl ?_
    refine r_dup (n := 35) dX2_mendBellows_34 rfl rfl ?_
    refine g_st_hoursLeft (n := 38) (by first | assumption | omega) in_X2_mendBellows_wsX20 k_X2_mendBellows_30 dX2_mendBellows_35 rfl ?_
    refine r_il2 (n := 39) dX2_mendBellows_38 rfl ?_
    refine cN_i (n := 42) (np := 1) (m_X3_hoursOfMend b) gX2_mendBellows_X3_hoursOfMend_n93 rfl (fun _ h => h.2.1) ki_X2_mendBellows_X3_hoursOfMend ks_X2_mendBellows_X3_hoursOfMend (by decide +kernel) rfl (by decide) (by decide) dX2_mendBellows_39 rfl rfl (Nat.le_of_ble_eq_true rfl) ?_
    refine r_isub (n := 43) dX2_mendBellows_42 rfl ?_
    refine p_st_hoursLeft (n := 46) (by first | assumption | omega) in_X2_mendBellows_wsX20 k_X2_mendBellows_30 dX2_mendBellows_43 rfl ?_
    refine r_al0 (n := 47) dX2_mendBellows_46 rfl ?_
    refine r_dup (n := 48) dX2_mendBellows_47 rfl rfl ?_
    refine g_st_leather (n := 51) (by first | assumption | omega) in_X2_mendBellows_wsX20 k_X2_mendBellows_46 dX2_mendBellows_48 rfl ?_
    refine r_al3 (n := 52) dX2_mendBellows_51 rfl ?_
    refine r_il2 (n := 53) dX2_mendBellows_52 rfl ?_
    refine cV_i (n := 56) (np := 1) (m_X1_leatherOfMend (by assumption) (by omega) b) gX2_mendBellows_X1_leatherOfMend rfl (by decide +kernel) rfl (by decide) (by decide) (by omega) (cell_sm cA ad _ (by first | assumption | omega) (by first | assumption | omega)) rfl dX2_mendBellows_53 rfl rfl (Nat.le_of_ble_eq_true rfl) ?_
    refine r_isub (n := 57) dX2_mendBellows_56 rfl ?_
    refine p_st_leather (n := 60) (by first | assumption | omega) in_X2_mendBellows_wsX20 k_X2_mendBellows_46 dX2_mendBellows_57 rfl ?_
    refine r_al0 (n := 61) dX2_mendBellows_60 rfl ?_
    refine r_dup (n := 62) dX2_mendBellows_61 rfl rfl ?_
    refine g_st_owedForMends (n := 65) (by first | assumption | omega) in_X2_mendBellows_wsX20 k_X2_mendBellows_52 dX2_mendBellows_62 rfl ?_
    refine r_il4 (n := 67) dX2_mendBellows_65 rfl ?_
    refine r_iadd (n := 68) dX2_mendBellows_67 rfl ?_
    refine p_st_owedForMends (n := 71) (by first | assumption | omega) in_X2_mendBellows_wsX20 k_X2_mendBellows_52 dX2_mendBellows_68 rfl ?_
    refine r_al3 (n := 72) dX2_mendBellows_71 rfl ?_
    refine r_dup (n := 73) dX2_mendBellows_72 rfl rfl ?_
    refine g_sm_debt (n := 76) (by first | assumption | omega) (by first | assumption | omega) in_X2_mendBellows_wsX10 k_X2_mendBellows_100 dX2_mendBellows_73 rfl ?_
    refine r_il4 (n := 78) dX2_mendBellows_76 rfl ?_
    refine r_iadd (n := 79) dX2_mendBellows_78 rfl ?_
    refine p_sm_debt (n := 82) (by first | assumption | omega) (by first | assumption | omega) in_X2_mendBellows_wsX10 k_X2_mendBellows_100 dX2_mendBellows_79 rfl ?_
    refine r_al3 (n := 83) dX2_mendBellows_82 rfl ?_
    refine r_al3 (n := 84) dX2_mendBellows_83 rfl ?_
    refine r_il2 (n := 85) dX2_mendBellows_84 rfl ?_
    refine cV_i (n := 88) (np := 1) (m_X1_wearBehindMend (by assumption) (by omega) b) gX2_mendBellows_X1_wearBehindMend rfl (by decide +kernel) rfl (by decide) (by decide) (by omega) (cell_sm cA ad _ (by first | assumption | omega) (by first | assumption | omega)) rfl dX2_mendBellows_85 rfl rfl (Nat.le_of_ble_eq_true rfl) ?_
    refine p_sm_wear (n := 91) (by first | assumption | omega) (by first | assumption | omega) in_X2_mendBellows_wsX10 k_X2_mendBellows_106 dX2_mendBellows_88 rfl ?_
    refine r_al3 (n := 92) dX2_mendBellows_91 rfl ?_
    refine r_dup (n := 93) dX2_mendBellows_92 rfl rfl ?_
    refine g_sm_mends (n := 96) (by first | assumption | omega) (by first | assumption | omega) in_X2_mendBellows_wsX10 k_X2_mendBellows_109 dX2_mendBellows_93 rfl ?_
    refine r_iconst (v := 1) (n := 97) dX2_mendBellows_96 (by decide) rfl ?_
    refine r_iadd (n := 98) dX2_mendBellows_97 rfl ?_
    refine p_sm_mends (n := 101) (by first | assumption | omega) (by first | assumption | omega) in_X2_mendBellows_wsX10 k_X2_mendBellows_109 dX2_mendBellows_98 rfl ?_
    refine pw_mem (M2 := setp M p (mendU (M.1 p) k b)) ?_ ?_
    · simp (disch := omega) only [mput_s, setp_at, setp_2, setp_r, upd_at, upd_ne, leatherOf, wearBM, mendU]
    refine r_il2 (n := 102) dX2_mendBellows_101 rfl ?_
    refine r_if_eq (tgt := 112) (n := 105) dX2_mendBellows_102 (by decide) rfl (fun c_102 => ?_) (fun c_102 => ?_)
    · have hb := bI_0 c_102
      subst hb
      refine r_al3 (n := 113) dX2_mendBellows_112 rfl ?_
      refine g_sm_wear (n := 116) (by first | assumption | omega) (by first | assumption | omega) in_X2_mendBellows_wsX10 k_X2_mendBellows_106 dX2_mendBellows_113 rfl ?_
      exact e_i dX2_mendBellows_116 rfl (by simp (disch := omega) [mendS, c_19, mendR, mendU, wearBM, mput_s, setp_at, setp_2, setp_r, upd_at, upd_ne]) (by simp only [mendS, c_19, if_true])
    · have hb := bI_1 c_102
      subst hb
      refine r_al3 (n := 106) dX2_mendBellows_105 rfl ?_
      refine g_sm_debt (n := 109) (by first | assumption | omega) (by first | assumption | omega) in_X2_mendBellows_wsX10 k_X2_mendBellows_100 dX2_mendBellows_106 rfl ?_
      refine r_goto (tgt := 116) dX2_mendBellows_109 (by decide) ?_
      exact e_i dX2_mendBellows_116 rfl (by simp (disch := omega) [mendS, c_19, mendR, mendU, wearBM, mput_s, setp_at, setp_2, setp_r, upd_at, upd_ne]) (by simp only [mendS, c_19, if_true])
  · refine r_ldc (n := 24) dX2_mendBellows_22 k_X2_mendBellows_79 rfl ?_
    exact e_i dX2_mendBellows_24 rfl (by simp only [mendS, c_19, if_false]) (by simp only [mendS, c_19, if_false]; rw [setp_self])

set_option maxHeartbeats 4000000 in
set_option maxRecDepth 100000 in
theorem m_X2_collectDebt_n {p : Nat} (hp : p < 6) {j : Int32} (hj : ¬ isSm (M.1 p) j) : C_X2_collectDebt cA ad D [.ref (ad (6 + 10 * p)), .int j] M (Ri IA M) := by
  refine PM_of (lv := [some (.ref (ad (6 + 10 * p))), some (.int j), none, none]) (by decide +kernel) rfl (Nat.le_of_ble_eq_true rfl) rfl ?_
  refine r_al0 (n := 1) dX2_collectDebt_0 rfl ?_
  refine r_il1 (n := 2) dX2_collectDebt_1 rfl ?_
  refine cV_n (n := 5) (np := 1) (m_X2_find_n (by assumption) hj) gX2_collectDebt_X2_find rfl (by decide +kernel) rfl (by decide) (by decide) (by omega) (cell_st cA ad _ (by first | assumption | omega)) rfl dX2_collectDebt_2 rfl rfl (Nat.le_of_ble_eq_true rfl) ?_
  refine r_as2N (n := 6) (by decide) rfl dX2_collectDebt_5 rfl ?_
  refine r_al2N (n := 7) dX2_collectDebt_6 rfl ?_
  refine r_ifnonnullN (n := 10) dX2_collectDebt_7 rfl ?_
  refine r_ldc (n := 12) dX2_collectDebt_10 k_X2_collectDebt_69 rfl ?_
  exact e_i dX2_collectDebt_12 rfl rfl rfl

set_option maxHeartbeats 4000000 in
set_option maxRecDepth 100000 in
theorem m_X2_collectDebt_s {p k : Nat} (hp : p < 6) {N : Nat} (hN : M.1 p 0 = nI N) (h8 : N ≤ 8) (hk : k < N) : C_X2_collectDebt cA ad D [.ref (ad (6 + 10 * p)), .int (nI k)] M (Ri (collS (M.1 p) k).1 (setp M p (collS (M.1 p) k).2)) := by
  refine PM_of (lv := [some (.ref (ad (6 + 10 * p))), some (.int (nI k)), none, none]) (by decide +kernel) rfl (Nat.le_of_ble_eq_true rfl) rfl ?_
  refine r_al0 (n := 1) dX2_collectDebt_0 rfl ?_
  refine r_il1 (n := 2) dX2_collectDebt_1 rfl ?_
  refine cV_a (n := 5) (np := 1) (m_X2_find_s (N := N) (k := k) (by first | assumption | omega) hN h8 (by first | assumption | omega)) gX2_collectDebt_X2_find rfl (by decide +kernel) rfl (by decide) (by decide) (by omega) (cell_st cA ad _ (by first | assumption | omega)) rfl dX2_collectDebt_2 rfl rfl (Nat.le_of_ble_eq_true rfl) ?_
  refine r_as2 (n := 6) (by decide) rfl dX2_collectDebt_5 rfl ?_
  refine r_al2 (n := 7) dX2_collectDebt_6 rfl ?_
  refine r_ifnonnull (tgt := 13) dX2_collectDebt_7 (by decide) ?_
  refine r_al2 (n := 14) dX2_collectDebt_13 rfl ?_
  refine g_sm_mile (n := 17) (by first | assumption | omega) (by first | assumption | omega) in_X2_collectDebt_wsX10 k_X2_collectDebt_112 dX2_collectDebt_14 rfl ?_
  refine r_al0 (n := 18) dX2_collectDebt_17 rfl ?_
  refine g_st_mile (n := 21) (by first | assumption | omega) in_X2_collectDebt_wsX20 k_X2_collectDebt_43 dX2_collectDebt_18 rfl ?_
  refine r_icmp_ne (tgt := 31) (n := 24) dX2_collectDebt_21 (by decide) rfl (fun c_21 => ?_) (fun c_21 => ?_)
  · refine r_ldc (n := 33) dX2_collectDebt_31 k_X2_collectDebt_79 rfl ?_
    exact e_i dX2_collectDebt_33 rfl (by simp only [collS, pays, *, if_true, if_false]) (by simp only [collS, collU, pays, *, if_true, if_false]; first | rw [setp_self] | simp (disch := omega) only [mput_s, setp_at, setp_2, setp_r, upd_at, upd_ne])
  · refine r_al2 (n := 25) dX2_collectDebt_24 rfl ?_
    refine g_sm_debt (n := 28) (by first | assumption | omega) (by first | assumption | omega) in_X2_collectDebt_wsX10 k_X2_collectDebt_100 dX2_collectDebt_25 rfl ?_
    refine r_if_gt (tgt := 34) (n := 31) dX2_collectDebt_28 (by decide) rfl (fun c_28 => ?_) (fun c_28 => ?_)
    · refine r_al0 (n := 35) dX2_collectDebt_34 rfl ?_
      refine r_al2 (n := 36) dX2_collectDebt_35 rfl ?_
      refine g_sm_heat (n := 39) (by first | assumption | omega) (by first | assumption | omega) in_X2_collectDebt_wsX10 k_X2_collectDebt_113 dX2_collectDebt_36 rfl ?_
      refine cV_i (n := 42) (np := 1) (m_X2_isCold (by assumption)) gX2_collectDebt_X2_isCold rfl (by decide +kernel) rfl (by decide) (by decide) (by omega) (cell_st cA ad _ (by first | assumption | omega)) rfl dX2_collectDebt_39 rfl rfl (Nat.le_of_ble_eq_true rfl) ?_
      refine r_if_eq (tgt := 54) (n := 45) dX2_collectDebt_42 (by decide) rfl (fun c_42 => ?_) (fun c_42 => ?_)
      · try replace c_42 := i10 c_42
        refine r_al2 (n := 55) dX2_collectDebt_54 rfl ?_
        refine g_sm_debt (n := 58) (by first | assumption | omega) (by first | assumption | omega) in_X2_collectDebt_wsX10 k_X2_collectDebt_100 dX2_collectDebt_55 rfl ?_
        refine r_is3 (n := 59) (by decide) rfl dX2_collectDebt_58 rfl ?_
        refine r_al2 (n := 60) dX2_collectDebt_59 rfl ?_
        refine r_dup (n := 61) dX2_collectDebt_60 rfl rfl ?_
        refine g_sm_debt (n := 64) (by first | assumption | omega) (by first | assumption | omega) in_X2_collectDebt_wsX10 k_X2_collectDebt_100 dX2_collectDebt_61 rfl ?_
        refine r_il3 (n := 65) dX2_collectDebt_64 rfl ?_
        refine r_isub (n := 66) dX2_collectDebt_65 rfl ?_
        refine p_sm_debt (n := 69) (by first | assumption | omega) (by first | assumption | omega) in_X2_collectDebt_wsX10 k_X2_collectDebt_100 dX2_collectDebt_66 rfl ?_
        refine r_al2 (n := 70) dX2_collectDebt_69 rfl ?_
        refine r_dup (n := 71) dX2_collectDebt_70 rfl rfl ?_
        refine g_sm_paid (n := 74) (by first | assumption | omega) (by first | assumption | omega) in_X2_collectDebt_wsX10 k_X2_collectDebt_120 dX2_collectDebt_71 rfl ?_
        refine r_il3 (n := 75) dX2_collectDebt_74 rfl ?_
        refine r_iadd (n := 76) dX2_collectDebt_75 rfl ?_
        refine p_sm_paid (n := 79) (by first | assumption | omega) (by first | assumption | omega) in_X2_collectDebt_wsX10 k_X2_collectDebt_120 dX2_collectDebt_76 rfl ?_
        refine r_al0 (n := 80) dX2_collectDebt_79 rfl ?_
        refine r_dup (n := 81) dX2_collectDebt_80 rfl rfl ?_
        refine g_st_money (n := 84) (by first | assumption | omega) in_X2_collectDebt_wsX20 k_X2_collectDebt_33 dX2_collectDebt_81 rfl ?_
        refine r_il3 (n := 85) dX2_collectDebt_84 rfl ?_
        refine r_iadd (n := 86) dX2_collectDebt_85 rfl ?_
        refine p_st_money (n := 89) (by first | assumption | omega) in_X2_collectDebt_wsX20 k_X2_collectDebt_33 dX2_collectDebt_86 rfl ?_
        refine r_il3 (n := 90) dX2_collectDebt_89 rfl ?_
        exact e_i dX2_collectDebt_90 rfl (by simp only [collS, pays, *, if_true, if_false]) (by simp only [collS, collU, pays, *, if_true, if_false]; first | rw [setp_self] | simp (disch := omega) only [mput_s, setp_at, setp_2, setp_r, upd_at, upd_ne])
      · try replace c_42 := i11 c_42
        refine r_al2 (n := 46) dX2_collectDebt_45 rfl ?_
        refine g_sm_debt (n := 49) (by first | assumption | omega) (by first | assumption | omega) in_X2_collectDebt_wsX10 k_X2_collectDebt_100 dX2_collectDebt_46 rfl ?_
        refine r_iconst (v := 2) (n := 50) dX2_collectDebt_49 (by decide) rfl ?_
        refine r_idiv (n := 51) dX2_collectDebt_50 (by decide) rfl ?_
        refine r_goto (tgt := 58) dX2_collectDebt_51 (by decide) ?_
        refine r_is3 (n := 59) (by decide) rfl dX2_collectDebt_58 rfl ?_
        refine r_al2 (n := 60) dX2_collectDebt_59 rfl ?_
        refine r_dup (n := 61) dX2_collectDebt_60 rfl rfl ?_
        refine g_sm_debt (n := 64) (by first | assumption | omega) (by first | assumption | omega) in_X2_collectDebt_wsX10 k_X2_collectDebt_100 dX2_collectDebt_61 rfl ?_
        refine r_il3 (n := 65) dX2_collectDebt_64 rfl ?_
        refine r_isub (n := 66) dX2_collectDebt_65 rfl ?_
        refine p_sm_debt (n := 69) (by first | assumption | omega) (by first | assumption | omega) in_X2_collectDebt_wsX10 k_X2_collectDebt_100 dX2_collectDebt_66 rfl ?_
        refine r_al2 (n := 70) dX2_collectDebt_69 rfl ?_
        refine r_dup (n := 71) dX2_collectDebt_70 rfl rfl ?_
        refine g_sm_paid (n := 74) (by first | assumption | omega) (by first | assumption | omega) in_X2_collectDebt_wsX10 k_X2_collectDebt_120 dX2_collectDebt_71 rfl ?_
        refine r_il3 (n := 75) dX2_collectDebt_74 rfl ?_
        refine r_iadd (n := 76) dX2_collectDebt_75 rfl ?_
        refine p_sm_paid (n := 79) (by first | assumption | omega) (by first | assumption | omega) in_X2_collectDebt_wsX10 k_X2_collectDebt_120 dX2_collectDebt_76 rfl ?_
        refine r_al0 (n := 80) dX2_collectDebt_79 rfl ?_
        refine r_dup (n := 81) dX2_collectDebt_80 rfl rfl ?_
        refine g_st_money (n := 84) (by first | assumption | omega) in_X2_collectDebt_wsX20 k_X2_collectDebt_33 dX2_collectDebt_81 rfl ?_
        refine r_il3 (n := 85) dX2_collectDebt_84 rfl ?_
        refine r_iadd (n := 86) dX2_collectDebt_85 rfl ?_
        refine p_st_money (n := 89) (by first | assumption | omega) in_X2_collectDebt_wsX20 k_X2_collectDebt_33 dX2_collectDebt_86 rfl ?_
        refine r_il3 (n := 90) dX2_collectDebt_89 rfl ?_
        exact e_i dX2_collectDebt_90 rfl (by simp only [collS, pays, *, if_true, if_false]) (by simp only [collS, collU, pays, *, if_true, if_false]; first | rw [setp_self] | simp (disch := omega) only [mput_s, setp_at, setp_2, setp_r, upd_at, upd_ne])
    · refine r_ldc (n := 33) dX2_collectDebt_31 k_X2_collectDebt_79 rfl ?_
      exact e_i dX2_collectDebt_33 rfl (by simp only [collS, pays, *, if_true, if_false]) (by simp only [collS, collU, pays, *, if_true, if_false]; first | rw [setp_self] | simp (disch := omega) only [mput_s, setp_at, setp_2, setp_r, upd_at, upd_ne])

set_option maxHeartbeats 4000000 in
set_option maxRecDepth 100000 in
theorem m_X2_endDayOf {p k : Nat} (hp : p < 6) (hk : k < 8) : C_X2_endDayOf cA ad D [.ref (ad (6 + 10 * p)), .ref (ad (8 + 10 * p + k))] M (Rv (setp M p (dayU (M.1 p) k))) := by
  refine PM_of (lv := [some (.ref (ad (6 + 10 * p))), some (.ref (ad (8 + 10 * p + k)))]) (by decide +kernel) rfl (Nat.le_of_ble_eq_true rfl) rfl ?_
  refine r_al1 (n := 1) dX2_endDayOf_0 rfl ?_
  refine r_al1 (n := 2) dX2_endDayOf_1 rfl ?_
  refine g_sm_wear (n := 5) (by first | assumption | omega) (by first | assumption | omega) in_X2_endDayOf_wsX10 k_X2_endDayOf_106 dX2_endDayOf_2 rfl ?_
  refine r_al1 (n := 6) dX2_endDayOf_5 rfl ?_
  refine g_sm_size (n := 9) (by first | assumption | omega) (by first | assumption | omega) in_X2_endDayOf_wsX10 k_X2_endDayOf_135 dX2_endDayOf_6 rfl ?_
  refine cN_i (n := 12) (np := 2) (m_X3_wearBehindDay) gX2_endDayOf_X3_wearBehindDay_n138 rfl (fun _ h => h.2.2.2.1) ki_X2_endDayOf_X3_wearBehindDay ks_X2_endDayOf_X3_wearBehindDay (by decide +kernel) rfl (by decide) (by decide) dX2_endDayOf_9 rfl rfl (Nat.le_of_ble_eq_true rfl) ?_
  refine p_sm_wear (n := 15) (by first | assumption | omega) (by first | assumption | omega) in_X2_endDayOf_wsX10 k_X2_endDayOf_106 dX2_endDayOf_12 rfl ?_
  refine r_al1 (n := 16) dX2_endDayOf_15 rfl ?_
  refine r_al1 (n := 17) dX2_endDayOf_16 rfl ?_
  refine g_sm_heat (n := 20) (by first | assumption | omega) (by first | assumption | omega) in_X2_endDayOf_wsX10 k_X2_endDayOf_113 dX2_endDayOf_17 rfl ?_
  refine r_al1 (n := 21) dX2_endDayOf_20 rfl ?_
  refine g_sm_wear (n := 24) (by first | assumption | omega) (by first | assumption | omega) in_X2_endDayOf_wsX10 k_X2_endDayOf_106 dX2_endDayOf_21 rfl ?_
  refine cN_i (n := 27) (np := 2) (m_X3_heatBehindDay) gX2_endDayOf_X3_heatBehindDay_n141 rfl (fun _ h => h.2.2.2.2) ki_X2_endDayOf_X3_heatBehindDay ks_X2_endDayOf_X3_heatBehindDay (by decide +kernel) rfl (by decide) (by decide) dX2_endDayOf_24 rfl rfl (Nat.le_of_ble_eq_true rfl) ?_
  refine p_sm_heat (n := 30) (by first | assumption | omega) (by first | assumption | omega) in_X2_endDayOf_wsX10 k_X2_endDayOf_113 dX2_endDayOf_27 rfl ?_
  refine r_al1 (n := 31) dX2_endDayOf_30 rfl ?_
  refine r_al0 (n := 32) dX2_endDayOf_31 rfl ?_
  refine r_al1 (n := 33) dX2_endDayOf_32 rfl ?_
  refine g_sm_heat (n := 36) (by first | assumption | omega) (by first | assumption | omega) in_X2_endDayOf_wsX10 k_X2_endDayOf_113 dX2_endDayOf_33 rfl ?_
  refine cV_i (n := 39) (np := 1) (m_X2_isCold (by assumption)) gX2_endDayOf_X2_isCold rfl (by decide +kernel) rfl (by decide) (by decide) (by omega) (cell_st cA ad _ (by first | assumption | omega)) rfl dX2_endDayOf_36 rfl rfl (Nat.le_of_ble_eq_true rfl) ?_
  refine r_if_eq (tgt := 51) (n := 42) dX2_endDayOf_39 (by decide) rfl (fun c_39 => ?_) (fun c_39 => ?_)
  · try replace c_39 := i10 c_39
    refine r_iconst (v := 0) (n := 52) dX2_endDayOf_51 (by decide) rfl ?_
    refine p_sm_coldDays (n := 55) (by first | assumption | omega) (by first | assumption | omega) in_X2_endDayOf_wsX10 k_X2_endDayOf_144 dX2_endDayOf_52 rfl ?_
    refine r_al0 (n := 56) dX2_endDayOf_55 rfl ?_
    refine r_al0 (n := 57) dX2_endDayOf_56 rfl ?_
    refine g_st_longestCold (n := 60) (by first | assumption | omega) in_X2_endDayOf_wsX20 k_X2_endDayOf_55 dX2_endDayOf_57 rfl ?_
    refine r_al1 (n := 61) dX2_endDayOf_60 rfl ?_
    refine g_sm_coldDays (n := 64) (by first | assumption | omega) (by first | assumption | omega) in_X2_endDayOf_wsX10 k_X2_endDayOf_144 dX2_endDayOf_61 rfl ?_
    refine r_mmax (n := 67) (by decide) k_X2_endDayOf_147 ks_X2_endDayOf_max ki_X2_endDayOf_math kc_X2_endDayOf_max (Nat.le_of_ble_eq_true rfl) dX2_endDayOf_64 rfl ?_
    refine p_st_longestCold (n := 70) (by first | assumption | omega) in_X2_endDayOf_wsX20 k_X2_endDayOf_55 dX2_endDayOf_67 rfl ?_
    exact e_v dX2_endDayOf_70 rfl (by simp (disch := omega) only [mput_s, setp_at, setp_2, setp_r, upd_at, upd_ne] at c_39 ⊢; simp only [dayU, dayC, dayH, dayW, c_39, if_true, if_false])
  · try replace c_39 := i11 c_39
    refine r_al1 (n := 43) dX2_endDayOf_42 rfl ?_
    refine g_sm_coldDays (n := 46) (by first | assumption | omega) (by first | assumption | omega) in_X2_endDayOf_wsX10 k_X2_endDayOf_144 dX2_endDayOf_43 rfl ?_
    refine r_iconst (v := 1) (n := 47) dX2_endDayOf_46 (by decide) rfl ?_
    refine r_iadd (n := 48) dX2_endDayOf_47 rfl ?_
    refine r_goto (tgt := 52) dX2_endDayOf_48 (by decide) ?_
    refine p_sm_coldDays (n := 55) (by first | assumption | omega) (by first | assumption | omega) in_X2_endDayOf_wsX10 k_X2_endDayOf_144 dX2_endDayOf_52 rfl ?_
    refine r_al0 (n := 56) dX2_endDayOf_55 rfl ?_
    refine r_al0 (n := 57) dX2_endDayOf_56 rfl ?_
    refine g_st_longestCold (n := 60) (by first | assumption | omega) in_X2_endDayOf_wsX20 k_X2_endDayOf_55 dX2_endDayOf_57 rfl ?_
    refine r_al1 (n := 61) dX2_endDayOf_60 rfl ?_
    refine g_sm_coldDays (n := 64) (by first | assumption | omega) (by first | assumption | omega) in_X2_endDayOf_wsX10 k_X2_endDayOf_144 dX2_endDayOf_61 rfl ?_
    refine r_mmax (n := 67) (by decide) k_X2_endDayOf_147 ks_X2_endDayOf_max ki_X2_endDayOf_math kc_X2_endDayOf_max (Nat.le_of_ble_eq_true rfl) dX2_endDayOf_64 rfl ?_
    refine p_st_longestCold (n := 70) (by first | assumption | omega) in_X2_endDayOf_wsX20 k_X2_endDayOf_55 dX2_endDayOf_67 rfl ?_
    exact e_v dX2_endDayOf_70 rfl (by simp (disch := omega) only [mput_s, setp_at, setp_2, setp_r, upd_at, upd_ne] at c_39 ⊢; simp only [dayU, dayC, dayH, dayW, c_39, if_true, if_false])

set_option maxHeartbeats 4000000 in
set_option maxRecDepth 100000 in
theorem m_J6_bitCount_0f7a4 {v : Int32} : C_J6_bitCount_0f7a4 cA ad D [.int v] M (Ri (bitc v) M) := by
  refine PM_of (lv := [some (.int v)]) (by decide +kernel) rfl (Nat.le_of_ble_eq_true rfl) rfl ?_
  refine r_il0 (n := 1) dJ6_bitCount_0f7a4_0 rfl ?_
  refine r_il0 (n := 2) dJ6_bitCount_0f7a4_1 rfl ?_
  refine r_iconst (v := 1) (n := 3) dJ6_bitCount_0f7a4_2 (by decide) rfl ?_
  refine r_iushr (n := 4) dJ6_bitCount_0f7a4_3 rfl ?_
  refine r_ldcw (n := 7) dJ6_bitCount_0f7a4_4 k_J6_bitCount_0f7a4_265 rfl ?_
  refine r_iand (n := 8) dJ6_bitCount_0f7a4_7 rfl ?_
  refine r_isub (n := 9) dJ6_bitCount_0f7a4_8 rfl ?_
  refine r_is0 (n := 10) (by decide) rfl dJ6_bitCount_0f7a4_9 rfl ?_
  refine r_il0 (n := 11) dJ6_bitCount_0f7a4_10 rfl ?_
  refine r_ldcw (n := 14) dJ6_bitCount_0f7a4_11 k_J6_bitCount_0f7a4_266 rfl ?_
  refine r_iand (n := 15) dJ6_bitCount_0f7a4_14 rfl ?_
  refine r_il0 (n := 16) dJ6_bitCount_0f7a4_15 rfl ?_
  refine r_iconst (v := 2) (n := 17) dJ6_bitCount_0f7a4_16 (by decide) rfl ?_
  refine r_iushr (n := 18) dJ6_bitCount_0f7a4_17 rfl ?_
  refine r_ldcw (n := 21) dJ6_bitCount_0f7a4_18 k_J6_bitCount_0f7a4_266 rfl ?_
  refine r_iand (n := 22) dJ6_bitCount_0f7a4_21 rfl ?_
  refine r_iadd (n := 23) dJ6_bitCount_0f7a4_22 rfl ?_
  refine r_is0 (n := 24) (by decide) rfl dJ6_bitCount_0f7a4_23 rfl ?_
  refine r_il0 (n := 25) dJ6_bitCount_0f7a4_24 rfl ?_
  refine r_il0 (n := 26) dJ6_bitCount_0f7a4_25 rfl ?_
  refine r_iconst (v := 4) (n := 27) dJ6_bitCount_0f7a4_26 (by decide) rfl ?_
  refine r_iushr (n := 28) dJ6_bitCount_0f7a4_27 rfl ?_
  refine r_iadd (n := 29) dJ6_bitCount_0f7a4_28 rfl ?_
  refine r_ldcw (n := 32) dJ6_bitCount_0f7a4_29 k_J6_bitCount_0f7a4_267 rfl ?_
  refine r_iand (n := 33) dJ6_bitCount_0f7a4_32 rfl ?_
  refine r_is0 (n := 34) (by decide) rfl dJ6_bitCount_0f7a4_33 rfl ?_
  refine r_il0 (n := 35) dJ6_bitCount_0f7a4_34 rfl ?_
  refine r_il0 (n := 36) dJ6_bitCount_0f7a4_35 rfl ?_
  refine r_bipush (v := 8) (n := 38) dJ6_bitCount_0f7a4_36 (by decide) rfl ?_
  refine r_iushr (n := 39) dJ6_bitCount_0f7a4_38 rfl ?_
  refine r_iadd (n := 40) dJ6_bitCount_0f7a4_39 rfl ?_
  refine r_is0 (n := 41) (by decide) rfl dJ6_bitCount_0f7a4_40 rfl ?_
  refine r_il0 (n := 42) dJ6_bitCount_0f7a4_41 rfl ?_
  refine r_il0 (n := 43) dJ6_bitCount_0f7a4_42 rfl ?_
  refine r_bipush (v := 16) (n := 45) dJ6_bitCount_0f7a4_43 (by decide) rfl ?_
  refine r_iushr (n := 46) dJ6_bitCount_0f7a4_45 rfl ?_
  refine r_iadd (n := 47) dJ6_bitCount_0f7a4_46 rfl ?_
  refine r_is0 (n := 48) (by decide) rfl dJ6_bitCount_0f7a4_47 rfl ?_
  refine r_il0 (n := 49) dJ6_bitCount_0f7a4_48 rfl ?_
  refine r_bipush (v := 63) (n := 51) dJ6_bitCount_0f7a4_49 (by decide) rfl ?_
  refine r_iand (n := 52) dJ6_bitCount_0f7a4_51 rfl ?_
  exact e_i dJ6_bitCount_0f7a4_52 rfl rfl rfl

set_option maxHeartbeats 4000000 in
set_option maxRecDepth 100000 in
theorem l_X2_coldSet {p : Nat} (hp : p < 6) {N : Nat} (hN : M.1 p 0 = nI N) (h8 : N ≤ 8)  : ∀ (m i : Nat), i + m = N → P_X2_coldSet cA ad D 4 [some (.ref (ad (6 + 10 * p))), some (.int (csN (M.1 p) i)), some (.int (nI i)), none] [] M (Ri (csN (M.1 p) N) M) := by
  intro m
  induction m with
  | zero =>
    intro i hi
    have hi2 : i = N := by omega
    subst hi2
    refine r_il2 (n := 5) dX2_coldSet_4 rfl ?_
    refine r_al0 (n := 6) dX2_coldSet_5 rfl ?_
    refine g_st_smithyCount (n := 9) (by first | assumption | omega) in_X2_coldSet_wsX20 k_X2_coldSet_37 dX2_coldSet_6 rfl ?_
    refine r_icmp_ge (tgt := 45) (n := 12) dX2_coldSet_9 (by decide) rfl (fun c_9 => ?_) (fun c_9 => ?_)
    · refine r_il1 (n := 46) dX2_coldSet_45 rfl ?_
      exact e_i dX2_coldSet_46 rfl rfl rfl
    · exact absurd c_9 (fun h => h (by rw [hN]; exact nI_le (Nat.le_refl _) (by omega)))
  | succ m ih =>
    intro i hi
    refine r_il2 (n := 5) dX2_coldSet_4 rfl ?_
    refine r_al0 (n := 6) dX2_coldSet_5 rfl ?_
    refine g_st_smithyCount (n := 9) (by first | assumption | omega) in_X2_coldSet_wsX20 k_X2_coldSet_37 dX2_coldSet_6 rfl ?_
    refine r_icmp_ge (tgt := 45) (n := 12) dX2_coldSet_9 (by decide) rfl (fun c_9 => ?_) (fun c_9 => ?_)
    · exact absurd c_9 (by rw [hN]; exact nI_ge (by omega) (by omega))
    · refine r_al0 (n := 13) dX2_coldSet_12 rfl ?_
      refine r_il2 (n := 14) dX2_coldSet_13 rfl ?_
      refine cV_a (n := 17) (np := 1) (m_X2_find_s (N := N) (k := i) (by first | assumption | omega) hN h8 (by first | assumption | omega)) gX2_coldSet_X2_find rfl (by decide +kernel) rfl (by decide) (by decide) (by omega) (cell_st cA ad _ (by first | assumption | omega)) rfl dX2_coldSet_14 rfl rfl (Nat.le_of_ble_eq_true rfl) ?_
      refine r_as3 (n := 18) (by decide) rfl dX2_coldSet_17 rfl ?_
      refine r_al3 (n := 19) dX2_coldSet_18 rfl ?_
      refine r_ifnull (n := 22) dX2_coldSet_19 rfl ?_
      refine r_al0 (n := 23) dX2_coldSet_22 rfl ?_
      refine r_al3 (n := 24) dX2_coldSet_23 rfl ?_
      refine g_sm_heat (n := 27) (by first | assumption | omega) (by first | assumption | omega) in_X2_coldSet_wsX10 k_X2_coldSet_113 dX2_coldSet_24 rfl ?_
      refine cV_i (n := 30) (np := 1) (m_X2_isCold (by assumption)) gX2_coldSet_X2_isCold rfl (by decide +kernel) rfl (by decide) (by decide) (by omega) (cell_st cA ad _ (by first | assumption | omega)) rfl dX2_coldSet_27 rfl rfl (Nat.le_of_ble_eq_true rfl) ?_
      refine r_if_eq (tgt := 39) (n := 33) dX2_coldSet_30 (by decide) rfl (fun c_30 => ?_) (fun c_30 => ?_)
      · try replace c_30 := i10 c_30
        refine r_ii2 (n := 42) (by decide) rfl dX2_coldSet_39 (nI_inc _) rfl ?_
        refine r_goto (tgt := 4) dX2_coldSet_42 (by decide) ?_
        refine r_dr3 ?_
        have e : csN (M.1 p) (i + 1) = _ := rfl
        first
          | (have h := ih (i + 1) (by omega); simp only [csN, c_30, if_true, if_false] at h; exact h)
      · try replace c_30 := i11 c_30
        refine r_il1 (n := 34) dX2_coldSet_33 rfl ?_
        refine r_iconst (v := 1) (n := 35) dX2_coldSet_34 (by decide) rfl ?_
        refine r_il2 (n := 36) dX2_coldSet_35 rfl ?_
        refine r_ishl (n := 37) dX2_coldSet_36 rfl ?_
        refine r_ior (n := 38) dX2_coldSet_37 rfl ?_
        refine r_is1 (n := 39) (by decide) rfl dX2_coldSet_38 rfl ?_
        refine r_ii2 (n := 42) (by decide) rfl dX2_coldSet_39 (nI_inc _) rfl ?_
        refine r_goto (tgt := 4) dX2_coldSet_42 (by decide) ?_
        refine r_dr3 ?_
        have e : csN (M.1 p) (i + 1) = _ := rfl
        first
          | (have h := ih (i + 1) (by omega); simp only [csN, c_30, if_true, if_false] at h; exact h)

set_option maxHeartbeats 4000000 in
set_option maxRecDepth 100000 in
theorem m_X2_coldSet {p : Nat} (hp : p < 6) {N : Nat} (hN : M.1 p 0 = nI N) (h8 : N ≤ 8) : C_X2_coldSet cA ad D [.ref (ad (6 + 10 * p))] M (Ri (csN (M.1 p) N) M) := by
  refine PM_of (lv := [some (.ref (ad (6 + 10 * p))), none, none, none]) (by decide +kernel) rfl (Nat.le_of_ble_eq_true rfl) rfl ?_
  refine r_iconst (v := 0) (n := 1) dX2_coldSet_0 (by decide) rfl ?_
  refine r_is1 (n := 2) (by decide) rfl dX2_coldSet_1 rfl ?_
  refine r_iconst (v := 0) (n := 3) dX2_coldSet_2 (by decide) rfl ?_
  refine r_is2 (n := 4) (by decide) rfl dX2_coldSet_3 rfl ?_
  exact l_X2_coldSet hp hN h8 N 0 (by omega)

set_option maxHeartbeats 4000000 in
set_option maxRecDepth 100000 in
theorem l_X2_debtsTogether {p : Nat} (hp : p < 6) {N : Nat} (hN : M.1 p 0 = nI N) (h8 : N ≤ 8)  : ∀ (m i : Nat), i + m = N → P_X2_debtsTogether cA ad D 4 [some (.ref (ad (6 + 10 * p))), some (.int (sumN (M.1 p) 5 i)), some (.int (nI i)), none] [] M (Ri (sumN (M.1 p) 5 N) M) := by
  intro m
  induction m with
  | zero =>
    intro i hi
    have hi2 : i = N := by omega
    subst hi2
    refine r_il2 (n := 5) dX2_debtsTogether_4 rfl ?_
    refine r_al0 (n := 6) dX2_debtsTogether_5 rfl ?_
    refine g_st_smithyCount (n := 9) (by first | assumption | omega) in_X2_debtsTogether_wsX20 k_X2_debtsTogether_37 dX2_debtsTogether_6 rfl ?_
    refine r_icmp_ge (tgt := 35) (n := 12) dX2_debtsTogether_9 (by decide) rfl (fun c_9 => ?_) (fun c_9 => ?_)
    · refine r_il1 (n := 36) dX2_debtsTogether_35 rfl ?_
      exact e_i dX2_debtsTogether_36 rfl rfl rfl
    · exact absurd c_9 (fun h => h (by rw [hN]; exact nI_le (Nat.le_refl _) (by omega)))
  | succ m ih =>
    intro i hi
    refine r_il2 (n := 5) dX2_debtsTogether_4 rfl ?_
    refine r_al0 (n := 6) dX2_debtsTogether_5 rfl ?_
    refine g_st_smithyCount (n := 9) (by first | assumption | omega) in_X2_debtsTogether_wsX20 k_X2_debtsTogether_37 dX2_debtsTogether_6 rfl ?_
    refine r_icmp_ge (tgt := 35) (n := 12) dX2_debtsTogether_9 (by decide) rfl (fun c_9 => ?_) (fun c_9 => ?_)
    · exact absurd c_9 (by rw [hN]; exact nI_ge (by omega) (by omega))
    · refine r_al0 (n := 13) dX2_debtsTogether_12 rfl ?_
      refine r_il2 (n := 14) dX2_debtsTogether_13 rfl ?_
      refine cV_a (n := 17) (np := 1) (m_X2_find_s (N := N) (k := i) (by first | assumption | omega) hN h8 (by first | assumption | omega)) gX2_debtsTogether_X2_find rfl (by decide +kernel) rfl (by decide) (by decide) (by omega) (cell_st cA ad _ (by first | assumption | omega)) rfl dX2_debtsTogether_14 rfl rfl (Nat.le_of_ble_eq_true rfl) ?_
      refine r_as3 (n := 18) (by decide) rfl dX2_debtsTogether_17 rfl ?_
      refine r_al3 (n := 19) dX2_debtsTogether_18 rfl ?_
      refine r_ifnull (n := 22) dX2_debtsTogether_19 rfl ?_
      refine r_il1 (n := 23) dX2_debtsTogether_22 rfl ?_
      refine r_al3 (n := 24) dX2_debtsTogether_23 rfl ?_
      refine g_sm_debt (n := 27) (by first | assumption | omega) (by first | assumption | omega) in_X2_debtsTogether_wsX10 k_X2_debtsTogether_100 dX2_debtsTogether_24 rfl ?_
      refine r_iadd (n := 28) dX2_debtsTogether_27 rfl ?_
      refine r_is1 (n := 29) (by decide) rfl dX2_debtsTogether_28 rfl ?_
      refine r_ii2 (n := 32) (by decide) rfl dX2_debtsTogether_29 (nI_inc _) rfl ?_
      refine r_goto (tgt := 4) dX2_debtsTogether_32 (by decide) ?_
      refine r_dr3 ?_
      exact ih (i + 1) (by omega)

set_option maxHeartbeats 4000000 in
set_option maxRecDepth 100000 in
theorem m_X2_debtsTogether {p : Nat} (hp : p < 6) {N : Nat} (hN : M.1 p 0 = nI N) (h8 : N ≤ 8) : C_X2_debtsTogether cA ad D [.ref (ad (6 + 10 * p))] M (Ri (sumN (M.1 p) 5 N) M) := by
  refine PM_of (lv := [some (.ref (ad (6 + 10 * p))), none, none, none]) (by decide +kernel) rfl (Nat.le_of_ble_eq_true rfl) rfl ?_
  refine r_iconst (v := 0) (n := 1) dX2_debtsTogether_0 (by decide) rfl ?_
  refine r_is1 (n := 2) (by decide) rfl dX2_debtsTogether_1 rfl ?_
  refine r_iconst (v := 0) (n := 3) dX2_debtsTogether_2 (by decide) rfl ?_
  refine r_is2 (n := 4) (by decide) rfl dX2_debtsTogether_3 rfl ?_
  exact l_X2_debtsTogether hp hN h8 N 0 (by omega)

end STATES2
end
section
/-! ===== more plain functions ===== -/
theorem dayU_j (u : Vec) (k j : Nat) (h8 : j ≠ 8) (h : j < 14) : dayU u k j = u j := by
  simp (disch := omega) only [dayU, upd_ne]
theorem daysU_j (u : Vec) (k j : Nat) (h8 : j ≠ 8) (h : j < 14) : ∀ d, daysU u k d j = u j
  | 0 => rfl
  | d + 1 => by rw [daysU, dayU_j _ _ _ h8 h, daysU_j u k j h8 h d]
theorem allU_j (u : Vec) (d j : Nat) (h8 : j ≠ 8) (h : j < 14) : ∀ n, allU u d n j = u j
  | 0 => rfl
  | n + 1 => by rw [allU, daysU_j _ _ _ h8 h, allU_j u d j h8 h n]
def endS (u : Vec) (n : Nat) (v : Int32) : Int32 × Vec := if v < 1 then (IA, u) else if v ≤ 99 then (if u 1 + v ≤ 9999 then (bitc (csN (endU u n v.toNatClampNeg) n), endU u n v.toNatClampNeg) else (LR, u)) else (IA, u)
theorem small_nI {v : Int32} (h1 : ¬ v < 1) (h2 : v ≤ 99) : ∃ d : Nat, d ≤ 99 ∧ v = nI d ∧ v.toNatClampNeg = d := by
  have h0 : ¬ v < 0 := fun h => h1 (Int32.lt_trans h (by decide))
  obtain ⟨j, hj, rfl⟩ := nI_of2 (n := 99) (M := 99) rfl h0 h2
  exact ⟨j, hj, rfl, nI_clamp (by omega)⟩
/-- the days ahead until it is cold: m days are still looked at, the next is the day e -/
def cdL (c z : Int32) : Nat → Nat → Int32 → Int32 → Int32
  | 0, _, _, _ => 201
  | m + 1, e, w, h => if heatD h (wearD w z) < c then nI e else cdL c z m (e + 1) (wearD w z) (heatD h (wearD w z))
def cda (u : Vec) (k : Nat) : Int32 := if u (14 + 8 * k + 3) < u 10 then 0 else cdL (u 10) (u (14 + 8 * k + 1)) 200 1 (u (14 + 8 * k + 2)) (u (14 + 8 * k + 3))
/-- whether the smithy k comes before the smithy i -/
def cbf (u : Vec) (k i : Nat) : Int32 := if cda u k = cda u i then (if u (14 + 8 * k + 2) = u (14 + 8 * i + 2) then (if absI (u (14 + 8 * i) - u 2) ≤ absI (u (14 + 8 * k) - u 2) then 0 else 1) else (if u (14 + 8 * k + 2) ≤ u (14 + 8 * i + 2) then 0 else 1)) else (if cda u i ≤ cda u k then 0 else 1)
/-- the smithy that should be next among the first n -/
def nxo (u : Vec) : Nat → Option Nat
  | 0 => none
  | i + 1 => if u (14 + 8 * i + 2) ≤ 0 then nxo u i else match nxo u i with
    | none => some i
    | some b => if cbf u i b = 0 then some b else some i
def nxI (o : Option Nat) : Int32 := match o with
  | none => NF
  | some b => nI b
def nxR (ad : Nat → Nat) (p : Nat) (o : Option Nat) : Value := match o with
  | none => .null
  | some b => .ref (ad (8 + 10 * p + b))
theorem nxo_lt (u : Vec) : ∀ (n b : Nat), nxo u n = some b → b < n
  | 0, b, h => by cases h
  | i + 1, b, h => by
    rw [nxo] at h
    split at h
    · have := nxo_lt u i b h; omega
    · cases hq : nxo u i with
      | none =>
        rw [hq] at h
        dsimp only at h
        cases h; omega
      | some c =>
        rw [hq] at h
        dsimp only at h
        have hc := nxo_lt u i c hq
        split at h
        · cases h; omega
        · cases h; omega
def frs (u : Vec) (s : Int32) : Nat → Int32 × Int32
  | 0 => (-1, 100)
  | i + 1 => if s &&& ((1 : Int32) <<< (nI i &&& 31)) = 0 then frs u s i else if (frs u s i).2 ≤ u (14 + 8 * i) then frs u s i else (nI i, u (14 + 8 * i))
theorem fb_asIx (x : Int32) : Int32.ofInt x.toInt = x := Int32.ofInt_toInt x
theorem toInt_of_lit (x : Int32) (n : Nat) (hn : n < 2 ^ 31) (h : x.toInt = (n : Int)) : x = nI n := by
  rw [← fb_asIx x, h]
  rfl
/-- a switch over lo..hi falls to its default -/
theorem sw_out {x : Int32} {lo hi : Int} (h0 : 0 ≤ lo) (h9 : hi < 2147483648) (h : ∀ k : Nat, lo ≤ (k : Int) → (k : Int) ≤ hi → ¬ x = nI k) : x.toInt < lo ∨ hi < x.toInt := by
  by_cases h1 : x.toInt < lo
  · exact Or.inl h1
  · by_cases h2 : hi < x.toInt
    · exact Or.inr h2
    · exfalso
      have e : ((x.toInt.toNat : Nat) : Int) = x.toInt := by omega
      exact h x.toInt.toNat (by omega) (by omega) (toInt_of_lit x _ (by omega) e.symm)
end
section
/-! ===== the class's states, loops ===== -/
section STATES3
variable {cA : Nat → ClassId} {ad : Nat → Nat} {D : va_G} {M : Mem}
set_option maxHeartbeats 4000000 in
set_option maxRecDepth 100000 in
theorem m_X2_addSmithy {p : Nat} (hp : p < 6) {N : Nat} (hN : M.1 p 0 = nI N) (h8 : N ≤ 8) {v w : Int32} : C_X2_addSmithy cA ad D [.ref (ad (6 + 10 * p)), .int v, .int w] M (Ri (addS (M.1 p) N v w).1 (setp M p (addS (M.1 p) N v w).2)) := by
  refine PM_of (lv := [some (.ref (ad (6 + 10 * p))), some (.int v), some (.int w), none, none]) (by decide +kernel) rfl (Nat.le_of_ble_eq_true rfl) rfl ?_
  refine r_il1 (n := 1) dX2_addSmithy_0 rfl ?_
  refine r_if_lt (tgt := 21) (n := 4) dX2_addSmithy_1 (by decide) rfl (fun c_1 => ?_) (fun c_1 => ?_)
  · refine r_ldc (n := 23) dX2_addSmithy_21 k_X2_addSmithy_69 rfl ?_
    exact e_i dX2_addSmithy_23 rfl (by simp only [addS, *, if_true, if_false]) (by simp only [addS, *, if_true, if_false]; rw [setp_self])
  · refine r_il1 (n := 5) dX2_addSmithy_4 rfl ?_
    refine r_bipush (v := 99) (n := 7) dX2_addSmithy_5 (by decide) rfl ?_
    refine r_icmp_gt (tgt := 21) (n := 10) dX2_addSmithy_7 (by decide) rfl (fun c_7 => ?_) (fun c_7 => ?_)
    · refine r_ldc (n := 23) dX2_addSmithy_21 k_X2_addSmithy_69 rfl ?_
      exact e_i dX2_addSmithy_23 rfl (by simp only [addS, *, if_true, if_false]) (by simp only [addS, *, if_true, if_false]; rw [setp_self])
    · refine r_il2 (n := 11) dX2_addSmithy_10 rfl ?_
      refine r_iconst (v := 1) (n := 12) dX2_addSmithy_11 (by decide) rfl ?_
      refine r_icmp_lt (tgt := 21) (n := 15) dX2_addSmithy_12 (by decide) rfl (fun c_12 => ?_) (fun c_12 => ?_)
      · refine r_ldc (n := 23) dX2_addSmithy_21 k_X2_addSmithy_69 rfl ?_
        exact e_i dX2_addSmithy_23 rfl (by simp only [addS, *, if_true, if_false]) (by simp only [addS, *, if_true, if_false]; rw [setp_self])
      · refine r_il2 (n := 16) dX2_addSmithy_15 rfl ?_
        refine r_bipush (v := 9) (n := 18) dX2_addSmithy_16 (by decide) rfl ?_
        refine r_icmp_le (tgt := 24) (n := 21) dX2_addSmithy_18 (by decide) rfl (fun c_18 => ?_) (fun c_18 => ?_)
        · refine r_al0 (n := 25) dX2_addSmithy_24 rfl ?_
          refine g_st_smithyCount (n := 28) (by first | assumption | omega) in_X2_addSmithy_wsX20 k_X2_addSmithy_37 dX2_addSmithy_25 rfl ?_
          refine r_bipush (v := 8) (n := 30) dX2_addSmithy_28 (by decide) rfl ?_
          refine r_icmp_lt (tgt := 36) (n := 33) dX2_addSmithy_30 (by decide) rfl (fun c_30 => ?_) (fun c_30 => ?_)
          · rw [hN] at c_30
            have hlt : N < 8 := (nI_ltI (by omega) (by decide)).mp (show nI N < nI 8 from c_30)
            refine r_al0 (n := 37) dX2_addSmithy_36 rfl ?_
            refine g_st_smithyCount (n := 40) (by first | assumption | omega) in_X2_addSmithy_wsX20 k_X2_addSmithy_37 dX2_addSmithy_37 rfl ?_
            rw [hN]
            refine r_is3 (n := 41) (by decide) rfl dX2_addSmithy_40 rfl ?_
            refine r_al0 (n := 42) dX2_addSmithy_41 rfl ?_
            refine r_dup (n := 43) dX2_addSmithy_42 rfl rfl ?_
            refine g_st_smithyCount (n := 46) (by first | assumption | omega) in_X2_addSmithy_wsX20 k_X2_addSmithy_37 dX2_addSmithy_43 rfl ?_
            refine r_iconst (v := 1) (n := 47) dX2_addSmithy_46 (by decide) rfl ?_
            refine r_iadd (n := 48) dX2_addSmithy_47 rfl ?_
            refine p_st_smithyCount (n := 51) (by first | assumption | omega) in_X2_addSmithy_wsX20 k_X2_addSmithy_37 dX2_addSmithy_48 rfl ?_
            refine r_al0 (n := 52) dX2_addSmithy_51 rfl ?_
            refine r_il3 (n := 53) dX2_addSmithy_52 rfl ?_
            refine cV_a (n := 56) (np := 1) (m_X2_find_s (N := N + 1) (k := N) (by assumption) (by rw [mput_eq, upd_at, hN]; exact nI_1 N) (by omega) (by omega)) gX2_addSmithy_X2_find rfl (by decide +kernel) rfl (by decide) (by decide) (by omega) (cell_st cA ad _ (by first | assumption | omega)) rfl dX2_addSmithy_53 rfl rfl (Nat.le_of_ble_eq_true rfl) ?_
            refine r_as4 (n := 58) (by decide) rfl dX2_addSmithy_56 rfl ?_
            refine r_al4 (n := 60) dX2_addSmithy_58 rfl ?_
            refine r_ifnull (n := 63) dX2_addSmithy_60 rfl ?_
            refine r_al4 (n := 65) dX2_addSmithy_63 rfl ?_
            refine r_il1 (n := 66) dX2_addSmithy_65 rfl ?_
            refine r_il2 (n := 67) dX2_addSmithy_66 rfl ?_
            refine cV_v (n := 70) (np := 2) (m_X1_beginAt (by assumption) (by omega)) gX2_addSmithy_X1_beginAt rfl (by decide +kernel) rfl (by decide) (by decide) (by omega) (cell_sm cA ad _ (by first | assumption | omega) (by first | assumption | omega)) rfl dX2_addSmithy_67 rfl rfl (Nat.le_of_ble_eq_true rfl) ?_
            refine r_il3 (n := 71) dX2_addSmithy_70 rfl ?_
            exact e_i dX2_addSmithy_71 rfl (by simp only [addS, *, if_true, if_false]) (by simp only [addS, *, if_true, if_false]; simp only [mput_s, setp_at, setp_2, addU, hN])
          · rw [hN] at c_30
            refine r_ldc (n := 35) dX2_addSmithy_33 k_X2_addSmithy_70 rfl ?_
            exact e_i dX2_addSmithy_35 rfl (by simp only [addS, *, if_true, if_false]) (by simp only [addS, *, if_true, if_false]; rw [setp_self])
        · refine r_ldc (n := 23) dX2_addSmithy_21 k_X2_addSmithy_69 rfl ?_
          exact e_i dX2_addSmithy_23 rfl (by simp only [addS, *, if_true, if_false]) (by simp only [addS, *, if_true, if_false]; rw [setp_self])

set_option maxHeartbeats 4000000 in
set_option maxRecDepth 100000 in
theorem li_X2_endDays {p k d : Nat} (hp : p < 6) (hk : k < 8) (hd : d ≤ 99) {Q : QT} {M : Mem} (w : Vec) (K : P_X2_endDays cA ad D 69 [some (.ref (ad (6 + 10 * p))), some (.int (nI d)), some (.int (nI k)), some (.ref (ad (8 + 10 * p + k))), some (.int (nI d))] [] (setp M p (daysU w k d)) Q) : ∀ (m e : Nat), e + m = d →
    P_X2_endDays cA ad D 48 [some (.ref (ad (6 + 10 * p))), some (.int (nI d)), some (.int (nI k)), some (.ref (ad (8 + 10 * p + k))), some (.int (nI e))] [] (setp M p (daysU w k e)) Q := by
  intro m
  induction m with
  | zero =>
    intro e he
    have he2 : e = d := by omega
    subst he2
    refine r_il4 (n := 50) dX2_endDays_48 rfl ?_
    refine r_il1 (n := 51) dX2_endDays_50 rfl ?_
    refine r_icmp_ge (tgt := 69) (n := 54) dX2_endDays_51 (by decide) rfl (fun c_51 => ?_) (fun c_51 => ?_)
    · exact K
    · exact absurd c_51 (fun h => h (nI_le (Nat.le_refl _) (by omega)))
  | succ m ih =>
    intro e he
    refine r_il4 (n := 50) dX2_endDays_48 rfl ?_
    refine r_il1 (n := 51) dX2_endDays_50 rfl ?_
    refine r_icmp_ge (tgt := 69) (n := 54) dX2_endDays_51 (by decide) rfl (fun c_51 => ?_) (fun c_51 => ?_)
    · exact absurd c_51 (nI_ge (by omega) (by omega))
    · refine r_al3 (n := 55) dX2_endDays_54 rfl ?_
      refine r_ifnull (n := 58) dX2_endDays_55 rfl ?_
      refine r_al0 (n := 59) dX2_endDays_58 rfl ?_
      refine r_al3 (n := 60) dX2_endDays_59 rfl ?_
      refine cV_v (n := 63) (np := 1) (m_X2_endDayOf (by assumption) hk) gX2_endDays_X2_endDayOf rfl (by decide +kernel) rfl (by decide) (by decide) (by omega) (cell_st cA ad _ (by assumption)) rfl dX2_endDays_60 rfl rfl (Nat.le_of_ble_eq_true rfl) ?_
      simp only [setp_at, setp_2]
      refine r_ii4 (n := 66) (by decide) rfl dX2_endDays_63 (nI_inc _) rfl ?_
      refine r_goto (tgt := 48) dX2_endDays_66 (by decide) ?_
      rw [show dayU (daysU w k e) k = daysU w k (e + 1) from rfl]
      exact ih (e + 1) (by omega)

set_option maxHeartbeats 4000000 in
set_option maxRecDepth 100000 in
theorem lo_X2_endDays {p d N : Nat} (hp : p < 6) (hd : d ≤ 99) (u : Vec) (hN : u 0 = nI N) (h8 : N ≤ 8) {Q : QT} {M : Mem} (K : P_X2_endDays cA ad D 75 [some (.ref (ad (6 + 10 * p))), some (.int (nI d)), some (.int (nI N)), none, none] [] (setp M p (allU u d N)) Q) : ∀ (m i : Nat), i + m = N →
    P_X2_endDays cA ad D 31 [some (.ref (ad (6 + 10 * p))), some (.int (nI d)), some (.int (nI i)), none, none] [] (setp M p (allU u d i)) Q := by
  have hc : ∀ i, allU u d i 0 = nI N := fun i => by rw [allU_j _ _ _ (by decide) (by decide)]; exact hN
  intro m
  induction m with
  | zero =>
    intro i hi
    have hi2 : i = N := by omega
    subst hi2
    refine r_il2 (n := 32) dX2_endDays_31 rfl ?_
    refine r_al0 (n := 33) dX2_endDays_32 rfl ?_
    refine g_st_smithyCount (n := 36) (by first | assumption | omega) in_X2_endDays_wsX20 k_X2_endDays_37 dX2_endDays_33 rfl ?_
    refine r_icmp_ge (tgt := 75) (n := 39) dX2_endDays_36 (by decide) rfl (fun c_36 => ?_) (fun c_36 => ?_)
    · exact K
    · exact absurd c_36 (fun h => h (by rw [setp_at, hc]; exact nI_le (Nat.le_refl _) (by omega)))
  | succ m ih =>
    intro i hi
    refine r_il2 (n := 32) dX2_endDays_31 rfl ?_
    refine r_al0 (n := 33) dX2_endDays_32 rfl ?_
    refine g_st_smithyCount (n := 36) (by first | assumption | omega) in_X2_endDays_wsX20 k_X2_endDays_37 dX2_endDays_33 rfl ?_
    refine r_icmp_ge (tgt := 75) (n := 39) dX2_endDays_36 (by decide) rfl (fun c_36 => ?_) (fun c_36 => ?_)
    · exact absurd c_36 (by rw [setp_at, hc]; exact nI_ge (by omega) (by omega))
    · refine r_al0 (n := 40) dX2_endDays_39 rfl ?_
      refine r_il2 (n := 41) dX2_endDays_40 rfl ?_
      refine cV_a (n := 44) (np := 1) (m_X2_find_s (N := N) (k := i) (by assumption) (by rw [setp_at, hc]) h8 (by omega)) gX2_endDays_X2_find rfl (by decide +kernel) rfl (by decide) (by decide) (by omega) (cell_st cA ad _ (by first | assumption | omega)) rfl dX2_endDays_41 rfl rfl (Nat.le_of_ble_eq_true rfl) ?_
      refine r_as3 (n := 45) (by decide) rfl dX2_endDays_44 rfl ?_
      refine r_iconst (v := 0) (n := 46) dX2_endDays_45 (by decide) rfl ?_
      refine r_is4 (n := 48) (by decide) rfl dX2_endDays_46 rfl ?_
      exact li_X2_endDays hp (by omega) hd (allU u d i) (by
        refine r_ii2 (n := 72) (by decide) rfl dX2_endDays_69 (nI_inc _) rfl ?_
        refine r_goto (tgt := 31) dX2_endDays_72 (by decide) ?_
        refine r_dr3 ?_
        refine r_dr4 ?_
        exact ih (i + 1) (by omega)) d 0 (by omega)

set_option maxHeartbeats 4000000 in
set_option maxRecDepth 100000 in
theorem m_X2_endDays {p : Nat} (hp : p < 6) {N : Nat} (hN : M.1 p 0 = nI N) (h8 : N ≤ 8) {v : Int32} : C_X2_endDays cA ad D [.ref (ad (6 + 10 * p)), .int v] M (Ri (endS (M.1 p) N v).1 (setp M p (endS (M.1 p) N v).2)) := by
  refine PM_of (lv := [some (.ref (ad (6 + 10 * p))), some (.int v), none, none, none]) (by decide +kernel) rfl (Nat.le_of_ble_eq_true rfl) rfl ?_
  refine r_il1 (n := 1) dX2_endDays_0 rfl ?_
  refine r_iconst (v := 1) (n := 2) dX2_endDays_1 (by decide) rfl ?_
  refine r_icmp_lt (tgt := 11) (n := 5) dX2_endDays_2 (by decide) rfl (fun c_2 => ?_) (fun c_2 => ?_)
  · refine r_ldc (n := 13) dX2_endDays_11 k_X2_endDays_69 rfl ?_
    exact e_i dX2_endDays_13 rfl (by simp only [endS, *, if_true, if_false]) (by simp only [endS, *, if_true, if_false]; rw [setp_self])
  · refine r_il1 (n := 6) dX2_endDays_5 rfl ?_
    refine r_bipush (v := 99) (n := 8) dX2_endDays_6 (by decide) rfl ?_
    refine r_icmp_le (tgt := 14) (n := 11) dX2_endDays_8 (by decide) rfl (fun c_8 => ?_) (fun c_8 => ?_)
    · refine r_al0 (n := 15) dX2_endDays_14 rfl ?_
      refine g_st_day (n := 18) (by first | assumption | omega) in_X2_endDays_wsX20 k_X2_endDays_40 dX2_endDays_15 rfl ?_
      refine r_il1 (n := 19) dX2_endDays_18 rfl ?_
      refine r_iadd (n := 20) dX2_endDays_19 rfl ?_
      refine r_sipush (v := 9999) (n := 23) dX2_endDays_20 (by decide) rfl ?_
      refine r_icmp_le (tgt := 29) (n := 26) dX2_endDays_23 (by decide) rfl (fun c_23 => ?_) (fun c_23 => ?_)
      · refine r_iconst (v := 0) (n := 30) dX2_endDays_29 (by decide) rfl ?_
        refine r_is2 (n := 31) (by decide) rfl dX2_endDays_30 rfl ?_
        obtain ⟨d, hd, hv, hcl⟩ := small_nI c_2 c_8
        subst hv
        refine pw_mem (setp_self M p).symm ?_
        refine lo_X2_endDays hp hd (M.1 p) hN h8 ?_ N 0 (by omega)
        have eN : ∀ j, j ≠ 8 → j < 14 → (setp M p (allU (M.1 p) d N)).1 p j = M.1 p j := fun j h1 h2 => by rw [setp_at, allU_j _ _ _ h1 h2]
        refine r_al0 (n := 76) dX2_endDays_75 rfl ?_
        refine r_dup (n := 77) dX2_endDays_76 rfl rfl ?_
        refine g_st_day (n := 80) (by first | assumption | omega) in_X2_endDays_wsX20 k_X2_endDays_40 dX2_endDays_77 rfl ?_
        refine r_il1 (n := 81) dX2_endDays_80 rfl ?_
        refine r_iadd (n := 82) dX2_endDays_81 rfl ?_
        refine p_st_day (n := 85) (by first | assumption | omega) in_X2_endDays_wsX20 k_X2_endDays_40 dX2_endDays_82 rfl ?_
        refine r_al0 (n := 86) dX2_endDays_85 rfl ?_
        refine r_al0 (n := 87) dX2_endDays_86 rfl ?_
        refine g_st_hours (n := 90) (by first | assumption | omega) in_X2_endDays_wsX20 k_X2_endDays_21 dX2_endDays_87 rfl ?_
        refine p_st_hoursLeft (n := 93) (by first | assumption | omega) in_X2_endDays_wsX20 k_X2_endDays_30 dX2_endDays_90 rfl ?_
        refine r_al0 (n := 94) dX2_endDays_93 rfl ?_
        rw [eN 1 (by decide) (by decide)]
        simp (disch := omega) only [mput_s, setp_at, setp_2, upd_at, upd_ne]
        rw [allU_j _ _ 11 (by decide) (by decide)]
        refine cV_i (n := 97) (np := 0) (m_X2_coldSet (by assumption) (N := N) (by rw [setp_at, upd_ne _ _ (by decide), upd_ne _ _ (by decide), allU_j _ _ _ (by decide) (by decide)]; exact hN) h8) gX2_endDays_X2_coldSet rfl (by decide +kernel) rfl (by decide) (by decide) (by omega) (cell_st cA ad _ (by assumption)) rfl dX2_endDays_94 rfl rfl (Nat.le_of_ble_eq_true rfl) ?_
        refine cS_i (n := 100) (np := 1) (m_J6_bitCount_0f7a4) gX2_endDays_J6_bitCount_0f7a4 rfl (by decide +kernel) rfl (by decide) (by decide) dX2_endDays_97 rfl rfl (Nat.le_of_ble_eq_true rfl) ?_
        exact e_i dX2_endDays_100 rfl (by simp only [endS, hcl, *, if_true, if_false, setp_at]; rfl) (by simp only [endS, hcl, *, if_true, if_false]; rfl)
      · refine r_ldc (n := 28) dX2_endDays_26 k_X2_endDays_70 rfl ?_
        exact e_i dX2_endDays_28 rfl (by simp only [endS, *, if_true, if_false]) (by simp only [endS, *, if_true, if_false]; rw [setp_self])
    · refine r_ldc (n := 13) dX2_endDays_11 k_X2_endDays_69 rfl ?_
      exact e_i dX2_endDays_13 rfl (by simp only [endS, *, if_true, if_false]) (by simp only [endS, *, if_true, if_false]; rw [setp_self])

set_option maxHeartbeats 4000000 in
set_option maxRecDepth 100000 in
theorem m_X2_isInRange {w v : Int32} : C_X2_isInRange cA ad D [.int w, .int v] M (Ri (bI (inRng w v)) M) := by
  refine PM_of (lv := [some (.int w), some (.int v)]) (by decide +kernel) rfl (Nat.le_of_ble_eq_true rfl) rfl ?_
  refine r_il0 (n := 1) dX2_isInRange_0 rfl ?_
  by_cases h_0 : w = 0
  · subst h_0
    refine r_tableIn (tgt := 32) dX2_isInRange_1 (by decide) (by decide) rfl (by decide) ?_
    refine r_il1 (n := 33) dX2_isInRange_32 rfl ?_
    refine r_iconst (v := 1) (n := 34) dX2_isInRange_33 (by decide) rfl ?_
    refine r_icmp_lt (tgt := 47) (n := 37) dX2_isInRange_34 (by decide) rfl (fun c_34 => ?_) (fun c_34 => ?_)
    · refine r_iconst (v := 0) (n := 48) dX2_isInRange_47 (by decide) rfl ?_
      exact e_z dX2_isInRange_48 rfl (by decide) (by simp_all [inRng, bI, rng]) rfl
    · refine r_il1 (n := 38) dX2_isInRange_37 rfl ?_
      refine r_bipush (v := 99) (n := 40) dX2_isInRange_38 (by decide) rfl ?_
      refine r_icmp_gt (tgt := 47) (n := 43) dX2_isInRange_40 (by decide) rfl (fun c_40 => ?_) (fun c_40 => ?_)
      · refine r_iconst (v := 0) (n := 48) dX2_isInRange_47 (by decide) rfl ?_
        exact e_z dX2_isInRange_48 rfl (by decide) (by simp_all [inRng, bI, rng]) rfl
      · refine r_iconst (v := 1) (n := 44) dX2_isInRange_43 (by decide) rfl ?_
        refine r_goto (tgt := 48) dX2_isInRange_44 (by decide) ?_
        exact e_z dX2_isInRange_48 rfl (by decide) (by simp_all [inRng, bI, rng]) rfl
  by_cases h_1 : w = 1
  · subst h_1
    refine r_tableIn (tgt := 49) dX2_isInRange_1 (by decide) (by decide) rfl (by decide) ?_
    refine r_il1 (n := 50) dX2_isInRange_49 rfl ?_
    refine r_iconst (v := 1) (n := 51) dX2_isInRange_50 (by decide) rfl ?_
    refine r_icmp_lt (tgt := 64) (n := 54) dX2_isInRange_51 (by decide) rfl (fun c_51 => ?_) (fun c_51 => ?_)
    · refine r_iconst (v := 0) (n := 65) dX2_isInRange_64 (by decide) rfl ?_
      exact e_z dX2_isInRange_65 rfl (by decide) (by simp_all [inRng, bI, rng]) rfl
    · refine r_il1 (n := 55) dX2_isInRange_54 rfl ?_
      refine r_bipush (v := 24) (n := 57) dX2_isInRange_55 (by decide) rfl ?_
      refine r_icmp_gt (tgt := 64) (n := 60) dX2_isInRange_57 (by decide) rfl (fun c_57 => ?_) (fun c_57 => ?_)
      · refine r_iconst (v := 0) (n := 65) dX2_isInRange_64 (by decide) rfl ?_
        exact e_z dX2_isInRange_65 rfl (by decide) (by simp_all [inRng, bI, rng]) rfl
      · refine r_iconst (v := 1) (n := 61) dX2_isInRange_60 (by decide) rfl ?_
        refine r_goto (tgt := 65) dX2_isInRange_61 (by decide) ?_
        exact e_z dX2_isInRange_65 rfl (by decide) (by simp_all [inRng, bI, rng]) rfl
  by_cases h_2 : w = 2
  · subst h_2
    refine r_tableIn (tgt := 66) dX2_isInRange_1 (by decide) (by decide) rfl (by decide) ?_
    refine r_il1 (n := 67) dX2_isInRange_66 rfl ?_
    refine r_if_lt (tgt := 80) (n := 70) dX2_isInRange_67 (by decide) rfl (fun c_67 => ?_) (fun c_67 => ?_)
    · refine r_iconst (v := 0) (n := 81) dX2_isInRange_80 (by decide) rfl ?_
      exact e_z dX2_isInRange_81 rfl (by decide) (by simp_all [inRng, bI, rng]) rfl
    · refine r_il1 (n := 71) dX2_isInRange_70 rfl ?_
      refine r_bipush (v := 20) (n := 73) dX2_isInRange_71 (by decide) rfl ?_
      refine r_icmp_gt (tgt := 80) (n := 76) dX2_isInRange_73 (by decide) rfl (fun c_73 => ?_) (fun c_73 => ?_)
      · refine r_iconst (v := 0) (n := 81) dX2_isInRange_80 (by decide) rfl ?_
        exact e_z dX2_isInRange_81 rfl (by decide) (by simp_all [inRng, bI, rng]) rfl
      · refine r_iconst (v := 1) (n := 77) dX2_isInRange_76 (by decide) rfl ?_
        refine r_goto (tgt := 81) dX2_isInRange_77 (by decide) ?_
        exact e_z dX2_isInRange_81 rfl (by decide) (by simp_all [inRng, bI, rng]) rfl
  by_cases h_3 : w = 3
  · subst h_3
    refine r_tableIn (tgt := 82) dX2_isInRange_1 (by decide) (by decide) rfl (by decide) ?_
    refine r_il1 (n := 83) dX2_isInRange_82 rfl ?_
    refine r_if_lt (tgt := 97) (n := 86) dX2_isInRange_83 (by decide) rfl (fun c_83 => ?_) (fun c_83 => ?_)
    · refine r_iconst (v := 0) (n := 98) dX2_isInRange_97 (by decide) rfl ?_
      exact e_z dX2_isInRange_98 rfl (by decide) (by simp_all [inRng, bI, rng]) rfl
    · refine r_il1 (n := 87) dX2_isInRange_86 rfl ?_
      refine r_sipush (v := 500) (n := 90) dX2_isInRange_87 (by decide) rfl ?_
      refine r_icmp_gt (tgt := 97) (n := 93) dX2_isInRange_90 (by decide) rfl (fun c_90 => ?_) (fun c_90 => ?_)
      · refine r_iconst (v := 0) (n := 98) dX2_isInRange_97 (by decide) rfl ?_
        exact e_z dX2_isInRange_98 rfl (by decide) (by simp_all [inRng, bI, rng]) rfl
      · refine r_iconst (v := 1) (n := 94) dX2_isInRange_93 (by decide) rfl ?_
        refine r_goto (tgt := 98) dX2_isInRange_94 (by decide) ?_
        exact e_z dX2_isInRange_98 rfl (by decide) (by simp_all [inRng, bI, rng]) rfl
  refine r_tableOut (tgt := 99) dX2_isInRange_1 (sw_out (lo := 0) (hi := 3) (by decide) (by decide) (fun k h1 h2 => by
    have hk : k = 0 ∨ k = 1 ∨ k = 2 ∨ k = 3 := by omega
    rcases hk with rfl | rfl | rfl | rfl
    · exact h_0
    · exact h_1
    · exact h_2
    · exact h_3
    )) (by decide) ?_
  refine r_iconst (v := 0) (n := 100) dX2_isInRange_99 (by decide) rfl ?_
  exact e_z dX2_isInRange_100 rfl (by decide) (by simp_all [inRng, bI, rng]) rfl

set_option maxHeartbeats 4000000 in
set_option maxRecDepth 100000 in
theorem m_X2_changeSetting {p : Nat} (hp : p < 6) {w v : Int32} : C_X2_changeSetting cA ad D [.ref (ad (6 + 10 * p)), .int w, .int v] M (Ri (setS (M.1 p) w v).1 (setp M p (setS (M.1 p) w v).2)) := by
  refine PM_of (lv := [some (.ref (ad (6 + 10 * p))), some (.int w), some (.int v), none]) (by decide +kernel) rfl (Nat.le_of_ble_eq_true rfl) rfl ?_
  refine r_il1 (n := 1) dX2_changeSetting_0 rfl ?_
  refine r_il2 (n := 2) dX2_changeSetting_1 rfl ?_
  refine cS_i (n := 5) (np := 2) (m_X2_isInRange) gX2_changeSetting_X2_isInRange rfl (by decide +kernel) rfl (by decide) (by decide) dX2_changeSetting_2 rfl rfl (Nat.le_of_ble_eq_true rfl) ?_
  refine r_if_ne (tgt := 11) (n := 8) dX2_changeSetting_5 (by decide) rfl (fun c_5 => ?_) (fun c_5 => ?_)
  · have hb := bI_1 c_5
    refine r_il1 (n := 12) dX2_changeSetting_11 rfl ?_
    by_cases h_0 : w = 0
    · subst h_0
      refine r_tableIn (tgt := 40) dX2_changeSetting_12 (by decide) (by decide) rfl (by decide) ?_
      refine r_al0 (n := 41) dX2_changeSetting_40 rfl ?_
      refine g_st_cold (n := 44) (by first | assumption | omega) in_X2_changeSetting_wsX20 k_X2_changeSetting_17 dX2_changeSetting_41 rfl ?_
      refine r_is3 (n := 45) (by decide) rfl dX2_changeSetting_44 rfl ?_
      refine r_al0 (n := 46) dX2_changeSetting_45 rfl ?_
      refine r_il2 (n := 47) dX2_changeSetting_46 rfl ?_
      refine p_st_cold (n := 50) (by first | assumption | omega) in_X2_changeSetting_wsX20 k_X2_changeSetting_17 dX2_changeSetting_47 rfl ?_
      refine r_il3 (n := 51) dX2_changeSetting_50 rfl ?_
      exact e_i dX2_changeSetting_51 rfl (by simp_all [setS]) (by simp_all [setS, mput_s])
    by_cases h_1 : w = 1
    · subst h_1
      refine r_tableIn (tgt := 52) dX2_changeSetting_12 (by decide) (by decide) rfl (by decide) ?_
      refine r_al0 (n := 53) dX2_changeSetting_52 rfl ?_
      refine g_st_hours (n := 56) (by first | assumption | omega) in_X2_changeSetting_wsX20 k_X2_changeSetting_21 dX2_changeSetting_53 rfl ?_
      refine r_is3 (n := 57) (by decide) rfl dX2_changeSetting_56 rfl ?_
      refine r_al0 (n := 58) dX2_changeSetting_57 rfl ?_
      refine r_il2 (n := 59) dX2_changeSetting_58 rfl ?_
      refine p_st_hours (n := 62) (by first | assumption | omega) in_X2_changeSetting_wsX20 k_X2_changeSetting_21 dX2_changeSetting_59 rfl ?_
      refine r_il3 (n := 63) dX2_changeSetting_62 rfl ?_
      exact e_i dX2_changeSetting_63 rfl (by simp_all [setS]) (by simp_all [setS, mput_s])
    by_cases h_2 : w = 2
    · subst h_2
      refine r_tableIn (tgt := 64) dX2_changeSetting_12 (by decide) (by decide) rfl (by decide) ?_
      refine r_al0 (n := 65) dX2_changeSetting_64 rfl ?_
      refine g_st_rate (n := 68) (by first | assumption | omega) in_X2_changeSetting_wsX20 k_X2_changeSetting_24 dX2_changeSetting_65 rfl ?_
      refine r_is3 (n := 69) (by decide) rfl dX2_changeSetting_68 rfl ?_
      refine r_al0 (n := 70) dX2_changeSetting_69 rfl ?_
      refine r_il2 (n := 71) dX2_changeSetting_70 rfl ?_
      refine p_st_rate (n := 74) (by first | assumption | omega) in_X2_changeSetting_wsX20 k_X2_changeSetting_24 dX2_changeSetting_71 rfl ?_
      refine r_il3 (n := 75) dX2_changeSetting_74 rfl ?_
      exact e_i dX2_changeSetting_75 rfl (by simp_all [setS]) (by simp_all [setS, mput_s])
    refine r_tableOut (tgt := 76) dX2_changeSetting_12 (sw_out (lo := 0) (hi := 2) (by decide) (by decide) (fun k h1 h2 => by
      have hk : k = 0 ∨ k = 1 ∨ k = 2 := by omega
      rcases hk with rfl | rfl | rfl
      · exact h_0
      · exact h_1
      · exact h_2
      )) (by decide) ?_
    refine r_al0 (n := 77) dX2_changeSetting_76 rfl ?_
    refine g_st_patience (n := 80) (by first | assumption | omega) in_X2_changeSetting_wsX20 k_X2_changeSetting_27 dX2_changeSetting_77 rfl ?_
    refine r_is3 (n := 81) (by decide) rfl dX2_changeSetting_80 rfl ?_
    refine r_al0 (n := 82) dX2_changeSetting_81 rfl ?_
    refine r_il2 (n := 83) dX2_changeSetting_82 rfl ?_
    refine p_st_patience (n := 86) (by first | assumption | omega) in_X2_changeSetting_wsX20 k_X2_changeSetting_27 dX2_changeSetting_83 rfl ?_
    refine r_il3 (n := 87) dX2_changeSetting_86 rfl ?_
    exact e_i dX2_changeSetting_87 rfl (by simp_all [setS]) (by simp_all [setS, mput_s])
  · have hb := bI_0 c_5
    refine r_ldc (n := 10) dX2_changeSetting_8 k_X2_changeSetting_69 rfl ?_
    exact e_i dX2_changeSetting_10 rfl (by simp only [setS, *]; simp) (by simp only [setS, *]; simp [setp_self])

end STATES3
end
section
/-! ===== orders, rounds ===== -/
def mendJ (u : Vec) (j : Int32) (b : Bool) : Int32 × Vec := if ¬ j < 0 ∧ j < u 0 then mendS u j.toNatClampNeg b else (IA, u)
def collJ (u : Vec) (j : Int32) : Int32 × Vec := if ¬ j < 0 ∧ j < u 0 then collS u j.toNatClampNeg else (IA, u)
theorem sm_nI {u : Vec} {j : Int32} {N : Nat} (hN : u 0 = nI N) (h8 : N ≤ 8) (h : ¬ j < 0 ∧ j < u 0) : ∃ k, k < N ∧ j = nI k ∧ j.toNatClampNeg = k := by
  obtain ⟨k, hk, rfl⟩ := nI_of h.1
  have h2 := h.2
  rw [hN] at h2
  exact ⟨k, (nI_ltI hk (by omega)).mp h2, rfl, nI_clamp hk⟩
def ordS (u : Vec) (n : Nat) (c v : Int32) : Int32 × Vec := if c = 119 then walkS u v else if c = 98 then buyS u v else if c = 112 then mendJ u v false else if c = 104 then mendJ u v true else if c = 99 then collJ u v else endS u n v
/-- the way of a round: m steps at most; the set that is left, the place, what was used -/
def rdC (u : Vec) (n : Nat) : Nat → Int32 → Int32 → Int32 × Int32 × Int32 → Int32 × Int32 × Int32
  | 0, _, _, q => q
  | m + 1, s, pl, q => if s = 0 then q else
    rdC u n m (s &&& (((1 : Int32) <<< ((frs u s n).1 &&& 31)) ^^^ (-1))) (u (14 + 8 * (frs u s n).1.toNatClampNeg))
      (if rsn u (frs u s n).1.toNatClampNeg = 0 then (q.1 + hB pl (u (14 + 8 * (frs u s n).1.toNatClampNeg)) + hM false, q.2.1 + leatherOf u (frs u s n).1.toNatClampNeg false, q.2.2 + owes u (frs u s n).1.toNatClampNeg false)
       else (q.1 + hB pl (u (14 + 8 * (frs u s n).1.toNatClampNeg)), q.2.1, q.2.2))
def rdW (q : Int32 × Int32 × Int32) (w : Int32) : Int32 := if w = 0 then q.1 else if w = 1 then q.2.1 else q.2.2
/-- every set that can be left has a smithy to go to -/
def Gd (u : Vec) (n : Nat) (P : Int32 → Prop) : Prop := ∀ s, P s → s ≠ 0 → (∃ k, k < n ∧ (frs u s n).1 = nI k) ∧ P (s &&& (((1 : Int32) <<< ((frs u s n).1 &&& 31)) ^^^ (-1)))
end
section
/-! ===== orders, the next one, rounds ===== -/
section STATES4
variable {cA : Nat → ClassId} {ad : Nat → Nat} {D : va_G} {M : Mem}
theorem m_X2_mendBellows {p : Nat} (hp : p < 6) {N : Nat} (hN : M.1 p 0 = nI N) (h8 : N ≤ 8) {j : Int32} (b : Bool) : C_X2_mendBellows cA ad D [.ref (ad (6 + 10 * p)), .int j, .int (bI b)] M (Ri (mendJ (M.1 p) j b).1 (setp M p (mendJ (M.1 p) j b).2)) := by
  by_cases h : ¬ j < 0 ∧ j < M.1 p 0
  · obtain ⟨k, hk, hj, hc⟩ := sm_nI hN h8 h
    simp only [mendJ, if_pos h, hc]
    rw [hj]
    exact m_X2_mendBellows_s hp hN h8 hk b
  · simp only [mendJ, if_neg h, setp_self]
    exact m_X2_mendBellows_n hp h b
theorem m_X2_collectDebt {p : Nat} (hp : p < 6) {N : Nat} (hN : M.1 p 0 = nI N) (h8 : N ≤ 8) {j : Int32} : C_X2_collectDebt cA ad D [.ref (ad (6 + 10 * p)), .int j] M (Ri (collJ (M.1 p) j).1 (setp M p (collJ (M.1 p) j).2)) := by
  by_cases h : ¬ j < 0 ∧ j < M.1 p 0
  · obtain ⟨k, hk, hj, hc⟩ := sm_nI hN h8 h
    simp only [collJ, if_pos h, hc]
    rw [hj]
    exact m_X2_collectDebt_s hp hN h8 hk
  · simp only [collJ, if_neg h, setp_self]
    exact m_X2_collectDebt_n hp h

end STATES4
end
section
/-! ===== the text ===== -/
def chr (tx : Vec) (t j : Nat) : Int32 := if j < t then tx j else -1
def isL (c : Int32) : Bool := if c = 98 then true else if c = 99 then true else if c = 100 then true else if c = 104 then true else if c = 112 then true else if c = 119 then true else false
/-- the digits behind the letter at s: m at most are still read, e were -/
def dgs (f : Nat → Int32) (s : Nat) : Nat → Nat → Int32 → Nat × Int32
  | 0, e, n => (e, n)
  | m + 1, e, n => if rng (f (s + 1 + e)) 48 57 = true then dgs f s m (e + 1) (n * 10 + f (s + 1 + e) - 48) else (e, n)
theorem dgs_le (f : Nat → Int32) (s : Nat) : ∀ (m e : Nat) (n : Int32), (dgs f s m e n).1 ≤ e + m
  | 0, e, n => by simp [dgs]
  | m + 1, e, n => by
    rw [dgs]
    split
    · have := dgs_le f s m (e + 1) (n * 10 + f (s + 1 + e) - 48); omega
    · show e ≤ _; omega
def roS (o : Vec) (f : Nat → Int32) (s : Nat) : Int32 × Vec :=
  if isL (f s) = true then
    (if (dgs f s 3 0 0).1 = 0 then (0, upd (upd (upd o 1 (f s)) 2 (dgs f s 3 0 0).2) 4 (1 + nI (dgs f s 3 0 0).1))
     else if f (s + 1 + (dgs f s 3 0 0).1) = 59 then (1, upd (upd (upd o 1 (f s)) 2 (dgs f s 3 0 0).2) 3 (nI (s + 2 + (dgs f s 3 0 0).1)))
     else (0, upd (upd (upd o 1 (f s)) 2 (dgs f s 3 0 0).2) 4 (1 + nI (dgs f s 3 0 0).1)))
  else (0, upd (upd o 1 (f s)) 4 0)
theorem six_out {c : Int32} (h0 : ¬ c = 98) (h1 : ¬ c = 99) (h2 : ¬ c = 100) (h3 : ¬ c = 104) (h4 : ¬ c = 112) (h5 : ¬ c = 119) {a b d e f g z : Int} : lookupswitch.offset [(98, a), (99, b), (100, d), (104, e), (112, f), (119, g)] z c.toInt = z := by
  have k : ∀ (n : Nat), n < 2 ^ 31 → ¬ c = nI n → ¬ (n : Int) = c.toInt := fun n hn h q => h (toInt_of_lit c n hn q.symm)
  have e0 : ¬ (98 : Int) = c.toInt := k 98 (by decide) h0
  have e1 : ¬ (99 : Int) = c.toInt := k 99 (by decide) h1
  have e2 : ¬ (100 : Int) = c.toInt := k 100 (by decide) h2
  have e3 : ¬ (104 : Int) = c.toInt := k 104 (by decide) h3
  have e4 : ¬ (112 : Int) = c.toInt := k 112 (by decide) h4
  have e5 : ¬ (119 : Int) = c.toInt := k 119 (by decide) h5
  simp only [lookupswitch.offset]
  rw [if_neg e0, if_neg e1, if_neg e2, if_neg e3, if_neg e4, if_neg e5]
theorem pos3 (s a e : Nat) : nI s + nI a + nI e = nI (s + a + e) := by rw [nI_add, nI_add]
end
section
/-! ===== the object's own rows ===== -/
def rot1 (r : Nat → Nat) (i : Nat) : Nat → Nat := va_up (va_up r (2 + i) (r (2 + (i + 1)))) (2 + (i + 1)) (r (2 + i))
def rot (r : Nat → Nat) : Nat → Nat := rot1 (rot1 (rot1 r 0) 1) 2
def swp (M : Mem) : Mem := (M.1, va_up (va_up M.2 0 (M.2 1)) 1 (M.2 0))
theorem rot1_lt {r : Nat → Nat} (h : ∀ i, i < 6 → r i < 6) {i : Nat} (hi : i < 3) : ∀ j, j < 6 → rot1 r i j < 6 := by
  intro j hj
  unfold rot1 va_up
  split
  · exact h _ (by omega)
  · split
    · exact h _ (by omega)
    · exact h _ hj
theorem rot_v (r : Nat → Nat) : rot r 0 = r 0 ∧ rot r 1 = r 1 ∧ rot r 2 = r 3 ∧ rot r 3 = r 4 ∧ rot r 4 = r 5 ∧ rot r 5 = r 2 := by
  simp [rot, rot1, va_up]
theorem rot_lt {r : Nat → Nat} (h : ∀ i, i < 6 → r i < 6) : ∀ j, j < 6 → rot r j < 6 := rot1_lt (rot1_lt (rot1_lt h (by decide)) (by decide)) (by decide)
def M3 (M : Mem) (p : Nat) (w o b : Vec) : Mem := setp (setp (setp M p w) 6 o) 8 b
theorem M3_r (M : Mem) (p : Nat) (w o b : Vec) : (M3 M p w o b).2 = M.2 := rfl
theorem M3_8 (M : Mem) (p : Nat) (w o b : Vec) : (M3 M p w o b).1 8 = b := setp_at _ _ _
theorem M3_6 (M : Mem) (p : Nat) (w o b : Vec) : (M3 M p w o b).1 6 = o := by rw [M3, setp_ne _ _ (by decide), setp_at]
theorem M3_p (M : Mem) {p : Nat} (hp : p < 6) (w o b : Vec) : (M3 M p w o b).1 p = w := by rw [M3, setp_ne _ _ (by omega), setp_ne _ _ (by omega), setp_at]
theorem M3_q (M : Mem) {p q : Nat} (w o b : Vec) (h1 : q ≠ p) (h2 : q ≠ 6) (h3 : q ≠ 8) : (M3 M p w o b).1 q = M.1 q := by rw [M3, setp_ne _ _ h3, setp_ne _ _ h2, setp_ne _ _ h1]
theorem M3_s8 (M : Mem) (p : Nat) (w o b b' : Vec) : setp (M3 M p w o b) 8 b' = M3 M p w o b' := setp_2 _ _ _ _
theorem M3_s6 (M : Mem) (p : Nat) (w o b o' : Vec) : setp (M3 M p w o b) 6 o' = M3 M p w o' b := by
  rw [M3, setp_swap _ _ _ (by decide), setp_2]; rfl
theorem M3_sp (M : Mem) {p : Nat} (hp : p < 6) (w o b w' : Vec) : setp (M3 M p w o b) p w' = M3 M p w' o b := by
  unfold M3
  rw [setp_swap (setp (setp M p w) 6 o) b w' (show 8 ≠ p by omega), setp_swap (setp M p w) o w' (show 6 ≠ p by omega), setp_2]
theorem M3_self (M : Mem) {p : Nat} (hp : p < 6) : M3 M p (M.1 p) (M.1 6) (M.1 8) = M := by
  rw [M3, setp_self, setp_self, setp_self]
def tryF (f : Nat → Int32) (t N : Nat) : Nat → Nat → Vec → Vec → Vec → Int32 × Vec × Vec × Vec
  | 0, _, w, o, b => (1, w, o, b)
  | m + 1, s, w, o, b => if s < t then
      (if (roS o f s).1 = 0 then (0, w, (roS o f s).2, upd (upd (upd b 2 (nI s)) 3 1) 4 ((roS o f s).2 4))
       else if (ordS w N ((roS o f s).2 1) ((roS o f s).2 2)).1 < 0 then (0, (ordS w N ((roS o f s).2 1) ((roS o f s).2 2)).2, (roS o f s).2, upd (upd (upd b 2 (nI s)) 3 2) 4 (ordS w N ((roS o f s).2 1) ((roS o f s).2 2)).1)
       else tryF f t N m (s + 2 + (dgs f s 3 0 0).1) (ordS w N ((roS o f s).2 1) ((roS o f s).2 2)).2 (roS o f s).2 (upd b 1 (b 1 + 1)))
    else (1, w, o, b)
theorem roS_0 (o : Vec) (f : Nat → Int32) (s : Nat) : (roS o f s).2 0 = o 0 := by
  unfold roS
  split
  · split
    · simp (disch := omega) only [upd_ne]
    · split <;> simp (disch := omega) only [upd_ne]
  · simp (disch := omega) only [upd_ne]
theorem roS_1 (o : Vec) (f : Nat → Int32) (s : Nat) : (roS o f s).2 1 = f s := by
  unfold roS
  split
  · split
    · simp (disch := omega) only [upd_ne, upd_at]
    · split <;> simp (disch := omega) only [upd_ne, upd_at]
  · simp (disch := omega) only [upd_ne, upd_at]
theorem roS_ok {o : Vec} {f : Nat → Int32} {s : Nat} (h : ¬ (roS o f s).1 = 0) : isL (f s) = true ∧ (roS o f s).2 3 = nI (s + 2 + (dgs f s 3 0 0).1) := by
  unfold roS at h ⊢
  split at h
  · next h1 =>
    refine ⟨h1, ?_⟩
    rw [if_pos h1]
    split at h
    · exact absurd rfl h
    · next h2 =>
      rw [if_neg h2]
      split at h
      · next h3 =>
        rw [if_pos h3]
        simp (disch := omega) only [upd_ne, upd_at]
      · exact absurd rfl h
  · exact absurd rfl h
theorem isL_of {c : Int32} (h : isL c = true) : c = 119 ∨ c = 98 ∨ c = 112 ∨ c = 104 ∨ c = 99 ∨ c = 100 := by
  unfold isL at h
  split at h
  · next q => exact Or.inr (Or.inl q)
  · split at h
    · next q => exact Or.inr (Or.inr (Or.inr (Or.inr (Or.inl q))))
    · split at h
      · next q => exact Or.inr (Or.inr (Or.inr (Or.inr (Or.inr q))))
      · split at h
        · next q => exact Or.inr (Or.inr (Or.inr (Or.inl q)))
        · split at h
          · next q => exact Or.inr (Or.inr (Or.inl q))
          · split at h
            · next q => exact Or.inl q
            · cases h
theorem mendU_0 (u : Vec) (k : Nat) (b : Bool) : mendU u k b 0 = u 0 := by simp (disch := omega) only [mendU, upd_ne]
theorem ordS_0 (u : Vec) (n : Nat) (c v : Int32) : (ordS u n c v).2 0 = u 0 := by
  have hm : ∀ b, (mendJ u v b).2 0 = u 0 := fun b => by
    unfold mendJ mendS
    split
    · split
      · exact mendU_0 u v.toNatClampNeg b
      · rfl
    · rfl
  have hc : (collJ u v).2 0 = u 0 := by
    unfold collJ collS
    split
    · split
      · split
        · simp (disch := omega) only [collU, upd_ne]
        · rfl
      · rfl
    · rfl
  have hw : (walkS u v).2 0 = u 0 := by
    unfold walkS
    split
    · rfl
    · split
      · split
        · simp (disch := omega) only [walkU, upd_ne]
        · rfl
      · rfl
  have hb : (buyS u v).2 0 = u 0 := by
    unfold buyS
    split
    · rfl
    · split
      · split
        · split
          · simp (disch := omega) only [buyU, upd_ne]
          · rfl
        · rfl
      · rfl
  have he : (endS u n v).2 0 = u 0 := by
    unfold endS
    split
    · rfl
    · split
      · split
        · simp (disch := omega) only [endU, upd_ne]
          exact allU_j _ _ _ (by decide) (by decide) _
        · rfl
      · rfl
  unfold ordS
  split
  · exact hw
  · split
    · exact hb
    · split
      · exact hm _
      · split
        · exact hm _
        · split
          · exact hc
          · exact he
end
section
/-! ===== the object: history and commit ===== -/
section BR1
variable {cA : Nat → ClassId} {ad : Nat → Nat} {D : va_G} {M : Mem}
set_option maxHeartbeats 4000000 in
set_option maxRecDepth 100000 in
theorem s_X3_dropOldestState (hr : ∀ i, i < 6 → M.2 i < 6) {Q : QT} {i : Nat} (hi : i < 3) (K : P_X3_dropOldestState cA ad D 2 [some (.ref (ad 0)), some (.int (nI (i + 1))), none] [] (M.1, rot1 M.2 i) Q) : P_X3_dropOldestState cA ad D 2 [some (.ref (ad 0)), some (.int (nI i)), none] [] M Q := by
  refine r_il1 (n := 3) dX3_dropOldestState_2 rfl ?_
  refine r_iconst (v := 1) (n := 4) dX3_dropOldestState_3 (by decide) rfl ?_
  refine r_iadd (n := 5) dX3_dropOldestState_4 rfl ?_
  rw [nI_1]
  refine r_al0 (n := 6) dX3_dropOldestState_5 rfl ?_
  refine g_br_history (n := 9)  in_X3_dropOldestState_wsX30 k_X3_dropOldestState_19 dX3_dropOldestState_6 rfl ?_
  refine a_lenHist (n := 10) dX3_dropOldestState_9 rfl ?_
  refine r_icmp_ge (tgt := 49) (n := 13) dX3_dropOldestState_10 (by decide) rfl (fun c_10 => ?_) (fun c_10 => ?_)
  · exact absurd c_10 (nI_ge (a := i + 1) (b := 4) (by omega) (by omega))
  · refine r_al0 (n := 14) dX3_dropOldestState_13 rfl ?_
    refine g_br_history (n := 17)  in_X3_dropOldestState_wsX30 k_X3_dropOldestState_19 dX3_dropOldestState_14 rfl ?_
    refine r_il1 (n := 18) dX3_dropOldestState_17 rfl ?_
    refine a_hist (n := 19) (k := i) rfl (by omega) dX3_dropOldestState_18 rfl ?_
    refine r_as2 (n := 20) (by decide) rfl dX3_dropOldestState_19 rfl ?_
    refine r_al0 (n := 21) dX3_dropOldestState_20 rfl ?_
    refine g_br_history (n := 24)  in_X3_dropOldestState_wsX30 k_X3_dropOldestState_19 dX3_dropOldestState_21 rfl ?_
    refine r_il1 (n := 25) dX3_dropOldestState_24 rfl ?_
    refine r_al0 (n := 26) dX3_dropOldestState_25 rfl ?_
    refine g_br_history (n := 29)  in_X3_dropOldestState_wsX30 k_X3_dropOldestState_19 dX3_dropOldestState_26 rfl ?_
    refine r_il1 (n := 30) dX3_dropOldestState_29 rfl ?_
    refine r_iconst (v := 1) (n := 31) dX3_dropOldestState_30 (by decide) rfl ?_
    refine r_iadd (n := 32) dX3_dropOldestState_31 rfl ?_
    rw [nI_1]
    refine a_hist (n := 33) (k := i + 1) rfl (by omega) dX3_dropOldestState_32 rfl ?_
    refine a_putHist (n := 34) (k := i) (q := M.2 (2 + (i + 1))) rfl (by omega) (hr _ (by omega)) dX3_dropOldestState_33 rfl ?_
    refine r_al0 (n := 35) dX3_dropOldestState_34 rfl ?_
    refine g_br_history (n := 38)  in_X3_dropOldestState_wsX30 k_X3_dropOldestState_19 dX3_dropOldestState_35 rfl ?_
    refine r_il1 (n := 39) dX3_dropOldestState_38 rfl ?_
    refine r_iconst (v := 1) (n := 40) dX3_dropOldestState_39 (by decide) rfl ?_
    refine r_iadd (n := 41) dX3_dropOldestState_40 rfl ?_
    rw [nI_1]
    refine r_al2 (n := 42) dX3_dropOldestState_41 rfl ?_
    refine a_putHist (n := 43) (k := i + 1) (q := M.2 (2 + i)) rfl (by omega) (hr _ (by omega)) dX3_dropOldestState_42 rfl ?_
    refine r_ii1 (n := 46) (by decide) rfl dX3_dropOldestState_43 (nI_inc _) rfl ?_
    refine r_goto (tgt := 2) dX3_dropOldestState_46 (by decide) ?_
    refine r_dr2 ?_
    exact K

set_option maxHeartbeats 4000000 in
set_option maxRecDepth 100000 in
theorem m_X3_dropOldestState (hr : ∀ i, i < 6 → M.2 i < 6) : C_X3_dropOldestState cA ad D [.ref (ad 0)] M (Rv (mput (M.1, rot M.2) 8 0 (M.1 8 0 - 1))) := by
  refine PM_of (lv := [some (.ref (ad 0)), none, none]) (by decide +kernel) rfl (Nat.le_of_ble_eq_true rfl) rfl ?_
  refine r_iconst (v := 0) (n := 1) dX3_dropOldestState_0 (by decide) rfl ?_
  refine r_is1 (n := 2) (by decide) rfl dX3_dropOldestState_1 rfl ?_
  refine s_X3_dropOldestState hr (i := 0) (by decide) ?_
  refine s_X3_dropOldestState (M := (M.1, rot1 M.2 0)) (rot1_lt hr (by decide)) (i := 1) (by decide) ?_
  refine s_X3_dropOldestState (M := (M.1, rot1 (rot1 M.2 0) 1)) (rot1_lt (rot1_lt hr (by decide)) (by decide)) (i := 2) (by decide) ?_
  refine r_il1 (n := 3) dX3_dropOldestState_2 rfl ?_
  refine r_iconst (v := 1) (n := 4) dX3_dropOldestState_3 (by decide) rfl ?_
  refine r_iadd (n := 5) dX3_dropOldestState_4 rfl ?_
  refine r_al0 (n := 6) dX3_dropOldestState_5 rfl ?_
  refine g_br_history (n := 9)  in_X3_dropOldestState_wsX30 k_X3_dropOldestState_19 dX3_dropOldestState_6 rfl ?_
  refine a_lenHist (n := 10) dX3_dropOldestState_9 rfl ?_
  refine r_icmp_ge (tgt := 49) (n := 13) dX3_dropOldestState_10 (by decide) rfl (fun c_10 => ?_) (fun c_10 => ?_)
  · refine r_al0 (n := 50) dX3_dropOldestState_49 rfl ?_
    refine r_dup (n := 51) dX3_dropOldestState_50 rfl rfl ?_
    refine g_br_states (n := 54)  in_X3_dropOldestState_wsX30 k_X3_dropOldestState_176 dX3_dropOldestState_51 rfl ?_
    refine r_iconst (v := 1) (n := 55) dX3_dropOldestState_54 (by decide) rfl ?_
    refine r_isub (n := 56) dX3_dropOldestState_55 rfl ?_
    refine p_br_states (n := 59)  in_X3_dropOldestState_wsX30 k_X3_dropOldestState_176 dX3_dropOldestState_56 rfl ?_
    exact e_v dX3_dropOldestState_59 rfl rfl
  · exact absurd c_10 (by decide)

set_option maxHeartbeats 4000000 in
set_option maxRecDepth 100000 in
theorem m_X3_remember_lt (hr : ∀ i, i < 6 → M.2 i < 6) {N : Nat} (hN : M.1 (M.2 0) 0 = nI N) (h8 : N ≤ 8) {h : Nat} (hh : M.1 8 0 = nI h) (h4 : h < 4) (hne : M.2 0 ≠ M.2 (2 + h)) : C_X3_remember cA ad D [.ref (ad 0)] M (Rv (mput (setp M (M.2 (2 + h)) (copyU (M.1 (M.2 (2 + h))) (M.1 (M.2 0)) N)) 8 0 (nI (h + 1)))) := by
  refine PM_of (lv := [some (.ref (ad 0)), none]) (by decide +kernel) rfl (Nat.le_of_ble_eq_true rfl) rfl ?_
  have hq0 := hr 0 (by decide)
  have hq1 := hr (2 + h) (by omega)
  refine r_al0 (n := 1) dX3_remember_0 rfl ?_
  refine g_br_states (n := 4)  in_X3_remember_wsX30 k_X3_remember_176 dX3_remember_1 rfl ?_
  refine r_al0 (n := 5) dX3_remember_4 rfl ?_
  refine g_br_history (n := 8)  in_X3_remember_wsX30 k_X3_remember_19 dX3_remember_5 rfl ?_
  refine a_lenHist (n := 9) dX3_remember_8 rfl ?_
  refine r_icmp_lt (tgt := 16) (n := 12) dX3_remember_9 (by decide) rfl (fun c_9 => ?_) (fun c_9 => ?_)
  · refine r_al0 (n := 17) dX3_remember_16 rfl ?_
    refine g_br_states (n := 20)  in_X3_remember_wsX30 k_X3_remember_176 dX3_remember_17 rfl ?_
    refine r_if_lt (tgt := 35) (n := 23) dX3_remember_20 (by decide) rfl (fun c_20 => ?_) (fun c_20 => ?_)
    · exact absurd c_20 (by rw [hh]; exact nI_pos (by omega))
    · refine r_al0 (n := 24) dX3_remember_23 rfl ?_
      refine g_br_states (n := 27)  in_X3_remember_wsX30 k_X3_remember_176 dX3_remember_24 rfl ?_
      refine r_al0 (n := 28) dX3_remember_27 rfl ?_
      refine g_br_history (n := 31)  in_X3_remember_wsX30 k_X3_remember_19 dX3_remember_28 rfl ?_
      refine a_lenHist (n := 32) dX3_remember_31 rfl ?_
      refine r_icmp_lt (tgt := 36) (n := 35) dX3_remember_32 (by decide) rfl (fun c_32 => ?_) (fun c_32 => ?_)
      · refine r_al0 (n := 37) dX3_remember_36 rfl ?_
        refine g_br_history (n := 40)  in_X3_remember_wsX30 k_X3_remember_19 dX3_remember_37 rfl ?_
        refine r_al0 (n := 41) dX3_remember_40 rfl ?_
        refine g_br_states (n := 44)  in_X3_remember_wsX30 k_X3_remember_176 dX3_remember_41 rfl ?_
        refine a_hist (n := 45) (k := h) hh (by omega) dX3_remember_44 rfl ?_
        refine r_as1 (n := 46) (by decide) rfl dX3_remember_45 rfl ?_
        refine r_al1 (n := 47) dX3_remember_46 rfl ?_
        refine r_ifnull (n := 50) dX3_remember_47 rfl ?_
        refine r_al1 (n := 51) dX3_remember_50 rfl ?_
        refine r_al0 (n := 52) dX3_remember_51 rfl ?_
        refine g_br_now (n := 55)  in_X3_remember_wsX30 k_X3_remember_12 dX3_remember_52 rfl ?_
        refine cV_v (n := 58) (np := 1) (m_X2_copyFrom (hr _ (by omega)) (hr _ (by omega)) hne hN h8) gX3_remember_X2_copyFrom rfl (by decide +kernel) rfl (by decide) (by decide) (by omega) (cell_st cA ad _ (by first | assumption | omega | exact hr _ (by omega))) rfl dX3_remember_55 rfl rfl (Nat.le_of_ble_eq_true rfl) ?_
        refine r_al0 (n := 59) dX3_remember_58 rfl ?_
        refine r_dup (n := 60) dX3_remember_59 rfl rfl ?_
        refine g_br_states (n := 63)  in_X3_remember_wsX30 k_X3_remember_176 dX3_remember_60 rfl ?_
        refine r_iconst (v := 1) (n := 64) dX3_remember_63 (by decide) rfl ?_
        refine r_iadd (n := 65) dX3_remember_64 rfl ?_
        rw [setp_ne _ _ (by have := hr (2 + h) (by omega); omega), hh, nI_1]
        refine p_br_states (n := 68)  in_X3_remember_wsX30 k_X3_remember_176 dX3_remember_65 rfl ?_
        exact e_v dX3_remember_68 rfl rfl
      · exact absurd c_32 (fun q => q (by rw [hh]; exact nI_lt (a := h) (b := 4) (by omega) (by omega)))
  · exact absurd c_9 (fun q => q (by rw [hh]; exact nI_lt (a := h) (b := 4) (by omega) (by omega)))

set_option maxHeartbeats 4000000 in
set_option maxRecDepth 100000 in
theorem t_X3_remember (hr : ∀ i, i < 6 → M.2 i < 6) {N : Nat} (hN : M.1 (M.2 0) 0 = nI N) (h8 : N ≤ 8) {h : Nat} (hh : M.1 8 0 = nI h) (h4 : h < 4) (hne : M.2 0 ≠ M.2 (2 + h)) : P_X3_remember cA ad D 16 [some (.ref (ad 0)), none] [] M (Rv (mput (setp M (M.2 (2 + h)) (copyU (M.1 (M.2 (2 + h))) (M.1 (M.2 0)) N)) 8 0 (nI (h + 1)))) := by
  have hq0 := hr 0 (by decide)
  have hq1 := hr (2 + h) (by omega)
  refine r_al0 (n := 17) dX3_remember_16 rfl ?_
  refine g_br_states (n := 20)  in_X3_remember_wsX30 k_X3_remember_176 dX3_remember_17 rfl ?_
  refine r_if_lt (tgt := 35) (n := 23) dX3_remember_20 (by decide) rfl (fun c_20 => ?_) (fun c_20 => ?_)
  · exact absurd c_20 (by rw [hh]; exact nI_pos (by omega))
  · refine r_al0 (n := 24) dX3_remember_23 rfl ?_
    refine g_br_states (n := 27)  in_X3_remember_wsX30 k_X3_remember_176 dX3_remember_24 rfl ?_
    refine r_al0 (n := 28) dX3_remember_27 rfl ?_
    refine g_br_history (n := 31)  in_X3_remember_wsX30 k_X3_remember_19 dX3_remember_28 rfl ?_
    refine a_lenHist (n := 32) dX3_remember_31 rfl ?_
    refine r_icmp_lt (tgt := 36) (n := 35) dX3_remember_32 (by decide) rfl (fun c_32 => ?_) (fun c_32 => ?_)
    · refine r_al0 (n := 37) dX3_remember_36 rfl ?_
      refine g_br_history (n := 40)  in_X3_remember_wsX30 k_X3_remember_19 dX3_remember_37 rfl ?_
      refine r_al0 (n := 41) dX3_remember_40 rfl ?_
      refine g_br_states (n := 44)  in_X3_remember_wsX30 k_X3_remember_176 dX3_remember_41 rfl ?_
      refine a_hist (n := 45) (k := h) hh (by omega) dX3_remember_44 rfl ?_
      refine r_as1 (n := 46) (by decide) rfl dX3_remember_45 rfl ?_
      refine r_al1 (n := 47) dX3_remember_46 rfl ?_
      refine r_ifnull (n := 50) dX3_remember_47 rfl ?_
      refine r_al1 (n := 51) dX3_remember_50 rfl ?_
      refine r_al0 (n := 52) dX3_remember_51 rfl ?_
      refine g_br_now (n := 55)  in_X3_remember_wsX30 k_X3_remember_12 dX3_remember_52 rfl ?_
      refine cV_v (n := 58) (np := 1) (m_X2_copyFrom (hr _ (by omega)) (hr _ (by omega)) hne hN h8) gX3_remember_X2_copyFrom rfl (by decide +kernel) rfl (by decide) (by decide) (by omega) (cell_st cA ad _ (by first | assumption | omega | exact hr _ (by omega))) rfl dX3_remember_55 rfl rfl (Nat.le_of_ble_eq_true rfl) ?_
      refine r_al0 (n := 59) dX3_remember_58 rfl ?_
      refine r_dup (n := 60) dX3_remember_59 rfl rfl ?_
      refine g_br_states (n := 63)  in_X3_remember_wsX30 k_X3_remember_176 dX3_remember_60 rfl ?_
      refine r_iconst (v := 1) (n := 64) dX3_remember_63 (by decide) rfl ?_
      refine r_iadd (n := 65) dX3_remember_64 rfl ?_
      rw [setp_ne _ _ (by have := hr (2 + h) (by omega); omega), hh, nI_1]
      refine p_br_states (n := 68)  in_X3_remember_wsX30 k_X3_remember_176 dX3_remember_65 rfl ?_
      exact e_v dX3_remember_68 rfl rfl
    · exact absurd c_32 (fun q => q (by rw [hh]; exact nI_lt (a := h) (b := 4) (by omega) (by omega)))

set_option maxHeartbeats 4000000 in
set_option maxRecDepth 100000 in
theorem m_X3_remember_4 (hr : ∀ i, i < 6 → M.2 i < 6) {N : Nat} (hN : M.1 (M.2 0) 0 = nI N) (h8 : N ≤ 8) (hh : M.1 8 0 = nI 4) (hne : M.2 0 ≠ M.2 2) : C_X3_remember cA ad D [.ref (ad 0)] M (Rv (mput (setp (mput (M.1, rot M.2) 8 0 (nI 3)) (M.2 2) (copyU (M.1 (M.2 2)) (M.1 (M.2 0)) N)) 8 0 (nI 4))) := by
  refine PM_of (lv := [some (.ref (ad 0)), none]) (by decide +kernel) rfl (Nat.le_of_ble_eq_true rfl) rfl ?_
  refine r_al0 (n := 1) dX3_remember_0 rfl ?_
  refine g_br_states (n := 4)  in_X3_remember_wsX30 k_X3_remember_176 dX3_remember_1 rfl ?_
  refine r_al0 (n := 5) dX3_remember_4 rfl ?_
  refine g_br_history (n := 8)  in_X3_remember_wsX30 k_X3_remember_19 dX3_remember_5 rfl ?_
  refine a_lenHist (n := 9) dX3_remember_8 rfl ?_
  refine r_icmp_lt (tgt := 16) (n := 12) dX3_remember_9 (by decide) rfl (fun c_9 => ?_) (fun c_9 => ?_)
  · exact absurd c_9 (by rw [hh]; decide)
  · refine r_al0 (n := 13) dX3_remember_12 rfl ?_
    refine cV_v (n := 16) (np := 0) (m_X3_dropOldestState hr) gX3_remember_X3_dropOldestState rfl (by decide +kernel) rfl (by decide) (by decide) (by omega) rfl rfl dX3_remember_13 rfl rfl (Nat.le_of_ble_eq_true rfl) ?_
    rw [show M.1 8 0 - 1 = nI 3 by rw [hh]; decide]
    obtain ⟨r0, r1, r2, r3, r4, r5⟩ := rot_v M.2
    have e0 : (mput (M.1, rot M.2) 8 0 (nI 3)).2 0 = M.2 0 := r0
    have e5 : (mput (M.1, rot M.2) 8 0 (nI 3)).2 (2 + 3) = M.2 2 := r5
    have hq : ∀ i, i < 6 → (mput (M.1, rot M.2) 8 0 (nI 3)).2 i < 6 := rot_lt hr
    have h0 := hr 0 (by decide)
    have h2 := hr 2 (by decide)
    have k := t_X3_remember (cA := cA) (ad := ad) (D := D) (M := mput (M.1, rot M.2) 8 0 (nI 3)) hq (N := N) (by rw [e0, mput_ne (by omega)]; exact hN) h8 (h := 3) mput_at (by decide) (by rw [e0, e5]; exact hne)
    rw [e0, e5, mput_ne (show M.2 2 ≠ 8 by omega), mput_ne (show M.2 0 ≠ 8 by omega)] at k
    exact k

set_option maxHeartbeats 4000000 in
set_option maxRecDepth 100000 in
theorem m_X3_commit_e {x : Int32} (hx : x < 0) : C_X3_commit cA ad D [.ref (ad 0), .int x] M (Ri x M) := by
  refine PM_of (lv := [some (.ref (ad 0)), some (.int x), none]) (by decide +kernel) rfl (Nat.le_of_ble_eq_true rfl) rfl ?_
  refine r_il1 (n := 1) dX3_commit_0 rfl ?_
  refine r_if_ge (tgt := 6) (n := 4) dX3_commit_1 (by decide) rfl (fun c_1 => ?_) (fun c_1 => ?_)
  · exact absurd c_1 (Int32.not_le.mpr hx)
  · refine r_il1 (n := 5) dX3_commit_4 rfl ?_
    exact e_i dX3_commit_5 rfl rfl rfl

set_option maxHeartbeats 4000000 in
set_option maxRecDepth 100000 in
theorem m_X3_commit_g {x : Int32} (hx : ¬ x < 0) {M' : Mem} (hR : C_X3_remember cA ad D [.ref (ad 0)] M (Rv M')) (hr : ∀ i, i < 6 → M'.2 i < 6) : C_X3_commit cA ad D [.ref (ad 0), .int x] M (Ri x (swp M')) := by
  refine PM_of (lv := [some (.ref (ad 0)), some (.int x), none]) (by decide +kernel) rfl (Nat.le_of_ble_eq_true rfl) rfl ?_
  refine r_il1 (n := 1) dX3_commit_0 rfl ?_
  refine r_if_ge (tgt := 6) (n := 4) dX3_commit_1 (by decide) rfl (fun c_1 => ?_) (fun c_1 => ?_)
  · refine r_al0 (n := 7) dX3_commit_6 rfl ?_
    refine cV_v (n := 10) (np := 0) (hR) gX3_commit_X3_remember rfl (by decide +kernel) rfl (by decide) (by decide) (by omega) rfl rfl dX3_commit_7 rfl rfl (Nat.le_of_ble_eq_true rfl) ?_
    refine r_al0 (n := 11) dX3_commit_10 rfl ?_
    refine g_br_now (n := 14)  in_X3_commit_wsX30 k_X3_commit_12 dX3_commit_11 rfl ?_
    refine r_as2 (n := 15) (by decide) rfl dX3_commit_14 rfl ?_
    refine r_al0 (n := 16) dX3_commit_15 rfl ?_
    refine r_al0 (n := 17) dX3_commit_16 rfl ?_
    refine g_br_trial (n := 20)  in_X3_commit_wsX30 k_X3_commit_16 dX3_commit_17 rfl ?_
    refine p_br_now (n := 23) (hr _ (by decide)) in_X3_commit_wsX30 k_X3_commit_12 dX3_commit_20 rfl ?_
    refine r_al0 (n := 24) dX3_commit_23 rfl ?_
    refine r_al2 (n := 25) dX3_commit_24 rfl ?_
    refine p_br_trial (n := 28) (hr _ (by decide)) in_X3_commit_wsX30 k_X3_commit_16 dX3_commit_25 rfl ?_
    refine r_il1 (n := 29) dX3_commit_28 rfl ?_
    exact e_i dX3_commit_29 rfl rfl rfl
  · exact absurd c_1 (fun h => hx (Int32.not_le.mp h))

end BR1
end
section
/-! ===== what is asked ===== -/
def smoS (v : Vec) (k : Nat) (w : Int32) : Int32 :=
  if w = 0 then v (14 + 8 * k) else if w = 1 then v (14 + 8 * k + 1) else if w = 2 then v (14 + 8 * k + 2) else if w = 3 then v (14 + 8 * k + 2) / 10 else if w = 4 then v (14 + 8 * k + 3)
  else if w = 5 then (if v (14 + 8 * k + 3) < v 10 then 1 else 0) else if w = 6 then v (14 + 8 * k + 4) else if w = 7 then v (14 + 8 * k + 5) else if w = 8 then v (14 + 8 * k + 6) else if w = 9 then v (14 + 8 * k + 7) else if w = 10 then hB (v 2) (v (14 + 8 * k)) else IA
def flg (w : Int32) : Prop := w = 0 ∨ w = 1
def whyS (v : Vec) (k : Nat) (w : Int32) : Int32 := if w = 0 then whyNot v k false else if w = 1 then whyNot v k true else IA
def mndB (v : Vec) (k : Nat) (b : Bool) (x : Int32) : Int32 := if x = 0 then hM b else if x = 1 then leatherOf v k b else if x = 2 then owes v k b else if x = 3 then wearBM v k b else IA
def mndS (v : Vec) (k : Nat) (w x : Int32) : Int32 := if w = 0 then mndB v k false x else if w = 1 then mndB v k true x else IA
def cdiS (v : Vec) (k : Nat) : Int32 := if cda v k = 201 then NF else cda v k
def rndS (v : Vec) (n : Nat) (s w : Int32) : Int32 := if s < 1 then IA else if (1 : Int32) <<< (v 0 &&& 31) ≤ s then IA else if w < 0 then IA else if w ≤ 2 then rdW (rdC v n 8 s (v 2) (0, 0, 0)) w else IA
def cntS (v : Vec) (n : Nat) (hc tc : Int32) (w : Int32) : Int32 :=
  if w = 0 then v 0 else if w = 1 then v 1 else if w = 2 then v 2 else if w = 3 then v 3 else if w = 4 then v 4 else if w = 5 then v 5 else if w = 6 then sumN v 5 n else if w = 7 then v 6 else if w = 8 then v 7
  else if w = 9 then csN v n else if w = 10 then v 8 else if w = 11 then v 9 else if w = 12 then hc else if w = 13 then tc else if w = 20 then v 10 else if w = 21 then v 11 else if w = 22 then v 12 else if w = 23 then v 13 else IA
theorem PM_weaken {cA : Nat → ClassId} {ad : Nat → Nat} {D : va_G} {y : MethodName} {ws : List Cond} {d : Nat} {av : List Value} {M : Mem} {Q Q' : QT} (h : PM cA ad D y ws d av M Q) (hq : ∀ r M', Q r M' → Q' r M') : PM cA ad D y ws d av M Q' := by
  intro hI l
  refine MetFree.mono (h hI l) (fun _ _ q => q) (fun _ _ _ _ _ q => q) (fun a s oc t _ q => ?_)
  obtain ⟨⟨⟨r, M', h1, h2, h3⟩, h4⟩, h5⟩ := q
  exact ⟨⟨⟨r, M', h1, hq _ _ h2, h3⟩, h4⟩, h5⟩
/-- an int is answered, and of the memory then P is so -/
def QR (x : Int32) (P : Mem → Prop) : QT := fun r M => r = some (.int x) ∧ P M
theorem Ri_QR {x : Int32} {N : Mem} {P : Mem → Prop} (h : P N) : ∀ r M, Ri x N r M → QR x P r M := fun r M q => ⟨q.1, by rw [q.2]; exact h⟩
section QROWS
variable {cA : Nat → ClassId} {ad : Nat → Nat} {D : va_G} {own : String} {ws : List Cond} {cc : ByteArray} {nL : Nat} {ret : Option FieldType} {d pc n : Nat} {lv : List (Option Value)} {st rest : List Value} {M : Mem} {Q : QT}
theorem e_q {v x : Int32} {P : Mem → Prop} (h : decode cc pc = .ok (.ireturn, 1)) (hr : ret = some .int) (h1 : v = x) (h2 : P M) : PW cA ad D own ws cc nL ret d pc lv [.int v] M (QR x P) := r_iret h hr ⟨by rw [h1], h2⟩
theorem cV_q {index np d' ci N maxL i : Nat} {y : MethodName} {ws' wst : List Cond} {bytes : ByteArray} {rty : Option FieldType} {C : String} {T : u_T} {fs : List Value} {As : List Value} {x : Int32} {P' : Mem → Prop} (hM : PM cA ad D y ws' d' (.ref (ad i) :: As) M (QR x P')) (hg : GoodIn ws (wsV own index C y ws')) (hw : ws' = Cond.code y bytes maxL rty :: wst) (hd : y.cls = C ∧ y.cls ≠ "java/lang/invoke/MethodHandle" ∧ y.cls ≠ "java/lang/invoke/VarHandle" ∧ (parseMethodDescriptor y.desc).map (fun d => d.parameters.length) = some np) (hnp : As.length = np) (hdep : d' + 1 ≤ d) (hmax : maxL ≤ 13) (hi : i < 66) (hc : cellOf cA ad M i = .inr (ci, fs)) (hcl : vwCl[ci]? = some (C, T, N)) (h : decode cc pc = .ok (.invokevirtual index, 3)) (hn : pc + 3 = n) (hst : st = As.reverse ++ .ref (ad i) :: rest) (hcat : (rest.map fun v => v.category).sum ≤ 8) (kk : ∀ M', P' M' → PW cA ad D own ws cc nL ret d n lv (.int x :: rest) M' Q) : PW cA ad D own ws cc nL ret d pc lv st M Q :=
  r_callV hM hg hw hd hnp hdep hmax hi hc hcl h hn hst hcat (fun r M2 hq => by obtain ⟨rfl, h2⟩ := hq; exact kk M2 h2)
theorem r_aloadN4 {a0 a1 a2 a3 : Option Value} {t : List (Option Value)} (h : decode cc pc = .ok (.aload 4, 2)) (hn : pc + 2 = n) (kk : PW cA ad D own ws cc nL ret d n (a0 :: a1 :: a2 :: a3 :: some .null :: t) (.null :: st) M Q) : PW cA ad D own ws cc nL ret d pc (a0 :: a1 :: a2 :: a3 :: some .null :: t) st M Q := by
  intro p l e s m args below meth c H locs ls E hW hS hl
  subst hn
  exact lv_aloadN E.1 E.2.1 h (prs_get hl (i := 4) rfl) (kk p l e s m args below meth c H locs ls E hW hS hl)
theorem r_astoreN4 {a0 a1 a2 a3 o : Option Value} {t : List (Option Value)} (hL : 4 < nL) (hc : catok (a0 :: a1 :: a2 :: a3 :: o :: t) = true) (h : decode cc pc = .ok (.astore 4, 2)) (hn : pc + 2 = n) (kk : PW cA ad D own ws cc nL ret d n (a0 :: a1 :: a2 :: a3 :: some .null :: t) st M Q) : PW cA ad D own ws cc nL ret d pc (a0 :: a1 :: a2 :: a3 :: o :: t) (.null :: st) M Q := by
  intro p l e s m args below meth c H locs ls E hW hS hl
  subst hn
  exact lv_astoreN E.1 E.2.1 h hl hL rfl (fun ls hl => kk p l e s m args below meth c H locs ls E hW hS (prs_set (i := 4) (catok_of hc) hl))
end QROWS
end
section
/-! ===== the object: what is asked ===== -/
section BR2
variable {cA : Nat → ClassId} {ad : Nat → Nat} {D : va_G} {M : Mem}
set_option maxHeartbeats 4000000 in
set_option maxRecDepth 100000 in
theorem m_X3_smithyOf_n (hr : ∀ i, i < 6 → M.2 i < 6) {j : Int32} (hj : ¬ isSm (M.1 (M.2 0)) j) {w : Int32} : C_X3_smithyOf cA ad D [.ref (ad 0), .int j, .int w] M (Ri IA M) := by
  refine PM_of (lv := [some (.ref (ad 0)), some (.int j), some (.int w), none]) (by decide +kernel) rfl (Nat.le_of_ble_eq_true rfl) rfl ?_
  have hq0 := hr 0 (by decide)
  refine r_al0 (n := 1) dX3_smithyOf_0 rfl ?_
  refine g_br_now (n := 4)  in_X3_smithyOf_wsX30 k_X3_smithyOf_12 dX3_smithyOf_1 rfl ?_
  refine r_il1 (n := 5) dX3_smithyOf_4 rfl ?_
  refine cV_n (n := 8) (np := 1) (m_X2_find_n (hr _ (by decide)) hj) gX3_smithyOf_X2_find rfl (by decide +kernel) rfl (by decide) (by decide) (by omega) (cell_st cA ad _ (by first | assumption | omega | exact hr _ (by omega))) rfl dX3_smithyOf_5 rfl rfl (Nat.le_of_ble_eq_true rfl) ?_
  refine r_as3N (n := 9) (by decide) rfl dX3_smithyOf_8 rfl ?_
  refine r_al3N (n := 10) dX3_smithyOf_9 rfl ?_
  refine r_ifnonnullN (n := 13) dX3_smithyOf_10 rfl ?_
  refine r_ldc (n := 15) dX3_smithyOf_13 k_X3_smithyOf_65 rfl ?_
  exact e_i dX3_smithyOf_15 rfl rfl rfl

set_option maxHeartbeats 4000000 in
set_option maxRecDepth 100000 in
theorem m_X3_smithyOf_s (hr : ∀ i, i < 6 → M.2 i < 6) {N : Nat} (hN : M.1 (M.2 0) 0 = nI N) (h8 : N ≤ 8) {k : Nat} (hk : k < N) {w : Int32} : C_X3_smithyOf cA ad D [.ref (ad 0), .int (nI k), .int w] M (Ri (smoS (M.1 (M.2 0)) k w) M) := by
  refine PM_of (lv := [some (.ref (ad 0)), some (.int (nI k)), some (.int w), none]) (by decide +kernel) rfl (Nat.le_of_ble_eq_true rfl) rfl ?_
  have hq0 := hr 0 (by decide)
  refine r_al0 (n := 1) dX3_smithyOf_0 rfl ?_
  refine g_br_now (n := 4)  in_X3_smithyOf_wsX30 k_X3_smithyOf_12 dX3_smithyOf_1 rfl ?_
  refine r_il1 (n := 5) dX3_smithyOf_4 rfl ?_
  refine cV_a (n := 8) (np := 1) (m_X2_find_s (N := N) (k := k) (hr _ (by decide)) hN h8 hk) gX3_smithyOf_X2_find rfl (by decide +kernel) rfl (by decide) (by decide) (by omega) (cell_st cA ad _ (by first | assumption | omega | exact hr _ (by omega))) rfl dX3_smithyOf_5 rfl rfl (Nat.le_of_ble_eq_true rfl) ?_
  refine r_as3 (n := 9) (by decide) rfl dX3_smithyOf_8 rfl ?_
  refine r_al3 (n := 10) dX3_smithyOf_9 rfl ?_
  refine r_ifnonnull (tgt := 16) dX3_smithyOf_10 (by decide) ?_
  refine r_il2 (n := 17) dX3_smithyOf_16 rfl ?_
  by_cases h_0 : w = 0
  · subst h_0
    refine r_tableIn (tgt := 76) dX3_smithyOf_17 (by decide) (by decide) rfl (by decide) ?_
    refine r_al3 (n := 77) dX3_smithyOf_76 rfl ?_
    refine g_sm_mile (n := 80) (by first | assumption | omega | exact hr _ (by omega)) (by first | assumption | omega | exact hr _ (by omega)) in_X3_smithyOf_wsX10 k_X3_smithyOf_66 dX3_smithyOf_77 rfl ?_
    exact e_i dX3_smithyOf_80 rfl (by simp_all [smoS]) rfl
  by_cases h_1 : w = 1
  · subst h_1
    refine r_tableIn (tgt := 81) dX3_smithyOf_17 (by decide) (by decide) rfl (by decide) ?_
    refine r_al3 (n := 82) dX3_smithyOf_81 rfl ?_
    refine g_sm_size (n := 85) (by first | assumption | omega | exact hr _ (by omega)) (by first | assumption | omega | exact hr _ (by omega)) in_X3_smithyOf_wsX10 k_X3_smithyOf_72 dX3_smithyOf_82 rfl ?_
    exact e_i dX3_smithyOf_85 rfl (by simp_all [smoS]) rfl
  by_cases h_2 : w = 2
  · subst h_2
    refine r_tableIn (tgt := 86) dX3_smithyOf_17 (by decide) (by decide) rfl (by decide) ?_
    refine r_al3 (n := 87) dX3_smithyOf_86 rfl ?_
    refine g_sm_wear (n := 90) (by first | assumption | omega | exact hr _ (by omega)) (by first | assumption | omega | exact hr _ (by omega)) in_X3_smithyOf_wsX10 k_X3_smithyOf_75 dX3_smithyOf_87 rfl ?_
    exact e_i dX3_smithyOf_90 rfl (by simp_all [smoS]) rfl
  by_cases h_3 : w = 3
  · subst h_3
    refine r_tableIn (tgt := 91) dX3_smithyOf_17 (by decide) (by decide) rfl (by decide) ?_
    refine r_al3 (n := 92) dX3_smithyOf_91 rfl ?_
    refine g_sm_wear (n := 95) (by first | assumption | omega | exact hr _ (by omega)) (by first | assumption | omega | exact hr _ (by omega)) in_X3_smithyOf_wsX10 k_X3_smithyOf_75 dX3_smithyOf_92 rfl ?_
    refine cS_i (n := 98) (np := 1) (m_X3_leakOf) gX3_smithyOf_X3_leakOf rfl (by decide +kernel) rfl (by decide) (by decide) dX3_smithyOf_95 rfl rfl (Nat.le_of_ble_eq_true rfl) ?_
    exact e_i dX3_smithyOf_98 rfl (by simp_all [smoS]) rfl
  by_cases h_4 : w = 4
  · subst h_4
    refine r_tableIn (tgt := 99) dX3_smithyOf_17 (by decide) (by decide) rfl (by decide) ?_
    refine r_al3 (n := 100) dX3_smithyOf_99 rfl ?_
    refine g_sm_heat (n := 103) (by first | assumption | omega | exact hr _ (by omega)) (by first | assumption | omega | exact hr _ (by omega)) in_X3_smithyOf_wsX10 k_X3_smithyOf_81 dX3_smithyOf_100 rfl ?_
    exact e_i dX3_smithyOf_103 rfl (by simp_all [smoS]) rfl
  by_cases h_5 : w = 5
  · subst h_5
    refine r_tableIn (tgt := 104) dX3_smithyOf_17 (by decide) (by decide) rfl (by decide) ?_
    refine r_al0 (n := 105) dX3_smithyOf_104 rfl ?_
    refine g_br_now (n := 108)  in_X3_smithyOf_wsX30 k_X3_smithyOf_12 dX3_smithyOf_105 rfl ?_
    refine r_al3 (n := 109) dX3_smithyOf_108 rfl ?_
    refine g_sm_heat (n := 112) (by first | assumption | omega | exact hr _ (by omega)) (by first | assumption | omega | exact hr _ (by omega)) in_X3_smithyOf_wsX10 k_X3_smithyOf_81 dX3_smithyOf_109 rfl ?_
    refine cV_i (n := 115) (np := 1) (m_X2_isCold (hr _ (by decide))) gX3_smithyOf_X2_isCold rfl (by decide +kernel) rfl (by decide) (by decide) (by omega) (cell_st cA ad _ (by first | assumption | omega | exact hr _ (by omega))) rfl dX3_smithyOf_112 rfl rfl (Nat.le_of_ble_eq_true rfl) ?_
    refine r_if_eq (tgt := 122) (n := 118) dX3_smithyOf_115 (by decide) rfl (fun c_115 => ?_) (fun c_115 => ?_)
    · try replace c_115 := i10 c_115
      refine r_iconst (v := 0) (n := 123) dX3_smithyOf_122 (by decide) rfl ?_
      exact e_i dX3_smithyOf_123 rfl (by simp_all [smoS]) rfl
    · try replace c_115 := i11 c_115
      refine r_iconst (v := 1) (n := 119) dX3_smithyOf_118 (by decide) rfl ?_
      refine r_goto (tgt := 123) dX3_smithyOf_119 (by decide) ?_
      exact e_i dX3_smithyOf_123 rfl (by simp_all [smoS]) rfl
  by_cases h_6 : w = 6
  · subst h_6
    refine r_tableIn (tgt := 124) dX3_smithyOf_17 (by decide) (by decide) rfl (by decide) ?_
    refine r_al3 (n := 125) dX3_smithyOf_124 rfl ?_
    refine g_sm_coldDays (n := 128) (by first | assumption | omega | exact hr _ (by omega)) (by first | assumption | omega | exact hr _ (by omega)) in_X3_smithyOf_wsX10 k_X3_smithyOf_88 dX3_smithyOf_125 rfl ?_
    exact e_i dX3_smithyOf_128 rfl (by simp_all [smoS]) rfl
  by_cases h_7 : w = 7
  · subst h_7
    refine r_tableIn (tgt := 129) dX3_smithyOf_17 (by decide) (by decide) rfl (by decide) ?_
    refine r_al3 (n := 130) dX3_smithyOf_129 rfl ?_
    refine g_sm_debt (n := 133) (by first | assumption | omega | exact hr _ (by omega)) (by first | assumption | omega | exact hr _ (by omega)) in_X3_smithyOf_wsX10 k_X3_smithyOf_91 dX3_smithyOf_130 rfl ?_
    exact e_i dX3_smithyOf_133 rfl (by simp_all [smoS]) rfl
  by_cases h_8 : w = 8
  · subst h_8
    refine r_tableIn (tgt := 134) dX3_smithyOf_17 (by decide) (by decide) rfl (by decide) ?_
    refine r_al3 (n := 135) dX3_smithyOf_134 rfl ?_
    refine g_sm_paid (n := 138) (by first | assumption | omega | exact hr _ (by omega)) (by first | assumption | omega | exact hr _ (by omega)) in_X3_smithyOf_wsX10 k_X3_smithyOf_94 dX3_smithyOf_135 rfl ?_
    exact e_i dX3_smithyOf_138 rfl (by simp_all [smoS]) rfl
  by_cases h_9 : w = 9
  · subst h_9
    refine r_tableIn (tgt := 139) dX3_smithyOf_17 (by decide) (by decide) rfl (by decide) ?_
    refine r_al3 (n := 140) dX3_smithyOf_139 rfl ?_
    refine g_sm_mends (n := 143) (by first | assumption | omega | exact hr _ (by omega)) (by first | assumption | omega | exact hr _ (by omega)) in_X3_smithyOf_wsX10 k_X3_smithyOf_97 dX3_smithyOf_140 rfl ?_
    exact e_i dX3_smithyOf_143 rfl (by simp_all [smoS]) rfl
  by_cases h_10 : w = 10
  · subst h_10
    refine r_tableIn (tgt := 144) dX3_smithyOf_17 (by decide) (by decide) rfl (by decide) ?_
    refine r_al0 (n := 145) dX3_smithyOf_144 rfl ?_
    refine g_br_now (n := 148)  in_X3_smithyOf_wsX30 k_X3_smithyOf_12 dX3_smithyOf_145 rfl ?_
    refine g_st_mile (n := 151) (by first | assumption | omega | exact hr _ (by omega)) in_X3_smithyOf_wsX20 k_X3_smithyOf_100 dX3_smithyOf_148 rfl ?_
    refine r_al3 (n := 152) dX3_smithyOf_151 rfl ?_
    refine g_sm_mile (n := 155) (by first | assumption | omega | exact hr _ (by omega)) (by first | assumption | omega | exact hr _ (by omega)) in_X3_smithyOf_wsX10 k_X3_smithyOf_66 dX3_smithyOf_152 rfl ?_
    refine cS_i (n := 158) (np := 2) (m_X3_hoursOfWay) gX3_smithyOf_X3_hoursOfWay rfl (by decide +kernel) rfl (by decide) (by decide) dX3_smithyOf_155 rfl rfl (Nat.le_of_ble_eq_true rfl) ?_
    exact e_i dX3_smithyOf_158 rfl (by simp_all [smoS]) rfl
  refine r_tableOut (tgt := 159) dX3_smithyOf_17 (sw_out (lo := 0) (hi := 10) (by decide) (by decide) (fun k h1 h2 => by
    have hk : k = 0 ∨ k = 1 ∨ k = 2 ∨ k = 3 ∨ k = 4 ∨ k = 5 ∨ k = 6 ∨ k = 7 ∨ k = 8 ∨ k = 9 ∨ k = 10 := by omega
    rcases hk with rfl | rfl | rfl | rfl | rfl | rfl | rfl | rfl | rfl | rfl | rfl
    · exact h_0
    · exact h_1
    · exact h_2
    · exact h_3
    · exact h_4
    · exact h_5
    · exact h_6
    · exact h_7
    · exact h_8
    · exact h_9
    · exact h_10
    )) (by decide) ?_
  refine r_ldc (n := 161) dX3_smithyOf_159 k_X3_smithyOf_65 rfl ?_
  exact e_i dX3_smithyOf_161 rfl (by simp_all [smoS]) rfl

set_option maxHeartbeats 4000000 in
set_option maxRecDepth 100000 in
theorem m_X3_why_n (hr : ∀ i, i < 6 → M.2 i < 6) {j : Int32} (hj : ¬ isSm (M.1 (M.2 0)) j) {w : Int32} : C_X3_why cA ad D [.ref (ad 0), .int j, .int w] M (Ri IA M) := by
  refine PM_of (lv := [some (.ref (ad 0)), some (.int j), some (.int w), none]) (by decide +kernel) rfl (Nat.le_of_ble_eq_true rfl) rfl ?_
  have hq0 := hr 0 (by decide)
  refine r_al0 (n := 1) dX3_why_0 rfl ?_
  refine g_br_now (n := 4)  in_X3_why_wsX30 k_X3_why_12 dX3_why_1 rfl ?_
  refine r_il1 (n := 5) dX3_why_4 rfl ?_
  refine cV_n (n := 8) (np := 1) (m_X2_find_n (hr _ (by decide)) hj) gX3_why_X2_find rfl (by decide +kernel) rfl (by decide) (by decide) (by omega) (cell_st cA ad _ (by first | assumption | omega | exact hr _ (by omega))) rfl dX3_why_5 rfl rfl (Nat.le_of_ble_eq_true rfl) ?_
  refine r_as3N (n := 9) (by decide) rfl dX3_why_8 rfl ?_
  refine r_al3N (n := 10) dX3_why_9 rfl ?_
  refine r_ifnullN (tgt := 20) dX3_why_10 (by decide) ?_
  refine r_ldc (n := 22) dX3_why_20 k_X3_why_65 rfl ?_
  exact e_i dX3_why_22 rfl rfl rfl

set_option maxHeartbeats 4000000 in
set_option maxRecDepth 100000 in
theorem m_X3_why_s (hr : ∀ i, i < 6 → M.2 i < 6) {N : Nat} (hN : M.1 (M.2 0) 0 = nI N) (h8 : N ≤ 8) {k : Nat} (hk : k < N) {w : Int32} : C_X3_why cA ad D [.ref (ad 0), .int (nI k), .int w] M (Ri (whyS (M.1 (M.2 0)) k w) M) := by
  refine PM_of (lv := [some (.ref (ad 0)), some (.int (nI k)), some (.int w), none]) (by decide +kernel) rfl (Nat.le_of_ble_eq_true rfl) rfl ?_
  have hq0 := hr 0 (by decide)
  refine r_al0 (n := 1) dX3_why_0 rfl ?_
  refine g_br_now (n := 4)  in_X3_why_wsX30 k_X3_why_12 dX3_why_1 rfl ?_
  refine r_il1 (n := 5) dX3_why_4 rfl ?_
  refine cV_a (n := 8) (np := 1) (m_X2_find_s (N := N) (k := k) (hr _ (by decide)) hN h8 hk) gX3_why_X2_find rfl (by decide +kernel) rfl (by decide) (by decide) (by omega) (cell_st cA ad _ (by first | assumption | omega | exact hr _ (by omega))) rfl dX3_why_5 rfl rfl (Nat.le_of_ble_eq_true rfl) ?_
  refine r_as3 (n := 9) (by decide) rfl dX3_why_8 rfl ?_
  refine r_al3 (n := 10) dX3_why_9 rfl ?_
  refine r_ifnull (n := 13) dX3_why_10 rfl ?_
  refine r_il2 (n := 14) dX3_why_13 rfl ?_
  refine cS_i (n := 17) (np := 1) (m_X3_isFlag) gX3_why_X3_isFlag rfl (by decide +kernel) rfl (by decide) (by decide) dX3_why_14 rfl rfl (Nat.le_of_ble_eq_true rfl) ?_
  refine r_if_ne (tgt := 23) (n := 20) dX3_why_17 (by decide) rfl (fun c_17 => ?_) (fun c_17 => ?_)
  · replace c_17 := i11 c_17
    refine r_al0 (n := 24) dX3_why_23 rfl ?_
    refine g_br_now (n := 27)  in_X3_why_wsX30 k_X3_why_12 dX3_why_24 rfl ?_
    refine r_al3 (n := 28) dX3_why_27 rfl ?_
    refine r_il2 (n := 29) dX3_why_28 rfl ?_
    refine r_iconst (v := 1) (n := 30) dX3_why_29 (by decide) rfl ?_
    refine r_icmp_ne (tgt := 37) (n := 33) dX3_why_30 (by decide) rfl (fun c_30 => ?_) (fun c_30 => ?_)
    · have hw : w = 0 := c_17.resolve_right c_30
      subst hw
      refine r_iconst (v := 0) (n := 38) dX3_why_37 (by decide) rfl ?_
      refine cV_i (n := 41) (np := 2) (m_X2_reasonAgainst (hr _ (by decide)) (by omega) false) gX3_why_X2_reasonAgainst rfl (by decide +kernel) rfl (by decide) (by decide) (by omega) (cell_st cA ad _ (by first | assumption | omega | exact hr _ (by omega))) rfl dX3_why_38 rfl rfl (Nat.le_of_ble_eq_true rfl) ?_
      exact e_i dX3_why_41 rfl (by simp [whyS]) rfl
    · subst c_30
      refine r_iconst (v := 1) (n := 34) dX3_why_33 (by decide) rfl ?_
      refine r_goto (tgt := 38) dX3_why_34 (by decide) ?_
      refine cV_i (n := 41) (np := 2) (m_X2_reasonAgainst (hr _ (by decide)) (by omega) true) gX3_why_X2_reasonAgainst rfl (by decide +kernel) rfl (by decide) (by decide) (by omega) (cell_st cA ad _ (by first | assumption | omega | exact hr _ (by omega))) rfl dX3_why_38 rfl rfl (Nat.le_of_ble_eq_true rfl) ?_
      exact e_i dX3_why_41 rfl (by simp [whyS]) rfl
  · replace c_17 := i10 c_17
    rw [not_or] at c_17
    refine r_ldc (n := 22) dX3_why_20 k_X3_why_65 rfl ?_
    exact e_i dX3_why_22 rfl (by simp only [whyS, if_neg c_17.1, if_neg c_17.2]) rfl

set_option maxHeartbeats 4000000 in
set_option maxRecDepth 100000 in
theorem m_X3_mend_n (hr : ∀ i, i < 6 → M.2 i < 6) {j : Int32} (hj : ¬ isSm (M.1 (M.2 0)) j) {w x : Int32} : C_X3_mend cA ad D [.ref (ad 0), .int j, .int w, .int x] M (Ri IA M) := by
  refine PM_of (lv := [some (.ref (ad 0)), some (.int j), some (.int w), some (.int x), none, none]) (by decide +kernel) rfl (Nat.le_of_ble_eq_true rfl) rfl ?_
  have hq0 := hr 0 (by decide)
  refine r_al0 (n := 1) dX3_mend_0 rfl ?_
  refine g_br_now (n := 4)  in_X3_mend_wsX30 k_X3_mend_12 dX3_mend_1 rfl ?_
  refine r_il1 (n := 5) dX3_mend_4 rfl ?_
  refine cV_n (n := 8) (np := 1) (m_X2_find_n (hr _ (by decide)) hj) gX3_mend_X2_find rfl (by decide +kernel) rfl (by decide) (by decide) (by omega) (cell_st cA ad _ (by first | assumption | omega | exact hr _ (by omega))) rfl dX3_mend_5 rfl rfl (Nat.le_of_ble_eq_true rfl) ?_
  refine r_astoreN4 (n := 10) (by decide) rfl dX3_mend_8 rfl ?_
  refine r_aloadN4 (n := 12) dX3_mend_10 rfl ?_
  refine r_ifnullN (tgt := 22) dX3_mend_12 (by decide) ?_
  refine r_ldc (n := 24) dX3_mend_22 k_X3_mend_65 rfl ?_
  exact e_i dX3_mend_24 rfl rfl rfl

set_option maxHeartbeats 4000000 in
set_option maxRecDepth 100000 in
theorem m_X3_mend_s (hr : ∀ i, i < 6 → M.2 i < 6) {N : Nat} (hN : M.1 (M.2 0) 0 = nI N) (h8 : N ≤ 8) {k : Nat} (hk : k < N) {w x : Int32} : C_X3_mend cA ad D [.ref (ad 0), .int (nI k), .int w, .int x] M (Ri (mndS (M.1 (M.2 0)) k w x) M) := by
  refine PM_of (lv := [some (.ref (ad 0)), some (.int (nI k)), some (.int w), some (.int x), none, none]) (by decide +kernel) rfl (Nat.le_of_ble_eq_true rfl) rfl ?_
  have hq0 := hr 0 (by decide)
  refine r_al0 (n := 1) dX3_mend_0 rfl ?_
  refine g_br_now (n := 4)  in_X3_mend_wsX30 k_X3_mend_12 dX3_mend_1 rfl ?_
  refine r_il1 (n := 5) dX3_mend_4 rfl ?_
  refine cV_a (n := 8) (np := 1) (m_X2_find_s (N := N) (k := k) (hr _ (by decide)) hN h8 hk) gX3_mend_X2_find rfl (by decide +kernel) rfl (by decide) (by decide) (by omega) (cell_st cA ad _ (by first | assumption | omega | exact hr _ (by omega))) rfl dX3_mend_5 rfl rfl (Nat.le_of_ble_eq_true rfl) ?_
  refine r_as4 (n := 10) (by decide) rfl dX3_mend_8 rfl ?_
  refine r_al4 (n := 12) dX3_mend_10 rfl ?_
  refine r_ifnull (n := 15) dX3_mend_12 rfl ?_
  refine r_il2 (n := 16) dX3_mend_15 rfl ?_
  refine cS_i (n := 19) (np := 1) (m_X3_isFlag) gX3_mend_X3_isFlag rfl (by decide +kernel) rfl (by decide) (by decide) dX3_mend_16 rfl rfl (Nat.le_of_ble_eq_true rfl) ?_
  refine r_if_ne (tgt := 25) (n := 22) dX3_mend_19 (by decide) rfl (fun c_19 => ?_) (fun c_19 => ?_)
  · replace c_19 := i11 c_19
    refine r_il2 (n := 26) dX3_mend_25 rfl ?_
    refine r_iconst (v := 1) (n := 27) dX3_mend_26 (by decide) rfl ?_
    refine r_icmp_ne (tgt := 34) (n := 30) dX3_mend_27 (by decide) rfl (fun c_27 => ?_) (fun c_27 => ?_)
    · have hw : w = 0 := c_19.resolve_right c_27
      subst hw
      refine r_iconst (v := 0) (n := 35) dX3_mend_34 (by decide) rfl ?_
      refine r_is5 (n := 37) (by decide) rfl dX3_mend_35 rfl ?_
      refine r_il3 (n := 38) dX3_mend_37 rfl ?_
      by_cases h_0 : x = 0
      · subst h_0
        refine r_tableIn (tgt := 68) dX3_mend_38 (by decide) (by decide) rfl (by decide) ?_
        refine r_il5 (n := 70) dX3_mend_68 rfl ?_
        refine cS_i (n := 73) (np := 1) (m_X3_hoursOfMend false) gX3_mend_X3_hoursOfMend rfl (by decide +kernel) rfl (by decide) (by decide) dX3_mend_70 rfl rfl (Nat.le_of_ble_eq_true rfl) ?_
        exact e_i dX3_mend_73 rfl (by simp_all [mndS, mndB]) rfl
      by_cases h_1 : x = 1
      · subst h_1
        refine r_tableIn (tgt := 74) dX3_mend_38 (by decide) (by decide) rfl (by decide) ?_
        refine r_al4 (n := 76) dX3_mend_74 rfl ?_
        refine r_il5 (n := 78) dX3_mend_76 rfl ?_
        refine cV_i (n := 81) (np := 1) (m_X1_leatherOfMend (hr _ (by decide)) (by omega) false) gX3_mend_X1_leatherOfMend rfl (by decide +kernel) rfl (by decide) (by decide) (by omega) (cell_sm cA ad _ (by first | assumption | omega | exact hr _ (by omega)) (by first | assumption | omega | exact hr _ (by omega))) rfl dX3_mend_78 rfl rfl (Nat.le_of_ble_eq_true rfl) ?_
        exact e_i dX3_mend_81 rfl (by simp_all [mndS, mndB]) rfl
      by_cases h_2 : x = 2
      · subst h_2
        refine r_tableIn (tgt := 82) dX3_mend_38 (by decide) (by decide) rfl (by decide) ?_
        refine r_al0 (n := 83) dX3_mend_82 rfl ?_
        refine g_br_now (n := 86)  in_X3_mend_wsX30 k_X3_mend_12 dX3_mend_83 rfl ?_
        refine r_al4 (n := 88) dX3_mend_86 rfl ?_
        refine r_il5 (n := 90) dX3_mend_88 rfl ?_
        refine cV_i (n := 93) (np := 2) (m_X2_priceOfMend (hr _ (by decide)) (by omega) false) gX3_mend_X2_priceOfMend rfl (by decide +kernel) rfl (by decide) (by decide) (by omega) (cell_st cA ad _ (by first | assumption | omega | exact hr _ (by omega))) rfl dX3_mend_90 rfl rfl (Nat.le_of_ble_eq_true rfl) ?_
        exact e_i dX3_mend_93 rfl (by simp_all [mndS, mndB]) rfl
      by_cases h_3 : x = 3
      · subst h_3
        refine r_tableIn (tgt := 94) dX3_mend_38 (by decide) (by decide) rfl (by decide) ?_
        refine r_al4 (n := 96) dX3_mend_94 rfl ?_
        refine r_il5 (n := 98) dX3_mend_96 rfl ?_
        refine cV_i (n := 101) (np := 1) (m_X1_wearBehindMend (hr _ (by decide)) (by omega) false) gX3_mend_X1_wearBehindMend rfl (by decide +kernel) rfl (by decide) (by decide) (by omega) (cell_sm cA ad _ (by first | assumption | omega | exact hr _ (by omega)) (by first | assumption | omega | exact hr _ (by omega))) rfl dX3_mend_98 rfl rfl (Nat.le_of_ble_eq_true rfl) ?_
        exact e_i dX3_mend_101 rfl (by simp_all [mndS, mndB]) rfl
      refine r_tableOut (tgt := 102) dX3_mend_38 (sw_out (lo := 0) (hi := 3) (by decide) (by decide) (fun k h1 h2 => by
        have hk : k = 0 ∨ k = 1 ∨ k = 2 ∨ k = 3 := by omega
        rcases hk with rfl | rfl | rfl | rfl
        · exact h_0
        · exact h_1
        · exact h_2
        · exact h_3
        )) (by decide) ?_
      refine r_ldc (n := 104) dX3_mend_102 k_X3_mend_65 rfl ?_
      exact e_i dX3_mend_104 rfl (by simp_all [mndS, mndB]) rfl
    · subst c_27
      refine r_iconst (v := 1) (n := 31) dX3_mend_30 (by decide) rfl ?_
      refine r_goto (tgt := 35) dX3_mend_31 (by decide) ?_
      refine r_is5 (n := 37) (by decide) rfl dX3_mend_35 rfl ?_
      refine r_il3 (n := 38) dX3_mend_37 rfl ?_
      by_cases h_0 : x = 0
      · subst h_0
        refine r_tableIn (tgt := 68) dX3_mend_38 (by decide) (by decide) rfl (by decide) ?_
        refine r_il5 (n := 70) dX3_mend_68 rfl ?_
        refine cS_i (n := 73) (np := 1) (m_X3_hoursOfMend true) gX3_mend_X3_hoursOfMend rfl (by decide +kernel) rfl (by decide) (by decide) dX3_mend_70 rfl rfl (Nat.le_of_ble_eq_true rfl) ?_
        exact e_i dX3_mend_73 rfl (by simp_all [mndS, mndB]) rfl
      by_cases h_1 : x = 1
      · subst h_1
        refine r_tableIn (tgt := 74) dX3_mend_38 (by decide) (by decide) rfl (by decide) ?_
        refine r_al4 (n := 76) dX3_mend_74 rfl ?_
        refine r_il5 (n := 78) dX3_mend_76 rfl ?_
        refine cV_i (n := 81) (np := 1) (m_X1_leatherOfMend (hr _ (by decide)) (by omega) true) gX3_mend_X1_leatherOfMend rfl (by decide +kernel) rfl (by decide) (by decide) (by omega) (cell_sm cA ad _ (by first | assumption | omega | exact hr _ (by omega)) (by first | assumption | omega | exact hr _ (by omega))) rfl dX3_mend_78 rfl rfl (Nat.le_of_ble_eq_true rfl) ?_
        exact e_i dX3_mend_81 rfl (by simp_all [mndS, mndB]) rfl
      by_cases h_2 : x = 2
      · subst h_2
        refine r_tableIn (tgt := 82) dX3_mend_38 (by decide) (by decide) rfl (by decide) ?_
        refine r_al0 (n := 83) dX3_mend_82 rfl ?_
        refine g_br_now (n := 86)  in_X3_mend_wsX30 k_X3_mend_12 dX3_mend_83 rfl ?_
        refine r_al4 (n := 88) dX3_mend_86 rfl ?_
        refine r_il5 (n := 90) dX3_mend_88 rfl ?_
        refine cV_i (n := 93) (np := 2) (m_X2_priceOfMend (hr _ (by decide)) (by omega) true) gX3_mend_X2_priceOfMend rfl (by decide +kernel) rfl (by decide) (by decide) (by omega) (cell_st cA ad _ (by first | assumption | omega | exact hr _ (by omega))) rfl dX3_mend_90 rfl rfl (Nat.le_of_ble_eq_true rfl) ?_
        exact e_i dX3_mend_93 rfl (by simp_all [mndS, mndB]) rfl
      by_cases h_3 : x = 3
      · subst h_3
        refine r_tableIn (tgt := 94) dX3_mend_38 (by decide) (by decide) rfl (by decide) ?_
        refine r_al4 (n := 96) dX3_mend_94 rfl ?_
        refine r_il5 (n := 98) dX3_mend_96 rfl ?_
        refine cV_i (n := 101) (np := 1) (m_X1_wearBehindMend (hr _ (by decide)) (by omega) true) gX3_mend_X1_wearBehindMend rfl (by decide +kernel) rfl (by decide) (by decide) (by omega) (cell_sm cA ad _ (by first | assumption | omega | exact hr _ (by omega)) (by first | assumption | omega | exact hr _ (by omega))) rfl dX3_mend_98 rfl rfl (Nat.le_of_ble_eq_true rfl) ?_
        exact e_i dX3_mend_101 rfl (by simp_all [mndS, mndB]) rfl
      refine r_tableOut (tgt := 102) dX3_mend_38 (sw_out (lo := 0) (hi := 3) (by decide) (by decide) (fun k h1 h2 => by
        have hk : k = 0 ∨ k = 1 ∨ k = 2 ∨ k = 3 := by omega
        rcases hk with rfl | rfl | rfl | rfl
        · exact h_0
        · exact h_1
        · exact h_2
        · exact h_3
        )) (by decide) ?_
      refine r_ldc (n := 104) dX3_mend_102 k_X3_mend_65 rfl ?_
      exact e_i dX3_mend_104 rfl (by simp_all [mndS, mndB]) rfl
  · replace c_19 := i10 c_19
    rw [not_or] at c_19
    refine r_ldc (n := 24) dX3_mend_22 k_X3_mend_65 rfl ?_
    exact e_i dX3_mend_24 rfl (by simp only [mndS, if_neg c_19.1, if_neg c_19.2]) rfl

set_option maxHeartbeats 4000000 in
set_option maxRecDepth 100000 in
theorem m_X3_count (hr : ∀ i, i < 6 → M.2 i < 6) {N : Nat} (hN : M.1 (M.2 0) 0 = nI N) (h8 : N ≤ 8) {w : Int32} : C_X3_count cA ad D [.ref (ad 0), .int w] M (Ri (cntS (M.1 (M.2 0)) N (M.1 8 0) (M.1 6 0) w) M) := by
  refine PM_of (lv := [some (.ref (ad 0)), some (.int w)]) (by decide +kernel) rfl (Nat.le_of_ble_eq_true rfl) rfl ?_
  have hq0 := hr 0 (by decide)
  refine r_il1 (n := 1) dX3_count_0 rfl ?_
  by_cases h_0 : w = 0
  · subst h_0
    refine r_tableIn (tgt := 112) dX3_count_1 (by decide) (by decide) rfl (by decide) ?_
    refine r_al0 (n := 113) dX3_count_112 rfl ?_
    refine g_br_now (n := 116)  in_X3_count_wsX30 k_X3_count_12 dX3_count_113 rfl ?_
    refine g_st_smithyCount (n := 119) (by first | assumption | omega | exact hr _ (by omega)) in_X3_count_wsX20 k_X3_count_133 dX3_count_116 rfl ?_
    exact e_i dX3_count_119 rfl (by simp_all [cntS]) rfl
  by_cases h_1 : w = 1
  · subst h_1
    refine r_tableIn (tgt := 120) dX3_count_1 (by decide) (by decide) rfl (by decide) ?_
    refine r_al0 (n := 121) dX3_count_120 rfl ?_
    refine g_br_now (n := 124)  in_X3_count_wsX30 k_X3_count_12 dX3_count_121 rfl ?_
    refine g_st_day (n := 127) (by first | assumption | omega | exact hr _ (by omega)) in_X3_count_wsX20 k_X3_count_146 dX3_count_124 rfl ?_
    exact e_i dX3_count_127 rfl (by simp_all [cntS]) rfl
  by_cases h_2 : w = 2
  · subst h_2
    refine r_tableIn (tgt := 128) dX3_count_1 (by decide) (by decide) rfl (by decide) ?_
    refine r_al0 (n := 129) dX3_count_128 rfl ?_
    refine g_br_now (n := 132)  in_X3_count_wsX30 k_X3_count_12 dX3_count_129 rfl ?_
    refine g_st_mile (n := 135) (by first | assumption | omega | exact hr _ (by omega)) in_X3_count_wsX20 k_X3_count_100 dX3_count_132 rfl ?_
    exact e_i dX3_count_135 rfl (by simp_all [cntS]) rfl
  by_cases h_3 : w = 3
  · subst h_3
    refine r_tableIn (tgt := 136) dX3_count_1 (by decide) (by decide) rfl (by decide) ?_
    refine r_al0 (n := 137) dX3_count_136 rfl ?_
    refine g_br_now (n := 140)  in_X3_count_wsX30 k_X3_count_12 dX3_count_137 rfl ?_
    refine g_st_hoursLeft (n := 143) (by first | assumption | omega | exact hr _ (by omega)) in_X3_count_wsX20 k_X3_count_149 dX3_count_140 rfl ?_
    exact e_i dX3_count_143 rfl (by simp_all [cntS]) rfl
  by_cases h_4 : w = 4
  · subst h_4
    refine r_tableIn (tgt := 144) dX3_count_1 (by decide) (by decide) rfl (by decide) ?_
    refine r_al0 (n := 145) dX3_count_144 rfl ?_
    refine g_br_now (n := 148)  in_X3_count_wsX30 k_X3_count_12 dX3_count_145 rfl ?_
    refine g_st_leather (n := 151) (by first | assumption | omega | exact hr _ (by omega)) in_X3_count_wsX20 k_X3_count_152 dX3_count_148 rfl ?_
    exact e_i dX3_count_151 rfl (by simp_all [cntS]) rfl
  by_cases h_5 : w = 5
  · subst h_5
    refine r_tableIn (tgt := 152) dX3_count_1 (by decide) (by decide) rfl (by decide) ?_
    refine r_al0 (n := 153) dX3_count_152 rfl ?_
    refine g_br_now (n := 156)  in_X3_count_wsX30 k_X3_count_12 dX3_count_153 rfl ?_
    refine g_st_money (n := 159) (by first | assumption | omega | exact hr _ (by omega)) in_X3_count_wsX20 k_X3_count_155 dX3_count_156 rfl ?_
    exact e_i dX3_count_159 rfl (by simp_all [cntS]) rfl
  by_cases h_6 : w = 6
  · subst h_6
    refine r_tableIn (tgt := 160) dX3_count_1 (by decide) (by decide) rfl (by decide) ?_
    refine r_al0 (n := 161) dX3_count_160 rfl ?_
    refine g_br_now (n := 164)  in_X3_count_wsX30 k_X3_count_12 dX3_count_161 rfl ?_
    refine cV_i (n := 167) (np := 0) (m_X2_debtsTogether (hr _ (by decide)) hN h8) gX3_count_X2_debtsTogether rfl (by decide +kernel) rfl (by decide) (by decide) (by omega) (cell_st cA ad _ (by first | assumption | omega | exact hr _ (by omega))) rfl dX3_count_164 rfl rfl (Nat.le_of_ble_eq_true rfl) ?_
    exact e_i dX3_count_167 rfl (by simp_all [cntS]) rfl
  by_cases h_7 : w = 7
  · subst h_7
    refine r_tableIn (tgt := 168) dX3_count_1 (by decide) (by decide) rfl (by decide) ?_
    refine r_al0 (n := 169) dX3_count_168 rfl ?_
    refine g_br_now (n := 172)  in_X3_count_wsX30 k_X3_count_12 dX3_count_169 rfl ?_
    refine g_st_paidForLeather (n := 175) (by first | assumption | omega | exact hr _ (by omega)) in_X3_count_wsX20 k_X3_count_161 dX3_count_172 rfl ?_
    exact e_i dX3_count_175 rfl (by simp_all [cntS]) rfl
  by_cases h_8 : w = 8
  · subst h_8
    refine r_tableIn (tgt := 176) dX3_count_1 (by decide) (by decide) rfl (by decide) ?_
    refine r_al0 (n := 177) dX3_count_176 rfl ?_
    refine g_br_now (n := 180)  in_X3_count_wsX30 k_X3_count_12 dX3_count_177 rfl ?_
    refine g_st_owedForMends (n := 183) (by first | assumption | omega | exact hr _ (by omega)) in_X3_count_wsX20 k_X3_count_164 dX3_count_180 rfl ?_
    exact e_i dX3_count_183 rfl (by simp_all [cntS]) rfl
  by_cases h_9 : w = 9
  · subst h_9
    refine r_tableIn (tgt := 184) dX3_count_1 (by decide) (by decide) rfl (by decide) ?_
    refine r_al0 (n := 185) dX3_count_184 rfl ?_
    refine g_br_now (n := 188)  in_X3_count_wsX30 k_X3_count_12 dX3_count_185 rfl ?_
    refine cV_i (n := 191) (np := 0) (m_X2_coldSet (hr _ (by decide)) hN h8) gX3_count_X2_coldSet rfl (by decide +kernel) rfl (by decide) (by decide) (by omega) (cell_st cA ad _ (by first | assumption | omega | exact hr _ (by omega))) rfl dX3_count_188 rfl rfl (Nat.le_of_ble_eq_true rfl) ?_
    exact e_i dX3_count_191 rfl (by simp_all [cntS]) rfl
  by_cases h_10 : w = 10
  · subst h_10
    refine r_tableIn (tgt := 192) dX3_count_1 (by decide) (by decide) rfl (by decide) ?_
    refine r_al0 (n := 193) dX3_count_192 rfl ?_
    refine g_br_now (n := 196)  in_X3_count_wsX30 k_X3_count_12 dX3_count_193 rfl ?_
    refine g_st_longestCold (n := 199) (by first | assumption | omega | exact hr _ (by omega)) in_X3_count_wsX20 k_X3_count_170 dX3_count_196 rfl ?_
    exact e_i dX3_count_199 rfl (by simp_all [cntS]) rfl
  by_cases h_11 : w = 11
  · subst h_11
    refine r_tableIn (tgt := 200) dX3_count_1 (by decide) (by decide) rfl (by decide) ?_
    refine r_al0 (n := 201) dX3_count_200 rfl ?_
    refine g_br_now (n := 204)  in_X3_count_wsX30 k_X3_count_12 dX3_count_201 rfl ?_
    refine g_st_milesWalked (n := 207) (by first | assumption | omega | exact hr _ (by omega)) in_X3_count_wsX20 k_X3_count_173 dX3_count_204 rfl ?_
    exact e_i dX3_count_207 rfl (by simp_all [cntS]) rfl
  by_cases h_12 : w = 12
  · subst h_12
    refine r_tableIn (tgt := 208) dX3_count_1 (by decide) (by decide) rfl (by decide) ?_
    refine r_al0 (n := 209) dX3_count_208 rfl ?_
    refine g_br_states (n := 212)  in_X3_count_wsX30 k_X3_count_176 dX3_count_209 rfl ?_
    exact e_i dX3_count_212 rfl (by simp_all [cntS]) rfl
  by_cases h_13 : w = 13
  · subst h_13
    refine r_tableIn (tgt := 213) dX3_count_1 (by decide) (by decide) rfl (by decide) ?_
    refine r_al0 (n := 214) dX3_count_213 rfl ?_
    refine g_br_text (n := 217)  in_X3_count_wsX30 k_X3_count_26 dX3_count_214 rfl ?_
    refine g_ot_length (n := 220)  in_X3_count_wsX00 k_X3_count_179 dX3_count_217 rfl ?_
    exact e_i dX3_count_220 rfl (by simp_all [cntS]) rfl
  by_cases h_14 : w = 14
  · subst h_14
    refine r_tableIn (tgt := 253) dX3_count_1 (by decide) (by decide) rfl (by decide) ?_
    refine r_ldc (n := 255) dX3_count_253 k_X3_count_65 rfl ?_
    exact e_i dX3_count_255 rfl (by simp_all [cntS]) rfl
  by_cases h_15 : w = 15
  · subst h_15
    refine r_tableIn (tgt := 253) dX3_count_1 (by decide) (by decide) rfl (by decide) ?_
    refine r_ldc (n := 255) dX3_count_253 k_X3_count_65 rfl ?_
    exact e_i dX3_count_255 rfl (by simp_all [cntS]) rfl
  by_cases h_16 : w = 16
  · subst h_16
    refine r_tableIn (tgt := 253) dX3_count_1 (by decide) (by decide) rfl (by decide) ?_
    refine r_ldc (n := 255) dX3_count_253 k_X3_count_65 rfl ?_
    exact e_i dX3_count_255 rfl (by simp_all [cntS]) rfl
  by_cases h_17 : w = 17
  · subst h_17
    refine r_tableIn (tgt := 253) dX3_count_1 (by decide) (by decide) rfl (by decide) ?_
    refine r_ldc (n := 255) dX3_count_253 k_X3_count_65 rfl ?_
    exact e_i dX3_count_255 rfl (by simp_all [cntS]) rfl
  by_cases h_18 : w = 18
  · subst h_18
    refine r_tableIn (tgt := 253) dX3_count_1 (by decide) (by decide) rfl (by decide) ?_
    refine r_ldc (n := 255) dX3_count_253 k_X3_count_65 rfl ?_
    exact e_i dX3_count_255 rfl (by simp_all [cntS]) rfl
  by_cases h_19 : w = 19
  · subst h_19
    refine r_tableIn (tgt := 253) dX3_count_1 (by decide) (by decide) rfl (by decide) ?_
    refine r_ldc (n := 255) dX3_count_253 k_X3_count_65 rfl ?_
    exact e_i dX3_count_255 rfl (by simp_all [cntS]) rfl
  by_cases h_20 : w = 20
  · subst h_20
    refine r_tableIn (tgt := 221) dX3_count_1 (by decide) (by decide) rfl (by decide) ?_
    refine r_al0 (n := 222) dX3_count_221 rfl ?_
    refine g_br_now (n := 225)  in_X3_count_wsX30 k_X3_count_12 dX3_count_222 rfl ?_
    refine g_st_cold (n := 228) (by first | assumption | omega | exact hr _ (by omega)) in_X3_count_wsX20 k_X3_count_182 dX3_count_225 rfl ?_
    exact e_i dX3_count_228 rfl (by simp_all [cntS]) rfl
  by_cases h_21 : w = 21
  · subst h_21
    refine r_tableIn (tgt := 229) dX3_count_1 (by decide) (by decide) rfl (by decide) ?_
    refine r_al0 (n := 230) dX3_count_229 rfl ?_
    refine g_br_now (n := 233)  in_X3_count_wsX30 k_X3_count_12 dX3_count_230 rfl ?_
    refine g_st_hours (n := 236) (by first | assumption | omega | exact hr _ (by omega)) in_X3_count_wsX20 k_X3_count_185 dX3_count_233 rfl ?_
    exact e_i dX3_count_236 rfl (by simp_all [cntS]) rfl
  by_cases h_22 : w = 22
  · subst h_22
    refine r_tableIn (tgt := 237) dX3_count_1 (by decide) (by decide) rfl (by decide) ?_
    refine r_al0 (n := 238) dX3_count_237 rfl ?_
    refine g_br_now (n := 241)  in_X3_count_wsX30 k_X3_count_12 dX3_count_238 rfl ?_
    refine g_st_rate (n := 244) (by first | assumption | omega | exact hr _ (by omega)) in_X3_count_wsX20 k_X3_count_188 dX3_count_241 rfl ?_
    exact e_i dX3_count_244 rfl (by simp_all [cntS]) rfl
  by_cases h_23 : w = 23
  · subst h_23
    refine r_tableIn (tgt := 245) dX3_count_1 (by decide) (by decide) rfl (by decide) ?_
    refine r_al0 (n := 246) dX3_count_245 rfl ?_
    refine g_br_now (n := 249)  in_X3_count_wsX30 k_X3_count_12 dX3_count_246 rfl ?_
    refine g_st_patience (n := 252) (by first | assumption | omega | exact hr _ (by omega)) in_X3_count_wsX20 k_X3_count_191 dX3_count_249 rfl ?_
    exact e_i dX3_count_252 rfl (by simp_all [cntS]) rfl
  refine r_tableOut (tgt := 253) dX3_count_1 (sw_out (lo := 0) (hi := 23) (by decide) (by decide) (fun k h1 h2 => by
    have hk : k = 0 ∨ k = 1 ∨ k = 2 ∨ k = 3 ∨ k = 4 ∨ k = 5 ∨ k = 6 ∨ k = 7 ∨ k = 8 ∨ k = 9 ∨ k = 10 ∨ k = 11 ∨ k = 12 ∨ k = 13 ∨ k = 14 ∨ k = 15 ∨ k = 16 ∨ k = 17 ∨ k = 18 ∨ k = 19 ∨ k = 20 ∨ k = 21 ∨ k = 22 ∨ k = 23 := by omega
    rcases hk with rfl | rfl | rfl | rfl | rfl | rfl | rfl | rfl | rfl | rfl | rfl | rfl | rfl | rfl | rfl | rfl | rfl | rfl | rfl | rfl | rfl | rfl | rfl | rfl
    · exact h_0
    · exact h_1
    · exact h_2
    · exact h_3
    · exact h_4
    · exact h_5
    · exact h_6
    · exact h_7
    · exact h_8
    · exact h_9
    · exact h_10
    · exact h_11
    · exact h_12
    · exact h_13
    · exact h_14
    · exact h_15
    · exact h_16
    · exact h_17
    · exact h_18
    · exact h_19
    · exact h_20
    · exact h_21
    · exact h_22
    · exact h_23
    )) (by decide) ?_
  refine r_ldc (n := 255) dX3_count_253 k_X3_count_65 rfl ?_
  exact e_i dX3_count_255 rfl (by simp_all [cntS]) rfl

end BR2
end
section
/-! ===== the class's part of the memory against the abstract state u (now), h states hs, a text tx of t ===== -/
def Agr (v u : Vec) : Prop := ∃ N : Nat, N ≤ 8 ∧ u 0 = nI N ∧ ∀ k, k < 14 + 8 * N → v k = u k
def PERM (r : Nat → Nat) : Prop := (∀ i, i < 6 → r i < 6) ∧ ∀ i j, i < 6 → j < 6 → r i = r j → i = j
def psh (h : Nat) : Nat := if h = 4 then 4 else h + 1
def push (h : Nat) (hs : Nat → Vec) (u : Vec) : Nat → Vec := fun i => if h = 4 then (if i = 3 then u else hs (i + 1)) else (if i = h then u else hs i)
def CA (M : Mem) (u : Vec) (h : Nat) (hs : Nat → Vec) (t : Nat) (tx : Vec) : Prop :=
  PERM M.2 ∧ M.1 8 0 = nI h ∧ h ≤ 4 ∧ Agr (M.1 (M.2 0)) u ∧ (∀ i, i < h → Agr (M.1 (M.2 (2 + i))) (hs i)) ∧ M.1 6 0 = nI t ∧ t ≤ 60 ∧ ∀ i, i < t → M.1 7 i = tx i
def FC (M M' : Mem) : Prop := ∀ q, 9 ≤ q → M'.1 q = M.1 q
theorem FC.rf (M : Mem) : FC M M := fun _ _ => rfl
theorem FC.tr {M M' M'' : Mem} (h : FC M M') (h' : FC M' M'') : FC M M'' := fun q hq => (h' q hq).trans (h q hq)
theorem FC.set {M : Mem} {p : Nat} (hp : p < 9) (w : Vec) : FC M (setp M p w) := fun q hq => setp_ne M w (by omega)
def OpQ (M : Mem) (u : Vec) (h : Nat) (hs : Nat → Vec) (t : Nat) (tx : Vec) (S : Int32 × Vec) : Mem → Prop := fun M' => FC M M' ∧ if S.1 < 0 then CA M' u h hs t tx else CA M' S.2 (psh h) (push h hs u) t tx
theorem Agr.n {v u : Vec} (h : Agr v u) : ∃ N : Nat, N ≤ 8 ∧ u 0 = nI N ∧ v 0 = nI N ∧ ∀ k, k < 14 + 8 * N → v k = u k := by
  obtain ⟨N, h8, hu, hk⟩ := h
  exact ⟨N, h8, hu, (hk 0 (by omega)).trans hu, hk⟩
theorem nI_un {a b : Nat} (ha : a ≤ 8) (hb : b ≤ 8) (h : nI a = nI b) : a = b := (nI_eq (by omega) (by omega)).mp h
theorem Agr.copy {v u : Vec} (w : Vec) (h : Agr v u) {N : Nat} (h8 : N ≤ 8) (hN : v 0 = nI N) : Agr (copyU w v N) u := by
  obtain ⟨N', h8', hu, hv, hk⟩ := h.n
  have e : N' = N := nI_un h8' h8 (hv.symm.trans hN)
  subst e
  exact ⟨N', h8', hu, fun k q => by rw [← hk k q]; simp [copyU, q]⟩
theorem CA.agr {M : Mem} {u : Vec} {h : Nat} {hs : Nat → Vec} {t : Nat} {tx : Vec} (c : CA M u h hs t tx) : Agr (M.1 (M.2 0)) u := c.2.2.2.1
/-- another trial -/
theorem CA.trial {M : Mem} {u : Vec} {h : Nat} {hs : Nat → Vec} {t : Nat} {tx : Vec} (c : CA M u h hs t tx) (w : Vec) : CA (setp M (M.2 1) w) u h hs t tx := by
  obtain ⟨hP, hh, h4, hu, hi, ht, h60, hx⟩ := c
  have h1 := hP.1 1 (by decide)
  have ne : ∀ i, i < 6 → i ≠ 1 → M.2 i ≠ M.2 1 := fun i hi hn q => hn (hP.2 i 1 hi (by decide) q)
  refine ⟨hP, ?_, h4, ?_, fun i q => ?_, ?_, h60, fun i q => ?_⟩
  · rw [setp_ne _ _ (by omega)]; exact hh
  · show Agr ((setp M (M.2 1) w).1 (M.2 0)) u
    rw [setp_ne _ _ (ne 0 (by decide) (by decide))]; exact hu
  · show Agr ((setp M (M.2 1) w).1 (M.2 (2 + i))) (hs i)
    rw [setp_ne _ _ (ne (2 + i) (by omega) (by omega))]; exact hi i q
  · rw [setp_ne _ _ (by omega)]; exact ht
  · rw [setp_ne _ _ (by omega)]; exact hx i q
theorem CA.row8 {M : Mem} {u : Vec} {h : Nat} {hs : Nat → Vec} {t : Nat} {tx : Vec} (c : CA M u h hs t tx) (b : Vec) (hb : b 0 = M.1 8 0) : CA (setp M 8 b) u h hs t tx := by
  obtain ⟨hP, hh, h4, hu, hi, ht, h60, hx⟩ := c
  refine ⟨hP, ?_, h4, ?_, fun i q => ?_, ?_, h60, fun i q => ?_⟩
  · rw [setp_at, hb]; exact hh
  · show Agr ((setp M 8 b).1 (M.2 0)) u
    have := hP.1 0 (by decide)
    rw [setp_ne _ _ (by omega)]; exact hu
  · show Agr ((setp M 8 b).1 (M.2 (2 + i))) (hs i)
    have := hP.1 (2 + i) (by omega)
    rw [setp_ne _ _ (by omega)]; exact hi i q
  · rw [setp_ne _ _ (by omega)]; exact ht
  · rw [setp_ne _ _ (by omega)]; exact hx i q
theorem CA.row6 {M : Mem} {u : Vec} {h : Nat} {hs : Nat → Vec} {t : Nat} {tx : Vec} (c : CA M u h hs t tx) (b : Vec) (hb : b 0 = M.1 6 0) : CA (setp M 6 b) u h hs t tx := by
  obtain ⟨hP, hh, h4, hu, hi, ht, h60, hx⟩ := c
  refine ⟨hP, ?_, h4, ?_, fun i q => ?_, ?_, h60, fun i q => ?_⟩
  · rw [setp_ne _ _ (by omega)]; exact hh
  · show Agr ((setp M 6 b).1 (M.2 0)) u
    have := hP.1 0 (by decide)
    rw [setp_ne _ _ (by omega)]; exact hu
  · show Agr ((setp M 6 b).1 (M.2 (2 + i))) (hs i)
    have := hP.1 (2 + i) (by omega)
    rw [setp_ne _ _ (by omega)]; exact hi i q
  · rw [setp_at, hb]; exact ht
  · rw [setp_ne _ _ (by omega)]; exact hx i q
theorem perm_swp {r : Nat → Nat} (h : PERM r) : PERM (va_up (va_up r 0 (r 1)) 1 (r 0)) := by
  have e : ∀ i, va_up (va_up r 0 (r 1)) 1 (r 0) i = r (if i = 0 then 1 else if i = 1 then 0 else i) := fun i => by
    by_cases h1 : i = 1
    · subst h1; simp [va_up]
    · by_cases h0 : i = 0
      · subst h0; simp [va_up]
      · simp [va_up, h0, h1]
  refine ⟨fun i hi => ?_, fun i j hi hj q => ?_⟩
  · rw [e]; exact h.1 _ (by split; omega; split <;> omega)
  · rw [e, e] at q
    have := h.2 _ _ (by split; omega; split <;> omega) (by split; omega; split <;> omega) q
    split at this <;> split at this <;> (try split at this) <;> (try split at this) <;> omega
theorem perm_rot {r : Nat → Nat} (h : PERM r) : PERM (rot r) := by
  obtain ⟨r0, r1, r2, r3, r4, r5⟩ := rot_v r
  have e : ∀ i, i < 6 → rot r i = r (if i < 2 then i else if i = 5 then 2 else i + 1) := fun i hi => by
    have hc : i = 0 ∨ i = 1 ∨ i = 2 ∨ i = 3 ∨ i = 4 ∨ i = 5 := by omega
    rcases hc with rfl | rfl | rfl | rfl | rfl | rfl
    · exact r0
    · exact r1
    · exact r2
    · exact r3
    · exact r4
    · exact r5
  refine ⟨rot_lt h.1, fun i j hi hj q => ?_⟩
  rw [e i hi, e j hj] at q
  have := h.2 _ _ (by split; omega; split <;> omega) (by split; omega; split <;> omega) q
  split at this <;> split at this <;> (try split at this) <;> (try split at this) <;> omega
section COMMIT
variable {cA : Nat → ClassId} {ad : Nat → Nat} {D : va_G} {M : Mem}
theorem swp_at (M : Mem) : (swp M).1 = M.1 ∧ (swp M).2 0 = M.2 1 ∧ (swp M).2 1 = M.2 0 ∧ ∀ i, 2 ≤ i → (swp M).2 i = M.2 i := by
  refine ⟨rfl, ?_, ?_, fun i hi => ?_⟩
  · simp [swp, va_up]
  · simp [swp, va_up]
  · have h0 : i ≠ 0 := by omega
    have h1 : i ≠ 1 := by omega
    simp [swp, va_up, h0, h1]
theorem commit_rel {u u' : Vec} {h : Nat} {hs : Nat → Vec} {t : Nat} {tx : Vec} (c : CA M u h hs t tx) (hA : Agr (M.1 (M.2 1)) u') {x : Int32} : C_X3_commit cA ad D [.ref (ad 0), .int x] M (QR x (OpQ M u h hs t tx (x, u'))) := by
  by_cases hx : x < 0
  · refine PM_weaken (m_X3_commit_e hx) (Ri_QR ⟨FC.rf _, ?_⟩)
    rw [if_pos hx]; exact c
  · obtain ⟨hP, hh, h4, hu, hi, ht, h60, htx⟩ := c
    obtain ⟨N, h8, huN, hvN, hk⟩ := hu.n
    have ne : ∀ i j, i < 6 → j < 6 → i ≠ j → M.2 i ≠ M.2 j := fun i j hi hj hn q => hn (hP.2 i j hi hj q)
    have lt := hP.1
    by_cases hh4 : h = 4
    · subst hh4
      obtain ⟨r0, r1, r2, r3, r4, r5⟩ := rot_v M.2
      have hR := m_X3_remember_4 (cA := cA) (ad := ad) (D := D) (M := M) lt hvN h8 hh (ne 0 2 (by decide) (by decide) (by decide))
      refine PM_weaken (m_X3_commit_g hx hR (rot_lt lt)) (Ri_QR ⟨?_, ?_⟩)
      · intro q hq
        rw [(swp_at _).1, mput_ne (by omega), setp_ne _ _ (by have := lt 2 (by decide); omega), mput_ne (by omega)]
      · rw [if_neg hx]
        have hpsh : psh 4 = 4 := rfl
        rw [hpsh]
        obtain ⟨s1, s2, s3, s4⟩ := swp_at (mput (setp (mput (M.1, rot M.2) 8 0 (nI 3)) (M.2 2) (copyU (M.1 (M.2 2)) (M.1 (M.2 0)) N)) 8 0 (nI 4))
        have rd : ∀ q, q < 6 → q ≠ M.2 2 → (mput (setp (mput (M.1, rot M.2) 8 0 (nI 3)) (M.2 2) (copyU (M.1 (M.2 2)) (M.1 (M.2 0)) N)) 8 0 (nI 4)).1 q = M.1 q := fun q h1 h2 => by
          rw [mput_ne (by omega), setp_ne _ _ h2, mput_ne (by omega)]
        have rd2 : (mput (setp (mput (M.1, rot M.2) 8 0 (nI 3)) (M.2 2) (copyU (M.1 (M.2 2)) (M.1 (M.2 0)) N)) 8 0 (nI 4)).1 (M.2 2) = copyU (M.1 (M.2 2)) (M.1 (M.2 0)) N := by
          rw [mput_ne (by have := lt 2 (by decide); omega), setp_at]
        have rd7 : ∀ q, 6 ≤ q → q ≠ 8 → (mput (setp (mput (M.1, rot M.2) 8 0 (nI 3)) (M.2 2) (copyU (M.1 (M.2 2)) (M.1 (M.2 0)) N)) 8 0 (nI 4)).1 q = M.1 q := fun q h1 h2 => by
          rw [mput_ne h2, setp_ne _ _ (by have := lt 2 (by decide); omega), mput_ne h2]
        refine ⟨perm_swp (perm_rot hP), ?_, by decide, ?_, fun i q => ?_, ?_, h60, fun i q => ?_⟩
        · rw [s1]; exact mput_at
        · rw [s1, s2]
          show Agr ((mput (setp (mput (M.1, rot M.2) 8 0 (nI 3)) (M.2 2) (copyU (M.1 (M.2 2)) (M.1 (M.2 0)) N)) 8 0 (nI 4)).1 (rot M.2 1)) u'
          rw [r1, rd _ (lt 1 (by decide)) (ne 1 2 (by decide) (by decide) (by decide))]
          exact hA
        · rw [s1, s4 _ (by omega)]
          show Agr ((mput (setp (mput (M.1, rot M.2) 8 0 (nI 3)) (M.2 2) (copyU (M.1 (M.2 2)) (M.1 (M.2 0)) N)) 8 0 (nI 4)).1 (rot M.2 (2 + i))) (push 4 hs u i)
          have hc : i = 0 ∨ i = 1 ∨ i = 2 ∨ i = 3 := by omega
          rcases hc with rfl | rfl | rfl | rfl
          · rw [show rot M.2 (2 + 0) = M.2 3 from r2, rd _ (lt 3 (by decide)) (ne 3 2 (by decide) (by decide) (by decide))]
            exact hi 1 (by decide)
          · rw [show rot M.2 (2 + 1) = M.2 4 from r3, rd _ (lt 4 (by decide)) (ne 4 2 (by decide) (by decide) (by decide))]
            exact hi 2 (by decide)
          · rw [show rot M.2 (2 + 2) = M.2 5 from r4, rd _ (lt 5 (by decide)) (ne 5 2 (by decide) (by decide) (by decide))]
            exact hi 3 (by decide)
          · rw [show rot M.2 (2 + 3) = M.2 2 from r5, rd2]
            exact hu.copy _ h8 hvN
        · rw [s1, rd7 6 (by decide) (by decide)]; exact ht
        · rw [s1, rd7 7 (by decide) (by decide)]; exact htx i q
    · have hlt : h < 4 := by omega
      have hR := m_X3_remember_lt (cA := cA) (ad := ad) (D := D) (M := M) lt hvN h8 hh hlt (ne 0 (2 + h) (by decide) (by omega) (by omega))
      refine PM_weaken (m_X3_commit_g hx hR lt) (Ri_QR ⟨?_, ?_⟩)
      · intro q hq
        rw [(swp_at _).1, mput_ne (by omega), setp_ne _ _ (by have := lt (2 + h) (by omega); omega)]
      · rw [if_neg hx]
        have hpsh : psh h = h + 1 := by simp [psh, hh4]
        rw [hpsh]
        have lth := lt (2 + h) (by omega)
        obtain ⟨s1, s2, s3, s4⟩ := swp_at (mput (setp M (M.2 (2 + h)) (copyU (M.1 (M.2 (2 + h))) (M.1 (M.2 0)) N)) 8 0 (nI (h + 1)))
        have rd : ∀ q, q ≠ M.2 (2 + h) → q ≠ 8 → (mput (setp M (M.2 (2 + h)) (copyU (M.1 (M.2 (2 + h))) (M.1 (M.2 0)) N)) 8 0 (nI (h + 1))).1 q = M.1 q := fun q h1 h2 => by
          rw [mput_ne h2, setp_ne _ _ h1]
        have rd2 : (mput (setp M (M.2 (2 + h)) (copyU (M.1 (M.2 (2 + h))) (M.1 (M.2 0)) N)) 8 0 (nI (h + 1))).1 (M.2 (2 + h)) = copyU (M.1 (M.2 (2 + h))) (M.1 (M.2 0)) N := by
          rw [mput_ne (by omega), setp_at]
        refine ⟨perm_swp hP, ?_, by omega, ?_, fun i q => ?_, ?_, h60, fun i q => ?_⟩
        · rw [s1]; exact mput_at
        · rw [s1, s2]
          show Agr ((mput (setp M (M.2 (2 + h)) (copyU (M.1 (M.2 (2 + h))) (M.1 (M.2 0)) N)) 8 0 (nI (h + 1))).1 (M.2 1)) u'
          rw [rd _ (ne 1 (2 + h) (by decide) (by omega) (by omega)) (by have := lt 1 (by decide); omega)]
          exact hA
        · rw [s1, s4 _ (by omega)]
          show Agr ((mput (setp M (M.2 (2 + h)) (copyU (M.1 (M.2 (2 + h))) (M.1 (M.2 0)) N)) 8 0 (nI (h + 1))).1 (M.2 (2 + i))) (push h hs u i)
          by_cases hih : i = h
          · subst hih
            rw [rd2]
            simp only [push, if_neg hh4, if_true]
            exact hu.copy _ h8 hvN
          · rw [rd _ (ne (2 + i) (2 + h) (by omega) (by omega) (by omega)) (by have := lt (2 + i) (by omega); omega)]
            simp only [push, if_neg hh4, if_neg hih]
            exact hi i (by omega)
        · rw [s1, rd 6 (by omega) (by decide)]; exact ht
        · rw [s1, rd 7 (by omega) (by decide)]; exact htx i q
end COMMIT
end
section
/-! ===== what is answered depends on the smithies that there are alone ===== -/
def AN (N : Nat) (v u : Vec) : Prop := ∀ k, k < 14 + 8 * N → v k = u k
theorem AN.upd {N : Nat} {v u : Vec} (h : AN N v u) (i : Nat) (x : Int32) : AN N (upd v i x) (upd u i x) := by
  intro k hk
  by_cases q : k = i
  · subst q; rw [upd_at, upd_at]
  · rw [upd_ne _ _ q, upd_ne _ _ q]; exact h k hk
theorem AN.rf {N : Nat} (u : Vec) : AN N u u := fun _ _ => rfl
theorem AN.hd {N : Nat} {v u : Vec} (h : AN N v u) (j : Nat) (hj : j < 14) : v j = u j := h j (by omega)
theorem AN.sm {N : Nat} {v u : Vec} (h : AN N v u) {k : Nat} (hk : k < N) (j : Nat) (hj : j < 8) : v (14 + 8 * k + j) = u (14 + 8 * k + j) := h _ (by omega)
theorem AN.sm0 {N : Nat} {v u : Vec} (h : AN N v u) {k : Nat} (hk : k < N) : v (14 + 8 * k) = u (14 + 8 * k) := h _ (by omega)
theorem AN.agr {N : Nat} {v u : Vec} (h : AN N v u) (h8 : N ≤ 8) (hu : u 0 = nI N) : Agr v u := ⟨N, h8, hu, h⟩
section CONG
variable {N : Nat} {v u : Vec}
theorem walkS_c (h : AN N v u) (x : Int32) : (walkS v x).1 = (walkS u x).1 ∧ AN N (walkS v x).2 (walkS u x).2 := by
  unfold walkS
  rw [h.hd 2 (by decide), h.hd 3 (by decide)]
  split
  · exact ⟨rfl, h⟩
  · split
    · split
      · refine ⟨rfl, ?_⟩
        unfold walkU
        rw [h.hd 2 (by decide), h.hd 3 (by decide), h.hd 9 (by decide)]
        exact ((h.upd _ _).upd _ _).upd _ _
      · exact ⟨rfl, h⟩
    · exact ⟨rfl, h⟩
theorem buyS_c (h : AN N v u) (x : Int32) : (buyS v x).1 = (buyS u x).1 ∧ AN N (buyS v x).2 (buyS u x).2 := by
  unfold buyS
  rw [h.hd 2 (by decide), h.hd 4 (by decide)]
  split
  · exact ⟨rfl, h⟩
  · split
    · split
      · split
        · refine ⟨rfl, ?_⟩
          unfold buyU
          rw [h.hd 4 (by decide), h.hd 5 (by decide), h.hd 6 (by decide)]
          exact ((h.upd _ _).upd _ _).upd _ _
        · exact ⟨rfl, h⟩
      · exact ⟨rfl, h⟩
    · exact ⟨rfl, h⟩
theorem leatherOf_c (h : AN N v u) {k : Nat} (hk : k < N) (b : Bool) : leatherOf v k b = leatherOf u k b := by
  unfold leatherOf
  rw [h.sm hk 1 (by decide), h.sm hk 2 (by decide)]
theorem owes_c (h : AN N v u) {k : Nat} (hk : k < N) (b : Bool) : owes v k b = owes u k b := by
  unfold owes
  rw [h.hd 12 (by decide), leatherOf_c h hk]
theorem rsn_c (h : AN N v u) {k : Nat} (hk : k < N) : rsn v k = rsn u k := by
  unfold rsn
  rw [h.sm hk 5 (by decide), h.sm hk 2 (by decide), h.hd 13 (by decide)]
theorem whyNot_c (h : AN N v u) {k : Nat} (hk : k < N) (b : Bool) : whyNot v k b = whyNot u k b := by
  unfold whyNot
  rw [h.sm0 hk, h.hd 2 (by decide), h.hd 3 (by decide), h.hd 4 (by decide), leatherOf_c h hk, rsn_c h hk]
theorem wearBM_c (h : AN N v u) {k : Nat} (hk : k < N) (b : Bool) : wearBM v k b = wearBM u k b := by
  unfold wearBM
  rw [h.sm hk 2 (by decide)]
theorem mendS_c (h : AN N v u) {k : Nat} (hk : k < N) (b : Bool) : (mendS v k b).1 = (mendS u k b).1 ∧ AN N (mendS v k b).2 (mendS u k b).2 := by
  unfold mendS
  rw [whyNot_c h hk]
  split
  · refine ⟨?_, ?_⟩
    · show mendR v k b = mendR u k b
      unfold mendR
      rw [h.sm hk 5 (by decide), owes_c h hk, wearBM_c h hk]
    · show AN N (mendU v k b) (mendU u k b)
      unfold mendU
      rw [h.hd 3 (by decide), h.hd 4 (by decide), h.hd 7 (by decide), leatherOf_c h hk, owes_c h hk, wearBM_c h hk, h.sm hk 5 (by decide), h.sm hk 7 (by decide)]
      exact (((((h.upd _ _).upd _ _).upd _ _).upd _ _).upd _ _).upd _ _
  · exact ⟨rfl, h⟩
theorem mendJ_c (h : AN N v u) (h8 : N ≤ 8) (hu : u 0 = nI N) (j : Int32) (b : Bool) : (mendJ v j b).1 = (mendJ u j b).1 ∧ AN N (mendJ v j b).2 (mendJ u j b).2 := by
  unfold mendJ
  rw [h.hd 0 (by decide)]
  split
  · next q =>
    obtain ⟨k, hk, -, hc⟩ := sm_nI hu h8 q
    rw [hc]
    exact mendS_c h hk b
  · exact ⟨rfl, h⟩
theorem pays_c (h : AN N v u) {k : Nat} (hk : k < N) : pays v k = pays u k := by
  unfold pays
  rw [h.sm hk 3 (by decide), h.sm hk 5 (by decide), h.hd 10 (by decide)]
theorem collJ_c (h : AN N v u) (h8 : N ≤ 8) (hu : u 0 = nI N) (j : Int32) : (collJ v j).1 = (collJ u j).1 ∧ AN N (collJ v j).2 (collJ u j).2 := by
  unfold collJ
  rw [h.hd 0 (by decide)]
  split
  · next q =>
    obtain ⟨k, hk, -, hc⟩ := sm_nI hu h8 q
    rw [hc]
    unfold collS
    rw [h.sm0 hk, h.hd 2 (by decide), h.sm hk 5 (by decide), pays_c h hk]
    split
    · split
      · refine ⟨rfl, ?_⟩
        unfold collU
        rw [h.sm hk 5 (by decide), h.sm hk 6 (by decide), h.hd 5 (by decide), pays_c h hk]
        exact ((h.upd _ _).upd _ _).upd _ _
      · exact ⟨rfl, h⟩
    · exact ⟨rfl, h⟩
  · exact ⟨rfl, h⟩
theorem dayU_c (h : AN N v u) {k : Nat} (hk : k < N) : AN N (dayU v k) (dayU u k) := by
  have hw : dayW v k = dayW u k := by unfold dayW; rw [h.sm hk 2 (by decide), h.sm hk 1 (by decide)]
  have hh : dayH v k = dayH u k := by unfold dayH; rw [h.sm hk 3 (by decide), hw]
  have hc : dayC v k = dayC u k := by unfold dayC; rw [hh, h.hd 10 (by decide), h.sm hk 4 (by decide)]
  unfold dayU
  rw [hw, hh, hc, h.hd 8 (by decide)]
  exact (((h.upd _ _).upd _ _).upd _ _).upd _ _
theorem daysU_c (h : AN N v u) {k : Nat} (hk : k < N) : ∀ d, AN N (daysU v k d) (daysU u k d)
  | 0 => h
  | d + 1 => dayU_c (daysU_c h hk d) hk
theorem allU_c (h : AN N v u) (d : Nat) : ∀ n, n ≤ N → AN N (allU v d n) (allU u d n)
  | 0, _ => h
  | n + 1, hn => daysU_c (allU_c h d n (by omega)) (by omega) d
theorem csN_c (h : AN N v u) : ∀ n, n ≤ N → csN v n = csN u n
  | 0, _ => rfl
  | n + 1, hn => by
    rw [csN, csN, csN_c h n (by omega), h.sm (k := n) (by omega) 3 (by decide), h.hd 10 (by decide)]
theorem sumN_c (h : AN N v u) {j : Nat} (hj : j < 8) : ∀ n, n ≤ N → sumN v j n = sumN u j n
  | 0, _ => rfl
  | n + 1, hn => by
    rw [sumN, sumN, sumN_c h hj n (by omega), h.sm (k := n) (by omega) j hj]
theorem endU_c (h : AN N v u) (d : Nat) : AN N (endU v N d) (endU u N d) := by
  unfold endU
  rw [h.hd 1 (by decide), h.hd 11 (by decide)]
  exact ((allU_c h d N (Nat.le_refl _)).upd _ _).upd _ _
theorem endS_c (h : AN N v u) (x : Int32) : (endS v N x).1 = (endS u N x).1 ∧ AN N (endS v N x).2 (endS u N x).2 := by
  unfold endS
  rw [h.hd 1 (by decide)]
  split
  · exact ⟨rfl, h⟩
  · split
    · split
      · exact ⟨by show bitc _ = bitc _; rw [csN_c (endU_c h _) N (Nat.le_refl _)], endU_c h _⟩
      · exact ⟨rfl, h⟩
    · exact ⟨rfl, h⟩
theorem setS_c (h : AN N v u) (w x : Int32) : (setS v w x).1 = (setS u w x).1 ∧ AN N (setS v w x).2 (setS u w x).2 := by
  unfold setS
  rw [h.hd 10 (by decide), h.hd 11 (by decide), h.hd 12 (by decide), h.hd 13 (by decide)]
  split
  · split
    · exact ⟨rfl, h.upd _ _⟩
    · split
      · exact ⟨rfl, h.upd _ _⟩
      · split
        · exact ⟨rfl, h.upd _ _⟩
        · exact ⟨rfl, h.upd _ _⟩
  · exact ⟨rfl, h⟩
theorem ordS_c (h : AN N v u) (h8 : N ≤ 8) (hu : u 0 = nI N) (c x : Int32) : (ordS v N c x).1 = (ordS u N c x).1 ∧ AN N (ordS v N c x).2 (ordS u N c x).2 := by
  unfold ordS
  split
  · exact walkS_c h x
  · split
    · exact buyS_c h x
    · split
      · exact mendJ_c h h8 hu x _
      · split
        · exact mendJ_c h h8 hu x _
        · split
          · exact collJ_c h h8 hu x
          · exact endS_c h x
/-- a smithy more -/
theorem addS_c (h : AN N v u) (h8 : N ≤ 8) (hu : u 0 = nI N) (x y : Int32) : (addS v N x y).1 = (addS u N x y).1 ∧ Agr (addS v N x y).2 (addS u N x y).2 := by
  unfold addS
  rw [h.hd 0 (by decide)]
  have hA := h.agr h8 hu
  split
  · exact ⟨rfl, hA⟩
  · split
    · exact ⟨rfl, hA⟩
    · split
      · exact ⟨rfl, hA⟩
      · split
        · split
          · next q =>
            rw [hu] at q
            have hlt : N < 8 := (nI_ltI (by omega) (by decide)).mp (show nI N < nI 8 from q)
            refine ⟨rfl, N + 1, by omega, ?_, fun k hk => ?_⟩
            · show addU u N x y 0 = _
              unfold addU
              simp (disch := omega) only [upd_ne, upd_at]
              rw [hu]; exact nI_1 N
            · show addU v N x y k = addU u N x y k
              unfold addU
              rw [h.hd 0 (by decide)]
              by_cases hk2 : k < 14 + 8 * N
              · exact (((((((((h.upd _ _).upd _ _).upd _ _).upd _ _).upd _ _).upd _ _).upd _ _).upd _ _).upd _ _) k hk2
              · have hc : k = 14 + 8 * N ∨ k = 14 + 8 * N + 1 ∨ k = 14 + 8 * N + 2 ∨ k = 14 + 8 * N + 3 ∨ k = 14 + 8 * N + 4 ∨ k = 14 + 8 * N + 5 ∨ k = 14 + 8 * N + 6 ∨ k = 14 + 8 * N + 7 := by omega
                rcases hc with rfl | rfl | rfl | rfl | rfl | rfl | rfl | rfl <;> simp (disch := omega) only [upd_ne, upd_at]
          · exact ⟨rfl, hA⟩
        · exact ⟨rfl, hA⟩
-- what is asked
theorem cda_c (h : AN N v u) {k : Nat} (hk : k < N) : cda v k = cda u k := by
  unfold cda
  rw [h.sm hk 3 (by decide), h.sm hk 1 (by decide), h.sm hk 2 (by decide), h.hd 10 (by decide)]
theorem cbf_c (h : AN N v u) {k i : Nat} (hk : k < N) (hi : i < N) : cbf v k i = cbf u k i := by
  unfold cbf
  rw [cda_c h hk, cda_c h hi, h.sm hk 2 (by decide), h.sm hi 2 (by decide), h.sm0 hk, h.sm0 hi, h.hd 2 (by decide)]
theorem nxo_c (h : AN N v u) : ∀ n, n ≤ N → nxo v n = nxo u n
  | 0, _ => rfl
  | n + 1, hn => by
    rw [nxo, nxo, nxo_c h n (by omega), h.sm (k := n) (by omega) 2 (by decide)]
    cases hq : nxo u n with
    | none => rfl
    | some b =>
      have := nxo_lt u n b hq
      simp only
      rw [cbf_c h (k := n) (i := b) (by omega) (by omega)]
theorem frs_c (h : AN N v u) (s : Int32) : ∀ n, n ≤ N → frs v s n = frs u s n
  | 0, _ => rfl
  | n + 1, hn => by
    rw [frs, frs, frs_c h s n (by omega), h.sm0 (k := n) (by omega)]
theorem Gd_c (h : AN N v u) {P : Int32 → Prop} (hG : Gd u N P) : Gd v N P := by
  intro s hs h0
  rw [frs_c h s N (Nat.le_refl _)]
  exact hG s hs h0
theorem rdC_c (h : AN N v u) (h8 : N ≤ 8) {P : Int32 → Prop} (hG : Gd u N P) : ∀ (m : Nat) (s pl : Int32) (q : Int32 × Int32 × Int32), P s → rdC v N m s pl q = rdC u N m s pl q := by
  intro m
  induction m with
  | zero => intro s pl q hs; rfl
  | succ m ih =>
    intro s pl q hs
    rw [rdC, rdC, frs_c h s N (Nat.le_refl _)]
    by_cases h0 : s = 0
    · rw [if_pos h0, if_pos h0]
    · rw [if_neg h0, if_neg h0]
      obtain ⟨⟨k, hk, hfr⟩, hP⟩ := hG s hs h0
      have hcl : (frs u s N).1.toNatClampNeg = k := by rw [hfr]; exact nI_clamp (by omega)
      rw [hcl, h.sm0 hk, rsn_c h hk, leatherOf_c h hk, owes_c h hk]
      exact ih _ _ _ hP
theorem rndS_c (h : AN N v u) (h8 : N ≤ 8) {P : Int32 → Prop} (hG : Gd u N P) {s : Int32} (hP : ¬ s < 1 → ¬ (1 : Int32) <<< (u 0 &&& 31) ≤ s → P s) (w : Int32) : rndS v N s w = rndS u N s w := by
  unfold rndS
  rw [h.hd 0 (by decide), h.hd 2 (by decide)]
  split
  · rfl
  · next q1 =>
    split
    · rfl
    · next q2 =>
      split
      · rfl
      · split
        · rw [rdC_c h h8 hG 8 s _ _ (hP q1 q2)]
        · rfl
theorem smoS_c (h : AN N v u) {k : Nat} (hk : k < N) (w : Int32) : smoS v k w = smoS u k w := by
  unfold smoS
  rw [h.sm0 hk, h.sm hk 1 (by decide), h.sm hk 2 (by decide), h.sm hk 3 (by decide), h.sm hk 4 (by decide), h.sm hk 5 (by decide), h.sm hk 6 (by decide), h.sm hk 7 (by decide), h.hd 10 (by decide), h.hd 2 (by decide)]
theorem whyS_c (h : AN N v u) {k : Nat} (hk : k < N) (w : Int32) : whyS v k w = whyS u k w := by
  unfold whyS
  rw [whyNot_c h hk, whyNot_c h hk]
theorem mndS_c (h : AN N v u) {k : Nat} (hk : k < N) (w x : Int32) : mndS v k w x = mndS u k w x := by
  unfold mndS mndB
  rw [leatherOf_c h hk, leatherOf_c h hk, owes_c h hk, owes_c h hk, wearBM_c h hk, wearBM_c h hk]
theorem cdiS_c (h : AN N v u) {k : Nat} (hk : k < N) : cdiS v k = cdiS u k := by
  unfold cdiS
  rw [cda_c h hk]
theorem cntS_c (h : AN N v u) (a b w : Int32) : cntS v N a b w = cntS u N a b w := by
  unfold cntS
  rw [h.hd 0 (by decide), h.hd 1 (by decide), h.hd 2 (by decide), h.hd 3 (by decide), h.hd 4 (by decide), h.hd 5 (by decide), h.hd 6 (by decide), h.hd 7 (by decide), h.hd 8 (by decide), h.hd 9 (by decide), h.hd 10 (by decide), h.hd 11 (by decide), h.hd 12 (by decide), h.hd 13 (by decide), csN_c h N (Nat.le_refl _), sumN_c h (by decide) N (Nat.le_refl _)]
end CONG
end
section
/-! ===== the orders of a text, as a plain run ===== -/
def zv : Vec := fun _ => 0
def runA (f : Nat → Int32) (t N : Nat) : Nat → Nat → Vec → Int32 → Int32 × Vec × Int32 × Int32 × Int32 × Int32
  | 0, _, w, c => (1, w, c, 0, 0, 0)
  | m + 1, s, w, c => if s < t then
      (if (roS zv f s).1 = 0 then (0, w, c, nI s, 1, (roS zv f s).2 4)
       else if (ordS w N (f s) ((roS zv f s).2 2)).1 < 0 then (0, (ordS w N (f s) ((roS zv f s).2 2)).2, c, nI s, 2, (ordS w N (f s) ((roS zv f s).2 2)).1)
       else runA f t N m (s + 2 + (dgs f s 3 0 0).1) (ordS w N (f s) ((roS zv f s).2 2)).2 (c + 1))
    else (1, w, c, 0, 0, 0)
theorem roS_any (o o' : Vec) (f : Nat → Int32) (s : Nat) : (roS o f s).1 = (roS o' f s).1 ∧ ((roS o f s).1 = 0 → (roS o f s).2 4 = (roS o' f s).2 4) ∧ (¬ (roS o f s).1 = 0 → (roS o f s).2 2 = (roS o' f s).2 2) := by
  unfold roS
  split
  · split
    · simp (disch := omega) only [upd_ne, upd_at]
      simp
    · split
      · simp (disch := omega) only [upd_ne, upd_at]
        simp
      · simp (disch := omega) only [upd_ne, upd_at]
        simp
  · simp (disch := omega) only [upd_ne, upd_at]
    simp
theorem tryF_run (f : Nat → Int32) (t N : Nat) : ∀ (m s : Nat) (w o b : Vec),
    (tryF f t N m s w o b).1 = (runA f t N m s w (b 1)).1 ∧ (tryF f t N m s w o b).2.1 = (runA f t N m s w (b 1)).2.1 ∧ (tryF f t N m s w o b).2.2.2 1 = (runA f t N m s w (b 1)).2.2.1 ∧
    ((runA f t N m s w (b 1)).1 = 0 → (tryF f t N m s w o b).2.2.2 2 = (runA f t N m s w (b 1)).2.2.2.1 ∧ (tryF f t N m s w o b).2.2.2 3 = (runA f t N m s w (b 1)).2.2.2.2.1 ∧ (tryF f t N m s w o b).2.2.2 4 = (runA f t N m s w (b 1)).2.2.2.2.2) ∧
    (tryF f t N m s w o b).2.2.1 0 = o 0 ∧ (tryF f t N m s w o b).2.2.2 0 = b 0 := by
  intro m
  induction m with
  | zero =>
    intro s w o b
    refine ⟨rfl, rfl, rfl, fun h => absurd h (show ¬ (1 : Int32) = 0 by decide), rfl, rfl⟩
  | succ m ih =>
    intro s w o b
    rw [tryF, runA]
    by_cases hs : s < t
    · rw [if_pos hs, if_pos hs]
      obtain ⟨a1, a2, a3⟩ := roS_any o zv f s
      rw [roS_1]
      by_cases h0 : (roS o f s).1 = 0
      · have hz : (roS zv f s).1 = 0 := a1.symm.trans h0
        rw [if_pos h0, if_pos hz]
        refine ⟨rfl, rfl, ?_, fun _ => ⟨?_, ?_, ?_⟩, roS_0 _ _ _, ?_⟩
        · simp (disch := omega) only [upd_ne]
        · simp (disch := omega) only [upd_ne, upd_at]
        · simp (disch := omega) only [upd_ne, upd_at]
        · simp (disch := omega) only [upd_at]
          exact a2 h0
        · simp (disch := omega) only [upd_ne]
      · have hz : ¬ (roS zv f s).1 = 0 := fun q => h0 (a1.trans q)
        rw [if_neg h0, if_neg hz, a3 h0]
        by_cases h1 : (ordS w N (f s) ((roS zv f s).2 2)).1 < 0
        · rw [if_pos h1, if_pos h1]
          refine ⟨rfl, rfl, ?_, fun _ => ⟨?_, ?_, ?_⟩, roS_0 _ _ _, ?_⟩
          · simp (disch := omega) only [upd_ne]
          · simp (disch := omega) only [upd_ne, upd_at]
          · simp (disch := omega) only [upd_ne, upd_at]
          · simp (disch := omega) only [upd_at]
          · simp (disch := omega) only [upd_ne]
        · rw [if_neg h1, if_neg h1]
          have k := ih (s + 2 + (dgs f s 3 0 0).1) (ordS w N (f s) ((roS zv f s).2 2)).2 (roS o f s).2 (upd b 1 (b 1 + 1))
          rw [upd_at, roS_0, upd_ne b _ (show (0 : Nat) ≠ 1 by decide)] at k
          exact k
    · rw [if_neg hs, if_neg hs]
      exact ⟨rfl, rfl, rfl, fun h => absurd h (show ¬ (1 : Int32) = 0 by decide), rfl, rfl⟩
theorem runA_c (f : Nat → Int32) (t : Nat) {N : Nat} (h8 : N ≤ 8) : ∀ (m s : Nat) (w u : Vec) (c : Int32), AN N w u → u 0 = nI N →
    (runA f t N m s w c).1 = (runA f t N m s u c).1 ∧ AN N (runA f t N m s w c).2.1 (runA f t N m s u c).2.1 ∧ (runA f t N m s w c).2.2 = (runA f t N m s u c).2.2 ∧ (runA f t N m s u c).2.1 0 = nI N := by
  intro m
  induction m with
  | zero => intro s w u c h hu; exact ⟨rfl, h, rfl, hu⟩
  | succ m ih =>
    intro s w u c h hu
    rw [runA, runA]
    by_cases hs : s < t
    · rw [if_pos hs, if_pos hs]
      by_cases h0 : (roS zv f s).1 = 0
      · rw [if_pos h0, if_pos h0]
        exact ⟨rfl, h, rfl, hu⟩
      · rw [if_neg h0, if_neg h0]
        obtain ⟨o1, o2⟩ := ordS_c h h8 hu (f s) ((roS zv f s).2 2)
        have hu2 : (ordS u N (f s) ((roS zv f s).2 2)).2 0 = nI N := by rw [ordS_0]; exact hu
        rw [o1]
        by_cases h1 : (ordS u N (f s) ((roS zv f s).2 2)).1 < 0
        · rw [if_pos h1, if_pos h1]
          exact ⟨rfl, o2, rfl, hu2⟩
        · rw [if_neg h1, if_neg h1]
          exact ih _ _ _ _ o2 hu2
    · rw [if_neg hs, if_neg hs]
      exact ⟨rfl, h, rfl, hu⟩
theorem runA_n (f : Nat → Int32) (t N : Nat) : ∀ (m s : Nat) (w : Vec) (k : Nat), ∃ j, j ≤ k + m ∧ (runA f t N m s w (nI k)).2.2.1 = nI j := by
  intro m
  induction m with
  | zero => intro s w k; exact ⟨k, by omega, rfl⟩
  | succ m ih =>
    intro s w k
    rw [runA]
    split
    · split
      · exact ⟨k, by omega, rfl⟩
      · split
        · exact ⟨k, by omega, rfl⟩
        · rw [nI_1]
          obtain ⟨j, hj, e⟩ := ih (s + 2 + (dgs f s 3 0 0).1) (ordS w N (f s) ((roS zv f s).2 2)).2 (k + 1)
          exact ⟨j, by omega, e⟩
    · exact ⟨k, by omega, rfl⟩
def playS (f : Nat → Int32) (t N : Nat) (u : Vec) : Int32 × Vec := if (runA f t N 60 0 u 0).1 = 0 then (NP, u) else ((runA f t N 60 0 u 0).2.2.1, (runA f t N 60 0 u 0).2.1)
def fltS (f : Nat → Int32) (t N : Nat) (u : Vec) (w : Int32) : Int32 := if w < 0 then IA else if w ≤ 2 then (if (runA f t N 60 0 u 0).1 = 0 then (if w = 0 then (runA f t N 60 0 u 0).2.2.2.1 else if w = 1 then (runA f t N 60 0 u 0).2.2.2.2.1 else (runA f t N 60 0 u 0).2.2.2.2.2) else NF) else IA
def typS (t : Nat) (tx : Vec) (v : Int32) : Int32 × Nat × Vec := if v < 32 then (IA, t, tx) else if v ≤ 126 then (if t = 60 then (LR, t, tx) else (nI (t + 1), t + 1, upd tx t v)) else (IA, t, tx)
theorem chr_eq {a b : Vec} {t : Nat} (h : ∀ i, i < t → a i = b i) : chr a t = chr b t := by
  funext j
  unfold chr
  by_cases q : j < t
  · rw [if_pos q, if_pos q]; exact h j q
  · rw [if_neg q, if_neg q]
theorem walkS_0 (u : Vec) (x : Int32) : (walkS u x).2 0 = u 0 := by have := ordS_0 u 0 119 x; simpa [ordS] using this
theorem buyS_0 (u : Vec) (x : Int32) : (buyS u x).2 0 = u 0 := by have := ordS_0 u 0 98 x; simpa [ordS] using this
theorem mendJ_0 (u : Vec) (x : Int32) (b : Bool) : (mendJ u x b).2 0 = u 0 := by
  cases b
  · have := ordS_0 u 0 112 x; simpa [ordS] using this
  · have := ordS_0 u 0 104 x; simpa [ordS] using this
theorem collJ_0 (u : Vec) (x : Int32) : (collJ u x).2 0 = u 0 := by have := ordS_0 u 0 99 x; simpa [ordS] using this
theorem endS_0 (u : Vec) (n : Nat) (x : Int32) : (endS u n x).2 0 = u 0 := by have := ordS_0 u n 100 x; simpa [ordS] using this
theorem setS_0 (u : Vec) (w x : Int32) : (setS u w x).2 0 = u 0 := by
  unfold setS
  split
  · split
    · simp (disch := omega) only [upd_ne]
    · split
      · simp (disch := omega) only [upd_ne]
      · split <;> simp (disch := omega) only [upd_ne]
  · rfl
theorem chr_of {v : Int32} (h1 : ¬ v < 32) (h2 : v ≤ 126) : (v.toUInt32 % 65536).toInt32 = v ∧ vp_nar .char v = v := by
  have h0 : ¬ v < 0 := fun h => h1 (Int32.lt_trans h (by decide))
  obtain ⟨j, hj, rfl⟩ := nI_of2 (n := 126) (M := 126) rfl h0 h2
  refine ⟨?_, ?_⟩
  · rw [pk_char, pk_tn (by omega), Nat.mod_eq_of_lt (by omega)]
  · unfold vp_nar
    rw [(pk_charN (q := j) (by omega)).1]
end
section
/-! ===== the object: changes, texts, against the abstract state ===== -/
section BR3
variable {cA : Nat → ClassId} {ad : Nat → Nat} {D : va_G} {M : Mem}
set_option maxHeartbeats 4000000 in
set_option maxRecDepth 100000 in
theorem c_X3_walk {u : Vec} {h : Nat} {hs : Nat → Vec} {t : Nat} {tx : Vec} (c : CA M u h hs t tx) {v : Int32} : C_X3_walk cA ad D [.ref (ad 0), .int v] M (QR (walkS u v).1 (OpQ M u h hs t tx (walkS u v))) := by
  refine PM_of (lv := [some (.ref (ad 0)), some (.int v)]) (by decide +kernel) rfl (Nat.le_of_ble_eq_true rfl) rfl ?_
  obtain ⟨N, h8, huN, hvN, hk⟩ := c.agr.n
  have hr := c.1.1
  have hp1 := hr 1 (by decide)
  have hp0 := hr 0 (by decide)
  have hpq : M.2 0 ≠ M.2 1 := fun q => absurd (c.1.2 0 1 (by decide) (by decide) q) (by decide)
  have hW : AN N (copyU (M.1 (M.2 1)) (M.1 (M.2 0)) N) u := fun k q => by rw [← hk k q]; simp [copyU, q]
  have hWN : copyU (M.1 (M.2 1)) (M.1 (M.2 0)) N 0 = nI N := (hW 0 (by omega)).trans huN
  refine r_al0 (n := 1) dX3_walk_0 rfl ?_
  refine g_br_trial (n := 4)  in_X3_walk_wsX30 k_X3_walk_16 dX3_walk_1 rfl ?_
  refine r_al0 (n := 5) dX3_walk_4 rfl ?_
  refine g_br_now (n := 8)  in_X3_walk_wsX30 k_X3_walk_12 dX3_walk_5 rfl ?_
  refine cV_v (n := 11) (np := 1) (m_X2_copyFrom hp1 hp0 hpq hvN h8) gX3_walk_X2_copyFrom rfl (by decide +kernel) rfl (by decide) (by decide) (by omega) (cell_st cA ad _ hp1) rfl dX3_walk_8 rfl rfl (Nat.le_of_ble_eq_true rfl) ?_
  refine r_al0 (n := 12) dX3_walk_11 rfl ?_
  refine r_al0 (n := 13) dX3_walk_12 rfl ?_
  refine g_br_trial (n := 16)  in_X3_walk_wsX30 k_X3_walk_16 dX3_walk_13 rfl ?_
  rw [setp_r]
  refine r_il1 (n := 17) dX3_walk_16 rfl ?_
  refine cV_i (n := 20) (np := 1) (m_X2_walkTo hp1) gX3_walk_X2_walkTo rfl (by decide +kernel) rfl (by decide) (by decide) (by omega) (cell_st cA ad _ hp1) rfl dX3_walk_17 rfl rfl (Nat.le_of_ble_eq_true rfl) ?_
  simp only [setp_at, setp_2]
  have hS := walkS_c hW v
  rw [hS.1]
  refine cV_q (n := 23) (np := 1) (commit_rel (u' := (walkS u v).2) (c.trial _) (by rw [setp_r, setp_at]; exact hS.2.agr h8 (by rw [walkS_0]; exact huN))) gX3_walk_X3_commit rfl (by decide +kernel) rfl (by decide) (by decide) (by omega) rfl rfl dX3_walk_20 rfl rfl (Nat.le_of_ble_eq_true rfl) (fun M' hM' => ?_)
  exact e_q dX3_walk_23 rfl rfl ⟨(FC.set (by omega) _).tr hM'.1, hM'.2⟩

set_option maxHeartbeats 4000000 in
set_option maxRecDepth 100000 in
theorem c_X3_buy {u : Vec} {h : Nat} {hs : Nat → Vec} {t : Nat} {tx : Vec} (c : CA M u h hs t tx) {v : Int32} : C_X3_buy cA ad D [.ref (ad 0), .int v] M (QR (buyS u v).1 (OpQ M u h hs t tx (buyS u v))) := by
  refine PM_of (lv := [some (.ref (ad 0)), some (.int v)]) (by decide +kernel) rfl (Nat.le_of_ble_eq_true rfl) rfl ?_
  obtain ⟨N, h8, huN, hvN, hk⟩ := c.agr.n
  have hr := c.1.1
  have hp1 := hr 1 (by decide)
  have hp0 := hr 0 (by decide)
  have hpq : M.2 0 ≠ M.2 1 := fun q => absurd (c.1.2 0 1 (by decide) (by decide) q) (by decide)
  have hW : AN N (copyU (M.1 (M.2 1)) (M.1 (M.2 0)) N) u := fun k q => by rw [← hk k q]; simp [copyU, q]
  have hWN : copyU (M.1 (M.2 1)) (M.1 (M.2 0)) N 0 = nI N := (hW 0 (by omega)).trans huN
  refine r_al0 (n := 1) dX3_buy_0 rfl ?_
  refine g_br_trial (n := 4)  in_X3_buy_wsX30 k_X3_buy_16 dX3_buy_1 rfl ?_
  refine r_al0 (n := 5) dX3_buy_4 rfl ?_
  refine g_br_now (n := 8)  in_X3_buy_wsX30 k_X3_buy_12 dX3_buy_5 rfl ?_
  refine cV_v (n := 11) (np := 1) (m_X2_copyFrom hp1 hp0 hpq hvN h8) gX3_buy_X2_copyFrom rfl (by decide +kernel) rfl (by decide) (by decide) (by omega) (cell_st cA ad _ hp1) rfl dX3_buy_8 rfl rfl (Nat.le_of_ble_eq_true rfl) ?_
  refine r_al0 (n := 12) dX3_buy_11 rfl ?_
  refine r_al0 (n := 13) dX3_buy_12 rfl ?_
  refine g_br_trial (n := 16)  in_X3_buy_wsX30 k_X3_buy_16 dX3_buy_13 rfl ?_
  rw [setp_r]
  refine r_il1 (n := 17) dX3_buy_16 rfl ?_
  refine cV_i (n := 20) (np := 1) (m_X2_buyLeather hp1) gX3_buy_X2_buyLeather rfl (by decide +kernel) rfl (by decide) (by decide) (by omega) (cell_st cA ad _ hp1) rfl dX3_buy_17 rfl rfl (Nat.le_of_ble_eq_true rfl) ?_
  simp only [setp_at, setp_2]
  have hS := buyS_c hW v
  rw [hS.1]
  refine cV_q (n := 23) (np := 1) (commit_rel (u' := (buyS u v).2) (c.trial _) (by rw [setp_r, setp_at]; exact hS.2.agr h8 (by rw [buyS_0]; exact huN))) gX3_buy_X3_commit rfl (by decide +kernel) rfl (by decide) (by decide) (by omega) rfl rfl dX3_buy_20 rfl rfl (Nat.le_of_ble_eq_true rfl) (fun M' hM' => ?_)
  exact e_q dX3_buy_23 rfl rfl ⟨(FC.set (by omega) _).tr hM'.1, hM'.2⟩

set_option maxHeartbeats 4000000 in
set_option maxRecDepth 100000 in
theorem c_X3_patch {u : Vec} {h : Nat} {hs : Nat → Vec} {t : Nat} {tx : Vec} (c : CA M u h hs t tx) {v : Int32} : C_X3_patch cA ad D [.ref (ad 0), .int v] M (QR (mendJ u v false).1 (OpQ M u h hs t tx (mendJ u v false))) := by
  refine PM_of (lv := [some (.ref (ad 0)), some (.int v)]) (by decide +kernel) rfl (Nat.le_of_ble_eq_true rfl) rfl ?_
  obtain ⟨N, h8, huN, hvN, hk⟩ := c.agr.n
  have hr := c.1.1
  have hp1 := hr 1 (by decide)
  have hp0 := hr 0 (by decide)
  have hpq : M.2 0 ≠ M.2 1 := fun q => absurd (c.1.2 0 1 (by decide) (by decide) q) (by decide)
  have hW : AN N (copyU (M.1 (M.2 1)) (M.1 (M.2 0)) N) u := fun k q => by rw [← hk k q]; simp [copyU, q]
  have hWN : copyU (M.1 (M.2 1)) (M.1 (M.2 0)) N 0 = nI N := (hW 0 (by omega)).trans huN
  refine r_al0 (n := 1) dX3_patch_0 rfl ?_
  refine g_br_trial (n := 4)  in_X3_patch_wsX30 k_X3_patch_16 dX3_patch_1 rfl ?_
  refine r_al0 (n := 5) dX3_patch_4 rfl ?_
  refine g_br_now (n := 8)  in_X3_patch_wsX30 k_X3_patch_12 dX3_patch_5 rfl ?_
  refine cV_v (n := 11) (np := 1) (m_X2_copyFrom hp1 hp0 hpq hvN h8) gX3_patch_X2_copyFrom rfl (by decide +kernel) rfl (by decide) (by decide) (by omega) (cell_st cA ad _ hp1) rfl dX3_patch_8 rfl rfl (Nat.le_of_ble_eq_true rfl) ?_
  refine r_al0 (n := 12) dX3_patch_11 rfl ?_
  refine r_al0 (n := 13) dX3_patch_12 rfl ?_
  refine g_br_trial (n := 16)  in_X3_patch_wsX30 k_X3_patch_16 dX3_patch_13 rfl ?_
  rw [setp_r]
  refine r_il1 (n := 17) dX3_patch_16 rfl ?_
  refine r_iconst (v := 0) (n := 18) dX3_patch_17 (by decide) rfl ?_
  refine cV_i (n := 21) (np := 2) (m_X2_mendBellows hp1 (N := N) (by rw [setp_at]; exact hWN) h8 false) gX3_patch_X2_mendBellows rfl (by decide +kernel) rfl (by decide) (by decide) (by omega) (cell_st cA ad _ hp1) rfl dX3_patch_18 rfl rfl (Nat.le_of_ble_eq_true rfl) ?_
  simp only [setp_at, setp_2]
  have hS := mendJ_c hW h8 huN v false
  rw [hS.1]
  refine cV_q (n := 24) (np := 1) (commit_rel (u' := (mendJ u v false).2) (c.trial _) (by rw [setp_r, setp_at]; exact hS.2.agr h8 (by rw [mendJ_0]; exact huN))) gX3_patch_X3_commit rfl (by decide +kernel) rfl (by decide) (by decide) (by omega) rfl rfl dX3_patch_21 rfl rfl (Nat.le_of_ble_eq_true rfl) (fun M' hM' => ?_)
  exact e_q dX3_patch_24 rfl rfl ⟨(FC.set (by omega) _).tr hM'.1, hM'.2⟩

set_option maxHeartbeats 4000000 in
set_option maxRecDepth 100000 in
theorem c_X3_hide {u : Vec} {h : Nat} {hs : Nat → Vec} {t : Nat} {tx : Vec} (c : CA M u h hs t tx) {v : Int32} : C_X3_hide cA ad D [.ref (ad 0), .int v] M (QR (mendJ u v true).1 (OpQ M u h hs t tx (mendJ u v true))) := by
  refine PM_of (lv := [some (.ref (ad 0)), some (.int v)]) (by decide +kernel) rfl (Nat.le_of_ble_eq_true rfl) rfl ?_
  obtain ⟨N, h8, huN, hvN, hk⟩ := c.agr.n
  have hr := c.1.1
  have hp1 := hr 1 (by decide)
  have hp0 := hr 0 (by decide)
  have hpq : M.2 0 ≠ M.2 1 := fun q => absurd (c.1.2 0 1 (by decide) (by decide) q) (by decide)
  have hW : AN N (copyU (M.1 (M.2 1)) (M.1 (M.2 0)) N) u := fun k q => by rw [← hk k q]; simp [copyU, q]
  have hWN : copyU (M.1 (M.2 1)) (M.1 (M.2 0)) N 0 = nI N := (hW 0 (by omega)).trans huN
  refine r_al0 (n := 1) dX3_hide_0 rfl ?_
  refine g_br_trial (n := 4)  in_X3_hide_wsX30 k_X3_hide_16 dX3_hide_1 rfl ?_
  refine r_al0 (n := 5) dX3_hide_4 rfl ?_
  refine g_br_now (n := 8)  in_X3_hide_wsX30 k_X3_hide_12 dX3_hide_5 rfl ?_
  refine cV_v (n := 11) (np := 1) (m_X2_copyFrom hp1 hp0 hpq hvN h8) gX3_hide_X2_copyFrom rfl (by decide +kernel) rfl (by decide) (by decide) (by omega) (cell_st cA ad _ hp1) rfl dX3_hide_8 rfl rfl (Nat.le_of_ble_eq_true rfl) ?_
  refine r_al0 (n := 12) dX3_hide_11 rfl ?_
  refine r_al0 (n := 13) dX3_hide_12 rfl ?_
  refine g_br_trial (n := 16)  in_X3_hide_wsX30 k_X3_hide_16 dX3_hide_13 rfl ?_
  rw [setp_r]
  refine r_il1 (n := 17) dX3_hide_16 rfl ?_
  refine r_iconst (v := 1) (n := 18) dX3_hide_17 (by decide) rfl ?_
  refine cV_i (n := 21) (np := 2) (m_X2_mendBellows hp1 (N := N) (by rw [setp_at]; exact hWN) h8 true) gX3_hide_X2_mendBellows rfl (by decide +kernel) rfl (by decide) (by decide) (by omega) (cell_st cA ad _ hp1) rfl dX3_hide_18 rfl rfl (Nat.le_of_ble_eq_true rfl) ?_
  simp only [setp_at, setp_2]
  have hS := mendJ_c hW h8 huN v true
  rw [hS.1]
  refine cV_q (n := 24) (np := 1) (commit_rel (u' := (mendJ u v true).2) (c.trial _) (by rw [setp_r, setp_at]; exact hS.2.agr h8 (by rw [mendJ_0]; exact huN))) gX3_hide_X3_commit rfl (by decide +kernel) rfl (by decide) (by decide) (by omega) rfl rfl dX3_hide_21 rfl rfl (Nat.le_of_ble_eq_true rfl) (fun M' hM' => ?_)
  exact e_q dX3_hide_24 rfl rfl ⟨(FC.set (by omega) _).tr hM'.1, hM'.2⟩

set_option maxHeartbeats 4000000 in
set_option maxRecDepth 100000 in
theorem c_X3_collect {u : Vec} {h : Nat} {hs : Nat → Vec} {t : Nat} {tx : Vec} (c : CA M u h hs t tx) {v : Int32} : C_X3_collect cA ad D [.ref (ad 0), .int v] M (QR (collJ u v).1 (OpQ M u h hs t tx (collJ u v))) := by
  refine PM_of (lv := [some (.ref (ad 0)), some (.int v)]) (by decide +kernel) rfl (Nat.le_of_ble_eq_true rfl) rfl ?_
  obtain ⟨N, h8, huN, hvN, hk⟩ := c.agr.n
  have hr := c.1.1
  have hp1 := hr 1 (by decide)
  have hp0 := hr 0 (by decide)
  have hpq : M.2 0 ≠ M.2 1 := fun q => absurd (c.1.2 0 1 (by decide) (by decide) q) (by decide)
  have hW : AN N (copyU (M.1 (M.2 1)) (M.1 (M.2 0)) N) u := fun k q => by rw [← hk k q]; simp [copyU, q]
  have hWN : copyU (M.1 (M.2 1)) (M.1 (M.2 0)) N 0 = nI N := (hW 0 (by omega)).trans huN
  refine r_al0 (n := 1) dX3_collect_0 rfl ?_
  refine g_br_trial (n := 4)  in_X3_collect_wsX30 k_X3_collect_16 dX3_collect_1 rfl ?_
  refine r_al0 (n := 5) dX3_collect_4 rfl ?_
  refine g_br_now (n := 8)  in_X3_collect_wsX30 k_X3_collect_12 dX3_collect_5 rfl ?_
  refine cV_v (n := 11) (np := 1) (m_X2_copyFrom hp1 hp0 hpq hvN h8) gX3_collect_X2_copyFrom rfl (by decide +kernel) rfl (by decide) (by decide) (by omega) (cell_st cA ad _ hp1) rfl dX3_collect_8 rfl rfl (Nat.le_of_ble_eq_true rfl) ?_
  refine r_al0 (n := 12) dX3_collect_11 rfl ?_
  refine r_al0 (n := 13) dX3_collect_12 rfl ?_
  refine g_br_trial (n := 16)  in_X3_collect_wsX30 k_X3_collect_16 dX3_collect_13 rfl ?_
  rw [setp_r]
  refine r_il1 (n := 17) dX3_collect_16 rfl ?_
  refine cV_i (n := 20) (np := 1) (m_X2_collectDebt hp1 (N := N) (by rw [setp_at]; exact hWN) h8) gX3_collect_X2_collectDebt rfl (by decide +kernel) rfl (by decide) (by decide) (by omega) (cell_st cA ad _ hp1) rfl dX3_collect_17 rfl rfl (Nat.le_of_ble_eq_true rfl) ?_
  simp only [setp_at, setp_2]
  have hS := collJ_c hW h8 huN v
  rw [hS.1]
  refine cV_q (n := 23) (np := 1) (commit_rel (u' := (collJ u v).2) (c.trial _) (by rw [setp_r, setp_at]; exact hS.2.agr h8 (by rw [collJ_0]; exact huN))) gX3_collect_X3_commit rfl (by decide +kernel) rfl (by decide) (by decide) (by omega) rfl rfl dX3_collect_20 rfl rfl (Nat.le_of_ble_eq_true rfl) (fun M' hM' => ?_)
  exact e_q dX3_collect_23 rfl rfl ⟨(FC.set (by omega) _).tr hM'.1, hM'.2⟩

theorem cntN {u : Vec} {N N' : Nat} (h : u 0 = nI N) (h' : u 0 = nI N') (a : N ≤ 8) (b : N' ≤ 8) : N = N' := nI_un a b (h.symm.trans h')

set_option maxHeartbeats 4000000 in
set_option maxRecDepth 100000 in
theorem c_X3_end {u : Vec} {h : Nat} {hs : Nat → Vec} {t : Nat} {tx : Vec} (c : CA M u h hs t tx) {N : Nat} (huN : u 0 = nI N) (h8 : N ≤ 8) {v : Int32} : C_X3_end cA ad D [.ref (ad 0), .int v] M (QR (endS u N v).1 (OpQ M u h hs t tx (endS u N v))) := by
  refine PM_of (lv := [some (.ref (ad 0)), some (.int v)]) (by decide +kernel) rfl (Nat.le_of_ble_eq_true rfl) rfl ?_
  obtain ⟨N', h8', huN', hvN', hk'⟩ := c.agr.n
  have hNN := cntN huN huN' h8 h8'
  subst hNN
  have hvN := hvN'
  have hk := hk'
  have hr := c.1.1
  have hp1 := hr 1 (by decide)
  have hp0 := hr 0 (by decide)
  have hpq : M.2 0 ≠ M.2 1 := fun q => absurd (c.1.2 0 1 (by decide) (by decide) q) (by decide)
  have hW : AN N (copyU (M.1 (M.2 1)) (M.1 (M.2 0)) N) u := fun k q => by rw [← hk k q]; simp [copyU, q]
  have hWN : copyU (M.1 (M.2 1)) (M.1 (M.2 0)) N 0 = nI N := (hW 0 (by omega)).trans huN
  refine r_al0 (n := 1) dX3_end_0 rfl ?_
  refine g_br_trial (n := 4)  in_X3_end_wsX30 k_X3_end_16 dX3_end_1 rfl ?_
  refine r_al0 (n := 5) dX3_end_4 rfl ?_
  refine g_br_now (n := 8)  in_X3_end_wsX30 k_X3_end_12 dX3_end_5 rfl ?_
  refine cV_v (n := 11) (np := 1) (m_X2_copyFrom hp1 hp0 hpq hvN h8) gX3_end_X2_copyFrom rfl (by decide +kernel) rfl (by decide) (by decide) (by omega) (cell_st cA ad _ hp1) rfl dX3_end_8 rfl rfl (Nat.le_of_ble_eq_true rfl) ?_
  refine r_al0 (n := 12) dX3_end_11 rfl ?_
  refine r_al0 (n := 13) dX3_end_12 rfl ?_
  refine g_br_trial (n := 16)  in_X3_end_wsX30 k_X3_end_16 dX3_end_13 rfl ?_
  rw [setp_r]
  refine r_il1 (n := 17) dX3_end_16 rfl ?_
  refine cV_i (n := 20) (np := 1) (m_X2_endDays hp1 (N := N) (by rw [setp_at]; exact hWN) h8) gX3_end_X2_endDays rfl (by decide +kernel) rfl (by decide) (by decide) (by omega) (cell_st cA ad _ hp1) rfl dX3_end_17 rfl rfl (Nat.le_of_ble_eq_true rfl) ?_
  simp only [setp_at, setp_2]
  have hS := endS_c hW v
  rw [hS.1]
  refine cV_q (n := 23) (np := 1) (commit_rel (u' := (endS u N v).2) (c.trial _) (by rw [setp_r, setp_at]; exact hS.2.agr h8 (by rw [endS_0]; exact huN))) gX3_end_X3_commit rfl (by decide +kernel) rfl (by decide) (by decide) (by omega) rfl rfl dX3_end_20 rfl rfl (Nat.le_of_ble_eq_true rfl) (fun M' hM' => ?_)
  exact e_q dX3_end_23 rfl rfl ⟨(FC.set (by omega) _).tr hM'.1, hM'.2⟩

set_option maxHeartbeats 4000000 in
set_option maxRecDepth 100000 in
theorem c_X3_set {u : Vec} {h : Nat} {hs : Nat → Vec} {t : Nat} {tx : Vec} (c : CA M u h hs t tx) {w v : Int32} : C_X3_set cA ad D [.ref (ad 0), .int w, .int v] M (QR (setS u w v).1 (OpQ M u h hs t tx (setS u w v))) := by
  refine PM_of (lv := [some (.ref (ad 0)), some (.int w), some (.int v)]) (by decide +kernel) rfl (Nat.le_of_ble_eq_true rfl) rfl ?_
  obtain ⟨N, h8, huN, hvN, hk⟩ := c.agr.n
  have hr := c.1.1
  have hp1 := hr 1 (by decide)
  have hp0 := hr 0 (by decide)
  have hpq : M.2 0 ≠ M.2 1 := fun q => absurd (c.1.2 0 1 (by decide) (by decide) q) (by decide)
  have hW : AN N (copyU (M.1 (M.2 1)) (M.1 (M.2 0)) N) u := fun k q => by rw [← hk k q]; simp [copyU, q]
  have hWN : copyU (M.1 (M.2 1)) (M.1 (M.2 0)) N 0 = nI N := (hW 0 (by omega)).trans huN
  refine r_al0 (n := 1) dX3_set_0 rfl ?_
  refine g_br_trial (n := 4)  in_X3_set_wsX30 k_X3_set_16 dX3_set_1 rfl ?_
  refine r_al0 (n := 5) dX3_set_4 rfl ?_
  refine g_br_now (n := 8)  in_X3_set_wsX30 k_X3_set_12 dX3_set_5 rfl ?_
  refine cV_v (n := 11) (np := 1) (m_X2_copyFrom hp1 hp0 hpq hvN h8) gX3_set_X2_copyFrom rfl (by decide +kernel) rfl (by decide) (by decide) (by omega) (cell_st cA ad _ hp1) rfl dX3_set_8 rfl rfl (Nat.le_of_ble_eq_true rfl) ?_
  refine r_al0 (n := 12) dX3_set_11 rfl ?_
  refine r_al0 (n := 13) dX3_set_12 rfl ?_
  refine g_br_trial (n := 16)  in_X3_set_wsX30 k_X3_set_16 dX3_set_13 rfl ?_
  rw [setp_r]
  refine r_il1 (n := 17) dX3_set_16 rfl ?_
  refine r_il2 (n := 18) dX3_set_17 rfl ?_
  refine cV_i (n := 21) (np := 2) (m_X2_changeSetting hp1) gX3_set_X2_changeSetting rfl (by decide +kernel) rfl (by decide) (by decide) (by omega) (cell_st cA ad _ hp1) rfl dX3_set_18 rfl rfl (Nat.le_of_ble_eq_true rfl) ?_
  simp only [setp_at, setp_2]
  have hS := setS_c hW w v
  rw [hS.1]
  refine cV_q (n := 24) (np := 1) (commit_rel (u' := (setS u w v).2) (c.trial _) (by rw [setp_r, setp_at]; exact hS.2.agr h8 (by rw [setS_0]; exact huN))) gX3_set_X3_commit rfl (by decide +kernel) rfl (by decide) (by decide) (by omega) rfl rfl dX3_set_21 rfl rfl (Nat.le_of_ble_eq_true rfl) (fun M' hM' => ?_)
  exact e_q dX3_set_24 rfl rfl ⟨(FC.set (by omega) _).tr hM'.1, hM'.2⟩

set_option maxHeartbeats 4000000 in
set_option maxRecDepth 100000 in
theorem c_X3_smithy {u : Vec} {h : Nat} {hs : Nat → Vec} {t : Nat} {tx : Vec} (c : CA M u h hs t tx) {N : Nat} (huN : u 0 = nI N) (h8 : N ≤ 8) {w v : Int32} : C_X3_smithy cA ad D [.ref (ad 0), .int w, .int v] M (QR (addS u N w v).1 (OpQ M u h hs t tx (addS u N w v))) := by
  refine PM_of (lv := [some (.ref (ad 0)), some (.int w), some (.int v)]) (by decide +kernel) rfl (Nat.le_of_ble_eq_true rfl) rfl ?_
  obtain ⟨N', h8', huN', hvN', hk'⟩ := c.agr.n
  have hNN := cntN huN huN' h8 h8'
  subst hNN
  have hvN := hvN'
  have hk := hk'
  have hr := c.1.1
  have hp1 := hr 1 (by decide)
  have hp0 := hr 0 (by decide)
  have hpq : M.2 0 ≠ M.2 1 := fun q => absurd (c.1.2 0 1 (by decide) (by decide) q) (by decide)
  have hW : AN N (copyU (M.1 (M.2 1)) (M.1 (M.2 0)) N) u := fun k q => by rw [← hk k q]; simp [copyU, q]
  have hWN : copyU (M.1 (M.2 1)) (M.1 (M.2 0)) N 0 = nI N := (hW 0 (by omega)).trans huN
  refine r_al0 (n := 1) dX3_smithy_0 rfl ?_
  refine g_br_trial (n := 4)  in_X3_smithy_wsX30 k_X3_smithy_16 dX3_smithy_1 rfl ?_
  refine r_al0 (n := 5) dX3_smithy_4 rfl ?_
  refine g_br_now (n := 8)  in_X3_smithy_wsX30 k_X3_smithy_12 dX3_smithy_5 rfl ?_
  refine cV_v (n := 11) (np := 1) (m_X2_copyFrom hp1 hp0 hpq hvN h8) gX3_smithy_X2_copyFrom rfl (by decide +kernel) rfl (by decide) (by decide) (by omega) (cell_st cA ad _ hp1) rfl dX3_smithy_8 rfl rfl (Nat.le_of_ble_eq_true rfl) ?_
  refine r_al0 (n := 12) dX3_smithy_11 rfl ?_
  refine r_al0 (n := 13) dX3_smithy_12 rfl ?_
  refine g_br_trial (n := 16)  in_X3_smithy_wsX30 k_X3_smithy_16 dX3_smithy_13 rfl ?_
  rw [setp_r]
  refine r_il1 (n := 17) dX3_smithy_16 rfl ?_
  refine r_il2 (n := 18) dX3_smithy_17 rfl ?_
  refine cV_i (n := 21) (np := 2) (m_X2_addSmithy hp1 (N := N) (by rw [setp_at]; exact hWN) h8) gX3_smithy_X2_addSmithy rfl (by decide +kernel) rfl (by decide) (by decide) (by omega) (cell_st cA ad _ hp1) rfl dX3_smithy_18 rfl rfl (Nat.le_of_ble_eq_true rfl) ?_
  simp only [setp_at, setp_2]
  have hS := addS_c hW h8 huN w v
  rw [hS.1]
  refine cV_q (n := 24) (np := 1) (commit_rel (u' := (addS u N w v).2) (c.trial _) (by rw [setp_r, setp_at]; exact hS.2)) gX3_smithy_X3_commit rfl (by decide +kernel) rfl (by decide) (by decide) (by omega) rfl rfl dX3_smithy_21 rfl rfl (Nat.le_of_ble_eq_true rfl) (fun M' hM' => ?_)
  exact e_q dX3_smithy_24 rfl rfl ⟨(FC.set (by omega) _).tr hM'.1, hM'.2⟩

def UndoQ (M : Mem) (u : Vec) (h : Nat) (hs : Nat → Vec) (t : Nat) (tx : Vec) : Mem → Prop := fun M' => FC M M' ∧ if h = 0 then CA M' u h hs t tx else CA M' (hs (h - 1)) (h - 1) hs t tx
theorem undo_ca {u : Vec} {h : Nat} {hs : Nat → Vec} {t : Nat} {tx : Vec} (c : CA M u h hs t tx) (h0 : ¬ h = 0) {N : Nat} (h8 : N ≤ 8) (hN : M.1 (M.2 (2 + (h - 1))) 0 = nI N) : UndoQ M u h hs t tx (mput (setp M (M.2 0) (copyU (M.1 (M.2 0)) (M.1 (M.2 (2 + (h - 1)))) N)) 8 0 (nI (h - 1))) := by
  obtain ⟨hP, hh, h4, hu, hi, ht, h60, hx⟩ := c
  have hp0 := hP.1 0 (by decide)
  have ne : ∀ i, i < 6 → i ≠ 0 → M.2 i ≠ M.2 0 := fun i hi hn q => hn (hP.2 i 0 hi (by decide) q)
  refine ⟨fun q hq => by rw [mput_ne (by omega), setp_ne _ _ (by omega)], ?_⟩
  rw [if_neg h0]
  refine ⟨hP, mput_at, by omega, ?_, fun i q => ?_, ?_, h60, fun i q => ?_⟩
  · show Agr ((mput (setp M (M.2 0) _) 8 0 _).1 (M.2 0)) _
    rw [mput_ne (by omega), setp_at]
    exact (hi (h - 1) (by omega)).copy _ h8 hN
  · show Agr ((mput (setp M (M.2 0) _) 8 0 _).1 (M.2 (2 + i))) _
    have := hP.1 (2 + i) (by omega)
    rw [mput_ne (by omega), setp_ne _ _ (ne (2 + i) (by omega) (by omega))]
    exact hi i (by omega)
  · rw [mput_ne (by decide), setp_ne _ _ (by omega)]; exact ht
  · rw [mput_ne (by decide), setp_ne _ _ (by omega)]; exact hx i q

def TypQ (M : Mem) (u : Vec) (h : Nat) (hs : Nat → Vec) (t : Nat) (tx : Vec) : Mem → Prop := fun M' => FC M M' ∧ CA M' u h hs t tx
theorem typ_ca {u : Vec} {h : Nat} {hs : Nat → Vec} {t : Nat} {tx : Vec} (c : CA M u h hs t tx) (hlt : t < 60) (v : Int32) : TypQ M u h hs (t + 1) (upd tx t v) (mput (mput M 7 t v) 6 0 (nI (t + 1))) := by
  obtain ⟨hP, hh, h4, hu, hi, ht, h60, hx⟩ := c
  refine ⟨fun q hq => by rw [mput_ne (by omega), mput_ne (by omega)], hP, ?_, h4, ?_, fun i q => ?_, mput_at, by omega, fun i q => ?_⟩
  · rw [mput_ne (by decide), mput_ne (by decide)]; exact hh
  · show Agr ((mput (mput M 7 t v) 6 0 _).1 (M.2 0)) _
    have := hP.1 0 (by decide)
    rw [mput_ne (by omega), mput_ne (by omega)]; exact hu
  · show Agr ((mput (mput M 7 t v) 6 0 _).1 (M.2 (2 + i))) _
    have := hP.1 (2 + i) (by omega)
    rw [mput_ne (by omega), mput_ne (by omega)]; exact hi i q
  · rw [mput_ne (by decide), mput_eq]
    by_cases e : i = t
    · subst e; rw [upd_at, upd_at]
    · rw [upd_ne _ _ e, upd_ne _ _ e]; exact hx i (by omega)

end BR3
end
section
/-! ===== the reference's own ways of saying it ===== -/
theorem neg0 (v : Int32) : -v = 0 - v := by rw [Int32.zero_sub]
def agW (u : Vec) (k : Nat) : Int32 := if u (14 + 8 * k + 2) + u (14 + 8 * k + 1) / 2 + 1 ≤ 100 then u (14 + 8 * k + 2) + u (14 + 8 * k + 1) / 2 + 1 else 100
def agT (u : Vec) (k : Nat) : Int32 := u (14 + 8 * k + 3) + (if agW u k / 10 = 0 then 10 else -2 * (agW u k / 10))
def agH (u : Vec) (k : Nat) : Int32 := if agT u k ≤ 100 then (if 0 ≤ agT u k then agT u k else 0) else 100
def agC (u : Vec) (k : Nat) : Int32 := if agH u k < u 10 then u (14 + 8 * k + 4) + 1 else 0
def agU (u : Vec) (k : Nat) : Vec := upd (upd (upd (upd u (14 + 8 * k + 2) (agW u k)) (14 + 8 * k + 3) (agH u k)) (14 + 8 * k + 4) (agC u k)) 8 (if agC u k ≤ u 8 then u 8 else agC u k)
theorem idx3 (k j : Nat) : (14 : Int32) + 8 * nI k + nI j = nI (14 + 8 * k + j) := by
  rw [show (8 : Int32) = nI 8 from rfl, show (14 : Int32) = nI 14 from rfl, pk_mul, nI_add, nI_add]
/-- all smithies age by a day: the first n of them -/
def agsU (u : Vec) : Nat → Vec
  | 0 => u
  | n + 1 => agU (agsU u n) n
def edU (u : Vec) (n : Nat) : Vec := upd (upd (agsU u n) 1 (u 1 + 1)) 3 (u 11)
def edsU (u : Vec) (n : Nat) : Nat → Vec
  | 0 => u
  | d + 1 => edU (edsU u n d) n
theorem agU_j (u : Vec) (k j : Nat) (h8 : j ≠ 8) (h : j < 14) : agU u k j = u j := by simp (disch := omega) only [agU, upd_ne]
theorem agsU_j (u : Vec) (j : Nat) (h8 : j ≠ 8) (h : j < 14) : ∀ n, agsU u n j = u j
  | 0 => rfl
  | n + 1 => by rw [agsU, agU_j _ _ _ h8 h, agsU_j u j h8 h n]
theorem edU_0 (u : Vec) (n : Nat) : edU u n 0 = u 0 := by
  unfold edU
  rw [upd_ne _ _ (by decide), upd_ne _ _ (by decide), agsU_j _ _ (by decide) (by decide)]
theorem edsU_0 (u : Vec) (n : Nat) : ∀ d, edsU u n d 0 = u 0
  | 0 => rfl
  | d + 1 => by rw [edsU, edU_0, edsU_0 u n d]
end
section
/-! ===== the reference's loops, plain ===== -/
def cpN (v u : Vec) (i : Nat) : Vec := fun k => if k < i then u k else v k
theorem cpN_0 (v u : Vec) : cpN v u 0 = v := by funext k; simp [cpN]
theorem cpN_s (v u : Vec) (i : Nat) : upd (cpN v u i) i (u i) = cpN v u (i + 1) := by
  funext k
  by_cases h : k = i
  · subst h; rw [upd_at]; simp [cpN]
  · rw [upd_ne _ _ h]
    by_cases h2 : k < i
    · have h3 : k < i + 1 := by omega
      simp only [cpN, h2, h3, if_true]
    · have h3 : ¬ k < i + 1 := by omega
      simp only [cpN, h2, h3, if_false]
def wrN (v u : Vec) (b n : Nat) : Vec := fun k => if b ≤ k ∧ k < b + n then u (k - b) else v k
theorem wrN_0 (v u : Vec) (b : Nat) : wrN v u b 0 = v := by funext k; simp [wrN]; intro h1 h2; omega
theorem wrN_s (v u : Vec) (b i : Nat) : upd (wrN v u b i) (b + i) (u i) = wrN v u b (i + 1) := by
  funext k
  by_cases h : k = b + i
  · subst h
    rw [upd_at]
    have : b ≤ b + i ∧ b + i < b + (i + 1) := by omega
    simp only [wrN, this, and_self, if_true]
    congr 1; omega
  · rw [upd_ne _ _ h]
    by_cases h2 : b ≤ k ∧ k < b + i
    · have h3 : b ≤ k ∧ k < b + (i + 1) := by omega
      simp only [wrN, h2, h3, and_self, if_true]
    · have h3 : ¬ (b ≤ k ∧ k < b + (i + 1)) := by omega
      simp only [wrN, if_neg h2, if_neg h3]
def shN (v : Vec) (n : Nat) : Vec := fun k => if k < n then v (k + 78) else v k
theorem shN_0 (v : Vec) : shN v 0 = v := by funext k; simp [shN]
theorem shN_s (v : Vec) (i : Nat) : upd (shN v i) i (v (i + 78)) = shN v (i + 1) := by
  funext k
  by_cases h : k = i
  · subst h; rw [upd_at]; simp [shN]
  · rw [upd_ne _ _ h]
    by_cases h2 : k < i
    · have h3 : k < i + 1 := by omega
      simp only [shN, h2, h3, if_true]
    · have h3 : ¬ k < i + 1 := by omega
      simp only [shN, h2, h3, if_false]
theorem shN_at (v : Vec) (i : Nat) : shN v i (i + 78) = v (i + 78) := by
  have : ¬ i + 78 < i := by omega
  simp only [shN, this, if_false]
def onF : Nat → Int32 → Int32 → Int32
  | 0, _, n => n
  | m + 1, x, n => if x = 0 then n else onF m (x &&& (x - 1)) (n + 1)
def onZ : Nat → Int32 → Prop
  | 0, x => x = 0
  | m + 1, x => x = 0 ∨ onZ m (x &&& (x - 1))
/-- days of the smithy k till it is cold, the state going on: m more at most -/
def cdR (k : Nat) : Nat → Nat → Vec → Nat × Vec
  | 0, n, w => (n, w)
  | m + 1, n, w => if w (14 + 8 * k + 3) < w 10 then (n, w) else cdR k m (n + 1) (agU w k)
def cdM (u : Vec) (k : Nat) : Int32 := if (cdR k 200 0 u).2 (14 + 8 * k + 3) < (cdR k 200 0 u).2 10 then nI (cdR k 200 0 u).1 else NF
theorem agU_t (u : Vec) {k : Nat} (hk : k < 8) (j : Nat) (hj : 78 ≤ j) : agU u k j = u j := by simp (disch := omega) only [agU, upd_ne]
theorem cdR_t {k : Nat} (hk : k < 8) : ∀ (m n : Nat) (w : Vec) (j : Nat), 78 ≤ j → (cdR k m n w).2 j = w j
  | 0, _, _, _, _ => rfl
  | m + 1, n, w, j, hj => by
    rw [cdR]
    split
    · rfl
    · rw [cdR_t hk m _ _ j hj, agU_t _ hk j hj]
theorem cp_back {u w T : Vec} (h1 : ∀ j, 78 ≤ j → w j = u j) : cpN w (cpN T u 78) 78 = u := by
  funext k
  by_cases h : k < 78
  · simp only [cpN, h, if_true]
  · simp only [cpN, h, if_false]; exact h1 k (by omega)
def aeS (u : Vec) (k i : Nat) : Int32 := if u (14 + 8 * k + 2) = u (14 + 8 * i + 2) then (if absI (u (14 + 8 * i) - u 2) ≤ absI (u (14 + 8 * k) - u 2) then 0 else 1) else (if u (14 + 8 * k + 2) ≤ u (14 + 8 * i + 2) then 0 else 1)
def dyS (x : Int32) : Int32 := if 0 ≤ x then x else 201
def iaS (u : Vec) (k : Nat) (x : Int32) (i : Nat) (y : Int32) : Int32 := if dyS x = dyS y then aeS u k i else (if dyS y ≤ dyS x then 0 else 1)
def nxM (u : Vec) : Nat → Option Nat × Int32
  | 0 => (none, 0)
  | i + 1 => if u (14 + 8 * i + 2) ≤ 0 then nxM u i else match nxM u i with
    | (none, _) => (some i, cdM u i)
    | (some b, y) => if iaS u i (cdM u i) b y = 0 then (some b, y) else (some i, cdM u i)
theorem nxM_lt (u : Vec) : ∀ (n b : Nat) (y : Int32), nxM u n = (some b, y) → b < n
  | 0, b, y, h => by cases h
  | i + 1, b, y, h => by
    rw [nxM] at h
    split at h
    · have := nxM_lt u i b y h; omega
    · cases hq : nxM u i with
      | mk o z =>
        rw [hq] at h
        cases o with
        | none => dsimp only at h; cases h; omega
        | some c =>
          dsimp only at h
          have hc := nxM_lt u i c z hq
          split at h
          · cases h; omega
          · cases h; omega
def neM (u : Vec) (s : Int32) : Nat → Option Nat
  | 0 => none
  | i + 1 => if (s >>> (nI i &&& 31)) &&& 1 = 1 then (match neM u s i with
    | none => some i
    | some b => if u (14 + 8 * b) ≤ u (14 + 8 * i) then some b else some i) else neM u s i
theorem neM_lt (u : Vec) (s : Int32) : ∀ (n b : Nat), neM u s n = some b → b < n
  | 0, b, h => by cases h
  | i + 1, b, h => by
    rw [neM] at h
    split at h
    · cases hq : neM u s i with
      | none => rw [hq] at h; dsimp only at h; cases h; omega
      | some c =>
        rw [hq] at h
        dsimp only at h
        have hc := neM_lt u s i c hq
        split at h
        · cases h; omega
        · cases h; omega
    · have := neM_lt u s i b h; omega
def rdM (u : Vec) (n : Nat) : Nat → Int32 → Int32 → Int32 × Int32 × Int32 → Int32 × Int32 × Int32
  | 0, _, _, q => q
  | m + 1, s, pl, q => if s = 0 then q else match neM u s n with
    | none => q
    | some k => rdM u n m (s ^^^ ((1 : Int32) <<< (nI k &&& 31))) (u (14 + 8 * k))
        (if u 13 < u (14 + 8 * k + 5) then (q.1 + (hB pl (u (14 + 8 * k)) + 0), q.2.1 + 0, q.2.2 + 0)
         else if u (14 + 8 * k + 2) ≤ 0 then (q.1 + (hB pl (u (14 + 8 * k)) + 0), q.2.1 + 0, q.2.2 + 0)
         else (q.1 + (hB pl (u (14 + 8 * k)) + hM false), q.2.1 + leatherOf u k false, q.2.2 + owes u k false))
def GdM (u : Vec) (n : Nat) (P : Nat → Int32 → Prop) : Prop := (∀ s, P 0 s → s = 0) ∧ ∀ m s, P (m + 1) s → s ≠ 0 → ∃ k, k < n ∧ neM u s n = some k ∧ P m (s ^^^ ((1 : Int32) <<< (nI k &&& 31)))
end
section
/-! ===== the reference's changes: the answer, and the state then (none: nothing changed) ===== -/
def mo (M M' : Mem) : Option Vec → Mem
  | none => M
  | some w => setp M' 10 w
theorem bI01 (b : Bool) : bI b = 0 ∨ bI b = 1 := by cases b; exact Or.inl rfl; exact Or.inr rfl
def walkM (u : Vec) (v : Int32) : Int32 × Option Vec := if rng v 0 99 = true then (if hB (u 2) v ≤ u 3 then (u 3 - hB (u 2) v, some (upd (upd (upd u 3 (u 3 - hB (u 2) v)) 9 (u 9 + absI (u 2 - v))) 2 v)) else (NP, none)) else (IA, none)
def buyM (u : Vec) (v : Int32) : Int32 × Option Vec := if rng v 1 999 = true then (if u 2 = 0 then (if u 4 + v ≤ 999 then (u 4 + v, some (upd (upd (upd u 4 (u 4 + v)) 5 (u 5 - 2 * v)) 6 (u 6 + 2 * v))) else (LR, none)) else (NP, none)) else (IA, none)
def mendM (u : Vec) (k : Nat) (b : Bool) : Int32 × Option Vec := if whyNot u k b = 0 then (mendR u k b, some (mendU u k b)) else (NP, none)
def collM (u : Vec) (k : Nat) : Int32 × Option Vec := if u 2 = u (14 + 8 * k) then (if u (14 + 8 * k + 5) = 0 then (NP, none) else (pays u k, some (collU u k))) else (NP, none)
def may (w v : Int32) : Bool := if w = 0 then rng v 1 99 else if w = 1 then rng v 1 24 else if w = 2 then rng v 0 20 else rng v 0 500
def setM (u : Vec) (j : Nat) (v : Int32) : Int32 × Option Vec := if may (nI j) v = true then (u (10 + j), some (upd u (10 + j) v)) else (IA, none)
def zeN (u : Vec) (k : Nat) : Nat → Vec
  | 0 => u
  | i + 1 => upd (zeN u k i) (14 + 8 * k + i) 0
def addV (u : Vec) (k : Nat) (v w : Int32) : Vec := upd (upd (upd (upd (zeN u k 8) (14 + 8 * k) v) (14 + 8 * k + 1) w) (14 + 8 * k + 3) 100) 0 (u 0 + 1)
def addM (u : Vec) (n : Nat) (v w : Int32) : Int32 × Option Vec := if rng v 0 99 = true then (if rng w 1 9 = true then (if u 0 = 8 then (LR, none) else (u 0, some (addV u n v w))) else (IA, none)) else (IA, none)
def endM (u : Vec) (n : Nat) (v : Int32) : Int32 × Option Vec := if rng v 1 99 = true then (if u 1 + v ≤ 9999 then (onF 8 (csN (edsU u n v.toNatClampNeg) n) 0, some (edsU u n v.toNatClampNeg)) else (LR, none)) else (IA, none)
theorem zeN_0 (u : Vec) (k j : Nat) (h : j < 14) : ∀ i, zeN u k i j = u j
  | 0 => rfl
  | i + 1 => by rw [zeN, upd_ne _ _ (by omega), zeN_0 u k j h i]
theorem rng_nI {v : Int32} {a b : Nat} (hb : b < 2 ^ 31) (h : rng v (nI a) (nI b) = true) (ha : a < 2 ^ 31) : ∃ j : Nat, a ≤ j ∧ j ≤ b ∧ v = nI j ∧ v.toNatClampNeg = j := by
  unfold rng at h
  split at h
  · cases h
  · next h1 =>
    split at h
    · cases h
    · next h2 =>
      have h0 : ¬ v < 0 := fun q => h1 (Int32.lt_of_lt_of_le q (by have := nI_leI (a := 0) (b := a) (by decide) ha; exact this.mpr (by omega)))
      obtain ⟨j, hj, rfl⟩ := nI_of h0
      refine ⟨j, ?_, ?_, rfl, nI_clamp hj⟩
      · exact Nat.le_of_not_lt fun q => h1 ((nI_ltI hj ha).mpr q)
      · exact Nat.le_of_not_lt fun q => h2 ((nI_ltI hb hj).mpr q)
end
section
/-! ===== the reference: what is asked, plain ===== -/
def unN (v p : Vec) (b n : Nat) : Vec := fun k => if k < n then p (b + k) else v k
theorem unN_0 (v p : Vec) (b : Nat) : unN v p b 0 = v := by funext k; simp [unN]
theorem unN_s (v p : Vec) (b i : Nat) : upd (unN v p b i) i (p (b + i)) = unN v p b (i + 1) := by
  funext k
  by_cases h : k = i
  · subst h; rw [upd_at]; simp [unN]
  · rw [upd_ne _ _ h]
    by_cases h2 : k < i
    · have h3 : k < i + 1 := by omega
      simp only [unN, h2, h3, if_true]
    · have h3 : ¬ k < i + 1 := by omega
      simp only [unN, h2, h3, if_false]
theorem rng01 {w : Int32} (h : rng w 0 1 = true) : w = 0 ∨ w = 1 := by
  obtain ⟨j, h1, h2, rfl, -⟩ := rng_nI (a := 0) (b := 1) (by decide) h (by decide)
  have : j = 0 ∨ j = 1 := by omega
  rcases this with rfl | rfl
  · exact Or.inl rfl
  · exact Or.inr rfl
theorem rng01n {w : Int32} (h : rng w 0 1 = false) : ¬ w = 0 ∧ ¬ w = 1 := by
  refine ⟨fun q => ?_, fun q => ?_⟩
  · subst q; exact absurd h (by decide)
  · subst q; exact absurd h (by decide)
def mnT (u : Vec) (k : Nat) (b : Bool) (x : Int32) : Int32 := if x = 0 then hM b else if x = 1 then leatherOf u k b else if x = 2 then owes u k b else wearBM u k b
def mndM (u : Vec) (k : Nat) (w x : Int32) : Int32 := if rng w 0 1 = true then (if rng x 0 3 = true then mnT u k (decide (w = 1)) x else IA) else IA
def cntM (u : Vec) (n : Nat) (hc tc w : Int32) : Int32 :=
  if w = 0 then u 0 else if w = 1 then u 1 else if w = 2 then u 2 else if w = 3 then u 3 else if w = 4 then u 4 else if w = 5 then u 5 else if w = 6 then sumN u 5 n else if w = 7 then u 6 else if w = 8 then u 7
  else if w = 9 then csN u n else if w = 10 then u 8 else if w = 11 then u 9 else if w = 12 then hc else if w = 13 then tc else if rng w 20 23 = true then u (10 + w.toNatClampNeg - 20) else IA
def rndM (u : Vec) (n : Nat) (s w : Int32) : Int32 := if rng s 1 ((1 : Int32) <<< (u 0 &&& 31) - 1) = true then (if rng w 0 2 = true then rdW (rdM u n 8 s (u 2) (0, 0, 0)) w else IA) else IA
end
section
/-! ===== the reference's text, plain ===== -/
def mat (tx : Vec) (t s : Nat) (a b : Int32) : Bool := if s < t then rng (tx s) a b else false
theorem mat_chr (tx : Vec) (t s : Nat) {a b : Int32} (h : (-1 : Int32) < a) : mat tx t s a b = rng (chr tx t s) a b := by
  unfold mat chr
  by_cases q : s < t
  · rw [if_pos q, if_pos q]
  · rw [if_neg q, if_neg q]; unfold rng; rw [if_pos h]
theorem mat_lt {tx : Vec} {t s : Nat} {a b : Int32} (h : mat tx t s a b = true) : s < t ∧ rng (tx s) a b = true := by
  unfold mat at h
  split at h
  · next q => exact ⟨q, h⟩
  · cases h
theorem rng_eq {v a : Int32} : rng v a a = true ↔ v = a := by
  unfold rng
  constructor
  · intro h
    split at h
    · cases h
    · next h1 =>
      split at h
      · cases h
      · next h2 => exact Int32.le_antisymm (Int32.not_lt.mp h2) (Int32.not_lt.mp h1)
  · intro h
    subst h
    rw [if_neg (Int32.lt_irrefl), if_neg (Int32.lt_irrefl)]
def mor (tx : Vec) (t s : Nat) : Int32 := if mat tx t s 33 126 = true then tx s else 0
/-- whether an order stands at s -/
def okB (f : Nat → Int32) (s : Nat) : Bool := if isL (f s) = true then (if (dgs f s 3 0 0).1 = 0 then false else decide (f (s + 1 + (dgs f s 3 0 0).1) = 59)) else false
def rdV (b : Vec) (tx : Vec) (t s : Nat) : Vec :=
  if isL (mor tx t s) = true then upd (upd (upd b 8 (mor tx t s)) 3 (nI (s + 1 + (dgs (chr tx t) s 3 0 0).1 + (if okB (chr tx t) s = true then 1 else 0)))) 9 (dgs (chr tx t) s 3 0 0).2
  else upd b 8 (mor tx t s)
theorem isL_rng {c : Int32} (h : isL c = true) : rng c 33 126 = true := by
  rcases isL_of h with rfl | rfl | rfl | rfl | rfl | rfl <;> decide
theorem mor_L (tx : Vec) (t s : Nat) : isL (mor tx t s) = isL (chr tx t s) := by
  unfold mor
  rw [mat_chr tx t s (by decide)]
  by_cases h : isL (chr tx t s) = true
  · rw [if_pos (isL_rng h)]
    have hs : s < t := by
      rcases Nat.lt_or_ge s t with q | q
      · exact q
      · exfalso
        have e : chr tx t s = -1 := by unfold chr; rw [if_neg (by omega)]
        rw [e] at h
        exact absurd h (by decide)
    have e : chr tx t s = tx s := by unfold chr; rw [if_pos hs]
    rw [← e]
  · have h2 : isL (chr tx t s) = false := by simpa using h
    rw [h2]
    by_cases q : rng (chr tx t s) 33 126 = true
    · rw [if_pos q]
      have hs : s < t := by
        rcases Nat.lt_or_ge s t with q2 | q2
        · exact q2
        · exfalso
          have e : chr tx t s = -1 := by unfold chr; rw [if_neg (by omega)]
          rw [e] at q
          exact absurd q (by decide)
      have e : chr tx t s = tx s := by unfold chr; rw [if_pos hs]
      rw [← e]; exact h2
    · rw [if_neg q]; decide
theorem mor_eq {tx : Vec} {t s : Nat} (h : isL (chr tx t s) = true) : mor tx t s = chr tx t s := by
  unfold mor
  rw [mat_chr tx t s (by decide), if_pos (isL_rng h)]
  have hs : s < t := by
    rcases Nat.lt_or_ge s t with q | q
    · exact q
    · exfalso
      have e : chr tx t s = -1 := by unfold chr; rw [if_neg (by omega)]
      rw [e] at h
      exact absurd h (by decide)
  unfold chr; rw [if_pos hs]
def mendMJ (u : Vec) (j : Int32) (b : Bool) : Int32 × Option Vec := if ¬ j < 0 ∧ j < u 0 then mendM u j.toNatClampNeg b else (IA, none)
def collMJ (u : Vec) (j : Int32) : Int32 × Option Vec := if ¬ j < 0 ∧ j < u 0 then collM u j.toNatClampNeg else (IA, none)
def ordM (u : Vec) (n : Nat) (c v : Int32) : Int32 × Option Vec := if c = 119 then walkM u v else if c = 98 then buyM u v else if c = 112 then mendMJ u v false else if c = 104 then mendMJ u v true else if c = 99 then collMJ u v else endM u n v
def M9 (M : Mem) (w b : Vec) : Mem := setp (setp M 10 w) 9 b
theorem M9_9 (M : Mem) (w b : Vec) : (M9 M w b).1 9 = b := setp_at _ _ _
theorem M9_10 (M : Mem) (w b : Vec) : (M9 M w b).1 10 = w := by rw [M9, setp_ne _ _ (by decide), setp_at]
theorem M9_q (M : Mem) {q : Nat} (w b : Vec) (h1 : q ≠ 10) (h2 : q ≠ 9) : (M9 M w b).1 q = M.1 q := by rw [M9, setp_ne _ _ h2, setp_ne _ _ h1]
theorem M9_s9 (M : Mem) (w b b' : Vec) : setp (M9 M w b) 9 b' = M9 M w b' := setp_2 _ _ _ _
theorem M9_s10 (M : Mem) (w b w' : Vec) : setp (M9 M w b) 10 w' = M9 M w' b := by
  unfold M9
  rw [setp_swap (setp M 10 w) b w' (by decide), setp_2]
theorem M9_self (M : Mem) : M9 M (M.1 10) (M.1 9) = M := by
  unfold M9
  rw [setp_self, setp_self]
theorem M9_of (M : Mem) (b : Vec) : setp M 9 b = M9 M (M.1 10) b := by
  unfold M9
  rw [setp_self]
def mw (w : Vec) : Option Vec → Vec
  | none => w
  | some w' => w'
def plF (tx : Vec) (t N : Nat) : Nat → Nat → Vec → Vec → Int32 × Vec × Vec
  | 0, _, w, b => (1, w, b)
  | m + 1, s, w, b => if s < t then
      (if okB (chr tx t) s = true then
        (if (ordM w N ((rdV (upd b 4 (nI s)) tx t s) 8) ((rdV (upd b 4 (nI s)) tx t s) 9)).1 < 0 then
          (0, mw w (ordM w N ((rdV (upd b 4 (nI s)) tx t s) 8) ((rdV (upd b 4 (nI s)) tx t s) 9)).2, upd (upd (upd (rdV (upd b 4 (nI s)) tx t s) 5 2) 6 (ordM w N ((rdV (upd b 4 (nI s)) tx t s) 8) ((rdV (upd b 4 (nI s)) tx t s) 9)).1) 7 (b 7 + 1))
        else plF tx t N m (s + 2 + (dgs (chr tx t) s 3 0 0).1) (mw w (ordM w N ((rdV (upd b 4 (nI s)) tx t s) 8) ((rdV (upd b 4 (nI s)) tx t s) 9)).2) (upd (upd (upd (rdV (upd b 4 (nI s)) tx t s) 5 2) 6 (ordM w N ((rdV (upd b 4 (nI s)) tx t s) 8) ((rdV (upd b 4 (nI s)) tx t s) 9)).1) 7 (b 7 + 1)))
      else (0, w, upd (upd (upd (rdV (upd b 4 (nI s)) tx t s) 5 1) 6 ((rdV (upd b 4 (nI s)) tx t s) 3 - nI s)) 7 (b 7 + 1)))
    else (1, w, b)
theorem rdV_k (b tx : Vec) (t s : Nat) {k : Nat} (h3 : k ≠ 3) (h8 : k ≠ 8) (h9 : k ≠ 9) : rdV b tx t s k = b k := by
  unfold rdV
  split <;> simp (disch := omega) only [upd_ne]
theorem okB_L {f : Nat → Int32} {s : Nat} (h : okB f s = true) : isL (f s) = true ∧ ¬ (dgs f s 3 0 0).1 = 0 ∧ f (s + 1 + (dgs f s 3 0 0).1) = 59 := by
  unfold okB at h
  split at h
  · next q =>
    split at h
    · cases h
    · next q2 => exact ⟨q, q2, by simpa using h⟩
  · cases h
theorem rdV_8 (b tx : Vec) (t s : Nat) : rdV b tx t s 8 = mor tx t s := by
  unfold rdV
  split
  · simp (disch := omega) only [upd_ne, upd_at]
  · simp (disch := omega) only [upd_at]
theorem rdV_9 {b tx : Vec} {t s : Nat} (h : okB (chr tx t) s = true) : rdV b tx t s 9 = (dgs (chr tx t) s 3 0 0).2 := by
  unfold rdV
  rw [if_pos (by rw [mor_L]; exact (okB_L h).1), upd_at]
theorem rdV_3 {b tx : Vec} {t s : Nat} (h : okB (chr tx t) s = true) : rdV b tx t s 3 = nI (s + 2 + (dgs (chr tx t) s 3 0 0).1) := by
  unfold rdV
  rw [if_pos (by rw [mor_L]; exact (okB_L h).1), if_pos h]
  simp (disch := omega) only [upd_ne, upd_at]
  congr 1; omega
end
section
theorem isSm_k {u : Vec} {N : Nat} (hN : u 0 = nI N) (h8 : N ≤ 8) {j : Int32} (h : isSm u j) : ∃ k, k < N ∧ j = nI k ∧ j.toNatClampNeg = k := by
  obtain ⟨h1, h2⟩ := h
  rw [hN] at h2
  have h3 : rng j (nI 0) (nI N) = true := by
    unfold rng
    rw [if_neg (show ¬ j < nI 0 from h1), if_neg (Int32.lt_asymm h2)]
  obtain ⟨k, -, hk, e1, e2⟩ := rng_nI (by omega) h3 (by decide)
  refine ⟨k, ?_, e1, e2⟩
  rcases Nat.lt_or_ge k N with q | q
  · exact q
  · exfalso
    have : k = N := by omega
    subst this
    rw [e1] at h2
    exact Int32.lt_irrefl h2
/-- a question about a smithy -/
def jS (u : Vec) (j : Int32) (F : Nat → Int32) : Int32 := if ¬ j < 0 ∧ j < u 0 then F j.toNatClampNeg else IA
def st0 : Vec := upd (upd (upd (upd (upd (upd (fun _ => 0) 5 100) 3 10) 10 30) 11 10) 12 4) 13 60
end
section
/-! ===== sets as numbers: finite facts ===== -/
def bitI (i : Nat) : Int32 := (1 : Int32) <<< (nI i &&& 31)
def hasB (L i : Nat) : Bool := L / 2 ^ i % 2 == 1
def popc (L : Nat) : Nat := L % 2 + L / 2 % 2 + L / 4 % 2 + L / 8 % 2 + L / 16 % 2 + L / 32 % 2 + L / 64 % 2 + L / 128 % 2
def all8 (P : Nat → Nat → Bool) : Nat → Bool
  | 0 => true
  | L + 1 => P L 0 && (P L 1 && (P L 2 && (P L 3 && (P L 4 && (P L 5 && (P L 6 && (P L 7 && all8 P L)))))))
theorem all8_of {P : Nat → Nat → Bool} : ∀ {n : Nat}, all8 P n = true → ∀ L i, L < n → i < 8 → P L i = true
  | 0, _, L, _, hL, _ => absurd hL (Nat.not_lt_zero L)
  | n + 1, h, L, i, hL, hi => by
    simp only [all8, Bool.and_eq_true] at h
    rcases Nat.lt_or_ge L n with q | q
    · exact all8_of h.2.2.2.2.2.2.2.2 L i q hi
    · have e : L = n := by omega
      subst e
      have hi2 : i = 0 ∨ i = 1 ∨ i = 2 ∨ i = 3 ∨ i = 4 ∨ i = 5 ∨ i = 6 ∨ i = 7 := by omega
      rcases hi2 with rfl | rfl | rfl | rfl | rfl | rfl | rfl | rfl
      · exact h.1
      · exact h.2.1
      · exact h.2.2.1
      · exact h.2.2.2.1
      · exact h.2.2.2.2.1
      · exact h.2.2.2.2.2.1
      · exact h.2.2.2.2.2.2.1
      · exact h.2.2.2.2.2.2.2.1
def set1 (L i : Nat) : Bool := ((nI L &&& bitI i == 0) == !hasB L i) && ((nI L >>> (nI i &&& 31) &&& 1 == 1) == hasB L i)
theorem set1_all : all8 set1 256 = true := by decide +kernel
def set2 (L i : Nat) : Bool := !hasB L i || ((nI L &&& (bitI i ^^^ (-1)) == nI (L - 2 ^ i)) && ((nI L ^^^ bitI i == nI (L - 2 ^ i)) && (Nat.ble (2 ^ i) L && (popc (L - 2 ^ i) + 1 == popc L))))
theorem set2_all : all8 set2 256 = true := by decide +kernel
def set3 (L i : Nat) : Bool := !Nat.blt L (2 ^ i) || (nI L ||| bitI i == nI (L + 2 ^ i))
theorem set3_all : all8 set3 256 = true := by decide +kernel
def onZb : Nat → Int32 → Bool
  | 0, x => x == 0
  | m + 1, x => x == 0 || onZb m (x &&& (x - 1))
theorem onZb_of : ∀ {m : Nat} {x : Int32}, onZb m x = true → onZ m x
  | 0, x, h => by simpa [onZb, onZ] using h
  | m + 1, x, h => by
    simp only [onZb, Bool.or_eq_true, beq_iff_eq] at h
    rcases h with h | h
    · exact Or.inl h
    · exact Or.inr (onZb_of h)
def set4 (L _i : Nat) : Bool := (bitc (nI L) == onF 8 (nI L) 0) && (onZb 8 (nI L) && ((popc L == 0) == (L == 0)) && Nat.ble (popc L) 8 && (0 ≤ onF 8 (nI L) 0 : Bool))
theorem set4_all : all8 set4 256 = true := by decide +kernel
def set5 (L _i : Nat) : Bool := L == 0 || (hasB L 0 || (hasB L 1 || (hasB L 2 || (hasB L 3 || (hasB L 4 || (hasB L 5 || (hasB L 6 || hasB L 7)))))))
theorem set5_all : all8 set5 256 = true := by decide +kernel
theorem pow8 {N : Nat} (h8 : N ≤ 8) : 2 ^ N ≤ 256 := Nat.pow_le_pow_right (n := 2) (by decide) h8
theorem set_0 {L i : Nat} (hL : L < 256) (hi : i < 8) : nI L &&& bitI i = 0 ↔ hasB L i = false := by
  have h := all8_of set1_all L i hL hi
  simp only [set1, Bool.and_eq_true, beq_iff_eq] at h
  have h1 := h.1
  cases q : hasB L i
  · rw [q] at h1
    simp only [Bool.not_false, beq_iff_eq] at h1
    simp [h1]
  · rw [q] at h1
    simp only [Bool.not_true, beq_eq_false_iff_ne, ne_eq] at h1
    simp [h1]
theorem set_1 {L i : Nat} (hL : L < 256) (hi : i < 8) : nI L >>> (nI i &&& 31) &&& 1 = 1 ↔ hasB L i = true := by
  have h := all8_of set1_all L i hL hi
  simp only [set1, Bool.and_eq_true, beq_iff_eq] at h
  have h1 := h.2
  cases q : hasB L i
  · rw [q] at h1
    simp only [beq_eq_false_iff_ne, ne_eq] at h1
    simp [h1]
  · rw [q] at h1
    simp only [beq_iff_eq] at h1
    simp [h1]
theorem set_2 {L i : Nat} (hL : L < 256) (hi : i < 8) (hb : hasB L i = true) : nI L &&& (bitI i ^^^ (-1)) = nI (L - 2 ^ i) ∧ nI L ^^^ bitI i = nI (L - 2 ^ i) ∧ 2 ^ i ≤ L ∧ popc (L - 2 ^ i) + 1 = popc L := by
  have h := all8_of set2_all L i hL hi
  simp only [set2, hb, Bool.not_true, Bool.false_or, Bool.and_eq_true, beq_iff_eq] at h
  exact ⟨h.1, h.2.1, Nat.le_of_ble_eq_true h.2.2.1, h.2.2.2⟩
theorem set_3 {L i : Nat} (hi : i < 8) (hL : L < 2 ^ i) : nI L ||| bitI i = nI (L + 2 ^ i) := by
  have h256 : L < 256 := Nat.lt_of_lt_of_le hL (pow8 (by omega))
  have h := all8_of set3_all L i h256 hi
  have q : Nat.blt L (2 ^ i) = true := Nat.ble_eq_true_of_le hL
  simpa [set3, q] using h
theorem set_4 {L : Nat} (hL : L < 256) : bitc (nI L) = onF 8 (nI L) 0 ∧ onZ 8 (nI L) ∧ (popc L = 0 → L = 0) ∧ popc L ≤ 8 ∧ 0 ≤ onF 8 (nI L) 0 := by
  have h := all8_of set4_all L 0 hL (by decide)
  simp only [set4, Bool.and_eq_true, beq_iff_eq, decide_eq_true_eq] at h
  obtain ⟨h1, ⟨⟨h2, h3⟩, h4⟩, h5⟩ := h
  refine ⟨h1, onZb_of h2, fun q => ?_, Nat.le_of_ble_eq_true h4, h5⟩
  rw [q] at h3
  have h6 : (L == 0) = true := by rw [← h3]; rfl
  simpa using h6
theorem set_5 {L N : Nat} (h8 : N ≤ 8) (hL : L < 2 ^ N) (h0 : L ≠ 0) : ∃ i, i < N ∧ hasB L i = true := by
  have h256 : L < 256 := Nat.lt_of_lt_of_le hL (pow8 h8)
  have h := all8_of set5_all L 0 h256 (by decide)
  have hlt : ∀ i, i < 8 → hasB L i = true → i < N := fun i hi hb => by
    have h2 := (set_2 h256 hi hb).2.2.1
    rcases Nat.lt_or_ge i N with q | q
    · exact q
    · have : 2 ^ N ≤ 2 ^ i := Nat.pow_le_pow_right (by decide) q
      omega
  have h0' : (L == 0) = false := by simpa using h0
  simp only [set5, h0', Bool.false_or, Bool.or_eq_true] at h
  rcases h with h | h | h | h | h | h | h | h
  · exact ⟨0, hlt 0 (by decide) h, h⟩
  · exact ⟨1, hlt 1 (by decide) h, h⟩
  · exact ⟨2, hlt 2 (by decide) h, h⟩
  · exact ⟨3, hlt 3 (by decide) h, h⟩
  · exact ⟨4, hlt 4 (by decide) h, h⟩
  · exact ⟨5, hlt 5 (by decide) h, h⟩
  · exact ⟨6, hlt 6 (by decide) h, h⟩
  · exact ⟨7, hlt 7 (by decide) h, h⟩
theorem csN_nI (u : Vec) : ∀ n, n ≤ 8 → ∃ L, L < 2 ^ n ∧ csN u n = nI L
  | 0, _ => ⟨0, by decide, rfl⟩
  | n + 1, h => by
    obtain ⟨L, h1, h2⟩ := csN_nI u n (by omega)
    have hp : 2 ^ (n + 1) = 2 ^ n + 2 ^ n := by rw [Nat.pow_succ]; omega
    rw [csN]
    split
    · refine ⟨L + 2 ^ n, by omega, ?_⟩
      rw [h2]
      exact set_3 (by omega) h1
    · exact ⟨L, by omega, h2⟩
theorem csN_on8 {n : Nat} (h8 : n ≤ 8) (w : Vec) : onZ 8 (csN w n) := by
  obtain ⟨L, h1, h2⟩ := csN_nI w n h8
  rw [h2]
  exact (set_4 (Nat.lt_of_lt_of_le h1 (pow8 h8))).2.1
theorem bitc_on {n : Nat} (h8 : n ≤ 8) (w : Vec) : bitc (csN w n) = onF 8 (csN w n) 0 ∧ 0 ≤ onF 8 (csN w n) 0 := by
  obtain ⟨L, h1, h2⟩ := csN_nI w n h8
  rw [h2]
  have := set_4 (Nat.lt_of_lt_of_le h1 (pow8 h8))
  exact ⟨this.1, this.2.2.2.2⟩
end
section
/-! ===== ints in bounds ===== -/
theorem i_add {a b : Int32} (h1 : -2147483648 ≤ a.toInt + b.toInt) (h2 : a.toInt + b.toInt < 2147483648) : (a + b).toInt = a.toInt + b.toInt := by
  rw [Int32.toInt_add]
  exact Int.bmod_eq_of_le (by omega) (by omega)
theorem i_sub {a b : Int32} (h1 : -2147483648 ≤ a.toInt - b.toInt) (h2 : a.toInt - b.toInt < 2147483648) : (a - b).toInt = a.toInt - b.toInt := by
  rw [Int32.toInt_sub]
  exact Int.bmod_eq_of_le (by omega) (by omega)
theorem i_mul {a b : Int32} (h1 : -2147483648 ≤ a.toInt * b.toInt) (h2 : a.toInt * b.toInt < 2147483648) : (a * b).toInt = a.toInt * b.toInt := by
  rw [Int32.toInt_mul]
  exact Int.bmod_eq_of_le (by omega) (by omega)
theorem i_div {a b : Int32} (h0 : 0 ≤ a.toInt) (hb : 0 < b.toInt) : (a / b).toInt = a.toInt / b.toInt := by
  rw [Int32.toInt_div, Int.tdiv_eq_ediv_of_nonneg h0]
  have h1 : 0 ≤ a.toInt / b.toInt := Int.ediv_nonneg h0 (by omega)
  have h2 : a.toInt / b.toInt ≤ a.toInt := Int.ediv_le_self _ h0
  have h3 : a.toInt < 2147483648 := Int32.toInt_lt a
  exact Int.bmod_eq_of_le (by omega) (by omega)
theorem i_lt {a b : Int32} : a < b ↔ a.toInt < b.toInt := Int32.lt_iff_toInt_lt
theorem i_le {a b : Int32} : a ≤ b ↔ a.toInt ≤ b.toInt := Int32.le_iff_toInt_le
theorem i_eq {a b : Int32} : a = b ↔ a.toInt = b.toInt := Int32.toInt_inj.symm
def bd (x : Int32) (m : Int) : Prop := 0 ≤ x.toInt ∧ x.toInt ≤ m
theorem bd_mono {x : Int32} {m n : Int} (h : bd x m) (hm : m ≤ n) : bd x n := ⟨h.1, Int.le_trans h.2 hm⟩
theorem bd_0 : bd 0 0 := ⟨by decide, by decide⟩
theorem rng_bd {v a b : Int32} (h : rng v a b = true) : a.toInt ≤ v.toInt ∧ v.toInt ≤ b.toInt := by
  unfold rng at h
  split at h
  · cases h
  · next h1 =>
    split at h
    · cases h
    · next h2 => rw [i_lt] at h1 h2; omega
theorem abs_i {x : Int32} (h : -1000 ≤ x.toInt) (h2 : x.toInt ≤ 1000) : (absI x).toInt = if 0 ≤ x.toInt then x.toInt else - x.toInt := by
  unfold absI
  have z : (0 : Int32).toInt = 0 := rfl
  by_cases q : 0 ≤ x.toInt
  · rw [if_pos (i_le.mpr (by rw [z]; exact q)), if_pos q]
  · rw [if_neg (fun c => q (by have := i_le.mp c; rw [z] at this; exact this)), if_neg q, i_sub (by rw [z]; omega) (by rw [z]; omega), z]; omega
theorem tens_i {x : Int32} (h : 0 ≤ x.toInt) (h2 : x.toInt ≤ 1000) : (tens x).toInt = (x.toInt + 9) / 10 := by
  unfold tens
  have n9 : (9 : Int32).toInt = 9 := rfl
  have n10 : (10 : Int32).toInt = 10 := rfl
  have e : (x + 9).toInt = x.toInt + 9 := by rw [i_add (by omega) (by omega), n9]
  rw [i_div (by rw [e]; omega) (by rw [n10]; omega), e, n10]
theorem hB_i {a b : Int32} (ha : bd a 99) (hb : bd b 99) : bd (hB a b) 10 := by
  have e : (a - b).toInt = a.toInt - b.toInt := i_sub (by have := ha.1; have := hb.2; omega) (by have := ha.2; have := hb.1; omega)
  have h1 := ha.1; have h2 := ha.2; have h3 := hb.1; have h4 := hb.2
  have ea := abs_i (x := a - b) (by omega) (by omega)
  have hA : 0 ≤ (absI (a - b)).toInt ∧ (absI (a - b)).toInt ≤ 99 := by
    rw [ea]; split <;> omega
  unfold hB bd
  rw [tens_i hA.1 (by omega)]
  omega
theorem abs_sw {a b : Int32} (ha : bd a 99) (hb : bd b 99) : absI (a - b) = absI (b - a) := by
  have h1 := ha.1; have h2 := ha.2; have h3 := hb.1; have h4 := hb.2
  have e : (a - b).toInt = a.toInt - b.toInt := i_sub (by omega) (by omega)
  have e2 : (b - a).toInt = b.toInt - a.toInt := i_sub (by omega) (by omega)
  rw [i_eq, abs_i (by omega) (by omega), abs_i (by omega) (by omega), e, e2]
  split <;> split <;> omega
/-! ===== states in bounds ===== -/
def SOK (u : Vec) (k : Nat) : Prop := bd (u (14 + 8 * k)) 99 ∧ bd (u (14 + 8 * k + 1)) 9 ∧ bd (u (14 + 8 * k + 2)) 100 ∧ bd (u (14 + 8 * k + 3)) 100 ∧ bd (u (14 + 8 * k + 5)) 668
def VOK (N : Nat) (u : Vec) : Prop := N ≤ 8 ∧ u 0 = nI N ∧ bd (u 2) 99 ∧ bd (u 4) 999 ∧ bd (u 10) 99 ∧ bd (u 11) 24 ∧ bd (u 12) 20 ∧ bd (u 13) 500 ∧ ∀ k, k < N → SOK u k
theorem VOK.of {N : Nat} {u w : Vec} (h : VOK N u) (h0 : w 0 = u 0) (h2 : bd (w 2) 99) (h4 : bd (w 4) 999) (h10 : bd (w 10) 99) (h11 : bd (w 11) 24) (h12 : bd (w 12) 20) (h13 : bd (w 13) 500) (hs : ∀ k, k < N → SOK w k) : VOK N w :=
  ⟨h.1, h0.trans h.2.1, h2, h4, h10, h11, h12, h13, hs⟩
/-- the reference's way of an answer: no new state on an error -/
def oS (S : Int32 × Vec) : Int32 × Option Vec := if S.1 < 0 then (S.1, none) else (S.1, some S.2)
theorem oS_e {e : Int32} (h : e < 0) (u : Vec) : oS (e, u) = (e, none) := by rw [oS, if_pos h]
theorem oS_s {e : Int32} (h : 0 ≤ e.toInt) (u : Vec) : oS (e, u) = (e, some u) := by
  rw [oS, if_neg (fun q => by
    have := i_lt.mp (show e < 0 from q)
    rw [show (0 : Int32).toInt = 0 from rfl] at this
    omega)]
theorem rng_t {v a b : Int32} (h1 : ¬ v < a) (h2 : v ≤ b) : rng v a b = true := by
  unfold rng
  rw [if_neg h1, if_neg (Int32.not_lt.mpr h2)]
theorem rng_lo {v a b : Int32} (h1 : v < a) : rng v a b = false := by
  unfold rng
  rw [if_pos h1]
theorem rng_hi {v a b : Int32} (h2 : ¬ v ≤ b) : rng v a b = false := by
  unfold rng
  split
  · rfl
  · rw [if_pos (Int32.not_le.mp h2)]
theorem walk_eq {N : Nat} {u : Vec} (h : VOK N u) (v : Int32) : walkM u v = oS (walkS u v) := by
  unfold walkM walkS
  by_cases h1 : v < 0
  · rw [rng_lo h1, if_neg (by decide), if_pos h1, oS_e (by decide)]
  · by_cases h2 : v ≤ 99
    · rw [rng_t h1 h2, if_pos rfl, if_neg h1, if_pos h2]
      have hv : bd v 99 := by
        have a1 : ¬ v.toInt < 0 := fun q => h1 (i_lt.mpr q)
        have a2 : v.toInt ≤ 99 := i_le.mp h2
        exact ⟨by omega, a2⟩
      have hb := hB_i h.2.2.1 hv
      by_cases h3 : hB (u 2) v ≤ u 3
      · rw [if_pos h3, if_pos h3, oS_s]
        · rw [walkU, abs_sw h.2.2.1 hv]
        · have a3 := i_le.mp h3
          have a4 := Int32.toInt_lt (u 3)
          have a5 := hb.1
          rw [i_sub (by omega) (by omega)]
          omega
      · rw [if_neg h3, if_neg h3, oS_e (by decide)]
    · rw [rng_hi h2, if_neg (by decide), if_neg h1, if_neg h2, oS_e (by decide)]
theorem buy_eq {N : Nat} {u : Vec} (h : VOK N u) (v : Int32) : buyM u v = oS (buyS u v) := by
  unfold buyM buyS
  by_cases h1 : v < 1
  · rw [rng_lo h1, if_neg (by decide), if_pos h1, oS_e (by decide)]
  · by_cases h2 : v ≤ 999
    · rw [rng_t h1 h2, if_pos rfl, if_neg h1, if_pos h2]
      by_cases h3 : u 2 = 0
      · rw [if_pos h3, if_pos h3]
        by_cases h4 : u 4 + v ≤ 999
        · rw [if_pos h4, if_pos h4, oS_s]
          · rfl
          · have a1 : ¬ v.toInt < 1 := fun q => h1 (i_lt.mpr q)
            have a2 : v.toInt ≤ 999 := i_le.mp h2
            have a3 := h.2.2.2.1.1
            have a4 := h.2.2.2.1.2
            rw [i_add (by omega) (by omega)]
            omega
        · rw [if_neg h4, if_neg h4, oS_e (by decide)]
      · rw [if_neg h3, if_neg h3, oS_e (by decide)]
    · rw [rng_hi h2, if_neg (by decide), if_neg h1, if_neg h2, oS_e (by decide)]
theorem leather_i {N : Nat} {u : Vec} (h : VOK N u) {k : Nat} (hk : k < N) (b : Bool) : bd (leatherOf u k b) 36 := by
  obtain ⟨s1, s2, s3, s4, s5⟩ := h.2.2.2.2.2.2.2.2 k hk
  unfold leatherOf
  cases b
  · rw [if_neg (by decide)]
    have := s3.1; have := s3.2
    unfold bd
    rw [tens_i (by omega) (by omega)]
    omega
  · rw [if_pos rfl]
    have := s2.1; have := s2.2
    have e4 : (4 : Int32).toInt = 4 := rfl
    unfold bd
    rw [i_mul (by rw [e4]; omega) (by rw [e4]; omega), e4]
    omega
theorem hM_i (b : Bool) : bd (hM b) 3 := by cases b <;> exact ⟨by decide, by decide⟩
theorem owes_i {N : Nat} {u : Vec} (h : VOK N u) {k : Nat} (hk : k < N) (b : Bool) : bd (owes u k b) 168 := by
  have hl := leather_i h hk b
  have hr := h.2.2.2.2.2.2.1
  have e3 : (3 : Int32).toInt = 3 := rfl
  have l1 := hl.1; have l2 := hl.2; have r1 := hr.1; have r2 := hr.2
  have m1 : (3 * leatherOf u k b).toInt = 3 * (leatherOf u k b).toInt := by rw [i_mul (by rw [e3]; omega) (by rw [e3]; omega), e3]
  have m2 : bd (u 12 * hM b) 60 := by
    have e1 : (1 : Int32).toInt = 1 := rfl
    cases b
    · show bd (u 12 * 1) 60
      unfold bd
      rw [i_mul (by rw [e1]; omega) (by rw [e1]; omega), e1]
      omega
    · show bd (u 12 * 3) 60
      unfold bd
      rw [i_mul (by rw [e3]; omega) (by rw [e3]; omega), e3]
      omega
  have n1 := m2.1; have n2 := m2.2
  unfold owes bd
  rw [i_add (by rw [m1]; omega) (by rw [m1]; omega), m1]
  omega
theorem wearBM_i {N : Nat} {u : Vec} (h : VOK N u) {k : Nat} (hk : k < N) (b : Bool) : bd (wearBM u k b) 100 := by
  obtain ⟨s1, s2, s3, s4, s5⟩ := h.2.2.2.2.2.2.2.2 k hk
  unfold wearBM
  cases b
  · rw [if_neg (by decide)]
    have := s3.1; have := s3.2
    have e3 : (3 : Int32).toInt = 3 := rfl
    unfold bd
    rw [i_div (by omega) (by rw [e3]; omega), e3]
    omega
  · rw [if_pos rfl]; exact bd_mono bd_0 (by omega)
/-- a mend that may be done: its debt stays in bounds -/
theorem whyNot_0 {u : Vec} {k : Nat} {b : Bool} (h : whyNot u k b = 0) : u (14 + 8 * k) = u 2 ∧ hM b ≤ u 3 ∧ leatherOf u k b ≤ u 4 ∧ u (14 + 8 * k + 5) ≤ u 13 ∧ ¬ u (14 + 8 * k + 2) = 0 := by
  unfold whyNot rsn at h
  split at h
  · next h1 =>
    split at h
    · next h2 =>
      split at h
      · next h3 =>
        split at h
        · next h4 =>
          split at h
          · exact absurd h (by decide)
          · next h5 => exact ⟨h1, h2, h3, h4, h5⟩
        · exact absurd h (by decide)
      · exact absurd h (by decide)
    · exact absurd h (by decide)
  · exact absurd h (by decide)
theorem debt_i {N : Nat} {u : Vec} (h : VOK N u) {k : Nat} (hk : k < N) {b : Bool} (hw : whyNot u k b = 0) : bd (u (14 + 8 * k + 5) + owes u k b) 668 := by
  obtain ⟨s1, s2, s3, s4, s5⟩ := h.2.2.2.2.2.2.2.2 k hk
  have ho := owes_i h hk b
  have hp := h.2.2.2.2.2.2.2.1
  have hd := i_le.mp (whyNot_0 hw).2.2.2.1
  have := ho.1; have := ho.2; have := hp.2; have := s5.1
  unfold bd
  rw [i_add (by omega) (by omega)]
  omega
theorem mend_eq {N : Nat} {u : Vec} (h : VOK N u) {k : Nat} (hk : k < N) (b : Bool) : mendM u k b = oS (mendS u k b) := by
  unfold mendM mendS
  by_cases hw : whyNot u k b = 0
  · rw [if_pos hw, if_pos hw, oS_s]
    unfold mendR
    cases b
    · rw [if_neg (by decide)]; exact (wearBM_i h hk false).1
    · rw [if_pos rfl]; exact (debt_i h hk hw).1
  · rw [if_neg hw, if_neg hw, oS_e (by decide)]
theorem pays_i {N : Nat} {u : Vec} (h : VOK N u) {k : Nat} (hk : k < N) : 0 ≤ (pays u k).toInt ∧ (pays u k).toInt ≤ (u (14 + 8 * k + 5)).toInt := by
  obtain ⟨s1, s2, s3, s4, s5⟩ := h.2.2.2.2.2.2.2.2 k hk
  have := s5.1; have := s5.2
  unfold pays
  split
  · have e2 : (2 : Int32).toInt = 2 := rfl
    rw [i_div (by omega) (by rw [e2]; omega), e2]
    omega
  · omega
theorem coll_eq {N : Nat} {u : Vec} (h : VOK N u) {k : Nat} (hk : k < N) : collM u k = oS (collS u k) := by
  obtain ⟨s1, s2, s3, s4, s5⟩ := h.2.2.2.2.2.2.2.2 k hk
  have z : (0 : Int32).toInt = 0 := rfl
  unfold collM collS
  by_cases h1 : u 2 = u (14 + 8 * k)
  · rw [if_pos h1, if_pos h1.symm]
    by_cases h2 : u (14 + 8 * k + 5) = 0
    · rw [if_pos h2, if_neg (by rw [h2]; decide), oS_e (by decide)]
    · have h3 : 0 < u (14 + 8 * k + 5) := by
        rw [i_lt, z]
        rw [i_eq, z] at h2
        have := s5.1
        omega
      rw [if_neg h2, if_pos h3, oS_s (pays_i h hk).1]
  · rw [if_neg h1, if_neg (fun q => h1 q.symm), oS_e (by decide)]
end
section
/-! ===== days: the class's order and the reference's ===== -/
theorem z_i : (0 : Int32).toInt = 0 := rfl
theorem agW_eq (u : Vec) (k : Nat) : agW u k = dayW u k := by
  unfold agW dayW wearD
  generalize u (14 + 8 * k + 2) + u (14 + 8 * k + 1) / 2 + 1 = x
  by_cases h : x < 100
  · rw [if_pos h, if_pos (Int32.le_of_lt h)]
  · rw [if_neg h]
    split
    · next h2 =>
      rw [i_le] at h2; rw [i_lt] at h; rw [i_eq]; omega
    · rfl
theorem wearD_i {w z : Int32} (hw : bd w 100) (hz : bd z 9) : bd (wearD w z) 100 := by
  have := hw.1; have := hw.2; have := hz.1; have := hz.2
  have e2 : (2 : Int32).toInt = 2 := rfl
  have e1 : (1 : Int32).toInt = 1 := rfl
  have e100 : (100 : Int32).toInt = 100 := rfl
  have d : (z / 2).toInt = z.toInt / 2 := by rw [i_div (by omega) (by rw [e2]; omega), e2]
  have a1 : (w + z / 2).toInt = w.toInt + z.toInt / 2 := by rw [i_add (by rw [d]; omega) (by rw [d]; omega), d]
  have a2 : (w + z / 2 + 1).toInt = w.toInt + z.toInt / 2 + 1 := by rw [i_add (by rw [a1, e1]; omega) (by rw [a1, e1]; omega), a1, e1]
  unfold wearD bd
  split
  · next h => rw [i_lt, a2, e100] at h; rw [a2]; omega
  · rw [e100]; omega
theorem dayH_i {u : Vec} {k : Nat} (h : SOK u k) : bd (dayH u k) 100 ∧ agH u k = dayH u k := by
  obtain ⟨s1, s2, s3, s4, s5⟩ := h
  have hw : bd (dayW u k) 100 := wearD_i s3 s2
  have e10 : (10 : Int32).toInt = 10 := rfl
  have e100 : (100 : Int32).toInt = 100 := rfl
  have e2 : (2 : Int32).toInt = 2 := rfl
  have em2 : (-2 : Int32).toInt = -2 := rfl
  unfold agH agT dayH
  rw [agW_eq]
  generalize dayW u k = w at hw
  generalize u (14 + 8 * k + 3) = x at s4
  have := hw.1; have := hw.2; have := s4.1; have := s4.2
  have d : (w / 10).toInt = w.toInt / 10 := by rw [i_div (by omega) (by rw [e10]; omega), e10]
  have m1 : (w / 10 * 2).toInt = w.toInt / 10 * 2 := by rw [i_mul (by rw [d, e2]; omega) (by rw [d, e2]; omega), d, e2]
  have m2 : (-2 * (w / 10)).toInt = -2 * (w.toInt / 10) := by rw [i_mul (by rw [d, em2]; omega) (by rw [d, em2]; omega), d, em2]
  have p1 : (x + 10).toInt = x.toInt + 10 := by rw [i_add (by rw [e10]; omega) (by rw [e10]; omega), e10]
  have p2 : (x - w / 10 * 2).toInt = x.toInt - w.toInt / 10 * 2 := by rw [i_sub (by rw [m1]; omega) (by rw [m1]; omega), m1]
  have p3 : (x + -2 * (w / 10)).toInt = x.toInt + -2 * (w.toInt / 10) := by rw [i_add (by rw [m2]; omega) (by rw [m2]; omega), m2]
  unfold heatD
  by_cases h : w / 10 = 0
  · rw [if_pos h, if_pos h]
    by_cases q : x + 10 < 100
    · have q2 := i_lt.mp q
      rw [p1, e100] at q2
      rw [if_pos q, if_pos (Int32.le_of_lt q), if_pos (i_le.mpr (by rw [z_i, p1]; omega))]
      exact ⟨⟨by rw [p1]; omega, by rw [p1]; omega⟩, rfl⟩
    · rw [if_neg q]
      refine ⟨⟨by rw [e100]; omega, by rw [e100]; omega⟩, ?_⟩
      have q2 : ¬ x.toInt + 10 < 100 := fun c => q (i_lt.mpr (by rw [p1, e100]; exact c))
      by_cases q3 : x + 10 ≤ 100
      · have q4 := i_le.mp q3
        rw [p1, e100] at q4
        rw [if_pos q3, if_pos (i_le.mpr (by rw [z_i, p1]; omega)), i_eq, p1, e100]; omega
      · rw [if_neg q3]
  · rw [if_neg h, if_neg h]
    have hle : x + -2 * (w / 10) ≤ 100 := i_le.mpr (by rw [p3, e100]; omega)
    rw [if_pos hle]
    by_cases q : 0 < x - w / 10 * 2
    · have q2 := i_lt.mp q
      rw [p2, z_i] at q2
      rw [if_pos q, if_pos (i_le.mpr (by rw [z_i, p3]; omega))]
      refine ⟨⟨by rw [p2]; omega, by rw [p2]; omega⟩, ?_⟩
      rw [i_eq, p2, p3]; omega
    · rw [if_neg q]
      have q2 : ¬ 0 < x.toInt - w.toInt / 10 * 2 := fun c => q (i_lt.mpr (by rw [p2, z_i]; exact c))
      refine ⟨⟨by rw [z_i]; omega, by rw [z_i]; omega⟩, ?_⟩
      by_cases q3 : 0 ≤ x + -2 * (w / 10)
      · have q4 := i_le.mp q3
        rw [p3, z_i] at q4
        rw [if_pos q3, i_eq, p3, z_i]; omega
      · rw [if_neg q3]
theorem agU_eq {u : Vec} {k : Nat} (h : SOK u k) : agU u k = dayU u k := by
  have hc : agC u k = dayC u k := by unfold agC dayC; rw [(dayH_i h).2]
  unfold agU dayU
  rw [agW_eq, (dayH_i h).2, hc]
  congr 1
  by_cases q : u 8 < dayC u k
  · rw [if_pos q, if_neg (Int32.not_le.mpr q)]
  · rw [if_neg q, if_pos (Int32.not_lt.mp q)]
-- other smithies' days
theorem dayU_o {u : Vec} {k i j : Nat} (h : i ≠ k) (hj : j < 8) : dayU u k (14 + 8 * i + j) = u (14 + 8 * i + j) := by
  unfold dayU
  simp (disch := omega) only [upd_ne]
theorem dayU_s {u : Vec} {k : Nat} : dayU u k (14 + 8 * k) = u (14 + 8 * k) ∧ dayU u k (14 + 8 * k + 1) = u (14 + 8 * k + 1) ∧ dayU u k (14 + 8 * k + 2) = dayW u k ∧ dayU u k (14 + 8 * k + 3) = dayH u k ∧ dayU u k (14 + 8 * k + 5) = u (14 + 8 * k + 5) := by
  unfold dayU
  refine ⟨?_, ?_, ?_, ?_, ?_⟩ <;> simp (disch := omega) only [upd_ne, upd_at]
theorem SOK_o {u : Vec} {k i : Nat} (h : i ≠ k) (hs : SOK u i) : SOK (dayU u k) i := by
  have e0 := dayU_o (u := u) (j := 0) h (by decide)
  rw [Nat.add_zero] at e0
  unfold SOK
  rw [e0, dayU_o h (by decide), dayU_o h (by decide), dayU_o h (by decide), dayU_o h (by decide)]
  exact hs
theorem SOK_s {u : Vec} {k : Nat} (hs : SOK u k) : SOK (dayU u k) k := by
  obtain ⟨e0, e1, e2, e3, e5⟩ := dayU_s (u := u) (k := k)
  unfold SOK
  rw [e0, e1, e2, e3, e5]
  exact ⟨hs.1, hs.2.1, wearD_i hs.2.2.1 hs.2.1, (dayH_i hs).1, hs.2.2.2.2⟩
theorem VOK_day {N : Nat} {u : Vec} (h : VOK N u) {k : Nat} (hk : k < N) : VOK N (dayU u k) := by
  refine h.of (dayU_j u k 0 (by decide) (by decide)) ?_ ?_ ?_ ?_ ?_ ?_ (fun i hi => ?_)
  · rw [dayU_j u k 2 (by decide) (by decide)]; exact h.2.2.1
  · rw [dayU_j u k 4 (by decide) (by decide)]; exact h.2.2.2.1
  · rw [dayU_j u k 10 (by decide) (by decide)]; exact h.2.2.2.2.1
  · rw [dayU_j u k 11 (by decide) (by decide)]; exact h.2.2.2.2.2.1
  · rw [dayU_j u k 12 (by decide) (by decide)]; exact h.2.2.2.2.2.2.1
  · rw [dayU_j u k 13 (by decide) (by decide)]; exact h.2.2.2.2.2.2.2.1
  · by_cases e : i = k
    · subst e; exact SOK_s (h.2.2.2.2.2.2.2.2 i hi)
    · exact SOK_o e (h.2.2.2.2.2.2.2.2 i hi)
theorem VOK_days {N : Nat} {u : Vec} (h : VOK N u) {k : Nat} (hk : k < N) : ∀ d, VOK N (daysU u k d)
  | 0 => h
  | d + 1 => VOK_day (VOK_days h hk d) hk
theorem VOK_all {N : Nat} {u : Vec} (h : VOK N u) (d : Nat) : ∀ n, n ≤ N → VOK N (allU u d n)
  | 0, _ => h
  | n + 1, hn => VOK_days (VOK_all h d n (by omega)) (by omega) d
/-- a place that no smithy's day reads or writes -/
theorem VOK_upd13 {N : Nat} {u : Vec} (h : VOK N u) {j : Nat} (hj : j = 1 ∨ j = 3) (x : Int32) : VOK N (upd u j x) := by
  refine h.of (upd_ne _ _ (by omega)) ?_ ?_ ?_ ?_ ?_ ?_ (fun i hi => ?_)
  · rw [upd_ne _ _ (by omega)]; exact h.2.2.1
  · rw [upd_ne _ _ (by omega)]; exact h.2.2.2.1
  · rw [upd_ne _ _ (by omega)]; exact h.2.2.2.2.1
  · rw [upd_ne _ _ (by omega)]; exact h.2.2.2.2.2.1
  · rw [upd_ne _ _ (by omega)]; exact h.2.2.2.2.2.2.1
  · rw [upd_ne _ _ (by omega)]; exact h.2.2.2.2.2.2.2.1
  · unfold SOK
    simp (disch := omega) only [upd_ne]
    exact h.2.2.2.2.2.2.2.2 i hi
theorem dayU_upd {u : Vec} {k j : Nat} (hj : j = 1 ∨ j = 3) (x : Int32) : dayU (upd u j x) k = upd (dayU u k) j x := by
  have hW : dayW (upd u j x) k = dayW u k := by unfold dayW; simp (disch := omega) only [upd_ne]
  have hH : dayH (upd u j x) k = dayH u k := by unfold dayH; rw [hW]; simp (disch := omega) only [upd_ne]
  have hC : dayC (upd u j x) k = dayC u k := by unfold dayC; rw [hH]; simp (disch := omega) only [upd_ne]
  unfold dayU
  rw [hW, hH, hC, upd_ne (k := j) (j := 8) _ _ (by omega)]
  rw [upd_sw u _ _ (show j ≠ 14 + 8 * k + 2 by omega), upd_sw _ _ _ (show j ≠ 14 + 8 * k + 3 by omega), upd_sw _ _ _ (show j ≠ 14 + 8 * k + 4 by omega), upd_sw _ _ _ (show j ≠ 8 by omega)]
theorem daysU_upd {j : Nat} (hj : j = 1 ∨ j = 3) (x : Int32) (k : Nat) (u : Vec) : ∀ d, daysU (upd u j x) k d = upd (daysU u k d) j x
  | 0 => rfl
  | d + 1 => by rw [daysU, daysU_upd hj x k u d, dayU_upd hj]; rfl
theorem allU_upd {j : Nat} (hj : j = 1 ∨ j = 3) (x : Int32) (d : Nat) (u : Vec) : ∀ n, allU (upd u j x) d n = upd (allU u d n) j x
  | 0 => rfl
  | n + 1 => by rw [allU, allU_upd hj x d u n, daysU_upd hj]; rfl
-- two smithies' days change places
theorem mx_sw (x a b : Int32) : (if (if x < a then a else x) < b then b else (if x < a then a else x)) = (if (if x < b then b else x) < a then a else (if x < b then b else x)) := by
  by_cases h1 : x < a
  · by_cases h2 : x < b
    · simp only [h1, h2, if_true]
      by_cases h3 : a < b
      · rw [if_pos h3, if_neg (Int32.lt_asymm h3)]
      · rw [if_neg h3]
        by_cases h4 : b < a
        · rw [if_pos h4]
        · rw [if_neg h4]; rw [i_lt] at h3 h4; rw [i_eq]; omega
    · simp only [h1, h2, if_true, if_false]
      have h3 : ¬ a < b := by rw [i_lt] at *; omega
      rw [if_neg h3]
  · by_cases h2 : x < b
    · simp only [h1, h2, if_true, if_false]
      have h3 : ¬ b < a := by rw [i_lt] at *; omega
      rw [if_neg h3]
    · simp only [h1, h2, if_false]
theorem dayU_comm {u : Vec} {k i : Nat} (h : i ≠ k) : dayU (dayU u k) i = dayU (dayU u i) k := by
  have W : ∀ a b : Nat, a ≠ b → dayW (dayU u b) a = dayW u a := fun a b q => by unfold dayW; rw [dayU_o q (by decide), dayU_o q (by decide)]
  have H : ∀ a b : Nat, a ≠ b → dayH (dayU u b) a = dayH u a := fun a b q => by unfold dayH; rw [W a b q, dayU_o q (by decide)]
  have C : ∀ a b : Nat, a ≠ b → dayC (dayU u b) a = dayC u a := fun a b q => by unfold dayC; rw [H a b q, dayU_o q (by decide), dayU_j _ _ 10 (by decide) (by decide)]
  have E : ∀ a : Nat, dayU u a 8 = if u 8 < dayC u a then dayC u a else u 8 := fun a => by rw [dayU, upd_at]
  funext j
  by_cases h8 : j = 8
  · subst h8
    rw [show dayU (dayU u k) i 8 = if dayU u k 8 < dayC (dayU u k) i then dayC (dayU u k) i else dayU u k 8 from upd_at _ _ _, show dayU (dayU u i) k 8 = if dayU u i 8 < dayC (dayU u i) k then dayC (dayU u i) k else dayU u i 8 from upd_at _ _ _]
    rw [C i k h, C k i (fun q => h q.symm), E, E]
    exact mx_sw _ _ _
  · have X : ∀ a (w : Vec), dayU w a j = if j = 14 + 8 * a + 2 then dayW w a else if j = 14 + 8 * a + 3 then dayH w a else if j = 14 + 8 * a + 4 then dayC w a else w j := fun a w => by
      by_cases q2 : j = 14 + 8 * a + 2
      · rw [if_pos q2, q2]; unfold dayU; simp (disch := omega) only [upd_ne, upd_at]
      · rw [if_neg q2]
        by_cases q3 : j = 14 + 8 * a + 3
        · rw [if_pos q3, q3]; unfold dayU; simp (disch := omega) only [upd_ne, upd_at]
        · rw [if_neg q3]
          by_cases q4 : j = 14 + 8 * a + 4
          · rw [if_pos q4, q4]; unfold dayU; simp (disch := omega) only [upd_ne, upd_at]
          · rw [if_neg q4]; unfold dayU; simp (disch := omega) only [upd_ne]
    rw [X i, X k, X k, X i, W i k h, H i k h, C i k h, W k i (fun q => h q.symm), H k i (fun q => h q.symm), C k i (fun q => h q.symm)]
    by_cases p2 : j = 14 + 8 * i + 2
    · rw [if_pos p2, if_pos p2, if_neg (by omega), if_neg (by omega), if_neg (by omega)]
    · rw [if_neg p2, if_neg p2]
      by_cases p3 : j = 14 + 8 * i + 3
      · rw [if_pos p3, if_pos p3, if_neg (by omega), if_neg (by omega), if_neg (by omega)]
      · rw [if_neg p3, if_neg p3]
        by_cases p4 : j = 14 + 8 * i + 4
        · rw [if_pos p4, if_pos p4, if_neg (by omega), if_neg (by omega), if_neg (by omega)]
        · rw [if_neg p4, if_neg p4]
theorem dayU_daysU {k i : Nat} (h : i ≠ k) (u : Vec) : ∀ d, dayU (daysU u k d) i = daysU (dayU u i) k d
  | 0 => rfl
  | d + 1 => by rw [daysU, dayU_comm h, dayU_daysU h u d]; rfl
theorem allU_daysU (u : Vec) (k d : Nat) : ∀ n, n ≤ k → allU (daysU u k d) 1 n = daysU (allU u 1 n) k d
  | 0, _ => rfl
  | n + 1, hn => by
    rw [allU, allU_daysU u k d n (by omega)]
    show dayU (daysU (allU u 1 n) k d) n = _
    rw [dayU_daysU (by omega)]; rfl
theorem allU_s (u : Vec) (d : Nat) : ∀ n, allU u (d + 1) n = allU (allU u d n) 1 n
  | 0 => rfl
  | n + 1 => by
    have e1 : allU u (d + 1) (n + 1) = dayU (daysU (allU u (d + 1) n) n d) n := rfl
    have e2 : allU (allU u d (n + 1)) 1 (n + 1) = dayU (allU (daysU (allU u d n) n d) 1 n) n := rfl
    rw [e1, e2, allU_s u d n, allU_daysU _ _ _ _ (Nat.le_refl n)]
theorem agsU_eq {N : Nat} {u : Vec} (h : VOK N u) : ∀ n, n ≤ N → agsU u n = allU u 1 n
  | 0, _ => rfl
  | n + 1, hn => by
    rw [agsU, agsU_eq h n (by omega), agU_eq ((VOK_all h 1 n (by omega)).2.2.2.2.2.2.2.2 n (by omega))]; rfl
theorem VOK_end {N : Nat} {u : Vec} (h : VOK N u) (d : Nat) : VOK N (endU u N d) := VOK_upd13 (VOK_upd13 (VOK_all h d N (Nat.le_refl N)) (Or.inl rfl) _) (Or.inr rfl) _
theorem eds_eq {N : Nat} {u : Vec} (h : VOK N u) : ∀ d, edsU u N (d + 1) = endU u N (d + 1)
  | 0 => by
    show edU u N = _
    rw [edU, agsU_eq h N (Nat.le_refl N)]; rfl
  | d + 1 => by
    rw [edsU, eds_eq h d, edU, agsU_eq (VOK_end h (d + 1)) N (Nat.le_refl N)]
    have e1 : endU u N (d + 1) 1 = u 1 + nI (d + 1) := by rw [endU, upd_ne _ _ (by decide), upd_at]
    have e11 : endU u N (d + 1) 11 = u 11 := by rw [endU, upd_ne _ _ (by decide), upd_ne _ _ (by decide), allU_j _ _ 11 (by decide) (by decide)]
    rw [e1, e11]
    unfold endU
    rw [allU_upd (Or.inr rfl), allU_upd (Or.inl rfl), ← allU_s, upd_sw _ _ _ (show 3 ≠ 1 by decide), upd_2, upd_2, Int32.add_assoc, nI_1]
end
section
/-! ===== changes: the reference's answers are the class's ===== -/
theorem nI_i {n : Nat} (h : n < 2 ^ 31) : (nI n).toInt = (n : Int) := nI_toInt h
theorem mendJ_eq {N : Nat} {u : Vec} (h : VOK N u) (j : Int32) (b : Bool) : mendMJ u j b = oS (mendJ u j b) := by
  unfold mendMJ mendJ
  by_cases q : ¬ j < 0 ∧ j < u 0
  · obtain ⟨k, hk, e1, e2⟩ := isSm_k h.2.1 h.1 (show isSm u j from q)
    rw [if_pos q, if_pos q, e2]
    exact mend_eq h hk b
  · rw [if_neg q, if_neg q, oS_e (by decide)]
theorem collJ_eq {N : Nat} {u : Vec} (h : VOK N u) (j : Int32) : collMJ u j = oS (collJ u j) := by
  unfold collMJ collJ
  by_cases q : ¬ j < 0 ∧ j < u 0
  · obtain ⟨k, hk, e1, e2⟩ := isSm_k h.2.1 h.1 (show isSm u j from q)
    rw [if_pos q, if_pos q, e2]
    exact coll_eq h hk
  · rw [if_neg q, if_neg q, oS_e (by decide)]
theorem end_eq {N : Nat} {u : Vec} (h : VOK N u) (v : Int32) : endM u N v = oS (endS u N v) := by
  unfold endM endS
  by_cases h1 : v < 1
  · rw [rng_lo h1, if_neg (by decide), if_pos h1, oS_e (by decide)]
  · by_cases h2 : v ≤ 99
    · rw [rng_t h1 h2, if_pos rfl, if_neg h1, if_pos h2]
      obtain ⟨d, hd, e1, e2⟩ := small_nI h1 h2
      rw [e2]
      by_cases h3 : u 1 + v ≤ 9999
      · rw [if_pos h3, if_pos h3]
        have hd0 : d ≠ 0 := fun q => h1 (by rw [e1, q]; decide)
        obtain ⟨d', rfl⟩ := Nat.exists_eq_succ_of_ne_zero hd0
        rw [eds_eq h d', (bitc_on h.1 _).1, oS_s]
        have := (bitc_on h.1 (endU u N (d' + 1))).2
        rw [i_le, z_i] at this
        exact this
      · rw [if_neg h3, if_neg h3, oS_e (by decide)]
    · rw [rng_hi h2, if_neg (by decide), if_neg h1, if_neg h2, oS_e (by decide)]
theorem ord_eq {N : Nat} {u : Vec} (h : VOK N u) (c v : Int32) : ordM u N c v = oS (ordS u N c v) := by
  unfold ordM ordS
  split
  · exact walk_eq h v
  · split
    · exact buy_eq h v
    · split
      · exact mendJ_eq h v false
      · split
        · exact mendJ_eq h v true
        · split
          · exact collJ_eq h v
          · exact end_eq h v
theorem set_eq_n {u : Vec} {w v : Int32} (h : rng w 0 3 = false) : setS u w v = (IA, u) := by
  unfold setS inRng
  have k : ∀ x : Int32, rng x 0 3 = true → ¬ w = x := fun x hx q => by rw [q, hx] at h; cases h
  rw [if_neg (k 0 (by decide)), if_neg (k 1 (by decide)), if_neg (k 2 (by decide)), if_neg (k 3 (by decide)), if_neg (by decide)]
theorem set_eq {N : Nat} {u : Vec} (h : VOK N u) {j : Nat} (hj : j ≤ 3) (v : Int32) : setM u j v = oS (setS u (nI j) v) := by
  have hc : j = 0 ∨ j = 1 ∨ j = 2 ∨ j = 3 := by omega
  rcases hc with rfl | rfl | rfl | rfl
  · show (if rng v 1 99 = true then (u 10, some (upd u 10 v)) else (IA, none)) = oS (if rng v 1 99 = true then (u 10, upd u 10 v) else (IA, u))
    split
    · rw [oS_s h.2.2.2.2.1.1]
    · rw [oS_e (by decide)]
  · show (if rng v 1 24 = true then (u 11, some (upd u 11 v)) else (IA, none)) = oS (if rng v 1 24 = true then (u 11, upd u 11 v) else (IA, u))
    split
    · rw [oS_s h.2.2.2.2.2.1.1]
    · rw [oS_e (by decide)]
  · show (if rng v 0 20 = true then (u 12, some (upd u 12 v)) else (IA, none)) = oS (if rng v 0 20 = true then (u 12, upd u 12 v) else (IA, u))
    split
    · rw [oS_s h.2.2.2.2.2.2.1.1]
    · rw [oS_e (by decide)]
  · show (if rng v 0 500 = true then (u 13, some (upd u 13 v)) else (IA, none)) = oS (if rng v 0 500 = true then (u 13, upd u 13 v) else (IA, u))
    split
    · rw [oS_s h.2.2.2.2.2.2.2.1.1]
    · rw [oS_e (by decide)]
theorem zeN_8 (u : Vec) (k j : Nat) : zeN u k 8 j = if 14 + 8 * k ≤ j ∧ j < 14 + 8 * k + 8 then 0 else u j := by
  by_cases q : 14 + 8 * k ≤ j ∧ j < 14 + 8 * k + 8
  · rw [if_pos q]
    have hc : j = 14 + 8 * k + 0 ∨ j = 14 + 8 * k + 1 ∨ j = 14 + 8 * k + 2 ∨ j = 14 + 8 * k + 3 ∨ j = 14 + 8 * k + 4 ∨ j = 14 + 8 * k + 5 ∨ j = 14 + 8 * k + 6 ∨ j = 14 + 8 * k + 7 := by omega
    rcases hc with e | e | e | e | e | e | e | e <;> (subst e; simp (disch := omega) only [zeN, upd_at, upd_ne])
  · rw [if_neg q]
    simp (disch := omega) only [zeN, upd_ne]
theorem addV_eq (u : Vec) (k : Nat) (v w : Int32) : addV u k v w = addU u k v w := by
  funext j
  unfold addV addU
  by_cases q : 14 + 8 * k ≤ j ∧ j < 14 + 8 * k + 8
  · have hc : j = 14 + 8 * k ∨ j = 14 + 8 * k + 1 ∨ j = 14 + 8 * k + 2 ∨ j = 14 + 8 * k + 3 ∨ j = 14 + 8 * k + 4 ∨ j = 14 + 8 * k + 5 ∨ j = 14 + 8 * k + 6 ∨ j = 14 + 8 * k + 7 := by omega
    rcases hc with e | e | e | e | e | e | e | e <;> (subst e; simp (disch := omega) only [upd_at, upd_ne, zeN_8] <;> (try rw [if_pos (by omega)]))
  · by_cases q0 : j = 0
    · subst q0; simp (disch := omega) only [upd_at, upd_ne]
    · simp (disch := omega) only [upd_ne, zeN_8]
      rw [if_neg q]
theorem add_eq {N : Nat} {u : Vec} (h : VOK N u) (v w : Int32) : addM u N v w = oS (addS u N v w) := by
  unfold addM addS
  by_cases h1 : v < 0
  · rw [rng_lo h1, if_neg (by decide), if_pos h1, oS_e (by decide)]
  · rw [if_neg h1]
    by_cases h2 : 99 < v
    · rw [rng_hi (Int32.not_le.mpr h2), if_neg (by decide), if_pos h2, oS_e (by decide)]
    · rw [rng_t h1 (Int32.not_lt.mp h2), if_pos rfl, if_neg h2]
      by_cases h3 : w < 1
      · rw [rng_lo h3, if_neg (by decide), if_pos h3, oS_e (by decide)]
      · rw [if_neg h3]
        by_cases h4 : w ≤ 9
        · rw [rng_t h3 h4, if_pos rfl, if_pos h4]
          by_cases h5 : u 0 < 8
          · have n8 : ¬ u 0 = 8 := fun q => by rw [q] at h5; exact absurd h5 (by decide)
            rw [if_neg n8, if_pos h5, oS_s, addV_eq]
            rw [h.2.1, nI_i (Nat.lt_of_le_of_lt h.1 (by decide))]
            omega
          · have n8 : u 0 = 8 := by
              have hN := h.1
              have e := h.2.1
              rw [e, i_lt, nI_i (Nat.lt_of_le_of_lt h.1 (by decide)), show (8 : Int32).toInt = 8 from rfl] at h5
              have : N = 8 := by omega
              rw [e, this]; rfl
            rw [if_pos n8, if_neg h5, oS_e (by decide)]
        · rw [rng_hi h4, if_neg (by decide), if_neg h4, oS_e (by decide)]
/-! ===== the bounds stay ===== -/
theorem SOK_k {u w : Vec} {k : Nat} (h : SOK u k) (e : ∀ j, j < 8 → w (14 + 8 * k + j) = u (14 + 8 * k + j)) : SOK w k := by
  have e0 := e 0 (by decide)
  rw [Nat.add_zero] at e0
  unfold SOK
  rw [e0, e 1 (by decide), e 2 (by decide), e 3 (by decide), e 5 (by decide)]
  exact h
theorem VOK_walk {N : Nat} {u : Vec} (h : VOK N u) (v : Int32) : VOK N (walkS u v).2 := by
  unfold walkS
  split
  · exact h
  · next h1 =>
    split
    · next h2 =>
      split
      · refine h.of ?_ ?_ ?_ ?_ ?_ ?_ ?_ (fun k hk => SOK_k (h.2.2.2.2.2.2.2.2 k hk) (fun j hj => ?_)) <;> simp (disch := omega) only [walkU, upd_ne, upd_at]
        · refine ⟨?_, i_le.mp h2⟩
          have a1 : ¬ v.toInt < 0 := fun q => h1 (i_lt.mpr q)
          omega
        · exact h.2.2.2.1
        · exact h.2.2.2.2.1
        · exact h.2.2.2.2.2.1
        · exact h.2.2.2.2.2.2.1
        · exact h.2.2.2.2.2.2.2.1
      · exact h
    · exact h
theorem VOK_buy {N : Nat} {u : Vec} (h : VOK N u) (v : Int32) : VOK N (buyS u v).2 := by
  unfold buyS
  split
  · exact h
  · next h1 =>
    split
    · next h2 =>
      split
      · split
        · next h4 =>
          refine h.of ?_ ?_ ?_ ?_ ?_ ?_ ?_ (fun k hk => SOK_k (h.2.2.2.2.2.2.2.2 k hk) (fun j hj => ?_)) <;> simp (disch := omega) only [buyU, upd_ne, upd_at]
          · exact h.2.2.1
          · have a1 : ¬ v.toInt < 1 := fun q => h1 (i_lt.mpr q)
            have a2 : v.toInt ≤ 999 := i_le.mp h2
            have a3 := h.2.2.2.1.1
            have a4 := h.2.2.2.1.2
            have a5 := i_le.mp h4
            rw [i_add (by omega) (by omega), show (999 : Int32).toInt = 999 from rfl] at a5
            unfold bd
            rw [i_add (by omega) (by omega)]
            omega
          · exact h.2.2.2.2.1
          · exact h.2.2.2.2.2.1
          · exact h.2.2.2.2.2.2.1
          · exact h.2.2.2.2.2.2.2.1
        · exact h
      · exact h
    · exact h
theorem VOK_mend {N : Nat} {u : Vec} (h : VOK N u) {k : Nat} (hk : k < N) (b : Bool) : VOK N (mendS u k b).2 := by
  unfold mendS
  split
  · next hw =>
    have w0 := whyNot_0 hw
    have hl := leather_i h hk b
    have hd := debt_i h hk hw
    have hb := wearBM_i h hk b
    refine h.of ?_ ?_ ?_ ?_ ?_ ?_ ?_ (fun i hi => ?_)
    · simp (disch := omega) only [mendU, upd_ne]
    · simp (disch := omega) only [mendU, upd_ne]; exact h.2.2.1
    · simp (disch := omega) only [mendU, upd_ne, upd_at]
      have a1 := i_le.mp w0.2.2.1
      have := hl.1; have := h.2.2.2.1.1; have := h.2.2.2.1.2
      unfold bd
      rw [i_sub (by omega) (by omega)]
      omega
    · simp (disch := omega) only [mendU, upd_ne]; exact h.2.2.2.2.1
    · simp (disch := omega) only [mendU, upd_ne]; exact h.2.2.2.2.2.1
    · simp (disch := omega) only [mendU, upd_ne]; exact h.2.2.2.2.2.2.1
    · simp (disch := omega) only [mendU, upd_ne]; exact h.2.2.2.2.2.2.2.1
    · by_cases e : i = k
      · subst e
        obtain ⟨s1, s2, s3, s4, s5⟩ := h.2.2.2.2.2.2.2.2 i hi
        unfold SOK
        simp (disch := omega) only [mendU, upd_ne, upd_at]
        exact ⟨s1, s2, hb, s4, hd⟩
      · refine SOK_k (h.2.2.2.2.2.2.2.2 i hi) (fun j hj => ?_)
        simp (disch := omega) only [mendU, upd_ne]
  · exact h
theorem VOK_coll {N : Nat} {u : Vec} (h : VOK N u) {k : Nat} (hk : k < N) : VOK N (collS u k).2 := by
  unfold collS
  split
  · split
    · have hp := pays_i h hk
      refine h.of ?_ ?_ ?_ ?_ ?_ ?_ ?_ (fun i hi => ?_)
      · simp (disch := omega) only [collU, upd_ne]
      · simp (disch := omega) only [collU, upd_ne]; exact h.2.2.1
      · simp (disch := omega) only [collU, upd_ne]; exact h.2.2.2.1
      · simp (disch := omega) only [collU, upd_ne]; exact h.2.2.2.2.1
      · simp (disch := omega) only [collU, upd_ne]; exact h.2.2.2.2.2.1
      · simp (disch := omega) only [collU, upd_ne]; exact h.2.2.2.2.2.2.1
      · simp (disch := omega) only [collU, upd_ne]; exact h.2.2.2.2.2.2.2.1
      · by_cases e : i = k
        · subst e
          obtain ⟨s1, s2, s3, s4, s5⟩ := h.2.2.2.2.2.2.2.2 i hi
          unfold SOK
          simp (disch := omega) only [collU, upd_ne, upd_at]
          refine ⟨s1, s2, s3, s4, ?_⟩
          have := s5.1; have := s5.2
          unfold bd
          rw [i_sub (by omega) (by omega)]
          omega
        · refine SOK_k (h.2.2.2.2.2.2.2.2 i hi) (fun j hj => ?_)
          simp (disch := omega) only [collU, upd_ne]
    · exact h
  · exact h
theorem VOK_ord {N : Nat} {u : Vec} (h : VOK N u) (c v : Int32) : VOK N (ordS u N c v).2 := by
  have mJ : ∀ (j : Int32) (b : Bool), VOK N (mendJ u j b).2 := fun j b => by
    unfold mendJ
    split
    · next q =>
      obtain ⟨k, hk, e1, e2⟩ := isSm_k h.2.1 h.1 (show isSm u j from q)
      rw [e2]; exact VOK_mend h hk b
    · exact h
  unfold ordS
  split
  · exact VOK_walk h v
  · split
    · exact VOK_buy h v
    · split
      · exact mJ v false
      · split
        · exact mJ v true
        · split
          · unfold collJ
            split
            · next q =>
              obtain ⟨k, hk, e1, e2⟩ := isSm_k h.2.1 h.1 (show isSm u v from q)
              rw [e2]; exact VOK_coll h hk
            · exact h
          · unfold endS
            split
            · exact h
            · split
              · split
                · exact VOK_end h _
                · exact h
              · exact h
end
section
/-! ===== the object's questions against the abstract state ===== -/
section CREL
variable {cA : Nat → ClassId} {ad : Nat → Nat} {D : va_G} {M : Mem} {u : Vec} {h : Nat} {hs : Nat → Vec} {t : Nat} {tx : Vec}
def SmC (M : Mem) (u : Vec) (h : Nat) (hs : Nat → Vec) (t : Nat) (tx : Vec) : Mem → Prop := fun M' => FC M M' ∧ CA M' u h hs t tx
theorem c_same {y : MethodName} {ws : List Cond} {d : Nat} {av : List Value} {x x' : Int32} (c : CA M u h hs t tx) (e : x = x') (k : PM cA ad D y ws d av M (Ri x M)) : PM cA ad D y ws d av M (QR x' (SmC M u h hs t tx)) := by
  subst e
  exact PM_weaken k (Ri_QR ⟨FC.rf M, c⟩)
theorem CA.an (c : CA M u h hs t tx) {N : Nat} (hv : VOK N u) : AN N (M.1 (M.2 0)) u ∧ M.1 (M.2 0) 0 = nI N := by
  obtain ⟨N', h8', hu', hv', hk'⟩ := c.agr.n
  have e : N = N' := nI_un hv.1 h8' (hv.2.1.symm.trans hu')
  subst e
  exact ⟨hk', hv'⟩
theorem isSm_v (c : CA M u h hs t tx) {N : Nat} (hv : VOK N u) {j : Int32} : isSm (M.1 (M.2 0)) j ↔ isSm u j := by
  unfold isSm
  rw [(c.an hv).2, hv.2.1]
theorem c_X3_smithyOf (c : CA M u h hs t tx) {N : Nat} (hv : VOK N u) {j w : Int32} : C_X3_smithyOf cA ad D [.ref (ad 0), .int j, .int w] M (QR (jS u j (fun k => smoS u k w)) (SmC M u h hs t tx)) := by
  obtain ⟨ha, hN⟩ := c.an hv
  by_cases hj : isSm u j
  · obtain ⟨k, hk, e1, e2⟩ := isSm_k hv.2.1 hv.1 hj
    rw [jS, if_pos (show ¬ j < 0 ∧ j < u 0 from hj), e2, e1]
    exact c_same c (smoS_c ha hk w) (m_X3_smithyOf_s c.1.1 hN hv.1 hk)
  · rw [jS, if_neg (show ¬ (¬ j < 0 ∧ j < u 0) from hj)]
    exact c_same c rfl (m_X3_smithyOf_n c.1.1 (fun q => hj ((isSm_v c hv).mp q)))
theorem c_X3_why (c : CA M u h hs t tx) {N : Nat} (hv : VOK N u) {j w : Int32} : C_X3_why cA ad D [.ref (ad 0), .int j, .int w] M (QR (jS u j (fun k => whyS u k w)) (SmC M u h hs t tx)) := by
  obtain ⟨ha, hN⟩ := c.an hv
  by_cases hj : isSm u j
  · obtain ⟨k, hk, e1, e2⟩ := isSm_k hv.2.1 hv.1 hj
    rw [jS, if_pos (show ¬ j < 0 ∧ j < u 0 from hj), e2, e1]
    exact c_same c (whyS_c ha hk w) (m_X3_why_s c.1.1 hN hv.1 hk)
  · rw [jS, if_neg (show ¬ (¬ j < 0 ∧ j < u 0) from hj)]
    exact c_same c rfl (m_X3_why_n c.1.1 (fun q => hj ((isSm_v c hv).mp q)))
theorem c_X3_mend (c : CA M u h hs t tx) {N : Nat} (hv : VOK N u) {j w x : Int32} : C_X3_mend cA ad D [.ref (ad 0), .int j, .int w, .int x] M (QR (jS u j (fun k => mndS u k w x)) (SmC M u h hs t tx)) := by
  obtain ⟨ha, hN⟩ := c.an hv
  by_cases hj : isSm u j
  · obtain ⟨k, hk, e1, e2⟩ := isSm_k hv.2.1 hv.1 hj
    rw [jS, if_pos (show ¬ j < 0 ∧ j < u 0 from hj), e2, e1]
    exact c_same c (mndS_c ha hk w x) (m_X3_mend_s c.1.1 hN hv.1 hk)
  · rw [jS, if_neg (show ¬ (¬ j < 0 ∧ j < u 0) from hj)]
    exact c_same c rfl (m_X3_mend_n c.1.1 (fun q => hj ((isSm_v c hv).mp q)))
theorem c_X3_count (c : CA M u h hs t tx) {N : Nat} (hv : VOK N u) {w : Int32} : C_X3_count cA ad D [.ref (ad 0), .int w] M (QR (cntS u N (nI h) (nI t) w) (SmC M u h hs t tx)) := by
  obtain ⟨ha, hN⟩ := c.an hv
  have k := m_X3_count (cA := cA) (ad := ad) (D := D) c.1.1 hN hv.1 (w := w)
  rw [c.2.1, c.2.2.2.2.2.1] at k
  exact c_same c (cntS_c ha _ _ w) k
end CREL
/-! ===== the bounds stay: all changes ===== -/
theorem VOK_set {N : Nat} {u : Vec} (h : VOK N u) (w v : Int32) : VOK N (setS u w v).2 := by
  unfold setS
  by_cases q : inRng w v = true
  · rw [if_pos q]
    unfold inRng at q
    have S : ∀ j, j = 10 ∨ j = 11 ∨ j = 12 ∨ j = 13 → ∀ k, k < N → SOK (upd u j v) k := fun j hj k hk => SOK_k (h.2.2.2.2.2.2.2.2 k hk) (fun i hi => upd_ne _ _ (by omega))
    by_cases h0 : w = 0
    · rw [if_pos h0] at q
      rw [if_pos h0]
      have r := rng_bd q
      rw [show (1 : Int32).toInt = 1 from rfl, show (99 : Int32).toInt = 99 from rfl] at r
      refine h.of ?_ ?_ ?_ ?_ ?_ ?_ ?_ (S 10 (by omega)) <;> simp (disch := omega) only [upd_ne, upd_at]
      · exact h.2.2.1
      · exact h.2.2.2.1
      · exact ⟨by omega, r.2⟩
      · exact h.2.2.2.2.2.1
      · exact h.2.2.2.2.2.2.1
      · exact h.2.2.2.2.2.2.2.1
    · rw [if_neg h0] at q
      rw [if_neg h0]
      by_cases h1 : w = 1
      · rw [if_pos h1] at q
        rw [if_pos h1]
        have r := rng_bd q
        rw [show (1 : Int32).toInt = 1 from rfl, show (24 : Int32).toInt = 24 from rfl] at r
        refine h.of ?_ ?_ ?_ ?_ ?_ ?_ ?_ (S 11 (by omega)) <;> simp (disch := omega) only [upd_ne, upd_at]
        · exact h.2.2.1
        · exact h.2.2.2.1
        · exact h.2.2.2.2.1
        · exact ⟨by omega, r.2⟩
        · exact h.2.2.2.2.2.2.1
        · exact h.2.2.2.2.2.2.2.1
      · rw [if_neg h1] at q
        rw [if_neg h1]
        by_cases h2 : w = 2
        · rw [if_pos h2] at q
          rw [if_pos h2]
          have r := rng_bd q
          rw [show (0 : Int32).toInt = 0 from rfl, show (20 : Int32).toInt = 20 from rfl] at r
          refine h.of ?_ ?_ ?_ ?_ ?_ ?_ ?_ (S 12 (by omega)) <;> simp (disch := omega) only [upd_ne, upd_at]
          · exact h.2.2.1
          · exact h.2.2.2.1
          · exact h.2.2.2.2.1
          · exact h.2.2.2.2.2.1
          · exact r
          · exact h.2.2.2.2.2.2.2.1
        · rw [if_neg h2] at q
          rw [if_neg h2]
          by_cases h3 : w = 3
          · rw [if_pos h3] at q
            have r := rng_bd q
            rw [show (0 : Int32).toInt = 0 from rfl, show (500 : Int32).toInt = 500 from rfl] at r
            refine h.of ?_ ?_ ?_ ?_ ?_ ?_ ?_ (S 13 (by omega)) <;> simp (disch := omega) only [upd_ne, upd_at]
            · exact h.2.2.1
            · exact h.2.2.2.1
            · exact h.2.2.2.2.1
            · exact h.2.2.2.2.2.1
            · exact h.2.2.2.2.2.2.1
            · exact r
          · rw [if_neg h3] at q
            cases q
  · rw [if_neg q]; exact h
theorem VOK_add {N : Nat} {u : Vec} (h : VOK N u) (x y : Int32) : ∃ N', VOK N' (addS u N x y).2 := by
  unfold addS
  split
  · exact ⟨N, h⟩
  · next h1 =>
    split
    · exact ⟨N, h⟩
    · next h2 =>
      split
      · exact ⟨N, h⟩
      · next h3 =>
        split
        · next h4 =>
          split
          · next h5 =>
            have hN : N < 8 := by
              rw [h.2.1, i_lt, nI_i (Nat.lt_of_le_of_lt h.1 (by decide)), show (8 : Int32).toInt = 8 from rfl] at h5
              omega
            refine ⟨N + 1, by omega, ?_, ?_, ?_, ?_, ?_, ?_, ?_, fun k hk => ?_⟩
            · unfold addU; simp (disch := omega) only [upd_ne, upd_at]; rw [h.2.1, nI_1]
            · unfold addU; simp (disch := omega) only [upd_ne]; exact h.2.2.1
            · unfold addU; simp (disch := omega) only [upd_ne]; exact h.2.2.2.1
            · unfold addU; simp (disch := omega) only [upd_ne]; exact h.2.2.2.2.1
            · unfold addU; simp (disch := omega) only [upd_ne]; exact h.2.2.2.2.2.1
            · unfold addU; simp (disch := omega) only [upd_ne]; exact h.2.2.2.2.2.2.1
            · unfold addU; simp (disch := omega) only [upd_ne]; exact h.2.2.2.2.2.2.2.1
            · by_cases e : k = N
              · subst e
                unfold SOK addU
                simp (disch := omega) only [upd_ne, upd_at]
                rw [i_lt, z_i] at h1
                rw [i_lt, show (99 : Int32).toInt = 99 from rfl] at h2
                rw [i_lt, show (1 : Int32).toInt = 1 from rfl] at h3
                rw [i_le, show (9 : Int32).toInt = 9 from rfl] at h4
                exact ⟨⟨by omega, by omega⟩, ⟨by omega, h4⟩, bd_mono bd_0 (by decide), ⟨by decide, by decide⟩, bd_mono bd_0 (by decide)⟩
              · refine SOK_k (h.2.2.2.2.2.2.2.2 k (by omega)) (fun j hj => ?_)
                unfold addU
                simp (disch := omega) only [upd_ne]
          · exact ⟨N, h⟩
        · exact ⟨N, h⟩
end
section
/-! ===== constructors ===== -/
abbrev WX (w : va_W) (sz : Nat) : Nat → Prop := va_A w sz
/-- a world that a constructor begins with -/
def PI (D : va_G) (w : va_W) (sz : Nat) : State → Prop := fun U => U.heap.size = sz ∧ va_P D vwCl w U.heap ∧ va_K D vwCl [] U ∧ va_D (fun _ => True) w
/-- and what it leaves -/
def PO {S : Type} (D : va_G) (A : Nat → Prop) (w : S → va_W) (ty : S → List (ClassId × FieldType)) : S → State → Prop := fun u U => va_P D vwCl (w u) U.heap ∧ va_K D vwCl (ty u) U ∧ va_D A (w u)
abbrev z8 : List Value := [.int 0, .int 0, .int 0, .int 0, .int 0, .int 0, .int 0, .int 0]
theorem in_X0_init_0 : ∀ w ∈ wsX00, w ∈ wsX0_init := by decide +kernel
theorem a_X0_init : Cond.arrayClass .char ∈ wsX0_init := by decide +kernel
theorem k_X0_init_9 : Cond.fieldLink RX0 9 "BellowsRound$OrderText" "characters" "[C" ∈ wsX0_init := by decide +kernel
set_option maxHeartbeats 4000000 in
set_option maxRecDepth 100000 in
theorem c_X1_init (l : Launch) (D : va_G) (h0 : Nat) (sz : Nat) : Met l yX1_init wsX1_init ({ frames := 1, cells := 0, slots := 0, locals := 12 }) (va_Pc [.ref h0] (PI D [(h0, .inr (1, z8))] sz)) (va_Qv (fun _ : Unit => True) (PO D (va_A [(h0, .inr (1, z8))] sz) (fun _ => [(h0, .inr (1, z8))]) (fun _ => [])) (va_A [(h0, .inr (1, z8))] sz)) 0 0 (va_A [(h0, .inr (1, z8))] sz) := by
  refine Met.ofW (cc := cX1_init) (maxL := 1) (ret := none) (by decide +kernel) rfl ?_
  intro p e s m args below meth c s₁ B hml hv
  obtain ⟨rfl, hsz, hP, hK, hD0⟩ := hv
  have hx := B.exec
  have hb := B.bytes
  have hr := B.returns
  have hts := atoms_spec (ws := wsX1_init) B.pre
  have hown : s.vm.findClass RX1 = some m.cls := findClass_of_methodNamed B.named
  subst hsz
  have hD := hD0.self (sz := s.heap.size)
  generalize hAe : va_A [(h0, .inr (1, z8))] s.heap.size = A at hD ⊢
  have hS : va_S A s.heap s.heap [] := va_S.rf
  have hl := lv_entry ([.ref h0]) (n := 1) (Nat.le_of_ble_eq_true rfl)
  rw [lg_entry_eq]
  generalize (lg_sl ([.ref h0]) ++ List.replicate (1 - (lg_sl ([.ref h0])).length) Slot.unset).toArray = ls at hl ⊢
  have hl : lv_has ls 1 [(0, .ref h0)] := hl
  refine lv_aload_n hx hb dX1_init_0 rfl (lv_at hl 0 rfl) ?_
  refine W.objInit hx hb hown (hts (.methodLink RX1 3 objectInit) (by decide +kernel)) (hts (.instanceMethod objectInit) (by decide +kernel)) (hts _ (List.mem_cons_of_mem _ ((List.mem_of_getElem? (i := 2) rfl)))) rfl (by rw [hml]; exact hl.1) rfl dX1_init_1 (Nat.le_of_ble_eq_true rfl) (Nat.le_of_ble_eq_true rfl) ?_
  refine W.eq (g2 := F0 m 4 ls []) rfl ?_
  exact W.vret hx hb hr (fun t ht hW => ⟨⟨(), rfl, trivial, ⟨by rw [ht]; exact hP, va_K.moved hW.alike hK, hD⟩⟩, hS.F ht⟩) hS.2.2 dX1_init_4
abbrev z0 (v : Value) : List Value := [v, .int 0, .int 0, .int 0, .int 0, .int 0]
set_option maxHeartbeats 4000000 in
set_option maxRecDepth 100000 in
theorem c_X0_init (l : Launch) (D : va_G) (h0 : Nat) (sz : Nat) : Met l yX0_init wsX0_init ({ frames := 1, cells := 1, slots := 60, locals := 12 }) (va_Pc [.ref h0] (PI D [(h0, .inr (0, z0 .null))] sz)) (va_Qv (fun _ : Nat × ClassId => True) (PO D (va_A [(h0, .inr (0, z0 .null))] sz) (fun u => [(h0, .inr (0, z0 (.ref u.1))), (u.1, .inl (u.2, 60, .inl (fun _ => 0)))]) (fun u => [(u.2, .char)])) (va_A [(h0, .inr (0, z0 .null))] sz)) 1 60 (va_A [(h0, .inr (0, z0 .null))] sz) := by
  refine Met.ofW (cc := cX0_init) (maxL := 1) (ret := none) (by decide +kernel) rfl ?_
  intro p e s m args below meth c s₁ B hml hv
  obtain ⟨rfl, hsz, hP, hK, hD0⟩ := hv
  have hx := B.exec
  have hb := B.bytes
  have hr := B.returns
  have hts := atoms_spec (ws := wsX0_init) B.pre
  have hown : s.vm.findClass RX0 = some m.cls := findClass_of_methodNamed B.named
  have hin : meth.name = "<init>" := (name_of_methodNamed B.named B.method).1
  subst hsz
  have hD := hD0.self (sz := s.heap.size)
  generalize hAe : va_A [(h0, .inr (0, z0 .null))] s.heap.size = A at hD ⊢
  have hA : ∀ q : Nat, s.heap.size ≤ q → A q := fun q h => by rw [← hAe]; exact Or.inr h
  have hS : va_S A s.heap s.heap [] := va_S.rf
  have hl := lv_entry ([.ref h0]) (n := 1) (Nat.le_of_ble_eq_true rfl)
  rw [lg_entry_eq]
  generalize (lg_sl ([.ref h0]) ++ List.replicate (1 - (lg_sl ([.ref h0])).length) Slot.unset).toArray = ls at hl ⊢
  have hl : lv_has ls 1 [(0, .ref h0)] := hl
  refine lv_aload_n hx hb dX0_init_0 rfl (lv_at hl 0 rfl) ?_
  refine W.objInit hx hb hown (hts (.methodLink RX0 3 objectInit) (by decide +kernel)) (hts (.instanceMethod objectInit) (by decide +kernel)) (hts _ (List.mem_cons_of_mem _ (List.mem_append_left _ (List.mem_of_getElem? (i := 2) rfl)))) rfl (by rw [hml]; exact hl.1) rfl dX0_init_1 (Nat.le_of_ble_eq_true rfl) (Nat.le_of_ble_eq_true rfl) ?_
  refine W.eq (g2 := F0 m 4 ls []) rfl ?_
  refine lv_aload_n hx hb dX0_init_4 rfl (lv_at hl 0 rfl) ?_
  refine lv_bipush (v := 60) hx hb dX0_init_5 (by decide) ?_
  refine va_newa (atype := .char) (ty := .char) (a0 := (60, .inl (fun _ => 0))) hx hb (hts _ a_X0_init) rfl hK hP hD hS hA (fun cA => rfl) (by decide) (show (60 : Int32).toNatClampNeg = 60 by decide) (by decide) (Nat.le_refl 1) (Nat.le_refl 60) dX0_init_7 (fun q cA H hK hP hD hS => ?_)
  refine va_putF (ci := 0) (v := .ref q) (ty := .array .char) (C := RX0) (T := TX0) (N := 6) hx hb hts in_X0_init_0 tyX0 tyX0_ok nmX0 hown hK hP hD hS 0 rfl rfl 0 (by decide) (hts _ k_X0_init_9) (fun _ h9 => h9) rfl hin rfl (by decide +kernel) rfl rfl (Nat.le_of_ble_eq_true rfl) dX0_init_9 (fun H locs hP hD hS => ?_)
  exact W.vret hx hb hr (fun t ht hW => ⟨⟨(q, cA), rfl, trivial, ⟨by rw [ht]; exact hP, va_K.moved hW.alike hK, hD⟩⟩, hS.F ht⟩) hS.2.2 dX0_init_12
end
section
/-! ===== the constructor of a State ===== -/
abbrev z2 (a : Value) (x2 x3 x4 x5 x8 x10 : Int32) : List Value := [a, .int 0, .int x2, .int x3, .int x4, .int x5, .int 0, .int 0, .int x8, .int 0, .int x10, .int 0, .int 0, .int 0, .int 0]
theorem in_X2_init_20 : ∀ w ∈ wsX20, w ∈ wsX2_init := by decide +kernel
theorem in_X2_init_10 : ∀ w ∈ wsX10, w ∈ wsX2_init := by decide +kernel
theorem k_X2_init_11 : Cond.fieldLink RX2 11 "BellowsRound$State" "smithies" "[LBellowsRound$Smithy;" ∈ wsX2_init := by decide +kernel
theorem k_X2_init_17 : Cond.fieldLink RX2 17 "BellowsRound$State" "cold" "I" ∈ wsX2_init := by decide +kernel
theorem k_X2_init_21 : Cond.fieldLink RX2 21 "BellowsRound$State" "hours" "I" ∈ wsX2_init := by decide +kernel
theorem k_X2_init_24 : Cond.fieldLink RX2 24 "BellowsRound$State" "rate" "I" ∈ wsX2_init := by decide +kernel
theorem k_X2_init_27 : Cond.fieldLink RX2 27 "BellowsRound$State" "patience" "I" ∈ wsX2_init := by decide +kernel
theorem k_X2_init_30 : Cond.fieldLink RX2 30 "BellowsRound$State" "hoursLeft" "I" ∈ wsX2_init := by decide +kernel
theorem k_X2_init_33 : Cond.fieldLink RX2 33 "BellowsRound$State" "money" "I" ∈ wsX2_init := by decide +kernel
theorem cl_X2_init : Cond.classLink RX2 9 RX1 ∈ wsX2_init := by decide +kernel
theorem ia_X2_init : Cond.instantiable RX1 8 ∈ wsX2_init := by decide +kernel
theorem ii_X2_init : Cond.initialized RX1 ∈ wsX2_init := by decide +kernel
theorem im_X2_init : Cond.instanceMethod yX1_init ∈ wsX2_init := by decide +kernel
def PN2 (U : State) : Prop := va_AO RX1 U ∧ va_Nw (.methodLinkNest RX2 36 yX1_init "BellowsRound") U
set_option maxHeartbeats 8000000 in
set_option maxRecDepth 100000 in
theorem c_X2_init (l : Launch) (D : va_G) (h0 : Nat) (sz : Nat) : Met l yX2_init wsX2_init ({ frames := 2, cells := 9, slots := 72, locals := 32 }) (va_Pc [.ref h0] (fun U => PI D [(h0, .inr (2, z2 .null 0 0 0 0 0 0))] sz U ∧ PN2 U)) (va_Qv (fun _ : Nat × ClassId × Nat × Nat × Nat × Nat × Nat × Nat × Nat × Nat => True) (PO D (va_A [(h0, .inr (2, z2 .null 0 0 0 0 0 0))] sz) (fun u => [(h0, .inr (2, z2 (.ref u.1) 30 10 4 60 10 100)), (u.1, .inl (u.2.1, 8, .inr (.inr (.inr (.inr (va_up (va_up (va_up (va_up (va_up (va_up (va_up (va_up (fun _ => none) 0 (some u.2.2.1)) 1 (some u.2.2.2.1)) 2 (some u.2.2.2.2.1)) 3 (some u.2.2.2.2.2.1)) 4 (some u.2.2.2.2.2.2.1)) 5 (some u.2.2.2.2.2.2.2.1)) 6 (some u.2.2.2.2.2.2.2.2.1)) 7 (some u.2.2.2.2.2.2.2.2.2))))))), (u.2.2.1, .inr (1, z8)), (u.2.2.2.1, .inr (1, z8)), (u.2.2.2.2.1, .inr (1, z8)), (u.2.2.2.2.2.1, .inr (1, z8)), (u.2.2.2.2.2.2.1, .inr (1, z8)), (u.2.2.2.2.2.2.2.1, .inr (1, z8)), (u.2.2.2.2.2.2.2.2.1, .inr (1, z8)), (u.2.2.2.2.2.2.2.2.2, .inr (1, z8))]) (fun u => [(u.2.1, .object RX1)])) (va_A [(h0, .inr (2, z2 .null 0 0 0 0 0 0))] sz)) 9 72 (va_A [(h0, .inr (2, z2 .null 0 0 0 0 0 0))] sz) := by
  refine Met.ofW (cc := cX2_init) (maxL := 2) (ret := none) (by decide +kernel) rfl ?_
  intro p e s m args below meth c s₁ B hml hv
  obtain ⟨rfl, ⟨hsz, hP, hK, hD0⟩, hao, hnest⟩ := hv
  have hx := B.exec
  have hb := B.bytes
  have hr := B.returns
  have hts := atoms_spec (ws := wsX2_init) B.pre
  have hown : s.vm.findClass RX2 = some m.cls := findClass_of_methodNamed B.named
  have hin : meth.name = "<init>" := (name_of_methodNamed B.named B.method).1
  subst hsz
  have hD := hD0.self (sz := s.heap.size)
  generalize hAe : va_A [(h0, .inr (2, z2 .null 0 0 0 0 0 0))] s.heap.size = A at hD ⊢
  have hA : ∀ q : Nat, s.heap.size ≤ q → A q := fun q h => by rw [← hAe]; exact Or.inr h
  have hS : va_S A s.heap s.heap [] := va_S.rf
  have hl := lv_entry ([.ref h0]) (n := 2) (Nat.le_of_ble_eq_true rfl)
  rw [lg_entry_eq]
  generalize (lg_sl ([.ref h0]) ++ List.replicate (2 - (lg_sl ([.ref h0])).length) Slot.unset).toArray = ls at hl ⊢
  have hl : lv_has ls 2 [(0, .ref h0)] := hl
  refine lv_aload_n hx hb dX2_init_0 rfl (lv_at hl 0 rfl) ?_
  refine W.objInit hx hb hown (hts (.methodLink RX2 3 objectInit) (by decide +kernel)) (hts (.instanceMethod objectInit) (by decide +kernel)) (hts _ (List.mem_cons_of_mem _ (List.mem_append_left _ (List.mem_append_left _ (List.mem_of_getElem? (i := 2) rfl))))) rfl (by rw [hml]; exact hl.1) rfl dX2_init_1 (Nat.le_of_ble_eq_true rfl) (Nat.le_of_ble_eq_true rfl) ?_
  refine W.eq (g2 := F0 m 4 ls []) rfl ?_
  refine lv_aload_n hx hb dX2_init_4 rfl (lv_at hl 0 rfl) ?_
  refine lv_bipush (v := 8) hx hb dX2_init_5 (by decide) ?_
  refine va_newq (C := RX1) hx hb hown (hts _ cl_X2_init) hao hK hP hD hS hA (by decide) (show (8 : Int32).toNatClampNeg = 8 by decide) (by decide) (Nat.le_of_ble_eq_true rfl) (Nat.le_of_ble_eq_true rfl) dX2_init_7 (fun r ca H hK hP hD hS => ?_)
  refine va_putF (ci := 2) (v := .ref r) (ty := .array (.object RX1)) (C := RX2) (T := TX2) (N := 15) hx hb hts in_X2_init_20 tyX2 tyX2_ok nmX2 hown hK hP hD hS 0 rfl rfl 0 (by decide) (hts _ k_X2_init_11) (fun _ h9 => h9) rfl hin rfl (by decide +kernel) rfl rfl (Nat.le_of_ble_eq_true rfl) dX2_init_10 (fun H locs hP hD hS => ?_)
  refine lv_aload_n hx hb dX2_init_13 rfl (lv_at hl 0 rfl) ?_
  refine lv_bipush (v := 30) hx hb dX2_init_14 (by decide) ?_
  refine va_put (ci := 2) (v := .int 30) (ty := .int) (C := RX2) (T := TX2) (N := 15) hx hb hts in_X2_init_20 tyX2 tyX2_ok nmX2 hown hK hP hD hS 0 rfl rfl 2 (by decide) (hts _ k_X2_init_17) (fun _ h9 => h9) rfl (by decide +kernel) rfl rfl (Nat.le_of_ble_eq_true rfl) dX2_init_16 (fun H locs hP hD hS => ?_)
  refine lv_aload_n hx hb dX2_init_19 rfl (lv_at hl 0 rfl) ?_
  refine lv_bipush (v := 10) hx hb dX2_init_20 (by decide) ?_
  refine va_put (ci := 2) (v := .int 10) (ty := .int) (C := RX2) (T := TX2) (N := 15) hx hb hts in_X2_init_20 tyX2 tyX2_ok nmX2 hown hK hP hD hS 0 rfl rfl 3 (by decide) (hts _ k_X2_init_21) (fun _ h9 => h9) rfl (by decide +kernel) rfl rfl (Nat.le_of_ble_eq_true rfl) dX2_init_22 (fun H locs hP hD hS => ?_)
  refine lv_aload_n hx hb dX2_init_25 rfl (lv_at hl 0 rfl) ?_
  refine lv_iconst (v := 4) hx hb dX2_init_26 (by decide) ?_
  refine va_put (ci := 2) (v := .int 4) (ty := .int) (C := RX2) (T := TX2) (N := 15) hx hb hts in_X2_init_20 tyX2 tyX2_ok nmX2 hown hK hP hD hS 0 rfl rfl 4 (by decide) (hts _ k_X2_init_24) (fun _ h9 => h9) rfl (by decide +kernel) rfl rfl (Nat.le_of_ble_eq_true rfl) dX2_init_27 (fun H locs hP hD hS => ?_)
  refine lv_aload_n hx hb dX2_init_30 rfl (lv_at hl 0 rfl) ?_
  refine lv_bipush (v := 60) hx hb dX2_init_31 (by decide) ?_
  refine va_put (ci := 2) (v := .int 60) (ty := .int) (C := RX2) (T := TX2) (N := 15) hx hb hts in_X2_init_20 tyX2 tyX2_ok nmX2 hown hK hP hD hS 0 rfl rfl 5 (by decide) (hts _ k_X2_init_27) (fun _ h9 => h9) rfl (by decide +kernel) rfl rfl (Nat.le_of_ble_eq_true rfl) dX2_init_33 (fun H locs hP hD hS => ?_)
  refine lv_aload_n hx hb dX2_init_36 rfl (lv_at hl 0 rfl) ?_
  refine lv_aload_n hx hb dX2_init_37 rfl (lv_at hl 0 rfl) ?_
  refine va_get hx hb hts in_X2_init_20 hown hK hP 0 rfl rfl 3 (by decide) (hts _ k_X2_init_21) (fun _ h9 => h9) rfl dX2_init_38 ?_
  refine va_put (ci := 2) (v := .int 10) (ty := .int) (C := RX2) (T := TX2) (N := 15) hx hb hts in_X2_init_20 tyX2 tyX2_ok nmX2 hown hK hP hD hS 0 rfl rfl 8 (by decide) (hts _ k_X2_init_30) (fun _ h9 => h9) rfl (by decide +kernel) rfl rfl (Nat.le_of_ble_eq_true rfl) dX2_init_41 (fun H locs hP hD hS => ?_)
  refine lv_aload_n hx hb dX2_init_44 rfl (lv_at hl 0 rfl) ?_
  refine lv_bipush (v := 100) hx hb dX2_init_45 (by decide) ?_
  refine va_put (ci := 2) (v := .int 100) (ty := .int) (C := RX2) (T := TX2) (N := 15) hx hb hts in_X2_init_20 tyX2 tyX2_ok nmX2 hown hK hP hD hS 0 rfl rfl 10 (by decide) (hts _ k_X2_init_33) (fun _ h9 => h9) rfl (by decide +kernel) rfl rfl (Nat.le_of_ble_eq_true rfl) dX2_init_47 (fun H locs hP hD hS => ?_)
  have hP : va_P D vwCl [(h0, .inr (2, z2 (.ref r) 30 10 4 60 10 100)), (r, .inl (ca, 8, .inr (.inr (.inr (.inr (fun _ => none))))))] H := hP
  have hD : va_D A [(h0, .inr (2, z2 (.ref r) 30 10 4 60 10 100)), (r, .inl (ca, 8, .inr (.inr (.inr (.inr (fun _ => none))))))] := hD
  refine lv_iconst (v := 0) hx hb dX2_init_50 (by decide) ?_
  refine lv_istore_n (lv' := [(1, .int 0), (0, .ref h0)]) hx hb dX2_init_51 rfl hl (by decide) rfl (fun ls hl => ?_)
  refine lv_iload_n hx hb dX2_init_52 rfl (lv_at hl 0 rfl) ?_
  refine lv_aload_n hx hb dX2_init_53 rfl (lv_at hl 1 rfl) ?_
  refine va_get hx hb hts in_X2_init_20 hown hK hP 0 rfl rfl 0 (by decide) (hts _ k_X2_init_11) (fun _ h9 => h9) rfl dX2_init_54 ?_
  refine va_alen (v := 8) hx hb hK hP 1 0 rfl rfl rfl dX2_init_57 ?_
  refine lv_icmp_ge (tgt := 80) hx hb dX2_init_58 (by decide) (fun cc0 => ?_) (fun cc0 => ?_)
  · exact absurd cc0 (by decide)
  refine lv_aload_n hx hb dX2_init_61 rfl (lv_at hl 1 rfl) ?_
  refine va_get hx hb hts in_X2_init_20 hown hK hP 0 rfl rfl 0 (by decide) (hts _ k_X2_init_11) (fun _ h9 => h9) rfl dX2_init_62 ?_
  refine lv_iload_n hx hb dX2_init_65 rfl (lv_at hl 0 rfl) ?_
  refine va_new (ci := 1) (fs := z8) (C := RX1) (T := TX1) (N := 8) hx hb hts in_X2_init_10 tyX1 tyX1_ok hown (hts _ cl_X2_init) (hts _ ia_X2_init) (hts _ ii_X2_init) hK hP hD hS hA rfl (fun j hj => by rcases (show j = 0 ∨ j = 1 ∨ j = 2 ∨ j = 3 ∨ j = 4 ∨ j = 5 ∨ j = 6 ∨ j = 7 by omega) with rfl | rfl | rfl | rfl | rfl | rfl | rfl | rfl <;> rfl) (Nat.le_of_ble_eq_true rfl) (Nat.le_of_ble_eq_true rfl) dX2_init_66 (fun q0 H hP hD hS => ?_)
  have hP : va_P D vwCl [(h0, .inr (2, z2 (.ref r) 30 10 4 60 10 100)), (r, .inl (ca, 8, .inr (.inr (.inr (.inr (fun _ => none)))))), (q0, .inr (1, z8))] H := hP
  have hD : va_D A [(h0, .inr (2, z2 (.ref r) 30 10 4 60 10 100)), (r, .inl (ca, 8, .inr (.inr (.inr (.inr (fun _ => none)))))), (q0, .inr (1, z8))] := hD
  refine lv_dup hx hb dX2_init_69 rfl ?_
  have hPc := hP.sub (ws' := [(q0, .inr (1, z8))]) [2] rfl
  have hDc := hD.sub (ws' := [(q0, .inr (1, z8))]) [2] (by decide) rfl
  have hKc := hK.sub (tys' := []) [] rfl
  have hFc := va_free (wc := [(q0, .inr (1, z8))]) hD hS hA [2] rfl
  refine va_callv (va_runIN (As := []) (rest := [.ref q0, .int 0, .ref r]) ⟨hx, hb, hml, hown, hts⟩ (c_X1_init l D q0 H.size) ⟨va_cnB 0 hts gX2_init_X1_init_n36 rfl rfl rfl hnest (hts _ ii_X2_init) ⟨by decide +kernel, by decide +kernel, by decide +kernel⟩ ⟨Nat.le_of_ble_eq_true rfl, Nat.le_of_ble_eq_true rfl⟩, rfl, hts _ im_X2_init⟩ ⟨fun a U g mk q => by obtain ⟨e0, e1, eP, eK, eD⟩ := q; exact ⟨e0, e1, eP, va_K.moved (u := U) (U := U.calling g mk a) (Vm.Alike.refl U.vm) eK, eD⟩, fun U hU hW => ⟨rfl, by rw [hU], by rw [hU]; exact hPc, va_K.moved hW.alike hKc, hDc.weaken (fun _ _ _ _ => trivial)⟩⟩ rfl rfl hl.1 rfl (lv_room (Nat.le_of_ble_eq_true rfl)) dX2_init_70 ⟨Nat.le_of_ble_eq_true rfl, Nat.le_of_ble_eq_true rfl⟩) hS (fun q _ h => hFc q h) hFc (fun u t H1 locs ht hvm h5 hB hz1 hk1 hS => ?_)
  obtain ⟨hP1, hK1, hD1⟩ := hB
  rw [ht] at hP1
  obtain ⟨hP, hD⟩ := va_join (wr := [(h0, .inr (2, z2 (.ref r) 30 10 4 60 10 100)), (r, .inl (ca, 8, .inr (.inr (.inr (.inr (fun _ => none))))))]) (w1 := [(q0, .inr (1, z8))]) hP hD [2] [0, 1] rfl rfl (by decide) (by decide) hk1 hFc hP1 hD1
  have hP : va_P D vwCl [(h0, .inr (2, z2 (.ref r) 30 10 4 60 10 100)), (r, .inl (ca, 8, .inr (.inr (.inr (.inr (fun _ => none)))))), (q0, .inr (1, z8))] H1 := hP
  have hD : va_D A [(h0, .inr (2, z2 (.ref r) 30 10 4 60 10 100)), (r, .inl (ca, 8, .inr (.inr (.inr (.inr (fun _ => none)))))), (q0, .inr (1, z8))] := hD
  refine va_astq hx hb hK hP hD hS 1 0 2 1 rfl rfl rfl rfl (vp_in_nI (n := 0) (N := 8) (by decide) (by decide)) dX2_init_73 (fun H locs hP hD hS => ?_)
  have hP : va_P D vwCl [(h0, .inr (2, z2 (.ref r) 30 10 4 60 10 100)), (r, .inl (ca, 8, .inr (.inr (.inr (.inr (va_up (fun _ => none) 0 (some q0))))))), (q0, .inr (1, z8))] H := hP
  have hD : va_D A [(h0, .inr (2, z2 (.ref r) 30 10 4 60 10 100)), (r, .inl (ca, 8, .inr (.inr (.inr (.inr (va_up (fun _ => none) 0 (some q0))))))), (q0, .inr (1, z8))] := hD
  refine lv_iinc (v := 1) (lv' := [(1, .int 1), (0, .ref h0)]) hx hb dX2_init_74 hl (k := 0) rfl (by decide) (by decide) rfl (fun ls hl => ?_)
  refine lv_goto (tgt := 52) hx hb dX2_init_77 (by decide) ?_
  refine lv_iload_n hx hb dX2_init_52 rfl (lv_at hl 0 rfl) ?_
  refine lv_aload_n hx hb dX2_init_53 rfl (lv_at hl 1 rfl) ?_
  refine va_get hx hb hts in_X2_init_20 hown hK hP 0 rfl rfl 0 (by decide) (hts _ k_X2_init_11) (fun _ h9 => h9) rfl dX2_init_54 ?_
  refine va_alen (v := 8) hx hb hK hP 1 0 rfl rfl rfl dX2_init_57 ?_
  refine lv_icmp_ge (tgt := 80) hx hb dX2_init_58 (by decide) (fun cc1 => ?_) (fun cc1 => ?_)
  · exact absurd cc1 (by decide)
  refine lv_aload_n hx hb dX2_init_61 rfl (lv_at hl 1 rfl) ?_
  refine va_get hx hb hts in_X2_init_20 hown hK hP 0 rfl rfl 0 (by decide) (hts _ k_X2_init_11) (fun _ h9 => h9) rfl dX2_init_62 ?_
  refine lv_iload_n hx hb dX2_init_65 rfl (lv_at hl 0 rfl) ?_
  refine va_new (ci := 1) (fs := z8) (C := RX1) (T := TX1) (N := 8) hx hb hts in_X2_init_10 tyX1 tyX1_ok hown (hts _ cl_X2_init) (hts _ ia_X2_init) (hts _ ii_X2_init) hK hP hD hS hA rfl (fun j hj => by rcases (show j = 0 ∨ j = 1 ∨ j = 2 ∨ j = 3 ∨ j = 4 ∨ j = 5 ∨ j = 6 ∨ j = 7 by omega) with rfl | rfl | rfl | rfl | rfl | rfl | rfl | rfl <;> rfl) (Nat.le_of_ble_eq_true rfl) (Nat.le_of_ble_eq_true rfl) dX2_init_66 (fun q1 H hP hD hS => ?_)
  have hP : va_P D vwCl [(h0, .inr (2, z2 (.ref r) 30 10 4 60 10 100)), (r, .inl (ca, 8, .inr (.inr (.inr (.inr (va_up (fun _ => none) 0 (some q0))))))), (q0, .inr (1, z8)), (q1, .inr (1, z8))] H := hP
  have hD : va_D A [(h0, .inr (2, z2 (.ref r) 30 10 4 60 10 100)), (r, .inl (ca, 8, .inr (.inr (.inr (.inr (va_up (fun _ => none) 0 (some q0))))))), (q0, .inr (1, z8)), (q1, .inr (1, z8))] := hD
  refine lv_dup hx hb dX2_init_69 rfl ?_
  have hPc := hP.sub (ws' := [(q1, .inr (1, z8))]) [3] rfl
  have hDc := hD.sub (ws' := [(q1, .inr (1, z8))]) [3] (by decide) rfl
  have hKc := hK.sub (tys' := []) [] rfl
  have hFc := va_free (wc := [(q1, .inr (1, z8))]) hD hS hA [3] rfl
  refine va_callv (va_runIN (As := []) (rest := [.ref q1, .int 1, .ref r]) ⟨hx, hb, hml, hown, hts⟩ (c_X1_init l D q1 H.size) ⟨va_cnB 0 hts gX2_init_X1_init_n36 rfl rfl rfl hnest (hts _ ii_X2_init) ⟨by decide +kernel, by decide +kernel, by decide +kernel⟩ ⟨Nat.le_of_ble_eq_true rfl, Nat.le_of_ble_eq_true rfl⟩, rfl, hts _ im_X2_init⟩ ⟨fun a U g mk q => by obtain ⟨e0, e1, eP, eK, eD⟩ := q; exact ⟨e0, e1, eP, va_K.moved (u := U) (U := U.calling g mk a) (Vm.Alike.refl U.vm) eK, eD⟩, fun U hU hW => ⟨rfl, by rw [hU], by rw [hU]; exact hPc, va_K.moved hW.alike hKc, hDc.weaken (fun _ _ _ _ => trivial)⟩⟩ rfl rfl hl.1 rfl (lv_room (Nat.le_of_ble_eq_true rfl)) dX2_init_70 ⟨Nat.le_of_ble_eq_true rfl, Nat.le_of_ble_eq_true rfl⟩) hS (fun q _ h => hFc q h) hFc (fun u t H1 locs ht hvm h5 hB hz1 hk1 hS => ?_)
  obtain ⟨hP1, hK1, hD1⟩ := hB
  rw [ht] at hP1
  obtain ⟨hP, hD⟩ := va_join (wr := [(h0, .inr (2, z2 (.ref r) 30 10 4 60 10 100)), (r, .inl (ca, 8, .inr (.inr (.inr (.inr (va_up (fun _ => none) 0 (some q0))))))), (q0, .inr (1, z8))]) (w1 := [(q1, .inr (1, z8))]) hP hD [3] [0, 1, 2] rfl rfl (by decide) (by decide) hk1 hFc hP1 hD1
  have hP : va_P D vwCl [(h0, .inr (2, z2 (.ref r) 30 10 4 60 10 100)), (r, .inl (ca, 8, .inr (.inr (.inr (.inr (va_up (fun _ => none) 0 (some q0))))))), (q0, .inr (1, z8)), (q1, .inr (1, z8))] H1 := hP
  have hD : va_D A [(h0, .inr (2, z2 (.ref r) 30 10 4 60 10 100)), (r, .inl (ca, 8, .inr (.inr (.inr (.inr (va_up (fun _ => none) 0 (some q0))))))), (q0, .inr (1, z8)), (q1, .inr (1, z8))] := hD
  refine va_astq hx hb hK hP hD hS 1 0 3 1 rfl rfl rfl rfl (vp_in_nI (n := 1) (N := 8) (by decide) (by decide)) dX2_init_73 (fun H locs hP hD hS => ?_)
  have hP : va_P D vwCl [(h0, .inr (2, z2 (.ref r) 30 10 4 60 10 100)), (r, .inl (ca, 8, .inr (.inr (.inr (.inr (va_up (va_up (fun _ => none) 0 (some q0)) 1 (some q1))))))), (q0, .inr (1, z8)), (q1, .inr (1, z8))] H := hP
  have hD : va_D A [(h0, .inr (2, z2 (.ref r) 30 10 4 60 10 100)), (r, .inl (ca, 8, .inr (.inr (.inr (.inr (va_up (va_up (fun _ => none) 0 (some q0)) 1 (some q1))))))), (q0, .inr (1, z8)), (q1, .inr (1, z8))] := hD
  refine lv_iinc (v := 2) (lv' := [(1, .int 2), (0, .ref h0)]) hx hb dX2_init_74 hl (k := 0) rfl (by decide) (by decide) rfl (fun ls hl => ?_)
  refine lv_goto (tgt := 52) hx hb dX2_init_77 (by decide) ?_
  refine lv_iload_n hx hb dX2_init_52 rfl (lv_at hl 0 rfl) ?_
  refine lv_aload_n hx hb dX2_init_53 rfl (lv_at hl 1 rfl) ?_
  refine va_get hx hb hts in_X2_init_20 hown hK hP 0 rfl rfl 0 (by decide) (hts _ k_X2_init_11) (fun _ h9 => h9) rfl dX2_init_54 ?_
  refine va_alen (v := 8) hx hb hK hP 1 0 rfl rfl rfl dX2_init_57 ?_
  refine lv_icmp_ge (tgt := 80) hx hb dX2_init_58 (by decide) (fun cc2 => ?_) (fun cc2 => ?_)
  · exact absurd cc2 (by decide)
  refine lv_aload_n hx hb dX2_init_61 rfl (lv_at hl 1 rfl) ?_
  refine va_get hx hb hts in_X2_init_20 hown hK hP 0 rfl rfl 0 (by decide) (hts _ k_X2_init_11) (fun _ h9 => h9) rfl dX2_init_62 ?_
  refine lv_iload_n hx hb dX2_init_65 rfl (lv_at hl 0 rfl) ?_
  refine va_new (ci := 1) (fs := z8) (C := RX1) (T := TX1) (N := 8) hx hb hts in_X2_init_10 tyX1 tyX1_ok hown (hts _ cl_X2_init) (hts _ ia_X2_init) (hts _ ii_X2_init) hK hP hD hS hA rfl (fun j hj => by rcases (show j = 0 ∨ j = 1 ∨ j = 2 ∨ j = 3 ∨ j = 4 ∨ j = 5 ∨ j = 6 ∨ j = 7 by omega) with rfl | rfl | rfl | rfl | rfl | rfl | rfl | rfl <;> rfl) (Nat.le_of_ble_eq_true rfl) (Nat.le_of_ble_eq_true rfl) dX2_init_66 (fun q2 H hP hD hS => ?_)
  have hP : va_P D vwCl [(h0, .inr (2, z2 (.ref r) 30 10 4 60 10 100)), (r, .inl (ca, 8, .inr (.inr (.inr (.inr (va_up (va_up (fun _ => none) 0 (some q0)) 1 (some q1))))))), (q0, .inr (1, z8)), (q1, .inr (1, z8)), (q2, .inr (1, z8))] H := hP
  have hD : va_D A [(h0, .inr (2, z2 (.ref r) 30 10 4 60 10 100)), (r, .inl (ca, 8, .inr (.inr (.inr (.inr (va_up (va_up (fun _ => none) 0 (some q0)) 1 (some q1))))))), (q0, .inr (1, z8)), (q1, .inr (1, z8)), (q2, .inr (1, z8))] := hD
  refine lv_dup hx hb dX2_init_69 rfl ?_
  have hPc := hP.sub (ws' := [(q2, .inr (1, z8))]) [4] rfl
  have hDc := hD.sub (ws' := [(q2, .inr (1, z8))]) [4] (by decide) rfl
  have hKc := hK.sub (tys' := []) [] rfl
  have hFc := va_free (wc := [(q2, .inr (1, z8))]) hD hS hA [4] rfl
  refine va_callv (va_runIN (As := []) (rest := [.ref q2, .int 2, .ref r]) ⟨hx, hb, hml, hown, hts⟩ (c_X1_init l D q2 H.size) ⟨va_cnB 0 hts gX2_init_X1_init_n36 rfl rfl rfl hnest (hts _ ii_X2_init) ⟨by decide +kernel, by decide +kernel, by decide +kernel⟩ ⟨Nat.le_of_ble_eq_true rfl, Nat.le_of_ble_eq_true rfl⟩, rfl, hts _ im_X2_init⟩ ⟨fun a U g mk q => by obtain ⟨e0, e1, eP, eK, eD⟩ := q; exact ⟨e0, e1, eP, va_K.moved (u := U) (U := U.calling g mk a) (Vm.Alike.refl U.vm) eK, eD⟩, fun U hU hW => ⟨rfl, by rw [hU], by rw [hU]; exact hPc, va_K.moved hW.alike hKc, hDc.weaken (fun _ _ _ _ => trivial)⟩⟩ rfl rfl hl.1 rfl (lv_room (Nat.le_of_ble_eq_true rfl)) dX2_init_70 ⟨Nat.le_of_ble_eq_true rfl, Nat.le_of_ble_eq_true rfl⟩) hS (fun q _ h => hFc q h) hFc (fun u t H1 locs ht hvm h5 hB hz1 hk1 hS => ?_)
  obtain ⟨hP1, hK1, hD1⟩ := hB
  rw [ht] at hP1
  obtain ⟨hP, hD⟩ := va_join (wr := [(h0, .inr (2, z2 (.ref r) 30 10 4 60 10 100)), (r, .inl (ca, 8, .inr (.inr (.inr (.inr (va_up (va_up (fun _ => none) 0 (some q0)) 1 (some q1))))))), (q0, .inr (1, z8)), (q1, .inr (1, z8))]) (w1 := [(q2, .inr (1, z8))]) hP hD [4] [0, 1, 2, 3] rfl rfl (by decide) (by decide) hk1 hFc hP1 hD1
  have hP : va_P D vwCl [(h0, .inr (2, z2 (.ref r) 30 10 4 60 10 100)), (r, .inl (ca, 8, .inr (.inr (.inr (.inr (va_up (va_up (fun _ => none) 0 (some q0)) 1 (some q1))))))), (q0, .inr (1, z8)), (q1, .inr (1, z8)), (q2, .inr (1, z8))] H1 := hP
  have hD : va_D A [(h0, .inr (2, z2 (.ref r) 30 10 4 60 10 100)), (r, .inl (ca, 8, .inr (.inr (.inr (.inr (va_up (va_up (fun _ => none) 0 (some q0)) 1 (some q1))))))), (q0, .inr (1, z8)), (q1, .inr (1, z8)), (q2, .inr (1, z8))] := hD
  refine va_astq hx hb hK hP hD hS 1 0 4 1 rfl rfl rfl rfl (vp_in_nI (n := 2) (N := 8) (by decide) (by decide)) dX2_init_73 (fun H locs hP hD hS => ?_)
  have hP : va_P D vwCl [(h0, .inr (2, z2 (.ref r) 30 10 4 60 10 100)), (r, .inl (ca, 8, .inr (.inr (.inr (.inr (va_up (va_up (va_up (fun _ => none) 0 (some q0)) 1 (some q1)) 2 (some q2))))))), (q0, .inr (1, z8)), (q1, .inr (1, z8)), (q2, .inr (1, z8))] H := hP
  have hD : va_D A [(h0, .inr (2, z2 (.ref r) 30 10 4 60 10 100)), (r, .inl (ca, 8, .inr (.inr (.inr (.inr (va_up (va_up (va_up (fun _ => none) 0 (some q0)) 1 (some q1)) 2 (some q2))))))), (q0, .inr (1, z8)), (q1, .inr (1, z8)), (q2, .inr (1, z8))] := hD
  refine lv_iinc (v := 3) (lv' := [(1, .int 3), (0, .ref h0)]) hx hb dX2_init_74 hl (k := 0) rfl (by decide) (by decide) rfl (fun ls hl => ?_)
  refine lv_goto (tgt := 52) hx hb dX2_init_77 (by decide) ?_
  refine lv_iload_n hx hb dX2_init_52 rfl (lv_at hl 0 rfl) ?_
  refine lv_aload_n hx hb dX2_init_53 rfl (lv_at hl 1 rfl) ?_
  refine va_get hx hb hts in_X2_init_20 hown hK hP 0 rfl rfl 0 (by decide) (hts _ k_X2_init_11) (fun _ h9 => h9) rfl dX2_init_54 ?_
  refine va_alen (v := 8) hx hb hK hP 1 0 rfl rfl rfl dX2_init_57 ?_
  refine lv_icmp_ge (tgt := 80) hx hb dX2_init_58 (by decide) (fun cc3 => ?_) (fun cc3 => ?_)
  · exact absurd cc3 (by decide)
  refine lv_aload_n hx hb dX2_init_61 rfl (lv_at hl 1 rfl) ?_
  refine va_get hx hb hts in_X2_init_20 hown hK hP 0 rfl rfl 0 (by decide) (hts _ k_X2_init_11) (fun _ h9 => h9) rfl dX2_init_62 ?_
  refine lv_iload_n hx hb dX2_init_65 rfl (lv_at hl 0 rfl) ?_
  refine va_new (ci := 1) (fs := z8) (C := RX1) (T := TX1) (N := 8) hx hb hts in_X2_init_10 tyX1 tyX1_ok hown (hts _ cl_X2_init) (hts _ ia_X2_init) (hts _ ii_X2_init) hK hP hD hS hA rfl (fun j hj => by rcases (show j = 0 ∨ j = 1 ∨ j = 2 ∨ j = 3 ∨ j = 4 ∨ j = 5 ∨ j = 6 ∨ j = 7 by omega) with rfl | rfl | rfl | rfl | rfl | rfl | rfl | rfl <;> rfl) (Nat.le_of_ble_eq_true rfl) (Nat.le_of_ble_eq_true rfl) dX2_init_66 (fun q3 H hP hD hS => ?_)
  have hP : va_P D vwCl [(h0, .inr (2, z2 (.ref r) 30 10 4 60 10 100)), (r, .inl (ca, 8, .inr (.inr (.inr (.inr (va_up (va_up (va_up (fun _ => none) 0 (some q0)) 1 (some q1)) 2 (some q2))))))), (q0, .inr (1, z8)), (q1, .inr (1, z8)), (q2, .inr (1, z8)), (q3, .inr (1, z8))] H := hP
  have hD : va_D A [(h0, .inr (2, z2 (.ref r) 30 10 4 60 10 100)), (r, .inl (ca, 8, .inr (.inr (.inr (.inr (va_up (va_up (va_up (fun _ => none) 0 (some q0)) 1 (some q1)) 2 (some q2))))))), (q0, .inr (1, z8)), (q1, .inr (1, z8)), (q2, .inr (1, z8)), (q3, .inr (1, z8))] := hD
  refine lv_dup hx hb dX2_init_69 rfl ?_
  have hPc := hP.sub (ws' := [(q3, .inr (1, z8))]) [5] rfl
  have hDc := hD.sub (ws' := [(q3, .inr (1, z8))]) [5] (by decide) rfl
  have hKc := hK.sub (tys' := []) [] rfl
  have hFc := va_free (wc := [(q3, .inr (1, z8))]) hD hS hA [5] rfl
  refine va_callv (va_runIN (As := []) (rest := [.ref q3, .int 3, .ref r]) ⟨hx, hb, hml, hown, hts⟩ (c_X1_init l D q3 H.size) ⟨va_cnB 0 hts gX2_init_X1_init_n36 rfl rfl rfl hnest (hts _ ii_X2_init) ⟨by decide +kernel, by decide +kernel, by decide +kernel⟩ ⟨Nat.le_of_ble_eq_true rfl, Nat.le_of_ble_eq_true rfl⟩, rfl, hts _ im_X2_init⟩ ⟨fun a U g mk q => by obtain ⟨e0, e1, eP, eK, eD⟩ := q; exact ⟨e0, e1, eP, va_K.moved (u := U) (U := U.calling g mk a) (Vm.Alike.refl U.vm) eK, eD⟩, fun U hU hW => ⟨rfl, by rw [hU], by rw [hU]; exact hPc, va_K.moved hW.alike hKc, hDc.weaken (fun _ _ _ _ => trivial)⟩⟩ rfl rfl hl.1 rfl (lv_room (Nat.le_of_ble_eq_true rfl)) dX2_init_70 ⟨Nat.le_of_ble_eq_true rfl, Nat.le_of_ble_eq_true rfl⟩) hS (fun q _ h => hFc q h) hFc (fun u t H1 locs ht hvm h5 hB hz1 hk1 hS => ?_)
  obtain ⟨hP1, hK1, hD1⟩ := hB
  rw [ht] at hP1
  obtain ⟨hP, hD⟩ := va_join (wr := [(h0, .inr (2, z2 (.ref r) 30 10 4 60 10 100)), (r, .inl (ca, 8, .inr (.inr (.inr (.inr (va_up (va_up (va_up (fun _ => none) 0 (some q0)) 1 (some q1)) 2 (some q2))))))), (q0, .inr (1, z8)), (q1, .inr (1, z8)), (q2, .inr (1, z8))]) (w1 := [(q3, .inr (1, z8))]) hP hD [5] [0, 1, 2, 3, 4] rfl rfl (by decide) (by decide) hk1 hFc hP1 hD1
  have hP : va_P D vwCl [(h0, .inr (2, z2 (.ref r) 30 10 4 60 10 100)), (r, .inl (ca, 8, .inr (.inr (.inr (.inr (va_up (va_up (va_up (fun _ => none) 0 (some q0)) 1 (some q1)) 2 (some q2))))))), (q0, .inr (1, z8)), (q1, .inr (1, z8)), (q2, .inr (1, z8)), (q3, .inr (1, z8))] H1 := hP
  have hD : va_D A [(h0, .inr (2, z2 (.ref r) 30 10 4 60 10 100)), (r, .inl (ca, 8, .inr (.inr (.inr (.inr (va_up (va_up (va_up (fun _ => none) 0 (some q0)) 1 (some q1)) 2 (some q2))))))), (q0, .inr (1, z8)), (q1, .inr (1, z8)), (q2, .inr (1, z8)), (q3, .inr (1, z8))] := hD
  refine va_astq hx hb hK hP hD hS 1 0 5 1 rfl rfl rfl rfl (vp_in_nI (n := 3) (N := 8) (by decide) (by decide)) dX2_init_73 (fun H locs hP hD hS => ?_)
  have hP : va_P D vwCl [(h0, .inr (2, z2 (.ref r) 30 10 4 60 10 100)), (r, .inl (ca, 8, .inr (.inr (.inr (.inr (va_up (va_up (va_up (va_up (fun _ => none) 0 (some q0)) 1 (some q1)) 2 (some q2)) 3 (some q3))))))), (q0, .inr (1, z8)), (q1, .inr (1, z8)), (q2, .inr (1, z8)), (q3, .inr (1, z8))] H := hP
  have hD : va_D A [(h0, .inr (2, z2 (.ref r) 30 10 4 60 10 100)), (r, .inl (ca, 8, .inr (.inr (.inr (.inr (va_up (va_up (va_up (va_up (fun _ => none) 0 (some q0)) 1 (some q1)) 2 (some q2)) 3 (some q3))))))), (q0, .inr (1, z8)), (q1, .inr (1, z8)), (q2, .inr (1, z8)), (q3, .inr (1, z8))] := hD
  refine lv_iinc (v := 4) (lv' := [(1, .int 4), (0, .ref h0)]) hx hb dX2_init_74 hl (k := 0) rfl (by decide) (by decide) rfl (fun ls hl => ?_)
  refine lv_goto (tgt := 52) hx hb dX2_init_77 (by decide) ?_
  refine lv_iload_n hx hb dX2_init_52 rfl (lv_at hl 0 rfl) ?_
  refine lv_aload_n hx hb dX2_init_53 rfl (lv_at hl 1 rfl) ?_
  refine va_get hx hb hts in_X2_init_20 hown hK hP 0 rfl rfl 0 (by decide) (hts _ k_X2_init_11) (fun _ h9 => h9) rfl dX2_init_54 ?_
  refine va_alen (v := 8) hx hb hK hP 1 0 rfl rfl rfl dX2_init_57 ?_
  refine lv_icmp_ge (tgt := 80) hx hb dX2_init_58 (by decide) (fun cc4 => ?_) (fun cc4 => ?_)
  · exact absurd cc4 (by decide)
  refine lv_aload_n hx hb dX2_init_61 rfl (lv_at hl 1 rfl) ?_
  refine va_get hx hb hts in_X2_init_20 hown hK hP 0 rfl rfl 0 (by decide) (hts _ k_X2_init_11) (fun _ h9 => h9) rfl dX2_init_62 ?_
  refine lv_iload_n hx hb dX2_init_65 rfl (lv_at hl 0 rfl) ?_
  refine va_new (ci := 1) (fs := z8) (C := RX1) (T := TX1) (N := 8) hx hb hts in_X2_init_10 tyX1 tyX1_ok hown (hts _ cl_X2_init) (hts _ ia_X2_init) (hts _ ii_X2_init) hK hP hD hS hA rfl (fun j hj => by rcases (show j = 0 ∨ j = 1 ∨ j = 2 ∨ j = 3 ∨ j = 4 ∨ j = 5 ∨ j = 6 ∨ j = 7 by omega) with rfl | rfl | rfl | rfl | rfl | rfl | rfl | rfl <;> rfl) (Nat.le_of_ble_eq_true rfl) (Nat.le_of_ble_eq_true rfl) dX2_init_66 (fun q4 H hP hD hS => ?_)
  have hP : va_P D vwCl [(h0, .inr (2, z2 (.ref r) 30 10 4 60 10 100)), (r, .inl (ca, 8, .inr (.inr (.inr (.inr (va_up (va_up (va_up (va_up (fun _ => none) 0 (some q0)) 1 (some q1)) 2 (some q2)) 3 (some q3))))))), (q0, .inr (1, z8)), (q1, .inr (1, z8)), (q2, .inr (1, z8)), (q3, .inr (1, z8)), (q4, .inr (1, z8))] H := hP
  have hD : va_D A [(h0, .inr (2, z2 (.ref r) 30 10 4 60 10 100)), (r, .inl (ca, 8, .inr (.inr (.inr (.inr (va_up (va_up (va_up (va_up (fun _ => none) 0 (some q0)) 1 (some q1)) 2 (some q2)) 3 (some q3))))))), (q0, .inr (1, z8)), (q1, .inr (1, z8)), (q2, .inr (1, z8)), (q3, .inr (1, z8)), (q4, .inr (1, z8))] := hD
  refine lv_dup hx hb dX2_init_69 rfl ?_
  have hPc := hP.sub (ws' := [(q4, .inr (1, z8))]) [6] rfl
  have hDc := hD.sub (ws' := [(q4, .inr (1, z8))]) [6] (by decide) rfl
  have hKc := hK.sub (tys' := []) [] rfl
  have hFc := va_free (wc := [(q4, .inr (1, z8))]) hD hS hA [6] rfl
  refine va_callv (va_runIN (As := []) (rest := [.ref q4, .int 4, .ref r]) ⟨hx, hb, hml, hown, hts⟩ (c_X1_init l D q4 H.size) ⟨va_cnB 0 hts gX2_init_X1_init_n36 rfl rfl rfl hnest (hts _ ii_X2_init) ⟨by decide +kernel, by decide +kernel, by decide +kernel⟩ ⟨Nat.le_of_ble_eq_true rfl, Nat.le_of_ble_eq_true rfl⟩, rfl, hts _ im_X2_init⟩ ⟨fun a U g mk q => by obtain ⟨e0, e1, eP, eK, eD⟩ := q; exact ⟨e0, e1, eP, va_K.moved (u := U) (U := U.calling g mk a) (Vm.Alike.refl U.vm) eK, eD⟩, fun U hU hW => ⟨rfl, by rw [hU], by rw [hU]; exact hPc, va_K.moved hW.alike hKc, hDc.weaken (fun _ _ _ _ => trivial)⟩⟩ rfl rfl hl.1 rfl (lv_room (Nat.le_of_ble_eq_true rfl)) dX2_init_70 ⟨Nat.le_of_ble_eq_true rfl, Nat.le_of_ble_eq_true rfl⟩) hS (fun q _ h => hFc q h) hFc (fun u t H1 locs ht hvm h5 hB hz1 hk1 hS => ?_)
  obtain ⟨hP1, hK1, hD1⟩ := hB
  rw [ht] at hP1
  obtain ⟨hP, hD⟩ := va_join (wr := [(h0, .inr (2, z2 (.ref r) 30 10 4 60 10 100)), (r, .inl (ca, 8, .inr (.inr (.inr (.inr (va_up (va_up (va_up (va_up (fun _ => none) 0 (some q0)) 1 (some q1)) 2 (some q2)) 3 (some q3))))))), (q0, .inr (1, z8)), (q1, .inr (1, z8)), (q2, .inr (1, z8)), (q3, .inr (1, z8))]) (w1 := [(q4, .inr (1, z8))]) hP hD [6] [0, 1, 2, 3, 4, 5] rfl rfl (by decide) (by decide) hk1 hFc hP1 hD1
  have hP : va_P D vwCl [(h0, .inr (2, z2 (.ref r) 30 10 4 60 10 100)), (r, .inl (ca, 8, .inr (.inr (.inr (.inr (va_up (va_up (va_up (va_up (fun _ => none) 0 (some q0)) 1 (some q1)) 2 (some q2)) 3 (some q3))))))), (q0, .inr (1, z8)), (q1, .inr (1, z8)), (q2, .inr (1, z8)), (q3, .inr (1, z8)), (q4, .inr (1, z8))] H1 := hP
  have hD : va_D A [(h0, .inr (2, z2 (.ref r) 30 10 4 60 10 100)), (r, .inl (ca, 8, .inr (.inr (.inr (.inr (va_up (va_up (va_up (va_up (fun _ => none) 0 (some q0)) 1 (some q1)) 2 (some q2)) 3 (some q3))))))), (q0, .inr (1, z8)), (q1, .inr (1, z8)), (q2, .inr (1, z8)), (q3, .inr (1, z8)), (q4, .inr (1, z8))] := hD
  refine va_astq hx hb hK hP hD hS 1 0 6 1 rfl rfl rfl rfl (vp_in_nI (n := 4) (N := 8) (by decide) (by decide)) dX2_init_73 (fun H locs hP hD hS => ?_)
  have hP : va_P D vwCl [(h0, .inr (2, z2 (.ref r) 30 10 4 60 10 100)), (r, .inl (ca, 8, .inr (.inr (.inr (.inr (va_up (va_up (va_up (va_up (va_up (fun _ => none) 0 (some q0)) 1 (some q1)) 2 (some q2)) 3 (some q3)) 4 (some q4))))))), (q0, .inr (1, z8)), (q1, .inr (1, z8)), (q2, .inr (1, z8)), (q3, .inr (1, z8)), (q4, .inr (1, z8))] H := hP
  have hD : va_D A [(h0, .inr (2, z2 (.ref r) 30 10 4 60 10 100)), (r, .inl (ca, 8, .inr (.inr (.inr (.inr (va_up (va_up (va_up (va_up (va_up (fun _ => none) 0 (some q0)) 1 (some q1)) 2 (some q2)) 3 (some q3)) 4 (some q4))))))), (q0, .inr (1, z8)), (q1, .inr (1, z8)), (q2, .inr (1, z8)), (q3, .inr (1, z8)), (q4, .inr (1, z8))] := hD
  refine lv_iinc (v := 5) (lv' := [(1, .int 5), (0, .ref h0)]) hx hb dX2_init_74 hl (k := 0) rfl (by decide) (by decide) rfl (fun ls hl => ?_)
  refine lv_goto (tgt := 52) hx hb dX2_init_77 (by decide) ?_
  refine lv_iload_n hx hb dX2_init_52 rfl (lv_at hl 0 rfl) ?_
  refine lv_aload_n hx hb dX2_init_53 rfl (lv_at hl 1 rfl) ?_
  refine va_get hx hb hts in_X2_init_20 hown hK hP 0 rfl rfl 0 (by decide) (hts _ k_X2_init_11) (fun _ h9 => h9) rfl dX2_init_54 ?_
  refine va_alen (v := 8) hx hb hK hP 1 0 rfl rfl rfl dX2_init_57 ?_
  refine lv_icmp_ge (tgt := 80) hx hb dX2_init_58 (by decide) (fun cc5 => ?_) (fun cc5 => ?_)
  · exact absurd cc5 (by decide)
  refine lv_aload_n hx hb dX2_init_61 rfl (lv_at hl 1 rfl) ?_
  refine va_get hx hb hts in_X2_init_20 hown hK hP 0 rfl rfl 0 (by decide) (hts _ k_X2_init_11) (fun _ h9 => h9) rfl dX2_init_62 ?_
  refine lv_iload_n hx hb dX2_init_65 rfl (lv_at hl 0 rfl) ?_
  refine va_new (ci := 1) (fs := z8) (C := RX1) (T := TX1) (N := 8) hx hb hts in_X2_init_10 tyX1 tyX1_ok hown (hts _ cl_X2_init) (hts _ ia_X2_init) (hts _ ii_X2_init) hK hP hD hS hA rfl (fun j hj => by rcases (show j = 0 ∨ j = 1 ∨ j = 2 ∨ j = 3 ∨ j = 4 ∨ j = 5 ∨ j = 6 ∨ j = 7 by omega) with rfl | rfl | rfl | rfl | rfl | rfl | rfl | rfl <;> rfl) (Nat.le_of_ble_eq_true rfl) (Nat.le_of_ble_eq_true rfl) dX2_init_66 (fun q5 H hP hD hS => ?_)
  have hP : va_P D vwCl [(h0, .inr (2, z2 (.ref r) 30 10 4 60 10 100)), (r, .inl (ca, 8, .inr (.inr (.inr (.inr (va_up (va_up (va_up (va_up (va_up (fun _ => none) 0 (some q0)) 1 (some q1)) 2 (some q2)) 3 (some q3)) 4 (some q4))))))), (q0, .inr (1, z8)), (q1, .inr (1, z8)), (q2, .inr (1, z8)), (q3, .inr (1, z8)), (q4, .inr (1, z8)), (q5, .inr (1, z8))] H := hP
  have hD : va_D A [(h0, .inr (2, z2 (.ref r) 30 10 4 60 10 100)), (r, .inl (ca, 8, .inr (.inr (.inr (.inr (va_up (va_up (va_up (va_up (va_up (fun _ => none) 0 (some q0)) 1 (some q1)) 2 (some q2)) 3 (some q3)) 4 (some q4))))))), (q0, .inr (1, z8)), (q1, .inr (1, z8)), (q2, .inr (1, z8)), (q3, .inr (1, z8)), (q4, .inr (1, z8)), (q5, .inr (1, z8))] := hD
  refine lv_dup hx hb dX2_init_69 rfl ?_
  have hPc := hP.sub (ws' := [(q5, .inr (1, z8))]) [7] rfl
  have hDc := hD.sub (ws' := [(q5, .inr (1, z8))]) [7] (by decide) rfl
  have hKc := hK.sub (tys' := []) [] rfl
  have hFc := va_free (wc := [(q5, .inr (1, z8))]) hD hS hA [7] rfl
  refine va_callv (va_runIN (As := []) (rest := [.ref q5, .int 5, .ref r]) ⟨hx, hb, hml, hown, hts⟩ (c_X1_init l D q5 H.size) ⟨va_cnB 0 hts gX2_init_X1_init_n36 rfl rfl rfl hnest (hts _ ii_X2_init) ⟨by decide +kernel, by decide +kernel, by decide +kernel⟩ ⟨Nat.le_of_ble_eq_true rfl, Nat.le_of_ble_eq_true rfl⟩, rfl, hts _ im_X2_init⟩ ⟨fun a U g mk q => by obtain ⟨e0, e1, eP, eK, eD⟩ := q; exact ⟨e0, e1, eP, va_K.moved (u := U) (U := U.calling g mk a) (Vm.Alike.refl U.vm) eK, eD⟩, fun U hU hW => ⟨rfl, by rw [hU], by rw [hU]; exact hPc, va_K.moved hW.alike hKc, hDc.weaken (fun _ _ _ _ => trivial)⟩⟩ rfl rfl hl.1 rfl (lv_room (Nat.le_of_ble_eq_true rfl)) dX2_init_70 ⟨Nat.le_of_ble_eq_true rfl, Nat.le_of_ble_eq_true rfl⟩) hS (fun q _ h => hFc q h) hFc (fun u t H1 locs ht hvm h5 hB hz1 hk1 hS => ?_)
  obtain ⟨hP1, hK1, hD1⟩ := hB
  rw [ht] at hP1
  obtain ⟨hP, hD⟩ := va_join (wr := [(h0, .inr (2, z2 (.ref r) 30 10 4 60 10 100)), (r, .inl (ca, 8, .inr (.inr (.inr (.inr (va_up (va_up (va_up (va_up (va_up (fun _ => none) 0 (some q0)) 1 (some q1)) 2 (some q2)) 3 (some q3)) 4 (some q4))))))), (q0, .inr (1, z8)), (q1, .inr (1, z8)), (q2, .inr (1, z8)), (q3, .inr (1, z8)), (q4, .inr (1, z8))]) (w1 := [(q5, .inr (1, z8))]) hP hD [7] [0, 1, 2, 3, 4, 5, 6] rfl rfl (by decide) (by decide) hk1 hFc hP1 hD1
  have hP : va_P D vwCl [(h0, .inr (2, z2 (.ref r) 30 10 4 60 10 100)), (r, .inl (ca, 8, .inr (.inr (.inr (.inr (va_up (va_up (va_up (va_up (va_up (fun _ => none) 0 (some q0)) 1 (some q1)) 2 (some q2)) 3 (some q3)) 4 (some q4))))))), (q0, .inr (1, z8)), (q1, .inr (1, z8)), (q2, .inr (1, z8)), (q3, .inr (1, z8)), (q4, .inr (1, z8)), (q5, .inr (1, z8))] H1 := hP
  have hD : va_D A [(h0, .inr (2, z2 (.ref r) 30 10 4 60 10 100)), (r, .inl (ca, 8, .inr (.inr (.inr (.inr (va_up (va_up (va_up (va_up (va_up (fun _ => none) 0 (some q0)) 1 (some q1)) 2 (some q2)) 3 (some q3)) 4 (some q4))))))), (q0, .inr (1, z8)), (q1, .inr (1, z8)), (q2, .inr (1, z8)), (q3, .inr (1, z8)), (q4, .inr (1, z8)), (q5, .inr (1, z8))] := hD
  refine va_astq hx hb hK hP hD hS 1 0 7 1 rfl rfl rfl rfl (vp_in_nI (n := 5) (N := 8) (by decide) (by decide)) dX2_init_73 (fun H locs hP hD hS => ?_)
  have hP : va_P D vwCl [(h0, .inr (2, z2 (.ref r) 30 10 4 60 10 100)), (r, .inl (ca, 8, .inr (.inr (.inr (.inr (va_up (va_up (va_up (va_up (va_up (va_up (fun _ => none) 0 (some q0)) 1 (some q1)) 2 (some q2)) 3 (some q3)) 4 (some q4)) 5 (some q5))))))), (q0, .inr (1, z8)), (q1, .inr (1, z8)), (q2, .inr (1, z8)), (q3, .inr (1, z8)), (q4, .inr (1, z8)), (q5, .inr (1, z8))] H := hP
  have hD : va_D A [(h0, .inr (2, z2 (.ref r) 30 10 4 60 10 100)), (r, .inl (ca, 8, .inr (.inr (.inr (.inr (va_up (va_up (va_up (va_up (va_up (va_up (fun _ => none) 0 (some q0)) 1 (some q1)) 2 (some q2)) 3 (some q3)) 4 (some q4)) 5 (some q5))))))), (q0, .inr (1, z8)), (q1, .inr (1, z8)), (q2, .inr (1, z8)), (q3, .inr (1, z8)), (q4, .inr (1, z8)), (q5, .inr (1, z8))] := hD
  refine lv_iinc (v := 6) (lv' := [(1, .int 6), (0, .ref h0)]) hx hb dX2_init_74 hl (k := 0) rfl (by decide) (by decide) rfl (fun ls hl => ?_)
  refine lv_goto (tgt := 52) hx hb dX2_init_77 (by decide) ?_
  refine lv_iload_n hx hb dX2_init_52 rfl (lv_at hl 0 rfl) ?_
  refine lv_aload_n hx hb dX2_init_53 rfl (lv_at hl 1 rfl) ?_
  refine va_get hx hb hts in_X2_init_20 hown hK hP 0 rfl rfl 0 (by decide) (hts _ k_X2_init_11) (fun _ h9 => h9) rfl dX2_init_54 ?_
  refine va_alen (v := 8) hx hb hK hP 1 0 rfl rfl rfl dX2_init_57 ?_
  refine lv_icmp_ge (tgt := 80) hx hb dX2_init_58 (by decide) (fun cc6 => ?_) (fun cc6 => ?_)
  · exact absurd cc6 (by decide)
  refine lv_aload_n hx hb dX2_init_61 rfl (lv_at hl 1 rfl) ?_
  refine va_get hx hb hts in_X2_init_20 hown hK hP 0 rfl rfl 0 (by decide) (hts _ k_X2_init_11) (fun _ h9 => h9) rfl dX2_init_62 ?_
  refine lv_iload_n hx hb dX2_init_65 rfl (lv_at hl 0 rfl) ?_
  refine va_new (ci := 1) (fs := z8) (C := RX1) (T := TX1) (N := 8) hx hb hts in_X2_init_10 tyX1 tyX1_ok hown (hts _ cl_X2_init) (hts _ ia_X2_init) (hts _ ii_X2_init) hK hP hD hS hA rfl (fun j hj => by rcases (show j = 0 ∨ j = 1 ∨ j = 2 ∨ j = 3 ∨ j = 4 ∨ j = 5 ∨ j = 6 ∨ j = 7 by omega) with rfl | rfl | rfl | rfl | rfl | rfl | rfl | rfl <;> rfl) (Nat.le_of_ble_eq_true rfl) (Nat.le_of_ble_eq_true rfl) dX2_init_66 (fun q6 H hP hD hS => ?_)
  have hP : va_P D vwCl [(h0, .inr (2, z2 (.ref r) 30 10 4 60 10 100)), (r, .inl (ca, 8, .inr (.inr (.inr (.inr (va_up (va_up (va_up (va_up (va_up (va_up (fun _ => none) 0 (some q0)) 1 (some q1)) 2 (some q2)) 3 (some q3)) 4 (some q4)) 5 (some q5))))))), (q0, .inr (1, z8)), (q1, .inr (1, z8)), (q2, .inr (1, z8)), (q3, .inr (1, z8)), (q4, .inr (1, z8)), (q5, .inr (1, z8)), (q6, .inr (1, z8))] H := hP
  have hD : va_D A [(h0, .inr (2, z2 (.ref r) 30 10 4 60 10 100)), (r, .inl (ca, 8, .inr (.inr (.inr (.inr (va_up (va_up (va_up (va_up (va_up (va_up (fun _ => none) 0 (some q0)) 1 (some q1)) 2 (some q2)) 3 (some q3)) 4 (some q4)) 5 (some q5))))))), (q0, .inr (1, z8)), (q1, .inr (1, z8)), (q2, .inr (1, z8)), (q3, .inr (1, z8)), (q4, .inr (1, z8)), (q5, .inr (1, z8)), (q6, .inr (1, z8))] := hD
  refine lv_dup hx hb dX2_init_69 rfl ?_
  have hPc := hP.sub (ws' := [(q6, .inr (1, z8))]) [8] rfl
  have hDc := hD.sub (ws' := [(q6, .inr (1, z8))]) [8] (by decide) rfl
  have hKc := hK.sub (tys' := []) [] rfl
  have hFc := va_free (wc := [(q6, .inr (1, z8))]) hD hS hA [8] rfl
  refine va_callv (va_runIN (As := []) (rest := [.ref q6, .int 6, .ref r]) ⟨hx, hb, hml, hown, hts⟩ (c_X1_init l D q6 H.size) ⟨va_cnB 0 hts gX2_init_X1_init_n36 rfl rfl rfl hnest (hts _ ii_X2_init) ⟨by decide +kernel, by decide +kernel, by decide +kernel⟩ ⟨Nat.le_of_ble_eq_true rfl, Nat.le_of_ble_eq_true rfl⟩, rfl, hts _ im_X2_init⟩ ⟨fun a U g mk q => by obtain ⟨e0, e1, eP, eK, eD⟩ := q; exact ⟨e0, e1, eP, va_K.moved (u := U) (U := U.calling g mk a) (Vm.Alike.refl U.vm) eK, eD⟩, fun U hU hW => ⟨rfl, by rw [hU], by rw [hU]; exact hPc, va_K.moved hW.alike hKc, hDc.weaken (fun _ _ _ _ => trivial)⟩⟩ rfl rfl hl.1 rfl (lv_room (Nat.le_of_ble_eq_true rfl)) dX2_init_70 ⟨Nat.le_of_ble_eq_true rfl, Nat.le_of_ble_eq_true rfl⟩) hS (fun q _ h => hFc q h) hFc (fun u t H1 locs ht hvm h5 hB hz1 hk1 hS => ?_)
  obtain ⟨hP1, hK1, hD1⟩ := hB
  rw [ht] at hP1
  obtain ⟨hP, hD⟩ := va_join (wr := [(h0, .inr (2, z2 (.ref r) 30 10 4 60 10 100)), (r, .inl (ca, 8, .inr (.inr (.inr (.inr (va_up (va_up (va_up (va_up (va_up (va_up (fun _ => none) 0 (some q0)) 1 (some q1)) 2 (some q2)) 3 (some q3)) 4 (some q4)) 5 (some q5))))))), (q0, .inr (1, z8)), (q1, .inr (1, z8)), (q2, .inr (1, z8)), (q3, .inr (1, z8)), (q4, .inr (1, z8)), (q5, .inr (1, z8))]) (w1 := [(q6, .inr (1, z8))]) hP hD [8] [0, 1, 2, 3, 4, 5, 6, 7] rfl rfl (by decide) (by decide) hk1 hFc hP1 hD1
  have hP : va_P D vwCl [(h0, .inr (2, z2 (.ref r) 30 10 4 60 10 100)), (r, .inl (ca, 8, .inr (.inr (.inr (.inr (va_up (va_up (va_up (va_up (va_up (va_up (fun _ => none) 0 (some q0)) 1 (some q1)) 2 (some q2)) 3 (some q3)) 4 (some q4)) 5 (some q5))))))), (q0, .inr (1, z8)), (q1, .inr (1, z8)), (q2, .inr (1, z8)), (q3, .inr (1, z8)), (q4, .inr (1, z8)), (q5, .inr (1, z8)), (q6, .inr (1, z8))] H1 := hP
  have hD : va_D A [(h0, .inr (2, z2 (.ref r) 30 10 4 60 10 100)), (r, .inl (ca, 8, .inr (.inr (.inr (.inr (va_up (va_up (va_up (va_up (va_up (va_up (fun _ => none) 0 (some q0)) 1 (some q1)) 2 (some q2)) 3 (some q3)) 4 (some q4)) 5 (some q5))))))), (q0, .inr (1, z8)), (q1, .inr (1, z8)), (q2, .inr (1, z8)), (q3, .inr (1, z8)), (q4, .inr (1, z8)), (q5, .inr (1, z8)), (q6, .inr (1, z8))] := hD
  refine va_astq hx hb hK hP hD hS 1 0 8 1 rfl rfl rfl rfl (vp_in_nI (n := 6) (N := 8) (by decide) (by decide)) dX2_init_73 (fun H locs hP hD hS => ?_)
  have hP : va_P D vwCl [(h0, .inr (2, z2 (.ref r) 30 10 4 60 10 100)), (r, .inl (ca, 8, .inr (.inr (.inr (.inr (va_up (va_up (va_up (va_up (va_up (va_up (va_up (fun _ => none) 0 (some q0)) 1 (some q1)) 2 (some q2)) 3 (some q3)) 4 (some q4)) 5 (some q5)) 6 (some q6))))))), (q0, .inr (1, z8)), (q1, .inr (1, z8)), (q2, .inr (1, z8)), (q3, .inr (1, z8)), (q4, .inr (1, z8)), (q5, .inr (1, z8)), (q6, .inr (1, z8))] H := hP
  have hD : va_D A [(h0, .inr (2, z2 (.ref r) 30 10 4 60 10 100)), (r, .inl (ca, 8, .inr (.inr (.inr (.inr (va_up (va_up (va_up (va_up (va_up (va_up (va_up (fun _ => none) 0 (some q0)) 1 (some q1)) 2 (some q2)) 3 (some q3)) 4 (some q4)) 5 (some q5)) 6 (some q6))))))), (q0, .inr (1, z8)), (q1, .inr (1, z8)), (q2, .inr (1, z8)), (q3, .inr (1, z8)), (q4, .inr (1, z8)), (q5, .inr (1, z8)), (q6, .inr (1, z8))] := hD
  refine lv_iinc (v := 7) (lv' := [(1, .int 7), (0, .ref h0)]) hx hb dX2_init_74 hl (k := 0) rfl (by decide) (by decide) rfl (fun ls hl => ?_)
  refine lv_goto (tgt := 52) hx hb dX2_init_77 (by decide) ?_
  refine lv_iload_n hx hb dX2_init_52 rfl (lv_at hl 0 rfl) ?_
  refine lv_aload_n hx hb dX2_init_53 rfl (lv_at hl 1 rfl) ?_
  refine va_get hx hb hts in_X2_init_20 hown hK hP 0 rfl rfl 0 (by decide) (hts _ k_X2_init_11) (fun _ h9 => h9) rfl dX2_init_54 ?_
  refine va_alen (v := 8) hx hb hK hP 1 0 rfl rfl rfl dX2_init_57 ?_
  refine lv_icmp_ge (tgt := 80) hx hb dX2_init_58 (by decide) (fun cc7 => ?_) (fun cc7 => ?_)
  · exact absurd cc7 (by decide)
  refine lv_aload_n hx hb dX2_init_61 rfl (lv_at hl 1 rfl) ?_
  refine va_get hx hb hts in_X2_init_20 hown hK hP 0 rfl rfl 0 (by decide) (hts _ k_X2_init_11) (fun _ h9 => h9) rfl dX2_init_62 ?_
  refine lv_iload_n hx hb dX2_init_65 rfl (lv_at hl 0 rfl) ?_
  refine va_new (ci := 1) (fs := z8) (C := RX1) (T := TX1) (N := 8) hx hb hts in_X2_init_10 tyX1 tyX1_ok hown (hts _ cl_X2_init) (hts _ ia_X2_init) (hts _ ii_X2_init) hK hP hD hS hA rfl (fun j hj => by rcases (show j = 0 ∨ j = 1 ∨ j = 2 ∨ j = 3 ∨ j = 4 ∨ j = 5 ∨ j = 6 ∨ j = 7 by omega) with rfl | rfl | rfl | rfl | rfl | rfl | rfl | rfl <;> rfl) (Nat.le_of_ble_eq_true rfl) (Nat.le_of_ble_eq_true rfl) dX2_init_66 (fun q7 H hP hD hS => ?_)
  have hP : va_P D vwCl [(h0, .inr (2, z2 (.ref r) 30 10 4 60 10 100)), (r, .inl (ca, 8, .inr (.inr (.inr (.inr (va_up (va_up (va_up (va_up (va_up (va_up (va_up (fun _ => none) 0 (some q0)) 1 (some q1)) 2 (some q2)) 3 (some q3)) 4 (some q4)) 5 (some q5)) 6 (some q6))))))), (q0, .inr (1, z8)), (q1, .inr (1, z8)), (q2, .inr (1, z8)), (q3, .inr (1, z8)), (q4, .inr (1, z8)), (q5, .inr (1, z8)), (q6, .inr (1, z8)), (q7, .inr (1, z8))] H := hP
  have hD : va_D A [(h0, .inr (2, z2 (.ref r) 30 10 4 60 10 100)), (r, .inl (ca, 8, .inr (.inr (.inr (.inr (va_up (va_up (va_up (va_up (va_up (va_up (va_up (fun _ => none) 0 (some q0)) 1 (some q1)) 2 (some q2)) 3 (some q3)) 4 (some q4)) 5 (some q5)) 6 (some q6))))))), (q0, .inr (1, z8)), (q1, .inr (1, z8)), (q2, .inr (1, z8)), (q3, .inr (1, z8)), (q4, .inr (1, z8)), (q5, .inr (1, z8)), (q6, .inr (1, z8)), (q7, .inr (1, z8))] := hD
  refine lv_dup hx hb dX2_init_69 rfl ?_
  have hPc := hP.sub (ws' := [(q7, .inr (1, z8))]) [9] rfl
  have hDc := hD.sub (ws' := [(q7, .inr (1, z8))]) [9] (by decide) rfl
  have hKc := hK.sub (tys' := []) [] rfl
  have hFc := va_free (wc := [(q7, .inr (1, z8))]) hD hS hA [9] rfl
  refine va_callv (va_runIN (As := []) (rest := [.ref q7, .int 7, .ref r]) ⟨hx, hb, hml, hown, hts⟩ (c_X1_init l D q7 H.size) ⟨va_cnB 0 hts gX2_init_X1_init_n36 rfl rfl rfl hnest (hts _ ii_X2_init) ⟨by decide +kernel, by decide +kernel, by decide +kernel⟩ ⟨Nat.le_of_ble_eq_true rfl, Nat.le_of_ble_eq_true rfl⟩, rfl, hts _ im_X2_init⟩ ⟨fun a U g mk q => by obtain ⟨e0, e1, eP, eK, eD⟩ := q; exact ⟨e0, e1, eP, va_K.moved (u := U) (U := U.calling g mk a) (Vm.Alike.refl U.vm) eK, eD⟩, fun U hU hW => ⟨rfl, by rw [hU], by rw [hU]; exact hPc, va_K.moved hW.alike hKc, hDc.weaken (fun _ _ _ _ => trivial)⟩⟩ rfl rfl hl.1 rfl (lv_room (Nat.le_of_ble_eq_true rfl)) dX2_init_70 ⟨Nat.le_of_ble_eq_true rfl, Nat.le_of_ble_eq_true rfl⟩) hS (fun q _ h => hFc q h) hFc (fun u t H1 locs ht hvm h5 hB hz1 hk1 hS => ?_)
  obtain ⟨hP1, hK1, hD1⟩ := hB
  rw [ht] at hP1
  obtain ⟨hP, hD⟩ := va_join (wr := [(h0, .inr (2, z2 (.ref r) 30 10 4 60 10 100)), (r, .inl (ca, 8, .inr (.inr (.inr (.inr (va_up (va_up (va_up (va_up (va_up (va_up (va_up (fun _ => none) 0 (some q0)) 1 (some q1)) 2 (some q2)) 3 (some q3)) 4 (some q4)) 5 (some q5)) 6 (some q6))))))), (q0, .inr (1, z8)), (q1, .inr (1, z8)), (q2, .inr (1, z8)), (q3, .inr (1, z8)), (q4, .inr (1, z8)), (q5, .inr (1, z8)), (q6, .inr (1, z8))]) (w1 := [(q7, .inr (1, z8))]) hP hD [9] [0, 1, 2, 3, 4, 5, 6, 7, 8] rfl rfl (by decide) (by decide) hk1 hFc hP1 hD1
  have hP : va_P D vwCl [(h0, .inr (2, z2 (.ref r) 30 10 4 60 10 100)), (r, .inl (ca, 8, .inr (.inr (.inr (.inr (va_up (va_up (va_up (va_up (va_up (va_up (va_up (fun _ => none) 0 (some q0)) 1 (some q1)) 2 (some q2)) 3 (some q3)) 4 (some q4)) 5 (some q5)) 6 (some q6))))))), (q0, .inr (1, z8)), (q1, .inr (1, z8)), (q2, .inr (1, z8)), (q3, .inr (1, z8)), (q4, .inr (1, z8)), (q5, .inr (1, z8)), (q6, .inr (1, z8)), (q7, .inr (1, z8))] H1 := hP
  have hD : va_D A [(h0, .inr (2, z2 (.ref r) 30 10 4 60 10 100)), (r, .inl (ca, 8, .inr (.inr (.inr (.inr (va_up (va_up (va_up (va_up (va_up (va_up (va_up (fun _ => none) 0 (some q0)) 1 (some q1)) 2 (some q2)) 3 (some q3)) 4 (some q4)) 5 (some q5)) 6 (some q6))))))), (q0, .inr (1, z8)), (q1, .inr (1, z8)), (q2, .inr (1, z8)), (q3, .inr (1, z8)), (q4, .inr (1, z8)), (q5, .inr (1, z8)), (q6, .inr (1, z8)), (q7, .inr (1, z8))] := hD
  refine va_astq hx hb hK hP hD hS 1 0 9 1 rfl rfl rfl rfl (vp_in_nI (n := 7) (N := 8) (by decide) (by decide)) dX2_init_73 (fun H locs hP hD hS => ?_)
  have hP : va_P D vwCl [(h0, .inr (2, z2 (.ref r) 30 10 4 60 10 100)), (r, .inl (ca, 8, .inr (.inr (.inr (.inr (va_up (va_up (va_up (va_up (va_up (va_up (va_up (va_up (fun _ => none) 0 (some q0)) 1 (some q1)) 2 (some q2)) 3 (some q3)) 4 (some q4)) 5 (some q5)) 6 (some q6)) 7 (some q7))))))), (q0, .inr (1, z8)), (q1, .inr (1, z8)), (q2, .inr (1, z8)), (q3, .inr (1, z8)), (q4, .inr (1, z8)), (q5, .inr (1, z8)), (q6, .inr (1, z8)), (q7, .inr (1, z8))] H := hP
  have hD : va_D A [(h0, .inr (2, z2 (.ref r) 30 10 4 60 10 100)), (r, .inl (ca, 8, .inr (.inr (.inr (.inr (va_up (va_up (va_up (va_up (va_up (va_up (va_up (va_up (fun _ => none) 0 (some q0)) 1 (some q1)) 2 (some q2)) 3 (some q3)) 4 (some q4)) 5 (some q5)) 6 (some q6)) 7 (some q7))))))), (q0, .inr (1, z8)), (q1, .inr (1, z8)), (q2, .inr (1, z8)), (q3, .inr (1, z8)), (q4, .inr (1, z8)), (q5, .inr (1, z8)), (q6, .inr (1, z8)), (q7, .inr (1, z8))] := hD
  refine lv_iinc (v := 8) (lv' := [(1, .int 8), (0, .ref h0)]) hx hb dX2_init_74 hl (k := 0) rfl (by decide) (by decide) rfl (fun ls hl => ?_)
  refine lv_goto (tgt := 52) hx hb dX2_init_77 (by decide) ?_
  refine lv_iload_n hx hb dX2_init_52 rfl (lv_at hl 0 rfl) ?_
  refine lv_aload_n hx hb dX2_init_53 rfl (lv_at hl 1 rfl) ?_
  refine va_get hx hb hts in_X2_init_20 hown hK hP 0 rfl rfl 0 (by decide) (hts _ k_X2_init_11) (fun _ h9 => h9) rfl dX2_init_54 ?_
  refine va_alen (v := 8) hx hb hK hP 1 0 rfl rfl rfl dX2_init_57 ?_
  refine lv_icmp_ge (tgt := 80) hx hb dX2_init_58 (by decide) (fun cc8 => ?_) (fun cc8 => ?_)
  · exact W.vret hx hb hr (fun t ht hW => ⟨⟨(r, ca, q0, q1, q2, q3, q4, q5, q6, q7), rfl, trivial, ⟨by rw [ht]; exact hP, va_K.moved hW.alike hK, hD⟩⟩, hS.F ht⟩) hS.2.2 dX2_init_80
  · exact absurd cc8 (by decide)
end
section
/-! ===== the constructor of the object ===== -/
abbrev z3 (a b d e : Value) : List Value := [a, b, d, .int 0, e, .int 0, .int 0, .int 0, .int 0]
abbrev TS : Type := Nat × ClassId × Nat × Nat × Nat × Nat × Nat × Nat × Nat × Nat
abbrev F8 (u : TS) : Nat → Option Nat := va_up (va_up (va_up (va_up (va_up (va_up (va_up (va_up (fun _ => none) 0 (some u.2.2.1)) 1 (some u.2.2.2.1)) 2 (some u.2.2.2.2.1)) 3 (some u.2.2.2.2.2.1)) 4 (some u.2.2.2.2.2.2.1)) 5 (some u.2.2.2.2.2.2.2.1)) 6 (some u.2.2.2.2.2.2.2.2.1)) 7 (some u.2.2.2.2.2.2.2.2.2)
/-- a State's ten cells -/
abbrev bS (h0 : Nat) (u : TS) : va_W := [(h0, .inr (2, z2 (.ref u.1) 30 10 4 60 10 100)), (u.1, .inl (u.2.1, 8, .inr (.inr (.inr (.inr (F8 u)))))), (u.2.2.1, .inr (1, z8)), (u.2.2.2.1, .inr (1, z8)), (u.2.2.2.2.1, .inr (1, z8)), (u.2.2.2.2.2.1, .inr (1, z8)), (u.2.2.2.2.2.2.1, .inr (1, z8)), (u.2.2.2.2.2.2.2.1, .inr (1, z8)), (u.2.2.2.2.2.2.2.2.1, .inr (1, z8)), (u.2.2.2.2.2.2.2.2.2, .inr (1, z8))]
theorem in_X3_init_20 : ∀ w ∈ wsX20, w ∈ wsX3_init := by decide +kernel
theorem in_X3_init_30 : ∀ w ∈ wsX30, w ∈ wsX3_init := by decide +kernel
theorem in_X3_init_00 : ∀ w ∈ wsX00, w ∈ wsX3_init := by decide +kernel
def PN3 (U : State) : Prop := va_AO RX2 U ∧ PN2 U ∧ va_Nw (.methodLinkNest RX3 25 yX0_init "BellowsRound") U
theorem PN2.moved {U V : State} (hv : U.vm = V.vm) (h : PN2 U) : PN2 V := ⟨va_AO.moved (by rw [← hv]; exact Vm.Alike.refl U.vm) h.1, va_Nw.same rfl hv h.2⟩
theorem PN2.warm {U V : State} (hW : U.WarmedH V.vm) (h : PN2 U) : PN2 V := ⟨va_AO.moved hW.alike h.1, va_Nw.warmM hW h.2⟩
theorem k_X3_init_12 : Cond.fieldLink RX3 12 "BellowsRound" "now" "LBellowsRound$State;" ∈ wsX3_init := by decide +kernel
theorem k_X3_init_16 : Cond.fieldLink RX3 16 "BellowsRound" "trial" "LBellowsRound$State;" ∈ wsX3_init := by decide +kernel
theorem k_X3_init_19 : Cond.fieldLink RX3 19 "BellowsRound" "history" "[LBellowsRound$State;" ∈ wsX3_init := by decide +kernel
theorem k_X3_init_26 : Cond.fieldLink RX3 26 "BellowsRound" "text" "LBellowsRound$OrderText;" ∈ wsX3_init := by decide +kernel
theorem cl9_X3_init : Cond.classLink RX3 9 RX2 ∈ wsX3_init := by decide +kernel
theorem cl23_X3_init : Cond.classLink RX3 23 RX0 ∈ wsX3_init := by decide +kernel
theorem ia2_X3_init : Cond.instantiable RX2 15 ∈ wsX3_init := by decide +kernel
theorem ii2_X3_init : Cond.initialized RX2 ∈ wsX3_init := by decide +kernel
theorem ia0_X3_init : Cond.instantiable RX0 6 ∈ wsX3_init := by decide +kernel
theorem ii0_X3_init : Cond.initialized RX0 ∈ wsX3_init := by decide +kernel
theorem ml2_X3_init : Cond.methodLink RX3 11 yX2_init ∈ wsX3_init := by decide +kernel
theorem im2_X3_init : Cond.instanceMethod yX2_init ∈ wsX3_init := by decide +kernel
theorem im0_X3_init : Cond.instanceMethod yX0_init ∈ wsX3_init := by decide +kernel
set_option maxHeartbeats 16000000 in
set_option maxRecDepth 100000 in
theorem c_X3_init (l : Launch) (D : va_G) (h0 : Nat) (sz : Nat) : Met l yX3_init wsX3_init ({ frames := 3, cells := 63, slots := 592, locals := 53 }) (va_Pc [.ref h0] (fun U => PI D [(h0, .inr (3, z3 .null .null .null .null))] sz U ∧ PN3 U)) (va_Qv (fun _ : (Nat → Nat) × (Nat → TS) × Nat × ClassId × Nat × Nat × ClassId => True) (PO D (va_A [(h0, .inr (3, z3 .null .null .null .null))] sz) (fun u => ((h0, .inr (3, z3 (.ref (u.1 0)) (.ref (u.1 1)) (.ref u.2.2.1) (.ref u.2.2.2.2.1))) :: (bS (u.1 0) (u.2.1 0) ++ (bS (u.1 1) (u.2.1 1) ++ ([(u.2.2.1, .inl (u.2.2.2.1, 4, .inr (.inr (.inr (.inr (va_up (va_up (va_up (va_up (fun _ => none) 0 (some (u.1 2))) 1 (some (u.1 3))) 2 (some (u.1 4))) 3 (some (u.1 5)))))))), (u.2.2.2.2.1, .inr (0, z0 (.ref u.2.2.2.2.2.1))), (u.2.2.2.2.2.1, .inl (u.2.2.2.2.2.2, 60, .inl (fun _ => 0)))] ++ (bS (u.1 2) (u.2.1 2) ++ (bS (u.1 3) (u.2.1 3) ++ (bS (u.1 4) (u.2.1 4) ++ bS (u.1 5) (u.2.1 5))))))))) (fun u => [((u.2.1 0).2.1, .object RX1), ((u.2.1 1).2.1, .object RX1), (u.2.2.2.1, .object RX2), (u.2.2.2.2.2.2, .char), ((u.2.1 2).2.1, .object RX1), ((u.2.1 3).2.1, .object RX1), ((u.2.1 4).2.1, .object RX1), ((u.2.1 5).2.1, .object RX1)])) (va_A [(h0, .inr (3, z3 .null .null .null .null))] sz)) 63 592 (va_A [(h0, .inr (3, z3 .null .null .null .null))] sz) := by
  refine Met.ofW (cc := cX3_init) (maxL := 2) (ret := none) (by decide +kernel) rfl ?_
  intro p e s m args below meth c s₁ B hml hv
  obtain ⟨rfl, ⟨hsz, hP, hK, hD0⟩, hao, hn2, hnest⟩ := hv
  have hx := B.exec
  have hb := B.bytes
  have hr := B.returns
  have hts := atoms_spec (ws := wsX3_init) B.pre
  have hown : s.vm.findClass RX3 = some m.cls := findClass_of_methodNamed B.named
  have hin : meth.name = "<init>" := (name_of_methodNamed B.named B.method).1
  subst hsz
  have hD := hD0.self (sz := s.heap.size)
  generalize hAe : va_A [(h0, .inr (3, z3 .null .null .null .null))] s.heap.size = A at hD ⊢
  have hA : ∀ q : Nat, s.heap.size ≤ q → A q := fun q h => by rw [← hAe]; exact Or.inr h
  have hS : va_S A s.heap s.heap [] := va_S.rf
  have hl := lv_entry ([.ref h0]) (n := 2) (Nat.le_of_ble_eq_true rfl)
  rw [lg_entry_eq]
  generalize (lg_sl ([.ref h0]) ++ List.replicate (2 - (lg_sl ([.ref h0])).length) Slot.unset).toArray = ls at hl ⊢
  have hl : lv_has ls 2 [(0, .ref h0)] := hl
  refine lv_aload_n hx hb dX3_init_0 rfl (lv_at hl 0 rfl) ?_
  refine W.objInit hx hb hown (hts (.methodLink RX3 3 objectInit) (by decide +kernel)) (hts (.instanceMethod objectInit) (by decide +kernel)) (hts (.code objectInit ⟨#[0xb1]⟩ 1 none) (List.mem_of_getElem? (i := 3) rfl)) rfl (by rw [hml]; exact hl.1) rfl dX3_init_1 (Nat.le_of_ble_eq_true rfl) (Nat.le_of_ble_eq_true rfl) ?_
  refine W.eq (g2 := F0 m 4 ls []) rfl ?_
  refine lv_aload_n hx hb dX3_init_4 rfl (lv_at hl 0 rfl) ?_
  refine va_new (ci := 2) (fs := z2 .null 0 0 0 0 0 0) (C := RX2) (T := TX2) (N := 15) hx hb hts in_X3_init_20 tyX2 tyX2_ok hown (hts _ cl9_X3_init) (hts _ ia2_X3_init) (hts _ ii2_X3_init) hK hP hD hS hA rfl (fun j hj => by rcases (show j = 0 ∨ j = 1 ∨ j = 2 ∨ j = 3 ∨ j = 4 ∨ j = 5 ∨ j = 6 ∨ j = 7 ∨ j = 8 ∨ j = 9 ∨ j = 10 ∨ j = 11 ∨ j = 12 ∨ j = 13 ∨ j = 14 by omega) with rfl | rfl | rfl | rfl | rfl | rfl | rfl | rfl | rfl | rfl | rfl | rfl | rfl | rfl | rfl <;> rfl) (Nat.le_of_ble_eq_true rfl) (Nat.le_of_ble_eq_true rfl) dX3_init_5 (fun s0 H hP hD hS => ?_)
  have hP : va_P D vwCl ((h0, .inr (3, z3 .null .null .null .null)) :: ([(s0, .inr (2, z2 .null 0 0 0 0 0 0))])) H := hP
  have hD : va_D A ((h0, .inr (3, z3 .null .null .null .null)) :: ([(s0, .inr (2, z2 .null 0 0 0 0 0 0))])) := hD
  refine lv_dup hx hb dX3_init_8 rfl ?_
  have hPc := hP.sub (ws' := [(s0, .inr (2, z2 .null 0 0 0 0 0 0))]) [1] rfl
  have hDc := hD.sub (ws' := [(s0, .inr (2, z2 .null 0 0 0 0 0 0))]) [1] (by decide) rfl
  have hKc := hK.sub (tys' := []) [] rfl
  have hFc := va_free (wc := [(s0, .inr (2, z2 .null 0 0 0 0 0 0))]) hD hS hA [1] rfl
  refine va_callv (va_runI (As := []) (rest := [.ref s0, .ref h0]) ⟨hx, hb, hml, hown, hts⟩ (c_X2_init l D s0 H.size) (cwI 0 hts gX3_init_X2_init rfl rfl rfl (hts _ ii2_X3_init) (hts _ ml2_X3_init) (hts _ im2_X3_init) rfl (by decide +kernel) ⟨Nat.le_of_ble_eq_true rfl, Nat.le_of_ble_eq_true rfl⟩) ⟨fun a U g mk q => by obtain ⟨e0, ⟨e1, eP, eK, eD⟩, e5⟩ := q; exact ⟨e0, ⟨e1, eP, va_K.moved (u := U) (U := U.calling g mk a) (Vm.Alike.refl U.vm) eK, eD⟩, PN2.moved rfl e5⟩, fun U hU hW => ⟨rfl, ⟨by rw [hU], by rw [hU]; exact hPc, va_K.moved hW.alike hKc, hDc.weaken (fun _ _ _ _ => trivial)⟩, PN2.warm hW hn2⟩⟩ rfl rfl hl.1 rfl (lv_room (Nat.le_of_ble_eq_true rfl)) dX3_init_9 ⟨Nat.le_of_ble_eq_true rfl, Nat.le_of_ble_eq_true rfl⟩) hS (fun q _ h => hFc q h) hFc (fun u0 t H1 locs ht hvm h5 hB hz1 hk1 hS => ?_)
  obtain ⟨hP1, hK1, hD1⟩ := hB
  rw [ht] at hP1
  have hK1 := va_K.moved hvm.symm hK1
  obtain ⟨hP, hD⟩ := va_join (wr := ((h0, .inr (3, z3 .null .null .null .null)) :: (([] : va_W)))) (w1 := bS s0 u0) hP hD [1] (List.range 1) rfl rfl (by decide) (by decide) hk1 hFc hP1 hD1
  have hK := hK.app hK1
  have hP : va_P D vwCl ((h0, .inr (3, z3 .null .null .null .null)) :: (bS s0 u0)) H1 := hP
  have hD : va_D A ((h0, .inr (3, z3 .null .null .null .null)) :: (bS s0 u0)) := hD
  refine va_put (ci := 3) (v := .ref s0) (ty := .object RX2) (C := RX3) (T := TX3) (N := 9) hx hb hts in_X3_init_30 tyX3 tyX3_ok nmX3 hown hK hP hD hS 0 rfl rfl 0 (by decide) (hts _ k_X3_init_12) (fun _ h9 => h9) rfl (by decide +kernel) rfl rfl (Nat.le_of_ble_eq_true rfl) dX3_init_12 (fun H locs hP hD hS => ?_)
  have hP : va_P D vwCl ((h0, .inr (3, z3 (.ref s0) .null .null .null)) :: (bS s0 u0)) H := hP
  have hD : va_D A ((h0, .inr (3, z3 (.ref s0) .null .null .null)) :: (bS s0 u0)) := hD
  refine lv_aload_n hx hb dX3_init_15 rfl (lv_at hl 0 rfl) ?_
  refine va_new (ci := 2) (fs := z2 .null 0 0 0 0 0 0) (C := RX2) (T := TX2) (N := 15) hx hb hts in_X3_init_20 tyX2 tyX2_ok hown (hts _ cl9_X3_init) (hts _ ia2_X3_init) (hts _ ii2_X3_init) hK hP hD hS hA rfl (fun j hj => by rcases (show j = 0 ∨ j = 1 ∨ j = 2 ∨ j = 3 ∨ j = 4 ∨ j = 5 ∨ j = 6 ∨ j = 7 ∨ j = 8 ∨ j = 9 ∨ j = 10 ∨ j = 11 ∨ j = 12 ∨ j = 13 ∨ j = 14 by omega) with rfl | rfl | rfl | rfl | rfl | rfl | rfl | rfl | rfl | rfl | rfl | rfl | rfl | rfl | rfl <;> rfl) (Nat.le_of_ble_eq_true rfl) (Nat.le_of_ble_eq_true rfl) dX3_init_16 (fun s1 H hP hD hS => ?_)
  have hP : va_P D vwCl ((h0, .inr (3, z3 (.ref s0) .null .null .null)) :: (bS s0 u0 ++ [(s1, .inr (2, z2 .null 0 0 0 0 0 0))])) H := hP
  have hD : va_D A ((h0, .inr (3, z3 (.ref s0) .null .null .null)) :: (bS s0 u0 ++ [(s1, .inr (2, z2 .null 0 0 0 0 0 0))])) := hD
  refine lv_dup hx hb dX3_init_19 rfl ?_
  have hPc := hP.sub (ws' := [(s1, .inr (2, z2 .null 0 0 0 0 0 0))]) [11] rfl
  have hDc := hD.sub (ws' := [(s1, .inr (2, z2 .null 0 0 0 0 0 0))]) [11] (by decide) rfl
  have hKc := hK.sub (tys' := []) [] rfl
  have hFc := va_free (wc := [(s1, .inr (2, z2 .null 0 0 0 0 0 0))]) hD hS hA [11] rfl
  refine va_callv (va_runI (As := []) (rest := [.ref s1, .ref h0]) ⟨hx, hb, hml, hown, hts⟩ (c_X2_init l D s1 H.size) (cwI 0 hts gX3_init_X2_init rfl rfl rfl (hts _ ii2_X3_init) (hts _ ml2_X3_init) (hts _ im2_X3_init) rfl (by decide +kernel) ⟨Nat.le_of_ble_eq_true rfl, Nat.le_of_ble_eq_true rfl⟩) ⟨fun a U g mk q => by obtain ⟨e0, ⟨e1, eP, eK, eD⟩, e5⟩ := q; exact ⟨e0, ⟨e1, eP, va_K.moved (u := U) (U := U.calling g mk a) (Vm.Alike.refl U.vm) eK, eD⟩, PN2.moved rfl e5⟩, fun U hU hW => ⟨rfl, ⟨by rw [hU], by rw [hU]; exact hPc, va_K.moved hW.alike hKc, hDc.weaken (fun _ _ _ _ => trivial)⟩, PN2.warm hW hn2⟩⟩ rfl rfl hl.1 rfl (lv_room (Nat.le_of_ble_eq_true rfl)) dX3_init_20 ⟨Nat.le_of_ble_eq_true rfl, Nat.le_of_ble_eq_true rfl⟩) hS (fun q _ h => hFc q h) hFc (fun u1 t H1 locs ht hvm h5 hB hz1 hk1 hS => ?_)
  obtain ⟨hP1, hK1, hD1⟩ := hB
  rw [ht] at hP1
  have hK1 := va_K.moved hvm.symm hK1
  obtain ⟨hP, hD⟩ := va_join (wr := ((h0, .inr (3, z3 (.ref s0) .null .null .null)) :: (bS s0 u0))) (w1 := bS s1 u1) hP hD [11] (List.range 11) rfl rfl (by decide) (by decide) hk1 hFc hP1 hD1
  have hK := hK.app hK1
  have hP : va_P D vwCl ((h0, .inr (3, z3 (.ref s0) .null .null .null)) :: (bS s0 u0 ++ bS s1 u1)) H1 := hP
  have hD : va_D A ((h0, .inr (3, z3 (.ref s0) .null .null .null)) :: (bS s0 u0 ++ bS s1 u1)) := hD
  refine va_put (ci := 3) (v := .ref s1) (ty := .object RX2) (C := RX3) (T := TX3) (N := 9) hx hb hts in_X3_init_30 tyX3 tyX3_ok nmX3 hown hK hP hD hS 0 rfl rfl 1 (by decide) (hts _ k_X3_init_16) (fun _ h9 => h9) rfl (by decide +kernel) rfl rfl (Nat.le_of_ble_eq_true rfl) dX3_init_23 (fun H locs hP hD hS => ?_)
  have hP : va_P D vwCl ((h0, .inr (3, z3 (.ref s0) (.ref s1) .null .null)) :: (bS s0 u0 ++ bS s1 u1)) H := hP
  have hD : va_D A ((h0, .inr (3, z3 (.ref s0) (.ref s1) .null .null)) :: (bS s0 u0 ++ bS s1 u1)) := hD
  refine lv_aload_n hx hb dX3_init_26 rfl (lv_at hl 0 rfl) ?_
  refine lv_iconst (v := 4) hx hb dX3_init_27 (by decide) ?_
  refine va_newq (C := RX2) hx hb hown (hts _ cl9_X3_init) hao hK hP hD hS hA (by decide) (show (4 : Int32).toNatClampNeg = 4 by decide) (by decide) (Nat.le_of_ble_eq_true rfl) (Nat.le_of_ble_eq_true rfl) dX3_init_28 (fun hr0 ha H hK hP hD hS => ?_)
  refine va_putF (ci := 3) (v := .ref hr0) (ty := .array (.object RX2)) (C := RX3) (T := TX3) (N := 9) hx hb hts in_X3_init_30 tyX3 tyX3_ok nmX3 hown hK hP hD hS 0 rfl rfl 2 (by decide) (hts _ k_X3_init_19) (fun _ h9 => h9) rfl hin rfl (by decide +kernel) rfl rfl (Nat.le_of_ble_eq_true rfl) dX3_init_31 (fun H locs hP hD hS => ?_)
  have hP : va_P D vwCl ((h0, .inr (3, z3 (.ref s0) (.ref s1) (.ref hr0) .null)) :: (bS s0 u0 ++ bS s1 u1 ++ [(hr0, .inl (ha, 4, .inr (.inr (.inr (.inr (fun _ => none))))))])) H := hP
  have hD : va_D A ((h0, .inr (3, z3 (.ref s0) (.ref s1) (.ref hr0) .null)) :: (bS s0 u0 ++ bS s1 u1 ++ [(hr0, .inl (ha, 4, .inr (.inr (.inr (.inr (fun _ => none))))))])) := hD
  refine lv_aload_n hx hb dX3_init_34 rfl (lv_at hl 0 rfl) ?_
  refine va_new (ci := 0) (fs := z0 .null) (C := RX0) (T := TX0) (N := 6) hx hb hts in_X3_init_00 tyX0 tyX0_ok hown (hts _ cl23_X3_init) (hts _ ia0_X3_init) (hts _ ii0_X3_init) hK hP hD hS hA rfl (fun j hj => by rcases (show j = 0 ∨ j = 1 ∨ j = 2 ∨ j = 3 ∨ j = 4 ∨ j = 5 by omega) with rfl | rfl | rfl | rfl | rfl | rfl <;> rfl) (Nat.le_of_ble_eq_true rfl) (Nat.le_of_ble_eq_true rfl) dX3_init_35 (fun tx0 H hP hD hS => ?_)
  have hP : va_P D vwCl ((h0, .inr (3, z3 (.ref s0) (.ref s1) (.ref hr0) .null)) :: (bS s0 u0 ++ bS s1 u1 ++ [(hr0, .inl (ha, 4, .inr (.inr (.inr (.inr (fun _ => none))))))] ++ [(tx0, .inr (0, z0 .null))])) H := hP
  have hD : va_D A ((h0, .inr (3, z3 (.ref s0) (.ref s1) (.ref hr0) .null)) :: (bS s0 u0 ++ bS s1 u1 ++ [(hr0, .inl (ha, 4, .inr (.inr (.inr (.inr (fun _ => none))))))] ++ [(tx0, .inr (0, z0 .null))])) := hD
  refine lv_dup hx hb dX3_init_38 rfl ?_
  have hPc := hP.sub (ws' := [(tx0, .inr (0, z0 .null))]) [22] rfl
  have hDc := hD.sub (ws' := [(tx0, .inr (0, z0 .null))]) [22] (by decide) rfl
  have hKc := hK.sub (tys' := []) [] rfl
  have hFc := va_free (wc := [(tx0, .inr (0, z0 .null))]) hD hS hA [22] rfl
  refine va_callv (va_runIN (As := []) (rest := [.ref tx0, .ref h0]) ⟨hx, hb, hml, hown, hts⟩ (c_X0_init l D tx0 H.size) ⟨va_cnB 0 hts gX3_init_X0_init_n25 rfl rfl rfl hnest (hts _ ii0_X3_init) ⟨by decide +kernel, by decide +kernel, by decide +kernel⟩ ⟨Nat.le_of_ble_eq_true rfl, Nat.le_of_ble_eq_true rfl⟩, rfl, hts _ im0_X3_init⟩ ⟨fun a U g mk q => by obtain ⟨e0, e1, eP, eK, eD⟩ := q; exact ⟨e0, e1, eP, va_K.moved (u := U) (U := U.calling g mk a) (Vm.Alike.refl U.vm) eK, eD⟩, fun U hU hW => ⟨rfl, by rw [hU], by rw [hU]; exact hPc, va_K.moved hW.alike hKc, hDc.weaken (fun _ _ _ _ => trivial)⟩⟩ rfl rfl hl.1 rfl (lv_room (Nat.le_of_ble_eq_true rfl)) dX3_init_39 ⟨Nat.le_of_ble_eq_true rfl, Nat.le_of_ble_eq_true rfl⟩) hS (fun q _ h => hFc q h) hFc (fun ut t H1 locs ht hvm h5 hB hz1 hk1 hS => ?_)
  obtain ⟨hP1, hK1, hD1⟩ := hB
  rw [ht] at hP1
  have hK1 := va_K.moved hvm.symm hK1
  obtain ⟨hP, hD⟩ := va_join (wr := ((h0, .inr (3, z3 (.ref s0) (.ref s1) (.ref hr0) .null)) :: (bS s0 u0 ++ bS s1 u1 ++ [(hr0, .inl (ha, 4, .inr (.inr (.inr (.inr (fun _ => none))))))]))) (w1 := [(tx0, .inr (0, z0 (.ref ut.1))), (ut.1, .inl (ut.2, 60, .inl (fun _ => 0)))]) hP hD [22] (List.range 22) rfl rfl (by decide) (by decide) hk1 hFc hP1 hD1
  have hK := hK.app hK1
  have hP : va_P D vwCl ((h0, .inr (3, z3 (.ref s0) (.ref s1) (.ref hr0) .null)) :: (bS s0 u0 ++ bS s1 u1 ++ [(hr0, .inl (ha, 4, .inr (.inr (.inr (.inr (fun _ => none))))))] ++ [(tx0, .inr (0, z0 (.ref ut.1))), (ut.1, .inl (ut.2, 60, .inl (fun _ => 0)))])) H1 := hP
  have hD : va_D A ((h0, .inr (3, z3 (.ref s0) (.ref s1) (.ref hr0) .null)) :: (bS s0 u0 ++ bS s1 u1 ++ [(hr0, .inl (ha, 4, .inr (.inr (.inr (.inr (fun _ => none))))))] ++ [(tx0, .inr (0, z0 (.ref ut.1))), (ut.1, .inl (ut.2, 60, .inl (fun _ => 0)))])) := hD
  refine va_putF (ci := 3) (v := .ref tx0) (ty := .object RX0) (C := RX3) (T := TX3) (N := 9) hx hb hts in_X3_init_30 tyX3 tyX3_ok nmX3 hown hK hP hD hS 0 rfl rfl 4 (by decide) (hts _ k_X3_init_26) (fun _ h9 => h9) rfl hin rfl (by decide +kernel) rfl rfl (Nat.le_of_ble_eq_true rfl) dX3_init_42 (fun H locs hP hD hS => ?_)
  have hP : va_P D vwCl ((h0, .inr (3, z3 (.ref s0) (.ref s1) (.ref hr0) (.ref tx0))) :: (bS s0 u0 ++ bS s1 u1 ++ [(hr0, .inl (ha, 4, .inr (.inr (.inr (.inr (fun _ => none))))))] ++ [(tx0, .inr (0, z0 (.ref ut.1))), (ut.1, .inl (ut.2, 60, .inl (fun _ => 0)))])) H := hP
  have hD : va_D A ((h0, .inr (3, z3 (.ref s0) (.ref s1) (.ref hr0) (.ref tx0))) :: (bS s0 u0 ++ bS s1 u1 ++ [(hr0, .inl (ha, 4, .inr (.inr (.inr (.inr (fun _ => none))))))] ++ [(tx0, .inr (0, z0 (.ref ut.1))), (ut.1, .inl (ut.2, 60, .inl (fun _ => 0)))])) := hD
  refine lv_iconst (v := 0) hx hb dX3_init_45 (by decide) ?_
  refine lv_istore_n (lv' := [(1, .int 0), (0, .ref h0)]) hx hb dX3_init_46 rfl hl (by decide) rfl (fun ls hl => ?_)
  refine lv_iload_n hx hb dX3_init_47 rfl (lv_at hl 0 rfl) ?_
  refine lv_aload_n hx hb dX3_init_48 rfl (lv_at hl 1 rfl) ?_
  refine va_get hx hb hts in_X3_init_30 hown hK hP 0 rfl rfl 2 (by decide) (hts _ k_X3_init_19) (fun _ h9 => h9) rfl dX3_init_49 ?_
  refine va_alen (v := 4) hx hb hK hP 21 2 rfl rfl rfl dX3_init_52 ?_
  refine lv_icmp_ge (tgt := 75) hx hb dX3_init_53 (by decide) (fun cc0 => ?_) (fun cc0 => ?_)
  · exact absurd cc0 (by decide)
  refine lv_aload_n hx hb dX3_init_56 rfl (lv_at hl 1 rfl) ?_
  refine va_get hx hb hts in_X3_init_30 hown hK hP 0 rfl rfl 2 (by decide) (hts _ k_X3_init_19) (fun _ h9 => h9) rfl dX3_init_57 ?_
  refine lv_iload_n hx hb dX3_init_60 rfl (lv_at hl 0 rfl) ?_
  refine va_new (ci := 2) (fs := z2 .null 0 0 0 0 0 0) (C := RX2) (T := TX2) (N := 15) hx hb hts in_X3_init_20 tyX2 tyX2_ok hown (hts _ cl9_X3_init) (hts _ ia2_X3_init) (hts _ ii2_X3_init) hK hP hD hS hA rfl (fun j hj => by rcases (show j = 0 ∨ j = 1 ∨ j = 2 ∨ j = 3 ∨ j = 4 ∨ j = 5 ∨ j = 6 ∨ j = 7 ∨ j = 8 ∨ j = 9 ∨ j = 10 ∨ j = 11 ∨ j = 12 ∨ j = 13 ∨ j = 14 by omega) with rfl | rfl | rfl | rfl | rfl | rfl | rfl | rfl | rfl | rfl | rfl | rfl | rfl | rfl | rfl <;> rfl) (Nat.le_of_ble_eq_true rfl) (Nat.le_of_ble_eq_true rfl) dX3_init_61 (fun s2 H hP hD hS => ?_)
  have hP : va_P D vwCl ((h0, .inr (3, z3 (.ref s0) (.ref s1) (.ref hr0) (.ref tx0))) :: (bS s0 u0 ++ bS s1 u1 ++ [(hr0, .inl (ha, 4, .inr (.inr (.inr (.inr (fun _ => none))))))] ++ [(tx0, .inr (0, z0 (.ref ut.1))), (ut.1, .inl (ut.2, 60, .inl (fun _ => 0)))] ++ [(s2, .inr (2, z2 .null 0 0 0 0 0 0))])) H := hP
  have hD : va_D A ((h0, .inr (3, z3 (.ref s0) (.ref s1) (.ref hr0) (.ref tx0))) :: (bS s0 u0 ++ bS s1 u1 ++ [(hr0, .inl (ha, 4, .inr (.inr (.inr (.inr (fun _ => none))))))] ++ [(tx0, .inr (0, z0 (.ref ut.1))), (ut.1, .inl (ut.2, 60, .inl (fun _ => 0)))] ++ [(s2, .inr (2, z2 .null 0 0 0 0 0 0))])) := hD
  refine lv_dup hx hb dX3_init_64 rfl ?_
  have hPc := hP.sub (ws' := [(s2, .inr (2, z2 .null 0 0 0 0 0 0))]) [24] rfl
  have hDc := hD.sub (ws' := [(s2, .inr (2, z2 .null 0 0 0 0 0 0))]) [24] (by decide) rfl
  have hKc := hK.sub (tys' := []) [] rfl
  have hFc := va_free (wc := [(s2, .inr (2, z2 .null 0 0 0 0 0 0))]) hD hS hA [24] rfl
  refine va_callv (va_runI (As := []) (rest := [.ref s2, .int 0, .ref hr0]) ⟨hx, hb, hml, hown, hts⟩ (c_X2_init l D s2 H.size) (cwI 0 hts gX3_init_X2_init rfl rfl rfl (hts _ ii2_X3_init) (hts _ ml2_X3_init) (hts _ im2_X3_init) rfl (by decide +kernel) ⟨Nat.le_of_ble_eq_true rfl, Nat.le_of_ble_eq_true rfl⟩) ⟨fun a U g mk q => by obtain ⟨e0, ⟨e1, eP, eK, eD⟩, e5⟩ := q; exact ⟨e0, ⟨e1, eP, va_K.moved (u := U) (U := U.calling g mk a) (Vm.Alike.refl U.vm) eK, eD⟩, PN2.moved rfl e5⟩, fun U hU hW => ⟨rfl, ⟨by rw [hU], by rw [hU]; exact hPc, va_K.moved hW.alike hKc, hDc.weaken (fun _ _ _ _ => trivial)⟩, PN2.warm hW hn2⟩⟩ rfl rfl hl.1 rfl (lv_room (Nat.le_of_ble_eq_true rfl)) dX3_init_65 ⟨Nat.le_of_ble_eq_true rfl, Nat.le_of_ble_eq_true rfl⟩) hS (fun q _ h => hFc q h) hFc (fun u2 t H1 locs ht hvm h5 hB hz1 hk1 hS => ?_)
  obtain ⟨hP1, hK1, hD1⟩ := hB
  rw [ht] at hP1
  have hK1 := va_K.moved hvm.symm hK1
  obtain ⟨hP, hD⟩ := va_join (wr := ((h0, .inr (3, z3 (.ref s0) (.ref s1) (.ref hr0) (.ref tx0))) :: (bS s0 u0 ++ bS s1 u1 ++ [(hr0, .inl (ha, 4, .inr (.inr (.inr (.inr (fun _ => none))))))] ++ [(tx0, .inr (0, z0 (.ref ut.1))), (ut.1, .inl (ut.2, 60, .inl (fun _ => 0)))]))) (w1 := bS s2 u2) hP hD [24] (List.range 24) rfl rfl (by decide) (by decide) hk1 hFc hP1 hD1
  have hK := hK.app hK1
  have hP : va_P D vwCl ((h0, .inr (3, z3 (.ref s0) (.ref s1) (.ref hr0) (.ref tx0))) :: (bS s0 u0 ++ bS s1 u1 ++ [(hr0, .inl (ha, 4, .inr (.inr (.inr (.inr (fun _ => none))))))] ++ [(tx0, .inr (0, z0 (.ref ut.1))), (ut.1, .inl (ut.2, 60, .inl (fun _ => 0)))] ++ bS s2 u2)) H1 := hP
  have hD : va_D A ((h0, .inr (3, z3 (.ref s0) (.ref s1) (.ref hr0) (.ref tx0))) :: (bS s0 u0 ++ bS s1 u1 ++ [(hr0, .inl (ha, 4, .inr (.inr (.inr (.inr (fun _ => none))))))] ++ [(tx0, .inr (0, z0 (.ref ut.1))), (ut.1, .inl (ut.2, 60, .inl (fun _ => 0)))] ++ bS s2 u2)) := hD
  refine va_astq hx hb hK hP hD hS 21 2 24 2 rfl rfl rfl rfl (vp_in_nI (n := 0) (N := 4) (by decide) (by decide)) dX3_init_68 (fun H locs hP hD hS => ?_)
  have hP : va_P D vwCl ((h0, .inr (3, z3 (.ref s0) (.ref s1) (.ref hr0) (.ref tx0))) :: (bS s0 u0 ++ bS s1 u1 ++ [(hr0, .inl (ha, 4, .inr (.inr (.inr (.inr (va_up (fun _ => none) 0 (some s2)))))))] ++ [(tx0, .inr (0, z0 (.ref ut.1))), (ut.1, .inl (ut.2, 60, .inl (fun _ => 0)))] ++ bS s2 u2)) H := hP
  have hD : va_D A ((h0, .inr (3, z3 (.ref s0) (.ref s1) (.ref hr0) (.ref tx0))) :: (bS s0 u0 ++ bS s1 u1 ++ [(hr0, .inl (ha, 4, .inr (.inr (.inr (.inr (va_up (fun _ => none) 0 (some s2)))))))] ++ [(tx0, .inr (0, z0 (.ref ut.1))), (ut.1, .inl (ut.2, 60, .inl (fun _ => 0)))] ++ bS s2 u2)) := hD
  refine lv_iinc (v := 1) (lv' := [(1, .int 1), (0, .ref h0)]) hx hb dX3_init_69 hl (k := 0) rfl (by decide) (by decide) rfl (fun ls hl => ?_)
  refine lv_goto (tgt := 47) hx hb dX3_init_72 (by decide) ?_
  refine lv_iload_n hx hb dX3_init_47 rfl (lv_at hl 0 rfl) ?_
  refine lv_aload_n hx hb dX3_init_48 rfl (lv_at hl 1 rfl) ?_
  refine va_get hx hb hts in_X3_init_30 hown hK hP 0 rfl rfl 2 (by decide) (hts _ k_X3_init_19) (fun _ h9 => h9) rfl dX3_init_49 ?_
  refine va_alen (v := 4) hx hb hK hP 21 2 rfl rfl rfl dX3_init_52 ?_
  refine lv_icmp_ge (tgt := 75) hx hb dX3_init_53 (by decide) (fun cc1 => ?_) (fun cc1 => ?_)
  · exact absurd cc1 (by decide)
  refine lv_aload_n hx hb dX3_init_56 rfl (lv_at hl 1 rfl) ?_
  refine va_get hx hb hts in_X3_init_30 hown hK hP 0 rfl rfl 2 (by decide) (hts _ k_X3_init_19) (fun _ h9 => h9) rfl dX3_init_57 ?_
  refine lv_iload_n hx hb dX3_init_60 rfl (lv_at hl 0 rfl) ?_
  refine va_new (ci := 2) (fs := z2 .null 0 0 0 0 0 0) (C := RX2) (T := TX2) (N := 15) hx hb hts in_X3_init_20 tyX2 tyX2_ok hown (hts _ cl9_X3_init) (hts _ ia2_X3_init) (hts _ ii2_X3_init) hK hP hD hS hA rfl (fun j hj => by rcases (show j = 0 ∨ j = 1 ∨ j = 2 ∨ j = 3 ∨ j = 4 ∨ j = 5 ∨ j = 6 ∨ j = 7 ∨ j = 8 ∨ j = 9 ∨ j = 10 ∨ j = 11 ∨ j = 12 ∨ j = 13 ∨ j = 14 by omega) with rfl | rfl | rfl | rfl | rfl | rfl | rfl | rfl | rfl | rfl | rfl | rfl | rfl | rfl | rfl <;> rfl) (Nat.le_of_ble_eq_true rfl) (Nat.le_of_ble_eq_true rfl) dX3_init_61 (fun s3 H hP hD hS => ?_)
  have hP : va_P D vwCl ((h0, .inr (3, z3 (.ref s0) (.ref s1) (.ref hr0) (.ref tx0))) :: (bS s0 u0 ++ bS s1 u1 ++ [(hr0, .inl (ha, 4, .inr (.inr (.inr (.inr (va_up (fun _ => none) 0 (some s2)))))))] ++ [(tx0, .inr (0, z0 (.ref ut.1))), (ut.1, .inl (ut.2, 60, .inl (fun _ => 0)))] ++ bS s2 u2 ++ [(s3, .inr (2, z2 .null 0 0 0 0 0 0))])) H := hP
  have hD : va_D A ((h0, .inr (3, z3 (.ref s0) (.ref s1) (.ref hr0) (.ref tx0))) :: (bS s0 u0 ++ bS s1 u1 ++ [(hr0, .inl (ha, 4, .inr (.inr (.inr (.inr (va_up (fun _ => none) 0 (some s2)))))))] ++ [(tx0, .inr (0, z0 (.ref ut.1))), (ut.1, .inl (ut.2, 60, .inl (fun _ => 0)))] ++ bS s2 u2 ++ [(s3, .inr (2, z2 .null 0 0 0 0 0 0))])) := hD
  refine lv_dup hx hb dX3_init_64 rfl ?_
  have hPc := hP.sub (ws' := [(s3, .inr (2, z2 .null 0 0 0 0 0 0))]) [34] rfl
  have hDc := hD.sub (ws' := [(s3, .inr (2, z2 .null 0 0 0 0 0 0))]) [34] (by decide) rfl
  have hKc := hK.sub (tys' := []) [] rfl
  have hFc := va_free (wc := [(s3, .inr (2, z2 .null 0 0 0 0 0 0))]) hD hS hA [34] rfl
  refine va_callv (va_runI (As := []) (rest := [.ref s3, .int 1, .ref hr0]) ⟨hx, hb, hml, hown, hts⟩ (c_X2_init l D s3 H.size) (cwI 0 hts gX3_init_X2_init rfl rfl rfl (hts _ ii2_X3_init) (hts _ ml2_X3_init) (hts _ im2_X3_init) rfl (by decide +kernel) ⟨Nat.le_of_ble_eq_true rfl, Nat.le_of_ble_eq_true rfl⟩) ⟨fun a U g mk q => by obtain ⟨e0, ⟨e1, eP, eK, eD⟩, e5⟩ := q; exact ⟨e0, ⟨e1, eP, va_K.moved (u := U) (U := U.calling g mk a) (Vm.Alike.refl U.vm) eK, eD⟩, PN2.moved rfl e5⟩, fun U hU hW => ⟨rfl, ⟨by rw [hU], by rw [hU]; exact hPc, va_K.moved hW.alike hKc, hDc.weaken (fun _ _ _ _ => trivial)⟩, PN2.warm hW hn2⟩⟩ rfl rfl hl.1 rfl (lv_room (Nat.le_of_ble_eq_true rfl)) dX3_init_65 ⟨Nat.le_of_ble_eq_true rfl, Nat.le_of_ble_eq_true rfl⟩) hS (fun q _ h => hFc q h) hFc (fun u3 t H1 locs ht hvm h5 hB hz1 hk1 hS => ?_)
  obtain ⟨hP1, hK1, hD1⟩ := hB
  rw [ht] at hP1
  have hK1 := va_K.moved hvm.symm hK1
  obtain ⟨hP, hD⟩ := va_join (wr := ((h0, .inr (3, z3 (.ref s0) (.ref s1) (.ref hr0) (.ref tx0))) :: (bS s0 u0 ++ bS s1 u1 ++ [(hr0, .inl (ha, 4, .inr (.inr (.inr (.inr (va_up (fun _ => none) 0 (some s2)))))))] ++ [(tx0, .inr (0, z0 (.ref ut.1))), (ut.1, .inl (ut.2, 60, .inl (fun _ => 0)))] ++ bS s2 u2))) (w1 := bS s3 u3) hP hD [34] (List.range 34) rfl rfl (by decide) (by decide) hk1 hFc hP1 hD1
  have hK := hK.app hK1
  have hP : va_P D vwCl ((h0, .inr (3, z3 (.ref s0) (.ref s1) (.ref hr0) (.ref tx0))) :: (bS s0 u0 ++ bS s1 u1 ++ [(hr0, .inl (ha, 4, .inr (.inr (.inr (.inr (va_up (fun _ => none) 0 (some s2)))))))] ++ [(tx0, .inr (0, z0 (.ref ut.1))), (ut.1, .inl (ut.2, 60, .inl (fun _ => 0)))] ++ bS s2 u2 ++ bS s3 u3)) H1 := hP
  have hD : va_D A ((h0, .inr (3, z3 (.ref s0) (.ref s1) (.ref hr0) (.ref tx0))) :: (bS s0 u0 ++ bS s1 u1 ++ [(hr0, .inl (ha, 4, .inr (.inr (.inr (.inr (va_up (fun _ => none) 0 (some s2)))))))] ++ [(tx0, .inr (0, z0 (.ref ut.1))), (ut.1, .inl (ut.2, 60, .inl (fun _ => 0)))] ++ bS s2 u2 ++ bS s3 u3)) := hD
  refine va_astq hx hb hK hP hD hS 21 2 34 2 rfl rfl rfl rfl (vp_in_nI (n := 1) (N := 4) (by decide) (by decide)) dX3_init_68 (fun H locs hP hD hS => ?_)
  have hP : va_P D vwCl ((h0, .inr (3, z3 (.ref s0) (.ref s1) (.ref hr0) (.ref tx0))) :: (bS s0 u0 ++ bS s1 u1 ++ [(hr0, .inl (ha, 4, .inr (.inr (.inr (.inr (va_up (va_up (fun _ => none) 0 (some s2)) 1 (some s3)))))))] ++ [(tx0, .inr (0, z0 (.ref ut.1))), (ut.1, .inl (ut.2, 60, .inl (fun _ => 0)))] ++ bS s2 u2 ++ bS s3 u3)) H := hP
  have hD : va_D A ((h0, .inr (3, z3 (.ref s0) (.ref s1) (.ref hr0) (.ref tx0))) :: (bS s0 u0 ++ bS s1 u1 ++ [(hr0, .inl (ha, 4, .inr (.inr (.inr (.inr (va_up (va_up (fun _ => none) 0 (some s2)) 1 (some s3)))))))] ++ [(tx0, .inr (0, z0 (.ref ut.1))), (ut.1, .inl (ut.2, 60, .inl (fun _ => 0)))] ++ bS s2 u2 ++ bS s3 u3)) := hD
  refine lv_iinc (v := 2) (lv' := [(1, .int 2), (0, .ref h0)]) hx hb dX3_init_69 hl (k := 0) rfl (by decide) (by decide) rfl (fun ls hl => ?_)
  refine lv_goto (tgt := 47) hx hb dX3_init_72 (by decide) ?_
  refine lv_iload_n hx hb dX3_init_47 rfl (lv_at hl 0 rfl) ?_
  refine lv_aload_n hx hb dX3_init_48 rfl (lv_at hl 1 rfl) ?_
  refine va_get hx hb hts in_X3_init_30 hown hK hP 0 rfl rfl 2 (by decide) (hts _ k_X3_init_19) (fun _ h9 => h9) rfl dX3_init_49 ?_
  refine va_alen (v := 4) hx hb hK hP 21 2 rfl rfl rfl dX3_init_52 ?_
  refine lv_icmp_ge (tgt := 75) hx hb dX3_init_53 (by decide) (fun cc2 => ?_) (fun cc2 => ?_)
  · exact absurd cc2 (by decide)
  refine lv_aload_n hx hb dX3_init_56 rfl (lv_at hl 1 rfl) ?_
  refine va_get hx hb hts in_X3_init_30 hown hK hP 0 rfl rfl 2 (by decide) (hts _ k_X3_init_19) (fun _ h9 => h9) rfl dX3_init_57 ?_
  refine lv_iload_n hx hb dX3_init_60 rfl (lv_at hl 0 rfl) ?_
  refine va_new (ci := 2) (fs := z2 .null 0 0 0 0 0 0) (C := RX2) (T := TX2) (N := 15) hx hb hts in_X3_init_20 tyX2 tyX2_ok hown (hts _ cl9_X3_init) (hts _ ia2_X3_init) (hts _ ii2_X3_init) hK hP hD hS hA rfl (fun j hj => by rcases (show j = 0 ∨ j = 1 ∨ j = 2 ∨ j = 3 ∨ j = 4 ∨ j = 5 ∨ j = 6 ∨ j = 7 ∨ j = 8 ∨ j = 9 ∨ j = 10 ∨ j = 11 ∨ j = 12 ∨ j = 13 ∨ j = 14 by omega) with rfl | rfl | rfl | rfl | rfl | rfl | rfl | rfl | rfl | rfl | rfl | rfl | rfl | rfl | rfl <;> rfl) (Nat.le_of_ble_eq_true rfl) (Nat.le_of_ble_eq_true rfl) dX3_init_61 (fun s4 H hP hD hS => ?_)
  have hP : va_P D vwCl ((h0, .inr (3, z3 (.ref s0) (.ref s1) (.ref hr0) (.ref tx0))) :: (bS s0 u0 ++ bS s1 u1 ++ [(hr0, .inl (ha, 4, .inr (.inr (.inr (.inr (va_up (va_up (fun _ => none) 0 (some s2)) 1 (some s3)))))))] ++ [(tx0, .inr (0, z0 (.ref ut.1))), (ut.1, .inl (ut.2, 60, .inl (fun _ => 0)))] ++ bS s2 u2 ++ bS s3 u3 ++ [(s4, .inr (2, z2 .null 0 0 0 0 0 0))])) H := hP
  have hD : va_D A ((h0, .inr (3, z3 (.ref s0) (.ref s1) (.ref hr0) (.ref tx0))) :: (bS s0 u0 ++ bS s1 u1 ++ [(hr0, .inl (ha, 4, .inr (.inr (.inr (.inr (va_up (va_up (fun _ => none) 0 (some s2)) 1 (some s3)))))))] ++ [(tx0, .inr (0, z0 (.ref ut.1))), (ut.1, .inl (ut.2, 60, .inl (fun _ => 0)))] ++ bS s2 u2 ++ bS s3 u3 ++ [(s4, .inr (2, z2 .null 0 0 0 0 0 0))])) := hD
  refine lv_dup hx hb dX3_init_64 rfl ?_
  have hPc := hP.sub (ws' := [(s4, .inr (2, z2 .null 0 0 0 0 0 0))]) [44] rfl
  have hDc := hD.sub (ws' := [(s4, .inr (2, z2 .null 0 0 0 0 0 0))]) [44] (by decide) rfl
  have hKc := hK.sub (tys' := []) [] rfl
  have hFc := va_free (wc := [(s4, .inr (2, z2 .null 0 0 0 0 0 0))]) hD hS hA [44] rfl
  refine va_callv (va_runI (As := []) (rest := [.ref s4, .int 2, .ref hr0]) ⟨hx, hb, hml, hown, hts⟩ (c_X2_init l D s4 H.size) (cwI 0 hts gX3_init_X2_init rfl rfl rfl (hts _ ii2_X3_init) (hts _ ml2_X3_init) (hts _ im2_X3_init) rfl (by decide +kernel) ⟨Nat.le_of_ble_eq_true rfl, Nat.le_of_ble_eq_true rfl⟩) ⟨fun a U g mk q => by obtain ⟨e0, ⟨e1, eP, eK, eD⟩, e5⟩ := q; exact ⟨e0, ⟨e1, eP, va_K.moved (u := U) (U := U.calling g mk a) (Vm.Alike.refl U.vm) eK, eD⟩, PN2.moved rfl e5⟩, fun U hU hW => ⟨rfl, ⟨by rw [hU], by rw [hU]; exact hPc, va_K.moved hW.alike hKc, hDc.weaken (fun _ _ _ _ => trivial)⟩, PN2.warm hW hn2⟩⟩ rfl rfl hl.1 rfl (lv_room (Nat.le_of_ble_eq_true rfl)) dX3_init_65 ⟨Nat.le_of_ble_eq_true rfl, Nat.le_of_ble_eq_true rfl⟩) hS (fun q _ h => hFc q h) hFc (fun u4 t H1 locs ht hvm h5 hB hz1 hk1 hS => ?_)
  obtain ⟨hP1, hK1, hD1⟩ := hB
  rw [ht] at hP1
  have hK1 := va_K.moved hvm.symm hK1
  obtain ⟨hP, hD⟩ := va_join (wr := ((h0, .inr (3, z3 (.ref s0) (.ref s1) (.ref hr0) (.ref tx0))) :: (bS s0 u0 ++ bS s1 u1 ++ [(hr0, .inl (ha, 4, .inr (.inr (.inr (.inr (va_up (va_up (fun _ => none) 0 (some s2)) 1 (some s3)))))))] ++ [(tx0, .inr (0, z0 (.ref ut.1))), (ut.1, .inl (ut.2, 60, .inl (fun _ => 0)))] ++ bS s2 u2 ++ bS s3 u3))) (w1 := bS s4 u4) hP hD [44] (List.range 44) rfl rfl (by decide) (by decide) hk1 hFc hP1 hD1
  have hK := hK.app hK1
  have hP : va_P D vwCl ((h0, .inr (3, z3 (.ref s0) (.ref s1) (.ref hr0) (.ref tx0))) :: (bS s0 u0 ++ bS s1 u1 ++ [(hr0, .inl (ha, 4, .inr (.inr (.inr (.inr (va_up (va_up (fun _ => none) 0 (some s2)) 1 (some s3)))))))] ++ [(tx0, .inr (0, z0 (.ref ut.1))), (ut.1, .inl (ut.2, 60, .inl (fun _ => 0)))] ++ bS s2 u2 ++ bS s3 u3 ++ bS s4 u4)) H1 := hP
  have hD : va_D A ((h0, .inr (3, z3 (.ref s0) (.ref s1) (.ref hr0) (.ref tx0))) :: (bS s0 u0 ++ bS s1 u1 ++ [(hr0, .inl (ha, 4, .inr (.inr (.inr (.inr (va_up (va_up (fun _ => none) 0 (some s2)) 1 (some s3)))))))] ++ [(tx0, .inr (0, z0 (.ref ut.1))), (ut.1, .inl (ut.2, 60, .inl (fun _ => 0)))] ++ bS s2 u2 ++ bS s3 u3 ++ bS s4 u4)) := hD
  refine va_astq hx hb hK hP hD hS 21 2 44 2 rfl rfl rfl rfl (vp_in_nI (n := 2) (N := 4) (by decide) (by decide)) dX3_init_68 (fun H locs hP hD hS => ?_)
  have hP : va_P D vwCl ((h0, .inr (3, z3 (.ref s0) (.ref s1) (.ref hr0) (.ref tx0))) :: (bS s0 u0 ++ bS s1 u1 ++ [(hr0, .inl (ha, 4, .inr (.inr (.inr (.inr (va_up (va_up (va_up (fun _ => none) 0 (some s2)) 1 (some s3)) 2 (some s4)))))))] ++ [(tx0, .inr (0, z0 (.ref ut.1))), (ut.1, .inl (ut.2, 60, .inl (fun _ => 0)))] ++ bS s2 u2 ++ bS s3 u3 ++ bS s4 u4)) H := hP
  have hD : va_D A ((h0, .inr (3, z3 (.ref s0) (.ref s1) (.ref hr0) (.ref tx0))) :: (bS s0 u0 ++ bS s1 u1 ++ [(hr0, .inl (ha, 4, .inr (.inr (.inr (.inr (va_up (va_up (va_up (fun _ => none) 0 (some s2)) 1 (some s3)) 2 (some s4)))))))] ++ [(tx0, .inr (0, z0 (.ref ut.1))), (ut.1, .inl (ut.2, 60, .inl (fun _ => 0)))] ++ bS s2 u2 ++ bS s3 u3 ++ bS s4 u4)) := hD
  refine lv_iinc (v := 3) (lv' := [(1, .int 3), (0, .ref h0)]) hx hb dX3_init_69 hl (k := 0) rfl (by decide) (by decide) rfl (fun ls hl => ?_)
  refine lv_goto (tgt := 47) hx hb dX3_init_72 (by decide) ?_
  refine lv_iload_n hx hb dX3_init_47 rfl (lv_at hl 0 rfl) ?_
  refine lv_aload_n hx hb dX3_init_48 rfl (lv_at hl 1 rfl) ?_
  refine va_get hx hb hts in_X3_init_30 hown hK hP 0 rfl rfl 2 (by decide) (hts _ k_X3_init_19) (fun _ h9 => h9) rfl dX3_init_49 ?_
  refine va_alen (v := 4) hx hb hK hP 21 2 rfl rfl rfl dX3_init_52 ?_
  refine lv_icmp_ge (tgt := 75) hx hb dX3_init_53 (by decide) (fun cc3 => ?_) (fun cc3 => ?_)
  · exact absurd cc3 (by decide)
  refine lv_aload_n hx hb dX3_init_56 rfl (lv_at hl 1 rfl) ?_
  refine va_get hx hb hts in_X3_init_30 hown hK hP 0 rfl rfl 2 (by decide) (hts _ k_X3_init_19) (fun _ h9 => h9) rfl dX3_init_57 ?_
  refine lv_iload_n hx hb dX3_init_60 rfl (lv_at hl 0 rfl) ?_
  refine va_new (ci := 2) (fs := z2 .null 0 0 0 0 0 0) (C := RX2) (T := TX2) (N := 15) hx hb hts in_X3_init_20 tyX2 tyX2_ok hown (hts _ cl9_X3_init) (hts _ ia2_X3_init) (hts _ ii2_X3_init) hK hP hD hS hA rfl (fun j hj => by rcases (show j = 0 ∨ j = 1 ∨ j = 2 ∨ j = 3 ∨ j = 4 ∨ j = 5 ∨ j = 6 ∨ j = 7 ∨ j = 8 ∨ j = 9 ∨ j = 10 ∨ j = 11 ∨ j = 12 ∨ j = 13 ∨ j = 14 by omega) with rfl | rfl | rfl | rfl | rfl | rfl | rfl | rfl | rfl | rfl | rfl | rfl | rfl | rfl | rfl <;> rfl) (Nat.le_of_ble_eq_true rfl) (Nat.le_of_ble_eq_true rfl) dX3_init_61 (fun s5 H hP hD hS => ?_)
  have hP : va_P D vwCl ((h0, .inr (3, z3 (.ref s0) (.ref s1) (.ref hr0) (.ref tx0))) :: (bS s0 u0 ++ bS s1 u1 ++ [(hr0, .inl (ha, 4, .inr (.inr (.inr (.inr (va_up (va_up (va_up (fun _ => none) 0 (some s2)) 1 (some s3)) 2 (some s4)))))))] ++ [(tx0, .inr (0, z0 (.ref ut.1))), (ut.1, .inl (ut.2, 60, .inl (fun _ => 0)))] ++ bS s2 u2 ++ bS s3 u3 ++ bS s4 u4 ++ [(s5, .inr (2, z2 .null 0 0 0 0 0 0))])) H := hP
  have hD : va_D A ((h0, .inr (3, z3 (.ref s0) (.ref s1) (.ref hr0) (.ref tx0))) :: (bS s0 u0 ++ bS s1 u1 ++ [(hr0, .inl (ha, 4, .inr (.inr (.inr (.inr (va_up (va_up (va_up (fun _ => none) 0 (some s2)) 1 (some s3)) 2 (some s4)))))))] ++ [(tx0, .inr (0, z0 (.ref ut.1))), (ut.1, .inl (ut.2, 60, .inl (fun _ => 0)))] ++ bS s2 u2 ++ bS s3 u3 ++ bS s4 u4 ++ [(s5, .inr (2, z2 .null 0 0 0 0 0 0))])) := hD
  refine lv_dup hx hb dX3_init_64 rfl ?_
  have hPc := hP.sub (ws' := [(s5, .inr (2, z2 .null 0 0 0 0 0 0))]) [54] rfl
  have hDc := hD.sub (ws' := [(s5, .inr (2, z2 .null 0 0 0 0 0 0))]) [54] (by decide) rfl
  have hKc := hK.sub (tys' := []) [] rfl
  have hFc := va_free (wc := [(s5, .inr (2, z2 .null 0 0 0 0 0 0))]) hD hS hA [54] rfl
  refine va_callv (va_runI (As := []) (rest := [.ref s5, .int 3, .ref hr0]) ⟨hx, hb, hml, hown, hts⟩ (c_X2_init l D s5 H.size) (cwI 0 hts gX3_init_X2_init rfl rfl rfl (hts _ ii2_X3_init) (hts _ ml2_X3_init) (hts _ im2_X3_init) rfl (by decide +kernel) ⟨Nat.le_of_ble_eq_true rfl, Nat.le_of_ble_eq_true rfl⟩) ⟨fun a U g mk q => by obtain ⟨e0, ⟨e1, eP, eK, eD⟩, e5⟩ := q; exact ⟨e0, ⟨e1, eP, va_K.moved (u := U) (U := U.calling g mk a) (Vm.Alike.refl U.vm) eK, eD⟩, PN2.moved rfl e5⟩, fun U hU hW => ⟨rfl, ⟨by rw [hU], by rw [hU]; exact hPc, va_K.moved hW.alike hKc, hDc.weaken (fun _ _ _ _ => trivial)⟩, PN2.warm hW hn2⟩⟩ rfl rfl hl.1 rfl (lv_room (Nat.le_of_ble_eq_true rfl)) dX3_init_65 ⟨Nat.le_of_ble_eq_true rfl, Nat.le_of_ble_eq_true rfl⟩) hS (fun q _ h => hFc q h) hFc (fun u5 t H1 locs ht hvm h5 hB hz1 hk1 hS => ?_)
  obtain ⟨hP1, hK1, hD1⟩ := hB
  rw [ht] at hP1
  have hK1 := va_K.moved hvm.symm hK1
  obtain ⟨hP, hD⟩ := va_join (wr := ((h0, .inr (3, z3 (.ref s0) (.ref s1) (.ref hr0) (.ref tx0))) :: (bS s0 u0 ++ bS s1 u1 ++ [(hr0, .inl (ha, 4, .inr (.inr (.inr (.inr (va_up (va_up (va_up (fun _ => none) 0 (some s2)) 1 (some s3)) 2 (some s4)))))))] ++ [(tx0, .inr (0, z0 (.ref ut.1))), (ut.1, .inl (ut.2, 60, .inl (fun _ => 0)))] ++ bS s2 u2 ++ bS s3 u3 ++ bS s4 u4))) (w1 := bS s5 u5) hP hD [54] (List.range 54) rfl rfl (by decide) (by decide) hk1 hFc hP1 hD1
  have hK := hK.app hK1
  have hP : va_P D vwCl ((h0, .inr (3, z3 (.ref s0) (.ref s1) (.ref hr0) (.ref tx0))) :: (bS s0 u0 ++ bS s1 u1 ++ [(hr0, .inl (ha, 4, .inr (.inr (.inr (.inr (va_up (va_up (va_up (fun _ => none) 0 (some s2)) 1 (some s3)) 2 (some s4)))))))] ++ [(tx0, .inr (0, z0 (.ref ut.1))), (ut.1, .inl (ut.2, 60, .inl (fun _ => 0)))] ++ bS s2 u2 ++ bS s3 u3 ++ bS s4 u4 ++ bS s5 u5)) H1 := hP
  have hD : va_D A ((h0, .inr (3, z3 (.ref s0) (.ref s1) (.ref hr0) (.ref tx0))) :: (bS s0 u0 ++ bS s1 u1 ++ [(hr0, .inl (ha, 4, .inr (.inr (.inr (.inr (va_up (va_up (va_up (fun _ => none) 0 (some s2)) 1 (some s3)) 2 (some s4)))))))] ++ [(tx0, .inr (0, z0 (.ref ut.1))), (ut.1, .inl (ut.2, 60, .inl (fun _ => 0)))] ++ bS s2 u2 ++ bS s3 u3 ++ bS s4 u4 ++ bS s5 u5)) := hD
  refine va_astq hx hb hK hP hD hS 21 2 54 2 rfl rfl rfl rfl (vp_in_nI (n := 3) (N := 4) (by decide) (by decide)) dX3_init_68 (fun H locs hP hD hS => ?_)
  have hP : va_P D vwCl ((h0, .inr (3, z3 (.ref s0) (.ref s1) (.ref hr0) (.ref tx0))) :: (bS s0 u0 ++ bS s1 u1 ++ [(hr0, .inl (ha, 4, .inr (.inr (.inr (.inr (va_up (va_up (va_up (va_up (fun _ => none) 0 (some s2)) 1 (some s3)) 2 (some s4)) 3 (some s5)))))))] ++ [(tx0, .inr (0, z0 (.ref ut.1))), (ut.1, .inl (ut.2, 60, .inl (fun _ => 0)))] ++ bS s2 u2 ++ bS s3 u3 ++ bS s4 u4 ++ bS s5 u5)) H := hP
  have hD : va_D A ((h0, .inr (3, z3 (.ref s0) (.ref s1) (.ref hr0) (.ref tx0))) :: (bS s0 u0 ++ bS s1 u1 ++ [(hr0, .inl (ha, 4, .inr (.inr (.inr (.inr (va_up (va_up (va_up (va_up (fun _ => none) 0 (some s2)) 1 (some s3)) 2 (some s4)) 3 (some s5)))))))] ++ [(tx0, .inr (0, z0 (.ref ut.1))), (ut.1, .inl (ut.2, 60, .inl (fun _ => 0)))] ++ bS s2 u2 ++ bS s3 u3 ++ bS s4 u4 ++ bS s5 u5)) := hD
  refine lv_iinc (v := 4) (lv' := [(1, .int 4), (0, .ref h0)]) hx hb dX3_init_69 hl (k := 0) rfl (by decide) (by decide) rfl (fun ls hl => ?_)
  refine lv_goto (tgt := 47) hx hb dX3_init_72 (by decide) ?_
  refine lv_iload_n hx hb dX3_init_47 rfl (lv_at hl 0 rfl) ?_
  refine lv_aload_n hx hb dX3_init_48 rfl (lv_at hl 1 rfl) ?_
  refine va_get hx hb hts in_X3_init_30 hown hK hP 0 rfl rfl 2 (by decide) (hts _ k_X3_init_19) (fun _ h9 => h9) rfl dX3_init_49 ?_
  refine va_alen (v := 4) hx hb hK hP 21 2 rfl rfl rfl dX3_init_52 ?_
  refine lv_icmp_ge (tgt := 75) hx hb dX3_init_53 (by decide) (fun cc4 => ?_) (fun cc4 => ?_)
  · refine W.vret hx hb hr (fun t ht hW => ⟨⟨((fun i => if i = 0 then s0 else if i = 1 then s1 else if i = 2 then s2 else if i = 3 then s3 else if i = 4 then s4 else s5), (fun i => if i = 0 then u0 else if i = 1 then u1 else if i = 2 then u2 else if i = 3 then u3 else if i = 4 then u4 else u5), hr0, ha, tx0, ut.1, ut.2), rfl, trivial, ⟨by rw [ht]; exact hP, va_K.moved hW.alike hK, hD⟩⟩, hS.F ht⟩) hS.2.2 dX3_init_75
  · exact absurd cc4 (by decide)
end
section
/-! ===== the object and the reference side by side ===== -/
def HOK (h : Nat) (hs : Nat → Vec) : Prop := ∀ i, i < h → ∃ N, VOK N (hs i)
theorem HOK_push {N h : Nat} {hs : Nat → Vec} {u : Vec} (h4 : h ≤ 4) (hh : HOK h hs) (hv : VOK N u) : HOK (psh h) (push h hs u) := by
  intro i hi
  unfold psh at hi
  unfold push
  by_cases q : h = 4
  · rw [if_pos q] at hi
    rw [if_pos q]
    by_cases e : i = 3
    · rw [if_pos e]; exact ⟨N, hv⟩
    · rw [if_neg e]; exact hh (i + 1) (by omega)
  · rw [if_neg q] at hi
    rw [if_neg q]
    by_cases e : i = h
    · rw [if_pos e]; exact ⟨N, hv⟩
    · rw [if_neg e]; exact hh i (by omega)
theorem VOK_fresh : VOK 0 st0 := by
  refine ⟨by decide, rfl, ?_, ?_, ?_, ?_, ?_, ?_, fun k hk => absurd hk (Nat.not_lt_zero k)⟩ <;> (unfold bd; decide)
end
section
/-! ===== undo, type, clearText side by side; the bounds of each change ===== -/
theorem VOK_mendJ {N : Nat} {u : Vec} (h : VOK N u) (j : Int32) (b : Bool) : VOK N (mendJ u j b).2 := by
  unfold mendJ
  split
  · next q =>
    obtain ⟨k, hk, e1, e2⟩ := isSm_k h.2.1 h.1 (show isSm u j from q)
    rw [e2]; exact VOK_mend h hk b
  · exact h
theorem VOK_collJ {N : Nat} {u : Vec} (h : VOK N u) (j : Int32) : VOK N (collJ u j).2 := VOK_ord h 99 j
theorem VOK_endS {N : Nat} {u : Vec} (h : VOK N u) (v : Int32) : VOK N (endS u N v).2 := VOK_ord h 100 v
end
