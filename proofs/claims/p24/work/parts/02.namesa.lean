/-! ===== BEGIN words of one list among another's, by their places ===== -/
theorem goodIn_r {big : List Cond} (ws : List Cond) (ps : List Nat) (hp : ws = ps.filterMap (fun i => big[i]?)) (h : ws.all goodWord = true) : GoodIn big ws := by
  intro w hw
  have h1 := List.all_eq_true.mp h w hw
  rw [hp] at hw
  obtain ⟨i, -, hi⟩ := List.mem_filterMap.mp hw
  have hm : w ∈ big := by first | exact List.mem_of_getElem? hi | exact List.getElem?_mem hi
  exact ⟨hm, good_of_word h1⟩
theorem goodIn_app {big a b : List Cond} (ha : GoodIn big a) (hb : GoodIn big b) : GoodIn big (a ++ b) := fun w h => (List.mem_append.mp h).elim (ha w) (hb w)
theorem goodIn_ca {big a b : List Cond} {c : Cond} (ha : GoodIn big (c :: a)) (hb : GoodIn big b) : GoodIn big (c :: (a ++ b)) := fun w h => (List.mem_cons.mp h).elim (fun e => ha w (List.mem_cons.mpr (Or.inl e))) (fun h => (List.mem_append.mp h).elim (fun h => ha w (List.mem_cons.mpr (Or.inr h))) (hb w))
theorem goodIn_sub {big ws : List Cond} (hm : ∀ w ∈ ws, w ∈ big) (h : ws.all goodWord = true) : GoodIn big ws := fun w hw => ⟨hm w hw, good_of_word (List.all_eq_true.mp h w hw)⟩
/-! ===== END ===== -/

/-! ===== BEGIN printed: names, fields, word lists, decode rows ===== -/
def RX0 : String := "BellowsRound$OrderText"
def TX0 : u_T := fun k => match k with
  | 0 => ("BellowsRound$OrderText", "characters", "[C", true)
  | 1 => ("BellowsRound$OrderText", "length", "I", false)
  | 2 => ("BellowsRound$OrderText", "letter", "I", false)
  | 3 => ("BellowsRound$OrderText", "number", "I", false)
  | 4 => ("BellowsRound$OrderText", "behind", "I", false)
  | _ => ("BellowsRound$OrderText", "brokenAt", "I", false)
def tyX0 : Nat → FieldType := fun k => match k with
  | 0 => .array .char
  | 1 => .int
  | 2 => .int
  | 3 => .int
  | 4 => .int
  | _ => .int
abbrev wsX00 : List Cond := u_ws RX0 TX0 6
theorem nmX0 : ∀ a, a < 6 → ∀ b, b < 6 → a ≠ b → (TX0 a).2.1 ≠ (TX0 b).2.1 := by decide +kernel
theorem tyX0_ok : ∀ k, k < 6 → parseFieldDescriptor (TX0 k).2.2.1 = some (tyX0 k) := by decide +kernel
abbrev cX0_init : ByteArray := prog_2_method_1_code
def yX0_init : MethodName := ⟨RX0, "<init>", "()V"⟩
def RX1 : String := "BellowsRound$Smithy"
def TX1 : u_T := fun k => match k with
  | 0 => ("BellowsRound$Smithy", "mile", "I", false)
  | 1 => ("BellowsRound$Smithy", "size", "I", false)
  | 2 => ("BellowsRound$Smithy", "wear", "I", false)
  | 3 => ("BellowsRound$Smithy", "heat", "I", false)
  | 4 => ("BellowsRound$Smithy", "coldDays", "I", false)
  | 5 => ("BellowsRound$Smithy", "debt", "I", false)
  | 6 => ("BellowsRound$Smithy", "paid", "I", false)
  | _ => ("BellowsRound$Smithy", "mends", "I", false)
def tyX1 : Nat → FieldType := fun k => match k with
  | 0 => .int
  | 1 => .int
  | 2 => .int
  | 3 => .int
  | 4 => .int
  | 5 => .int
  | 6 => .int
  | _ => .int
abbrev wsX10 : List Cond := u_ws RX1 TX1 8
theorem nmX1 : ∀ a, a < 8 → ∀ b, b < 8 → a ≠ b → (TX1 a).2.1 ≠ (TX1 b).2.1 := by decide +kernel
theorem tyX1_ok : ∀ k, k < 8 → parseFieldDescriptor (TX1 k).2.2.1 = some (tyX1 k) := by decide +kernel
abbrev cX1_init : ByteArray := prog_3_method_1_code
def yX1_init : MethodName := ⟨RX1, "<init>", "()V"⟩
abbrev cX1_beginAt : ByteArray := prog_3_method_2_code
def yX1_beginAt : MethodName := ⟨RX1, "beginAt", "(II)V"⟩
abbrev cX1_copyFrom : ByteArray := prog_3_method_3_code
def yX1_copyFrom : MethodName := ⟨RX1, "copyFrom", "(LBellowsRound$Smithy;)V"⟩
abbrev cX1_leatherOfMend : ByteArray := prog_3_method_4_code
def yX1_leatherOfMend : MethodName := ⟨RX1, "leatherOfMend", "(Z)I"⟩
abbrev cX1_wearBehindMend : ByteArray := prog_3_method_5_code
def yX1_wearBehindMend : MethodName := ⟨RX1, "wearBehindMend", "(Z)I"⟩
def RX2 : String := "BellowsRound$State"
def TX2 : u_T := fun k => match k with
  | 0 => ("BellowsRound$State", "smithies", "[LBellowsRound$Smithy;", true)
  | 1 => ("BellowsRound$State", "smithyCount", "I", false)
  | 2 => ("BellowsRound$State", "cold", "I", false)
  | 3 => ("BellowsRound$State", "hours", "I", false)
  | 4 => ("BellowsRound$State", "rate", "I", false)
  | 5 => ("BellowsRound$State", "patience", "I", false)
  | 6 => ("BellowsRound$State", "day", "I", false)
  | 7 => ("BellowsRound$State", "mile", "I", false)
  | 8 => ("BellowsRound$State", "hoursLeft", "I", false)
  | 9 => ("BellowsRound$State", "leather", "I", false)
  | 10 => ("BellowsRound$State", "money", "I", false)
  | 11 => ("BellowsRound$State", "paidForLeather", "I", false)
  | 12 => ("BellowsRound$State", "owedForMends", "I", false)
  | 13 => ("BellowsRound$State", "longestCold", "I", false)
  | _ => ("BellowsRound$State", "milesWalked", "I", false)
def tyX2 : Nat → FieldType := fun k => match k with
  | 0 => .array (.object "BellowsRound$Smithy")
  | 1 => .int
  | 2 => .int
  | 3 => .int
  | 4 => .int
  | 5 => .int
  | 6 => .int
  | 7 => .int
  | 8 => .int
  | 9 => .int
  | 10 => .int
  | 11 => .int
  | 12 => .int
  | 13 => .int
  | _ => .int
abbrev wsX20 : List Cond := u_ws RX2 TX2 15
theorem nmX2 : ∀ a, a < 15 → ∀ b, b < 15 → a ≠ b → (TX2 a).2.1 ≠ (TX2 b).2.1 := by decide +kernel
theorem tyX2_ok : ∀ k, k < 15 → parseFieldDescriptor (TX2 k).2.2.1 = some (tyX2 k) := by decide +kernel
abbrev cX2_init : ByteArray := prog_4_method_1_code
def yX2_init : MethodName := ⟨RX2, "<init>", "()V"⟩
abbrev cX2_copyFrom : ByteArray := prog_4_method_2_code
def yX2_copyFrom : MethodName := ⟨RX2, "copyFrom", "(LBellowsRound$State;)V"⟩
abbrev cX2_find : ByteArray := prog_4_method_3_code
def yX2_find : MethodName := ⟨RX2, "find", "(I)LBellowsRound$Smithy;"⟩
abbrev cX2_addSmithy : ByteArray := prog_4_method_4_code
def yX2_addSmithy : MethodName := ⟨RX2, "addSmithy", "(II)I"⟩
abbrev cX2_walkTo : ByteArray := prog_4_method_5_code
def yX2_walkTo : MethodName := ⟨RX2, "walkTo", "(I)I"⟩
abbrev cX2_buyLeather : ByteArray := prog_4_method_6_code
def yX2_buyLeather : MethodName := ⟨RX2, "buyLeather", "(I)I"⟩
abbrev cX2_mendBellows : ByteArray := prog_4_method_7_code
def yX2_mendBellows : MethodName := ⟨RX2, "mendBellows", "(IZ)I"⟩
abbrev cX2_collectDebt : ByteArray := prog_4_method_8_code
def yX2_collectDebt : MethodName := ⟨RX2, "collectDebt", "(I)I"⟩
abbrev cX2_endDays : ByteArray := prog_4_method_9_code
def yX2_endDays : MethodName := ⟨RX2, "endDays", "(I)I"⟩
abbrev cX2_endDayOf : ByteArray := prog_4_method_10_code
def yX2_endDayOf : MethodName := ⟨RX2, "endDayOf", "(LBellowsRound$Smithy;)V"⟩
abbrev cX2_changeSetting : ByteArray := prog_4_method_11_code
def yX2_changeSetting : MethodName := ⟨RX2, "changeSetting", "(II)I"⟩
abbrev cX2_isInRange : ByteArray := prog_4_method_12_code
def yX2_isInRange : MethodName := ⟨RX2, "isInRange", "(II)Z"⟩
abbrev cX2_isCold : ByteArray := prog_4_method_14_code
def yX2_isCold : MethodName := ⟨RX2, "isCold", "(I)Z"⟩
abbrev cX2_coldSet : ByteArray := prog_4_method_15_code
def yX2_coldSet : MethodName := ⟨RX2, "coldSet", "()I"⟩
abbrev cX2_debtsTogether : ByteArray := prog_4_method_17_code
def yX2_debtsTogether : MethodName := ⟨RX2, "debtsTogether", "()I"⟩
abbrev cX2_priceOfMend : ByteArray := prog_4_method_18_code
def yX2_priceOfMend : MethodName := ⟨RX2, "priceOfMend", "(LBellowsRound$Smithy;Z)I"⟩
abbrev cX2_reasonAgainst : ByteArray := prog_4_method_19_code
def yX2_reasonAgainst : MethodName := ⟨RX2, "reasonAgainst", "(LBellowsRound$Smithy;Z)I"⟩
abbrev cX2_reasonOfSmithy : ByteArray := prog_4_method_20_code
def yX2_reasonOfSmithy : MethodName := ⟨RX2, "reasonOfSmithy", "(LBellowsRound$Smithy;)I"⟩
def RX3 : String := "BellowsRound"
def TX3 : u_T := fun k => match k with
  | 0 => ("BellowsRound", "now", "LBellowsRound$State;", false)
  | 1 => ("BellowsRound", "trial", "LBellowsRound$State;", false)
  | 2 => ("BellowsRound", "history", "[LBellowsRound$State;", true)
  | 3 => ("BellowsRound", "states", "I", false)
  | 4 => ("BellowsRound", "text", "LBellowsRound$OrderText;", true)
  | 5 => ("BellowsRound", "ordersTried", "I", false)
  | 6 => ("BellowsRound", "faultPosition", "I", false)
  | 7 => ("BellowsRound", "faultReason", "I", false)
  | _ => ("BellowsRound", "faultCause", "I", false)
def tyX3 : Nat → FieldType := fun k => match k with
  | 0 => .object "BellowsRound$State"
  | 1 => .object "BellowsRound$State"
  | 2 => .array (.object "BellowsRound$State")
  | 3 => .int
  | 4 => .object "BellowsRound$OrderText"
  | 5 => .int
  | 6 => .int
  | 7 => .int
  | _ => .int
abbrev wsX30 : List Cond := u_ws RX3 TX3 9
theorem nmX3 : ∀ a, a < 9 → ∀ b, b < 9 → a ≠ b → (TX3 a).2.1 ≠ (TX3 b).2.1 := by decide +kernel
theorem tyX3_ok : ∀ k, k < 9 → parseFieldDescriptor (TX3 k).2.2.1 = some (tyX3 k) := by decide +kernel
abbrev cX3_init : ByteArray := prog_1_method_1_code
def yX3_init : MethodName := ⟨RX3, "<init>", "()V"⟩
abbrev cX3_smithy : ByteArray := prog_1_method_2_code
def yX3_smithy : MethodName := ⟨RX3, "smithy", "(II)I"⟩
abbrev cX3_walk : ByteArray := prog_1_method_3_code
def yX3_walk : MethodName := ⟨RX3, "walk", "(I)I"⟩
abbrev cX3_buy : ByteArray := prog_1_method_4_code
def yX3_buy : MethodName := ⟨RX3, "buy", "(I)I"⟩
abbrev cX3_patch : ByteArray := prog_1_method_5_code
def yX3_patch : MethodName := ⟨RX3, "patch", "(I)I"⟩
abbrev cX3_hide : ByteArray := prog_1_method_6_code
def yX3_hide : MethodName := ⟨RX3, "hide", "(I)I"⟩
abbrev cX3_collect : ByteArray := prog_1_method_7_code
def yX3_collect : MethodName := ⟨RX3, "collect", "(I)I"⟩
abbrev cX3_end : ByteArray := prog_1_method_8_code
def yX3_end : MethodName := ⟨RX3, "end", "(I)I"⟩
abbrev cX3_set : ByteArray := prog_1_method_9_code
def yX3_set : MethodName := ⟨RX3, "set", "(II)I"⟩
abbrev cX3_smithyOf : ByteArray := prog_1_method_10_code
def yX3_smithyOf : MethodName := ⟨RX3, "smithyOf", "(II)I"⟩
abbrev cX3_why : ByteArray := prog_1_method_11_code
def yX3_why : MethodName := ⟨RX3, "why", "(II)I"⟩
abbrev cX3_mend : ByteArray := prog_1_method_12_code
def yX3_mend : MethodName := ⟨RX3, "mend", "(III)I"⟩
abbrev cX3_count : ByteArray := prog_1_method_17_code
def yX3_count : MethodName := ⟨RX3, "count", "(I)I"⟩
abbrev cX3_commit : ByteArray := prog_1_method_23_code
def yX3_commit : MethodName := ⟨RX3, "commit", "(I)I"⟩
abbrev cX3_remember : ByteArray := prog_1_method_24_code
def yX3_remember : MethodName := ⟨RX3, "remember", "()V"⟩
abbrev cX3_dropOldestState : ByteArray := prog_1_method_25_code
def yX3_dropOldestState : MethodName := ⟨RX3, "dropOldestState", "()V"⟩
abbrev cX3_isFlag : ByteArray := prog_1_method_28_code
def yX3_isFlag : MethodName := ⟨RX3, "isFlag", "(I)Z"⟩
abbrev cX3_leakOf : ByteArray := prog_1_method_29_code
def yX3_leakOf : MethodName := ⟨RX3, "leakOf", "(I)I"⟩
abbrev cX3_wearBehindDay : ByteArray := prog_1_method_30_code
def yX3_wearBehindDay : MethodName := ⟨RX3, "wearBehindDay", "(II)I"⟩
abbrev cX3_heatBehindDay : ByteArray := prog_1_method_31_code
def yX3_heatBehindDay : MethodName := ⟨RX3, "heatBehindDay", "(II)I"⟩
abbrev cX3_tensBegun : ByteArray := prog_1_method_32_code
def yX3_tensBegun : MethodName := ⟨RX3, "tensBegun", "(I)I"⟩
abbrev cX3_hoursOfWay : ByteArray := prog_1_method_33_code
def yX3_hoursOfWay : MethodName := ⟨RX3, "hoursOfWay", "(II)I"⟩
abbrev cX3_hoursOfMend : ByteArray := prog_1_method_34_code
def yX3_hoursOfMend : MethodName := ⟨RX3, "hoursOfMend", "(Z)I"⟩
def RX4 : String := "BellowsRoundModel"
def TX4 : u_T := fun k => match k with
  | _ => ("", "", "", false)
def tyX4 : Nat → FieldType := fun k => match k with
  | _ => .int
abbrev wsX40 : List Cond := u_ws RX4 TX4 0
theorem nmX4 : ∀ a, a < 0 → ∀ b, b < 0 → a ≠ b → (TX4 a).2.1 ≠ (TX4 b).2.1 := by decide +kernel
theorem tyX4_ok : ∀ k, k < 0 → parseFieldDescriptor (TX4 k).2.2.1 = some (tyX4 k) := by decide +kernel
def RJ6 : String := "java/lang/Integer"
def TJ6 : u_T := fun k => match k with
  | _ => ("", "", "", false)
def tyJ6 : Nat → FieldType := fun k => match k with
  | _ => .int
abbrev wsJ60 : List Cond := u_ws RJ6 TJ6 0
theorem nmJ6 : ∀ a, a < 0 → ∀ b, b < 0 → a ≠ b → (TJ6 a).2.1 ≠ (TJ6 b).2.1 := by decide +kernel
theorem tyJ6_ok : ∀ k, k < 0 → parseFieldDescriptor (TJ6 k).2.2.1 = some (tyJ6 k) := by decide +kernel
abbrev cJ6_bitCount_0f7a4 : ByteArray := prog_7_method_49_code
def yJ6_bitCount_0f7a4 : MethodName := ⟨RJ6, "bitCount", "(I)I"⟩
def RJ9 : String := "java/lang/Math"
def TJ9 : u_T := fun k => match k with
  | _ => ("", "", "", false)
def tyJ9 : Nat → FieldType := fun k => match k with
  | _ => .int
abbrev wsJ90 : List Cond := u_ws RJ9 TJ9 0
theorem nmJ9 : ∀ a, a < 0 → ∀ b, b < 0 → a ≠ b → (TJ9 a).2.1 ≠ (TJ9 b).2.1 := by decide +kernel
theorem tyJ9_ok : ∀ k, k < 0 → parseFieldDescriptor (TJ9 k).2.2.1 = some (tyJ9 k) := by decide +kernel
abbrev cJ9_abs_0f7a4 : ByteArray := prog_8_method_59_code
def yJ9_abs_0f7a4 : MethodName := ⟨RJ9, "abs", "(I)I"⟩
abbrev cJ9_max_7cf53 : ByteArray := prog_8_method_65_code
def yJ9_max_7cf53 : MethodName := ⟨RJ9, "max", "(II)I"⟩
abbrev cJ9_min_7cf53 : ByteArray := prog_8_method_69_code
def yJ9_min_7cf53 : MethodName := ⟨RJ9, "min", "(II)I"⟩
def RL : String := "BellowsRoundLaw"
abbrev cL_cell : ByteArray := method_2_code
def yL_cell : MethodName := ⟨RL, "cell", "([II)I"⟩
abbrev cL_low : ByteArray := method_3_code
def yL_low : MethodName := ⟨RL, "low", "(II)I"⟩
abbrev cL_apart : ByteArray := method_4_code
def yL_apart : MethodName := ⟨RL, "apart", "(II)I"⟩
abbrev cL_tens : ByteArray := method_5_code
def yL_tens : MethodName := ⟨RL, "tens", "(I)I"⟩
abbrev cL_day : ByteArray := method_6_code
def yL_day : MethodName := ⟨RL, "day", "([I[II)V"⟩
abbrev cL_colds : ByteArray := method_7_code
def yL_colds : MethodName := ⟨RL, "colds", "([I[I)I"⟩
abbrev cL_takes : ByteArray := method_8_code
def yL_takes : MethodName := ⟨RL, "takes", "([IIZ)I"⟩
abbrev cL_owes : ByteArray := method_9_code
def yL_owes : MethodName := ⟨RL, "owes", "([I[IIZ)I"⟩
abbrev cL_why : ByteArray := method_10_code
def yL_why : MethodName := ⟨RL, "why", "([I[IIZ)I"⟩
abbrev cL_walks : ByteArray := method_11_code
def yL_walks : MethodName := ⟨RL, "walks", "([II)I"⟩
abbrev cL_buys : ByteArray := method_12_code
def yL_buys : MethodName := ⟨RL, "buys", "([II)I"⟩
abbrev cL_mends : ByteArray := method_13_code
def yL_mends : MethodName := ⟨RL, "mends", "([I[IIZ)I"⟩
abbrev cL_collects : ByteArray := method_14_code
def yL_collects : MethodName := ⟨RL, "collects", "([I[II)I"⟩
abbrev cL_ends : ByteArray := method_15_code
def yL_ends : MethodName := ⟨RL, "ends", "([I[II)I"⟩
abbrev cL_acts : ByteArray := method_16_code
def yL_acts : MethodName := ⟨RL, "acts", "(LBellowsRound;[I[II)Z"⟩
abbrev cL_areSmithies : ByteArray := method_17_code
def yL_areSmithies : MethodName := ⟨RL, "areSmithies", "(LBellowsRound;[I[I)Z"⟩
abbrev cL_isSo : ByteArray := method_18_code
def yL_isSo : MethodName := ⟨RL, "isSo", "(LBellowsRound;[I[I)Z"⟩
abbrev cL_law : ByteArray := code
def yL_law : MethodName := ⟨RL, "law", "([I)Z"⟩
