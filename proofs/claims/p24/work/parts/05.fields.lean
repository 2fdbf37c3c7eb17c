/-! ===== fields and rows, by their names ===== -/
section FIELDS
variable {cA : Nat → ClassId} {ad : Nat → Nat} {D : va_G} {own : String} {ws : List Cond} {cc : ByteArray} {nL : Nat} {ret : Option FieldType} {d pc n : Nat} {lv : List (Option Value)} {st rest : List Value} {M : Mem} {Q : QT}
theorem cell_st (cA : Nat → ClassId) (ad : Nat → Nat) (M : Mem) {p : Nat} (hp : p < 6) : cellOf cA ad M (6 + 10 * p) = .inr (2, [.ref (ad (6 + 10 * p + 1)), .int (M.1 p 0), .int (M.1 p 10), .int (M.1 p 11), .int (M.1 p 12), .int (M.1 p 13), .int (M.1 p 1), .int (M.1 p 2), .int (M.1 p 3), .int (M.1 p 4), .int (M.1 p 5), .int (M.1 p 6), .int (M.1 p 7), .int (M.1 p 8), .int (M.1 p 9)]) := by
  unfold cellOf
  have e : (6 + 10 * p - 6) / 10 = p := by omega
  have e2 : (6 + 10 * p - 6) % 10 = 0 := by omega
  rw [if_neg (by omega), if_neg (by omega), if_neg (by omega), if_neg (by omega), if_neg (by omega), if_neg (by omega), if_pos e2, e]
theorem cell_row (cA : Nat → ClassId) (ad : Nat → Nat) (M : Mem) {p : Nat} (hp : p < 6) : cellOf cA ad M (6 + 10 * p + 1) = .inl (cA 2, 8, .inr (.inr (.inr (.inr (fun j => some (ad (8 + 10 * p + j))))))) := by
  unfold cellOf
  have e2 : (6 + 10 * p + 1 - 6) % 10 = 1 := by omega
  have e3 : ∀ j, 6 + 10 * p + 1 + 1 + j = 8 + 10 * p + j := fun j => by omega
  rw [if_neg (by omega), if_neg (by omega), if_neg (by omega), if_neg (by omega), if_neg (by omega), if_neg (by omega), if_neg (by omega), if_pos e2]
  simp only [e3]
theorem cell_sm (cA : Nat → ClassId) (ad : Nat → Nat) (M : Mem) {p k : Nat} (hp : p < 6) (hk : k < 8) : cellOf cA ad M (8 + 10 * p + k) = .inr (1, [.int (M.1 p (14 + 8 * k)), .int (M.1 p (14 + 8 * k + 1)), .int (M.1 p (14 + 8 * k + 2)), .int (M.1 p (14 + 8 * k + 3)), .int (M.1 p (14 + 8 * k + 4)), .int (M.1 p (14 + 8 * k + 5)), .int (M.1 p (14 + 8 * k + 6)), .int (M.1 p (14 + 8 * k + 7))]) := by
  unfold cellOf
  have e : (8 + 10 * p + k - 6) / 10 = p := by omega
  have e2 : (8 + 10 * p + k - 6) % 10 - 2 = k := by omega
  rw [if_neg (by omega), if_neg (by omega), if_neg (by omega), if_neg (by omega), if_neg (by omega), if_neg (by omega), if_neg (by omega), if_neg (by omega), e, e2]
theorem g_ot_characters {index : Nat} (hin : ∀ w ∈ u_ws RX0 TX0 6, w ∈ ws) (hlink : Cond.fieldLink own index "BellowsRound$OrderText" "characters" "[C" ∈ ws) (h : decode cc pc = .ok (.getfield index, 3)) (hn : pc + 3 = n) (kk : PW cA ad D own ws cc nL ret d n lv (.ref (ad 2) :: st) M Q) : PW cA ad D own ws cc nL ret d pc lv (.ref (ad (1)) :: st) M Q :=
  r_get (ci := 0) (k := 0) (T := TX0) (by decide) (rfl) rfl hin (by decide) hlink rfl h hn kk
theorem g_ot_length {index : Nat} (hin : ∀ w ∈ u_ws RX0 TX0 6, w ∈ ws) (hlink : Cond.fieldLink own index "BellowsRound$OrderText" "length" "I" ∈ ws) (h : decode cc pc = .ok (.getfield index, 3)) (hn : pc + 3 = n) (kk : PW cA ad D own ws cc nL ret d n lv (.int (M.1 6 0) :: st) M Q) : PW cA ad D own ws cc nL ret d pc lv (.ref (ad (1)) :: st) M Q :=
  r_get (ci := 0) (k := 1) (T := TX0) (by decide) (rfl) rfl hin (by decide) hlink rfl h hn kk
theorem p_ot_length {index : Nat} {x : Int32} (hin : ∀ w ∈ u_ws RX0 TX0 6, w ∈ ws) (hlink : Cond.fieldLink own index "BellowsRound$OrderText" "length" "I" ∈ ws) (h : decode cc pc = .ok (.putfield index, 3)) (hn : pc + 3 = n) (kk : PW cA ad D own ws cc nL ret d n lv st (mput M 6 0 x) Q) : PW cA ad D own ws cc nL ret d pc lv (.int x :: .ref (ad (1)) :: st) M Q :=
  r_put (ci := 0) (k := 1) (T := TX0) (ty := .int) (by decide) (rfl) rfl tyX0 tyX0_ok nmX0 hin (by decide) hlink rfl (by decide +kernel) rfl rfl (Nat.le_of_ble_eq_true rfl) (by simp [cellOf, mput, va_up, upd])
    (fun j2 h1 h2 => cell_other cA ad M (by decide) h1 (by rw [show ownI 6 0 = 1 from by decide]; exact h2)) h hn kk
theorem g_ot_letter {index : Nat} (hin : ∀ w ∈ u_ws RX0 TX0 6, w ∈ ws) (hlink : Cond.fieldLink own index "BellowsRound$OrderText" "letter" "I" ∈ ws) (h : decode cc pc = .ok (.getfield index, 3)) (hn : pc + 3 = n) (kk : PW cA ad D own ws cc nL ret d n lv (.int (M.1 6 1) :: st) M Q) : PW cA ad D own ws cc nL ret d pc lv (.ref (ad (1)) :: st) M Q :=
  r_get (ci := 0) (k := 2) (T := TX0) (by decide) (rfl) rfl hin (by decide) hlink rfl h hn kk
theorem p_ot_letter {index : Nat} {x : Int32} (hin : ∀ w ∈ u_ws RX0 TX0 6, w ∈ ws) (hlink : Cond.fieldLink own index "BellowsRound$OrderText" "letter" "I" ∈ ws) (h : decode cc pc = .ok (.putfield index, 3)) (hn : pc + 3 = n) (kk : PW cA ad D own ws cc nL ret d n lv st (mput M 6 1 x) Q) : PW cA ad D own ws cc nL ret d pc lv (.int x :: .ref (ad (1)) :: st) M Q :=
  r_put (ci := 0) (k := 2) (T := TX0) (ty := .int) (by decide) (rfl) rfl tyX0 tyX0_ok nmX0 hin (by decide) hlink rfl (by decide +kernel) rfl rfl (Nat.le_of_ble_eq_true rfl) (by simp [cellOf, mput, va_up, upd])
    (fun j2 h1 h2 => cell_other cA ad M (by decide) h1 (by rw [show ownI 6 1 = 1 from by decide]; exact h2)) h hn kk
theorem g_ot_number {index : Nat} (hin : ∀ w ∈ u_ws RX0 TX0 6, w ∈ ws) (hlink : Cond.fieldLink own index "BellowsRound$OrderText" "number" "I" ∈ ws) (h : decode cc pc = .ok (.getfield index, 3)) (hn : pc + 3 = n) (kk : PW cA ad D own ws cc nL ret d n lv (.int (M.1 6 2) :: st) M Q) : PW cA ad D own ws cc nL ret d pc lv (.ref (ad (1)) :: st) M Q :=
  r_get (ci := 0) (k := 3) (T := TX0) (by decide) (rfl) rfl hin (by decide) hlink rfl h hn kk
theorem p_ot_number {index : Nat} {x : Int32} (hin : ∀ w ∈ u_ws RX0 TX0 6, w ∈ ws) (hlink : Cond.fieldLink own index "BellowsRound$OrderText" "number" "I" ∈ ws) (h : decode cc pc = .ok (.putfield index, 3)) (hn : pc + 3 = n) (kk : PW cA ad D own ws cc nL ret d n lv st (mput M 6 2 x) Q) : PW cA ad D own ws cc nL ret d pc lv (.int x :: .ref (ad (1)) :: st) M Q :=
  r_put (ci := 0) (k := 3) (T := TX0) (ty := .int) (by decide) (rfl) rfl tyX0 tyX0_ok nmX0 hin (by decide) hlink rfl (by decide +kernel) rfl rfl (Nat.le_of_ble_eq_true rfl) (by simp [cellOf, mput, va_up, upd])
    (fun j2 h1 h2 => cell_other cA ad M (by decide) h1 (by rw [show ownI 6 2 = 1 from by decide]; exact h2)) h hn kk
theorem g_ot_behind {index : Nat} (hin : ∀ w ∈ u_ws RX0 TX0 6, w ∈ ws) (hlink : Cond.fieldLink own index "BellowsRound$OrderText" "behind" "I" ∈ ws) (h : decode cc pc = .ok (.getfield index, 3)) (hn : pc + 3 = n) (kk : PW cA ad D own ws cc nL ret d n lv (.int (M.1 6 3) :: st) M Q) : PW cA ad D own ws cc nL ret d pc lv (.ref (ad (1)) :: st) M Q :=
  r_get (ci := 0) (k := 4) (T := TX0) (by decide) (rfl) rfl hin (by decide) hlink rfl h hn kk
theorem p_ot_behind {index : Nat} {x : Int32} (hin : ∀ w ∈ u_ws RX0 TX0 6, w ∈ ws) (hlink : Cond.fieldLink own index "BellowsRound$OrderText" "behind" "I" ∈ ws) (h : decode cc pc = .ok (.putfield index, 3)) (hn : pc + 3 = n) (kk : PW cA ad D own ws cc nL ret d n lv st (mput M 6 3 x) Q) : PW cA ad D own ws cc nL ret d pc lv (.int x :: .ref (ad (1)) :: st) M Q :=
  r_put (ci := 0) (k := 4) (T := TX0) (ty := .int) (by decide) (rfl) rfl tyX0 tyX0_ok nmX0 hin (by decide) hlink rfl (by decide +kernel) rfl rfl (Nat.le_of_ble_eq_true rfl) (by simp [cellOf, mput, va_up, upd])
    (fun j2 h1 h2 => cell_other cA ad M (by decide) h1 (by rw [show ownI 6 3 = 1 from by decide]; exact h2)) h hn kk
theorem g_ot_brokenAt {index : Nat} (hin : ∀ w ∈ u_ws RX0 TX0 6, w ∈ ws) (hlink : Cond.fieldLink own index "BellowsRound$OrderText" "brokenAt" "I" ∈ ws) (h : decode cc pc = .ok (.getfield index, 3)) (hn : pc + 3 = n) (kk : PW cA ad D own ws cc nL ret d n lv (.int (M.1 6 4) :: st) M Q) : PW cA ad D own ws cc nL ret d pc lv (.ref (ad (1)) :: st) M Q :=
  r_get (ci := 0) (k := 5) (T := TX0) (by decide) (rfl) rfl hin (by decide) hlink rfl h hn kk
theorem p_ot_brokenAt {index : Nat} {x : Int32} (hin : ∀ w ∈ u_ws RX0 TX0 6, w ∈ ws) (hlink : Cond.fieldLink own index "BellowsRound$OrderText" "brokenAt" "I" ∈ ws) (h : decode cc pc = .ok (.putfield index, 3)) (hn : pc + 3 = n) (kk : PW cA ad D own ws cc nL ret d n lv st (mput M 6 4 x) Q) : PW cA ad D own ws cc nL ret d pc lv (.int x :: .ref (ad (1)) :: st) M Q :=
  r_put (ci := 0) (k := 5) (T := TX0) (ty := .int) (by decide) (rfl) rfl tyX0 tyX0_ok nmX0 hin (by decide) hlink rfl (by decide +kernel) rfl rfl (Nat.le_of_ble_eq_true rfl) (by simp [cellOf, mput, va_up, upd])
    (fun j2 h1 h2 => cell_other cA ad M (by decide) h1 (by rw [show ownI 6 4 = 1 from by decide]; exact h2)) h hn kk
theorem g_sm_mile {index : Nat} {q k : Nat} (hp : q < 6) (hk : k < 8) (hin : ∀ w ∈ u_ws RX1 TX1 8, w ∈ ws) (hlink : Cond.fieldLink own index "BellowsRound$Smithy" "mile" "I" ∈ ws) (h : decode cc pc = .ok (.getfield index, 3)) (hn : pc + 3 = n) (kk : PW cA ad D own ws cc nL ret d n lv (.int (M.1 q (14 + 8 * k)) :: st) M Q) : PW cA ad D own ws cc nL ret d pc lv (.ref (ad (8 + 10 * q + k)) :: st) M Q :=
  r_get (ci := 1) (k := 0) (T := TX1) (by omega) (cell_sm cA ad M hp hk) rfl hin (by decide) hlink rfl h hn kk
theorem p_sm_mile {index : Nat} {x : Int32} {q k : Nat} (hp : q < 6) (hk : k < 8) (hin : ∀ w ∈ u_ws RX1 TX1 8, w ∈ ws) (hlink : Cond.fieldLink own index "BellowsRound$Smithy" "mile" "I" ∈ ws) (h : decode cc pc = .ok (.putfield index, 3)) (hn : pc + 3 = n) (kk : PW cA ad D own ws cc nL ret d n lv st (mput M q (14 + 8 * k) x) Q) : PW cA ad D own ws cc nL ret d pc lv (.int x :: .ref (ad (8 + 10 * q + k)) :: st) M Q :=
  r_put (ci := 1) (k := 0) (T := TX1) (ty := .int) (by omega) (cell_sm cA ad M hp hk) rfl tyX1 tyX1_ok nmX1 hin (by decide) hlink rfl (by decide +kernel) rfl rfl (Nat.le_of_ble_eq_true rfl) (by
    rw [cell_sm cA ad _ hp hk, mput_eq]
    simp [upd, Nat.add_assoc])
    (fun j2 h1 h2 => cell_other cA ad M (by omega) h1 (by rw [show ownI q (14 + 8 * k) = 8 + 10 * q + k from by unfold ownI; rw [if_pos hp, if_neg (by omega)]; omega]; exact h2)) h hn kk
theorem g_sm_size {index : Nat} {q k : Nat} (hp : q < 6) (hk : k < 8) (hin : ∀ w ∈ u_ws RX1 TX1 8, w ∈ ws) (hlink : Cond.fieldLink own index "BellowsRound$Smithy" "size" "I" ∈ ws) (h : decode cc pc = .ok (.getfield index, 3)) (hn : pc + 3 = n) (kk : PW cA ad D own ws cc nL ret d n lv (.int (M.1 q (14 + 8 * k + 1)) :: st) M Q) : PW cA ad D own ws cc nL ret d pc lv (.ref (ad (8 + 10 * q + k)) :: st) M Q :=
  r_get (ci := 1) (k := 1) (T := TX1) (by omega) (cell_sm cA ad M hp hk) rfl hin (by decide) hlink rfl h hn kk
theorem p_sm_size {index : Nat} {x : Int32} {q k : Nat} (hp : q < 6) (hk : k < 8) (hin : ∀ w ∈ u_ws RX1 TX1 8, w ∈ ws) (hlink : Cond.fieldLink own index "BellowsRound$Smithy" "size" "I" ∈ ws) (h : decode cc pc = .ok (.putfield index, 3)) (hn : pc + 3 = n) (kk : PW cA ad D own ws cc nL ret d n lv st (mput M q (14 + 8 * k + 1) x) Q) : PW cA ad D own ws cc nL ret d pc lv (.int x :: .ref (ad (8 + 10 * q + k)) :: st) M Q :=
  r_put (ci := 1) (k := 1) (T := TX1) (ty := .int) (by omega) (cell_sm cA ad M hp hk) rfl tyX1 tyX1_ok nmX1 hin (by decide) hlink rfl (by decide +kernel) rfl rfl (Nat.le_of_ble_eq_true rfl) (by
    rw [cell_sm cA ad _ hp hk, mput_eq]
    simp [upd, Nat.add_assoc])
    (fun j2 h1 h2 => cell_other cA ad M (by omega) h1 (by rw [show ownI q (14 + 8 * k + 1) = 8 + 10 * q + k from by unfold ownI; rw [if_pos hp, if_neg (by omega)]; omega]; exact h2)) h hn kk
theorem g_sm_wear {index : Nat} {q k : Nat} (hp : q < 6) (hk : k < 8) (hin : ∀ w ∈ u_ws RX1 TX1 8, w ∈ ws) (hlink : Cond.fieldLink own index "BellowsRound$Smithy" "wear" "I" ∈ ws) (h : decode cc pc = .ok (.getfield index, 3)) (hn : pc + 3 = n) (kk : PW cA ad D own ws cc nL ret d n lv (.int (M.1 q (14 + 8 * k + 2)) :: st) M Q) : PW cA ad D own ws cc nL ret d pc lv (.ref (ad (8 + 10 * q + k)) :: st) M Q :=
  r_get (ci := 1) (k := 2) (T := TX1) (by omega) (cell_sm cA ad M hp hk) rfl hin (by decide) hlink rfl h hn kk
theorem p_sm_wear {index : Nat} {x : Int32} {q k : Nat} (hp : q < 6) (hk : k < 8) (hin : ∀ w ∈ u_ws RX1 TX1 8, w ∈ ws) (hlink : Cond.fieldLink own index "BellowsRound$Smithy" "wear" "I" ∈ ws) (h : decode cc pc = .ok (.putfield index, 3)) (hn : pc + 3 = n) (kk : PW cA ad D own ws cc nL ret d n lv st (mput M q (14 + 8 * k + 2) x) Q) : PW cA ad D own ws cc nL ret d pc lv (.int x :: .ref (ad (8 + 10 * q + k)) :: st) M Q :=
  r_put (ci := 1) (k := 2) (T := TX1) (ty := .int) (by omega) (cell_sm cA ad M hp hk) rfl tyX1 tyX1_ok nmX1 hin (by decide) hlink rfl (by decide +kernel) rfl rfl (Nat.le_of_ble_eq_true rfl) (by
    rw [cell_sm cA ad _ hp hk, mput_eq]
    simp [upd, Nat.add_assoc])
    (fun j2 h1 h2 => cell_other cA ad M (by omega) h1 (by rw [show ownI q (14 + 8 * k + 2) = 8 + 10 * q + k from by unfold ownI; rw [if_pos hp, if_neg (by omega)]; omega]; exact h2)) h hn kk
theorem g_sm_heat {index : Nat} {q k : Nat} (hp : q < 6) (hk : k < 8) (hin : ∀ w ∈ u_ws RX1 TX1 8, w ∈ ws) (hlink : Cond.fieldLink own index "BellowsRound$Smithy" "heat" "I" ∈ ws) (h : decode cc pc = .ok (.getfield index, 3)) (hn : pc + 3 = n) (kk : PW cA ad D own ws cc nL ret d n lv (.int (M.1 q (14 + 8 * k + 3)) :: st) M Q) : PW cA ad D own ws cc nL ret d pc lv (.ref (ad (8 + 10 * q + k)) :: st) M Q :=
  r_get (ci := 1) (k := 3) (T := TX1) (by omega) (cell_sm cA ad M hp hk) rfl hin (by decide) hlink rfl h hn kk
theorem p_sm_heat {index : Nat} {x : Int32} {q k : Nat} (hp : q < 6) (hk : k < 8) (hin : ∀ w ∈ u_ws RX1 TX1 8, w ∈ ws) (hlink : Cond.fieldLink own index "BellowsRound$Smithy" "heat" "I" ∈ ws) (h : decode cc pc = .ok (.putfield index, 3)) (hn : pc + 3 = n) (kk : PW cA ad D own ws cc nL ret d n lv st (mput M q (14 + 8 * k + 3) x) Q) : PW cA ad D own ws cc nL ret d pc lv (.int x :: .ref (ad (8 + 10 * q + k)) :: st) M Q :=
  r_put (ci := 1) (k := 3) (T := TX1) (ty := .int) (by omega) (cell_sm cA ad M hp hk) rfl tyX1 tyX1_ok nmX1 hin (by decide) hlink rfl (by decide +kernel) rfl rfl (Nat.le_of_ble_eq_true rfl) (by
    rw [cell_sm cA ad _ hp hk, mput_eq]
    simp [upd, Nat.add_assoc])
    (fun j2 h1 h2 => cell_other cA ad M (by omega) h1 (by rw [show ownI q (14 + 8 * k + 3) = 8 + 10 * q + k from by unfold ownI; rw [if_pos hp, if_neg (by omega)]; omega]; exact h2)) h hn kk
theorem g_sm_coldDays {index : Nat} {q k : Nat} (hp : q < 6) (hk : k < 8) (hin : ∀ w ∈ u_ws RX1 TX1 8, w ∈ ws) (hlink : Cond.fieldLink own index "BellowsRound$Smithy" "coldDays" "I" ∈ ws) (h : decode cc pc = .ok (.getfield index, 3)) (hn : pc + 3 = n) (kk : PW cA ad D own ws cc nL ret d n lv (.int (M.1 q (14 + 8 * k + 4)) :: st) M Q) : PW cA ad D own ws cc nL ret d pc lv (.ref (ad (8 + 10 * q + k)) :: st) M Q :=
  r_get (ci := 1) (k := 4) (T := TX1) (by omega) (cell_sm cA ad M hp hk) rfl hin (by decide) hlink rfl h hn kk
theorem p_sm_coldDays {index : Nat} {x : Int32} {q k : Nat} (hp : q < 6) (hk : k < 8) (hin : ∀ w ∈ u_ws RX1 TX1 8, w ∈ ws) (hlink : Cond.fieldLink own index "BellowsRound$Smithy" "coldDays" "I" ∈ ws) (h : decode cc pc = .ok (.putfield index, 3)) (hn : pc + 3 = n) (kk : PW cA ad D own ws cc nL ret d n lv st (mput M q (14 + 8 * k + 4) x) Q) : PW cA ad D own ws cc nL ret d pc lv (.int x :: .ref (ad (8 + 10 * q + k)) :: st) M Q :=
  r_put (ci := 1) (k := 4) (T := TX1) (ty := .int) (by omega) (cell_sm cA ad M hp hk) rfl tyX1 tyX1_ok nmX1 hin (by decide) hlink rfl (by decide +kernel) rfl rfl (Nat.le_of_ble_eq_true rfl) (by
    rw [cell_sm cA ad _ hp hk, mput_eq]
    simp [upd, Nat.add_assoc])
    (fun j2 h1 h2 => cell_other cA ad M (by omega) h1 (by rw [show ownI q (14 + 8 * k + 4) = 8 + 10 * q + k from by unfold ownI; rw [if_pos hp, if_neg (by omega)]; omega]; exact h2)) h hn kk
theorem g_sm_debt {index : Nat} {q k : Nat} (hp : q < 6) (hk : k < 8) (hin : ∀ w ∈ u_ws RX1 TX1 8, w ∈ ws) (hlink : Cond.fieldLink own index "BellowsRound$Smithy" "debt" "I" ∈ ws) (h : decode cc pc = .ok (.getfield index, 3)) (hn : pc + 3 = n) (kk : PW cA ad D own ws cc nL ret d n lv (.int (M.1 q (14 + 8 * k + 5)) :: st) M Q) : PW cA ad D own ws cc nL ret d pc lv (.ref (ad (8 + 10 * q + k)) :: st) M Q :=
  r_get (ci := 1) (k := 5) (T := TX1) (by omega) (cell_sm cA ad M hp hk) rfl hin (by decide) hlink rfl h hn kk
theorem p_sm_debt {index : Nat} {x : Int32} {q k : Nat} (hp : q < 6) (hk : k < 8) (hin : ∀ w ∈ u_ws RX1 TX1 8, w ∈ ws) (hlink : Cond.fieldLink own index "BellowsRound$Smithy" "debt" "I" ∈ ws) (h : decode cc pc = .ok (.putfield index, 3)) (hn : pc + 3 = n) (kk : PW cA ad D own ws cc nL ret d n lv st (mput M q (14 + 8 * k + 5) x) Q) : PW cA ad D own ws cc nL ret d pc lv (.int x :: .ref (ad (8 + 10 * q + k)) :: st) M Q :=
  r_put (ci := 1) (k := 5) (T := TX1) (ty := .int) (by omega) (cell_sm cA ad M hp hk) rfl tyX1 tyX1_ok nmX1 hin (by decide) hlink rfl (by decide +kernel) rfl rfl (Nat.le_of_ble_eq_true rfl) (by
    rw [cell_sm cA ad _ hp hk, mput_eq]
    simp [upd, Nat.add_assoc])
    (fun j2 h1 h2 => cell_other cA ad M (by omega) h1 (by rw [show ownI q (14 + 8 * k + 5) = 8 + 10 * q + k from by unfold ownI; rw [if_pos hp, if_neg (by omega)]; omega]; exact h2)) h hn kk
theorem g_sm_paid {index : Nat} {q k : Nat} (hp : q < 6) (hk : k < 8) (hin : ∀ w ∈ u_ws RX1 TX1 8, w ∈ ws) (hlink : Cond.fieldLink own index "BellowsRound$Smithy" "paid" "I" ∈ ws) (h : decode cc pc = .ok (.getfield index, 3)) (hn : pc + 3 = n) (kk : PW cA ad D own ws cc nL ret d n lv (.int (M.1 q (14 + 8 * k + 6)) :: st) M Q) : PW cA ad D own ws cc nL ret d pc lv (.ref (ad (8 + 10 * q + k)) :: st) M Q :=
  r_get (ci := 1) (k := 6) (T := TX1) (by omega) (cell_sm cA ad M hp hk) rfl hin (by decide) hlink rfl h hn kk
theorem p_sm_paid {index : Nat} {x : Int32} {q k : Nat} (hp : q < 6) (hk : k < 8) (hin : ∀ w ∈ u_ws RX1 TX1 8, w ∈ ws) (hlink : Cond.fieldLink own index "BellowsRound$Smithy" "paid" "I" ∈ ws) (h : decode cc pc = .ok (.putfield index, 3)) (hn : pc + 3 = n) (kk : PW cA ad D own ws cc nL ret d n lv st (mput M q (14 + 8 * k + 6) x) Q) : PW cA ad D own ws cc nL ret d pc lv (.int x :: .ref (ad (8 + 10 * q + k)) :: st) M Q :=
  r_put (ci := 1) (k := 6) (T := TX1) (ty := .int) (by omega) (cell_sm cA ad M hp hk) rfl tyX1 tyX1_ok nmX1 hin (by decide) hlink rfl (by decide +kernel) rfl rfl (Nat.le_of_ble_eq_true rfl) (by
    rw [cell_sm cA ad _ hp hk, mput_eq]
    simp [upd, Nat.add_assoc])
    (fun j2 h1 h2 => cell_other cA ad M (by omega) h1 (by rw [show ownI q (14 + 8 * k + 6) = 8 + 10 * q + k from by unfold ownI; rw [if_pos hp, if_neg (by omega)]; omega]; exact h2)) h hn kk
theorem g_sm_mends {index : Nat} {q k : Nat} (hp : q < 6) (hk : k < 8) (hin : ∀ w ∈ u_ws RX1 TX1 8, w ∈ ws) (hlink : Cond.fieldLink own index "BellowsRound$Smithy" "mends" "I" ∈ ws) (h : decode cc pc = .ok (.getfield index, 3)) (hn : pc + 3 = n) (kk : PW cA ad D own ws cc nL ret d n lv (.int (M.1 q (14 + 8 * k + 7)) :: st) M Q) : PW cA ad D own ws cc nL ret d pc lv (.ref (ad (8 + 10 * q + k)) :: st) M Q :=
  r_get (ci := 1) (k := 7) (T := TX1) (by omega) (cell_sm cA ad M hp hk) rfl hin (by decide) hlink rfl h hn kk
theorem p_sm_mends {index : Nat} {x : Int32} {q k : Nat} (hp : q < 6) (hk : k < 8) (hin : ∀ w ∈ u_ws RX1 TX1 8, w ∈ ws) (hlink : Cond.fieldLink own index "BellowsRound$Smithy" "mends" "I" ∈ ws) (h : decode cc pc = .ok (.putfield index, 3)) (hn : pc + 3 = n) (kk : PW cA ad D own ws cc nL ret d n lv st (mput M q (14 + 8 * k + 7) x) Q) : PW cA ad D own ws cc nL ret d pc lv (.int x :: .ref (ad (8 + 10 * q + k)) :: st) M Q :=
  r_put (ci := 1) (k := 7) (T := TX1) (ty := .int) (by omega) (cell_sm cA ad M hp hk) rfl tyX1 tyX1_ok nmX1 hin (by decide) hlink rfl (by decide +kernel) rfl rfl (Nat.le_of_ble_eq_true rfl) (by
    rw [cell_sm cA ad _ hp hk, mput_eq]
    simp [upd, Nat.add_assoc])
    (fun j2 h1 h2 => cell_other cA ad M (by omega) h1 (by rw [show ownI q (14 + 8 * k + 7) = 8 + 10 * q + k from by unfold ownI; rw [if_pos hp, if_neg (by omega)]; omega]; exact h2)) h hn kk
theorem g_st_smithies {index : Nat} {q : Nat} (hp : q < 6) (hin : ∀ w ∈ u_ws RX2 TX2 15, w ∈ ws) (hlink : Cond.fieldLink own index "BellowsRound$State" "smithies" "[LBellowsRound$Smithy;" ∈ ws) (h : decode cc pc = .ok (.getfield index, 3)) (hn : pc + 3 = n) (kk : PW cA ad D own ws cc nL ret d n lv (.ref (ad (6 + 10 * q + 1)) :: st) M Q) : PW cA ad D own ws cc nL ret d pc lv (.ref (ad (6 + 10 * q)) :: st) M Q :=
  r_get (ci := 2) (k := 0) (T := TX2) (by omega) (cell_st cA ad M hp) rfl hin (by decide) hlink rfl h hn kk
theorem g_st_smithyCount {index : Nat} {q : Nat} (hp : q < 6) (hin : ∀ w ∈ u_ws RX2 TX2 15, w ∈ ws) (hlink : Cond.fieldLink own index "BellowsRound$State" "smithyCount" "I" ∈ ws) (h : decode cc pc = .ok (.getfield index, 3)) (hn : pc + 3 = n) (kk : PW cA ad D own ws cc nL ret d n lv (.int (M.1 q 0) :: st) M Q) : PW cA ad D own ws cc nL ret d pc lv (.ref (ad (6 + 10 * q)) :: st) M Q :=
  r_get (ci := 2) (k := 1) (T := TX2) (by omega) (cell_st cA ad M hp) rfl hin (by decide) hlink rfl h hn kk
theorem p_st_smithyCount {index : Nat} {x : Int32} {q : Nat} (hp : q < 6) (hin : ∀ w ∈ u_ws RX2 TX2 15, w ∈ ws) (hlink : Cond.fieldLink own index "BellowsRound$State" "smithyCount" "I" ∈ ws) (h : decode cc pc = .ok (.putfield index, 3)) (hn : pc + 3 = n) (kk : PW cA ad D own ws cc nL ret d n lv st (mput M q 0 x) Q) : PW cA ad D own ws cc nL ret d pc lv (.int x :: .ref (ad (6 + 10 * q)) :: st) M Q :=
  r_put (ci := 2) (k := 1) (T := TX2) (ty := .int) (by omega) (cell_st cA ad M hp) rfl tyX2 tyX2_ok nmX2 hin (by decide) hlink rfl (by decide +kernel) rfl rfl (Nat.le_of_ble_eq_true rfl) (by
    rw [cell_st cA ad _ hp, mput_eq]
    simp [upd])
    (fun j2 h1 h2 => cell_other cA ad M (by omega) h1 (by rw [show ownI q 0 = 6 + 10 * q from by unfold ownI; rw [if_pos hp, if_pos (by decide)]]; exact h2)) h hn kk
theorem g_st_cold {index : Nat} {q : Nat} (hp : q < 6) (hin : ∀ w ∈ u_ws RX2 TX2 15, w ∈ ws) (hlink : Cond.fieldLink own index "BellowsRound$State" "cold" "I" ∈ ws) (h : decode cc pc = .ok (.getfield index, 3)) (hn : pc + 3 = n) (kk : PW cA ad D own ws cc nL ret d n lv (.int (M.1 q 10) :: st) M Q) : PW cA ad D own ws cc nL ret d pc lv (.ref (ad (6 + 10 * q)) :: st) M Q :=
  r_get (ci := 2) (k := 2) (T := TX2) (by omega) (cell_st cA ad M hp) rfl hin (by decide) hlink rfl h hn kk
theorem p_st_cold {index : Nat} {x : Int32} {q : Nat} (hp : q < 6) (hin : ∀ w ∈ u_ws RX2 TX2 15, w ∈ ws) (hlink : Cond.fieldLink own index "BellowsRound$State" "cold" "I" ∈ ws) (h : decode cc pc = .ok (.putfield index, 3)) (hn : pc + 3 = n) (kk : PW cA ad D own ws cc nL ret d n lv st (mput M q 10 x) Q) : PW cA ad D own ws cc nL ret d pc lv (.int x :: .ref (ad (6 + 10 * q)) :: st) M Q :=
  r_put (ci := 2) (k := 2) (T := TX2) (ty := .int) (by omega) (cell_st cA ad M hp) rfl tyX2 tyX2_ok nmX2 hin (by decide) hlink rfl (by decide +kernel) rfl rfl (Nat.le_of_ble_eq_true rfl) (by
    rw [cell_st cA ad _ hp, mput_eq]
    simp [upd])
    (fun j2 h1 h2 => cell_other cA ad M (by omega) h1 (by rw [show ownI q 10 = 6 + 10 * q from by unfold ownI; rw [if_pos hp, if_pos (by decide)]]; exact h2)) h hn kk
theorem g_st_hours {index : Nat} {q : Nat} (hp : q < 6) (hin : ∀ w ∈ u_ws RX2 TX2 15, w ∈ ws) (hlink : Cond.fieldLink own index "BellowsRound$State" "hours" "I" ∈ ws) (h : decode cc pc = .ok (.getfield index, 3)) (hn : pc + 3 = n) (kk : PW cA ad D own ws cc nL ret d n lv (.int (M.1 q 11) :: st) M Q) : PW cA ad D own ws cc nL ret d pc lv (.ref (ad (6 + 10 * q)) :: st) M Q :=
  r_get (ci := 2) (k := 3) (T := TX2) (by omega) (cell_st cA ad M hp) rfl hin (by decide) hlink rfl h hn kk
theorem p_st_hours {index : Nat} {x : Int32} {q : Nat} (hp : q < 6) (hin : ∀ w ∈ u_ws RX2 TX2 15, w ∈ ws) (hlink : Cond.fieldLink own index "BellowsRound$State" "hours" "I" ∈ ws) (h : decode cc pc = .ok (.putfield index, 3)) (hn : pc + 3 = n) (kk : PW cA ad D own ws cc nL ret d n lv st (mput M q 11 x) Q) : PW cA ad D own ws cc nL ret d pc lv (.int x :: .ref (ad (6 + 10 * q)) :: st) M Q :=
  r_put (ci := 2) (k := 3) (T := TX2) (ty := .int) (by omega) (cell_st cA ad M hp) rfl tyX2 tyX2_ok nmX2 hin (by decide) hlink rfl (by decide +kernel) rfl rfl (Nat.le_of_ble_eq_true rfl) (by
    rw [cell_st cA ad _ hp, mput_eq]
    simp [upd])
    (fun j2 h1 h2 => cell_other cA ad M (by omega) h1 (by rw [show ownI q 11 = 6 + 10 * q from by unfold ownI; rw [if_pos hp, if_pos (by decide)]]; exact h2)) h hn kk
theorem g_st_rate {index : Nat} {q : Nat} (hp : q < 6) (hin : ∀ w ∈ u_ws RX2 TX2 15, w ∈ ws) (hlink : Cond.fieldLink own index "BellowsRound$State" "rate" "I" ∈ ws) (h : decode cc pc = .ok (.getfield index, 3)) (hn : pc + 3 = n) (kk : PW cA ad D own ws cc nL ret d n lv (.int (M.1 q 12) :: st) M Q) : PW cA ad D own ws cc nL ret d pc lv (.ref (ad (6 + 10 * q)) :: st) M Q :=
  r_get (ci := 2) (k := 4) (T := TX2) (by omega) (cell_st cA ad M hp) rfl hin (by decide) hlink rfl h hn kk
theorem p_st_rate {index : Nat} {x : Int32} {q : Nat} (hp : q < 6) (hin : ∀ w ∈ u_ws RX2 TX2 15, w ∈ ws) (hlink : Cond.fieldLink own index "BellowsRound$State" "rate" "I" ∈ ws) (h : decode cc pc = .ok (.putfield index, 3)) (hn : pc + 3 = n) (kk : PW cA ad D own ws cc nL ret d n lv st (mput M q 12 x) Q) : PW cA ad D own ws cc nL ret d pc lv (.int x :: .ref (ad (6 + 10 * q)) :: st) M Q :=
  r_put (ci := 2) (k := 4) (T := TX2) (ty := .int) (by omega) (cell_st cA ad M hp) rfl tyX2 tyX2_ok nmX2 hin (by decide) hlink rfl (by decide +kernel) rfl rfl (Nat.le_of_ble_eq_true rfl) (by
    rw [cell_st cA ad _ hp, mput_eq]
    simp [upd])
    (fun j2 h1 h2 => cell_other cA ad M (by omega) h1 (by rw [show ownI q 12 = 6 + 10 * q from by unfold ownI; rw [if_pos hp, if_pos (by decide)]]; exact h2)) h hn kk
theorem g_st_patience {index : Nat} {q : Nat} (hp : q < 6) (hin : ∀ w ∈ u_ws RX2 TX2 15, w ∈ ws) (hlink : Cond.fieldLink own index "BellowsRound$State" "patience" "I" ∈ ws) (h : decode cc pc = .ok (.getfield index, 3)) (hn : pc + 3 = n) (kk : PW cA ad D own ws cc nL ret d n lv (.int (M.1 q 13) :: st) M Q) : PW cA ad D own ws cc nL ret d pc lv (.ref (ad (6 + 10 * q)) :: st) M Q :=
  r_get (ci := 2) (k := 5) (T := TX2) (by omega) (cell_st cA ad M hp) rfl hin (by decide) hlink rfl h hn kk
theorem p_st_patience {index : Nat} {x : Int32} {q : Nat} (hp : q < 6) (hin : ∀ w ∈ u_ws RX2 TX2 15, w ∈ ws) (hlink : Cond.fieldLink own index "BellowsRound$State" "patience" "I" ∈ ws) (h : decode cc pc = .ok (.putfield index, 3)) (hn : pc + 3 = n) (kk : PW cA ad D own ws cc nL ret d n lv st (mput M q 13 x) Q) : PW cA ad D own ws cc nL ret d pc lv (.int x :: .ref (ad (6 + 10 * q)) :: st) M Q :=
  r_put (ci := 2) (k := 5) (T := TX2) (ty := .int) (by omega) (cell_st cA ad M hp) rfl tyX2 tyX2_ok nmX2 hin (by decide) hlink rfl (by decide +kernel) rfl rfl (Nat.le_of_ble_eq_true rfl) (by
    rw [cell_st cA ad _ hp, mput_eq]
    simp [upd])
    (fun j2 h1 h2 => cell_other cA ad M (by omega) h1 (by rw [show ownI q 13 = 6 + 10 * q from by unfold ownI; rw [if_pos hp, if_pos (by decide)]]; exact h2)) h hn kk
theorem g_st_day {index : Nat} {q : Nat} (hp : q < 6) (hin : ∀ w ∈ u_ws RX2 TX2 15, w ∈ ws) (hlink : Cond.fieldLink own index "BellowsRound$State" "day" "I" ∈ ws) (h : decode cc pc = .ok (.getfield index, 3)) (hn : pc + 3 = n) (kk : PW cA ad D own ws cc nL ret d n lv (.int (M.1 q 1) :: st) M Q) : PW cA ad D own ws cc nL ret d pc lv (.ref (ad (6 + 10 * q)) :: st) M Q :=
  r_get (ci := 2) (k := 6) (T := TX2) (by omega) (cell_st cA ad M hp) rfl hin (by decide) hlink rfl h hn kk
theorem p_st_day {index : Nat} {x : Int32} {q : Nat} (hp : q < 6) (hin : ∀ w ∈ u_ws RX2 TX2 15, w ∈ ws) (hlink : Cond.fieldLink own index "BellowsRound$State" "day" "I" ∈ ws) (h : decode cc pc = .ok (.putfield index, 3)) (hn : pc + 3 = n) (kk : PW cA ad D own ws cc nL ret d n lv st (mput M q 1 x) Q) : PW cA ad D own ws cc nL ret d pc lv (.int x :: .ref (ad (6 + 10 * q)) :: st) M Q :=
  r_put (ci := 2) (k := 6) (T := TX2) (ty := .int) (by omega) (cell_st cA ad M hp) rfl tyX2 tyX2_ok nmX2 hin (by decide) hlink rfl (by decide +kernel) rfl rfl (Nat.le_of_ble_eq_true rfl) (by
    rw [cell_st cA ad _ hp, mput_eq]
    simp [upd])
    (fun j2 h1 h2 => cell_other cA ad M (by omega) h1 (by rw [show ownI q 1 = 6 + 10 * q from by unfold ownI; rw [if_pos hp, if_pos (by decide)]]; exact h2)) h hn kk
theorem g_st_mile {index : Nat} {q : Nat} (hp : q < 6) (hin : ∀ w ∈ u_ws RX2 TX2 15, w ∈ ws) (hlink : Cond.fieldLink own index "BellowsRound$State" "mile" "I" ∈ ws) (h : decode cc pc = .ok (.getfield index, 3)) (hn : pc + 3 = n) (kk : PW cA ad D own ws cc nL ret d n lv (.int (M.1 q 2) :: st) M Q) : PW cA ad D own ws cc nL ret d pc lv (.ref (ad (6 + 10 * q)) :: st) M Q :=
  r_get (ci := 2) (k := 7) (T := TX2) (by omega) (cell_st cA ad M hp) rfl hin (by decide) hlink rfl h hn kk
theorem p_st_mile {index : Nat} {x : Int32} {q : Nat} (hp : q < 6) (hin : ∀ w ∈ u_ws RX2 TX2 15, w ∈ ws) (hlink : Cond.fieldLink own index "BellowsRound$State" "mile" "I" ∈ ws) (h : decode cc pc = .ok (.putfield index, 3)) (hn : pc + 3 = n) (kk : PW cA ad D own ws cc nL ret d n lv st (mput M q 2 x) Q) : PW cA ad D own ws cc nL ret d pc lv (.int x :: .ref (ad (6 + 10 * q)) :: st) M Q :=
  r_put (ci := 2) (k := 7) (T := TX2) (ty := .int) (by omega) (cell_st cA ad M hp) rfl tyX2 tyX2_ok nmX2 hin (by decide) hlink rfl (by decide +kernel) rfl rfl (Nat.le_of_ble_eq_true rfl) (by
    rw [cell_st cA ad _ hp, mput_eq]
    simp [upd])
    (fun j2 h1 h2 => cell_other cA ad M (by omega) h1 (by rw [show ownI q 2 = 6 + 10 * q from by unfold ownI; rw [if_pos hp, if_pos (by decide)]]; exact h2)) h hn kk
theorem g_st_hoursLeft {index : Nat} {q : Nat} (hp : q < 6) (hin : ∀ w ∈ u_ws RX2 TX2 15, w ∈ ws) (hlink : Cond.fieldLink own index "BellowsRound$State" "hoursLeft" "I" ∈ ws) (h : decode cc pc = .ok (.getfield index, 3)) (hn : pc + 3 = n) (kk : PW cA ad D own ws cc nL ret d n lv (.int (M.1 q 3) :: st) M Q) : PW cA ad D own ws cc nL ret d pc lv (.ref (ad (6 + 10 * q)) :: st) M Q :=
  r_get (ci := 2) (k := 8) (T := TX2) (by omega) (cell_st cA ad M hp) rfl hin (by decide) hlink rfl h hn kk
theorem p_st_hoursLeft {index : Nat} {x : Int32} {q : Nat} (hp : q < 6) (hin : ∀ w ∈ u_ws RX2 TX2 15, w ∈ ws) (hlink : Cond.fieldLink own index "BellowsRound$State" "hoursLeft" "I" ∈ ws) (h : decode cc pc = .ok (.putfield index, 3)) (hn : pc + 3 = n) (kk : PW cA ad D own ws cc nL ret d n lv st (mput M q 3 x) Q) : PW cA ad D own ws cc nL ret d pc lv (.int x :: .ref (ad (6 + 10 * q)) :: st) M Q :=
  r_put (ci := 2) (k := 8) (T := TX2) (ty := .int) (by omega) (cell_st cA ad M hp) rfl tyX2 tyX2_ok nmX2 hin (by decide) hlink rfl (by decide +kernel) rfl rfl (Nat.le_of_ble_eq_true rfl) (by
    rw [cell_st cA ad _ hp, mput_eq]
    simp [upd])
    (fun j2 h1 h2 => cell_other cA ad M (by omega) h1 (by rw [show ownI q 3 = 6 + 10 * q from by unfold ownI; rw [if_pos hp, if_pos (by decide)]]; exact h2)) h hn kk
theorem g_st_leather {index : Nat} {q : Nat} (hp : q < 6) (hin : ∀ w ∈ u_ws RX2 TX2 15, w ∈ ws) (hlink : Cond.fieldLink own index "BellowsRound$State" "leather" "I" ∈ ws) (h : decode cc pc = .ok (.getfield index, 3)) (hn : pc + 3 = n) (kk : PW cA ad D own ws cc nL ret d n lv (.int (M.1 q 4) :: st) M Q) : PW cA ad D own ws cc nL ret d pc lv (.ref (ad (6 + 10 * q)) :: st) M Q :=
  r_get (ci := 2) (k := 9) (T := TX2) (by omega) (cell_st cA ad M hp) rfl hin (by decide) hlink rfl h hn kk
theorem p_st_leather {index : Nat} {x : Int32} {q : Nat} (hp : q < 6) (hin : ∀ w ∈ u_ws RX2 TX2 15, w ∈ ws) (hlink : Cond.fieldLink own index "BellowsRound$State" "leather" "I" ∈ ws) (h : decode cc pc = .ok (.putfield index, 3)) (hn : pc + 3 = n) (kk : PW cA ad D own ws cc nL ret d n lv st (mput M q 4 x) Q) : PW cA ad D own ws cc nL ret d pc lv (.int x :: .ref (ad (6 + 10 * q)) :: st) M Q :=
  r_put (ci := 2) (k := 9) (T := TX2) (ty := .int) (by omega) (cell_st cA ad M hp) rfl tyX2 tyX2_ok nmX2 hin (by decide) hlink rfl (by decide +kernel) rfl rfl (Nat.le_of_ble_eq_true rfl) (by
    rw [cell_st cA ad _ hp, mput_eq]
    simp [upd])
    (fun j2 h1 h2 => cell_other cA ad M (by omega) h1 (by rw [show ownI q 4 = 6 + 10 * q from by unfold ownI; rw [if_pos hp, if_pos (by decide)]]; exact h2)) h hn kk
theorem g_st_money {index : Nat} {q : Nat} (hp : q < 6) (hin : ∀ w ∈ u_ws RX2 TX2 15, w ∈ ws) (hlink : Cond.fieldLink own index "BellowsRound$State" "money" "I" ∈ ws) (h : decode cc pc = .ok (.getfield index, 3)) (hn : pc + 3 = n) (kk : PW cA ad D own ws cc nL ret d n lv (.int (M.1 q 5) :: st) M Q) : PW cA ad D own ws cc nL ret d pc lv (.ref (ad (6 + 10 * q)) :: st) M Q :=
  r_get (ci := 2) (k := 10) (T := TX2) (by omega) (cell_st cA ad M hp) rfl hin (by decide) hlink rfl h hn kk
theorem p_st_money {index : Nat} {x : Int32} {q : Nat} (hp : q < 6) (hin : ∀ w ∈ u_ws RX2 TX2 15, w ∈ ws) (hlink : Cond.fieldLink own index "BellowsRound$State" "money" "I" ∈ ws) (h : decode cc pc = .ok (.putfield index, 3)) (hn : pc + 3 = n) (kk : PW cA ad D own ws cc nL ret d n lv st (mput M q 5 x) Q) : PW cA ad D own ws cc nL ret d pc lv (.int x :: .ref (ad (6 + 10 * q)) :: st) M Q :=
  r_put (ci := 2) (k := 10) (T := TX2) (ty := .int) (by omega) (cell_st cA ad M hp) rfl tyX2 tyX2_ok nmX2 hin (by decide) hlink rfl (by decide +kernel) rfl rfl (Nat.le_of_ble_eq_true rfl) (by
    rw [cell_st cA ad _ hp, mput_eq]
    simp [upd])
    (fun j2 h1 h2 => cell_other cA ad M (by omega) h1 (by rw [show ownI q 5 = 6 + 10 * q from by unfold ownI; rw [if_pos hp, if_pos (by decide)]]; exact h2)) h hn kk
theorem g_st_paidForLeather {index : Nat} {q : Nat} (hp : q < 6) (hin : ∀ w ∈ u_ws RX2 TX2 15, w ∈ ws) (hlink : Cond.fieldLink own index "BellowsRound$State" "paidForLeather" "I" ∈ ws) (h : decode cc pc = .ok (.getfield index, 3)) (hn : pc + 3 = n) (kk : PW cA ad D own ws cc nL ret d n lv (.int (M.1 q 6) :: st) M Q) : PW cA ad D own ws cc nL ret d pc lv (.ref (ad (6 + 10 * q)) :: st) M Q :=
  r_get (ci := 2) (k := 11) (T := TX2) (by omega) (cell_st cA ad M hp) rfl hin (by decide) hlink rfl h hn kk
theorem p_st_paidForLeather {index : Nat} {x : Int32} {q : Nat} (hp : q < 6) (hin : ∀ w ∈ u_ws RX2 TX2 15, w ∈ ws) (hlink : Cond.fieldLink own index "BellowsRound$State" "paidForLeather" "I" ∈ ws) (h : decode cc pc = .ok (.putfield index, 3)) (hn : pc + 3 = n) (kk : PW cA ad D own ws cc nL ret d n lv st (mput M q 6 x) Q) : PW cA ad D own ws cc nL ret d pc lv (.int x :: .ref (ad (6 + 10 * q)) :: st) M Q :=
  r_put (ci := 2) (k := 11) (T := TX2) (ty := .int) (by omega) (cell_st cA ad M hp) rfl tyX2 tyX2_ok nmX2 hin (by decide) hlink rfl (by decide +kernel) rfl rfl (Nat.le_of_ble_eq_true rfl) (by
    rw [cell_st cA ad _ hp, mput_eq]
    simp [upd])
    (fun j2 h1 h2 => cell_other cA ad M (by omega) h1 (by rw [show ownI q 6 = 6 + 10 * q from by unfold ownI; rw [if_pos hp, if_pos (by decide)]]; exact h2)) h hn kk
theorem g_st_owedForMends {index : Nat} {q : Nat} (hp : q < 6) (hin : ∀ w ∈ u_ws RX2 TX2 15, w ∈ ws) (hlink : Cond.fieldLink own index "BellowsRound$State" "owedForMends" "I" ∈ ws) (h : decode cc pc = .ok (.getfield index, 3)) (hn : pc + 3 = n) (kk : PW cA ad D own ws cc nL ret d n lv (.int (M.1 q 7) :: st) M Q) : PW cA ad D own ws cc nL ret d pc lv (.ref (ad (6 + 10 * q)) :: st) M Q :=
  r_get (ci := 2) (k := 12) (T := TX2) (by omega) (cell_st cA ad M hp) rfl hin (by decide) hlink rfl h hn kk
theorem p_st_owedForMends {index : Nat} {x : Int32} {q : Nat} (hp : q < 6) (hin : ∀ w ∈ u_ws RX2 TX2 15, w ∈ ws) (hlink : Cond.fieldLink own index "BellowsRound$State" "owedForMends" "I" ∈ ws) (h : decode cc pc = .ok (.putfield index, 3)) (hn : pc + 3 = n) (kk : PW cA ad D own ws cc nL ret d n lv st (mput M q 7 x) Q) : PW cA ad D own ws cc nL ret d pc lv (.int x :: .ref (ad (6 + 10 * q)) :: st) M Q :=
  r_put (ci := 2) (k := 12) (T := TX2) (ty := .int) (by omega) (cell_st cA ad M hp) rfl tyX2 tyX2_ok nmX2 hin (by decide) hlink rfl (by decide +kernel) rfl rfl (Nat.le_of_ble_eq_true rfl) (by
    rw [cell_st cA ad _ hp, mput_eq]
    simp [upd])
    (fun j2 h1 h2 => cell_other cA ad M (by omega) h1 (by rw [show ownI q 7 = 6 + 10 * q from by unfold ownI; rw [if_pos hp, if_pos (by decide)]]; exact h2)) h hn kk
theorem g_st_longestCold {index : Nat} {q : Nat} (hp : q < 6) (hin : ∀ w ∈ u_ws RX2 TX2 15, w ∈ ws) (hlink : Cond.fieldLink own index "BellowsRound$State" "longestCold" "I" ∈ ws) (h : decode cc pc = .ok (.getfield index, 3)) (hn : pc + 3 = n) (kk : PW cA ad D own ws cc nL ret d n lv (.int (M.1 q 8) :: st) M Q) : PW cA ad D own ws cc nL ret d pc lv (.ref (ad (6 + 10 * q)) :: st) M Q :=
  r_get (ci := 2) (k := 13) (T := TX2) (by omega) (cell_st cA ad M hp) rfl hin (by decide) hlink rfl h hn kk
theorem p_st_longestCold {index : Nat} {x : Int32} {q : Nat} (hp : q < 6) (hin : ∀ w ∈ u_ws RX2 TX2 15, w ∈ ws) (hlink : Cond.fieldLink own index "BellowsRound$State" "longestCold" "I" ∈ ws) (h : decode cc pc = .ok (.putfield index, 3)) (hn : pc + 3 = n) (kk : PW cA ad D own ws cc nL ret d n lv st (mput M q 8 x) Q) : PW cA ad D own ws cc nL ret d pc lv (.int x :: .ref (ad (6 + 10 * q)) :: st) M Q :=
  r_put (ci := 2) (k := 13) (T := TX2) (ty := .int) (by omega) (cell_st cA ad M hp) rfl tyX2 tyX2_ok nmX2 hin (by decide) hlink rfl (by decide +kernel) rfl rfl (Nat.le_of_ble_eq_true rfl) (by
    rw [cell_st cA ad _ hp, mput_eq]
    simp [upd])
    (fun j2 h1 h2 => cell_other cA ad M (by omega) h1 (by rw [show ownI q 8 = 6 + 10 * q from by unfold ownI; rw [if_pos hp, if_pos (by decide)]]; exact h2)) h hn kk
theorem g_st_milesWalked {index : Nat} {q : Nat} (hp : q < 6) (hin : ∀ w ∈ u_ws RX2 TX2 15, w ∈ ws) (hlink : Cond.fieldLink own index "BellowsRound$State" "milesWalked" "I" ∈ ws) (h : decode cc pc = .ok (.getfield index, 3)) (hn : pc + 3 = n) (kk : PW cA ad D own ws cc nL ret d n lv (.int (M.1 q 9) :: st) M Q) : PW cA ad D own ws cc nL ret d pc lv (.ref (ad (6 + 10 * q)) :: st) M Q :=
  r_get (ci := 2) (k := 14) (T := TX2) (by omega) (cell_st cA ad M hp) rfl hin (by decide) hlink rfl h hn kk
theorem p_st_milesWalked {index : Nat} {x : Int32} {q : Nat} (hp : q < 6) (hin : ∀ w ∈ u_ws RX2 TX2 15, w ∈ ws) (hlink : Cond.fieldLink own index "BellowsRound$State" "milesWalked" "I" ∈ ws) (h : decode cc pc = .ok (.putfield index, 3)) (hn : pc + 3 = n) (kk : PW cA ad D own ws cc nL ret d n lv st (mput M q 9 x) Q) : PW cA ad D own ws cc nL ret d pc lv (.int x :: .ref (ad (6 + 10 * q)) :: st) M Q :=
  r_put (ci := 2) (k := 14) (T := TX2) (ty := .int) (by omega) (cell_st cA ad M hp) rfl tyX2 tyX2_ok nmX2 hin (by decide) hlink rfl (by decide +kernel) rfl rfl (Nat.le_of_ble_eq_true rfl) (by
    rw [cell_st cA ad _ hp, mput_eq]
    simp [upd])
    (fun j2 h1 h2 => cell_other cA ad M (by omega) h1 (by rw [show ownI q 9 = 6 + 10 * q from by unfold ownI; rw [if_pos hp, if_pos (by decide)]]; exact h2)) h hn kk
theorem g_br_now {index : Nat} (hin : ∀ w ∈ u_ws RX3 TX3 9, w ∈ ws) (hlink : Cond.fieldLink own index "BellowsRound" "now" "LBellowsRound$State;" ∈ ws) (h : decode cc pc = .ok (.getfield index, 3)) (hn : pc + 3 = n) (kk : PW cA ad D own ws cc nL ret d n lv (.ref (ad (6 + 10 * M.2 0)) :: st) M Q) : PW cA ad D own ws cc nL ret d pc lv (.ref (ad (0)) :: st) M Q :=
  r_get (ci := 3) (k := 0) (T := TX3) (by decide) (rfl) rfl hin (by decide) hlink rfl h hn kk
theorem g_br_trial {index : Nat} (hin : ∀ w ∈ u_ws RX3 TX3 9, w ∈ ws) (hlink : Cond.fieldLink own index "BellowsRound" "trial" "LBellowsRound$State;" ∈ ws) (h : decode cc pc = .ok (.getfield index, 3)) (hn : pc + 3 = n) (kk : PW cA ad D own ws cc nL ret d n lv (.ref (ad (6 + 10 * M.2 1)) :: st) M Q) : PW cA ad D own ws cc nL ret d pc lv (.ref (ad (0)) :: st) M Q :=
  r_get (ci := 3) (k := 1) (T := TX3) (by decide) (rfl) rfl hin (by decide) hlink rfl h hn kk
theorem g_br_history {index : Nat} (hin : ∀ w ∈ u_ws RX3 TX3 9, w ∈ ws) (hlink : Cond.fieldLink own index "BellowsRound" "history" "[LBellowsRound$State;" ∈ ws) (h : decode cc pc = .ok (.getfield index, 3)) (hn : pc + 3 = n) (kk : PW cA ad D own ws cc nL ret d n lv (.ref (ad 3) :: st) M Q) : PW cA ad D own ws cc nL ret d pc lv (.ref (ad (0)) :: st) M Q :=
  r_get (ci := 3) (k := 2) (T := TX3) (by decide) (rfl) rfl hin (by decide) hlink rfl h hn kk
theorem g_br_states {index : Nat} (hin : ∀ w ∈ u_ws RX3 TX3 9, w ∈ ws) (hlink : Cond.fieldLink own index "BellowsRound" "states" "I" ∈ ws) (h : decode cc pc = .ok (.getfield index, 3)) (hn : pc + 3 = n) (kk : PW cA ad D own ws cc nL ret d n lv (.int (M.1 8 0) :: st) M Q) : PW cA ad D own ws cc nL ret d pc lv (.ref (ad (0)) :: st) M Q :=
  r_get (ci := 3) (k := 3) (T := TX3) (by decide) (rfl) rfl hin (by decide) hlink rfl h hn kk
theorem p_br_states {index : Nat} {x : Int32} (hin : ∀ w ∈ u_ws RX3 TX3 9, w ∈ ws) (hlink : Cond.fieldLink own index "BellowsRound" "states" "I" ∈ ws) (h : decode cc pc = .ok (.putfield index, 3)) (hn : pc + 3 = n) (kk : PW cA ad D own ws cc nL ret d n lv st (mput M 8 0 x) Q) : PW cA ad D own ws cc nL ret d pc lv (.int x :: .ref (ad (0)) :: st) M Q :=
  r_put (ci := 3) (k := 3) (T := TX3) (ty := .int) (by decide) (rfl) rfl tyX3 tyX3_ok nmX3 hin (by decide) hlink rfl (by decide +kernel) rfl rfl (Nat.le_of_ble_eq_true rfl) (by simp [cellOf, mput, va_up, upd])
    (fun j2 h1 h2 => cell_other cA ad M (by decide) h1 (by rw [show ownI 8 0 = 0 from by decide]; exact h2)) h hn kk
theorem g_br_text {index : Nat} (hin : ∀ w ∈ u_ws RX3 TX3 9, w ∈ ws) (hlink : Cond.fieldLink own index "BellowsRound" "text" "LBellowsRound$OrderText;" ∈ ws) (h : decode cc pc = .ok (.getfield index, 3)) (hn : pc + 3 = n) (kk : PW cA ad D own ws cc nL ret d n lv (.ref (ad 1) :: st) M Q) : PW cA ad D own ws cc nL ret d pc lv (.ref (ad (0)) :: st) M Q :=
  r_get (ci := 3) (k := 4) (T := TX3) (by decide) (rfl) rfl hin (by decide) hlink rfl h hn kk
theorem g_br_ordersTried {index : Nat} (hin : ∀ w ∈ u_ws RX3 TX3 9, w ∈ ws) (hlink : Cond.fieldLink own index "BellowsRound" "ordersTried" "I" ∈ ws) (h : decode cc pc = .ok (.getfield index, 3)) (hn : pc + 3 = n) (kk : PW cA ad D own ws cc nL ret d n lv (.int (M.1 8 1) :: st) M Q) : PW cA ad D own ws cc nL ret d pc lv (.ref (ad (0)) :: st) M Q :=
  r_get (ci := 3) (k := 5) (T := TX3) (by decide) (rfl) rfl hin (by decide) hlink rfl h hn kk
theorem p_br_ordersTried {index : Nat} {x : Int32} (hin : ∀ w ∈ u_ws RX3 TX3 9, w ∈ ws) (hlink : Cond.fieldLink own index "BellowsRound" "ordersTried" "I" ∈ ws) (h : decode cc pc = .ok (.putfield index, 3)) (hn : pc + 3 = n) (kk : PW cA ad D own ws cc nL ret d n lv st (mput M 8 1 x) Q) : PW cA ad D own ws cc nL ret d pc lv (.int x :: .ref (ad (0)) :: st) M Q :=
  r_put (ci := 3) (k := 5) (T := TX3) (ty := .int) (by decide) (rfl) rfl tyX3 tyX3_ok nmX3 hin (by decide) hlink rfl (by decide +kernel) rfl rfl (Nat.le_of_ble_eq_true rfl) (by simp [cellOf, mput, va_up, upd])
    (fun j2 h1 h2 => cell_other cA ad M (by decide) h1 (by rw [show ownI 8 1 = 0 from by decide]; exact h2)) h hn kk
theorem g_br_faultPosition {index : Nat} (hin : ∀ w ∈ u_ws RX3 TX3 9, w ∈ ws) (hlink : Cond.fieldLink own index "BellowsRound" "faultPosition" "I" ∈ ws) (h : decode cc pc = .ok (.getfield index, 3)) (hn : pc + 3 = n) (kk : PW cA ad D own ws cc nL ret d n lv (.int (M.1 8 2) :: st) M Q) : PW cA ad D own ws cc nL ret d pc lv (.ref (ad (0)) :: st) M Q :=
  r_get (ci := 3) (k := 6) (T := TX3) (by decide) (rfl) rfl hin (by decide) hlink rfl h hn kk
theorem p_br_faultPosition {index : Nat} {x : Int32} (hin : ∀ w ∈ u_ws RX3 TX3 9, w ∈ ws) (hlink : Cond.fieldLink own index "BellowsRound" "faultPosition" "I" ∈ ws) (h : decode cc pc = .ok (.putfield index, 3)) (hn : pc + 3 = n) (kk : PW cA ad D own ws cc nL ret d n lv st (mput M 8 2 x) Q) : PW cA ad D own ws cc nL ret d pc lv (.int x :: .ref (ad (0)) :: st) M Q :=
  r_put (ci := 3) (k := 6) (T := TX3) (ty := .int) (by decide) (rfl) rfl tyX3 tyX3_ok nmX3 hin (by decide) hlink rfl (by decide +kernel) rfl rfl (Nat.le_of_ble_eq_true rfl) (by simp [cellOf, mput, va_up, upd])
    (fun j2 h1 h2 => cell_other cA ad M (by decide) h1 (by rw [show ownI 8 2 = 0 from by decide]; exact h2)) h hn kk
theorem g_br_faultReason {index : Nat} (hin : ∀ w ∈ u_ws RX3 TX3 9, w ∈ ws) (hlink : Cond.fieldLink own index "BellowsRound" "faultReason" "I" ∈ ws) (h : decode cc pc = .ok (.getfield index, 3)) (hn : pc + 3 = n) (kk : PW cA ad D own ws cc nL ret d n lv (.int (M.1 8 3) :: st) M Q) : PW cA ad D own ws cc nL ret d pc lv (.ref (ad (0)) :: st) M Q :=
  r_get (ci := 3) (k := 7) (T := TX3) (by decide) (rfl) rfl hin (by decide) hlink rfl h hn kk
theorem p_br_faultReason {index : Nat} {x : Int32} (hin : ∀ w ∈ u_ws RX3 TX3 9, w ∈ ws) (hlink : Cond.fieldLink own index "BellowsRound" "faultReason" "I" ∈ ws) (h : decode cc pc = .ok (.putfield index, 3)) (hn : pc + 3 = n) (kk : PW cA ad D own ws cc nL ret d n lv st (mput M 8 3 x) Q) : PW cA ad D own ws cc nL ret d pc lv (.int x :: .ref (ad (0)) :: st) M Q :=
  r_put (ci := 3) (k := 7) (T := TX3) (ty := .int) (by decide) (rfl) rfl tyX3 tyX3_ok nmX3 hin (by decide) hlink rfl (by decide +kernel) rfl rfl (Nat.le_of_ble_eq_true rfl) (by simp [cellOf, mput, va_up, upd])
    (fun j2 h1 h2 => cell_other cA ad M (by decide) h1 (by rw [show ownI 8 3 = 0 from by decide]; exact h2)) h hn kk
theorem g_br_faultCause {index : Nat} (hin : ∀ w ∈ u_ws RX3 TX3 9, w ∈ ws) (hlink : Cond.fieldLink own index "BellowsRound" "faultCause" "I" ∈ ws) (h : decode cc pc = .ok (.getfield index, 3)) (hn : pc + 3 = n) (kk : PW cA ad D own ws cc nL ret d n lv (.int (M.1 8 4) :: st) M Q) : PW cA ad D own ws cc nL ret d pc lv (.ref (ad (0)) :: st) M Q :=
  r_get (ci := 3) (k := 8) (T := TX3) (by decide) (rfl) rfl hin (by decide) hlink rfl h hn kk
theorem p_br_faultCause {index : Nat} {x : Int32} (hin : ∀ w ∈ u_ws RX3 TX3 9, w ∈ ws) (hlink : Cond.fieldLink own index "BellowsRound" "faultCause" "I" ∈ ws) (h : decode cc pc = .ok (.putfield index, 3)) (hn : pc + 3 = n) (kk : PW cA ad D own ws cc nL ret d n lv st (mput M 8 4 x) Q) : PW cA ad D own ws cc nL ret d pc lv (.int x :: .ref (ad (0)) :: st) M Q :=
  r_put (ci := 3) (k := 8) (T := TX3) (ty := .int) (by decide) (rfl) rfl tyX3 tyX3_ok nmX3 hin (by decide) hlink rfl (by decide +kernel) rfl rfl (Nat.le_of_ble_eq_true rfl) (by simp [cellOf, mput, va_up, upd])
    (fun j2 h1 h2 => cell_other cA ad M (by decide) h1 (by rw [show ownI 8 4 = 0 from by decide]; exact h2)) h hn kk
theorem cell_ref {q : Nat} (k : Nat) (hk : k < 6) {j : Nat} (hj : j < 66) (h0 : j ≠ 0) (h3 : j = 3 → k < 2) : cellOf cA ad (M.1, va_up M.2 k q) j = cellOf cA ad M j := by
  unfold cellOf
  by_cases e3 : j = 3
  · have h9 : ∀ i, va_up M.2 k q (2 + i) = M.2 (2 + i) := fun i => by simp [va_up]; omega
    simp only [h9]
    simp [h0]
  · simp [h0, e3]
theorem p_br_now {index q : Nat} (hq : q < 6) (hin : ∀ w ∈ u_ws RX3 TX3 9, w ∈ ws) (hlink : Cond.fieldLink own index "BellowsRound" "now" "LBellowsRound$State;" ∈ ws) (h : decode cc pc = .ok (.putfield index, 3)) (hn : pc + 3 = n) (kk : PW cA ad D own ws cc nL ret d n lv st (M.1, va_up M.2 0 q) Q) : PW cA ad D own ws cc nL ret d pc lv (.ref (ad (6 + 10 * q)) :: .ref (ad 0) :: st) M Q :=
  r_put (ci := 3) (k := 0) (T := TX3) (ty := .object "BellowsRound$State") (by decide) rfl rfl tyX3 tyX3_ok nmX3 hin (by decide) hlink rfl (by decide +kernel) rfl rfl (Nat.le_of_ble_eq_true rfl) (by simp [cellOf, va_up])
    (fun j2 h1 h2 => cell_ref 0 (by decide) h1 h2 (by intro z; subst z; omega)) h hn kk
theorem p_br_trial {index q : Nat} (hq : q < 6) (hin : ∀ w ∈ u_ws RX3 TX3 9, w ∈ ws) (hlink : Cond.fieldLink own index "BellowsRound" "trial" "LBellowsRound$State;" ∈ ws) (h : decode cc pc = .ok (.putfield index, 3)) (hn : pc + 3 = n) (kk : PW cA ad D own ws cc nL ret d n lv st (M.1, va_up M.2 1 q) Q) : PW cA ad D own ws cc nL ret d pc lv (.ref (ad (6 + 10 * q)) :: .ref (ad 0) :: st) M Q :=
  r_put (ci := 3) (k := 1) (T := TX3) (ty := .object "BellowsRound$State") (by decide) rfl rfl tyX3 tyX3_ok nmX3 hin (by decide) hlink rfl (by decide +kernel) rfl rfl (Nat.le_of_ble_eq_true rfl) (by simp [cellOf, va_up])
    (fun j2 h1 h2 => cell_ref 1 (by decide) h1 h2 (by intro z; subst z; omega)) h hn kk
theorem a_hist {j : Int32} {k : Nat} (hj : j = nI k) (hk : k < 4) (h : decode cc pc = .ok (.aaload, 1)) (hn : pc + 1 = n) (kk : PW cA ad D own ws cc nL ret d n lv (.ref (ad (6 + 10 * M.2 (2 + k))) :: st) M Q) : PW cA ad D own ws cc nL ret d pc lv (.int j :: .ref (ad 3) :: st) M Q := by
  subst hj
  exact r_aald (i := 3) (len := 4) (t := 3) (C := "BellowsRound$State") (by decide) rfl rfl (vp_in_nI hk (by decide)) (by rw [nI_clamp (by omega)]) h hn kk
theorem a_sms {j : Int32} {k q : Nat} (hp : q < 6) (hj : j = nI k) (hk : k < 8) (h : decode cc pc = .ok (.aaload, 1)) (hn : pc + 1 = n) (kk : PW cA ad D own ws cc nL ret d n lv (.ref (ad (8 + 10 * q + k)) :: st) M Q) : PW cA ad D own ws cc nL ret d pc lv (.int j :: .ref (ad (6 + 10 * q + 1)) :: st) M Q := by
  subst hj
  exact r_aald (len := 8) (t := 2) (C := "BellowsRound$Smithy") (by omega) (cell_row cA ad M hp) rfl (vp_in_nI hk (by decide)) (by rw [nI_clamp (by omega)]) h hn kk
theorem a_putHist {j : Int32} {k q : Nat} (hj : j = nI k) (hk : k < 4) (hq : q < 6) (h : decode cc pc = .ok (.aastore, 1)) (hn : pc + 1 = n) (kk : PW cA ad D own ws cc nL ret d n lv st (M.1, va_up M.2 (2 + k) q) Q) : PW cA ad D own ws cc nL ret d pc lv (.ref (ad (6 + 10 * q)) :: .int j :: .ref (ad 3) :: st) M Q := by
  subst hj
  intro p l e s m args below meth c H locs ls E hW hS hl
  subst hn
  refine va_astq E.1 E.2.1 E.2.2.2.2.2.2.2.1.1 hW (wld_D E.2.2.2.2.2.2.2.2 M) hS 3 3 (6 + 10 * q) 2 (r := (RX2, TX2, 15)) (n := 4) (f := fun j => some (ad (6 + 10 * M.2 (2 + j)))) (wld_get cA ad M (by decide)) rfl ((wld_get cA ad M (by omega)).trans (by rw [cell_st cA ad M hq])) rfl (vp_in_nI hk (by decide)) h (fun H1 locs1 hP1 hD1 hS1 => ?_)
  rw [nI_clamp (by omega)] at hP1
  have hw := wld_set (cA := cA) (ad := ad) (M := M) (M' := (M.1, va_up M.2 (2 + k) q)) (i := 3) (e := .inl (cA 3, 4, .inr (.inr (.inr (.inr (va_up (fun j => some (ad (6 + 10 * M.2 (2 + j)))) k (some (ad (6 + 10 * q))))))))) (by decide) (by
      have hf : (fun j => some (ad (6 + 10 * va_up M.2 (2 + k) q (2 + j)))) = va_up (fun j => some (ad (6 + 10 * M.2 (2 + j)))) k (some (ad (6 + 10 * q))) := by
        funext j
        by_cases hj : j = k
        · subst hj; simp [va_up]
        · simp [va_up, hj]
      rw [← hf]
      rfl) (fun j2 h1 h2 => by
      by_cases e0 : j2 = 0
      · subst e0
        have z0 : va_up M.2 (2 + k) q 0 = M.2 0 := va_up_ne _ _ (by omega)
        have z1 : va_up M.2 (2 + k) q 1 = M.2 1 := va_up_ne _ _ (by omega)
        simp only [cellOf, z0, z1, if_true]
      · exact cell_ref (2 + k) (by omega) h1 e0 (fun z => absurd z h2))
  rw [hw] at hP1
  exact kk p l e s m args below meth c H1 locs1 ls E hP1 hS1 hl
theorem a_len {i len q0 : Nat} {f : Nat → Int32} (hi : i < 66) (hc : cellOf cA ad M i = .inl (cA 1, len, .inl f)) (h : decode cc pc = .ok (.arraylength, 1)) (hn : pc + 1 = n) (kk : PW cA ad D own ws cc nL ret d n lv (.int (nI len) :: st) M Q) : PW cA ad D own ws cc nL ret d pc lv (.ref (ad i) :: st) M Q := r_alen (t := 1) hi hc rfl rfl h hn kk
theorem a_lenHist (h : decode cc pc = .ok (.arraylength, 1)) (hn : pc + 1 = n) (kk : PW cA ad D own ws cc nL ret d n lv (.int 4 :: st) M Q) : PW cA ad D own ws cc nL ret d pc lv (.ref (ad 3) :: st) M Q := r_alen (i := 3) (len := 4) (t := 3) (by decide) rfl rfl rfl h hn kk
theorem a_lenChars (h : decode cc pc = .ok (.arraylength, 1)) (hn : pc + 1 = n) (kk : PW cA ad D own ws cc nL ret d n lv (.int 60 :: st) M Q) : PW cA ad D own ws cc nL ret d pc lv (.ref (ad 2) :: st) M Q := r_alen (i := 2) (len := 60) (t := 0) (by decide) rfl rfl rfl h hn kk
theorem a_lenSms {q : Nat} (hp : q < 6) (h : decode cc pc = .ok (.arraylength, 1)) (hn : pc + 1 = n) (kk : PW cA ad D own ws cc nL ret d n lv (.int 8 :: st) M Q) : PW cA ad D own ws cc nL ret d pc lv (.ref (ad (6 + 10 * q + 1)) :: st) M Q := r_alen (len := 8) (t := 2) (by omega) (cell_row cA ad M hp) rfl rfl h hn kk
theorem a_g {j : Int32} {k : Nat} (hj : j = nI k) (hk : k < 14) (h : decode cc pc = .ok (.iaload, 1)) (hn : pc + 1 = n) (kk : PW cA ad D own ws cc nL ret d n lv (.int (M.1 10 k) :: st) M Q) : PW cA ad D own ws cc nL ret d pc lv (.int j :: .ref (ad 4) :: st) M Q := by
  subst hj
  exact r_iald (i := 4) (len := 14) (f := fun j => if j < 14 then M.1 10 j else 0) (by decide) rfl (vp_in_nI hk (by decide)) h hn (by rw [nI_clamp (by omega), if_pos hk]; exact kk)
theorem a_put_g {j x : Int32} {k : Nat} (hj : j = nI k) (hk : k < 14) (h : decode cc pc = .ok (.iastore, 1)) (hn : pc + 1 = n) (kk : PW cA ad D own ws cc nL ret d n lv st (mput M 10 k x) Q) : PW cA ad D own ws cc nL ret d pc lv (.int x :: .int j :: .ref (ad 4) :: st) M Q := by
  subst hj
  refine r_iast (i := 4) (len := 14) (p' := 10) (k' := k) (f := fun j => if j < 14 then M.1 10 j else 0) (by decide) rfl (vp_in_nI hk (by decide)) ?_ (by decide) (by simp [ownI, hk]) h hn kk
  rw [nI_clamp (by omega)]
  have e : (fun j => if j < 14 then (mput M 10 k x).1 10 j else 0) = upd (fun j => if j < 14 then M.1 10 j else 0) k x := by
    funext i
    rw [mput_eq]
    unfold upd
    by_cases hi : i = k
    · subst hi
      rw [if_pos hk, if_pos rfl, if_pos rfl]
    · rw [if_neg hi, if_neg hi]
  have h9 : cellOf cA ad (mput M 10 k x) 4 = .inl (cA 1, 14, .inl (fun j => if j < 14 then (mput M 10 k x).1 10 j else 0)) := rfl
  rw [h9, e]
theorem a_fq {j : Int32} {k q : Nat} (hj : j = nI k) (hk : k < 64) (hq : 14 + k = q) (h : decode cc pc = .ok (.iaload, 1)) (hn : pc + 1 = n) (kk : PW cA ad D own ws cc nL ret d n lv (.int (M.1 10 q) :: st) M Q) : PW cA ad D own ws cc nL ret d pc lv (.int j :: .ref (ad 5) :: st) M Q := by
  subst hj
  subst hq
  exact r_iald (i := 5) (len := 64) (f := fun j => M.1 10 (14 + j)) (by decide) rfl (vp_in_nI hk (by decide)) h hn (by rw [nI_clamp (by omega)]; exact kk)
theorem a_put_fq {j x : Int32} {k q : Nat} (hj : j = nI k) (hk : k < 64) (hq : 14 + k = q) (h : decode cc pc = .ok (.iastore, 1)) (hn : pc + 1 = n) (kk : PW cA ad D own ws cc nL ret d n lv st (mput M 10 q x) Q) : PW cA ad D own ws cc nL ret d pc lv (.int x :: .int j :: .ref (ad 5) :: st) M Q := by
  subst hj
  subst hq
  refine r_iast (i := 5) (len := 64) (p' := 10) (k' := 14 + k) (f := fun j => M.1 10 (14 + j)) (by decide) rfl (vp_in_nI hk (by decide)) ?_ (by decide) (by simp [ownI]) h hn kk
  rw [nI_clamp (by omega)]
  have e : (fun j => (mput M 10 (14 + k) x).1 10 (14 + j)) = upd (fun j => M.1 10 (14 + j)) k x := by
    funext i
    rw [mput_eq]
    unfold upd
    by_cases hi : i = k
    · subst hi
      rw [if_pos rfl, if_pos rfl]
    · rw [if_neg hi, if_neg (by omega)]
  have h9 : cellOf cA ad (mput M 10 (14 + k) x) 5 = .inl (cA 1, 64, .inl (fun j => (mput M 10 (14 + k) x).1 10 (14 + j))) := rfl
  rw [h9, e]
theorem a_f {j : Int32} {k c : Nat} (hk : k < 8) (hc : c < 8) (hj : j = nI (8 * k + c)) (h : decode cc pc = .ok (.iaload, 1)) (hn : pc + 1 = n) (kk : PW cA ad D own ws cc nL ret d n lv (.int (M.1 10 (14 + 8 * k + c)) :: st) M Q) : PW cA ad D own ws cc nL ret d pc lv (.int j :: .ref (ad 5) :: st) M Q := a_fq hj (by omega) (by omega) h hn kk
theorem a_f0 {j : Int32} {k : Nat} (hk : k < 8) (hj : j = nI (8 * k)) (h : decode cc pc = .ok (.iaload, 1)) (hn : pc + 1 = n) (kk : PW cA ad D own ws cc nL ret d n lv (.int (M.1 10 (14 + 8 * k)) :: st) M Q) : PW cA ad D own ws cc nL ret d pc lv (.int j :: .ref (ad 5) :: st) M Q := a_fq hj (by omega) (by omega) h hn kk
theorem a_put_f {j x : Int32} {k c : Nat} (hk : k < 8) (hc : c < 8) (hj : j = nI (8 * k + c)) (h : decode cc pc = .ok (.iastore, 1)) (hn : pc + 1 = n) (kk : PW cA ad D own ws cc nL ret d n lv st (mput M 10 (14 + 8 * k + c) x) Q) : PW cA ad D own ws cc nL ret d pc lv (.int x :: .int j :: .ref (ad 5) :: st) M Q := a_put_fq hj (by omega) (by omega) h hn kk
theorem a_chars {j : Int32} {k : Nat} (hj : j = nI k) (hk : k < 60) (h : decode cc pc = .ok (.caload, 1)) (hn : pc + 1 = n) (kk : PW cA ad D own ws cc nL ret d n lv (.int (M.1 7 k) :: st) M Q) : PW cA ad D own ws cc nL ret d pc lv (.int j :: .ref (ad 2) :: st) M Q := by
  subst hj
  exact r_cald (vp_in_nI hk (by decide)) h hn (by rw [nI_clamp (by omega)]; exact kk)
theorem a_put_chars {j x : Int32} {k : Nat} (hj : j = nI k) (hk : k < 60) (hx : vp_nar .char x = x) (h : decode cc pc = .ok (.castore, 1)) (hn : pc + 1 = n) (kk : PW cA ad D own ws cc nL ret d n lv st (mput M 7 k x) Q) : PW cA ad D own ws cc nL ret d pc lv (.int x :: .int j :: .ref (ad 2) :: st) M Q := by
  subst hj
  refine r_cast (vp_in_nI hk (by decide)) h hn ?_
  rw [nI_clamp (by omega), hx]
  exact kk
end FIELDS
