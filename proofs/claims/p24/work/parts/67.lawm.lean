/-! ===== the law's own methods over its two rows ===== -/
section LAWM
variable {cA : Nat → ClassId} {ad : Nat → Nat} {D : va_G} {M : Mem} {v : Vec}
set_option maxHeartbeats 4000000 in
set_option maxRecDepth 100000 in
theorem m_L_low {x n : Int32} (hn : ¬ n = 0) : C_L_low cA ad D [.int x, .int n] M (Ri (rmI (x &&& 2147483647) n) M) := by
  refine PM_of (lv := [some (.int x), some (.int n)]) (by decide +kernel) rfl (Nat.le_of_ble_eq_true rfl) rfl ?_
  refine r_il0 (n := 1) dL_low_0 rfl ?_
  refine r_ldc (n := 3) dL_low_1 k_L_low_8 rfl ?_
  refine r_iand (n := 4) dL_low_3 rfl ?_
  refine r_il1 (n := 5) dL_low_4 rfl ?_
  refine r_irem (n := 6) dL_low_5 hn rfl ?_
  exact e_i dL_low_6 rfl rfl rfl

set_option maxHeartbeats 4000000 in
set_option maxRecDepth 100000 in
theorem m_L_apart {x y : Int32} : C_L_apart cA ad D [.int x, .int y] M (Ri (apt x y) M) := by
  refine PM_of (lv := [some (.int x), some (.int y)]) (by decide +kernel) rfl (Nat.le_of_ble_eq_true rfl) rfl ?_
  refine r_il0 (n := 1) dL_apart_0 rfl ?_
  refine r_il1 (n := 2) dL_apart_1 rfl ?_
  refine r_icmp_ge (tgt := 11) (n := 5) dL_apart_2 (by decide) rfl (fun c_2 => ?_) (fun c_2 => ?_)
  · refine r_il0 (n := 12) dL_apart_11 rfl ?_
    refine r_il1 (n := 13) dL_apart_12 rfl ?_
    refine r_isub (n := 14) dL_apart_13 rfl ?_
    exact e_i dL_apart_14 rfl (by simp only [apt, *, if_true, if_false]) rfl
  · refine r_il1 (n := 6) dL_apart_5 rfl ?_
    refine r_il0 (n := 7) dL_apart_6 rfl ?_
    refine r_isub (n := 8) dL_apart_7 rfl ?_
    refine r_goto (tgt := 14) dL_apart_8 (by decide) ?_
    exact e_i dL_apart_14 rfl (by simp only [apt, *, if_true, if_false]) rfl

set_option maxHeartbeats 4000000 in
set_option maxRecDepth 100000 in
theorem m_L_tens {x : Int32} : C_L_tens cA ad D [.int x] M (Ri (tnL x) M) := by
  refine PM_of (lv := [some (.int x)]) (by decide +kernel) rfl (Nat.le_of_ble_eq_true rfl) rfl ?_
  refine r_il0 (n := 1) dL_tens_0 rfl ?_
  refine r_bipush (v := 10) (n := 3) dL_tens_1 (by decide) rfl ?_
  refine r_idiv (n := 4) dL_tens_3 (by decide) rfl ?_
  refine r_il0 (n := 5) dL_tens_4 rfl ?_
  refine r_bipush (v := 10) (n := 7) dL_tens_5 (by decide) rfl ?_
  refine r_irem (n := 8) dL_tens_7 (by decide) rfl ?_
  refine r_if_le (tgt := 15) (n := 11) dL_tens_8 (by decide) rfl (fun c_8 => ?_) (fun c_8 => ?_)
  · refine r_iconst (v := 0) (n := 16) dL_tens_15 (by decide) rfl ?_
    refine r_iadd (n := 17) dL_tens_16 rfl ?_
    exact e_i dL_tens_17 rfl (by simp only [tnL, *, if_true, if_false]) rfl
  · refine r_iconst (v := 1) (n := 12) dL_tens_11 (by decide) rfl ?_
    refine r_goto (tgt := 16) dL_tens_12 (by decide) ?_
    refine r_iadd (n := 17) dL_tens_16 rfl ?_
    exact e_i dL_tens_17 rfl (by simp only [tnL, *, if_true, if_false]) rfl

set_option maxHeartbeats 4000000 in
set_option maxRecDepth 100000 in
theorem m_L_takes_t {k : Nat} (hk : k < 8) : C_L_takes cA ad D [.ref (ad 5), .int (nI (8 * k)), .int (bI true)] (setp M 10 v) (Ri (tkL v k true) (setp M 10 v)) := by
  refine PM_of (lv := [some (.ref (ad 5)), some (.int (nI (8 * k))), some (.int (bI true))]) (by decide +kernel) rfl (Nat.le_of_ble_eq_true rfl) rfl ?_
  refine r_il2 (n := 1) dL_takes_0 rfl ?_
  refine r_if_eq (tgt := 14) (n := 4) dL_takes_1 (by decide) rfl (fun c_1 => ?_) (fun c_1 => ?_)
  · exact absurd c_1 (by decide)
  · refine r_iconst (v := 4) (n := 5) dL_takes_4 (by decide) rfl ?_
    refine r_al0 (n := 6) dL_takes_5 rfl ?_
    refine r_il1 (n := 7) dL_takes_6 rfl ?_
    refine r_iconst (v := 1) (n := 8) dL_takes_7 (by decide) rfl ?_
    refine r_iadd (n := 9) dL_takes_8 rfl ?_
    refine s_f (n := 10) (k := k) (c := 1) hk (by decide) (nI_add _ _) dL_takes_9 rfl ?_
    refine r_imul (n := 11) dL_takes_10 rfl ?_
    refine r_goto (tgt := 22) dL_takes_11 (by decide) ?_
    exact e_i dL_takes_22 rfl rfl rfl

set_option maxHeartbeats 4000000 in
set_option maxRecDepth 100000 in
theorem m_L_takes_f {k : Nat} (hk : k < 8) : C_L_takes cA ad D [.ref (ad 5), .int (nI (8 * k)), .int (bI false)] (setp M 10 v) (Ri (tkL v k false) (setp M 10 v)) := by
  refine PM_of (lv := [some (.ref (ad 5)), some (.int (nI (8 * k))), some (.int (bI false))]) (by decide +kernel) rfl (Nat.le_of_ble_eq_true rfl) rfl ?_
  refine r_il2 (n := 1) dL_takes_0 rfl ?_
  refine r_if_eq (tgt := 14) (n := 4) dL_takes_1 (by decide) rfl (fun c_1 => ?_) (fun c_1 => ?_)
  · refine r_al0 (n := 15) dL_takes_14 rfl ?_
    refine r_il1 (n := 16) dL_takes_15 rfl ?_
    refine r_iconst (v := 2) (n := 17) dL_takes_16 (by decide) rfl ?_
    refine r_iadd (n := 18) dL_takes_17 rfl ?_
    refine s_f (n := 19) (k := k) (c := 2) hk (by decide) (nI_add _ _) dL_takes_18 rfl ?_
    refine cS_i (n := 22) (np := 1) (m_L_tens) gL_takes_L_tens rfl (by decide +kernel) rfl (by decide) (by decide) dL_takes_19 rfl rfl (Nat.le_of_ble_eq_true rfl) ?_
    exact e_i dL_takes_22 rfl rfl rfl
  · exact absurd c_1 (fun h => h rfl)

theorem m_L_takes {k : Nat} (hk : k < 8) (b : Bool) : C_L_takes cA ad D [.ref (ad 5), .int (nI (8 * k)), .int (bI b)] (setp M 10 v) (Ri (tkL v k b) (setp M 10 v)) := by
  cases b
  · exact m_L_takes_f hk
  · exact m_L_takes_t hk

set_option maxHeartbeats 4000000 in
set_option maxRecDepth 100000 in
theorem m_L_owes_t {k : Nat} (hk : k < 8) : C_L_owes cA ad D [.ref (ad 4), .ref (ad 5), .int (nI (8 * k)), .int (bI true)] (setp M 10 v) (Ri (owL v k true) (setp M 10 v)) := by
  refine PM_of (lv := [some (.ref (ad 4)), some (.ref (ad 5)), some (.int (nI (8 * k))), some (.int (bI true))]) (by decide +kernel) rfl (Nat.le_of_ble_eq_true rfl) rfl ?_
  refine r_il3 (n := 1) dL_owes_0 rfl ?_
  refine r_if_eq (tgt := 8) (n := 4) dL_owes_1 (by decide) rfl (fun c_1 => ?_) (fun c_1 => ?_)
  · exact absurd c_1 (by decide)
  · refine r_iconst (v := 3) (n := 5) dL_owes_4 (by decide) rfl ?_
    refine r_goto (tgt := 9) dL_owes_5 (by decide) ?_
    refine r_al0 (n := 10) dL_owes_9 rfl ?_
    refine r_bipush (v := 12) (n := 12) dL_owes_10 (by decide) rfl ?_
    refine s_g (n := 13) (k := 12) (by decide) (by decide) dL_owes_12 rfl ?_
    refine r_imul (n := 14) dL_owes_13 rfl ?_
    refine r_iconst (v := 3) (n := 15) dL_owes_14 (by decide) rfl ?_
    refine r_al1 (n := 16) dL_owes_15 rfl ?_
    refine r_il2 (n := 17) dL_owes_16 rfl ?_
    refine r_il3 (n := 18) dL_owes_17 rfl ?_
    refine cS_i (n := 21) (np := 3) (m_L_takes hk true) gL_owes_L_takes rfl (by decide +kernel) rfl (by decide) (by decide) dL_owes_18 rfl rfl (Nat.le_of_ble_eq_true rfl) ?_
    refine r_imul (n := 22) dL_owes_21 rfl ?_
    refine r_iadd (n := 23) dL_owes_22 rfl ?_
    exact e_i dL_owes_23 rfl rfl rfl

set_option maxHeartbeats 4000000 in
set_option maxRecDepth 100000 in
theorem m_L_owes_f {k : Nat} (hk : k < 8) : C_L_owes cA ad D [.ref (ad 4), .ref (ad 5), .int (nI (8 * k)), .int (bI false)] (setp M 10 v) (Ri (owL v k false) (setp M 10 v)) := by
  refine PM_of (lv := [some (.ref (ad 4)), some (.ref (ad 5)), some (.int (nI (8 * k))), some (.int (bI false))]) (by decide +kernel) rfl (Nat.le_of_ble_eq_true rfl) rfl ?_
  refine r_il3 (n := 1) dL_owes_0 rfl ?_
  refine r_if_eq (tgt := 8) (n := 4) dL_owes_1 (by decide) rfl (fun c_1 => ?_) (fun c_1 => ?_)
  · refine r_iconst (v := 1) (n := 9) dL_owes_8 (by decide) rfl ?_
    refine r_al0 (n := 10) dL_owes_9 rfl ?_
    refine r_bipush (v := 12) (n := 12) dL_owes_10 (by decide) rfl ?_
    refine s_g (n := 13) (k := 12) (by decide) (by decide) dL_owes_12 rfl ?_
    refine r_imul (n := 14) dL_owes_13 rfl ?_
    refine r_iconst (v := 3) (n := 15) dL_owes_14 (by decide) rfl ?_
    refine r_al1 (n := 16) dL_owes_15 rfl ?_
    refine r_il2 (n := 17) dL_owes_16 rfl ?_
    refine r_il3 (n := 18) dL_owes_17 rfl ?_
    refine cS_i (n := 21) (np := 3) (m_L_takes hk false) gL_owes_L_takes rfl (by decide +kernel) rfl (by decide) (by decide) dL_owes_18 rfl rfl (Nat.le_of_ble_eq_true rfl) ?_
    refine r_imul (n := 22) dL_owes_21 rfl ?_
    refine r_iadd (n := 23) dL_owes_22 rfl ?_
    exact e_i dL_owes_23 rfl rfl rfl
  · exact absurd c_1 (fun h => h rfl)

theorem m_L_owes {k : Nat} (hk : k < 8) (b : Bool) : C_L_owes cA ad D [.ref (ad 4), .ref (ad 5), .int (nI (8 * k)), .int (bI b)] (setp M 10 v) (Ri (owL v k b) (setp M 10 v)) := by
  cases b
  · exact m_L_owes_f hk
  · exact m_L_owes_t hk

set_option maxHeartbeats 4000000 in
set_option maxRecDepth 100000 in
theorem m_L_why_t {k : Nat} (hk : k < 8) : C_L_why cA ad D [.ref (ad 4), .ref (ad 5), .int (nI (8 * k)), .int (bI true)] (setp M 10 v) (Ri (whL v k true) (setp M 10 v)) := by
  refine PM_of (lv := [some (.ref (ad 4)), some (.ref (ad 5)), some (.int (nI (8 * k))), some (.int (bI true)), none]) (by decide +kernel) rfl (Nat.le_of_ble_eq_true rfl) rfl ?_
  refine r_il3 (n := 1) dL_why_0 rfl ?_
  refine r_if_eq (tgt := 8) (n := 4) dL_why_1 (by decide) rfl (fun c_1 => ?_) (fun c_1 => ?_)
  · exact absurd c_1 (by decide)
  · refine r_iconst (v := 3) (n := 5) dL_why_4 (by decide) rfl ?_
    refine r_goto (tgt := 9) dL_why_5 (by decide) ?_
    refine r_is4 (n := 11) (by decide) rfl dL_why_9 rfl ?_
    refine r_al0 (n := 12) dL_why_11 rfl ?_
    refine r_iconst (v := 2) (n := 13) dL_why_12 (by decide) rfl ?_
    refine s_g (n := 14) (k := 2) (by decide) (by decide) dL_why_13 rfl ?_
    refine r_al1 (n := 15) dL_why_14 rfl ?_
    refine r_il2 (n := 16) dL_why_15 rfl ?_
    refine s_f0 (n := 17) (k := k) hk rfl dL_why_16 rfl ?_
    refine r_icmp_eq (tgt := 24) (n := 20) dL_why_17 (by decide) rfl (fun c_17 => ?_) (fun c_17 => ?_)
    · refine r_al0 (n := 25) dL_why_24 rfl ?_
      refine r_iconst (v := 3) (n := 26) dL_why_25 (by decide) rfl ?_
      refine s_g (n := 27) (k := 3) (by decide) (by decide) dL_why_26 rfl ?_
      refine r_il4 (n := 29) dL_why_27 rfl ?_
      refine r_icmp_ge (tgt := 36) (n := 32) dL_why_29 (by decide) rfl (fun c_29 => ?_) (fun c_29 => ?_)
      · refine r_al0 (n := 37) dL_why_36 rfl ?_
        refine r_iconst (v := 4) (n := 38) dL_why_37 (by decide) rfl ?_
        refine s_g (n := 39) (k := 4) (by decide) (by decide) dL_why_38 rfl ?_
        refine r_al1 (n := 40) dL_why_39 rfl ?_
        refine r_il2 (n := 41) dL_why_40 rfl ?_
        refine r_il3 (n := 42) dL_why_41 rfl ?_
        refine cS_i (n := 45) (np := 3) (m_L_takes hk true) gL_why_L_takes rfl (by decide +kernel) rfl (by decide) (by decide) dL_why_42 rfl rfl (Nat.le_of_ble_eq_true rfl) ?_
        refine r_icmp_ge (tgt := 52) (n := 48) dL_why_45 (by decide) rfl (fun c_45 => ?_) (fun c_45 => ?_)
        · refine r_al1 (n := 53) dL_why_52 rfl ?_
          refine r_il2 (n := 54) dL_why_53 rfl ?_
          refine r_iconst (v := 5) (n := 55) dL_why_54 (by decide) rfl ?_
          refine r_iadd (n := 56) dL_why_55 rfl ?_
          refine s_f (n := 57) (k := k) (c := 5) hk (by decide) (nI_add _ _) dL_why_56 rfl ?_
          refine r_al0 (n := 58) dL_why_57 rfl ?_
          refine r_bipush (v := 13) (n := 60) dL_why_58 (by decide) rfl ?_
          refine s_g (n := 61) (k := 13) (by decide) (by decide) dL_why_60 rfl ?_
          refine r_icmp_le (tgt := 68) (n := 64) dL_why_61 (by decide) rfl (fun c_61 => ?_) (fun c_61 => ?_)
          · refine r_al1 (n := 69) dL_why_68 rfl ?_
            refine r_il2 (n := 70) dL_why_69 rfl ?_
            refine r_iconst (v := 2) (n := 71) dL_why_70 (by decide) rfl ?_
            refine r_iadd (n := 72) dL_why_71 rfl ?_
            refine s_f (n := 73) (k := k) (c := 2) hk (by decide) (nI_add _ _) dL_why_72 rfl ?_
            refine r_if_ne (tgt := 80) (n := 76) dL_why_73 (by decide) rfl (fun c_73 => ?_) (fun c_73 => ?_)
            · refine r_iconst (v := 0) (n := 81) dL_why_80 (by decide) rfl ?_
              exact e_i dL_why_81 rfl (by unfold whL; rw [show hM true = 3 from rfl]; simp only [*, if_true, if_false]) rfl
            · refine r_iconst (v := 5) (n := 77) dL_why_76 (by decide) rfl ?_
              refine r_goto (tgt := 81) dL_why_77 (by decide) ?_
              exact e_i dL_why_81 rfl (by unfold whL; rw [show hM true = 3 from rfl]; simp only [*, if_true, if_false]) rfl
          · refine r_iconst (v := 4) (n := 65) dL_why_64 (by decide) rfl ?_
            refine r_goto (tgt := 81) dL_why_65 (by decide) ?_
            exact e_i dL_why_81 rfl (by unfold whL; rw [show hM true = 3 from rfl]; simp only [*, if_true, if_false]) rfl
        · refine r_iconst (v := 3) (n := 49) dL_why_48 (by decide) rfl ?_
          refine r_goto (tgt := 81) dL_why_49 (by decide) ?_
          exact e_i dL_why_81 rfl (by unfold whL; rw [show hM true = 3 from rfl]; simp only [*, if_true, if_false]) rfl
      · refine r_iconst (v := 2) (n := 33) dL_why_32 (by decide) rfl ?_
        refine r_goto (tgt := 81) dL_why_33 (by decide) ?_
        exact e_i dL_why_81 rfl (by unfold whL; rw [show hM true = 3 from rfl]; simp only [*, if_true, if_false]) rfl
    · refine r_iconst (v := 1) (n := 21) dL_why_20 (by decide) rfl ?_
      refine r_goto (tgt := 81) dL_why_21 (by decide) ?_
      exact e_i dL_why_81 rfl (by unfold whL; rw [show hM true = 3 from rfl]; simp only [*, if_true, if_false]) rfl

set_option maxHeartbeats 4000000 in
set_option maxRecDepth 100000 in
theorem m_L_why_f {k : Nat} (hk : k < 8) : C_L_why cA ad D [.ref (ad 4), .ref (ad 5), .int (nI (8 * k)), .int (bI false)] (setp M 10 v) (Ri (whL v k false) (setp M 10 v)) := by
  refine PM_of (lv := [some (.ref (ad 4)), some (.ref (ad 5)), some (.int (nI (8 * k))), some (.int (bI false)), none]) (by decide +kernel) rfl (Nat.le_of_ble_eq_true rfl) rfl ?_
  refine r_il3 (n := 1) dL_why_0 rfl ?_
  refine r_if_eq (tgt := 8) (n := 4) dL_why_1 (by decide) rfl (fun c_1 => ?_) (fun c_1 => ?_)
  · refine r_iconst (v := 1) (n := 9) dL_why_8 (by decide) rfl ?_
    refine r_is4 (n := 11) (by decide) rfl dL_why_9 rfl ?_
    refine r_al0 (n := 12) dL_why_11 rfl ?_
    refine r_iconst (v := 2) (n := 13) dL_why_12 (by decide) rfl ?_
    refine s_g (n := 14) (k := 2) (by decide) (by decide) dL_why_13 rfl ?_
    refine r_al1 (n := 15) dL_why_14 rfl ?_
    refine r_il2 (n := 16) dL_why_15 rfl ?_
    refine s_f0 (n := 17) (k := k) hk rfl dL_why_16 rfl ?_
    refine r_icmp_eq (tgt := 24) (n := 20) dL_why_17 (by decide) rfl (fun c_17 => ?_) (fun c_17 => ?_)
    · refine r_al0 (n := 25) dL_why_24 rfl ?_
      refine r_iconst (v := 3) (n := 26) dL_why_25 (by decide) rfl ?_
      refine s_g (n := 27) (k := 3) (by decide) (by decide) dL_why_26 rfl ?_
      refine r_il4 (n := 29) dL_why_27 rfl ?_
      refine r_icmp_ge (tgt := 36) (n := 32) dL_why_29 (by decide) rfl (fun c_29 => ?_) (fun c_29 => ?_)
      · refine r_al0 (n := 37) dL_why_36 rfl ?_
        refine r_iconst (v := 4) (n := 38) dL_why_37 (by decide) rfl ?_
        refine s_g (n := 39) (k := 4) (by decide) (by decide) dL_why_38 rfl ?_
        refine r_al1 (n := 40) dL_why_39 rfl ?_
        refine r_il2 (n := 41) dL_why_40 rfl ?_
        refine r_il3 (n := 42) dL_why_41 rfl ?_
        refine cS_i (n := 45) (np := 3) (m_L_takes hk false) gL_why_L_takes rfl (by decide +kernel) rfl (by decide) (by decide) dL_why_42 rfl rfl (Nat.le_of_ble_eq_true rfl) ?_
        refine r_icmp_ge (tgt := 52) (n := 48) dL_why_45 (by decide) rfl (fun c_45 => ?_) (fun c_45 => ?_)
        · refine r_al1 (n := 53) dL_why_52 rfl ?_
          refine r_il2 (n := 54) dL_why_53 rfl ?_
          refine r_iconst (v := 5) (n := 55) dL_why_54 (by decide) rfl ?_
          refine r_iadd (n := 56) dL_why_55 rfl ?_
          refine s_f (n := 57) (k := k) (c := 5) hk (by decide) (nI_add _ _) dL_why_56 rfl ?_
          refine r_al0 (n := 58) dL_why_57 rfl ?_
          refine r_bipush (v := 13) (n := 60) dL_why_58 (by decide) rfl ?_
          refine s_g (n := 61) (k := 13) (by decide) (by decide) dL_why_60 rfl ?_
          refine r_icmp_le (tgt := 68) (n := 64) dL_why_61 (by decide) rfl (fun c_61 => ?_) (fun c_61 => ?_)
          · refine r_al1 (n := 69) dL_why_68 rfl ?_
            refine r_il2 (n := 70) dL_why_69 rfl ?_
            refine r_iconst (v := 2) (n := 71) dL_why_70 (by decide) rfl ?_
            refine r_iadd (n := 72) dL_why_71 rfl ?_
            refine s_f (n := 73) (k := k) (c := 2) hk (by decide) (nI_add _ _) dL_why_72 rfl ?_
            refine r_if_ne (tgt := 80) (n := 76) dL_why_73 (by decide) rfl (fun c_73 => ?_) (fun c_73 => ?_)
            · refine r_iconst (v := 0) (n := 81) dL_why_80 (by decide) rfl ?_
              exact e_i dL_why_81 rfl (by unfold whL; rw [show hM false = 1 from rfl]; simp only [*, if_true, if_false]) rfl
            · refine r_iconst (v := 5) (n := 77) dL_why_76 (by decide) rfl ?_
              refine r_goto (tgt := 81) dL_why_77 (by decide) ?_
              exact e_i dL_why_81 rfl (by unfold whL; rw [show hM false = 1 from rfl]; simp only [*, if_true, if_false]) rfl
          · refine r_iconst (v := 4) (n := 65) dL_why_64 (by decide) rfl ?_
            refine r_goto (tgt := 81) dL_why_65 (by decide) ?_
            exact e_i dL_why_81 rfl (by unfold whL; rw [show hM false = 1 from rfl]; simp only [*, if_true, if_false]) rfl
        · refine r_iconst (v := 3) (n := 49) dL_why_48 (by decide) rfl ?_
          refine r_goto (tgt := 81) dL_why_49 (by decide) ?_
          exact e_i dL_why_81 rfl (by unfold whL; rw [show hM false = 1 from rfl]; simp only [*, if_true, if_false]) rfl
      · refine r_iconst (v := 2) (n := 33) dL_why_32 (by decide) rfl ?_
        refine r_goto (tgt := 81) dL_why_33 (by decide) ?_
        exact e_i dL_why_81 rfl (by unfold whL; rw [show hM false = 1 from rfl]; simp only [*, if_true, if_false]) rfl
    · refine r_iconst (v := 1) (n := 21) dL_why_20 (by decide) rfl ?_
      refine r_goto (tgt := 81) dL_why_21 (by decide) ?_
      exact e_i dL_why_81 rfl (by unfold whL; rw [show hM false = 1 from rfl]; simp only [*, if_true, if_false]) rfl
  · exact absurd c_1 (fun h => h rfl)

theorem m_L_why {k : Nat} (hk : k < 8) (b : Bool) : C_L_why cA ad D [.ref (ad 4), .ref (ad 5), .int (nI (8 * k)), .int (bI b)] (setp M 10 v) (Ri (whL v k b) (setp M 10 v)) := by
  cases b
  · exact m_L_why_f hk
  · exact m_L_why_t hk

set_option maxHeartbeats 4000000 in
set_option maxRecDepth 100000 in
theorem m_L_walks {x : Int32} : C_L_walks cA ad D [.ref (ad 4), .int x] (setp M 10 v) (Ri (wlkL v x).1 (setp M 10 (wlkL v x).2)) := by
  refine PM_of (lv := [some (.ref (ad 4)), some (.int x), none]) (by decide +kernel) rfl (Nat.le_of_ble_eq_true rfl) rfl ?_
  refine r_al0 (n := 1) dL_walks_0 rfl ?_
  refine r_iconst (v := 2) (n := 2) dL_walks_1 (by decide) rfl ?_
  refine s_g (n := 3) (k := 2) (by decide) (by decide) dL_walks_2 rfl ?_
  refine r_il1 (n := 4) dL_walks_3 rfl ?_
  refine cS_i (n := 7) (np := 2) (m_L_apart) gL_walks_L_apart rfl (by decide +kernel) rfl (by decide) (by decide) dL_walks_4 rfl rfl (Nat.le_of_ble_eq_true rfl) ?_
  refine cS_i (n := 10) (np := 1) (m_L_tens) gL_walks_L_tens rfl (by decide +kernel) rfl (by decide) (by decide) dL_walks_7 rfl rfl (Nat.le_of_ble_eq_true rfl) ?_
  refine r_is2 (n := 11) (by decide) rfl dL_walks_10 rfl ?_
  refine r_il2 (n := 12) dL_walks_11 rfl ?_
  refine r_al0 (n := 13) dL_walks_12 rfl ?_
  refine r_iconst (v := 3) (n := 14) dL_walks_13 (by decide) rfl ?_
  refine s_g (n := 15) (k := 3) (by decide) (by decide) dL_walks_14 rfl ?_
  refine r_icmp_le (tgt := 21) (n := 18) dL_walks_15 (by decide) rfl (fun c_15 => ?_) (fun c_15 => ?_)
  · refine r_al0 (n := 22) dL_walks_21 rfl ?_
    refine r_iconst (v := 3) (n := 23) dL_walks_22 (by decide) rfl ?_
    refine r_dup2 (n := 24) dL_walks_23 rfl rfl rfl ?_
    refine s_g (n := 25) (k := 3) (by decide) (by decide) dL_walks_24 rfl ?_
    refine r_il2 (n := 26) dL_walks_25 rfl ?_
    refine r_isub (n := 27) dL_walks_26 rfl ?_
    refine s_put_g (n := 28) (k := 3) (by decide) (by decide) dL_walks_27 rfl ?_
    refine r_al0 (n := 29) dL_walks_28 rfl ?_
    refine r_bipush (v := 9) (n := 31) dL_walks_29 (by decide) rfl ?_
    refine r_dup2 (n := 32) dL_walks_31 rfl rfl rfl ?_
    refine s_g (n := 33) (k := 9) (by decide) (by decide) dL_walks_32 rfl ?_
    try simp (disch := omega) only [upd_at, upd_ne]
    refine r_al0 (n := 34) dL_walks_33 rfl ?_
    refine r_iconst (v := 2) (n := 35) dL_walks_34 (by decide) rfl ?_
    refine s_g (n := 36) (k := 2) (by decide) (by decide) dL_walks_35 rfl ?_
    try simp (disch := omega) only [upd_at, upd_ne]
    refine r_il1 (n := 37) dL_walks_36 rfl ?_
    refine cS_i (n := 40) (np := 2) (m_L_apart) gL_walks_L_apart rfl (by decide +kernel) rfl (by decide) (by decide) dL_walks_37 rfl rfl (Nat.le_of_ble_eq_true rfl) ?_
    refine r_iadd (n := 41) dL_walks_40 rfl ?_
    refine s_put_g (n := 42) (k := 9) (by decide) (by decide) dL_walks_41 rfl ?_
    refine r_al0 (n := 43) dL_walks_42 rfl ?_
    refine r_iconst (v := 2) (n := 44) dL_walks_43 (by decide) rfl ?_
    refine r_il1 (n := 45) dL_walks_44 rfl ?_
    refine s_put_g (n := 46) (k := 2) (by decide) (by decide) dL_walks_45 rfl ?_
    refine r_al0 (n := 47) dL_walks_46 rfl ?_
    refine r_iconst (v := 3) (n := 48) dL_walks_47 (by decide) rfl ?_
    refine s_g (n := 49) (k := 3) (by decide) (by decide) dL_walks_48 rfl ?_
    try simp (disch := omega) only [upd_at, upd_ne]
    exact e_i dL_walks_49 rfl (by simp only [wlkL, *, if_true, if_false]) (by simp only [wlkL, *, if_true, if_false])
  · refine r_ldc (n := 20) dL_walks_18 k_L_walks_23 rfl ?_
    exact e_i dL_walks_20 rfl (by simp only [wlkL, *, if_true, if_false]) (by simp only [wlkL, *, if_true, if_false])

set_option maxHeartbeats 4000000 in
set_option maxRecDepth 100000 in
theorem m_L_buys {x : Int32} : C_L_buys cA ad D [.ref (ad 4), .int x] (setp M 10 v) (Ri (byL v x).1 (setp M 10 (byL v x).2)) := by
  refine PM_of (lv := [some (.ref (ad 4)), some (.int x)]) (by decide +kernel) rfl (Nat.le_of_ble_eq_true rfl) rfl ?_
  refine r_al0 (n := 1) dL_buys_0 rfl ?_
  refine r_iconst (v := 2) (n := 2) dL_buys_1 (by decide) rfl ?_
  refine s_g (n := 3) (k := 2) (by decide) (by decide) dL_buys_2 rfl ?_
  refine r_if_gt (tgt := 17) (n := 6) dL_buys_3 (by decide) rfl (fun c_3 => ?_) (fun c_3 => ?_)
  · refine r_al0 (n := 18) dL_buys_17 rfl ?_
    refine r_iconst (v := 2) (n := 19) dL_buys_18 (by decide) rfl ?_
    refine s_g (n := 20) (k := 2) (by decide) (by decide) dL_buys_19 rfl ?_
    refine r_if_le (tgt := 28) (n := 23) dL_buys_20 (by decide) rfl (fun c_20 => ?_) (fun c_20 => ?_)
    · refine r_ldc (n := 30) dL_buys_28 k_L_buys_24 rfl ?_
      exact e_i dL_buys_30 rfl (by first | exact absurd c_20 (Int32.not_le.mpr c_3) | exact absurd (Int32.not_lt.mp c_3) c_20 | (have q3 := Int32.not_le.mpr c_3; simp only [byL, buyU, *, if_true, if_false]) | (have q3 := Int32.not_lt.mp c_3; simp only [byL, buyU, *, if_true, if_false])) (by first | exact absurd c_20 (Int32.not_le.mpr c_3) | exact absurd (Int32.not_lt.mp c_3) c_20 | (have q3 := Int32.not_le.mpr c_3; simp only [byL, buyU, *, if_true, if_false]) | (have q3 := Int32.not_lt.mp c_3; simp only [byL, buyU, *, if_true, if_false]))
    · refine r_ldc (n := 25) dL_buys_23 k_L_buys_23 rfl ?_
      refine r_goto (tgt := 30) dL_buys_25 (by decide) ?_
      exact e_i dL_buys_30 rfl (by first | exact absurd c_20 (Int32.not_le.mpr c_3) | exact absurd (Int32.not_lt.mp c_3) c_20 | (have q3 := Int32.not_le.mpr c_3; simp only [byL, buyU, *, if_true, if_false]) | (have q3 := Int32.not_lt.mp c_3; simp only [byL, buyU, *, if_true, if_false])) (by first | exact absurd c_20 (Int32.not_le.mpr c_3) | exact absurd (Int32.not_lt.mp c_3) c_20 | (have q3 := Int32.not_le.mpr c_3; simp only [byL, buyU, *, if_true, if_false]) | (have q3 := Int32.not_lt.mp c_3; simp only [byL, buyU, *, if_true, if_false]))
  · refine r_al0 (n := 7) dL_buys_6 rfl ?_
    refine r_iconst (v := 4) (n := 8) dL_buys_7 (by decide) rfl ?_
    refine s_g (n := 9) (k := 4) (by decide) (by decide) dL_buys_8 rfl ?_
    refine r_il1 (n := 10) dL_buys_9 rfl ?_
    refine r_iadd (n := 11) dL_buys_10 rfl ?_
    refine r_sipush (v := 999) (n := 14) dL_buys_11 (by decide) rfl ?_
    refine r_icmp_le (tgt := 31) (n := 17) dL_buys_14 (by decide) rfl (fun c_14 => ?_) (fun c_14 => ?_)
    · refine r_al0 (n := 32) dL_buys_31 rfl ?_
      refine r_iconst (v := 4) (n := 33) dL_buys_32 (by decide) rfl ?_
      refine r_dup2 (n := 34) dL_buys_33 rfl rfl rfl ?_
      refine s_g (n := 35) (k := 4) (by decide) (by decide) dL_buys_34 rfl ?_
      refine r_il1 (n := 36) dL_buys_35 rfl ?_
      refine r_iadd (n := 37) dL_buys_36 rfl ?_
      refine s_put_g (n := 38) (k := 4) (by decide) (by decide) dL_buys_37 rfl ?_
      refine r_al0 (n := 39) dL_buys_38 rfl ?_
      refine r_iconst (v := 5) (n := 40) dL_buys_39 (by decide) rfl ?_
      refine r_dup2 (n := 41) dL_buys_40 rfl rfl rfl ?_
      refine s_g (n := 42) (k := 5) (by decide) (by decide) dL_buys_41 rfl ?_
      try simp (disch := omega) only [upd_at, upd_ne]
      refine r_iconst (v := 2) (n := 43) dL_buys_42 (by decide) rfl ?_
      refine r_il1 (n := 44) dL_buys_43 rfl ?_
      refine r_imul (n := 45) dL_buys_44 rfl ?_
      refine r_isub (n := 46) dL_buys_45 rfl ?_
      refine s_put_g (n := 47) (k := 5) (by decide) (by decide) dL_buys_46 rfl ?_
      refine r_al0 (n := 48) dL_buys_47 rfl ?_
      refine r_bipush (v := 6) (n := 50) dL_buys_48 (by decide) rfl ?_
      refine r_dup2 (n := 51) dL_buys_50 rfl rfl rfl ?_
      refine s_g (n := 52) (k := 6) (by decide) (by decide) dL_buys_51 rfl ?_
      try simp (disch := omega) only [upd_at, upd_ne]
      refine r_iconst (v := 2) (n := 53) dL_buys_52 (by decide) rfl ?_
      refine r_il1 (n := 54) dL_buys_53 rfl ?_
      refine r_imul (n := 55) dL_buys_54 rfl ?_
      refine r_iadd (n := 56) dL_buys_55 rfl ?_
      refine s_put_g (n := 57) (k := 6) (by decide) (by decide) dL_buys_56 rfl ?_
      refine r_al0 (n := 58) dL_buys_57 rfl ?_
      refine r_iconst (v := 4) (n := 59) dL_buys_58 (by decide) rfl ?_
      refine s_g (n := 60) (k := 4) (by decide) (by decide) dL_buys_59 rfl ?_
      try simp (disch := omega) only [upd_at, upd_ne]
      exact e_i dL_buys_60 rfl (by first | exact absurd c_20 (Int32.not_le.mpr c_3) | exact absurd (Int32.not_lt.mp c_3) c_20 | (have q3 := Int32.not_le.mpr c_3; simp only [byL, buyU, *, if_true, if_false]) | (have q3 := Int32.not_lt.mp c_3; simp only [byL, buyU, *, if_true, if_false])) (by first | exact absurd c_20 (Int32.not_le.mpr c_3) | exact absurd (Int32.not_lt.mp c_3) c_20 | (have q3 := Int32.not_le.mpr c_3; simp only [byL, buyU, *, if_true, if_false]) | (have q3 := Int32.not_lt.mp c_3; simp only [byL, buyU, *, if_true, if_false]))
    · refine r_al0 (n := 18) dL_buys_17 rfl ?_
      refine r_iconst (v := 2) (n := 19) dL_buys_18 (by decide) rfl ?_
      refine s_g (n := 20) (k := 2) (by decide) (by decide) dL_buys_19 rfl ?_
      try simp (disch := omega) only [upd_at, upd_ne]
      refine r_if_le (tgt := 28) (n := 23) dL_buys_20 (by decide) rfl (fun c_20 => ?_) (fun c_20 => ?_)
      · refine r_ldc (n := 30) dL_buys_28 k_L_buys_24 rfl ?_
        exact e_i dL_buys_30 rfl (by first | exact absurd c_20 (Int32.not_le.mpr c_3) | exact absurd (Int32.not_lt.mp c_3) c_20 | (have q3 := Int32.not_le.mpr c_3; simp only [byL, buyU, *, if_true, if_false]) | (have q3 := Int32.not_lt.mp c_3; simp only [byL, buyU, *, if_true, if_false])) (by first | exact absurd c_20 (Int32.not_le.mpr c_3) | exact absurd (Int32.not_lt.mp c_3) c_20 | (have q3 := Int32.not_le.mpr c_3; simp only [byL, buyU, *, if_true, if_false]) | (have q3 := Int32.not_lt.mp c_3; simp only [byL, buyU, *, if_true, if_false]))
      · refine r_ldc (n := 25) dL_buys_23 k_L_buys_23 rfl ?_
        refine r_goto (tgt := 30) dL_buys_25 (by decide) ?_
        exact e_i dL_buys_30 rfl (by first | exact absurd c_20 (Int32.not_le.mpr c_3) | exact absurd (Int32.not_lt.mp c_3) c_20 | (have q3 := Int32.not_le.mpr c_3; simp only [byL, buyU, *, if_true, if_false]) | (have q3 := Int32.not_lt.mp c_3; simp only [byL, buyU, *, if_true, if_false])) (by first | exact absurd c_20 (Int32.not_le.mpr c_3) | exact absurd (Int32.not_lt.mp c_3) c_20 | (have q3 := Int32.not_le.mpr c_3; simp only [byL, buyU, *, if_true, if_false]) | (have q3 := Int32.not_lt.mp c_3; simp only [byL, buyU, *, if_true, if_false]))

set_option maxHeartbeats 4000000 in
set_option maxRecDepth 100000 in
theorem m_L_mends_t {k : Nat} (hk : k < 8) : C_L_mends cA ad D [.ref (ad 4), .ref (ad 5), .int (nI (8 * k)), .int (bI true)] (setp M 10 v) (Ri (mdL v k true).1 (setp M 10 (mdL v k true).2)) := by
  refine PM_of (lv := [some (.ref (ad 4)), some (.ref (ad 5)), some (.int (nI (8 * k))), some (.int (bI true)), none]) (by decide +kernel) rfl (Nat.le_of_ble_eq_true rfl) rfl ?_
  refine r_al0 (n := 1) dL_mends_0 rfl ?_
  refine r_al1 (n := 2) dL_mends_1 rfl ?_
  refine r_il2 (n := 3) dL_mends_2 rfl ?_
  refine r_il3 (n := 4) dL_mends_3 rfl ?_
  refine cS_i (n := 7) (np := 4) (m_L_why hk true) gL_mends_L_why rfl (by decide +kernel) rfl (by decide) (by decide) dL_mends_4 rfl rfl (Nat.le_of_ble_eq_true rfl) ?_
  refine r_if_le (tgt := 13) (n := 10) dL_mends_7 (by decide) rfl (fun c_7 => ?_) (fun c_7 => ?_)
  · refine r_al0 (n := 14) dL_mends_13 rfl ?_
    refine r_al1 (n := 15) dL_mends_14 rfl ?_
    refine r_il2 (n := 16) dL_mends_15 rfl ?_
    refine r_il3 (n := 17) dL_mends_16 rfl ?_
    refine cS_i (n := 20) (np := 4) (m_L_owes hk true) gL_mends_L_owes rfl (by decide +kernel) rfl (by decide) (by decide) dL_mends_17 rfl rfl (Nat.le_of_ble_eq_true rfl) ?_
    refine r_is4 (n := 22) (by decide) rfl dL_mends_20 rfl ?_
    refine r_al0 (n := 23) dL_mends_22 rfl ?_
    refine r_iconst (v := 3) (n := 24) dL_mends_23 (by decide) rfl ?_
    refine r_dup2 (n := 25) dL_mends_24 rfl rfl rfl ?_
    refine s_g (n := 26) (k := 3) (by decide) (by decide) dL_mends_25 rfl ?_
    refine r_il3 (n := 27) dL_mends_26 rfl ?_
    refine r_if_eq (tgt := 34) (n := 30) dL_mends_27 (by decide) rfl (fun c_27 => ?_) (fun c_27 => ?_)
    · exact absurd c_27 (by decide)
    · refine r_iconst (v := 3) (n := 31) dL_mends_30 (by decide) rfl ?_
      refine r_goto (tgt := 35) dL_mends_31 (by decide) ?_
      refine r_isub (n := 36) dL_mends_35 rfl ?_
      refine s_put_g (n := 37) (k := 3) (by decide) (by decide) dL_mends_36 rfl ?_
      refine r_al0 (n := 38) dL_mends_37 rfl ?_
      refine r_iconst (v := 4) (n := 39) dL_mends_38 (by decide) rfl ?_
      refine r_dup2 (n := 40) dL_mends_39 rfl rfl rfl ?_
      refine s_g (n := 41) (k := 4) (by decide) (by decide) dL_mends_40 rfl ?_
      try simp (disch := omega) only [upd_at, upd_ne]
      refine r_al1 (n := 42) dL_mends_41 rfl ?_
      refine r_il2 (n := 43) dL_mends_42 rfl ?_
      refine r_il3 (n := 44) dL_mends_43 rfl ?_
      refine cS_i (n := 47) (np := 3) (m_L_takes hk true) gL_mends_L_takes rfl (by decide +kernel) rfl (by decide) (by decide) dL_mends_44 rfl rfl (Nat.le_of_ble_eq_true rfl) ?_
      rw [show tkL (upd v 3 (v 3 - 3)) k true = tkL v k true from by simp (disch := omega) only [tkL, upd_ne]]
      refine r_isub (n := 48) dL_mends_47 rfl ?_
      refine s_put_g (n := 49) (k := 4) (by decide) (by decide) dL_mends_48 rfl ?_
      refine r_al0 (n := 50) dL_mends_49 rfl ?_
      refine r_bipush (v := 7) (n := 52) dL_mends_50 (by decide) rfl ?_
      refine r_dup2 (n := 53) dL_mends_52 rfl rfl rfl ?_
      refine s_g (n := 54) (k := 7) (by decide) (by decide) dL_mends_53 rfl ?_
      try simp (disch := omega) only [upd_at, upd_ne]
      refine r_il4 (n := 56) dL_mends_54 rfl ?_
      refine r_iadd (n := 57) dL_mends_56 rfl ?_
      refine s_put_g (n := 58) (k := 7) (by decide) (by decide) dL_mends_57 rfl ?_
      refine r_al1 (n := 59) dL_mends_58 rfl ?_
      refine r_il2 (n := 60) dL_mends_59 rfl ?_
      refine r_iconst (v := 5) (n := 61) dL_mends_60 (by decide) rfl ?_
      refine r_iadd (n := 62) dL_mends_61 rfl ?_
      refine r_dup2 (n := 63) dL_mends_62 rfl rfl rfl ?_
      refine s_f (n := 64) (k := k) (c := 5) hk (by decide) (nI_add _ _) dL_mends_63 rfl ?_
      try simp (disch := omega) only [upd_at, upd_ne]
      refine r_il4 (n := 66) dL_mends_64 rfl ?_
      refine r_iadd (n := 67) dL_mends_66 rfl ?_
      refine s_put_f (n := 68) (k := k) (c := 5) hk (by decide) (nI_add _ _) dL_mends_67 rfl ?_
      refine r_al1 (n := 69) dL_mends_68 rfl ?_
      refine r_il2 (n := 70) dL_mends_69 rfl ?_
      refine r_bipush (v := 7) (n := 72) dL_mends_70 (by decide) rfl ?_
      refine r_iadd (n := 73) dL_mends_72 rfl ?_
      refine r_dup2 (n := 74) dL_mends_73 rfl rfl rfl ?_
      refine s_f (n := 75) (k := k) (c := 7) hk (by decide) (nI_add _ _) dL_mends_74 rfl ?_
      try simp (disch := omega) only [upd_at, upd_ne]
      refine r_iconst (v := 1) (n := 76) dL_mends_75 (by decide) rfl ?_
      refine r_iadd (n := 77) dL_mends_76 rfl ?_
      refine s_put_f (n := 78) (k := k) (c := 7) hk (by decide) (nI_add _ _) dL_mends_77 rfl ?_
      refine r_al1 (n := 79) dL_mends_78 rfl ?_
      refine r_il2 (n := 80) dL_mends_79 rfl ?_
      refine r_iconst (v := 2) (n := 81) dL_mends_80 (by decide) rfl ?_
      refine r_iadd (n := 82) dL_mends_81 rfl ?_
      refine r_il3 (n := 83) dL_mends_82 rfl ?_
      refine r_if_eq (tgt := 90) (n := 86) dL_mends_83 (by decide) rfl (fun c_83 => ?_) (fun c_83 => ?_)
      · exact absurd c_83 (by decide)
      · refine r_iconst (v := 0) (n := 87) dL_mends_86 (by decide) rfl ?_
        refine r_goto (tgt := 97) dL_mends_87 (by decide) ?_
        refine s_put_f (n := 98) (k := k) (c := 2) hk (by decide) (nI_add _ _) dL_mends_97 rfl ?_
        refine r_il3 (n := 99) dL_mends_98 rfl ?_
        refine r_if_eq (tgt := 110) (n := 102) dL_mends_99 (by decide) rfl (fun c_99 => ?_) (fun c_99 => ?_)
        · exact absurd c_99 (by decide)
        · refine r_al1 (n := 103) dL_mends_102 rfl ?_
          refine r_il2 (n := 104) dL_mends_103 rfl ?_
          refine r_iconst (v := 5) (n := 105) dL_mends_104 (by decide) rfl ?_
          refine r_iadd (n := 106) dL_mends_105 rfl ?_
          refine s_f (n := 107) (k := k) (c := 5) hk (by decide) (nI_add _ _) dL_mends_106 rfl ?_
          try simp (disch := omega) only [upd_at, upd_ne]
          refine r_goto (tgt := 115) dL_mends_107 (by decide) ?_
          exact e_i dL_mends_115 rfl (by unfold mdL; simp only [*, if_true, if_false]; try rfl) (by unfold mdL mdV; simp only [*, if_true, if_false]; try rfl)
  · refine r_ldc (n := 12) dL_mends_10 k_L_mends_23 rfl ?_
    exact e_i dL_mends_12 rfl (by unfold mdL; simp only [*, if_true, if_false]; try rfl) (by unfold mdL mdV; simp only [*, if_true, if_false]; try rfl)

set_option maxHeartbeats 4000000 in
set_option maxRecDepth 100000 in
theorem m_L_mends_f {k : Nat} (hk : k < 8) : C_L_mends cA ad D [.ref (ad 4), .ref (ad 5), .int (nI (8 * k)), .int (bI false)] (setp M 10 v) (Ri (mdL v k false).1 (setp M 10 (mdL v k false).2)) := by
  refine PM_of (lv := [some (.ref (ad 4)), some (.ref (ad 5)), some (.int (nI (8 * k))), some (.int (bI false)), none]) (by decide +kernel) rfl (Nat.le_of_ble_eq_true rfl) rfl ?_
  refine r_al0 (n := 1) dL_mends_0 rfl ?_
  refine r_al1 (n := 2) dL_mends_1 rfl ?_
  refine r_il2 (n := 3) dL_mends_2 rfl ?_
  refine r_il3 (n := 4) dL_mends_3 rfl ?_
  refine cS_i (n := 7) (np := 4) (m_L_why hk false) gL_mends_L_why rfl (by decide +kernel) rfl (by decide) (by decide) dL_mends_4 rfl rfl (Nat.le_of_ble_eq_true rfl) ?_
  refine r_if_le (tgt := 13) (n := 10) dL_mends_7 (by decide) rfl (fun c_7 => ?_) (fun c_7 => ?_)
  · refine r_al0 (n := 14) dL_mends_13 rfl ?_
    refine r_al1 (n := 15) dL_mends_14 rfl ?_
    refine r_il2 (n := 16) dL_mends_15 rfl ?_
    refine r_il3 (n := 17) dL_mends_16 rfl ?_
    refine cS_i (n := 20) (np := 4) (m_L_owes hk false) gL_mends_L_owes rfl (by decide +kernel) rfl (by decide) (by decide) dL_mends_17 rfl rfl (Nat.le_of_ble_eq_true rfl) ?_
    refine r_is4 (n := 22) (by decide) rfl dL_mends_20 rfl ?_
    refine r_al0 (n := 23) dL_mends_22 rfl ?_
    refine r_iconst (v := 3) (n := 24) dL_mends_23 (by decide) rfl ?_
    refine r_dup2 (n := 25) dL_mends_24 rfl rfl rfl ?_
    refine s_g (n := 26) (k := 3) (by decide) (by decide) dL_mends_25 rfl ?_
    refine r_il3 (n := 27) dL_mends_26 rfl ?_
    refine r_if_eq (tgt := 34) (n := 30) dL_mends_27 (by decide) rfl (fun c_27 => ?_) (fun c_27 => ?_)
    · refine r_iconst (v := 1) (n := 35) dL_mends_34 (by decide) rfl ?_
      refine r_isub (n := 36) dL_mends_35 rfl ?_
      refine s_put_g (n := 37) (k := 3) (by decide) (by decide) dL_mends_36 rfl ?_
      refine r_al0 (n := 38) dL_mends_37 rfl ?_
      refine r_iconst (v := 4) (n := 39) dL_mends_38 (by decide) rfl ?_
      refine r_dup2 (n := 40) dL_mends_39 rfl rfl rfl ?_
      refine s_g (n := 41) (k := 4) (by decide) (by decide) dL_mends_40 rfl ?_
      try simp (disch := omega) only [upd_at, upd_ne]
      refine r_al1 (n := 42) dL_mends_41 rfl ?_
      refine r_il2 (n := 43) dL_mends_42 rfl ?_
      refine r_il3 (n := 44) dL_mends_43 rfl ?_
      refine cS_i (n := 47) (np := 3) (m_L_takes hk false) gL_mends_L_takes rfl (by decide +kernel) rfl (by decide) (by decide) dL_mends_44 rfl rfl (Nat.le_of_ble_eq_true rfl) ?_
      rw [show tkL (upd v 3 (v 3 - 1)) k false = tkL v k false from by simp (disch := omega) only [tkL, upd_ne]]
      refine r_isub (n := 48) dL_mends_47 rfl ?_
      refine s_put_g (n := 49) (k := 4) (by decide) (by decide) dL_mends_48 rfl ?_
      refine r_al0 (n := 50) dL_mends_49 rfl ?_
      refine r_bipush (v := 7) (n := 52) dL_mends_50 (by decide) rfl ?_
      refine r_dup2 (n := 53) dL_mends_52 rfl rfl rfl ?_
      refine s_g (n := 54) (k := 7) (by decide) (by decide) dL_mends_53 rfl ?_
      try simp (disch := omega) only [upd_at, upd_ne]
      refine r_il4 (n := 56) dL_mends_54 rfl ?_
      refine r_iadd (n := 57) dL_mends_56 rfl ?_
      refine s_put_g (n := 58) (k := 7) (by decide) (by decide) dL_mends_57 rfl ?_
      refine r_al1 (n := 59) dL_mends_58 rfl ?_
      refine r_il2 (n := 60) dL_mends_59 rfl ?_
      refine r_iconst (v := 5) (n := 61) dL_mends_60 (by decide) rfl ?_
      refine r_iadd (n := 62) dL_mends_61 rfl ?_
      refine r_dup2 (n := 63) dL_mends_62 rfl rfl rfl ?_
      refine s_f (n := 64) (k := k) (c := 5) hk (by decide) (nI_add _ _) dL_mends_63 rfl ?_
      try simp (disch := omega) only [upd_at, upd_ne]
      refine r_il4 (n := 66) dL_mends_64 rfl ?_
      refine r_iadd (n := 67) dL_mends_66 rfl ?_
      refine s_put_f (n := 68) (k := k) (c := 5) hk (by decide) (nI_add _ _) dL_mends_67 rfl ?_
      refine r_al1 (n := 69) dL_mends_68 rfl ?_
      refine r_il2 (n := 70) dL_mends_69 rfl ?_
      refine r_bipush (v := 7) (n := 72) dL_mends_70 (by decide) rfl ?_
      refine r_iadd (n := 73) dL_mends_72 rfl ?_
      refine r_dup2 (n := 74) dL_mends_73 rfl rfl rfl ?_
      refine s_f (n := 75) (k := k) (c := 7) hk (by decide) (nI_add _ _) dL_mends_74 rfl ?_
      try simp (disch := omega) only [upd_at, upd_ne]
      refine r_iconst (v := 1) (n := 76) dL_mends_75 (by decide) rfl ?_
      refine r_iadd (n := 77) dL_mends_76 rfl ?_
      refine s_put_f (n := 78) (k := k) (c := 7) hk (by decide) (nI_add _ _) dL_mends_77 rfl ?_
      refine r_al1 (n := 79) dL_mends_78 rfl ?_
      refine r_il2 (n := 80) dL_mends_79 rfl ?_
      refine r_iconst (v := 2) (n := 81) dL_mends_80 (by decide) rfl ?_
      refine r_iadd (n := 82) dL_mends_81 rfl ?_
      refine r_il3 (n := 83) dL_mends_82 rfl ?_
      refine r_if_eq (tgt := 90) (n := 86) dL_mends_83 (by decide) rfl (fun c_83 => ?_) (fun c_83 => ?_)
      · refine r_al1 (n := 91) dL_mends_90 rfl ?_
        refine r_il2 (n := 92) dL_mends_91 rfl ?_
        refine r_iconst (v := 2) (n := 93) dL_mends_92 (by decide) rfl ?_
        refine r_iadd (n := 94) dL_mends_93 rfl ?_
        refine s_f (n := 95) (k := k) (c := 2) hk (by decide) (nI_add _ _) dL_mends_94 rfl ?_
        try simp (disch := omega) only [upd_at, upd_ne]
        refine r_iconst (v := 3) (n := 96) dL_mends_95 (by decide) rfl ?_
        refine r_idiv (n := 97) dL_mends_96 (by decide) rfl ?_
        refine s_put_f (n := 98) (k := k) (c := 2) hk (by decide) (nI_add _ _) dL_mends_97 rfl ?_
        refine r_il3 (n := 99) dL_mends_98 rfl ?_
        refine r_if_eq (tgt := 110) (n := 102) dL_mends_99 (by decide) rfl (fun c_99 => ?_) (fun c_99 => ?_)
        · refine r_al1 (n := 111) dL_mends_110 rfl ?_
          refine r_il2 (n := 112) dL_mends_111 rfl ?_
          refine r_iconst (v := 2) (n := 113) dL_mends_112 (by decide) rfl ?_
          refine r_iadd (n := 114) dL_mends_113 rfl ?_
          refine s_f (n := 115) (k := k) (c := 2) hk (by decide) (nI_add _ _) dL_mends_114 rfl ?_
          try simp (disch := omega) only [upd_at, upd_ne]
          exact e_i dL_mends_115 rfl (by unfold mdL; simp only [*, if_true, if_false]; try rfl) (by unfold mdL mdV; simp only [*, if_true, if_false]; try rfl)
        · exact absurd c_99 (fun h => h rfl)
      · exact absurd c_83 (fun h => h rfl)
    · exact absurd c_27 (fun h => h rfl)
  · refine r_ldc (n := 12) dL_mends_10 k_L_mends_23 rfl ?_
    exact e_i dL_mends_12 rfl (by unfold mdL; simp only [*, if_true, if_false]; try rfl) (by unfold mdL mdV; simp only [*, if_true, if_false]; try rfl)

theorem m_L_mends {k : Nat} (hk : k < 8) (b : Bool) : C_L_mends cA ad D [.ref (ad 4), .ref (ad 5), .int (nI (8 * k)), .int (bI b)] (setp M 10 v) (Ri (mdL v k b).1 (setp M 10 (mdL v k b).2)) := by
  cases b
  · exact m_L_mends_f hk
  · exact m_L_mends_t hk

set_option maxHeartbeats 4000000 in
set_option maxRecDepth 100000 in
theorem m_L_collects {k : Nat} (hk : k < 8) : C_L_collects cA ad D [.ref (ad 4), .ref (ad 5), .int (nI (8 * k))] (setp M 10 v) (Ri (clL v k).1 (setp M 10 (clL v k).2)) := by
  refine PM_of (lv := [some (.ref (ad 4)), some (.ref (ad 5)), some (.int (nI (8 * k))), none]) (by decide +kernel) rfl (Nat.le_of_ble_eq_true rfl) rfl ?_
  refine r_al0 (n := 1) dL_collects_0 rfl ?_
  refine r_iconst (v := 2) (n := 2) dL_collects_1 (by decide) rfl ?_
  refine s_g (n := 3) (k := 2) (by decide) (by decide) dL_collects_2 rfl ?_
  refine r_al1 (n := 4) dL_collects_3 rfl ?_
  refine r_il2 (n := 5) dL_collects_4 rfl ?_
  refine s_f0 (n := 6) (k := k) hk rfl dL_collects_5 rfl ?_
  refine r_icmp_ne (tgt := 17) (n := 9) dL_collects_6 (by decide) rfl (fun c_6 => ?_) (fun c_6 => ?_)
  · refine r_ldc (n := 19) dL_collects_17 k_L_collects_23 rfl ?_
    exact e_i dL_collects_19 rfl (by unfold clL; simp only [*, if_true, if_false]) (by unfold clL collU; simp only [*, if_true, if_false])
  · refine r_al1 (n := 10) dL_collects_9 rfl ?_
    refine r_il2 (n := 11) dL_collects_10 rfl ?_
    refine r_iconst (v := 5) (n := 12) dL_collects_11 (by decide) rfl ?_
    refine r_iadd (n := 13) dL_collects_12 rfl ?_
    refine s_f (n := 14) (k := k) (c := 5) hk (by decide) (nI_add _ _) dL_collects_13 rfl ?_
    refine r_if_ne (tgt := 20) (n := 17) dL_collects_14 (by decide) rfl (fun c_14 => ?_) (fun c_14 => ?_)
    · refine pw_mg (pcM := 47) (x := (pays v k)) ?_ (fun K_47 => ?_)
      · refine r_is3 (n := 48) (by decide) rfl dL_collects_47 rfl ?_
        refine r_al1 (n := 49) dL_collects_48 rfl ?_
        refine r_il2 (n := 50) dL_collects_49 rfl ?_
        refine r_iconst (v := 5) (n := 51) dL_collects_50 (by decide) rfl ?_
        refine r_iadd (n := 52) dL_collects_51 rfl ?_
        refine r_dup2 (n := 53) dL_collects_52 rfl rfl rfl ?_
        refine s_f (n := 54) (k := k) (c := 5) hk (by decide) (nI_add _ _) dL_collects_53 rfl ?_
        refine r_il3 (n := 55) dL_collects_54 rfl ?_
        refine r_isub (n := 56) dL_collects_55 rfl ?_
        refine s_put_f (n := 57) (k := k) (c := 5) hk (by decide) (nI_add _ _) dL_collects_56 rfl ?_
        refine r_al1 (n := 58) dL_collects_57 rfl ?_
        refine r_il2 (n := 59) dL_collects_58 rfl ?_
        refine r_bipush (v := 6) (n := 61) dL_collects_59 (by decide) rfl ?_
        refine r_iadd (n := 62) dL_collects_61 rfl ?_
        refine r_dup2 (n := 63) dL_collects_62 rfl rfl rfl ?_
        refine s_f (n := 64) (k := k) (c := 6) hk (by decide) (nI_add _ _) dL_collects_63 rfl ?_
        try simp (disch := omega) only [upd_at, upd_ne]
        refine r_il3 (n := 65) dL_collects_64 rfl ?_
        refine r_iadd (n := 66) dL_collects_65 rfl ?_
        refine s_put_f (n := 67) (k := k) (c := 6) hk (by decide) (nI_add _ _) dL_collects_66 rfl ?_
        refine r_al0 (n := 68) dL_collects_67 rfl ?_
        refine r_iconst (v := 5) (n := 69) dL_collects_68 (by decide) rfl ?_
        refine r_dup2 (n := 70) dL_collects_69 rfl rfl rfl ?_
        refine s_g (n := 71) (k := 5) (by decide) (by decide) dL_collects_70 rfl ?_
        try simp (disch := omega) only [upd_at, upd_ne]
        refine r_il3 (n := 72) dL_collects_71 rfl ?_
        refine r_iadd (n := 73) dL_collects_72 rfl ?_
        refine s_put_g (n := 74) (k := 5) (by decide) (by decide) dL_collects_73 rfl ?_
        refine r_il3 (n := 75) dL_collects_74 rfl ?_
        exact e_i dL_collects_75 rfl (by unfold clL; simp only [*, if_true, if_false]) (by unfold clL collU; simp only [*, if_true, if_false])
      · refine r_al1 (n := 21) dL_collects_20 rfl ?_
        refine r_il2 (n := 22) dL_collects_21 rfl ?_
        refine r_iconst (v := 3) (n := 23) dL_collects_22 (by decide) rfl ?_
        refine r_iadd (n := 24) dL_collects_23 rfl ?_
        refine s_f (n := 25) (k := k) (c := 3) hk (by decide) (nI_add _ _) dL_collects_24 rfl ?_
        try simp (disch := omega) only [upd_at, upd_ne]
        refine r_al0 (n := 26) dL_collects_25 rfl ?_
        refine r_bipush (v := 10) (n := 28) dL_collects_26 (by decide) rfl ?_
        refine s_g (n := 29) (k := 10) (by decide) (by decide) dL_collects_28 rfl ?_
        try simp (disch := omega) only [upd_at, upd_ne]
        refine r_icmp_ge (tgt := 42) (n := 32) dL_collects_29 (by decide) rfl (fun c_29 => ?_) (fun c_29 => ?_)
        · refine r_al1 (n := 43) dL_collects_42 rfl ?_
          refine r_il2 (n := 44) dL_collects_43 rfl ?_
          refine r_iconst (v := 5) (n := 45) dL_collects_44 (by decide) rfl ?_
          refine r_iadd (n := 46) dL_collects_45 rfl ?_
          refine s_f (n := 47) (k := k) (c := 5) hk (by decide) (nI_add _ _) dL_collects_46 rfl ?_
          try simp (disch := omega) only [upd_at, upd_ne]
          first
            | (rw [show pays v k = v (14 + 8 * k + 5) / 2 from if_pos (Int32.not_le.mp c_29)] at K_47; exact K_47)
            | (rw [show pays v k = v (14 + 8 * k + 5) from if_neg (Int32.not_lt.mpr c_29)] at K_47; exact K_47)
        · refine r_al1 (n := 33) dL_collects_32 rfl ?_
          refine r_il2 (n := 34) dL_collects_33 rfl ?_
          refine r_iconst (v := 5) (n := 35) dL_collects_34 (by decide) rfl ?_
          refine r_iadd (n := 36) dL_collects_35 rfl ?_
          refine s_f (n := 37) (k := k) (c := 5) hk (by decide) (nI_add _ _) dL_collects_36 rfl ?_
          try simp (disch := omega) only [upd_at, upd_ne]
          refine r_iconst (v := 2) (n := 38) dL_collects_37 (by decide) rfl ?_
          refine r_idiv (n := 39) dL_collects_38 (by decide) rfl ?_
          refine r_goto (tgt := 47) dL_collects_39 (by decide) ?_
          first
            | (rw [show pays v k = v (14 + 8 * k + 5) / 2 from if_pos (Int32.not_le.mp c_29)] at K_47; exact K_47)
            | (rw [show pays v k = v (14 + 8 * k + 5) from if_neg (Int32.not_lt.mpr c_29)] at K_47; exact K_47)
    · refine r_ldc (n := 19) dL_collects_17 k_L_collects_23 rfl ?_
      exact e_i dL_collects_19 rfl (by unfold clL; simp only [*, if_true, if_false]) (by unfold clL collU; simp only [*, if_true, if_false])

set_option maxHeartbeats 4000000 in
set_option maxRecDepth 100000 in
theorem m_L_day {k : Nat} (hk : k < 8) : C_L_day cA ad D [.ref (ad 4), .ref (ad 5), .int (nI (8 * k))] (setp M 10 v) (Rv (setp M 10 (dyL v k))) := by
  refine PM_of (lv := [some (.ref (ad 4)), some (.ref (ad 5)), some (.int (nI (8 * k))), none]) (by decide +kernel) rfl (Nat.le_of_ble_eq_true rfl) rfl ?_
  refine r_al1 (n := 1) dL_day_0 rfl ?_
  refine r_il2 (n := 2) dL_day_1 rfl ?_
  refine r_iconst (v := 2) (n := 3) dL_day_2 (by decide) rfl ?_
  refine r_iadd (n := 4) dL_day_3 rfl ?_
  refine r_dup2 (n := 5) dL_day_4 rfl rfl rfl ?_
  refine s_f (n := 6) (k := k) (c := 2) hk (by decide) (nI_add _ _) dL_day_5 rfl ?_
  refine r_iconst (v := 1) (n := 7) dL_day_6 (by decide) rfl ?_
  refine r_al1 (n := 8) dL_day_7 rfl ?_
  refine r_il2 (n := 9) dL_day_8 rfl ?_
  refine r_iconst (v := 1) (n := 10) dL_day_9 (by decide) rfl ?_
  refine r_iadd (n := 11) dL_day_10 rfl ?_
  refine s_f (n := 12) (k := k) (c := 1) hk (by decide) (nI_add _ _) dL_day_11 rfl ?_
  refine r_iconst (v := 2) (n := 13) dL_day_12 (by decide) rfl ?_
  refine r_idiv (n := 14) dL_day_13 (by decide) rfl ?_
  refine r_iadd (n := 15) dL_day_14 rfl ?_
  refine r_iadd (n := 16) dL_day_15 rfl ?_
  refine s_put_f (n := 17) (k := k) (c := 2) hk (by decide) (nI_add _ _) dL_day_16 rfl ?_
  refine pw_mem (M2 := setp M 10 (upd v (14 + 8 * k + 2) (dW1 v k))) rfl ?_
  refine r_al1 (n := 18) dL_day_17 rfl ?_
  refine r_il2 (n := 19) dL_day_18 rfl ?_
  refine r_iconst (v := 2) (n := 20) dL_day_19 (by decide) rfl ?_
  refine r_iadd (n := 21) dL_day_20 rfl ?_
  refine pw_mg (pcM := 41) (x := (dW2 v k)) ?_ (fun K_41 => ?_)
  · refine s_put_f (n := 42) (k := k) (c := 2) hk (by decide) (nI_add _ _) dL_day_41 rfl ?_
    rw [upd_2]
    refine r_al1 (n := 43) dL_day_42 rfl ?_
    refine r_il2 (n := 44) dL_day_43 rfl ?_
    refine r_iconst (v := 2) (n := 45) dL_day_44 (by decide) rfl ?_
    refine r_iadd (n := 46) dL_day_45 rfl ?_
    refine s_f (n := 47) (k := k) (c := 2) hk (by decide) (nI_add _ _) dL_day_46 rfl ?_
    try simp (disch := omega) only [upd_at, upd_ne]
    refine r_bipush (v := 10) (n := 49) dL_day_47 (by decide) rfl ?_
    refine r_idiv (n := 50) dL_day_49 (by decide) rfl ?_
    refine r_is3 (n := 51) (by decide) rfl dL_day_50 rfl ?_
    refine r_al1 (n := 52) dL_day_51 rfl ?_
    refine r_il2 (n := 53) dL_day_52 rfl ?_
    refine r_iconst (v := 3) (n := 54) dL_day_53 (by decide) rfl ?_
    refine r_iadd (n := 55) dL_day_54 rfl ?_
    refine r_dup2 (n := 56) dL_day_55 rfl rfl rfl ?_
    refine s_f (n := 57) (k := k) (c := 3) hk (by decide) (nI_add _ _) dL_day_56 rfl ?_
    try simp (disch := omega) only [upd_at, upd_ne]
    refine pw_mg (pcM := 69) (x := (dL1 (dW2 v k / 10))) ?_ (fun K_69 => ?_)
    · refine r_isub (n := 70) dL_day_69 rfl ?_
      refine s_put_f (n := 71) (k := k) (c := 3) hk (by decide) (nI_add _ _) dL_day_70 rfl ?_
      refine pw_mem (M2 := setp M 10 (upd (upd v (14 + 8 * k + 2) (dW2 v k)) (14 + 8 * k + 3) (dH1 v k))) rfl ?_
      refine r_al1 (n := 72) dL_day_71 rfl ?_
      refine r_il2 (n := 73) dL_day_72 rfl ?_
      refine r_iconst (v := 3) (n := 74) dL_day_73 (by decide) rfl ?_
      refine r_iadd (n := 75) dL_day_74 rfl ?_
      refine pw_mg (pcM := 107) (x := (dH2 v k)) ?_ (fun K_107 => ?_)
      · refine s_put_f (n := 108) (k := k) (c := 3) hk (by decide) (nI_add _ _) dL_day_107 rfl ?_
        rw [upd_2]
        refine r_al1 (n := 109) dL_day_108 rfl ?_
        refine r_il2 (n := 110) dL_day_109 rfl ?_
        refine r_iconst (v := 4) (n := 111) dL_day_110 (by decide) rfl ?_
        refine r_iadd (n := 112) dL_day_111 rfl ?_
        refine pw_mg (pcM := 135) (x := (dC2 v k)) ?_ (fun K_135 => ?_)
        · refine s_put_f (n := 136) (k := k) (c := 4) hk (by decide) (nI_add _ _) dL_day_135 rfl ?_
          refine r_al0 (n := 137) dL_day_136 rfl ?_
          refine r_bipush (v := 8) (n := 139) dL_day_137 (by decide) rfl ?_
          refine pw_mg (pcM := 163) (x := (dM2 v k)) ?_ (fun K_163 => ?_)
          · refine s_put_g (n := 164) (k := 8) (by decide) (by decide) dL_day_163 rfl ?_
            exact e_v dL_day_164 rfl rfl
          · refine r_al0 (n := 140) dL_day_139 rfl ?_
            refine r_bipush (v := 8) (n := 142) dL_day_140 (by decide) rfl ?_
            refine s_g (n := 143) (k := 8) (by decide) (by decide) dL_day_142 rfl ?_
            try simp (disch := omega) only [upd_at, upd_ne]
            refine r_al1 (n := 144) dL_day_143 rfl ?_
            refine r_il2 (n := 145) dL_day_144 rfl ?_
            refine r_iconst (v := 4) (n := 146) dL_day_145 (by decide) rfl ?_
            refine r_iadd (n := 147) dL_day_146 rfl ?_
            refine s_f (n := 148) (k := k) (c := 4) hk (by decide) (nI_add _ _) dL_day_147 rfl ?_
            try simp (disch := omega) only [upd_at, upd_ne]
            refine r_icmp_ge (tgt := 159) (n := 151) dL_day_148 (by decide) rfl (fun c_148 => ?_) (fun c_148 => ?_)
            · refine r_al0 (n := 160) dL_day_159 rfl ?_
              refine r_bipush (v := 8) (n := 162) dL_day_160 (by decide) rfl ?_
              refine s_g (n := 163) (k := 8) (by decide) (by decide) dL_day_162 rfl ?_
              try simp (disch := omega) only [upd_at, upd_ne]
              first
                | (rw [show dM2 v k = v 8 from if_pos c_148] at K_163; exact K_163)
                | (rw [show dM2 v k = dC2 v k from if_neg c_148] at K_163; exact K_163)
            · refine r_al1 (n := 152) dL_day_151 rfl ?_
              refine r_il2 (n := 153) dL_day_152 rfl ?_
              refine r_iconst (v := 4) (n := 154) dL_day_153 (by decide) rfl ?_
              refine r_iadd (n := 155) dL_day_154 rfl ?_
              refine s_f (n := 156) (k := k) (c := 4) hk (by decide) (nI_add _ _) dL_day_155 rfl ?_
              try simp (disch := omega) only [upd_at, upd_ne]
              refine r_goto (tgt := 163) dL_day_156 (by decide) ?_
              first
                | (rw [show dM2 v k = v 8 from if_pos c_148] at K_163; exact K_163)
                | (rw [show dM2 v k = dC2 v k from if_neg c_148] at K_163; exact K_163)
        · refine r_al1 (n := 113) dL_day_112 rfl ?_
          refine r_il2 (n := 114) dL_day_113 rfl ?_
          refine r_iconst (v := 3) (n := 115) dL_day_114 (by decide) rfl ?_
          refine r_iadd (n := 116) dL_day_115 rfl ?_
          refine s_f (n := 117) (k := k) (c := 3) hk (by decide) (nI_add _ _) dL_day_116 rfl ?_
          try simp (disch := omega) only [upd_at, upd_ne]
          refine r_al0 (n := 118) dL_day_117 rfl ?_
          refine r_bipush (v := 10) (n := 120) dL_day_118 (by decide) rfl ?_
          refine s_g (n := 121) (k := 10) (by decide) (by decide) dL_day_120 rfl ?_
          try simp (disch := omega) only [upd_at, upd_ne]
          refine r_icmp_ge (tgt := 134) (n := 124) dL_day_121 (by decide) rfl (fun c_121 => ?_) (fun c_121 => ?_)
          · refine r_iconst (v := 0) (n := 135) dL_day_134 (by decide) rfl ?_
            first
              | (rw [show dC2 v k = 0 from if_pos c_121] at K_135; exact K_135)
              | (rw [show dC2 v k = v (14 + 8 * k + 4) + 1 from if_neg c_121] at K_135; exact K_135)
          · refine r_al1 (n := 125) dL_day_124 rfl ?_
            refine r_il2 (n := 126) dL_day_125 rfl ?_
            refine r_iconst (v := 4) (n := 127) dL_day_126 (by decide) rfl ?_
            refine r_iadd (n := 128) dL_day_127 rfl ?_
            refine s_f (n := 129) (k := k) (c := 4) hk (by decide) (nI_add _ _) dL_day_128 rfl ?_
            try simp (disch := omega) only [upd_at, upd_ne]
            refine r_iconst (v := 1) (n := 130) dL_day_129 (by decide) rfl ?_
            refine r_iadd (n := 131) dL_day_130 rfl ?_
            refine r_goto (tgt := 135) dL_day_131 (by decide) ?_
            first
              | (rw [show dC2 v k = 0 from if_pos c_121] at K_135; exact K_135)
              | (rw [show dC2 v k = v (14 + 8 * k + 4) + 1 from if_neg c_121] at K_135; exact K_135)
      · refine r_al1 (n := 76) dL_day_75 rfl ?_
        refine r_il2 (n := 77) dL_day_76 rfl ?_
        refine r_iconst (v := 3) (n := 78) dL_day_77 (by decide) rfl ?_
        refine r_iadd (n := 79) dL_day_78 rfl ?_
        refine s_f (n := 80) (k := k) (c := 3) hk (by decide) (nI_add _ _) dL_day_79 rfl ?_
        try simp (disch := omega) only [upd_at, upd_ne]
        refine r_bipush (v := 100) (n := 82) dL_day_80 (by decide) rfl ?_
        refine r_icmp_le (tgt := 90) (n := 85) dL_day_82 (by decide) rfl (fun c_82 => ?_) (fun c_82 => ?_)
        · refine r_al1 (n := 91) dL_day_90 rfl ?_
          refine r_il2 (n := 92) dL_day_91 rfl ?_
          refine r_iconst (v := 3) (n := 93) dL_day_92 (by decide) rfl ?_
          refine r_iadd (n := 94) dL_day_93 rfl ?_
          refine s_f (n := 95) (k := k) (c := 3) hk (by decide) (nI_add _ _) dL_day_94 rfl ?_
          try simp (disch := omega) only [upd_at, upd_ne]
          refine r_if_ge (tgt := 102) (n := 98) dL_day_95 (by decide) rfl (fun c_95 => ?_) (fun c_95 => ?_)
          · refine r_al1 (n := 103) dL_day_102 rfl ?_
            refine r_il2 (n := 104) dL_day_103 rfl ?_
            refine r_iconst (v := 3) (n := 105) dL_day_104 (by decide) rfl ?_
            refine r_iadd (n := 106) dL_day_105 rfl ?_
            refine s_f (n := 107) (k := k) (c := 3) hk (by decide) (nI_add _ _) dL_day_106 rfl ?_
            try simp (disch := omega) only [upd_at, upd_ne]
            first
              | (rw [show dH2 v k = dH1 v k from (if_pos c_82).trans (if_pos c_95)] at K_107; exact K_107)
              | (rw [show dH2 v k = 0 from (if_pos c_82).trans (if_neg c_95)] at K_107; exact K_107)
              | (rw [show dH2 v k = 100 from if_neg c_82] at K_107; exact K_107)
          · refine r_iconst (v := 0) (n := 99) dL_day_98 (by decide) rfl ?_
            refine r_goto (tgt := 107) dL_day_99 (by decide) ?_
            first
              | (rw [show dH2 v k = dH1 v k from (if_pos c_82).trans (if_pos c_95)] at K_107; exact K_107)
              | (rw [show dH2 v k = 0 from (if_pos c_82).trans (if_neg c_95)] at K_107; exact K_107)
              | (rw [show dH2 v k = 100 from if_neg c_82] at K_107; exact K_107)
        · refine r_bipush (v := 100) (n := 87) dL_day_85 (by decide) rfl ?_
          refine r_goto (tgt := 107) dL_day_87 (by decide) ?_
          first
            | (rw [show dH2 v k = dH1 v k from (if_pos c_82).trans (if_pos c_95)] at K_107; exact K_107)
            | (rw [show dH2 v k = 0 from (if_pos c_82).trans (if_neg c_95)] at K_107; exact K_107)
            | (rw [show dH2 v k = 100 from if_neg c_82] at K_107; exact K_107)
    · refine r_il3 (n := 58) dL_day_57 rfl ?_
      refine r_if_ne (tgt := 66) (n := 61) dL_day_58 (by decide) rfl (fun c_58 => ?_) (fun c_58 => ?_)
      · refine r_il3 (n := 67) dL_day_66 rfl ?_
        refine r_il3 (n := 68) dL_day_67 rfl ?_
        refine r_iadd (n := 69) dL_day_68 rfl ?_
        first
          | (rw [show dL1 (dW2 v k / 10) = -10 from if_pos c_58] at K_69; exact K_69)
          | (rw [show dL1 (dW2 v k / 10) = -10 from if_pos (Decidable.not_not.mp c_58)] at K_69; exact K_69)
          | (rw [show dL1 (dW2 v k / 10) = dW2 v k / 10 + dW2 v k / 10 from if_neg c_58] at K_69; exact K_69)
      · refine r_bipush (v := -10) (n := 63) dL_day_61 (by decide) rfl ?_
        refine r_goto (tgt := 69) dL_day_63 (by decide) ?_
        first
          | (rw [show dL1 (dW2 v k / 10) = -10 from if_pos c_58] at K_69; exact K_69)
          | (rw [show dL1 (dW2 v k / 10) = -10 from if_pos (Decidable.not_not.mp c_58)] at K_69; exact K_69)
          | (rw [show dL1 (dW2 v k / 10) = dW2 v k / 10 + dW2 v k / 10 from if_neg c_58] at K_69; exact K_69)
  · refine r_al1 (n := 22) dL_day_21 rfl ?_
    refine r_il2 (n := 23) dL_day_22 rfl ?_
    refine r_iconst (v := 2) (n := 24) dL_day_23 (by decide) rfl ?_
    refine r_iadd (n := 25) dL_day_24 rfl ?_
    refine s_f (n := 26) (k := k) (c := 2) hk (by decide) (nI_add _ _) dL_day_25 rfl ?_
    try simp (disch := omega) only [upd_at, upd_ne]
    refine r_bipush (v := 100) (n := 28) dL_day_26 (by decide) rfl ?_
    refine r_icmp_le (tgt := 36) (n := 31) dL_day_28 (by decide) rfl (fun c_28 => ?_) (fun c_28 => ?_)
    · refine r_al1 (n := 37) dL_day_36 rfl ?_
      refine r_il2 (n := 38) dL_day_37 rfl ?_
      refine r_iconst (v := 2) (n := 39) dL_day_38 (by decide) rfl ?_
      refine r_iadd (n := 40) dL_day_39 rfl ?_
      refine s_f (n := 41) (k := k) (c := 2) hk (by decide) (nI_add _ _) dL_day_40 rfl ?_
      try simp (disch := omega) only [upd_at, upd_ne]
      first
        | (rw [show dW2 v k = dW1 v k from if_pos c_28] at K_41; exact K_41)
        | (rw [show dW2 v k = 100 from if_neg c_28] at K_41; exact K_41)
    · refine r_bipush (v := 100) (n := 33) dL_day_31 (by decide) rfl ?_
      refine r_goto (tgt := 41) dL_day_33 (by decide) ?_
      first
        | (rw [show dW2 v k = dW1 v k from if_pos c_28] at K_41; exact K_41)
        | (rw [show dW2 v k = 100 from if_neg c_28] at K_41; exact K_41)

set_option maxHeartbeats 4000000 in
set_option maxRecDepth 100000 in
theorem l_L_colds {N : Nat} (hN : v 0 = nI N) (h8 : N ≤ 8) : ∀ (m i : Nat), i + m = N → P_L_colds cA ad D 4 [some (.ref (ad 4)), some (.ref (ad 5)), some (.int (csN v i)), some (.int (nI i))] [] (setp M 10 v) (Ri (csN v N) (setp M 10 v)) := by
  intro m
  induction m with
  | zero =>
    intro i hi
    have : i = N := by omega
    subst this
    refine r_il3 (n := 5) dL_colds_4 rfl ?_
    refine r_al0 (n := 6) dL_colds_5 rfl ?_
    refine r_iconst (v := 0) (n := 7) dL_colds_6 (by decide) rfl ?_
    refine s_g (n := 8) (k := 0) (by decide) (by decide) dL_colds_7 rfl ?_
    refine r_icmp_ge (tgt := 42) (n := 11) dL_colds_8 (by decide) rfl (fun c_8 => ?_) (fun c_8 => ?_)
    · refine r_il2 (n := 43) dL_colds_42 rfl ?_
      exact e_i dL_colds_43 rfl rfl rfl
    · exact absurd c_8 (fun h => h (by rw [hN]; exact nI_le (Nat.le_refl _) (by omega)))
  | succ m ih =>
    intro i hi
    refine r_il3 (n := 5) dL_colds_4 rfl ?_
    refine r_al0 (n := 6) dL_colds_5 rfl ?_
    refine r_iconst (v := 0) (n := 7) dL_colds_6 (by decide) rfl ?_
    refine s_g (n := 8) (k := 0) (by decide) (by decide) dL_colds_7 rfl ?_
    refine r_icmp_ge (tgt := 42) (n := 11) dL_colds_8 (by decide) rfl (fun c_8 => ?_) (fun c_8 => ?_)
    · exact absurd c_8 (by rw [hN]; exact nI_ge (by omega) (by omega))
    · refine r_il2 (n := 12) dL_colds_11 rfl ?_
      refine pw_mg (pcM := 34) (x := (if v (14 + 8 * i + 3) < v 10 then (1 : Int32) <<< (nI i &&& 31) else 0)) ?_ (fun K_34 => ?_)
      · refine r_ior (n := 35) dL_colds_34 rfl ?_
        refine r_is2 (n := 36) (by decide) rfl dL_colds_35 rfl ?_
        refine r_ii3 (n := 39) (by decide) rfl dL_colds_36 (nI_1 i) rfl ?_
        refine r_goto (tgt := 4) dL_colds_39 (by decide) ?_
        rw [show csN v i ||| (if v (14 + 8 * i + 3) < v 10 then (1 : Int32) <<< (nI i &&& 31) else 0) = csN v (i + 1) from by
          rw [csN]
          split
          · rfl
          · exact Int32.or_zero]
        exact ih (i + 1) (by omega)
      · refine r_al1 (n := 13) dL_colds_12 rfl ?_
        refine r_bipush (v := 8) (n := 15) dL_colds_13 (by decide) rfl ?_
        refine r_il3 (n := 16) dL_colds_15 rfl ?_
        refine r_imul (n := 17) dL_colds_16 rfl ?_
        refine r_iconst (v := 3) (n := 18) dL_colds_17 (by decide) rfl ?_
        refine r_iadd (n := 19) dL_colds_18 rfl ?_
        rw [show (8 : Int32) * nI i + 3 = nI (8 * i + 3) from by rw [show (8 : Int32) = nI 8 from rfl, pk_mul, show (3 : Int32) = nI 3 from rfl, nI_add]]
        refine s_f (k := i) (c := 3) (by omega) (by decide) rfl (n := 20) dL_colds_19 rfl ?_
        refine r_al0 (n := 21) dL_colds_20 rfl ?_
        refine r_bipush (v := 10) (n := 23) dL_colds_21 (by decide) rfl ?_
        refine s_g (n := 24) (k := 10) (by decide) (by decide) dL_colds_23 rfl ?_
        refine r_icmp_ge (tgt := 33) (n := 27) dL_colds_24 (by decide) rfl (fun c_24 => ?_) (fun c_24 => ?_)
        · refine r_iconst (v := 0) (n := 34) dL_colds_33 (by decide) rfl ?_
          first
            | (rw [if_pos (Int32.not_le.mp c_24)] at K_34; exact K_34)
            | (rw [if_neg (Int32.not_lt.mpr c_24)] at K_34; exact K_34)
        · refine r_iconst (v := 1) (n := 28) dL_colds_27 (by decide) rfl ?_
          refine r_il3 (n := 29) dL_colds_28 rfl ?_
          refine r_ishl (n := 30) dL_colds_29 rfl ?_
          refine r_goto (tgt := 34) dL_colds_30 (by decide) ?_
          first
            | (rw [if_pos (Int32.not_le.mp c_24)] at K_34; exact K_34)
            | (rw [if_neg (Int32.not_lt.mpr c_24)] at K_34; exact K_34)

set_option maxHeartbeats 4000000 in
set_option maxRecDepth 100000 in
theorem m_L_colds {N : Nat} (hN : v 0 = nI N) (h8 : N ≤ 8) : C_L_colds cA ad D [.ref (ad 4), .ref (ad 5)] (setp M 10 v) (Ri (csN v N) (setp M 10 v)) := by
  refine PM_of (lv := [some (.ref (ad 4)), some (.ref (ad 5)), none, none]) (by decide +kernel) rfl (Nat.le_of_ble_eq_true rfl) rfl ?_
  refine r_iconst (v := 0) (n := 1) dL_colds_0 (by decide) rfl ?_
  refine r_is2 (n := 2) (by decide) rfl dL_colds_1 rfl ?_
  refine r_iconst (v := 0) (n := 3) dL_colds_2 (by decide) rfl ?_
  refine r_is3 (n := 4) (by decide) rfl dL_colds_3 rfl ?_
  exact l_L_colds hN h8 N 0 (by omega)

set_option maxHeartbeats 4000000 in
set_option maxRecDepth 100000 in
theorem lb_L_ends {x2 : Int32} : ∀ (m L : Nat) (n : Int32), L < 2 ^ m → L < 2 ^ 30 → P_L_ends cA ad D 63 [some (.ref (ad 4)), some (.ref (ad 5)), some (.int x2), some (.int n), some (.int (nI L))] [] M (Ri (bLn m (nI L) n) M) := by
  intro m
  induction m with
  | zero =>
    intro L n hL h30
    have : L = 0 := by omega
    subst this
    refine r_il4 (n := 65) dL_ends_63 rfl ?_
    refine r_if_le (tgt := 84) (n := 68) dL_ends_65 (by decide) rfl (fun c_65 => ?_) (fun c_65 => ?_)
    · refine r_il3 (n := 85) dL_ends_84 rfl ?_
      exact e_i dL_ends_85 rfl rfl rfl
    · exact absurd c_65 (fun h => h (by decide))
  | succ m ih =>
    intro L n hL h30
    rw [bLn]
    refine r_il4 (n := 65) dL_ends_63 rfl ?_
    refine r_if_le (tgt := 84) (n := 68) dL_ends_65 (by decide) rfl (fun c_65 => ?_) (fun c_65 => ?_)
    · refine r_il3 (n := 85) dL_ends_84 rfl ?_
      exact e_i dL_ends_85 rfl (if_pos c_65).symm rfl
    · refine r_il3 (n := 69) dL_ends_68 rfl ?_
      refine r_il4 (n := 71) dL_ends_69 rfl ?_
      refine r_iconst (v := 2) (n := 72) dL_ends_71 (by decide) rfl ?_
      refine r_irem (n := 73) dL_ends_72 (by decide) rfl ?_
      refine r_iadd (n := 74) dL_ends_73 rfl ?_
      refine r_is3 (n := 75) (by decide) rfl dL_ends_74 rfl ?_
      refine r_il4 (n := 77) dL_ends_75 rfl ?_
      refine r_iconst (v := 2) (n := 78) dL_ends_77 (by decide) rfl ?_
      refine r_idiv (n := 79) dL_ends_78 (by decide) rfl ?_
      refine r_is4 (n := 81) (by decide) rfl dL_ends_79 rfl ?_
      refine r_goto (tgt := 63) dL_ends_81 (by decide) ?_
      rw [if_neg c_65, show (2 : Int32) = nI 2 from rfl, pk_div (by omega) (by decide) (by decide)]
      exact ih (L / 2) _ (by rw [Nat.pow_succ] at hL; omega) (by omega)

set_option maxHeartbeats 4000000 in
set_option maxRecDepth 100000 in
theorem li_L_ends {N : Nat} {w : Vec} (hv : VOK N w) {x2 x3 : Int32} {Q : QT} (K : P_L_ends cA ad D 34 [some (.ref (ad 4)), some (.ref (ad 5)), some (.int x2), some (.int x3), none] [] (setp M 10 (allU w 1 N)) Q) : ∀ (m i : Nat), i + m = N → P_L_ends cA ad D 10 [some (.ref (ad 4)), some (.ref (ad 5)), some (.int x2), some (.int x3), some (.int (nI i))] [] (setp M 10 (allU w 1 i)) Q := by
  have h8 := hv.1
  have h0 : ∀ i, allU w 1 i 0 = nI N := fun i => by rw [allU_j _ _ 0 (by decide) (by decide)]; exact hv.2.1
  intro m
  induction m with
  | zero =>
    intro i hi
    have : i = N := by omega
    subst this
    refine r_il4 (n := 12) dL_ends_10 rfl ?_
    refine r_al0 (n := 13) dL_ends_12 rfl ?_
    refine r_iconst (v := 0) (n := 14) dL_ends_13 (by decide) rfl ?_
    refine s_g (n := 15) (k := 0) (by decide) (by decide) dL_ends_14 rfl ?_
    refine r_icmp_ge (tgt := 34) (n := 18) dL_ends_15 (by decide) rfl (fun c_15 => ?_) (fun c_15 => ?_)
    · refine r_dr4 ?_
      exact K
    · exact absurd c_15 (fun h => h (by rw [h0]; exact nI_le (Nat.le_refl _) (by omega)))
  | succ m ih =>
    intro i hi
    refine r_il4 (n := 12) dL_ends_10 rfl ?_
    refine r_al0 (n := 13) dL_ends_12 rfl ?_
    refine r_iconst (v := 0) (n := 14) dL_ends_13 (by decide) rfl ?_
    refine s_g (n := 15) (k := 0) (by decide) (by decide) dL_ends_14 rfl ?_
    refine r_icmp_ge (tgt := 34) (n := 18) dL_ends_15 (by decide) rfl (fun c_15 => ?_) (fun c_15 => ?_)
    · exact absurd c_15 (by rw [h0]; exact nI_ge (by omega) (by omega))
    · refine r_al0 (n := 19) dL_ends_18 rfl ?_
      refine r_al1 (n := 20) dL_ends_19 rfl ?_
      refine r_bipush (v := 8) (n := 22) dL_ends_20 (by decide) rfl ?_
      refine r_il4 (n := 24) dL_ends_22 rfl ?_
      refine r_imul (n := 25) dL_ends_24 rfl ?_
      rw [show (8 : Int32) * nI i = nI (8 * i) from by rw [show (8 : Int32) = nI 8 from rfl, pk_mul]]
      refine cS_v (n := 28) (np := 3) (m_L_day (k := i) (by omega)) gL_ends_L_day rfl (by decide +kernel) rfl (by decide) (by decide) dL_ends_25 rfl rfl (Nat.le_of_ble_eq_true rfl) ?_
      refine r_ii4 (n := 31) (by decide) rfl dL_ends_28 (nI_1 i) rfl ?_
      refine r_goto (tgt := 10) dL_ends_31 (by decide) ?_
      rw [dyL_eq ((VOK_all hv 1 i (by omega)).2.2.2.2.2.2.2.2 i (by omega))]
      exact ih (i + 1) (by omega)

set_option maxHeartbeats 4000000 in
set_option maxRecDepth 100000 in
theorem lo_L_ends {N d : Nat} {w : Vec} (hv : VOK N w) (hd : d ≤ 99) {Q : QT} (K : P_L_ends cA ad D 40 [some (.ref (ad 4)), some (.ref (ad 5)), some (.int (nI d)), none, none] [] (setp M 10 (allU w d N)) Q) : ∀ (m e : Nat), e + m = d → P_L_ends cA ad D 2 [some (.ref (ad 4)), some (.ref (ad 5)), some (.int (nI d)), some (.int (nI e)), none] [] (setp M 10 (allU w e N)) Q := by
  intro m
  induction m with
  | zero =>
    intro e he
    have : e = d := by omega
    subst this
    refine r_il3 (n := 3) dL_ends_2 rfl ?_
    refine r_il2 (n := 4) dL_ends_3 rfl ?_
    refine r_icmp_ge (tgt := 40) (n := 7) dL_ends_4 (by decide) rfl (fun c_4 => ?_) (fun c_4 => ?_)
    · refine r_dr3 ?_
      exact K
    · exact absurd c_4 (fun h => h (nI_le (Nat.le_refl _) (by omega)))
  | succ m ih =>
    intro e he
    refine r_il3 (n := 3) dL_ends_2 rfl ?_
    refine r_il2 (n := 4) dL_ends_3 rfl ?_
    refine r_icmp_ge (tgt := 40) (n := 7) dL_ends_4 (by decide) rfl (fun c_4 => ?_) (fun c_4 => ?_)
    · exact absurd c_4 (nI_ge (by omega) (by omega))
    · refine r_iconst (v := 0) (n := 8) dL_ends_7 (by decide) rfl ?_
      refine r_is4 (n := 10) (by decide) rfl dL_ends_8 rfl ?_
      refine li_L_ends (VOK_all hv e N (Nat.le_refl N)) ?_ N 0 (by omega)
      refine r_ii3 (n := 37) (by decide) rfl dL_ends_34 (nI_1 e) rfl ?_
      refine r_goto (tgt := 2) dL_ends_37 (by decide) ?_
      rw [← allU_s]
      exact ih (e + 1) (by omega)

set_option maxHeartbeats 4000000 in
set_option maxRecDepth 100000 in
theorem all0 (w : Vec) : ∀ n, allU w 0 n = w
  | 0 => rfl
  | n + 1 => by rw [allU, all0 w n]; rfl

set_option maxHeartbeats 4000000 in
set_option maxRecDepth 100000 in
theorem m_L_ends {N d : Nat} (hv : VOK N v) (h1 : 1 ≤ d) (hd : d ≤ 99) (h99 : v 1 + nI d ≤ 9999) : C_L_ends cA ad D [.ref (ad 4), .ref (ad 5), .int (nI d)] (setp M 10 v) (Ri (endS v N (nI d)).1 (setp M 10 (endS v N (nI d)).2)) := by
  refine PM_of (lv := [some (.ref (ad 4)), some (.ref (ad 5)), some (.int (nI d)), none, none]) (by decide +kernel) rfl (Nat.le_of_ble_eq_true rfl) rfl ?_
  refine r_iconst (v := 0) (n := 1) dL_ends_0 (by decide) rfl ?_
  refine r_is3 (n := 2) (by decide) rfl dL_ends_1 rfl ?_
  have e0 : setp M 10 v = setp M 10 (allU v 0 N) := by rw [all0]
  refine pw_mem e0 ?_
  refine lo_L_ends hv hd ?_ d 0 (by omega)
  refine r_al0 (n := 41) dL_ends_40 rfl ?_
  refine r_iconst (v := 1) (n := 42) dL_ends_41 (by decide) rfl ?_
  refine r_dup2 (n := 43) dL_ends_42 rfl rfl rfl ?_
  refine s_g (n := 44) (k := 1) (by decide) (by decide) dL_ends_43 rfl ?_
  refine r_il2 (n := 45) dL_ends_44 rfl ?_
  refine r_iadd (n := 46) dL_ends_45 rfl ?_
  refine s_put_g (n := 47) (k := 1) (by decide) (by decide) dL_ends_46 rfl ?_
  refine r_al0 (n := 48) dL_ends_47 rfl ?_
  refine r_iconst (v := 3) (n := 49) dL_ends_48 (by decide) rfl ?_
  refine r_al0 (n := 50) dL_ends_49 rfl ?_
  refine r_bipush (v := 11) (n := 52) dL_ends_50 (by decide) rfl ?_
  refine s_g (n := 53) (k := 11) (by decide) (by decide) dL_ends_52 rfl ?_
  try simp (disch := omega) only [upd_at, upd_ne]
  refine s_put_g (n := 54) (k := 3) (by decide) (by decide) dL_ends_53 rfl ?_
  refine pw_mem (M2 := setp M 10 (endU v N d)) (by rw [allU_j _ _ 1 (by decide) (by decide), allU_j _ _ 11 (by decide) (by decide)]; rfl) ?_
  refine r_iconst (v := 0) (n := 55) dL_ends_54 (by decide) rfl ?_
  refine r_is3 (n := 56) (by decide) rfl dL_ends_55 rfl ?_
  refine r_al0 (n := 57) dL_ends_56 rfl ?_
  refine r_al1 (n := 58) dL_ends_57 rfl ?_
  refine cS_i (n := 61) (np := 2) (m_L_colds (N := N) (VOK_end hv d).2.1 hv.1) gL_ends_L_colds rfl (by decide +kernel) rfl (by decide) (by decide) dL_ends_58 rfl rfl (Nat.le_of_ble_eq_true rfl) ?_
  refine r_is4 (n := 63) (by decide) rfl dL_ends_61 rfl ?_
  obtain ⟨L, hL, e1, e2, e3⟩ := bits_eq (u := endU v N d) hv.1
  rw [e1]
  have eE : endS v N (nI d) = (bitc (csN (endU v N d) N), endU v N d) := by
    unfold endS
    rw [nI_clamp (by omega), if_neg (nx_1 (d := d) h1 (by omega)), if_pos (nx_99 (d := d) hd), if_pos h99]
  rw [eE, ← e2]
  exact lb_L_ends 8 L 0 hL (by omega)

end LAWM
