/-! ===== the reference: fault and play ===== -/
section MPLAY
variable {cA : Nat → ClassId} {ad : Nat → Nat} {D : va_G} {M : Mem}
theorem agsU_78 (u : Vec) {j : Nat} (hj : 78 ≤ j) : ∀ n, n ≤ 8 → agsU u n j = u j
  | 0, _ => rfl
  | n + 1, h => by
    rw [agsU]
    refine Eq.trans ?_ (agsU_78 u hj n (by omega))
    simp (disch := omega) only [agU, upd_ne]
theorem edsU_78 (u : Vec) {j : Nat} (hj : 78 ≤ j) {n : Nat} (h8 : n ≤ 8) : ∀ d, edsU u n d j = u j
  | 0 => rfl
  | d + 1 => by
    rw [edsU]
    refine Eq.trans ?_ (edsU_78 u hj h8 d)
    rw [edU]
    simp (disch := omega) only [upd_ne]
    exact agsU_78 _ hj n h8
theorem ordM_78 (w : Vec) {n : Nat} (hN : w 0 = nI n) (h8 : n ≤ 8) (c v : Int32) {j : Nat} (hj : 78 ≤ j) : mw w (ordM w n c v).2 j = w j := by
  have e : ∀ (k : Nat) (b : Bool), k < 8 → mw w (mendM w k b).2 j = w j := fun k b hk => by
    unfold mendM
    split
    · simp (disch := omega) only [mw, mendU, upd_ne]
    · rfl
  have e2 : ∀ (k : Nat), k < 8 → mw w (collM w k).2 j = w j := fun k hk => by
    unfold collM
    split
    · split
      · rfl
      · simp (disch := omega) only [mw, collU, upd_ne]
    · rfl
  have e3 : ∀ {i : Int32}, (¬ i < 0 ∧ i < w 0) → i.toNatClampNeg < 8 := fun {i} q => by
    obtain ⟨k, hk, _, e⟩ := isSm_k hN h8 q
    omega
  unfold ordM
  split
  · unfold walkM
    split
    · split
      · simp (disch := omega) only [mw, upd_ne]
      · rfl
    · rfl
  · split
    · unfold buyM
      split
      · split
        · split
          · simp (disch := omega) only [mw, upd_ne]
          · rfl
        · rfl
      · rfl
    · split
      · unfold mendMJ
        split
        · next q => exact e _ _ (e3 q)
        · rfl
      · split
        · unfold mendMJ
          split
          · next q => exact e _ _ (e3 q)
          · rfl
        · split
          · unfold collMJ
            split
            · next q => exact e2 _ (e3 q)
            · rfl
          · unfold endM
            split
            · split
              · exact edsU_78 _ hj h8 _
              · rfl
            · rfl
theorem plF_78 (tx : Vec) (t : Nat) {n : Nat} (h8 : n ≤ 8) {j : Nat} (hj : 78 ≤ j) : ∀ (m s : Nat) (w b : Vec), w 0 = nI n → (plF tx t n m s w b).2.1 j = w j
  | 0, s, w, b, hN => rfl
  | m + 1, s, w, b, hN => by
    rw [plF]
    split
    · split
      · split
        · exact ordM_78 w hN h8 _ _ hj
        · exact (plF_78 tx t h8 hj m _ _ _ ((ordM_0 _ _ _ _).trans hN)).trans (ordM_78 w hN h8 _ _ hj)
      · rfl
    · rfl
def pl0 (b : Vec) : Vec := upd (upd (upd (upd b 1 1) 3 0) 4 0) 7 0
def plP (M : Mem) (t n : Nat) : Int32 × Vec × Vec := plF (M.1 14) t n 60 0 (M.1 10) (pl0 (M.1 9))

set_option maxHeartbeats 4000000 in
set_option maxRecDepth 100000 in
theorem m_X4_plays {N : Nat} (hN : M.1 10 0 = nI N) (h8 : N ≤ 8) (hz : ∀ w, onZ 8 (csN w N)) {t : Nat} (ht : M.1 9 2 = nI t) (h60 : t ≤ 60) : C_X4_plays cA ad D [.ref (ad 4)] M (Ri (plP M t N).1 (M9 M (plP M t N).2.1 (upd (plP M t N).2.2 1 0))) := by
  refine PM_of (lv := [some (.ref (ad 4)), none, none, none]) (by decide +kernel) rfl (Nat.le_of_ble_eq_true rfl) rfl ?_
  refine r_al0 (n := 1) dX4_plays_0 rfl ?_
  refine r_iconst (v := 1) (n := 2) dX4_plays_1 (by decide) rfl ?_
  refine p_mo_runs (n := 5) (by decide) in_X4_plays_wsX40 k_X4_plays_25 dX4_plays_2 rfl ?_
  refine r_al0 (n := 6) dX4_plays_5 rfl ?_
  refine r_iconst (v := 0) (n := 7) dX4_plays_6 (by decide) rfl ?_
  refine p_mo_spot (n := 10)  in_X4_plays_wsX40 k_X4_plays_132 dX4_plays_7 rfl ?_
  refine r_al0 (n := 11) dX4_plays_10 rfl ?_
  refine r_iconst (v := 0) (n := 12) dX4_plays_11 (by decide) rfl ?_
  refine p_mo_from (n := 15)  in_X4_plays_wsX40 k_X4_plays_162 dX4_plays_12 rfl ?_
  refine r_al0 (n := 16) dX4_plays_15 rfl ?_
  refine r_iconst (v := 0) (n := 17) dX4_plays_16 (by decide) rfl ?_
  refine p_mo_orders (n := 20)  in_X4_plays_wsX40 k_X4_plays_165 dX4_plays_17 rfl ?_
  refine r_iconst (v := 1) (n := 21) dX4_plays_20 (by decide) rfl ?_
  refine r_is1 (n := 22) (by decide) rfl dX4_plays_21 rfl ?_
  rw [show mput (mput (mput (mput M 9 1 1) 9 3 0) 9 4 0) 9 7 0 = M9 M (M.1 10) (pl0 (M.1 9)) from by rw [← M9_of]; simp only [mput_s, setp_at, setp_2, pl0]]
  exact l_X4_plays h60 h8 hz 60 0 (by omega) (by omega) _ _ hN (by simp (disch := omega) only [pl0, upd_ne, upd_at]) (by simp (disch := omega) only [pl0, upd_ne]; exact ht) (by simp (disch := omega) only [pl0, upd_ne, upd_at]; rfl) rfl rfl

def fltM (r : Int32 × Vec × Vec) (w : Int32) : Int32 := if r.1 = 0 then (if w = 0 then r.2.2 4 else if w = 1 then r.2.2 5 else r.2.2 6) else NF
set_option maxHeartbeats 4000000 in
set_option maxRecDepth 100000 in
theorem m_X4_fault {N : Nat} (hN : M.1 10 0 = nI N) (h8 : N ≤ 8) (hz : ∀ w, onZ 8 (csN w N)) {t : Nat} (ht : M.1 9 2 = nI t) (h60 : t ≤ 60) {w : Int32} : C_X4_fault cA ad D [.ref (ad 4), .int w] M (Ri (if rng w 0 2 = true then fltM (plP M t N) w else IA) (if rng w 0 2 = true then (M9 (setp M 12 (cpN (M.1 12) (M.1 10) 78)) (M.1 10) (upd (plP M t N).2.2 1 0)) else M)) := by
  refine PM_of (lv := [some (.ref (ad 4)), some (.int w), none]) (by decide +kernel) rfl (Nat.le_of_ble_eq_true rfl) rfl ?_
  refine r_il1 (n := 1) dX4_fault_0 rfl ?_
  refine r_iconst (v := 0) (n := 2) dX4_fault_1 (by decide) rfl ?_
  refine r_iconst (v := 2) (n := 3) dX4_fault_2 (by decide) rfl ?_
  refine cS_i (n := 6) (np := 3) (m_X4_in) gX4_fault_X4_in rfl (by decide +kernel) rfl (by decide) (by decide) dX4_fault_3 rfl rfl (Nat.le_of_ble_eq_true rfl) ?_
  refine r_if_ne (tgt := 12) (n := 9) dX4_fault_6 (by decide) rfl (fun c_6 => ?_) (fun c_6 => ?_)
  · replace c_6 := bI_1 c_6
    refine r_al0 (n := 13) dX4_fault_12 rfl ?_
    refine g_mo_s (n := 16)  in_X4_fault_wsX40 k_X4_fault_7 dX4_fault_13 rfl ?_
    refine r_al0 (n := 17) dX4_fault_16 rfl ?_
    refine g_mo_held (n := 20)  in_X4_fault_wsX40 k_X4_fault_16 dX4_fault_17 rfl ?_
    refine cS_v (n := 23) (np := 2) (m_copies_s_held) gX4_fault_X4_copies rfl (by decide +kernel) rfl (by decide) (by decide) dX4_fault_20 rfl rfl (Nat.le_of_ble_eq_true rfl) ?_
    refine r_al0 (n := 24) dX4_fault_23 rfl ?_
    refine cV_i (n := 27) (np := 0) (m_X4_plays (N := N) (t := t) (by rw [setp_ne _ _ (by decide)]; exact hN) h8 hz (by rw [setp_ne _ _ (by decide)]; exact ht) h60) gX4_fault_X4_plays rfl (by decide +kernel) rfl (by decide) (by decide) (by omega) rfl rfl dX4_fault_24 rfl rfl (Nat.le_of_ble_eq_true rfl) ?_
    rw [show plP (setp M 12 (cpN (M.1 12) (M.1 10) 78)) t N = plP M t N from by unfold plP; rw [setp_ne _ _ (by decide), setp_ne _ _ (by decide), setp_ne _ _ (by decide)]]
    refine r_is2 (n := 28) (by decide) rfl dX4_fault_27 rfl ?_
    refine r_al0 (n := 29) dX4_fault_28 rfl ?_
    refine g_mo_held (n := 32)  in_X4_fault_wsX40 k_X4_fault_16 dX4_fault_29 rfl ?_
    refine r_al0 (n := 33) dX4_fault_32 rfl ?_
    refine g_mo_s (n := 36)  in_X4_fault_wsX40 k_X4_fault_7 dX4_fault_33 rfl ?_
    refine cS_v (n := 39) (np := 2) (m_copies_held_s) gX4_fault_X4_copies rfl (by decide +kernel) rfl (by decide) (by decide) dX4_fault_36 rfl rfl (Nat.le_of_ble_eq_true rfl) ?_
    rw [M9_10, M9_q _ _ _ (by decide) (by decide), setp_at, cp_back (w := (plP M t N).2.1) (u := M.1 10) (T := M.1 12) (fun j hj => plF_78 (M.1 14) t h8 hj 60 0 (M.1 10) _ hN), M9_s10]
    refine r_il2 (n := 40) dX4_fault_39 rfl ?_
    refine r_if_eq (tgt := 48) (n := 43) dX4_fault_40 (by decide) rfl (fun c_40 => ?_) (fun c_40 => ?_)
    · refine r_il1 (n := 49) dX4_fault_48 rfl ?_
      refine r_if_ne (tgt := 59) (n := 52) dX4_fault_49 (by decide) rfl (fun c_49 => ?_) (fun c_49 => ?_)
      · refine r_il1 (n := 60) dX4_fault_59 rfl ?_
        refine r_iconst (v := 1) (n := 61) dX4_fault_60 (by decide) rfl ?_
        refine r_icmp_ne (tgt := 71) (n := 64) dX4_fault_61 (by decide) rfl (fun c_61 => ?_) (fun c_61 => ?_)
        · refine r_al0 (n := 72) dX4_fault_71 rfl ?_
          refine g_mo_cause (n := 75)  in_X4_fault_wsX40 k_X4_fault_178 dX4_fault_72 rfl ?_
          exact e_i dX4_fault_75 rfl (by rw [if_pos c_6]; simp (disch := omega) [fltM, M9_9, upd_ne, *]) (by rw [if_pos c_6])
        · refine r_al0 (n := 65) dX4_fault_64 rfl ?_
          refine g_mo_reason (n := 68)  in_X4_fault_wsX40 k_X4_fault_175 dX4_fault_65 rfl ?_
          refine r_goto (tgt := 75) dX4_fault_68 (by decide) ?_
          exact e_i dX4_fault_75 rfl (by rw [if_pos c_6]; simp (disch := omega) [fltM, M9_9, upd_ne, *]) (by rw [if_pos c_6])
      · refine r_al0 (n := 53) dX4_fault_52 rfl ?_
        refine g_mo_from (n := 56)  in_X4_fault_wsX40 k_X4_fault_162 dX4_fault_53 rfl ?_
        refine r_goto (tgt := 75) dX4_fault_56 (by decide) ?_
        exact e_i dX4_fault_75 rfl (by rw [if_pos c_6]; simp (disch := omega) [fltM, M9_9, upd_ne, *]) (by rw [if_pos c_6])
    · refine r_ldc (n := 45) dX4_fault_43 k_X4_fault_109 rfl ?_
      refine r_goto (tgt := 75) dX4_fault_45 (by decide) ?_
      exact e_i dX4_fault_75 rfl (by rw [if_pos c_6]; simp (disch := omega) [fltM, M9_9, upd_ne, *]) (by rw [if_pos c_6])
  · replace c_6 := bI_0 c_6
    refine r_ldc (n := 11) dX4_fault_9 k_X4_fault_57 rfl ?_
    exact e_i dX4_fault_11 rfl (by rw [c_6]; rfl) (by rw [c_6]; rfl)

set_option maxHeartbeats 4000000 in
set_option maxRecDepth 100000 in
theorem m_X4_play {N : Nat} (hN : M.1 10 0 = nI N) (h8 : N ≤ 8) (hz : ∀ w, onZ 8 (csN w N)) {t : Nat} (ht : M.1 9 2 = nI t) (h60 : t ≤ 60) {M3 : Mem} (hch : C_X4_changes cA ad D [.ref (ad 4)] (M9 (setp M 12 (cpN (M.1 12) (M.1 10) 78)) (M.1 10) (upd (plP M t N).2.2 1 0)) (Rv M3)) (h3a : M3.1 10 = M.1 10) (h3b : M3.1 14 = M.1 14) (h3c : M3.1 9 2 = M.1 9 2) : C_X4_play cA ad D [.ref (ad 4)] M (Ri (if (plP M t N).1 = 0 then NP else if (plP M3 t N).1 = 0 then NF else (plP M3 t N).2.2 7) (if (plP M t N).1 = 0 then (M9 (setp M 12 (cpN (M.1 12) (M.1 10) 78)) (M.1 10) (upd (plP M t N).2.2 1 0)) else M9 M3 (plP M3 t N).2.1 (upd (plP M3 t N).2.2 1 0))) := by
  refine PM_of (lv := [some (.ref (ad 4)), none]) (by decide +kernel) rfl (Nat.le_of_ble_eq_true rfl) rfl ?_
  refine r_al0 (n := 1) dX4_play_0 rfl ?_
  refine g_mo_s (n := 4)  in_X4_play_wsX40 k_X4_play_7 dX4_play_1 rfl ?_
  refine r_al0 (n := 5) dX4_play_4 rfl ?_
  refine g_mo_held (n := 8)  in_X4_play_wsX40 k_X4_play_16 dX4_play_5 rfl ?_
  refine cS_v (n := 11) (np := 2) (m_copies_s_held) gX4_play_X4_copies rfl (by decide +kernel) rfl (by decide) (by decide) dX4_play_8 rfl rfl (Nat.le_of_ble_eq_true rfl) ?_
  refine r_al0 (n := 12) dX4_play_11 rfl ?_
  refine cV_i (n := 15) (np := 0) (m_X4_plays (N := N) (t := t) (by rw [setp_ne _ _ (by decide)]; exact hN) h8 hz (by rw [setp_ne _ _ (by decide)]; exact ht) h60) gX4_play_X4_plays rfl (by decide +kernel) rfl (by decide) (by decide) (by omega) rfl rfl dX4_play_12 rfl rfl (Nat.le_of_ble_eq_true rfl) ?_
  rw [show plP (setp M 12 (cpN (M.1 12) (M.1 10) 78)) t N = plP M t N from by unfold plP; rw [setp_ne _ _ (by decide), setp_ne _ _ (by decide), setp_ne _ _ (by decide)]]
  refine r_is1 (n := 16) (by decide) rfl dX4_play_15 rfl ?_
  refine r_al0 (n := 17) dX4_play_16 rfl ?_
  refine g_mo_held (n := 20)  in_X4_play_wsX40 k_X4_play_16 dX4_play_17 rfl ?_
  refine r_al0 (n := 21) dX4_play_20 rfl ?_
  refine g_mo_s (n := 24)  in_X4_play_wsX40 k_X4_play_7 dX4_play_21 rfl ?_
  refine cS_v (n := 27) (np := 2) (m_copies_held_s) gX4_play_X4_copies rfl (by decide +kernel) rfl (by decide) (by decide) dX4_play_24 rfl rfl (Nat.le_of_ble_eq_true rfl) ?_
  rw [M9_10, M9_q _ _ _ (by decide) (by decide), setp_at, cp_back (w := (plP M t N).2.1) (u := M.1 10) (T := M.1 12) (fun j hj => plF_78 (M.1 14) t h8 hj 60 0 (M.1 10) _ hN), M9_s10]
  refine r_il1 (n := 28) dX4_play_27 rfl ?_
  refine r_if_ne (tgt := 34) (n := 31) dX4_play_28 (by decide) rfl (fun c_28 => ?_) (fun c_28 => ?_)
  · refine r_al0 (n := 35) dX4_play_34 rfl ?_
    refine cV_v (n := 38) (np := 0) (hch) gX4_play_X4_changes rfl (by decide +kernel) rfl (by decide) (by decide) (by omega) rfl rfl dX4_play_35 rfl rfl (Nat.le_of_ble_eq_true rfl) ?_
    refine r_al0 (n := 39) dX4_play_38 rfl ?_
    refine cV_i (n := 42) (np := 0) (m_X4_plays (M := M3) (N := N) (t := t) (by rw [h3a]; exact hN) h8 hz (by rw [h3c]; exact ht) h60) gX4_play_X4_plays rfl (by decide +kernel) rfl (by decide) (by decide) (by omega) rfl rfl dX4_play_39 rfl rfl (Nat.le_of_ble_eq_true rfl) ?_
    refine r_if_eq (tgt := 52) (n := 45) dX4_play_42 (by decide) rfl (fun c_42 => ?_) (fun c_42 => ?_)
    · refine r_ldc (n := 54) dX4_play_52 k_X4_play_109 rfl ?_
      exact e_i dX4_play_54 rfl (by simp (disch := omega) [M9_9, upd_ne, *]) (by rw [if_neg c_28])
    · refine r_al0 (n := 46) dX4_play_45 rfl ?_
      refine g_mo_orders (n := 49)  in_X4_play_wsX40 k_X4_play_165 dX4_play_46 rfl ?_
      refine r_goto (tgt := 54) dX4_play_49 (by decide) ?_
      exact e_i dX4_play_54 rfl (by simp (disch := omega) [M9_9, upd_ne, *]) (by rw [if_neg c_28])
  · refine r_ldc (n := 33) dX4_play_31 k_X4_play_71 rfl ?_
    exact e_i dX4_play_33 rfl (by rw [if_pos c_28]) (by rw [if_pos c_28])

end MPLAY
