/-! ===== the object: changes, texts, against the abstract state ===== -/
section BR3
variable {cA : Nat → ClassId} {ad : Nat → Nat} {D : va_G} {M : Mem}
set_option maxHeartbeats 4000000 in
set_option maxRecDepth 100000 in
theorem c_X3_walk {u : Vec} {h : Nat} {hs : Nat → Vec} {t : Nat} {tx : Vec} (c : CA M u h hs t tx) {v : Int32} : C_X3_walk cA ad D [.ref (ad 0), .int v] M (QR (walkS u v).1 (OpQ M u h hs t tx (walkS u v))) := by
  refine PM_of (lv := [some (.ref (ad 0)), some (.int v)]) (by decide +kernel) rfl (Nat.le_of_ble_eq_true rfl) rfl ?_
  obtain ⟨N, h8, huN, hvN, hk⟩ := c.agr.n
  have hr := c.1.1
  have hp1 := hr 1 (by decide)
  have hp0 := hr 0 (by decide)
  have hpq : M.2 0 ≠ M.2 1 := fun q => absurd (c.1.2 0 1 (by decide) (by decide) q) (by decide)
  have hW : AN N (copyU (M.1 (M.2 1)) (M.1 (M.2 0)) N) u := fun k q => by rw [← hk k q]; simp [copyU, q]
  have hWN : copyU (M.1 (M.2 1)) (M.1 (M.2 0)) N 0 = nI N := (hW 0 (by omega)).trans huN
  refine r_al0 (n := 1) dX3_walk_0 rfl ?_
  refine g_br_trial (n := 4)  in_X3_walk_wsX30 k_X3_walk_16 dX3_walk_1 rfl ?_
  refine r_al0 (n := 5) dX3_walk_4 rfl ?_
  refine g_br_now (n := 8)  in_X3_walk_wsX30 k_X3_walk_12 dX3_walk_5 rfl ?_
  refine cV_v (n := 11) (np := 1) (m_X2_copyFrom hp1 hp0 hpq hvN h8) gX3_walk_X2_copyFrom rfl (by decide +kernel) rfl (by decide) (by decide) (by omega) (cell_st cA ad _ hp1) rfl dX3_walk_8 rfl rfl (Nat.le_of_ble_eq_true rfl) ?_
  refine r_al0 (n := 12) dX3_walk_11 rfl ?_
  refine r_al0 (n := 13) dX3_walk_12 rfl ?_
  refine g_br_trial (n := 16)  in_X3_walk_wsX30 k_X3_walk_16 dX3_walk_13 rfl ?_
  rw [setp_r]
  refine r_il1 (n := 17) dX3_walk_16 rfl ?_
  refine cV_i (n := 20) (np := 1) (m_X2_walkTo hp1) gX3_walk_X2_walkTo rfl (by decide +kernel) rfl (by decide) (by decide) (by omega) (cell_st cA ad _ hp1) rfl dX3_walk_17 rfl rfl (Nat.le_of_ble_eq_true rfl) ?_
  simp only [setp_at, setp_2]
  have hS := walkS_c hW v
  rw [hS.1]
  refine cV_q (n := 23) (np := 1) (commit_rel (u' := (walkS u v).2) (c.trial _) (by rw [setp_r, setp_at]; exact hS.2.agr h8 (by rw [walkS_0]; exact huN))) gX3_walk_X3_commit rfl (by decide +kernel) rfl (by decide) (by decide) (by omega) rfl rfl dX3_walk_20 rfl rfl (Nat.le_of_ble_eq_true rfl) (fun M' hM' => ?_)
  exact e_q dX3_walk_23 rfl rfl ⟨(FC.set (by omega) _).tr hM'.1, hM'.2⟩

set_option maxHeartbeats 4000000 in
set_option maxRecDepth 100000 in
theorem c_X3_buy {u : Vec} {h : Nat} {hs : Nat → Vec} {t : Nat} {tx : Vec} (c : CA M u h hs t tx) {v : Int32} : C_X3_buy cA ad D [.ref (ad 0), .int v] M (QR (buyS u v).1 (OpQ M u h hs t tx (buyS u v))) := by
  refine PM_of (lv := [some (.ref (ad 0)), some (.int v)]) (by decide +kernel) rfl (Nat.le_of_ble_eq_true rfl) rfl ?_
  obtain ⟨N, h8, huN, hvN, hk⟩ := c.agr.n
  have hr := c.1.1
  have hp1 := hr 1 (by decide)
  have hp0 := hr 0 (by decide)
  have hpq : M.2 0 ≠ M.2 1 := fun q => absurd (c.1.2 0 1 (by decide) (by decide) q) (by decide)
  have hW : AN N (copyU (M.1 (M.2 1)) (M.1 (M.2 0)) N) u := fun k q => by rw [← hk k q]; simp [copyU, q]
  have hWN : copyU (M.1 (M.2 1)) (M.1 (M.2 0)) N 0 = nI N := (hW 0 (by omega)).trans huN
  refine r_al0 (n := 1) dX3_buy_0 rfl ?_
  refine g_br_trial (n := 4)  in_X3_buy_wsX30 k_X3_buy_16 dX3_buy_1 rfl ?_
  refine r_al0 (n := 5) dX3_buy_4 rfl ?_
  refine g_br_now (n := 8)  in_X3_buy_wsX30 k_X3_buy_12 dX3_buy_5 rfl ?_
  refine cV_v (n := 11) (np := 1) (m_X2_copyFrom hp1 hp0 hpq hvN h8) gX3_buy_X2_copyFrom rfl (by decide +kernel) rfl (by decide) (by decide) (by omega) (cell_st cA ad _ hp1) rfl dX3_buy_8 rfl rfl (Nat.le_of_ble_eq_true rfl) ?_
  refine r_al0 (n := 12) dX3_buy_11 rfl ?_
  refine r_al0 (n := 13) dX3_buy_12 rfl ?_
  refine g_br_trial (n := 16)  in_X3_buy_wsX30 k_X3_buy_16 dX3_buy_13 rfl ?_
  rw [setp_r]
  refine r_il1 (n := 17) dX3_buy_16 rfl ?_
  refine cV_i (n := 20) (np := 1) (m_X2_buyLeather hp1) gX3_buy_X2_buyLeather rfl (by decide +kernel) rfl (by decide) (by decide) (by omega) (cell_st cA ad _ hp1) rfl dX3_buy_17 rfl rfl (Nat.le_of_ble_eq_true rfl) ?_
  simp only [setp_at, setp_2]
  have hS := buyS_c hW v
  rw [hS.1]
  refine cV_q (n := 23) (np := 1) (commit_rel (u' := (buyS u v).2) (c.trial _) (by rw [setp_r, setp_at]; exact hS.2.agr h8 (by rw [buyS_0]; exact huN))) gX3_buy_X3_commit rfl (by decide +kernel) rfl (by decide) (by decide) (by omega) rfl rfl dX3_buy_20 rfl rfl (Nat.le_of_ble_eq_true rfl) (fun M' hM' => ?_)
  exact e_q dX3_buy_23 rfl rfl ⟨(FC.set (by omega) _).tr hM'.1, hM'.2⟩

set_option maxHeartbeats 4000000 in
set_option maxRecDepth 100000 in
theorem c_X3_patch {u : Vec} {h : Nat} {hs : Nat → Vec} {t : Nat} {tx : Vec} (c : CA M u h hs t tx) {v : Int32} : C_X3_patch cA ad D [.ref (ad 0), .int v] M (QR (mendJ u v false).1 (OpQ M u h hs t tx (mendJ u v false))) := by
  refine PM_of (lv := [some (.ref (ad 0)), some (.int v)]) (by decide +kernel) rfl (Nat.le_of_ble_eq_true rfl) rfl ?_
  obtain ⟨N, h8, huN, hvN, hk⟩ := c.agr.n
  have hr := c.1.1
  have hp1 := hr 1 (by decide)
  have hp0 := hr 0 (by decide)
  have hpq : M.2 0 ≠ M.2 1 := fun q => absurd (c.1.2 0 1 (by decide) (by decide) q) (by decide)
  have hW : AN N (copyU (M.1 (M.2 1)) (M.1 (M.2 0)) N) u := fun k q => by rw [← hk k q]; simp [copyU, q]
  have hWN : copyU (M.1 (M.2 1)) (M.1 (M.2 0)) N 0 = nI N := (hW 0 (by omega)).trans huN
  refine r_al0 (n := 1) dX3_patch_0 rfl ?_
  refine g_br_trial (n := 4)  in_X3_patch_wsX30 k_X3_patch_16 dX3_patch_1 rfl ?_
  refine r_al0 (n := 5) dX3_patch_4 rfl ?_
  refine g_br_now (n := 8)  in_X3_patch_wsX30 k_X3_patch_12 dX3_patch_5 rfl ?_
  refine cV_v (n := 11) (np := 1) (m_X2_copyFrom hp1 hp0 hpq hvN h8) gX3_patch_X2_copyFrom rfl (by decide +kernel) rfl (by decide) (by decide) (by omega) (cell_st cA ad _ hp1) rfl dX3_patch_8 rfl rfl (Nat.le_of_ble_eq_true rfl) ?_
  refine r_al0 (n := 12) dX3_patch_11 rfl ?_
  refine r_al0 (n := 13) dX3_patch_12 rfl ?_
  refine g_br_trial (n := 16)  in_X3_patch_wsX30 k_X3_patch_16 dX3_patch_13 rfl ?_
  rw [setp_r]
  refine r_il1 (n := 17) dX3_patch_16 rfl ?_
  refine r_iconst (v := 0) (n := 18) dX3_patch_17 (by decide) rfl ?_
  refine cV_i (n := 21) (np := 2) (m_X2_mendBellows hp1 (N := N) (by rw [setp_at]; exact hWN) h8 false) gX3_patch_X2_mendBellows rfl (by decide +kernel) rfl (by decide) (by decide) (by omega) (cell_st cA ad _ hp1) rfl dX3_patch_18 rfl rfl (Nat.le_of_ble_eq_true rfl) ?_
  simp only [setp_at, setp_2]
  have hS := mendJ_c hW h8 huN v false
  rw [hS.1]
  refine cV_q (n := 24) (np := 1) (commit_rel (u' := (mendJ u v false).2) (c.trial _) (by rw [setp_r, setp_at]; exact hS.2.agr h8 (by rw [mendJ_0]; exact huN))) gX3_patch_X3_commit rfl (by decide +kernel) rfl (by decide) (by decide) (by omega) rfl rfl dX3_patch_21 rfl rfl (Nat.le_of_ble_eq_true rfl) (fun M' hM' => ?_)
  exact e_q dX3_patch_24 rfl rfl ⟨(FC.set (by omega) _).tr hM'.1, hM'.2⟩

set_option maxHeartbeats 4000000 in
set_option maxRecDepth 100000 in
theorem c_X3_hide {u : Vec} {h : Nat} {hs : Nat → Vec} {t : Nat} {tx : Vec} (c : CA M u h hs t tx) {v : Int32} : C_X3_hide cA ad D [.ref (ad 0), .int v] M (QR (mendJ u v true).1 (OpQ M u h hs t tx (mendJ u v true))) := by
  refine PM_of (lv := [some (.ref (ad 0)), some (.int v)]) (by decide +kernel) rfl (Nat.le_of_ble_eq_true rfl) rfl ?_
  obtain ⟨N, h8, huN, hvN, hk⟩ := c.agr.n
  have hr := c.1.1
  have hp1 := hr 1 (by decide)
  have hp0 := hr 0 (by decide)
  have hpq : M.2 0 ≠ M.2 1 := fun q => absurd (c.1.2 0 1 (by decide) (by decide) q) (by decide)
  have hW : AN N (copyU (M.1 (M.2 1)) (M.1 (M.2 0)) N) u := fun k q => by rw [← hk k q]; simp [copyU, q]
  have hWN : copyU (M.1 (M.2 1)) (M.1 (M.2 0)) N 0 = nI N := (hW 0 (by omega)).trans huN
  refine r_al0 (n := 1) dX3_hide_0 rfl ?_
  refine g_br_trial (n := 4)  in_X3_hide_wsX30 k_X3_hide_16 dX3_hide_1 rfl ?_
  refine r_al0 (n := 5) dX3_hide_4 rfl ?_
  refine g_br_now (n := 8)  in_X3_hide_wsX30 k_X3_hide_12 dX3_hide_5 rfl ?_
  refine cV_v (n := 11) (np := 1) (m_X2_copyFrom hp1 hp0 hpq hvN h8) gX3_hide_X2_copyFrom rfl (by decide +kernel) rfl (by decide) (by decide) (by omega) (cell_st cA ad _ hp1) rfl dX3_hide_8 rfl rfl (Nat.le_of_ble_eq_true rfl) ?_
  refine r_al0 (n := 12) dX3_hide_11 rfl ?_
  refine r_al0 (n := 13) dX3_hide_12 rfl ?_
  refine g_br_trial (n := 16)  in_X3_hide_wsX30 k_X3_hide_16 dX3_hide_13 rfl ?_
  rw [setp_r]
  refine r_il1 (n := 17) dX3_hide_16 rfl ?_
  refine r_iconst (v := 1) (n := 18) dX3_hide_17 (by decide) rfl ?_
  refine cV_i (n := 21) (np := 2) (m_X2_mendBellows hp1 (N := N) (by rw [setp_at]; exact hWN) h8 true) gX3_hide_X2_mendBellows rfl (by decide +kernel) rfl (by decide) (by decide) (by omega) (cell_st cA ad _ hp1) rfl dX3_hide_18 rfl rfl (Nat.le_of_ble_eq_true rfl) ?_
  simp only [setp_at, setp_2]
  have hS := mendJ_c hW h8 huN v true
  rw [hS.1]
  refine cV_q (n := 24) (np := 1) (commit_rel (u' := (mendJ u v true).2) (c.trial _) (by rw [setp_r, setp_at]; exact hS.2.agr h8 (by rw [mendJ_0]; exact huN))) gX3_hide_X3_commit rfl (by decide +kernel) rfl (by decide) (by decide) (by omega) rfl rfl dX3_hide_21 rfl rfl (Nat.le_of_ble_eq_true rfl) (fun M' hM' => ?_)
  exact e_q dX3_hide_24 rfl rfl ⟨(FC.set (by omega) _).tr hM'.1, hM'.2⟩

set_option maxHeartbeats 4000000 in
set_option maxRecDepth 100000 in
theorem c_X3_collect {u : Vec} {h : Nat} {hs : Nat → Vec} {t : Nat} {tx : Vec} (c : CA M u h hs t tx) {v : Int32} : C_X3_collect cA ad D [.ref (ad 0), .int v] M (QR (collJ u v).1 (OpQ M u h hs t tx (collJ u v))) := by
  refine PM_of (lv := [some (.ref (ad 0)), some (.int v)]) (by decide +kernel) rfl (Nat.le_of_ble_eq_true rfl) rfl ?_
  obtain ⟨N, h8, huN, hvN, hk⟩ := c.agr.n
  have hr := c.1.1
  have hp1 := hr 1 (by decide)
  have hp0 := hr 0 (by decide)
  have hpq : M.2 0 ≠ M.2 1 := fun q => absurd (c.1.2 0 1 (by decide) (by decide) q) (by decide)
  have hW : AN N (copyU (M.1 (M.2 1)) (M.1 (M.2 0)) N) u := fun k q => by rw [← hk k q]; simp [copyU, q]
  have hWN : copyU (M.1 (M.2 1)) (M.1 (M.2 0)) N 0 = nI N := (hW 0 (by omega)).trans huN
  refine r_al0 (n := 1) dX3_collect_0 rfl ?_
  refine g_br_trial (n := 4)  in_X3_collect_wsX30 k_X3_collect_16 dX3_collect_1 rfl ?_
  refine r_al0 (n := 5) dX3_collect_4 rfl ?_
  refine g_br_now (n := 8)  in_X3_collect_wsX30 k_X3_collect_12 dX3_collect_5 rfl ?_
  refine cV_v (n := 11) (np := 1) (m_X2_copyFrom hp1 hp0 hpq hvN h8) gX3_collect_X2_copyFrom rfl (by decide +kernel) rfl (by decide) (by decide) (by omega) (cell_st cA ad _ hp1) rfl dX3_collect_8 rfl rfl (Nat.le_of_ble_eq_true rfl) ?_
  refine r_al0 (n := 12) dX3_collect_11 rfl ?_
  refine r_al0 (n := 13) dX3_collect_12 rfl ?_
  refine g_br_trial (n := 16)  in_X3_collect_wsX30 k_X3_collect_16 dX3_collect_13 rfl ?_
  rw [setp_r]
  refine r_il1 (n := 17) dX3_collect_16 rfl ?_
  refine cV_i (n := 20) (np := 1) (m_X2_collectDebt hp1 (N := N) (by rw [setp_at]; exact hWN) h8) gX3_collect_X2_collectDebt rfl (by decide +kernel) rfl (by decide) (by decide) (by omega) (cell_st cA ad _ hp1) rfl dX3_collect_17 rfl rfl (Nat.le_of_ble_eq_true rfl) ?_
  simp only [setp_at, setp_2]
  have hS := collJ_c hW h8 huN v
  rw [hS.1]
  refine cV_q (n := 23) (np := 1) (commit_rel (u' := (collJ u v).2) (c.trial _) (by rw [setp_r, setp_at]; exact hS.2.agr h8 (by rw [collJ_0]; exact huN))) gX3_collect_X3_commit rfl (by decide +kernel) rfl (by decide) (by decide) (by omega) rfl rfl dX3_collect_20 rfl rfl (Nat.le_of_ble_eq_true rfl) (fun M' hM' => ?_)
  exact e_q dX3_collect_23 rfl rfl ⟨(FC.set (by omega) _).tr hM'.1, hM'.2⟩

theorem cntN {u : Vec} {N N' : Nat} (h : u 0 = nI N) (h' : u 0 = nI N') (a : N ≤ 8) (b : N' ≤ 8) : N = N' := nI_un a b (h.symm.trans h')

set_option maxHeartbeats 4000000 in
set_option maxRecDepth 100000 in
theorem c_X3_end {u : Vec} {h : Nat} {hs : Nat → Vec} {t : Nat} {tx : Vec} (c : CA M u h hs t tx) {N : Nat} (huN : u 0 = nI N) (h8 : N ≤ 8) {v : Int32} : C_X3_end cA ad D [.ref (ad 0), .int v] M (QR (endS u N v).1 (OpQ M u h hs t tx (endS u N v))) := by
  refine PM_of (lv := [some (.ref (ad 0)), some (.int v)]) (by decide +kernel) rfl (Nat.le_of_ble_eq_true rfl) rfl ?_
  obtain ⟨N', h8', huN', hvN', hk'⟩ := c.agr.n
  have hNN := cntN huN huN' h8 h8'
  subst hNN
  have hvN := hvN'
  have hk := hk'
  have hr := c.1.1
  have hp1 := hr 1 (by decide)
  have hp0 := hr 0 (by decide)
  have hpq : M.2 0 ≠ M.2 1 := fun q => absurd (c.1.2 0 1 (by decide) (by decide) q) (by decide)
  have hW : AN N (copyU (M.1 (M.2 1)) (M.1 (M.2 0)) N) u := fun k q => by rw [← hk k q]; simp [copyU, q]
  have hWN : copyU (M.1 (M.2 1)) (M.1 (M.2 0)) N 0 = nI N := (hW 0 (by omega)).trans huN
  refine r_al0 (n := 1) dX3_end_0 rfl ?_
  refine g_br_trial (n := 4)  in_X3_end_wsX30 k_X3_end_16 dX3_end_1 rfl ?_
  refine r_al0 (n := 5) dX3_end_4 rfl ?_
  refine g_br_now (n := 8)  in_X3_end_wsX30 k_X3_end_12 dX3_end_5 rfl ?_
  refine cV_v (n := 11) (np := 1) (m_X2_copyFrom hp1 hp0 hpq hvN h8) gX3_end_X2_copyFrom rfl (by decide +kernel) rfl (by decide) (by decide) (by omega) (cell_st cA ad _ hp1) rfl dX3_end_8 rfl rfl (Nat.le_of_ble_eq_true rfl) ?_
  refine r_al0 (n := 12) dX3_end_11 rfl ?_
  refine r_al0 (n := 13) dX3_end_12 rfl ?_
  refine g_br_trial (n := 16)  in_X3_end_wsX30 k_X3_end_16 dX3_end_13 rfl ?_
  rw [setp_r]
  refine r_il1 (n := 17) dX3_end_16 rfl ?_
  refine cV_i (n := 20) (np := 1) (m_X2_endDays hp1 (N := N) (by rw [setp_at]; exact hWN) h8) gX3_end_X2_endDays rfl (by decide +kernel) rfl (by decide) (by decide) (by omega) (cell_st cA ad _ hp1) rfl dX3_end_17 rfl rfl (Nat.le_of_ble_eq_true rfl) ?_
  simp only [setp_at, setp_2]
  have hS := endS_c hW v
  rw [hS.1]
  refine cV_q (n := 23) (np := 1) (commit_rel (u' := (endS u N v).2) (c.trial _) (by rw [setp_r, setp_at]; exact hS.2.agr h8 (by rw [endS_0]; exact huN))) gX3_end_X3_commit rfl (by decide +kernel) rfl (by decide) (by decide) (by omega) rfl rfl dX3_end_20 rfl rfl (Nat.le_of_ble_eq_true rfl) (fun M' hM' => ?_)
  exact e_q dX3_end_23 rfl rfl ⟨(FC.set (by omega) _).tr hM'.1, hM'.2⟩

set_option maxHeartbeats 4000000 in
set_option maxRecDepth 100000 in
theorem c_X3_set {u : Vec} {h : Nat} {hs : Nat → Vec} {t : Nat} {tx : Vec} (c : CA M u h hs t tx) {w v : Int32} : C_X3_set cA ad D [.ref (ad 0), .int w, .int v] M (QR (setS u w v).1 (OpQ M u h hs t tx (setS u w v))) := by
  refine PM_of (lv := [some (.ref (ad 0)), some (.int w), some (.int v)]) (by decide +kernel) rfl (Nat.le_of_ble_eq_true rfl) rfl ?_
  obtain ⟨N, h8, huN, hvN, hk⟩ := c.agr.n
  have hr := c.1.1
  have hp1 := hr 1 (by decide)
  have hp0 := hr 0 (by decide)
  have hpq : M.2 0 ≠ M.2 1 := fun q => absurd (c.1.2 0 1 (by decide) (by decide) q) (by decide)
  have hW : AN N (copyU (M.1 (M.2 1)) (M.1 (M.2 0)) N) u := fun k q => by rw [← hk k q]; simp [copyU, q]
  have hWN : copyU (M.1 (M.2 1)) (M.1 (M.2 0)) N 0 = nI N := (hW 0 (by omega)).trans huN
  refine r_al0 (n := 1) dX3_set_0 rfl ?_
  refine g_br_trial (n := 4)  in_X3_set_wsX30 k_X3_set_16 dX3_set_1 rfl ?_
  refine r_al0 (n := 5) dX3_set_4 rfl ?_
  refine g_br_now (n := 8)  in_X3_set_wsX30 k_X3_set_12 dX3_set_5 rfl ?_
  refine cV_v (n := 11) (np := 1) (m_X2_copyFrom hp1 hp0 hpq hvN h8) gX3_set_X2_copyFrom rfl (by decide +kernel) rfl (by decide) (by decide) (by omega) (cell_st cA ad _ hp1) rfl dX3_set_8 rfl rfl (Nat.le_of_ble_eq_true rfl) ?_
  refine r_al0 (n := 12) dX3_set_11 rfl ?_
  refine r_al0 (n := 13) dX3_set_12 rfl ?_
  refine g_br_trial (n := 16)  in_X3_set_wsX30 k_X3_set_16 dX3_set_13 rfl ?_
  rw [setp_r]
  refine r_il1 (n := 17) dX3_set_16 rfl ?_
  refine r_il2 (n := 18) dX3_set_17 rfl ?_
  refine cV_i (n := 21) (np := 2) (m_X2_changeSetting hp1) gX3_set_X2_changeSetting rfl (by decide +kernel) rfl (by decide) (by decide) (by omega) (cell_st cA ad _ hp1) rfl dX3_set_18 rfl rfl (Nat.le_of_ble_eq_true rfl) ?_
  simp only [setp_at, setp_2]
  have hS := setS_c hW w v
  rw [hS.1]
  refine cV_q (n := 24) (np := 1) (commit_rel (u' := (setS u w v).2) (c.trial _) (by rw [setp_r, setp_at]; exact hS.2.agr h8 (by rw [setS_0]; exact huN))) gX3_set_X3_commit rfl (by decide +kernel) rfl (by decide) (by decide) (by omega) rfl rfl dX3_set_21 rfl rfl (Nat.le_of_ble_eq_true rfl) (fun M' hM' => ?_)
  exact e_q dX3_set_24 rfl rfl ⟨(FC.set (by omega) _).tr hM'.1, hM'.2⟩

set_option maxHeartbeats 4000000 in
set_option maxRecDepth 100000 in
theorem c_X3_smithy {u : Vec} {h : Nat} {hs : Nat → Vec} {t : Nat} {tx : Vec} (c : CA M u h hs t tx) {N : Nat} (huN : u 0 = nI N) (h8 : N ≤ 8) {w v : Int32} : C_X3_smithy cA ad D [.ref (ad 0), .int w, .int v] M (QR (addS u N w v).1 (OpQ M u h hs t tx (addS u N w v))) := by
  refine PM_of (lv := [some (.ref (ad 0)), some (.int w), some (.int v)]) (by decide +kernel) rfl (Nat.le_of_ble_eq_true rfl) rfl ?_
  obtain ⟨N', h8', huN', hvN', hk'⟩ := c.agr.n
  have hNN := cntN huN huN' h8 h8'
  subst hNN
  have hvN := hvN'
  have hk := hk'
  have hr := c.1.1
  have hp1 := hr 1 (by decide)
  have hp0 := hr 0 (by decide)
  have hpq : M.2 0 ≠ M.2 1 := fun q => absurd (c.1.2 0 1 (by decide) (by decide) q) (by decide)
  have hW : AN N (copyU (M.1 (M.2 1)) (M.1 (M.2 0)) N) u := fun k q => by rw [← hk k q]; simp [copyU, q]
  have hWN : copyU (M.1 (M.2 1)) (M.1 (M.2 0)) N 0 = nI N := (hW 0 (by omega)).trans huN
  refine r_al0 (n := 1) dX3_smithy_0 rfl ?_
  refine g_br_trial (n := 4)  in_X3_smithy_wsX30 k_X3_smithy_16 dX3_smithy_1 rfl ?_
  refine r_al0 (n := 5) dX3_smithy_4 rfl ?_
  refine g_br_now (n := 8)  in_X3_smithy_wsX30 k_X3_smithy_12 dX3_smithy_5 rfl ?_
  refine cV_v (n := 11) (np := 1) (m_X2_copyFrom hp1 hp0 hpq hvN h8) gX3_smithy_X2_copyFrom rfl (by decide +kernel) rfl (by decide) (by decide) (by omega) (cell_st cA ad _ hp1) rfl dX3_smithy_8 rfl rfl (Nat.le_of_ble_eq_true rfl) ?_
  refine r_al0 (n := 12) dX3_smithy_11 rfl ?_
  refine r_al0 (n := 13) dX3_smithy_12 rfl ?_
  refine g_br_trial (n := 16)  in_X3_smithy_wsX30 k_X3_smithy_16 dX3_smithy_13 rfl ?_
  rw [setp_r]
  refine r_il1 (n := 17) dX3_smithy_16 rfl ?_
  refine r_il2 (n := 18) dX3_smithy_17 rfl ?_
  refine cV_i (n := 21) (np := 2) (m_X2_addSmithy hp1 (N := N) (by rw [setp_at]; exact hWN) h8) gX3_smithy_X2_addSmithy rfl (by decide +kernel) rfl (by decide) (by decide) (by omega) (cell_st cA ad _ hp1) rfl dX3_smithy_18 rfl rfl (Nat.le_of_ble_eq_true rfl) ?_
  simp only [setp_at, setp_2]
  have hS := addS_c hW h8 huN w v
  rw [hS.1]
  refine cV_q (n := 24) (np := 1) (commit_rel (u' := (addS u N w v).2) (c.trial _) (by rw [setp_r, setp_at]; exact hS.2)) gX3_smithy_X3_commit rfl (by decide +kernel) rfl (by decide) (by decide) (by omega) rfl rfl dX3_smithy_21 rfl rfl (Nat.le_of_ble_eq_true rfl) (fun M' hM' => ?_)
  exact e_q dX3_smithy_24 rfl rfl ⟨(FC.set (by omega) _).tr hM'.1, hM'.2⟩

def UndoQ (M : Mem) (u : Vec) (h : Nat) (hs : Nat → Vec) (t : Nat) (tx : Vec) : Mem → Prop := fun M' => FC M M' ∧ if h = 0 then CA M' u h hs t tx else CA M' (hs (h - 1)) (h - 1) hs t tx
theorem undo_ca {u : Vec} {h : Nat} {hs : Nat → Vec} {t : Nat} {tx : Vec} (c : CA M u h hs t tx) (h0 : ¬ h = 0) {N : Nat} (h8 : N ≤ 8) (hN : M.1 (M.2 (2 + (h - 1))) 0 = nI N) : UndoQ M u h hs t tx (mput (setp M (M.2 0) (copyU (M.1 (M.2 0)) (M.1 (M.2 (2 + (h - 1)))) N)) 8 0 (nI (h - 1))) := by
  obtain ⟨hP, hh, h4, hu, hi, ht, h60, hx⟩ := c
  have hp0 := hP.1 0 (by decide)
  have ne : ∀ i, i < 6 → i ≠ 0 → M.2 i ≠ M.2 0 := fun i hi hn q => hn (hP.2 i 0 hi (by decide) q)
  refine ⟨fun q hq => by rw [mput_ne (by omega), setp_ne _ _ (by omega)], ?_⟩
  rw [if_neg h0]
  refine ⟨hP, mput_at, by omega, ?_, fun i q => ?_, ?_, h60, fun i q => ?_⟩
  · show Agr ((mput (setp M (M.2 0) _) 8 0 _).1 (M.2 0)) _
    rw [mput_ne (by omega), setp_at]
    exact (hi (h - 1) (by omega)).copy _ h8 hN
  · show Agr ((mput (setp M (M.2 0) _) 8 0 _).1 (M.2 (2 + i))) _
    have := hP.1 (2 + i) (by omega)
    rw [mput_ne (by omega), setp_ne _ _ (ne (2 + i) (by omega) (by omega))]
    exact hi i (by omega)
  · rw [mput_ne (by decide), setp_ne _ _ (by omega)]; exact ht
  · rw [mput_ne (by decide), setp_ne _ _ (by omega)]; exact hx i q

def TypQ (M : Mem) (u : Vec) (h : Nat) (hs : Nat → Vec) (t : Nat) (tx : Vec) : Mem → Prop := fun M' => FC M M' ∧ CA M' u h hs t tx
theorem typ_ca {u : Vec} {h : Nat} {hs : Nat → Vec} {t : Nat} {tx : Vec} (c : CA M u h hs t tx) (hlt : t < 60) (v : Int32) : TypQ M u h hs (t + 1) (upd tx t v) (mput (mput M 7 t v) 6 0 (nI (t + 1))) := by
  obtain ⟨hP, hh, h4, hu, hi, ht, h60, hx⟩ := c
  refine ⟨fun q hq => by rw [mput_ne (by omega), mput_ne (by omega)], hP, ?_, h4, ?_, fun i q => ?_, mput_at, by omega, fun i q => ?_⟩
  · rw [mput_ne (by decide), mput_ne (by decide)]; exact hh
  · show Agr ((mput (mput M 7 t v) 6 0 _).1 (M.2 0)) _
    have := hP.1 0 (by decide)
    rw [mput_ne (by omega), mput_ne (by omega)]; exact hu
  · show Agr ((mput (mput M 7 t v) 6 0 _).1 (M.2 (2 + i))) _
    have := hP.1 (2 + i) (by omega)
    rw [mput_ne (by omega), mput_ne (by omega)]; exact hi i q
  · rw [mput_ne (by decide), mput_eq]
    by_cases e : i = t
    · subst e; rw [upd_at, upd_at]
    · rw [upd_ne _ _ e, upd_ne _ _ e]; exact hx i (by omega)

end BR3

