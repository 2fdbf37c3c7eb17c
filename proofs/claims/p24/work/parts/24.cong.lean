/-! ===== what is answered depends on the smithies that there are alone ===== -/
def AN (N : Nat) (v u : Vec) : Prop := ∀ k, k < 14 + 8 * N → v k = u k
theorem AN.upd {N : Nat} {v u : Vec} (h : AN N v u) (i : Nat) (x : Int32) : AN N (upd v i x) (upd u i x) := by
  intro k hk
  by_cases q : k = i
  · subst q; rw [upd_at, upd_at]
  · rw [upd_ne _ _ q, upd_ne _ _ q]; exact h k hk
theorem AN.rf {N : Nat} (u : Vec) : AN N u u := fun _ _ => rfl
theorem AN.hd {N : Nat} {v u : Vec} (h : AN N v u) (j : Nat) (hj : j < 14) : v j = u j := h j (by omega)
theorem AN.sm {N : Nat} {v u : Vec} (h : AN N v u) {k : Nat} (hk : k < N) (j : Nat) (hj : j < 8) : v (14 + 8 * k + j) = u (14 + 8 * k + j) := h _ (by omega)
theorem AN.sm0 {N : Nat} {v u : Vec} (h : AN N v u) {k : Nat} (hk : k < N) : v (14 + 8 * k) = u (14 + 8 * k) := h _ (by omega)
theorem AN.agr {N : Nat} {v u : Vec} (h : AN N v u) (h8 : N ≤ 8) (hu : u 0 = nI N) : Agr v u := ⟨N, h8, hu, h⟩
section CONG
variable {N : Nat} {v u : Vec}
theorem walkS_c (h : AN N v u) (x : Int32) : (walkS v x).1 = (walkS u x).1 ∧ AN N (walkS v x).2 (walkS u x).2 := by
  unfold walkS
  rw [h.hd 2 (by decide), h.hd 3 (by decide)]
  split
  · exact ⟨rfl, h⟩
  · split
    · split
      · refine ⟨rfl, ?_⟩
        unfold walkU
        rw [h.hd 2 (by decide), h.hd 3 (by decide), h.hd 9 (by decide)]
        exact ((h.upd _ _).upd _ _).upd _ _
      · exact ⟨rfl, h⟩
    · exact ⟨rfl, h⟩
theorem buyS_c (h : AN N v u) (x : Int32) : (buyS v x).1 = (buyS u x).1 ∧ AN N (buyS v x).2 (buyS u x).2 := by
  unfold buyS
  rw [h.hd 2 (by decide), h.hd 4 (by decide)]
  split
  · exact ⟨rfl, h⟩
  · split
    · split
      · split
        · refine ⟨rfl, ?_⟩
          unfold buyU
          rw [h.hd 4 (by decide), h.hd 5 (by decide), h.hd 6 (by decide)]
          exact ((h.upd _ _).upd _ _).upd _ _
        · exact ⟨rfl, h⟩
      · exact ⟨rfl, h⟩
    · exact ⟨rfl, h⟩
theorem leatherOf_c (h : AN N v u) {k : Nat} (hk : k < N) (b : Bool) : leatherOf v k b = leatherOf u k b := by
  unfold leatherOf
  rw [h.sm hk 1 (by decide), h.sm hk 2 (by decide)]
theorem owes_c (h : AN N v u) {k : Nat} (hk : k < N) (b : Bool) : owes v k b = owes u k b := by
  unfold owes
  rw [h.hd 12 (by decide), leatherOf_c h hk]
theorem rsn_c (h : AN N v u) {k : Nat} (hk : k < N) : rsn v k = rsn u k := by
  unfold rsn
  rw [h.sm hk 5 (by decide), h.sm hk 2 (by decide), h.hd 13 (by decide)]
theorem whyNot_c (h : AN N v u) {k : Nat} (hk : k < N) (b : Bool) : whyNot v k b = whyNot u k b := by
  unfold whyNot
  rw [h.sm0 hk, h.hd 2 (by decide), h.hd 3 (by decide), h.hd 4 (by decide), leatherOf_c h hk, rsn_c h hk]
theorem wearBM_c (h : AN N v u) {k : Nat} (hk : k < N) (b : Bool) : wearBM v k b = wearBM u k b := by
  unfold wearBM
  rw [h.sm hk 2 (by decide)]
theorem mendS_c (h : AN N v u) {k : Nat} (hk : k < N) (b : Bool) : (mendS v k b).1 = (mendS u k b).1 ∧ AN N (mendS v k b).2 (mendS u k b).2 := by
  unfold mendS
  rw [whyNot_c h hk]
  split
  · refine ⟨?_, ?_⟩
    · show mendR v k b = mendR u k b
      unfold mendR
      rw [h.sm hk 5 (by decide), owes_c h hk, wearBM_c h hk]
    · show AN N (mendU v k b) (mendU u k b)
      unfold mendU
      rw [h.hd 3 (by decide), h.hd 4 (by decide), h.hd 7 (by decide), leatherOf_c h hk, owes_c h hk, wearBM_c h hk, h.sm hk 5 (by decide), h.sm hk 7 (by decide)]
      exact (((((h.upd _ _).upd _ _).upd _ _).upd _ _).upd _ _).upd _ _
  · exact ⟨rfl, h⟩
theorem mendJ_c (h : AN N v u) (h8 : N ≤ 8) (hu : u 0 = nI N) (j : Int32) (b : Bool) : (mendJ v j b).1 = (mendJ u j b).1 ∧ AN N (mendJ v j b).2 (mendJ u j b).2 := by
  unfold mendJ
  rw [h.hd 0 (by decide)]
  split
  · next q =>
    obtain ⟨k, hk, -, hc⟩ := sm_nI hu h8 q
    rw [hc]
    exact mendS_c h hk b
  · exact ⟨rfl, h⟩
theorem pays_c (h : AN N v u) {k : Nat} (hk : k < N) : pays v k = pays u k := by
  unfold pays
  rw [h.sm hk 3 (by decide), h.sm hk 5 (by decide), h.hd 10 (by decide)]
theorem collJ_c (h : AN N v u) (h8 : N ≤ 8) (hu : u 0 = nI N) (j : Int32) : (collJ v j).1 = (collJ u j).1 ∧ AN N (collJ v j).2 (collJ u j).2 := by
  unfold collJ
  rw [h.hd 0 (by decide)]
  split
  · next q =>
    obtain ⟨k, hk, -, hc⟩ := sm_nI hu h8 q
    rw [hc]
    unfold collS
    rw [h.sm0 hk, h.hd 2 (by decide), h.sm hk 5 (by decide), pays_c h hk]
    split
    · split
      · refine ⟨rfl, ?_⟩
        unfold collU
        rw [h.sm hk 5 (by decide), h.sm hk 6 (by decide), h.hd 5 (by decide), pays_c h hk]
        exact ((h.upd _ _).upd _ _).upd _ _
      · exact ⟨rfl, h⟩
    · exact ⟨rfl, h⟩
  · exact ⟨rfl, h⟩
theorem dayU_c (h : AN N v u) {k : Nat} (hk : k < N) : AN N (dayU v k) (dayU u k) := by
  have hw : dayW v k = dayW u k := by unfold dayW; rw [h.sm hk 2 (by decide), h.sm hk 1 (by decide)]
  have hh : dayH v k = dayH u k := by unfold dayH; rw [h.sm hk 3 (by decide), hw]
  have hc : dayC v k = dayC u k := by unfold dayC; rw [hh, h.hd 10 (by decide), h.sm hk 4 (by decide)]
  unfold dayU
  rw [hw, hh, hc, h.hd 8 (by decide)]
  exact (((h.upd _ _).upd _ _).upd _ _).upd _ _
theorem daysU_c (h : AN N v u) {k : Nat} (hk : k < N) : ∀ d, AN N (daysU v k d) (daysU u k d)
  | 0 => h
  | d + 1 => dayU_c (daysU_c h hk d) hk
theorem allU_c (h : AN N v u) (d : Nat) : ∀ n, n ≤ N → AN N (allU v d n) (allU u d n)
  | 0, _ => h
  | n + 1, hn => daysU_c (allU_c h d n (by omega)) (by omega) d
theorem csN_c (h : AN N v u) : ∀ n, n ≤ N → csN v n = csN u n
  | 0, _ => rfl
  | n + 1, hn => by
    rw [csN, csN, csN_c h n (by omega), h.sm (k := n) (by omega) 3 (by decide), h.hd 10 (by decide)]
theorem sumN_c (h : AN N v u) {j : Nat} (hj : j < 8) : ∀ n, n ≤ N → sumN v j n = sumN u j n
  | 0, _ => rfl
  | n + 1, hn => by
    rw [sumN, sumN, sumN_c h hj n (by omega), h.sm (k := n) (by omega) j hj]
theorem endU_c (h : AN N v u) (d : Nat) : AN N (endU v N d) (endU u N d) := by
  unfold endU
  rw [h.hd 1 (by decide), h.hd 11 (by decide)]
  exact ((allU_c h d N (Nat.le_refl _)).upd _ _).upd _ _
theorem endS_c (h : AN N v u) (x : Int32) : (endS v N x).1 = (endS u N x).1 ∧ AN N (endS v N x).2 (endS u N x).2 := by
  unfold endS
  rw [h.hd 1 (by decide)]
  split
  · exact ⟨rfl, h⟩
  · split
    · split
      · exact ⟨by show bitc _ = bitc _; rw [csN_c (endU_c h _) N (Nat.le_refl _)], endU_c h _⟩
      · exact ⟨rfl, h⟩
    · exact ⟨rfl, h⟩
theorem setS_c (h : AN N v u) (w x : Int32) : (setS v w x).1 = (setS u w x).1 ∧ AN N (setS v w x).2 (setS u w x).2 := by
  unfold setS
  rw [h.hd 10 (by decide), h.hd 11 (by decide), h.hd 12 (by decide), h.hd 13 (by decide)]
  split
  · split
    · exact ⟨rfl, h.upd _ _⟩
    · split
      · exact ⟨rfl, h.upd _ _⟩
      · split
        · exact ⟨rfl, h.upd _ _⟩
        · exact ⟨rfl, h.upd _ _⟩
  · exact ⟨rfl, h⟩
theorem ordS_c (h : AN N v u) (h8 : N ≤ 8) (hu : u 0 = nI N) (c x : Int32) : (ordS v N c x).1 = (ordS u N c x).1 ∧ AN N (ordS v N c x).2 (ordS u N c x).2 := by
  unfold ordS
  split
  · exact walkS_c h x
  · split
    · exact buyS_c h x
    · split
      · exact mendJ_c h h8 hu x _
      · split
        · exact mendJ_c h h8 hu x _
        · split
          · exact collJ_c h h8 hu x
          · exact endS_c h x
/-- a smithy more -/
theorem addS_c (h : AN N v u) (h8 : N ≤ 8) (hu : u 0 = nI N) (x y : Int32) : (addS v N x y).1 = (addS u N x y).1 ∧ Agr (addS v N x y).2 (addS u N x y).2 := by
  unfold addS
  rw [h.hd 0 (by decide)]
  have hA := h.agr h8 hu
  split
  · exact ⟨rfl, hA⟩
  · split
    · exact ⟨rfl, hA⟩
    · split
      · exact ⟨rfl, hA⟩
      · split
        · split
          · next q =>
            rw [hu] at q
            have hlt : N < 8 := (nI_ltI (by omega) (by decide)).mp (show nI N < nI 8 from q)
            refine ⟨rfl, N + 1, by omega, ?_, fun k hk => ?_⟩
            · show addU u N x y 0 = _
              unfold addU
              simp (disch := omega) only [upd_ne, upd_at]
              rw [hu]; exact nI_1 N
            · show addU v N x y k = addU u N x y k
              unfold addU
              rw [h.hd 0 (by decide)]
              by_cases hk2 : k < 14 + 8 * N
              · exact (((((((((h.upd _ _).upd _ _).upd _ _).upd _ _).upd _ _).upd _ _).upd _ _).upd _ _).upd _ _) k hk2
              · have hc : k = 14 + 8 * N ∨ k = 14 + 8 * N + 1 ∨ k = 14 + 8 * N + 2 ∨ k = 14 + 8 * N + 3 ∨ k = 14 + 8 * N + 4 ∨ k = 14 + 8 * N + 5 ∨ k = 14 + 8 * N + 6 ∨ k = 14 + 8 * N + 7 := by omega
                rcases hc with rfl | rfl | rfl | rfl | rfl | rfl | rfl | rfl <;> simp (disch := omega) only [upd_ne, upd_at]
          · exact ⟨rfl, hA⟩
        · exact ⟨rfl, hA⟩
-- what is asked
theorem cda_c (h : AN N v u) {k : Nat} (hk : k < N) : cda v k = cda u k := by
  unfold cda
  rw [h.sm hk 3 (by decide), h.sm hk 1 (by decide), h.sm hk 2 (by decide), h.hd 10 (by decide)]
theorem cbf_c (h : AN N v u) {k i : Nat} (hk : k < N) (hi : i < N) : cbf v k i = cbf u k i := by
  unfold cbf
  rw [cda_c h hk, cda_c h hi, h.sm hk 2 (by decide), h.sm hi 2 (by decide), h.sm0 hk, h.sm0 hi, h.hd 2 (by decide)]
theorem nxo_c (h : AN N v u) : ∀ n, n ≤ N → nxo v n = nxo u n
  | 0, _ => rfl
  | n + 1, hn => by
    rw [nxo, nxo, nxo_c h n (by omega), h.sm (k := n) (by omega) 2 (by decide)]
    cases hq : nxo u n with
    | none => rfl
    | some b =>
      have := nxo_lt u n b hq
      simp only
      rw [cbf_c h (k := n) (i := b) (by omega) (by omega)]
theorem frs_c (h : AN N v u) (s : Int32) : ∀ n, n ≤ N → frs v s n = frs u s n
  | 0, _ => rfl
  | n + 1, hn => by
    rw [frs, frs, frs_c h s n (by omega), h.sm0 (k := n) (by omega)]
theorem Gd_c (h : AN N v u) {P : Int32 → Prop} (hG : Gd u N P) : Gd v N P := by
  intro s hs h0
  rw [frs_c h s N (Nat.le_refl _)]
  exact hG s hs h0
theorem rdC_c (h : AN N v u) (h8 : N ≤ 8) {P : Int32 → Prop} (hG : Gd u N P) : ∀ (m : Nat) (s pl : Int32) (q : Int32 × Int32 × Int32), P s → rdC v N m s pl q = rdC u N m s pl q := by
  intro m
  induction m with
  | zero => intro s pl q hs; rfl
  | succ m ih =>
    intro s pl q hs
    rw [rdC, rdC, frs_c h s N (Nat.le_refl _)]
    by_cases h0 : s = 0
    · rw [if_pos h0, if_pos h0]
    · rw [if_neg h0, if_neg h0]
      obtain ⟨⟨k, hk, hfr⟩, hP⟩ := hG s hs h0
      have hcl : (frs u s N).1.toNatClampNeg = k := by rw [hfr]; exact nI_clamp (by omega)
      rw [hcl, h.sm0 hk, rsn_c h hk, leatherOf_c h hk, owes_c h hk]
      exact ih _ _ _ hP
theorem rndS_c (h : AN N v u) (h8 : N ≤ 8) {P : Int32 → Prop} (hG : Gd u N P) {s : Int32} (hP : ¬ s < 1 → ¬ (1 : Int32) <<< (u 0 &&& 31) ≤ s → P s) (w : Int32) : rndS v N s w = rndS u N s w := by
  unfold rndS
  rw [h.hd 0 (by decide), h.hd 2 (by decide)]
  split
  · rfl
  · next q1 =>
    split
    · rfl
    · next q2 =>
      split
      · rfl
      · split
        · rw [rdC_c h h8 hG 8 s _ _ (hP q1 q2)]
        · rfl
theorem smoS_c (h : AN N v u) {k : Nat} (hk : k < N) (w : Int32) : smoS v k w = smoS u k w := by
  unfold smoS
  rw [h.sm0 hk, h.sm hk 1 (by decide), h.sm hk 2 (by decide), h.sm hk 3 (by decide), h.sm hk 4 (by decide), h.sm hk 5 (by decide), h.sm hk 6 (by decide), h.sm hk 7 (by decide), h.hd 10 (by decide), h.hd 2 (by decide)]
theorem whyS_c (h : AN N v u) {k : Nat} (hk : k < N) (w : Int32) : whyS v k w = whyS u k w := by
  unfold whyS
  rw [whyNot_c h hk, whyNot_c h hk]
theorem mndS_c (h : AN N v u) {k : Nat} (hk : k < N) (w x : Int32) : mndS v k w x = mndS u k w x := by
  unfold mndS mndB
  rw [leatherOf_c h hk, leatherOf_c h hk, owes_c h hk, owes_c h hk, wearBM_c h hk, wearBM_c h hk]
theorem cdiS_c (h : AN N v u) {k : Nat} (hk : k < N) : cdiS v k = cdiS u k := by
  unfold cdiS
  rw [cda_c h hk]
theorem cntS_c (h : AN N v u) (a b w : Int32) : cntS v N a b w = cntS u N a b w := by
  unfold cntS
  rw [h.hd 0 (by decide), h.hd 1 (by decide), h.hd 2 (by decide), h.hd 3 (by decide), h.hd 4 (by decide), h.hd 5 (by decide), h.hd 6 (by decide), h.hd 7 (by decide), h.hd 8 (by decide), h.hd 9 (by decide), h.hd 10 (by decide), h.hd 11 (by decide), h.hd 12 (by decide), h.hd 13 (by decide), csN_c h N (Nat.le_refl _), sumN_c h (by decide) N (Nat.le_refl _)]
end CONG

