/-! ===== the start: both objects stand; their cells are the memory's ===== -/
theorem arrV_below {cI : ClassId} {N : Nat} {f g : Nat → Value} (h : ∀ j, j < N → f j = g j) : arrV cI N f = arrV cI N g := by
  unfold arrV
  congr 2
  funext j
  exact h j.val j.isLt
def smA (u : TS) (j : Nat) : Nat := (F8 u j).getD 0
def adS (h0 : Nat) (sa : Nat → Nat) (us : Nat → TS) (hi ot ch r1 r2 : Nat) (i : Nat) : Nat :=
  if i = 0 then h0 else if i = 1 then ot else if i = 2 then ch else if i = 3 then hi else if i = 4 then r1 else if i = 5 then r2
  else if (i - 6) % 10 = 0 then sa ((i - 6) / 10) else if (i - 6) % 10 = 1 then (us ((i - 6) / 10)).1 else smA (us ((i - 6) / 10)) ((i - 6) % 10 - 2)
def piS (i : Nat) : Nat := if i = 0 then 0 else if i = 1 then 22 else if i = 2 then 23 else if i = 3 then 21 else if i < 6 then i + 60 else if i < 26 then i - 5 else i - 2
theorem piS_inj {i j : Nat} (hi : i < 66) (hj : j < 66) (h : piS i = piS j) : i = j := by
  unfold piS at h
  repeat' split at h
  all_goals omega
def M00 : Mem := (fun p => if p < 6 then st0 else fun _ => 0, fun i => i)
abbrev hisF (sa : Nat → Nat) : Nat → Option Nat := va_up (va_up (va_up (va_up (fun _ => none) 0 (some (sa 2))) 1 (some (sa 3))) 2 (some (sa 4))) 3 (some (sa 5))
abbrev WS3 (h0 : Nat) (sa : Nat → Nat) (us : Nat → TS) (hi : Nat) (hc : ClassId) (ot ch : Nat) (cc : ClassId) : va_W :=
  (h0, .inr (3, z3 (.ref (sa 0)) (.ref (sa 1)) (.ref hi) (.ref ot))) :: (bS (sa 0) (us 0) ++ (bS (sa 1) (us 1) ++ ([(hi, .inl (hc, 4, .inr (.inr (.inr (.inr (hisF sa)))))), (ot, .inr (0, z0 (.ref ch))), (ch, .inl (cc, 60, .inl (fun _ => 0)))] ++ (bS (sa 2) (us 2) ++ (bS (sa 3) (us 3) ++ (bS (sa 4) (us 4) ++ bS (sa 5) (us 5)))))))
abbrev WS4 (r1 r2 : Nat) (c1 c2 : ClassId) : va_W := [(r1, .inl (c1, 14, .inl (fun _ => 0))), (r2, .inl (c2, 64, .inl (fun _ => 0)))]
def cAS (cc c1 cs hc : ClassId) (i : Nat) : ClassId := if i = 0 then cc else if i = 1 then c1 else if i = 2 then cs else hc
def EES (cA : Nat → ClassId) (ad : Nat → Nat) (sa : Nat → Nat) (us : Nat → TS) (i : Nat) : va_E :=
  if i = 3 then .inl (cA 3, 4, .inr (.inr (.inr (.inr (hisF sa)))))
  else if i = 4 then .inl (cA 1, 14, .inl (fun _ => 0))
  else if 6 ≤ i ∧ (i - 6) % 10 = 1 then .inl ((us ((i - 6) / 10)).2.1, 8, .inr (.inr (.inr (.inr (F8 (us ((i - 6) / 10)))))))
  else cellOf cA ad M00 i
theorem F8_sm (u : TS) {j : Nat} (hj : j < 8) : F8 u j = some (smA u j) := by
  rcases (show j = 0 ∨ j = 1 ∨ j = 2 ∨ j = 3 ∨ j = 4 ∨ j = 5 ∨ j = 6 ∨ j = 7 by omega) with rfl | rfl | rfl | rfl | rfl | rfl | rfl | rfl <;> rfl
set_option maxRecDepth 100000 in
set_option maxHeartbeats 8000000 in
theorem start_get (h0 : Nat) (sa : Nat → Nat) (us : Nat → TS) (hi : Nat) (hc : ClassId) (ot ch : Nat) (cc : ClassId) (r1 r2 : Nat) (c1 cs : ClassId) :
    (List.range 66).map (fun i => (WS3 h0 sa us hi hc ot ch cc ++ WS4 r1 r2 c1 c1)[piS i]?) = (List.range 66).map (fun i => some (adS h0 sa us hi ot ch r1 r2 i, EES (cAS cc c1 cs hc) (adS h0 sa us hi ot ch r1 r2) sa us i)) := rfl
theorem map_at {α : Type} {n : Nat} {f g : Nat → α} (h : (List.range n).map f = (List.range n).map g) {i : Nat} (hi : i < n) : f i = g i := by
  have h1 := congrArg (fun l => l[i]?) h
  simp only [List.getElem?_map, List.getElem?_range hi, Option.map_some] at h1
  exact Option.some.inj h1
theorem start_W {D : va_G} {A : Nat → Prop} {H : Heap} {h0 : Nat} {sa : Nat → Nat} {us : Nat → TS} {hi : Nat} {hc : ClassId} {ot ch : Nat} {cc : ClassId} {r1 r2 : Nat} {c1 : ClassId}
    (hP : va_P D vwCl (WS3 h0 sa us hi hc ot ch cc ++ WS4 r1 r2 c1 c1) H) (hD : va_D A (WS3 h0 sa us hi hc ot ch cc ++ WS4 r1 r2 c1 c1)) (hcs : ∀ p, p < 6 → (us p).2.1 = (us 0).2.1) :
    WOK (cAS cc c1 (us 0).2.1 hc) (adS h0 sa us hi ot ch r1 r2) D M00 H ∧ INJ (adS h0 sa us hi ot ch r1 r2) ∧ ∀ i, i < 66 → A (adS h0 sa us hi ot ch r1 r2 i) := by
  have hg := fun {i : Nat} (q : i < 66) => map_at (start_get h0 sa us hi hc ot ch cc r1 r2 c1 (us 0).2.1) q
  generalize had : adS h0 sa us hi ot ch r1 r2 = ad at hg ⊢
  have hsm : ∀ p j, p < 6 → j < 8 → ad (8 + 10 * p + j) = smA (us p) j := by
    intro p j hp hj
    rw [← had]
    unfold adS
    rw [if_neg (by omega), if_neg (by omega), if_neg (by omega), if_neg (by omega), if_neg (by omega), if_neg (by omega), if_neg (by omega), if_neg (by omega), show (8 + 10 * p + j - 6) / 10 = p by omega, show (8 + 10 * p + j - 6) % 10 - 2 = j by omega]
  have hst : ∀ p, p < 6 → ad (6 + 10 * p) = sa p := by
    intro p hp
    rw [← had]
    unfold adS
    rw [if_neg (by omega), if_neg (by omega), if_neg (by omega), if_neg (by omega), if_neg (by omega), if_neg (by omega), if_pos (by omega), show (6 + 10 * p - 6) / 10 = p by omega]
  refine ⟨?_, ?_, ?_⟩
  · intro k q hk
    obtain ⟨hi', rfl⟩ := wld_lt hk
    have h1 := hP (piS k) _ (hg hi')
    by_cases h3 : k = 3
    · subst h3
      have h2 : H[ad 3]? = some (vp_cell (cAS cc c1 (us 0).2.1 hc 3) (4, .inr (.inr (.inr (.inr (hisF sa)))))) := h1
      show H[ad 3]? = some (vp_cell (cAS cc c1 (us 0).2.1 hc 3) (4, .inr (.inr (.inr (.inr (fun j => some (ad (6 + 10 * (2 + j)))))))))
      rw [h2, vp_cell_q, vp_cell_q]
      refine congrArg some (arrV_below (fun j hj => congrArg va_rf ?_))
      rw [hst (2 + j) (by omega)]
      rcases (show j = 0 ∨ j = 1 ∨ j = 2 ∨ j = 3 by omega) with rfl | rfl | rfl | rfl <;> rfl
    · by_cases h44 : k = 4
      · subst h44
        have h2 : H[ad 4]? = some (vp_cell (cAS cc c1 (us 0).2.1 hc 1) (14, .inl (fun _ => 0))) := h1
        have e : (fun j => if j < 14 then M00.1 10 j else 0) = (fun _ => (0 : Int32)) := by
          funext j
          split
          · rfl
          · rfl
        show H[ad 4]? = some (vp_cell (cAS cc c1 (us 0).2.1 hc 1) (14, .inl (fun j => if j < 14 then M00.1 10 j else 0)))
        rw [e]
        exact h2
      by_cases h4 : 6 ≤ k ∧ (k - 6) % 10 = 1
      · have e1 : EES (cAS cc c1 (us 0).2.1 hc) ad sa us k = .inl ((us ((k - 6) / 10)).2.1, 8, .inr (.inr (.inr (.inr (F8 (us ((k - 6) / 10))))))) := by
          unfold EES
          rw [if_neg h3, if_neg h44, if_pos h4]
        have e2 : cellOf (cAS cc c1 (us 0).2.1 hc) ad M00 k = .inl (cAS cc c1 (us 0).2.1 hc 2, 8, .inr (.inr (.inr (.inr (fun j => some (ad (k + 1 + j))))))) := by
          unfold cellOf
          rw [if_neg (by omega), if_neg (by omega), if_neg (by omega), if_neg (by omega), if_neg (by omega), if_neg (by omega), if_neg (by omega), if_pos h4.2]
        rw [e1] at h1
        rw [e2]
        have h2 : H[ad k]? = some (vp_cell (us ((k - 6) / 10)).2.1 (8, .inr (.inr (.inr (.inr (F8 (us ((k - 6) / 10)))))))) := h1
        show H[ad k]? = some (vp_cell (us 0).2.1 (8, .inr (.inr (.inr (.inr (fun j => some (ad (k + 1 + j))))))))
        rw [h2, vp_cell_q, vp_cell_q, hcs _ (by omega)]
        refine congrArg some (arrV_below (fun j hj => congrArg va_rf ?_))
        rw [F8_sm _ hj, show k + 1 + j = 8 + 10 * ((k - 6) / 10) + j by omega, hsm _ _ (by omega) hj]
      · have e1 : EES (cAS cc c1 (us 0).2.1 hc) ad sa us k = cellOf (cAS cc c1 (us 0).2.1 hc) ad M00 k := by
          unfold EES
          rw [if_neg h3, if_neg h44, if_neg h4]
        rw [e1] at h1
        exact h1
  · intro i j hi' hj' h
    exact piS_inj hi' hj' (hD.1 _ _ _ _ (hg hi') (hg hj') h)
  · intro i hi'
    exact hD.2 _ _ (hg hi')
theorem M10_st (M : Mem) (h : M.1 10 = fun _ => 0) : mput (mput (mput (mput (mput (mput M 10 3 10) 10 5 100) 10 10 30) 10 11 10) 10 12 4) 10 13 60 = setp M 10 st0 := by
  simp only [mput_s, setp_at, setp_2, h]
  unfold st0
  rw [upd_sw (fun _ => 0) _ _ (show 3 ≠ 5 by decide)]
theorem rel_start : RELA (setp M00 10 st0) := by
  have e : (setp M00 10 st0).1 10 = st0 := setp_at _ _ _
  refine ⟨0, 0, fun _ => st0, fun _ => 0, ?_, by rw [e]; exact VOK_fresh, by rw [e]; exact IDN_fresh⟩
  rw [e]
  have c0 : CA M00 st0 0 (fun _ => st0) 0 (fun _ => 0) := ⟨⟨fun i h => h, fun i j _ _ h => h⟩, rfl, by decide, ⟨0, by decide, rfl, fun k _ => rfl⟩, fun i h => absurd h (Nat.not_lt_zero i), rfl, by decide, fun i h => absurd h (Nat.not_lt_zero i)⟩
  exact c0.row10 _
