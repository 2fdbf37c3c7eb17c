/-! ===== the start: both objects stand; their cells are the memory's ===== -/
theorem arrV_below {cI : ClassId} {N : Nat} {f g : Nat → Value} (h : ∀ j, j < N → f j = g j) : arrV cI N f = arrV cI N g := by
  unfold arrV
  congr 2
  funext j
  exact h j.val j.isLt
def smA (u : TS) (j : Nat) : Nat := (F8 u j).getD 0
def adS (h0 : Nat) (sa : Nat → Nat) (us : Nat → TS) (hi ot ch hm r1 r2 r3 r4 r5 : Nat) (i : Nat) : Nat :=
  if i = 0 then h0 else if i = 1 then ot else if i = 2 then ch else if i = 3 then hi else if i = 4 then hm else if i = 5 then r1 else if i = 6 then r2 else if i = 7 then r3 else if i = 8 then r4 else if i = 9 then r5
  else if (i - 10) % 10 = 0 then sa ((i - 10) / 10) else if (i - 10) % 10 = 1 then (us ((i - 10) / 10)).1 else smA (us ((i - 10) / 10)) ((i - 10) % 10 - 2)
def piS (i : Nat) : Nat := if i = 0 then 0 else if i = 1 then 22 else if i = 2 then 23 else if i = 3 then 21 else if i < 10 then i + 60 else if i < 30 then i - 9 else i - 6
theorem piS_inj {i j : Nat} (hi : i < 70) (hj : j < 70) (h : piS i = piS j) : i = j := by
  unfold piS at h
  repeat' split at h
  all_goals omega
def M00 : Mem := (fun p => if p < 6 then st0 else if p = 10 then st0 else fun _ => 0, fun i => i)
abbrev hisF (sa : Nat → Nat) : Nat → Option Nat := va_up (va_up (va_up (va_up (fun _ => none) 0 (some (sa 2))) 1 (some (sa 3))) 2 (some (sa 4))) 3 (some (sa 5))
abbrev WS3 (h0 : Nat) (sa : Nat → Nat) (us : Nat → TS) (hi : Nat) (hc : ClassId) (ot ch : Nat) (cc : ClassId) : va_W :=
  (h0, .inr (3, z3 (.ref (sa 0)) (.ref (sa 1)) (.ref hi) (.ref ot))) :: (bS (sa 0) (us 0) ++ (bS (sa 1) (us 1) ++ ([(hi, .inl (hc, 4, .inr (.inr (.inr (.inr (hisF sa)))))), (ot, .inr (0, z0 (.ref ch))), (ch, .inl (cc, 60, .inl (fun _ => 0)))] ++ (bS (sa 2) (us 2) ++ (bS (sa 3) (us 3) ++ (bS (sa 4) (us 4) ++ bS (sa 5) (us 5)))))))
abbrev WS4 (hm r1 r2 r3 r4 r5 : Nat) (c1 c2 c3 c4 c5 : ClassId) : va_W :=
  [(hm, .inr (4, z4 (.ref r1) (.ref r2) (.ref r3) (.ref r4) (.ref r5))), (r1, .inl (c1, 78, .inl st0)), (r2, .inl (c2, 312, .inl (fun _ => 0))), (r3, .inl (c3, 78, .inl (fun _ => 0))), (r4, .inl (c4, 78, .inl (fun _ => 0))), (r5, .inl (c5, 60, .inl (fun _ => 0)))]
def cAS (cc c1 cs hc : ClassId) (i : Nat) : ClassId := if i = 0 then cc else if i = 1 then c1 else if i = 2 then cs else hc
def EES (cA : Nat → ClassId) (ad : Nat → Nat) (sa : Nat → Nat) (us : Nat → TS) (i : Nat) : va_E :=
  if i = 3 then .inl (cA 3, 4, .inr (.inr (.inr (.inr (hisF sa)))))
  else if 10 ≤ i ∧ (i - 10) % 10 = 1 then .inl ((us ((i - 10) / 10)).2.1, 8, .inr (.inr (.inr (.inr (F8 (us ((i - 10) / 10)))))))
  else cellOf cA ad M00 i
theorem F8_sm (u : TS) {j : Nat} (hj : j < 8) : F8 u j = some (smA u j) := by
  rcases (show j = 0 ∨ j = 1 ∨ j = 2 ∨ j = 3 ∨ j = 4 ∨ j = 5 ∨ j = 6 ∨ j = 7 by omega) with rfl | rfl | rfl | rfl | rfl | rfl | rfl | rfl <;> rfl
set_option maxRecDepth 100000 in
set_option maxHeartbeats 8000000 in
theorem start_get (h0 : Nat) (sa : Nat → Nat) (us : Nat → TS) (hi : Nat) (hc : ClassId) (ot ch : Nat) (cc : ClassId) (hm r1 r2 r3 r4 r5 : Nat) (c1 cs : ClassId) :
    (List.range 70).map (fun i => (WS3 h0 sa us hi hc ot ch cc ++ WS4 hm r1 r2 r3 r4 r5 c1 c1 c1 c1 c1)[piS i]?) = (List.range 70).map (fun i => some (adS h0 sa us hi ot ch hm r1 r2 r3 r4 r5 i, EES (cAS cc c1 cs hc) (adS h0 sa us hi ot ch hm r1 r2 r3 r4 r5) sa us i)) := rfl
theorem map_at {α : Type} {n : Nat} {f g : Nat → α} (h : (List.range n).map f = (List.range n).map g) {i : Nat} (hi : i < n) : f i = g i := by
  have h1 := congrArg (fun l => l[i]?) h
  simp only [List.getElem?_map, List.getElem?_range hi, Option.map_some] at h1
  exact Option.some.inj h1
theorem start_W {D : va_G} {A : Nat → Prop} {H : Heap} {h0 : Nat} {sa : Nat → Nat} {us : Nat → TS} {hi : Nat} {hc : ClassId} {ot ch : Nat} {cc : ClassId} {hm r1 r2 r3 r4 r5 : Nat} {c1 : ClassId}
    (hP : va_P D vwCl (WS3 h0 sa us hi hc ot ch cc ++ WS4 hm r1 r2 r3 r4 r5 c1 c1 c1 c1 c1) H) (hD : va_D A (WS3 h0 sa us hi hc ot ch cc ++ WS4 hm r1 r2 r3 r4 r5 c1 c1 c1 c1 c1)) (hcs : ∀ p, p < 6 → (us p).2.1 = (us 0).2.1) :
    WOK (cAS cc c1 (us 0).2.1 hc) (adS h0 sa us hi ot ch hm r1 r2 r3 r4 r5) D M00 H ∧ INJ (adS h0 sa us hi ot ch hm r1 r2 r3 r4 r5) ∧ ∀ i, i < 70 → A (adS h0 sa us hi ot ch hm r1 r2 r3 r4 r5 i) := by
  have hg := fun {i : Nat} (q : i < 70) => map_at (start_get h0 sa us hi hc ot ch cc hm r1 r2 r3 r4 r5 c1 (us 0).2.1) q
  generalize had : adS h0 sa us hi ot ch hm r1 r2 r3 r4 r5 = ad at hg ⊢
  have hsm : ∀ p j, p < 6 → j < 8 → ad (12 + 10 * p + j) = smA (us p) j := by
    intro p j hp hj
    rw [← had]
    unfold adS
    rw [if_neg (by omega), if_neg (by omega), if_neg (by omega), if_neg (by omega), if_neg (by omega), if_neg (by omega), if_neg (by omega), if_neg (by omega), if_neg (by omega), if_neg (by omega), if_neg (by omega), if_neg (by omega), show (12 + 10 * p + j - 10) / 10 = p by omega, show (12 + 10 * p + j - 10) % 10 - 2 = j by omega]
  have hst : ∀ p, p < 6 → ad (10 + 10 * p) = sa p := by
    intro p hp
    rw [← had]
    unfold adS
    rw [if_neg (by omega), if_neg (by omega), if_neg (by omega), if_neg (by omega), if_neg (by omega), if_neg (by omega), if_neg (by omega), if_neg (by omega), if_neg (by omega), if_neg (by omega), if_pos (by omega), show (10 + 10 * p - 10) / 10 = p by omega]
  refine ⟨?_, ?_, ?_⟩
  · intro k q hk
    obtain ⟨hi', rfl⟩ := wld_lt hk
    have h1 := hP (piS k) _ (hg hi')
    by_cases h3 : k = 3
    · subst h3
      have h2 : H[ad 3]? = some (vp_cell (cAS cc c1 (us 0).2.1 hc 3) (4, .inr (.inr (.inr (.inr (hisF sa)))))) := h1
      show H[ad 3]? = some (vp_cell (cAS cc c1 (us 0).2.1 hc 3) (4, .inr (.inr (.inr (.inr (fun j => some (ad (10 + 10 * (2 + j)))))))))
      rw [h2, vp_cell_q, vp_cell_q]
      refine congrArg some (arrV_below (fun j hj => congrArg va_rf ?_))
      rw [hst (2 + j) (by omega)]
      rcases (show j = 0 ∨ j = 1 ∨ j = 2 ∨ j = 3 by omega) with rfl | rfl | rfl | rfl <;> rfl
    · by_cases h4 : 10 ≤ k ∧ (k - 10) % 10 = 1
      · have e1 : EES (cAS cc c1 (us 0).2.1 hc) ad sa us k = .inl ((us ((k - 10) / 10)).2.1, 8, .inr (.inr (.inr (.inr (F8 (us ((k - 10) / 10))))))) := by
          unfold EES
          rw [if_neg h3, if_pos h4]
        have e2 : cellOf (cAS cc c1 (us 0).2.1 hc) ad M00 k = .inl (cAS cc c1 (us 0).2.1 hc 2, 8, .inr (.inr (.inr (.inr (fun j => some (ad (k + 1 + j))))))) := by
          unfold cellOf
          rw [if_neg (by omega), if_neg (by omega), if_neg (by omega), if_neg (by omega), if_neg (by omega), if_neg (by omega), if_neg (by omega), if_neg (by omega), if_neg (by omega), if_neg (by omega), if_neg (by omega), if_pos h4.2]
        rw [e1] at h1
        rw [e2]
        have h2 : H[ad k]? = some (vp_cell (us ((k - 10) / 10)).2.1 (8, .inr (.inr (.inr (.inr (F8 (us ((k - 10) / 10)))))))) := h1
        show H[ad k]? = some (vp_cell (us 0).2.1 (8, .inr (.inr (.inr (.inr (fun j => some (ad (k + 1 + j))))))))
        rw [h2, vp_cell_q, vp_cell_q, hcs _ (by omega)]
        refine congrArg some (arrV_below (fun j hj => congrArg va_rf ?_))
        rw [F8_sm _ hj, show k + 1 + j = 12 + 10 * ((k - 10) / 10) + j by omega, hsm _ _ (by omega) hj]
      · have e1 : EES (cAS cc c1 (us 0).2.1 hc) ad sa us k = cellOf (cAS cc c1 (us 0).2.1 hc) ad M00 k := by
          unfold EES
          rw [if_neg h3, if_neg h4]
        rw [e1] at h1
        exact h1
  · intro i j hi' hj' h
    exact piS_inj hi' hj' (hD.1 _ _ _ _ (hg hi') (hg hj') h)
  · intro i hi'
    exact hD.2 _ _ (hg hi')
theorem rel_start : REL M00 := by
  refine ⟨0, st0, 0, fun _ => st0, 0, fun _ => 0, ?_, ?_, VOK_fresh, fun i h => absurd h (Nat.not_lt_zero i)⟩
  · exact ⟨⟨fun i h => h, fun i j _ _ h => h⟩, rfl, by decide, ⟨0, by decide, rfl, fun k _ => rfl⟩, fun i h => absurd h (Nat.not_lt_zero i), rfl, by decide, fun i h => absurd h (Nat.not_lt_zero i)⟩
  · refine ⟨rfl, rfl, by decide, rfl, rfl, by decide, fun i h => absurd h (Nat.not_lt_zero i), fun j hj => ?_, fun i h => absurd h (Nat.not_lt_zero i)⟩
    unfold st0 upd
    rw [if_neg (by omega), if_neg (by omega), if_neg (by omega), if_neg (by omega), if_neg (by omega), if_neg (by omega)]
