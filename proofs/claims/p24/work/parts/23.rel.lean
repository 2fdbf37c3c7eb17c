/-! ===== the class's part of the memory against the abstract state u (now), h states hs, a text tx of t ===== -/
def Agr (v u : Vec) : Prop := ∃ N : Nat, N ≤ 8 ∧ u 0 = nI N ∧ ∀ k, k < 14 + 8 * N → v k = u k
def PERM (r : Nat → Nat) : Prop := (∀ i, i < 6 → r i < 6) ∧ ∀ i j, i < 6 → j < 6 → r i = r j → i = j
def psh (h : Nat) : Nat := if h = 4 then 4 else h + 1
def push (h : Nat) (hs : Nat → Vec) (u : Vec) : Nat → Vec := fun i => if h = 4 then (if i = 3 then u else hs (i + 1)) else (if i = h then u else hs i)
def CA (M : Mem) (u : Vec) (h : Nat) (hs : Nat → Vec) (t : Nat) (tx : Vec) : Prop :=
  PERM M.2 ∧ M.1 8 0 = nI h ∧ h ≤ 4 ∧ Agr (M.1 (M.2 0)) u ∧ (∀ i, i < h → Agr (M.1 (M.2 (2 + i))) (hs i)) ∧ M.1 6 0 = nI t ∧ t ≤ 60 ∧ ∀ i, i < t → M.1 7 i = tx i
def FC (M M' : Mem) : Prop := ∀ q, 9 ≤ q → M'.1 q = M.1 q
theorem FC.rf (M : Mem) : FC M M := fun _ _ => rfl
theorem FC.tr {M M' M'' : Mem} (h : FC M M') (h' : FC M' M'') : FC M M'' := fun q hq => (h' q hq).trans (h q hq)
theorem FC.set {M : Mem} {p : Nat} (hp : p < 9) (w : Vec) : FC M (setp M p w) := fun q hq => setp_ne M w (by omega)
def OpQ (M : Mem) (u : Vec) (h : Nat) (hs : Nat → Vec) (t : Nat) (tx : Vec) (S : Int32 × Vec) : Mem → Prop := fun M' => FC M M' ∧ if S.1 < 0 then CA M' u h hs t tx else CA M' S.2 (psh h) (push h hs u) t tx
theorem Agr.n {v u : Vec} (h : Agr v u) : ∃ N : Nat, N ≤ 8 ∧ u 0 = nI N ∧ v 0 = nI N ∧ ∀ k, k < 14 + 8 * N → v k = u k := by
  obtain ⟨N, h8, hu, hk⟩ := h
  exact ⟨N, h8, hu, (hk 0 (by omega)).trans hu, hk⟩
theorem nI_un {a b : Nat} (ha : a ≤ 8) (hb : b ≤ 8) (h : nI a = nI b) : a = b := (nI_eq (by omega) (by omega)).mp h
theorem Agr.copy {v u : Vec} (w : Vec) (h : Agr v u) {N : Nat} (h8 : N ≤ 8) (hN : v 0 = nI N) : Agr (copyU w v N) u := by
  obtain ⟨N', h8', hu, hv, hk⟩ := h.n
  have e : N' = N := nI_un h8' h8 (hv.symm.trans hN)
  subst e
  exact ⟨N', h8', hu, fun k q => by rw [← hk k q]; simp [copyU, q]⟩
theorem CA.agr {M : Mem} {u : Vec} {h : Nat} {hs : Nat → Vec} {t : Nat} {tx : Vec} (c : CA M u h hs t tx) : Agr (M.1 (M.2 0)) u := c.2.2.2.1
/-- another trial -/
theorem CA.trial {M : Mem} {u : Vec} {h : Nat} {hs : Nat → Vec} {t : Nat} {tx : Vec} (c : CA M u h hs t tx) (w : Vec) : CA (setp M (M.2 1) w) u h hs t tx := by
  obtain ⟨hP, hh, h4, hu, hi, ht, h60, hx⟩ := c
  have h1 := hP.1 1 (by decide)
  have ne : ∀ i, i < 6 → i ≠ 1 → M.2 i ≠ M.2 1 := fun i hi hn q => hn (hP.2 i 1 hi (by decide) q)
  refine ⟨hP, ?_, h4, ?_, fun i q => ?_, ?_, h60, fun i q => ?_⟩
  · rw [setp_ne _ _ (by omega)]; exact hh
  · show Agr ((setp M (M.2 1) w).1 (M.2 0)) u
    rw [setp_ne _ _ (ne 0 (by decide) (by decide))]; exact hu
  · show Agr ((setp M (M.2 1) w).1 (M.2 (2 + i))) (hs i)
    rw [setp_ne _ _ (ne (2 + i) (by omega) (by omega))]; exact hi i q
  · rw [setp_ne _ _ (by omega)]; exact ht
  · rw [setp_ne _ _ (by omega)]; exact hx i q
theorem CA.row8 {M : Mem} {u : Vec} {h : Nat} {hs : Nat → Vec} {t : Nat} {tx : Vec} (c : CA M u h hs t tx) (b : Vec) (hb : b 0 = M.1 8 0) : CA (setp M 8 b) u h hs t tx := by
  obtain ⟨hP, hh, h4, hu, hi, ht, h60, hx⟩ := c
  refine ⟨hP, ?_, h4, ?_, fun i q => ?_, ?_, h60, fun i q => ?_⟩
  · rw [setp_at, hb]; exact hh
  · show Agr ((setp M 8 b).1 (M.2 0)) u
    have := hP.1 0 (by decide)
    rw [setp_ne _ _ (by omega)]; exact hu
  · show Agr ((setp M 8 b).1 (M.2 (2 + i))) (hs i)
    have := hP.1 (2 + i) (by omega)
    rw [setp_ne _ _ (by omega)]; exact hi i q
  · rw [setp_ne _ _ (by omega)]; exact ht
  · rw [setp_ne _ _ (by omega)]; exact hx i q
theorem CA.row6 {M : Mem} {u : Vec} {h : Nat} {hs : Nat → Vec} {t : Nat} {tx : Vec} (c : CA M u h hs t tx) (b : Vec) (hb : b 0 = M.1 6 0) : CA (setp M 6 b) u h hs t tx := by
  obtain ⟨hP, hh, h4, hu, hi, ht, h60, hx⟩ := c
  refine ⟨hP, ?_, h4, ?_, fun i q => ?_, ?_, h60, fun i q => ?_⟩
  · rw [setp_ne _ _ (by omega)]; exact hh
  · show Agr ((setp M 6 b).1 (M.2 0)) u
    have := hP.1 0 (by decide)
    rw [setp_ne _ _ (by omega)]; exact hu
  · show Agr ((setp M 6 b).1 (M.2 (2 + i))) (hs i)
    have := hP.1 (2 + i) (by omega)
    rw [setp_ne _ _ (by omega)]; exact hi i q
  · rw [setp_at, hb]; exact ht
  · rw [setp_ne _ _ (by omega)]; exact hx i q
theorem perm_swp {r : Nat → Nat} (h : PERM r) : PERM (va_up (va_up r 0 (r 1)) 1 (r 0)) := by
  have e : ∀ i, va_up (va_up r 0 (r 1)) 1 (r 0) i = r (if i = 0 then 1 else if i = 1 then 0 else i) := fun i => by
    by_cases h1 : i = 1
    · subst h1; simp [va_up]
    · by_cases h0 : i = 0
      · subst h0; simp [va_up]
      · simp [va_up, h0, h1]
  refine ⟨fun i hi => ?_, fun i j hi hj q => ?_⟩
  · rw [e]; exact h.1 _ (by split; omega; split <;> omega)
  · rw [e, e] at q
    have := h.2 _ _ (by split; omega; split <;> omega) (by split; omega; split <;> omega) q
    split at this <;> split at this <;> (try split at this) <;> (try split at this) <;> omega
theorem perm_rot {r : Nat → Nat} (h : PERM r) : PERM (rot r) := by
  obtain ⟨r0, r1, r2, r3, r4, r5⟩ := rot_v r
  have e : ∀ i, i < 6 → rot r i = r (if i < 2 then i else if i = 5 then 2 else i + 1) := fun i hi => by
    have hc : i = 0 ∨ i = 1 ∨ i = 2 ∨ i = 3 ∨ i = 4 ∨ i = 5 := by omega
    rcases hc with rfl | rfl | rfl | rfl | rfl | rfl
    · exact r0
    · exact r1
    · exact r2
    · exact r3
    · exact r4
    · exact r5
  refine ⟨rot_lt h.1, fun i j hi hj q => ?_⟩
  rw [e i hi, e j hj] at q
  have := h.2 _ _ (by split; omega; split <;> omega) (by split; omega; split <;> omega) q
  split at this <;> split at this <;> (try split at this) <;> (try split at this) <;> omega
section COMMIT
variable {cA : Nat → ClassId} {ad : Nat → Nat} {D : va_G} {M : Mem}
theorem swp_at (M : Mem) : (swp M).1 = M.1 ∧ (swp M).2 0 = M.2 1 ∧ (swp M).2 1 = M.2 0 ∧ ∀ i, 2 ≤ i → (swp M).2 i = M.2 i := by
  refine ⟨rfl, ?_, ?_, fun i hi => ?_⟩
  · simp [swp, va_up]
  · simp [swp, va_up]
  · have h0 : i ≠ 0 := by omega
    have h1 : i ≠ 1 := by omega
    simp [swp, va_up, h0, h1]
theorem commit_rel {u u' : Vec} {h : Nat} {hs : Nat → Vec} {t : Nat} {tx : Vec} (c : CA M u h hs t tx) (hA : Agr (M.1 (M.2 1)) u') {x : Int32} : C_X3_commit cA ad D [.ref (ad 0), .int x] M (QR x (OpQ M u h hs t tx (x, u'))) := by
  by_cases hx : x < 0
  · refine PM_weaken (m_X3_commit_e hx) (Ri_QR ⟨FC.rf _, ?_⟩)
    rw [if_pos hx]; exact c
  · obtain ⟨hP, hh, h4, hu, hi, ht, h60, htx⟩ := c
    obtain ⟨N, h8, huN, hvN, hk⟩ := hu.n
    have ne : ∀ i j, i < 6 → j < 6 → i ≠ j → M.2 i ≠ M.2 j := fun i j hi hj hn q => hn (hP.2 i j hi hj q)
    have lt := hP.1
    by_cases hh4 : h = 4
    · subst hh4
      obtain ⟨r0, r1, r2, r3, r4, r5⟩ := rot_v M.2
      have hR := m_X3_remember_4 (cA := cA) (ad := ad) (D := D) (M := M) lt hvN h8 hh (ne 0 2 (by decide) (by decide) (by decide))
      refine PM_weaken (m_X3_commit_g hx hR (rot_lt lt)) (Ri_QR ⟨?_, ?_⟩)
      · intro q hq
        rw [(swp_at _).1, mput_ne (by omega), setp_ne _ _ (by have := lt 2 (by decide); omega), mput_ne (by omega)]
      · rw [if_neg hx]
        have hpsh : psh 4 = 4 := rfl
        rw [hpsh]
        obtain ⟨s1, s2, s3, s4⟩ := swp_at (mput (setp (mput (M.1, rot M.2) 8 0 (nI 3)) (M.2 2) (copyU (M.1 (M.2 2)) (M.1 (M.2 0)) N)) 8 0 (nI 4))
        have rd : ∀ q, q < 6 → q ≠ M.2 2 → (mput (setp (mput (M.1, rot M.2) 8 0 (nI 3)) (M.2 2) (copyU (M.1 (M.2 2)) (M.1 (M.2 0)) N)) 8 0 (nI 4)).1 q = M.1 q := fun q h1 h2 => by
          rw [mput_ne (by omega), setp_ne _ _ h2, mput_ne (by omega)]
        have rd2 : (mput (setp (mput (M.1, rot M.2) 8 0 (nI 3)) (M.2 2) (copyU (M.1 (M.2 2)) (M.1 (M.2 0)) N)) 8 0 (nI 4)).1 (M.2 2) = copyU (M.1 (M.2 2)) (M.1 (M.2 0)) N := by
          rw [mput_ne (by have := lt 2 (by decide); omega), setp_at]
        have rd7 : ∀ q, 6 ≤ q → q ≠ 8 → (mput (setp (mput (M.1, rot M.2) 8 0 (nI 3)) (M.2 2) (copyU (M.1 (M.2 2)) (M.1 (M.2 0)) N)) 8 0 (nI 4)).1 q = M.1 q := fun q h1 h2 => by
          rw [mput_ne h2, setp_ne _ _ (by have := lt 2 (by decide); omega), mput_ne h2]
        refine ⟨perm_swp (perm_rot hP), ?_, by decide, ?_, fun i q => ?_, ?_, h60, fun i q => ?_⟩
        · rw [s1]; exact mput_at
        · rw [s1, s2]
          show Agr ((mput (setp (mput (M.1, rot M.2) 8 0 (nI 3)) (M.2 2) (copyU (M.1 (M.2 2)) (M.1 (M.2 0)) N)) 8 0 (nI 4)).1 (rot M.2 1)) u'
          rw [r1, rd _ (lt 1 (by decide)) (ne 1 2 (by decide) (by decide) (by decide))]
          exact hA
        · rw [s1, s4 _ (by omega)]
          show Agr ((mput (setp (mput (M.1, rot M.2) 8 0 (nI 3)) (M.2 2) (copyU (M.1 (M.2 2)) (M.1 (M.2 0)) N)) 8 0 (nI 4)).1 (rot M.2 (2 + i))) (push 4 hs u i)
          have hc : i = 0 ∨ i = 1 ∨ i = 2 ∨ i = 3 := by omega
          rcases hc with rfl | rfl | rfl | rfl
          · rw [show rot M.2 (2 + 0) = M.2 3 from r2, rd _ (lt 3 (by decide)) (ne 3 2 (by decide) (by decide) (by decide))]
            exact hi 1 (by decide)
          · rw [show rot M.2 (2 + 1) = M.2 4 from r3, rd _ (lt 4 (by decide)) (ne 4 2 (by decide) (by decide) (by decide))]
            exact hi 2 (by decide)
          · rw [show rot M.2 (2 + 2) = M.2 5 from r4, rd _ (lt 5 (by decide)) (ne 5 2 (by decide) (by decide) (by decide))]
            exact hi 3 (by decide)
          · rw [show rot M.2 (2 + 3) = M.2 2 from r5, rd2]
            exact hu.copy _ h8 hvN
        · rw [s1, rd7 6 (by decide) (by decide)]; exact ht
        · rw [s1, rd7 7 (by decide) (by decide)]; exact htx i q
    · have hlt : h < 4 := by omega
      have hR := m_X3_remember_lt (cA := cA) (ad := ad) (D := D) (M := M) lt hvN h8 hh hlt (ne 0 (2 + h) (by decide) (by omega) (by omega))
      refine PM_weaken (m_X3_commit_g hx hR lt) (Ri_QR ⟨?_, ?_⟩)
      · intro q hq
        rw [(swp_at _).1, mput_ne (by omega), setp_ne _ _ (by have := lt (2 + h) (by omega); omega)]
      · rw [if_neg hx]
        have hpsh : psh h = h + 1 := by simp [psh, hh4]
        rw [hpsh]
        have lth := lt (2 + h) (by omega)
        obtain ⟨s1, s2, s3, s4⟩ := swp_at (mput (setp M (M.2 (2 + h)) (copyU (M.1 (M.2 (2 + h))) (M.1 (M.2 0)) N)) 8 0 (nI (h + 1)))
        have rd : ∀ q, q ≠ M.2 (2 + h) → q ≠ 8 → (mput (setp M (M.2 (2 + h)) (copyU (M.1 (M.2 (2 + h))) (M.1 (M.2 0)) N)) 8 0 (nI (h + 1))).1 q = M.1 q := fun q h1 h2 => by
          rw [mput_ne h2, setp_ne _ _ h1]
        have rd2 : (mput (setp M (M.2 (2 + h)) (copyU (M.1 (M.2 (2 + h))) (M.1 (M.2 0)) N)) 8 0 (nI (h + 1))).1 (M.2 (2 + h)) = copyU (M.1 (M.2 (2 + h))) (M.1 (M.2 0)) N := by
          rw [mput_ne (by omega), setp_at]
        refine ⟨perm_swp hP, ?_, by omega, ?_, fun i q => ?_, ?_, h60, fun i q => ?_⟩
        · rw [s1]; exact mput_at
        · rw [s1, s2]
          show Agr ((mput (setp M (M.2 (2 + h)) (copyU (M.1 (M.2 (2 + h))) (M.1 (M.2 0)) N)) 8 0 (nI (h + 1))).1 (M.2 1)) u'
          rw [rd _ (ne 1 (2 + h) (by decide) (by omega) (by omega)) (by have := lt 1 (by decide); omega)]
          exact hA
        · rw [s1, s4 _ (by omega)]
          show Agr ((mput (setp M (M.2 (2 + h)) (copyU (M.1 (M.2 (2 + h))) (M.1 (M.2 0)) N)) 8 0 (nI (h + 1))).1 (M.2 (2 + i))) (push h hs u i)
          by_cases hih : i = h
          · subst hih
            rw [rd2]
            simp only [push, if_neg hh4, if_true]
            exact hu.copy _ h8 hvN
          · rw [rd _ (ne (2 + i) (2 + h) (by omega) (by omega) (by omega)) (by have := lt (2 + i) (by omega); omega)]
            simp only [push, if_neg hh4, if_neg hih]
            exact hi i (by omega)
        · rw [s1, rd 6 (by omega) (by decide)]; exact ht
        · rw [s1, rd 7 (by omega) (by decide)]; exact htx i q
end COMMIT

