/-! ===== the law's loop ===== -/
theorem loop_lt {L i : Nat} (hL : L ≤ 2048) (hi : i ≤ L) (h : ¬ Int32.ofNat L - 4 < nI i) : i + 4 ≤ L := by
  rcases Nat.lt_or_ge L (i + 4) with q | q
  · refine absurd ?_ h
    rcases Nat.lt_or_ge L 4 with r | r
    · have hb : ∀ L, L < 4 → ∀ i, i ≤ L → Int32.ofNat L - 4 < nI i := by decide
      exact hb L r i hi
    · obtain ⟨k, rfl⟩ : ∃ k, L = k + 4 := ⟨L - 4, by omega⟩
      have e : Int32.ofNat (k + 4) - 4 = nI k := by
        show nI (k + 4) - nI 4 = nI k
        rw [← nI_add, Int32.add_sub_cancel]
      rw [e]
      exact nI_lt (by omega) (by omega)
  · exact q
set_option maxHeartbeats 4000000 in
set_option maxRecDepth 20000 in
theorem law_loop {p : Program} {l : Launch} {e : Env} {s : State} {m : MethodId} {below : List Frame} {meth : Method} {c : Code} {b L : Nat} {xs : Nat → Int32} {cA : Nat → ClassId} {ad : Nat → Nat} {D : va_G} (hL : L ≤ 2048) (E : LEnv p s m meth c b L xs cA ad D) :
    ∀ (n i : Nat) (x3 : Int32), i ≤ L → L + 1 ≤ i + n → x3 = nI i → ∀ M : Mem, REL M → LWk p l e s m below meth c b cA ad D x3 18 [] M := by
  have hbA : ¬ NWP s b := Nat.not_le.mpr E.2.2.2.2.2.2.2.2.1
  intro n
  induction n with
  | zero =>
    intro i x3 h1 h2
    exact absurd h2 (by omega)
  | succ n ih =>
    intro i x3 hi hin ex3 M hR H locs ls hW hS hl
    refine lv_iload_n E.1 E.2.1 dL_law_18 rfl (lv_at hl 3 rfl) ?_
    refine lv_aload_n E.1 E.2.1 dL_law_19 rfl (lv_at hl 0 rfl) ?_
    refine va_slen E.1 E.2.1 E.2.2.2.2.2.2.2.1 E.2.2.2.2.2.2.2.2.1 hbA hS dL_law_20 ?_
    refine lv_iconst (v := 4) E.1 E.2.1 dL_law_21 (by decide) ?_
    refine lv_isub E.1 E.2.1 dL_law_22 ?_
    refine lv_icmp_gt (tgt := 641) E.1 E.2.1 dL_law_23 (by decide) (fun c_1 => ?_) (fun c_1 => ?_)
    · refine lv_iconst (v := 1) E.1 E.2.1 dL_law_641 (by decide) ?_
      refine va_forget (fun q hq => hS.2.2 q hq) ?_
      exact W.base (lw_ret (Drawn.sameBut.refl s.drawn lw_cs) E.1 E.2.1 E.2.2.2.1 E.2.2.2.2.1 dL_law_642)
    · have h4 : i + 4 ≤ L := loop_lt hL hi (by rw [← ex3]; exact c_1)
      have h0 : vp_in x3 L := by rw [ex3]; exact vp_in_nI (by omega) (by omega)
      have h1 : vp_in (x3 + 1) L := by rw [ex3, show nI i + 1 = nI (i + 1) from nI_add i 1]; exact vp_in_nI (by omega) (by omega)
      have h2 : vp_in (x3 + 2) L := by rw [ex3, show nI i + 2 = nI (i + 2) from nI_add i 2]; exact vp_in_nI (by omega) (by omega)
      have h3 : vp_in (x3 + 3) L := by rw [ex3, show nI i + 3 = nI (i + 3) from nI_add i 3]; exact vp_in_nI (by omega) (by omega)
      have kk : ∀ M2 : Mem, REL M2 → LWk p l e s m below meth c b cA ad D x3 635 [] M2 := by
        intro M2 hR2 H2 locs2 ls2 hW2 hS2 hl2
        obtain ⟨x5, ex5⟩ : ∃ y : Int32, y = x3 + 4 := ⟨_, rfl⟩
        refine lv_iinc (v := x5) (lv' := [(3, .int x5), (0, .ref b), (1, .ref (ad 0)), (2, .ref (ad 4))]) E.1 E.2.1 dL_law_635 hl2 (k := 3) rfl (by rw [ex5]; rfl) (by decide) rfl (fun ls3 hl3 => ?_)
        refine lv_goto (tgt := 18) E.1 E.2.1 dL_law_638 (by decide) ?_
        exact ih (i + 4) x5 h4 (by omega) (by rw [ex5, ex3]; exact nI_add i 4) M2 hR2 H2 locs2 ls3 hW2 hS2 (lv_sub hl3 [1, 2, 3, 0] rfl)
      refine lv_aload_n E.1 E.2.1 dL_law_26 rfl (lv_at hl 0 rfl) ?_
      refine lv_iload_n E.1 E.2.1 dL_law_27 rfl (lv_at hl 3 rfl) ?_
      refine va_sld E.1 E.2.1 E.2.2.2.2.2.2.2.1 E.2.2.2.2.2.2.2.2.1 hbA hS h0 dL_law_28 ?_
      refine lv_bipush (v := 31) E.1 E.2.1 dL_law_29 (by decide) ?_
      refine lv_iand E.1 E.2.1 dL_law_31 ?_
      generalize xs x3.toNatClampNeg &&& 31 = z
      by_cases z0 : z = 0
      · subst z0
        exact lv_tableIn (off := 100) (tgt := 132) E.1 E.2.1 dL_law_32 (by decide) (by decide) rfl (by decide) (law_smithy E hR h1 h2 kk H locs ls hW hS hl)
      by_cases z1 : z = 1
      · subst z1
        exact lv_tableIn (off := 133) (tgt := 165) E.1 E.2.1 dL_law_32 (by decide) (by decide) rfl (by decide) (law_walk E hR h1 kk H locs ls hW hS hl)
      by_cases z2 : z = 2
      · subst z2
        exact lv_tableIn (off := 156) (tgt := 188) E.1 E.2.1 dL_law_32 (by decide) (by decide) rfl (by decide) (law_buy E hR h1 kk H locs ls hW hS hl)
      by_cases z3 : z = 3
      · subst z3
        exact lv_tableIn (off := 179) (tgt := 211) E.1 E.2.1 dL_law_32 (by decide) (by decide) rfl (by decide) (law_patch E hR h1 kk H locs ls hW hS hl)
      by_cases z4 : z = 4
      · subst z4
        exact lv_tableIn (off := 202) (tgt := 234) E.1 E.2.1 dL_law_32 (by decide) (by decide) rfl (by decide) (law_hide E hR h1 kk H locs ls hW hS hl)
      by_cases z5 : z = 5
      · subst z5
        exact lv_tableIn (off := 225) (tgt := 257) E.1 E.2.1 dL_law_32 (by decide) (by decide) rfl (by decide) (law_collect E hR h1 kk H locs ls hW hS hl)
      by_cases z6 : z = 6
      · subst z6
        exact lv_tableIn (off := 248) (tgt := 280) E.1 E.2.1 dL_law_32 (by decide) (by decide) rfl (by decide) (law_end E hR h1 kk H locs ls hW hS hl)
      by_cases z7 : z = 7
      · subst z7
        exact lv_tableIn (off := 271) (tgt := 303) E.1 E.2.1 dL_law_32 (by decide) (by decide) rfl (by decide) (law_set E hR h1 h2 kk H locs ls hW hS hl)
      by_cases z8 : z = 8
      · subst z8
        exact lv_tableIn (off := 304) (tgt := 336) E.1 E.2.1 dL_law_32 (by decide) (by decide) rfl (by decide) (law_smithyOf E hR h1 h2 kk H locs ls hW hS hl)
      by_cases z9 : z = 9
      · subst z9
        exact lv_tableIn (off := 337) (tgt := 369) E.1 E.2.1 dL_law_32 (by decide) (by decide) rfl (by decide) (law_why E hR h1 h2 kk H locs ls hW hS hl)
      by_cases z10 : z = 10
      · subst z10
        exact lv_tableIn (off := 370) (tgt := 402) E.1 E.2.1 dL_law_32 (by decide) (by decide) rfl (by decide) (law_mend E hR h1 h2 h3 kk H locs ls hW hS hl)
      by_cases z11 : z = 11
      · subst z11
        exact lv_tableIn (off := 413) (tgt := 445) E.1 E.2.1 dL_law_32 (by decide) (by decide) rfl (by decide) (law_coldIn E hR h1 kk H locs ls hW hS hl)
      by_cases z12 : z = 12
      · subst z12
        exact lv_tableIn (off := 436) (tgt := 468) E.1 E.2.1 dL_law_32 (by decide) (by decide) rfl (by decide) (law_next E hR kk H locs ls hW hS hl)
      by_cases z13 : z = 13
      · subst z13
        exact lv_tableIn (off := 449) (tgt := 481) E.1 E.2.1 dL_law_32 (by decide) (by decide) rfl (by decide) (law_round E hR h1 h2 kk H locs ls hW hS hl)
      by_cases z14 : z = 14
      · subst z14
        exact lv_tableIn (off := 482) (tgt := 514) E.1 E.2.1 dL_law_32 (by decide) (by decide) rfl (by decide) (law_mean E hR kk H locs ls hW hS hl)
      by_cases z15 : z = 15
      · subst z15
        exact lv_tableIn (off := 495) (tgt := 527) E.1 E.2.1 dL_law_32 (by decide) (by decide) rfl (by decide) (law_count E hR h1 kk H locs ls hW hS hl)
      by_cases z16 : z = 16
      · subst z16
        exact lv_tableIn (off := 518) (tgt := 550) E.1 E.2.1 dL_law_32 (by decide) (by decide) rfl (by decide) (law_undo E hR kk H locs ls hW hS hl)
      by_cases z17 : z = 17
      · subst z17
        exact lv_tableIn (off := 531) (tgt := 563) E.1 E.2.1 dL_law_32 (by decide) (by decide) rfl (by decide) (law_type E hR h1 kk H locs ls hW hS hl)
      by_cases z18 : z = 18
      · subst z18
        exact lv_tableIn (off := 554) (tgt := 586) E.1 E.2.1 dL_law_32 (by decide) (by decide) rfl (by decide) (law_clearText E hR kk H locs ls hW hS hl)
      by_cases z19 : z = 19
      · subst z19
        exact lv_tableIn (off := 567) (tgt := 599) E.1 E.2.1 dL_law_32 (by decide) (by decide) rfl (by decide) (law_fault E hR h1 kk H locs ls hW hS hl)
      by_cases z20 : z = 20
      · subst z20
        exact lv_tableIn (off := 590) (tgt := 622) E.1 E.2.1 dL_law_32 (by decide) (by decide) rfl (by decide) (law_play E hR kk H locs ls hW hS hl)
      have hz : z.toInt < 0 ∨ 20 < z.toInt := by
        have w0 := lv_neT (a := 0) z0 (by decide)
        have w1 := lv_neT (a := 1) z1 (by decide)
        have w2 := lv_neT (a := 2) z2 (by decide)
        have w3 := lv_neT (a := 3) z3 (by decide)
        have w4 := lv_neT (a := 4) z4 (by decide)
        have w5 := lv_neT (a := 5) z5 (by decide)
        have w6 := lv_neT (a := 6) z6 (by decide)
        have w7 := lv_neT (a := 7) z7 (by decide)
        have w8 := lv_neT (a := 8) z8 (by decide)
        have w9 := lv_neT (a := 9) z9 (by decide)
        have w10 := lv_neT (a := 10) z10 (by decide)
        have w11 := lv_neT (a := 11) z11 (by decide)
        have w12 := lv_neT (a := 12) z12 (by decide)
        have w13 := lv_neT (a := 13) z13 (by decide)
        have w14 := lv_neT (a := 14) z14 (by decide)
        have w15 := lv_neT (a := 15) z15 (by decide)
        have w16 := lv_neT (a := 16) z16 (by decide)
        have w17 := lv_neT (a := 17) z17 (by decide)
        have w18 := lv_neT (a := 18) z18 (by decide)
        have w19 := lv_neT (a := 19) z19 (by decide)
        have w20 := lv_neT (a := 20) z20 (by decide)
        omega
      exact lv_tableOut (tgt := 635) E.1 E.2.1 dL_law_32 hz (by decide) (kk M hR H locs ls hW hS hl)
