/-! ===== the law's step: what it does, the object does ===== -/
section ACTS
variable {cA : Nat → ClassId} {ad : Nat → Nat} {D : va_G} {M : Mem} {z y w : Int32}
set_option maxHeartbeats 4000000 in
set_option maxRecDepth 100000 in
theorem A_wk (hR : RELA M) {a : Nat} (ha : a ≤ 99) : P_L_acts cA ad D 215 [some (.ref (ad 0)), some (.ref (ad 4)), some (.ref (ad 5)), some (.int z), some (.int y), some (.int w), none, none, none] [.int (nI a)] M (QR 1 RELA) := by
  obtain ⟨N, h, hs, tx, c, hv, hi⟩ := hR
  have h8 := hv.1
  have hx : bd (nI a) 99 := nI_bd (by omega) (by omega)
  refine r_is6 (n := 217) (by decide) rfl dL_acts_215 rfl ?_
  refine r_al1 (n := 218) dL_acts_217 rfl ?_
  refine r_il6 (n := 220) dL_acts_218 rfl ?_
  refine cS_i (n := 223) (np := 2) (n_L_walks hv hx) gL_acts_L_walks rfl (by decide +kernel) rfl (by decide) (by decide) dL_acts_220 rfl rfl (Nat.le_of_ble_eq_true rfl) ?_
  refine r_is7 (n := 225) (by decide) rfl dL_acts_223 rfl ?_
  refine r_al0 (n := 226) dL_acts_225 rfl ?_
  refine r_il6 (n := 228) dL_acts_226 rfl ?_
  refine cV_q (n := 231) (np := 1) (c_X3_walk (c.row10 (walkS (M.1 10) (nI a)).2)) gL_acts_X3_walk rfl (by decide +kernel) rfl (by decide) (by decide) (by omega) rfl rfl dL_acts_228 rfl rfl (Nat.le_of_ble_eq_true rfl) (fun M2 q2 => ?_)
  refine r_il7 (n := 233) dL_acts_231 rfl ?_
  refine r_icmp_ne (tgt := 240) (n := 236) dL_acts_233 (by decide) rfl (fun c_233 => ?_) (fun c_233 => ?_)
  · exact absurd c_233 (fun h => h rfl)
  · refine r_iconst (v := 1) (n := 237) dL_acts_236 (by decide) rfl ?_
    refine r_goto (tgt := 241) dL_acts_237 (by decide) ?_
    exact e_qz dL_acts_241 rfl (Or.inr rfl) rfl (op_rel (er_walk hv hx) (VOK_walk hv _) (IDN_walk hi _) (setp_at _ _ _) q2)

set_option maxHeartbeats 4000000 in
set_option maxRecDepth 100000 in
theorem A_by (hR : RELA M) {a : Nat} (h1 : 1 ≤ a) (ha : a ≤ 999) : P_L_acts cA ad D 269 [some (.ref (ad 0)), some (.ref (ad 4)), some (.ref (ad 5)), some (.int z), some (.int y), some (.int w), none, none, none] [.int (nI a)] M (QR 1 RELA) := by
  obtain ⟨N, h, hs, tx, c, hv, hi⟩ := hR
  have h8 := hv.1
  have g1 : ¬ nI a < 1 := nx_1 (d := a) h1 (by omega)
  have g9 : nI a ≤ 999 := nx_999 (d := a) ha
  refine r_is6 (n := 271) (by decide) rfl dL_acts_269 rfl ?_
  refine r_al1 (n := 272) dL_acts_271 rfl ?_
  refine r_il6 (n := 274) dL_acts_272 rfl ?_
  refine cS_i (n := 277) (np := 2) (n_L_buys hv g1 g9) gL_acts_L_buys rfl (by decide +kernel) rfl (by decide) (by decide) dL_acts_274 rfl rfl (Nat.le_of_ble_eq_true rfl) ?_
  refine r_is7 (n := 279) (by decide) rfl dL_acts_277 rfl ?_
  refine r_al0 (n := 280) dL_acts_279 rfl ?_
  refine r_il6 (n := 282) dL_acts_280 rfl ?_
  refine cV_q (n := 285) (np := 1) (c_X3_buy (c.row10 (buyS (M.1 10) (nI a)).2)) gL_acts_X3_buy rfl (by decide +kernel) rfl (by decide) (by decide) (by omega) rfl rfl dL_acts_282 rfl rfl (Nat.le_of_ble_eq_true rfl) (fun M2 q2 => ?_)
  refine r_il7 (n := 287) dL_acts_285 rfl ?_
  refine r_icmp_ne (tgt := 294) (n := 290) dL_acts_287 (by decide) rfl (fun c_287 => ?_) (fun c_287 => ?_)
  · exact absurd c_287 (fun h => h rfl)
  · refine r_iconst (v := 1) (n := 291) dL_acts_290 (by decide) rfl ?_
    refine r_goto (tgt := 295) dL_acts_291 (by decide) ?_
    exact e_qz dL_acts_295 rfl (Or.inr rfl) rfl (op_rel (er_buy hv g1 g9) (VOK_buy hv _) (IDN_buy hi _) (setp_at _ _ _) q2)

set_option maxHeartbeats 4000000 in
set_option maxRecDepth 100000 in
theorem A_en (hR : RELA M) {a : Nat} (h1 : 1 ≤ a) (ha : a ≤ 99) : P_L_acts cA ad D 519 [some (.ref (ad 0)), some (.ref (ad 4)), some (.ref (ad 5)), some (.int z), some (.int y), some (.int w), none, none, none] [.int (nI a)] M (QR 1 RELA) := by
  obtain ⟨N, h, hs, tx, c, hv, hi⟩ := hR
  have h8 := hv.1
  refine r_is6 (n := 521) (by decide) rfl dL_acts_519 rfl ?_
  refine r_al1 (n := 522) dL_acts_521 rfl ?_
  refine r_iconst (v := 1) (n := 523) dL_acts_522 (by decide) rfl ?_
  refine a_g (n := 524) (k := 1) (by decide) (by decide) dL_acts_523 rfl ?_
  refine r_il6 (n := 526) dL_acts_524 rfl ?_
  refine r_iadd (n := 527) dL_acts_526 rfl ?_
  refine r_sipush (v := 9999) (n := 530) dL_acts_527 (by decide) rfl ?_
  refine r_icmp_le (tgt := 550) (n := 533) dL_acts_530 (by decide) rfl (fun c_530 => ?_) (fun c_530 => ?_)
  · refine r_al1 (n := 551) dL_acts_550 rfl ?_
    refine r_al2 (n := 552) dL_acts_551 rfl ?_
    refine r_il6 (n := 554) dL_acts_552 rfl ?_
    refine cS_i (n := 557) (np := 3) (n_L_ends hv h1 ha c_530) gL_acts_L_ends rfl (by decide +kernel) rfl (by decide) (by decide) dL_acts_554 rfl rfl (Nat.le_of_ble_eq_true rfl) ?_
    refine r_is7 (n := 559) (by decide) rfl dL_acts_557 rfl ?_
    refine r_al0 (n := 560) dL_acts_559 rfl ?_
    refine r_il6 (n := 562) dL_acts_560 rfl ?_
    refine cV_q (n := 565) (np := 1) (c_X3_end (c.row10 (endS (M.1 10) N (nI a)).2) hv.2.1 h8) gL_acts_X3_end rfl (by decide +kernel) rfl (by decide) (by decide) (by omega) rfl rfl dL_acts_562 rfl rfl (Nat.le_of_ble_eq_true rfl) (fun M2 q2 => ?_)
    refine r_il7 (n := 567) dL_acts_565 rfl ?_
    refine r_icmp_ne (tgt := 574) (n := 570) dL_acts_567 (by decide) rfl (fun c_567 => ?_) (fun c_567 => ?_)
    · exact absurd c_567 (fun h => h rfl)
    · refine r_iconst (v := 1) (n := 571) dL_acts_570 (by decide) rfl ?_
      refine r_goto (tgt := 575) dL_acts_571 (by decide) ?_
      exact e_qz dL_acts_575 rfl (Or.inr rfl) rfl (op_rel (er_end hv _) (VOK_endS hv _) (IDN_end hi _) (setp_at _ _ _) q2)
  · refine r_al0 (n := 534) dL_acts_533 rfl ?_
    refine r_il6 (n := 536) dL_acts_534 rfl ?_
    refine cV_q (n := 539) (np := 1) (c_X3_end c hv.2.1 h8) gL_acts_X3_end rfl (by decide +kernel) rfl (by decide) (by decide) (by omega) rfl rfl dL_acts_536 rfl rfl (Nat.le_of_ble_eq_true rfl) (fun M2 q2 => ?_)
    have eE : endS (M.1 10) N (nI a) = (LR, M.1 10) := by
      unfold endS
      rw [if_neg (nx_1 (d := a) h1 (by omega)), if_pos (nx_99 (d := a) ha), if_neg c_530]
    rw [eE]
    rw [eE] at q2
    refine r_ldc (n := 541) dL_acts_539 k_L_acts_24 rfl ?_
    refine r_icmp_ne (tgt := 548) (n := 544) dL_acts_541 (by decide) rfl (fun c_541 => ?_) (fun c_541 => ?_)
    · exact absurd c_541 (fun h => h rfl)
    · refine r_iconst (v := 1) (n := 545) dL_acts_544 (by decide) rfl ?_
      refine r_goto (tgt := 549) dL_acts_545 (by decide) ?_
      exact e_qz dL_acts_549 rfl (Or.inr rfl) rfl (op_rel (fun _ => rfl) hv hi rfl q2)

set_option maxHeartbeats 4000000 in
set_option maxRecDepth 100000 in
theorem A_mp (hR : RELA M) {k : Nat} (hkk : ∀ N, M.1 10 0 = nI N → N ≤ 8 → k < N) (hw : w ≤ 17) : P_L_acts cA ad D 442 [some (.ref (ad 0)), some (.ref (ad 4)), some (.ref (ad 5)), some (.int z), some (.int y), some (.int w), some (.int (nI k)), none, none] [.int (mendS (M.1 10) k false).1] (setp M 10 (mendS (M.1 10) k false).2) (QR 1 RELA) := by
  obtain ⟨N, h, hs, tx, c, hv, hi⟩ := hR
  have h8 := hv.1
  have hk := hkk N hv.2.1 h8
  have eM : mendJ (M.1 10) (nI k) false = mendS (M.1 10) k false := by
    unfold mendJ
    rw [if_pos ⟨nI_pos (by omega), by rw [hv.2.1]; exact nI_lt hk (by omega)⟩, nI_clamp (by omega)]
  refine r_is7 (n := 444) (by decide) rfl dL_acts_442 rfl ?_
  refine r_il5 (n := 446) dL_acts_444 rfl ?_
  refine r_bipush (v := 18) (n := 448) dL_acts_446 (by decide) rfl ?_
  refine r_icmp_ge (tgt := 460) (n := 451) dL_acts_448 (by decide) rfl (fun c_448 => ?_) (fun c_448 => ?_)
  · exact absurd c_448 (fun q => wlt hw q (by decide))
  · refine r_al0 (n := 452) dL_acts_451 rfl ?_
    refine r_il6 (n := 454) dL_acts_452 rfl ?_
    refine cV_q (n := 457) (np := 1) (by have k := c_X3_patch (cA := cA) (ad := ad) (D := D) (v := nI k) (c.row10 (mendS (M.1 10) k false).2); rw [eM] at k; exact k) gL_acts_X3_patch rfl (by decide +kernel) rfl (by decide) (by decide) (by omega) rfl rfl dL_acts_454 rfl rfl (Nat.le_of_ble_eq_true rfl) (fun M2 q2 => ?_)
    refine r_goto (tgt := 482) dL_acts_457 (by decide) ?_
    refine r_il7 (n := 484) dL_acts_482 rfl ?_
    refine r_icmp_ne (tgt := 491) (n := 487) dL_acts_484 (by decide) rfl (fun c_484 => ?_) (fun c_484 => ?_)
    · exact absurd c_484 (fun h => h rfl)
    · refine r_iconst (v := 1) (n := 488) dL_acts_487 (by decide) rfl ?_
      refine r_goto (tgt := 492) dL_acts_488 (by decide) ?_
      exact e_qz dL_acts_492 rfl (Or.inr rfl) rfl (op_rel (er_mend hv hk false) (VOK_mend hv hk false) (IDN_mend hi hk false) (setp_at _ _ _) q2)

set_option maxHeartbeats 4000000 in
set_option maxRecDepth 100000 in
theorem A_mh (hR : RELA M) {k : Nat} (hkk : ∀ N, M.1 10 0 = nI N → N ≤ 8 → k < N) (hw : ¬ w ≤ 17) (hw2 : ¬ 20 ≤ w) : P_L_acts cA ad D 442 [some (.ref (ad 0)), some (.ref (ad 4)), some (.ref (ad 5)), some (.int z), some (.int y), some (.int w), some (.int (nI k)), none, none] [.int (mendS (M.1 10) k true).1] (setp M 10 (mendS (M.1 10) k true).2) (QR 1 RELA) := by
  obtain ⟨N, h, hs, tx, c, hv, hi⟩ := hR
  have h8 := hv.1
  have hk := hkk N hv.2.1 h8
  have eM : mendJ (M.1 10) (nI k) true = mendS (M.1 10) k true := by
    unfold mendJ
    rw [if_pos ⟨nI_pos (by omega), by rw [hv.2.1]; exact nI_lt hk (by omega)⟩, nI_clamp (by omega)]
  refine r_is7 (n := 444) (by decide) rfl dL_acts_442 rfl ?_
  refine r_il5 (n := 446) dL_acts_444 rfl ?_
  refine r_bipush (v := 18) (n := 448) dL_acts_446 (by decide) rfl ?_
  refine r_icmp_ge (tgt := 460) (n := 451) dL_acts_448 (by decide) rfl (fun c_448 => ?_) (fun c_448 => ?_)
  · refine r_il5 (n := 462) dL_acts_460 rfl ?_
    refine r_bipush (v := 20) (n := 464) dL_acts_462 (by decide) rfl ?_
    refine r_icmp_ge (tgt := 476) (n := 467) dL_acts_464 (by decide) rfl (fun c_464 => ?_) (fun c_464 => ?_)
    · exact absurd c_464 hw2
    · refine r_al0 (n := 468) dL_acts_467 rfl ?_
      refine r_il6 (n := 470) dL_acts_468 rfl ?_
      refine cV_q (n := 473) (np := 1) (by have k := c_X3_hide (cA := cA) (ad := ad) (D := D) (v := nI k) (c.row10 (mendS (M.1 10) k true).2); rw [eM] at k; exact k) gL_acts_X3_hide rfl (by decide +kernel) rfl (by decide) (by decide) (by omega) rfl rfl dL_acts_470 rfl rfl (Nat.le_of_ble_eq_true rfl) (fun M2 q2 => ?_)
      refine r_goto (tgt := 482) dL_acts_473 (by decide) ?_
      refine r_il7 (n := 484) dL_acts_482 rfl ?_
      refine r_icmp_ne (tgt := 491) (n := 487) dL_acts_484 (by decide) rfl (fun c_484 => ?_) (fun c_484 => ?_)
      · exact absurd c_484 (fun h => h rfl)
      · refine r_iconst (v := 1) (n := 488) dL_acts_487 (by decide) rfl ?_
        refine r_goto (tgt := 492) dL_acts_488 (by decide) ?_
        exact e_qz dL_acts_492 rfl (Or.inr rfl) rfl (op_rel (er_mend hv hk true) (VOK_mend hv hk true) (IDN_mend hi hk true) (setp_at _ _ _) q2)
  · exact absurd c_448 (fun q => q (by rw [i_le] at hw ⊢; have e1 : (17 : Int32).toInt = 17 := rfl; have e2 : (18 : Int32).toInt = 18 := rfl; omega))

set_option maxHeartbeats 4000000 in
set_option maxRecDepth 100000 in
theorem A_mc (hR : RELA M) {k : Nat} (hkk : ∀ N, M.1 10 0 = nI N → N ≤ 8 → k < N) (hw : 20 ≤ w) : P_L_acts cA ad D 442 [some (.ref (ad 0)), some (.ref (ad 4)), some (.ref (ad 5)), some (.int z), some (.int y), some (.int w), some (.int (nI k)), none, none] [.int (collS (M.1 10) k).1] (setp M 10 (collS (M.1 10) k).2) (QR 1 RELA) := by
  obtain ⟨N, h, hs, tx, c, hv, hi⟩ := hR
  have h8 := hv.1
  have hk := hkk N hv.2.1 h8
  have eM : collJ (M.1 10) (nI k) = collS (M.1 10) k := by
    unfold collJ
    rw [if_pos ⟨nI_pos (by omega), by rw [hv.2.1]; exact nI_lt hk (by omega)⟩, nI_clamp (by omega)]
  refine r_is7 (n := 444) (by decide) rfl dL_acts_442 rfl ?_
  refine r_il5 (n := 446) dL_acts_444 rfl ?_
  refine r_bipush (v := 18) (n := 448) dL_acts_446 (by decide) rfl ?_
  refine r_icmp_ge (tgt := 460) (n := 451) dL_acts_448 (by decide) rfl (fun c_448 => ?_) (fun c_448 => ?_)
  · refine r_il5 (n := 462) dL_acts_460 rfl ?_
    refine r_bipush (v := 20) (n := 464) dL_acts_462 (by decide) rfl ?_
    refine r_icmp_ge (tgt := 476) (n := 467) dL_acts_464 (by decide) rfl (fun c_464 => ?_) (fun c_464 => ?_)
    · refine r_al0 (n := 477) dL_acts_476 rfl ?_
      refine r_il6 (n := 479) dL_acts_477 rfl ?_
      refine cV_q (n := 482) (np := 1) (by have k := c_X3_collect (cA := cA) (ad := ad) (D := D) (v := nI k) (c.row10 (collS (M.1 10) k).2); rw [eM] at k; exact k) gL_acts_X3_collect rfl (by decide +kernel) rfl (by decide) (by decide) (by omega) rfl rfl dL_acts_479 rfl rfl (Nat.le_of_ble_eq_true rfl) (fun M2 q2 => ?_)
      refine r_il7 (n := 484) dL_acts_482 rfl ?_
      refine r_icmp_ne (tgt := 491) (n := 487) dL_acts_484 (by decide) rfl (fun c_484 => ?_) (fun c_484 => ?_)
      · exact absurd c_484 (fun h => h rfl)
      · refine r_iconst (v := 1) (n := 488) dL_acts_487 (by decide) rfl ?_
        refine r_goto (tgt := 492) dL_acts_488 (by decide) ?_
        exact e_qz dL_acts_492 rfl (Or.inr rfl) rfl (op_rel (er_coll hv hk) (VOK_coll hv hk) (IDN_coll hi hk) (setp_at _ _ _) q2)
    · exact absurd c_464 (fun q => q hw)
  · exact absurd c_448 (fun q => q (by rw [i_le] at hw ⊢; have e1 : (20 : Int32).toInt = 20 := rfl; have e2 : (18 : Int32).toInt = 18 := rfl; omega))

set_option maxHeartbeats 4000000 in
set_option maxRecDepth 100000 in
theorem A_m4 (hR : RELA M) {k : Nat} (hkk : ∀ N, M.1 10 0 = nI N → N ≤ 8 → k < N) {x7 : Int32} : P_L_acts cA ad D 400 [some (.ref (ad 0)), some (.ref (ad 4)), some (.ref (ad 5)), some (.int z), some (.int y), some (.int w), some (.int (nI k)), some (.int (x7)), none] [] M (QR 1 RELA) := by
  obtain ⟨N, h, hs, tx, c, hv, hi⟩ := hR
  have h8 := hv.1
  have hR : RELA M := ⟨N, h, hs, tx, c, hv, hi⟩
  have hk := hkk N hv.2.1 h8
  refine r_il5 (n := 402) dL_acts_400 rfl ?_
  refine r_bipush (v := 20) (n := 404) dL_acts_402 (by decide) rfl ?_
  refine r_icmp_ge (tgt := 432) (n := 407) dL_acts_404 (by decide) rfl (fun c_404 => ?_) (fun c_404 => ?_)
  · refine r_al1 (n := 433) dL_acts_432 rfl ?_
    refine r_al2 (n := 434) dL_acts_433 rfl ?_
    refine r_bipush (v := 8) (n := 436) dL_acts_434 (by decide) rfl ?_
    refine r_il6 (n := 438) dL_acts_436 rfl ?_
    refine r_imul (n := 439) dL_acts_438 rfl ?_
    rw [show (8 : Int32) * nI k = nI (8 * k) from by rw [show (8 : Int32) = nI 8 from rfl, pk_mul]]
    refine cS_i (n := 442) (np := 3) (n_L_collects hv hk) gL_acts_L_collects rfl (by decide +kernel) rfl (by decide) (by decide) dL_acts_439 rfl rfl (Nat.le_of_ble_eq_true rfl) ?_
    refine r_dr7 ?_
    exact A_mc hR hkk c_404
  · refine r_al1 (n := 408) dL_acts_407 rfl ?_
    refine r_al2 (n := 409) dL_acts_408 rfl ?_
    refine r_bipush (v := 8) (n := 411) dL_acts_409 (by decide) rfl ?_
    refine r_il6 (n := 413) dL_acts_411 rfl ?_
    refine r_imul (n := 414) dL_acts_413 rfl ?_
    rw [show (8 : Int32) * nI k = nI (8 * k) from by rw [show (8 : Int32) = nI 8 from rfl, pk_mul]]
    refine r_il5 (n := 416) dL_acts_414 rfl ?_
    refine r_bipush (v := 17) (n := 418) dL_acts_416 (by decide) rfl ?_
    refine r_icmp_le (tgt := 425) (n := 421) dL_acts_418 (by decide) rfl (fun c_418 => ?_) (fun c_418 => ?_)
    · refine r_iconst (v := 0) (n := 426) dL_acts_425 (by decide) rfl ?_
      
      first
        | (refine cS_i (n := 429) (np := 4) (n_L_mends hv hk false) gL_acts_L_mends rfl (by decide +kernel) rfl (by decide) (by decide) dL_acts_426 rfl rfl (Nat.le_of_ble_eq_true rfl) ?_
           refine r_goto (tgt := 442) dL_acts_429 (by decide) ?_
           refine r_dr7 ?_
           exact A_mp hR hkk c_418)
        | (refine cS_i (n := 429) (np := 4) (n_L_mends hv hk true) gL_acts_L_mends rfl (by decide +kernel) rfl (by decide) (by decide) dL_acts_426 rfl rfl (Nat.le_of_ble_eq_true rfl) ?_
           refine r_goto (tgt := 442) dL_acts_429 (by decide) ?_
           refine r_dr7 ?_
           exact A_mh hR hkk c_418 c_404)
      --
    · refine r_iconst (v := 1) (n := 422) dL_acts_421 (by decide) rfl ?_
      refine r_goto (tgt := 426) dL_acts_422 (by decide) ?_
      
      first
        | (refine cS_i (n := 429) (np := 4) (n_L_mends hv hk false) gL_acts_L_mends rfl (by decide +kernel) rfl (by decide) (by decide) dL_acts_426 rfl rfl (Nat.le_of_ble_eq_true rfl) ?_
           refine r_goto (tgt := 442) dL_acts_429 (by decide) ?_
           refine r_dr7 ?_
           exact A_mp hR hkk c_418)
        | (refine cS_i (n := 429) (np := 4) (n_L_mends hv hk true) gL_acts_L_mends rfl (by decide +kernel) rfl (by decide) (by decide) dL_acts_426 rfl rfl (Nat.le_of_ble_eq_true rfl) ?_
           refine r_goto (tgt := 442) dL_acts_429 (by decide) ?_
           refine r_dr7 ?_
           exact A_mh hR hkk c_418 c_404)
      --

set_option maxHeartbeats 4000000 in
set_option maxRecDepth 100000 in
theorem A_sr (hR : RELA M) {N : Nat} (hN : M.1 10 0 = nI N) (hv : VOK N (M.1 10)) : ∀ (m i k : Nat), i + m = 8 → k < N → P_L_acts cA ad D 356 [some (.ref (ad 0)), some (.ref (ad 4)), some (.ref (ad 5)), some (.int z), some (.int y), some (.int w), some (.int (nI k)), some (.int (nI i)), none] [] M (QR 1 RELA) := by
  have h8 := hv.1
  have HK : ∀ k, k < N → ∀ N2, M.1 10 0 = nI N2 → N2 ≤ 8 → k < N2 := fun k hk N2 e1 e2 => by
    have e3 : N2 = N := nI_un e2 h8 (e1.symm.trans hN)
    rw [e3]; exact hk
  intro m
  induction m with
  | zero =>
    intro i k hi hk
    have : i = 8 := by omega
    subst this
    refine r_il7 (n := 358) dL_acts_356 rfl ?_
    refine r_bipush (v := 8) (n := 360) dL_acts_358 (by decide) rfl ?_
    refine r_icmp_ge (tgt := 400) (n := 363) dL_acts_360 (by decide) rfl (fun c_360 => ?_) (fun c_360 => ?_)
    · exact A_m4 hR (HK k hk)
    · exact absurd c_360 (fun q => q (by decide))
  | succ m ih =>
    intro i k hi hk
    refine r_il7 (n := 358) dL_acts_356 rfl ?_
    refine r_bipush (v := 8) (n := 360) dL_acts_358 (by decide) rfl ?_
    refine r_icmp_ge (tgt := 400) (n := 363) dL_acts_360 (by decide) rfl (fun c_360 => ?_) (fun c_360 => ?_)
    · exact absurd c_360 (nI_ge (a := i) (b := 8) (by omega) (by decide))
    · refine r_al2 (n := 364) dL_acts_363 rfl ?_
      refine r_bipush (v := 8) (n := 366) dL_acts_364 (by decide) rfl ?_
      refine r_il6 (n := 368) dL_acts_366 rfl ?_
      refine r_imul (n := 369) dL_acts_368 rfl ?_
      rw [show (8 : Int32) * nI k = nI (8 * k) from by rw [show (8 : Int32) = nI 8 from rfl, pk_mul]]
      refine a_f0 (k := k) (by omega) rfl (n := 370) dL_acts_369 rfl ?_
      refine r_al1 (n := 371) dL_acts_370 rfl ?_
      refine r_iconst (v := 2) (n := 372) dL_acts_371 (by decide) rfl ?_
      refine a_g (n := 373) (k := 2) (by decide) (by decide) dL_acts_372 rfl ?_
      refine r_icmp_eq (tgt := 400) (n := 376) dL_acts_373 (by decide) rfl (fun c_373 => ?_) (fun c_373 => ?_)
      · exact A_m4 hR (HK k hk)
      · refine r_il4 (n := 378) dL_acts_376 rfl ?_
        refine r_bipush (v := 7) (n := 380) dL_acts_378 (by decide) rfl ?_
        refine r_irem (n := 381) dL_acts_380 (by decide) rfl ?_
        refine r_if_le (tgt := 400) (n := 384) dL_acts_381 (by decide) rfl (fun c_381 => ?_) (fun c_381 => ?_)
        · exact A_m4 hR (HK k hk)
        · refine r_il6 (n := 386) dL_acts_384 rfl ?_
          refine r_iconst (v := 1) (n := 387) dL_acts_386 (by decide) rfl ?_
          refine r_iadd (n := 388) dL_acts_387 rfl ?_
          refine r_al1 (n := 389) dL_acts_388 rfl ?_
          refine r_iconst (v := 0) (n := 390) dL_acts_389 (by decide) rfl ?_
          refine a_g (n := 391) (k := 0) (by decide) (by decide) dL_acts_390 rfl ?_
          refine r_irem (n := 392) dL_acts_391 (by rw [hN]; exact nI_ne0 (by omega) (by omega)) rfl ?_
          rw [hv.2.1, show nI k + 1 = nI (k + 1) from nI_1 k, pk_mod (by omega) (by omega) (by omega)]
          refine r_is6 (n := 394) (by decide) rfl dL_acts_392 rfl ?_
          refine r_ii7 (n := 397) (by decide) rfl dL_acts_394 (nI_1 i) rfl ?_
          refine r_goto (tgt := 356) dL_acts_397 (by decide) ?_
          exact ih (i + 1) ((k + 1) % N) (by omega) (Nat.mod_lt _ (by omega))

set_option maxHeartbeats 4000000 in
set_option maxRecDepth 100000 in
theorem A_md (hR : RELA M) {Y : Nat} (hY : Y < 10000000) : P_L_acts cA ad D 303 [some (.ref (ad 0)), some (.ref (ad 4)), some (.ref (ad 5)), some (.int z), some (.int (nI Y)), some (.int w), none, none, none] [] M (QR 1 RELA) := by
  obtain ⟨N, h, hs, tx, c, hv, hi⟩ := hR
  have h8 := hv.1
  have hR : RELA M := ⟨N, h, hs, tx, c, hv, hi⟩
  refine r_al1 (n := 304) dL_acts_303 rfl ?_
  refine r_iconst (v := 0) (n := 305) dL_acts_304 (by decide) rfl ?_
  refine a_g (n := 306) (k := 0) (by decide) (by decide) dL_acts_305 rfl ?_
  refine r_if_ne (tgt := 345) (n := 309) dL_acts_306 (by decide) rfl (fun c_306 => ?_) (fun c_306 => ?_)
  · have hN : 0 < N := by
      rcases Nat.eq_zero_or_pos N with q | q
      · subst q; exact absurd hv.2.1 c_306
      · exact q
    refine r_il4 (n := 347) dL_acts_345 rfl ?_
    refine r_al1 (n := 348) dL_acts_347 rfl ?_
    refine r_iconst (v := 0) (n := 349) dL_acts_348 (by decide) rfl ?_
    refine a_g (n := 350) (k := 0) (by decide) (by decide) dL_acts_349 rfl ?_
    refine r_irem (n := 351) dL_acts_350 c_306 rfl ?_
    rw [hv.2.1, pk_mod (by omega) hN (by omega)]
    refine r_is6 (n := 353) (by decide) rfl dL_acts_351 rfl ?_
    refine r_iconst (v := 0) (n := 354) dL_acts_353 (by decide) rfl ?_
    refine r_is7 (n := 356) (by decide) rfl dL_acts_354 rfl ?_
    exact A_sr hR hv.2.1 hv 8 0 (Y % N) (by omega) (Nat.mod_lt _ hN)
  · have hN0 : N = 0 := nI_un h8 (by decide) (hv.2.1.symm.trans c_306)
    have eP : ∀ b, mendJ (M.1 10) 0 b = (IA, M.1 10) := fun b => by
      unfold mendJ
      rw [if_neg (fun q => by have q2 := q.2; rw [c_306] at q2; exact absurd q2 (by decide))]
    have eC : collJ (M.1 10) 0 = (IA, M.1 10) := by
      unfold collJ
      rw [if_neg (fun q => by have q2 := q.2; rw [c_306] at q2; exact absurd q2 (by decide))]
    refine r_al0 (n := 310) dL_acts_309 rfl ?_
    refine r_iconst (v := 0) (n := 311) dL_acts_310 (by decide) rfl ?_
    refine cV_q (n := 314) (np := 1) (by have k := c_X3_patch (cA := cA) (ad := ad) (D := D) (v := 0) c; rw [eP false] at k; exact k) gL_acts_X3_patch rfl (by decide +kernel) rfl (by decide) (by decide) (by omega) rfl rfl dL_acts_311 rfl rfl (Nat.le_of_ble_eq_true rfl) (fun M2 q2 => ?_)
    refine r_ldc (n := 316) dL_acts_314 k_L_acts_65 rfl ?_
    refine r_icmp_ne (tgt := 343) (n := 319) dL_acts_316 (by decide) rfl (fun c_316 => ?_) (fun c_316 => ?_)
    · exact absurd c_316 (fun h => h rfl)
    · have eU : M2.1 10 = M.1 10 := op_10 q2
      obtain ⟨N3, h3, hs3, tx3, c3, hv3, hi3⟩ := op_rel (fun _ => rfl) hv hi rfl q2
      rw [eU] at c3 hv3 hi3
      clear q2
      revert eU c3
      generalize M2 = M3
      intro eU c3
      refine r_al0 (n := 320) dL_acts_319 rfl ?_
      refine r_iconst (v := 0) (n := 321) dL_acts_320 (by decide) rfl ?_
      refine cV_q (n := 324) (np := 1) (by have k := c_X3_hide (cA := cA) (ad := ad) (D := D) (v := 0) c3; rw [eP true] at k; exact k) gL_acts_X3_hide rfl (by decide +kernel) rfl (by decide) (by decide) (by omega) rfl rfl dL_acts_321 rfl rfl (Nat.le_of_ble_eq_true rfl) (fun M2 q2 => ?_)
      refine r_ldc (n := 326) dL_acts_324 k_L_acts_65 rfl ?_
      refine r_icmp_ne (tgt := 343) (n := 329) dL_acts_326 (by decide) rfl (fun c_326 => ?_) (fun c_326 => ?_)
      · exact absurd c_326 (fun h => h rfl)
      · have eU2 : M2.1 10 = M.1 10 := (op_10 q2).trans eU
        obtain ⟨N4, h4, hs4, tx4, c4, hv4, hi4⟩ := op_rel (fun _ => rfl) hv hi eU q2
        rw [eU2] at c4 hv4 hi4
        clear q2
        revert eU2 c4
        generalize M2 = M4
        intro eU2 c4
        refine r_al0 (n := 330) dL_acts_329 rfl ?_
        refine r_iconst (v := 0) (n := 331) dL_acts_330 (by decide) rfl ?_
        refine cV_q (n := 334) (np := 1) (by have k := c_X3_collect (cA := cA) (ad := ad) (D := D) (v := 0) c4; rw [eC] at k; exact k) gL_acts_X3_collect rfl (by decide +kernel) rfl (by decide) (by decide) (by omega) rfl rfl dL_acts_331 rfl rfl (Nat.le_of_ble_eq_true rfl) (fun M2 q2 => ?_)
        refine r_ldc (n := 336) dL_acts_334 k_L_acts_65 rfl ?_
        refine r_icmp_ne (tgt := 343) (n := 339) dL_acts_336 (by decide) rfl (fun c_336 => ?_) (fun c_336 => ?_)
        · exact absurd c_336 (fun h => h rfl)
        · refine r_iconst (v := 1) (n := 340) dL_acts_339 (by decide) rfl ?_
          refine r_goto (tgt := 344) dL_acts_340 (by decide) ?_
          exact e_qz dL_acts_344 rfl (Or.inr rfl) rfl (op_rel (fun _ => rfl) hv hi eU2 q2)

set_option maxHeartbeats 4000000 in
set_option maxRecDepth 100000 in
theorem A_s0 (hR : RELA M) {Y : Nat} (hY : Y < 10000000) : P_L_acts cA ad D 582 [some (.ref (ad 0)), some (.ref (ad 4)), some (.ref (ad 5)), some (.int z), some (.int (nI Y)), some (.int w), some (.int (0)), none, none] [] M (QR 1 RELA) := by
  obtain ⟨N, h, hs, tx, c, hv, hi⟩ := hR
  have h8 := hv.1
  have eS : ∀ X, 1 ≤ X → X ≤ 99 → setS (M.1 10) 0 (nI X) = (M.1 10 10, upd (M.1 10) 10 (nI X)) := fun X h1 h2 => by
    have hr : inRng 0 (nI X) = true := by
      show rng (nI X) 1 99 = true
      exact rng_t (show ¬ nI X < 1 from nI_nlt (a := X) (b := 1) h1 (by omega)) (show nI X ≤ 99 from nI_le (a := X) (b := 99) h2 (by decide))
    unfold setS
    rw [if_pos hr]
    rfl
  refine r_al1 (n := 583) dL_acts_582 rfl ?_
  refine r_bipush (v := 10) (n := 585) dL_acts_583 (by decide) rfl ?_
  refine r_il6 (n := 587) dL_acts_585 rfl ?_
  refine r_iadd (n := 588) dL_acts_587 rfl ?_
  refine a_g (n := 589) (k := 10) (by decide) (by decide) dL_acts_588 rfl ?_
  refine r_is7 (n := 591) (by decide) rfl dL_acts_589 rfl ?_
  refine r_al1 (n := 592) dL_acts_591 rfl ?_
  refine r_bipush (v := 10) (n := 594) dL_acts_592 (by decide) rfl ?_
  refine r_il6 (n := 596) dL_acts_594 rfl ?_
  refine r_iadd (n := 597) dL_acts_596 rfl ?_
  refine r_il6 (n := 599) dL_acts_597 rfl ?_
  refine r_if_ne (tgt := 614) (n := 602) dL_acts_599 (by decide) rfl (fun c_599 => ?_) (fun c_599 => ?_)
  · exact absurd c_599 (fun h => h rfl)
  · refine r_iconst (v := 1) (n := 603) dL_acts_602 (by decide) rfl ?_
    refine r_il4 (n := 605) dL_acts_603 rfl ?_
    refine r_iconst (v := 4) (n := 606) dL_acts_605 (by decide) rfl ?_
    refine r_idiv (n := 607) dL_acts_606 (by decide) rfl ?_
    refine r_bipush (v := 99) (n := 609) dL_acts_607 (by decide) rfl ?_
    refine r_irem (n := 610) dL_acts_609 (by decide) rfl ?_
    refine r_iadd (n := 611) dL_acts_610 rfl ?_
    refine r_goto (tgt := 656) dL_acts_611 (by decide) ?_
    refine a_put_g (n := 657) (k := 10) (by decide) (by decide) dL_acts_656 rfl ?_
    have eX : (1 : Int32) + rmI (nI Y / 4) 99 = nI (1 + Y / 4 % 99) := by
      rw [show (4 : Int32) = nI 4 from rfl, show (99 : Int32) = nI 99 from rfl, pk_div (by omega) (by decide) (by decide), pk_mod (by omega) (by decide) (by decide)]
      exact nI_add 1 _
    rw [eX]
    obtain ⟨X, hXe⟩ : ∃ X, 1 + Y / 4 % 99 = X := ⟨_, rfl⟩
    rw [hXe]
    have eSX := eS X (by omega) (by omega)
    refine r_al0 (n := 658) dL_acts_657 rfl ?_
    refine r_il6 (n := 660) dL_acts_658 rfl ?_
    refine r_al1 (n := 661) dL_acts_660 rfl ?_
    refine r_bipush (v := 10) (n := 663) dL_acts_661 (by decide) rfl ?_
    refine r_il6 (n := 665) dL_acts_663 rfl ?_
    refine r_iadd (n := 666) dL_acts_665 rfl ?_
    refine a_g (n := 667) (k := 10) (by decide) (by decide) dL_acts_666 rfl ?_
    rw [mput_at]
    refine cV_q (n := 670) (np := 2) (by have k := c_X3_set (cA := cA) (ad := ad) (D := D) (w := 0) (v := nI X) (c.row10 (upd (M.1 10) 10 (nI X))); rw [eSX] at k; exact k) gL_acts_X3_set rfl (by decide +kernel) rfl (by decide) (by decide) (by omega) rfl rfl dL_acts_667 rfl rfl (Nat.le_of_ble_eq_true rfl) (fun M2 q2 => ?_)
    refine r_il7 (n := 672) dL_acts_670 rfl ?_
    refine r_icmp_ne (tgt := 679) (n := 675) dL_acts_672 (by decide) rfl (fun c_672 => ?_) (fun c_672 => ?_)
    · exact absurd c_672 (fun h => h rfl)
    · refine r_iconst (v := 1) (n := 676) dL_acts_675 (by decide) rfl ?_
      refine r_goto (tgt := 680) dL_acts_676 (by decide) ?_
      exact e_qz dL_acts_680 rfl (Or.inr rfl) rfl (by have g1 := er_set hv 0 (nI X); have g2 := VOK_set hv 0 (nI X); have g3 := IDN_set hi 0 (nI X); rw [eSX] at g1 g2 g3; exact op_rel g1 g2 g3 (setp_at _ _ _) q2)

set_option maxHeartbeats 4000000 in
set_option maxRecDepth 100000 in
theorem A_s1 (hR : RELA M) {Y : Nat} (hY : Y < 10000000) : P_L_acts cA ad D 582 [some (.ref (ad 0)), some (.ref (ad 4)), some (.ref (ad 5)), some (.int z), some (.int (nI Y)), some (.int w), some (.int (1)), none, none] [] M (QR 1 RELA) := by
  obtain ⟨N, h, hs, tx, c, hv, hi⟩ := hR
  have h8 := hv.1
  have eS : ∀ X, 1 ≤ X → X ≤ 24 → setS (M.1 10) 1 (nI X) = (M.1 10 11, upd (M.1 10) 11 (nI X)) := fun X h1 h2 => by
    have hr : inRng 1 (nI X) = true := by
      show rng (nI X) 1 24 = true
      exact rng_t (show ¬ nI X < 1 from nI_nlt (a := X) (b := 1) h1 (by omega)) (show nI X ≤ 24 from nI_le (a := X) (b := 24) h2 (by decide))
    unfold setS
    rw [if_pos hr]
    rfl
  refine r_al1 (n := 583) dL_acts_582 rfl ?_
  refine r_bipush (v := 10) (n := 585) dL_acts_583 (by decide) rfl ?_
  refine r_il6 (n := 587) dL_acts_585 rfl ?_
  refine r_iadd (n := 588) dL_acts_587 rfl ?_
  refine a_g (n := 589) (k := 11) (by decide) (by decide) dL_acts_588 rfl ?_
  refine r_is7 (n := 591) (by decide) rfl dL_acts_589 rfl ?_
  refine r_al1 (n := 592) dL_acts_591 rfl ?_
  refine r_bipush (v := 10) (n := 594) dL_acts_592 (by decide) rfl ?_
  refine r_il6 (n := 596) dL_acts_594 rfl ?_
  refine r_iadd (n := 597) dL_acts_596 rfl ?_
  refine r_il6 (n := 599) dL_acts_597 rfl ?_
  refine r_if_ne (tgt := 614) (n := 602) dL_acts_599 (by decide) rfl (fun c_599 => ?_) (fun c_599 => ?_)
  · refine r_il6 (n := 616) dL_acts_614 rfl ?_
    refine r_iconst (v := 1) (n := 617) dL_acts_616 (by decide) rfl ?_
    refine r_icmp_ne (tgt := 632) (n := 620) dL_acts_617 (by decide) rfl (fun c_617 => ?_) (fun c_617 => ?_)
    · exact absurd c_617 (fun h => h rfl)
    · refine r_iconst (v := 1) (n := 621) dL_acts_620 (by decide) rfl ?_
      refine r_il4 (n := 623) dL_acts_621 rfl ?_
      refine r_iconst (v := 4) (n := 624) dL_acts_623 (by decide) rfl ?_
      refine r_idiv (n := 625) dL_acts_624 (by decide) rfl ?_
      refine r_bipush (v := 24) (n := 627) dL_acts_625 (by decide) rfl ?_
      refine r_irem (n := 628) dL_acts_627 (by decide) rfl ?_
      refine r_iadd (n := 629) dL_acts_628 rfl ?_
      refine r_goto (tgt := 656) dL_acts_629 (by decide) ?_
      refine a_put_g (n := 657) (k := 11) (by decide) (by decide) dL_acts_656 rfl ?_
      have eX : (1 : Int32) + rmI (nI Y / 4) 24 = nI (1 + Y / 4 % 24) := by
        rw [show (4 : Int32) = nI 4 from rfl, show (24 : Int32) = nI 24 from rfl, pk_div (by omega) (by decide) (by decide), pk_mod (by omega) (by decide) (by decide)]
        exact nI_add 1 _
      rw [eX]
      obtain ⟨X, hXe⟩ : ∃ X, 1 + Y / 4 % 24 = X := ⟨_, rfl⟩
      rw [hXe]
      have eSX := eS X (by omega) (by omega)
      refine r_al0 (n := 658) dL_acts_657 rfl ?_
      refine r_il6 (n := 660) dL_acts_658 rfl ?_
      refine r_al1 (n := 661) dL_acts_660 rfl ?_
      refine r_bipush (v := 10) (n := 663) dL_acts_661 (by decide) rfl ?_
      refine r_il6 (n := 665) dL_acts_663 rfl ?_
      refine r_iadd (n := 666) dL_acts_665 rfl ?_
      refine a_g (n := 667) (k := 11) (by decide) (by decide) dL_acts_666 rfl ?_
      rw [mput_at]
      refine cV_q (n := 670) (np := 2) (by have k := c_X3_set (cA := cA) (ad := ad) (D := D) (w := 1) (v := nI X) (c.row10 (upd (M.1 10) 11 (nI X))); rw [eSX] at k; exact k) gL_acts_X3_set rfl (by decide +kernel) rfl (by decide) (by decide) (by omega) rfl rfl dL_acts_667 rfl rfl (Nat.le_of_ble_eq_true rfl) (fun M2 q2 => ?_)
      refine r_il7 (n := 672) dL_acts_670 rfl ?_
      refine r_icmp_ne (tgt := 679) (n := 675) dL_acts_672 (by decide) rfl (fun c_672 => ?_) (fun c_672 => ?_)
      · exact absurd c_672 (fun h => h rfl)
      · refine r_iconst (v := 1) (n := 676) dL_acts_675 (by decide) rfl ?_
        refine r_goto (tgt := 680) dL_acts_676 (by decide) ?_
        exact e_qz dL_acts_680 rfl (Or.inr rfl) rfl (by have g1 := er_set hv 1 (nI X); have g2 := VOK_set hv 1 (nI X); have g3 := IDN_set hi 1 (nI X); rw [eSX] at g1 g2 g3; exact op_rel g1 g2 g3 (setp_at _ _ _) q2)
  · exact absurd c_599 (by decide)

set_option maxHeartbeats 4000000 in
set_option maxRecDepth 100000 in
theorem A_s2 (hR : RELA M) {Y : Nat} (hY : Y < 10000000) : P_L_acts cA ad D 582 [some (.ref (ad 0)), some (.ref (ad 4)), some (.ref (ad 5)), some (.int z), some (.int (nI Y)), some (.int w), some (.int (2)), none, none] [] M (QR 1 RELA) := by
  obtain ⟨N, h, hs, tx, c, hv, hi⟩ := hR
  have h8 := hv.1
  have eS : ∀ X, 0 ≤ X → X ≤ 20 → setS (M.1 10) 2 (nI X) = (M.1 10 12, upd (M.1 10) 12 (nI X)) := fun X h1 h2 => by
    have hr : inRng 2 (nI X) = true := by
      show rng (nI X) 0 20 = true
      exact rng_t (show ¬ nI X < 0 from nI_nlt (a := X) (b := 0) h1 (by omega)) (show nI X ≤ 20 from nI_le (a := X) (b := 20) h2 (by decide))
    unfold setS
    rw [if_pos hr]
    rfl
  refine r_al1 (n := 583) dL_acts_582 rfl ?_
  refine r_bipush (v := 10) (n := 585) dL_acts_583 (by decide) rfl ?_
  refine r_il6 (n := 587) dL_acts_585 rfl ?_
  refine r_iadd (n := 588) dL_acts_587 rfl ?_
  refine a_g (n := 589) (k := 12) (by decide) (by decide) dL_acts_588 rfl ?_
  refine r_is7 (n := 591) (by decide) rfl dL_acts_589 rfl ?_
  refine r_al1 (n := 592) dL_acts_591 rfl ?_
  refine r_bipush (v := 10) (n := 594) dL_acts_592 (by decide) rfl ?_
  refine r_il6 (n := 596) dL_acts_594 rfl ?_
  refine r_iadd (n := 597) dL_acts_596 rfl ?_
  refine r_il6 (n := 599) dL_acts_597 rfl ?_
  refine r_if_ne (tgt := 614) (n := 602) dL_acts_599 (by decide) rfl (fun c_599 => ?_) (fun c_599 => ?_)
  · refine r_il6 (n := 616) dL_acts_614 rfl ?_
    refine r_iconst (v := 1) (n := 617) dL_acts_616 (by decide) rfl ?_
    refine r_icmp_ne (tgt := 632) (n := 620) dL_acts_617 (by decide) rfl (fun c_617 => ?_) (fun c_617 => ?_)
    · refine r_il6 (n := 634) dL_acts_632 rfl ?_
      refine r_iconst (v := 2) (n := 635) dL_acts_634 (by decide) rfl ?_
      refine r_icmp_ne (tgt := 648) (n := 638) dL_acts_635 (by decide) rfl (fun c_635 => ?_) (fun c_635 => ?_)
      · exact absurd c_635 (fun h => h rfl)
      · refine r_il4 (n := 640) dL_acts_638 rfl ?_
        refine r_iconst (v := 4) (n := 641) dL_acts_640 (by decide) rfl ?_
        refine r_idiv (n := 642) dL_acts_641 (by decide) rfl ?_
        refine r_bipush (v := 21) (n := 644) dL_acts_642 (by decide) rfl ?_
        refine r_irem (n := 645) dL_acts_644 (by decide) rfl ?_
        refine r_goto (tgt := 656) dL_acts_645 (by decide) ?_
        refine a_put_g (n := 657) (k := 12) (by decide) (by decide) dL_acts_656 rfl ?_
        have eX : rmI (nI Y / 4) 21 = nI (Y / 4 % 21) := by
          rw [show (4 : Int32) = nI 4 from rfl, show (21 : Int32) = nI 21 from rfl, pk_div (by omega) (by decide) (by decide), pk_mod (by omega) (by decide) (by decide)]
        rw [eX]
        obtain ⟨X, hXe⟩ : ∃ X, Y / 4 % 21 = X := ⟨_, rfl⟩
        rw [hXe]
        have eSX := eS X (by omega) (by omega)
        refine r_al0 (n := 658) dL_acts_657 rfl ?_
        refine r_il6 (n := 660) dL_acts_658 rfl ?_
        refine r_al1 (n := 661) dL_acts_660 rfl ?_
        refine r_bipush (v := 10) (n := 663) dL_acts_661 (by decide) rfl ?_
        refine r_il6 (n := 665) dL_acts_663 rfl ?_
        refine r_iadd (n := 666) dL_acts_665 rfl ?_
        refine a_g (n := 667) (k := 12) (by decide) (by decide) dL_acts_666 rfl ?_
        rw [mput_at]
        refine cV_q (n := 670) (np := 2) (by have k := c_X3_set (cA := cA) (ad := ad) (D := D) (w := 2) (v := nI X) (c.row10 (upd (M.1 10) 12 (nI X))); rw [eSX] at k; exact k) gL_acts_X3_set rfl (by decide +kernel) rfl (by decide) (by decide) (by omega) rfl rfl dL_acts_667 rfl rfl (Nat.le_of_ble_eq_true rfl) (fun M2 q2 => ?_)
        refine r_il7 (n := 672) dL_acts_670 rfl ?_
        refine r_icmp_ne (tgt := 679) (n := 675) dL_acts_672 (by decide) rfl (fun c_672 => ?_) (fun c_672 => ?_)
        · exact absurd c_672 (fun h => h rfl)
        · refine r_iconst (v := 1) (n := 676) dL_acts_675 (by decide) rfl ?_
          refine r_goto (tgt := 680) dL_acts_676 (by decide) ?_
          exact e_qz dL_acts_680 rfl (Or.inr rfl) rfl (by have g1 := er_set hv 2 (nI X); have g2 := VOK_set hv 2 (nI X); have g3 := IDN_set hi 2 (nI X); rw [eSX] at g1 g2 g3; exact op_rel g1 g2 g3 (setp_at _ _ _) q2)
    · exact absurd c_617 (by decide)
  · exact absurd c_599 (by decide)

set_option maxHeartbeats 4000000 in
set_option maxRecDepth 100000 in
theorem A_s3 (hR : RELA M) {Y : Nat} (hY : Y < 10000000) : P_L_acts cA ad D 582 [some (.ref (ad 0)), some (.ref (ad 4)), some (.ref (ad 5)), some (.int z), some (.int (nI Y)), some (.int w), some (.int (3)), none, none] [] M (QR 1 RELA) := by
  obtain ⟨N, h, hs, tx, c, hv, hi⟩ := hR
  have h8 := hv.1
  have eS : ∀ X, 0 ≤ X → X ≤ 500 → setS (M.1 10) 3 (nI X) = (M.1 10 13, upd (M.1 10) 13 (nI X)) := fun X h1 h2 => by
    have hr : inRng 3 (nI X) = true := by
      show rng (nI X) 0 500 = true
      exact rng_t (show ¬ nI X < 0 from nI_nlt (a := X) (b := 0) h1 (by omega)) (show nI X ≤ 500 from nI_le (a := X) (b := 500) h2 (by decide))
    unfold setS
    rw [if_pos hr]
    rfl
  refine r_al1 (n := 583) dL_acts_582 rfl ?_
  refine r_bipush (v := 10) (n := 585) dL_acts_583 (by decide) rfl ?_
  refine r_il6 (n := 587) dL_acts_585 rfl ?_
  refine r_iadd (n := 588) dL_acts_587 rfl ?_
  refine a_g (n := 589) (k := 13) (by decide) (by decide) dL_acts_588 rfl ?_
  refine r_is7 (n := 591) (by decide) rfl dL_acts_589 rfl ?_
  refine r_al1 (n := 592) dL_acts_591 rfl ?_
  refine r_bipush (v := 10) (n := 594) dL_acts_592 (by decide) rfl ?_
  refine r_il6 (n := 596) dL_acts_594 rfl ?_
  refine r_iadd (n := 597) dL_acts_596 rfl ?_
  refine r_il6 (n := 599) dL_acts_597 rfl ?_
  refine r_if_ne (tgt := 614) (n := 602) dL_acts_599 (by decide) rfl (fun c_599 => ?_) (fun c_599 => ?_)
  · refine r_il6 (n := 616) dL_acts_614 rfl ?_
    refine r_iconst (v := 1) (n := 617) dL_acts_616 (by decide) rfl ?_
    refine r_icmp_ne (tgt := 632) (n := 620) dL_acts_617 (by decide) rfl (fun c_617 => ?_) (fun c_617 => ?_)
    · refine r_il6 (n := 634) dL_acts_632 rfl ?_
      refine r_iconst (v := 2) (n := 635) dL_acts_634 (by decide) rfl ?_
      refine r_icmp_ne (tgt := 648) (n := 638) dL_acts_635 (by decide) rfl (fun c_635 => ?_) (fun c_635 => ?_)
      · refine r_il4 (n := 650) dL_acts_648 rfl ?_
        refine r_iconst (v := 4) (n := 651) dL_acts_650 (by decide) rfl ?_
        refine r_idiv (n := 652) dL_acts_651 (by decide) rfl ?_
        refine r_sipush (v := 501) (n := 655) dL_acts_652 (by decide) rfl ?_
        refine r_irem (n := 656) dL_acts_655 (by decide) rfl ?_
        refine a_put_g (n := 657) (k := 13) (by decide) (by decide) dL_acts_656 rfl ?_
        have eX : rmI (nI Y / 4) 501 = nI (Y / 4 % 501) := by
          rw [show (4 : Int32) = nI 4 from rfl, show (501 : Int32) = nI 501 from rfl, pk_div (by omega) (by decide) (by decide), pk_mod (by omega) (by decide) (by decide)]
        rw [eX]
        obtain ⟨X, hXe⟩ : ∃ X, Y / 4 % 501 = X := ⟨_, rfl⟩
        rw [hXe]
        have eSX := eS X (by omega) (by omega)
        refine r_al0 (n := 658) dL_acts_657 rfl ?_
        refine r_il6 (n := 660) dL_acts_658 rfl ?_
        refine r_al1 (n := 661) dL_acts_660 rfl ?_
        refine r_bipush (v := 10) (n := 663) dL_acts_661 (by decide) rfl ?_
        refine r_il6 (n := 665) dL_acts_663 rfl ?_
        refine r_iadd (n := 666) dL_acts_665 rfl ?_
        refine a_g (n := 667) (k := 13) (by decide) (by decide) dL_acts_666 rfl ?_
        rw [mput_at]
        refine cV_q (n := 670) (np := 2) (by have k := c_X3_set (cA := cA) (ad := ad) (D := D) (w := 3) (v := nI X) (c.row10 (upd (M.1 10) 13 (nI X))); rw [eSX] at k; exact k) gL_acts_X3_set rfl (by decide +kernel) rfl (by decide) (by decide) (by omega) rfl rfl dL_acts_667 rfl rfl (Nat.le_of_ble_eq_true rfl) (fun M2 q2 => ?_)
        refine r_il7 (n := 672) dL_acts_670 rfl ?_
        refine r_icmp_ne (tgt := 679) (n := 675) dL_acts_672 (by decide) rfl (fun c_672 => ?_) (fun c_672 => ?_)
        · exact absurd c_672 (fun h => h rfl)
        · refine r_iconst (v := 1) (n := 676) dL_acts_675 (by decide) rfl ?_
          refine r_goto (tgt := 680) dL_acts_676 (by decide) ?_
          exact e_qz dL_acts_680 rfl (Or.inr rfl) rfl (by have g1 := er_set hv 3 (nI X); have g2 := VOK_set hv 3 (nI X); have g3 := IDN_set hi 3 (nI X); rw [eSX] at g1 g2 g3; exact op_rel g1 g2 g3 (setp_at _ _ _) q2)
      · exact absurd c_635 (by decide)
    · exact absurd c_617 (by decide)
  · exact absurd c_599 (by decide)

set_option maxHeartbeats 4000000 in
set_option maxRecDepth 100000 in
theorem A_st (hR : RELA M) {Y : Nat} (hY : Y < 10000000) : P_L_acts cA ad D 576 [some (.ref (ad 0)), some (.ref (ad 4)), some (.ref (ad 5)), some (.int z), some (.int (nI Y)), some (.int w), none, none, none] [] M (QR 1 RELA) := by
  refine r_il4 (n := 578) dL_acts_576 rfl ?_
  refine r_iconst (v := 4) (n := 579) dL_acts_578 (by decide) rfl ?_
  refine r_irem (n := 580) dL_acts_579 (by decide) rfl ?_
  rw [show (4 : Int32) = nI 4 from rfl, pk_mod (by omega) (by decide) (by decide)]
  refine r_is6 (n := 582) (by decide) rfl dL_acts_580 rfl ?_
  have hc : Y % 4 = 0 ∨ Y % 4 = 1 ∨ Y % 4 = 2 ∨ Y % 4 = 3 := by omega
  rcases hc with e | e | e | e
  · rw [e]; exact A_s0 hR hY
  · rw [e]; exact A_s1 hR hY
  · rw [e]; exact A_s2 hR hY
  · rw [e]; exact A_s3 hR hY

/-- the new smithy's row as the law fills it -/
def flv (a b j : Nat) : Int32 := if nI j = 0 then nI a else if nI j = 1 then nI b else if nI j = 3 then 100 else 0
def fillU (u : Vec) (N a b : Nat) : Nat → Vec
  | 0 => u
  | j + 1 => upd (fillU u N a b j) (14 + (8 * N + j)) (flv a b j)
theorem fill_0 (u : Vec) (N a b : Nat) : ∀ j, fillU u N a b j 0 = u 0
  | 0 => rfl
  | j + 1 => by rw [fillU, upd_ne _ _ (by omega), fill_0 u N a b j]
theorem fill_add (u : Vec) (N a b : Nat) (x : Int32) (hx : x = u 0 + 1) : upd (fillU u N a b 8) 0 x = addU u N (nI a) (nI b) := by
  subst hx
  have e0 : flv a b 0 = nI a := rfl
  have e1 : flv a b 1 = nI b := rfl
  have e2 : flv a b 2 = 0 := rfl
  have e3 : flv a b 3 = 100 := rfl
  have e4 : flv a b 4 = 0 := rfl
  have e5 : flv a b 5 = 0 := rfl
  have e6 : flv a b 6 = 0 := rfl
  have e7 : flv a b 7 = 0 := rfl
  unfold addU
  simp only [fillU, e0, e1, e2, e3, e4, e5, e6, e7]
  rw [upd_sw _ _ _ (show 14 + (8 * N + 7) ≠ 0 by omega), upd_sw _ _ _ (show 14 + (8 * N + 6) ≠ 0 by omega), upd_sw _ _ _ (show 14 + (8 * N + 5) ≠ 0 by omega), upd_sw _ _ _ (show 14 + (8 * N + 4) ≠ 0 by omega), upd_sw _ _ _ (show 14 + (8 * N + 3) ≠ 0 by omega), upd_sw _ _ _ (show 14 + (8 * N + 2) ≠ 0 by omega), upd_sw _ _ _ (show 14 + (8 * N + 1) ≠ 0 by omega), upd_sw _ _ _ (show 14 + (8 * N + 0) ≠ 0 by omega)]
  simp only [Nat.add_assoc, Nat.add_zero]

set_option maxHeartbeats 4000000 in
set_option maxRecDepth 100000 in
theorem A_fl {N a b : Nat} (hN : M.1 10 0 = nI N) (h8 : N < 8) {Q : QT} (KK : P_L_acts cA ad D 142 [some (.ref (ad 0)), some (.ref (ad 4)), some (.ref (ad 5)), some (.int z), some (.int y), some (.int w), some (.int (nI a)), some (.int (nI b)), none] [] (setp M 10 (fillU (M.1 10) N a b 8)) Q) : ∀ (m j : Nat), j + m = 8 → P_L_acts cA ad D 85 [some (.ref (ad 0)), some (.ref (ad 4)), some (.ref (ad 5)), some (.int z), some (.int y), some (.int w), some (.int (nI a)), some (.int (nI b)), some (.int (nI j))] [] (setp M 10 (fillU (M.1 10) N a b j)) Q := by
  intro m
  induction m with
  | zero =>
    intro j hj
    have : j = 8 := by omega
    subst this
    refine r_il8 (n := 87) dL_acts_85 rfl ?_
    refine r_bipush (v := 8) (n := 89) dL_acts_87 (by decide) rfl ?_
    refine r_icmp_ge (tgt := 142) (n := 92) dL_acts_89 (by decide) rfl (fun c_89 => ?_) (fun c_89 => ?_)
    · refine r_dr8 ?_
      exact KK
    · exact absurd c_89 (fun q => q (by decide))
  | succ m ih =>
    intro j hj
    refine r_il8 (n := 87) dL_acts_85 rfl ?_
    refine r_bipush (v := 8) (n := 89) dL_acts_87 (by decide) rfl ?_
    refine r_icmp_ge (tgt := 142) (n := 92) dL_acts_89 (by decide) rfl (fun c_89 => ?_) (fun c_89 => ?_)
    · exact absurd c_89 (nI_ge (a := j) (b := 8) (by omega) (by decide))
    · refine r_al2 (n := 93) dL_acts_92 rfl ?_
      refine r_bipush (v := 8) (n := 95) dL_acts_93 (by decide) rfl ?_
      refine r_al1 (n := 96) dL_acts_95 rfl ?_
      refine r_iconst (v := 0) (n := 97) dL_acts_96 (by decide) rfl ?_
      refine s_g (n := 98) (k := 0) (by decide) (by decide) dL_acts_97 rfl ?_
      refine r_imul (n := 99) dL_acts_98 rfl ?_
      rw [fill_0, hN, show (8 : Int32) * nI N = nI (8 * N) from by rw [show (8 : Int32) = nI 8 from rfl, pk_mul]]
      refine r_il8 (n := 101) dL_acts_99 rfl ?_
      refine r_iadd (n := 102) dL_acts_101 rfl ?_
      refine pw_mg (pcM := 135) (x := (flv a b j)) ?_ (fun K_135 => ?_)
      · refine s_put_fq (n := 136) (k := 8 * N + j) (q := 14 + (8 * N + j)) (nI_add _ _) (by omega) rfl dL_acts_135 rfl ?_
        refine r_ii8 (n := 139) (by decide) rfl dL_acts_136 (nI_1 j) rfl ?_
        refine r_goto (tgt := 85) dL_acts_139 (by decide) ?_
        exact ih (j + 1) (by omega)
      · refine r_il8 (n := 104) dL_acts_102 rfl ?_
        refine r_if_ne (tgt := 112) (n := 107) dL_acts_104 (by decide) rfl (fun c_104 => ?_) (fun c_104 => ?_)
        · refine r_il8 (n := 114) dL_acts_112 rfl ?_
          refine r_iconst (v := 1) (n := 115) dL_acts_114 (by decide) rfl ?_
          refine r_icmp_ne (tgt := 123) (n := 118) dL_acts_115 (by decide) rfl (fun c_115 => ?_) (fun c_115 => ?_)
          · refine r_il8 (n := 125) dL_acts_123 rfl ?_
            refine r_iconst (v := 3) (n := 126) dL_acts_125 (by decide) rfl ?_
            refine r_icmp_ne (tgt := 134) (n := 129) dL_acts_126 (by decide) rfl (fun c_126 => ?_) (fun c_126 => ?_)
            · refine r_iconst (v := 0) (n := 135) dL_acts_134 (by decide) rfl ?_
              first
                | (rw [show flv a b j = nI a from if_pos c_104] at K_135; exact K_135)
                | (rw [show flv a b j = nI b from (if_neg c_104).trans (if_pos c_115)] at K_135; exact K_135)
                | (rw [show flv a b j = 100 from (if_neg c_104).trans ((if_neg c_115).trans (if_pos c_126))] at K_135; exact K_135)
                | (rw [show flv a b j = 0 from (if_neg c_104).trans ((if_neg c_115).trans (if_neg c_126))] at K_135; exact K_135)
            · refine r_bipush (v := 100) (n := 131) dL_acts_129 (by decide) rfl ?_
              refine r_goto (tgt := 135) dL_acts_131 (by decide) ?_
              first
                | (rw [show flv a b j = nI a from if_pos c_104] at K_135; exact K_135)
                | (rw [show flv a b j = nI b from (if_neg c_104).trans (if_pos c_115)] at K_135; exact K_135)
                | (rw [show flv a b j = 100 from (if_neg c_104).trans ((if_neg c_115).trans (if_pos c_126))] at K_135; exact K_135)
                | (rw [show flv a b j = 0 from (if_neg c_104).trans ((if_neg c_115).trans (if_neg c_126))] at K_135; exact K_135)
          · refine r_il7 (n := 120) dL_acts_118 rfl ?_
            refine r_goto (tgt := 135) dL_acts_120 (by decide) ?_
            first
              | (rw [show flv a b j = nI a from if_pos c_104] at K_135; exact K_135)
              | (rw [show flv a b j = nI b from (if_neg c_104).trans (if_pos c_115)] at K_135; exact K_135)
              | (rw [show flv a b j = 100 from (if_neg c_104).trans ((if_neg c_115).trans (if_pos c_126))] at K_135; exact K_135)
              | (rw [show flv a b j = 0 from (if_neg c_104).trans ((if_neg c_115).trans (if_neg c_126))] at K_135; exact K_135)
        · refine r_il6 (n := 109) dL_acts_107 rfl ?_
          refine r_goto (tgt := 135) dL_acts_109 (by decide) ?_
          first
            | (rw [show flv a b j = nI a from if_pos c_104] at K_135; exact K_135)
            | (rw [show flv a b j = nI b from (if_neg c_104).trans (if_pos c_115)] at K_135; exact K_135)
            | (rw [show flv a b j = 100 from (if_neg c_104).trans ((if_neg c_115).trans (if_pos c_126))] at K_135; exact K_135)
            | (rw [show flv a b j = 0 from (if_neg c_104).trans ((if_neg c_115).trans (if_neg c_126))] at K_135; exact K_135)

set_option maxHeartbeats 4000000 in
set_option maxRecDepth 100000 in
theorem A_sm1 (hR : RELA M) {a b : Nat} (ha : a ≤ 99) (h1 : 1 ≤ b) (hb : b ≤ 9) (hne : ¬ M.1 10 0 = 8) : P_L_acts cA ad D 82 [some (.ref (ad 0)), some (.ref (ad 4)), some (.ref (ad 5)), some (.int z), some (.int y), some (.int w), some (.int (nI a)), some (.int (nI b)), none] [] M (QR 1 RELA) := by
  obtain ⟨N, h, hs, tx, c, hv, hi⟩ := hR
  have h8 := hv.1
  have hN8 : N < 8 := by
    rcases Nat.lt_or_ge N 8 with q | q
    · exact q
    · have : N = 8 := by omega
      subst this
      exact absurd hv.2.1 hne
  obtain ⟨eA, hvA⟩ := VOK_addU hv hN8 ha h1 hb
  have hiA := IDN_addU hi (nI a) (nI b)
  refine r_iconst (v := 0) (n := 83) dL_acts_82 (by decide) rfl ?_
  refine r_is8 (n := 85) (by decide) rfl dL_acts_83 rfl ?_
  refine pw_mem (M2 := setp M 10 (fillU (M.1 10) N a b 0)) (setp_self M 10).symm ?_
  refine A_fl hv.2.1 hN8 ?_ 8 0 (by omega)
  refine r_al1 (n := 143) dL_acts_142 rfl ?_
  refine r_iconst (v := 0) (n := 144) dL_acts_143 (by decide) rfl ?_
  refine r_dup2 (n := 145) dL_acts_144 rfl rfl rfl ?_
  refine s_g (n := 146) (k := 0) (by decide) (by decide) dL_acts_145 rfl ?_
  rw [fill_0]
  refine r_iconst (v := 1) (n := 147) dL_acts_146 (by decide) rfl ?_
  refine r_iadd (n := 148) dL_acts_147 rfl ?_
  refine s_put_g (n := 149) (k := 0) (by decide) (by decide) dL_acts_148 rfl ?_
  rw [fill_add _ _ _ _ _ rfl]
  refine r_al0 (n := 150) dL_acts_149 rfl ?_
  refine r_il6 (n := 152) dL_acts_150 rfl ?_
  refine r_il7 (n := 154) dL_acts_152 rfl ?_
  refine cV_q (n := 157) (np := 2) (by have k := c_X3_smithy (cA := cA) (ad := ad) (D := D) (w := nI a) (v := nI b) (c.row10 (addU (M.1 10) N (nI a) (nI b))) hv.2.1 h8; rw [eA] at k; exact k) gL_acts_X3_smithy rfl (by decide +kernel) rfl (by decide) (by decide) (by omega) rfl rfl dL_acts_154 rfl rfl (Nat.le_of_ble_eq_true rfl) (fun M2 q2 => ?_)
  have e10 : M2.1 10 = addU (M.1 10) N (nI a) (nI b) := (op_10 q2).trans (setp_at _ _ _)
  refine r_al1 (n := 158) dL_acts_157 rfl ?_
  refine r_iconst (v := 0) (n := 159) dL_acts_158 (by decide) rfl ?_
  refine a_g (n := 160) (k := 0) (by decide) (by decide) dL_acts_159 rfl ?_
  rw [e10, show addU (M.1 10) N (nI a) (nI b) 0 = M.1 10 0 + 1 from by unfold addU; simp (disch := omega) only [upd_ne, upd_at]]
  refine r_iconst (v := 1) (n := 161) dL_acts_160 (by decide) rfl ?_
  refine r_isub (n := 162) dL_acts_161 rfl ?_
  refine r_icmp_ne (tgt := 169) (n := 165) dL_acts_162 (by decide) rfl (fun c_162 => ?_) (fun c_162 => ?_)
  · exact absurd c_162 (fun q => q (by rw [Int32.add_sub_cancel]))
  · refine r_iconst (v := 1) (n := 166) dL_acts_165 (by decide) rfl ?_
    refine r_goto (tgt := 170) dL_acts_166 (by decide) ?_
    exact e_qz dL_acts_170 rfl (Or.inr rfl) rfl (op_rel (S := (M.1 10 0, addU (M.1 10) N (nI a) (nI b))) (u := M.1 10) (fun q => absurd (show M.1 10 0 < 0 from q) (by rw [hv.2.1]; exact nI_pos (by omega))) hvA hiA (setp_at _ _ _) q2)

set_option maxHeartbeats 4000000 in
set_option maxRecDepth 100000 in
theorem A_sm0 (hR : RELA M) {a Y : Nat} (ha : a ≤ 99) (hY : Y < 10000000) : P_L_acts cA ad D 41 [some (.ref (ad 0)), some (.ref (ad 4)), some (.ref (ad 5)), some (.int z), some (.int (nI Y)), some (.int w), none, none, none] [.int (nI a)] M (QR 1 RELA) := by
  obtain ⟨N, h, hs, tx, c, hv, hi⟩ := hR
  have h8 := hv.1
  have hR : RELA M := ⟨N, h, hs, tx, c, hv, hi⟩
  have eB : (1 : Int32) + rmI (nI Y / 100) 9 = nI (1 + Y / 100 % 9) := by
    rw [show (100 : Int32) = nI 100 from rfl, show (9 : Int32) = nI 9 from rfl, pk_div (by omega) (by decide) (by decide), pk_mod (by omega) (by decide) (by decide)]
    exact nI_add 1 _
  obtain ⟨b, hB⟩ : ∃ b, 1 + Y / 100 % 9 = b := ⟨_, rfl⟩
  have h1 : 1 ≤ b := by omega
  have hb : b ≤ 9 := by omega
  refine r_is6 (n := 43) (by decide) rfl dL_acts_41 rfl ?_
  refine r_iconst (v := 1) (n := 44) dL_acts_43 (by decide) rfl ?_
  refine r_il4 (n := 46) dL_acts_44 rfl ?_
  refine r_bipush (v := 100) (n := 48) dL_acts_46 (by decide) rfl ?_
  refine r_idiv (n := 49) dL_acts_48 (by decide) rfl ?_
  refine r_bipush (v := 9) (n := 51) dL_acts_49 (by decide) rfl ?_
  refine r_irem (n := 52) dL_acts_51 (by decide) rfl ?_
  refine r_iadd (n := 53) dL_acts_52 rfl ?_
  rw [eB, hB]
  refine r_is7 (n := 55) (by decide) rfl dL_acts_53 rfl ?_
  refine r_al1 (n := 56) dL_acts_55 rfl ?_
  refine r_iconst (v := 0) (n := 57) dL_acts_56 (by decide) rfl ?_
  refine a_g (n := 58) (k := 0) (by decide) (by decide) dL_acts_57 rfl ?_
  refine r_bipush (v := 8) (n := 60) dL_acts_58 (by decide) rfl ?_
  refine r_icmp_ne (tgt := 82) (n := 63) dL_acts_60 (by decide) rfl (fun c_60 => ?_) (fun c_60 => ?_)
  · exact A_sm1 hR ha h1 hb c_60
  · refine r_al0 (n := 64) dL_acts_63 rfl ?_
    refine r_il6 (n := 66) dL_acts_64 rfl ?_
    refine r_il7 (n := 68) dL_acts_66 rfl ?_
    refine cV_q (n := 71) (np := 2) (c_X3_smithy c hv.2.1 h8) gL_acts_X3_smithy rfl (by decide +kernel) rfl (by decide) (by decide) (by omega) rfl rfl dL_acts_68 rfl rfl (Nat.le_of_ble_eq_true rfl) (fun M2 q2 => ?_)
    have eA : addS (M.1 10) N (nI a) (nI b) = (LR, M.1 10) := by
      unfold addS
      rw [if_neg (nI_pos (n := a) (by omega)), if_neg (nx_g99 (d := a) ha), if_neg (nx_1 (d := b) h1 (by omega)), if_pos (nx_9 (d := b) hb), if_neg (by rw [c_60]; decide)]
    rw [eA]
    rw [eA] at q2
    refine r_ldc (n := 73) dL_acts_71 k_L_acts_24 rfl ?_
    refine r_icmp_ne (tgt := 80) (n := 76) dL_acts_73 (by decide) rfl (fun c_73 => ?_) (fun c_73 => ?_)
    · exact absurd c_73 (fun h => h rfl)
    · refine r_iconst (v := 1) (n := 77) dL_acts_76 (by decide) rfl ?_
      refine r_goto (tgt := 81) dL_acts_77 (by decide) ?_
      exact e_qz dL_acts_81 rfl (Or.inr rfl) rfl (op_rel (fun _ => rfl) hv hi rfl q2)

set_option maxHeartbeats 4000000 in
set_option maxRecDepth 100000 in
theorem m_L_acts (hR : RELA M) : C_L_acts cA ad D [.ref (ad 0), .ref (ad 4), .ref (ad 5), .int z] M (QR 1 RELA) := by
  refine PM_of (lv := [some (.ref (ad 0)), some (.ref (ad 4)), some (.ref (ad 5)), some (.int z), none, none, none, none, none]) (by decide +kernel) rfl (Nat.le_of_ble_eq_true rfl) rfl ?_
  refine r_il3 (n := 1) dL_acts_0 rfl ?_
  refine r_iconst (v := 5) (n := 2) dL_acts_1 (by decide) rfl ?_
  refine r_ishr (n := 3) dL_acts_2 rfl ?_
  refine r_ldc (n := 5) dL_acts_3 k_L_acts_40 rfl ?_
  refine cS_i (n := 8) (np := 2) (m_L_low (by decide)) gL_acts_L_low rfl (by decide +kernel) rfl (by decide) (by decide) dL_acts_5 rfl rfl (Nat.le_of_ble_eq_true rfl) ?_
  obtain ⟨Y, hY, eY⟩ := low_nI (z >>> ((5 : Int32) &&& 31)) (n := 10000000) (by decide) (by decide)
  rw [show (10000000 : Int32) = nI 10000000 from rfl, eY]
  refine r_is4 (n := 10) (by decide) rfl dL_acts_8 rfl ?_
  refine r_il3 (n := 11) dL_acts_10 rfl ?_
  refine r_bipush (v := 32) (n := 13) dL_acts_11 (by decide) rfl ?_
  refine cS_i (n := 16) (np := 2) (m_L_low (by decide)) gL_acts_L_low rfl (by decide +kernel) rfl (by decide) (by decide) dL_acts_13 rfl rfl (Nat.le_of_ble_eq_true rfl) ?_
  generalize rmI (z &&& 2147483647) 32 = w
  refine r_is5 (n := 18) (by decide) rfl dL_acts_16 rfl ?_
  refine r_il5 (n := 20) dL_acts_18 rfl ?_
  refine r_iconst (v := 4) (n := 21) dL_acts_20 (by decide) rfl ?_
  refine r_icmp_ge (tgt := 171) (n := 24) dL_acts_21 (by decide) rfl (fun c_21 => ?_) (fun c_21 => ?_)
  · refine r_il5 (n := 173) dL_acts_171 rfl ?_
    refine r_bipush (v := 11) (n := 175) dL_acts_173 (by decide) rfl ?_
    refine r_icmp_ge (tgt := 242) (n := 178) dL_acts_175 (by decide) rfl (fun c_175 => ?_) (fun c_175 => ?_)
    · refine r_il5 (n := 244) dL_acts_242 rfl ?_
      refine r_bipush (v := 14) (n := 246) dL_acts_244 (by decide) rfl ?_
      refine r_icmp_ge (tgt := 296) (n := 249) dL_acts_246 (by decide) rfl (fun c_246 => ?_) (fun c_246 => ?_)
      · refine r_il5 (n := 298) dL_acts_296 rfl ?_
        refine r_bipush (v := 23) (n := 300) dL_acts_298 (by decide) rfl ?_
        refine r_icmp_ge (tgt := 493) (n := 303) dL_acts_300 (by decide) rfl (fun c_300 => ?_) (fun c_300 => ?_)
        · refine r_il5 (n := 495) dL_acts_493 rfl ?_
          refine r_bipush (v := 29) (n := 497) dL_acts_495 (by decide) rfl ?_
          refine r_icmp_ge (tgt := 576) (n := 500) dL_acts_497 (by decide) rfl (fun c_497 => ?_) (fun c_497 => ?_)
          · exact A_st hR hY
          · refine r_iconst (v := 1) (n := 501) dL_acts_500 (by decide) rfl ?_
            refine r_il4 (n := 503) dL_acts_501 rfl ?_
            refine r_il4 (n := 505) dL_acts_503 rfl ?_
            refine r_iconst (v := 4) (n := 506) dL_acts_505 (by decide) rfl ?_
            refine r_irem (n := 507) dL_acts_506 (by decide) rfl ?_
            refine r_if_ne (tgt := 515) (n := 510) dL_acts_507 (by decide) rfl (fun c_507 => ?_) (fun c_507 => ?_)
            · refine r_bipush (v := 6) (n := 517) dL_acts_515 (by decide) rfl ?_
              refine r_irem (n := 518) dL_acts_517 (by decide) rfl ?_
              refine r_iadd (n := 519) dL_acts_518 rfl ?_
              first
                | (rw [show (99 : Int32) = nI 99 from rfl, pk_mod (by omega) (by decide) (by decide), show (1 : Int32) + nI (Y % 99) = nI (1 + Y % 99) from nI_add 1 _]
                   exact A_en hR (by omega) (by omega))
                | (rw [show (6 : Int32) = nI 6 from rfl, pk_mod (by omega) (by decide) (by decide), show (1 : Int32) + nI (Y % 6) = nI (1 + Y % 6) from nI_add 1 _]
                   exact A_en hR (by omega) (by omega))
            · refine r_bipush (v := 99) (n := 512) dL_acts_510 (by decide) rfl ?_
              refine r_goto (tgt := 517) dL_acts_512 (by decide) ?_
              refine r_irem (n := 518) dL_acts_517 (by decide) rfl ?_
              refine r_iadd (n := 519) dL_acts_518 rfl ?_
              first
                | (rw [show (99 : Int32) = nI 99 from rfl, pk_mod (by omega) (by decide) (by decide), show (1 : Int32) + nI (Y % 99) = nI (1 + Y % 99) from nI_add 1 _]
                   exact A_en hR (by omega) (by omega))
                | (rw [show (6 : Int32) = nI 6 from rfl, pk_mod (by omega) (by decide) (by decide), show (1 : Int32) + nI (Y % 6) = nI (1 + Y % 6) from nI_add 1 _]
                   exact A_en hR (by omega) (by omega))
        · exact A_md hR hY
      · refine r_iconst (v := 1) (n := 250) dL_acts_249 (by decide) rfl ?_
        refine r_il4 (n := 252) dL_acts_250 rfl ?_
        refine r_il4 (n := 254) dL_acts_252 rfl ?_
        refine r_iconst (v := 4) (n := 255) dL_acts_254 (by decide) rfl ?_
        refine r_irem (n := 256) dL_acts_255 (by decide) rfl ?_
        refine r_if_ne (tgt := 265) (n := 259) dL_acts_256 (by decide) rfl (fun c_256 => ?_) (fun c_256 => ?_)
        · refine r_bipush (v := 60) (n := 267) dL_acts_265 (by decide) rfl ?_
          refine r_irem (n := 268) dL_acts_267 (by decide) rfl ?_
          refine r_iadd (n := 269) dL_acts_268 rfl ?_
          first
            | (rw [show (999 : Int32) = nI 999 from rfl, pk_mod (by omega) (by decide) (by decide), show (1 : Int32) + nI (Y % 999) = nI (1 + Y % 999) from nI_add 1 _]
               exact A_by hR (by omega) (by omega))
            | (rw [show (60 : Int32) = nI 60 from rfl, pk_mod (by omega) (by decide) (by decide), show (1 : Int32) + nI (Y % 60) = nI (1 + Y % 60) from nI_add 1 _]
               exact A_by hR (by omega) (by omega))
        · refine r_sipush (v := 999) (n := 262) dL_acts_259 (by decide) rfl ?_
          refine r_goto (tgt := 267) dL_acts_262 (by decide) ?_
          refine r_irem (n := 268) dL_acts_267 (by decide) rfl ?_
          refine r_iadd (n := 269) dL_acts_268 rfl ?_
          first
            | (rw [show (999 : Int32) = nI 999 from rfl, pk_mod (by omega) (by decide) (by decide), show (1 : Int32) + nI (Y % 999) = nI (1 + Y % 999) from nI_add 1 _]
               exact A_by hR (by omega) (by omega))
            | (rw [show (60 : Int32) = nI 60 from rfl, pk_mod (by omega) (by decide) (by decide), show (1 : Int32) + nI (Y % 60) = nI (1 + Y % 60) from nI_add 1 _]
               exact A_by hR (by omega) (by omega))
    · refine r_il5 (n := 180) dL_acts_178 rfl ?_
      refine r_bipush (v := 6) (n := 182) dL_acts_180 (by decide) rfl ?_
      refine r_icmp_lt (tgt := 191) (n := 185) dL_acts_182 (by decide) rfl (fun c_182 => ?_) (fun c_182 => ?_)
      · refine pw_cut (P := ∃ a, a ≤ 99 ∧ rmI (nI Y) 100 * rmI (nI Y) 2 = nI a) ?_ (fun hA => ?_)
        · rw [show (100 : Int32) = nI 100 from rfl, show (2 : Int32) = nI 2 from rfl, pk_mod (by omega) (by decide) (by decide), pk_mod (by omega) (by decide) (by decide), pk_mul]
          refine ⟨Y % 100 * (Y % 2), ?_, rfl⟩
          rcases (show Y % 2 = 0 ∨ Y % 2 = 1 by omega) with e | e
          · rw [e]; omega
          · rw [e]; omega
        · obtain ⟨a, ha, eA⟩ := hA
          refine r_il4 (n := 193) dL_acts_191 rfl ?_
          refine r_bipush (v := 100) (n := 195) dL_acts_193 (by decide) rfl ?_
          refine r_irem (n := 196) dL_acts_195 (by decide) rfl ?_
          refine r_il4 (n := 198) dL_acts_196 rfl ?_
          refine r_iconst (v := 2) (n := 199) dL_acts_198 (by decide) rfl ?_
          refine r_irem (n := 200) dL_acts_199 (by decide) rfl ?_
          refine r_imul (n := 201) dL_acts_200 rfl ?_
          refine r_goto (tgt := 215) dL_acts_201 (by decide) ?_
          rw [eA]
          exact A_wk hR ha
      · refine r_al1 (n := 186) dL_acts_185 rfl ?_
        refine r_iconst (v := 0) (n := 187) dL_acts_186 (by decide) rfl ?_
        refine a_g (n := 188) (k := 0) (by decide) (by decide) dL_acts_187 rfl ?_
        refine r_if_ne (tgt := 204) (n := 191) dL_acts_188 (by decide) rfl (fun c_188 => ?_) (fun c_188 => ?_)
        · obtain ⟨N, h, hs, tx, c, hv, hi⟩ := hR
          have h8 := hv.1
          have hN : 0 < N := by
            rcases Nat.eq_zero_or_pos N with q | q
            · subst q; exact absurd hv.2.1 c_188
            · exact q
          obtain ⟨k, hk⟩ : ∃ k, Y % N = k := ⟨_, rfl⟩
          have hkN : k < N := by rw [← hk]; exact Nat.mod_lt _ hN
          obtain ⟨a, ha, -, eA⟩ := bd_nI (hv.2.2.2.2.2.2.2.2 k hkN).1
          refine r_al2 (n := 205) dL_acts_204 rfl ?_
          refine r_bipush (v := 8) (n := 207) dL_acts_205 (by decide) rfl ?_
          refine r_il4 (n := 209) dL_acts_207 rfl ?_
          refine r_al1 (n := 210) dL_acts_209 rfl ?_
          refine r_iconst (v := 0) (n := 211) dL_acts_210 (by decide) rfl ?_
          refine a_g (n := 212) (k := 0) (by decide) (by decide) dL_acts_211 rfl ?_
          refine r_irem (n := 213) dL_acts_212 c_188 rfl ?_
          refine r_imul (n := 214) dL_acts_213 rfl ?_
          rw [hv.2.1, pk_mod (by omega) hN (by omega), hk, show (8 : Int32) * nI k = nI (8 * k) from by rw [show (8 : Int32) = nI 8 from rfl, pk_mul]]
          refine a_f0 (k := k) (by omega) rfl (n := 215) dL_acts_214 rfl ?_
          rw [eA]
          exact A_wk ⟨N, h, hs, tx, c, hv, hi⟩ (by omega)
        · refine pw_cut (P := ∃ a, a ≤ 99 ∧ rmI (nI Y) 100 * rmI (nI Y) 2 = nI a) ?_ (fun hA => ?_)
          · rw [show (100 : Int32) = nI 100 from rfl, show (2 : Int32) = nI 2 from rfl, pk_mod (by omega) (by decide) (by decide), pk_mod (by omega) (by decide) (by decide), pk_mul]
            refine ⟨Y % 100 * (Y % 2), ?_, rfl⟩
            rcases (show Y % 2 = 0 ∨ Y % 2 = 1 by omega) with e | e
            · rw [e]; omega
            · rw [e]; omega
          · obtain ⟨a, ha, eA⟩ := hA
            refine r_il4 (n := 193) dL_acts_191 rfl ?_
            refine r_bipush (v := 100) (n := 195) dL_acts_193 (by decide) rfl ?_
            refine r_irem (n := 196) dL_acts_195 (by decide) rfl ?_
            refine r_il4 (n := 198) dL_acts_196 rfl ?_
            refine r_iconst (v := 2) (n := 199) dL_acts_198 (by decide) rfl ?_
            refine r_irem (n := 200) dL_acts_199 (by decide) rfl ?_
            refine r_imul (n := 201) dL_acts_200 rfl ?_
            refine r_goto (tgt := 215) dL_acts_201 (by decide) ?_
            rw [eA]
            exact A_wk hR ha
  · refine r_il4 (n := 26) dL_acts_24 rfl ?_
    refine r_il4 (n := 28) dL_acts_26 rfl ?_
    refine r_iconst (v := 3) (n := 29) dL_acts_28 (by decide) rfl ?_
    refine r_irem (n := 30) dL_acts_29 (by decide) rfl ?_
    refine r_if_ne (tgt := 38) (n := 33) dL_acts_30 (by decide) rfl (fun c_30 => ?_) (fun c_30 => ?_)
    · refine r_bipush (v := 25) (n := 40) dL_acts_38 (by decide) rfl ?_
      refine r_irem (n := 41) dL_acts_40 (by decide) rfl ?_
      first
        | (rw [show (100 : Int32) = nI 100 from rfl, pk_mod (by omega) (by decide) (by decide)]
           exact A_sm0 hR (by omega) hY)
        | (rw [show (25 : Int32) = nI 25 from rfl, pk_mod (by omega) (by decide) (by decide)]
           exact A_sm0 hR (by omega) hY)
    · refine r_bipush (v := 100) (n := 35) dL_acts_33 (by decide) rfl ?_
      refine r_goto (tgt := 40) dL_acts_35 (by decide) ?_
      refine r_irem (n := 41) dL_acts_40 (by decide) rfl ?_
      first
        | (rw [show (100 : Int32) = nI 100 from rfl, pk_mod (by omega) (by decide) (by decide)]
           exact A_sm0 hR (by omega) hY)
        | (rw [show (25 : Int32) = nI 25 from rfl, pk_mod (by omega) (by decide) (by decide)]
           exact A_sm0 hR (by omega) hY)

end ACTS
