/-! the law's calls, one by one -/
section M80
variable {B : Nat} {D : va_G} {b L : Nat} {xs : Nat → Int32} {e r N0 W0 q : Nat} {C : CS} {n w : Nat} {g : Nat → Option va_E} {M : MS} {bk : BK}

theorem w_some (h : LI b L xs e r N0 W0 q C n w g M bk) (hq : q ≤ 511) (hL : 6 * q + 5 < L) (hL2 : L ≤ 3072) : ∃ (C' : CS) (n' w' : Nat) (G : Nat → Option va_E) (M' : MS) (bk' : BK), LI b L xs e r N0 W0 (q + 1) C' n' w' G M' bk' ∧ ∀ rr h1, EX B D 100 mL_law 18 [some (.ref b), some (.ref e), some (.ref r), some (.int (nI (6 * (q + 1))))] [] (n', w', mH r G M') rr h1 → EX B D 100 mL_law 434 [some (.ref b), some (.ref e), some (.ref r), some (.int (nI (6 * q)))] [] (n, w, mH r g M) rr h1 := by
  obtain ⟨n', w', G, M', bk', c1, c2, c3, s2, s3⟩ := h.two (B := B) (D := D) hq (c_X6_some h.1 h.2.2.1 h.2.1.2.1.2.1 (xs (nI (6 * q) + 1).toNatClampNeg) (xs (nI (6 * q) + 2).toNatClampNeg)) (fun n' w' G hcap => m_some h.2.1 hcap (xs (nI (6 * q) + 1).toNatClampNeg) (xs (nI (6 * q) + 2).toNatClampNeg))
  have s1 := h.2.2.2.2.1
  have he1 := h.1.1
  have hinc : nI (6 * q) + Int32.ofInt 6 = nI (6 * (q + 1)) := nI_add (6 * q) 6
  refine ⟨_, n', w', G, M', bk', c3, fun rr h1 hk => ?_⟩
  refine px_aload_n dL_law_434 rfl ?_
  refine px_aload_n dL_law_435 rfl ?_
  refine px_iload_n dL_law_436 rfl ?_
  refine px_iconst (v := 1) dL_law_437 (by decide) ?_
  refine px_iadd dL_law_438 ?_
  refine px_saload dL_law_439 s1 (ix_1 hL hL2) ?_
  refine px_aload_n dL_law_440 rfl ?_
  refine px_iload_n dL_law_441 rfl ?_
  refine px_iconst (v := 2) dL_law_442 (by decide) ?_
  refine px_iadd dL_law_443 ?_
  refine px_saload dL_law_444 s1 (ix_2 hL hL2) ?_
  refine px_callV1 (ν := mX6_some) (ci := 6) rfl rfl lk_L_56 in_X6_some se_X6_some mok_X6_some dL_law_445 (c1) he1 rfl rfl (by omega) (by simp) ?_
  refine px_aload_n dL_law_448 rfl ?_
  refine px_aload_n dL_law_449 rfl ?_
  refine px_iload_n dL_law_450 rfl ?_
  refine px_iconst (v := 1) dL_law_451 (by decide) ?_
  refine px_iadd dL_law_452 ?_
  refine px_saload dL_law_453 s2 (ix_1 hL hL2) ?_
  refine px_aload_n dL_law_454 rfl ?_
  refine px_iload_n dL_law_455 rfl ?_
  refine px_iconst (v := 2) dL_law_456 (by decide) ?_
  refine px_iadd dL_law_457 ?_
  refine px_saload dL_law_458 s2 (ix_2 hL hL2) ?_
  refine px_callV1 (ν := mX7_some) (ci := 7) rfl rfl lk_L_59 in_X7_some se_X7_some mok_X7_some dL_law_459 (c2) s3 rfl rfl (by omega) (by simp) ?_
  refine px_icmp_eq (tgt := 1147) dL_law_462 (by decide) (fun hc462 => ?_) (fun hc462 => ?_)
  · refine px_iinc3 rfl hinc dL_law_1147 ?_
    refine px_goto (tgt := 18) dL_law_1150 (by decide) ?_
    exact hk
  · exact absurd rfl hc462
theorem w_tried (h : LI b L xs e r N0 W0 q C n w g M bk) (hq : q ≤ 511) (hL : 6 * q + 5 < L) (hL2 : L ≤ 3072) : ∃ (C' : CS) (n' w' : Nat) (G : Nat → Option va_E) (M' : MS) (bk' : BK), LI b L xs e r N0 W0 (q + 1) C' n' w' G M' bk' ∧ ∀ rr h1, EX B D 100 mL_law 18 [some (.ref b), some (.ref e), some (.ref r), some (.int (nI (6 * (q + 1))))] [] (n', w', mH r G M') rr h1 → EX B D 100 mL_law 467 [some (.ref b), some (.ref e), some (.ref r), some (.int (nI (6 * q)))] [] (n, w, mH r g M) rr h1 := by
  obtain ⟨n', w', G, M', bk', c1, c2, c3, s2, s3⟩ := h.two (B := B) (D := D) hq (c_X6_tried h.1 h.2.2.1 h.2.1.2.1.2.1 (xs (nI (6 * q) + 1).toNatClampNeg) (xs (nI (6 * q) + 2).toNatClampNeg) (xs (nI (6 * q) + 3).toNatClampNeg)) (fun n' w' G hcap => m_tried h.2.1 hcap (xs (nI (6 * q) + 1).toNatClampNeg) (xs (nI (6 * q) + 2).toNatClampNeg) (xs (nI (6 * q) + 3).toNatClampNeg))
  have s1 := h.2.2.2.2.1
  have he1 := h.1.1
  have hinc : nI (6 * q) + Int32.ofInt 6 = nI (6 * (q + 1)) := nI_add (6 * q) 6
  refine ⟨_, n', w', G, M', bk', c3, fun rr h1 hk => ?_⟩
  refine px_aload_n dL_law_467 rfl ?_
  refine px_aload_n dL_law_468 rfl ?_
  refine px_iload_n dL_law_469 rfl ?_
  refine px_iconst (v := 1) dL_law_470 (by decide) ?_
  refine px_iadd dL_law_471 ?_
  refine px_saload dL_law_472 s1 (ix_1 hL hL2) ?_
  refine px_aload_n dL_law_473 rfl ?_
  refine px_iload_n dL_law_474 rfl ?_
  refine px_iconst (v := 2) dL_law_475 (by decide) ?_
  refine px_iadd dL_law_476 ?_
  refine px_saload dL_law_477 s1 (ix_2 hL hL2) ?_
  refine px_aload_n dL_law_478 rfl ?_
  refine px_iload_n dL_law_479 rfl ?_
  refine px_iconst (v := 3) dL_law_480 (by decide) ?_
  refine px_iadd dL_law_481 ?_
  refine px_saload dL_law_482 s1 (ix_3 hL hL2) ?_
  refine px_callV1 (ν := mX6_tried) (ci := 6) rfl rfl lk_L_60 in_X6_tried se_X6_tried mok_X6_tried dL_law_483 (c1) he1 rfl rfl (by omega) (by simp) ?_
  refine px_aload_n dL_law_486 rfl ?_
  refine px_aload_n dL_law_487 rfl ?_
  refine px_iload_n dL_law_488 rfl ?_
  refine px_iconst (v := 1) dL_law_489 (by decide) ?_
  refine px_iadd dL_law_490 ?_
  refine px_saload dL_law_491 s2 (ix_1 hL hL2) ?_
  refine px_aload_n dL_law_492 rfl ?_
  refine px_iload_n dL_law_493 rfl ?_
  refine px_iconst (v := 2) dL_law_494 (by decide) ?_
  refine px_iadd dL_law_495 ?_
  refine px_saload dL_law_496 s2 (ix_2 hL hL2) ?_
  refine px_aload_n dL_law_497 rfl ?_
  refine px_iload_n dL_law_498 rfl ?_
  refine px_iconst (v := 3) dL_law_499 (by decide) ?_
  refine px_iadd dL_law_500 ?_
  refine px_saload dL_law_501 s2 (ix_3 hL hL2) ?_
  refine px_callV1 (ν := mX7_tried) (ci := 7) rfl rfl lk_L_64 in_X7_tried se_X7_tried mok_X7_tried dL_law_502 (c2) s3 rfl rfl (by omega) (by simp) ?_
  refine px_icmp_eq (tgt := 1147) dL_law_505 (by decide) (fun hc505 => ?_) (fun hc505 => ?_)
  · refine px_iinc3 rfl hinc dL_law_1147 ?_
    refine px_goto (tgt := 18) dL_law_1150 (by decide) ?_
    exact hk
  · exact absurd rfl hc505
theorem w_result (h : LI b L xs e r N0 W0 q C n w g M bk) (hq : q ≤ 511) (hL : 6 * q + 5 < L) (hL2 : L ≤ 3072) : ∃ (C' : CS) (n' w' : Nat) (G : Nat → Option va_E) (M' : MS) (bk' : BK), LI b L xs e r N0 W0 (q + 1) C' n' w' G M' bk' ∧ ∀ rr h1, EX B D 100 mL_law 18 [some (.ref b), some (.ref e), some (.ref r), some (.int (nI (6 * (q + 1))))] [] (n', w', mH r G M') rr h1 → EX B D 100 mL_law 510 [some (.ref b), some (.ref e), some (.ref r), some (.int (nI (6 * q)))] [] (n, w, mH r g M) rr h1 := by
  obtain ⟨n', w', G, M', bk', c1, c2, c3, s2, s3⟩ := h.two (B := B) (D := D) hq (look h.1 (c_X6_result h.1.1 h.1.2.1.w (xs (nI (6 * q) + 1).toNatClampNeg))) (fun n' w' G hcap => m_result h.2.1 hcap (xs (nI (6 * q) + 1).toNatClampNeg))
  have s1 := h.2.2.2.2.1
  have he1 := h.1.1
  have hinc : nI (6 * q) + Int32.ofInt 6 = nI (6 * (q + 1)) := nI_add (6 * q) 6
  refine ⟨_, n', w', G, M', bk', c3, fun rr h1 hk => ?_⟩
  refine px_aload_n dL_law_510 rfl ?_
  refine px_aload_n dL_law_511 rfl ?_
  refine px_iload_n dL_law_512 rfl ?_
  refine px_iconst (v := 1) dL_law_513 (by decide) ?_
  refine px_iadd dL_law_514 ?_
  refine px_saload dL_law_515 s1 (ix_1 hL hL2) ?_
  refine px_callV1 (ν := mX6_result) (ci := 6) rfl rfl lk_L_65 in_X6_result se_X6_result mok_X6_result dL_law_516 (c1) he1 rfl rfl (by omega) (by simp) ?_
  refine px_aload_n dL_law_519 rfl ?_
  refine px_aload_n dL_law_520 rfl ?_
  refine px_iload_n dL_law_521 rfl ?_
  refine px_iconst (v := 1) dL_law_522 (by decide) ?_
  refine px_iadd dL_law_523 ?_
  refine px_saload dL_law_524 s2 (ix_1 hL hL2) ?_
  refine px_callV1 (ν := mX7_result) (ci := 7) rfl rfl lk_L_68 in_X7_result se_X7_result mok_X7_result dL_law_525 (c2) s3 rfl rfl (by omega) (by simp) ?_
  refine px_icmp_eq (tgt := 1147) dL_law_528 (by decide) (fun hc528 => ?_) (fun hc528 => ?_)
  · refine px_iinc3 rfl hinc dL_law_1147 ?_
    refine px_goto (tgt := 18) dL_law_1150 (by decide) ?_
    exact hk
  · exact absurd rfl hc528
theorem w_failure (h : LI b L xs e r N0 W0 q C n w g M bk) (hq : q ≤ 511) (hL : 6 * q + 5 < L) (hL2 : L ≤ 3072) : ∃ (C' : CS) (n' w' : Nat) (G : Nat → Option va_E) (M' : MS) (bk' : BK), LI b L xs e r N0 W0 (q + 1) C' n' w' G M' bk' ∧ ∀ rr h1, EX B D 100 mL_law 18 [some (.ref b), some (.ref e), some (.ref r), some (.int (nI (6 * (q + 1))))] [] (n', w', mH r G M') rr h1 → EX B D 100 mL_law 533 [some (.ref b), some (.ref e), some (.ref r), some (.int (nI (6 * q)))] [] (n, w, mH r g M) rr h1 := by
  obtain ⟨n', w', G, M', bk', c1, c2, c3, s2, s3⟩ := h.two (B := B) (D := D) hq (look h.1 (c_X6_failure h.1.1 h.1.2.1.w (xs (nI (6 * q) + 1).toNatClampNeg) (xs (nI (6 * q) + 2).toNatClampNeg) (xs (nI (6 * q) + 3).toNatClampNeg))) (fun n' w' G hcap => m_failure h.2.1 (xs (nI (6 * q) + 1).toNatClampNeg) (xs (nI (6 * q) + 2).toNatClampNeg) (xs (nI (6 * q) + 3).toNatClampNeg))
  have s1 := h.2.2.2.2.1
  have he1 := h.1.1
  have hinc : nI (6 * q) + Int32.ofInt 6 = nI (6 * (q + 1)) := nI_add (6 * q) 6
  refine ⟨_, n', w', G, M', bk', c3, fun rr h1 hk => ?_⟩
  refine px_aload_n dL_law_533 rfl ?_
  refine px_aload_n dL_law_534 rfl ?_
  refine px_iload_n dL_law_535 rfl ?_
  refine px_iconst (v := 1) dL_law_536 (by decide) ?_
  refine px_iadd dL_law_537 ?_
  refine px_saload dL_law_538 s1 (ix_1 hL hL2) ?_
  refine px_aload_n dL_law_539 rfl ?_
  refine px_iload_n dL_law_540 rfl ?_
  refine px_iconst (v := 2) dL_law_541 (by decide) ?_
  refine px_iadd dL_law_542 ?_
  refine px_saload dL_law_543 s1 (ix_2 hL hL2) ?_
  refine px_aload_n dL_law_544 rfl ?_
  refine px_iload_n dL_law_545 rfl ?_
  refine px_iconst (v := 3) dL_law_546 (by decide) ?_
  refine px_iadd dL_law_547 ?_
  refine px_saload dL_law_548 s1 (ix_3 hL hL2) ?_
  refine px_callV1 (ν := mX6_failure) (ci := 6) rfl rfl lk_L_69 in_X6_failure se_X6_failure mok_X6_failure dL_law_549 (c1) he1 rfl rfl (by omega) (by simp) ?_
  refine px_aload_n dL_law_552 rfl ?_
  refine px_aload_n dL_law_553 rfl ?_
  refine px_iload_n dL_law_554 rfl ?_
  refine px_iconst (v := 1) dL_law_555 (by decide) ?_
  refine px_iadd dL_law_556 ?_
  refine px_saload dL_law_557 s2 (ix_1 hL hL2) ?_
  refine px_aload_n dL_law_558 rfl ?_
  refine px_iload_n dL_law_559 rfl ?_
  refine px_iconst (v := 2) dL_law_560 (by decide) ?_
  refine px_iadd dL_law_561 ?_
  refine px_saload dL_law_562 s2 (ix_2 hL hL2) ?_
  refine px_aload_n dL_law_563 rfl ?_
  refine px_iload_n dL_law_564 rfl ?_
  refine px_iconst (v := 3) dL_law_565 (by decide) ?_
  refine px_iadd dL_law_566 ?_
  refine px_saload dL_law_567 s2 (ix_3 hL hL2) ?_
  refine px_callV1 (ν := mX7_failure) (ci := 7) rfl rfl lk_L_72 in_X7_failure se_X7_failure mok_X7_failure dL_law_568 (c2) s3 rfl rfl (by omega) (by simp) ?_
  refine px_icmp_eq (tgt := 1147) dL_law_571 (by decide) (fun hc571 => ?_) (fun hc571 => ?_)
  · refine px_iinc3 rfl hinc dL_law_1147 ?_
    refine px_goto (tgt := 18) dL_law_1150 (by decide) ?_
    exact hk
  · exact absurd rfl hc571
theorem w_causes (h : LI b L xs e r N0 W0 q C n w g M bk) (hq : q ≤ 511) (hL : 6 * q + 5 < L) (hL2 : L ≤ 3072) : ∃ (C' : CS) (n' w' : Nat) (G : Nat → Option va_E) (M' : MS) (bk' : BK), LI b L xs e r N0 W0 (q + 1) C' n' w' G M' bk' ∧ ∀ rr h1, EX B D 100 mL_law 18 [some (.ref b), some (.ref e), some (.ref r), some (.int (nI (6 * (q + 1))))] [] (n', w', mH r G M') rr h1 → EX B D 100 mL_law 576 [some (.ref b), some (.ref e), some (.ref r), some (.int (nI (6 * q)))] [] (n, w, mH r g M) rr h1 := by
  obtain ⟨n', w', G, M', bk', c1, c2, c3, s2, s3⟩ := h.two (B := B) (D := D) hq (look h.1 (c_X6_causes h.1.1 h.1.2.1.w (xs (nI (6 * q) + 1).toNatClampNeg))) (fun n' w' G hcap => m_causes h.2.1 (xs (nI (6 * q) + 1).toNatClampNeg))
  have s1 := h.2.2.2.2.1
  have he1 := h.1.1
  have hinc : nI (6 * q) + Int32.ofInt 6 = nI (6 * (q + 1)) := nI_add (6 * q) 6
  refine ⟨_, n', w', G, M', bk', c3, fun rr h1 hk => ?_⟩
  refine px_aload_n dL_law_576 rfl ?_
  refine px_aload_n dL_law_577 rfl ?_
  refine px_iload_n dL_law_578 rfl ?_
  refine px_iconst (v := 1) dL_law_579 (by decide) ?_
  refine px_iadd dL_law_580 ?_
  refine px_saload dL_law_581 s1 (ix_1 hL hL2) ?_
  refine px_callV1 (ν := mX6_causes) (ci := 6) rfl rfl lk_L_73 in_X6_causes se_X6_causes mok_X6_causes dL_law_582 (c1) he1 rfl rfl (by omega) (by simp) ?_
  refine px_aload_n dL_law_585 rfl ?_
  refine px_aload_n dL_law_586 rfl ?_
  refine px_iload_n dL_law_587 rfl ?_
  refine px_iconst (v := 1) dL_law_588 (by decide) ?_
  refine px_iadd dL_law_589 ?_
  refine px_saload dL_law_590 s2 (ix_1 hL hL2) ?_
  refine px_callV1 (ν := mX7_causes) (ci := 7) rfl rfl lk_L_76 in_X7_causes se_X7_causes mok_X7_causes dL_law_591 (c2) s3 rfl rfl (by omega) (by simp) ?_
  refine px_icmp_eq (tgt := 1147) dL_law_594 (by decide) (fun hc594 => ?_) (fun hc594 => ?_)
  · refine px_iinc3 rfl hinc dL_law_1147 ?_
    refine px_goto (tgt := 18) dL_law_1150 (by decide) ?_
    exact hk
  · exact absurd rfl hc594
theorem w_root (h : LI b L xs e r N0 W0 q C n w g M bk) (hq : q ≤ 511) (hL : 6 * q + 5 < L) (hL2 : L ≤ 3072) : ∃ (C' : CS) (n' w' : Nat) (G : Nat → Option va_E) (M' : MS) (bk' : BK), LI b L xs e r N0 W0 (q + 1) C' n' w' G M' bk' ∧ ∀ rr h1, EX B D 100 mL_law 18 [some (.ref b), some (.ref e), some (.ref r), some (.int (nI (6 * (q + 1))))] [] (n', w', mH r G M') rr h1 → EX B D 100 mL_law 599 [some (.ref b), some (.ref e), some (.ref r), some (.int (nI (6 * q)))] [] (n, w, mH r g M) rr h1 := by
  obtain ⟨n', w', G, M', bk', c1, c2, c3, s2, s3⟩ := h.two (B := B) (D := D) hq (look h.1 (c_X6_root h.1.1 h.1.2.1.w (xs (nI (6 * q) + 1).toNatClampNeg))) (fun n' w' G hcap => m_root h.2.1 (xs (nI (6 * q) + 1).toNatClampNeg))
  have s1 := h.2.2.2.2.1
  have he1 := h.1.1
  have hinc : nI (6 * q) + Int32.ofInt 6 = nI (6 * (q + 1)) := nI_add (6 * q) 6
  refine ⟨_, n', w', G, M', bk', c3, fun rr h1 hk => ?_⟩
  refine px_aload_n dL_law_599 rfl ?_
  refine px_aload_n dL_law_600 rfl ?_
  refine px_iload_n dL_law_601 rfl ?_
  refine px_iconst (v := 1) dL_law_602 (by decide) ?_
  refine px_iadd dL_law_603 ?_
  refine px_saload dL_law_604 s1 (ix_1 hL hL2) ?_
  refine px_callV1 (ν := mX6_root) (ci := 6) rfl rfl lk_L_77 in_X6_root se_X6_root mok_X6_root dL_law_605 (c1) he1 rfl rfl (by omega) (by simp) ?_
  refine px_aload_n dL_law_608 rfl ?_
  refine px_aload_n dL_law_609 rfl ?_
  refine px_iload_n dL_law_610 rfl ?_
  refine px_iconst (v := 1) dL_law_611 (by decide) ?_
  refine px_iadd dL_law_612 ?_
  refine px_saload dL_law_613 s2 (ix_1 hL hL2) ?_
  refine px_callV1 (ν := mX7_root) (ci := 7) rfl rfl lk_L_80 in_X7_root se_X7_root mok_X7_root dL_law_614 (c2) s3 rfl rfl (by omega) (by simp) ?_
  refine px_icmp_eq (tgt := 1147) dL_law_617 (by decide) (fun hc617 => ?_) (fun hc617 => ?_)
  · refine px_iinc3 rfl hinc dL_law_1147 ?_
    refine px_goto (tgt := 18) dL_law_1150 (by decide) ?_
    exact hk
  · exact absurd rfl hc617
theorem w_blamed (h : LI b L xs e r N0 W0 q C n w g M bk) (hq : q ≤ 511) (hL : 6 * q + 5 < L) (hL2 : L ≤ 3072) : ∃ (C' : CS) (n' w' : Nat) (G : Nat → Option va_E) (M' : MS) (bk' : BK), LI b L xs e r N0 W0 (q + 1) C' n' w' G M' bk' ∧ ∀ rr h1, EX B D 100 mL_law 18 [some (.ref b), some (.ref e), some (.ref r), some (.int (nI (6 * (q + 1))))] [] (n', w', mH r G M') rr h1 → EX B D 100 mL_law 622 [some (.ref b), some (.ref e), some (.ref r), some (.int (nI (6 * q)))] [] (n, w, mH r g M) rr h1 := by
  obtain ⟨n', w', G, M', bk', c1, c2, c3, s2, s3⟩ := h.two (B := B) (D := D) hq (look h.1 (c_X6_blamed h.1.1 h.1.2.1.w (xs (nI (6 * q) + 1).toNatClampNeg))) (fun n' w' G hcap => m_blamed h.2.1 (xs (nI (6 * q) + 1).toNatClampNeg))
  have s1 := h.2.2.2.2.1
  have he1 := h.1.1
  have hinc : nI (6 * q) + Int32.ofInt 6 = nI (6 * (q + 1)) := nI_add (6 * q) 6
  refine ⟨_, n', w', G, M', bk', c3, fun rr h1 hk => ?_⟩
  refine px_aload_n dL_law_622 rfl ?_
  refine px_aload_n dL_law_623 rfl ?_
  refine px_iload_n dL_law_624 rfl ?_
  refine px_iconst (v := 1) dL_law_625 (by decide) ?_
  refine px_iadd dL_law_626 ?_
  refine px_saload dL_law_627 s1 (ix_1 hL hL2) ?_
  refine px_callV1 (ν := mX6_blamed) (ci := 6) rfl rfl lk_L_81 in_X6_blamed se_X6_blamed mok_X6_blamed dL_law_628 (c1) he1 rfl rfl (by omega) (by simp) ?_
  refine px_aload_n dL_law_631 rfl ?_
  refine px_aload_n dL_law_632 rfl ?_
  refine px_iload_n dL_law_633 rfl ?_
  refine px_iconst (v := 1) dL_law_634 (by decide) ?_
  refine px_iadd dL_law_635 ?_
  refine px_saload dL_law_636 s2 (ix_1 hL hL2) ?_
  refine px_callV1 (ν := mX7_blamed) (ci := 7) rfl rfl lk_L_84 in_X7_blamed se_X7_blamed mok_X7_blamed dL_law_637 (c2) s3 rfl rfl (by omega) (by simp) ?_
  refine px_icmp_eq (tgt := 1147) dL_law_640 (by decide) (fun hc640 => ?_) (fun hc640 => ?_)
  · refine px_iinc3 rfl hinc dL_law_1147 ?_
    refine px_goto (tgt := 18) dL_law_1150 (by decide) ?_
    exact hk
  · exact absurd rfl hc640
theorem w_trace (h : LI b L xs e r N0 W0 q C n w g M bk) (hq : q ≤ 511) (hL : 6 * q + 5 < L) (hL2 : L ≤ 3072) : ∃ (C' : CS) (n' w' : Nat) (G : Nat → Option va_E) (M' : MS) (bk' : BK), LI b L xs e r N0 W0 (q + 1) C' n' w' G M' bk' ∧ ∀ rr h1, EX B D 100 mL_law 18 [some (.ref b), some (.ref e), some (.ref r), some (.int (nI (6 * (q + 1))))] [] (n', w', mH r G M') rr h1 → EX B D 100 mL_law 645 [some (.ref b), some (.ref e), some (.ref r), some (.int (nI (6 * q)))] [] (n, w, mH r g M) rr h1 := by
  obtain ⟨n', w', G, M', bk', c1, c2, c3, s2, s3⟩ := h.two (B := B) (D := D) hq (look h.1 (c_X6_trace h.1.1 h.1.2.1.w (xs (nI (6 * q) + 1).toNatClampNeg) (xs (nI (6 * q) + 2).toNatClampNeg))) (fun n' w' G hcap => m_trace h.2.1 (xs (nI (6 * q) + 1).toNatClampNeg) (xs (nI (6 * q) + 2).toNatClampNeg))
  have s1 := h.2.2.2.2.1
  have he1 := h.1.1
  have hinc : nI (6 * q) + Int32.ofInt 6 = nI (6 * (q + 1)) := nI_add (6 * q) 6
  refine ⟨_, n', w', G, M', bk', c3, fun rr h1 hk => ?_⟩
  refine px_aload_n dL_law_645 rfl ?_
  refine px_aload_n dL_law_646 rfl ?_
  refine px_iload_n dL_law_647 rfl ?_
  refine px_iconst (v := 1) dL_law_648 (by decide) ?_
  refine px_iadd dL_law_649 ?_
  refine px_saload dL_law_650 s1 (ix_1 hL hL2) ?_
  refine px_aload_n dL_law_651 rfl ?_
  refine px_iload_n dL_law_652 rfl ?_
  refine px_iconst (v := 2) dL_law_653 (by decide) ?_
  refine px_iadd dL_law_654 ?_
  refine px_saload dL_law_655 s1 (ix_2 hL hL2) ?_
  refine px_callV1 (ν := mX6_trace) (ci := 6) rfl rfl lk_L_85 in_X6_trace se_X6_trace mok_X6_trace dL_law_656 (c1) he1 rfl rfl (by omega) (by simp) ?_
  refine px_aload_n dL_law_659 rfl ?_
  refine px_aload_n dL_law_660 rfl ?_
  refine px_iload_n dL_law_661 rfl ?_
  refine px_iconst (v := 1) dL_law_662 (by decide) ?_
  refine px_iadd dL_law_663 ?_
  refine px_saload dL_law_664 s2 (ix_1 hL hL2) ?_
  refine px_aload_n dL_law_665 rfl ?_
  refine px_iload_n dL_law_666 rfl ?_
  refine px_iconst (v := 2) dL_law_667 (by decide) ?_
  refine px_iadd dL_law_668 ?_
  refine px_saload dL_law_669 s2 (ix_2 hL hL2) ?_
  refine px_callV1 (ν := mX7_trace) (ci := 7) rfl rfl lk_L_88 in_X7_trace se_X7_trace mok_X7_trace dL_law_670 (c2) s3 rfl rfl (by omega) (by simp) ?_
  refine px_icmp_eq (tgt := 1147) dL_law_673 (by decide) (fun hc673 => ?_) (fun hc673 => ?_)
  · refine px_iinc3 rfl hinc dL_law_1147 ?_
    refine px_goto (tgt := 18) dL_law_1150 (by decide) ?_
    exact hk
  · exact absurd rfl hc673
end M80
