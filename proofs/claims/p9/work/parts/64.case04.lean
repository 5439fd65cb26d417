/-! ===== the law, case by case (4) ===== -/
theorem dL_law_490 : decode cL_law 490 = .ok (.aload_n 1, 1) := by decide +kernel
theorem dL_law_491 : decode cL_law 491 = .ok (.aload_n 0, 1) := by decide +kernel
theorem dL_law_492 : decode cL_law 492 = .ok (.iload_n 3, 1) := by decide +kernel
theorem dL_law_493 : decode cL_law 493 = .ok (.iconst 1, 1) := by decide +kernel
theorem dL_law_494 : decode cL_law 494 = .ok (.iadd, 1) := by decide +kernel
theorem dL_law_495 : decode cL_law 495 = .ok (.iaload, 1) := by decide +kernel
theorem dL_law_496 : decode cL_law 496 = .ok (.aload_n 0, 1) := by decide +kernel
theorem dL_law_497 : decode cL_law 497 = .ok (.iload_n 3, 1) := by decide +kernel
theorem dL_law_498 : decode cL_law 498 = .ok (.iconst 2, 1) := by decide +kernel
theorem dL_law_499 : decode cL_law 499 = .ok (.iadd, 1) := by decide +kernel
theorem dL_law_500 : decode cL_law 500 = .ok (.iaload, 1) := by decide +kernel
theorem dL_law_501 : decode cL_law 501 = .ok (.aload_n 0, 1) := by decide +kernel
theorem dL_law_502 : decode cL_law 502 = .ok (.iload_n 3, 1) := by decide +kernel
theorem dL_law_503 : decode cL_law 503 = .ok (.iconst 3, 1) := by decide +kernel
theorem dL_law_504 : decode cL_law 504 = .ok (.iadd, 1) := by decide +kernel
theorem dL_law_505 : decode cL_law 505 = .ok (.iaload, 1) := by decide +kernel
theorem dL_law_506 : decode cL_law 506 = .ok (.aload_n 0, 1) := by decide +kernel
theorem dL_law_507 : decode cL_law 507 = .ok (.iload_n 3, 1) := by decide +kernel
theorem dL_law_508 : decode cL_law 508 = .ok (.iconst 4, 1) := by decide +kernel
theorem dL_law_509 : decode cL_law 509 = .ok (.iadd, 1) := by decide +kernel
theorem dL_law_510 : decode cL_law 510 = .ok (.iaload, 1) := by decide +kernel
theorem dL_law_511 : decode cL_law 511 = .ok (.invokevirtual 60, 3) := by decide +kernel
theorem dL_law_514 : decode cL_law 514 = .ok (.pop, 1) := by decide +kernel
theorem dL_law_515 : decode cL_law 515 = .ok (.aload_n 2, 1) := by decide +kernel
theorem dL_law_516 : decode cL_law 516 = .ok (.aload_n 0, 1) := by decide +kernel
theorem dL_law_517 : decode cL_law 517 = .ok (.iload_n 3, 1) := by decide +kernel
theorem dL_law_518 : decode cL_law 518 = .ok (.iconst 1, 1) := by decide +kernel
theorem dL_law_519 : decode cL_law 519 = .ok (.iadd, 1) := by decide +kernel
theorem dL_law_520 : decode cL_law 520 = .ok (.iaload, 1) := by decide +kernel
theorem dL_law_521 : decode cL_law 521 = .ok (.aload_n 0, 1) := by decide +kernel
theorem dL_law_522 : decode cL_law 522 = .ok (.iload_n 3, 1) := by decide +kernel
theorem dL_law_523 : decode cL_law 523 = .ok (.iconst 2, 1) := by decide +kernel
theorem dL_law_524 : decode cL_law 524 = .ok (.iadd, 1) := by decide +kernel
theorem dL_law_525 : decode cL_law 525 = .ok (.iaload, 1) := by decide +kernel
theorem dL_law_526 : decode cL_law 526 = .ok (.aload_n 0, 1) := by decide +kernel
theorem dL_law_527 : decode cL_law 527 = .ok (.iload_n 3, 1) := by decide +kernel
theorem dL_law_528 : decode cL_law 528 = .ok (.iconst 3, 1) := by decide +kernel
theorem dL_law_529 : decode cL_law 529 = .ok (.iadd, 1) := by decide +kernel
theorem dL_law_530 : decode cL_law 530 = .ok (.iaload, 1) := by decide +kernel
theorem dL_law_531 : decode cL_law 531 = .ok (.aload_n 0, 1) := by decide +kernel
theorem dL_law_532 : decode cL_law 532 = .ok (.iload_n 3, 1) := by decide +kernel
theorem dL_law_533 : decode cL_law 533 = .ok (.iconst 4, 1) := by decide +kernel
theorem dL_law_534 : decode cL_law 534 = .ok (.iadd, 1) := by decide +kernel
theorem dL_law_535 : decode cL_law 535 = .ok (.iaload, 1) := by decide +kernel
theorem dL_law_536 : decode cL_law 536 = .ok (.invokevirtual 64, 3) := by decide +kernel
theorem dL_law_539 : decode cL_law 539 = .ok (.pop, 1) := by decide +kernel
theorem dL_law_540 : decode cL_law 540 = .ok (.goto 507, 3) := by decide +kernel
set_option maxHeartbeats 4000000 in
set_option maxRecDepth 20000 in
theorem lk_churn {g : xGT} {l : Launch} {b : Nat} {D : va_G} {cy : Nat → ClassId} {a0 L : Nat} {xs : Nat → Int32} (hg : xG g cL_law RL rmL 4) (he : xE g l b D cy) (hX : yX g a0 L xs) (hL : L ≤ 3072) {i : Int} (hi : 0 ≤ i ∧ i + 6 ≤ (L : Int)) {tt : Nat} {M : xMm} (hz : IZ tt M) (K : ∀ (tt2 : Nat) (M2 : xMm), IZ tt2 M2 → yW g a0 209 M2 (RS tt2) 209 8807 1047 [(1, xr 1), (2, xr 172), (3, xi i)] []) : yW g a0 209 M (RS tt) 209 8807 490 [(1, xr 1), (2, xr 172), (3, xi i)] [] := by
  obtain ⟨hIO, hJG, hIC, hIR, hIW, hIL⟩ := id hz.2.1
  refine y_aload_n hg dL_law_490 rfl ?_
  refine y_arg hg hX dL_law_491 dL_law_492 dL_law_493 dL_law_494 dL_law_495 rfl (by omega) (by omega) ?_
  refine y_arg hg hX dL_law_496 dL_law_497 dL_law_498 dL_law_499 dL_law_500 rfl (by omega) (by omega) ?_
  refine y_arg hg hX dL_law_501 dL_law_502 dL_law_503 dL_law_504 dL_law_505 rfl (by omega) (by omega) ?_
  refine y_arg hg hX dL_law_506 dL_law_507 dL_law_508 dL_law_509 dL_law_510 rfl (by omega) (by omega) ?_
  refine y_cVi hg he [_, _, _, _] [] dL_law_511 mv_L_60 (c_X11_churn l b D cy hIO (xt_int _) (xt_int _) (xt_int _) (xt_int _)) (by decide) rfl rfl (Nat.le_of_ble_eq_true rfl) (by decide) ⟨Nat.le_of_ble_eq_true rfl, Nat.le_of_ble_eq_true rfl⟩ (fun r1 M1 q1 => ?_)
  obtain ⟨hx1, hf1⟩ := sx_churn hz.2.1 (xt_int _) (xt_int _) (xt_int _) (xt_int _) q1
  have hy1 := IY_fr hz.2.2.1 hf1
  obtain ⟨hMO, hJN, hMR, hMC, hMW, hMK⟩ := id hy1
  refine y_pop hg dL_law_514 rfl ?_
  refine y_aload_n hg dL_law_515 rfl ?_
  refine y_arg hg hX dL_law_516 dL_law_517 dL_law_518 dL_law_519 dL_law_520 rfl (by omega) (by omega) ?_
  refine y_arg hg hX dL_law_521 dL_law_522 dL_law_523 dL_law_524 dL_law_525 rfl (by omega) (by omega) ?_
  refine y_arg hg hX dL_law_526 dL_law_527 dL_law_528 dL_law_529 dL_law_530 rfl (by omega) (by omega) ?_
  refine y_arg hg hX dL_law_531 dL_law_532 dL_law_533 dL_law_534 dL_law_535 rfl (by omega) (by omega) ?_
  refine y_cVi hg he [_, _, _, _] [] dL_law_536 mv_L_64 (c_X12_churn l b D cy hMO (xt_int _) (xt_int _) (xt_int _) (xt_int _)) (by decide) rfl rfl (Nat.le_of_ble_eq_true rfl) (by decide) ⟨Nat.le_of_ble_eq_true rfl, Nat.le_of_ble_eq_true rfl⟩ (fun r2 M2 q2 => ?_)
  obtain ⟨hy2, hf2⟩ := sy_churn hy1 (xt_int _) (xt_int _) (xt_int _) (xt_int _) q2
  refine y_pop hg dL_law_539 rfl ?_
  refine y_goto (tgt := 1047) hg dL_law_540 (by decide) ?_
  exact K tt M2 ⟨hz.1, IX_fr hx1 hf2, hy2, rel_churn hz.2.1 hz.2.2.1 hz.2.2.2 hf1 q1 q2⟩
theorem dL_law_543 : decode cL_law 543 = .ok (.aload_n 1, 1) := by decide +kernel
theorem dL_law_544 : decode cL_law 544 = .ok (.aload_n 0, 1) := by decide +kernel
theorem dL_law_545 : decode cL_law 545 = .ok (.iload_n 3, 1) := by decide +kernel
theorem dL_law_546 : decode cL_law 546 = .ok (.iconst 1, 1) := by decide +kernel
theorem dL_law_547 : decode cL_law 547 = .ok (.iadd, 1) := by decide +kernel
theorem dL_law_548 : decode cL_law 548 = .ok (.iaload, 1) := by decide +kernel
theorem dL_law_549 : decode cL_law 549 = .ok (.aload_n 0, 1) := by decide +kernel
theorem dL_law_550 : decode cL_law 550 = .ok (.iload_n 3, 1) := by decide +kernel
theorem dL_law_551 : decode cL_law 551 = .ok (.iconst 2, 1) := by decide +kernel
theorem dL_law_552 : decode cL_law 552 = .ok (.iadd, 1) := by decide +kernel
theorem dL_law_553 : decode cL_law 553 = .ok (.iaload, 1) := by decide +kernel
theorem dL_law_554 : decode cL_law 554 = .ok (.invokevirtual 65, 3) := by decide +kernel
theorem dL_law_557 : decode cL_law 557 = .ok (.pop, 1) := by decide +kernel
theorem dL_law_558 : decode cL_law 558 = .ok (.aload_n 2, 1) := by decide +kernel
theorem dL_law_559 : decode cL_law 559 = .ok (.aload_n 0, 1) := by decide +kernel
theorem dL_law_560 : decode cL_law 560 = .ok (.iload_n 3, 1) := by decide +kernel
theorem dL_law_561 : decode cL_law 561 = .ok (.iconst 1, 1) := by decide +kernel
theorem dL_law_562 : decode cL_law 562 = .ok (.iadd, 1) := by decide +kernel
theorem dL_law_563 : decode cL_law 563 = .ok (.iaload, 1) := by decide +kernel
theorem dL_law_564 : decode cL_law 564 = .ok (.aload_n 0, 1) := by decide +kernel
theorem dL_law_565 : decode cL_law 565 = .ok (.iload_n 3, 1) := by decide +kernel
theorem dL_law_566 : decode cL_law 566 = .ok (.iconst 2, 1) := by decide +kernel
theorem dL_law_567 : decode cL_law 567 = .ok (.iadd, 1) := by decide +kernel
theorem dL_law_568 : decode cL_law 568 = .ok (.iaload, 1) := by decide +kernel
theorem dL_law_569 : decode cL_law 569 = .ok (.invokevirtual 68, 3) := by decide +kernel
theorem dL_law_572 : decode cL_law 572 = .ok (.pop, 1) := by decide +kernel
theorem dL_law_573 : decode cL_law 573 = .ok (.goto 474, 3) := by decide +kernel
set_option maxHeartbeats 4000000 in
set_option maxRecDepth 20000 in
theorem lk_of {g : xGT} {l : Launch} {b : Nat} {D : va_G} {cy : Nat → ClassId} {a0 L : Nat} {xs : Nat → Int32} (hg : xG g cL_law RL rmL 4) (he : xE g l b D cy) (hX : yX g a0 L xs) (hL : L ≤ 3072) {i : Int} (hi : 0 ≤ i ∧ i + 6 ≤ (L : Int)) {tt : Nat} {M : xMm} (hz : IZ tt M) (K : ∀ (tt2 : Nat) (M2 : xMm), IZ tt2 M2 → yW g a0 209 M2 (RS tt2) 209 8807 1047 [(1, xr 1), (2, xr 172), (3, xi i)] []) : yW g a0 209 M (RS tt) 209 8807 543 [(1, xr 1), (2, xr 172), (3, xi i)] [] := by
  obtain ⟨hIO, hJG, hIC, hIR, hIW, hIL⟩ := id hz.2.1
  refine y_aload_n hg dL_law_543 rfl ?_
  refine y_arg hg hX dL_law_544 dL_law_545 dL_law_546 dL_law_547 dL_law_548 rfl (by omega) (by omega) ?_
  refine y_arg hg hX dL_law_549 dL_law_550 dL_law_551 dL_law_552 dL_law_553 rfl (by omega) (by omega) ?_
  refine y_cVi hg he [_, _] [] dL_law_554 mv_L_65 (c_X11_of l b D cy hIO (xt_int _) (xt_int _)) (by decide) rfl rfl (Nat.le_of_ble_eq_true rfl) (by decide) ⟨Nat.le_of_ble_eq_true rfl, Nat.le_of_ble_eq_true rfl⟩ (fun r1 M1 q1 => ?_)
  obtain ⟨hx1, hf1⟩ := sx_of hz.2.1 (xt_int _) (xt_int _) q1
  have hy1 := IY_fr hz.2.2.1 hf1
  obtain ⟨hMO, hJN, hMR, hMC, hMW, hMK⟩ := id hy1
  refine y_pop hg dL_law_557 rfl ?_
  refine y_aload_n hg dL_law_558 rfl ?_
  refine y_arg hg hX dL_law_559 dL_law_560 dL_law_561 dL_law_562 dL_law_563 rfl (by omega) (by omega) ?_
  refine y_arg hg hX dL_law_564 dL_law_565 dL_law_566 dL_law_567 dL_law_568 rfl (by omega) (by omega) ?_
  refine y_cVi hg he [_, _] [] dL_law_569 mv_L_68 (c_X12_of l b D cy hMO (xt_int _) (xt_int _)) (by decide) rfl rfl (Nat.le_of_ble_eq_true rfl) (by decide) ⟨Nat.le_of_ble_eq_true rfl, Nat.le_of_ble_eq_true rfl⟩ (fun r2 M2 q2 => ?_)
  obtain ⟨hy2, hf2⟩ := sy_of hy1 (xt_int _) (xt_int _) q2
  refine y_pop hg dL_law_572 rfl ?_
  refine y_goto (tgt := 1047) hg dL_law_573 (by decide) ?_
  exact K tt M2 ⟨hz.1, IX_fr hx1 hf2, hy2, rel_of hz.2.1 hz.2.2.1 hz.2.2.2 hf1 q1 q2⟩
theorem dL_law_576 : decode cL_law 576 = .ok (.aload_n 1, 1) := by decide +kernel
theorem dL_law_577 : decode cL_law 577 = .ok (.aload_n 0, 1) := by decide +kernel
theorem dL_law_578 : decode cL_law 578 = .ok (.iload_n 3, 1) := by decide +kernel
theorem dL_law_579 : decode cL_law 579 = .ok (.iconst 1, 1) := by decide +kernel
theorem dL_law_580 : decode cL_law 580 = .ok (.iadd, 1) := by decide +kernel
theorem dL_law_581 : decode cL_law 581 = .ok (.iaload, 1) := by decide +kernel
theorem dL_law_582 : decode cL_law 582 = .ok (.invokevirtual 69, 3) := by decide +kernel
theorem dL_law_585 : decode cL_law 585 = .ok (.pop, 1) := by decide +kernel
theorem dL_law_586 : decode cL_law 586 = .ok (.aload_n 2, 1) := by decide +kernel
theorem dL_law_587 : decode cL_law 587 = .ok (.aload_n 0, 1) := by decide +kernel
theorem dL_law_588 : decode cL_law 588 = .ok (.iload_n 3, 1) := by decide +kernel
theorem dL_law_589 : decode cL_law 589 = .ok (.iconst 1, 1) := by decide +kernel
theorem dL_law_590 : decode cL_law 590 = .ok (.iadd, 1) := by decide +kernel
theorem dL_law_591 : decode cL_law 591 = .ok (.iaload, 1) := by decide +kernel
theorem dL_law_592 : decode cL_law 592 = .ok (.invokevirtual 72, 3) := by decide +kernel
theorem dL_law_595 : decode cL_law 595 = .ok (.pop, 1) := by decide +kernel
theorem dL_law_596 : decode cL_law 596 = .ok (.goto 451, 3) := by decide +kernel
set_option maxHeartbeats 4000000 in
set_option maxRecDepth 20000 in
theorem lk_alone {g : xGT} {l : Launch} {b : Nat} {D : va_G} {cy : Nat → ClassId} {a0 L : Nat} {xs : Nat → Int32} (hg : xG g cL_law RL rmL 4) (he : xE g l b D cy) (hX : yX g a0 L xs) (hL : L ≤ 3072) {i : Int} (hi : 0 ≤ i ∧ i + 6 ≤ (L : Int)) {tt : Nat} {M : xMm} (hz : IZ tt M) (K : ∀ (tt2 : Nat) (M2 : xMm), IZ tt2 M2 → yW g a0 209 M2 (RS tt2) 209 8807 1047 [(1, xr 1), (2, xr 172), (3, xi i)] []) : yW g a0 209 M (RS tt) 209 8807 576 [(1, xr 1), (2, xr 172), (3, xi i)] [] := by
  obtain ⟨hIO, hJG, hIC, hIR, hIW, hIL⟩ := id hz.2.1
  refine y_aload_n hg dL_law_576 rfl ?_
  refine y_arg hg hX dL_law_577 dL_law_578 dL_law_579 dL_law_580 dL_law_581 rfl (by omega) (by omega) ?_
  refine y_cVi hg he [_] [] dL_law_582 mv_L_69 (c_X11_alone l b D cy hIO hIC hIR hIW hz.1 (xt_int _)) (by decide) rfl rfl (Nat.le_of_ble_eq_true rfl) (by decide) ⟨Nat.le_of_ble_eq_true rfl, Nat.le_of_ble_eq_true rfl⟩ (fun r1 M1 q1 => ?_)
  obtain ⟨hx1, hf1⟩ := sx_alone hz.2.1  q1
  have hy1 := IY_fr hz.2.2.1 hf1
  obtain ⟨hMO, hJN, hMR, hMC, hMW, hMK⟩ := id hy1
  refine y_pop hg dL_law_585 rfl ?_
  refine y_aload_n hg dL_law_586 rfl ?_
  refine y_arg hg hX dL_law_587 dL_law_588 dL_law_589 dL_law_590 dL_law_591 rfl (by omega) (by omega) ?_
  refine y_cVi hg he [_] [] dL_law_592 mv_L_72 (c_X12_alone l b D cy hMO hMR hMC hMW (xt_int _)) (by decide) rfl rfl (Nat.le_of_ble_eq_true rfl) (by decide) ⟨Nat.le_of_ble_eq_true rfl, Nat.le_of_ble_eq_true rfl⟩ (fun r2 M2 q2 => ?_)
  obtain ⟨hy2, hf2⟩ := sy_alone hy1  q2
  refine y_pop hg dL_law_595 rfl ?_
  refine y_goto (tgt := 1047) hg dL_law_596 (by decide) ?_
  exact K tt M2 ⟨hz.1, IX_fr hx1 hf2, hy2, rel_alone hz.2.1 hz.2.2.1 hz.2.2.2 hf1 q1 q2⟩
