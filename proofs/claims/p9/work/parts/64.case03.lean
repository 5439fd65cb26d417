/-! ===== the law, case by case (3) ===== -/
theorem dL_law_385 : decode cL_law 385 = .ok (.aload_n 1, 1) := by decide +kernel
theorem dL_law_386 : decode cL_law 386 = .ok (.aload_n 0, 1) := by decide +kernel
theorem dL_law_387 : decode cL_law 387 = .ok (.iload_n 3, 1) := by decide +kernel
theorem dL_law_388 : decode cL_law 388 = .ok (.iconst 1, 1) := by decide +kernel
theorem dL_law_389 : decode cL_law 389 = .ok (.iadd, 1) := by decide +kernel
theorem dL_law_390 : decode cL_law 390 = .ok (.iaload, 1) := by decide +kernel
theorem dL_law_391 : decode cL_law 391 = .ok (.aload_n 0, 1) := by decide +kernel
theorem dL_law_392 : decode cL_law 392 = .ok (.iload_n 3, 1) := by decide +kernel
theorem dL_law_393 : decode cL_law 393 = .ok (.iconst 2, 1) := by decide +kernel
theorem dL_law_394 : decode cL_law 394 = .ok (.iadd, 1) := by decide +kernel
theorem dL_law_395 : decode cL_law 395 = .ok (.iaload, 1) := by decide +kernel
theorem dL_law_396 : decode cL_law 396 = .ok (.invokevirtual 46, 3) := by decide +kernel
theorem dL_law_399 : decode cL_law 399 = .ok (.aload_n 2, 1) := by decide +kernel
theorem dL_law_400 : decode cL_law 400 = .ok (.aload_n 0, 1) := by decide +kernel
theorem dL_law_401 : decode cL_law 401 = .ok (.iload_n 3, 1) := by decide +kernel
theorem dL_law_402 : decode cL_law 402 = .ok (.iconst 1, 1) := by decide +kernel
theorem dL_law_403 : decode cL_law 403 = .ok (.iadd, 1) := by decide +kernel
theorem dL_law_404 : decode cL_law 404 = .ok (.iaload, 1) := by decide +kernel
theorem dL_law_405 : decode cL_law 405 = .ok (.aload_n 0, 1) := by decide +kernel
theorem dL_law_406 : decode cL_law 406 = .ok (.iload_n 3, 1) := by decide +kernel
theorem dL_law_407 : decode cL_law 407 = .ok (.iconst 2, 1) := by decide +kernel
theorem dL_law_408 : decode cL_law 408 = .ok (.iadd, 1) := by decide +kernel
theorem dL_law_409 : decode cL_law 409 = .ok (.iaload, 1) := by decide +kernel
theorem dL_law_410 : decode cL_law 410 = .ok (.invokevirtual 49, 3) := by decide +kernel
theorem dL_law_413 : decode cL_law 413 = .ok (.if_icmp .eq 634, 3) := by decide +kernel
set_option maxHeartbeats 4000000 in
set_option maxRecDepth 20000 in
theorem lk_sours {g : xGT} {l : Launch} {b : Nat} {D : va_G} {cy : Nat → ClassId} {a0 L : Nat} {xs : Nat → Int32} (hg : xG g cL_law RL rmL 4) (he : xE g l b D cy) (hX : yX g a0 L xs) (hL : L ≤ 3072) {i : Int} (hi : 0 ≤ i ∧ i + 6 ≤ (L : Int)) {tt : Nat} {M : xMm} (hz : IZ tt M) (K : ∀ (tt2 : Nat) (M2 : xMm), IZ tt2 M2 → yW g a0 209 M2 (RS tt2) 209 8807 1047 [(1, xr 1), (2, xr 172), (3, xi i)] []) : yW g a0 209 M (RS tt) 209 8807 385 [(1, xr 1), (2, xr 172), (3, xi i)] [] := by
  obtain ⟨hIO, hJG, hIC, hIR, hIW, hIL⟩ := id hz.2.1
  refine y_aload_n hg dL_law_385 rfl ?_
  refine y_arg hg hX dL_law_386 dL_law_387 dL_law_388 dL_law_389 dL_law_390 rfl (by omega) (by omega) ?_
  refine y_arg hg hX dL_law_391 dL_law_392 dL_law_393 dL_law_394 dL_law_395 rfl (by omega) (by omega) ?_
  refine y_cVi hg he [_, _] [] dL_law_396 mv_L_46 (c_X11_sours l b D cy hIC (xt_int _) (xt_int _)) (by decide) rfl rfl (Nat.le_of_ble_eq_true rfl) (by decide) ⟨Nat.le_of_ble_eq_true rfl, Nat.le_of_ble_eq_true rfl⟩ (fun r1 M1 q1 => ?_)
  obtain ⟨hx1, hf1⟩ := sx_sours hz.2.1 (xt_int _) (xt_int _) q1
  have hy1 := IY_fr hz.2.2.1 hf1
  obtain ⟨hMO, hJN, hMR, hMC, hMW, hMK⟩ := id hy1
  refine y_aload_n hg dL_law_399 rfl ?_
  refine y_arg hg hX dL_law_400 dL_law_401 dL_law_402 dL_law_403 dL_law_404 rfl (by omega) (by omega) ?_
  refine y_arg hg hX dL_law_405 dL_law_406 dL_law_407 dL_law_408 dL_law_409 rfl (by omega) (by omega) ?_
  refine y_cVi hg he [_, _] [_] dL_law_410 mv_L_49 (c_X12_sours l b D cy hMC (xt_int _) (xt_int _)) (by decide) rfl rfl (Nat.le_of_ble_eq_true rfl) (by decide) ⟨Nat.le_of_ble_eq_true rfl, Nat.le_of_ble_eq_true rfl⟩ (fun r2 M2 q2 => ?_)
  obtain ⟨hy2, hf2⟩ := sy_sours hy1 (xt_int _) (xt_int _) q2
  have hr : r1 = r2 ∧ inR r1 := same_sours hz.2.1 hz.2.2.1 hz.2.2.2 hf1 q1 q2
  refine y_icmp_eq (tgt := 1047) hg dL_law_413 (by decide) (by omega) (by omega) (fun c413 => ?_) (fun c413 => absurd hr.1 c413)
  exact K tt M2 ⟨hz.1, IX_fr hx1 hf2, hy2, rel_sours hz.2.1 hz.2.2.1 hz.2.2.2 hf1 q1 q2⟩
theorem dL_law_418 : decode cL_law 418 = .ok (.aload_n 1, 1) := by decide +kernel
theorem dL_law_419 : decode cL_law 419 = .ok (.aload_n 0, 1) := by decide +kernel
theorem dL_law_420 : decode cL_law 420 = .ok (.iload_n 3, 1) := by decide +kernel
theorem dL_law_421 : decode cL_law 421 = .ok (.iconst 1, 1) := by decide +kernel
theorem dL_law_422 : decode cL_law 422 = .ok (.iadd, 1) := by decide +kernel
theorem dL_law_423 : decode cL_law 423 = .ok (.iaload, 1) := by decide +kernel
theorem dL_law_424 : decode cL_law 424 = .ok (.aload_n 0, 1) := by decide +kernel
theorem dL_law_425 : decode cL_law 425 = .ok (.iload_n 3, 1) := by decide +kernel
theorem dL_law_426 : decode cL_law 426 = .ok (.iconst 2, 1) := by decide +kernel
theorem dL_law_427 : decode cL_law 427 = .ok (.iadd, 1) := by decide +kernel
theorem dL_law_428 : decode cL_law 428 = .ok (.iaload, 1) := by decide +kernel
theorem dL_law_429 : decode cL_law 429 = .ok (.ifCond .eq 7, 3) := by decide +kernel
theorem dL_law_432 : decode cL_law 432 = .ok (.iconst 1, 1) := by decide +kernel
theorem dL_law_433 : decode cL_law 433 = .ok (.goto 4, 3) := by decide +kernel
theorem dL_law_436 : decode cL_law 436 = .ok (.iconst 0, 1) := by decide +kernel
theorem dL_law_437 : decode cL_law 437 = .ok (.invokevirtual 50, 3) := by decide +kernel
theorem dL_law_440 : decode cL_law 440 = .ok (.pop, 1) := by decide +kernel
theorem dL_law_441 : decode cL_law 441 = .ok (.aload_n 2, 1) := by decide +kernel
theorem dL_law_442 : decode cL_law 442 = .ok (.aload_n 0, 1) := by decide +kernel
theorem dL_law_443 : decode cL_law 443 = .ok (.iload_n 3, 1) := by decide +kernel
theorem dL_law_444 : decode cL_law 444 = .ok (.iconst 1, 1) := by decide +kernel
theorem dL_law_445 : decode cL_law 445 = .ok (.iadd, 1) := by decide +kernel
theorem dL_law_446 : decode cL_law 446 = .ok (.iaload, 1) := by decide +kernel
theorem dL_law_447 : decode cL_law 447 = .ok (.aload_n 0, 1) := by decide +kernel
theorem dL_law_448 : decode cL_law 448 = .ok (.iload_n 3, 1) := by decide +kernel
theorem dL_law_449 : decode cL_law 449 = .ok (.iconst 2, 1) := by decide +kernel
theorem dL_law_450 : decode cL_law 450 = .ok (.iadd, 1) := by decide +kernel
theorem dL_law_451 : decode cL_law 451 = .ok (.iaload, 1) := by decide +kernel
theorem dL_law_452 : decode cL_law 452 = .ok (.ifCond .eq 7, 3) := by decide +kernel
theorem dL_law_455 : decode cL_law 455 = .ok (.iconst 1, 1) := by decide +kernel
theorem dL_law_456 : decode cL_law 456 = .ok (.goto 4, 3) := by decide +kernel
theorem dL_law_459 : decode cL_law 459 = .ok (.iconst 0, 1) := by decide +kernel
theorem dL_law_460 : decode cL_law 460 = .ok (.invokevirtual 54, 3) := by decide +kernel
theorem dL_law_463 : decode cL_law 463 = .ok (.pop, 1) := by decide +kernel
theorem dL_law_464 : decode cL_law 464 = .ok (.goto 583, 3) := by decide +kernel
set_option maxHeartbeats 4000000 in
set_option maxRecDepth 20000 in
theorem lk_cooler {g : xGT} {l : Launch} {b : Nat} {D : va_G} {cy : Nat → ClassId} {a0 L : Nat} {xs : Nat → Int32} (hg : xG g cL_law RL rmL 4) (he : xE g l b D cy) (hX : yX g a0 L xs) (hL : L ≤ 3072) {i : Int} (hi : 0 ≤ i ∧ i + 6 ≤ (L : Int)) {tt : Nat} {M : xMm} (hz : IZ tt M) (K : ∀ (tt2 : Nat) (M2 : xMm), IZ tt2 M2 → yW g a0 209 M2 (RS tt2) 209 8807 1047 [(1, xr 1), (2, xr 172), (3, xi i)] []) : yW g a0 209 M (RS tt) 209 8807 418 [(1, xr 1), (2, xr 172), (3, xi i)] [] := by
  obtain ⟨hIO, hJG, hIC, hIR, hIW, hIL⟩ := id hz.2.1
  refine y_aload_n hg dL_law_418 rfl ?_
  refine y_arg hg hX dL_law_419 dL_law_420 dL_law_421 dL_law_422 dL_law_423 rfl (by omega) (by omega) ?_
  refine y_arg hg hX dL_law_424 dL_law_425 dL_law_426 dL_law_427 dL_law_428 rfl (by omega) (by omega) ?_
  refine y_if_eq (tgt := 436) hg dL_law_429 (by decide) (xt_int _) (fun c429 => ?_) (fun c429 => ?_)
  · skip
    refine y_iconst hg dL_law_436 ?_
    refine y_cVi hg he [_, _] [] dL_law_437 mv_L_50 (c_X11_cooler l b D cy (xt_int _) (Or.inl rfl)) (by decide) rfl rfl (Nat.le_of_ble_eq_true rfl) (by decide) ⟨Nat.le_of_ble_eq_true rfl, Nat.le_of_ble_eq_true rfl⟩ (fun r1 M1 q1 => ?_)
    obtain ⟨hx1, hf1⟩ := sx_cooler hz.2.1 (xt_int _) (Or.inl rfl) q1
    have hy1 := IY_fr hz.2.2.1 hf1
    obtain ⟨hMO, hJN, hMR, hMC, hMW, hMK⟩ := id hy1
    refine y_pop hg dL_law_440 rfl ?_
    refine y_aload_n hg dL_law_441 rfl ?_
    refine y_arg hg hX dL_law_442 dL_law_443 dL_law_444 dL_law_445 dL_law_446 rfl (by omega) (by omega) ?_
    refine y_arg hg hX dL_law_447 dL_law_448 dL_law_449 dL_law_450 dL_law_451 rfl (by omega) (by omega) ?_
    refine y_if_eq (tgt := 459) hg dL_law_452 (by decide) (xt_int _) (fun c452 => ?_) (fun c452 => ?_)
    · skip
      refine y_iconst hg dL_law_459 ?_
      refine y_cVi hg he [_, _] [] dL_law_460 mv_L_54 (c_X12_cooler l b D cy (xt_int _) (Or.inl rfl)) (by decide) rfl rfl (Nat.le_of_ble_eq_true rfl) (by decide) ⟨Nat.le_of_ble_eq_true rfl, Nat.le_of_ble_eq_true rfl⟩ (fun r2 M2 q2 => ?_)
      obtain ⟨hy2, hf2⟩ := sy_cooler hy1 (xt_int _) (Or.inl rfl) q2
      refine y_pop hg dL_law_463 rfl ?_
      refine y_goto (tgt := 1047) hg dL_law_464 (by decide) ?_
      exact K tt M2 ⟨hz.1, IX_fr hx1 hf2, hy2, rel_cooler hz.2.1 hz.2.2.1 hz.2.2.2 hf1 q1 q2⟩
    · skip
      exfalso; omega
  · skip
    refine y_iconst hg dL_law_432 ?_
    refine y_goto (tgt := 437) hg dL_law_433 (by decide) ?_
    refine y_cVi hg he [_, _] [] dL_law_437 mv_L_50 (c_X11_cooler l b D cy (xt_int _) (Or.inr rfl)) (by decide) rfl rfl (Nat.le_of_ble_eq_true rfl) (by decide) ⟨Nat.le_of_ble_eq_true rfl, Nat.le_of_ble_eq_true rfl⟩ (fun r1 M1 q1 => ?_)
    obtain ⟨hx1, hf1⟩ := sx_cooler hz.2.1 (xt_int _) (Or.inr rfl) q1
    have hy1 := IY_fr hz.2.2.1 hf1
    obtain ⟨hMO, hJN, hMR, hMC, hMW, hMK⟩ := id hy1
    refine y_pop hg dL_law_440 rfl ?_
    refine y_aload_n hg dL_law_441 rfl ?_
    refine y_arg hg hX dL_law_442 dL_law_443 dL_law_444 dL_law_445 dL_law_446 rfl (by omega) (by omega) ?_
    refine y_arg hg hX dL_law_447 dL_law_448 dL_law_449 dL_law_450 dL_law_451 rfl (by omega) (by omega) ?_
    refine y_if_eq (tgt := 459) hg dL_law_452 (by decide) (xt_int _) (fun c452 => ?_) (fun c452 => ?_)
    · skip
      exfalso; omega
    · skip
      refine y_iconst hg dL_law_455 ?_
      refine y_goto (tgt := 460) hg dL_law_456 (by decide) ?_
      refine y_cVi hg he [_, _] [] dL_law_460 mv_L_54 (c_X12_cooler l b D cy (xt_int _) (Or.inr rfl)) (by decide) rfl rfl (Nat.le_of_ble_eq_true rfl) (by decide) ⟨Nat.le_of_ble_eq_true rfl, Nat.le_of_ble_eq_true rfl⟩ (fun r2 M2 q2 => ?_)
      obtain ⟨hy2, hf2⟩ := sy_cooler hy1 (xt_int _) (Or.inr rfl) q2
      refine y_pop hg dL_law_463 rfl ?_
      refine y_goto (tgt := 1047) hg dL_law_464 (by decide) ?_
      exact K tt M2 ⟨hz.1, IX_fr hx1 hf2, hy2, rel_cooler hz.2.1 hz.2.2.1 hz.2.2.2 hf1 q1 q2⟩
theorem dL_law_467 : decode cL_law 467 = .ok (.aload_n 1, 1) := by decide +kernel
theorem dL_law_468 : decode cL_law 468 = .ok (.aload_n 0, 1) := by decide +kernel
theorem dL_law_469 : decode cL_law 469 = .ok (.iload_n 3, 1) := by decide +kernel
theorem dL_law_470 : decode cL_law 470 = .ok (.iconst 1, 1) := by decide +kernel
theorem dL_law_471 : decode cL_law 471 = .ok (.iadd, 1) := by decide +kernel
theorem dL_law_472 : decode cL_law 472 = .ok (.iaload, 1) := by decide +kernel
theorem dL_law_473 : decode cL_law 473 = .ok (.invokevirtual 55, 3) := by decide +kernel
theorem dL_law_476 : decode cL_law 476 = .ok (.pop, 1) := by decide +kernel
theorem dL_law_477 : decode cL_law 477 = .ok (.aload_n 2, 1) := by decide +kernel
theorem dL_law_478 : decode cL_law 478 = .ok (.aload_n 0, 1) := by decide +kernel
theorem dL_law_479 : decode cL_law 479 = .ok (.iload_n 3, 1) := by decide +kernel
theorem dL_law_480 : decode cL_law 480 = .ok (.iconst 1, 1) := by decide +kernel
theorem dL_law_481 : decode cL_law 481 = .ok (.iadd, 1) := by decide +kernel
theorem dL_law_482 : decode cL_law 482 = .ok (.iaload, 1) := by decide +kernel
theorem dL_law_483 : decode cL_law 483 = .ok (.invokevirtual 59, 3) := by decide +kernel
theorem dL_law_486 : decode cL_law 486 = .ok (.pop, 1) := by decide +kernel
theorem dL_law_487 : decode cL_law 487 = .ok (.goto 560, 3) := by decide +kernel
set_option maxHeartbeats 4000000 in
set_option maxRecDepth 20000 in
theorem lk_limit {g : xGT} {l : Launch} {b : Nat} {D : va_G} {cy : Nat → ClassId} {a0 L : Nat} {xs : Nat → Int32} (hg : xG g cL_law RL rmL 4) (he : xE g l b D cy) (hX : yX g a0 L xs) (hL : L ≤ 3072) {i : Int} (hi : 0 ≤ i ∧ i + 6 ≤ (L : Int)) {tt : Nat} {M : xMm} (hz : IZ tt M) (K : ∀ (tt2 : Nat) (M2 : xMm), IZ tt2 M2 → yW g a0 209 M2 (RS tt2) 209 8807 1047 [(1, xr 1), (2, xr 172), (3, xi i)] []) : yW g a0 209 M (RS tt) 209 8807 467 [(1, xr 1), (2, xr 172), (3, xi i)] [] := by
  obtain ⟨hIO, hJG, hIC, hIR, hIW, hIL⟩ := id hz.2.1
  refine y_aload_n hg dL_law_467 rfl ?_
  refine y_arg hg hX dL_law_468 dL_law_469 dL_law_470 dL_law_471 dL_law_472 rfl (by omega) (by omega) ?_
  refine y_cVi hg he [_] [] dL_law_473 mv_L_55 (c_X11_limit l b D cy (xt_int _)) (by decide) rfl rfl (Nat.le_of_ble_eq_true rfl) (by decide) ⟨Nat.le_of_ble_eq_true rfl, Nat.le_of_ble_eq_true rfl⟩ (fun r1 M1 q1 => ?_)
  obtain ⟨hx1, hf1⟩ := sx_limit hz.2.1 (xt_int _) q1
  have hy1 := IY_fr hz.2.2.1 hf1
  obtain ⟨hMO, hJN, hMR, hMC, hMW, hMK⟩ := id hy1
  refine y_pop hg dL_law_476 rfl ?_
  refine y_aload_n hg dL_law_477 rfl ?_
  refine y_arg hg hX dL_law_478 dL_law_479 dL_law_480 dL_law_481 dL_law_482 rfl (by omega) (by omega) ?_
  refine y_cVi hg he [_] [] dL_law_483 mv_L_59 (c_X12_limit l b D cy (xt_int _)) (by decide) rfl rfl (Nat.le_of_ble_eq_true rfl) (by decide) ⟨Nat.le_of_ble_eq_true rfl, Nat.le_of_ble_eq_true rfl⟩ (fun r2 M2 q2 => ?_)
  obtain ⟨hy2, hf2⟩ := sy_limit hy1 (xt_int _) q2
  refine y_pop hg dL_law_486 rfl ?_
  refine y_goto (tgt := 1047) hg dL_law_487 (by decide) ?_
  exact K tt M2 ⟨hz.1, IX_fr hx1 hf2, hy2, rel_limit hz.2.1 hz.2.2.1 hz.2.2.2 hf1 q1 q2⟩
