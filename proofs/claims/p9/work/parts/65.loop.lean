/-! ===== the law: its loop ===== -/
theorem dL_law_0 : decode cL_law 0 = .ok (.new 7, 3) := by decide +kernel
theorem dL_law_3 : decode cL_law 3 = .ok (.dup, 1) := by decide +kernel
theorem dL_law_4 : decode cL_law 4 = .ok (.invokespecial 9, 3) := by decide +kernel
theorem dL_law_7 : decode cL_law 7 = .ok (.astore_n 1, 1) := by decide +kernel
theorem dL_law_8 : decode cL_law 8 = .ok (.new 10, 3) := by decide +kernel
theorem dL_law_11 : decode cL_law 11 = .ok (.dup, 1) := by decide +kernel
theorem dL_law_12 : decode cL_law 12 = .ok (.invokespecial 12, 3) := by decide +kernel
theorem dL_law_15 : decode cL_law 15 = .ok (.astore_n 2, 1) := by decide +kernel
theorem dL_law_16 : decode cL_law 16 = .ok (.iconst 0, 1) := by decide +kernel
theorem dL_law_17 : decode cL_law 17 = .ok (.istore_n 3, 1) := by decide +kernel
theorem dL_law_18 : decode cL_law 18 = .ok (.iload_n 3, 1) := by decide +kernel
theorem dL_law_19 : decode cL_law 19 = .ok (.aload_n 0, 1) := by decide +kernel
theorem dL_law_20 : decode cL_law 20 = .ok (.arraylength, 1) := by decide +kernel
theorem dL_law_21 : decode cL_law 21 = .ok (.bipush 6, 2) := by decide +kernel
theorem dL_law_23 : decode cL_law 23 = .ok (.isub, 1) := by decide +kernel
theorem dL_law_24 : decode cL_law 24 = .ok (.if_icmp .gt 1029, 3) := by decide +kernel
theorem dL_law_27 : decode cL_law 27 = .ok (.aload_n 0, 1) := by decide +kernel
theorem dL_law_28 : decode cL_law 28 = .ok (.iload_n 3, 1) := by decide +kernel
theorem dL_law_29 : decode cL_law 29 = .ok (.iaload, 1) := by decide +kernel
theorem dL_law_30 : decode cL_law 30 = .ok (.bipush 31, 2) := by decide +kernel
theorem dL_law_32 : decode cL_law 32 = .ok (.iand, 1) := by decide +kernel
theorem dL_law_33 : decode cL_law 33 = .ok (.tableswitch 1014 0 28 #[131, 194, 217, 230, 253, 286, 319, 352, 385, 434, 457, 510, 543, 566, 599, 632, 645, 658, 681, 704, 737, 780, 813, 846, 879, 912, 935, 968, 991], 131) := by decide +kernel
theorem dL_law_1047 : decode cL_law 1047 = .ok (.iinc 3 6, 3) := by decide +kernel
theorem dL_law_1050 : decode cL_law 1050 = .ok (.goto (-1032), 3) := by decide +kernel
theorem dL_law_1053 : decode cL_law 1053 = .ok (.iconst 1, 1) := by decide +kernel
theorem dL_law_1054 : decode cL_law 1054 = .ok (.ireturn, 1) := by decide +kernel
theorem bAnd_31 (x : Int) : 0 ≤ bAnd x 31 ∧ bAnd x 31 ≤ 31 := by
  obtain ⟨j, hj, e⟩ := pk_andE (Int32.ofInt x) (m := Int32.ofInt 31) 5 (by decide)
  show 0 ≤ (Int32.ofInt x &&& Int32.ofInt 31).toInt ∧ (Int32.ofInt x &&& Int32.ofInt 31).toInt ≤ 31
  rw [e, nI_toInt (by omega)]
  omega
set_option maxHeartbeats 4000000 in
set_option maxRecDepth 20000 in
theorem law_loop {g : xGT} {l : Launch} {b : Nat} {D : va_G} {cy : Nat → ClassId} {a0 L : Nat} {xs : Nat → Int32} (hg : xG g cL_law RL rmL 4) (he : xE g l b D cy) (hX : yX g a0 L xs) (hL : L ≤ 3072) (hend : ∀ (tt : Nat) (M : xMm) (z : Int), yW g a0 209 M (RS tt) 209 8807 1053 [(1, xr 1), (2, xr 172), (3, xi z)] []) : ∀ (f i tt : Nat) (M : xMm), L + 6 < i + f → i ≤ L + 6 → IZ tt M → yW g a0 209 M (RS tt) 209 8807 18 [(1, xr 1), (2, xr 172), (3, xi (i : Int))] [] := by
  intro f
  induction f with
  | zero => intro i tt M h1 h2 hz; exfalso; omega
  | succ f ih =>
    intro i tt M h1 h2 hz
    refine y_iload_n hg dL_law_18 rfl ?_
    refine y_len hg hX dL_law_19 dL_law_20 ?_
    refine y_bipush hg dL_law_21 (by decide) ?_
    refine y_isub hg dL_law_23 ?_
    refine y_icmp_gt (tgt := 1053) hg dL_law_24 (by decide) (by omega) (by omega) (fun c24 => hend tt M i) (fun c24 => ?_)
    have hi : 0 ≤ (i : Int) ∧ (i : Int) + 6 ≤ (L : Int) := by omega
    refine y_arg0 hg hX dL_law_27 dL_law_28 dL_law_29 rfl (by omega) (by omega) ?_
    refine y_bipush hg dL_law_30 (by decide) ?_
    refine y_iand hg dL_law_32 ?_
    have K : ∀ (tt2 : Nat) (M2 : xMm), IZ tt2 M2 → yW g a0 209 M2 (RS tt2) 209 8807 1047 [(1, xr 1), (2, xr 172), (3, xi (i : Int))] [] := fun tt2 M2 hz2 => by
      refine y_iinc (ls' := [(1, _), (2, _), (3, _)]) hg dL_law_1047 rfl (by decide) (by decide) rfl ?_
      refine y_goto (tgt := 18) hg dL_law_1050 (by decide) ?_
      have h9 := ih (i + 6) tt2 M2 (by omega) (by omega) hz2
      rw [show ((i + 6 : Nat) : Int) = (i : Int) + 6 by omega] at h9
      exact h9
    have hb := bAnd_31 (xs (i : Int).toNat).toInt
    generalize bAnd (xs (i : Int).toNat).toInt 31 = v at hb ⊢
    by_cases h28 : 28 < v
    · exact y_tableOut (tgt := 1047) hg dL_law_33 (by omega) (Or.inr h28) (by decide) (K tt M hz)
    · obtain ⟨n, rfl⟩ : ∃ n : Nat, v = (n : Int) := ⟨v.toNat, by omega⟩
      have hn : n < 29 := by omega
      clear hb h28
      match n, hn with
      | 0, _ => exact y_tableIn (off := 131) (tgt := 164) hg dL_law_33 (by decide) (by decide) (by decide) rfl (by decide) (lk_feed hg he hX hL hi hz K)
      | 1, _ => exact y_tableIn (off := 194) (tgt := 227) hg dL_law_33 (by decide) (by decide) (by decide) rfl (by decide) (lk_end hg he hX hL hi hz K)
      | 2, _ => exact y_tableIn (off := 217) (tgt := 250) hg dL_law_33 (by decide) (by decide) (by decide) rfl (by decide) (lk_timetable hg he hX hL hi hz K)
      | 3, _ => exact y_tableIn (off := 230) (tgt := 263) hg dL_law_33 (by decide) (by decide) (by decide) rfl (by decide) (lk_fault hg he hX hL hi hz K)
      | 4, _ => exact y_tableIn (off := 253) (tgt := 286) hg dL_law_33 (by decide) (by decide) (by decide) rfl (by decide) (lk_train hg he hX hL hi hz K)
      | 5, _ => exact y_tableIn (off := 286) (tgt := 319) hg dL_law_33 (by decide) (by decide) (by decide) rfl (by decide) (lk_delay hg he hX hL hi hz K)
      | 6, _ => exact y_tableIn (off := 319) (tgt := 352) hg dL_law_33 (by decide) (by decide) (by decide) rfl (by decide) (lk_warmth hg he hX hL hi hz K)
      | 7, _ => exact y_tableIn (off := 352) (tgt := 385) hg dL_law_33 (by decide) (by decide) (by decide) rfl (by decide) (lk_sours hg he hX hL hi hz K)
      | 8, _ => exact y_tableIn (off := 385) (tgt := 418) hg dL_law_33 (by decide) (by decide) (by decide) rfl (by decide) (lk_cooler hg he hX hL hi hz K)
      | 9, _ => exact y_tableIn (off := 434) (tgt := 467) hg dL_law_33 (by decide) (by decide) (by decide) rfl (by decide) (lk_limit hg he hX hL hi hz K)
      | 10, _ => exact y_tableIn (off := 457) (tgt := 490) hg dL_law_33 (by decide) (by decide) (by decide) rfl (by decide) (lk_churn hg he hX hL hi hz K)
      | 11, _ => exact y_tableIn (off := 510) (tgt := 543) hg dL_law_33 (by decide) (by decide) (by decide) rfl (by decide) (lk_of hg he hX hL hi hz K)
      | 12, _ => exact y_tableIn (off := 543) (tgt := 576) hg dL_law_33 (by decide) (by decide) (by decide) rfl (by decide) (lk_alone hg he hX hL hi hz K)
      | 13, _ => exact y_tableIn (off := 566) (tgt := 599) hg dL_law_33 (by decide) (by decide) (by decide) rfl (by decide) (lk_way hg he hX hL hi hz K)
      | 14, _ => exact y_tableIn (off := 599) (tgt := 632) hg dL_law_33 (by decide) (by decide) (by decide) rfl (by decide) (lk_by hg he hX hL hi hz K)
      | 15, _ => exact y_tableIn (off := 632) (tgt := 665) hg dL_law_33 (by decide) (by decide) (by decide) rfl (by decide) (lk_lost hg he hX hL hi hz K)
      | 16, _ => exact y_tableIn (off := 645) (tgt := 678) hg dL_law_33 (by decide) (by decide) (by decide) rfl (by decide) (lk_souring hg he hX hL hi hz K)
      | 17, _ => exact y_tableIn (off := 658) (tgt := 691) hg dL_law_33 (by decide) (by decide) (by decide) rfl (by decide) (lk_load hg he hX hL hi hz K)
      | 18, _ => exact y_tableIn (off := 681) (tgt := 714) hg dL_law_33 (by decide) (by decide) (by decide) rfl (by decide) (lk_later hg he hX hL hi hz K)
      | 19, _ => exact y_tableIn (off := 704) (tgt := 737) hg dL_law_33 (by decide) (by decide) (by decide) rfl (by decide) (lk_pour hg he hX hL hi hz K)
      | 20, _ => exact y_tableIn (off := 737) (tgt := 770) hg dL_law_33 (by decide) (by decide) (by decide) rfl (by decide) (lk_lead hg he hX hL hi hz K)
      | 21, _ => exact y_tableIn (off := 780) (tgt := 813) hg dL_law_33 (by decide) (by decide) (by decide) rfl (by decide) (lk_bottle hg he hX hL hi hz K)
      | 22, _ => exact y_tableIn (off := 813) (tgt := 846) hg dL_law_33 (by decide) (by decide) (by decide) rfl (by decide) (lk_tank hg he hX hL hi hz K)
      | 23, _ => exact y_tableIn (off := 846) (tgt := 879) hg dL_law_33 (by decide) (by decide) (by decide) rfl (by decide) (lk_bottling hg he hX hL hi hz K)
      | 24, _ => exact y_tableIn (off := 879) (tgt := 912) hg dL_law_33 (by decide) (by decide) (by decide) rfl (by decide) (lk_find hg he hX hL hi hz K)
      | 25, _ => exact y_tableIn (off := 912) (tgt := 945) hg dL_law_33 (by decide) (by decide) (by decide) rfl (by decide) (lk_untell hg he hX hL hi hz K)
      | 26, _ => exact y_tableIn (off := 935) (tgt := 968) hg dL_law_33 (by decide) (by decide) (by decide) rfl (by decide) (lk_recalled hg he hX hL hi hz K)
      | 27, _ => exact y_tableIn (off := 968) (tgt := 1001) hg dL_law_33 (by decide) (by decide) (by decide) rfl (by decide) (lk_recall hg he hX hL hi hz K)
      | 28, _ => exact y_tableIn (off := 991) (tgt := 1024) hg dL_law_33 (by decide) (by decide) (by decide) rfl (by decide) (lk_about hg he hX hL hi hz K)
      | n + 29, h => exact absurd h (by omega)
