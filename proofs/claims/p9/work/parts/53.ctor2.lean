theorem dX8_init_0 : decode cX8_init 0 = .ok (.aload_n 0, 1) := by decide +kernel
theorem dX8_init_1 : decode cX8_init 1 = .ok (.invokespecial 3, 3) := by decide +kernel
theorem dX8_init_4 : decode cX8_init 4 = .ok (.aload_n 0, 1) := by decide +kernel
theorem dX8_init_5 : decode cX8_init 5 = .ok (.bipush 8, 2) := by decide +kernel
theorem dX8_init_7 : decode cX8_init 7 = .ok (.anewarray 9, 3) := by decide +kernel
theorem dX8_init_10 : decode cX8_init 10 = .ok (.putfield 11, 3) := by decide +kernel
theorem dX8_init_13 : decode cX8_init 13 = .ok (.iconst 0, 1) := by decide +kernel
theorem dX8_init_14 : decode cX8_init 14 = .ok (.istore_n 1, 1) := by decide +kernel
theorem dX8_init_15 : decode cX8_init 15 = .ok (.iload_n 1, 1) := by decide +kernel
theorem dX8_init_16 : decode cX8_init 16 = .ok (.bipush 8, 2) := by decide +kernel
theorem dX8_init_18 : decode cX8_init 18 = .ok (.if_icmp .ge 22, 3) := by decide +kernel
theorem dX8_init_21 : decode cX8_init 21 = .ok (.aload_n 0, 1) := by decide +kernel
theorem dX8_init_22 : decode cX8_init 22 = .ok (.getfield 11, 3) := by decide +kernel
theorem dX8_init_25 : decode cX8_init 25 = .ok (.iload_n 1, 1) := by decide +kernel
theorem dX8_init_26 : decode cX8_init 26 = .ok (.new 9, 3) := by decide +kernel
theorem dX8_init_29 : decode cX8_init 29 = .ok (.dup, 1) := by decide +kernel
theorem dX8_init_30 : decode cX8_init 30 = .ok (.invokespecial 17, 3) := by decide +kernel
theorem dX8_init_33 : decode cX8_init 33 = .ok (.aastore, 1) := by decide +kernel
theorem dX8_init_34 : decode cX8_init 34 = .ok (.iinc 1 1, 3) := by decide +kernel
theorem dX8_init_37 : decode cX8_init 37 = .ok (.goto (-22), 3) := by decide +kernel
theorem dX8_init_40 : decode cX8_init 40 = .ok (.return_, 1) := by decide +kernel
set_option maxHeartbeats 4000000 in
set_option maxRecDepth 20000 in
theorem c_X8_init (l : Launch) (b : Nat) (D : va_G) (cy : Nat → ClassId) {q : Nat} {M : xMm} {R : xRm} (htt : xTt q) (hM : ∀ a, q < a → ∀ f, M a f = 0) (hR : ∀ a, q ≤ a → ∀ f, R a f = 0) : xCi l b D cy yX8_init cX8_init 2 ({ frames := 2, cells := 25, slots := 184, locals := 41 }) [xr q] q M R (xPc (q + 25) (rF R q (q + 25)) (fun M' => M' = M)) := by
  refine x_metI (by decide) (Nat.le_of_ble_eq_true rfl) (fun g hg hr he ha => ?_)
  refine x_canon (ls' := [(0, _)]) rfl ?_
  have loop : ∀ (f k : Nat), k ≤ 8 → 8 < k + f → xW g (q + 1 + 3 * k) M (rL R q k) (1 + 3 * k) (8 + 22 * k) 15 [(0, xr q), (1, xi (k : Int))] [] := by
    intro f
    induction f with
    | zero => intro k h1 h2; exfalso; omega
    | succ f ih =>
      intro k hk1 hk2
      have htr : k < 8 → xTr (q + 2 + 3 * k) := fun h => xTr_of htt h
      have hlt := lay_tt htt
      refine x_iload_n hg dX8_init_15 rfl ?_
      refine x_bipush hg dX8_init_16 (by decide) ?_
      refine x_icmp_ge (tgt := 40) hg dX8_init_18 (by decide) (by omega) (by omega) (fun c18 => ?_) (fun c18 => ?_)
      · skip
        have hk8 : k = 8 := by omega
        subst hk8
        refine x_sameR (R' := rF R q (q + 25)) (sameR_F (fun a ha2 j => ?_) (fun a h1 h2 => ?_)) ?_
        · unfold rL; rw [if_neg (by omega), if_neg (by omega), if_neg (by omega)]
        · rcases (show a = q ∨ a = q + 1 ∨ (q + 2 ≤ a ∧ a ≤ q + 25) by omega) with rfl | rfl | h3
          · refine ⟨fun ci hl j hj hkk => ?_, fun t len hl => ?_⟩
            · rw [hlt.1] at hl
              cases hl
              have hj2 : j < 2 := hj
              rcases (show j = 0 ∨ j = 1 by omega) with rfl | rfl
              · rw [RS_tt htt]; unfold rL; rw [if_neg (by omega), if_pos (by omega)]
              · exact absurd hkk (by decide)
            · rw [hlt.1] at hl; cases hl
          · refine ⟨fun ci hl => ?_, fun t len hl ht j hj => ?_⟩
            · rw [hlt.2] at hl; cases hl
            · rw [hlt.2] at hl; cases hl
              rw [RS_trn htt]; unfold rL; rw [if_pos (by omega)]
          · refine ⟨fun ci hl j hj hkk => ?_, fun t len hl ht j hj => ?_⟩
            · unfold rL; rw [if_neg (by omega), if_neg (by omega), if_pos (by omega)]
            · unfold rL; rw [if_neg (by omega), if_neg (by omega), if_pos (by omega)]
        · refine x_vret hg hr dX8_init_40 (by decide) (by decide) ⟨rfl, rfl, rfl, rfl⟩
      · skip
        refine x_aload_n hg dX8_init_21 rfl ?_
        refine x_getR (j9 := q + 1) hg dX8_init_22 fl_X8_11 ⟨by omega, by omega, (lay_tt htt).1⟩ rfl (by unfold rL; rw [if_neg (by omega), if_pos ⟨rfl, rfl⟩]) (by omega) ?_
        refine x_iload_n hg dX8_init_25 rfl ?_
        refine x_new hg dX8_init_26 nw_X8_9 (by rw [show q + 1 + 3 * k + 1 = q + 2 + 3 * k by omega]; exact (lay_train _ (by omega) (htr (by omega))).1) (fun f => hM _ (by omega) f) (fun f => by unfold rL; rw [if_neg (by omega), if_neg (by omega), if_neg (by omega)]; exact hR _ (by omega) f) (by show _ ≤ 25; omega) (by show _ ≤ 184; omega) ?_
        refine x_dup hg dX8_init_29 rfl ?_
        refine x_cI hg ha [] [_, _, _] he dX8_init_30 mi_X8_17 (c_X9_init l b D cy (i := q + 1 + 3 * k + 1) (by rw [show q + 1 + 3 * k + 1 = q + 2 + 3 * k by omega]; exact htr (by omega)) (fun a h f => hM a (by omega) f) (fun a h f => by unfold rL; rw [if_neg (by omega), if_neg (by omega), if_neg (by omega)]; exact hR a (by omega) f)) rfl rfl (Nat.le_of_ble_eq_true rfl) (by decide) (by show _ + 2 ≤ 25 ∧ _ + 16 ≤ 184; omega) (fun M30 q30 => ?_)
        replace q30 := q30.symm
        subst q30
        refine x_aastore4 hg dX8_init_33 ⟨by omega, by omega, hlt.2, by decide⟩ (by omega) ⟨by omega, by omega, by rw [show q + 1 + 3 * k + 1 = q + 2 + 3 * k by omega]; exact (lay_train _ (by omega) (htr (by omega))).1⟩ ?_
        refine x_iinc (ls' := [(0, _), (1, _)]) hg dX8_init_34 rfl (by decide) rfl ?_
        refine x_goto (tgt := 15) hg dX8_init_37 (by decide) ?_
        rw [rL_s (by omega) (by omega) (by omega) (by omega)]
        refine x_wide (k2 := 1 + 3 * (k + 1)) (w2 := 8 + 22 * (k + 1)) (by show _ + 2 ≤ _; omega) (by show _ + 16 ≤ _; omega) ?_
        exact ih (k + 1) (by omega) (by omega)
  refine x_aload_n hg dX8_init_0 rfl ?_
  refine x_objInit hg dX8_init_1 oi_X8_3 ⟨by decide, Nat.le_of_ble_eq_true rfl⟩ ?_
  refine x_aload_n hg dX8_init_4 rfl ?_
  refine x_bipush hg dX8_init_5 (by decide) ?_
  refine x_anew4 (len := 8) hg ha dX8_init_7 cl_X8_9 (lay_tt htt).2 rfl (by decide) (fun f => hR _ (by omega) f) (by decide) (by decide) ?_
  refine x_putF hg hr rfl dX8_init_10 ff_X8_11 ⟨by omega, by omega, (lay_tt htt).1⟩ rfl (by omega) ?_
  refine x_iconst hg dX8_init_13 ?_
  refine x_istore_n (ls' := [(0, _), (1, _)]) hg dX8_init_14 rfl (by decide) rfl ?_
  rw [← rL_0]
  exact loop 9 0 (by omega) (by omega)

theorem dX7_init_0 : decode cX7_init 0 = .ok (.aload_n 0, 1) := by decide +kernel
theorem dX7_init_1 : decode cX7_init 1 = .ok (.invokespecial 3, 3) := by decide +kernel
theorem dX7_init_4 : decode cX7_init 4 = .ok (.aload_n 0, 1) := by decide +kernel
theorem dX7_init_5 : decode cX7_init 5 = .ok (.sipush 1000, 3) := by decide +kernel
theorem dX7_init_8 : decode cX7_init 8 = .ok (.newarray .int, 2) := by decide +kernel
theorem dX7_init_10 : decode cX7_init 10 = .ok (.putfield 9, 3) := by decide +kernel
theorem dX7_init_13 : decode cX7_init 13 = .ok (.return_, 1) := by decide +kernel
set_option maxHeartbeats 4000000 in
set_option maxRecDepth 20000 in
theorem c_X7_init (l : Launch) (b : Nat) (D : va_G) (cy : Nat → ClassId) {M : xMm} {R : xRm} (hM : ∀ a, 2 < a → ∀ f, M a f = 0) (hR : ∀ a, 2 ≤ a → ∀ f, R a f = 0) : xCi l b D cy yX7_init cX7_init 1 ({ frames := 1, cells := 1, slots := 1000, locals := 21 }) [xr 2] 2 M R (xPc 3 (rF R 2 3) (fun M' => M' = M)) := by
  refine x_metI (by decide) (Nat.le_of_ble_eq_true rfl) (fun g hg hr he ha => ?_)
  refine x_canon (ls' := [(0, _)]) rfl ?_
  refine x_aload_n hg dX7_init_0 rfl ?_
  refine x_objInit hg dX7_init_1 oi_X7_3 ⟨by decide, Nat.le_of_ble_eq_true rfl⟩ ?_
  refine x_aload_n hg dX7_init_4 rfl ?_
  refine x_sipush hg dX7_init_5 (by decide) ?_
  refine x_newa0 (len := 1000) hg dX7_init_8 (by decide) rfl (by decide) (fun f => by first | exact hM _ (by omega) f | (simp (disch := omega) only [mu_nc]; exact hM _ (by omega) f)) (by decide) (by decide) ?_
  refine x_putF hg hr rfl dX7_init_10 ff_X7_9 (by decide) rfl (by decide) ?_
  refine x_sameR (R' := rF R 2 3) (sameR_F (fun a ha2 k => ?_) (fun a h1 h2 => ?_)) ?_
  · simp (disch := omega) only [ru_nc]
  · rcases (show a = 2 ∨ a = 3 by omega) with rfl | rfl
    · refine ⟨fun ci hl j hj hk => ?_, fun t len hl => ?_⟩
      · cases (show ci = 7 from by cases hl; rfl)
        have hj2 : j < 2 := hj
        rcases (show j = 0 ∨ j = 1 by omega) with rfl | rfl <;> first | rfl | exact absurd hk (by decide)
      · cases hl
    · exact ⟨fun ci hl => (by cases hl), fun t len hl ht => (by cases hl; exact absurd ht (by decide))⟩
  · refine x_vret hg hr dX7_init_13 (by decide) (by decide) ⟨rfl, rfl, rfl, rfl⟩

theorem dX5_init_0 : decode cX5_init 0 = .ok (.aload_n 0, 1) := by decide +kernel
theorem dX5_init_1 : decode cX5_init 1 = .ok (.invokespecial 3, 3) := by decide +kernel
theorem dX5_init_4 : decode cX5_init 4 = .ok (.aload_n 0, 1) := by decide +kernel
theorem dX5_init_5 : decode cX5_init 5 = .ok (.aload_n 1, 1) := by decide +kernel
theorem dX5_init_6 : decode cX5_init 6 = .ok (.putfield 9, 3) := by decide +kernel
theorem dX5_init_9 : decode cX5_init 9 = .ok (.aload_n 0, 1) := by decide +kernel
theorem dX5_init_10 : decode cX5_init 10 = .ok (.iconst (-1), 1) := by decide +kernel
theorem dX5_init_11 : decode cX5_init 11 = .ok (.putfield 15, 3) := by decide +kernel
theorem dX5_init_14 : decode cX5_init 14 = .ok (.return_, 1) := by decide +kernel
set_option maxHeartbeats 4000000 in
set_option maxRecDepth 20000 in
theorem c_X5_init (l : Launch) (b : Nat) (D : va_G) (cy : Nat → ClassId) {M : xMm} {R : xRm} (hM : ∀ a, 4 < a → ∀ f, M a f = 0) (hR : ∀ a, 4 ≤ a → ∀ f, R a f = 0) : xCi l b D cy yX5_init cX5_init 2 ({ frames := 1, cells := 0, slots := 0, locals := 21 }) [xr 4, xr 2] 4 M R (xPc 4 (rF R 4 4) (fun M' => M' = mu M 4 7 (-1))) := by
  refine x_metI (by decide) (Nat.le_of_ble_eq_true rfl) (fun g hg hr he ha => ?_)
  refine x_canon (ls' := [(0, _), (1, _)]) rfl ?_
  refine x_aload_n hg dX5_init_0 rfl ?_
  refine x_objInit hg dX5_init_1 oi_X5_3 ⟨by decide, Nat.le_of_ble_eq_true rfl⟩ ?_
  refine x_aload_n hg dX5_init_4 rfl ?_
  refine x_aload_n hg dX5_init_5 rfl ?_
  refine x_putF hg hr rfl dX5_init_6 ff_X5_9 (by decide) rfl (by decide) ?_
  refine x_aload_n hg dX5_init_9 rfl ?_
  refine x_iconst hg dX5_init_10 ?_
  refine x_putI hg dX5_init_11 fl_X5_15 ft_5_7 (by decide) rfl ?_
  refine x_sameR (R' := rF R 4 4) (sameR_F (fun a ha2 k => ?_) (fun a h1 h2 => ?_)) ?_
  · simp (disch := omega) only [ru_nc]
  · rcases (show a = 4 by omega) with rfl
    · refine ⟨fun ci hl j hj hk => ?_, fun t len hl => ?_⟩
      · cases (show ci = 5 from by cases hl; rfl)
        have hj2 : j < 8 := hj
        rcases (show j = 0 ∨ j = 1 ∨ j = 2 ∨ j = 3 ∨ j = 4 ∨ j = 5 ∨ j = 6 ∨ j = 7 by omega) with rfl | rfl | rfl | rfl | rfl | rfl | rfl | rfl <;> first | rfl | exact absurd hk (by decide)
      · cases hl
  · refine x_vret hg hr dX5_init_14 (by decide) (by decide) ⟨rfl, rfl, rfl, rfl⟩

theorem dX10_init_0 : decode cX10_init 0 = .ok (.aload_n 0, 1) := by decide +kernel
theorem dX10_init_1 : decode cX10_init 1 = .ok (.invokespecial 3, 3) := by decide +kernel
theorem dX10_init_4 : decode cX10_init 4 = .ok (.aload_n 0, 1) := by decide +kernel
theorem dX10_init_5 : decode cX10_init 5 = .ok (.bipush 64, 2) := by decide +kernel
theorem dX10_init_7 : decode cX10_init 7 = .ok (.newarray .int, 2) := by decide +kernel
theorem dX10_init_9 : decode cX10_init 9 = .ok (.putfield 11, 3) := by decide +kernel
theorem dX10_init_12 : decode cX10_init 12 = .ok (.aload_n 0, 1) := by decide +kernel
theorem dX10_init_13 : decode cX10_init 13 = .ok (.bipush 64, 2) := by decide +kernel
theorem dX10_init_15 : decode cX10_init 15 = .ok (.newarray .int, 2) := by decide +kernel
theorem dX10_init_17 : decode cX10_init 17 = .ok (.putfield 15, 3) := by decide +kernel
theorem dX10_init_20 : decode cX10_init 20 = .ok (.aload_n 0, 1) := by decide +kernel
theorem dX10_init_21 : decode cX10_init 21 = .ok (.bipush 64, 2) := by decide +kernel
theorem dX10_init_23 : decode cX10_init 23 = .ok (.newarray .int, 2) := by decide +kernel
theorem dX10_init_25 : decode cX10_init 25 = .ok (.putfield 18, 3) := by decide +kernel
theorem dX10_init_28 : decode cX10_init 28 = .ok (.aload_n 0, 1) := by decide +kernel
theorem dX10_init_29 : decode cX10_init 29 = .ok (.bipush 64, 2) := by decide +kernel
theorem dX10_init_31 : decode cX10_init 31 = .ok (.newarray .int, 2) := by decide +kernel
theorem dX10_init_33 : decode cX10_init 33 = .ok (.putfield 21, 3) := by decide +kernel
theorem dX10_init_36 : decode cX10_init 36 = .ok (.aload_n 0, 1) := by decide +kernel
theorem dX10_init_37 : decode cX10_init 37 = .ok (.aload_n 1, 1) := by decide +kernel
theorem dX10_init_38 : decode cX10_init 38 = .ok (.putfield 24, 3) := by decide +kernel
theorem dX10_init_41 : decode cX10_init 41 = .ok (.return_, 1) := by decide +kernel
set_option maxHeartbeats 4000000 in
set_option maxRecDepth 20000 in
theorem c_X10_init (l : Launch) (b : Nat) (D : va_G) (cy : Nat → ClassId) {M : xMm} {R : xRm} (hM : ∀ a, 63 < a → ∀ f, M a f = 0) (hR : ∀ a, 63 ≤ a → ∀ f, R a f = 0) : xCi l b D cy yX10_init cX10_init 2 ({ frames := 1, cells := 4, slots := 256, locals := 21 }) [xr 63, xr 57] 63 M R (xPc 67 (rF R 63 67) (fun M' => M' = M)) := by
  refine x_metI (by decide) (Nat.le_of_ble_eq_true rfl) (fun g hg hr he ha => ?_)
  refine x_canon (ls' := [(0, _), (1, _)]) rfl ?_
  refine x_aload_n hg dX10_init_0 rfl ?_
  refine x_objInit hg dX10_init_1 oi_X10_3 ⟨by decide, Nat.le_of_ble_eq_true rfl⟩ ?_
  refine x_aload_n hg dX10_init_4 rfl ?_
  refine x_bipush hg dX10_init_5 (by decide) ?_
  refine x_newa0 (len := 64) hg dX10_init_7 (by decide) rfl (by decide) (fun f => by first | exact hM _ (by omega) f | (simp (disch := omega) only [mu_nc]; exact hM _ (by omega) f)) (by decide) (by decide) ?_
  refine x_putF hg hr rfl dX10_init_9 ff_X10_11 (by decide) rfl (by decide) ?_
  refine x_aload_n hg dX10_init_12 rfl ?_
  refine x_bipush hg dX10_init_13 (by decide) ?_
  refine x_newa0 (len := 64) hg dX10_init_15 (by decide) rfl (by decide) (fun f => by first | exact hM _ (by omega) f | (simp (disch := omega) only [mu_nc]; exact hM _ (by omega) f)) (by decide) (by decide) ?_
  refine x_putF hg hr rfl dX10_init_17 ff_X10_15 (by decide) rfl (by decide) ?_
  refine x_aload_n hg dX10_init_20 rfl ?_
  refine x_bipush hg dX10_init_21 (by decide) ?_
  refine x_newa0 (len := 64) hg dX10_init_23 (by decide) rfl (by decide) (fun f => by first | exact hM _ (by omega) f | (simp (disch := omega) only [mu_nc]; exact hM _ (by omega) f)) (by decide) (by decide) ?_
  refine x_putF hg hr rfl dX10_init_25 ff_X10_18 (by decide) rfl (by decide) ?_
  refine x_aload_n hg dX10_init_28 rfl ?_
  refine x_bipush hg dX10_init_29 (by decide) ?_
  refine x_newa0 (len := 64) hg dX10_init_31 (by decide) rfl (by decide) (fun f => by first | exact hM _ (by omega) f | (simp (disch := omega) only [mu_nc]; exact hM _ (by omega) f)) (by decide) (by decide) ?_
  refine x_putF hg hr rfl dX10_init_33 ff_X10_21 (by decide) rfl (by decide) ?_
  refine x_aload_n hg dX10_init_36 rfl ?_
  refine x_aload_n hg dX10_init_37 rfl ?_
  refine x_putF hg hr rfl dX10_init_38 ff_X10_24 (by decide) rfl (by decide) ?_
  refine x_sameR (R' := rF R 63 67) (sameR_F (fun a ha2 k => ?_) (fun a h1 h2 => ?_)) ?_
  · simp (disch := omega) only [ru_nc]
  · rcases (show a = 63 ∨ a = 64 ∨ a = 65 ∨ a = 66 ∨ a = 67 by omega) with rfl | rfl | rfl | rfl | rfl
    · refine ⟨fun ci hl j hj hk => ?_, fun t len hl => ?_⟩
      · cases (show ci = 10 from by cases hl; rfl)
        have hj2 : j < 9 := hj
        rcases (show j = 0 ∨ j = 1 ∨ j = 2 ∨ j = 3 ∨ j = 4 ∨ j = 5 ∨ j = 6 ∨ j = 7 ∨ j = 8 by omega) with rfl | rfl | rfl | rfl | rfl | rfl | rfl | rfl | rfl <;> first | rfl | exact absurd hk (by decide)
      · cases hl
    · exact ⟨fun ci hl => (by cases hl), fun t len hl ht => (by cases hl; exact absurd ht (by decide))⟩
    · exact ⟨fun ci hl => (by cases hl), fun t len hl ht => (by cases hl; exact absurd ht (by decide))⟩
    · exact ⟨fun ci hl => (by cases hl), fun t len hl ht => (by cases hl; exact absurd ht (by decide))⟩
    · exact ⟨fun ci hl => (by cases hl), fun t len hl ht => (by cases hl; exact absurd ht (by decide))⟩
  · refine x_vret hg hr dX10_init_41 (by decide) (by decide) ⟨rfl, rfl, rfl, rfl⟩
