/-- the rows of the costs are made -/
def rM (R : xRm) : xRm := fun a f => if a = 69 then 70 + f else R a f
theorem rM_n {R : xRm} {a : Nat} (h : a ≠ 69) (f : Nat) : rM R a f = R a f := by unfold rM; rw [if_neg h]

theorem dX4_init_0 : decode cX4_init 0 = .ok (.aload_n 0, 1) := by decide +kernel
theorem dX4_init_1 : decode cX4_init 1 = .ok (.invokespecial 5, 3) := by decide +kernel
theorem dX4_init_4 : decode cX4_init 4 = .ok (.aload_n 0, 1) := by decide +kernel
theorem dX4_init_5 : decode cX4_init 5 = .ok (.bipush 10, 2) := by decide +kernel
theorem dX4_init_7 : decode cX4_init 7 = .ok (.bipush 9, 2) := by decide +kernel
theorem dX4_init_9 : decode cX4_init 9 = .ok (.multianewarray 11 2, 4) := by decide +kernel
theorem dX4_init_13 : decode cX4_init 13 = .ok (.putfield 13, 3) := by decide +kernel
theorem dX4_init_16 : decode cX4_init 16 = .ok (.aload_n 0, 1) := by decide +kernel
theorem dX4_init_17 : decode cX4_init 17 = .ok (.bipush 10, 2) := by decide +kernel
theorem dX4_init_19 : decode cX4_init 19 = .ok (.newarray .int, 2) := by decide +kernel
theorem dX4_init_21 : decode cX4_init 21 = .ok (.putfield 16, 3) := by decide +kernel
theorem dX4_init_24 : decode cX4_init 24 = .ok (.aload_n 0, 1) := by decide +kernel
theorem dX4_init_25 : decode cX4_init 25 = .ok (.bipush 9, 2) := by decide +kernel
theorem dX4_init_27 : decode cX4_init 27 = .ok (.newarray .int, 2) := by decide +kernel
theorem dX4_init_29 : decode cX4_init 29 = .ok (.putfield 20, 3) := by decide +kernel
theorem dX4_init_32 : decode cX4_init 32 = .ok (.aload_n 0, 1) := by decide +kernel
theorem dX4_init_33 : decode cX4_init 33 = .ok (.bipush 9, 2) := by decide +kernel
theorem dX4_init_35 : decode cX4_init 35 = .ok (.newarray .long, 2) := by decide +kernel
theorem dX4_init_37 : decode cX4_init 37 = .ok (.putfield 23, 3) := by decide +kernel
theorem dX4_init_40 : decode cX4_init 40 = .ok (.aload_n 0, 1) := by decide +kernel
theorem dX4_init_41 : decode cX4_init 41 = .ok (.bipush 9, 2) := by decide +kernel
theorem dX4_init_43 : decode cX4_init 43 = .ok (.newarray .int, 2) := by decide +kernel
theorem dX4_init_45 : decode cX4_init 45 = .ok (.putfield 27, 3) := by decide +kernel
theorem dX4_init_48 : decode cX4_init 48 = .ok (.aload_n 0, 1) := by decide +kernel
theorem dX4_init_49 : decode cX4_init 49 = .ok (.aload_n 1, 1) := by decide +kernel
theorem dX4_init_50 : decode cX4_init 50 = .ok (.putfield 30, 3) := by decide +kernel
theorem dX4_init_53 : decode cX4_init 53 = .ok (.return_, 1) := by decide +kernel
set_option maxHeartbeats 4000000 in
set_option maxRecDepth 20000 in
theorem c_X4_init (l : Launch) (b : Nat) (D : va_G) (cy : Nat → ClassId) {M : xMm} {R : xRm} (hM : ∀ a, 68 < a → ∀ f, M a f = 0) (hR : ∀ a, 68 ≤ a → ∀ f, R a f = 0) : xCi l b D cy yX4_init cX4_init 2 ({ frames := 1, cells := 15, slots := 137, locals := 21 }) [xr 68, xr 63] 68 M R (xPc 83 (rF R 68 83) (fun M' => M' = M)) := by
  refine x_metI (by decide) (Nat.le_of_ble_eq_true rfl) (fun g hg hr he ha => ?_)
  refine x_canon (ls' := [(0, _), (1, _)]) rfl ?_
  refine x_aload_n hg dX4_init_0 rfl ?_
  refine x_objInit hg dX4_init_1 oi_X4_5 ⟨by decide, Nat.le_of_ble_eq_true rfl⟩ ?_
  refine x_aload_n hg dX4_init_4 rfl ?_
  refine x_bipush hg dX4_init_5 (by decide) ?_
  refine x_bipush hg dX4_init_7 (by decide) ?_
  refine x_multi hg ha dX4_init_9 cl_X4_11 (R' := rM R) (fun a h => by funext f; exact rM_n (by omega) f) (by decide) (fun j hj => lay_row j hj) (fun a h f => hM a (by omega) f) (fun j _ => rfl) (by decide) (by decide) ?_
  refine x_putF hg hr rfl dX4_init_13 ff_X4_13 (by decide) rfl (by decide) ?_
  refine x_aload_n hg dX4_init_16 rfl ?_
  refine x_bipush hg dX4_init_17 (by decide) ?_
  refine x_newa0 (len := 10) hg dX4_init_19 (by decide) rfl (by decide) (fun f => by first | exact hM _ (by omega) f | (simp (disch := omega) only [mu_nc]; exact hM _ (by omega) f)) (by decide) (by decide) ?_
  refine x_putF hg hr rfl dX4_init_21 ff_X4_16 (by decide) rfl (by decide) ?_
  refine x_aload_n hg dX4_init_24 rfl ?_
  refine x_bipush hg dX4_init_25 (by decide) ?_
  refine x_newa0 (len := 9) hg dX4_init_27 (by decide) rfl (by decide) (fun f => by first | exact hM _ (by omega) f | (simp (disch := omega) only [mu_nc]; exact hM _ (by omega) f)) (by decide) (by decide) ?_
  refine x_putF hg hr rfl dX4_init_29 ff_X4_20 (by decide) rfl (by decide) ?_
  refine x_aload_n hg dX4_init_32 rfl ?_
  refine x_bipush hg dX4_init_33 (by decide) ?_
  refine x_newa3 (len := 9) hg dX4_init_35 (by decide) rfl (by decide) (fun f => by first | exact hM _ (by omega) f | (simp (disch := omega) only [mu_nc]; exact hM _ (by omega) f)) (by decide) (by decide) ?_
  refine x_putF hg hr rfl dX4_init_37 ff_X4_23 (by decide) rfl (by decide) ?_
  refine x_aload_n hg dX4_init_40 rfl ?_
  refine x_bipush hg dX4_init_41 (by decide) ?_
  refine x_newa0 (len := 9) hg dX4_init_43 (by decide) rfl (by decide) (fun f => by first | exact hM _ (by omega) f | (simp (disch := omega) only [mu_nc]; exact hM _ (by omega) f)) (by decide) (by decide) ?_
  refine x_putF hg hr rfl dX4_init_45 ff_X4_27 (by decide) rfl (by decide) ?_
  refine x_aload_n hg dX4_init_48 rfl ?_
  refine x_aload_n hg dX4_init_49 rfl ?_
  refine x_putF hg hr rfl dX4_init_50 ff_X4_30 (by decide) rfl (by decide) ?_
  refine x_sameR (R' := rF R 68 83) (sameR_F (fun a ha2 k => ?_) (fun a h1 h2 => ?_)) ?_
  · simp (disch := omega) only [ru_nc]
    exact rM_n (by omega) k
  · rcases (show a = 68 ∨ a = 69 ∨ a = 70 ∨ a = 71 ∨ a = 72 ∨ a = 73 ∨ a = 74 ∨ a = 75 ∨ a = 76 ∨ a = 77 ∨ a = 78 ∨ a = 79 ∨ a = 80 ∨ a = 81 ∨ a = 82 ∨ a = 83 by omega) with rfl | rfl | rfl | rfl | rfl | rfl | rfl | rfl | rfl | rfl | rfl | rfl | rfl | rfl | rfl | rfl
    · refine ⟨fun ci hl j hj hk => ?_, fun t len hl => ?_⟩
      · cases (show ci = 4 from by cases hl; rfl)
        have hj2 : j < 9 := hj
        rcases (show j = 0 ∨ j = 1 ∨ j = 2 ∨ j = 3 ∨ j = 4 ∨ j = 5 ∨ j = 6 ∨ j = 7 ∨ j = 8 by omega) with rfl | rfl | rfl | rfl | rfl | rfl | rfl | rfl | rfl <;> first | rfl | exact absurd hk (by decide)
      · cases hl
    · refine ⟨fun ci hl => (by cases hl), fun t len hl ht j hj => ?_⟩
      cases hl
      rcases (show j = 0 ∨ j = 1 ∨ j = 2 ∨ j = 3 ∨ j = 4 ∨ j = 5 ∨ j = 6 ∨ j = 7 ∨ j = 8 ∨ j = 9 by omega) with rfl | rfl | rfl | rfl | rfl | rfl | rfl | rfl | rfl | rfl <;> rfl
    · exact ⟨fun ci hl => (by cases hl), fun t len hl ht => (by cases hl; exact absurd ht (by decide))⟩
    · exact ⟨fun ci hl => (by cases hl), fun t len hl ht => (by cases hl; exact absurd ht (by decide))⟩
    · exact ⟨fun ci hl => (by cases hl), fun t len hl ht => (by cases hl; exact absurd ht (by decide))⟩
    · exact ⟨fun ci hl => (by cases hl), fun t len hl ht => (by cases hl; exact absurd ht (by decide))⟩
    · exact ⟨fun ci hl => (by cases hl), fun t len hl ht => (by cases hl; exact absurd ht (by decide))⟩
    · exact ⟨fun ci hl => (by cases hl), fun t len hl ht => (by cases hl; exact absurd ht (by decide))⟩
    · exact ⟨fun ci hl => (by cases hl), fun t len hl ht => (by cases hl; exact absurd ht (by decide))⟩
    · exact ⟨fun ci hl => (by cases hl), fun t len hl ht => (by cases hl; exact absurd ht (by decide))⟩
    · exact ⟨fun ci hl => (by cases hl), fun t len hl ht => (by cases hl; exact absurd ht (by decide))⟩
    · exact ⟨fun ci hl => (by cases hl), fun t len hl ht => (by cases hl; exact absurd ht (by decide))⟩
    · exact ⟨fun ci hl => (by cases hl), fun t len hl ht => (by cases hl; exact absurd ht (by decide))⟩
    · exact ⟨fun ci hl => (by cases hl), fun t len hl ht => (by cases hl; exact absurd ht (by decide))⟩
    · exact ⟨fun ci hl => (by cases hl), fun t len hl ht => (by cases hl; exact absurd ht (by decide))⟩
    · exact ⟨fun ci hl => (by cases hl), fun t len hl ht => (by cases hl; exact absurd ht (by decide))⟩
  · refine x_vret hg hr dX4_init_53 (by decide) (by decide) ⟨rfl, rfl, rfl, rfl⟩

theorem dX2_init_0 : decode cX2_init 0 = .ok (.aload_n 0, 1) := by decide +kernel
theorem dX2_init_1 : decode cX2_init 1 = .ok (.invokespecial 3, 3) := by decide +kernel
theorem dX2_init_4 : decode cX2_init 4 = .ok (.aload_n 0, 1) := by decide +kernel
theorem dX2_init_5 : decode cX2_init 5 = .ok (.bipush 24, 2) := by decide +kernel
theorem dX2_init_7 : decode cX2_init 7 = .ok (.newarray .int, 2) := by decide +kernel
theorem dX2_init_9 : decode cX2_init 9 = .ok (.putfield 9, 3) := by decide +kernel
theorem dX2_init_12 : decode cX2_init 12 = .ok (.aload_n 0, 1) := by decide +kernel
theorem dX2_init_13 : decode cX2_init 13 = .ok (.bipush 10, 2) := by decide +kernel
theorem dX2_init_15 : decode cX2_init 15 = .ok (.newarray .boolean, 2) := by decide +kernel
theorem dX2_init_17 : decode cX2_init 17 = .ok (.putfield 15, 3) := by decide +kernel
theorem dX2_init_20 : decode cX2_init 20 = .ok (.aload_n 0, 1) := by decide +kernel
theorem dX2_init_21 : decode cX2_init 21 = .ok (.bipush 29, 2) := by decide +kernel
theorem dX2_init_23 : decode cX2_init 23 = .ok (.newarray .int, 2) := by decide +kernel
theorem dX2_init_25 : decode cX2_init 25 = .ok (.putfield 19, 3) := by decide +kernel
theorem dX2_init_28 : decode cX2_init 28 = .ok (.aload_n 0, 1) := by decide +kernel
theorem dX2_init_29 : decode cX2_init 29 = .ok (.bipush 29, 2) := by decide +kernel
theorem dX2_init_31 : decode cX2_init 31 = .ok (.newarray .int, 2) := by decide +kernel
theorem dX2_init_33 : decode cX2_init 33 = .ok (.putfield 22, 3) := by decide +kernel
theorem dX2_init_36 : decode cX2_init 36 = .ok (.aload_n 0, 1) := by decide +kernel
theorem dX2_init_37 : decode cX2_init 37 = .ok (.bipush 29, 2) := by decide +kernel
theorem dX2_init_39 : decode cX2_init 39 = .ok (.newarray .int, 2) := by decide +kernel
theorem dX2_init_41 : decode cX2_init 41 = .ok (.putfield 25, 3) := by decide +kernel
theorem dX2_init_44 : decode cX2_init 44 = .ok (.iconst 0, 1) := by decide +kernel
theorem dX2_init_45 : decode cX2_init 45 = .ok (.istore_n 1, 1) := by decide +kernel
theorem dX2_init_46 : decode cX2_init 46 = .ok (.iload_n 1, 1) := by decide +kernel
theorem dX2_init_47 : decode cX2_init 47 = .ok (.bipush 24, 2) := by decide +kernel
theorem dX2_init_49 : decode cX2_init 49 = .ok (.if_icmp .ge 16, 3) := by decide +kernel
theorem dX2_init_52 : decode cX2_init 52 = .ok (.aload_n 0, 1) := by decide +kernel
theorem dX2_init_53 : decode cX2_init 53 = .ok (.getfield 9, 3) := by decide +kernel
theorem dX2_init_56 : decode cX2_init 56 = .ok (.iload_n 1, 1) := by decide +kernel
theorem dX2_init_57 : decode cX2_init 57 = .ok (.iconst (-1), 1) := by decide +kernel
theorem dX2_init_58 : decode cX2_init 58 = .ok (.iastore, 1) := by decide +kernel
theorem dX2_init_59 : decode cX2_init 59 = .ok (.iinc 1 1, 3) := by decide +kernel
theorem dX2_init_62 : decode cX2_init 62 = .ok (.goto (-16), 3) := by decide +kernel
theorem dX2_init_65 : decode cX2_init 65 = .ok (.aload_n 0, 1) := by decide +kernel
theorem dX2_init_66 : decode cX2_init 66 = .ok (.invokevirtual 28, 3) := by decide +kernel
theorem dX2_init_69 : decode cX2_init 69 = .ok (.return_, 1) := by decide +kernel
set_option maxHeartbeats 4000000 in
set_option maxRecDepth 20000 in
theorem c_X2_init (l : Launch) (b : Nat) (D : va_G) (cy : Nat → ClassId) {M : xMm} {R : xRm} (hM : ∀ a, 57 < a → ∀ f, M a f = 0) (hR : ∀ a, 57 ≤ a → ∀ f, R a f = 0) : xCi l b D cy yX2_init cX2_init 2 ({ frames := 3, cells := 5, slots := 121, locals := 69 }) [xr 57] 57 M R (xPc 62 (rF R 57 62) (fun M' => IC M' ∧ (∀ a, a ≠ 58 → a ≠ 60 → a ≠ 61 → a ≠ 62 → M' a = M a) ∧ ∀ h, M' 58 h = if h < 24 then -1 else 0)) := by
  refine x_metI (by decide) (Nat.le_of_ble_eq_true rfl) (fun g hg hr he ha => ?_)
  refine x_canon (ls' := [(0, _)]) rfl ?_
  have hR5 : ∀ k, k < 5 → rF R 57 62 57 k = 58 + k := fun k hk => by unfold rF; rw [if_pos (by omega)]; rfl
  have loop : ∀ (f i : Nat), i ≤ 24 → 24 < i + f → xW g 62 (wM M 58 i) (rF R 57 62) 5 121 46 [(0, xr 57), (1, xi (i : Int))] [] := by
    intro f
    induction f with
    | zero => intro i h1 h2; exfalso; omega
    | succ f ih =>
      intro i hi1 hi2
      refine x_iload_n hg dX2_init_46 rfl ?_
      refine x_bipush hg dX2_init_47 (by decide) ?_
      refine x_icmp_ge (tgt := 65) hg dX2_init_49 (by decide) (by omega) (by omega) (fun c49 => ?_) (fun c49 => ?_)
      · skip
        refine x_aload_n hg dX2_init_65 rfl ?_
        refine x_cVv hg he [] [] dX2_init_66 mv_X2_28 (c_X2_sumUp l b D cy (by decide) hR5 (fun h hh => by unfold wM; rw [if_pos (by omega)]; omega)) (by decide) rfl rfl (Nat.le_of_ble_eq_true rfl) (by decide) (by decide) (fun M66 q66 => ?_)
        obtain ⟨hf66, hs66⟩ := q66
        have hi24 : i = 24 := by omega
        subst hi24
        have e58 : M66 58 = wM M 58 24 58 := hf66 58 (by decide) (by decide) (by decide)
        have hfr : ∀ a, a ≠ 58 → a ≠ 60 → a ≠ 61 → a ≠ 62 → M66 a = M a := fun a h1 h2 h3 h4 => by rw [hf66 a h2 h3 h4]; funext f; exact wM_n h1 f
        refine x_vret hg hr dX2_init_69 (by decide) (by decide) ⟨rfl, rfl, rfl, ⟨fun h hh => ?_, fun s hs => ?_, fun h hh => ?_⟩, hfr, fun h => ?_⟩
        · rw [e58]; unfold wM; rw [if_pos (by omega)]; omega
        · rw [hfr 59 (by decide) (by decide) (by decide) (by decide), hM 59 (by decide)]; exact Or.inl rfl
        · rw [rate_congr (M := wM M 58 24) (M' := M66) (a := 58) (a' := 58) (fun k _ => by rw [e58])]
          exact hs66 h hh
        · rw [e58]; unfold wM
          by_cases e : h < 24
          · rw [if_pos ⟨rfl, e⟩, if_pos e]
          · rw [if_neg (fun z => e z.2), if_neg e]; exact hM 58 (by decide) h
      · skip
        refine x_aload_n hg dX2_init_52 rfl ?_
        refine x_getR (j9 := 58) hg dX2_init_53 fl_X2_9 (by decide) rfl rfl (by decide) ?_
        refine x_iload_n hg dX2_init_56 rfl ?_
        refine x_iconst hg dX2_init_57 ?_
        refine x_iastore (len := 24) hg dX2_init_58 (by decide) (by omega)  ?_
        refine x_iinc (ls' := [(0, _), (1, _)]) hg dX2_init_59 rfl (by decide) rfl ?_
        refine x_goto (tgt := 46) hg dX2_init_62 (by decide) ?_
        rw [wM_s (by omega)]
        exact ih (i + 1) (by omega) (by omega)
  refine x_aload_n hg dX2_init_0 rfl ?_
  refine x_objInit hg dX2_init_1 oi_X2_3 ⟨by decide, Nat.le_of_ble_eq_true rfl⟩ ?_
  refine x_aload_n hg dX2_init_4 rfl ?_
  refine x_bipush hg dX2_init_5 (by decide) ?_
  refine x_newa0 (len := 24) hg dX2_init_7 (by decide) rfl (by decide) (fun f => by first | exact hM _ (by omega) f | (simp (disch := omega) only [mu_nc]; exact hM _ (by omega) f)) (by decide) (by decide) ?_
  refine x_putF hg hr rfl dX2_init_9 ff_X2_9 (by decide) rfl (by decide) ?_
  refine x_aload_n hg dX2_init_12 rfl ?_
  refine x_bipush hg dX2_init_13 (by decide) ?_
  refine x_newa2 (len := 10) hg dX2_init_15 (by decide) rfl (by decide) (fun f => by first | exact hM _ (by omega) f | (simp (disch := omega) only [mu_nc]; exact hM _ (by omega) f)) (by decide) (by decide) ?_
  refine x_putF hg hr rfl dX2_init_17 ff_X2_15 (by decide) rfl (by decide) ?_
  refine x_aload_n hg dX2_init_20 rfl ?_
  refine x_bipush hg dX2_init_21 (by decide) ?_
  refine x_newa0 (len := 29) hg dX2_init_23 (by decide) rfl (by decide) (fun f => by first | exact hM _ (by omega) f | (simp (disch := omega) only [mu_nc]; exact hM _ (by omega) f)) (by decide) (by decide) ?_
  refine x_putF hg hr rfl dX2_init_25 ff_X2_19 (by decide) rfl (by decide) ?_
  refine x_aload_n hg dX2_init_28 rfl ?_
  refine x_bipush hg dX2_init_29 (by decide) ?_
  refine x_newa0 (len := 29) hg dX2_init_31 (by decide) rfl (by decide) (fun f => by first | exact hM _ (by omega) f | (simp (disch := omega) only [mu_nc]; exact hM _ (by omega) f)) (by decide) (by decide) ?_
  refine x_putF hg hr rfl dX2_init_33 ff_X2_22 (by decide) rfl (by decide) ?_
  refine x_aload_n hg dX2_init_36 rfl ?_
  refine x_bipush hg dX2_init_37 (by decide) ?_
  refine x_newa0 (len := 29) hg dX2_init_39 (by decide) rfl (by decide) (fun f => by first | exact hM _ (by omega) f | (simp (disch := omega) only [mu_nc]; exact hM _ (by omega) f)) (by decide) (by decide) ?_
  refine x_putF hg hr rfl dX2_init_41 ff_X2_25 (by decide) rfl (by decide) ?_
  refine x_iconst hg dX2_init_44 ?_
  refine x_istore_n (ls' := [(0, _), (1, _)]) hg dX2_init_45 rfl (by decide) rfl ?_
  refine x_sameR (R' := rF R 57 62) (sameR_F (fun a ha2 k => ?_) (fun a h1 h2 => ?_)) ?_
  · simp (disch := omega) only [ru_nc]
  · rcases (show a = 57 ∨ a = 58 ∨ a = 59 ∨ a = 60 ∨ a = 61 ∨ a = 62 by omega) with rfl | rfl | rfl | rfl | rfl | rfl
    · refine ⟨fun ci hl j hj hk => ?_, fun t len hl => ?_⟩
      · cases (show ci = 2 from by cases hl; rfl)
        have hj2 : j < 5 := hj
        rcases (show j = 0 ∨ j = 1 ∨ j = 2 ∨ j = 3 ∨ j = 4 by omega) with rfl | rfl | rfl | rfl | rfl <;> first | rfl | exact absurd hk (by decide)
      · cases hl
    · exact ⟨fun ci hl => (by cases hl), fun t len hl ht => (by cases hl; exact absurd ht (by decide))⟩
    · exact ⟨fun ci hl => (by cases hl), fun t len hl ht => (by cases hl; exact absurd ht (by decide))⟩
    · exact ⟨fun ci hl => (by cases hl), fun t len hl ht => (by cases hl; exact absurd ht (by decide))⟩
    · exact ⟨fun ci hl => (by cases hl), fun t len hl ht => (by cases hl; exact absurd ht (by decide))⟩
    · exact ⟨fun ci hl => (by cases hl), fun t len hl ht => (by cases hl; exact absurd ht (by decide))⟩
  · rw [← wM_0 M 58]
    exact loop 25 0 (by omega) (by omega)

theorem dX12_init_0 : decode cX12_init 0 = .ok (.aload_n 0, 1) := by decide +kernel
theorem dX12_init_1 : decode cX12_init 1 = .ok (.invokespecial 134, 3) := by decide +kernel
theorem dX12_init_4 : decode cX12_init 4 = .ok (.aload_n 0, 1) := by decide +kernel
theorem dX12_init_5 : decode cX12_init 5 = .ok (.sipush 1020, 3) := by decide +kernel
theorem dX12_init_8 : decode cX12_init 8 = .ok (.newarray .byte, 2) := by decide +kernel
theorem dX12_init_10 : decode cX12_init 10 = .ok (.putfield 72, 3) := by decide +kernel
theorem dX12_init_13 : decode cX12_init 13 = .ok (.aload_n 0, 1) := by decide +kernel
theorem dX12_init_14 : decode cX12_init 14 = .ok (.sipush 1000, 3) := by decide +kernel
theorem dX12_init_17 : decode cX12_init 17 = .ok (.newarray .byte, 2) := by decide +kernel
theorem dX12_init_19 : decode cX12_init 19 = .ok (.putfield 7, 3) := by decide +kernel
theorem dX12_init_22 : decode cX12_init 22 = .ok (.aload_n 0, 1) := by decide +kernel
theorem dX12_init_23 : decode cX12_init 23 = .ok (.iconst (-1), 1) := by decide +kernel
theorem dX12_init_24 : decode cX12_init 24 = .ok (.putfield 14, 3) := by decide +kernel
theorem dX12_init_27 : decode cX12_init 27 = .ok (.aload_n 0, 1) := by decide +kernel
theorem dX12_init_28 : decode cX12_init 28 = .ok (.bipush 16, 2) := by decide +kernel
theorem dX12_init_30 : decode cX12_init 30 = .ok (.newarray .long, 2) := by decide +kernel
theorem dX12_init_32 : decode cX12_init 32 = .ok (.putfield 95, 3) := by decide +kernel
theorem dX12_init_35 : decode cX12_init 35 = .ok (.aload_n 0, 1) := by decide +kernel
theorem dX12_init_36 : decode cX12_init 36 = .ok (.bipush 16, 2) := by decide +kernel
theorem dX12_init_38 : decode cX12_init 38 = .ok (.newarray .int, 2) := by decide +kernel
theorem dX12_init_40 : decode cX12_init 40 = .ok (.putfield 99, 3) := by decide +kernel
theorem dX12_init_43 : decode cX12_init 43 = .ok (.aload_n 0, 1) := by decide +kernel
theorem dX12_init_44 : decode cX12_init 44 = .ok (.bipush 16, 2) := by decide +kernel
theorem dX12_init_46 : decode cX12_init 46 = .ok (.newarray .int, 2) := by decide +kernel
theorem dX12_init_48 : decode cX12_init 48 = .ok (.putfield 108, 3) := by decide +kernel
theorem dX12_init_51 : decode cX12_init 51 = .ok (.aload_n 0, 1) := by decide +kernel
theorem dX12_init_52 : decode cX12_init 52 = .ok (.sipush 128, 3) := by decide +kernel
theorem dX12_init_55 : decode cX12_init 55 = .ok (.newarray .int, 2) := by decide +kernel
theorem dX12_init_57 : decode cX12_init 57 = .ok (.putfield 115, 3) := by decide +kernel
theorem dX12_init_60 : decode cX12_init 60 = .ok (.aload_n 0, 1) := by decide +kernel
theorem dX12_init_61 : decode cX12_init 61 = .ok (.sipush 128, 3) := by decide +kernel
theorem dX12_init_64 : decode cX12_init 64 = .ok (.newarray .int, 2) := by decide +kernel
theorem dX12_init_66 : decode cX12_init 66 = .ok (.putfield 118, 3) := by decide +kernel
theorem dX12_init_69 : decode cX12_init 69 = .ok (.aload_n 0, 1) := by decide +kernel
theorem dX12_init_70 : decode cX12_init 70 = .ok (.iconst 2, 1) := by decide +kernel
theorem dX12_init_71 : decode cX12_init 71 = .ok (.newarray .int, 2) := by decide +kernel
theorem dX12_init_73 : decode cX12_init 73 = .ok (.putfield 81, 3) := by decide +kernel
theorem dX12_init_76 : decode cX12_init 76 = .ok (.aload_n 0, 1) := by decide +kernel
theorem dX12_init_77 : decode cX12_init 77 = .ok (.bipush 8, 2) := by decide +kernel
theorem dX12_init_79 : decode cX12_init 79 = .ok (.newarray .int, 2) := by decide +kernel
theorem dX12_init_81 : decode cX12_init 81 = .ok (.putfield 88, 3) := by decide +kernel
theorem dX12_init_84 : decode cX12_init 84 = .ok (.aload_n 0, 1) := by decide +kernel
theorem dX12_init_85 : decode cX12_init 85 = .ok (.bipush 24, 2) := by decide +kernel
theorem dX12_init_87 : decode cX12_init 87 = .ok (.newarray .int, 2) := by decide +kernel
theorem dX12_init_89 : decode cX12_init 89 = .ok (.putfield 139, 3) := by decide +kernel
theorem dX12_init_92 : decode cX12_init 92 = .ok (.aload_n 0, 1) := by decide +kernel
theorem dX12_init_93 : decode cX12_init 93 = .ok (.sipush 1741, 3) := by decide +kernel
theorem dX12_init_96 : decode cX12_init 96 = .ok (.newarray .int, 2) := by decide +kernel
theorem dX12_init_98 : decode cX12_init 98 = .ok (.putfield 142, 3) := by decide +kernel
theorem dX12_init_101 : decode cX12_init 101 = .ok (.aload_n 0, 1) := by decide +kernel
theorem dX12_init_102 : decode cX12_init 102 = .ok (.sipush 1741, 3) := by decide +kernel
theorem dX12_init_105 : decode cX12_init 105 = .ok (.newarray .int, 2) := by decide +kernel
theorem dX12_init_107 : decode cX12_init 107 = .ok (.putfield 145, 3) := by decide +kernel
theorem dX12_init_110 : decode cX12_init 110 = .ok (.aload_n 0, 1) := by decide +kernel
theorem dX12_init_111 : decode cX12_init 111 = .ok (.bipush 10, 2) := by decide +kernel
theorem dX12_init_113 : decode cX12_init 113 = .ok (.newarray .boolean, 2) := by decide +kernel
theorem dX12_init_115 : decode cX12_init 115 = .ok (.putfield 148, 3) := by decide +kernel
theorem dX12_init_118 : decode cX12_init 118 = .ok (.aload_n 0, 1) := by decide +kernel
theorem dX12_init_119 : decode cX12_init 119 = .ok (.sipush 1000, 3) := by decide +kernel
theorem dX12_init_122 : decode cX12_init 122 = .ok (.putfield 152, 3) := by decide +kernel
theorem dX12_init_125 : decode cX12_init 125 = .ok (.aload_n 0, 1) := by decide +kernel
theorem dX12_init_126 : decode cX12_init 126 = .ok (.bipush 10, 2) := by decide +kernel
theorem dX12_init_128 : decode cX12_init 128 = .ok (.newarray .int, 2) := by decide +kernel
theorem dX12_init_130 : decode cX12_init 130 = .ok (.putfield 155, 3) := by decide +kernel
theorem dX12_init_133 : decode cX12_init 133 = .ok (.aload_n 0, 1) := by decide +kernel
theorem dX12_init_134 : decode cX12_init 134 = .ok (.bipush 10, 2) := by decide +kernel
theorem dX12_init_136 : decode cX12_init 136 = .ok (.newarray .int, 2) := by decide +kernel
theorem dX12_init_138 : decode cX12_init 138 = .ok (.putfield 158, 3) := by decide +kernel
theorem dX12_init_141 : decode cX12_init 141 = .ok (.aload_n 0, 1) := by decide +kernel
theorem dX12_init_142 : decode cX12_init 142 = .ok (.bipush 10, 2) := by decide +kernel
theorem dX12_init_144 : decode cX12_init 144 = .ok (.newarray .int, 2) := by decide +kernel
theorem dX12_init_146 : decode cX12_init 146 = .ok (.putfield 161, 3) := by decide +kernel
theorem dX12_init_149 : decode cX12_init 149 = .ok (.aload_n 0, 1) := by decide +kernel
theorem dX12_init_150 : decode cX12_init 150 = .ok (.bipush 10, 2) := by decide +kernel
theorem dX12_init_152 : decode cX12_init 152 = .ok (.newarray .int, 2) := by decide +kernel
theorem dX12_init_154 : decode cX12_init 154 = .ok (.putfield 164, 3) := by decide +kernel
theorem dX12_init_157 : decode cX12_init 157 = .ok (.aload_n 0, 1) := by decide +kernel
theorem dX12_init_158 : decode cX12_init 158 = .ok (.bipush 10, 2) := by decide +kernel
theorem dX12_init_160 : decode cX12_init 160 = .ok (.newarray .int, 2) := by decide +kernel
theorem dX12_init_162 : decode cX12_init 162 = .ok (.putfield 167, 3) := by decide +kernel
theorem dX12_init_165 : decode cX12_init 165 = .ok (.aload_n 0, 1) := by decide +kernel
theorem dX12_init_166 : decode cX12_init 166 = .ok (.bipush 64, 2) := by decide +kernel
theorem dX12_init_168 : decode cX12_init 168 = .ok (.newarray .int, 2) := by decide +kernel
theorem dX12_init_170 : decode cX12_init 170 = .ok (.putfield 170, 3) := by decide +kernel
theorem dX12_init_173 : decode cX12_init 173 = .ok (.aload_n 0, 1) := by decide +kernel
theorem dX12_init_174 : decode cX12_init 174 = .ok (.bipush 64, 2) := by decide +kernel
theorem dX12_init_176 : decode cX12_init 176 = .ok (.newarray .int, 2) := by decide +kernel
theorem dX12_init_178 : decode cX12_init 178 = .ok (.putfield 173, 3) := by decide +kernel
theorem dX12_init_181 : decode cX12_init 181 = .ok (.aload_n 0, 1) := by decide +kernel
theorem dX12_init_182 : decode cX12_init 182 = .ok (.bipush 10, 2) := by decide +kernel
theorem dX12_init_184 : decode cX12_init 184 = .ok (.newarray .int, 2) := by decide +kernel
theorem dX12_init_186 : decode cX12_init 186 = .ok (.putfield 176, 3) := by decide +kernel
theorem dX12_init_189 : decode cX12_init 189 = .ok (.aload_n 0, 1) := by decide +kernel
theorem dX12_init_190 : decode cX12_init 190 = .ok (.bipush 10, 2) := by decide +kernel
theorem dX12_init_192 : decode cX12_init 192 = .ok (.newarray .int, 2) := by decide +kernel
theorem dX12_init_194 : decode cX12_init 194 = .ok (.putfield 179, 3) := by decide +kernel
theorem dX12_init_197 : decode cX12_init 197 = .ok (.aload_n 0, 1) := by decide +kernel
theorem dX12_init_198 : decode cX12_init 198 = .ok (.bipush 90, 2) := by decide +kernel
theorem dX12_init_200 : decode cX12_init 200 = .ok (.newarray .long, 2) := by decide +kernel
theorem dX12_init_202 : decode cX12_init 202 = .ok (.putfield 182, 3) := by decide +kernel
theorem dX12_init_205 : decode cX12_init 205 = .ok (.aload_n 0, 1) := by decide +kernel
theorem dX12_init_206 : decode cX12_init 206 = .ok (.bipush 9, 2) := by decide +kernel
theorem dX12_init_208 : decode cX12_init 208 = .ok (.newarray .long, 2) := by decide +kernel
theorem dX12_init_210 : decode cX12_init 210 = .ok (.putfield 185, 3) := by decide +kernel
theorem dX12_init_213 : decode cX12_init 213 = .ok (.aload_n 0, 1) := by decide +kernel
theorem dX12_init_214 : decode cX12_init 214 = .ok (.bipush 9, 2) := by decide +kernel
theorem dX12_init_216 : decode cX12_init 216 = .ok (.newarray .int, 2) := by decide +kernel
theorem dX12_init_218 : decode cX12_init 218 = .ok (.putfield 188, 3) := by decide +kernel
theorem dX12_init_221 : decode cX12_init 221 = .ok (.aload_n 0, 1) := by decide +kernel
theorem dX12_init_222 : decode cX12_init 222 = .ok (.bipush 9, 2) := by decide +kernel
theorem dX12_init_224 : decode cX12_init 224 = .ok (.newarray .int, 2) := by decide +kernel
theorem dX12_init_226 : decode cX12_init 226 = .ok (.putfield 191, 3) := by decide +kernel
theorem dX12_init_229 : decode cX12_init 229 = .ok (.aload_n 0, 1) := by decide +kernel
theorem dX12_init_230 : decode cX12_init 230 = .ok (.bipush 9, 2) := by decide +kernel
theorem dX12_init_232 : decode cX12_init 232 = .ok (.newarray .int, 2) := by decide +kernel
theorem dX12_init_234 : decode cX12_init 234 = .ok (.putfield 194, 3) := by decide +kernel
theorem dX12_init_237 : decode cX12_init 237 = .ok (.aload_n 0, 1) := by decide +kernel
theorem dX12_init_238 : decode cX12_init 238 = .ok (.bipush 9, 2) := by decide +kernel
theorem dX12_init_240 : decode cX12_init 240 = .ok (.newarray .long, 2) := by decide +kernel
theorem dX12_init_242 : decode cX12_init 242 = .ok (.putfield 197, 3) := by decide +kernel
theorem dX12_init_245 : decode cX12_init 245 = .ok (.aload_n 0, 1) := by decide +kernel
theorem dX12_init_246 : decode cX12_init 246 = .ok (.iconst 4, 1) := by decide +kernel
theorem dX12_init_247 : decode cX12_init 247 = .ok (.newarray .int, 2) := by decide +kernel
theorem dX12_init_249 : decode cX12_init 249 = .ok (.putfield 200, 3) := by decide +kernel
theorem dX12_init_252 : decode cX12_init 252 = .ok (.aload_n 0, 1) := by decide +kernel
theorem dX12_init_253 : decode cX12_init 253 = .ok (.iconst 4, 1) := by decide +kernel
theorem dX12_init_254 : decode cX12_init 254 = .ok (.newarray .int, 2) := by decide +kernel
theorem dX12_init_256 : decode cX12_init 256 = .ok (.putfield 203, 3) := by decide +kernel
theorem dX12_init_259 : decode cX12_init 259 = .ok (.aload_n 0, 1) := by decide +kernel
theorem dX12_init_260 : decode cX12_init 260 = .ok (.bipush 40, 2) := by decide +kernel
theorem dX12_init_262 : decode cX12_init 262 = .ok (.newarray .int, 2) := by decide +kernel
theorem dX12_init_264 : decode cX12_init 264 = .ok (.putfield 206, 3) := by decide +kernel
theorem dX12_init_267 : decode cX12_init 267 = .ok (.aload_n 0, 1) := by decide +kernel
theorem dX12_init_268 : decode cX12_init 268 = .ok (.bipush 40, 2) := by decide +kernel
theorem dX12_init_270 : decode cX12_init 270 = .ok (.newarray .int, 2) := by decide +kernel
theorem dX12_init_272 : decode cX12_init 272 = .ok (.putfield 209, 3) := by decide +kernel
theorem dX12_init_275 : decode cX12_init 275 = .ok (.aload_n 0, 1) := by decide +kernel
theorem dX12_init_276 : decode cX12_init 276 = .ok (.bipush 40, 2) := by decide +kernel
theorem dX12_init_278 : decode cX12_init 278 = .ok (.newarray .int, 2) := by decide +kernel
theorem dX12_init_280 : decode cX12_init 280 = .ok (.putfield 212, 3) := by decide +kernel
theorem dX12_init_283 : decode cX12_init 283 = .ok (.aload_n 0, 1) := by decide +kernel
theorem dX12_init_284 : decode cX12_init 284 = .ok (.bipush 30, 2) := by decide +kernel
theorem dX12_init_286 : decode cX12_init 286 = .ok (.newarray .int, 2) := by decide +kernel
theorem dX12_init_288 : decode cX12_init 288 = .ok (.putfield 215, 3) := by decide +kernel
theorem dX12_init_291 : decode cX12_init 291 = .ok (.aload_n 0, 1) := by decide +kernel
theorem dX12_init_292 : decode cX12_init 292 = .ok (.bipush 30, 2) := by decide +kernel
theorem dX12_init_294 : decode cX12_init 294 = .ok (.newarray .int, 2) := by decide +kernel
theorem dX12_init_296 : decode cX12_init 296 = .ok (.putfield 218, 3) := by decide +kernel
theorem dX12_init_299 : decode cX12_init 299 = .ok (.aload_n 0, 1) := by decide +kernel
theorem dX12_init_300 : decode cX12_init 300 = .ok (.bipush 30, 2) := by decide +kernel
theorem dX12_init_302 : decode cX12_init 302 = .ok (.newarray .int, 2) := by decide +kernel
theorem dX12_init_304 : decode cX12_init 304 = .ok (.putfield 221, 3) := by decide +kernel
theorem dX12_init_307 : decode cX12_init 307 = .ok (.aload_n 0, 1) := by decide +kernel
theorem dX12_init_308 : decode cX12_init 308 = .ok (.bipush 30, 2) := by decide +kernel
theorem dX12_init_310 : decode cX12_init 310 = .ok (.newarray .int, 2) := by decide +kernel
theorem dX12_init_312 : decode cX12_init 312 = .ok (.putfield 224, 3) := by decide +kernel
theorem dX12_init_315 : decode cX12_init 315 = .ok (.iconst 0, 1) := by decide +kernel
theorem dX12_init_316 : decode cX12_init 316 = .ok (.istore_n 1, 1) := by decide +kernel
theorem dX12_init_317 : decode cX12_init 317 = .ok (.iload_n 1, 1) := by decide +kernel
theorem dX12_init_318 : decode cX12_init 318 = .ok (.bipush 24, 2) := by decide +kernel
theorem dX12_init_320 : decode cX12_init 320 = .ok (.if_icmp .ge 16, 3) := by decide +kernel
theorem dX12_init_323 : decode cX12_init 323 = .ok (.aload_n 0, 1) := by decide +kernel
theorem dX12_init_324 : decode cX12_init 324 = .ok (.getfield 139, 3) := by decide +kernel
theorem dX12_init_327 : decode cX12_init 327 = .ok (.iload_n 1, 1) := by decide +kernel
theorem dX12_init_328 : decode cX12_init 328 = .ok (.iconst (-1), 1) := by decide +kernel
theorem dX12_init_329 : decode cX12_init 329 = .ok (.iastore, 1) := by decide +kernel
theorem dX12_init_330 : decode cX12_init 330 = .ok (.iinc 1 1, 3) := by decide +kernel
theorem dX12_init_333 : decode cX12_init 333 = .ok (.goto (-16), 3) := by decide +kernel
theorem dX12_init_336 : decode cX12_init 336 = .ok (.return_, 1) := by decide +kernel
set_option maxHeartbeats 4000000 in
set_option maxRecDepth 20000 in
theorem c_X12_init (l : Launch) (b : Nat) (D : va_G) (cy : Nat → ClassId) {M : xMm} {R : xRm} (hM : ∀ a, 172 < a → ∀ f, M a f = 0) (hR : ∀ a, 172 ≤ a → ∀ f, R a f = 0) : xCi l b D cy yX12_init cX12_init 2 ({ frames := 1, cells := 37, slots := 6431, locals := 21 }) [xr 172] 172 M R (xPc 209 (rF R 172 209) (fun M' => M' = wM (mu (mu M 172 5 (-1)) 172 24 1000) 182 24)) := by
  refine x_metI (by decide) (Nat.le_of_ble_eq_true rfl) (fun g hg hr he ha => ?_)
  refine x_canon (ls' := [(0, _)]) rfl ?_
  have loop : ∀ (f i : Nat), i ≤ 24 → 24 < i + f → xW g 209 (wM (mu (mu M 172 5 (-1)) 172 24 1000) 182 i) (rF R 172 209) 37 6431 317 [(0, xr 172), (1, xi (i : Int))] [] := by
    intro f
    induction f with
    | zero => intro i h1 h2; exfalso; omega
    | succ f ih =>
      intro i hi1 hi2
      refine x_iload_n hg dX12_init_317 rfl ?_
      refine x_bipush hg dX12_init_318 (by decide) ?_
      refine x_icmp_ge (tgt := 336) hg dX12_init_320 (by decide) (by omega) (by omega) (fun c320 => ?_) (fun c320 => ?_)
      · skip
        have hi24 : i = 24 := by omega
        subst hi24
        exact x_vret hg hr dX12_init_336 (by decide) (by decide) ⟨rfl, rfl, rfl, rfl⟩
      · skip
        refine x_aload_n hg dX12_init_323 rfl ?_
        refine x_getR (j9 := 182) hg dX12_init_324 fl_X12_139 (by decide) rfl rfl (by decide) ?_
        refine x_iload_n hg dX12_init_327 rfl ?_
        refine x_iconst hg dX12_init_328 ?_
        refine x_iastore (len := 24) hg dX12_init_329 (by decide) (by omega)  ?_
        refine x_iinc (ls' := [(0, _), (1, _)]) hg dX12_init_330 rfl (by decide) rfl ?_
        refine x_goto (tgt := 317) hg dX12_init_333 (by decide) ?_
        rw [wM_s (by omega)]
        exact ih (i + 1) (by omega) (by omega)
  refine x_aload_n hg dX12_init_0 rfl ?_
  refine x_objInit hg dX12_init_1 oi_X12_134 ⟨by decide, Nat.le_of_ble_eq_true rfl⟩ ?_
  refine x_aload_n hg dX12_init_4 rfl ?_
  refine x_sipush hg dX12_init_5 (by decide) ?_
  refine x_newa1 (len := 1020) hg dX12_init_8 (by decide) rfl (by decide) (fun f => by first | exact hM _ (by omega) f | (simp (disch := omega) only [mu_nc]; exact hM _ (by omega) f)) (by decide) (by decide) ?_
  refine x_putF hg hr rfl dX12_init_10 ff_X12_72 (by decide) rfl (by decide) ?_
  refine x_aload_n hg dX12_init_13 rfl ?_
  refine x_sipush hg dX12_init_14 (by decide) ?_
  refine x_newa1 (len := 1000) hg dX12_init_17 (by decide) rfl (by decide) (fun f => by first | exact hM _ (by omega) f | (simp (disch := omega) only [mu_nc]; exact hM _ (by omega) f)) (by decide) (by decide) ?_
  refine x_putF hg hr rfl dX12_init_19 ff_X12_7 (by decide) rfl (by decide) ?_
  refine x_aload_n hg dX12_init_22 rfl ?_
  refine x_iconst hg dX12_init_23 ?_
  refine x_putI hg dX12_init_24 fl_X12_14 ft_12_5 (by decide) rfl ?_
  refine x_aload_n hg dX12_init_27 rfl ?_
  refine x_bipush hg dX12_init_28 (by decide) ?_
  refine x_newa3 (len := 16) hg dX12_init_30 (by decide) rfl (by decide) (fun f => by first | exact hM _ (by omega) f | (simp (disch := omega) only [mu_nc]; exact hM _ (by omega) f)) (by decide) (by decide) ?_
  refine x_putF hg hr rfl dX12_init_32 ff_X12_95 (by decide) rfl (by decide) ?_
  refine x_aload_n hg dX12_init_35 rfl ?_
  refine x_bipush hg dX12_init_36 (by decide) ?_
  refine x_newa0 (len := 16) hg dX12_init_38 (by decide) rfl (by decide) (fun f => by first | exact hM _ (by omega) f | (simp (disch := omega) only [mu_nc]; exact hM _ (by omega) f)) (by decide) (by decide) ?_
  refine x_putF hg hr rfl dX12_init_40 ff_X12_99 (by decide) rfl (by decide) ?_
  refine x_aload_n hg dX12_init_43 rfl ?_
  refine x_bipush hg dX12_init_44 (by decide) ?_
  refine x_newa0 (len := 16) hg dX12_init_46 (by decide) rfl (by decide) (fun f => by first | exact hM _ (by omega) f | (simp (disch := omega) only [mu_nc]; exact hM _ (by omega) f)) (by decide) (by decide) ?_
  refine x_putF hg hr rfl dX12_init_48 ff_X12_108 (by decide) rfl (by decide) ?_
  refine x_aload_n hg dX12_init_51 rfl ?_
  refine x_sipush hg dX12_init_52 (by decide) ?_
  refine x_newa0 (len := 128) hg dX12_init_55 (by decide) rfl (by decide) (fun f => by first | exact hM _ (by omega) f | (simp (disch := omega) only [mu_nc]; exact hM _ (by omega) f)) (by decide) (by decide) ?_
  refine x_putF hg hr rfl dX12_init_57 ff_X12_115 (by decide) rfl (by decide) ?_
  refine x_aload_n hg dX12_init_60 rfl ?_
  refine x_sipush hg dX12_init_61 (by decide) ?_
  refine x_newa0 (len := 128) hg dX12_init_64 (by decide) rfl (by decide) (fun f => by first | exact hM _ (by omega) f | (simp (disch := omega) only [mu_nc]; exact hM _ (by omega) f)) (by decide) (by decide) ?_
  refine x_putF hg hr rfl dX12_init_66 ff_X12_118 (by decide) rfl (by decide) ?_
  refine x_aload_n hg dX12_init_69 rfl ?_
  refine x_iconst hg dX12_init_70 ?_
  refine x_newa0 (len := 2) hg dX12_init_71 (by decide) rfl (by decide) (fun f => by first | exact hM _ (by omega) f | (simp (disch := omega) only [mu_nc]; exact hM _ (by omega) f)) (by decide) (by decide) ?_
  refine x_putF hg hr rfl dX12_init_73 ff_X12_81 (by decide) rfl (by decide) ?_
  refine x_aload_n hg dX12_init_76 rfl ?_
  refine x_bipush hg dX12_init_77 (by decide) ?_
  refine x_newa0 (len := 8) hg dX12_init_79 (by decide) rfl (by decide) (fun f => by first | exact hM _ (by omega) f | (simp (disch := omega) only [mu_nc]; exact hM _ (by omega) f)) (by decide) (by decide) ?_
  refine x_putF hg hr rfl dX12_init_81 ff_X12_88 (by decide) rfl (by decide) ?_
  refine x_aload_n hg dX12_init_84 rfl ?_
  refine x_bipush hg dX12_init_85 (by decide) ?_
  refine x_newa0 (len := 24) hg dX12_init_87 (by decide) rfl (by decide) (fun f => by first | exact hM _ (by omega) f | (simp (disch := omega) only [mu_nc]; exact hM _ (by omega) f)) (by decide) (by decide) ?_
  refine x_putF hg hr rfl dX12_init_89 ff_X12_139 (by decide) rfl (by decide) ?_
  refine x_aload_n hg dX12_init_92 rfl ?_
  refine x_sipush hg dX12_init_93 (by decide) ?_
  refine x_newa0 (len := 1741) hg dX12_init_96 (by decide) rfl (by decide) (fun f => by first | exact hM _ (by omega) f | (simp (disch := omega) only [mu_nc]; exact hM _ (by omega) f)) (by decide) (by decide) ?_
  refine x_putF hg hr rfl dX12_init_98 ff_X12_142 (by decide) rfl (by decide) ?_
  refine x_aload_n hg dX12_init_101 rfl ?_
  refine x_sipush hg dX12_init_102 (by decide) ?_
  refine x_newa0 (len := 1741) hg dX12_init_105 (by decide) rfl (by decide) (fun f => by first | exact hM _ (by omega) f | (simp (disch := omega) only [mu_nc]; exact hM _ (by omega) f)) (by decide) (by decide) ?_
  refine x_putF hg hr rfl dX12_init_107 ff_X12_145 (by decide) rfl (by decide) ?_
  refine x_aload_n hg dX12_init_110 rfl ?_
  refine x_bipush hg dX12_init_111 (by decide) ?_
  refine x_newa2 (len := 10) hg dX12_init_113 (by decide) rfl (by decide) (fun f => by first | exact hM _ (by omega) f | (simp (disch := omega) only [mu_nc]; exact hM _ (by omega) f)) (by decide) (by decide) ?_
  refine x_putF hg hr rfl dX12_init_115 ff_X12_148 (by decide) rfl (by decide) ?_
  refine x_aload_n hg dX12_init_118 rfl ?_
  refine x_sipush hg dX12_init_119 (by decide) ?_
  refine x_putI hg dX12_init_122 fl_X12_152 ft_12_24 (by decide) rfl ?_
  refine x_aload_n hg dX12_init_125 rfl ?_
  refine x_bipush hg dX12_init_126 (by decide) ?_
  refine x_newa0 (len := 10) hg dX12_init_128 (by decide) rfl (by decide) (fun f => by first | exact hM _ (by omega) f | (simp (disch := omega) only [mu_nc]; exact hM _ (by omega) f)) (by decide) (by decide) ?_
  refine x_putF hg hr rfl dX12_init_130 ff_X12_155 (by decide) rfl (by decide) ?_
  refine x_aload_n hg dX12_init_133 rfl ?_
  refine x_bipush hg dX12_init_134 (by decide) ?_
  refine x_newa0 (len := 10) hg dX12_init_136 (by decide) rfl (by decide) (fun f => by first | exact hM _ (by omega) f | (simp (disch := omega) only [mu_nc]; exact hM _ (by omega) f)) (by decide) (by decide) ?_
  refine x_putF hg hr rfl dX12_init_138 ff_X12_158 (by decide) rfl (by decide) ?_
  refine x_aload_n hg dX12_init_141 rfl ?_
  refine x_bipush hg dX12_init_142 (by decide) ?_
  refine x_newa0 (len := 10) hg dX12_init_144 (by decide) rfl (by decide) (fun f => by first | exact hM _ (by omega) f | (simp (disch := omega) only [mu_nc]; exact hM _ (by omega) f)) (by decide) (by decide) ?_
  refine x_putF hg hr rfl dX12_init_146 ff_X12_161 (by decide) rfl (by decide) ?_
  refine x_aload_n hg dX12_init_149 rfl ?_
  refine x_bipush hg dX12_init_150 (by decide) ?_
  refine x_newa0 (len := 10) hg dX12_init_152 (by decide) rfl (by decide) (fun f => by first | exact hM _ (by omega) f | (simp (disch := omega) only [mu_nc]; exact hM _ (by omega) f)) (by decide) (by decide) ?_
  refine x_putF hg hr rfl dX12_init_154 ff_X12_164 (by decide) rfl (by decide) ?_
  refine x_aload_n hg dX12_init_157 rfl ?_
  refine x_bipush hg dX12_init_158 (by decide) ?_
  refine x_newa0 (len := 10) hg dX12_init_160 (by decide) rfl (by decide) (fun f => by first | exact hM _ (by omega) f | (simp (disch := omega) only [mu_nc]; exact hM _ (by omega) f)) (by decide) (by decide) ?_
  refine x_putF hg hr rfl dX12_init_162 ff_X12_167 (by decide) rfl (by decide) ?_
  refine x_aload_n hg dX12_init_165 rfl ?_
  refine x_bipush hg dX12_init_166 (by decide) ?_
  refine x_newa0 (len := 64) hg dX12_init_168 (by decide) rfl (by decide) (fun f => by first | exact hM _ (by omega) f | (simp (disch := omega) only [mu_nc]; exact hM _ (by omega) f)) (by decide) (by decide) ?_
  refine x_putF hg hr rfl dX12_init_170 ff_X12_170 (by decide) rfl (by decide) ?_
  refine x_aload_n hg dX12_init_173 rfl ?_
  refine x_bipush hg dX12_init_174 (by decide) ?_
  refine x_newa0 (len := 64) hg dX12_init_176 (by decide) rfl (by decide) (fun f => by first | exact hM _ (by omega) f | (simp (disch := omega) only [mu_nc]; exact hM _ (by omega) f)) (by decide) (by decide) ?_
  refine x_putF hg hr rfl dX12_init_178 ff_X12_173 (by decide) rfl (by decide) ?_
  refine x_aload_n hg dX12_init_181 rfl ?_
  refine x_bipush hg dX12_init_182 (by decide) ?_
  refine x_newa0 (len := 10) hg dX12_init_184 (by decide) rfl (by decide) (fun f => by first | exact hM _ (by omega) f | (simp (disch := omega) only [mu_nc]; exact hM _ (by omega) f)) (by decide) (by decide) ?_
  refine x_putF hg hr rfl dX12_init_186 ff_X12_176 (by decide) rfl (by decide) ?_
  refine x_aload_n hg dX12_init_189 rfl ?_
  refine x_bipush hg dX12_init_190 (by decide) ?_
  refine x_newa0 (len := 10) hg dX12_init_192 (by decide) rfl (by decide) (fun f => by first | exact hM _ (by omega) f | (simp (disch := omega) only [mu_nc]; exact hM _ (by omega) f)) (by decide) (by decide) ?_
  refine x_putF hg hr rfl dX12_init_194 ff_X12_179 (by decide) rfl (by decide) ?_
  refine x_aload_n hg dX12_init_197 rfl ?_
  refine x_bipush hg dX12_init_198 (by decide) ?_
  refine x_newa3 (len := 90) hg dX12_init_200 (by decide) rfl (by decide) (fun f => by first | exact hM _ (by omega) f | (simp (disch := omega) only [mu_nc]; exact hM _ (by omega) f)) (by decide) (by decide) ?_
  refine x_putF hg hr rfl dX12_init_202 ff_X12_182 (by decide) rfl (by decide) ?_
  refine x_aload_n hg dX12_init_205 rfl ?_
  refine x_bipush hg dX12_init_206 (by decide) ?_
  refine x_newa3 (len := 9) hg dX12_init_208 (by decide) rfl (by decide) (fun f => by first | exact hM _ (by omega) f | (simp (disch := omega) only [mu_nc]; exact hM _ (by omega) f)) (by decide) (by decide) ?_
  refine x_putF hg hr rfl dX12_init_210 ff_X12_185 (by decide) rfl (by decide) ?_
  refine x_aload_n hg dX12_init_213 rfl ?_
  refine x_bipush hg dX12_init_214 (by decide) ?_
  refine x_newa0 (len := 9) hg dX12_init_216 (by decide) rfl (by decide) (fun f => by first | exact hM _ (by omega) f | (simp (disch := omega) only [mu_nc]; exact hM _ (by omega) f)) (by decide) (by decide) ?_
  refine x_putF hg hr rfl dX12_init_218 ff_X12_188 (by decide) rfl (by decide) ?_
  refine x_aload_n hg dX12_init_221 rfl ?_
  refine x_bipush hg dX12_init_222 (by decide) ?_
  refine x_newa0 (len := 9) hg dX12_init_224 (by decide) rfl (by decide) (fun f => by first | exact hM _ (by omega) f | (simp (disch := omega) only [mu_nc]; exact hM _ (by omega) f)) (by decide) (by decide) ?_
  refine x_putF hg hr rfl dX12_init_226 ff_X12_191 (by decide) rfl (by decide) ?_
  refine x_aload_n hg dX12_init_229 rfl ?_
  refine x_bipush hg dX12_init_230 (by decide) ?_
  refine x_newa0 (len := 9) hg dX12_init_232 (by decide) rfl (by decide) (fun f => by first | exact hM _ (by omega) f | (simp (disch := omega) only [mu_nc]; exact hM _ (by omega) f)) (by decide) (by decide) ?_
  refine x_putF hg hr rfl dX12_init_234 ff_X12_194 (by decide) rfl (by decide) ?_
  refine x_aload_n hg dX12_init_237 rfl ?_
  refine x_bipush hg dX12_init_238 (by decide) ?_
  refine x_newa3 (len := 9) hg dX12_init_240 (by decide) rfl (by decide) (fun f => by first | exact hM _ (by omega) f | (simp (disch := omega) only [mu_nc]; exact hM _ (by omega) f)) (by decide) (by decide) ?_
  refine x_putF hg hr rfl dX12_init_242 ff_X12_197 (by decide) rfl (by decide) ?_
  refine x_aload_n hg dX12_init_245 rfl ?_
  refine x_iconst hg dX12_init_246 ?_
  refine x_newa0 (len := 4) hg dX12_init_247 (by decide) rfl (by decide) (fun f => by first | exact hM _ (by omega) f | (simp (disch := omega) only [mu_nc]; exact hM _ (by omega) f)) (by decide) (by decide) ?_
  refine x_putF hg hr rfl dX12_init_249 ff_X12_200 (by decide) rfl (by decide) ?_
  refine x_aload_n hg dX12_init_252 rfl ?_
  refine x_iconst hg dX12_init_253 ?_
  refine x_newa0 (len := 4) hg dX12_init_254 (by decide) rfl (by decide) (fun f => by first | exact hM _ (by omega) f | (simp (disch := omega) only [mu_nc]; exact hM _ (by omega) f)) (by decide) (by decide) ?_
  refine x_putF hg hr rfl dX12_init_256 ff_X12_203 (by decide) rfl (by decide) ?_
  refine x_aload_n hg dX12_init_259 rfl ?_
  refine x_bipush hg dX12_init_260 (by decide) ?_
  refine x_newa0 (len := 40) hg dX12_init_262 (by decide) rfl (by decide) (fun f => by first | exact hM _ (by omega) f | (simp (disch := omega) only [mu_nc]; exact hM _ (by omega) f)) (by decide) (by decide) ?_
  refine x_putF hg hr rfl dX12_init_264 ff_X12_206 (by decide) rfl (by decide) ?_
  refine x_aload_n hg dX12_init_267 rfl ?_
  refine x_bipush hg dX12_init_268 (by decide) ?_
  refine x_newa0 (len := 40) hg dX12_init_270 (by decide) rfl (by decide) (fun f => by first | exact hM _ (by omega) f | (simp (disch := omega) only [mu_nc]; exact hM _ (by omega) f)) (by decide) (by decide) ?_
  refine x_putF hg hr rfl dX12_init_272 ff_X12_209 (by decide) rfl (by decide) ?_
  refine x_aload_n hg dX12_init_275 rfl ?_
  refine x_bipush hg dX12_init_276 (by decide) ?_
  refine x_newa0 (len := 40) hg dX12_init_278 (by decide) rfl (by decide) (fun f => by first | exact hM _ (by omega) f | (simp (disch := omega) only [mu_nc]; exact hM _ (by omega) f)) (by decide) (by decide) ?_
  refine x_putF hg hr rfl dX12_init_280 ff_X12_212 (by decide) rfl (by decide) ?_
  refine x_aload_n hg dX12_init_283 rfl ?_
  refine x_bipush hg dX12_init_284 (by decide) ?_
  refine x_newa0 (len := 30) hg dX12_init_286 (by decide) rfl (by decide) (fun f => by first | exact hM _ (by omega) f | (simp (disch := omega) only [mu_nc]; exact hM _ (by omega) f)) (by decide) (by decide) ?_
  refine x_putF hg hr rfl dX12_init_288 ff_X12_215 (by decide) rfl (by decide) ?_
  refine x_aload_n hg dX12_init_291 rfl ?_
  refine x_bipush hg dX12_init_292 (by decide) ?_
  refine x_newa0 (len := 30) hg dX12_init_294 (by decide) rfl (by decide) (fun f => by first | exact hM _ (by omega) f | (simp (disch := omega) only [mu_nc]; exact hM _ (by omega) f)) (by decide) (by decide) ?_
  refine x_putF hg hr rfl dX12_init_296 ff_X12_218 (by decide) rfl (by decide) ?_
  refine x_aload_n hg dX12_init_299 rfl ?_
  refine x_bipush hg dX12_init_300 (by decide) ?_
  refine x_newa0 (len := 30) hg dX12_init_302 (by decide) rfl (by decide) (fun f => by first | exact hM _ (by omega) f | (simp (disch := omega) only [mu_nc]; exact hM _ (by omega) f)) (by decide) (by decide) ?_
  refine x_putF hg hr rfl dX12_init_304 ff_X12_221 (by decide) rfl (by decide) ?_
  refine x_aload_n hg dX12_init_307 rfl ?_
  refine x_bipush hg dX12_init_308 (by decide) ?_
  refine x_newa0 (len := 30) hg dX12_init_310 (by decide) rfl (by decide) (fun f => by first | exact hM _ (by omega) f | (simp (disch := omega) only [mu_nc]; exact hM _ (by omega) f)) (by decide) (by decide) ?_
  refine x_putF hg hr rfl dX12_init_312 ff_X12_224 (by decide) rfl (by decide) ?_
  refine x_iconst hg dX12_init_315 ?_
  refine x_istore_n (ls' := [(0, _), (1, _)]) hg dX12_init_316 rfl (by decide) rfl ?_
  refine x_sameR (R' := rF R 172 209) (sameR_F (fun a ha2 k => ?_) (fun a h1 h2 => ?_)) ?_
  · simp (disch := omega) only [ru_nc]
  · rcases (show a = 172 ∨ a = 173 ∨ a = 174 ∨ a = 175 ∨ a = 176 ∨ a = 177 ∨ a = 178 ∨ a = 179 ∨ a = 180 ∨ a = 181 ∨ a = 182 ∨ a = 183 ∨ a = 184 ∨ a = 185 ∨ a = 186 ∨ a = 187 ∨ a = 188 ∨ a = 189 ∨ a = 190 ∨ a = 191 ∨ a = 192 ∨ a = 193 ∨ a = 194 ∨ a = 195 ∨ a = 196 ∨ a = 197 ∨ a = 198 ∨ a = 199 ∨ a = 200 ∨ a = 201 ∨ a = 202 ∨ a = 203 ∨ a = 204 ∨ a = 205 ∨ a = 206 ∨ a = 207 ∨ a = 208 ∨ a = 209 by omega) with rfl | rfl | rfl | rfl | rfl | rfl | rfl | rfl | rfl | rfl | rfl | rfl | rfl | rfl | rfl | rfl | rfl | rfl | rfl | rfl | rfl | rfl | rfl | rfl | rfl | rfl | rfl | rfl | rfl | rfl | rfl | rfl | rfl | rfl | rfl | rfl | rfl | rfl
    · refine ⟨fun ci hl j hj hk => ?_, fun t len hl => ?_⟩
      · cases (show ci = 12 from by cases hl; rfl)
        have hj2 : j < 58 := hj
        rcases (show j = 0 ∨ j = 1 ∨ j = 2 ∨ j = 3 ∨ j = 4 ∨ j = 5 ∨ j = 6 ∨ j = 7 ∨ j = 8 ∨ j = 9 ∨ j = 10 ∨ j = 11 ∨ j = 12 ∨ j = 13 ∨ j = 14 ∨ j = 15 ∨ j = 16 ∨ j = 17 ∨ j = 18 ∨ j = 19 ∨ j = 20 ∨ j = 21 ∨ j = 22 ∨ j = 23 ∨ j = 24 ∨ j = 25 ∨ j = 26 ∨ j = 27 ∨ j = 28 ∨ j = 29 ∨ j = 30 ∨ j = 31 ∨ j = 32 ∨ j = 33 ∨ j = 34 ∨ j = 35 ∨ j = 36 ∨ j = 37 ∨ j = 38 ∨ j = 39 ∨ j = 40 ∨ j = 41 ∨ j = 42 ∨ j = 43 ∨ j = 44 ∨ j = 45 ∨ j = 46 ∨ j = 47 ∨ j = 48 ∨ j = 49 ∨ j = 50 ∨ j = 51 ∨ j = 52 ∨ j = 53 ∨ j = 54 ∨ j = 55 ∨ j = 56 ∨ j = 57 by omega) with rfl | rfl | rfl | rfl | rfl | rfl | rfl | rfl | rfl | rfl | rfl | rfl | rfl | rfl | rfl | rfl | rfl | rfl | rfl | rfl | rfl | rfl | rfl | rfl | rfl | rfl | rfl | rfl | rfl | rfl | rfl | rfl | rfl | rfl | rfl | rfl | rfl | rfl | rfl | rfl | rfl | rfl | rfl | rfl | rfl | rfl | rfl | rfl | rfl | rfl | rfl | rfl | rfl | rfl | rfl | rfl | rfl | rfl <;> first | rfl | exact absurd hk (by decide)
      · cases hl
    · exact ⟨fun ci hl => (by cases hl), fun t len hl ht => (by cases hl; exact absurd ht (by decide))⟩
    · exact ⟨fun ci hl => (by cases hl), fun t len hl ht => (by cases hl; exact absurd ht (by decide))⟩
    · exact ⟨fun ci hl => (by cases hl), fun t len hl ht => (by cases hl; exact absurd ht (by decide))⟩
    · exact ⟨fun ci hl => (by cases hl), fun t len hl ht => (by cases hl; exact absurd ht (by decide))⟩
    · exact ⟨fun ci hl => (by cases hl), fun t len hl ht => (by cases hl; exact absurd ht (by decide))⟩
    · exact ⟨fun ci hl => (by cases hl), fun t len hl ht => (by cases hl; exact absurd ht (by decide))⟩
    · exact ⟨fun ci hl => (by cases hl), fun t len hl ht => (by cases hl; exact absurd ht (by decide))⟩
    · exact ⟨fun ci hl => (by cases hl), fun t len hl ht => (by cases hl; exact absurd ht (by decide))⟩
    · exact ⟨fun ci hl => (by cases hl), fun t len hl ht => (by cases hl; exact absurd ht (by decide))⟩
    · exact ⟨fun ci hl => (by cases hl), fun t len hl ht => (by cases hl; exact absurd ht (by decide))⟩
    · exact ⟨fun ci hl => (by cases hl), fun t len hl ht => (by cases hl; exact absurd ht (by decide))⟩
    · exact ⟨fun ci hl => (by cases hl), fun t len hl ht => (by cases hl; exact absurd ht (by decide))⟩
    · exact ⟨fun ci hl => (by cases hl), fun t len hl ht => (by cases hl; exact absurd ht (by decide))⟩
    · exact ⟨fun ci hl => (by cases hl), fun t len hl ht => (by cases hl; exact absurd ht (by decide))⟩
    · exact ⟨fun ci hl => (by cases hl), fun t len hl ht => (by cases hl; exact absurd ht (by decide))⟩
    · exact ⟨fun ci hl => (by cases hl), fun t len hl ht => (by cases hl; exact absurd ht (by decide))⟩
    · exact ⟨fun ci hl => (by cases hl), fun t len hl ht => (by cases hl; exact absurd ht (by decide))⟩
    · exact ⟨fun ci hl => (by cases hl), fun t len hl ht => (by cases hl; exact absurd ht (by decide))⟩
    · exact ⟨fun ci hl => (by cases hl), fun t len hl ht => (by cases hl; exact absurd ht (by decide))⟩
    · exact ⟨fun ci hl => (by cases hl), fun t len hl ht => (by cases hl; exact absurd ht (by decide))⟩
    · exact ⟨fun ci hl => (by cases hl), fun t len hl ht => (by cases hl; exact absurd ht (by decide))⟩
    · exact ⟨fun ci hl => (by cases hl), fun t len hl ht => (by cases hl; exact absurd ht (by decide))⟩
    · exact ⟨fun ci hl => (by cases hl), fun t len hl ht => (by cases hl; exact absurd ht (by decide))⟩
    · exact ⟨fun ci hl => (by cases hl), fun t len hl ht => (by cases hl; exact absurd ht (by decide))⟩
    · exact ⟨fun ci hl => (by cases hl), fun t len hl ht => (by cases hl; exact absurd ht (by decide))⟩
    · exact ⟨fun ci hl => (by cases hl), fun t len hl ht => (by cases hl; exact absurd ht (by decide))⟩
    · exact ⟨fun ci hl => (by cases hl), fun t len hl ht => (by cases hl; exact absurd ht (by decide))⟩
    · exact ⟨fun ci hl => (by cases hl), fun t len hl ht => (by cases hl; exact absurd ht (by decide))⟩
    · exact ⟨fun ci hl => (by cases hl), fun t len hl ht => (by cases hl; exact absurd ht (by decide))⟩
    · exact ⟨fun ci hl => (by cases hl), fun t len hl ht => (by cases hl; exact absurd ht (by decide))⟩
    · exact ⟨fun ci hl => (by cases hl), fun t len hl ht => (by cases hl; exact absurd ht (by decide))⟩
    · exact ⟨fun ci hl => (by cases hl), fun t len hl ht => (by cases hl; exact absurd ht (by decide))⟩
    · exact ⟨fun ci hl => (by cases hl), fun t len hl ht => (by cases hl; exact absurd ht (by decide))⟩
    · exact ⟨fun ci hl => (by cases hl), fun t len hl ht => (by cases hl; exact absurd ht (by decide))⟩
    · exact ⟨fun ci hl => (by cases hl), fun t len hl ht => (by cases hl; exact absurd ht (by decide))⟩
    · exact ⟨fun ci hl => (by cases hl), fun t len hl ht => (by cases hl; exact absurd ht (by decide))⟩
    · exact ⟨fun ci hl => (by cases hl), fun t len hl ht => (by cases hl; exact absurd ht (by decide))⟩
  · rw [← wM_0 (mu (mu M 172 5 (-1)) 172 24 1000) 182]
    exact loop 25 0 (by omega) (by omega)
