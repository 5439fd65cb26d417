theorem dX11_timetable_0 : decode cX11_timetable 0 = .ok (.aload_n 0, 1) := by decide +kernel
theorem dX11_timetable_1 : decode cX11_timetable 1 = .ok (.getfield 21, 3) := by decide +kernel
theorem dX11_timetable_4 : decode cX11_timetable 4 = .ok (.aload_n 0, 1) := by decide +kernel
theorem dX11_timetable_5 : decode cX11_timetable 5 = .ok (.getfield 32, 3) := by decide +kernel
theorem dX11_timetable_8 : decode cX11_timetable 8 = .ok (.invokevirtual 103, 3) := by decide +kernel
theorem dX11_timetable_11 : decode cX11_timetable 11 = .ok (.ifCond .ne 5, 3) := by decide +kernel
theorem dX11_timetable_14 : decode cX11_timetable 14 = .ok (.iconst (-1), 1) := by decide +kernel
theorem dX11_timetable_15 : decode cX11_timetable 15 = .ok (.ireturn, 1) := by decide +kernel
theorem dX11_timetable_16 : decode cX11_timetable 16 = .ok (.aload_n 0, 1) := by decide +kernel
theorem dX11_timetable_17 : decode cX11_timetable 17 = .ok (.getfield 28, 3) := by decide +kernel
theorem dX11_timetable_20 : decode cX11_timetable 20 = .ok (.astore_n 1, 1) := by decide +kernel
theorem dX11_timetable_21 : decode cX11_timetable 21 = .ok (.aload_n 0, 1) := by decide +kernel
theorem dX11_timetable_22 : decode cX11_timetable 22 = .ok (.aload_n 0, 1) := by decide +kernel
theorem dX11_timetable_23 : decode cX11_timetable 23 = .ok (.getfield 32, 3) := by decide +kernel
theorem dX11_timetable_26 : decode cX11_timetable 26 = .ok (.putfield 28, 3) := by decide +kernel
theorem dX11_timetable_29 : decode cX11_timetable 29 = .ok (.aload_n 0, 1) := by decide +kernel
theorem dX11_timetable_30 : decode cX11_timetable 30 = .ok (.aload_n 1, 1) := by decide +kernel
theorem dX11_timetable_31 : decode cX11_timetable 31 = .ok (.putfield 32, 3) := by decide +kernel
theorem dX11_timetable_34 : decode cX11_timetable 34 = .ok (.aload_n 0, 1) := by decide +kernel
theorem dX11_timetable_35 : decode cX11_timetable 35 = .ok (.getfield 12, 3) := by decide +kernel
theorem dX11_timetable_38 : decode cX11_timetable 38 = .ok (.iconst 0, 1) := by decide +kernel
theorem dX11_timetable_39 : decode cX11_timetable 39 = .ok (.putfield 96, 3) := by decide +kernel
theorem dX11_timetable_42 : decode cX11_timetable 42 = .ok (.aload_n 0, 1) := by decide +kernel
theorem dX11_timetable_43 : decode cX11_timetable 43 = .ok (.iconst 1, 1) := by decide +kernel
theorem dX11_timetable_44 : decode cX11_timetable 44 = .ok (.putfield 60, 3) := by decide +kernel
theorem dX11_timetable_47 : decode cX11_timetable 47 = .ok (.aload_n 0, 1) := by decide +kernel
theorem dX11_timetable_48 : decode cX11_timetable 48 = .ok (.getfield 28, 3) := by decide +kernel
theorem dX11_timetable_51 : decode cX11_timetable 51 = .ok (.getfield 107, 3) := by decide +kernel
theorem dX11_timetable_54 : decode cX11_timetable 54 = .ok (.ireturn, 1) := by decide +kernel
set_option maxHeartbeats 4000000 in
set_option maxRecDepth 20000 in
theorem c_X11_timetable (l : Launch) (b : Nat) (D : va_G) (cy : Nat → ClassId) {tt : Nat} {M : xMm}  (hJ : JG M) (hI : IR M) (htt : xTt tt) : xC l b D cy yX11_timetable cX11_timetable 2 (some .int) ({ frames := 6, cells := 0, slots := 0, locals := 130 }) [xr 1] 209 M (RS tt) (fun v n' M' R' => n' = 209 ∧ ∃ tt', xTt tt' ∧ R' = RS tt' ∧ ∃ r, v = some (xi r) ∧ JG M' ∧ IR M' ∧ (∀ a, a ≠ 1 → (a < 2 ∨ 56 < a) → M' a = M a) ∧ (M' 1 = M 1 ∨ M' 1 = mu M 1 7 1 1)) := by
  refine x_met (by decide) (Nat.le_of_ble_eq_true rfl) (fun g hg hr he => ?_)
  have htt2 : xTt (36 - tt) := by rcases htt with rfl | rfl <;> decide
  refine x_canon (ls' := [(0, _)]) rfl ?_
  refine x_aload_n hg dX11_timetable_0 rfl ?_
  refine x_getR (j9 := 4) hg dX11_timetable_1 fl_X11_21 (by decide) rfl rfl (by decide) ?_
  refine x_aload_n hg dX11_timetable_4 rfl ?_
  refine x_getR (j9 := 36 - tt) hg dX11_timetable_5 fl_X11_32 (by decide) rfl rfl (by omega) ?_
  refine x_cVi hg he [_] [] dX11_timetable_8 mv_X11_103 (c_X5_read l b D cy hJ hI htt2) (by decide) rfl rfl (Nat.le_of_ble_eq_true rfl) (by decide) (by decide) (fun r8 M8 q8 => ?_)
  obtain ⟨hr8, hJ8, hI8, hf8⟩ := q8
  refine x_if_ne (tgt := 16) hg dX11_timetable_11 (by decide) (by omega) (fun c11 => ?_) (fun c11 => ?_)
  · skip
    refine x_aload_n hg dX11_timetable_16 rfl ?_
    refine x_getR (j9 := tt) hg dX11_timetable_17 fl_X11_28 (by decide) rfl rfl (by omega) ?_
    refine x_astore_n (ls' := [(0, _), (1, _)]) hg dX11_timetable_20 rfl (by decide) rfl ?_
    refine x_aload_n hg dX11_timetable_21 rfl ?_
    refine x_aload_n hg dX11_timetable_22 rfl ?_
    refine x_getR (j9 := 36 - tt) hg dX11_timetable_23 fl_X11_32 (by decide) rfl rfl (by omega) ?_
    refine x_putR hg dX11_timetable_26 fl_X11_28 ft_11_2 (by decide) rfl (by omega) ?_
    refine x_aload_n hg dX11_timetable_29 rfl ?_
    refine x_aload_n hg dX11_timetable_30 rfl ?_
    refine x_putR hg dX11_timetable_31 fl_X11_32 ft_11_3 (by decide) rfl (by omega) ?_
    rw [RS_swap2 htt]
    refine x_aload_n hg dX11_timetable_34 rfl ?_
    refine x_getR (j9 := 2) hg dX11_timetable_35 fl_X11_12 (by decide) rfl rfl (by decide) ?_
    refine x_iconst hg dX11_timetable_38 ?_
    refine x_putI hg dX11_timetable_39 fl_X11_96 ft_7_1 (by decide) rfl ?_
    refine x_aload_n hg dX11_timetable_42 rfl ?_
    refine x_iconst hg dX11_timetable_43 ?_
    refine x_putZ hg dX11_timetable_44 fl_X11_60 ft_11_7 (by decide) rfl (by first | exact Or.inl rfl | exact Or.inr rfl | omega) ?_
    refine x_aload_n hg dX11_timetable_47 rfl ?_
    refine x_getR (j9 := 36 - tt) hg dX11_timetable_48 fl_X11_28 (by decide) rfl rfl (by omega) ?_
    refine x_getI hg dX11_timetable_51 fl_X11_107 (oO_tt htt2) rfl ?_
    try simp (disch := omega) only [mu_s, mu_nf, mu_nc]
    refine x_iret hg hr (Or.inl rfl) dX11_timetable_54 (Nat.le_refl _) (Nat.le_refl _) ?_
    refine ⟨rfl, 36 - tt, htt2, rfl, _, rfl, ?_, ?_, fun a h1 h2 => ?_, Or.inr ?_⟩
    · refine ⟨⟨by rw [mu_nc (by decide), mu_s]; decide, fun j => by rw [mu_nc (by decide), mu_nc (by decide)]; exact hJ8.1.2 j⟩, ?_, ?_⟩
      · rw [mu_nc (by decide), mu_nc (by decide)]; exact hJ8.2.2.2.2.1
      · rw [mu_nc (by decide), mu_nc (by decide)]; exact hJ8.2.2.2.2.2.1
    · exact IR_congr hI8 (fun a h1 h2 => by funext c; rw [mu_nc (by omega), mu_nc (by omega)])
    · funext c; rw [mu_nc (by omega), mu_nc (by omega), hf8 a (by omega)]
    · funext c
      by_cases e : c = 7
      · subst e; rw [mu_s, mu_s]
      · rw [mu_nf e, mu_nf e, mu_nc (by decide), hf8 1 (by omega)]
  · skip
    refine x_iconst hg dX11_timetable_14 ?_
    refine x_iret hg hr (Or.inl rfl) dX11_timetable_15 (Nat.le_refl _) (Nat.le_refl _) ?_
    refine ⟨rfl, tt, htt, rfl, _, rfl, JD_G hJ8, hI8, fun a h1 h2 => hf8 a (by omega), Or.inl (hf8 1 (by omega))⟩
