theorem IO_chs {M : xMm} (h : IO M) : pChs M := fun c hc => by
  obtain ⟨-, -, -, -, -, -, hC, -⟩ := h
  have h1 := hC c hc
  exact ⟨⟨oO_churn hc, by omega, by omega⟩, by omega⟩
/-- what may change when the best loading is sought anew -/
abbrev frB (M' M : xMm) : Prop := (∀ a, a ≠ 1 → (a < 68 ∨ 83 < a) → M' a = M a) ∧ (M' 1 = M 1 ∨ M' 1 = mu M 1 7 0 1)

theorem dX11_renewBest_0 : decode cX11_renewBest 0 = .ok (.aload_n 0, 1) := by decide +kernel
theorem dX11_renewBest_1 : decode cX11_renewBest 1 = .ok (.getfield 60, 3) := by decide +kernel
theorem dX11_renewBest_4 : decode cX11_renewBest 4 = .ok (.ifCond .eq 31, 3) := by decide +kernel
theorem dX11_renewBest_7 : decode cX11_renewBest 7 = .ok (.aload_n 0, 1) := by decide +kernel
theorem dX11_renewBest_8 : decode cX11_renewBest 8 = .ok (.getfield 56, 3) := by decide +kernel
theorem dX11_renewBest_11 : decode cX11_renewBest 11 = .ok (.aload_n 0, 1) := by decide +kernel
theorem dX11_renewBest_12 : decode cX11_renewBest 12 = .ok (.getfield 70, 3) := by decide +kernel
theorem dX11_renewBest_15 : decode cX11_renewBest 15 = .ok (.aload_n 0, 1) := by decide +kernel
theorem dX11_renewBest_16 : decode cX11_renewBest 16 = .ok (.getfield 162, 3) := by decide +kernel
theorem dX11_renewBest_19 : decode cX11_renewBest 19 = .ok (.aload_n 0, 1) := by decide +kernel
theorem dX11_renewBest_20 : decode cX11_renewBest 20 = .ok (.getfield 28, 3) := by decide +kernel
theorem dX11_renewBest_23 : decode cX11_renewBest 23 = .ok (.aload_n 0, 1) := by decide +kernel
theorem dX11_renewBest_24 : decode cX11_renewBest 24 = .ok (.getfield 64, 3) := by decide +kernel
theorem dX11_renewBest_27 : decode cX11_renewBest 27 = .ok (.invokevirtual 269, 3) := by decide +kernel
theorem dX11_renewBest_30 : decode cX11_renewBest 30 = .ok (.aload_n 0, 1) := by decide +kernel
theorem dX11_renewBest_31 : decode cX11_renewBest 31 = .ok (.iconst 0, 1) := by decide +kernel
theorem dX11_renewBest_32 : decode cX11_renewBest 32 = .ok (.putfield 60, 3) := by decide +kernel
theorem dX11_renewBest_35 : decode cX11_renewBest 35 = .ok (.return_, 1) := by decide +kernel
set_option maxHeartbeats 4000000 in
set_option maxRecDepth 20000 in
theorem c_X11_renewBest (l : Launch) (b : Nat) (D : va_G) (cy : Nat → ClassId) {tt : Nat} {M : xMm}  (hI : IO M) (hIC : IC M) (hIR : IR M) (hIL : IL M) (htt : xTt tt) : xC l b D cy yX11_renewBest cX11_renewBest 1 none ({ frames := 5, cells := 0, slots := 0, locals := 127 }) [xr 1] 209 M (RS tt) (xPv 209 (RS tt) (fun M' => IL M' ∧ frB M' M)) := by
  refine x_met (by decide) (Nat.le_of_ble_eq_true rfl) (fun g hg hr he => ?_)
  have hI0 := hI
  obtain ⟨hn10, hn13, hn15, hn16, hn8, hn7, hC, hT, hB, hF⟩ := hI
  refine x_canon (ls' := [(0, _)]) rfl ?_
  refine x_aload_n hg dX11_renewBest_0 rfl ?_
  refine x_getI hg dX11_renewBest_1 fl_X11_60 (by decide) rfl ?_
  refine x_if_eq (tgt := 35) hg dX11_renewBest_4 (by decide) (by omega) (fun c4 => ?_) (fun c4 => ?_)
  · skip
    refine x_vret hg hr dX11_renewBest_35 (Nat.le_refl _) (Nat.le_refl _) ?_
    first
      | exact ⟨rfl, rfl, rfl, hIL, fun a _ _ => rfl, Or.inl rfl⟩
      | (refine ⟨rfl, rfl, rfl, ?_, fun a h1 h2 => ?_, Or.inr ?_⟩
         · obtain ⟨h1, h2, h3, h4⟩ := hL27
           refine ⟨by rw [mu_nc (by decide), mu_nc (by decide), mu_nc (by decide)]; exact h1, fun c hc => by rw [mu_nc (by decide)]; exact h2 c hc, fun t ht => by rw [mu_nc (by decide), mu_nc (by decide), mu_nc (by decide)]; exact h3 t ht, fun c hc t ht => by rw [mu_nc (by omega)]; exact h4 c hc t ht⟩
         · rw [← hf27 a h2]; funext c; exact mu_nc h1
         · funext c
           by_cases e : c = 7
           · subst e; rw [mu_s, mu_s]
           · rw [mu_nf e, mu_nf e, hf27 1 (by omega)])
  · skip
    refine x_aload_n hg dX11_renewBest_7 rfl ?_
    refine x_getR (j9 := 68) hg dX11_renewBest_8 fl_X11_56 (by decide) rfl rfl (by decide) ?_
    refine x_aload_n hg dX11_renewBest_11 rfl ?_
    refine x_getR (j9 := 84) hg dX11_renewBest_12 fl_X11_70 (by decide) rfl rfl (by decide) ?_
    refine x_aload_n hg dX11_renewBest_15 rfl ?_
    refine x_getI hg dX11_renewBest_16 fl_X11_162 (by decide) rfl ?_
    refine x_aload_n hg dX11_renewBest_19 rfl ?_
    refine x_getR (j9 := tt) hg dX11_renewBest_20 fl_X11_28 (by decide) rfl rfl (by omega) ?_
    refine x_aload_n hg dX11_renewBest_23 rfl ?_
    refine x_getI hg dX11_renewBest_24 fl_X11_64 (by decide) rfl ?_
    refine x_cVv hg he [_, _, _, _] [] dX11_renewBest_27 mv_X11_269 (c_X4_settle l b D cy hIL hIC hIR (IO_chs hI0) htt (by omega) (by omega)) (by decide) rfl rfl (Nat.le_of_ble_eq_true rfl) (by decide) (by decide) (fun M27 q27 => ?_)
    obtain ⟨hL27, hf27⟩ := q27
    refine x_aload_n hg dX11_renewBest_30 rfl ?_
    refine x_iconst hg dX11_renewBest_31 ?_
    refine x_putZ hg dX11_renewBest_32 fl_X11_60 ft_11_7 (by decide) rfl (by first | exact Or.inl rfl | exact Or.inr rfl | omega) ?_
    refine x_vret hg hr dX11_renewBest_35 (Nat.le_refl _) (Nat.le_refl _) ?_
    first
      | exact ⟨rfl, rfl, rfl, hIL, fun a _ _ => rfl, Or.inl rfl⟩
      | (refine ⟨rfl, rfl, rfl, ?_, fun a h1 h2 => ?_, Or.inr ?_⟩
         · obtain ⟨h1, h2, h3, h4⟩ := hL27
           refine ⟨by rw [mu_nc (by decide), mu_nc (by decide), mu_nc (by decide)]; exact h1, fun c hc => by rw [mu_nc (by decide)]; exact h2 c hc, fun t ht => by rw [mu_nc (by decide), mu_nc (by decide), mu_nc (by decide)]; exact h3 t ht, fun c hc t ht => by rw [mu_nc (by omega)]; exact h4 c hc t ht⟩
         · rw [← hf27 a h2]; funext c; exact mu_nc h1
         · funext c
           by_cases e : c = 7
           · subst e; rw [mu_s, mu_s]
           · rw [mu_nf e, mu_nf e, hf27 1 (by omega)])

theorem dX11_lost_0 : decode cX11_lost 0 = .ok (.aload_n 0, 1) := by decide +kernel
theorem dX11_lost_1 : decode cX11_lost 1 = .ok (.invokevirtual 200, 3) := by decide +kernel
theorem dX11_lost_4 : decode cX11_lost 4 = .ok (.aload_n 0, 1) := by decide +kernel
theorem dX11_lost_5 : decode cX11_lost 5 = .ok (.getfield 56, 3) := by decide +kernel
theorem dX11_lost_8 : decode cX11_lost 8 = .ok (.getfield 203, 3) := by decide +kernel
theorem dX11_lost_11 : decode cX11_lost 11 = .ok (.ireturn, 1) := by decide +kernel
set_option maxHeartbeats 4000000 in
set_option maxRecDepth 20000 in
theorem c_X11_lost (l : Launch) (b : Nat) (D : va_G) (cy : Nat → ClassId) {tt : Nat} {M : xMm}  (hI : IO M) (hIC : IC M) (hIR : IR M) (hIL : IL M) (htt : xTt tt) : xC l b D cy yX11_lost cX11_lost 1 (some .int) ({ frames := 6, cells := 0, slots := 0, locals := 147 }) [xr 1] 209 M (RS tt) (xPi 209 (RS tt) (fun r M' => IL M' ∧ frB M' M)) := by
  refine x_met (by decide) (Nat.le_of_ble_eq_true rfl) (fun g hg hr he => ?_)
  refine x_canon (ls' := [(0, _)]) rfl ?_
  refine x_aload_n hg dX11_lost_0 rfl ?_
  refine x_cVv hg he [] [] dX11_lost_1 mv_X11_200 (c_X11_renewBest l b D cy hI hIC hIR hIL htt) (by decide) rfl rfl (Nat.le_of_ble_eq_true rfl) (by decide) (by decide) (fun M1 q1 => ?_)
  obtain ⟨hL1, hf1⟩ := q1
  refine x_aload_n hg dX11_lost_4 rfl ?_
  refine x_getR (j9 := 68) hg dX11_lost_5 fl_X11_56 (by decide) rfl rfl (by decide) ?_
  refine x_getI hg dX11_lost_8 fl_X11_203 (by decide) rfl ?_
  refine x_iret hg hr (Or.inl rfl) dX11_lost_11 (Nat.le_refl _) (Nat.le_refl _) ?_
  exact ⟨rfl, rfl, _, rfl, hL1, hf1⟩

theorem dX11_souring_0 : decode cX11_souring 0 = .ok (.aload_n 0, 1) := by decide +kernel
theorem dX11_souring_1 : decode cX11_souring 1 = .ok (.invokevirtual 200, 3) := by decide +kernel
theorem dX11_souring_4 : decode cX11_souring 4 = .ok (.aload_n 0, 1) := by decide +kernel
theorem dX11_souring_5 : decode cX11_souring 5 = .ok (.getfield 56, 3) := by decide +kernel
theorem dX11_souring_8 : decode cX11_souring 8 = .ok (.getfield 206, 3) := by decide +kernel
theorem dX11_souring_11 : decode cX11_souring 11 = .ok (.ireturn, 1) := by decide +kernel
set_option maxHeartbeats 4000000 in
set_option maxRecDepth 20000 in
theorem c_X11_souring (l : Launch) (b : Nat) (D : va_G) (cy : Nat → ClassId) {tt : Nat} {M : xMm}  (hI : IO M) (hIC : IC M) (hIR : IR M) (hIL : IL M) (htt : xTt tt) : xC l b D cy yX11_souring cX11_souring 1 (some .int) ({ frames := 6, cells := 0, slots := 0, locals := 147 }) [xr 1] 209 M (RS tt) (xPi 209 (RS tt) (fun r M' => IL M' ∧ frB M' M)) := by
  refine x_met (by decide) (Nat.le_of_ble_eq_true rfl) (fun g hg hr he => ?_)
  refine x_canon (ls' := [(0, _)]) rfl ?_
  refine x_aload_n hg dX11_souring_0 rfl ?_
  refine x_cVv hg he [] [] dX11_souring_1 mv_X11_200 (c_X11_renewBest l b D cy hI hIC hIR hIL htt) (by decide) rfl rfl (Nat.le_of_ble_eq_true rfl) (by decide) (by decide) (fun M1 q1 => ?_)
  obtain ⟨hL1, hf1⟩ := q1
  refine x_aload_n hg dX11_souring_4 rfl ?_
  refine x_getR (j9 := 68) hg dX11_souring_5 fl_X11_56 (by decide) rfl rfl (by decide) ?_
  refine x_getI hg dX11_souring_8 fl_X11_206 (by decide) rfl ?_
  refine x_iret hg hr (Or.inl rfl) dX11_souring_11 (Nat.le_refl _) (Nat.le_refl _) ?_
  exact ⟨rfl, rfl, _, rfl, hL1, hf1⟩

theorem dX11_load_0 : decode cX11_load 0 = .ok (.aload_n 0, 1) := by decide +kernel
theorem dX11_load_1 : decode cX11_load 1 = .ok (.iload_n 1, 1) := by decide +kernel
theorem dX11_load_2 : decode cX11_load 2 = .ok (.invokevirtual 177, 3) := by decide +kernel
theorem dX11_load_5 : decode cX11_load 5 = .ok (.ifCond .ne 5, 3) := by decide +kernel
theorem dX11_load_8 : decode cX11_load 8 = .ok (.iconst (-1), 1) := by decide +kernel
theorem dX11_load_9 : decode cX11_load 9 = .ok (.ireturn, 1) := by decide +kernel
theorem dX11_load_10 : decode cX11_load 10 = .ok (.aload_n 0, 1) := by decide +kernel
theorem dX11_load_11 : decode cX11_load 11 = .ok (.invokevirtual 200, 3) := by decide +kernel
theorem dX11_load_14 : decode cX11_load 14 = .ok (.aload_n 0, 1) := by decide +kernel
theorem dX11_load_15 : decode cX11_load 15 = .ok (.getfield 56, 3) := by decide +kernel
theorem dX11_load_18 : decode cX11_load 18 = .ok (.iload_n 1, 1) := by decide +kernel
theorem dX11_load_19 : decode cX11_load 19 = .ok (.invokevirtual 209, 3) := by decide +kernel
theorem dX11_load_22 : decode cX11_load 22 = .ok (.ireturn, 1) := by decide +kernel
set_option maxHeartbeats 4000000 in
set_option maxRecDepth 20000 in
theorem c_X11_load (l : Launch) (b : Nat) (D : va_G) (cy : Nat → ClassId) {tt : Nat} {M : xMm} {z : Int} (hI : IO M) (hIC : IC M) (hIR : IR M) (hIL : IL M) (htt : xTt tt) (hz : inR z) : xC l b D cy yX11_load cX11_load 2 (some .int) ({ frames := 6, cells := 0, slots := 0, locals := 147 }) [xr 1, xi z] 209 M (RS tt) (xPi 209 (RS tt) (fun r M' => IL M' ∧ frB M' M)) := by
  refine x_met (by decide) (Nat.le_of_ble_eq_true rfl) (fun g hg hr he => ?_)
  have hn10 := hI.1
  refine x_canon (ls' := [(0, _), (1, _)]) rfl ?_
  refine x_aload_n hg dX11_load_0 rfl ?_
  refine x_iload_n hg dX11_load_1 rfl ?_
  refine x_cVi hg he [_] [] dX11_load_2 mv_X11_177 (c_X11_isChurn l b D cy (by omega) (by omega)) (by decide) rfl rfl (Nat.le_of_ble_eq_true rfl) (by decide) (by decide) (fun r2 M2 q2 => ?_)
  obtain ⟨h2, e2⟩ := q2
  replace h2 := h2.symm
  subst h2
  refine x_if_ne (tgt := 10) hg dX11_load_5 (by decide) (by omega) (fun c5 => ?_) (fun c5 => ?_)
  · skip
    refine x_aload_n hg dX11_load_10 rfl ?_
    refine x_cVv hg he [] [] dX11_load_11 mv_X11_200 (c_X11_renewBest l b D cy hI hIC hIR hIL htt) (by decide) rfl rfl (Nat.le_of_ble_eq_true rfl) (by decide) (by decide) (fun M11 q11 => ?_)
    obtain ⟨hL11, hf11⟩ := q11
    refine x_aload_n hg dX11_load_14 rfl ?_
    refine x_getR (j9 := 68) hg dX11_load_15 fl_X11_56 (by decide) rfl rfl (by decide) ?_
    refine x_iload_n hg dX11_load_18 rfl ?_
    refine x_cVi hg he [_] [] dX11_load_19 mv_X11_209 (c_X4_trainOf l b D cy hL11 (by omega)) (by decide) rfl rfl (Nat.le_of_ble_eq_true rfl) (by decide) (by decide) (fun r19 M19 q19 => ?_)
    refine x_iret hg hr (Or.inl rfl) dX11_load_22 (Nat.le_refl _) (Nat.le_refl _) ?_
    subst q19
    exact ⟨rfl, rfl, _, rfl, hL11, hf11⟩
  · skip
    refine x_iconst hg dX11_load_8 ?_
    refine x_iret hg hr (Or.inl rfl) dX11_load_9 (Nat.le_refl _) (Nat.le_refl _) ?_
    exact ⟨rfl, rfl, _, rfl, hIL, fun a _ _ => rfl, Or.inl rfl⟩
