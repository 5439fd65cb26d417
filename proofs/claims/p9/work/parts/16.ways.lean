/-! ===== the ways' own cells ===== -/
def IW (M : xMm) : Prop := ((0 ≤ M 63 5 ∧ M 63 5 ≤ 64) ∧ inR (M 63 6) ∧ inR (M 63 7) ∧ inR (M 63 8)) ∧ ∀ j, j < 64 → (-1 ≤ M 64 j ∧ M 64 j ≤ 9) ∧ (0 ≤ M 65 j ∧ M 65 j ≤ 1739) ∧ inR (M 66 j) ∧ (0 ≤ M 67 j ∧ M 67 j ≤ 63)
theorem IW_f {M : xMm} (h : IW M) {f : Nat} {z : Int} (hz : f = 5 ∧ (0 ≤ z ∧ z ≤ 64) ∨ (f = 6 ∨ f = 7 ∨ f = 8) ∧ inR z) : IW (mu M 63 f z) := by
  obtain ⟨h1, h2⟩ := h
  refine ⟨?_, fun j hj => ?_⟩
  · rcases hz with ⟨rfl, hz⟩ | ⟨rfl | rfl | rfl, hz⟩ <;> simp only [mu_s, mu_nf (show (5 : Nat) ≠ 6 by decide), mu_nf (show (5 : Nat) ≠ 7 by decide), mu_nf (show (5 : Nat) ≠ 8 by decide), mu_nf (show (6 : Nat) ≠ 5 by decide), mu_nf (show (6 : Nat) ≠ 7 by decide), mu_nf (show (6 : Nat) ≠ 8 by decide), mu_nf (show (7 : Nat) ≠ 5 by decide), mu_nf (show (7 : Nat) ≠ 6 by decide), mu_nf (show (7 : Nat) ≠ 8 by decide), mu_nf (show (8 : Nat) ≠ 5 by decide), mu_nf (show (8 : Nat) ≠ 6 by decide), mu_nf (show (8 : Nat) ≠ 7 by decide)] <;> omega
  · rw [mu_nc (by decide), mu_nc (by decide), mu_nc (by decide), mu_nc (by decide)]
    exact h2 j hj
theorem IW_a {M : xMm} (h : IW M) {a i : Nat} {z : Int} (hz : a = 64 ∧ (-1 ≤ z ∧ z ≤ 9) ∨ a = 65 ∧ (0 ≤ z ∧ z ≤ 1739) ∨ a = 66 ∧ inR z ∨ a = 67 ∧ (0 ≤ z ∧ z ≤ 63)) : IW (mu M a i z) := by
  obtain ⟨h1, h2⟩ := h
  refine ⟨?_, fun j hj => ?_⟩
  · rw [mu_nc (by omega), mu_nc (by omega), mu_nc (by omega), mu_nc (by omega)]
    exact h1
  · have h3 := h2 j hj
    by_cases e : j = i
    · subst e
      rcases hz with ⟨rfl, hz⟩ | ⟨rfl, hz⟩ | ⟨rfl, hz⟩ | ⟨rfl, hz⟩ <;> simp only [mu_s, mu_nc (show (64 : Nat) ≠ 65 by decide), mu_nc (show (64 : Nat) ≠ 66 by decide), mu_nc (show (64 : Nat) ≠ 67 by decide), mu_nc (show (65 : Nat) ≠ 64 by decide), mu_nc (show (65 : Nat) ≠ 66 by decide), mu_nc (show (65 : Nat) ≠ 67 by decide), mu_nc (show (66 : Nat) ≠ 64 by decide), mu_nc (show (66 : Nat) ≠ 65 by decide), mu_nc (show (66 : Nat) ≠ 67 by decide), mu_nc (show (67 : Nat) ≠ 64 by decide), mu_nc (show (67 : Nat) ≠ 65 by decide), mu_nc (show (67 : Nat) ≠ 66 by decide)] <;> omega
    · rw [mu_nf e, mu_nf e, mu_nf e, mu_nf e]
      exact h3
/-- outside of the ways' cells nothing changed -/
abbrev frW (M' M : xMm) : Prop := ∀ a, a < 63 ∨ 67 < a → M' a = M a
theorem frW_mu {M' M : xMm} (h : frW M' M) {a k : Nat} {z : Int} (ha : 63 ≤ a ∧ a ≤ 67) : frW (mu M' a k z) M := fun c hc => by
  rw [← h c hc]
  funext j
  exact mu_nc (by omega)
theorem IC_W {M' M : xMm} (h : frW M' M) (hI : IC M) : IC M' := IC_congr hI (fun a h1 h2 => h a (by omega))
theorem IR_W {M' M : xMm} (h : frW M' M) (hI : IR M) : IR M' := IR_congr hI (fun a h1 h2 => h a (by omega))
/-- a churn's cell: where it waits, from when -/
abbrev pCh (M : xMm) (c : Nat) : Prop := xO 209 c 1 ∧ (0 ≤ M c 1 ∧ M c 1 ≤ 9) ∧ (0 ≤ M c 2 ∧ M c 2 ≤ 1439)
theorem pCh_W {M' M : xMm} {c : Nat} (h : frW M' M) (hc : c < 63 ∨ 67 < c) (hI : pCh M c) : pCh M' c := by
  rw [pCh, h c hc]
  exact hI

theorem dX10_direct_0 : decode cX10_direct 0 = .ok (.aload_n 2, 1) := by decide +kernel
theorem dX10_direct_1 : decode cX10_direct 1 = .ok (.aload_n 1, 1) := by decide +kernel
theorem dX10_direct_2 : decode cX10_direct 2 = .ok (.getfield 28, 3) := by decide +kernel
theorem dX10_direct_5 : decode cX10_direct 5 = .ok (.invokevirtual 34, 3) := by decide +kernel
theorem dX10_direct_8 : decode cX10_direct 8 = .ok (.istore_n 3, 1) := by decide +kernel
theorem dX10_direct_9 : decode cX10_direct 9 = .ok (.aload_n 2, 1) := by decide +kernel
theorem dX10_direct_10 : decode cX10_direct 10 = .ok (.iconst 0, 1) := by decide +kernel
theorem dX10_direct_11 : decode cX10_direct 11 = .ok (.invokevirtual 34, 3) := by decide +kernel
theorem dX10_direct_14 : decode cX10_direct 14 = .ok (.istore 4, 2) := by decide +kernel
theorem dX10_direct_16 : decode cX10_direct 16 = .ok (.iload_n 3, 1) := by decide +kernel
theorem dX10_direct_17 : decode cX10_direct 17 = .ok (.iconst (-1), 1) := by decide +kernel
theorem dX10_direct_18 : decode cX10_direct 18 = .ok (.if_icmp .eq 21, 3) := by decide +kernel
theorem dX10_direct_21 : decode cX10_direct 21 = .ok (.iload 4, 2) := by decide +kernel
theorem dX10_direct_23 : decode cX10_direct 23 = .ok (.iload_n 3, 1) := by decide +kernel
theorem dX10_direct_24 : decode cX10_direct 24 = .ok (.if_icmp .le 15, 3) := by decide +kernel
theorem dX10_direct_27 : decode cX10_direct 27 = .ok (.aload_n 2, 1) := by decide +kernel
theorem dX10_direct_28 : decode cX10_direct 28 = .ok (.iload_n 3, 1) := by decide +kernel
theorem dX10_direct_29 : decode cX10_direct 29 = .ok (.invokevirtual 40, 3) := by decide +kernel
theorem dX10_direct_32 : decode cX10_direct 32 = .ok (.aload_n 1, 1) := by decide +kernel
theorem dX10_direct_33 : decode cX10_direct 33 = .ok (.getfield 43, 3) := by decide +kernel
theorem dX10_direct_36 : decode cX10_direct 36 = .ok (.if_icmp .ge 5, 3) := by decide +kernel
theorem dX10_direct_39 : decode cX10_direct 39 = .ok (.iconst (-1), 1) := by decide +kernel
theorem dX10_direct_40 : decode cX10_direct 40 = .ok (.ireturn, 1) := by decide +kernel
theorem dX10_direct_41 : decode cX10_direct 41 = .ok (.aload_n 2, 1) := by decide +kernel
theorem dX10_direct_42 : decode cX10_direct 42 = .ok (.iload_n 3, 1) := by decide +kernel
theorem dX10_direct_43 : decode cX10_direct 43 = .ok (.invokevirtual 40, 3) := by decide +kernel
theorem dX10_direct_46 : decode cX10_direct 46 = .ok (.istore 5, 2) := by decide +kernel
theorem dX10_direct_48 : decode cX10_direct 48 = .ok (.aload_n 0, 1) := by decide +kernel
theorem dX10_direct_49 : decode cX10_direct 49 = .ok (.getfield 24, 3) := by decide +kernel
theorem dX10_direct_52 : decode cX10_direct 52 = .ok (.aload_n 1, 1) := by decide +kernel
theorem dX10_direct_53 : decode cX10_direct 53 = .ok (.getfield 43, 3) := by decide +kernel
theorem dX10_direct_56 : decode cX10_direct 56 = .ok (.iload 5, 2) := by decide +kernel
theorem dX10_direct_58 : decode cX10_direct 58 = .ok (.aload_n 1, 1) := by decide +kernel
theorem dX10_direct_59 : decode cX10_direct 59 = .ok (.getfield 28, 3) := by decide +kernel
theorem dX10_direct_62 : decode cX10_direct 62 = .ok (.invokevirtual 46, 3) := by decide +kernel
theorem dX10_direct_65 : decode cX10_direct 65 = .ok (.aload_n 0, 1) := by decide +kernel
theorem dX10_direct_66 : decode cX10_direct 66 = .ok (.getfield 24, 3) := by decide +kernel
theorem dX10_direct_69 : decode cX10_direct 69 = .ok (.iload 5, 2) := by decide +kernel
theorem dX10_direct_71 : decode cX10_direct 71 = .ok (.aload_n 2, 1) := by decide +kernel
theorem dX10_direct_72 : decode cX10_direct 72 = .ok (.iload 4, 2) := by decide +kernel
theorem dX10_direct_74 : decode cX10_direct 74 = .ok (.invokevirtual 40, 3) := by decide +kernel
theorem dX10_direct_77 : decode cX10_direct 77 = .ok (.iconst (-1), 1) := by decide +kernel
theorem dX10_direct_78 : decode cX10_direct 78 = .ok (.invokevirtual 46, 3) := by decide +kernel
theorem dX10_direct_81 : decode cX10_direct 81 = .ok (.iadd, 1) := by decide +kernel
theorem dX10_direct_82 : decode cX10_direct 82 = .ok (.ireturn, 1) := by decide +kernel
set_option maxHeartbeats 4000000 in
set_option maxRecDepth 20000 in
theorem c_X10_direct (l : Launch) (b : Nat) (D : va_G) (cy : Nat → ClassId) {tt : Nat} {M : xMm} {c i : Nat} (hC : IC M) (hI : IR M) (hc : pCh M c) (hi : xTr i) : xC l b D cy yX10_direct cX10_direct 6 (some .int) ({ frames := 2, cells := 0, slots := 0, locals := 48 }) [xr 63, xr c, xr i] 209 M (RS tt) (xPi 209 (RS tt) (fun r M' => M' = M ∧ inR r)) := by
  refine x_met (by decide) (Nat.le_of_ble_eq_true rfl) (fun g hg hr he => ?_)
  have hst := hI.2 i hi
  obtain ⟨-, hc1, hc2⟩ := id hc
  refine x_canon (ls' := [(0, _), (1, _), (2, _)]) rfl ?_
  refine x_aload_n hg dX10_direct_0 rfl ?_
  refine x_aload_n hg dX10_direct_1 rfl ?_
  refine x_getI hg dX10_direct_2 fl_X10_28 hc.1 rfl ?_
  refine x_cVi hg he [_] [] dX10_direct_5 mv_X10_34 (c_X9_stopAt l b D cy hI hi (by omega)) (oO_train hi) rfl rfl (Nat.le_of_ble_eq_true rfl) (by decide) (by decide) (fun r5 M5 q5 => ?_)
  obtain ⟨h5, e5⟩ := q5
  replace h5 := h5.symm
  subst h5
  refine x_istore_n (ls' := [(0, _), (1, _), (2, _), (3, _)]) hg dX10_direct_8 rfl (by decide) rfl ?_
  refine x_aload_n hg dX10_direct_9 rfl ?_
  refine x_iconst hg dX10_direct_10 ?_
  refine x_cVi hg he [_] [] dX10_direct_11 mv_X10_34 (c_X9_stopAt l b D cy hI hi (by omega)) (oO_train hi) rfl rfl (Nat.le_of_ble_eq_true rfl) (by decide) (by decide) (fun r11 M11 q11 => ?_)
  obtain ⟨h11, e11⟩ := q11
  replace h11 := h11.symm
  subst h11
  refine x_istore (ls' := [(0, _), (1, _), (2, _), (3, _), (4, _)]) hg dX10_direct_14 (by decide) rfl ?_
  refine x_iload_n hg dX10_direct_16 rfl ?_
  refine x_iconst hg dX10_direct_17 ?_
  refine x_icmp_eq (tgt := 39) hg dX10_direct_18 (by decide) (by omega) (by omega) (fun c18 => ?_) (fun c18 => ?_)
  · skip
    refine x_iconst hg dX10_direct_39 ?_
    refine x_iret hg hr (Or.inl rfl) dX10_direct_40 (Nat.le_refl _) (Nat.le_refl _) ?_
    exact ⟨rfl, rfl, _, rfl, rfl, by omega⟩
  · skip
    refine x_iload hg dX10_direct_21 rfl ?_
    refine x_iload_n hg dX10_direct_23 rfl ?_
    refine x_icmp_le (tgt := 39) hg dX10_direct_24 (by decide) (by omega) (by omega) (fun c24 => ?_) (fun c24 => ?_)
    · skip
      refine x_iconst hg dX10_direct_39 ?_
      refine x_iret hg hr (Or.inl rfl) dX10_direct_40 (Nat.le_refl _) (Nat.le_refl _) ?_
      exact ⟨rfl, rfl, _, rfl, rfl, by omega⟩
    · skip
      refine x_aload_n hg dX10_direct_27 rfl ?_
      refine x_iload_n hg dX10_direct_28 rfl ?_
      refine x_cVi hg he [_] [] dX10_direct_29 mv_X10_40 (c_X9_minuteOf l b D cy hI hi (by omega)) (oO_train hi) rfl rfl (Nat.le_of_ble_eq_true rfl) (by decide) (by decide) (fun r29 M29 q29 => ?_)
      obtain ⟨h29, e29⟩ := q29
      replace h29 := h29.symm
      subst h29
      refine x_aload_n hg dX10_direct_32 rfl ?_
      refine x_getI hg dX10_direct_33 fl_X10_43 hc.1 rfl ?_
      refine x_icmp_ge (tgt := 41) hg dX10_direct_36 (by decide) (by omega) (by omega) (fun c36 => ?_) (fun c36 => ?_)
      · skip
        refine x_aload_n hg dX10_direct_41 rfl ?_
        refine x_iload_n hg dX10_direct_42 rfl ?_
        refine x_cVi hg he [_] [] dX10_direct_43 mv_X10_40 (c_X9_minuteOf l b D cy hI hi (by omega)) (oO_train hi) rfl rfl (Nat.le_of_ble_eq_true rfl) (by decide) (by decide) (fun r43 M43 q43 => ?_)
        obtain ⟨h43, e43⟩ := q43
        replace h43 := h43.symm
        subst h43
        refine x_istore (ls' := [(0, _), (1, _), (2, _), (3, _), (4, _), (5, _)]) hg dX10_direct_46 (by decide) rfl ?_
        refine x_aload_n hg dX10_direct_48 rfl ?_
        refine x_getR (j9 := 57) hg dX10_direct_49 fl_X10_24 (by decide) rfl rfl (by decide) ?_
        refine x_aload_n hg dX10_direct_52 rfl ?_
        refine x_getI hg dX10_direct_53 fl_X10_43 hc.1 rfl ?_
        refine x_iload hg dX10_direct_56 rfl ?_
        refine x_aload_n hg dX10_direct_58 rfl ?_
        refine x_getI hg dX10_direct_59 fl_X10_28 hc.1 rfl ?_
        refine x_cVi hg he [_, _, _] [] dX10_direct_62 mv_X10_46 (c_X2_between l b D cy hC (by omega) (by omega) (by omega)) (by decide) rfl rfl (Nat.le_of_ble_eq_true rfl) (by decide) (by decide) (fun r62 M62 q62 => ?_)
        obtain ⟨h62, e62⟩ := q62
        replace h62 := h62.symm
        subst h62
        refine x_aload_n hg dX10_direct_65 rfl ?_
        refine x_getR (j9 := 57) hg dX10_direct_66 fl_X10_24 (by decide) rfl rfl (by decide) ?_
        refine x_iload hg dX10_direct_69 rfl ?_
        refine x_aload_n hg dX10_direct_71 rfl ?_
        refine x_iload hg dX10_direct_72 rfl ?_
        refine x_cVi hg he [_] [_, _, _] dX10_direct_74 mv_X10_40 (c_X9_minuteOf l b D cy hI hi (by omega)) (oO_train hi) rfl rfl (Nat.le_of_ble_eq_true rfl) (by decide) (by decide) (fun r74 M74 q74 => ?_)
        obtain ⟨h74, e74⟩ := q74
        replace h74 := h74.symm
        subst h74
        refine x_iconst hg dX10_direct_77 ?_
        refine x_cVi hg he [_, _, _] [_] dX10_direct_78 mv_X10_46 (c_X2_between l b D cy hC (by omega) (by omega) (by omega)) (by decide) rfl rfl (Nat.le_of_ble_eq_true rfl) (by decide) (by decide) (fun r78 M78 q78 => ?_)
        obtain ⟨h78, e78⟩ := q78
        replace h78 := h78.symm
        subst h78
        refine x_iadd hg dX10_direct_81 ?_
        refine x_iret hg hr (Or.inl rfl) dX10_direct_82 (Nat.le_refl _) (Nat.le_refl _) ?_
        exact ⟨rfl, rfl, _, rfl, rfl, by omega⟩
      · skip
        refine x_iconst hg dX10_direct_39 ?_
        refine x_iret hg hr (Or.inl rfl) dX10_direct_40 (Nat.le_refl _) (Nat.le_refl _) ?_
        exact ⟨rfl, rfl, _, rfl, rfl, by omega⟩

theorem dX10_insertByMinute_0 : decode cX10_insertByMinute 0 = .ok (.aload_n 0, 1) := by decide +kernel
theorem dX10_insertByMinute_1 : decode cX10_insertByMinute 1 = .ok (.getfield 65, 3) := by decide +kernel
theorem dX10_insertByMinute_4 : decode cX10_insertByMinute 4 = .ok (.bipush 64, 2) := by decide +kernel
theorem dX10_insertByMinute_6 : decode cX10_insertByMinute 6 = .ok (.if_icmp .lt 4, 3) := by decide +kernel
theorem dX10_insertByMinute_9 : decode cX10_insertByMinute 9 = .ok (.return_, 1) := by decide +kernel
theorem dX10_insertByMinute_10 : decode cX10_insertByMinute 10 = .ok (.aload_n 0, 1) := by decide +kernel
theorem dX10_insertByMinute_11 : decode cX10_insertByMinute 11 = .ok (.getfield 65, 3) := by decide +kernel
theorem dX10_insertByMinute_14 : decode cX10_insertByMinute 14 = .ok (.istore_n 2, 1) := by decide +kernel
theorem dX10_insertByMinute_15 : decode cX10_insertByMinute 15 = .ok (.iload_n 2, 1) := by decide +kernel
theorem dX10_insertByMinute_16 : decode cX10_insertByMinute 16 = .ok (.ifCond .le 45, 3) := by decide +kernel
theorem dX10_insertByMinute_19 : decode cX10_insertByMinute 19 = .ok (.aload_n 0, 1) := by decide +kernel
theorem dX10_insertByMinute_20 : decode cX10_insertByMinute 20 = .ok (.getfield 15, 3) := by decide +kernel
theorem dX10_insertByMinute_23 : decode cX10_insertByMinute 23 = .ok (.aload_n 0, 1) := by decide +kernel
theorem dX10_insertByMinute_24 : decode cX10_insertByMinute 24 = .ok (.getfield 21, 3) := by decide +kernel
theorem dX10_insertByMinute_27 : decode cX10_insertByMinute 27 = .ok (.iload_n 2, 1) := by decide +kernel
theorem dX10_insertByMinute_28 : decode cX10_insertByMinute 28 = .ok (.iconst 1, 1) := by decide +kernel
theorem dX10_insertByMinute_29 : decode cX10_insertByMinute 29 = .ok (.isub, 1) := by decide +kernel
theorem dX10_insertByMinute_30 : decode cX10_insertByMinute 30 = .ok (.iaload, 1) := by decide +kernel
theorem dX10_insertByMinute_31 : decode cX10_insertByMinute 31 = .ok (.iaload, 1) := by decide +kernel
theorem dX10_insertByMinute_32 : decode cX10_insertByMinute 32 = .ok (.aload_n 0, 1) := by decide +kernel
theorem dX10_insertByMinute_33 : decode cX10_insertByMinute 33 = .ok (.getfield 15, 3) := by decide +kernel
theorem dX10_insertByMinute_36 : decode cX10_insertByMinute 36 = .ok (.iload_n 1, 1) := by decide +kernel
theorem dX10_insertByMinute_37 : decode cX10_insertByMinute 37 = .ok (.iaload, 1) := by decide +kernel
theorem dX10_insertByMinute_38 : decode cX10_insertByMinute 38 = .ok (.if_icmp .le 23, 3) := by decide +kernel
theorem dX10_insertByMinute_41 : decode cX10_insertByMinute 41 = .ok (.aload_n 0, 1) := by decide +kernel
theorem dX10_insertByMinute_42 : decode cX10_insertByMinute 42 = .ok (.getfield 21, 3) := by decide +kernel
theorem dX10_insertByMinute_45 : decode cX10_insertByMinute 45 = .ok (.iload_n 2, 1) := by decide +kernel
theorem dX10_insertByMinute_46 : decode cX10_insertByMinute 46 = .ok (.aload_n 0, 1) := by decide +kernel
theorem dX10_insertByMinute_47 : decode cX10_insertByMinute 47 = .ok (.getfield 21, 3) := by decide +kernel
theorem dX10_insertByMinute_50 : decode cX10_insertByMinute 50 = .ok (.iload_n 2, 1) := by decide +kernel
theorem dX10_insertByMinute_51 : decode cX10_insertByMinute 51 = .ok (.iconst 1, 1) := by decide +kernel
theorem dX10_insertByMinute_52 : decode cX10_insertByMinute 52 = .ok (.isub, 1) := by decide +kernel
theorem dX10_insertByMinute_53 : decode cX10_insertByMinute 53 = .ok (.iaload, 1) := by decide +kernel
theorem dX10_insertByMinute_54 : decode cX10_insertByMinute 54 = .ok (.iastore, 1) := by decide +kernel
theorem dX10_insertByMinute_55 : decode cX10_insertByMinute 55 = .ok (.iinc 2 (-1), 3) := by decide +kernel
theorem dX10_insertByMinute_58 : decode cX10_insertByMinute 58 = .ok (.goto (-43), 3) := by decide +kernel
theorem dX10_insertByMinute_61 : decode cX10_insertByMinute 61 = .ok (.aload_n 0, 1) := by decide +kernel
theorem dX10_insertByMinute_62 : decode cX10_insertByMinute 62 = .ok (.getfield 21, 3) := by decide +kernel
theorem dX10_insertByMinute_65 : decode cX10_insertByMinute 65 = .ok (.iload_n 2, 1) := by decide +kernel
theorem dX10_insertByMinute_66 : decode cX10_insertByMinute 66 = .ok (.iload_n 1, 1) := by decide +kernel
theorem dX10_insertByMinute_67 : decode cX10_insertByMinute 67 = .ok (.iastore, 1) := by decide +kernel
theorem dX10_insertByMinute_68 : decode cX10_insertByMinute 68 = .ok (.aload_n 0, 1) := by decide +kernel
theorem dX10_insertByMinute_69 : decode cX10_insertByMinute 69 = .ok (.dup, 1) := by decide +kernel
theorem dX10_insertByMinute_70 : decode cX10_insertByMinute 70 = .ok (.getfield 65, 3) := by decide +kernel
theorem dX10_insertByMinute_73 : decode cX10_insertByMinute 73 = .ok (.iconst 1, 1) := by decide +kernel
theorem dX10_insertByMinute_74 : decode cX10_insertByMinute 74 = .ok (.iadd, 1) := by decide +kernel
theorem dX10_insertByMinute_75 : decode cX10_insertByMinute 75 = .ok (.putfield 65, 3) := by decide +kernel
theorem dX10_insertByMinute_78 : decode cX10_insertByMinute 78 = .ok (.return_, 1) := by decide +kernel
set_option maxHeartbeats 4000000 in
set_option maxRecDepth 20000 in
theorem c_X10_insertByMinute (l : Launch) (b : Nat) (D : va_G) (cy : Nat → ClassId) {tt : Nat} {M0 : xMm} {z : Int} (hW : IW M0) (hz : 0 ≤ z ∧ z ≤ 63) : xC l b D cy yX10_insertByMinute cX10_insertByMinute 3 none ({ frames := 0, cells := 0, slots := 0, locals := 0 }) [xr 63, xi z] 209 M0 (RS tt) (xPv 209 (RS tt) (fun M' => IW M' ∧ frW M' M0)) := by
  refine x_met (by decide) (Nat.le_of_ble_eq_true rfl) (fun g hg hr he => ?_)
  obtain ⟨hv1, hv2⟩ := id hW
  refine x_canon (ls' := [(0, _), (1, _)]) rfl ?_
  have loop : ∀ (n1 : Nat) (M : xMm) (j : Int), 0 ≤ j → j < 64 → j < n1 → IW M → frW M M0 → M 63 5 < 64 → xW g 209 M (RS tt) 0 0 15 [(0, xr 63), (1, xi z), (2, xi j)] [] := by
    intro n1
    induction n1 with
    | zero => intro M j h1 h2 h3; exact absurd h3 (by omega)
    | succ n1 ih =>
      intro M j hj1 hj2 hj3 hW hf h5
      obtain ⟨hw1, hw2⟩ := id hW
      have hz2 := hw2 z.toNat (by omega)
      refine x_iload_n hg dX10_insertByMinute_15 rfl ?_
      refine x_if_le (tgt := 61) hg dX10_insertByMinute_16 (by decide) (by omega) (fun c16 => ?_) (fun c16 => ?_)
      · skip
        refine x_aload_n hg dX10_insertByMinute_61 rfl ?_
        refine x_getR (j9 := 67) hg dX10_insertByMinute_62 fl_X10_21 (by decide) rfl rfl (by decide) ?_
        refine x_iload_n hg dX10_insertByMinute_65 rfl ?_
        refine x_iload_n hg dX10_insertByMinute_66 rfl ?_
        refine x_iastore (len := 64) hg dX10_insertByMinute_67 (by decide) (by omega)  ?_
        refine x_aload_n hg dX10_insertByMinute_68 rfl ?_
        refine x_dup hg dX10_insertByMinute_69 rfl ?_
        refine x_getI hg dX10_insertByMinute_70 fl_X10_65 (by decide) rfl ?_
        try simp (disch := omega) only [mu_s, mu_nf, mu_nc]
        refine x_iconst hg dX10_insertByMinute_73 ?_
        refine x_iadd hg dX10_insertByMinute_74 ?_
        refine x_putI hg dX10_insertByMinute_75 fl_X10_65 ft_10_5 (by decide) rfl ?_
        refine x_vret hg hr dX10_insertByMinute_78 (Nat.le_refl _) (Nat.le_refl _) ?_
        refine ⟨rfl, rfl, rfl, IW_f (IW_a hW (Or.inr (Or.inr (Or.inr ⟨rfl, by omega⟩)))) (Or.inl ⟨rfl, by omega⟩), frW_mu (frW_mu hf (by decide)) (by decide)⟩
      · skip
        refine x_aload_n hg dX10_insertByMinute_19 rfl ?_
        refine x_getR (j9 := 65) hg dX10_insertByMinute_20 fl_X10_15 (by decide) rfl rfl (by decide) ?_
        refine x_aload_n hg dX10_insertByMinute_23 rfl ?_
        refine x_getR (j9 := 67) hg dX10_insertByMinute_24 fl_X10_21 (by decide) rfl rfl (by decide) ?_
        refine x_iload_n hg dX10_insertByMinute_27 rfl ?_
        refine x_iconst hg dX10_insertByMinute_28 ?_
        refine x_isub hg dX10_insertByMinute_29 ?_
        refine x_iaload (len := 64) hg dX10_insertByMinute_30 (by decide) (by omega) ?_
        refine x_iaload (len := 64) hg dX10_insertByMinute_31 (by decide) (by have h1 := hw2 (j - 1).toNat (by omega); omega) ?_
        refine x_aload_n hg dX10_insertByMinute_32 rfl ?_
        refine x_getR (j9 := 65) hg dX10_insertByMinute_33 fl_X10_15 (by decide) rfl rfl (by decide) ?_
        refine x_iload_n hg dX10_insertByMinute_36 rfl ?_
        refine x_iaload (len := 64) hg dX10_insertByMinute_37 (by decide) (by omega) ?_
        refine x_icmp_le (tgt := 61) hg dX10_insertByMinute_38 (by decide) (by have h1 := hw2 (j - 1).toNat (by omega); have h2 := hw2 (M 67 (j - 1).toNat).toNat (by omega); omega) (by omega) (fun c38 => ?_) (fun c38 => ?_)
        · skip
          refine x_aload_n hg dX10_insertByMinute_61 rfl ?_
          refine x_getR (j9 := 67) hg dX10_insertByMinute_62 fl_X10_21 (by decide) rfl rfl (by decide) ?_
          refine x_iload_n hg dX10_insertByMinute_65 rfl ?_
          refine x_iload_n hg dX10_insertByMinute_66 rfl ?_
          refine x_iastore (len := 64) hg dX10_insertByMinute_67 (by decide) (by omega)  ?_
          refine x_aload_n hg dX10_insertByMinute_68 rfl ?_
          refine x_dup hg dX10_insertByMinute_69 rfl ?_
          refine x_getI hg dX10_insertByMinute_70 fl_X10_65 (by decide) rfl ?_
          try simp (disch := omega) only [mu_s, mu_nf, mu_nc]
          refine x_iconst hg dX10_insertByMinute_73 ?_
          refine x_iadd hg dX10_insertByMinute_74 ?_
          refine x_putI hg dX10_insertByMinute_75 fl_X10_65 ft_10_5 (by decide) rfl ?_
          refine x_vret hg hr dX10_insertByMinute_78 (Nat.le_refl _) (Nat.le_refl _) ?_
          refine ⟨rfl, rfl, rfl, IW_f (IW_a hW (Or.inr (Or.inr (Or.inr ⟨rfl, by omega⟩)))) (Or.inl ⟨rfl, by omega⟩), frW_mu (frW_mu hf (by decide)) (by decide)⟩
        · skip
          refine x_aload_n hg dX10_insertByMinute_41 rfl ?_
          refine x_getR (j9 := 67) hg dX10_insertByMinute_42 fl_X10_21 (by decide) rfl rfl (by decide) ?_
          refine x_iload_n hg dX10_insertByMinute_45 rfl ?_
          refine x_aload_n hg dX10_insertByMinute_46 rfl ?_
          refine x_getR (j9 := 67) hg dX10_insertByMinute_47 fl_X10_21 (by decide) rfl rfl (by decide) ?_
          refine x_iload_n hg dX10_insertByMinute_50 rfl ?_
          refine x_iconst hg dX10_insertByMinute_51 ?_
          refine x_isub hg dX10_insertByMinute_52 ?_
          refine x_iaload (len := 64) hg dX10_insertByMinute_53 (by decide) (by omega) ?_
          refine x_iastore (len := 64) hg dX10_insertByMinute_54 (by decide) (by omega)  ?_
          refine x_iinc (ls' := [(0, _), (1, _), (2, _)]) hg dX10_insertByMinute_55 rfl (by decide) rfl ?_
          refine x_goto (tgt := 15) hg dX10_insertByMinute_58 (by decide) ?_
          have h1 := hw2 (j - 1).toNat (by omega)
          exact ih _ _ (by omega) (by omega) (by omega) (IW_a hW (Or.inr (Or.inr (Or.inr ⟨rfl, by omega⟩)))) (frW_mu hf (by decide)) (by rw [mu_nc (by decide)]; exact h5)
  refine x_aload_n hg dX10_insertByMinute_0 rfl ?_
  refine x_getI hg dX10_insertByMinute_1 fl_X10_65 (by decide) rfl ?_
  refine x_bipush hg dX10_insertByMinute_4 (by decide) ?_
  refine x_icmp_lt (tgt := 10) hg dX10_insertByMinute_6 (by decide) (by omega) (by omega) (fun c6 => ?_) (fun c6 => ?_)
  · skip
    refine x_aload_n hg dX10_insertByMinute_10 rfl ?_
    refine x_getI hg dX10_insertByMinute_11 fl_X10_65 (by decide) rfl ?_
    refine x_istore_n (ls' := [(0, _), (1, _), (2, _)]) hg dX10_insertByMinute_14 rfl (by decide) rfl ?_
    exact loop 65 M0 _ (by omega) (by omega) (by omega) hW (fun a _ => rfl) (by omega)
  · skip
    refine x_vret hg hr dX10_insertByMinute_9 (Nat.le_refl _) (Nat.le_refl _) ?_
    exact ⟨rfl, rfl, rfl, hW, fun a _ => rfl⟩

theorem dX10_gatherStops_0 : decode cX10_gatherStops 0 = .ok (.aload_n 0, 1) := by decide +kernel
theorem dX10_gatherStops_1 : decode cX10_gatherStops 1 = .ok (.iconst 0, 1) := by decide +kernel
theorem dX10_gatherStops_2 : decode cX10_gatherStops 2 = .ok (.putfield 65, 3) := by decide +kernel
theorem dX10_gatherStops_5 : decode cX10_gatherStops 5 = .ok (.iconst 0, 1) := by decide +kernel
theorem dX10_gatherStops_6 : decode cX10_gatherStops 6 = .ok (.istore_n 2, 1) := by decide +kernel
theorem dX10_gatherStops_7 : decode cX10_gatherStops 7 = .ok (.iload_n 2, 1) := by decide +kernel
theorem dX10_gatherStops_8 : decode cX10_gatherStops 8 = .ok (.aload_n 1, 1) := by decide +kernel
theorem dX10_gatherStops_9 : decode cX10_gatherStops 9 = .ok (.getfield 77, 3) := by decide +kernel
theorem dX10_gatherStops_12 : decode cX10_gatherStops 12 = .ok (.if_icmp .ge 75, 3) := by decide +kernel
theorem dX10_gatherStops_15 : decode cX10_gatherStops 15 = .ok (.aload_n 1, 1) := by decide +kernel
theorem dX10_gatherStops_16 : decode cX10_gatherStops 16 = .ok (.getfield 80, 3) := by decide +kernel
theorem dX10_gatherStops_19 : decode cX10_gatherStops 19 = .ok (.iload_n 2, 1) := by decide +kernel
theorem dX10_gatherStops_20 : decode cX10_gatherStops 20 = .ok (.aaload, 1) := by decide +kernel
theorem dX10_gatherStops_21 : decode cX10_gatherStops 21 = .ok (.astore_n 3, 1) := by decide +kernel
theorem dX10_gatherStops_22 : decode cX10_gatherStops 22 = .ok (.iconst 0, 1) := by decide +kernel
theorem dX10_gatherStops_23 : decode cX10_gatherStops 23 = .ok (.istore 4, 2) := by decide +kernel
theorem dX10_gatherStops_25 : decode cX10_gatherStops 25 = .ok (.iload 4, 2) := by decide +kernel
theorem dX10_gatherStops_27 : decode cX10_gatherStops 27 = .ok (.aload_n 3, 1) := by decide +kernel
theorem dX10_gatherStops_28 : decode cX10_gatherStops 28 = .ok (.getfield 84, 3) := by decide +kernel
theorem dX10_gatherStops_31 : decode cX10_gatherStops 31 = .ok (.if_icmp .ge 50, 3) := by decide +kernel
theorem dX10_gatherStops_34 : decode cX10_gatherStops 34 = .ok (.iload_n 2, 1) := by decide +kernel
theorem dX10_gatherStops_35 : decode cX10_gatherStops 35 = .ok (.bipush 8, 2) := by decide +kernel
theorem dX10_gatherStops_37 : decode cX10_gatherStops 37 = .ok (.imul, 1) := by decide +kernel
theorem dX10_gatherStops_38 : decode cX10_gatherStops 38 = .ok (.iload 4, 2) := by decide +kernel
theorem dX10_gatherStops_40 : decode cX10_gatherStops 40 = .ok (.iadd, 1) := by decide +kernel
theorem dX10_gatherStops_41 : decode cX10_gatherStops 41 = .ok (.istore 5, 2) := by decide +kernel
theorem dX10_gatherStops_43 : decode cX10_gatherStops 43 = .ok (.aload_n 0, 1) := by decide +kernel
theorem dX10_gatherStops_44 : decode cX10_gatherStops 44 = .ok (.getfield 11, 3) := by decide +kernel
theorem dX10_gatherStops_47 : decode cX10_gatherStops 47 = .ok (.iload 5, 2) := by decide +kernel
theorem dX10_gatherStops_49 : decode cX10_gatherStops 49 = .ok (.aload_n 3, 1) := by decide +kernel
theorem dX10_gatherStops_50 : decode cX10_gatherStops 50 = .ok (.iload 4, 2) := by decide +kernel
theorem dX10_gatherStops_52 : decode cX10_gatherStops 52 = .ok (.invokevirtual 87, 3) := by decide +kernel
theorem dX10_gatherStops_55 : decode cX10_gatherStops 55 = .ok (.iastore, 1) := by decide +kernel
theorem dX10_gatherStops_56 : decode cX10_gatherStops 56 = .ok (.aload_n 0, 1) := by decide +kernel
theorem dX10_gatherStops_57 : decode cX10_gatherStops 57 = .ok (.getfield 15, 3) := by decide +kernel
theorem dX10_gatherStops_60 : decode cX10_gatherStops 60 = .ok (.iload 5, 2) := by decide +kernel
theorem dX10_gatherStops_62 : decode cX10_gatherStops 62 = .ok (.aload_n 3, 1) := by decide +kernel
theorem dX10_gatherStops_63 : decode cX10_gatherStops 63 = .ok (.iload 4, 2) := by decide +kernel
theorem dX10_gatherStops_65 : decode cX10_gatherStops 65 = .ok (.invokevirtual 40, 3) := by decide +kernel
theorem dX10_gatherStops_68 : decode cX10_gatherStops 68 = .ok (.iastore, 1) := by decide +kernel
theorem dX10_gatherStops_69 : decode cX10_gatherStops 69 = .ok (.aload_n 0, 1) := by decide +kernel
theorem dX10_gatherStops_70 : decode cX10_gatherStops 70 = .ok (.iload 5, 2) := by decide +kernel
theorem dX10_gatherStops_72 : decode cX10_gatherStops 72 = .ok (.invokevirtual 90, 3) := by decide +kernel
theorem dX10_gatherStops_75 : decode cX10_gatherStops 75 = .ok (.iinc 4 1, 3) := by decide +kernel
theorem dX10_gatherStops_78 : decode cX10_gatherStops 78 = .ok (.goto (-53), 3) := by decide +kernel
theorem dX10_gatherStops_81 : decode cX10_gatherStops 81 = .ok (.iinc 2 1, 3) := by decide +kernel
theorem dX10_gatherStops_84 : decode cX10_gatherStops 84 = .ok (.goto (-77), 3) := by decide +kernel
theorem dX10_gatherStops_87 : decode cX10_gatherStops 87 = .ok (.return_, 1) := by decide +kernel
set_option maxHeartbeats 4000000 in
set_option maxRecDepth 20000 in
theorem c_X10_gatherStops (l : Launch) (b : Nat) (D : va_G) (cy : Nat → ClassId) {tt : Nat} {M0 : xMm} {q : Nat} (hW : IW M0) (hI : IR M0) (hq : xTt q) : xC l b D cy yX10_gatherStops cX10_gatherStops 6 none ({ frames := 1, cells := 0, slots := 0, locals := 22 }) [xr 63, xr q] 209 M0 (RS tt) (xPv 209 (RS tt) (fun M' => IW M' ∧ frW M' M0)) := by
  refine x_met (by decide) (Nat.le_of_ble_eq_true rfl) (fun g hg hr he => ?_)
  have hq1 := hI.1 q hq
  refine x_canon (ls' := [(0, _), (1, _)]) rfl ?_
  have inner : ∀ (t : Nat) (ht : xTr t) (j : Int) (hj : 0 ≤ j ∧ j < 8) (cont : ∀ M, IW M → frW M M0 → xW g 209 M (RS tt) 0 0 81 [(0, xr 63), (1, xr q), (2, xi j)] []) (n1 : Nat) (M : xMm) (i : Int), 0 ≤ i → i ≤ M0 t 3 → M0 t 3 - i < n1 → IW M → frW M M0 → xW g 209 M (RS tt) 0 0 25 [(0, xr 63), (1, xr q), (2, xi j), (3, xr t), (4, xi i)] [] := by
    intro t ht j hj cont n1
    induction n1 with
    | zero => intro M i h1 h2 h3; exact absurd h3 (by omega)
    | succ n1 ih =>
      intro M i hi1 hi2 hi3 hW hf
      have hI1 : IR M := IR_W hf hI
      have ht3 := ((hI.2 t ht).1).2.2.1
      have et : M t = M0 t := hf t (by omega)
      have et3 : M t 3 = M0 t 3 := by rw [et]
      refine x_iload hg dX10_gatherStops_25 rfl ?_
      refine x_aload_n hg dX10_gatherStops_27 rfl ?_
      refine x_getI hg dX10_gatherStops_28 fl_X10_84 (oO_train ht) rfl ?_
      refine x_icmp_ge (tgt := 81) hg dX10_gatherStops_31 (by decide) (by omega) (by omega) (fun c31 => ?_) (fun c31 => ?_)
      · skip
        refine x_canon (ls' := [(0, _), (1, _), (2, _)]) rfl ?_
        exact cont M hW hf
      · skip
        refine x_iload_n hg dX10_gatherStops_34 rfl ?_
        refine x_bipush hg dX10_gatherStops_35 (by decide) ?_
        refine x_imul hg dX10_gatherStops_37 ?_
        refine x_iload hg dX10_gatherStops_38 rfl ?_
        refine x_iadd hg dX10_gatherStops_40 ?_
        refine x_istore (ls' := [(0, _), (1, _), (2, _), (3, _), (4, _), (5, _)]) hg dX10_gatherStops_41 (by decide) rfl ?_
        refine x_aload_n hg dX10_gatherStops_43 rfl ?_
        refine x_getR (j9 := 64) hg dX10_gatherStops_44 fl_X10_11 (by decide) rfl rfl (by decide) ?_
        refine x_iload hg dX10_gatherStops_47 rfl ?_
        refine x_aload_n hg dX10_gatherStops_49 rfl ?_
        refine x_iload hg dX10_gatherStops_50 rfl ?_
        refine x_cVi hg he [_] [_, _] dX10_gatherStops_52 mv_X10_87 (c_X9_stationOf l b D cy hI1 ht (by omega)) (oO_train ht) rfl rfl (Nat.le_of_ble_eq_true rfl) (by decide) (by decide) (fun r52 M52 q52 => ?_)
        obtain ⟨h52, e52⟩ := q52
        replace h52 := h52.symm
        subst h52
        refine x_iastore (len := 64) hg dX10_gatherStops_55 (by decide) (by omega)  ?_
        refine x_aload_n hg dX10_gatherStops_56 rfl ?_
        refine x_getR (j9 := 65) hg dX10_gatherStops_57 fl_X10_15 (by decide) rfl rfl (by decide) ?_
        refine x_iload hg dX10_gatherStops_60 rfl ?_
        refine x_aload_n hg dX10_gatherStops_62 rfl ?_
        refine x_iload hg dX10_gatherStops_63 rfl ?_
        refine x_cVi hg he [_] [_, _] dX10_gatherStops_65 mv_X10_40 (c_X9_minuteOf l b D cy (IR_W (frW_mu hf (by decide)) hI) ht (by omega)) (oO_train ht) rfl rfl (Nat.le_of_ble_eq_true rfl) (by decide) (by decide) (fun r65 M65 q65 => ?_)
        obtain ⟨h65, e65⟩ := q65
        replace h65 := h65.symm
        subst h65
        rw [mu_nc (show t ≠ 64 by omega)] at e65
        refine x_iastore (len := 64) hg dX10_gatherStops_68 (by decide) (by omega)  ?_
        refine x_aload_n hg dX10_gatherStops_69 rfl ?_
        refine x_iload hg dX10_gatherStops_70 rfl ?_
        refine x_cVv hg he [_] [] dX10_gatherStops_72 mv_X10_90 (c_X10_insertByMinute l b D cy (IW_a (IW_a hW (Or.inl ⟨rfl, by omega⟩)) (Or.inr (Or.inl ⟨rfl, by omega⟩))) (by omega)) (by decide) rfl rfl (Nat.le_of_ble_eq_true rfl) (by decide) (by decide) (fun M72 q72 => ?_)
        obtain ⟨hW72, hf72⟩ := q72
        refine x_iinc (ls' := [(0, _), (1, _), (2, _), (3, _), (4, _), (5, _)]) hg dX10_gatherStops_75 rfl (by decide) rfl ?_
        refine x_goto (tgt := 25) hg dX10_gatherStops_78 (by decide) ?_
        refine x_canon (ls' := [(0, _), (1, _), (2, _), (3, _), (4, _)]) rfl ?_
        exact ih M72 (i + 1) (by omega) (by omega) (by omega) hW72 (fun a ha => by rw [hf72 a ha]; exact frW_mu (frW_mu hf (by decide)) (by decide) a ha)
  have outer : ∀ (n1 : Nat) (M : xMm) (j : Int), 0 ≤ j → j ≤ M0 q 1 → M0 q 1 - j < n1 → IW M → frW M M0 → xW g 209 M (RS tt) 0 0 7 [(0, xr 63), (1, xr q), (2, xi j)] [] := by
    intro n1
    induction n1 with
    | zero => intro M j h1 h2 h3; exact absurd h3 (by omega)
    | succ n1 ih =>
      intro M j hj1 hj2 hj3 hW hf
      have eq1 : M q 1 = M0 q 1 := by rw [hf q (by omega)]
      refine x_iload_n hg dX10_gatherStops_7 rfl ?_
      refine x_aload_n hg dX10_gatherStops_8 rfl ?_
      refine x_getI hg dX10_gatherStops_9 fl_X10_77 (oO_tt hq) rfl ?_
      refine x_icmp_ge (tgt := 87) hg dX10_gatherStops_12 (by decide) (by omega) (by omega) (fun c12 => ?_) (fun c12 => ?_)
      · skip
        refine x_vret hg hr dX10_gatherStops_87 (Nat.le_refl _) (Nat.le_refl _) ?_
        exact ⟨rfl, rfl, rfl, hW, hf⟩
      · skip
        refine x_aload_n hg dX10_gatherStops_15 rfl ?_
        refine x_getR hg dX10_gatherStops_16 fl_X10_80 (oO_tt hq) rfl (RS_tt hq) (by omega) ?_
        refine x_iload_n hg dX10_gatherStops_19 rfl ?_
        refine x_aaload (len := 8) (et := 4) hg dX10_gatherStops_20 (oA_tt hq) (by decide) (by omega) (RS_trn hq _) (by omega) ?_
        refine x_astore_n (ls' := [(0, _), (1, _), (2, _), (3, _)]) hg dX10_gatherStops_21 rfl (by decide) rfl ?_
        refine x_iconst hg dX10_gatherStops_22 ?_
        refine x_istore (ls' := [(0, _), (1, _), (2, _), (3, _), (4, _)]) hg dX10_gatherStops_23 (by decide) rfl ?_
        refine inner (q + 2 + 3 * j.toNat) (xTr_of hq (by omega)) j (by omega) (fun M1 hW1 hf1 => ?_) 9 M 0 (by omega) ((hI.2 _ (xTr_of hq (by omega))).1.2.2.1.1) (by have h8 := (hI.2 _ (xTr_of hq (show j.toNat < 8 by omega))).1.2.2.1; omega) hW hf
        refine x_iinc (ls' := [(0, _), (1, _), (2, _)]) hg dX10_gatherStops_81 rfl (by decide) rfl ?_
        refine x_goto (tgt := 7) hg dX10_gatherStops_84 (by decide) ?_
        exact ih _ _ (by omega) (by omega) (by omega) hW1 hf1
  refine x_aload_n hg dX10_gatherStops_0 rfl ?_
  refine x_iconst hg dX10_gatherStops_1 ?_
  refine x_putI hg dX10_gatherStops_2 fl_X10_65 ft_10_5 (by decide) rfl ?_
  refine x_iconst hg dX10_gatherStops_5 ?_
  refine x_istore_n (ls' := [(0, _), (1, _), (2, _)]) hg dX10_gatherStops_6 rfl (by decide) rfl ?_
  exact outer 9 _ 0 (by omega) (by omega) (by omega) (IW_f hW (Or.inl ⟨rfl, by decide, by decide⟩)) (frW_mu (fun a _ => rfl) (by decide))
