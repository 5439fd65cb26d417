/-! ===== the loading's own cells ===== -/
def IL (M : xMm) : Prop := ((0 ≤ M 68 6 ∧ M 68 6 ≤ 10) ∧ inR (M 68 7) ∧ inR (M 68 8)) ∧ (∀ c, c < 10 → 0 ≤ M 80 c ∧ M 80 c ≤ 8) ∧ (∀ t, t < 9 → inR (M 81 t) ∧ inL (M 82 t) ∧ (0 ≤ M 83 t ∧ M 83 t ≤ 9)) ∧ ∀ c, c < 10 → ∀ t, t < 9 → inL (M (70 + c) t)
theorem IL_f {M : xMm} (h : IL M) {f : Nat} {z : Int} (hz : f = 6 ∧ (0 ≤ z ∧ z ≤ 10) ∨ (f = 7 ∨ f = 8) ∧ inR z) : IL (mu M 68 f z) := by
  obtain ⟨h1, h2, h3, h4⟩ := h
  refine ⟨?_, fun c hc => by rw [mu_nc (by decide)]; exact h2 c hc, fun t ht => by rw [mu_nc (by decide), mu_nc (by decide), mu_nc (by decide)]; exact h3 t ht, fun c hc t ht => by rw [mu_nc (by omega)]; exact h4 c hc t ht⟩
  rcases hz with ⟨rfl, hz⟩ | ⟨rfl | rfl, hz⟩ <;> simp only [mu_s, mu_nf (show (6 : Nat) ≠ 7 by decide), mu_nf (show (6 : Nat) ≠ 8 by decide), mu_nf (show (7 : Nat) ≠ 6 by decide), mu_nf (show (7 : Nat) ≠ 8 by decide), mu_nf (show (8 : Nat) ≠ 6 by decide), mu_nf (show (8 : Nat) ≠ 7 by decide)] <;> omega
theorem IL_ch {M : xMm} (h : IL M) {i : Nat} {z : Int} (hz : 0 ≤ z ∧ z ≤ 8) : IL (mu M 80 i z) := by
  obtain ⟨h1, h2, h3, h4⟩ := h
  refine ⟨by rw [mu_nc (by decide), mu_nc (by decide), mu_nc (by decide)]; exact h1, fun c hc => ?_, fun t ht => by rw [mu_nc (by decide), mu_nc (by decide), mu_nc (by decide)]; exact h3 t ht, fun c hc t ht => by rw [mu_nc (by omega)]; exact h4 c hc t ht⟩
  by_cases e : c = i
  · subst e; rw [mu_s]; exact hz
  · rw [mu_nf e]; exact h2 c hc
theorem IL_t {M : xMm} (h : IL M) {a i : Nat} {z : Int} (hz : a = 81 ∧ inR z ∨ a = 82 ∧ inL z ∨ a = 83 ∧ (0 ≤ z ∧ z ≤ 9)) : IL (mu M a i z) := by
  obtain ⟨h1, h2, h3, h4⟩ := h
  refine ⟨by rw [mu_nc (by omega), mu_nc (by omega), mu_nc (by omega)]; exact h1, fun c hc => by rw [mu_nc (by omega)]; exact h2 c hc, fun t ht => ?_, fun c hc t ht => by rw [mu_nc (by omega)]; exact h4 c hc t ht⟩
  have h5 := h3 t ht
  by_cases e : t = i
  · subst e
    rcases hz with ⟨rfl, hz⟩ | ⟨rfl, hz⟩ | ⟨rfl, hz⟩ <;> simp only [mu_s, mu_nc (show (81 : Nat) ≠ 82 by decide), mu_nc (show (81 : Nat) ≠ 83 by decide), mu_nc (show (82 : Nat) ≠ 81 by decide), mu_nc (show (82 : Nat) ≠ 83 by decide), mu_nc (show (83 : Nat) ≠ 81 by decide), mu_nc (show (83 : Nat) ≠ 82 by decide)] <;> omega
  · rw [mu_nf e, mu_nf e, mu_nf e]; exact h5
theorem IL_row {M : xMm} (h : IL M) {k i : Nat} {z : Int} (hk : k < 10) (hz : inL z) : IL (mu M (70 + k) i z) := by
  obtain ⟨h1, h2, h3, h4⟩ := h
  refine ⟨by rw [mu_nc (by omega), mu_nc (by omega), mu_nc (by omega)]; exact h1, fun c hc => by rw [mu_nc (by omega)]; exact h2 c hc, fun t ht => by rw [mu_nc (by omega), mu_nc (by omega), mu_nc (by omega)]; exact h3 t ht, fun c hc t ht => ?_⟩
  by_cases e : 70 + c = 70 + k ∧ t = i
  · obtain ⟨e1, rfl⟩ := e
    rw [e1, mu_s]; exact hz
  · rw [mu_n e]; exact h4 c hc t ht
abbrev frL (M' M : xMm) : Prop := ∀ a, a < 68 ∨ 83 < a → M' a = M a
theorem frL_mu {M' M : xMm} (h : frL M' M) {a k : Nat} {z : Int} (ha : 68 ≤ a ∧ a ≤ 83) : frL (mu M' a k z) M := fun c hc => by
  rw [← h c hc]
  funext j
  exact mu_nc (by omega)
theorem frL_tr {M2 M1 M : xMm} (h1 : frL M2 M1) (h : frL M1 M) : frL M2 M := fun a ha => by rw [h1 a ha, h a ha]
theorem IC_L {M' M : xMm} (h : frL M' M) (hI : IC M) : IC M' := IC_congr hI (fun a h1 h2 => h a (by omega))
theorem IR_L {M' M : xMm} (h : frL M' M) (hI : IR M) : IR M' := IR_congr hI (fun a h1 h2 => h a (by omega))
/-- the churns -/
def pChs (M : xMm) : Prop := ∀ c, c < 10 → pCh M (85 + c) ∧ inR (M (85 + c) 3)
theorem pChs_L {M' M : xMm} (h : frL M' M) (hI : pChs M) : pChs M' := fun c hc => by
  have h1 := hI c hc
  rw [pCh, h (85 + c) (by omega)]
  exact h1

theorem dX4_trainOf_0 : decode cX4_trainOf 0 = .ok (.iload_n 1, 1) := by decide +kernel
theorem dX4_trainOf_1 : decode cX4_trainOf 1 = .ok (.ifCond .lt 22, 3) := by decide +kernel
theorem dX4_trainOf_4 : decode cX4_trainOf 4 = .ok (.iload_n 1, 1) := by decide +kernel
theorem dX4_trainOf_5 : decode cX4_trainOf 5 = .ok (.aload_n 0, 1) := by decide +kernel
theorem dX4_trainOf_6 : decode cX4_trainOf 6 = .ok (.getfield 34, 3) := by decide +kernel
theorem dX4_trainOf_9 : decode cX4_trainOf 9 = .ok (.if_icmp .ge 14, 3) := by decide +kernel
theorem dX4_trainOf_12 : decode cX4_trainOf 12 = .ok (.aload_n 0, 1) := by decide +kernel
theorem dX4_trainOf_13 : decode cX4_trainOf 13 = .ok (.getfield 16, 3) := by decide +kernel
theorem dX4_trainOf_16 : decode cX4_trainOf 16 = .ok (.iload_n 1, 1) := by decide +kernel
theorem dX4_trainOf_17 : decode cX4_trainOf 17 = .ok (.iaload, 1) := by decide +kernel
theorem dX4_trainOf_18 : decode cX4_trainOf 18 = .ok (.bipush 8, 2) := by decide +kernel
theorem dX4_trainOf_20 : decode cX4_trainOf 20 = .ok (.if_icmp .ne 5, 3) := by decide +kernel
theorem dX4_trainOf_23 : decode cX4_trainOf 23 = .ok (.iconst (-1), 1) := by decide +kernel
theorem dX4_trainOf_24 : decode cX4_trainOf 24 = .ok (.ireturn, 1) := by decide +kernel
theorem dX4_trainOf_25 : decode cX4_trainOf 25 = .ok (.aload_n 0, 1) := by decide +kernel
theorem dX4_trainOf_26 : decode cX4_trainOf 26 = .ok (.getfield 16, 3) := by decide +kernel
theorem dX4_trainOf_29 : decode cX4_trainOf 29 = .ok (.iload_n 1, 1) := by decide +kernel
theorem dX4_trainOf_30 : decode cX4_trainOf 30 = .ok (.iaload, 1) := by decide +kernel
theorem dX4_trainOf_31 : decode cX4_trainOf 31 = .ok (.ireturn, 1) := by decide +kernel
set_option maxHeartbeats 4000000 in
set_option maxRecDepth 20000 in
theorem c_X4_trainOf (l : Launch) (b : Nat) (D : va_G) (cy : Nat → ClassId) {tt : Nat} {M : xMm} {z : Int} (hL : IL M) (hz : inR z) : xC l b D cy yX4_trainOf cX4_trainOf 2 (some .int) ({ frames := 0, cells := 0, slots := 0, locals := 0 }) [xr 68, xi z] 209 M (RS tt) (xPi 209 (RS tt) (fun r M' => M' = M)) := by
  refine x_met (by decide) (Nat.le_of_ble_eq_true rfl) (fun g hg hr he => ?_)
  obtain ⟨hl1, hl2, hl3, hl4⟩ := id hL
  refine x_canon (ls' := [(0, _), (1, _)]) rfl ?_
  refine x_iload_n hg dX4_trainOf_0 rfl ?_
  refine x_if_lt (tgt := 23) hg dX4_trainOf_1 (by decide) (by omega) (fun c1 => ?_) (fun c1 => ?_)
  · skip
    refine x_iconst hg dX4_trainOf_23 ?_
    refine x_iret hg hr (Or.inl rfl) dX4_trainOf_24 (Nat.le_refl _) (Nat.le_refl _) ?_
    exact ⟨rfl, rfl, _, rfl, rfl⟩
  · skip
    refine x_iload_n hg dX4_trainOf_4 rfl ?_
    refine x_aload_n hg dX4_trainOf_5 rfl ?_
    refine x_getI hg dX4_trainOf_6 fl_X4_34 (by decide) rfl ?_
    refine x_icmp_ge (tgt := 23) hg dX4_trainOf_9 (by decide) (by omega) (by omega) (fun c9 => ?_) (fun c9 => ?_)
    · skip
      refine x_iconst hg dX4_trainOf_23 ?_
      refine x_iret hg hr (Or.inl rfl) dX4_trainOf_24 (Nat.le_refl _) (Nat.le_refl _) ?_
      exact ⟨rfl, rfl, _, rfl, rfl⟩
    · skip
      refine x_aload_n hg dX4_trainOf_12 rfl ?_
      refine x_getR (j9 := 80) hg dX4_trainOf_13 fl_X4_16 (by decide) rfl rfl (by decide) ?_
      refine x_iload_n hg dX4_trainOf_16 rfl ?_
      refine x_iaload (len := 10) hg dX4_trainOf_17 (by decide) (by omega) ?_
      refine x_bipush hg dX4_trainOf_18 (by decide) ?_
      refine x_icmp_ne (tgt := 25) hg dX4_trainOf_20 (by decide) (by have h1 := hl2 z.toNat (by omega); omega) (by omega) (fun c20 => ?_) (fun c20 => ?_)
      · skip
        refine x_aload_n hg dX4_trainOf_25 rfl ?_
        refine x_getR (j9 := 80) hg dX4_trainOf_26 fl_X4_16 (by decide) rfl rfl (by decide) ?_
        refine x_iload_n hg dX4_trainOf_29 rfl ?_
        refine x_iaload (len := 10) hg dX4_trainOf_30 (by decide) (by omega) ?_
        refine x_iret hg hr (Or.inl rfl) dX4_trainOf_31 (Nat.le_refl _) (Nat.le_refl _) ?_
        exact ⟨rfl, rfl, _, rfl, rfl⟩
      · skip
        refine x_iconst hg dX4_trainOf_23 ?_
        refine x_iret hg hr (Or.inl rfl) dX4_trainOf_24 (Nat.le_refl _) (Nat.le_refl _) ?_
        exact ⟨rfl, rfl, _, rfl, rfl⟩

theorem dX4_makeRoom_0 : decode cX4_makeRoom 0 = .ok (.iconst 0, 1) := by decide +kernel
theorem dX4_makeRoom_1 : decode cX4_makeRoom 1 = .ok (.istore_n 2, 1) := by decide +kernel
theorem dX4_makeRoom_2 : decode cX4_makeRoom 2 = .ok (.iload_n 2, 1) := by decide +kernel
theorem dX4_makeRoom_3 : decode cX4_makeRoom 3 = .ok (.bipush 8, 2) := by decide +kernel
theorem dX4_makeRoom_5 : decode cX4_makeRoom 5 = .ok (.if_icmp .ge 36, 3) := by decide +kernel
theorem dX4_makeRoom_8 : decode cX4_makeRoom 8 = .ok (.aload_n 0, 1) := by decide +kernel
theorem dX4_makeRoom_9 : decode cX4_makeRoom 9 = .ok (.getfield 20, 3) := by decide +kernel
theorem dX4_makeRoom_12 : decode cX4_makeRoom 12 = .ok (.iload_n 2, 1) := by decide +kernel
theorem dX4_makeRoom_13 : decode cX4_makeRoom 13 = .ok (.aload_n 1, 1) := by decide +kernel
theorem dX4_makeRoom_14 : decode cX4_makeRoom 14 = .ok (.iload_n 2, 1) := by decide +kernel
theorem dX4_makeRoom_15 : decode cX4_makeRoom 15 = .ok (.invokevirtual 71, 3) := by decide +kernel
theorem dX4_makeRoom_18 : decode cX4_makeRoom 18 = .ok (.ifCond .eq 15, 3) := by decide +kernel
theorem dX4_makeRoom_21 : decode cX4_makeRoom 21 = .ok (.aload_n 1, 1) := by decide +kernel
theorem dX4_makeRoom_22 : decode cX4_makeRoom 22 = .ok (.getfield 77, 3) := by decide +kernel
theorem dX4_makeRoom_25 : decode cX4_makeRoom 25 = .ok (.iload_n 2, 1) := by decide +kernel
theorem dX4_makeRoom_26 : decode cX4_makeRoom 26 = .ok (.aaload, 1) := by decide +kernel
theorem dX4_makeRoom_27 : decode cX4_makeRoom 27 = .ok (.getfield 81, 3) := by decide +kernel
theorem dX4_makeRoom_30 : decode cX4_makeRoom 30 = .ok (.goto 4, 3) := by decide +kernel
theorem dX4_makeRoom_33 : decode cX4_makeRoom 33 = .ok (.iconst 0, 1) := by decide +kernel
theorem dX4_makeRoom_34 : decode cX4_makeRoom 34 = .ok (.iastore, 1) := by decide +kernel
theorem dX4_makeRoom_35 : decode cX4_makeRoom 35 = .ok (.iinc 2 1, 3) := by decide +kernel
theorem dX4_makeRoom_38 : decode cX4_makeRoom 38 = .ok (.goto (-36), 3) := by decide +kernel
theorem dX4_makeRoom_41 : decode cX4_makeRoom 41 = .ok (.aload_n 0, 1) := by decide +kernel
theorem dX4_makeRoom_42 : decode cX4_makeRoom 42 = .ok (.getfield 20, 3) := by decide +kernel
theorem dX4_makeRoom_45 : decode cX4_makeRoom 45 = .ok (.bipush 8, 2) := by decide +kernel
theorem dX4_makeRoom_47 : decode cX4_makeRoom 47 = .ok (.bipush 10, 2) := by decide +kernel
theorem dX4_makeRoom_49 : decode cX4_makeRoom 49 = .ok (.iastore, 1) := by decide +kernel
theorem dX4_makeRoom_50 : decode cX4_makeRoom 50 = .ok (.return_, 1) := by decide +kernel
set_option maxHeartbeats 4000000 in
set_option maxRecDepth 20000 in
theorem c_X4_makeRoom (l : Launch) (b : Nat) (D : va_G) (cy : Nat → ClassId) {tt : Nat} {M0 : xMm} {q : Nat} (hL : IL M0) (hI : IR M0) (hq : xTt q) : xC l b D cy yX4_makeRoom cX4_makeRoom 3 none ({ frames := 1, cells := 0, slots := 0, locals := 21 }) [xr 68, xr q] 209 M0 (RS tt) (xPv 209 (RS tt) (fun M' => IL M' ∧ frL M' M0)) := by
  refine x_met (by decide) (Nat.le_of_ble_eq_true rfl) (fun g hg hr he => ?_)
  refine x_canon (ls' := [(0, _), (1, _)]) rfl ?_
  have loop : ∀ (n1 : Nat) (M : xMm) (i : Int), 0 ≤ i → i ≤ 8 → 8 - i < n1 → IL M → frL M M0 → xW g 209 M (RS tt) 0 0 2 [(0, xr 68), (1, xr q), (2, xi i)] [] := by
    intro n1
    induction n1 with
    | zero => intro M i hi1 hi2 hi3 hL hf; exfalso; omega
    | succ n1 ih =>
      intro M i hi1 hi2 hi3 hL hf
      obtain ⟨hl1, hl2, hl3, hl4⟩ := id hL
      have j34 : i < 8 → ∀ p : Int, inR p → xW g 209 M (RS tt) 0 0 34 [(0, xr 68), (1, xr q), (2, xi i)] [xi p, xi i, xr 81] := by
        intro hi8 p hp
        refine x_iastore (len := 9) hg dX4_makeRoom_34 (by decide) (by omega)  ?_
        refine x_iinc (ls' := [(0, _), (1, _), (2, _)]) hg dX4_makeRoom_35 rfl (by decide) rfl ?_
        refine x_goto (tgt := 2) hg dX4_makeRoom_38 (by decide) ?_
        exact ih _ _ (by omega) (by omega) (by omega) (IL_t hL (Or.inl ⟨rfl, hp⟩)) (frL_mu hf (by decide))
      have eq1 := (IR_L hf hI).1 q hq
      refine x_iload_n hg dX4_makeRoom_2 rfl ?_
      refine x_bipush hg dX4_makeRoom_3 (by decide) ?_
      refine x_icmp_ge (tgt := 41) hg dX4_makeRoom_5 (by decide) (by omega) (by omega) (fun c5 => ?_) (fun c5 => ?_)
      · skip
        refine x_aload_n hg dX4_makeRoom_41 rfl ?_
        refine x_getR (j9 := 81) hg dX4_makeRoom_42 fl_X4_20 (by decide) rfl rfl (by decide) ?_
        refine x_bipush hg dX4_makeRoom_45 (by decide) ?_
        refine x_bipush hg dX4_makeRoom_47 (by decide) ?_
        refine x_iastore (len := 9) hg dX4_makeRoom_49 (by decide) (by omega)  ?_
        refine x_vret hg hr dX4_makeRoom_50 (Nat.le_refl _) (Nat.le_refl _) ?_
        exact ⟨rfl, rfl, rfl, IL_t hL (Or.inl ⟨rfl, by decide⟩), frL_mu hf (by decide)⟩
      · skip
        refine x_aload_n hg dX4_makeRoom_8 rfl ?_
        refine x_getR (j9 := 81) hg dX4_makeRoom_9 fl_X4_20 (by decide) rfl rfl (by decide) ?_
        refine x_iload_n hg dX4_makeRoom_12 rfl ?_
        refine x_aload_n hg dX4_makeRoom_13 rfl ?_
        refine x_iload_n hg dX4_makeRoom_14 rfl ?_
        refine x_cVi hg he [_] [_, _] dX4_makeRoom_15 mv_X4_71 (c_X8_has l b D cy (IR_L hf hI) hq (by omega)) (oO_tt hq) rfl rfl (Nat.le_of_ble_eq_true rfl) (by decide) (by decide) (fun r15 M15 q15 => ?_)
        obtain ⟨h15, e15⟩ := q15
        replace h15 := h15.symm
        subst h15
        refine x_if_eq (tgt := 33) hg dX4_makeRoom_18 (by decide) (by omega) (fun c18 => ?_) (fun c18 => ?_)
        · skip
          refine x_iconst hg dX4_makeRoom_33 ?_
          exact j34 (by omega) _ (by omega)
        · skip
          refine x_aload_n hg dX4_makeRoom_21 rfl ?_
          refine x_getR hg dX4_makeRoom_22 fl_X4_77 (oO_tt hq) rfl (RS_tt hq) (by omega) ?_
          refine x_iload_n hg dX4_makeRoom_25 rfl ?_
          refine x_aaload (len := 8) (et := 4) hg dX4_makeRoom_26 (oA_tt hq) (by decide) (by omega) (RS_trn hq _) (by omega) ?_
          refine x_getI hg dX4_makeRoom_27 fl_X4_81 (oO_train (xTr_of hq (by omega))) rfl ?_
          have h27 := ((IR_L hf hI).2 _ (xTr_of hq (show i.toNat < 8 by omega))).1
          refine x_goto (tgt := 34) hg dX4_makeRoom_30 (by decide) ?_
          exact j34 (by omega) _ (by omega)
  refine x_iconst hg dX4_makeRoom_0 ?_
  refine x_istore_n (ls' := [(0, _), (1, _), (2, _)]) hg dX4_makeRoom_1 rfl (by decide) rfl ?_
  exact loop 9 M0 0 (by omega) (by omega) (by omega) hL (fun a _ => rfl)

theorem dX4_setCosts_0 : decode cX4_setCosts 0 = .ok (.iconst 0, 1) := by decide +kernel
theorem dX4_setCosts_1 : decode cX4_setCosts 1 = .ok (.istore 5, 2) := by decide +kernel
theorem dX4_setCosts_3 : decode cX4_setCosts 3 = .ok (.iload 5, 2) := by decide +kernel
theorem dX4_setCosts_5 : decode cX4_setCosts 5 = .ok (.bipush 8, 2) := by decide +kernel
theorem dX4_setCosts_7 : decode cX4_setCosts 7 = .ok (.if_icmp .ge 81, 3) := by decide +kernel
theorem dX4_setCosts_10 : decode cX4_setCosts 10 = .ok (.aload_n 3, 1) := by decide +kernel
theorem dX4_setCosts_11 : decode cX4_setCosts 11 = .ok (.iload 5, 2) := by decide +kernel
theorem dX4_setCosts_13 : decode cX4_setCosts 13 = .ok (.invokevirtual 71, 3) := by decide +kernel
theorem dX4_setCosts_16 : decode cX4_setCosts 16 = .ok (.ifCond .eq 21, 3) := by decide +kernel
theorem dX4_setCosts_19 : decode cX4_setCosts 19 = .ok (.aload_n 0, 1) := by decide +kernel
theorem dX4_setCosts_20 : decode cX4_setCosts 20 = .ok (.getfield 30, 3) := by decide +kernel
theorem dX4_setCosts_23 : decode cX4_setCosts 23 = .ok (.aload_n 2, 1) := by decide +kernel
theorem dX4_setCosts_24 : decode cX4_setCosts 24 = .ok (.aload_n 3, 1) := by decide +kernel
theorem dX4_setCosts_25 : decode cX4_setCosts 25 = .ok (.getfield 77, 3) := by decide +kernel
theorem dX4_setCosts_28 : decode cX4_setCosts 28 = .ok (.iload 5, 2) := by decide +kernel
theorem dX4_setCosts_30 : decode cX4_setCosts 30 = .ok (.aaload, 1) := by decide +kernel
theorem dX4_setCosts_31 : decode cX4_setCosts 31 = .ok (.invokevirtual 86, 3) := by decide +kernel
theorem dX4_setCosts_34 : decode cX4_setCosts 34 = .ok (.goto 4, 3) := by decide +kernel
theorem dX4_setCosts_37 : decode cX4_setCosts 37 = .ok (.iconst (-1), 1) := by decide +kernel
theorem dX4_setCosts_38 : decode cX4_setCosts 38 = .ok (.istore 6, 2) := by decide +kernel
theorem dX4_setCosts_40 : decode cX4_setCosts 40 = .ok (.iload 6, 2) := by decide +kernel
theorem dX4_setCosts_42 : decode cX4_setCosts 42 = .ok (.iconst (-1), 1) := by decide +kernel
theorem dX4_setCosts_43 : decode cX4_setCosts 43 = .ok (.if_icmp .eq 14, 3) := by decide +kernel
theorem dX4_setCosts_46 : decode cX4_setCosts 46 = .ok (.iload 6, 2) := by decide +kernel
theorem dX4_setCosts_48 : decode cX4_setCosts 48 = .ok (.iload 4, 2) := by decide +kernel
theorem dX4_setCosts_50 : decode cX4_setCosts 50 = .ok (.if_icmp .ge 7, 3) := by decide +kernel
theorem dX4_setCosts_53 : decode cX4_setCosts 53 = .ok (.iconst 1, 1) := by decide +kernel
theorem dX4_setCosts_54 : decode cX4_setCosts 54 = .ok (.goto 4, 3) := by decide +kernel
theorem dX4_setCosts_57 : decode cX4_setCosts 57 = .ok (.iconst 0, 1) := by decide +kernel
theorem dX4_setCosts_58 : decode cX4_setCosts 58 = .ok (.istore 7, 2) := by decide +kernel
theorem dX4_setCosts_60 : decode cX4_setCosts 60 = .ok (.aload_n 1, 1) := by decide +kernel
theorem dX4_setCosts_61 : decode cX4_setCosts 61 = .ok (.iload 5, 2) := by decide +kernel
theorem dX4_setCosts_63 : decode cX4_setCosts 63 = .ok (.iload 7, 2) := by decide +kernel
theorem dX4_setCosts_65 : decode cX4_setCosts 65 = .ok (.ifCond .eq 13, 3) := by decide +kernel
theorem dX4_setCosts_68 : decode cX4_setCosts 68 = .ok (.iload 6, 2) := by decide +kernel
theorem dX4_setCosts_70 : decode cX4_setCosts 70 = .ok (.i2l, 1) := by decide +kernel
theorem dX4_setCosts_71 : decode cX4_setCosts 71 = .ok (.ldc2_w 92, 3) := by decide +kernel
theorem dX4_setCosts_74 : decode cX4_setCosts 74 = .ok (.lmul, 1) := by decide +kernel
theorem dX4_setCosts_75 : decode cX4_setCosts 75 = .ok (.goto 6, 3) := by decide +kernel
theorem dX4_setCosts_78 : decode cX4_setCosts 78 = .ok (.ldc2_w 94, 3) := by decide +kernel
theorem dX4_setCosts_81 : decode cX4_setCosts 81 = .ok (.lastore, 1) := by decide +kernel
theorem dX4_setCosts_82 : decode cX4_setCosts 82 = .ok (.iinc 5 1, 3) := by decide +kernel
theorem dX4_setCosts_85 : decode cX4_setCosts 85 = .ok (.goto (-82), 3) := by decide +kernel
theorem dX4_setCosts_88 : decode cX4_setCosts 88 = .ok (.aload_n 1, 1) := by decide +kernel
theorem dX4_setCosts_89 : decode cX4_setCosts 89 = .ok (.bipush 8, 2) := by decide +kernel
theorem dX4_setCosts_91 : decode cX4_setCosts 91 = .ok (.aload_n 2, 1) := by decide +kernel
theorem dX4_setCosts_92 : decode cX4_setCosts 92 = .ok (.getfield 96, 3) := by decide +kernel
theorem dX4_setCosts_95 : decode cX4_setCosts 95 = .ok (.i2l, 1) := by decide +kernel
theorem dX4_setCosts_96 : decode cX4_setCosts 96 = .ok (.ldc2_w 101, 3) := by decide +kernel
theorem dX4_setCosts_99 : decode cX4_setCosts 99 = .ok (.lmul, 1) := by decide +kernel
theorem dX4_setCosts_100 : decode cX4_setCosts 100 = .ok (.lastore, 1) := by decide +kernel
theorem dX4_setCosts_101 : decode cX4_setCosts 101 = .ok (.return_, 1) := by decide +kernel
set_option maxHeartbeats 4000000 in
set_option maxRecDepth 20000 in
theorem c_X4_setCosts (l : Launch) (b : Nat) (D : va_G) (cy : Nat → ClassId) {tt : Nat} {M0 : xMm} {k c q : Nat} {y : Int} (hL : IL M0) (hC : IC M0) (hI : IR M0) (hk : k < 10) (hc : pCh M0 c) (hc3 : inR (M0 c 3)) (hcc : 83 < c) (hq : xTt q) (hy : inR y) : xC l b D cy yX4_setCosts cX4_setCosts 8 none ({ frames := 3, cells := 0, slots := 0, locals := 73 }) [xr 68, xr (70 + k), xr c, xr q, xi y] 209 M0 (RS tt) (xPv 209 (RS tt) (fun M' => IL M' ∧ frL M' M0)) := by
  refine x_met (by decide) (Nat.le_of_ble_eq_true rfl) (fun g hg hr he => ?_)
  refine x_canon (ls' := [(0, _), (1, _), (2, _), (3, _), (4, _)]) rfl ?_
  have loop : ∀ (n1 : Nat) (M : xMm) (i : Int), 0 ≤ i → i ≤ 8 → 8 - i < n1 → IL M → frL M M0 → xW g 209 M (RS tt) 0 0 3 [(0, xr 68), (1, xr (70 + k)), (2, xr c), (3, xr q), (4, xi y), (5, xi i)] [] := by
    intro n1
    induction n1 with
    | zero => intro M i hi1 hi2 hi3 hL hf; exfalso; omega
    | succ n1 ih =>
      intro M i hi1 hi2 hi3 hL hf
      obtain ⟨hl1, hl2, hl3, hl4⟩ := id hL
      have j81 : i < 8 → ∀ p a e : Int, inL p → xW g 209 M (RS tt) 0 0 81 [(0, xr 68), (1, xr (70 + k)), (2, xr c), (3, xr q), (4, xi y), (5, xi i), (6, xi a), (7, xi e)] [xl p, xi i, xr (70 + k)] := by
        intro hi8 p a e hp
        refine x_lastore (len := 9) hg dX4_setCosts_81 (oA_row hk) (by omega)  ?_
        refine x_iinc (ls' := [(0, _), (1, _), (2, _), (3, _), (4, _), (5, _), (6, _), (7, _)]) hg dX4_setCosts_82 rfl (by decide) rfl ?_
        refine x_goto (tgt := 3) hg dX4_setCosts_85 (by decide) ?_
        refine x_canon (ls' := [(0, _), (1, _), (2, _), (3, _), (4, _), (5, _)]) rfl ?_
        exact ih _ _ (by omega) (by omega) (by omega) (IL_row hL hk hp) (frL_mu hf (by omega))
      have j58 : i < 8 → ∀ a p : Int, inR a → inR p → xW g 209 M (RS tt) 0 0 58 [(0, xr 68), (1, xr (70 + k)), (2, xr c), (3, xr q), (4, xi y), (5, xi i), (6, xi a)] [xi p] := by
        intro hi8 a p ha hp
        refine x_istore (ls' := [(0, _), (1, _), (2, _), (3, _), (4, _), (5, _), (6, _), (7, _)]) hg dX4_setCosts_58 (by decide) rfl ?_
        refine x_aload_n hg dX4_setCosts_60 rfl ?_
        refine x_iload hg dX4_setCosts_61 rfl ?_
        refine x_iload hg dX4_setCosts_63 rfl ?_
        refine x_if_eq (tgt := 78) hg dX4_setCosts_65 (by decide) (by omega) (fun c65 => ?_) (fun c65 => ?_)
        · skip
          refine x_ldc2 hg 9223372036854775807 dX4_setCosts_78 (List.mem_of_getElem? (i := 699) (by decide +kernel)) ?_
          refine x_wrapl (fun a81 h81 => ?_)
          exact j81 hi8 _ _ _ h81
        · skip
          refine x_iload hg dX4_setCosts_68 rfl ?_
          refine x_i2l hg dX4_setCosts_70 (by omega) ?_
          refine x_ldc2 hg 3486784401 dX4_setCosts_71 (List.mem_of_getElem? (i := 698) (by decide +kernel)) ?_
          refine x_lmul hg dX4_setCosts_74 ?_
          refine x_goto (tgt := 81) hg dX4_setCosts_75 (by decide) ?_
          refine x_wrapl (fun a81 h81 => ?_)
          exact j81 hi8 _ _ _ h81
      have j38 : i < 8 → ∀ p : Int, inR p → xW g 209 M (RS tt) 0 0 38 [(0, xr 68), (1, xr (70 + k)), (2, xr c), (3, xr q), (4, xi y), (5, xi i)] [xi p] := by
        intro hi8 p hp
        refine x_istore (ls' := [(0, _), (1, _), (2, _), (3, _), (4, _), (5, _), (6, _)]) hg dX4_setCosts_38 (by decide) rfl ?_
        refine x_iload hg dX4_setCosts_40 rfl ?_
        refine x_iconst hg dX4_setCosts_42 ?_
        refine x_icmp_eq (tgt := 57) hg dX4_setCosts_43 (by decide) (by omega) (by omega) (fun c43 => ?_) (fun c43 => ?_)
        · skip
          refine x_iconst hg dX4_setCosts_57 ?_
          exact j58 hi8 _ _ (by omega) (by omega)
        · skip
          refine x_iload hg dX4_setCosts_46 rfl ?_
          refine x_iload hg dX4_setCosts_48 rfl ?_
          refine x_icmp_ge (tgt := 57) hg dX4_setCosts_50 (by decide) (by omega) (by omega) (fun c50 => ?_) (fun c50 => ?_)
          · skip
            refine x_iconst hg dX4_setCosts_57 ?_
            exact j58 hi8 _ _ (by omega) (by omega)
          · skip
            refine x_iconst hg dX4_setCosts_53 ?_
            refine x_goto (tgt := 58) hg dX4_setCosts_54 (by decide) ?_
            exact j58 hi8 _ _ (by omega) (by omega)
      have eq1 := (IR_L hf hI).1 q hq
      have hcM : pCh M c := by rw [pCh, hf c (by omega)]; exact hc
      have hc3M : inR (M c 3) := by rw [hf c (by omega)]; exact hc3
      refine x_iload hg dX4_setCosts_3 rfl ?_
      refine x_bipush hg dX4_setCosts_5 (by decide) ?_
      refine x_icmp_ge (tgt := 88) hg dX4_setCosts_7 (by decide) (by omega) (by omega) (fun c7 => ?_) (fun c7 => ?_)
      · skip
        refine x_aload_n hg dX4_setCosts_88 rfl ?_
        refine x_bipush hg dX4_setCosts_89 (by decide) ?_
        refine x_aload_n hg dX4_setCosts_91 rfl ?_
        refine x_getI hg dX4_setCosts_92 fl_X4_96 hcM.1 rfl ?_
        refine x_i2l hg dX4_setCosts_95 (by omega) ?_
        refine x_ldc2 hg 2425410716120001 dX4_setCosts_96 (List.mem_of_getElem? (i := 700) (by decide +kernel)) ?_
        refine x_lmul hg dX4_setCosts_99 ?_
        refine x_wrapl (fun a100 h100 => ?_)
        refine x_lastore (len := 9) hg dX4_setCosts_100 (oA_row hk) (by omega)  ?_
        refine x_vret hg hr dX4_setCosts_101 (Nat.le_refl _) (Nat.le_refl _) ?_
        exact ⟨rfl, rfl, rfl, IL_row hL hk h100, frL_mu hf (by omega)⟩
      · skip
        refine x_aload_n hg dX4_setCosts_10 rfl ?_
        refine x_iload hg dX4_setCosts_11 rfl ?_
        refine x_cVi hg he [_] [] dX4_setCosts_13 mv_X4_71 (c_X8_has l b D cy (IR_L hf hI) hq (by omega)) (oO_tt hq) rfl rfl (Nat.le_of_ble_eq_true rfl) (by decide) (by decide) (fun r13 M13 q13 => ?_)
        obtain ⟨h13, e13⟩ := q13
        replace h13 := h13.symm
        subst h13
        refine x_if_eq (tgt := 37) hg dX4_setCosts_16 (by decide) (by omega) (fun c16 => ?_) (fun c16 => ?_)
        · skip
          refine x_iconst hg dX4_setCosts_37 ?_
          exact j38 (by omega) _ (by omega)
        · skip
          refine x_aload_n hg dX4_setCosts_19 rfl ?_
          refine x_getR (j9 := 63) hg dX4_setCosts_20 fl_X4_30 (by decide) rfl rfl (by decide) ?_
          refine x_aload_n hg dX4_setCosts_23 rfl ?_
          refine x_aload_n hg dX4_setCosts_24 rfl ?_
          refine x_getR hg dX4_setCosts_25 fl_X4_77 (oO_tt hq) rfl (RS_tt hq) (by omega) ?_
          refine x_iload hg dX4_setCosts_28 rfl ?_
          refine x_aaload (len := 8) (et := 4) hg dX4_setCosts_30 (oA_tt hq) (by decide) (by omega) (RS_trn hq _) (by omega) ?_
          refine x_cVi hg he [_, _] [] dX4_setCosts_31 mv_X4_86 (c_X10_direct l b D cy (IC_L hf hC) (IR_L hf hI) hcM (xTr_of hq (by omega))) (by decide) rfl rfl (Nat.le_of_ble_eq_true rfl) (by decide) (by decide) (fun r31 M31 q31 => ?_)
          obtain ⟨h31, e31⟩ := q31
          replace h31 := h31.symm
          subst h31
          refine x_goto (tgt := 38) hg dX4_setCosts_34 (by decide) ?_
          exact j38 (by omega) _ (by omega)
  refine x_iconst hg dX4_setCosts_0 ?_
  refine x_istore (ls' := [(0, _), (1, _), (2, _), (3, _), (4, _), (5, _)]) hg dX4_setCosts_1 (by decide) rfl ?_
  exact loop 9 M0 0 (by omega) (by omega) (by omega) hL (fun a _ => rfl)

theorem dX4_addDigits_0 : decode cX4_addDigits 0 = .ok (.iconst 0, 1) := by decide +kernel
theorem dX4_addDigits_1 : decode cX4_addDigits 1 = .ok (.istore 4, 2) := by decide +kernel
theorem dX4_addDigits_3 : decode cX4_addDigits 3 = .ok (.iload 4, 2) := by decide +kernel
theorem dX4_addDigits_5 : decode cX4_addDigits 5 = .ok (.bipush 9, 2) := by decide +kernel
theorem dX4_addDigits_7 : decode cX4_addDigits 7 = .ok (.if_icmp .ge 32, 3) := by decide +kernel
theorem dX4_addDigits_10 : decode cX4_addDigits 10 = .ok (.aload_n 1, 1) := by decide +kernel
theorem dX4_addDigits_11 : decode cX4_addDigits 11 = .ok (.iload 4, 2) := by decide +kernel
theorem dX4_addDigits_13 : decode cX4_addDigits 13 = .ok (.laload, 1) := by decide +kernel
theorem dX4_addDigits_14 : decode cX4_addDigits 14 = .ok (.ldc2_w 94, 3) := by decide +kernel
theorem dX4_addDigits_17 : decode cX4_addDigits 17 = .ok (.lcmp, 1) := by decide +kernel
theorem dX4_addDigits_18 : decode cX4_addDigits 18 = .ok (.ifCond .eq 15, 3) := by decide +kernel
theorem dX4_addDigits_21 : decode cX4_addDigits 21 = .ok (.aload_n 1, 1) := by decide +kernel
theorem dX4_addDigits_22 : decode cX4_addDigits 22 = .ok (.iload 4, 2) := by decide +kernel
theorem dX4_addDigits_24 : decode cX4_addDigits 24 = .ok (.dup2, 1) := by decide +kernel
theorem dX4_addDigits_25 : decode cX4_addDigits 25 = .ok (.laload, 1) := by decide +kernel
theorem dX4_addDigits_26 : decode cX4_addDigits 26 = .ok (.iload 4, 2) := by decide +kernel
theorem dX4_addDigits_28 : decode cX4_addDigits 28 = .ok (.i2l, 1) := by decide +kernel
theorem dX4_addDigits_29 : decode cX4_addDigits 29 = .ok (.lload_n 2, 1) := by decide +kernel
theorem dX4_addDigits_30 : decode cX4_addDigits 30 = .ok (.lmul, 1) := by decide +kernel
theorem dX4_addDigits_31 : decode cX4_addDigits 31 = .ok (.ladd, 1) := by decide +kernel
theorem dX4_addDigits_32 : decode cX4_addDigits 32 = .ok (.lastore, 1) := by decide +kernel
theorem dX4_addDigits_33 : decode cX4_addDigits 33 = .ok (.iinc 4 1, 3) := by decide +kernel
theorem dX4_addDigits_36 : decode cX4_addDigits 36 = .ok (.goto (-33), 3) := by decide +kernel
theorem dX4_addDigits_39 : decode cX4_addDigits 39 = .ok (.return_, 1) := by decide +kernel
set_option maxHeartbeats 4000000 in
set_option maxRecDepth 20000 in
theorem c_X4_addDigits (l : Launch) (b : Nat) (D : va_G) (cy : Nat → ClassId) {tt : Nat} {M0 : xMm} {k : Nat} {z : Int} (hL : IL M0) (hk : k < 10) : xC l b D cy yX4_addDigits cX4_addDigits 5 none ({ frames := 0, cells := 0, slots := 0, locals := 0 }) [xr 68, xr (70 + k), xl z] 209 M0 (RS tt) (xPv 209 (RS tt) (fun M' => IL M' ∧ frL M' M0)) := by
  refine x_met (by decide) (Nat.le_of_ble_eq_true rfl) (fun g hg hr he => ?_)
  refine x_canon (ls' := [(0, _), (1, _), (2, _)]) rfl ?_
  have loop : ∀ (n1 : Nat) (M : xMm) (i : Int), 0 ≤ i → i ≤ 9 → 9 - i < n1 → IL M → frL M M0 → xW g 209 M (RS tt) 0 0 3 [(0, xr 68), (1, xr (70 + k)), (2, xl z), (4, xi i)] [] := by
    intro n1
    induction n1 with
    | zero => intro M i hi1 hi2 hi3 hL hf; exfalso; omega
    | succ n1 ih =>
      intro M i hi1 hi2 hi3 hL hf
      obtain ⟨hl1, hl2, hl3, hl4⟩ := id hL
      have j33 : i < 9 → ∀ M1, IL M1 → frL M1 M0 → xW g 209 M1 (RS tt) 0 0 33 [(0, xr 68), (1, xr (70 + k)), (2, xl z), (4, xi i)] [] := by
        intro hi9 M1 hL1 hf1
        refine x_iinc (ls' := [(0, _), (1, _), (2, _), (4, _)]) hg dX4_addDigits_33 rfl (by decide) rfl ?_
        refine x_goto (tgt := 3) hg dX4_addDigits_36 (by decide) ?_
        exact ih _ _ (by omega) (by omega) (by omega) hL1 hf1
      refine x_iload hg dX4_addDigits_3 rfl ?_
      refine x_bipush hg dX4_addDigits_5 (by decide) ?_
      refine x_icmp_ge (tgt := 39) hg dX4_addDigits_7 (by decide) (by omega) (by omega) (fun c7 => ?_) (fun c7 => ?_)
      · skip
        refine x_vret hg hr dX4_addDigits_39 (Nat.le_refl _) (Nat.le_refl _) ?_
        exact ⟨rfl, rfl, rfl, hL, hf⟩
      · skip
        refine x_aload_n hg dX4_addDigits_10 rfl ?_
        refine x_iload hg dX4_addDigits_11 rfl ?_
        refine x_laload (len := 9) hg dX4_addDigits_13 (oA_row hk) (by omega) ?_
        refine x_ldc2 hg 9223372036854775807 dX4_addDigits_14 (List.mem_of_getElem? (i := 699) (by decide +kernel)) ?_
        refine x_lcmp hg dX4_addDigits_17 (by exact hl4 k hk i.toNat (by omega)) (by decide) ?_
        refine x_if_eq (tgt := 33) hg dX4_addDigits_18 (by decide) (by split <;> (try split) <;> omega) (fun c18 => ?_) (fun c18 => ?_)
        · skip
          first | exact j33 (by omega) _ hL hf | exact j33 (by omega) _ (IL_row hL hk h32) (frL_mu hf (by omega))
        · skip
          refine x_aload_n hg dX4_addDigits_21 rfl ?_
          refine x_iload hg dX4_addDigits_22 rfl ?_
          refine x_dup2 hg dX4_addDigits_24 rfl rfl ?_
          refine x_laload (len := 9) hg dX4_addDigits_25 (oA_row hk) (by omega) ?_
          refine x_iload hg dX4_addDigits_26 rfl ?_
          refine x_i2l hg dX4_addDigits_28 (by omega) ?_
          refine x_lload_n hg dX4_addDigits_29 rfl ?_
          refine x_lmul hg dX4_addDigits_30 ?_
          refine x_ladd hg dX4_addDigits_31 ?_
          refine x_wrapl (fun a32 h32 => ?_)
          refine x_lastore (len := 9) hg dX4_addDigits_32 (oA_row hk) (by omega)  ?_
          first | exact j33 (by omega) _ hL hf | exact j33 (by omega) _ (IL_row hL hk h32) (frL_mu hf (by omega))
  refine x_iconst hg dX4_addDigits_0 ?_
  refine x_istore (ls' := [(0, _), (1, _), (2, _), (4, _)]) hg dX4_addDigits_1 (by decide) rfl ?_
  exact loop 10 M0 0 (by omega) (by omega) (by omega) hL (fun a _ => rfl)

theorem dX4_lengthenChains_0 : decode cX4_lengthenChains 0 = .ok (.aload_n 0, 1) := by decide +kernel
theorem dX4_lengthenChains_1 : decode cX4_lengthenChains 1 = .ok (.getfield 16, 3) := by decide +kernel
theorem dX4_lengthenChains_4 : decode cX4_lengthenChains 4 = .ok (.iload_n 1, 1) := by decide +kernel
theorem dX4_lengthenChains_5 : decode cX4_lengthenChains 5 = .ok (.iaload, 1) := by decide +kernel
theorem dX4_lengthenChains_6 : decode cX4_lengthenChains 6 = .ok (.istore_n 2, 1) := by decide +kernel
theorem dX4_lengthenChains_7 : decode cX4_lengthenChains 7 = .ok (.aload_n 0, 1) := by decide +kernel
theorem dX4_lengthenChains_8 : decode cX4_lengthenChains 8 = .ok (.getfield 23, 3) := by decide +kernel
theorem dX4_lengthenChains_11 : decode cX4_lengthenChains 11 = .ok (.iload_n 2, 1) := by decide +kernel
theorem dX4_lengthenChains_12 : decode cX4_lengthenChains 12 = .ok (.laload, 1) := by decide +kernel
theorem dX4_lengthenChains_13 : decode cX4_lengthenChains 13 = .ok (.ldc2_w 94, 3) := by decide +kernel
theorem dX4_lengthenChains_16 : decode cX4_lengthenChains 16 = .ok (.lcmp, 1) := by decide +kernel
theorem dX4_lengthenChains_17 : decode cX4_lengthenChains 17 = .ok (.ifCond .ne 5, 3) := by decide +kernel
theorem dX4_lengthenChains_20 : decode cX4_lengthenChains 20 = .ok (.iconst 0, 1) := by decide +kernel
theorem dX4_lengthenChains_21 : decode cX4_lengthenChains 21 = .ok (.ireturn, 1) := by decide +kernel
theorem dX4_lengthenChains_22 : decode cX4_lengthenChains 22 = .ok (.iconst 0, 1) := by decide +kernel
theorem dX4_lengthenChains_23 : decode cX4_lengthenChains 23 = .ok (.istore_n 3, 1) := by decide +kernel
theorem dX4_lengthenChains_24 : decode cX4_lengthenChains 24 = .ok (.aload_n 0, 1) := by decide +kernel
theorem dX4_lengthenChains_25 : decode cX4_lengthenChains 25 = .ok (.getfield 23, 3) := by decide +kernel
theorem dX4_lengthenChains_28 : decode cX4_lengthenChains 28 = .ok (.iload_n 2, 1) := by decide +kernel
theorem dX4_lengthenChains_29 : decode cX4_lengthenChains 29 = .ok (.laload, 1) := by decide +kernel
theorem dX4_lengthenChains_30 : decode cX4_lengthenChains 30 = .ok (.aload_n 0, 1) := by decide +kernel
theorem dX4_lengthenChains_31 : decode cX4_lengthenChains 31 = .ok (.getfield 13, 3) := by decide +kernel
theorem dX4_lengthenChains_34 : decode cX4_lengthenChains 34 = .ok (.iload_n 1, 1) := by decide +kernel
theorem dX4_lengthenChains_35 : decode cX4_lengthenChains 35 = .ok (.aaload, 1) := by decide +kernel
theorem dX4_lengthenChains_36 : decode cX4_lengthenChains 36 = .ok (.iload_n 2, 1) := by decide +kernel
theorem dX4_lengthenChains_37 : decode cX4_lengthenChains 37 = .ok (.laload, 1) := by decide +kernel
theorem dX4_lengthenChains_38 : decode cX4_lengthenChains 38 = .ok (.lsub, 1) := by decide +kernel
theorem dX4_lengthenChains_39 : decode cX4_lengthenChains 39 = .ok (.lstore 4, 2) := by decide +kernel
theorem dX4_lengthenChains_41 : decode cX4_lengthenChains 41 = .ok (.iconst 0, 1) := by decide +kernel
theorem dX4_lengthenChains_42 : decode cX4_lengthenChains 42 = .ok (.istore 6, 2) := by decide +kernel
theorem dX4_lengthenChains_44 : decode cX4_lengthenChains 44 = .ok (.iload 6, 2) := by decide +kernel
theorem dX4_lengthenChains_46 : decode cX4_lengthenChains 46 = .ok (.bipush 9, 2) := by decide +kernel
theorem dX4_lengthenChains_48 : decode cX4_lengthenChains 48 = .ok (.if_icmp .ge 95, 3) := by decide +kernel
theorem dX4_lengthenChains_51 : decode cX4_lengthenChains 51 = .ok (.iload 6, 2) := by decide +kernel
theorem dX4_lengthenChains_53 : decode cX4_lengthenChains 53 = .ok (.iload_n 2, 1) := by decide +kernel
theorem dX4_lengthenChains_54 : decode cX4_lengthenChains 54 = .ok (.if_icmp .eq 23, 3) := by decide +kernel
theorem dX4_lengthenChains_57 : decode cX4_lengthenChains 57 = .ok (.aload_n 0, 1) := by decide +kernel
theorem dX4_lengthenChains_58 : decode cX4_lengthenChains 58 = .ok (.getfield 13, 3) := by decide +kernel
theorem dX4_lengthenChains_61 : decode cX4_lengthenChains 61 = .ok (.iload_n 1, 1) := by decide +kernel
theorem dX4_lengthenChains_62 : decode cX4_lengthenChains 62 = .ok (.aaload, 1) := by decide +kernel
theorem dX4_lengthenChains_63 : decode cX4_lengthenChains 63 = .ok (.iload 6, 2) := by decide +kernel
theorem dX4_lengthenChains_65 : decode cX4_lengthenChains 65 = .ok (.laload, 1) := by decide +kernel
theorem dX4_lengthenChains_66 : decode cX4_lengthenChains 66 = .ok (.ldc2_w 94, 3) := by decide +kernel
theorem dX4_lengthenChains_69 : decode cX4_lengthenChains 69 = .ok (.lcmp, 1) := by decide +kernel
theorem dX4_lengthenChains_70 : decode cX4_lengthenChains 70 = .ok (.ifCond .eq 7, 3) := by decide +kernel
theorem dX4_lengthenChains_73 : decode cX4_lengthenChains 73 = .ok (.iconst 1, 1) := by decide +kernel
theorem dX4_lengthenChains_74 : decode cX4_lengthenChains 74 = .ok (.goto 4, 3) := by decide +kernel
theorem dX4_lengthenChains_77 : decode cX4_lengthenChains 77 = .ok (.iconst 0, 1) := by decide +kernel
theorem dX4_lengthenChains_78 : decode cX4_lengthenChains 78 = .ok (.istore 7, 2) := by decide +kernel
theorem dX4_lengthenChains_80 : decode cX4_lengthenChains 80 = .ok (.iload 7, 2) := by decide +kernel
theorem dX4_lengthenChains_82 : decode cX4_lengthenChains 82 = .ok (.ifCond .eq 55, 3) := by decide +kernel
theorem dX4_lengthenChains_85 : decode cX4_lengthenChains 85 = .ok (.lload 4, 2) := by decide +kernel
theorem dX4_lengthenChains_87 : decode cX4_lengthenChains 87 = .ok (.aload_n 0, 1) := by decide +kernel
theorem dX4_lengthenChains_88 : decode cX4_lengthenChains 88 = .ok (.getfield 13, 3) := by decide +kernel
theorem dX4_lengthenChains_91 : decode cX4_lengthenChains 91 = .ok (.iload_n 1, 1) := by decide +kernel
theorem dX4_lengthenChains_92 : decode cX4_lengthenChains 92 = .ok (.aaload, 1) := by decide +kernel
theorem dX4_lengthenChains_93 : decode cX4_lengthenChains 93 = .ok (.iload 6, 2) := by decide +kernel
theorem dX4_lengthenChains_95 : decode cX4_lengthenChains 95 = .ok (.laload, 1) := by decide +kernel
theorem dX4_lengthenChains_96 : decode cX4_lengthenChains 96 = .ok (.ladd, 1) := by decide +kernel
theorem dX4_lengthenChains_97 : decode cX4_lengthenChains 97 = .ok (.aload_n 0, 1) := by decide +kernel
theorem dX4_lengthenChains_98 : decode cX4_lengthenChains 98 = .ok (.getfield 23, 3) := by decide +kernel
theorem dX4_lengthenChains_101 : decode cX4_lengthenChains 101 = .ok (.iload 6, 2) := by decide +kernel
theorem dX4_lengthenChains_103 : decode cX4_lengthenChains 103 = .ok (.laload, 1) := by decide +kernel
theorem dX4_lengthenChains_104 : decode cX4_lengthenChains 104 = .ok (.lcmp, 1) := by decide +kernel
theorem dX4_lengthenChains_105 : decode cX4_lengthenChains 105 = .ok (.ifCond .ge 32, 3) := by decide +kernel
theorem dX4_lengthenChains_108 : decode cX4_lengthenChains 108 = .ok (.aload_n 0, 1) := by decide +kernel
theorem dX4_lengthenChains_109 : decode cX4_lengthenChains 109 = .ok (.getfield 23, 3) := by decide +kernel
theorem dX4_lengthenChains_112 : decode cX4_lengthenChains 112 = .ok (.iload 6, 2) := by decide +kernel
theorem dX4_lengthenChains_114 : decode cX4_lengthenChains 114 = .ok (.lload 4, 2) := by decide +kernel
theorem dX4_lengthenChains_116 : decode cX4_lengthenChains 116 = .ok (.aload_n 0, 1) := by decide +kernel
theorem dX4_lengthenChains_117 : decode cX4_lengthenChains 117 = .ok (.getfield 13, 3) := by decide +kernel
theorem dX4_lengthenChains_120 : decode cX4_lengthenChains 120 = .ok (.iload_n 1, 1) := by decide +kernel
theorem dX4_lengthenChains_121 : decode cX4_lengthenChains 121 = .ok (.aaload, 1) := by decide +kernel
theorem dX4_lengthenChains_122 : decode cX4_lengthenChains 122 = .ok (.iload 6, 2) := by decide +kernel
theorem dX4_lengthenChains_124 : decode cX4_lengthenChains 124 = .ok (.laload, 1) := by decide +kernel
theorem dX4_lengthenChains_125 : decode cX4_lengthenChains 125 = .ok (.ladd, 1) := by decide +kernel
theorem dX4_lengthenChains_126 : decode cX4_lengthenChains 126 = .ok (.lastore, 1) := by decide +kernel
theorem dX4_lengthenChains_127 : decode cX4_lengthenChains 127 = .ok (.aload_n 0, 1) := by decide +kernel
theorem dX4_lengthenChains_128 : decode cX4_lengthenChains 128 = .ok (.getfield 27, 3) := by decide +kernel
theorem dX4_lengthenChains_131 : decode cX4_lengthenChains 131 = .ok (.iload 6, 2) := by decide +kernel
theorem dX4_lengthenChains_133 : decode cX4_lengthenChains 133 = .ok (.iload_n 1, 1) := by decide +kernel
theorem dX4_lengthenChains_134 : decode cX4_lengthenChains 134 = .ok (.iastore, 1) := by decide +kernel
theorem dX4_lengthenChains_135 : decode cX4_lengthenChains 135 = .ok (.iconst 1, 1) := by decide +kernel
theorem dX4_lengthenChains_136 : decode cX4_lengthenChains 136 = .ok (.istore_n 3, 1) := by decide +kernel
theorem dX4_lengthenChains_137 : decode cX4_lengthenChains 137 = .ok (.iinc 6 1, 3) := by decide +kernel
theorem dX4_lengthenChains_140 : decode cX4_lengthenChains 140 = .ok (.goto (-96), 3) := by decide +kernel
theorem dX4_lengthenChains_143 : decode cX4_lengthenChains 143 = .ok (.iload_n 3, 1) := by decide +kernel
theorem dX4_lengthenChains_144 : decode cX4_lengthenChains 144 = .ok (.ireturn, 1) := by decide +kernel
set_option maxHeartbeats 4000000 in
set_option maxRecDepth 20000 in
theorem c_X4_lengthenChains (l : Launch) (b : Nat) (D : va_G) (cy : Nat → ClassId) {tt : Nat} {M0 : xMm} {z : Int} (hL : IL M0) (hz : 0 ≤ z ∧ z < 10) : xC l b D cy yX4_lengthenChains cX4_lengthenChains 8 (some .boolean) ({ frames := 0, cells := 0, slots := 0, locals := 0 }) [xr 68, xi z] 209 M0 (RS tt) (xPi 209 (RS tt) (fun r M' => (r = 0 ∨ r = 1) ∧ IL M' ∧ frL M' M0)) := by
  refine x_met (by decide) (Nat.le_of_ble_eq_true rfl) (fun g hg hr he => ?_)
  obtain ⟨hv1, hv2, hv3, hv4⟩ := id hL
  refine x_canon (ls' := [(0, _), (1, _)]) rfl ?_
  have loop : ∀ (n1 : Nat) (M : xMm) (i f e v : Int), 0 ≤ i → i ≤ 9 → 9 - i < n1 → (0 ≤ f ∧ f ≤ 8) → (e = 0 ∨ e = 1) → IL M → frL M M0 → xW g 209 M (RS tt) 0 0 44 [(0, xr 68), (1, xi z), (2, xi f), (3, xi e), (4, xl v), (6, xi i)] [] := by
    intro n1
    induction n1 with
    | zero => intro M i f e v hi1 hi2 hi3 hf8 he1 hL hf; exfalso; omega
    | succ n1 ih =>
      intro M i f e v hi1 hi2 hi3 hf8 he1 hL hf
      obtain ⟨hl1, hl2, hl3, hl4⟩ := id hL
      have j137 : i < 9 → ∀ M1 (e1 : Int), (e1 = 0 ∨ e1 = 1) → IL M1 → frL M1 M0 → xW g 209 M1 (RS tt) 0 0 137 [(0, xr 68), (1, xi z), (2, xi f), (3, xi e1), (4, xl v), (6, xi i)] [] := by
        intro hi9 M1 e1 he2 hL1 hf1
        refine x_iinc (ls' := [(0, _), (1, _), (2, _), (3, _), (4, _), (6, _)]) hg dX4_lengthenChains_137 rfl (by decide) rfl ?_
        refine x_goto (tgt := 44) hg dX4_lengthenChains_140 (by decide) ?_
        exact ih _ _ _ _ _ (by omega) (by omega) (by omega) hf8 he2 hL1 hf1
      have j78 : i < 9 → ∀ p : Int, inR p → xW g 209 M (RS tt) 0 0 78 [(0, xr 68), (1, xi z), (2, xi f), (3, xi e), (4, xl v), (6, xi i)] [xi p] := by
        intro hi9 p hp
        have h3i := hl3 i.toNat (by omega)
        refine x_istore (ls' := [(0, _), (1, _), (2, _), (3, _), (4, _), (6, _), (7, _)]) hg dX4_lengthenChains_78 (by decide) rfl ?_
        refine x_iload hg dX4_lengthenChains_80 rfl ?_
        refine x_if_eq (tgt := 137) hg dX4_lengthenChains_82 (by decide) (by omega) (fun c82 => ?_) (fun c82 => ?_)
        · skip
          refine x_canon (ls' := [(0, _), (1, _), (2, _), (3, _), (4, _), (6, _)]) rfl ?_
          first | exact j137 hi9 _ _ he1 hL hf | exact j137 hi9 _ _ (Or.inr rfl) (IL_t (IL_t hL (Or.inr (Or.inl ⟨rfl, h126⟩))) (Or.inr (Or.inr ⟨rfl, by omega⟩))) (frL_mu (frL_mu hf (by decide)) (by decide))
        · skip
          refine x_lload hg dX4_lengthenChains_85 rfl ?_
          refine x_aload_n hg dX4_lengthenChains_87 rfl ?_
          refine x_getR (j9 := 69) hg dX4_lengthenChains_88 fl_X4_13 (by decide) rfl rfl (by decide) ?_
          refine x_iload_n hg dX4_lengthenChains_91 rfl ?_
          refine x_aaload (len := 10) (et := 9) hg dX4_lengthenChains_92 (by decide) (by decide) (by omega) (RS_row _ _) (by omega) ?_
          refine x_iload hg dX4_lengthenChains_93 rfl ?_
          refine x_laload (len := 9) hg dX4_lengthenChains_95 (oA_row (by omega)) (by omega) ?_
          refine x_ladd hg dX4_lengthenChains_96 ?_
          refine x_wrapl (fun a97 h97 => ?_)
          refine x_aload_n hg dX4_lengthenChains_97 rfl ?_
          refine x_getR (j9 := 82) hg dX4_lengthenChains_98 fl_X4_23 (by decide) rfl rfl (by decide) ?_
          refine x_iload hg dX4_lengthenChains_101 rfl ?_
          refine x_laload (len := 9) hg dX4_lengthenChains_103 (by decide) (by omega) ?_
          refine x_lcmp hg dX4_lengthenChains_104 (by omega) (by omega) ?_
          refine x_if_ge (tgt := 137) hg dX4_lengthenChains_105 (by decide) (by split <;> (try split) <;> omega) (fun c105 => ?_) (fun c105 => ?_)
          · skip
            refine x_canon (ls' := [(0, _), (1, _), (2, _), (3, _), (4, _), (6, _)]) rfl ?_
            first | exact j137 hi9 _ _ he1 hL hf | exact j137 hi9 _ _ (Or.inr rfl) (IL_t (IL_t hL (Or.inr (Or.inl ⟨rfl, h126⟩))) (Or.inr (Or.inr ⟨rfl, by omega⟩))) (frL_mu (frL_mu hf (by decide)) (by decide))
          · skip
            refine x_aload_n hg dX4_lengthenChains_108 rfl ?_
            refine x_getR (j9 := 82) hg dX4_lengthenChains_109 fl_X4_23 (by decide) rfl rfl (by decide) ?_
            refine x_iload hg dX4_lengthenChains_112 rfl ?_
            refine x_lload hg dX4_lengthenChains_114 rfl ?_
            refine x_aload_n hg dX4_lengthenChains_116 rfl ?_
            refine x_getR (j9 := 69) hg dX4_lengthenChains_117 fl_X4_13 (by decide) rfl rfl (by decide) ?_
            refine x_iload_n hg dX4_lengthenChains_120 rfl ?_
            refine x_aaload (len := 10) (et := 9) hg dX4_lengthenChains_121 (by decide) (by decide) (by omega) (RS_row _ _) (by omega) ?_
            refine x_iload hg dX4_lengthenChains_122 rfl ?_
            refine x_laload (len := 9) hg dX4_lengthenChains_124 (oA_row (by omega)) (by omega) ?_
            refine x_ladd hg dX4_lengthenChains_125 ?_
            refine x_wrapl (fun a126 h126 => ?_)
            refine x_lastore (len := 9) hg dX4_lengthenChains_126 (by decide) (by omega)  ?_
            refine x_aload_n hg dX4_lengthenChains_127 rfl ?_
            refine x_getR (j9 := 83) hg dX4_lengthenChains_128 fl_X4_27 (by decide) rfl rfl (by decide) ?_
            refine x_iload hg dX4_lengthenChains_131 rfl ?_
            refine x_iload_n hg dX4_lengthenChains_133 rfl ?_
            refine x_iastore (len := 9) hg dX4_lengthenChains_134 (by decide) (by omega)  ?_
            refine x_iconst hg dX4_lengthenChains_135 ?_
            refine x_istore_n (ls' := [(0, _), (1, _), (2, _), (3, _), (4, _), (6, _), (7, _)]) hg dX4_lengthenChains_136 rfl (by decide) rfl ?_
            refine x_canon (ls' := [(0, _), (1, _), (2, _), (3, _), (4, _), (6, _)]) rfl ?_
            first | exact j137 hi9 _ _ he1 hL hf | exact j137 hi9 _ _ (Or.inr rfl) (IL_t (IL_t hL (Or.inr (Or.inl ⟨rfl, h126⟩))) (Or.inr (Or.inr ⟨rfl, by omega⟩))) (frL_mu (frL_mu hf (by decide)) (by decide))
      refine x_iload hg dX4_lengthenChains_44 rfl ?_
      refine x_bipush hg dX4_lengthenChains_46 (by decide) ?_
      refine x_icmp_ge (tgt := 143) hg dX4_lengthenChains_48 (by decide) (by omega) (by omega) (fun c48 => ?_) (fun c48 => ?_)
      · skip
        refine x_iload_n hg dX4_lengthenChains_143 rfl ?_
        refine x_iret hg hr (Or.inr ⟨rfl, (by exact he1)⟩) dX4_lengthenChains_144 (Nat.le_refl _) (Nat.le_refl _) ?_
        exact ⟨rfl, rfl, _, rfl, he1, hL, hf⟩
      · skip
        refine x_iload hg dX4_lengthenChains_51 rfl ?_
        refine x_iload_n hg dX4_lengthenChains_53 rfl ?_
        refine x_icmp_eq (tgt := 77) hg dX4_lengthenChains_54 (by decide) (by omega) (by omega) (fun c54 => ?_) (fun c54 => ?_)
        · skip
          refine x_iconst hg dX4_lengthenChains_77 ?_
          exact j78 (by omega) _ (by omega)
        · skip
          refine x_aload_n hg dX4_lengthenChains_57 rfl ?_
          refine x_getR (j9 := 69) hg dX4_lengthenChains_58 fl_X4_13 (by decide) rfl rfl (by decide) ?_
          refine x_iload_n hg dX4_lengthenChains_61 rfl ?_
          refine x_aaload (len := 10) (et := 9) hg dX4_lengthenChains_62 (by decide) (by decide) (by omega) (RS_row _ _) (by omega) ?_
          refine x_iload hg dX4_lengthenChains_63 rfl ?_
          refine x_laload (len := 9) hg dX4_lengthenChains_65 (oA_row (by omega)) (by omega) ?_
          refine x_ldc2 hg 9223372036854775807 dX4_lengthenChains_66 (List.mem_of_getElem? (i := 699) (by decide +kernel)) ?_
          refine x_lcmp hg dX4_lengthenChains_69 (by exact hl4 z.toNat (by omega) i.toNat (by omega)) (by decide) ?_
          refine x_if_eq (tgt := 77) hg dX4_lengthenChains_70 (by decide) (by split <;> (try split) <;> omega) (fun c70 => ?_) (fun c70 => ?_)
          · skip
            refine x_iconst hg dX4_lengthenChains_77 ?_
            exact j78 (by omega) _ (by omega)
          · skip
            refine x_iconst hg dX4_lengthenChains_73 ?_
            refine x_goto (tgt := 78) hg dX4_lengthenChains_74 (by decide) ?_
            exact j78 (by omega) _ (by omega)
  have hc := hv2 z.toNat (by omega)
  have h3c := hv3 (M0 80 z.toNat).toNat (by omega)
  refine x_aload_n hg dX4_lengthenChains_0 rfl ?_
  refine x_getR (j9 := 80) hg dX4_lengthenChains_1 fl_X4_16 (by decide) rfl rfl (by decide) ?_
  refine x_iload_n hg dX4_lengthenChains_4 rfl ?_
  refine x_iaload (len := 10) hg dX4_lengthenChains_5 (by decide) (by omega) ?_
  refine x_istore_n (ls' := [(0, _), (1, _), (2, _)]) hg dX4_lengthenChains_6 rfl (by decide) rfl ?_
  refine x_aload_n hg dX4_lengthenChains_7 rfl ?_
  refine x_getR (j9 := 82) hg dX4_lengthenChains_8 fl_X4_23 (by decide) rfl rfl (by decide) ?_
  refine x_iload_n hg dX4_lengthenChains_11 rfl ?_
  refine x_laload (len := 9) hg dX4_lengthenChains_12 (by decide) (by omega) ?_
  refine x_ldc2 hg 9223372036854775807 dX4_lengthenChains_13 (List.mem_of_getElem? (i := 699) (by decide +kernel)) ?_
  refine x_lcmp hg dX4_lengthenChains_16 (by omega) (by decide) ?_
  refine x_if_ne (tgt := 22) hg dX4_lengthenChains_17 (by decide) (by split <;> (try split) <;> omega) (fun c17 => ?_) (fun c17 => ?_)
  · skip
    refine x_iconst hg dX4_lengthenChains_22 ?_
    refine x_istore_n (ls' := [(0, _), (1, _), (2, _), (3, _)]) hg dX4_lengthenChains_23 rfl (by decide) rfl ?_
    refine x_aload_n hg dX4_lengthenChains_24 rfl ?_
    refine x_getR (j9 := 82) hg dX4_lengthenChains_25 fl_X4_23 (by decide) rfl rfl (by decide) ?_
    refine x_iload_n hg dX4_lengthenChains_28 rfl ?_
    refine x_laload (len := 9) hg dX4_lengthenChains_29 (by decide) (by omega) ?_
    refine x_aload_n hg dX4_lengthenChains_30 rfl ?_
    refine x_getR (j9 := 69) hg dX4_lengthenChains_31 fl_X4_13 (by decide) rfl rfl (by decide) ?_
    refine x_iload_n hg dX4_lengthenChains_34 rfl ?_
    refine x_aaload (len := 10) (et := 9) hg dX4_lengthenChains_35 (by decide) (by decide) (by omega) (RS_row _ _) (by omega) ?_
    refine x_iload_n hg dX4_lengthenChains_36 rfl ?_
    refine x_laload (len := 9) hg dX4_lengthenChains_37 (oA_row (by omega)) (by omega) ?_
    refine x_lsub hg dX4_lengthenChains_38 ?_
    refine x_wrapl (fun a39 h39 => ?_)
    refine x_lstore (ls' := [(0, _), (1, _), (2, _), (3, _), (4, _)]) hg dX4_lengthenChains_39 (by decide) rfl ?_
    refine x_iconst hg dX4_lengthenChains_41 ?_
    refine x_istore (ls' := [(0, _), (1, _), (2, _), (3, _), (4, _), (6, _)]) hg dX4_lengthenChains_42 (by decide) rfl ?_
    exact loop 10 M0 0 _ _ _ (by omega) (by omega) (by omega) (by omega) (Or.inl rfl) hL (fun a _ => rfl)
  · skip
    refine x_iconst hg dX4_lengthenChains_20 ?_
    refine x_iret hg hr (Or.inr ⟨rfl, by first | exact Or.inl rfl | exact Or.inr rfl | omega⟩) dX4_lengthenChains_21 (Nat.le_refl _) (Nat.le_refl _) ?_
    exact ⟨rfl, rfl, _, rfl, Or.inl rfl, hL, fun a _ => rfl⟩

theorem dX4_seekChains_0 : decode cX4_seekChains 0 = .ok (.iconst 0, 1) := by decide +kernel
theorem dX4_seekChains_1 : decode cX4_seekChains 1 = .ok (.istore_n 2, 1) := by decide +kernel
theorem dX4_seekChains_2 : decode cX4_seekChains 2 = .ok (.iload_n 2, 1) := by decide +kernel
theorem dX4_seekChains_3 : decode cX4_seekChains 3 = .ok (.bipush 9, 2) := by decide +kernel
theorem dX4_seekChains_5 : decode cX4_seekChains 5 = .ok (.if_icmp .ge 30, 3) := by decide +kernel
theorem dX4_seekChains_8 : decode cX4_seekChains 8 = .ok (.aload_n 0, 1) := by decide +kernel
theorem dX4_seekChains_9 : decode cX4_seekChains 9 = .ok (.getfield 23, 3) := by decide +kernel
theorem dX4_seekChains_12 : decode cX4_seekChains 12 = .ok (.iload_n 2, 1) := by decide +kernel
theorem dX4_seekChains_13 : decode cX4_seekChains 13 = .ok (.aload_n 0, 1) := by decide +kernel
theorem dX4_seekChains_14 : decode cX4_seekChains 14 = .ok (.getfield 13, 3) := by decide +kernel
theorem dX4_seekChains_17 : decode cX4_seekChains 17 = .ok (.iload_n 1, 1) := by decide +kernel
theorem dX4_seekChains_18 : decode cX4_seekChains 18 = .ok (.aaload, 1) := by decide +kernel
theorem dX4_seekChains_19 : decode cX4_seekChains 19 = .ok (.iload_n 2, 1) := by decide +kernel
theorem dX4_seekChains_20 : decode cX4_seekChains 20 = .ok (.laload, 1) := by decide +kernel
theorem dX4_seekChains_21 : decode cX4_seekChains 21 = .ok (.lastore, 1) := by decide +kernel
theorem dX4_seekChains_22 : decode cX4_seekChains 22 = .ok (.aload_n 0, 1) := by decide +kernel
theorem dX4_seekChains_23 : decode cX4_seekChains 23 = .ok (.getfield 27, 3) := by decide +kernel
theorem dX4_seekChains_26 : decode cX4_seekChains 26 = .ok (.iload_n 2, 1) := by decide +kernel
theorem dX4_seekChains_27 : decode cX4_seekChains 27 = .ok (.iload_n 1, 1) := by decide +kernel
theorem dX4_seekChains_28 : decode cX4_seekChains 28 = .ok (.iastore, 1) := by decide +kernel
theorem dX4_seekChains_29 : decode cX4_seekChains 29 = .ok (.iinc 2 1, 3) := by decide +kernel
theorem dX4_seekChains_32 : decode cX4_seekChains 32 = .ok (.goto (-30), 3) := by decide +kernel
theorem dX4_seekChains_35 : decode cX4_seekChains 35 = .ok (.iconst 1, 1) := by decide +kernel
theorem dX4_seekChains_36 : decode cX4_seekChains 36 = .ok (.istore_n 2, 1) := by decide +kernel
theorem dX4_seekChains_37 : decode cX4_seekChains 37 = .ok (.iconst 0, 1) := by decide +kernel
theorem dX4_seekChains_38 : decode cX4_seekChains 38 = .ok (.istore_n 3, 1) := by decide +kernel
theorem dX4_seekChains_39 : decode cX4_seekChains 39 = .ok (.iload_n 3, 1) := by decide +kernel
theorem dX4_seekChains_40 : decode cX4_seekChains 40 = .ok (.bipush 9, 2) := by decide +kernel
theorem dX4_seekChains_42 : decode cX4_seekChains 42 = .ok (.if_icmp .ge 39, 3) := by decide +kernel
theorem dX4_seekChains_45 : decode cX4_seekChains 45 = .ok (.iload_n 2, 1) := by decide +kernel
theorem dX4_seekChains_46 : decode cX4_seekChains 46 = .ok (.ifCond .eq 35, 3) := by decide +kernel
theorem dX4_seekChains_49 : decode cX4_seekChains 49 = .ok (.iconst 0, 1) := by decide +kernel
theorem dX4_seekChains_50 : decode cX4_seekChains 50 = .ok (.istore_n 2, 1) := by decide +kernel
theorem dX4_seekChains_51 : decode cX4_seekChains 51 = .ok (.iconst 0, 1) := by decide +kernel
theorem dX4_seekChains_52 : decode cX4_seekChains 52 = .ok (.istore 4, 2) := by decide +kernel
theorem dX4_seekChains_54 : decode cX4_seekChains 54 = .ok (.iload 4, 2) := by decide +kernel
theorem dX4_seekChains_56 : decode cX4_seekChains 56 = .ok (.iload_n 1, 1) := by decide +kernel
theorem dX4_seekChains_57 : decode cX4_seekChains 57 = .ok (.if_icmp .ge 18, 3) := by decide +kernel
theorem dX4_seekChains_60 : decode cX4_seekChains 60 = .ok (.iload_n 2, 1) := by decide +kernel
theorem dX4_seekChains_61 : decode cX4_seekChains 61 = .ok (.aload_n 0, 1) := by decide +kernel
theorem dX4_seekChains_62 : decode cX4_seekChains 62 = .ok (.iload 4, 2) := by decide +kernel
theorem dX4_seekChains_64 : decode cX4_seekChains 64 = .ok (.invokevirtual 103, 3) := by decide +kernel
theorem dX4_seekChains_67 : decode cX4_seekChains 67 = .ok (.ior, 1) := by decide +kernel
theorem dX4_seekChains_68 : decode cX4_seekChains 68 = .ok (.istore_n 2, 1) := by decide +kernel
theorem dX4_seekChains_69 : decode cX4_seekChains 69 = .ok (.iinc 4 1, 3) := by decide +kernel
theorem dX4_seekChains_72 : decode cX4_seekChains 72 = .ok (.goto (-18), 3) := by decide +kernel
theorem dX4_seekChains_75 : decode cX4_seekChains 75 = .ok (.iinc 3 1, 3) := by decide +kernel
theorem dX4_seekChains_78 : decode cX4_seekChains 78 = .ok (.goto (-39), 3) := by decide +kernel
theorem dX4_seekChains_81 : decode cX4_seekChains 81 = .ok (.return_, 1) := by decide +kernel
set_option maxHeartbeats 4000000 in
set_option maxRecDepth 20000 in
theorem c_X4_seekChains (l : Launch) (b : Nat) (D : va_G) (cy : Nat → ClassId) {tt : Nat} {M0 : xMm} {z : Int} (hL : IL M0) (hz : 0 ≤ z ∧ z < 10) : xC l b D cy yX4_seekChains cX4_seekChains 5 none ({ frames := 1, cells := 0, slots := 0, locals := 27 }) [xr 68, xi z] 209 M0 (RS tt) (xPv 209 (RS tt) (fun M' => IL M' ∧ frL M' M0)) := by
  refine x_met (by decide) (Nat.le_of_ble_eq_true rfl) (fun g hg hr he => ?_)
  refine x_canon (ls' := [(0, _), (1, _)]) rfl ?_
  have inner : ∀ (r : Int) (hr9 : 0 ≤ r ∧ r < 9) (cont : ∀ M p, inR p → IL M → frL M M0 → xW g 209 M (RS tt) 0 0 75 [(0, xr 68), (1, xi z), (2, xi p), (3, xi r)] []) (n1 : Nat) (M : xMm) (i p : Int), 0 ≤ i → i ≤ z → z - i < n1 → inR p → IL M → frL M M0 → xW g 209 M (RS tt) 0 0 54 [(0, xr 68), (1, xi z), (2, xi p), (3, xi r), (4, xi i)] [] := by
    intro r hr9 cont n1
    induction n1 with
    | zero => intro M i p h1 h2 h3; exfalso; omega
    | succ n1 ih =>
      intro M i p hi1 hi2 hi3 hp hL hf
      refine x_iload hg dX4_seekChains_54 rfl ?_
      refine x_iload_n hg dX4_seekChains_56 rfl ?_
      refine x_icmp_ge (tgt := 75) hg dX4_seekChains_57 (by decide) (by omega) (by omega) (fun c57 => ?_) (fun c57 => ?_)
      · skip
        refine x_canon (ls' := [(0, _), (1, _), (2, _), (3, _)]) rfl ?_
        exact cont _ _ hp hL hf
      · skip
        refine x_iload_n hg dX4_seekChains_60 rfl ?_
        refine x_aload_n hg dX4_seekChains_61 rfl ?_
        refine x_iload hg dX4_seekChains_62 rfl ?_
        refine x_cVi hg he [_] [_] dX4_seekChains_64 mv_X4_103 (c_X4_lengthenChains l b D cy hL (by omega)) (by decide) rfl rfl (Nat.le_of_ble_eq_true rfl) (by decide) (by decide) (fun r64 M64 q64 => ?_)
        obtain ⟨hb64, hL64, hf64⟩ := q64
        refine x_ior hg dX4_seekChains_67 ?_
        refine x_wrap (fun a68 h68 => ?_)
        refine x_istore_n (ls' := [(0, _), (1, _), (2, _), (3, _), (4, _)]) hg dX4_seekChains_68 rfl (by decide) rfl ?_
        refine x_iinc (ls' := [(0, _), (1, _), (2, _), (3, _), (4, _)]) hg dX4_seekChains_69 rfl (by decide) rfl ?_
        refine x_goto (tgt := 54) hg dX4_seekChains_72 (by decide) ?_
        exact ih _ _ _ (by omega) (by omega) (by omega) h68 hL64 (frL_tr hf64 hf)
  have outer : ∀ (n1 : Nat) (M : xMm) (r p : Int), 0 ≤ r → r ≤ 9 → 9 - r < n1 → inR p → IL M → frL M M0 → xW g 209 M (RS tt) 0 0 39 [(0, xr 68), (1, xi z), (2, xi p), (3, xi r)] [] := by
    intro n1
    induction n1 with
    | zero => intro M r p hr1 hr2 hr3 hp hL hf; exfalso; omega
    | succ n1 ih =>
      intro M r p hr1 hr2 hr3 hp hL hf
      obtain ⟨hl1, hl2, hl3, hl4⟩ := id hL
      refine x_iload_n hg dX4_seekChains_39 rfl ?_
      refine x_bipush hg dX4_seekChains_40 (by decide) ?_
      refine x_icmp_ge (tgt := 81) hg dX4_seekChains_42 (by decide) (by omega) (by omega) (fun c42 => ?_) (fun c42 => ?_)
      · skip
        refine x_vret hg hr dX4_seekChains_81 (Nat.le_refl _) (Nat.le_refl _) ?_
        exact ⟨rfl, rfl, rfl, hL, hf⟩
      · skip
        refine x_iload_n hg dX4_seekChains_45 rfl ?_
        refine x_if_eq (tgt := 81) hg dX4_seekChains_46 (by decide) (by omega) (fun c46 => ?_) (fun c46 => ?_)
        · skip
          refine x_vret hg hr dX4_seekChains_81 (Nat.le_refl _) (Nat.le_refl _) ?_
          exact ⟨rfl, rfl, rfl, hL, hf⟩
        · skip
          refine x_iconst hg dX4_seekChains_49 ?_
          refine x_istore_n (ls' := [(0, _), (1, _), (2, _), (3, _)]) hg dX4_seekChains_50 rfl (by decide) rfl ?_
          refine x_iconst hg dX4_seekChains_51 ?_
          refine x_istore (ls' := [(0, _), (1, _), (2, _), (3, _), (4, _)]) hg dX4_seekChains_52 (by decide) rfl ?_
          refine inner r (by omega) (fun M1 p1 hp1 hL1 hf1 => ?_) 11 M 0 0 (by omega) (by omega) (by omega) (by omega) hL hf
          refine x_iinc (ls' := [(0, _), (1, _), (2, _), (3, _)]) hg dX4_seekChains_75 rfl (by decide) rfl ?_
          refine x_goto (tgt := 39) hg dX4_seekChains_78 (by decide) ?_
          exact ih _ _ _ (by omega) (by omega) (by omega) hp1 hL1 hf1
  have loop : ∀ (n1 : Nat) (M : xMm) (i : Int), 0 ≤ i → i ≤ 9 → 9 - i < n1 → IL M → frL M M0 → xW g 209 M (RS tt) 0 0 2 [(0, xr 68), (1, xi z), (2, xi i)] [] := by
    intro n1
    induction n1 with
    | zero => intro M i hi1 hi2 hi3 hL hf; exfalso; omega
    | succ n1 ih =>
      intro M i hi1 hi2 hi3 hL hf
      obtain ⟨hl1, hl2, hl3, hl4⟩ := id hL
      refine x_iload_n hg dX4_seekChains_2 rfl ?_
      refine x_bipush hg dX4_seekChains_3 (by decide) ?_
      refine x_icmp_ge (tgt := 35) hg dX4_seekChains_5 (by decide) (by omega) (by omega) (fun c5 => ?_) (fun c5 => ?_)
      · skip
        refine x_iconst hg dX4_seekChains_35 ?_
        refine x_istore_n (ls' := [(0, _), (1, _), (2, _)]) hg dX4_seekChains_36 rfl (by decide) rfl ?_
        refine x_iconst hg dX4_seekChains_37 ?_
        refine x_istore_n (ls' := [(0, _), (1, _), (2, _), (3, _)]) hg dX4_seekChains_38 rfl (by decide) rfl ?_
        exact outer 10 M 0 1 (by omega) (by omega) (by omega) (by omega) hL hf
      · skip
        refine x_aload_n hg dX4_seekChains_8 rfl ?_
        refine x_getR (j9 := 82) hg dX4_seekChains_9 fl_X4_23 (by decide) rfl rfl (by decide) ?_
        refine x_iload_n hg dX4_seekChains_12 rfl ?_
        refine x_aload_n hg dX4_seekChains_13 rfl ?_
        refine x_getR (j9 := 69) hg dX4_seekChains_14 fl_X4_13 (by decide) rfl rfl (by decide) ?_
        refine x_iload_n hg dX4_seekChains_17 rfl ?_
        refine x_aaload (len := 10) (et := 9) hg dX4_seekChains_18 (by decide) (by decide) (by omega) (RS_row _ _) (by omega) ?_
        refine x_iload_n hg dX4_seekChains_19 rfl ?_
        refine x_laload (len := 9) hg dX4_seekChains_20 (oA_row (by omega)) (by omega) ?_
        refine x_lastore (len := 9) hg dX4_seekChains_21 (by decide) (by omega)  ?_
        refine x_aload_n hg dX4_seekChains_22 rfl ?_
        refine x_getR (j9 := 83) hg dX4_seekChains_23 fl_X4_27 (by decide) rfl rfl (by decide) ?_
        refine x_iload_n hg dX4_seekChains_26 rfl ?_
        refine x_iload_n hg dX4_seekChains_27 rfl ?_
        refine x_iastore (len := 9) hg dX4_seekChains_28 (by decide) (by omega)  ?_
        refine x_iinc (ls' := [(0, _), (1, _), (2, _)]) hg dX4_seekChains_29 rfl (by decide) rfl ?_
        refine x_goto (tgt := 2) hg dX4_seekChains_32 (by decide) ?_
        exact ih _ _ (by omega) (by omega) (by omega) (IL_t (IL_t hL (Or.inr (Or.inl ⟨rfl, hl4 z.toNat (by omega) i.toNat (by omega)⟩))) (Or.inr (Or.inr ⟨rfl, by omega⟩))) (frL_mu (frL_mu hf (by decide)) (by decide))
  refine x_iconst hg dX4_seekChains_0 ?_
  refine x_istore_n (ls' := [(0, _), (1, _), (2, _)]) hg dX4_seekChains_1 rfl (by decide) rfl ?_
  exact loop 10 M0 0 (by omega) (by omega) (by omega) hL (fun a _ => rfl)

theorem dX4_place_0 : decode cX4_place 0 = .ok (.bipush 8, 2) := by decide +kernel
theorem dX4_place_2 : decode cX4_place 2 = .ok (.istore_n 2, 1) := by decide +kernel
theorem dX4_place_3 : decode cX4_place 3 = .ok (.iconst 0, 1) := by decide +kernel
theorem dX4_place_4 : decode cX4_place 4 = .ok (.istore_n 3, 1) := by decide +kernel
theorem dX4_place_5 : decode cX4_place 5 = .ok (.iload_n 3, 1) := by decide +kernel
theorem dX4_place_6 : decode cX4_place 6 = .ok (.bipush 8, 2) := by decide +kernel
theorem dX4_place_8 : decode cX4_place 8 = .ok (.if_icmp .ge 36, 3) := by decide +kernel
theorem dX4_place_11 : decode cX4_place 11 = .ok (.aload_n 0, 1) := by decide +kernel
theorem dX4_place_12 : decode cX4_place 12 = .ok (.getfield 20, 3) := by decide +kernel
theorem dX4_place_15 : decode cX4_place 15 = .ok (.iload_n 3, 1) := by decide +kernel
theorem dX4_place_16 : decode cX4_place 16 = .ok (.iaload, 1) := by decide +kernel
theorem dX4_place_17 : decode cX4_place 17 = .ok (.ifCond .le 21, 3) := by decide +kernel
theorem dX4_place_20 : decode cX4_place 20 = .ok (.aload_n 0, 1) := by decide +kernel
theorem dX4_place_21 : decode cX4_place 21 = .ok (.getfield 23, 3) := by decide +kernel
theorem dX4_place_24 : decode cX4_place 24 = .ok (.iload_n 3, 1) := by decide +kernel
theorem dX4_place_25 : decode cX4_place 25 = .ok (.laload, 1) := by decide +kernel
theorem dX4_place_26 : decode cX4_place 26 = .ok (.aload_n 0, 1) := by decide +kernel
theorem dX4_place_27 : decode cX4_place 27 = .ok (.getfield 23, 3) := by decide +kernel
theorem dX4_place_30 : decode cX4_place 30 = .ok (.iload_n 2, 1) := by decide +kernel
theorem dX4_place_31 : decode cX4_place 31 = .ok (.laload, 1) := by decide +kernel
theorem dX4_place_32 : decode cX4_place 32 = .ok (.lcmp, 1) := by decide +kernel
theorem dX4_place_33 : decode cX4_place 33 = .ok (.ifCond .ge 5, 3) := by decide +kernel
theorem dX4_place_36 : decode cX4_place 36 = .ok (.iload_n 3, 1) := by decide +kernel
theorem dX4_place_37 : decode cX4_place 37 = .ok (.istore_n 2, 1) := by decide +kernel
theorem dX4_place_38 : decode cX4_place 38 = .ok (.iinc 3 1, 3) := by decide +kernel
theorem dX4_place_41 : decode cX4_place 41 = .ok (.goto (-36), 3) := by decide +kernel
theorem dX4_place_44 : decode cX4_place 44 = .ok (.aload_n 0, 1) := by decide +kernel
theorem dX4_place_45 : decode cX4_place 45 = .ok (.getfield 20, 3) := by decide +kernel
theorem dX4_place_48 : decode cX4_place 48 = .ok (.iload_n 2, 1) := by decide +kernel
theorem dX4_place_49 : decode cX4_place 49 = .ok (.dup2, 1) := by decide +kernel
theorem dX4_place_50 : decode cX4_place 50 = .ok (.iaload, 1) := by decide +kernel
theorem dX4_place_51 : decode cX4_place 51 = .ok (.iconst 1, 1) := by decide +kernel
theorem dX4_place_52 : decode cX4_place 52 = .ok (.isub, 1) := by decide +kernel
theorem dX4_place_53 : decode cX4_place 53 = .ok (.iastore, 1) := by decide +kernel
theorem dX4_place_54 : decode cX4_place 54 = .ok (.iconst 0, 1) := by decide +kernel
theorem dX4_place_55 : decode cX4_place 55 = .ok (.istore_n 3, 1) := by decide +kernel
theorem dX4_place_56 : decode cX4_place 56 = .ok (.iload_n 3, 1) := by decide +kernel
theorem dX4_place_57 : decode cX4_place 57 = .ok (.bipush 9, 2) := by decide +kernel
theorem dX4_place_59 : decode cX4_place 59 = .ok (.if_icmp .ge 47, 3) := by decide +kernel
theorem dX4_place_62 : decode cX4_place 62 = .ok (.aload_n 0, 1) := by decide +kernel
theorem dX4_place_63 : decode cX4_place 63 = .ok (.getfield 27, 3) := by decide +kernel
theorem dX4_place_66 : decode cX4_place 66 = .ok (.iload_n 2, 1) := by decide +kernel
theorem dX4_place_67 : decode cX4_place 67 = .ok (.iaload, 1) := by decide +kernel
theorem dX4_place_68 : decode cX4_place 68 = .ok (.iload_n 1, 1) := by decide +kernel
theorem dX4_place_69 : decode cX4_place 69 = .ok (.if_icmp .eq 37, 3) := by decide +kernel
theorem dX4_place_72 : decode cX4_place 72 = .ok (.aload_n 0, 1) := by decide +kernel
theorem dX4_place_73 : decode cX4_place 73 = .ok (.getfield 27, 3) := by decide +kernel
theorem dX4_place_76 : decode cX4_place 76 = .ok (.iload_n 2, 1) := by decide +kernel
theorem dX4_place_77 : decode cX4_place 77 = .ok (.iaload, 1) := by decide +kernel
theorem dX4_place_78 : decode cX4_place 78 = .ok (.istore 4, 2) := by decide +kernel
theorem dX4_place_80 : decode cX4_place 80 = .ok (.aload_n 0, 1) := by decide +kernel
theorem dX4_place_81 : decode cX4_place 81 = .ok (.getfield 16, 3) := by decide +kernel
theorem dX4_place_84 : decode cX4_place 84 = .ok (.iload 4, 2) := by decide +kernel
theorem dX4_place_86 : decode cX4_place 86 = .ok (.iaload, 1) := by decide +kernel
theorem dX4_place_87 : decode cX4_place 87 = .ok (.istore 5, 2) := by decide +kernel
theorem dX4_place_89 : decode cX4_place 89 = .ok (.aload_n 0, 1) := by decide +kernel
theorem dX4_place_90 : decode cX4_place 90 = .ok (.getfield 16, 3) := by decide +kernel
theorem dX4_place_93 : decode cX4_place 93 = .ok (.iload 4, 2) := by decide +kernel
theorem dX4_place_95 : decode cX4_place 95 = .ok (.iload_n 2, 1) := by decide +kernel
theorem dX4_place_96 : decode cX4_place 96 = .ok (.iastore, 1) := by decide +kernel
theorem dX4_place_97 : decode cX4_place 97 = .ok (.iload 5, 2) := by decide +kernel
theorem dX4_place_99 : decode cX4_place 99 = .ok (.istore_n 2, 1) := by decide +kernel
theorem dX4_place_100 : decode cX4_place 100 = .ok (.iinc 3 1, 3) := by decide +kernel
theorem dX4_place_103 : decode cX4_place 103 = .ok (.goto (-47), 3) := by decide +kernel
theorem dX4_place_106 : decode cX4_place 106 = .ok (.aload_n 0, 1) := by decide +kernel
theorem dX4_place_107 : decode cX4_place 107 = .ok (.getfield 16, 3) := by decide +kernel
theorem dX4_place_110 : decode cX4_place 110 = .ok (.iload_n 1, 1) := by decide +kernel
theorem dX4_place_111 : decode cX4_place 111 = .ok (.iload_n 2, 1) := by decide +kernel
theorem dX4_place_112 : decode cX4_place 112 = .ok (.iastore, 1) := by decide +kernel
theorem dX4_place_113 : decode cX4_place 113 = .ok (.return_, 1) := by decide +kernel
set_option maxHeartbeats 4000000 in
set_option maxRecDepth 20000 in
theorem c_X4_place (l : Launch) (b : Nat) (D : va_G) (cy : Nat → ClassId) {tt : Nat} {M0 : xMm} {z : Int} (hL : IL M0) (hz : 0 ≤ z ∧ z < 10) : xC l b D cy yX4_place cX4_place 6 none ({ frames := 0, cells := 0, slots := 0, locals := 0 }) [xr 68, xi z] 209 M0 (RS tt) (xPv 209 (RS tt) (fun M' => IL M' ∧ frL M' M0)) := by
  refine x_met (by decide) (Nat.le_of_ble_eq_true rfl) (fun g hg hr he => ?_)
  refine x_canon (ls' := [(0, _), (1, _)]) rfl ?_
  have loop2 : ∀ (n1 : Nat) (M : xMm) (i t : Int), 0 ≤ i → i ≤ 9 → 9 - i < n1 → (0 ≤ t ∧ t ≤ 8) → IL M → frL M M0 → xW g 209 M (RS tt) 0 0 56 [(0, xr 68), (1, xi z), (2, xi t), (3, xi i)] [] := by
    intro n1
    induction n1 with
    | zero => intro M i t hi1 hi2 hi3 ht hL hf; exfalso; omega
    | succ n1 ih =>
      intro M i t hi1 hi2 hi3 ht hL hf
      obtain ⟨hl1, hl2, hl3, hl4⟩ := id hL
      have h3 := hl3 t.toNat (by omega)
      have h2 := hl2 (M 83 t.toNat).toNat (by omega)
      refine x_iload_n hg dX4_place_56 rfl ?_
      refine x_bipush hg dX4_place_57 (by decide) ?_
      refine x_icmp_ge (tgt := 106) hg dX4_place_59 (by decide) (by omega) (by omega) (fun c59 => ?_) (fun c59 => ?_)
      · skip
        refine x_aload_n hg dX4_place_106 rfl ?_
        refine x_getR (j9 := 80) hg dX4_place_107 fl_X4_16 (by decide) rfl rfl (by decide) ?_
        refine x_iload_n hg dX4_place_110 rfl ?_
        refine x_iload_n hg dX4_place_111 rfl ?_
        refine x_iastore (len := 10) hg dX4_place_112 (by decide) (by omega)  ?_
        refine x_vret hg hr dX4_place_113 (Nat.le_refl _) (Nat.le_refl _) ?_
        exact ⟨rfl, rfl, rfl, IL_ch hL (by omega), frL_mu hf (by decide)⟩
      · skip
        refine x_aload_n hg dX4_place_62 rfl ?_
        refine x_getR (j9 := 83) hg dX4_place_63 fl_X4_27 (by decide) rfl rfl (by decide) ?_
        refine x_iload_n hg dX4_place_66 rfl ?_
        refine x_iaload (len := 9) hg dX4_place_67 (by decide) (by omega) ?_
        refine x_iload_n hg dX4_place_68 rfl ?_
        refine x_icmp_eq (tgt := 106) hg dX4_place_69 (by decide) (by omega) (by omega) (fun c69 => ?_) (fun c69 => ?_)
        · skip
          refine x_aload_n hg dX4_place_106 rfl ?_
          refine x_getR (j9 := 80) hg dX4_place_107 fl_X4_16 (by decide) rfl rfl (by decide) ?_
          refine x_iload_n hg dX4_place_110 rfl ?_
          refine x_iload_n hg dX4_place_111 rfl ?_
          refine x_iastore (len := 10) hg dX4_place_112 (by decide) (by omega)  ?_
          refine x_vret hg hr dX4_place_113 (Nat.le_refl _) (Nat.le_refl _) ?_
          exact ⟨rfl, rfl, rfl, IL_ch hL (by omega), frL_mu hf (by decide)⟩
        · skip
          refine x_aload_n hg dX4_place_72 rfl ?_
          refine x_getR (j9 := 83) hg dX4_place_73 fl_X4_27 (by decide) rfl rfl (by decide) ?_
          refine x_iload_n hg dX4_place_76 rfl ?_
          refine x_iaload (len := 9) hg dX4_place_77 (by decide) (by omega) ?_
          refine x_istore (ls' := [(0, _), (1, _), (2, _), (3, _), (4, _)]) hg dX4_place_78 (by decide) rfl ?_
          refine x_aload_n hg dX4_place_80 rfl ?_
          refine x_getR (j9 := 80) hg dX4_place_81 fl_X4_16 (by decide) rfl rfl (by decide) ?_
          refine x_iload hg dX4_place_84 rfl ?_
          refine x_iaload (len := 10) hg dX4_place_86 (by decide) (by omega) ?_
          refine x_istore (ls' := [(0, _), (1, _), (2, _), (3, _), (4, _), (5, _)]) hg dX4_place_87 (by decide) rfl ?_
          refine x_aload_n hg dX4_place_89 rfl ?_
          refine x_getR (j9 := 80) hg dX4_place_90 fl_X4_16 (by decide) rfl rfl (by decide) ?_
          refine x_iload hg dX4_place_93 rfl ?_
          refine x_iload_n hg dX4_place_95 rfl ?_
          refine x_iastore (len := 10) hg dX4_place_96 (by decide) (by omega)  ?_
          refine x_iload hg dX4_place_97 rfl ?_
          refine x_istore_n (ls' := [(0, _), (1, _), (2, _), (3, _), (4, _), (5, _)]) hg dX4_place_99 rfl (by decide) rfl ?_
          refine x_iinc (ls' := [(0, _), (1, _), (2, _), (3, _), (4, _), (5, _)]) hg dX4_place_100 rfl (by decide) rfl ?_
          refine x_goto (tgt := 56) hg dX4_place_103 (by decide) ?_
          refine x_canon (ls' := [(0, _), (1, _), (2, _), (3, _)]) rfl ?_
          exact ih _ _ _ (by omega) (by omega) (by omega) (by omega) (IL_ch hL (by omega)) (frL_mu hf (by decide))
  have loop1 : ∀ (n1 : Nat) (M : xMm) (i t : Int), 0 ≤ i → i ≤ 8 → 8 - i < n1 → (0 ≤ t ∧ t ≤ 8) → IL M → frL M M0 → xW g 209 M (RS tt) 0 0 5 [(0, xr 68), (1, xi z), (2, xi t), (3, xi i)] [] := by
    intro n1
    induction n1 with
    | zero => intro M i t hi1 hi2 hi3 ht hL hf; exfalso; omega
    | succ n1 ih =>
      intro M i t hi1 hi2 hi3 ht hL hf
      obtain ⟨hl1, hl2, hl3, hl4⟩ := id hL
      have h3t := hl3 t.toNat (by omega)
      refine x_iload_n hg dX4_place_5 rfl ?_
      refine x_bipush hg dX4_place_6 (by decide) ?_
      refine x_icmp_ge (tgt := 44) hg dX4_place_8 (by decide) (by omega) (by omega) (fun c8 => ?_) (fun c8 => ?_)
      · skip
        refine x_aload_n hg dX4_place_44 rfl ?_
        refine x_getR (j9 := 81) hg dX4_place_45 fl_X4_20 (by decide) rfl rfl (by decide) ?_
        refine x_iload_n hg dX4_place_48 rfl ?_
        refine x_dup2 hg dX4_place_49 rfl rfl ?_
        refine x_iaload (len := 9) hg dX4_place_50 (by decide) (by omega) ?_
        refine x_iconst hg dX4_place_51 ?_
        refine x_isub hg dX4_place_52 ?_
        refine x_wrap (fun a53 h53 => ?_)
        refine x_iastore (len := 9) hg dX4_place_53 (by decide) (by omega)  ?_
        refine x_iconst hg dX4_place_54 ?_
        refine x_istore_n (ls' := [(0, _), (1, _), (2, _), (3, _)]) hg dX4_place_55 rfl (by decide) rfl ?_
        exact loop2 10 _ 0 _ (by omega) (by omega) (by omega) (by omega) (IL_t hL (Or.inl ⟨rfl, h53⟩)) (frL_mu hf (by decide))
      · skip
        refine x_aload_n hg dX4_place_11 rfl ?_
        refine x_getR (j9 := 81) hg dX4_place_12 fl_X4_20 (by decide) rfl rfl (by decide) ?_
        refine x_iload_n hg dX4_place_15 rfl ?_
        refine x_iaload (len := 9) hg dX4_place_16 (by decide) (by omega) ?_
        refine x_if_le (tgt := 38) hg dX4_place_17 (by decide) (by have h1 := hl3 i.toNat (by omega); omega) (fun c17 => ?_) (fun c17 => ?_)
        · skip
          refine x_iinc (ls' := [(0, _), (1, _), (2, _), (3, _)]) hg dX4_place_38 rfl (by decide) rfl ?_
          refine x_goto (tgt := 5) hg dX4_place_41 (by decide) ?_
          exact ih _ _ _ (by omega) (by omega) (by omega) (by omega) hL hf
        · skip
          refine x_aload_n hg dX4_place_20 rfl ?_
          refine x_getR (j9 := 82) hg dX4_place_21 fl_X4_23 (by decide) rfl rfl (by decide) ?_
          refine x_iload_n hg dX4_place_24 rfl ?_
          refine x_laload (len := 9) hg dX4_place_25 (by decide) (by omega) ?_
          refine x_aload_n hg dX4_place_26 rfl ?_
          refine x_getR (j9 := 82) hg dX4_place_27 fl_X4_23 (by decide) rfl rfl (by decide) ?_
          refine x_iload_n hg dX4_place_30 rfl ?_
          refine x_laload (len := 9) hg dX4_place_31 (by decide) (by omega) ?_
          refine x_lcmp hg dX4_place_32 (by have h1 := hl3 i.toNat (by omega); omega) (by omega) ?_
          refine x_if_ge (tgt := 38) hg dX4_place_33 (by decide) (by split <;> (try split) <;> omega) (fun c33 => ?_) (fun c33 => ?_)
          · skip
            refine x_iinc (ls' := [(0, _), (1, _), (2, _), (3, _)]) hg dX4_place_38 rfl (by decide) rfl ?_
            refine x_goto (tgt := 5) hg dX4_place_41 (by decide) ?_
            exact ih _ _ _ (by omega) (by omega) (by omega) (by omega) hL hf
          · skip
            refine x_iload_n hg dX4_place_36 rfl ?_
            refine x_istore_n (ls' := [(0, _), (1, _), (2, _), (3, _)]) hg dX4_place_37 rfl (by decide) rfl ?_
            refine x_iinc (ls' := [(0, _), (1, _), (2, _), (3, _)]) hg dX4_place_38 rfl (by decide) rfl ?_
            refine x_goto (tgt := 5) hg dX4_place_41 (by decide) ?_
            exact ih _ _ _ (by omega) (by omega) (by omega) (by omega) hL hf
  refine x_bipush hg dX4_place_0 (by decide) ?_
  refine x_istore_n (ls' := [(0, _), (1, _), (2, _)]) hg dX4_place_2 rfl (by decide) rfl ?_
  refine x_iconst hg dX4_place_3 ?_
  refine x_istore_n (ls' := [(0, _), (1, _), (2, _), (3, _)]) hg dX4_place_4 rfl (by decide) rfl ?_
  exact loop1 9 M0 0 8 (by omega) (by omega) (by omega) (by omega) hL (fun a _ => rfl)

theorem dX4_sumUp_0 : decode cX4_sumUp 0 = .ok (.aload_n 0, 1) := by decide +kernel
theorem dX4_sumUp_1 : decode cX4_sumUp 1 = .ok (.iconst 0, 1) := by decide +kernel
theorem dX4_sumUp_2 : decode cX4_sumUp 2 = .ok (.putfield 106, 3) := by decide +kernel
theorem dX4_sumUp_5 : decode cX4_sumUp 5 = .ok (.aload_n 0, 1) := by decide +kernel
theorem dX4_sumUp_6 : decode cX4_sumUp 6 = .ok (.iconst 0, 1) := by decide +kernel
theorem dX4_sumUp_7 : decode cX4_sumUp 7 = .ok (.putfield 109, 3) := by decide +kernel
theorem dX4_sumUp_10 : decode cX4_sumUp 10 = .ok (.iconst 0, 1) := by decide +kernel
theorem dX4_sumUp_11 : decode cX4_sumUp 11 = .ok (.istore_n 3, 1) := by decide +kernel
theorem dX4_sumUp_12 : decode cX4_sumUp 12 = .ok (.iload_n 3, 1) := by decide +kernel
theorem dX4_sumUp_13 : decode cX4_sumUp 13 = .ok (.aload_n 0, 1) := by decide +kernel
theorem dX4_sumUp_14 : decode cX4_sumUp 14 = .ok (.getfield 34, 3) := by decide +kernel
theorem dX4_sumUp_17 : decode cX4_sumUp 17 = .ok (.if_icmp .ge 70, 3) := by decide +kernel
theorem dX4_sumUp_20 : decode cX4_sumUp 20 = .ok (.aload_n 2, 1) := by decide +kernel
theorem dX4_sumUp_21 : decode cX4_sumUp 21 = .ok (.aload_n 0, 1) := by decide +kernel
theorem dX4_sumUp_22 : decode cX4_sumUp 22 = .ok (.getfield 16, 3) := by decide +kernel
theorem dX4_sumUp_25 : decode cX4_sumUp 25 = .ok (.iload_n 3, 1) := by decide +kernel
theorem dX4_sumUp_26 : decode cX4_sumUp 26 = .ok (.iaload, 1) := by decide +kernel
theorem dX4_sumUp_27 : decode cX4_sumUp 27 = .ok (.invokevirtual 71, 3) := by decide +kernel
theorem dX4_sumUp_30 : decode cX4_sumUp 30 = .ok (.ifCond .eq 36, 3) := by decide +kernel
theorem dX4_sumUp_33 : decode cX4_sumUp 33 = .ok (.aload_n 0, 1) := by decide +kernel
theorem dX4_sumUp_34 : decode cX4_sumUp 34 = .ok (.dup, 1) := by decide +kernel
theorem dX4_sumUp_35 : decode cX4_sumUp 35 = .ok (.getfield 109, 3) := by decide +kernel
theorem dX4_sumUp_38 : decode cX4_sumUp 38 = .ok (.aload_n 0, 1) := by decide +kernel
theorem dX4_sumUp_39 : decode cX4_sumUp 39 = .ok (.getfield 30, 3) := by decide +kernel
theorem dX4_sumUp_42 : decode cX4_sumUp 42 = .ok (.aload_n 1, 1) := by decide +kernel
theorem dX4_sumUp_43 : decode cX4_sumUp 43 = .ok (.iload_n 3, 1) := by decide +kernel
theorem dX4_sumUp_44 : decode cX4_sumUp 44 = .ok (.aaload, 1) := by decide +kernel
theorem dX4_sumUp_45 : decode cX4_sumUp 45 = .ok (.aload_n 2, 1) := by decide +kernel
theorem dX4_sumUp_46 : decode cX4_sumUp 46 = .ok (.getfield 77, 3) := by decide +kernel
theorem dX4_sumUp_49 : decode cX4_sumUp 49 = .ok (.aload_n 0, 1) := by decide +kernel
theorem dX4_sumUp_50 : decode cX4_sumUp 50 = .ok (.getfield 16, 3) := by decide +kernel
theorem dX4_sumUp_53 : decode cX4_sumUp 53 = .ok (.iload_n 3, 1) := by decide +kernel
theorem dX4_sumUp_54 : decode cX4_sumUp 54 = .ok (.iaload, 1) := by decide +kernel
theorem dX4_sumUp_55 : decode cX4_sumUp 55 = .ok (.aaload, 1) := by decide +kernel
theorem dX4_sumUp_56 : decode cX4_sumUp 56 = .ok (.invokevirtual 86, 3) := by decide +kernel
theorem dX4_sumUp_59 : decode cX4_sumUp 59 = .ok (.iadd, 1) := by decide +kernel
theorem dX4_sumUp_60 : decode cX4_sumUp 60 = .ok (.putfield 109, 3) := by decide +kernel
theorem dX4_sumUp_63 : decode cX4_sumUp 63 = .ok (.goto 18, 3) := by decide +kernel
theorem dX4_sumUp_66 : decode cX4_sumUp 66 = .ok (.aload_n 0, 1) := by decide +kernel
theorem dX4_sumUp_67 : decode cX4_sumUp 67 = .ok (.dup, 1) := by decide +kernel
theorem dX4_sumUp_68 : decode cX4_sumUp 68 = .ok (.getfield 106, 3) := by decide +kernel
theorem dX4_sumUp_71 : decode cX4_sumUp 71 = .ok (.aload_n 1, 1) := by decide +kernel
theorem dX4_sumUp_72 : decode cX4_sumUp 72 = .ok (.iload_n 3, 1) := by decide +kernel
theorem dX4_sumUp_73 : decode cX4_sumUp 73 = .ok (.aaload, 1) := by decide +kernel
theorem dX4_sumUp_74 : decode cX4_sumUp 74 = .ok (.getfield 96, 3) := by decide +kernel
theorem dX4_sumUp_77 : decode cX4_sumUp 77 = .ok (.iadd, 1) := by decide +kernel
theorem dX4_sumUp_78 : decode cX4_sumUp 78 = .ok (.putfield 106, 3) := by decide +kernel
theorem dX4_sumUp_81 : decode cX4_sumUp 81 = .ok (.iinc 3 1, 3) := by decide +kernel
theorem dX4_sumUp_84 : decode cX4_sumUp 84 = .ok (.goto (-72), 3) := by decide +kernel
theorem dX4_sumUp_87 : decode cX4_sumUp 87 = .ok (.return_, 1) := by decide +kernel
set_option maxHeartbeats 4000000 in
set_option maxRecDepth 20000 in
theorem c_X4_sumUp (l : Launch) (b : Nat) (D : va_G) (cy : Nat → ClassId) {tt : Nat} {M0 : xMm} {q : Nat} (hL : IL M0) (hC : IC M0) (hI : IR M0) (hch : pChs M0) (hq : xTt q) : xC l b D cy yX4_sumUp cX4_sumUp 4 none ({ frames := 3, cells := 0, slots := 0, locals := 73 }) [xr 68, xr 84, xr q] 209 M0 (RS tt) (xPv 209 (RS tt) (fun M' => IL M' ∧ frL M' M0)) := by
  refine x_met (by decide) (Nat.le_of_ble_eq_true rfl) (fun g hg hr he => ?_)
  refine x_canon (ls' := [(0, _), (1, _), (2, _)]) rfl ?_
  have loop : ∀ (n1 : Nat) (M : xMm) (i : Int), 0 ≤ i → i ≤ 10 → 10 - i < n1 → IL M → frL M M0 → xW g 209 M (RS tt) 0 0 12 [(0, xr 68), (1, xr 84), (2, xr q), (3, xi i)] [] := by
    intro n1
    induction n1 with
    | zero => intro M i hi1 hi2 hi3 hL hf; exfalso; omega
    | succ n1 ih =>
      intro M i hi1 hi2 hi3 hL hf
      obtain ⟨hl1, hl2, hl3, hl4⟩ := id hL
      have j81 : i < 10 → ∀ M1, IL M1 → frL M1 M0 → xW g 209 M1 (RS tt) 0 0 81 [(0, xr 68), (1, xr 84), (2, xr q), (3, xi i)] [] := by
        intro hi9 M1 hL1 hf1
        refine x_iinc (ls' := [(0, _), (1, _), (2, _), (3, _)]) hg dX4_sumUp_81 rfl (by decide) rfl ?_
        refine x_goto (tgt := 12) hg dX4_sumUp_84 (by decide) ?_
        exact ih _ _ (by omega) (by omega) (by omega) hL1 hf1
      have eq1 := (IR_L hf hI).1 q hq
      refine x_iload_n hg dX4_sumUp_12 rfl ?_
      refine x_aload_n hg dX4_sumUp_13 rfl ?_
      refine x_getI hg dX4_sumUp_14 fl_X4_34 (by decide) rfl ?_
      refine x_icmp_ge (tgt := 87) hg dX4_sumUp_17 (by decide) (by omega) (by omega) (fun c17 => ?_) (fun c17 => ?_)
      · skip
        refine x_vret hg hr dX4_sumUp_87 (Nat.le_refl _) (Nat.le_refl _) ?_
        exact ⟨rfl, rfl, rfl, hL, hf⟩
      · skip
        refine x_aload_n hg dX4_sumUp_20 rfl ?_
        refine x_aload_n hg dX4_sumUp_21 rfl ?_
        refine x_getR (j9 := 80) hg dX4_sumUp_22 fl_X4_16 (by decide) rfl rfl (by decide) ?_
        refine x_iload_n hg dX4_sumUp_25 rfl ?_
        refine x_iaload (len := 10) hg dX4_sumUp_26 (by decide) (by omega) ?_
        refine x_cVi hg he [_] [] dX4_sumUp_27 mv_X4_71 (c_X8_has l b D cy (IR_L hf hI) hq (by have h1 := hl2 i.toNat (by omega); omega)) (oO_tt hq) rfl rfl (Nat.le_of_ble_eq_true rfl) (by decide) (by decide) (fun r27 M27 q27 => ?_)
        obtain ⟨h27, e27⟩ := q27
        replace h27 := h27.symm
        subst h27
        refine x_if_eq (tgt := 66) hg dX4_sumUp_30 (by decide) (by omega) (fun c30 => ?_) (fun c30 => ?_)
        · skip
          refine x_aload_n hg dX4_sumUp_66 rfl ?_
          refine x_dup hg dX4_sumUp_67 rfl ?_
          refine x_getI hg dX4_sumUp_68 fl_X4_106 (by decide) rfl ?_
          refine x_aload_n hg dX4_sumUp_71 rfl ?_
          refine x_iload_n hg dX4_sumUp_72 rfl ?_
          refine x_aaload (len := 10) (et := 5) hg dX4_sumUp_73 (by decide) (by decide) (by omega) (RS_churn _ _) (by omega) ?_
          refine x_getI hg dX4_sumUp_74 fl_X4_96 (oO_churn (by omega)) rfl ?_
          refine x_iadd hg dX4_sumUp_77 ?_
          refine x_wrap (fun a78 h78 => ?_)
          refine x_putI hg dX4_sumUp_78 fl_X4_106 ft_4_7 (by decide) rfl ?_
          first | exact j81 (by omega) _ (IL_f hL (Or.inr ⟨by omega, h60⟩)) (frL_mu hf (by decide)) | exact j81 (by omega) _ (IL_f hL (Or.inr ⟨by omega, h78⟩)) (frL_mu hf (by decide))
        · skip
          refine x_aload_n hg dX4_sumUp_33 rfl ?_
          refine x_dup hg dX4_sumUp_34 rfl ?_
          refine x_getI hg dX4_sumUp_35 fl_X4_109 (by decide) rfl ?_
          refine x_aload_n hg dX4_sumUp_38 rfl ?_
          refine x_getR (j9 := 63) hg dX4_sumUp_39 fl_X4_30 (by decide) rfl rfl (by decide) ?_
          refine x_aload_n hg dX4_sumUp_42 rfl ?_
          refine x_iload_n hg dX4_sumUp_43 rfl ?_
          refine x_aaload (len := 10) (et := 5) hg dX4_sumUp_44 (by decide) (by decide) (by omega) (RS_churn _ _) (by omega) ?_
          refine x_aload_n hg dX4_sumUp_45 rfl ?_
          refine x_getR hg dX4_sumUp_46 fl_X4_77 (oO_tt hq) rfl (RS_tt hq) (by omega) ?_
          refine x_aload_n hg dX4_sumUp_49 rfl ?_
          refine x_getR (j9 := 80) hg dX4_sumUp_50 fl_X4_16 (by decide) rfl rfl (by decide) ?_
          refine x_iload_n hg dX4_sumUp_53 rfl ?_
          refine x_iaload (len := 10) hg dX4_sumUp_54 (by decide) (by omega) ?_
          refine x_aaload (len := 8) (et := 4) hg dX4_sumUp_55 (oA_tt hq) (by decide) (by omega) (RS_trn hq _) (by omega) ?_
          refine x_cVi hg he [_, _] [_, _] dX4_sumUp_56 mv_X4_86 (c_X10_direct l b D cy (IC_L hf hC) (IR_L hf hI) ((pChs_L hf hch) i.toNat (by omega)).1 (xTr_of hq (by omega))) (by decide) rfl rfl (Nat.le_of_ble_eq_true rfl) (by decide) (by decide) (fun r56 M56 q56 => ?_)
          obtain ⟨h56, e56⟩ := q56
          replace h56 := h56.symm
          subst h56
          refine x_iadd hg dX4_sumUp_59 ?_
          refine x_wrap (fun a60 h60 => ?_)
          refine x_putI hg dX4_sumUp_60 fl_X4_109 ft_4_8 (by decide) rfl ?_
          refine x_goto (tgt := 81) hg dX4_sumUp_63 (by decide) ?_
          first | exact j81 (by omega) _ (IL_f hL (Or.inr ⟨by omega, h60⟩)) (frL_mu hf (by decide)) | exact j81 (by omega) _ (IL_f hL (Or.inr ⟨by omega, h78⟩)) (frL_mu hf (by decide))
  refine x_aload_n hg dX4_sumUp_0 rfl ?_
  refine x_iconst hg dX4_sumUp_1 ?_
  refine x_putI hg dX4_sumUp_2 fl_X4_106 ft_4_7 (by decide) rfl ?_
  refine x_aload_n hg dX4_sumUp_5 rfl ?_
  refine x_iconst hg dX4_sumUp_6 ?_
  refine x_putI hg dX4_sumUp_7 fl_X4_109 ft_4_8 (by decide) rfl ?_
  refine x_iconst hg dX4_sumUp_10 ?_
  refine x_istore_n (ls' := [(0, _), (1, _), (2, _), (3, _)]) hg dX4_sumUp_11 rfl (by decide) rfl ?_
  exact loop 11 _ 0 (by omega) (by omega) (by omega) (IL_f (IL_f hL (Or.inr ⟨by omega, by decide⟩)) (Or.inr ⟨by omega, by decide⟩)) (frL_mu (frL_mu (fun a _ => rfl) (by decide)) (by decide))

theorem dX4_settle_0 : decode cX4_settle 0 = .ok (.aload_n 0, 1) := by decide +kernel
theorem dX4_settle_1 : decode cX4_settle 1 = .ok (.aload_n 3, 1) := by decide +kernel
theorem dX4_settle_2 : decode cX4_settle 2 = .ok (.invokevirtual 38, 3) := by decide +kernel
theorem dX4_settle_5 : decode cX4_settle 5 = .ok (.aload_n 0, 1) := by decide +kernel
theorem dX4_settle_6 : decode cX4_settle 6 = .ok (.iload_n 2, 1) := by decide +kernel
theorem dX4_settle_7 : decode cX4_settle 7 = .ok (.bipush 10, 2) := by decide +kernel
theorem dX4_settle_9 : decode cX4_settle 9 = .ok (.invokestatic 42, 3) := by decide +kernel
theorem dX4_settle_12 : decode cX4_settle 12 = .ok (.putfield 34, 3) := by decide +kernel
theorem dX4_settle_15 : decode cX4_settle 15 = .ok (.ldc2_w 48, 3) := by decide +kernel
theorem dX4_settle_18 : decode cX4_settle 18 = .ok (.lstore 5, 2) := by decide +kernel
theorem dX4_settle_20 : decode cX4_settle 20 = .ok (.iconst 0, 1) := by decide +kernel
theorem dX4_settle_21 : decode cX4_settle 21 = .ok (.istore 7, 2) := by decide +kernel
theorem dX4_settle_23 : decode cX4_settle 23 = .ok (.iload 7, 2) := by decide +kernel
theorem dX4_settle_25 : decode cX4_settle 25 = .ok (.aload_n 0, 1) := by decide +kernel
theorem dX4_settle_26 : decode cX4_settle 26 = .ok (.getfield 34, 3) := by decide +kernel
theorem dX4_settle_29 : decode cX4_settle 29 = .ok (.if_icmp .ge 48, 3) := by decide +kernel
theorem dX4_settle_32 : decode cX4_settle 32 = .ok (.aload_n 0, 1) := by decide +kernel
theorem dX4_settle_33 : decode cX4_settle 33 = .ok (.aload_n 0, 1) := by decide +kernel
theorem dX4_settle_34 : decode cX4_settle 34 = .ok (.getfield 13, 3) := by decide +kernel
theorem dX4_settle_37 : decode cX4_settle 37 = .ok (.iload 7, 2) := by decide +kernel
theorem dX4_settle_39 : decode cX4_settle 39 = .ok (.aaload, 1) := by decide +kernel
theorem dX4_settle_40 : decode cX4_settle 40 = .ok (.aload_n 1, 1) := by decide +kernel
theorem dX4_settle_41 : decode cX4_settle 41 = .ok (.iload 7, 2) := by decide +kernel
theorem dX4_settle_43 : decode cX4_settle 43 = .ok (.aaload, 1) := by decide +kernel
theorem dX4_settle_44 : decode cX4_settle 44 = .ok (.aload_n 3, 1) := by decide +kernel
theorem dX4_settle_45 : decode cX4_settle 45 = .ok (.iload 4, 2) := by decide +kernel
theorem dX4_settle_47 : decode cX4_settle 47 = .ok (.invokevirtual 50, 3) := by decide +kernel
theorem dX4_settle_50 : decode cX4_settle 50 = .ok (.aload_n 0, 1) := by decide +kernel
theorem dX4_settle_51 : decode cX4_settle 51 = .ok (.aload_n 0, 1) := by decide +kernel
theorem dX4_settle_52 : decode cX4_settle 52 = .ok (.getfield 13, 3) := by decide +kernel
theorem dX4_settle_55 : decode cX4_settle 55 = .ok (.iload 7, 2) := by decide +kernel
theorem dX4_settle_57 : decode cX4_settle 57 = .ok (.aaload, 1) := by decide +kernel
theorem dX4_settle_58 : decode cX4_settle 58 = .ok (.lload 5, 2) := by decide +kernel
theorem dX4_settle_60 : decode cX4_settle 60 = .ok (.invokevirtual 54, 3) := by decide +kernel
theorem dX4_settle_63 : decode cX4_settle 63 = .ok (.lload 5, 2) := by decide +kernel
theorem dX4_settle_65 : decode cX4_settle 65 = .ok (.ldc2_w 58, 3) := by decide +kernel
theorem dX4_settle_68 : decode cX4_settle 68 = .ok (.ldiv, 1) := by decide +kernel
theorem dX4_settle_69 : decode cX4_settle 69 = .ok (.lstore 5, 2) := by decide +kernel
theorem dX4_settle_71 : decode cX4_settle 71 = .ok (.iinc 7 1, 3) := by decide +kernel
theorem dX4_settle_74 : decode cX4_settle 74 = .ok (.goto (-51), 3) := by decide +kernel
theorem dX4_settle_77 : decode cX4_settle 77 = .ok (.iconst 0, 1) := by decide +kernel
theorem dX4_settle_78 : decode cX4_settle 78 = .ok (.istore 7, 2) := by decide +kernel
theorem dX4_settle_80 : decode cX4_settle 80 = .ok (.iload 7, 2) := by decide +kernel
theorem dX4_settle_82 : decode cX4_settle 82 = .ok (.aload_n 0, 1) := by decide +kernel
theorem dX4_settle_83 : decode cX4_settle 83 = .ok (.getfield 34, 3) := by decide +kernel
theorem dX4_settle_86 : decode cX4_settle 86 = .ok (.if_icmp .ge 21, 3) := by decide +kernel
theorem dX4_settle_89 : decode cX4_settle 89 = .ok (.aload_n 0, 1) := by decide +kernel
theorem dX4_settle_90 : decode cX4_settle 90 = .ok (.iload 7, 2) := by decide +kernel
theorem dX4_settle_92 : decode cX4_settle 92 = .ok (.invokevirtual 60, 3) := by decide +kernel
theorem dX4_settle_95 : decode cX4_settle 95 = .ok (.aload_n 0, 1) := by decide +kernel
theorem dX4_settle_96 : decode cX4_settle 96 = .ok (.iload 7, 2) := by decide +kernel
theorem dX4_settle_98 : decode cX4_settle 98 = .ok (.invokevirtual 64, 3) := by decide +kernel
theorem dX4_settle_101 : decode cX4_settle 101 = .ok (.iinc 7 1, 3) := by decide +kernel
theorem dX4_settle_104 : decode cX4_settle 104 = .ok (.goto (-24), 3) := by decide +kernel
theorem dX4_settle_107 : decode cX4_settle 107 = .ok (.aload_n 0, 1) := by decide +kernel
theorem dX4_settle_108 : decode cX4_settle 108 = .ok (.aload_n 1, 1) := by decide +kernel
theorem dX4_settle_109 : decode cX4_settle 109 = .ok (.aload_n 3, 1) := by decide +kernel
theorem dX4_settle_110 : decode cX4_settle 110 = .ok (.invokevirtual 67, 3) := by decide +kernel
theorem dX4_settle_113 : decode cX4_settle 113 = .ok (.return_, 1) := by decide +kernel
set_option maxHeartbeats 4000000 in
set_option maxRecDepth 20000 in
theorem c_X4_settle (l : Launch) (b : Nat) (D : va_G) (cy : Nat → ClassId) {tt : Nat} {M0 : xMm} {q : Nat} {y v : Int} (hL : IL M0) (hC : IC M0) (hI : IR M0) (hch : pChs M0) (hq : xTt q) (hy : 0 ≤ y ∧ y ≤ 10) (hv : inR v) : xC l b D cy yX4_settle cX4_settle 8 none ({ frames := 4, cells := 0, slots := 0, locals := 100 }) [xr 68, xr 84, xi y, xr q, xi v] 209 M0 (RS tt) (xPv 209 (RS tt) (fun M' => IL M' ∧ frL M' M0)) := by
  refine x_met (by decide) (Nat.le_of_ble_eq_true rfl) (fun g hg hr he => ?_)
  refine x_canon (ls' := [(0, _), (1, _), (2, _), (3, _), (4, _)]) rfl ?_
  have loop2 : ∀ (n1 : Nat) (M : xMm) (i d : Int), 0 ≤ i → i ≤ 10 → 10 - i < n1 → IL M → frL M M0 → xW g 209 M (RS tt) 0 0 80 [(0, xr 68), (1, xr 84), (2, xi y), (3, xr q), (4, xi v), (5, xl d), (7, xi i)] [] := by
    intro n1
    induction n1 with
    | zero => intro M i d hi1 hi2 hi3 hL hf; exfalso; omega
    | succ n1 ih =>
      intro M i d hi1 hi2 hi3 hL hf
      obtain ⟨hl1, hl2, hl3, hl4⟩ := id hL
      refine x_iload hg dX4_settle_80 rfl ?_
      refine x_aload_n hg dX4_settle_82 rfl ?_
      refine x_getI hg dX4_settle_83 fl_X4_34 (by decide) rfl ?_
      refine x_icmp_ge (tgt := 107) hg dX4_settle_86 (by decide) (by omega) (by omega) (fun c86 => ?_) (fun c86 => ?_)
      · skip
        refine x_aload_n hg dX4_settle_107 rfl ?_
        refine x_aload_n hg dX4_settle_108 rfl ?_
        refine x_aload_n hg dX4_settle_109 rfl ?_
        refine x_cVv hg he [_, _] [] dX4_settle_110 mv_X4_67 (c_X4_sumUp l b D cy hL (IC_L hf hC) (IR_L hf hI) (pChs_L hf hch) hq) (by decide) rfl rfl (Nat.le_of_ble_eq_true rfl) (by decide) (by decide) (fun M110 q110 => ?_)
        obtain ⟨hL110, hf110⟩ := q110
        refine x_vret hg hr dX4_settle_113 (Nat.le_refl _) (Nat.le_refl _) ?_
        exact ⟨rfl, rfl, rfl, hL110, frL_tr hf110 hf⟩
      · skip
        refine x_aload_n hg dX4_settle_89 rfl ?_
        refine x_iload hg dX4_settle_90 rfl ?_
        refine x_cVv hg he [_] [] dX4_settle_92 mv_X4_60 (c_X4_seekChains l b D cy hL (by omega)) (by decide) rfl rfl (Nat.le_of_ble_eq_true rfl) (by decide) (by decide) (fun M92 q92 => ?_)
        obtain ⟨hL92, hf92⟩ := q92
        refine x_aload_n hg dX4_settle_95 rfl ?_
        refine x_iload hg dX4_settle_96 rfl ?_
        refine x_cVv hg he [_] [] dX4_settle_98 mv_X4_64 (c_X4_place l b D cy hL92 (by omega)) (by decide) rfl rfl (Nat.le_of_ble_eq_true rfl) (by decide) (by decide) (fun M98 q98 => ?_)
        obtain ⟨hL98, hf98⟩ := q98
        refine x_iinc (ls' := [(0, _), (1, _), (2, _), (3, _), (4, _), (5, _), (7, _)]) hg dX4_settle_101 rfl (by decide) rfl ?_
        refine x_goto (tgt := 80) hg dX4_settle_104 (by decide) ?_
        exact ih _ _ _ (by omega) (by omega) (by omega) hL98 (frL_tr hf98 (frL_tr hf92 hf))
  have loop1 : ∀ (n1 : Nat) (M : xMm) (i d : Int), 0 ≤ i → i ≤ 10 → 10 - i < n1 → IL M → frL M M0 → xW g 209 M (RS tt) 0 0 23 [(0, xr 68), (1, xr 84), (2, xi y), (3, xr q), (4, xi v), (5, xl d), (7, xi i)] [] := by
    intro n1
    induction n1 with
    | zero => intro M i d hi1 hi2 hi3 hL hf; exfalso; omega
    | succ n1 ih =>
      intro M i d hi1 hi2 hi3 hL hf
      obtain ⟨hl1, hl2, hl3, hl4⟩ := id hL
      refine x_iload hg dX4_settle_23 rfl ?_
      refine x_aload_n hg dX4_settle_25 rfl ?_
      refine x_getI hg dX4_settle_26 fl_X4_34 (by decide) rfl ?_
      refine x_icmp_ge (tgt := 77) hg dX4_settle_29 (by decide) (by omega) (by omega) (fun c29 => ?_) (fun c29 => ?_)
      · skip
        refine x_iconst hg dX4_settle_77 ?_
        refine x_istore (ls' := [(0, _), (1, _), (2, _), (3, _), (4, _), (5, _), (7, _)]) hg dX4_settle_78 (by decide) rfl ?_
        exact loop2 11 M 0 _ (by omega) (by omega) (by omega) hL hf
      · skip
        refine x_aload_n hg dX4_settle_32 rfl ?_
        refine x_aload_n hg dX4_settle_33 rfl ?_
        refine x_getR (j9 := 69) hg dX4_settle_34 fl_X4_13 (by decide) rfl rfl (by decide) ?_
        refine x_iload hg dX4_settle_37 rfl ?_
        refine x_aaload (len := 10) (et := 9) hg dX4_settle_39 (by decide) (by decide) (by omega) (RS_row _ _) (by omega) ?_
        refine x_aload_n hg dX4_settle_40 rfl ?_
        refine x_iload hg dX4_settle_41 rfl ?_
        refine x_aaload (len := 10) (et := 5) hg dX4_settle_43 (by decide) (by decide) (by omega) (RS_churn _ _) (by omega) ?_
        refine x_aload_n hg dX4_settle_44 rfl ?_
        refine x_iload hg dX4_settle_45 rfl ?_
        refine x_cVv hg he [_, _, _, _] [] dX4_settle_47 mv_X4_50 (c_X4_setCosts l b D cy hL (IC_L hf hC) (IR_L hf hI) (by omega) ((pChs_L hf hch) i.toNat (by omega)).1 ((pChs_L hf hch) i.toNat (by omega)).2 (by omega) hq (by omega)) (by decide) rfl rfl (Nat.le_of_ble_eq_true rfl) (by decide) (by decide) (fun M47 q47 => ?_)
        obtain ⟨hL47, hf47⟩ := q47
        refine x_aload_n hg dX4_settle_50 rfl ?_
        refine x_aload_n hg dX4_settle_51 rfl ?_
        refine x_getR (j9 := 69) hg dX4_settle_52 fl_X4_13 (by decide) rfl rfl (by decide) ?_
        refine x_iload hg dX4_settle_55 rfl ?_
        refine x_aaload (len := 10) (et := 9) hg dX4_settle_57 (by decide) (by decide) (by omega) (RS_row _ _) (by omega) ?_
        refine x_lload hg dX4_settle_58 rfl ?_
        refine x_cVv hg he [_, _] [] dX4_settle_60 mv_X4_54 (c_X4_addDigits l b D cy hL47 (by omega)) (by decide) rfl rfl (Nat.le_of_ble_eq_true rfl) (by decide) (by decide) (fun M60 q60 => ?_)
        obtain ⟨hL60, hf60⟩ := q60
        refine x_lload hg dX4_settle_63 rfl ?_
        refine x_ldc2 hg 9 dX4_settle_65 (List.mem_of_getElem? (i := 705) (by decide +kernel)) ?_
        refine x_ldivW hg dX4_settle_68 (by omega) (fun a68 h68 => ?_)
        refine x_lstore (ls' := [(0, _), (1, _), (2, _), (3, _), (4, _), (5, _), (7, _)]) hg dX4_settle_69 (by decide) rfl ?_
        refine x_iinc (ls' := [(0, _), (1, _), (2, _), (3, _), (4, _), (5, _), (7, _)]) hg dX4_settle_71 rfl (by decide) rfl ?_
        refine x_goto (tgt := 23) hg dX4_settle_74 (by decide) ?_
        exact ih _ _ _ (by omega) (by omega) (by omega) hL60 (frL_tr hf60 (frL_tr hf47 hf))
  refine x_aload_n hg dX4_settle_0 rfl ?_
  refine x_aload_n hg dX4_settle_1 rfl ?_
  refine x_cVv hg he [_] [] dX4_settle_2 mv_X4_38 (c_X4_makeRoom l b D cy hL hI hq) (by decide) rfl rfl (Nat.le_of_ble_eq_true rfl) (by decide) (by decide) (fun M2 q2 => ?_)
  obtain ⟨hL2, hf2⟩ := q2
  refine x_aload_n hg dX4_settle_5 rfl ?_
  refine x_iload_n hg dX4_settle_6 rfl ?_
  refine x_bipush hg dX4_settle_7 (by decide) ?_
  refine x_min hg dX4_settle_9 (List.mem_of_getElem? (i := 691) (by decide +kernel)) (by omega) (by omega) ⟨by decide, Nat.le_of_ble_eq_true rfl⟩ (by decide) ?_
  refine x_putI hg dX4_settle_12 fl_X4_34 ft_4_6 (by decide) rfl ?_
  refine x_ldc2 hg 387420489 dX4_settle_15 (List.mem_of_getElem? (i := 692) (by decide +kernel)) ?_
  refine x_lstore (ls' := [(0, _), (1, _), (2, _), (3, _), (4, _), (5, _)]) hg dX4_settle_18 (by decide) rfl ?_
  refine x_iconst hg dX4_settle_20 ?_
  refine x_istore (ls' := [(0, _), (1, _), (2, _), (3, _), (4, _), (5, _), (7, _)]) hg dX4_settle_21 (by decide) rfl ?_
  exact loop1 11 _ 0 _ (by omega) (by omega) (by omega) (IL_f hL2 (Or.inl ⟨rfl, by split <;> omega⟩)) (frL_mu hf2 (by decide))
