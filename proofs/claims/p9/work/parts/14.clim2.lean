theorem IC_parts {M : xMm} (h : IC M) : (∀ k : Nat, k < 24 → -1 ≤ M 58 k ∧ M 58 k ≤ 40) ∧ (∀ k : Nat, k < 10 → 0 ≤ M 59 k ∧ M 59 k ≤ 1) ∧ (∀ k : Nat, k < 29 → (0 ≤ M 60 k ∧ M 60 k ≤ 36) ∧ (0 ≤ M 61 k ∧ M 61 k ≤ 62640) ∧ (0 ≤ M 62 k ∧ M 62 k ≤ 62640)) :=
  ⟨h.1, fun k hk => by rcases h.2.1 k hk with e | e <;> omega, fun k hk => ⟨IC_rate h hk, (h.2.2 k hk).2⟩⟩
theorem mul_bd {a c A C : Int} (h1 : 0 ≤ a) (h2 : a ≤ A) (h3 : 0 ≤ c) (h4 : c ≤ C) : 0 ≤ a * c ∧ a * c ≤ A * C :=
  ⟨Int.mul_nonneg h1 h3, Int.le_trans (Int.mul_le_mul_of_nonneg_right h2 h3) (Int.mul_le_mul_of_nonneg_left h4 (by omega))⟩

theorem dX2_sumUp_0 : decode cX2_sumUp 0 = .ok (.iconst 0, 1) := by decide +kernel
theorem dX2_sumUp_1 : decode cX2_sumUp 1 = .ok (.istore_n 1, 1) := by decide +kernel
theorem dX2_sumUp_2 : decode cX2_sumUp 2 = .ok (.iconst 0, 1) := by decide +kernel
theorem dX2_sumUp_3 : decode cX2_sumUp 3 = .ok (.istore_n 2, 1) := by decide +kernel
theorem dX2_sumUp_4 : decode cX2_sumUp 4 = .ok (.iconst 0, 1) := by decide +kernel
theorem dX2_sumUp_5 : decode cX2_sumUp 5 = .ok (.istore_n 3, 1) := by decide +kernel
theorem dX2_sumUp_6 : decode cX2_sumUp 6 = .ok (.iload_n 3, 1) := by decide +kernel
theorem dX2_sumUp_7 : decode cX2_sumUp 7 = .ok (.bipush 29, 2) := by decide +kernel
theorem dX2_sumUp_9 : decode cX2_sumUp 9 = .ok (.if_icmp .ge 66, 3) := by decide +kernel
theorem dX2_sumUp_12 : decode cX2_sumUp 12 = .ok (.aload_n 0, 1) := by decide +kernel
theorem dX2_sumUp_13 : decode cX2_sumUp 13 = .ok (.getfield 19, 3) := by decide +kernel
theorem dX2_sumUp_16 : decode cX2_sumUp 16 = .ok (.iload_n 3, 1) := by decide +kernel
theorem dX2_sumUp_17 : decode cX2_sumUp 17 = .ok (.iconst 0, 1) := by decide +kernel
theorem dX2_sumUp_18 : decode cX2_sumUp 18 = .ok (.aload_n 0, 1) := by decide +kernel
theorem dX2_sumUp_19 : decode cX2_sumUp 19 = .ok (.iload_n 3, 1) := by decide +kernel
theorem dX2_sumUp_20 : decode cX2_sumUp 20 = .ok (.invokevirtual 39, 3) := by decide +kernel
theorem dX2_sumUp_23 : decode cX2_sumUp 23 = .ok (.iconst 4, 1) := by decide +kernel
theorem dX2_sumUp_24 : decode cX2_sumUp 24 = .ok (.isub, 1) := by decide +kernel
theorem dX2_sumUp_25 : decode cX2_sumUp 25 = .ok (.invokestatic 43, 3) := by decide +kernel
theorem dX2_sumUp_28 : decode cX2_sumUp 28 = .ok (.iastore, 1) := by decide +kernel
theorem dX2_sumUp_29 : decode cX2_sumUp 29 = .ok (.aload_n 0, 1) := by decide +kernel
theorem dX2_sumUp_30 : decode cX2_sumUp 30 = .ok (.getfield 22, 3) := by decide +kernel
theorem dX2_sumUp_33 : decode cX2_sumUp 33 = .ok (.iload_n 3, 1) := by decide +kernel
theorem dX2_sumUp_34 : decode cX2_sumUp 34 = .ok (.iload_n 1, 1) := by decide +kernel
theorem dX2_sumUp_35 : decode cX2_sumUp 35 = .ok (.iastore, 1) := by decide +kernel
theorem dX2_sumUp_36 : decode cX2_sumUp 36 = .ok (.aload_n 0, 1) := by decide +kernel
theorem dX2_sumUp_37 : decode cX2_sumUp 37 = .ok (.getfield 25, 3) := by decide +kernel
theorem dX2_sumUp_40 : decode cX2_sumUp 40 = .ok (.iload_n 3, 1) := by decide +kernel
theorem dX2_sumUp_41 : decode cX2_sumUp 41 = .ok (.iload_n 2, 1) := by decide +kernel
theorem dX2_sumUp_42 : decode cX2_sumUp 42 = .ok (.iastore, 1) := by decide +kernel
theorem dX2_sumUp_43 : decode cX2_sumUp 43 = .ok (.iload_n 1, 1) := by decide +kernel
theorem dX2_sumUp_44 : decode cX2_sumUp 44 = .ok (.bipush 60, 2) := by decide +kernel
theorem dX2_sumUp_46 : decode cX2_sumUp 46 = .ok (.aload_n 0, 1) := by decide +kernel
theorem dX2_sumUp_47 : decode cX2_sumUp 47 = .ok (.getfield 19, 3) := by decide +kernel
theorem dX2_sumUp_50 : decode cX2_sumUp 50 = .ok (.iload_n 3, 1) := by decide +kernel
theorem dX2_sumUp_51 : decode cX2_sumUp 51 = .ok (.iaload, 1) := by decide +kernel
theorem dX2_sumUp_52 : decode cX2_sumUp 52 = .ok (.imul, 1) := by decide +kernel
theorem dX2_sumUp_53 : decode cX2_sumUp 53 = .ok (.iadd, 1) := by decide +kernel
theorem dX2_sumUp_54 : decode cX2_sumUp 54 = .ok (.istore_n 1, 1) := by decide +kernel
theorem dX2_sumUp_55 : decode cX2_sumUp 55 = .ok (.iload_n 2, 1) := by decide +kernel
theorem dX2_sumUp_56 : decode cX2_sumUp 56 = .ok (.bipush 60, 2) := by decide +kernel
theorem dX2_sumUp_58 : decode cX2_sumUp 58 = .ok (.aload_n 0, 1) := by decide +kernel
theorem dX2_sumUp_59 : decode cX2_sumUp 59 = .ok (.getfield 19, 3) := by decide +kernel
theorem dX2_sumUp_62 : decode cX2_sumUp 62 = .ok (.iload_n 3, 1) := by decide +kernel
theorem dX2_sumUp_63 : decode cX2_sumUp 63 = .ok (.iaload, 1) := by decide +kernel
theorem dX2_sumUp_64 : decode cX2_sumUp 64 = .ok (.iconst 4, 1) := by decide +kernel
theorem dX2_sumUp_65 : decode cX2_sumUp 65 = .ok (.idiv, 1) := by decide +kernel
theorem dX2_sumUp_66 : decode cX2_sumUp 66 = .ok (.imul, 1) := by decide +kernel
theorem dX2_sumUp_67 : decode cX2_sumUp 67 = .ok (.iadd, 1) := by decide +kernel
theorem dX2_sumUp_68 : decode cX2_sumUp 68 = .ok (.istore_n 2, 1) := by decide +kernel
theorem dX2_sumUp_69 : decode cX2_sumUp 69 = .ok (.iinc 3 1, 3) := by decide +kernel
theorem dX2_sumUp_72 : decode cX2_sumUp 72 = .ok (.goto (-66), 3) := by decide +kernel
theorem dX2_sumUp_75 : decode cX2_sumUp 75 = .ok (.return_, 1) := by decide +kernel
set_option maxHeartbeats 4000000 in
set_option maxRecDepth 20000 in
theorem c_X2_sumUp (l : Launch) (b : Nat) (D : va_G) (cy : Nat → ClassId) {n : Nat} {R : xRm} {M0 : xMm} (hn : 62 ≤ n) (hR : ∀ k, k < 5 → R 57 k = 58 + k) (hT : ITo M0 58) : xC l b D cy yX2_sumUp cX2_sumUp 4 none ({ frames := 2, cells := 0, slots := 0, locals := 46 }) [xr 57] n M0 R (xPv n R (fun M' => (∀ a, a ≠ 60 → a ≠ 61 → a ≠ 62 → M' a = M0 a) ∧ ∀ h, h < 29 → M' 60 h = rate M0 58 h ∧ (0 ≤ M' 61 h ∧ M' 61 h ≤ 62640) ∧ (0 ≤ M' 62 h ∧ M' 62 h ≤ 62640))) := by
  refine x_met (by decide) (Nat.le_of_ble_eq_true rfl) (fun g hg hr he => ?_)
  refine x_canon (ls' := [(0, _)]) rfl ?_
  have loop : ∀ (c : Nat) (i : Nat) (M : xMm) (u v : Int), i ≤ 29 → 29 < i + c → (0 ≤ u ∧ u ≤ 2160 * i) → (0 ≤ v ∧ v ≤ 2160 * i) → (∀ a, a ≠ 60 → a ≠ 61 → a ≠ 62 → M a = M0 a) → (∀ h, h < i → M 60 h = rate M0 58 h ∧ (0 ≤ M 61 h ∧ M 61 h ≤ 62640) ∧ (0 ≤ M 62 h ∧ M 62 h ≤ 62640)) → xW g n M R 0 0 6 [(0, xr 57), (1, xi u), (2, xi v), (3, xi (i : Int))] [] := by
    intro c
    induction c with
    | zero => intro i M u v h1 h2; exact absurd h2 (by omega)
    | succ c ih =>
      intro i M u v hi hc hu hv hfr hh
      have e58 : M 58 = M0 58 := hfr 58 (by decide) (by decide) (by decide)
      have hT1 : ITo M 58 := fun k hk => by rw [e58]; exact hT k hk
      have hw := wOf_le hT1 i
      have er : rate M 58 i = rate M0 58 i := rate_congr (fun j _ => by rw [e58]) i
      refine x_iload_n hg dX2_sumUp_6 rfl ?_
      refine x_bipush hg dX2_sumUp_7 (by decide) ?_
      refine x_icmp_ge (tgt := 75) hg dX2_sumUp_9 (by decide) (by omega) (by omega) (fun c9 => ?_) (fun c9 => ?_)
      · skip
        refine x_vret hg hr dX2_sumUp_75 (Nat.le_refl _) (Nat.le_refl _) ?_
        refine ⟨rfl, rfl, rfl, hfr, fun h hh2 => hh h (by omega)⟩
      · skip
        refine x_aload_n hg dX2_sumUp_12 rfl ?_
        refine x_getR (j9 := 60) hg dX2_sumUp_13 fl_X2_19 (oC hn) rfl (hR 2 (by decide)) (by decide) ?_
        refine x_iload_n hg dX2_sumUp_16 rfl ?_
        refine x_iconst hg dX2_sumUp_17 ?_
        refine x_aload_n hg dX2_sumUp_18 rfl ?_
        refine x_iload_n hg dX2_sumUp_19 rfl ?_
        refine x_cVi hg he [_] [_, _, _] dX2_sumUp_20 mv_X2_39 (c_X2_warmthOf l b D cy hn hR hT1 (by omega)) (oC hn) rfl rfl (Nat.le_of_ble_eq_true rfl) (by decide) (by decide) (fun r20 M20 q20 => ?_)
        obtain ⟨h20, e20⟩ := q20
        replace h20 := h20.symm
        subst h20
        rw [show (i : Int).toNat = i from Int.toNat_natCast i] at e20
        refine x_iconst hg dX2_sumUp_23 ?_
        refine x_isub hg dX2_sumUp_24 ?_
        refine x_max hg dX2_sumUp_25 (List.mem_of_getElem? (i := 215) (by decide +kernel)) (by omega) (by omega) ⟨by decide, Nat.le_of_ble_eq_true rfl⟩ (by decide) ?_
        have e28 : (if (0 : Int) < r20 - 4 then r20 - 4 else 0) = rate M0 58 i := by
          rw [← er]
          unfold rate
          rw [← e20]
          split <;> split <;> omega
        rw [e28]
        have hrt := rate_le hT i
        obtain ⟨ra, hra⟩ : ∃ ra, ra = rate M0 58 i := ⟨_, rfl⟩
        rw [← hra] at hrt ⊢
        refine x_iastore (len := 29) hg dX2_sumUp_28 (aC2 hn) (by omega)  ?_
        refine x_aload_n hg dX2_sumUp_29 rfl ?_
        refine x_getR (j9 := 61) hg dX2_sumUp_30 fl_X2_22 (oC hn) rfl (hR 3 (by decide)) (by decide) ?_
        refine x_iload_n hg dX2_sumUp_33 rfl ?_
        refine x_iload_n hg dX2_sumUp_34 rfl ?_
        refine x_iastore (len := 29) hg dX2_sumUp_35 (aC3 hn) (by omega)  ?_
        refine x_aload_n hg dX2_sumUp_36 rfl ?_
        refine x_getR (j9 := 62) hg dX2_sumUp_37 fl_X2_25 (oC hn) rfl (hR 4 (by decide)) (by decide) ?_
        refine x_iload_n hg dX2_sumUp_40 rfl ?_
        refine x_iload_n hg dX2_sumUp_41 rfl ?_
        refine x_iastore (len := 29) hg dX2_sumUp_42 (aC4 hn) (by omega)  ?_
        refine x_iload_n hg dX2_sumUp_43 rfl ?_
        refine x_bipush hg dX2_sumUp_44 (by decide) ?_
        refine x_aload_n hg dX2_sumUp_46 rfl ?_
        refine x_getR (j9 := 60) hg dX2_sumUp_47 fl_X2_19 (oC hn) rfl (hR 2 (by decide)) (by decide) ?_
        refine x_iload_n hg dX2_sumUp_50 rfl ?_
        refine x_iaload (len := 29) hg dX2_sumUp_51 (aC2 hn) (by omega) ?_
        try simp (disch := omega) only [mu_s, mu_nf, mu_nc]
        refine x_imul hg dX2_sumUp_52 ?_
        refine x_iadd hg dX2_sumUp_53 ?_
        refine x_istore_n (ls' := [(0, _), (1, _), (2, _), (3, _)]) hg dX2_sumUp_54 rfl (by decide) rfl ?_
        refine x_iload_n hg dX2_sumUp_55 rfl ?_
        refine x_bipush hg dX2_sumUp_56 (by decide) ?_
        refine x_aload_n hg dX2_sumUp_58 rfl ?_
        refine x_getR (j9 := 60) hg dX2_sumUp_59 fl_X2_19 (oC hn) rfl (hR 2 (by decide)) (by decide) ?_
        refine x_iload_n hg dX2_sumUp_62 rfl ?_
        refine x_iaload (len := 29) hg dX2_sumUp_63 (aC2 hn) (by omega) ?_
        try simp (disch := omega) only [mu_s, mu_nf, mu_nc]
        refine x_iconst hg dX2_sumUp_64 ?_
        refine x_idiv hg dX2_sumUp_65 (by omega) (by omega) ?_
        refine x_imul hg dX2_sumUp_66 ?_
        refine x_iadd hg dX2_sumUp_67 ?_
        refine x_istore_n (ls' := [(0, _), (1, _), (2, _), (3, _)]) hg dX2_sumUp_68 rfl (by decide) rfl ?_
        refine x_iinc (ls' := [(0, _), (1, _), (2, _), (3, _)]) hg dX2_sumUp_69 rfl (by decide) rfl ?_
        refine x_goto (tgt := 6) hg dX2_sumUp_72 (by decide) ?_
        refine ih (i + 1) _ _ _ (by omega) (by omega) ?_ ?_ (fun a h0 h1 h2 => ?_) (fun h hh2 => ?_)
        · constructor <;> omega
        · constructor <;> omega
        · rw [← hfr a h0 h1 h2]
          funext j
          rw [mu_nc h2, mu_nc h1, mu_nc h0]
        · simp only [Int.toNat_natCast]
          by_cases hhi : h = i
          · subst hhi
            simp only [mu_s, mu_nc (show (60 : Nat) ≠ 62 by decide), mu_nc (show (60 : Nat) ≠ 61 by decide), mu_nc (show (61 : Nat) ≠ 62 by decide)]
            exact ⟨hra, by omega, by omega⟩
          · have := hh h (by omega)
            simp only [mu_nf hhi]
            exact this
  refine x_iconst hg dX2_sumUp_0 ?_
  refine x_istore_n (ls' := [(0, _), (1, _)]) hg dX2_sumUp_1 rfl (by decide) rfl ?_
  refine x_iconst hg dX2_sumUp_2 ?_
  refine x_istore_n (ls' := [(0, _), (1, _), (2, _)]) hg dX2_sumUp_3 rfl (by decide) rfl ?_
  refine x_iconst hg dX2_sumUp_4 ?_
  refine x_istore_n (ls' := [(0, _), (1, _), (2, _), (3, _)]) hg dX2_sumUp_5 rfl (by decide) rfl ?_
  exact loop 30 0 M0 0 0 (by omega) (by omega) (by omega) (by omega) (fun a _ _ _ => rfl) (fun h hh => absurd hh (by omega))

theorem dX2_isCooled_0 : decode cX2_isCooled 0 = .ok (.iload_n 1, 1) := by decide +kernel
theorem dX2_isCooled_1 : decode cX2_isCooled 1 = .ok (.ifCond .lt 22, 3) := by decide +kernel
theorem dX2_isCooled_4 : decode cX2_isCooled 4 = .ok (.iload_n 1, 1) := by decide +kernel
theorem dX2_isCooled_5 : decode cX2_isCooled 5 = .ok (.bipush 10, 2) := by decide +kernel
theorem dX2_isCooled_7 : decode cX2_isCooled 7 = .ok (.if_icmp .ge 16, 3) := by decide +kernel
theorem dX2_isCooled_10 : decode cX2_isCooled 10 = .ok (.aload_n 0, 1) := by decide +kernel
theorem dX2_isCooled_11 : decode cX2_isCooled 11 = .ok (.getfield 15, 3) := by decide +kernel
theorem dX2_isCooled_14 : decode cX2_isCooled 14 = .ok (.iload_n 1, 1) := by decide +kernel
theorem dX2_isCooled_15 : decode cX2_isCooled 15 = .ok (.baload, 1) := by decide +kernel
theorem dX2_isCooled_16 : decode cX2_isCooled 16 = .ok (.ifCond .eq 7, 3) := by decide +kernel
theorem dX2_isCooled_19 : decode cX2_isCooled 19 = .ok (.iconst 1, 1) := by decide +kernel
theorem dX2_isCooled_20 : decode cX2_isCooled 20 = .ok (.goto 4, 3) := by decide +kernel
theorem dX2_isCooled_23 : decode cX2_isCooled 23 = .ok (.iconst 0, 1) := by decide +kernel
theorem dX2_isCooled_24 : decode cX2_isCooled 24 = .ok (.ireturn, 1) := by decide +kernel
set_option maxHeartbeats 4000000 in
set_option maxRecDepth 20000 in
theorem c_X2_isCooled (l : Launch) (b : Nat) (D : va_G) (cy : Nat → ClassId) {tt : Nat} {M : xMm} {z : Int} (hI : IC M) (hz : inR z) : xC l b D cy yX2_isCooled cX2_isCooled 2 (some .boolean) ({ frames := 0, cells := 0, slots := 0, locals := 0 }) [xr 57, xi z] 209 M (RS tt) (xPi 209 (RS tt) (fun r M' => M' = M ∧ ((0 ≤ z ∧ z < 10 ∧ M 59 z.toNat ≠ 0) ∧ r = 1 ∨ ¬ (0 ≤ z ∧ z < 10 ∧ M 59 z.toNat ≠ 0) ∧ r = 0))) := by
  refine x_met (by decide) (Nat.le_of_ble_eq_true rfl) (fun g hg hr he => ?_)
  obtain ⟨hTo, hCo, hRa⟩ := IC_parts hI
  refine x_canon (ls' := [(0, _), (1, _)]) rfl ?_
  refine x_iload_n hg dX2_isCooled_0 rfl ?_
  refine x_if_lt (tgt := 23) hg dX2_isCooled_1 (by decide) (by omega) (fun c1 => ?_) (fun c1 => ?_)
  · skip
    refine x_iconst hg dX2_isCooled_23 ?_
    refine x_iret hg hr (Or.inr ⟨rfl, by first | exact Or.inl rfl | exact Or.inr rfl | omega⟩) dX2_isCooled_24 (Nat.le_refl _) (Nat.le_refl _) ?_
    exact ⟨rfl, rfl, _, rfl, rfl, by omega⟩
  · skip
    refine x_iload_n hg dX2_isCooled_4 rfl ?_
    refine x_bipush hg dX2_isCooled_5 (by decide) ?_
    refine x_icmp_ge (tgt := 23) hg dX2_isCooled_7 (by decide) (by omega) (by omega) (fun c7 => ?_) (fun c7 => ?_)
    · skip
      refine x_iconst hg dX2_isCooled_23 ?_
      refine x_iret hg hr (Or.inr ⟨rfl, by first | exact Or.inl rfl | exact Or.inr rfl | omega⟩) dX2_isCooled_24 (Nat.le_refl _) (Nat.le_refl _) ?_
      exact ⟨rfl, rfl, _, rfl, rfl, by omega⟩
    · skip
      refine x_aload_n hg dX2_isCooled_10 rfl ?_
      refine x_getR (j9 := 59) hg dX2_isCooled_11 fl_X2_15 (by decide) rfl rfl (by decide) ?_
      refine x_iload_n hg dX2_isCooled_14 rfl ?_
      refine x_zaload (len := 10) hg dX2_isCooled_15 (by decide) (by omega) ?_
      refine x_if_eq (tgt := 23) hg dX2_isCooled_16 (by decide) (by have h1 := hCo z.toNat (by omega); omega) (fun c16 => ?_) (fun c16 => ?_)
      · skip
        refine x_iconst hg dX2_isCooled_23 ?_
        refine x_iret hg hr (Or.inr ⟨rfl, by first | exact Or.inl rfl | exact Or.inr rfl | omega⟩) dX2_isCooled_24 (Nat.le_refl _) (Nat.le_refl _) ?_
        exact ⟨rfl, rfl, _, rfl, rfl, by omega⟩
      · skip
        refine x_iconst hg dX2_isCooled_19 ?_
        refine x_goto (tgt := 24) hg dX2_isCooled_20 (by decide) ?_
        refine x_iret hg hr (Or.inr ⟨rfl, by first | exact Or.inl rfl | exact Or.inr rfl | omega⟩) dX2_isCooled_24 (Nat.le_refl _) (Nat.le_refl _) ?_
        exact ⟨rfl, rfl, _, rfl, rfl, by omega⟩

theorem dX2_until_0 : decode cX2_until 0 = .ok (.iload_n 1, 1) := by decide +kernel
theorem dX2_until_1 : decode cX2_until 1 = .ok (.bipush 60, 2) := by decide +kernel
theorem dX2_until_3 : decode cX2_until 3 = .ok (.idiv, 1) := by decide +kernel
theorem dX2_until_4 : decode cX2_until 4 = .ok (.istore_n 3, 1) := by decide +kernel
theorem dX2_until_5 : decode cX2_until 5 = .ok (.iload_n 3, 1) := by decide +kernel
theorem dX2_until_6 : decode cX2_until 6 = .ok (.ifCond .lt 9, 3) := by decide +kernel
theorem dX2_until_9 : decode cX2_until 9 = .ok (.iload_n 3, 1) := by decide +kernel
theorem dX2_until_10 : decode cX2_until 10 = .ok (.bipush 29, 2) := by decide +kernel
theorem dX2_until_12 : decode cX2_until 12 = .ok (.if_icmp .lt 5, 3) := by decide +kernel
theorem dX2_until_15 : decode cX2_until 15 = .ok (.iconst 0, 1) := by decide +kernel
theorem dX2_until_16 : decode cX2_until 16 = .ok (.ireturn, 1) := by decide +kernel
theorem dX2_until_17 : decode cX2_until 17 = .ok (.iload_n 1, 1) := by decide +kernel
theorem dX2_until_18 : decode cX2_until 18 = .ok (.bipush 60, 2) := by decide +kernel
theorem dX2_until_20 : decode cX2_until 20 = .ok (.irem, 1) := by decide +kernel
theorem dX2_until_21 : decode cX2_until 21 = .ok (.istore 4, 2) := by decide +kernel
theorem dX2_until_23 : decode cX2_until 23 = .ok (.iload_n 2, 1) := by decide +kernel
theorem dX2_until_24 : decode cX2_until 24 = .ok (.ifCond .eq 24, 3) := by decide +kernel
theorem dX2_until_27 : decode cX2_until 27 = .ok (.aload_n 0, 1) := by decide +kernel
theorem dX2_until_28 : decode cX2_until 28 = .ok (.getfield 25, 3) := by decide +kernel
theorem dX2_until_31 : decode cX2_until 31 = .ok (.iload_n 3, 1) := by decide +kernel
theorem dX2_until_32 : decode cX2_until 32 = .ok (.iaload, 1) := by decide +kernel
theorem dX2_until_33 : decode cX2_until 33 = .ok (.iload 4, 2) := by decide +kernel
theorem dX2_until_35 : decode cX2_until 35 = .ok (.aload_n 0, 1) := by decide +kernel
theorem dX2_until_36 : decode cX2_until 36 = .ok (.getfield 19, 3) := by decide +kernel
theorem dX2_until_39 : decode cX2_until 39 = .ok (.iload_n 3, 1) := by decide +kernel
theorem dX2_until_40 : decode cX2_until 40 = .ok (.iaload, 1) := by decide +kernel
theorem dX2_until_41 : decode cX2_until 41 = .ok (.iconst 4, 1) := by decide +kernel
theorem dX2_until_42 : decode cX2_until 42 = .ok (.idiv, 1) := by decide +kernel
theorem dX2_until_43 : decode cX2_until 43 = .ok (.imul, 1) := by decide +kernel
theorem dX2_until_44 : decode cX2_until 44 = .ok (.iadd, 1) := by decide +kernel
theorem dX2_until_45 : decode cX2_until 45 = .ok (.goto 19, 3) := by decide +kernel
theorem dX2_until_48 : decode cX2_until 48 = .ok (.aload_n 0, 1) := by decide +kernel
theorem dX2_until_49 : decode cX2_until 49 = .ok (.getfield 22, 3) := by decide +kernel
theorem dX2_until_52 : decode cX2_until 52 = .ok (.iload_n 3, 1) := by decide +kernel
theorem dX2_until_53 : decode cX2_until 53 = .ok (.iaload, 1) := by decide +kernel
theorem dX2_until_54 : decode cX2_until 54 = .ok (.iload 4, 2) := by decide +kernel
theorem dX2_until_56 : decode cX2_until 56 = .ok (.aload_n 0, 1) := by decide +kernel
theorem dX2_until_57 : decode cX2_until 57 = .ok (.getfield 19, 3) := by decide +kernel
theorem dX2_until_60 : decode cX2_until 60 = .ok (.iload_n 3, 1) := by decide +kernel
theorem dX2_until_61 : decode cX2_until 61 = .ok (.iaload, 1) := by decide +kernel
theorem dX2_until_62 : decode cX2_until 62 = .ok (.imul, 1) := by decide +kernel
theorem dX2_until_63 : decode cX2_until 63 = .ok (.iadd, 1) := by decide +kernel
theorem dX2_until_64 : decode cX2_until 64 = .ok (.ireturn, 1) := by decide +kernel
set_option maxHeartbeats 4000000 in
set_option maxRecDepth 20000 in
theorem c_X2_until (l : Launch) (b : Nat) (D : va_G) (cy : Nat → ClassId) {tt : Nat} {M : xMm} {z k : Int} (hI : IC M) (hz : 0 ≤ z ∧ z ≤ 1739) (hk : k = 0 ∨ k = 1) : xC l b D cy yX2_until cX2_until 5 (some .int) ({ frames := 0, cells := 0, slots := 0, locals := 0 }) [xr 57, xi z, xi k] 209 M (RS tt) (xPi 209 (RS tt) (fun r M' => M' = M ∧ 0 ≤ r ∧ r ≤ 100000)) := by
  refine x_met (by decide) (Nat.le_of_ble_eq_true rfl) (fun g hg hr he => ?_)
  obtain ⟨hTo, hCo, hRa⟩ := IC_parts hI
  have h9 := hRa (z / 60).toNat (by omega)
  have m1 := mul_bd (a := z % 60) (c := M 60 (z / 60).toNat) (A := 59) (C := 36) (by omega) (by omega) (by omega) (by omega)
  have m2 := mul_bd (a := z % 60) (c := M 60 (z / 60).toNat / 4) (A := 59) (C := 36) (by omega) (by omega) (by omega) (by omega)
  refine x_canon (ls' := [(0, _), (1, _), (2, _)]) rfl ?_
  refine x_iload_n hg dX2_until_0 rfl ?_
  refine x_bipush hg dX2_until_1 (by decide) ?_
  refine x_idiv hg dX2_until_3 (by omega) (by omega) ?_
  refine x_istore_n (ls' := [(0, _), (1, _), (2, _), (3, _)]) hg dX2_until_4 rfl (by decide) rfl ?_
  refine x_iload_n hg dX2_until_5 rfl ?_
  refine x_if_lt (tgt := 15) hg dX2_until_6 (by decide) (by omega) (fun c6 => ?_) (fun c6 => ?_)
  · skip
    refine x_iconst hg dX2_until_15 ?_
    refine x_iret hg hr (Or.inl rfl) dX2_until_16 (Nat.le_refl _) (Nat.le_refl _) ?_
    exact ⟨rfl, rfl, _, rfl, rfl, by omega, by omega⟩
  · skip
    refine x_iload_n hg dX2_until_9 rfl ?_
    refine x_bipush hg dX2_until_10 (by decide) ?_
    refine x_icmp_lt (tgt := 17) hg dX2_until_12 (by decide) (by omega) (by omega) (fun c12 => ?_) (fun c12 => ?_)
    · skip
      refine x_iload_n hg dX2_until_17 rfl ?_
      refine x_bipush hg dX2_until_18 (by decide) ?_
      refine x_irem hg dX2_until_20 (by omega) (by omega) ?_
      refine x_istore (ls' := [(0, _), (1, _), (2, _), (3, _), (4, _)]) hg dX2_until_21 (by decide) rfl ?_
      refine x_iload_n hg dX2_until_23 rfl ?_
      refine x_if_eq (tgt := 48) hg dX2_until_24 (by decide) (by omega) (fun c24 => ?_) (fun c24 => ?_)
      · skip
        refine x_aload_n hg dX2_until_48 rfl ?_
        refine x_getR (j9 := 61) hg dX2_until_49 fl_X2_22 (by decide) rfl rfl (by decide) ?_
        refine x_iload_n hg dX2_until_52 rfl ?_
        refine x_iaload (len := 29) hg dX2_until_53 (by decide) (by omega) ?_
        refine x_iload hg dX2_until_54 rfl ?_
        refine x_aload_n hg dX2_until_56 rfl ?_
        refine x_getR (j9 := 60) hg dX2_until_57 fl_X2_19 (by decide) rfl rfl (by decide) ?_
        refine x_iload_n hg dX2_until_60 rfl ?_
        refine x_iaload (len := 29) hg dX2_until_61 (by decide) (by omega) ?_
        refine x_imul hg dX2_until_62 ?_
        refine x_iadd hg dX2_until_63 ?_
        refine x_iret hg hr (Or.inl rfl) dX2_until_64 (Nat.le_refl _) (Nat.le_refl _) ?_
        exact ⟨rfl, rfl, _, rfl, rfl, by omega, by omega⟩
      · skip
        refine x_aload_n hg dX2_until_27 rfl ?_
        refine x_getR (j9 := 62) hg dX2_until_28 fl_X2_25 (by decide) rfl rfl (by decide) ?_
        refine x_iload_n hg dX2_until_31 rfl ?_
        refine x_iaload (len := 29) hg dX2_until_32 (by decide) (by omega) ?_
        refine x_iload hg dX2_until_33 rfl ?_
        refine x_aload_n hg dX2_until_35 rfl ?_
        refine x_getR (j9 := 60) hg dX2_until_36 fl_X2_19 (by decide) rfl rfl (by decide) ?_
        refine x_iload_n hg dX2_until_39 rfl ?_
        refine x_iaload (len := 29) hg dX2_until_40 (by decide) (by omega) ?_
        refine x_iconst hg dX2_until_41 ?_
        refine x_idiv hg dX2_until_42 (by omega) (by omega) ?_
        refine x_imul hg dX2_until_43 ?_
        refine x_iadd hg dX2_until_44 ?_
        refine x_goto (tgt := 64) hg dX2_until_45 (by decide) ?_
        refine x_iret hg hr (Or.inl rfl) dX2_until_64 (Nat.le_refl _) (Nat.le_refl _) ?_
        exact ⟨rfl, rfl, _, rfl, rfl, by omega, by omega⟩
    · skip
      refine x_iconst hg dX2_until_15 ?_
      refine x_iret hg hr (Or.inl rfl) dX2_until_16 (Nat.le_refl _) (Nat.le_refl _) ?_
      exact ⟨rfl, rfl, _, rfl, rfl, by omega, by omega⟩

theorem dX2_between_0 : decode cX2_between 0 = .ok (.aload_n 0, 1) := by decide +kernel
theorem dX2_between_1 : decode cX2_between 1 = .ok (.iload_n 3, 1) := by decide +kernel
theorem dX2_between_2 : decode cX2_between 2 = .ok (.invokevirtual 31, 3) := by decide +kernel
theorem dX2_between_5 : decode cX2_between 5 = .ok (.istore 4, 2) := by decide +kernel
theorem dX2_between_7 : decode cX2_between 7 = .ok (.aload_n 0, 1) := by decide +kernel
theorem dX2_between_8 : decode cX2_between 8 = .ok (.iload_n 2, 1) := by decide +kernel
theorem dX2_between_9 : decode cX2_between 9 = .ok (.iload 4, 2) := by decide +kernel
theorem dX2_between_11 : decode cX2_between 11 = .ok (.invokevirtual 35, 3) := by decide +kernel
theorem dX2_between_14 : decode cX2_between 14 = .ok (.aload_n 0, 1) := by decide +kernel
theorem dX2_between_15 : decode cX2_between 15 = .ok (.iload_n 1, 1) := by decide +kernel
theorem dX2_between_16 : decode cX2_between 16 = .ok (.iload 4, 2) := by decide +kernel
theorem dX2_between_18 : decode cX2_between 18 = .ok (.invokevirtual 35, 3) := by decide +kernel
theorem dX2_between_21 : decode cX2_between 21 = .ok (.isub, 1) := by decide +kernel
theorem dX2_between_22 : decode cX2_between 22 = .ok (.ireturn, 1) := by decide +kernel
set_option maxHeartbeats 4000000 in
set_option maxRecDepth 20000 in
theorem c_X2_between (l : Launch) (b : Nat) (D : va_G) (cy : Nat → ClassId) {tt : Nat} {M : xMm} {x y z : Int} (hI : IC M) (hx : 0 ≤ x ∧ x ≤ 1739) (hy : 0 ≤ y ∧ y ≤ 1739) (hz : inR z) : xC l b D cy yX2_between cX2_between 5 (some .int) ({ frames := 1, cells := 0, slots := 0, locals := 24 }) [xr 57, xi x, xi y, xi z] 209 M (RS tt) (xPi 209 (RS tt) (fun r M' => M' = M ∧ -100000 ≤ r ∧ r ≤ 100000)) := by
  refine x_met (by decide) (Nat.le_of_ble_eq_true rfl) (fun g hg hr he => ?_)
  refine x_canon (ls' := [(0, _), (1, _), (2, _), (3, _)]) rfl ?_
  refine x_aload_n hg dX2_between_0 rfl ?_
  refine x_iload_n hg dX2_between_1 rfl ?_
  refine x_cVi hg he [_] [] dX2_between_2 mv_X2_31 (c_X2_isCooled l b D cy hI (by omega)) (by decide) rfl rfl (Nat.le_of_ble_eq_true rfl) (by decide) (by decide) (fun r2 M2 q2 => ?_)
  obtain ⟨h2, e2⟩ := q2
  replace h2 := h2.symm
  subst h2
  refine x_istore (ls' := [(0, _), (1, _), (2, _), (3, _), (4, _)]) hg dX2_between_5 (by decide) rfl ?_
  refine x_aload_n hg dX2_between_7 rfl ?_
  refine x_iload_n hg dX2_between_8 rfl ?_
  refine x_iload hg dX2_between_9 rfl ?_
  refine x_cVi hg he [_, _] [] dX2_between_11 mv_X2_35 (c_X2_until l b D cy hI (by omega) (by omega)) (by decide) rfl rfl (Nat.le_of_ble_eq_true rfl) (by decide) (by decide) (fun r11 M11 q11 => ?_)
  obtain ⟨h11, e11⟩ := q11
  replace h11 := h11.symm
  subst h11
  refine x_aload_n hg dX2_between_14 rfl ?_
  refine x_iload_n hg dX2_between_15 rfl ?_
  refine x_iload hg dX2_between_16 rfl ?_
  refine x_cVi hg he [_, _] [_] dX2_between_18 mv_X2_35 (c_X2_until l b D cy hI (by omega) (by omega)) (by decide) rfl rfl (Nat.le_of_ble_eq_true rfl) (by decide) (by decide) (fun r18 M18 q18 => ?_)
  obtain ⟨h18, e18⟩ := q18
  replace h18 := h18.symm
  subst h18
  refine x_isub hg dX2_between_21 ?_
  refine x_iret hg hr (Or.inl rfl) dX2_between_22 (Nat.le_refl _) (Nat.le_refl _) ?_
  exact ⟨rfl, rfl, _, rfl, rfl, by omega, by omega⟩

def vSo (M : xMm) (z y : Int) : Int := if 0 ≤ y ∧ y < 10 ∧ M 59 y.toNat ≠ 0 then rate M 58 (z / 60).toNat / 4 else rate M 58 (z / 60).toNat
theorem dX2_inMinute_0 : decode cX2_inMinute 0 = .ok (.iload_n 1, 1) := by decide +kernel
theorem dX2_inMinute_1 : decode cX2_inMinute 1 = .ok (.bipush 60, 2) := by decide +kernel
theorem dX2_inMinute_3 : decode cX2_inMinute 3 = .ok (.idiv, 1) := by decide +kernel
theorem dX2_inMinute_4 : decode cX2_inMinute 4 = .ok (.istore_n 3, 1) := by decide +kernel
theorem dX2_inMinute_5 : decode cX2_inMinute 5 = .ok (.iload_n 3, 1) := by decide +kernel
theorem dX2_inMinute_6 : decode cX2_inMinute 6 = .ok (.ifCond .lt 9, 3) := by decide +kernel
theorem dX2_inMinute_9 : decode cX2_inMinute 9 = .ok (.iload_n 3, 1) := by decide +kernel
theorem dX2_inMinute_10 : decode cX2_inMinute 10 = .ok (.bipush 29, 2) := by decide +kernel
theorem dX2_inMinute_12 : decode cX2_inMinute 12 = .ok (.if_icmp .lt 5, 3) := by decide +kernel
theorem dX2_inMinute_15 : decode cX2_inMinute 15 = .ok (.iconst 0, 1) := by decide +kernel
theorem dX2_inMinute_16 : decode cX2_inMinute 16 = .ok (.ireturn, 1) := by decide +kernel
theorem dX2_inMinute_17 : decode cX2_inMinute 17 = .ok (.aload_n 0, 1) := by decide +kernel
theorem dX2_inMinute_18 : decode cX2_inMinute 18 = .ok (.iload_n 2, 1) := by decide +kernel
theorem dX2_inMinute_19 : decode cX2_inMinute 19 = .ok (.invokevirtual 31, 3) := by decide +kernel
theorem dX2_inMinute_22 : decode cX2_inMinute 22 = .ok (.ifCond .eq 14, 3) := by decide +kernel
theorem dX2_inMinute_25 : decode cX2_inMinute 25 = .ok (.aload_n 0, 1) := by decide +kernel
theorem dX2_inMinute_26 : decode cX2_inMinute 26 = .ok (.getfield 19, 3) := by decide +kernel
theorem dX2_inMinute_29 : decode cX2_inMinute 29 = .ok (.iload_n 3, 1) := by decide +kernel
theorem dX2_inMinute_30 : decode cX2_inMinute 30 = .ok (.iaload, 1) := by decide +kernel
theorem dX2_inMinute_31 : decode cX2_inMinute 31 = .ok (.iconst 4, 1) := by decide +kernel
theorem dX2_inMinute_32 : decode cX2_inMinute 32 = .ok (.idiv, 1) := by decide +kernel
theorem dX2_inMinute_33 : decode cX2_inMinute 33 = .ok (.goto 9, 3) := by decide +kernel
theorem dX2_inMinute_36 : decode cX2_inMinute 36 = .ok (.aload_n 0, 1) := by decide +kernel
theorem dX2_inMinute_37 : decode cX2_inMinute 37 = .ok (.getfield 19, 3) := by decide +kernel
theorem dX2_inMinute_40 : decode cX2_inMinute 40 = .ok (.iload_n 3, 1) := by decide +kernel
theorem dX2_inMinute_41 : decode cX2_inMinute 41 = .ok (.iaload, 1) := by decide +kernel
theorem dX2_inMinute_42 : decode cX2_inMinute 42 = .ok (.ireturn, 1) := by decide +kernel
set_option maxHeartbeats 4000000 in
set_option maxRecDepth 20000 in
theorem c_X2_inMinute (l : Launch) (b : Nat) (D : va_G) (cy : Nat → ClassId) {tt : Nat} {M : xMm} {z y : Int} (hI : IC M) (hz : 0 ≤ z ∧ z ≤ 1739) (hy : inR y) : xC l b D cy yX2_inMinute cX2_inMinute 4 (some .int) ({ frames := 1, cells := 0, slots := 0, locals := 21 }) [xr 57, xi z, xi y] 209 M (RS tt) (xPi 209 (RS tt) (fun r M' => M' = M ∧ r = vSo M z y)) := by
  refine x_met (by decide) (Nat.le_of_ble_eq_true rfl) (fun g hg hr he => ?_)
  obtain ⟨hTo, hCo, hRa⟩ := IC_parts hI
  have h9 := hRa (z / 60).toNat (by omega)
  have h8 := (hI.2.2 (z / 60).toNat (by omega)).1
  refine x_canon (ls' := [(0, _), (1, _), (2, _)]) rfl ?_
  refine x_iload_n hg dX2_inMinute_0 rfl ?_
  refine x_bipush hg dX2_inMinute_1 (by decide) ?_
  refine x_idiv hg dX2_inMinute_3 (by omega) (by omega) ?_
  refine x_istore_n (ls' := [(0, _), (1, _), (2, _), (3, _)]) hg dX2_inMinute_4 rfl (by decide) rfl ?_
  refine x_iload_n hg dX2_inMinute_5 rfl ?_
  refine x_if_lt (tgt := 15) hg dX2_inMinute_6 (by decide) (by omega) (fun c6 => ?_) (fun c6 => ?_)
  · skip
    refine x_iconst hg dX2_inMinute_15 ?_
    refine x_iret hg hr (Or.inl rfl) dX2_inMinute_16 (Nat.le_refl _) (Nat.le_refl _) ?_
    refine ⟨rfl, rfl, _, rfl, rfl, ?_⟩
    first | (exfalso; omega) | (unfold vSo; rw [← h8]; first | rw [if_pos (by omega)] | rw [if_neg (by omega)])
  · skip
    refine x_iload_n hg dX2_inMinute_9 rfl ?_
    refine x_bipush hg dX2_inMinute_10 (by decide) ?_
    refine x_icmp_lt (tgt := 17) hg dX2_inMinute_12 (by decide) (by omega) (by omega) (fun c12 => ?_) (fun c12 => ?_)
    · skip
      refine x_aload_n hg dX2_inMinute_17 rfl ?_
      refine x_iload_n hg dX2_inMinute_18 rfl ?_
      refine x_cVi hg he [_] [] dX2_inMinute_19 mv_X2_31 (c_X2_isCooled l b D cy hI (by omega)) (by decide) rfl rfl (Nat.le_of_ble_eq_true rfl) (by decide) (by decide) (fun r19 M19 q19 => ?_)
      obtain ⟨h19, e19⟩ := q19
      replace h19 := h19.symm
      subst h19
      refine x_if_eq (tgt := 36) hg dX2_inMinute_22 (by decide) (by omega) (fun c22 => ?_) (fun c22 => ?_)
      · skip
        refine x_aload_n hg dX2_inMinute_36 rfl ?_
        refine x_getR (j9 := 60) hg dX2_inMinute_37 fl_X2_19 (by decide) rfl rfl (by decide) ?_
        refine x_iload_n hg dX2_inMinute_40 rfl ?_
        refine x_iaload (len := 29) hg dX2_inMinute_41 (by decide) (by omega) ?_
        refine x_iret hg hr (Or.inl rfl) dX2_inMinute_42 (Nat.le_refl _) (Nat.le_refl _) ?_
        refine ⟨rfl, rfl, _, rfl, rfl, ?_⟩
        first | (exfalso; omega) | (unfold vSo; rw [← h8]; first | rw [if_pos (by omega)] | rw [if_neg (by omega)])
      · skip
        refine x_aload_n hg dX2_inMinute_25 rfl ?_
        refine x_getR (j9 := 60) hg dX2_inMinute_26 fl_X2_19 (by decide) rfl rfl (by decide) ?_
        refine x_iload_n hg dX2_inMinute_29 rfl ?_
        refine x_iaload (len := 29) hg dX2_inMinute_30 (by decide) (by omega) ?_
        refine x_iconst hg dX2_inMinute_31 ?_
        refine x_idiv hg dX2_inMinute_32 (by omega) (by omega) ?_
        refine x_goto (tgt := 42) hg dX2_inMinute_33 (by decide) ?_
        refine x_iret hg hr (Or.inl rfl) dX2_inMinute_42 (Nat.le_refl _) (Nat.le_refl _) ?_
        refine ⟨rfl, rfl, _, rfl, rfl, ?_⟩
        first | (exfalso; omega) | (unfold vSo; rw [← h8]; first | rw [if_pos (by omega)] | rw [if_neg (by omega)])
    · skip
      refine x_iconst hg dX2_inMinute_15 ?_
      refine x_iret hg hr (Or.inl rfl) dX2_inMinute_16 (Nat.le_refl _) (Nat.le_refl _) ?_
      refine ⟨rfl, rfl, _, rfl, rfl, ?_⟩
      first | (exfalso; omega) | (unfold vSo; rw [← h8]; first | rw [if_pos (by omega)] | rw [if_neg (by omega)])

theorem dX2_tell_0 : decode cX2_tell 0 = .ok (.iload_n 1, 1) := by decide +kernel
theorem dX2_tell_1 : decode cX2_tell 1 = .ok (.ifCond .lt 20, 3) := by decide +kernel
theorem dX2_tell_4 : decode cX2_tell 4 = .ok (.iload_n 1, 1) := by decide +kernel
theorem dX2_tell_5 : decode cX2_tell 5 = .ok (.bipush 24, 2) := by decide +kernel
theorem dX2_tell_7 : decode cX2_tell 7 = .ok (.if_icmp .ge 14, 3) := by decide +kernel
theorem dX2_tell_10 : decode cX2_tell 10 = .ok (.aload_n 0, 1) := by decide +kernel
theorem dX2_tell_11 : decode cX2_tell 11 = .ok (.getfield 9, 3) := by decide +kernel
theorem dX2_tell_14 : decode cX2_tell 14 = .ok (.iload_n 1, 1) := by decide +kernel
theorem dX2_tell_15 : decode cX2_tell 15 = .ok (.iload_n 2, 1) := by decide +kernel
theorem dX2_tell_16 : decode cX2_tell 16 = .ok (.iastore, 1) := by decide +kernel
theorem dX2_tell_17 : decode cX2_tell 17 = .ok (.aload_n 0, 1) := by decide +kernel
theorem dX2_tell_18 : decode cX2_tell 18 = .ok (.invokevirtual 28, 3) := by decide +kernel
theorem dX2_tell_21 : decode cX2_tell 21 = .ok (.return_, 1) := by decide +kernel
set_option maxHeartbeats 4000000 in
set_option maxRecDepth 20000 in
theorem c_X2_tell (l : Launch) (b : Nat) (D : va_G) (cy : Nat → ClassId) {tt : Nat} {M : xMm} {z y : Int} (hI : IC M) (hz : inR z) (hy : -1 ≤ y ∧ y ≤ 40) : xC l b D cy yX2_tell cX2_tell 3 none ({ frames := 3, cells := 0, slots := 0, locals := 69 }) [xr 57, xi z, xi y] 209 M (RS tt) (xPv 209 (RS tt) (fun M' => IC M' ∧ (∀ a, a < 58 ∨ 62 < a → M' a = M a) ∧ M' 59 = M 59 ∧ M' 58 = if 0 ≤ z ∧ z < 24 then mu M 58 z.toNat y 58 else M 58)) := by
  refine x_met (by decide) (Nat.le_of_ble_eq_true rfl) (fun g hg hr he => ?_)
  obtain ⟨hTo, hCo, hRa⟩ := IC_parts hI
  refine x_canon (ls' := [(0, _), (1, _), (2, _)]) rfl ?_
  refine x_iload_n hg dX2_tell_0 rfl ?_
  refine x_if_lt (tgt := 21) hg dX2_tell_1 (by decide) (by omega) (fun c1 => ?_) (fun c1 => ?_)
  · skip
    refine x_vret hg hr dX2_tell_21 (Nat.le_refl _) (Nat.le_refl _) ?_
    exact ⟨rfl, rfl, rfl, hI, fun a _ => rfl, rfl, by rw [if_neg (by omega)]⟩
  · skip
    refine x_iload_n hg dX2_tell_4 rfl ?_
    refine x_bipush hg dX2_tell_5 (by decide) ?_
    refine x_icmp_ge (tgt := 21) hg dX2_tell_7 (by decide) (by omega) (by omega) (fun c7 => ?_) (fun c7 => ?_)
    · skip
      refine x_vret hg hr dX2_tell_21 (Nat.le_refl _) (Nat.le_refl _) ?_
      exact ⟨rfl, rfl, rfl, hI, fun a _ => rfl, rfl, by rw [if_neg (by omega)]⟩
    · skip
      refine x_aload_n hg dX2_tell_10 rfl ?_
      refine x_getR (j9 := 58) hg dX2_tell_11 fl_X2_9 (by decide) rfl rfl (by decide) ?_
      refine x_iload_n hg dX2_tell_14 rfl ?_
      refine x_iload_n hg dX2_tell_15 rfl ?_
      refine x_iastore (len := 24) hg dX2_tell_16 (by decide) (by omega)  ?_
      have hT1 : ITo (mu M 58 z.toNat y) 58 := fun k hk => by
        by_cases e : k = z.toNat
        · subst e; rw [mu_s]; omega
        · rw [mu_nf e]; exact hTo k hk
      refine x_aload_n hg dX2_tell_17 rfl ?_
      refine x_cVv hg he [] [] dX2_tell_18 mv_X2_28 (c_X2_sumUp l b D cy (n := 209) (R := RS tt) (by decide) (fun k hk => rfl) hT1) (by decide) rfl rfl (by decide) (by decide) (by decide) (fun M18 q18 => ?_)
      obtain ⟨hfr, hv⟩ := q18
      refine x_vret hg hr dX2_tell_21 (Nat.le_refl _) (Nat.le_refl _) ?_
      have e58 : M18 58 = mu M 58 z.toNat y 58 := hfr 58 (by decide) (by decide) (by decide)
      have e59 : M18 59 = M 59 := by
        rw [hfr 59 (by decide) (by decide) (by decide)]
        funext k
        exact mu_nc (by decide)
      refine ⟨rfl, rfl, rfl, ⟨fun k hk => by rw [e58]; exact hT1 k hk, fun s hs => by rw [e59]; exact hI.2.1 s hs, fun h hh => ?_⟩, fun a ha => ?_, e59, by rw [if_pos (by omega)]; exact e58⟩
      · rw [rate_congr (M := mu M 58 z.toNat y) (fun k _ => by rw [e58])]
        exact hv h hh
      · rw [hfr a (by omega) (by omega) (by omega)]
        funext k
        exact mu_nc (by omega)

theorem dX11_warmth_0 : decode cX11_warmth 0 = .ok (.iload_n 1, 1) := by decide +kernel
theorem dX11_warmth_1 : decode cX11_warmth 1 = .ok (.ifCond .lt 20, 3) := by decide +kernel
theorem dX11_warmth_4 : decode cX11_warmth 4 = .ok (.iload_n 1, 1) := by decide +kernel
theorem dX11_warmth_5 : decode cX11_warmth 5 = .ok (.bipush 24, 2) := by decide +kernel
theorem dX11_warmth_7 : decode cX11_warmth 7 = .ok (.if_icmp .ge 14, 3) := by decide +kernel
theorem dX11_warmth_10 : decode cX11_warmth 10 = .ok (.iload_n 2, 1) := by decide +kernel
theorem dX11_warmth_11 : decode cX11_warmth 11 = .ok (.iconst (-1), 1) := by decide +kernel
theorem dX11_warmth_12 : decode cX11_warmth 12 = .ok (.if_icmp .lt 9, 3) := by decide +kernel
theorem dX11_warmth_15 : decode cX11_warmth 15 = .ok (.iload_n 2, 1) := by decide +kernel
theorem dX11_warmth_16 : decode cX11_warmth 16 = .ok (.bipush 40, 2) := by decide +kernel
theorem dX11_warmth_18 : decode cX11_warmth 18 = .ok (.if_icmp .le 5, 3) := by decide +kernel
theorem dX11_warmth_21 : decode cX11_warmth 21 = .ok (.iconst 0, 1) := by decide +kernel
theorem dX11_warmth_22 : decode cX11_warmth 22 = .ok (.ireturn, 1) := by decide +kernel
theorem dX11_warmth_23 : decode cX11_warmth 23 = .ok (.aload_n 0, 1) := by decide +kernel
theorem dX11_warmth_24 : decode cX11_warmth 24 = .ok (.getfield 38, 3) := by decide +kernel
theorem dX11_warmth_27 : decode cX11_warmth 27 = .ok (.iload_n 1, 1) := by decide +kernel
theorem dX11_warmth_28 : decode cX11_warmth 28 = .ok (.iload_n 2, 1) := by decide +kernel
theorem dX11_warmth_29 : decode cX11_warmth 29 = .ok (.invokevirtual 146, 3) := by decide +kernel
theorem dX11_warmth_32 : decode cX11_warmth 32 = .ok (.aload_n 0, 1) := by decide +kernel
theorem dX11_warmth_33 : decode cX11_warmth 33 = .ok (.iconst 1, 1) := by decide +kernel
theorem dX11_warmth_34 : decode cX11_warmth 34 = .ok (.putfield 60, 3) := by decide +kernel
theorem dX11_warmth_37 : decode cX11_warmth 37 = .ok (.iconst 1, 1) := by decide +kernel
theorem dX11_warmth_38 : decode cX11_warmth 38 = .ok (.ireturn, 1) := by decide +kernel
set_option maxHeartbeats 4000000 in
set_option maxRecDepth 20000 in
theorem c_X11_warmth (l : Launch) (b : Nat) (D : va_G) (cy : Nat → ClassId) {tt : Nat} {M : xMm} {z y : Int} (hI : IC M) (hz : inR z) (hy : inR y) : xC l b D cy yX11_warmth cX11_warmth 3 (some .boolean) ({ frames := 4, cells := 0, slots := 0, locals := 91 }) [xr 1, xi z, xi y] 209 M (RS tt) (xPi 209 (RS tt) (fun r M' => ((0 ≤ z ∧ z < 24 ∧ -1 ≤ y ∧ y ≤ 40) ∧ r = 1 ∧ IC M' ∧ (∀ a, a ≠ 1 → (a < 58 ∨ 62 < a) → M' a = M a) ∧ M' 1 = mu M 1 7 1 1 ∧ M' 59 = M 59 ∧ M' 58 = mu M 58 z.toNat y 58) ∨ (¬ (0 ≤ z ∧ z < 24 ∧ -1 ≤ y ∧ y ≤ 40) ∧ r = 0 ∧ M' = M))) := by
  refine x_met (by decide) (Nat.le_of_ble_eq_true rfl) (fun g hg hr he => ?_)
  refine x_canon (ls' := [(0, _), (1, _), (2, _)]) rfl ?_
  refine x_iload_n hg dX11_warmth_0 rfl ?_
  refine x_if_lt (tgt := 21) hg dX11_warmth_1 (by decide) (by omega) (fun c1 => ?_) (fun c1 => ?_)
  · skip
    refine x_iconst hg dX11_warmth_21 ?_
    refine x_iret hg hr (Or.inr ⟨rfl, by first | exact Or.inl rfl | exact Or.inr rfl | omega⟩) dX11_warmth_22 (Nat.le_refl _) (Nat.le_refl _) ?_
    exact ⟨rfl, rfl, _, rfl, Or.inr ⟨by omega, rfl, rfl⟩⟩
  · skip
    refine x_iload_n hg dX11_warmth_4 rfl ?_
    refine x_bipush hg dX11_warmth_5 (by decide) ?_
    refine x_icmp_ge (tgt := 21) hg dX11_warmth_7 (by decide) (by omega) (by omega) (fun c7 => ?_) (fun c7 => ?_)
    · skip
      refine x_iconst hg dX11_warmth_21 ?_
      refine x_iret hg hr (Or.inr ⟨rfl, by first | exact Or.inl rfl | exact Or.inr rfl | omega⟩) dX11_warmth_22 (Nat.le_refl _) (Nat.le_refl _) ?_
      exact ⟨rfl, rfl, _, rfl, Or.inr ⟨by omega, rfl, rfl⟩⟩
    · skip
      refine x_iload_n hg dX11_warmth_10 rfl ?_
      refine x_iconst hg dX11_warmth_11 ?_
      refine x_icmp_lt (tgt := 21) hg dX11_warmth_12 (by decide) (by omega) (by omega) (fun c12 => ?_) (fun c12 => ?_)
      · skip
        refine x_iconst hg dX11_warmth_21 ?_
        refine x_iret hg hr (Or.inr ⟨rfl, by first | exact Or.inl rfl | exact Or.inr rfl | omega⟩) dX11_warmth_22 (Nat.le_refl _) (Nat.le_refl _) ?_
        exact ⟨rfl, rfl, _, rfl, Or.inr ⟨by omega, rfl, rfl⟩⟩
      · skip
        refine x_iload_n hg dX11_warmth_15 rfl ?_
        refine x_bipush hg dX11_warmth_16 (by decide) ?_
        refine x_icmp_le (tgt := 23) hg dX11_warmth_18 (by decide) (by omega) (by omega) (fun c18 => ?_) (fun c18 => ?_)
        · skip
          refine x_aload_n hg dX11_warmth_23 rfl ?_
          refine x_getR (j9 := 57) hg dX11_warmth_24 fl_X11_38 (by decide) rfl rfl (by decide) ?_
          refine x_iload_n hg dX11_warmth_27 rfl ?_
          refine x_iload_n hg dX11_warmth_28 rfl ?_
          refine x_cVv hg he [_, _] [] dX11_warmth_29 mv_X11_146 (c_X2_tell l b D cy hI (by omega) (by omega)) (by decide) rfl rfl (Nat.le_of_ble_eq_true rfl) (by decide) (by decide) (fun M29 q29 => ?_)
          obtain ⟨hI29, hfr29, hc29, ht29⟩ := q29
          refine x_aload_n hg dX11_warmth_32 rfl ?_
          refine x_iconst hg dX11_warmth_33 ?_
          refine x_putZ hg dX11_warmth_34 fl_X11_60 ft_11_7 (by decide) rfl (by first | exact Or.inl rfl | exact Or.inr rfl | omega) ?_
          refine x_iconst hg dX11_warmth_37 ?_
          refine x_iret hg hr (Or.inr ⟨rfl, by first | exact Or.inl rfl | exact Or.inr rfl | omega⟩) dX11_warmth_38 (Nat.le_refl _) (Nat.le_refl _) ?_
          rw [if_pos (by omega)] at ht29
          refine ⟨rfl, rfl, _, rfl, Or.inl ⟨by omega, rfl, IC_congr hI29 (fun a h1 h2 => ?_), fun a h1 h2 => ?_, ?_, ?_, ?_⟩⟩
          · funext k; exact mu_nc (by omega)
          · rw [← hfr29 a h2]; funext k; exact mu_nc h1
          · funext k
            by_cases e : k = 7
            · subst e; rw [mu_s, mu_s]
            · rw [mu_nf e, mu_nf e, hfr29 1 (by omega)]
          · rw [← hc29]; funext k; exact mu_nc (by decide)
          · rw [← ht29]; funext k; exact mu_nc (by decide)
        · skip
          refine x_iconst hg dX11_warmth_21 ?_
          refine x_iret hg hr (Or.inr ⟨rfl, by first | exact Or.inl rfl | exact Or.inr rfl | omega⟩) dX11_warmth_22 (Nat.le_refl _) (Nat.le_refl _) ?_
          exact ⟨rfl, rfl, _, rfl, Or.inr ⟨by omega, rfl, rfl⟩⟩

theorem dX11_sours_0 : decode cX11_sours 0 = .ok (.iload_n 1, 1) := by decide +kernel
theorem dX11_sours_1 : decode cX11_sours 1 = .ok (.ifCond .lt 21, 3) := by decide +kernel
theorem dX11_sours_4 : decode cX11_sours 4 = .ok (.iload_n 1, 1) := by decide +kernel
theorem dX11_sours_5 : decode cX11_sours 5 = .ok (.sipush 1739, 3) := by decide +kernel
theorem dX11_sours_8 : decode cX11_sours 8 = .ok (.if_icmp .gt 14, 3) := by decide +kernel
theorem dX11_sours_11 : decode cX11_sours 11 = .ok (.iload_n 2, 1) := by decide +kernel
theorem dX11_sours_12 : decode cX11_sours 12 = .ok (.iconst (-1), 1) := by decide +kernel
theorem dX11_sours_13 : decode cX11_sours 13 = .ok (.if_icmp .lt 9, 3) := by decide +kernel
theorem dX11_sours_16 : decode cX11_sours 16 = .ok (.iload_n 2, 1) := by decide +kernel
theorem dX11_sours_17 : decode cX11_sours 17 = .ok (.bipush 10, 2) := by decide +kernel
theorem dX11_sours_19 : decode cX11_sours 19 = .ok (.if_icmp .lt 5, 3) := by decide +kernel
theorem dX11_sours_22 : decode cX11_sours 22 = .ok (.iconst (-1), 1) := by decide +kernel
theorem dX11_sours_23 : decode cX11_sours 23 = .ok (.ireturn, 1) := by decide +kernel
theorem dX11_sours_24 : decode cX11_sours 24 = .ok (.aload_n 0, 1) := by decide +kernel
theorem dX11_sours_25 : decode cX11_sours 25 = .ok (.getfield 38, 3) := by decide +kernel
theorem dX11_sours_28 : decode cX11_sours 28 = .ok (.iload_n 1, 1) := by decide +kernel
theorem dX11_sours_29 : decode cX11_sours 29 = .ok (.iload_n 2, 1) := by decide +kernel
theorem dX11_sours_30 : decode cX11_sours 30 = .ok (.invokevirtual 150, 3) := by decide +kernel
theorem dX11_sours_33 : decode cX11_sours 33 = .ok (.ireturn, 1) := by decide +kernel
set_option maxHeartbeats 4000000 in
set_option maxRecDepth 20000 in
theorem c_X11_sours (l : Launch) (b : Nat) (D : va_G) (cy : Nat → ClassId) {tt : Nat} {M : xMm} {z y : Int} (hI : IC M) (hz : inR z) (hy : inR y) : xC l b D cy yX11_sours cX11_sours 3 (some .int) ({ frames := 2, cells := 0, slots := 0, locals := 44 }) [xr 1, xi z, xi y] 209 M (RS tt) (xPi 209 (RS tt) (fun r M' => M' = M ∧ ((0 ≤ z ∧ z ≤ 1739 ∧ -1 ≤ y ∧ y < 10) ∧ r = vSo M z y ∨ ¬ (0 ≤ z ∧ z ≤ 1739 ∧ -1 ≤ y ∧ y < 10) ∧ r = -1))) := by
  refine x_met (by decide) (Nat.le_of_ble_eq_true rfl) (fun g hg hr he => ?_)
  refine x_canon (ls' := [(0, _), (1, _), (2, _)]) rfl ?_
  refine x_iload_n hg dX11_sours_0 rfl ?_
  refine x_if_lt (tgt := 22) hg dX11_sours_1 (by decide) (by omega) (fun c1 => ?_) (fun c1 => ?_)
  · skip
    refine x_iconst hg dX11_sours_22 ?_
    refine x_iret hg hr (Or.inl rfl) dX11_sours_23 (Nat.le_refl _) (Nat.le_refl _) ?_
    exact ⟨rfl, rfl, _, rfl, rfl, Or.inr ⟨by omega, rfl⟩⟩
  · skip
    refine x_iload_n hg dX11_sours_4 rfl ?_
    refine x_sipush hg dX11_sours_5 (by decide) ?_
    refine x_icmp_gt (tgt := 22) hg dX11_sours_8 (by decide) (by omega) (by omega) (fun c8 => ?_) (fun c8 => ?_)
    · skip
      refine x_iconst hg dX11_sours_22 ?_
      refine x_iret hg hr (Or.inl rfl) dX11_sours_23 (Nat.le_refl _) (Nat.le_refl _) ?_
      exact ⟨rfl, rfl, _, rfl, rfl, Or.inr ⟨by omega, rfl⟩⟩
    · skip
      refine x_iload_n hg dX11_sours_11 rfl ?_
      refine x_iconst hg dX11_sours_12 ?_
      refine x_icmp_lt (tgt := 22) hg dX11_sours_13 (by decide) (by omega) (by omega) (fun c13 => ?_) (fun c13 => ?_)
      · skip
        refine x_iconst hg dX11_sours_22 ?_
        refine x_iret hg hr (Or.inl rfl) dX11_sours_23 (Nat.le_refl _) (Nat.le_refl _) ?_
        exact ⟨rfl, rfl, _, rfl, rfl, Or.inr ⟨by omega, rfl⟩⟩
      · skip
        refine x_iload_n hg dX11_sours_16 rfl ?_
        refine x_bipush hg dX11_sours_17 (by decide) ?_
        refine x_icmp_lt (tgt := 24) hg dX11_sours_19 (by decide) (by omega) (by omega) (fun c19 => ?_) (fun c19 => ?_)
        · skip
          refine x_aload_n hg dX11_sours_24 rfl ?_
          refine x_getR (j9 := 57) hg dX11_sours_25 fl_X11_38 (by decide) rfl rfl (by decide) ?_
          refine x_iload_n hg dX11_sours_28 rfl ?_
          refine x_iload_n hg dX11_sours_29 rfl ?_
          refine x_cVi hg he [_, _] [] dX11_sours_30 mv_X11_150 (c_X2_inMinute l b D cy hI (by omega) (by omega)) (by decide) rfl rfl (Nat.le_of_ble_eq_true rfl) (by decide) (by decide) (fun r30 M30 q30 => ?_)
          obtain ⟨h30, e30⟩ := q30
          replace h30 := h30.symm
          subst h30
          refine x_iret hg hr (Or.inl rfl) dX11_sours_33 (Nat.le_refl _) (Nat.le_refl _) ?_
          exact ⟨rfl, rfl, _, rfl, rfl, Or.inl ⟨by omega, e30⟩⟩
        · skip
          refine x_iconst hg dX11_sours_22 ?_
          refine x_iret hg hr (Or.inl rfl) dX11_sours_23 (Nat.le_refl _) (Nat.le_refl _) ?_
          exact ⟨rfl, rfl, _, rfl, rfl, Or.inr ⟨by omega, rfl⟩⟩
