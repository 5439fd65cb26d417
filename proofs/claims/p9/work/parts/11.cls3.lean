theorem dX11_lead_0 : decode cX11_lead 0 = .ok (.iload_n 1, 1) := by decide +kernel
theorem dX11_lead_1 : decode cX11_lead 1 = .ok (.invokestatic 215, 3) := by decide +kernel
theorem dX11_lead_4 : decode cX11_lead 4 = .ok (.ifCond .eq 15, 3) := by decide +kernel
theorem dX11_lead_7 : decode cX11_lead 7 = .ok (.iload_n 2, 1) := by decide +kernel
theorem dX11_lead_8 : decode cX11_lead 8 = .ok (.invokestatic 215, 3) := by decide +kernel
theorem dX11_lead_11 : decode cX11_lead 11 = .ok (.ifCond .eq 8, 3) := by decide +kernel
theorem dX11_lead_14 : decode cX11_lead 14 = .ok (.iload_n 1, 1) := by decide +kernel
theorem dX11_lead_15 : decode cX11_lead 15 = .ok (.iload_n 2, 1) := by decide +kernel
theorem dX11_lead_16 : decode cX11_lead 16 = .ok (.if_icmp .ne 5, 3) := by decide +kernel
theorem dX11_lead_19 : decode cX11_lead 19 = .ok (.iconst (-1), 1) := by decide +kernel
theorem dX11_lead_20 : decode cX11_lead 20 = .ok (.ireturn, 1) := by decide +kernel
theorem dX11_lead_21 : decode cX11_lead 21 = .ok (.aload_n 0, 1) := by decide +kernel
theorem dX11_lead_22 : decode cX11_lead 22 = .ok (.getfield 77, 3) := by decide +kernel
theorem dX11_lead_25 : decode cX11_lead 25 = .ok (.iload_n 1, 1) := by decide +kernel
theorem dX11_lead_26 : decode cX11_lead 26 = .ok (.aaload, 1) := by decide +kernel
theorem dX11_lead_27 : decode cX11_lead 27 = .ok (.iload_n 3, 1) := by decide +kernel
theorem dX11_lead_28 : decode cX11_lead 28 = .ok (.invokevirtual 225, 3) := by decide +kernel
theorem dX11_lead_31 : decode cX11_lead 31 = .ok (.ifCond .eq 16, 3) := by decide +kernel
theorem dX11_lead_34 : decode cX11_lead 34 = .ok (.aload_n 0, 1) := by decide +kernel
theorem dX11_lead_35 : decode cX11_lead 35 = .ok (.getfield 77, 3) := by decide +kernel
theorem dX11_lead_38 : decode cX11_lead 38 = .ok (.iload_n 2, 1) := by decide +kernel
theorem dX11_lead_39 : decode cX11_lead 39 = .ok (.aaload, 1) := by decide +kernel
theorem dX11_lead_40 : decode cX11_lead 40 = .ok (.iload_n 3, 1) := by decide +kernel
theorem dX11_lead_41 : decode cX11_lead 41 = .ok (.invokevirtual 218, 3) := by decide +kernel
theorem dX11_lead_44 : decode cX11_lead 44 = .ok (.ifCond .ne 5, 3) := by decide +kernel
theorem dX11_lead_47 : decode cX11_lead 47 = .ok (.iconst (-1), 1) := by decide +kernel
theorem dX11_lead_48 : decode cX11_lead 48 = .ok (.ireturn, 1) := by decide +kernel
theorem dX11_lead_49 : decode cX11_lead 49 = .ok (.aload_n 0, 1) := by decide +kernel
theorem dX11_lead_50 : decode cX11_lead 50 = .ok (.getfield 77, 3) := by decide +kernel
theorem dX11_lead_53 : decode cX11_lead 53 = .ok (.iload_n 2, 1) := by decide +kernel
theorem dX11_lead_54 : decode cX11_lead 54 = .ok (.aaload, 1) := by decide +kernel
theorem dX11_lead_55 : decode cX11_lead 55 = .ok (.iload_n 3, 1) := by decide +kernel
theorem dX11_lead_56 : decode cX11_lead 56 = .ok (.aload_n 0, 1) := by decide +kernel
theorem dX11_lead_57 : decode cX11_lead 57 = .ok (.getfield 77, 3) := by decide +kernel
theorem dX11_lead_60 : decode cX11_lead 60 = .ok (.iload_n 1, 1) := by decide +kernel
theorem dX11_lead_61 : decode cX11_lead 61 = .ok (.aaload, 1) := by decide +kernel
theorem dX11_lead_62 : decode cX11_lead 62 = .ok (.getfield 228, 3) := by decide +kernel
theorem dX11_lead_65 : decode cX11_lead 65 = .ok (.invokevirtual 221, 3) := by decide +kernel
theorem dX11_lead_68 : decode cX11_lead 68 = .ok (.aload_n 0, 1) := by decide +kernel
theorem dX11_lead_69 : decode cX11_lead 69 = .ok (.getfield 77, 3) := by decide +kernel
theorem dX11_lead_72 : decode cX11_lead 72 = .ok (.iload_n 1, 1) := by decide +kernel
theorem dX11_lead_73 : decode cX11_lead 73 = .ok (.aaload, 1) := by decide +kernel
theorem dX11_lead_74 : decode cX11_lead 74 = .ok (.iload_n 3, 1) := by decide +kernel
theorem dX11_lead_75 : decode cX11_lead 75 = .ok (.invokevirtual 231, 3) := by decide +kernel
theorem dX11_lead_78 : decode cX11_lead 78 = .ok (.aload_n 0, 1) := by decide +kernel
theorem dX11_lead_79 : decode cX11_lead 79 = .ok (.getfield 77, 3) := by decide +kernel
theorem dX11_lead_82 : decode cX11_lead 82 = .ok (.iload_n 1, 1) := by decide +kernel
theorem dX11_lead_83 : decode cX11_lead 83 = .ok (.aaload, 1) := by decide +kernel
theorem dX11_lead_84 : decode cX11_lead 84 = .ok (.getfield 224, 3) := by decide +kernel
theorem dX11_lead_87 : decode cX11_lead 87 = .ok (.ireturn, 1) := by decide +kernel
set_option maxHeartbeats 4000000 in
set_option maxRecDepth 20000 in
theorem c_X11_lead (l : Launch) (b : Nat) (D : va_G) (cy : Nat → ClassId) {tt : Nat} {M : xMm} {z y p : Int} (hI : IO M) (hz : inR z) (hy : inR y) (hp : inR p) : xC l b D cy yX11_lead cX11_lead 4 (some .int) ({ frames := 1, cells := 0, slots := 0, locals := 22 }) [xr 1, xi z, xi y, xi p] 209 M (RS tt) (xPi 209 (RS tt) (fun r M' => ((0 ≤ z ∧ z < 4 ∧ 0 ≤ y ∧ y < 4 ∧ z ≠ y ∧ 1 ≤ p ∧ p ≤ M (96 + z.toNat) 0 ∧ p ≤ 1000 - M (96 + y.toNat) 0) ∧ r = (M (96 + z.toNat) 0 - p) ∧ M' = if (M (96 + z.toNat) 0 - p) = 0 then mu (mu (mu (mu M (96 + y.toNat) 0 (M (96 + y.toNat) 0 + p)) (96 + y.toNat) 1 (bOr (M (96 + y.toNat) 1) (M (96 + z.toNat) 1))) (96 + z.toNat) 0 (M (96 + z.toNat) 0 - p)) (96 + z.toNat) 1 0 else mu (mu (mu M (96 + y.toNat) 0 (M (96 + y.toNat) 0 + p)) (96 + y.toNat) 1 (bOr (M (96 + y.toNat) 1) (M (96 + z.toNat) 1))) (96 + z.toNat) 0 (M (96 + z.toNat) 0 - p)) ∨ (¬ (0 ≤ z ∧ z < 4 ∧ 0 ≤ y ∧ y < 4 ∧ z ≠ y ∧ 1 ≤ p ∧ p ≤ M (96 + z.toNat) 0 ∧ p ≤ 1000 - M (96 + y.toNat) 0) ∧ r = -1 ∧ M' = M))) := by
  refine x_met (by decide) (Nat.le_of_ble_eq_true rfl) (fun g hg hr he => ?_)
  obtain ⟨hn10, hn13, hn15, hn16, hn8, hn7, hC, hT, hB, hF⟩ := hI
  refine x_canon (ls' := [(0, _), (1, _), (2, _), (3, _)]) rfl ?_
  refine x_iload_n hg dX11_lead_0 rfl ?_
  refine x_cSi hg he [_] [] dX11_lead_1 ms_X11_215 (c_X11_isTank l b D cy (by omega)) rfl rfl (Nat.le_of_ble_eq_true rfl) (by decide) (by decide) (fun r1 M1 q1 => ?_)
  obtain ⟨h1, e1⟩ := q1
  replace h1 := h1.symm
  subst h1
  refine x_if_eq (tgt := 19) hg dX11_lead_4 (by decide) (by omega) (fun c4 => ?_) (fun c4 => ?_)
  · skip
    refine x_iconst hg dX11_lead_19 ?_
    refine x_iret hg hr (Or.inl rfl) dX11_lead_20 (Nat.le_refl _) (Nat.le_refl _) ?_
    exact ⟨rfl, rfl, _, rfl, Or.inr ⟨by omega, rfl, rfl⟩⟩
  · skip
    refine x_iload_n hg dX11_lead_7 rfl ?_
    refine x_cSi hg he [_] [] dX11_lead_8 ms_X11_215 (c_X11_isTank l b D cy (by omega)) rfl rfl (Nat.le_of_ble_eq_true rfl) (by decide) (by decide) (fun r8 M8 q8 => ?_)
    obtain ⟨h8, e8⟩ := q8
    replace h8 := h8.symm
    subst h8
    refine x_if_eq (tgt := 19) hg dX11_lead_11 (by decide) (by omega) (fun c11 => ?_) (fun c11 => ?_)
    · skip
      refine x_iconst hg dX11_lead_19 ?_
      refine x_iret hg hr (Or.inl rfl) dX11_lead_20 (Nat.le_refl _) (Nat.le_refl _) ?_
      exact ⟨rfl, rfl, _, rfl, Or.inr ⟨by omega, rfl, rfl⟩⟩
    · skip
      refine x_iload_n hg dX11_lead_14 rfl ?_
      refine x_iload_n hg dX11_lead_15 rfl ?_
      refine x_icmp_ne (tgt := 21) hg dX11_lead_16 (by decide) (by omega) (by omega) (fun c16 => ?_) (fun c16 => ?_)
      · skip
        refine x_aload_n hg dX11_lead_21 rfl ?_
        refine x_getR (j9 := 95) hg dX11_lead_22 fl_X11_77 (by decide) rfl rfl (by decide) ?_
        refine x_iload_n hg dX11_lead_25 rfl ?_
        refine x_aaload (len := 4) (et := 6) hg dX11_lead_26 (by decide) (by decide) (by omega) (RS_tank _ _) (by omega) ?_
        refine x_iload_n hg dX11_lead_27 rfl ?_
        refine x_cVi hg he [_] [] dX11_lead_28 mv_X11_225 (c_X6_canGive l b D cy (oO_tank (by omega)) (by omega) (by have h1 := hT z.toNat (by omega); have h2 := hT y.toNat (by omega); omega)) (oO_tank (by omega)) rfl rfl (Nat.le_of_ble_eq_true rfl) (by decide) (by decide) (fun r28 M28 q28 => ?_)
        obtain ⟨h28, e28⟩ := q28
        replace h28 := h28.symm
        subst h28
        refine x_if_eq (tgt := 47) hg dX11_lead_31 (by decide) (by omega) (fun c31 => ?_) (fun c31 => ?_)
        · skip
          refine x_iconst hg dX11_lead_47 ?_
          refine x_iret hg hr (Or.inl rfl) dX11_lead_48 (Nat.le_refl _) (Nat.le_refl _) ?_
          exact ⟨rfl, rfl, _, rfl, Or.inr ⟨by omega, rfl, rfl⟩⟩
        · skip
          refine x_aload_n hg dX11_lead_34 rfl ?_
          refine x_getR (j9 := 95) hg dX11_lead_35 fl_X11_77 (by decide) rfl rfl (by decide) ?_
          refine x_iload_n hg dX11_lead_38 rfl ?_
          refine x_aaload (len := 4) (et := 6) hg dX11_lead_39 (by decide) (by decide) (by omega) (RS_tank _ _) (by omega) ?_
          refine x_iload_n hg dX11_lead_40 rfl ?_
          refine x_cVi hg he [_] [] dX11_lead_41 mv_X11_218 (c_X6_hasRoomFor l b D cy (oO_tank (by omega)) (by omega) (by have h1 := hT z.toNat (by omega); have h2 := hT y.toNat (by omega); omega)) (oO_tank (by omega)) rfl rfl (Nat.le_of_ble_eq_true rfl) (by decide) (by decide) (fun r41 M41 q41 => ?_)
          obtain ⟨h41, e41⟩ := q41
          replace h41 := h41.symm
          subst h41
          refine x_if_ne (tgt := 49) hg dX11_lead_44 (by decide) (by omega) (fun c44 => ?_) (fun c44 => ?_)
          · skip
            refine x_aload_n hg dX11_lead_49 rfl ?_
            refine x_getR (j9 := 95) hg dX11_lead_50 fl_X11_77 (by decide) rfl rfl (by decide) ?_
            refine x_iload_n hg dX11_lead_53 rfl ?_
            refine x_aaload (len := 4) (et := 6) hg dX11_lead_54 (by decide) (by decide) (by omega) (RS_tank _ _) (by omega) ?_
            refine x_iload_n hg dX11_lead_55 rfl ?_
            refine x_aload_n hg dX11_lead_56 rfl ?_
            refine x_getR (j9 := 95) hg dX11_lead_57 fl_X11_77 (by decide) rfl rfl (by decide) ?_
            refine x_iload_n hg dX11_lead_60 rfl ?_
            refine x_aaload (len := 4) (et := 6) hg dX11_lead_61 (by decide) (by decide) (by omega) (RS_tank _ _) (by omega) ?_
            refine x_getI hg dX11_lead_62 fl_X11_228 (oO_tank (by omega)) rfl ?_
            refine x_cVv hg he [_, _] [] dX11_lead_65 mv_X11_221 (c_X6_fill l b D cy (oO_tank (by omega))) (oO_tank (by omega)) rfl rfl (Nat.le_of_ble_eq_true rfl) (by decide) (by decide) (fun M65 q65 => ?_)
            subst q65
            refine x_aload_n hg dX11_lead_68 rfl ?_
            refine x_getR (j9 := 95) hg dX11_lead_69 fl_X11_77 (by decide) rfl rfl (by decide) ?_
            refine x_iload_n hg dX11_lead_72 rfl ?_
            refine x_aaload (len := 4) (et := 6) hg dX11_lead_73 (by decide) (by decide) (by omega) (RS_tank _ _) (by omega) ?_
            refine x_iload_n hg dX11_lead_74 rfl ?_
            refine x_cVv hg he [_] [] dX11_lead_75 mv_X11_231 (c_X6_draw l b D cy (oO_tank (by omega)) (by simp (disch := omega) only [mu_s, mu_nf, mu_nc]; have h1 := hT z.toNat (by omega); have h2 := hT y.toNat (by omega); omega) (by simp (disch := omega) only [mu_s, mu_nf, mu_nc]; have h1 := hT z.toNat (by omega); have h2 := hT y.toNat (by omega); omega)) (oO_tank (by omega)) rfl rfl (Nat.le_of_ble_eq_true rfl) (by decide) (by decide) (fun M75 q75 => ?_)
            simp (disch := omega) only [mu_s, mu_nf, mu_nc] at q75
            have q75b : M75 (96 + z.toNat) 0 = M (96 + z.toNat) 0 - p := by rw [q75]; split <;> simp (disch := omega) only [mu_s, mu_nf, mu_nc]
            refine x_aload_n hg dX11_lead_78 rfl ?_
            refine x_getR (j9 := 95) hg dX11_lead_79 fl_X11_77 (by decide) rfl rfl (by decide) ?_
            refine x_iload_n hg dX11_lead_82 rfl ?_
            refine x_aaload (len := 4) (et := 6) hg dX11_lead_83 (by decide) (by decide) (by omega) (RS_tank _ _) (by omega) ?_
            refine x_getI hg dX11_lead_84 fl_X11_224 (oO_tank (by omega)) rfl ?_
            try simp (disch := omega) only [mu_s, mu_nf, mu_nc]
            refine x_iret hg hr (Or.inl rfl) dX11_lead_87 (Nat.le_refl _) (Nat.le_refl _) ?_
            refine ⟨rfl, rfl, _, rfl, Or.inl ⟨by omega, q75b, q75⟩⟩
          · skip
            refine x_iconst hg dX11_lead_47 ?_
            refine x_iret hg hr (Or.inl rfl) dX11_lead_48 (Nat.le_refl _) (Nat.le_refl _) ?_
            exact ⟨rfl, rfl, _, rfl, Or.inr ⟨by omega, rfl, rfl⟩⟩
      · skip
        refine x_iconst hg dX11_lead_19 ?_
        refine x_iret hg hr (Or.inl rfl) dX11_lead_20 (Nat.le_refl _) (Nat.le_refl _) ?_
        exact ⟨rfl, rfl, _, rfl, Or.inr ⟨by omega, rfl, rfl⟩⟩

theorem dX11_isCalledBack_0 : decode cX11_isCalledBack 0 = .ok (.aload_n 1, 1) := by decide +kernel
theorem dX11_isCalledBack_1 : decode cX11_isCalledBack 1 = .ok (.getfield 239, 3) := by decide +kernel
theorem dX11_isCalledBack_4 : decode cX11_isCalledBack 4 = .ok (.iload_n 2, 1) := by decide +kernel
theorem dX11_isCalledBack_5 : decode cX11_isCalledBack 5 = .ok (.if_icmp .le 5, 3) := by decide +kernel
theorem dX11_isCalledBack_8 : decode cX11_isCalledBack 8 = .ok (.iconst 0, 1) := by decide +kernel
theorem dX11_isCalledBack_9 : decode cX11_isCalledBack 9 = .ok (.ireturn, 1) := by decide +kernel
theorem dX11_isCalledBack_10 : decode cX11_isCalledBack 10 = .ok (.iconst 0, 1) := by decide +kernel
theorem dX11_isCalledBack_11 : decode cX11_isCalledBack 11 = .ok (.istore_n 3, 1) := by decide +kernel
theorem dX11_isCalledBack_12 : decode cX11_isCalledBack 12 = .ok (.iload_n 3, 1) := by decide +kernel
theorem dX11_isCalledBack_13 : decode cX11_isCalledBack 13 = .ok (.aload_n 0, 1) := by decide +kernel
theorem dX11_isCalledBack_14 : decode cX11_isCalledBack 14 = .ok (.getfield 245, 3) := by decide +kernel
theorem dX11_isCalledBack_17 : decode cX11_isCalledBack 17 = .ok (.if_icmp .ge 37, 3) := by decide +kernel
theorem dX11_isCalledBack_20 : decode cX11_isCalledBack 20 = .ok (.aload_n 0, 1) := by decide +kernel
theorem dX11_isCalledBack_21 : decode cX11_isCalledBack 21 = .ok (.getfield 91, 3) := by decide +kernel
theorem dX11_isCalledBack_24 : decode cX11_isCalledBack 24 = .ok (.iload_n 3, 1) := by decide +kernel
theorem dX11_isCalledBack_25 : decode cX11_isCalledBack 25 = .ok (.aaload, 1) := by decide +kernel
theorem dX11_isCalledBack_26 : decode cX11_isCalledBack 26 = .ok (.iload_n 2, 1) := by decide +kernel
theorem dX11_isCalledBack_27 : decode cX11_isCalledBack 27 = .ok (.invokevirtual 262, 3) := by decide +kernel
theorem dX11_isCalledBack_30 : decode cX11_isCalledBack 30 = .ok (.ifCond .eq 18, 3) := by decide +kernel
theorem dX11_isCalledBack_33 : decode cX11_isCalledBack 33 = .ok (.aload_n 0, 1) := by decide +kernel
theorem dX11_isCalledBack_34 : decode cX11_isCalledBack 34 = .ok (.getfield 91, 3) := by decide +kernel
theorem dX11_isCalledBack_37 : decode cX11_isCalledBack 37 = .ok (.iload_n 3, 1) := by decide +kernel
theorem dX11_isCalledBack_38 : decode cX11_isCalledBack 38 = .ok (.aaload, 1) := by decide +kernel
theorem dX11_isCalledBack_39 : decode cX11_isCalledBack 39 = .ok (.aload_n 1, 1) := by decide +kernel
theorem dX11_isCalledBack_40 : decode cX11_isCalledBack 40 = .ok (.invokevirtual 265, 3) := by decide +kernel
theorem dX11_isCalledBack_43 : decode cX11_isCalledBack 43 = .ok (.ifCond .eq 5, 3) := by decide +kernel
theorem dX11_isCalledBack_46 : decode cX11_isCalledBack 46 = .ok (.iconst 1, 1) := by decide +kernel
theorem dX11_isCalledBack_47 : decode cX11_isCalledBack 47 = .ok (.ireturn, 1) := by decide +kernel
theorem dX11_isCalledBack_48 : decode cX11_isCalledBack 48 = .ok (.iinc 3 1, 3) := by decide +kernel
theorem dX11_isCalledBack_51 : decode cX11_isCalledBack 51 = .ok (.goto (-39), 3) := by decide +kernel
theorem dX11_isCalledBack_54 : decode cX11_isCalledBack 54 = .ok (.iconst 0, 1) := by decide +kernel
theorem dX11_isCalledBack_55 : decode cX11_isCalledBack 55 = .ok (.ireturn, 1) := by decide +kernel
set_option maxHeartbeats 4000000 in
set_option maxRecDepth 20000 in
theorem c_X11_isCalledBack (l : Launch) (b : Nat) (D : va_G) (cy : Nat → ClassId) {tt : Nat} {M : xMm} {j : Nat} {k : Int} (hI : IO M) (hj : xO 209 j 0) (hj2 : 0 ≤ M j 2 ∧ M j 2 ≤ 100000) (hk : inR k) : xC l b D cy yX11_isCalledBack cX11_isCalledBack 4 (some .boolean) ({ frames := 1, cells := 0, slots := 0, locals := 21 }) [xr 1, xr j, xi k] 209 M (RS tt) (xPi 209 (RS tt) (fun r M' => M' = M ∧ (pCB M j k ∧ r = 1 ∨ ¬ pCB M j k ∧ r = 0))) := by
  refine x_met (by decide) (Nat.le_of_ble_eq_true rfl) (fun g hg hr he => ?_)
  have hI0 := hI
  obtain ⟨hn10, hn13, hn15, hn16, hn8, hn7, hC, hT, hB, hF⟩ := hI
  refine x_canon (ls' := [(0, _), (1, _), (2, _)]) rfl ?_
  have loop : ∀ (f : Nat) (i : Int), 0 ≤ i → i ≤ M 1 15 → M 1 15 - i < f → M j 2 ≤ k → (∀ a : Nat, (a : Int) < i → ¬ (pKn M (142 + a) k ∧ pCo M (142 + a) j)) → xW g 209 M (RS tt) 0 0 12 [(0, xr 1), (1, xr j), (2, xi k), (3, xi i)] [] := by
    intro f
    induction f with
    | zero => intro i h1 h2 h3 _ _; exact absurd h3 (by omega)
    | succ f ih =>
      intro i hi1 hi2 hi3 hjk hno
      refine x_iload_n hg dX11_isCalledBack_12 rfl ?_
      refine x_aload_n hg dX11_isCalledBack_13 rfl ?_
      refine x_getI hg dX11_isCalledBack_14 fl_X11_245 (by decide) rfl ?_
      refine x_icmp_ge (tgt := 54) hg dX11_isCalledBack_17 (by decide) (by omega) (by omega) (fun c17 => ?_) (fun c17 => ?_)
      · skip
        refine x_iconst hg dX11_isCalledBack_54 ?_
        refine x_iret hg hr (Or.inr ⟨rfl, by first | exact Or.inl rfl | exact Or.inr rfl | omega⟩) dX11_isCalledBack_55 (Nat.le_refl _) (Nat.le_refl _) ?_
        refine ⟨rfl, rfl, _, rfl, rfl, Or.inr ⟨?_, rfl⟩⟩
        rintro ⟨-, a, ha, hp⟩
        exact hno a (by omega) hp
      · skip
        refine x_aload_n hg dX11_isCalledBack_20 rfl ?_
        refine x_getR (j9 := 141) hg dX11_isCalledBack_21 fl_X11_91 (by decide) rfl rfl (by decide) ?_
        refine x_iload_n hg dX11_isCalledBack_24 rfl ?_
        refine x_aaload (len := 30) (et := 8) hg dX11_isCalledBack_25 (by decide) (by decide) (by omega) (RS_find _ _) (by omega) ?_
        refine x_iload_n hg dX11_isCalledBack_26 rfl ?_
        refine x_cVi hg he [_] [] dX11_isCalledBack_27 mv_X11_262 (c_X3_isKnownAt l b D cy (oO_find (by omega)) (by omega) (by have h1 := hF i.toNat (by omega); omega) (by have h1 := hF i.toNat (by omega); omega)) (oO_find (by omega)) rfl rfl (Nat.le_of_ble_eq_true rfl) (by decide) (by decide) (fun r27 M27 q27 => ?_)
        obtain ⟨h27, e27⟩ := q27
        replace h27 := h27.symm
        subst h27
        refine x_if_eq (tgt := 48) hg dX11_isCalledBack_30 (by decide) (by omega) (fun c30 => ?_) (fun c30 => ?_)
        · skip
          refine x_iinc (ls' := [(0, _), (1, _), (2, _), (3, _)]) hg dX11_isCalledBack_48 rfl (by decide) rfl ?_
          refine x_goto (tgt := 12) hg dX11_isCalledBack_51 (by decide) ?_
          refine ih _ (by omega) (by omega) (by omega) hjk (fun a ha => ?_)
          by_cases hai : (a : Int) < i
          · exact hno a hai
          · have ea : a = i.toNat := by omega
            subst ea
            intro hcon
            first | (exact absurd hcon.1 (by omega)) | (exact absurd hcon.2 (by omega))
        · skip
          refine x_aload_n hg dX11_isCalledBack_33 rfl ?_
          refine x_getR (j9 := 141) hg dX11_isCalledBack_34 fl_X11_91 (by decide) rfl rfl (by decide) ?_
          refine x_iload_n hg dX11_isCalledBack_37 rfl ?_
          refine x_aaload (len := 30) (et := 8) hg dX11_isCalledBack_38 (by decide) (by decide) (by omega) (RS_find _ _) (by omega) ?_
          refine x_aload_n hg dX11_isCalledBack_39 rfl ?_
          refine x_cVi hg he [_] [] dX11_isCalledBack_40 mv_X11_265 (c_X3_concerns l b D cy (oO_find (by omega)) hj (by have h1 := hF i.toNat (by omega); omega) (by omega)) (oO_find (by omega)) rfl rfl (Nat.le_of_ble_eq_true rfl) (by decide) (by decide) (fun r40 M40 q40 => ?_)
          obtain ⟨h40, e40⟩ := q40
          replace h40 := h40.symm
          subst h40
          refine x_if_eq (tgt := 48) hg dX11_isCalledBack_43 (by decide) (by omega) (fun c43 => ?_) (fun c43 => ?_)
          · skip
            refine x_iinc (ls' := [(0, _), (1, _), (2, _), (3, _)]) hg dX11_isCalledBack_48 rfl (by decide) rfl ?_
            refine x_goto (tgt := 12) hg dX11_isCalledBack_51 (by decide) ?_
            refine ih _ (by omega) (by omega) (by omega) hjk (fun a ha => ?_)
            by_cases hai : (a : Int) < i
            · exact hno a hai
            · have ea : a = i.toNat := by omega
              subst ea
              intro hcon
              first | (exact absurd hcon.1 (by omega)) | (exact absurd hcon.2 (by omega))
          · skip
            refine x_iconst hg dX11_isCalledBack_46 ?_
            refine x_iret hg hr (Or.inr ⟨rfl, by first | exact Or.inl rfl | exact Or.inr rfl | omega⟩) dX11_isCalledBack_47 (Nat.le_refl _) (Nat.le_refl _) ?_
            exact ⟨rfl, rfl, _, rfl, rfl, Or.inl ⟨⟨by omega, i.toNat, by omega, by omega, by omega⟩, rfl⟩⟩
  refine x_aload_n hg dX11_isCalledBack_0 rfl ?_
  refine x_getI hg dX11_isCalledBack_1 fl_X11_239 hj rfl ?_
  refine x_iload_n hg dX11_isCalledBack_4 rfl ?_
  refine x_icmp_le (tgt := 10) hg dX11_isCalledBack_5 (by decide) (by omega) (by omega) (fun c5 => ?_) (fun c5 => ?_)
  · skip
    refine x_iconst hg dX11_isCalledBack_10 ?_
    refine x_istore_n (ls' := [(0, _), (1, _), (2, _), (3, _)]) hg dX11_isCalledBack_11 rfl (by decide) rfl ?_
    exact loop ((M 1 15).toNat + 1) 0 (by omega) (by omega) (by omega) (by omega) (fun a ha => absurd ha (by omega))
  · skip
    refine x_iconst hg dX11_isCalledBack_8 ?_
    refine x_iret hg hr (Or.inr ⟨rfl, by first | exact Or.inl rfl | exact Or.inr rfl | omega⟩) dX11_isCalledBack_9 (Nat.le_refl _) (Nat.le_refl _) ?_
    exact ⟨rfl, rfl, _, rfl, rfl, Or.inr ⟨fun hp => absurd hp.1 (by omega), rfl⟩⟩

theorem dX11_recalled_0 : decode cX11_recalled 0 = .ok (.aload_n 0, 1) := by decide +kernel
theorem dX11_recalled_1 : decode cX11_recalled 1 = .ok (.iload_n 1, 1) := by decide +kernel
theorem dX11_recalled_2 : decode cX11_recalled 2 = .ok (.invokevirtual 242, 3) := by decide +kernel
theorem dX11_recalled_5 : decode cX11_recalled 5 = .ok (.ifCond .ne 5, 3) := by decide +kernel
theorem dX11_recalled_8 : decode cX11_recalled 8 = .ok (.iconst (-1), 1) := by decide +kernel
theorem dX11_recalled_9 : decode cX11_recalled 9 = .ok (.ireturn, 1) := by decide +kernel
theorem dX11_recalled_10 : decode cX11_recalled 10 = .ok (.aload_n 0, 1) := by decide +kernel
theorem dX11_recalled_11 : decode cX11_recalled 11 = .ok (.aload_n 0, 1) := by decide +kernel
theorem dX11_recalled_12 : decode cX11_recalled 12 = .ok (.getfield 84, 3) := by decide +kernel
theorem dX11_recalled_15 : decode cX11_recalled 15 = .ok (.iload_n 1, 1) := by decide +kernel
theorem dX11_recalled_16 : decode cX11_recalled 16 = .ok (.aaload, 1) := by decide +kernel
theorem dX11_recalled_17 : decode cX11_recalled 17 = .ok (.iload_n 2, 1) := by decide +kernel
theorem dX11_recalled_18 : decode cX11_recalled 18 = .ok (.invokevirtual 258, 3) := by decide +kernel
theorem dX11_recalled_21 : decode cX11_recalled 21 = .ok (.ifCond .eq 7, 3) := by decide +kernel
theorem dX11_recalled_24 : decode cX11_recalled 24 = .ok (.iconst 1, 1) := by decide +kernel
theorem dX11_recalled_25 : decode cX11_recalled 25 = .ok (.goto 4, 3) := by decide +kernel
theorem dX11_recalled_28 : decode cX11_recalled 28 = .ok (.iconst 0, 1) := by decide +kernel
theorem dX11_recalled_29 : decode cX11_recalled 29 = .ok (.ireturn, 1) := by decide +kernel
set_option maxHeartbeats 4000000 in
set_option maxRecDepth 20000 in
theorem c_X11_recalled (l : Launch) (b : Nat) (D : va_G) (cy : Nat → ClassId) {tt : Nat} {M : xMm} {z k : Int} (hI : IO M) (hz : inR z) (hk : inR k) : xC l b D cy yX11_recalled cX11_recalled 3 (some .int) ({ frames := 2, cells := 0, slots := 0, locals := 44 }) [xr 1, xi z, xi k] 209 M (RS tt) (xPi 209 (RS tt) (fun r M' => M' = M ∧ ((0 ≤ z ∧ z < M 1 13) ∧ (pCB M (101 + z.toNat) k ∧ r = 1 ∨ ¬ pCB M (101 + z.toNat) k ∧ r = 0) ∨ ¬ (0 ≤ z ∧ z < M 1 13) ∧ r = -1))) := by
  refine x_met (by decide) (Nat.le_of_ble_eq_true rfl) (fun g hg hr he => ?_)
  have hI0 := hI
  obtain ⟨hn10, hn13, hn15, hn16, hn8, hn7, hC, hT, hB, hF⟩ := hI
  refine x_canon (ls' := [(0, _), (1, _), (2, _)]) rfl ?_
  refine x_aload_n hg dX11_recalled_0 rfl ?_
  refine x_iload_n hg dX11_recalled_1 rfl ?_
  refine x_cVi hg he [_] [] dX11_recalled_2 mv_X11_242 (c_X11_isBottling l b D cy (by omega) (by omega)) (by decide) rfl rfl (Nat.le_of_ble_eq_true rfl) (by decide) (by decide) (fun r2 M2 q2 => ?_)
  obtain ⟨h2, e2⟩ := q2
  replace h2 := h2.symm
  subst h2
  refine x_if_ne (tgt := 10) hg dX11_recalled_5 (by decide) (by omega) (fun c5 => ?_) (fun c5 => ?_)
  · skip
    refine x_aload_n hg dX11_recalled_10 rfl ?_
    refine x_aload_n hg dX11_recalled_11 rfl ?_
    refine x_getR (j9 := 100) hg dX11_recalled_12 fl_X11_84 (by decide) rfl rfl (by decide) ?_
    refine x_iload_n hg dX11_recalled_15 rfl ?_
    refine x_aaload (len := 40) (et := 7) hg dX11_recalled_16 (by decide) (by decide) (by omega) (RS_bottling _ _) (by omega) ?_
    refine x_iload_n hg dX11_recalled_17 rfl ?_
    refine x_cVi hg he [_, _] [] dX11_recalled_18 mv_X11_258 (c_X11_isCalledBack l b D cy hI0 (oO_bottling (by omega)) (by have h1 := hB z.toNat (by omega); omega) (by omega)) (by decide) rfl rfl (Nat.le_of_ble_eq_true rfl) (by decide) (by decide) (fun r18 M18 q18 => ?_)
    obtain ⟨h18, e18⟩ := q18
    replace h18 := h18.symm
    subst h18
    have e18b : r18 = 0 ∨ r18 = 1 := by rcases e18 with ⟨-, h⟩ | ⟨-, h⟩ <;> omega
    refine x_if_eq (tgt := 28) hg dX11_recalled_21 (by decide) (by omega) (fun c21 => ?_) (fun c21 => ?_)
    · skip
      refine x_iconst hg dX11_recalled_28 ?_
      refine x_iret hg hr (Or.inl rfl) dX11_recalled_29 (Nat.le_refl _) (Nat.le_refl _) ?_
      refine ⟨rfl, rfl, _, rfl, rfl, ?_⟩
      first | exact Or.inr ⟨by omega, rfl⟩ | (refine Or.inl ⟨by omega, ?_⟩; rcases e18 with h | h <;> first | exact Or.inl ⟨h.1, by omega⟩ | exact Or.inr ⟨h.1, by omega⟩)
    · skip
      refine x_iconst hg dX11_recalled_24 ?_
      refine x_goto (tgt := 29) hg dX11_recalled_25 (by decide) ?_
      refine x_iret hg hr (Or.inl rfl) dX11_recalled_29 (Nat.le_refl _) (Nat.le_refl _) ?_
      refine ⟨rfl, rfl, _, rfl, rfl, ?_⟩
      first | exact Or.inr ⟨by omega, rfl⟩ | (refine Or.inl ⟨by omega, ?_⟩; rcases e18 with h | h <;> first | exact Or.inl ⟨h.1, by omega⟩ | exact Or.inr ⟨h.1, by omega⟩)
  · skip
    refine x_iconst hg dX11_recalled_8 ?_
    refine x_iret hg hr (Or.inl rfl) dX11_recalled_9 (Nat.le_refl _) (Nat.le_refl _) ?_
    refine ⟨rfl, rfl, _, rfl, rfl, ?_⟩
    first | exact Or.inr ⟨by omega, rfl⟩ | (refine Or.inl ⟨by omega, ?_⟩; rcases e18 with h | h <;> first | exact Or.inl ⟨h.1, by omega⟩ | exact Or.inr ⟨h.1, by omega⟩)

theorem dX11_recall_0 : decode cX11_recall 0 = .ok (.iconst 0, 1) := by decide +kernel
theorem dX11_recall_1 : decode cX11_recall 1 = .ok (.istore_n 2, 1) := by decide +kernel
theorem dX11_recall_2 : decode cX11_recall 2 = .ok (.iconst 0, 1) := by decide +kernel
theorem dX11_recall_3 : decode cX11_recall 3 = .ok (.istore_n 3, 1) := by decide +kernel
theorem dX11_recall_4 : decode cX11_recall 4 = .ok (.iload_n 3, 1) := by decide +kernel
theorem dX11_recall_5 : decode cX11_recall 5 = .ok (.aload_n 0, 1) := by decide +kernel
theorem dX11_recall_6 : decode cX11_recall 6 = .ok (.getfield 234, 3) := by decide +kernel
theorem dX11_recall_9 : decode cX11_recall 9 = .ok (.if_icmp .ge 35, 3) := by decide +kernel
theorem dX11_recall_12 : decode cX11_recall 12 = .ok (.aload_n 0, 1) := by decide +kernel
theorem dX11_recall_13 : decode cX11_recall 13 = .ok (.aload_n 0, 1) := by decide +kernel
theorem dX11_recall_14 : decode cX11_recall 14 = .ok (.getfield 84, 3) := by decide +kernel
theorem dX11_recall_17 : decode cX11_recall 17 = .ok (.iload_n 3, 1) := by decide +kernel
theorem dX11_recall_18 : decode cX11_recall 18 = .ok (.aaload, 1) := by decide +kernel
theorem dX11_recall_19 : decode cX11_recall 19 = .ok (.iload_n 1, 1) := by decide +kernel
theorem dX11_recall_20 : decode cX11_recall 20 = .ok (.invokevirtual 258, 3) := by decide +kernel
theorem dX11_recall_23 : decode cX11_recall 23 = .ok (.ifCond .eq 15, 3) := by decide +kernel
theorem dX11_recall_26 : decode cX11_recall 26 = .ok (.iload_n 2, 1) := by decide +kernel
theorem dX11_recall_27 : decode cX11_recall 27 = .ok (.aload_n 0, 1) := by decide +kernel
theorem dX11_recall_28 : decode cX11_recall 28 = .ok (.getfield 84, 3) := by decide +kernel
theorem dX11_recall_31 : decode cX11_recall 31 = .ok (.iload_n 3, 1) := by decide +kernel
theorem dX11_recall_32 : decode cX11_recall 32 = .ok (.aaload, 1) := by decide +kernel
theorem dX11_recall_33 : decode cX11_recall 33 = .ok (.getfield 237, 3) := by decide +kernel
theorem dX11_recall_36 : decode cX11_recall 36 = .ok (.iadd, 1) := by decide +kernel
theorem dX11_recall_37 : decode cX11_recall 37 = .ok (.istore_n 2, 1) := by decide +kernel
theorem dX11_recall_38 : decode cX11_recall 38 = .ok (.iinc 3 1, 3) := by decide +kernel
theorem dX11_recall_41 : decode cX11_recall 41 = .ok (.goto (-37), 3) := by decide +kernel
theorem dX11_recall_44 : decode cX11_recall 44 = .ok (.iload_n 2, 1) := by decide +kernel
theorem dX11_recall_45 : decode cX11_recall 45 = .ok (.ireturn, 1) := by decide +kernel
set_option maxHeartbeats 4000000 in
set_option maxRecDepth 20000 in
theorem c_X11_recall (l : Launch) (b : Nat) (D : va_G) (cy : Nat → ClassId) {tt : Nat} {M : xMm} {k : Int} (hI : IO M) (hk : inR k) : xC l b D cy yX11_recall cX11_recall 4 (some .int) ({ frames := 2, cells := 0, slots := 0, locals := 44 }) [xr 1, xi k] 209 M (RS tt) (xPi 209 (RS tt) (fun r M' => M' = M ∧ r = vRs M k (M 1 13).toNat)) := by
  refine x_met (by decide) (Nat.le_of_ble_eq_true rfl) (fun g hg hr he => ?_)
  have hI0 := hI
  obtain ⟨hn10, hn13, hn15, hn16, hn8, hn7, hC, hT, hB, hF⟩ := hI
  refine x_canon (ls' := [(0, _), (1, _)]) rfl ?_
  have hle := vRs_le (M := M) (k := k) (fun j hj => (hB j hj).1)
  have loop : ∀ (f : Nat) (i : Nat), (i : Int) ≤ M 1 13 → M 1 13 - i < f → xW g 209 M (RS tt) 0 0 4 [(0, xr 1), (1, xi k), (2, xi (vRs M k i)), (3, xi (i : Int))] [] := by
    intro f
    induction f with
    | zero => intro i h1 h2; exact absurd h2 (by omega)
    | succ f ih =>
      intro i hi2 hi3
      have hli := hle i (by omega)
      refine x_iload_n hg dX11_recall_4 rfl ?_
      refine x_aload_n hg dX11_recall_5 rfl ?_
      refine x_getI hg dX11_recall_6 fl_X11_234 (by decide) rfl ?_
      refine x_icmp_ge (tgt := 44) hg dX11_recall_9 (by decide) (by omega) (by omega) (fun c9 => ?_) (fun c9 => ?_)
      · skip
        refine x_iload_n hg dX11_recall_44 rfl ?_
        refine x_iret hg hr (Or.inl rfl) dX11_recall_45 (Nat.le_refl _) (Nat.le_refl _) ?_
        exact ⟨rfl, rfl, _, rfl, rfl, by rw [show i = (M 1 13).toNat by omega]⟩
      · skip
        refine x_aload_n hg dX11_recall_12 rfl ?_
        refine x_aload_n hg dX11_recall_13 rfl ?_
        refine x_getR (j9 := 100) hg dX11_recall_14 fl_X11_84 (by decide) rfl rfl (by decide) ?_
        refine x_iload_n hg dX11_recall_17 rfl ?_
        refine x_aaload (len := 40) (et := 7) hg dX11_recall_18 (by decide) (by decide) (by omega) (RS_bottling _ _) (by omega) ?_
        refine x_iload_n hg dX11_recall_19 rfl ?_
        refine x_cVi hg he [_, _] [] dX11_recall_20 mv_X11_258 (c_X11_isCalledBack l b D cy hI0 (oO_bottling (by omega)) (by have h1 := hB i (by omega); simp only [Int.toNat_natCast]; omega) (by omega)) (by decide) rfl rfl (Nat.le_of_ble_eq_true rfl) (by decide) (by decide) (fun r20 M20 q20 => ?_)
        obtain ⟨h20, e20⟩ := q20
        replace h20 := h20.symm
        subst h20
        simp only [Int.toNat_natCast] at e20
        have e20b : r20 = 0 ∨ r20 = 1 := by rcases e20 with ⟨-, h⟩ | ⟨-, h⟩ <;> omega
        have hb1 := hB i (by omega)
        refine x_if_eq (tgt := 38) hg dX11_recall_23 (by decide) (by omega) (fun c23 => ?_) (fun c23 => ?_)
        · skip
          refine x_iinc (ls' := [(0, _), (1, _), (2, _), (3, _)]) hg dX11_recall_38 rfl (by decide) rfl ?_
          refine x_goto (tgt := 4) hg dX11_recall_41 (by decide) ?_
          have hn := ih (i + 1) (by omega) (by omega)
          rcases e20 with ⟨hcb, h2⟩ | ⟨hcb, h2⟩
          · rw [vRs_y hcb] at hn
            first | (simp only [Int.toNat_natCast, Int.natCast_add, Int.natCast_one] at hn ⊢; exact hn) | exact absurd h2 (by omega)
          · rw [vRs_n hcb] at hn
            first | (simp only [Int.toNat_natCast, Int.natCast_add, Int.natCast_one] at hn ⊢; exact hn) | exact absurd h2 (by omega)
        · skip
          refine x_iload_n hg dX11_recall_26 rfl ?_
          refine x_aload_n hg dX11_recall_27 rfl ?_
          refine x_getR (j9 := 100) hg dX11_recall_28 fl_X11_84 (by decide) rfl rfl (by decide) ?_
          refine x_iload_n hg dX11_recall_31 rfl ?_
          refine x_aaload (len := 40) (et := 7) hg dX11_recall_32 (by decide) (by decide) (by omega) (RS_bottling _ _) (by omega) ?_
          refine x_getI hg dX11_recall_33 fl_X11_237 (oO_bottling (by omega)) rfl ?_
          refine x_iadd hg dX11_recall_36 ?_
          refine x_istore_n (ls' := [(0, _), (1, _), (2, _), (3, _)]) hg dX11_recall_37 rfl (by decide) rfl ?_
          refine x_iinc (ls' := [(0, _), (1, _), (2, _), (3, _)]) hg dX11_recall_38 rfl (by decide) rfl ?_
          refine x_goto (tgt := 4) hg dX11_recall_41 (by decide) ?_
          have hn := ih (i + 1) (by omega) (by omega)
          rcases e20 with ⟨hcb, h2⟩ | ⟨hcb, h2⟩
          · rw [vRs_y hcb] at hn
            first | (simp only [Int.toNat_natCast, Int.natCast_add, Int.natCast_one] at hn ⊢; exact hn) | exact absurd h2 (by omega)
          · rw [vRs_n hcb] at hn
            first | (simp only [Int.toNat_natCast, Int.natCast_add, Int.natCast_one] at hn ⊢; exact hn) | exact absurd h2 (by omega)
  refine x_iconst hg dX11_recall_0 ?_
  refine x_istore_n (ls' := [(0, _), (1, _), (2, _)]) hg dX11_recall_1 rfl (by decide) rfl ?_
  refine x_iconst hg dX11_recall_2 ?_
  refine x_istore_n (ls' := [(0, _), (1, _), (2, _), (3, _)]) hg dX11_recall_3 rfl (by decide) rfl ?_
  exact loop ((M 1 13).toNat + 1) 0 (by omega) (by omega)
