theorem dX11_churn_0 : decode cX11_churn 0 = .ok (.iload_n 1, 1) := by decide +kernel
theorem dX11_churn_1 : decode cX11_churn 1 = .ok (.invokestatic 159, 3) := by decide +kernel
theorem dX11_churn_4 : decode cX11_churn 4 = .ok (.ifCond .eq 18, 3) := by decide +kernel
theorem dX11_churn_7 : decode cX11_churn 7 = .ok (.iload_n 2, 1) := by decide +kernel
theorem dX11_churn_8 : decode cX11_churn 8 = .ok (.iconst 1, 1) := by decide +kernel
theorem dX11_churn_9 : decode cX11_churn 9 = .ok (.if_icmp .lt 13, 3) := by decide +kernel
theorem dX11_churn_12 : decode cX11_churn 12 = .ok (.iload_n 2, 1) := by decide +kernel
theorem dX11_churn_13 : decode cX11_churn 13 = .ok (.bipush 10, 2) := by decide +kernel
theorem dX11_churn_15 : decode cX11_churn 15 = .ok (.if_icmp .ge 7, 3) := by decide +kernel
theorem dX11_churn_18 : decode cX11_churn 18 = .ok (.iconst 1, 1) := by decide +kernel
theorem dX11_churn_19 : decode cX11_churn 19 = .ok (.goto 4, 3) := by decide +kernel
theorem dX11_churn_22 : decode cX11_churn 22 = .ok (.iconst 0, 1) := by decide +kernel
theorem dX11_churn_23 : decode cX11_churn 23 = .ok (.istore 5, 2) := by decide +kernel
theorem dX11_churn_25 : decode cX11_churn 25 = .ok (.iload_n 3, 1) := by decide +kernel
theorem dX11_churn_26 : decode cX11_churn 26 = .ok (.ifCond .lt 14, 3) := by decide +kernel
theorem dX11_churn_29 : decode cX11_churn 29 = .ok (.iload_n 3, 1) := by decide +kernel
theorem dX11_churn_30 : decode cX11_churn 30 = .ok (.sipush 1439, 3) := by decide +kernel
theorem dX11_churn_33 : decode cX11_churn 33 = .ok (.if_icmp .gt 7, 3) := by decide +kernel
theorem dX11_churn_36 : decode cX11_churn 36 = .ok (.iconst 1, 1) := by decide +kernel
theorem dX11_churn_37 : decode cX11_churn 37 = .ok (.goto 4, 3) := by decide +kernel
theorem dX11_churn_40 : decode cX11_churn 40 = .ok (.iconst 0, 1) := by decide +kernel
theorem dX11_churn_41 : decode cX11_churn 41 = .ok (.istore 6, 2) := by decide +kernel
theorem dX11_churn_43 : decode cX11_churn 43 = .ok (.iload 4, 2) := by decide +kernel
theorem dX11_churn_45 : decode cX11_churn 45 = .ok (.iconst 1, 1) := by decide +kernel
theorem dX11_churn_46 : decode cX11_churn 46 = .ok (.if_icmp .lt 14, 3) := by decide +kernel
theorem dX11_churn_49 : decode cX11_churn 49 = .ok (.iload 4, 2) := by decide +kernel
theorem dX11_churn_51 : decode cX11_churn 51 = .ok (.bipush 100, 2) := by decide +kernel
theorem dX11_churn_53 : decode cX11_churn 53 = .ok (.if_icmp .gt 7, 3) := by decide +kernel
theorem dX11_churn_56 : decode cX11_churn 56 = .ok (.iconst 1, 1) := by decide +kernel
theorem dX11_churn_57 : decode cX11_churn 57 = .ok (.goto 4, 3) := by decide +kernel
theorem dX11_churn_60 : decode cX11_churn 60 = .ok (.iconst 0, 1) := by decide +kernel
theorem dX11_churn_61 : decode cX11_churn 61 = .ok (.istore 7, 2) := by decide +kernel
theorem dX11_churn_63 : decode cX11_churn 63 = .ok (.iload 5, 2) := by decide +kernel
theorem dX11_churn_65 : decode cX11_churn 65 = .ok (.ifCond .eq 22, 3) := by decide +kernel
theorem dX11_churn_68 : decode cX11_churn 68 = .ok (.iload 6, 2) := by decide +kernel
theorem dX11_churn_70 : decode cX11_churn 70 = .ok (.ifCond .eq 17, 3) := by decide +kernel
theorem dX11_churn_73 : decode cX11_churn 73 = .ok (.iload 7, 2) := by decide +kernel
theorem dX11_churn_75 : decode cX11_churn 75 = .ok (.ifCond .eq 12, 3) := by decide +kernel
theorem dX11_churn_78 : decode cX11_churn 78 = .ok (.aload_n 0, 1) := by decide +kernel
theorem dX11_churn_79 : decode cX11_churn 79 = .ok (.getfield 162, 3) := by decide +kernel
theorem dX11_churn_82 : decode cX11_churn 82 = .ok (.bipush 10, 2) := by decide +kernel
theorem dX11_churn_84 : decode cX11_churn 84 = .ok (.if_icmp .lt 5, 3) := by decide +kernel
theorem dX11_churn_87 : decode cX11_churn 87 = .ok (.iconst (-1), 1) := by decide +kernel
theorem dX11_churn_88 : decode cX11_churn 88 = .ok (.ireturn, 1) := by decide +kernel
theorem dX11_churn_89 : decode cX11_churn 89 = .ok (.aload_n 0, 1) := by decide +kernel
theorem dX11_churn_90 : decode cX11_churn 90 = .ok (.getfield 70, 3) := by decide +kernel
theorem dX11_churn_93 : decode cX11_churn 93 = .ok (.aload_n 0, 1) := by decide +kernel
theorem dX11_churn_94 : decode cX11_churn 94 = .ok (.getfield 162, 3) := by decide +kernel
theorem dX11_churn_97 : decode cX11_churn 97 = .ok (.aaload, 1) := by decide +kernel
theorem dX11_churn_98 : decode cX11_churn 98 = .ok (.astore 8, 2) := by decide +kernel
theorem dX11_churn_100 : decode cX11_churn 100 = .ok (.aload 8, 2) := by decide +kernel
theorem dX11_churn_102 : decode cX11_churn 102 = .ok (.iload_n 1, 1) := by decide +kernel
theorem dX11_churn_103 : decode cX11_churn 103 = .ok (.putfield 165, 3) := by decide +kernel
theorem dX11_churn_106 : decode cX11_churn 106 = .ok (.aload 8, 2) := by decide +kernel
theorem dX11_churn_108 : decode cX11_churn 108 = .ok (.iload_n 2, 1) := by decide +kernel
theorem dX11_churn_109 : decode cX11_churn 109 = .ok (.putfield 168, 3) := by decide +kernel
theorem dX11_churn_112 : decode cX11_churn 112 = .ok (.aload 8, 2) := by decide +kernel
theorem dX11_churn_114 : decode cX11_churn 114 = .ok (.iload_n 3, 1) := by decide +kernel
theorem dX11_churn_115 : decode cX11_churn 115 = .ok (.putfield 171, 3) := by decide +kernel
theorem dX11_churn_118 : decode cX11_churn 118 = .ok (.aload 8, 2) := by decide +kernel
theorem dX11_churn_120 : decode cX11_churn 120 = .ok (.iload 4, 2) := by decide +kernel
theorem dX11_churn_122 : decode cX11_churn 122 = .ok (.putfield 174, 3) := by decide +kernel
theorem dX11_churn_125 : decode cX11_churn 125 = .ok (.aload_n 0, 1) := by decide +kernel
theorem dX11_churn_126 : decode cX11_churn 126 = .ok (.dup, 1) := by decide +kernel
theorem dX11_churn_127 : decode cX11_churn 127 = .ok (.getfield 162, 3) := by decide +kernel
theorem dX11_churn_130 : decode cX11_churn 130 = .ok (.iconst 1, 1) := by decide +kernel
theorem dX11_churn_131 : decode cX11_churn 131 = .ok (.iadd, 1) := by decide +kernel
theorem dX11_churn_132 : decode cX11_churn 132 = .ok (.putfield 162, 3) := by decide +kernel
theorem dX11_churn_135 : decode cX11_churn 135 = .ok (.aload_n 0, 1) := by decide +kernel
theorem dX11_churn_136 : decode cX11_churn 136 = .ok (.iconst 1, 1) := by decide +kernel
theorem dX11_churn_137 : decode cX11_churn 137 = .ok (.putfield 60, 3) := by decide +kernel
theorem dX11_churn_140 : decode cX11_churn 140 = .ok (.aload_n 0, 1) := by decide +kernel
theorem dX11_churn_141 : decode cX11_churn 141 = .ok (.getfield 162, 3) := by decide +kernel
theorem dX11_churn_144 : decode cX11_churn 144 = .ok (.iconst 1, 1) := by decide +kernel
theorem dX11_churn_145 : decode cX11_churn 145 = .ok (.isub, 1) := by decide +kernel
theorem dX11_churn_146 : decode cX11_churn 146 = .ok (.ireturn, 1) := by decide +kernel
set_option maxHeartbeats 4000000 in
set_option maxRecDepth 20000 in
theorem c_X11_churn (l : Launch) (b : Nat) (D : va_G) (cy : Nat → ClassId) {tt : Nat} {M : xMm} {f s y p : Int} (hI : IO M) (hf : inR f) (hs : inR s) (hy : inR y) (hp : inR p) : xC l b D cy yX11_churn cX11_churn 9 (some .int) ({ frames := 1, cells := 0, slots := 0, locals := 20 }) [xr 1, xi f, xi s, xi y, xi p] 209 M (RS tt) (xPi 209 (RS tt) (fun r M' => (((0 ≤ f ∧ f < 12) ∧ (1 ≤ s ∧ s < 10) ∧ (0 ≤ y ∧ y ≤ 1439) ∧ (1 ≤ p ∧ p ≤ 100) ∧ M 1 10 < 10) ∧ r = M 1 10 ∧ M' = mu (mu (mu (mu (mu (mu M (85 + (M 1 10).toNat) 0 f) (85 + (M 1 10).toNat) 1 s) (85 + (M 1 10).toNat) 2 y) (85 + (M 1 10).toNat) 3 p) 1 10 (M 1 10 + 1)) 1 7 1) ∨ (¬ ((0 ≤ f ∧ f < 12) ∧ (1 ≤ s ∧ s < 10) ∧ (0 ≤ y ∧ y ≤ 1439) ∧ (1 ≤ p ∧ p ≤ 100) ∧ M 1 10 < 10) ∧ r = -1 ∧ M' = M))) := by
  refine x_met (by decide) (Nat.le_of_ble_eq_true rfl) (fun g hg hr he => ?_)
  obtain ⟨hn10, hn13, hn15, hn16, hn8, hn7, hC, hT, hB, hF⟩ := hI
  refine x_canon (ls' := [(0, _), (1, _), (2, _), (3, _), (4, _)]) rfl ?_
  have j61 : ∀ a a6 a7 : Int, (((0 ≤ f ∧ f < 12) ∧ (1 ≤ s ∧ s < 10)) ∧ a = 1 ∨ ¬ ((0 ≤ f ∧ f < 12) ∧ (1 ≤ s ∧ s < 10)) ∧ a = 0) → ((0 ≤ y ∧ y ≤ 1439) ∧ a6 = 1 ∨ ¬ (0 ≤ y ∧ y ≤ 1439) ∧ a6 = 0) → ((1 ≤ p ∧ p ≤ 100) ∧ a7 = 1 ∨ ¬ (1 ≤ p ∧ p ≤ 100) ∧ a7 = 0) → xW g 209 M (RS tt) 0 0 61 [(0, xr 1), (1, xi f), (2, xi s), (3, xi y), (4, xi p), (5, xi a), (6, xi a6)] [xi a7] := by
    intro a a6 a7 e5 e6 e7
    refine x_istore (ls' := [(0, _), (1, _), (2, _), (3, _), (4, _), (5, _), (6, _), (7, _)]) hg dX11_churn_61 (by decide) rfl ?_
    refine x_iload hg dX11_churn_63 rfl ?_
    refine x_if_eq (tgt := 87) hg dX11_churn_65 (by decide) (by omega) (fun c65 => ?_) (fun c65 => ?_)
    · skip
      refine x_iconst hg dX11_churn_87 ?_
      refine x_iret hg hr (Or.inl rfl) dX11_churn_88 (Nat.le_refl _) (Nat.le_refl _) ?_
      exact ⟨rfl, rfl, _, rfl, Or.inr ⟨by omega, rfl, rfl⟩⟩
    · skip
      refine x_iload hg dX11_churn_68 rfl ?_
      refine x_if_eq (tgt := 87) hg dX11_churn_70 (by decide) (by omega) (fun c70 => ?_) (fun c70 => ?_)
      · skip
        refine x_iconst hg dX11_churn_87 ?_
        refine x_iret hg hr (Or.inl rfl) dX11_churn_88 (Nat.le_refl _) (Nat.le_refl _) ?_
        exact ⟨rfl, rfl, _, rfl, Or.inr ⟨by omega, rfl, rfl⟩⟩
      · skip
        refine x_iload hg dX11_churn_73 rfl ?_
        refine x_if_eq (tgt := 87) hg dX11_churn_75 (by decide) (by omega) (fun c75 => ?_) (fun c75 => ?_)
        · skip
          refine x_iconst hg dX11_churn_87 ?_
          refine x_iret hg hr (Or.inl rfl) dX11_churn_88 (Nat.le_refl _) (Nat.le_refl _) ?_
          exact ⟨rfl, rfl, _, rfl, Or.inr ⟨by omega, rfl, rfl⟩⟩
        · skip
          refine x_aload_n hg dX11_churn_78 rfl ?_
          refine x_getI hg dX11_churn_79 fl_X11_162 (by decide) rfl ?_
          refine x_bipush hg dX11_churn_82 (by decide) ?_
          refine x_icmp_lt (tgt := 89) hg dX11_churn_84 (by decide) (by omega) (by omega) (fun c84 => ?_) (fun c84 => ?_)
          · skip
            refine x_aload_n hg dX11_churn_89 rfl ?_
            refine x_getR (j9 := 84) hg dX11_churn_90 fl_X11_70 (by decide) rfl rfl (by decide) ?_
            refine x_aload_n hg dX11_churn_93 rfl ?_
            refine x_getI hg dX11_churn_94 fl_X11_162 (by decide) rfl ?_
            refine x_aaload (len := 10) (et := 5) hg dX11_churn_97 (by decide) (by decide) (by omega) (RS_churn _ _) (by omega) ?_
            refine x_astore (ls' := [(0, _), (1, _), (2, _), (3, _), (4, _), (5, _), (6, _), (7, _), (8, _)]) hg dX11_churn_98 (by decide) rfl ?_
            refine x_aload hg dX11_churn_100 rfl ?_
            refine x_iload_n hg dX11_churn_102 rfl ?_
            refine x_putI hg dX11_churn_103 fl_X11_165 ft_1_0 (oO_churn (by omega)) rfl ?_
            refine x_aload hg dX11_churn_106 rfl ?_
            refine x_iload_n hg dX11_churn_108 rfl ?_
            refine x_putI hg dX11_churn_109 fl_X11_168 ft_1_1 (oO_churn (by omega)) rfl ?_
            refine x_aload hg dX11_churn_112 rfl ?_
            refine x_iload_n hg dX11_churn_114 rfl ?_
            refine x_putI hg dX11_churn_115 fl_X11_171 ft_1_2 (oO_churn (by omega)) rfl ?_
            refine x_aload hg dX11_churn_118 rfl ?_
            refine x_iload hg dX11_churn_120 rfl ?_
            refine x_putI hg dX11_churn_122 fl_X11_174 ft_1_3 (oO_churn (by omega)) rfl ?_
            refine x_aload_n hg dX11_churn_125 rfl ?_
            refine x_dup hg dX11_churn_126 rfl ?_
            refine x_getI hg dX11_churn_127 fl_X11_162 (by decide) rfl ?_
            try simp (disch := omega) only [mu_s, mu_nf, mu_nc]
            refine x_iconst hg dX11_churn_130 ?_
            refine x_iadd hg dX11_churn_131 ?_
            refine x_putI hg dX11_churn_132 fl_X11_162 ft_11_10 (by decide) rfl ?_
            refine x_aload_n hg dX11_churn_135 rfl ?_
            refine x_iconst hg dX11_churn_136 ?_
            refine x_putZ hg dX11_churn_137 fl_X11_60 ft_11_7 (by decide) rfl (by first | exact Or.inl rfl | exact Or.inr rfl | omega) ?_
            refine x_aload_n hg dX11_churn_140 rfl ?_
            refine x_getI hg dX11_churn_141 fl_X11_162 (by decide) rfl ?_
            try simp (disch := omega) only [mu_s, mu_nf, mu_nc]
            refine x_iconst hg dX11_churn_144 ?_
            refine x_isub hg dX11_churn_145 ?_
            refine x_iret hg hr (Or.inl rfl) dX11_churn_146 (Nat.le_refl _) (Nat.le_refl _) ?_
            exact ⟨rfl, rfl, _, rfl, Or.inl ⟨by omega, by omega, rfl⟩⟩
          · skip
            refine x_iconst hg dX11_churn_87 ?_
            refine x_iret hg hr (Or.inl rfl) dX11_churn_88 (Nat.le_refl _) (Nat.le_refl _) ?_
            exact ⟨rfl, rfl, _, rfl, Or.inr ⟨by omega, rfl, rfl⟩⟩
  have j41 : ∀ a a6 : Int, (((0 ≤ f ∧ f < 12) ∧ (1 ≤ s ∧ s < 10)) ∧ a = 1 ∨ ¬ ((0 ≤ f ∧ f < 12) ∧ (1 ≤ s ∧ s < 10)) ∧ a = 0) → ((0 ≤ y ∧ y ≤ 1439) ∧ a6 = 1 ∨ ¬ (0 ≤ y ∧ y ≤ 1439) ∧ a6 = 0) → xW g 209 M (RS tt) 0 0 41 [(0, xr 1), (1, xi f), (2, xi s), (3, xi y), (4, xi p), (5, xi a)] [xi a6] := by
    intro a a6 e5 e6
    refine x_istore (ls' := [(0, _), (1, _), (2, _), (3, _), (4, _), (5, _), (6, _)]) hg dX11_churn_41 (by decide) rfl ?_
    refine x_iload hg dX11_churn_43 rfl ?_
    refine x_iconst hg dX11_churn_45 ?_
    refine x_icmp_lt (tgt := 60) hg dX11_churn_46 (by decide) (by omega) (by omega) (fun c46 => ?_) (fun c46 => ?_)
    · skip
      refine x_iconst hg dX11_churn_60 ?_
      exact j61 _ _ _ e5 e6 (by omega)
    · skip
      refine x_iload hg dX11_churn_49 rfl ?_
      refine x_bipush hg dX11_churn_51 (by decide) ?_
      refine x_icmp_gt (tgt := 60) hg dX11_churn_53 (by decide) (by omega) (by omega) (fun c53 => ?_) (fun c53 => ?_)
      · skip
        refine x_iconst hg dX11_churn_60 ?_
        exact j61 _ _ _ e5 e6 (by omega)
      · skip
        refine x_iconst hg dX11_churn_56 ?_
        refine x_goto (tgt := 61) hg dX11_churn_57 (by decide) ?_
        exact j61 _ _ _ e5 e6 (by omega)
  have j23 : ∀ a : Int, (((0 ≤ f ∧ f < 12) ∧ (1 ≤ s ∧ s < 10)) ∧ a = 1 ∨ ¬ ((0 ≤ f ∧ f < 12) ∧ (1 ≤ s ∧ s < 10)) ∧ a = 0) → xW g 209 M (RS tt) 0 0 23 [(0, xr 1), (1, xi f), (2, xi s), (3, xi y), (4, xi p)] [xi a] := by
    intro a e5
    refine x_istore (ls' := [(0, _), (1, _), (2, _), (3, _), (4, _), (5, _)]) hg dX11_churn_23 (by decide) rfl ?_
    refine x_iload_n hg dX11_churn_25 rfl ?_
    refine x_if_lt (tgt := 40) hg dX11_churn_26 (by decide) (by omega) (fun c26 => ?_) (fun c26 => ?_)
    · skip
      refine x_iconst hg dX11_churn_40 ?_
      exact j41 _ _ e5 (by omega)
    · skip
      refine x_iload_n hg dX11_churn_29 rfl ?_
      refine x_sipush hg dX11_churn_30 (by decide) ?_
      refine x_icmp_gt (tgt := 40) hg dX11_churn_33 (by decide) (by omega) (by omega) (fun c33 => ?_) (fun c33 => ?_)
      · skip
        refine x_iconst hg dX11_churn_40 ?_
        exact j41 _ _ e5 (by omega)
      · skip
        refine x_iconst hg dX11_churn_36 ?_
        refine x_goto (tgt := 41) hg dX11_churn_37 (by decide) ?_
        exact j41 _ _ e5 (by omega)
  refine x_iload_n hg dX11_churn_0 rfl ?_
  refine x_cSi hg he [_] [] dX11_churn_1 ms_X11_159 (c_X11_isFarm l b D cy (by omega)) rfl rfl (Nat.le_of_ble_eq_true rfl) (by decide) (by decide) (fun r1 M1 q1 => ?_)
  obtain ⟨h1, e1⟩ := q1
  replace h1 := h1.symm
  subst h1
  refine x_if_eq (tgt := 22) hg dX11_churn_4 (by decide) (by omega) (fun c4 => ?_) (fun c4 => ?_)
  · skip
    refine x_iconst hg dX11_churn_22 ?_
    exact j23 _ (by omega)
  · skip
    refine x_iload_n hg dX11_churn_7 rfl ?_
    refine x_iconst hg dX11_churn_8 ?_
    refine x_icmp_lt (tgt := 22) hg dX11_churn_9 (by decide) (by omega) (by omega) (fun c9 => ?_) (fun c9 => ?_)
    · skip
      refine x_iconst hg dX11_churn_22 ?_
      exact j23 _ (by omega)
    · skip
      refine x_iload_n hg dX11_churn_12 rfl ?_
      refine x_bipush hg dX11_churn_13 (by decide) ?_
      refine x_icmp_ge (tgt := 22) hg dX11_churn_15 (by decide) (by omega) (by omega) (fun c15 => ?_) (fun c15 => ?_)
      · skip
        refine x_iconst hg dX11_churn_22 ?_
        exact j23 _ (by omega)
      · skip
        refine x_iconst hg dX11_churn_18 ?_
        refine x_goto (tgt := 23) hg dX11_churn_19 (by decide) ?_
        exact j23 _ (by omega)

theorem dX7_byteAt_0 : decode cX7_byteAt 0 = .ok (.iload_n 1, 1) := by decide +kernel
theorem dX7_byteAt_1 : decode cX7_byteAt 1 = .ok (.ifCond .lt 20, 3) := by decide +kernel
theorem dX7_byteAt_4 : decode cX7_byteAt 4 = .ok (.iload_n 1, 1) := by decide +kernel
theorem dX7_byteAt_5 : decode cX7_byteAt 5 = .ok (.aload_n 0, 1) := by decide +kernel
theorem dX7_byteAt_6 : decode cX7_byteAt 6 = .ok (.getfield 15, 3) := by decide +kernel
theorem dX7_byteAt_9 : decode cX7_byteAt 9 = .ok (.if_icmp .ge 12, 3) := by decide +kernel
theorem dX7_byteAt_12 : decode cX7_byteAt 12 = .ok (.aload_n 0, 1) := by decide +kernel
theorem dX7_byteAt_13 : decode cX7_byteAt 13 = .ok (.getfield 9, 3) := by decide +kernel
theorem dX7_byteAt_16 : decode cX7_byteAt 16 = .ok (.iload_n 1, 1) := by decide +kernel
theorem dX7_byteAt_17 : decode cX7_byteAt 17 = .ok (.iaload, 1) := by decide +kernel
theorem dX7_byteAt_18 : decode cX7_byteAt 18 = .ok (.goto 4, 3) := by decide +kernel
theorem dX7_byteAt_21 : decode cX7_byteAt 21 = .ok (.iconst (-1), 1) := by decide +kernel
theorem dX7_byteAt_22 : decode cX7_byteAt 22 = .ok (.ireturn, 1) := by decide +kernel
set_option maxHeartbeats 4000000 in
set_option maxRecDepth 20000 in
theorem c_X7_byteAt (l : Launch) (b : Nat) (D : va_G) (cy : Nat → ClassId) {tt : Nat} {M : xMm} {z : Int} (hI : IT M) (hz : inR z) : xC l b D cy yX7_byteAt cX7_byteAt 2 (some .int) ({ frames := 0, cells := 0, slots := 0, locals := 0 }) [xr 2, xi z] 209 M (RS tt) (xPi 209 (RS tt) (fun r M' => M' = M ∧ ((0 ≤ z ∧ z < M 2 1) ∧ r = M 3 z.toNat ∨ ¬ (0 ≤ z ∧ z < M 2 1) ∧ r = -1))) := by
  refine x_met (by decide) (Nat.le_of_ble_eq_true rfl) (fun g hg hr he => ?_)
  obtain ⟨hl, hby⟩ := id hI
  refine x_canon (ls' := [(0, _), (1, _)]) rfl ?_
  refine x_iload_n hg dX7_byteAt_0 rfl ?_
  refine x_if_lt (tgt := 21) hg dX7_byteAt_1 (by decide) (by omega) (fun c1 => ?_) (fun c1 => ?_)
  · skip
    refine x_iconst hg dX7_byteAt_21 ?_
    refine x_iret hg hr (Or.inl rfl) dX7_byteAt_22 (Nat.le_refl _) (Nat.le_refl _) ?_
    refine ⟨rfl, rfl, _, rfl, rfl, ?_⟩
    first | exact Or.inl ⟨by omega, rfl⟩ | exact Or.inr ⟨by omega, rfl⟩
  · skip
    refine x_iload_n hg dX7_byteAt_4 rfl ?_
    refine x_aload_n hg dX7_byteAt_5 rfl ?_
    refine x_getI hg dX7_byteAt_6 fl_X7_15 (by decide) rfl ?_
    refine x_icmp_ge (tgt := 21) hg dX7_byteAt_9 (by decide) (by omega) (by omega) (fun c9 => ?_) (fun c9 => ?_)
    · skip
      refine x_iconst hg dX7_byteAt_21 ?_
      refine x_iret hg hr (Or.inl rfl) dX7_byteAt_22 (Nat.le_refl _) (Nat.le_refl _) ?_
      refine ⟨rfl, rfl, _, rfl, rfl, ?_⟩
      first | exact Or.inl ⟨by omega, rfl⟩ | exact Or.inr ⟨by omega, rfl⟩
    · skip
      refine x_aload_n hg dX7_byteAt_12 rfl ?_
      refine x_getR (j9 := 3) hg dX7_byteAt_13 fl_X7_9 (by decide) rfl rfl (by decide) ?_
      refine x_iload_n hg dX7_byteAt_16 rfl ?_
      refine x_iaload (len := 1000) hg dX7_byteAt_17 (by decide) (by omega) ?_
      refine x_goto (tgt := 22) hg dX7_byteAt_18 (by decide) ?_
      refine x_iret hg hr (Or.inl rfl) dX7_byteAt_22 (Nat.le_refl _) (Nat.le_refl _) ?_
      refine ⟨rfl, rfl, _, rfl, rfl, ?_⟩
      first | exact Or.inl ⟨by omega, rfl⟩ | exact Or.inr ⟨by omega, rfl⟩

theorem dX7_append_0 : decode cX7_append 0 = .ok (.bipush 24, 2) := by decide +kernel
theorem dX7_append_2 : decode cX7_append 2 = .ok (.istore_n 2, 1) := by decide +kernel
theorem dX7_append_3 : decode cX7_append 3 = .ok (.iload_n 2, 1) := by decide +kernel
theorem dX7_append_4 : decode cX7_append 4 = .ok (.ifCond .lt 45, 3) := by decide +kernel
theorem dX7_append_7 : decode cX7_append 7 = .ok (.aload_n 0, 1) := by decide +kernel
theorem dX7_append_8 : decode cX7_append 8 = .ok (.getfield 15, 3) := by decide +kernel
theorem dX7_append_11 : decode cX7_append 11 = .ok (.sipush 1000, 3) := by decide +kernel
theorem dX7_append_14 : decode cX7_append 14 = .ok (.if_icmp .ge 35, 3) := by decide +kernel
theorem dX7_append_17 : decode cX7_append 17 = .ok (.aload_n 0, 1) := by decide +kernel
theorem dX7_append_18 : decode cX7_append 18 = .ok (.getfield 9, 3) := by decide +kernel
theorem dX7_append_21 : decode cX7_append 21 = .ok (.aload_n 0, 1) := by decide +kernel
theorem dX7_append_22 : decode cX7_append 22 = .ok (.getfield 15, 3) := by decide +kernel
theorem dX7_append_25 : decode cX7_append 25 = .ok (.iload_n 1, 1) := by decide +kernel
theorem dX7_append_26 : decode cX7_append 26 = .ok (.iload_n 2, 1) := by decide +kernel
theorem dX7_append_27 : decode cX7_append 27 = .ok (.iushr, 1) := by decide +kernel
theorem dX7_append_28 : decode cX7_append 28 = .ok (.sipush 255, 3) := by decide +kernel
theorem dX7_append_31 : decode cX7_append 31 = .ok (.iand, 1) := by decide +kernel
theorem dX7_append_32 : decode cX7_append 32 = .ok (.iastore, 1) := by decide +kernel
theorem dX7_append_33 : decode cX7_append 33 = .ok (.aload_n 0, 1) := by decide +kernel
theorem dX7_append_34 : decode cX7_append 34 = .ok (.dup, 1) := by decide +kernel
theorem dX7_append_35 : decode cX7_append 35 = .ok (.getfield 15, 3) := by decide +kernel
theorem dX7_append_38 : decode cX7_append 38 = .ok (.iconst 1, 1) := by decide +kernel
theorem dX7_append_39 : decode cX7_append 39 = .ok (.iadd, 1) := by decide +kernel
theorem dX7_append_40 : decode cX7_append 40 = .ok (.putfield 15, 3) := by decide +kernel
theorem dX7_append_43 : decode cX7_append 43 = .ok (.iinc 2 (-8), 3) := by decide +kernel
theorem dX7_append_46 : decode cX7_append 46 = .ok (.goto (-43), 3) := by decide +kernel
theorem dX7_append_49 : decode cX7_append 49 = .ok (.return_, 1) := by decide +kernel
set_option maxHeartbeats 4000000 in
set_option maxRecDepth 20000 in
theorem c_X7_append (l : Launch) (b : Nat) (D : va_G) (cy : Nat → ClassId) {tt : Nat} {M0 : xMm} {z : Int} (hI : IT M0) : xC l b D cy yX7_append cX7_append 3 none ({ frames := 0, cells := 0, slots := 0, locals := 0 }) [xr 2, xi z] 209 M0 (RS tt) (xPv 209 (RS tt) (fun M' => IT M' ∧ ∀ a, a ≠ 2 → a ≠ 3 → M' a = M0 a)) := by
  refine x_met (by decide) (Nat.le_of_ble_eq_true rfl) (fun g hg hr he => ?_)
  refine x_canon (ls' := [(0, _), (1, _)]) rfl ?_
  have loop : ∀ (c : Nat) (M : xMm) (s : Int), s ≤ 24 → s + 8 < c → -8 ≤ s → IT M → (∀ a, a ≠ 2 → a ≠ 3 → M a = M0 a) → xW g 209 M (RS tt) 0 0 3 [(0, xr 2), (1, xi z), (2, xi s)] [] := by
    intro c
    induction c with
    | zero => intro M s h1 h2 h3 _ _; exact absurd h2 (by omega)
    | succ c ih =>
      intro M s hs1 hs2 hs3 hI hfr
      obtain ⟨hl, hby⟩ := id hI
      refine x_iload_n hg dX7_append_3 rfl ?_
      refine x_if_lt (tgt := 49) hg dX7_append_4 (by decide) (by omega) (fun c4 => ?_) (fun c4 => ?_)
      · skip
        refine x_vret hg hr dX7_append_49 (Nat.le_refl _) (Nat.le_refl _) ?_
        exact ⟨rfl, rfl, rfl, hI, hfr⟩
      · skip
        refine x_aload_n hg dX7_append_7 rfl ?_
        refine x_getI hg dX7_append_8 fl_X7_15 (by decide) rfl ?_
        refine x_sipush hg dX7_append_11 (by decide) ?_
        refine x_icmp_ge (tgt := 49) hg dX7_append_14 (by decide) (by omega) (by omega) (fun c14 => ?_) (fun c14 => ?_)
        · skip
          refine x_vret hg hr dX7_append_49 (Nat.le_refl _) (Nat.le_refl _) ?_
          exact ⟨rfl, rfl, rfl, hI, hfr⟩
        · skip
          refine x_aload_n hg dX7_append_17 rfl ?_
          refine x_getR (j9 := 3) hg dX7_append_18 fl_X7_9 (by decide) rfl rfl (by decide) ?_
          refine x_aload_n hg dX7_append_21 rfl ?_
          refine x_getI hg dX7_append_22 fl_X7_15 (by decide) rfl ?_
          refine x_iload_n hg dX7_append_25 rfl ?_
          refine x_iload_n hg dX7_append_26 rfl ?_
          refine x_iushr hg dX7_append_27 ?_
          refine x_sipush hg dX7_append_28 (by decide) ?_
          refine x_iand hg dX7_append_31 ?_
          refine x_iastore (len := 1000) hg dX7_append_32 (by decide) (by omega)  ?_
          refine x_aload_n hg dX7_append_33 rfl ?_
          refine x_dup hg dX7_append_34 rfl ?_
          refine x_getI hg dX7_append_35 fl_X7_15 (by decide) rfl ?_
          try simp (disch := omega) only [mu_s, mu_nf, mu_nc]
          refine x_iconst hg dX7_append_38 ?_
          refine x_iadd hg dX7_append_39 ?_
          refine x_putI hg dX7_append_40 fl_X7_15 ft_7_1 (by decide) rfl ?_
          refine x_iinc (ls' := [(0, _), (1, _), (2, _)]) hg dX7_append_43 rfl (by decide) rfl ?_
          refine x_goto (tgt := 3) hg dX7_append_46 (by decide) ?_
          have hb := bAnd_255 (bUshr z s)
          refine ih _ _ (by omega) (by omega) (by omega) (IT_len (IT_byte hI hb.1 hb.2) (by omega) (by omega)) (fun a h2 h3 => ?_)
          rw [← hfr a h2 h3]
          funext c
          rw [mu_nc h2, mu_nc h3]
  refine x_bipush hg dX7_append_0 (by decide) ?_
  refine x_istore_n (ls' := [(0, _), (1, _), (2, _)]) hg dX7_append_2 rfl (by decide) rfl ?_
  exact loop 33 M0 24 (by omega) (by omega) (by omega) hI (fun a _ _ => rfl)

theorem dX11_feed_0 : decode cX11_feed 0 = .ok (.aload_n 0, 1) := by decide +kernel
theorem dX11_feed_1 : decode cX11_feed 1 = .ok (.getfield 12, 3) := by decide +kernel
theorem dX11_feed_4 : decode cX11_feed 4 = .ok (.getfield 96, 3) := by decide +kernel
theorem dX11_feed_7 : decode cX11_feed 7 = .ok (.bipush 20, 2) := by decide +kernel
theorem dX11_feed_9 : decode cX11_feed 9 = .ok (.iadd, 1) := by decide +kernel
theorem dX11_feed_10 : decode cX11_feed 10 = .ok (.sipush 1000, 3) := by decide +kernel
theorem dX11_feed_13 : decode cX11_feed 13 = .ok (.if_icmp .le 5, 3) := by decide +kernel
theorem dX11_feed_16 : decode cX11_feed 16 = .ok (.iconst (-1), 1) := by decide +kernel
theorem dX11_feed_17 : decode cX11_feed 17 = .ok (.ireturn, 1) := by decide +kernel
theorem dX11_feed_18 : decode cX11_feed 18 = .ok (.aload_n 0, 1) := by decide +kernel
theorem dX11_feed_19 : decode cX11_feed 19 = .ok (.getfield 12, 3) := by decide +kernel
theorem dX11_feed_22 : decode cX11_feed 22 = .ok (.iload_n 1, 1) := by decide +kernel
theorem dX11_feed_23 : decode cX11_feed 23 = .ok (.invokevirtual 99, 3) := by decide +kernel
theorem dX11_feed_26 : decode cX11_feed 26 = .ok (.aload_n 0, 1) := by decide +kernel
theorem dX11_feed_27 : decode cX11_feed 27 = .ok (.getfield 12, 3) := by decide +kernel
theorem dX11_feed_30 : decode cX11_feed 30 = .ok (.iload_n 2, 1) := by decide +kernel
theorem dX11_feed_31 : decode cX11_feed 31 = .ok (.invokevirtual 99, 3) := by decide +kernel
theorem dX11_feed_34 : decode cX11_feed 34 = .ok (.aload_n 0, 1) := by decide +kernel
theorem dX11_feed_35 : decode cX11_feed 35 = .ok (.getfield 12, 3) := by decide +kernel
theorem dX11_feed_38 : decode cX11_feed 38 = .ok (.iload_n 3, 1) := by decide +kernel
theorem dX11_feed_39 : decode cX11_feed 39 = .ok (.invokevirtual 99, 3) := by decide +kernel
theorem dX11_feed_42 : decode cX11_feed 42 = .ok (.aload_n 0, 1) := by decide +kernel
theorem dX11_feed_43 : decode cX11_feed 43 = .ok (.getfield 12, 3) := by decide +kernel
theorem dX11_feed_46 : decode cX11_feed 46 = .ok (.iload 4, 2) := by decide +kernel
theorem dX11_feed_48 : decode cX11_feed 48 = .ok (.invokevirtual 99, 3) := by decide +kernel
theorem dX11_feed_51 : decode cX11_feed 51 = .ok (.aload_n 0, 1) := by decide +kernel
theorem dX11_feed_52 : decode cX11_feed 52 = .ok (.getfield 12, 3) := by decide +kernel
theorem dX11_feed_55 : decode cX11_feed 55 = .ok (.iload 5, 2) := by decide +kernel
theorem dX11_feed_57 : decode cX11_feed 57 = .ok (.invokevirtual 99, 3) := by decide +kernel
theorem dX11_feed_60 : decode cX11_feed 60 = .ok (.aload_n 0, 1) := by decide +kernel
theorem dX11_feed_61 : decode cX11_feed 61 = .ok (.getfield 12, 3) := by decide +kernel
theorem dX11_feed_64 : decode cX11_feed 64 = .ok (.getfield 96, 3) := by decide +kernel
theorem dX11_feed_67 : decode cX11_feed 67 = .ok (.ireturn, 1) := by decide +kernel
set_option maxHeartbeats 4000000 in
set_option maxRecDepth 20000 in
theorem c_X11_feed (l : Launch) (b : Nat) (D : va_G) (cy : Nat → ClassId) {tt : Nat} {M : xMm} {u v w x y : Int} (hI : IT M) : xC l b D cy yX11_feed cX11_feed 6 (some .int) ({ frames := 1, cells := 0, slots := 0, locals := 22 }) [xr 1, xi u, xi v, xi w, xi x, xi y] 209 M (RS tt) (xPi 209 (RS tt) (fun r M' => IT M' ∧ ∀ a, a ≠ 2 → a ≠ 3 → M' a = M a)) := by
  refine x_met (by decide) (Nat.le_of_ble_eq_true rfl) (fun g hg hr he => ?_)
  obtain ⟨hl, hby⟩ := id hI
  refine x_canon (ls' := [(0, _), (1, _), (2, _), (3, _), (4, _), (5, _)]) rfl ?_
  refine x_aload_n hg dX11_feed_0 rfl ?_
  refine x_getR (j9 := 2) hg dX11_feed_1 fl_X11_12 (by decide) rfl rfl (by decide) ?_
  refine x_getI hg dX11_feed_4 fl_X11_96 (by decide) rfl ?_
  refine x_bipush hg dX11_feed_7 (by decide) ?_
  refine x_iadd hg dX11_feed_9 ?_
  refine x_sipush hg dX11_feed_10 (by decide) ?_
  refine x_icmp_le (tgt := 18) hg dX11_feed_13 (by decide) (by omega) (by omega) (fun c13 => ?_) (fun c13 => ?_)
  · skip
    refine x_aload_n hg dX11_feed_18 rfl ?_
    refine x_getR (j9 := 2) hg dX11_feed_19 fl_X11_12 (by decide) rfl rfl (by decide) ?_
    refine x_iload_n hg dX11_feed_22 rfl ?_
    refine x_cVv hg he [_] [] dX11_feed_23 mv_X11_99 (c_X7_append l b D cy hI) (by decide) rfl rfl (Nat.le_of_ble_eq_true rfl) (by decide) (by decide) (fun M23 q23 => ?_)
    obtain ⟨hI23, hfr23⟩ := q23
    refine x_aload_n hg dX11_feed_26 rfl ?_
    refine x_getR (j9 := 2) hg dX11_feed_27 fl_X11_12 (by decide) rfl rfl (by decide) ?_
    refine x_iload_n hg dX11_feed_30 rfl ?_
    refine x_cVv hg he [_] [] dX11_feed_31 mv_X11_99 (c_X7_append l b D cy hI23) (by decide) rfl rfl (Nat.le_of_ble_eq_true rfl) (by decide) (by decide) (fun M31 q31 => ?_)
    obtain ⟨hI31, hfr31⟩ := q31
    refine x_aload_n hg dX11_feed_34 rfl ?_
    refine x_getR (j9 := 2) hg dX11_feed_35 fl_X11_12 (by decide) rfl rfl (by decide) ?_
    refine x_iload_n hg dX11_feed_38 rfl ?_
    refine x_cVv hg he [_] [] dX11_feed_39 mv_X11_99 (c_X7_append l b D cy hI31) (by decide) rfl rfl (Nat.le_of_ble_eq_true rfl) (by decide) (by decide) (fun M39 q39 => ?_)
    obtain ⟨hI39, hfr39⟩ := q39
    refine x_aload_n hg dX11_feed_42 rfl ?_
    refine x_getR (j9 := 2) hg dX11_feed_43 fl_X11_12 (by decide) rfl rfl (by decide) ?_
    refine x_iload hg dX11_feed_46 rfl ?_
    refine x_cVv hg he [_] [] dX11_feed_48 mv_X11_99 (c_X7_append l b D cy hI39) (by decide) rfl rfl (Nat.le_of_ble_eq_true rfl) (by decide) (by decide) (fun M48 q48 => ?_)
    obtain ⟨hI48, hfr48⟩ := q48
    refine x_aload_n hg dX11_feed_51 rfl ?_
    refine x_getR (j9 := 2) hg dX11_feed_52 fl_X11_12 (by decide) rfl rfl (by decide) ?_
    refine x_iload hg dX11_feed_55 rfl ?_
    refine x_cVv hg he [_] [] dX11_feed_57 mv_X11_99 (c_X7_append l b D cy hI48) (by decide) rfl rfl (Nat.le_of_ble_eq_true rfl) (by decide) (by decide) (fun M57 q57 => ?_)
    obtain ⟨hI57, hfr57⟩ := q57
    refine x_aload_n hg dX11_feed_60 rfl ?_
    refine x_getR (j9 := 2) hg dX11_feed_61 fl_X11_12 (by decide) rfl rfl (by decide) ?_
    refine x_getI hg dX11_feed_64 fl_X11_96 (by decide) rfl ?_
    refine x_iret hg hr (Or.inl rfl) dX11_feed_67 (Nat.le_refl _) (Nat.le_refl _) ?_
    exact ⟨rfl, rfl, _, rfl, hI57, fun a h2 h3 => by rw [hfr57 a h2 h3, hfr48 a h2 h3, hfr39 a h2 h3, hfr31 a h2 h3, hfr23 a h2 h3]⟩
  · skip
    refine x_iconst hg dX11_feed_16 ?_
    refine x_iret hg hr (Or.inl rfl) dX11_feed_17 (Nat.le_refl _) (Nat.le_refl _) ?_
    exact ⟨rfl, rfl, _, rfl, hI, fun a _ _ => rfl⟩

theorem dX11_end_0 : decode cX11_end 0 = .ok (.iload_n 1, 1) := by decide +kernel
theorem dX11_end_1 : decode cX11_end 1 = .ok (.ifCond .lt 14, 3) := by decide +kernel
theorem dX11_end_4 : decode cX11_end 4 = .ok (.iload_n 1, 1) := by decide +kernel
theorem dX11_end_5 : decode cX11_end 5 = .ok (.aload_n 0, 1) := by decide +kernel
theorem dX11_end_6 : decode cX11_end 6 = .ok (.getfield 12, 3) := by decide +kernel
theorem dX11_end_9 : decode cX11_end 9 = .ok (.getfield 96, 3) := by decide +kernel
theorem dX11_end_12 : decode cX11_end 12 = .ok (.if_icmp .le 5, 3) := by decide +kernel
theorem dX11_end_15 : decode cX11_end 15 = .ok (.iconst (-1), 1) := by decide +kernel
theorem dX11_end_16 : decode cX11_end 16 = .ok (.ireturn, 1) := by decide +kernel
theorem dX11_end_17 : decode cX11_end 17 = .ok (.aload_n 0, 1) := by decide +kernel
theorem dX11_end_18 : decode cX11_end 18 = .ok (.getfield 12, 3) := by decide +kernel
theorem dX11_end_21 : decode cX11_end 21 = .ok (.iload_n 1, 1) := by decide +kernel
theorem dX11_end_22 : decode cX11_end 22 = .ok (.putfield 96, 3) := by decide +kernel
theorem dX11_end_25 : decode cX11_end 25 = .ok (.iload_n 1, 1) := by decide +kernel
theorem dX11_end_26 : decode cX11_end 26 = .ok (.ireturn, 1) := by decide +kernel
set_option maxHeartbeats 4000000 in
set_option maxRecDepth 20000 in
theorem c_X11_end (l : Launch) (b : Nat) (D : va_G) (cy : Nat → ClassId) {tt : Nat} {M : xMm} {z : Int} (hI : IT M) (hz : inR z) : xC l b D cy yX11_end cX11_end 2 (some .int) ({ frames := 0, cells := 0, slots := 0, locals := 0 }) [xr 1, xi z] 209 M (RS tt) (xPi 209 (RS tt) (fun r M' => IT M' ∧ ∀ a, a ≠ 2 → a ≠ 3 → M' a = M a)) := by
  refine x_met (by decide) (Nat.le_of_ble_eq_true rfl) (fun g hg hr he => ?_)
  obtain ⟨hl, hby⟩ := id hI
  refine x_canon (ls' := [(0, _), (1, _)]) rfl ?_
  refine x_iload_n hg dX11_end_0 rfl ?_
  refine x_if_lt (tgt := 15) hg dX11_end_1 (by decide) (by omega) (fun c1 => ?_) (fun c1 => ?_)
  · skip
    refine x_iconst hg dX11_end_15 ?_
    refine x_iret hg hr (Or.inl rfl) dX11_end_16 (Nat.le_refl _) (Nat.le_refl _) ?_
    exact ⟨rfl, rfl, _, rfl, hI, fun a _ _ => rfl⟩
  · skip
    refine x_iload_n hg dX11_end_4 rfl ?_
    refine x_aload_n hg dX11_end_5 rfl ?_
    refine x_getR (j9 := 2) hg dX11_end_6 fl_X11_12 (by decide) rfl rfl (by decide) ?_
    refine x_getI hg dX11_end_9 fl_X11_96 (by decide) rfl ?_
    refine x_icmp_le (tgt := 17) hg dX11_end_12 (by decide) (by omega) (by omega) (fun c12 => ?_) (fun c12 => ?_)
    · skip
      refine x_aload_n hg dX11_end_17 rfl ?_
      refine x_getR (j9 := 2) hg dX11_end_18 fl_X11_12 (by decide) rfl rfl (by decide) ?_
      refine x_iload_n hg dX11_end_21 rfl ?_
      refine x_putI hg dX11_end_22 fl_X11_96 ft_7_1 (by decide) rfl ?_
      refine x_iload_n hg dX11_end_25 rfl ?_
      refine x_iret hg hr (Or.inl rfl) dX11_end_26 (Nat.le_refl _) (Nat.le_refl _) ?_
      exact ⟨rfl, rfl, _, rfl, IT_len hI (by omega) (by omega), fun a h2 h3 => by funext c; rw [mu_nc h2]⟩
    · skip
      refine x_iconst hg dX11_end_15 ?_
      refine x_iret hg hr (Or.inl rfl) dX11_end_16 (Nat.le_refl _) (Nat.le_refl _) ?_
      exact ⟨rfl, rfl, _, rfl, hI, fun a _ _ => rfl⟩

theorem dX11_fault_0 : decode cX11_fault 0 = .ok (.iload_n 1, 1) := by decide +kernel
theorem dX11_fault_1 : decode cX11_fault 1 = .ok (.lookupswitch 43 #[(0, 27), (1, 35)], 27) := by decide +kernel
theorem dX11_fault_28 : decode cX11_fault 28 = .ok (.aload_n 0, 1) := by decide +kernel
theorem dX11_fault_29 : decode cX11_fault 29 = .ok (.getfield 21, 3) := by decide +kernel
theorem dX11_fault_32 : decode cX11_fault 32 = .ok (.getfield 110, 3) := by decide +kernel
theorem dX11_fault_35 : decode cX11_fault 35 = .ok (.ireturn, 1) := by decide +kernel
theorem dX11_fault_36 : decode cX11_fault 36 = .ok (.aload_n 0, 1) := by decide +kernel
theorem dX11_fault_37 : decode cX11_fault 37 = .ok (.getfield 21, 3) := by decide +kernel
theorem dX11_fault_40 : decode cX11_fault 40 = .ok (.getfield 113, 3) := by decide +kernel
theorem dX11_fault_43 : decode cX11_fault 43 = .ok (.ireturn, 1) := by decide +kernel
theorem dX11_fault_44 : decode cX11_fault 44 = .ok (.iconst (-1), 1) := by decide +kernel
theorem dX11_fault_45 : decode cX11_fault 45 = .ok (.ireturn, 1) := by decide +kernel
set_option maxHeartbeats 4000000 in
set_option maxRecDepth 20000 in
theorem c_X11_fault (l : Launch) (b : Nat) (D : va_G) (cy : Nat → ClassId) {tt : Nat} {M : xMm} {z : Int} (hz : inR z) : xC l b D cy yX11_fault cX11_fault 2 (some .int) ({ frames := 0, cells := 0, slots := 0, locals := 0 }) [xr 1, xi z] 209 M (RS tt) (xPi 209 (RS tt) (fun r M' => M' = M)) := by
  refine x_met (by decide) (Nat.le_of_ble_eq_true rfl) (fun g hg hr he => ?_)
  refine x_canon (ls' := [(0, _), (1, _)]) rfl ?_
  refine x_iload_n hg dX11_fault_0 rfl ?_
  refine x_lk2 (fun e1 => ?_) (fun e1 => ?_) (fun e1 f1 => ?_)
  · refine x_lookup (off := 27) (tgt := 28) hg dX11_fault_1 (by omega) rfl (by rw [e1]; rfl) (by decide) ?_
    refine x_aload_n hg dX11_fault_28 rfl ?_
    refine x_getR (j9 := 4) hg dX11_fault_29 fl_X11_21 (by decide) rfl rfl (by decide) ?_
    refine x_getI hg dX11_fault_32 fl_X11_110 (by decide) rfl ?_
    refine x_iret hg hr (Or.inl rfl) dX11_fault_35 (Nat.le_refl _) (Nat.le_refl _) ?_
    exact ⟨rfl, rfl, _, rfl, rfl⟩
  · refine x_lookup (off := 35) (tgt := 36) hg dX11_fault_1 (by omega) rfl (by rw [e1]; rfl) (by decide) ?_
    refine x_aload_n hg dX11_fault_36 rfl ?_
    refine x_getR (j9 := 4) hg dX11_fault_37 fl_X11_21 (by decide) rfl rfl (by decide) ?_
    refine x_getI hg dX11_fault_40 fl_X11_113 (by decide) rfl ?_
    refine x_iret hg hr (Or.inl rfl) dX11_fault_43 (Nat.le_refl _) (Nat.le_refl _) ?_
    exact ⟨rfl, rfl, _, rfl, rfl⟩
  · refine x_lookup (off := 43) (tgt := 44) hg dX11_fault_1 (by omega) rfl (by simp [Op.lookupswitch.offset, e1, f1, Ne.symm e1, Ne.symm f1]) (by decide) ?_
    refine x_iconst hg dX11_fault_44 ?_
    refine x_iret hg hr (Or.inl rfl) dX11_fault_45 (Nat.le_refl _) (Nat.le_refl _) ?_
    exact ⟨rfl, rfl, _, rfl, rfl⟩

theorem dX11_about_0 : decode cX11_about 0 = .ok (.iload_n 1, 1) := by decide +kernel
theorem dX11_about_1 : decode cX11_about 1 = .ok (.tableswitch 84 0 6 #[43, 48, 56, 61, 66, 71, 79], 43) := by decide +kernel
theorem dX11_about_44 : decode cX11_about 44 = .ok (.aload_n 0, 1) := by decide +kernel
theorem dX11_about_45 : decode cX11_about 45 = .ok (.getfield 212, 3) := by decide +kernel
theorem dX11_about_48 : decode cX11_about 48 = .ok (.ireturn, 1) := by decide +kernel
theorem dX11_about_49 : decode cX11_about 49 = .ok (.aload_n 0, 1) := by decide +kernel
theorem dX11_about_50 : decode cX11_about 50 = .ok (.getfield 28, 3) := by decide +kernel
theorem dX11_about_53 : decode cX11_about 53 = .ok (.getfield 107, 3) := by decide +kernel
theorem dX11_about_56 : decode cX11_about 56 = .ok (.ireturn, 1) := by decide +kernel
theorem dX11_about_57 : decode cX11_about 57 = .ok (.aload_n 0, 1) := by decide +kernel
theorem dX11_about_58 : decode cX11_about 58 = .ok (.getfield 162, 3) := by decide +kernel
theorem dX11_about_61 : decode cX11_about 61 = .ok (.ireturn, 1) := by decide +kernel
theorem dX11_about_62 : decode cX11_about 62 = .ok (.aload_n 0, 1) := by decide +kernel
theorem dX11_about_63 : decode cX11_about 63 = .ok (.getfield 234, 3) := by decide +kernel
theorem dX11_about_66 : decode cX11_about 66 = .ok (.ireturn, 1) := by decide +kernel
theorem dX11_about_67 : decode cX11_about 67 = .ok (.aload_n 0, 1) := by decide +kernel
theorem dX11_about_68 : decode cX11_about 68 = .ok (.getfield 245, 3) := by decide +kernel
theorem dX11_about_71 : decode cX11_about 71 = .ok (.ireturn, 1) := by decide +kernel
theorem dX11_about_72 : decode cX11_about 72 = .ok (.aload_n 0, 1) := by decide +kernel
theorem dX11_about_73 : decode cX11_about 73 = .ok (.getfield 12, 3) := by decide +kernel
theorem dX11_about_76 : decode cX11_about 76 = .ok (.getfield 96, 3) := by decide +kernel
theorem dX11_about_79 : decode cX11_about 79 = .ok (.ireturn, 1) := by decide +kernel
theorem dX11_about_80 : decode cX11_about 80 = .ok (.aload_n 0, 1) := by decide +kernel
theorem dX11_about_81 : decode cX11_about 81 = .ok (.getfield 64, 3) := by decide +kernel
theorem dX11_about_84 : decode cX11_about 84 = .ok (.ireturn, 1) := by decide +kernel
theorem dX11_about_85 : decode cX11_about 85 = .ok (.iconst (-1), 1) := by decide +kernel
theorem dX11_about_86 : decode cX11_about 86 = .ok (.ireturn, 1) := by decide +kernel
set_option maxHeartbeats 4000000 in
set_option maxRecDepth 20000 in
theorem c_X11_about (l : Launch) (b : Nat) (D : va_G) (cy : Nat → ClassId) {tt : Nat} {M : xMm} {z : Int} (htt : xTt tt) (hz : inR z) : xC l b D cy yX11_about cX11_about 2 (some .int) ({ frames := 0, cells := 0, slots := 0, locals := 0 }) [xr 1, xi z] 209 M (RS tt) (xPi 209 (RS tt) (fun r M' => M' = M)) := by
  refine x_met (by decide) (Nat.le_of_ble_eq_true rfl) (fun g hg hr he => ?_)
  refine x_canon (ls' := [(0, _), (1, _)]) rfl ?_
  refine x_iload_n hg dX11_about_0 rfl ?_
  refine x_int_cases 0 6 (fun hsw1 => ?_) (fun h1sw1 h2sw1 => ?_)
  · refine x_tableOut (tgt := 85) hg dX11_about_1 (by omega) hsw1 (by decide) ?_
    refine x_iconst hg dX11_about_85 ?_
    refine x_iret hg hr (Or.inl rfl) dX11_about_86 (Nat.le_refl _) (Nat.le_refl _) ?_
    exact ⟨rfl, rfl, _, rfl, rfl⟩
  · refine x_sw7 h1sw1 h2sw1 (fun e1 => ?_) (fun e1 => ?_) (fun e1 => ?_) (fun e1 => ?_) (fun e1 => ?_) (fun e1 => ?_) (fun e1 => ?_)
    · refine x_tableIn (off := 43) (tgt := 44) hg dX11_about_1 (by omega) h1sw1 h2sw1 (by rw [e1]; rfl) (by decide) ?_
      refine x_aload_n hg dX11_about_44 rfl ?_
      refine x_getI hg dX11_about_45 fl_X11_212 (by decide) rfl ?_
      refine x_iret hg hr (Or.inl rfl) dX11_about_48 (Nat.le_refl _) (Nat.le_refl _) ?_
      exact ⟨rfl, rfl, _, rfl, rfl⟩
    · refine x_tableIn (off := 48) (tgt := 49) hg dX11_about_1 (by omega) h1sw1 h2sw1 (by rw [e1]; rfl) (by decide) ?_
      refine x_aload_n hg dX11_about_49 rfl ?_
      refine x_getR (j9 := tt) hg dX11_about_50 fl_X11_28 (by decide) rfl rfl (by omega) ?_
      refine x_getI hg dX11_about_53 fl_X11_107 (oO_tt htt) rfl ?_
      refine x_iret hg hr (Or.inl rfl) dX11_about_56 (Nat.le_refl _) (Nat.le_refl _) ?_
      exact ⟨rfl, rfl, _, rfl, rfl⟩
    · refine x_tableIn (off := 56) (tgt := 57) hg dX11_about_1 (by omega) h1sw1 h2sw1 (by rw [e1]; rfl) (by decide) ?_
      refine x_aload_n hg dX11_about_57 rfl ?_
      refine x_getI hg dX11_about_58 fl_X11_162 (by decide) rfl ?_
      refine x_iret hg hr (Or.inl rfl) dX11_about_61 (Nat.le_refl _) (Nat.le_refl _) ?_
      exact ⟨rfl, rfl, _, rfl, rfl⟩
    · refine x_tableIn (off := 61) (tgt := 62) hg dX11_about_1 (by omega) h1sw1 h2sw1 (by rw [e1]; rfl) (by decide) ?_
      refine x_aload_n hg dX11_about_62 rfl ?_
      refine x_getI hg dX11_about_63 fl_X11_234 (by decide) rfl ?_
      refine x_iret hg hr (Or.inl rfl) dX11_about_66 (Nat.le_refl _) (Nat.le_refl _) ?_
      exact ⟨rfl, rfl, _, rfl, rfl⟩
    · refine x_tableIn (off := 66) (tgt := 67) hg dX11_about_1 (by omega) h1sw1 h2sw1 (by rw [e1]; rfl) (by decide) ?_
      refine x_aload_n hg dX11_about_67 rfl ?_
      refine x_getI hg dX11_about_68 fl_X11_245 (by decide) rfl ?_
      refine x_iret hg hr (Or.inl rfl) dX11_about_71 (Nat.le_refl _) (Nat.le_refl _) ?_
      exact ⟨rfl, rfl, _, rfl, rfl⟩
    · refine x_tableIn (off := 71) (tgt := 72) hg dX11_about_1 (by omega) h1sw1 h2sw1 (by rw [e1]; rfl) (by decide) ?_
      refine x_aload_n hg dX11_about_72 rfl ?_
      refine x_getR (j9 := 2) hg dX11_about_73 fl_X11_12 (by decide) rfl rfl (by decide) ?_
      refine x_getI hg dX11_about_76 fl_X11_96 (by decide) rfl ?_
      refine x_iret hg hr (Or.inl rfl) dX11_about_79 (Nat.le_refl _) (Nat.le_refl _) ?_
      exact ⟨rfl, rfl, _, rfl, rfl⟩
    · refine x_tableIn (off := 79) (tgt := 80) hg dX11_about_1 (by omega) h1sw1 h2sw1 (by rw [e1]; rfl) (by decide) ?_
      refine x_aload_n hg dX11_about_80 rfl ?_
      refine x_getI hg dX11_about_81 fl_X11_64 (by decide) rfl ?_
      refine x_iret hg hr (Or.inl rfl) dX11_about_84 (Nat.le_refl _) (Nat.le_refl _) ?_
      exact ⟨rfl, rfl, _, rfl, rfl⟩
