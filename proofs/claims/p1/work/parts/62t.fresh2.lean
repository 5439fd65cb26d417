/-! ===== feed and timetable on the fresh object ===== -/
set_option maxHeartbeats 4000000 in
set_option maxRecDepth 20000 in
theorem n_X7_append (l : Launch) (b : Nat) (D : va_G) (cy : Nat → ClassId) {tt : Nat} {M0 : xMm} {z : Int} (hI : IT M0) (hn : M0 2 1 + 4 ≤ 1000) : xC l b D cy yX7_append cX7_append 3 none ({ frames := 0, cells := 0, slots := 0, locals := 0 }) [xr 2, xi z] 209 M0 (RS tt) (xPv 209 (RS tt) (fun M' => IT M' ∧ (∀ a, a ≠ 2 → a ≠ 3 → M' a = M0 a) ∧ M' 2 1 = M0 2 1 + 4)) := by
  refine x_met (by decide) (Nat.le_of_ble_eq_true rfl) (fun g hg hr he => ?_)
  refine x_canon (ls' := [(0, _), (1, _)]) rfl ?_
  have loop : ∀ (c : Nat) (M : xMm) (s : Int), s ≤ 24 → s + 8 < c → -8 ≤ s → IT M → 8 * (M 2 1 - M0 2 1) = 24 - s → (∀ a, a ≠ 2 → a ≠ 3 → M a = M0 a) → xW g 209 M (RS tt) 0 0 3 [(0, xr 2), (1, xi z), (2, xi s)] [] := by
    intro c
    induction c with
    | zero => intro M s h1 h2 h3 _ _ _; exact absurd h2 (by omega)
    | succ c ih =>
      intro M s hs1 hs2 hs3 hI hcn hfr
      obtain ⟨hl, hby⟩ := id hI
      refine x_iload_n hg dX7_append_3 rfl ?_
      refine x_if_lt (tgt := 49) hg dX7_append_4 (by decide) (by omega) (fun c4 => ?_) (fun c4 => ?_)
      · skip
        refine x_vret hg hr dX7_append_49 (Nat.le_refl _) (Nat.le_refl _) ?_
        exact ⟨rfl, rfl, rfl, hI, hfr, by omega⟩
      · skip
        refine x_aload_n hg dX7_append_7 rfl ?_
        refine x_getI hg dX7_append_8 fl_X7_15 (by decide) rfl ?_
        refine x_sipush hg dX7_append_11 (by decide) ?_
        refine x_icmp_ge (tgt := 49) hg dX7_append_14 (by decide) (by omega) (by omega) (fun c14 => ?_) (fun c14 => ?_)
        · skip
          refine x_vret hg hr dX7_append_49 (Nat.le_refl _) (Nat.le_refl _) ?_
          exfalso; omega
        · skip
          refine x_aload_n hg dX7_append_17 rfl ?_
          refine x_getR (j9 := 3) hg dX7_append_18 fl_X7_9 (by decide) rfl rfl (by decide) ?_
          refine x_aload_n hg dX7_append_21 rfl ?_
          refine x_getI hg dX7_append_22 fl_X7_15 (by decide) rfl ?_
          refine x_iload_n hg dX7_append_25 rfl ?_
          refine x_iload_n hg dX7_append_26 rfl ?_
          refine x_iushr hg dX7_append_27 ?_
          refine x_sipush hg dX7_append_28 (by decide) ?_
          refine x_iand hg dX7_append_31 ?_
          refine x_iastore (len := 1000) hg dX7_append_32 (by decide) (by omega)  ?_
          refine x_aload_n hg dX7_append_33 rfl ?_
          refine x_dup hg dX7_append_34 rfl ?_
          refine x_getI hg dX7_append_35 fl_X7_15 (by decide) rfl ?_
          try simp (disch := omega) only [mu_s, mu_nf, mu_nc]
          refine x_iconst hg dX7_append_38 ?_
          refine x_iadd hg dX7_append_39 ?_
          refine x_putI hg dX7_append_40 fl_X7_15 ft_7_1 (by decide) rfl ?_
          refine x_iinc (ls' := [(0, _), (1, _), (2, _)]) hg dX7_append_43 rfl (by decide) rfl ?_
          refine x_goto (tgt := 3) hg dX7_append_46 (by decide) ?_
          have hb := bAnd_255 (bUshr z s)
          refine ih _ _ (by omega) (by omega) (by omega) (IT_len (IT_byte hI hb.1 hb.2) (by omega) (by omega)) (by rw [mu_s]; omega) (fun a h2 h3 => ?_)
          rw [← hfr a h2 h3]
          funext c
          rw [mu_nc h2, mu_nc h3]
  refine x_bipush hg dX7_append_0 (by decide) ?_
  refine x_istore_n (ls' := [(0, _), (1, _), (2, _)]) hg dX7_append_2 rfl (by decide) rfl ?_
  exact loop 33 M0 24 (by omega) (by omega) (by omega) hI (by omega) (fun a _ _ => rfl)
set_option maxHeartbeats 4000000 in
set_option maxRecDepth 20000 in
theorem n_X11_feed (l : Launch) (b : Nat) (D : va_G) (cy : Nat → ClassId) {tt : Nat} {M : xMm} {u v w x y : Int} (hI : IT M) (h0 : M 2 1 = 0) : xC l b D cy yX11_feed cX11_feed 6 (some .int) ({ frames := 1, cells := 0, slots := 0, locals := 22 }) [xr 1, xi u, xi v, xi w, xi x, xi y] 209 M (RS tt) (xPi 209 (RS tt) (fun r M' => r = 20 ∧ ∀ a, 172 ≤ a → M' a = M a)) := by
  refine x_met (by decide) (Nat.le_of_ble_eq_true rfl) (fun g hg hr he => ?_)
  obtain ⟨hl, hby⟩ := id hI
  refine x_canon (ls' := [(0, _), (1, _), (2, _), (3, _), (4, _), (5, _)]) rfl ?_
  refine x_aload_n hg dX11_feed_0 rfl ?_
  refine x_getR (j9 := 2) hg dX11_feed_1 fl_X11_12 (by decide) rfl rfl (by decide) ?_
  refine x_getI hg dX11_feed_4 fl_X11_96 (by decide) rfl ?_
  refine x_bipush hg dX11_feed_7 (by decide) ?_
  refine x_iadd hg dX11_feed_9 ?_
  refine x_sipush hg dX11_feed_10 (by decide) ?_
  refine x_icmp_le (tgt := 18) hg dX11_feed_13 (by decide) (by omega) (by omega) (fun c13 => ?_) (fun c13 => ?_)
  · skip
    refine x_aload_n hg dX11_feed_18 rfl ?_
    refine x_getR (j9 := 2) hg dX11_feed_19 fl_X11_12 (by decide) rfl rfl (by decide) ?_
    refine x_iload_n hg dX11_feed_22 rfl ?_
    refine x_cVv hg he [_] [] dX11_feed_23 mv_X11_99 (n_X7_append l b D cy hI (by omega)) (by decide) rfl rfl (Nat.le_of_ble_eq_true rfl) (by decide) (by decide) (fun M23 q23 => ?_)
    obtain ⟨hI23, hfr23, hn23⟩ := q23
    refine x_aload_n hg dX11_feed_26 rfl ?_
    refine x_getR (j9 := 2) hg dX11_feed_27 fl_X11_12 (by decide) rfl rfl (by decide) ?_
    refine x_iload_n hg dX11_feed_30 rfl ?_
    refine x_cVv hg he [_] [] dX11_feed_31 mv_X11_99 (n_X7_append l b D cy hI23 (by omega)) (by decide) rfl rfl (Nat.le_of_ble_eq_true rfl) (by decide) (by decide) (fun M31 q31 => ?_)
    obtain ⟨hI31, hfr31, hn31⟩ := q31
    refine x_aload_n hg dX11_feed_34 rfl ?_
    refine x_getR (j9 := 2) hg dX11_feed_35 fl_X11_12 (by decide) rfl rfl (by decide) ?_
    refine x_iload_n hg dX11_feed_38 rfl ?_
    refine x_cVv hg he [_] [] dX11_feed_39 mv_X11_99 (n_X7_append l b D cy hI31 (by omega)) (by decide) rfl rfl (Nat.le_of_ble_eq_true rfl) (by decide) (by decide) (fun M39 q39 => ?_)
    obtain ⟨hI39, hfr39, hn39⟩ := q39
    refine x_aload_n hg dX11_feed_42 rfl ?_
    refine x_getR (j9 := 2) hg dX11_feed_43 fl_X11_12 (by decide) rfl rfl (by decide) ?_
    refine x_iload hg dX11_feed_46 rfl ?_
    refine x_cVv hg he [_] [] dX11_feed_48 mv_X11_99 (n_X7_append l b D cy hI39 (by omega)) (by decide) rfl rfl (Nat.le_of_ble_eq_true rfl) (by decide) (by decide) (fun M48 q48 => ?_)
    obtain ⟨hI48, hfr48, hn48⟩ := q48
    refine x_aload_n hg dX11_feed_51 rfl ?_
    refine x_getR (j9 := 2) hg dX11_feed_52 fl_X11_12 (by decide) rfl rfl (by decide) ?_
    refine x_iload hg dX11_feed_55 rfl ?_
    refine x_cVv hg he [_] [] dX11_feed_57 mv_X11_99 (n_X7_append l b D cy hI48 (by omega)) (by decide) rfl rfl (Nat.le_of_ble_eq_true rfl) (by decide) (by decide) (fun M57 q57 => ?_)
    obtain ⟨hI57, hfr57, hn57⟩ := q57
    refine x_aload_n hg dX11_feed_60 rfl ?_
    refine x_getR (j9 := 2) hg dX11_feed_61 fl_X11_12 (by decide) rfl rfl (by decide) ?_
    refine x_getI hg dX11_feed_64 fl_X11_96 (by decide) rfl ?_
    refine x_iret hg hr (Or.inl rfl) dX11_feed_67 (Nat.le_refl _) (Nat.le_refl _) ?_
    exact ⟨rfl, rfl, _, rfl, by omega, fun a ha => by rw [hfr57 a (by omega) (by omega), hfr48 a (by omega) (by omega), hfr39 a (by omega) (by omega), hfr31 a (by omega) (by omega), hfr23 a (by omega) (by omega)]⟩
  · skip
    exfalso; omega
set_option maxHeartbeats 4000000 in
set_option maxRecDepth 20000 in
theorem n_X12_feed (l : Launch) (b : Nat) (D : va_G) (cy : Nat → ClassId) {tt : Nat} {M0 : xMm} {va vb vc vd ve : Int} (hT0 : MT M0) (h0 : M0 172 2 = 0) : xC l b D cy yX12_feed cX12_feed 8 (some .int) ({ frames := 0, cells := 0, slots := 0, locals := 0 }) [xr 172, xi va, xi vb, xi vc, xi vd, xi ve] 209 M0 (RS tt) (xPi 209 (RS tt) (fun r M' => r = 20)) := by
  refine x_met (by decide) (Nat.le_of_ble_eq_true rfl) (fun g hg hr he => ?_)
  have hl0 := hT0.1
  refine x_canon (ls' := [(0, _), (1, _), (2, _), (3, _), (4, _), (5, _)]) rfl ?_
  have loop : M0 172 2 ≤ 980 → ∀ (n1 : Nat) (M : xMm) (i : Int), 0 ≤ i → i ≤ 20 → 20 - i < n1 → MT M → M 172 = M0 172 → (∀ a, a ≠ 173 → M a = M0 a) → xW g 209 M (RS tt) 0 0 18 [(0, xr 172), (1, xi va), (2, xi vb), (3, xi vc), (4, xi vd), (5, xi ve), (6, xi i)] [] := by
    intro h980 n1
    induction n1 with
    | zero => intro M i h1 h2 h3; exfalso; omega
    | succ n1 ih =>
      intro M i hi1 hi2 hi3 hT h172 hfr
      have h2 : M 172 2 = M0 172 2 := by rw [h172]
      have j71 : i < 20 → ∀ p : Int, xW g 209 M (RS tt) 0 0 71 [(0, xr 172), (1, xi va), (2, xi vb), (3, xi vc), (4, xi vd), (5, xi ve), (6, xi i)] [xi p] := by
        intro hi20 p
        refine x_istore (ls' := [(0, _), (1, _), (2, _), (3, _), (4, _), (5, _), (6, _), (7, _)]) hg dX12_feed_71 (by decide) rfl ?_
        refine x_aload_n hg dX12_feed_73 rfl ?_
        refine x_getR (j9 := 173) hg dX12_feed_74 fl_X12_72 (by decide) rfl rfl (by decide) ?_
        refine x_aload_n hg dX12_feed_77 rfl ?_
        refine x_getI hg dX12_feed_78 fl_X12_69 (by decide) rfl ?_
        refine x_iload hg dX12_feed_81 rfl ?_
        refine x_iadd hg dX12_feed_83 ?_
        refine x_iload hg dX12_feed_84 rfl ?_
        refine x_bipush hg dX12_feed_86 (by decide) ?_
        refine x_bipush hg dX12_feed_88 (by decide) ?_
        refine x_iload hg dX12_feed_90 rfl ?_
        refine x_iconst hg dX12_feed_92 ?_
        refine x_iand hg dX12_feed_93 ?_
        refine x_imul hg dX12_feed_94 ?_
        refine x_isub hg dX12_feed_95 ?_
        refine x_ishr hg dX12_feed_96 ?_
        refine x_i2b hg dX12_feed_97 ?_
        refine x_any (P := fun x9 => -128 ≤ x9 ∧ x9 ≤ 127) (bByte_r _) (fun x98 h98 => ?_)
        refine x_bastore (len := 1020) hg dX12_feed_98 (by decide) (by omega) (by exact h98) ?_
        refine x_iinc (ls' := [(0, _), (1, _), (2, _), (3, _), (4, _), (5, _), (6, _), (7, _)]) hg dX12_feed_99 rfl (by decide) rfl ?_
        refine x_goto (tgt := 18) hg dX12_feed_102 (by decide) ?_
        refine x_canon (ls' := [(0, _), (1, _), (2, _), (3, _), (4, _), (5, _), (6, _)]) rfl ?_
        exact ih _ _ (by omega) (by omega) (by omega) (MT_byte hT h98) (by rw [← h172]; funext y; exact mu_nc (by decide)) (fun a ha => by rw [← hfr a ha]; funext y; exact mu_nc ha)
      refine x_iload hg dX12_feed_18 rfl ?_
      refine x_bipush hg dX12_feed_20 (by decide) ?_
      refine x_icmp_ge (tgt := 105) hg dX12_feed_22 (by decide) (by omega) (by omega) (fun c22 => ?_) (fun c22 => ?_)
      · skip
        refine x_aload_n hg dX12_feed_105 rfl ?_
        refine x_dup hg dX12_feed_106 rfl ?_
        refine x_getI hg dX12_feed_107 fl_X12_69 (by decide) rfl ?_
        refine x_bipush hg dX12_feed_110 (by decide) ?_
        refine x_iadd hg dX12_feed_112 ?_
        refine x_putI hg dX12_feed_113 fl_X12_69 ft_12_2 (by decide) rfl ?_
        refine x_aload_n hg dX12_feed_116 rfl ?_
        refine x_getI hg dX12_feed_117 fl_X12_69 (by decide) rfl ?_
        try simp (disch := omega) only [mu_s, mu_nf, mu_nc]
        refine x_iret hg hr (Or.inl rfl) dX12_feed_120 (Nat.le_refl _) (Nat.le_refl _) ?_
        exact ⟨rfl, rfl, _, rfl, by omega⟩
      · skip
        refine x_iload hg dX12_feed_25 rfl ?_
        refine x_iconst hg dX12_feed_27 ?_
        refine x_icmp_ge (tgt := 35) hg dX12_feed_28 (by decide) (by omega) (by omega) (fun c28 => ?_) (fun c28 => ?_)
        · skip
          refine x_iload hg dX12_feed_35 rfl ?_
          refine x_bipush hg dX12_feed_37 (by decide) ?_
          refine x_icmp_ge (tgt := 46) hg dX12_feed_39 (by decide) (by omega) (by omega) (fun c39 => ?_) (fun c39 => ?_)
          · skip
            refine x_iload hg dX12_feed_46 rfl ?_
            refine x_bipush hg dX12_feed_48 (by decide) ?_
            refine x_icmp_ge (tgt := 57) hg dX12_feed_50 (by decide) (by omega) (by omega) (fun c50 => ?_) (fun c50 => ?_)
            · skip
              refine x_iload hg dX12_feed_57 rfl ?_
              refine x_bipush hg dX12_feed_59 (by decide) ?_
              refine x_icmp_ge (tgt := 69) hg dX12_feed_61 (by decide) (by omega) (by omega) (fun c61 => ?_) (fun c61 => ?_)
              · skip
                refine x_iload hg dX12_feed_69 rfl ?_
                exact j71 (by omega) _
              · skip
                refine x_iload hg dX12_feed_64 rfl ?_
                refine x_goto (tgt := 71) hg dX12_feed_66 (by decide) ?_
                exact j71 (by omega) _
            · skip
              refine x_iload_n hg dX12_feed_53 rfl ?_
              refine x_goto (tgt := 71) hg dX12_feed_54 (by decide) ?_
              exact j71 (by omega) _
          · skip
            refine x_iload_n hg dX12_feed_42 rfl ?_
            refine x_goto (tgt := 71) hg dX12_feed_43 (by decide) ?_
            exact j71 (by omega) _
        · skip
          refine x_iload_n hg dX12_feed_31 rfl ?_
          refine x_goto (tgt := 71) hg dX12_feed_32 (by decide) ?_
          exact j71 (by omega) _
  refine x_aload_n hg dX12_feed_0 rfl ?_
  refine x_getI hg dX12_feed_1 fl_X12_69 (by decide) rfl ?_
  refine x_bipush hg dX12_feed_4 (by decide) ?_
  refine x_iadd hg dX12_feed_6 ?_
  refine x_sipush hg dX12_feed_7 (by decide) ?_
  refine x_icmp_le (tgt := 15) hg dX12_feed_10 (by decide) (by omega) (by omega) (fun c10 => ?_) (fun c10 => ?_)
  · skip
    refine x_iconst hg dX12_feed_15 ?_
    refine x_istore (ls' := [(0, _), (1, _), (2, _), (3, _), (4, _), (5, _), (6, _)]) hg dX12_feed_16 (by decide) rfl ?_
    exact loop (by omega) 21 M0 0 (by omega) (by omega) (by omega) hT0 rfl (fun a _ => rfl)
  · skip
    exfalso; omega
set_option maxHeartbeats 4000000 in
set_option maxRecDepth 20000 in
theorem n_X5_advance (l : Launch) (b : Nat) (D : va_G) (cy : Nat → ClassId) {tt : Nat} {M0 : xMm} (hJ : JB M0) (hl : M0 2 1 = 0) : xC l b D cy yX5_advance cX5_advance 2 none ({ frames := 2, cells := 0, slots := 0, locals := 42 }) [xr 4] 209 M0 (RS tt) (xPv 209 (RS tt) (fun M' => JD M' ∧ frD M' M0 ∧ M' 4 3 = 0)) := by
  refine x_met (by decide) (Nat.le_of_ble_eq_true rfl) (fun g hg hr he => ?_)
  have hb0 := hJ.2.1
  refine x_canon (ls' := [(0, _)]) rfl ?_
  have j8 : ∀ (M : xMm), IT M → (0 ≤ M 4 2 ∧ M 4 2 ≤ M 2 1) → inL (M 4 4) → inR (M 4 5) → M 2 1 = 0 → frD M M0 → xW g 209 M (RS tt) 0 0 8 [(0, xr 4)] [] := by
    intro M hIT h2 h4 h5 h3 hf
    have hlen := hIT.1
    have j52 : xW g 209 M (RS tt) 0 0 52 [(0, xr 4)] [] := by
      refine x_aload_n hg dX5_advance_52 rfl ?_
      refine x_aload_n hg dX5_advance_53 rfl ?_
      refine x_getI hg dX5_advance_54 fl_X5_115 (by decide) rfl ?_
      refine x_putI hg dX5_advance_57 fl_X5_27 ft_5_1 (by decide) rfl ?_
      refine x_aload_n hg dX5_advance_60 rfl ?_
      refine x_getR (j9 := 2) hg dX5_advance_61 fl_X5_9 (by decide) rfl rfl (by decide) ?_
      refine x_aload_n hg dX5_advance_64 rfl ?_
      refine x_getI hg dX5_advance_65 fl_X5_115 (by decide) rfl ?_
      try simp (disch := omega) only [mu_s, mu_nf, mu_nc]
      refine x_cVi hg he [_] [] dX5_advance_68 mv_X5_123 (c_X7_byteAt l b D cy (IT_D (frD_mu (fun a _ => rfl)) hIT) (by omega)) (by decide) rfl rfl (Nat.le_of_ble_eq_true rfl) (by decide) (by decide) (fun r68 M68 q68 => ?_)
      obtain ⟨h68, e68⟩ := q68
      replace h68 := h68.symm
      subst h68
      simp (disch := omega) only [mu_s, mu_nf, mu_nc] at e68
      have hby68 : -1 ≤ r68 ∧ r68 ≤ 255 := by rcases e68 with ⟨-, e⟩ | ⟨-, e⟩; (have := hIT.2 (M 4 2).toNat; omega); omega
      refine x_istore_n (ls' := [(0, _), (1, _)]) hg dX5_advance_71 rfl (by decide) rfl ?_
      refine x_iload_n hg dX5_advance_72 rfl ?_
      refine x_iconst hg dX5_advance_73 ?_
      refine x_icmp_ne (tgt := 85) hg dX5_advance_74 (by decide) (by omega) (by omega) (fun c74 => ?_) (fun c74 => ?_)
      · skip
        exfalso; omega
      · skip
        refine x_aload_n hg dX5_advance_77 rfl ?_
        refine x_iconst hg dX5_advance_78 ?_
        refine x_putI hg dX5_advance_79 fl_X5_33 ft_5_3 (by decide) rfl ?_
        refine x_goto (tgt := 150) hg dX5_advance_82 (by decide) ?_
        refine x_vret hg hr dX5_advance_150 (Nat.le_refl _) (Nat.le_refl _) ?_
        refine ⟨rfl, rfl, rfl, ⟨IT_D (frD_mu (frD_mu (fun a _ => rfl))) hIT, ?_⟩, frD_mu (frD_mu hf), ?_⟩
        · simp (disch := omega) only [mu_s, mu_nf, mu_nc]
          exact ⟨by omega, by omega, by omega, h4, h5, by omega⟩
        · rw [mu_s]
    refine x_aload_n hg dX5_advance_8 rfl ?_
    refine x_getI hg dX5_advance_9 fl_X5_115 (by decide) rfl ?_
    refine x_aload_n hg dX5_advance_12 rfl ?_
    refine x_getR (j9 := 2) hg dX5_advance_13 fl_X5_9 (by decide) rfl rfl (by decide) ?_
    refine x_getI hg dX5_advance_16 fl_X5_118 (by decide) rfl ?_
    refine x_icmp_ge (tgt := 52) hg dX5_advance_19 (by decide) (by omega) (by omega) (fun c19 => ?_) (fun c19 => ?_)
    · skip
      exact j52
    · skip
      exfalso; omega
  refine x_aload_n hg dX5_advance_0 rfl ?_
  refine x_aload_n hg dX5_advance_1 rfl ?_
  refine x_getI hg dX5_advance_2 fl_X5_27 (by decide) rfl ?_
  refine x_putI hg dX5_advance_5 fl_X5_115 ft_5_2 (by decide) rfl ?_
  exact j8 _ (IT_D (frD_mu (fun a _ => rfl)) hJ.1) (by simp (disch := omega) only [mu_s, mu_nf, mu_nc]; omega) (by simp (disch := omega) only [mu_s, mu_nf, mu_nc]; exact hJ.2.2.1) (by simp (disch := omega) only [mu_s, mu_nf, mu_nc]; exact hJ.2.2.2) (by simp (disch := omega) only [mu_s, mu_nf, mu_nc]; exact hl) (frD_mu (fun a _ => rfl))
set_option maxHeartbeats 4000000 in
set_option maxRecDepth 20000 in
theorem n_X5_read (l : Launch) (b : Nat) (D : va_G) (cy : Nat → ClassId) {tt : Nat} {M0 : xMm} {q : Nat} (hJ : JG M0) (hq : xTt q) (hl : M0 2 1 = 0) : xC l b D cy yX5_read cX5_read 3 (some .boolean) ({ frames := 5, cells := 0, slots := 0, locals := 108 }) [xr 4, xr q] 209 M0 (RS tt) (xPi 209 (RS tt) (fun r M' => r = 1 ∧ M' q 1 = 0 ∧ ∀ a, a < 4 ∨ 56 < a → M' a = M0 a)) := by
  refine x_met (by decide) (Nat.le_of_ble_eq_true rfl) (fun g hg hr he => ?_)
  refine x_canon (ls' := [(0, _), (1, _)]) rfl ?_
  refine x_aload_n hg dX5_read_0 rfl ?_
  refine x_iconst hg dX5_read_1 ?_
  refine x_putI hg dX5_read_2 fl_X5_19 ft_8_1 (oO_tt hq) rfl ?_
  refine x_aload_n hg dX5_read_5 rfl ?_
  refine x_iconst hg dX5_read_6 ?_
  refine x_putI hg dX5_read_7 fl_X5_24 ft_5_6 (by decide) rfl ?_
  refine x_aload_n hg dX5_read_10 rfl ?_
  refine x_iconst hg dX5_read_11 ?_
  refine x_putI hg dX5_read_12 fl_X5_15 ft_5_7 (by decide) rfl ?_
  refine x_aload_n hg dX5_read_15 rfl ?_
  refine x_iconst hg dX5_read_16 ?_
  refine x_putI hg dX5_read_17 fl_X5_27 ft_5_1 (by decide) rfl ?_
  refine x_aload_n hg dX5_read_20 rfl ?_
  refine x_cVv hg he [] [] dX5_read_21 mv_X5_30 (n_X5_advance l b D cy ⟨IT_congr hJ.1 (by funext c; rw [mu_nc (by decide), mu_nc (by decide), mu_nc (by decide), mu_nc (by omega)]) (by funext c; rw [mu_nc (by decide), mu_nc (by decide), mu_nc (by decide), mu_nc (by omega)]), by simp (disch := omega) only [mu_s, mu_nf, mu_nc]; have := hJ.1.1; omega, by simp (disch := omega) only [mu_s, mu_nf, mu_nc]; exact hJ.2.1, by simp (disch := omega) only [mu_s, mu_nf, mu_nc]; exact hJ.2.2⟩ (by simp (disch := omega) only [mu_s, mu_nf, mu_nc]; exact hl)) (by decide) rfl rfl (Nat.le_of_ble_eq_true rfl) (by decide) (by decide) (fun M21 q21 => ?_)
  obtain ⟨hJ21, hf21, hk21⟩ := q21
  have eq21 : M21 q 1 = 0 := by rw [hf21 q (by omega)]; simp (disch := omega) only [mu_s, mu_nf, mu_nc]
  refine x_iconst hg dX5_read_24 ?_
  refine x_istore_n (ls' := [(0, _), (1, _), (2, _)]) hg dX5_read_25 rfl (by decide) rfl ?_
  refine x_iload_n hg dX5_read_26 rfl ?_
  refine x_bipush hg dX5_read_27 (by decide) ?_
  refine x_icmp_ge (tgt := 84) hg dX5_read_29 (by decide) (by omega) (by omega) (fun c29 => ?_) (fun c29 => ?_)
  · skip
    exfalso; omega
  · skip
    refine x_aload_n hg dX5_read_32 rfl ?_
    refine x_getI hg dX5_read_33 fl_X5_33 (by decide) rfl ?_
    refine x_if_eq (tgt := 84) hg dX5_read_36 (by decide) (by omega) (fun c36 => ?_) (fun c36 => ?_)
    · skip
      refine x_aload_n hg dX5_read_84 rfl ?_
      refine x_getI hg dX5_read_85 fl_X5_33 (by decide) rfl ?_
      refine x_if_eq (tgt := 98) hg dX5_read_88 (by decide) (by omega) (fun c88 => ?_) (fun c88 => ?_)
      · skip
        refine x_iconst hg dX5_read_98 ?_
        refine x_goto (tgt := 103) hg dX5_read_99 (by decide) ?_
        refine x_iret hg hr (Or.inr ⟨rfl, Or.inr rfl⟩) dX5_read_103 (Nat.le_refl _) (Nat.le_refl _) ?_
        refine ⟨rfl, rfl, _, rfl, rfl, eq21, fun a ha => ?_⟩
        rw [hf21 a (by omega)]
        funext c
        rw [mu_nc (by omega), mu_nc (by omega), mu_nc (by omega), mu_nc (by omega)]
      · skip
        exfalso; omega
    · skip
      exfalso; omega
set_option maxHeartbeats 4000000 in
set_option maxRecDepth 20000 in
theorem n_X11_timetable (l : Launch) (b : Nat) (D : va_G) (cy : Nat → ClassId) {tt : Nat} {M : xMm} (hJ : JG M) (htt : xTt tt) (hl : M 2 1 = 0) : xC l b D cy yX11_timetable cX11_timetable 2 (some .int) ({ frames := 6, cells := 0, slots := 0, locals := 130 }) [xr 1] 209 M (RS tt) (fun v n' M' R' => n' = 209 ∧ ∃ tt', xTt tt' ∧ R' = RS tt' ∧ ∃ r, v = some (xi r) ∧ r = 0 ∧ ∀ a, 172 ≤ a → M' a = M a) := by
  refine x_met (by decide) (Nat.le_of_ble_eq_true rfl) (fun g hg hr he => ?_)
  have htt2 : xTt (36 - tt) := by rcases htt with rfl | rfl <;> decide
  refine x_canon (ls' := [(0, _)]) rfl ?_
  refine x_aload_n hg dX11_timetable_0 rfl ?_
  refine x_getR (j9 := 4) hg dX11_timetable_1 fl_X11_21 (by decide) rfl rfl (by decide) ?_
  refine x_aload_n hg dX11_timetable_4 rfl ?_
  refine x_getR (j9 := 36 - tt) hg dX11_timetable_5 fl_X11_32 (by decide) rfl rfl (by omega) ?_
  refine x_cVi hg he [_] [] dX11_timetable_8 mv_X11_103 (n_X5_read l b D cy hJ htt2 hl) (by decide) rfl rfl (Nat.le_of_ble_eq_true rfl) (by decide) (by decide) (fun r8 M8 q8 => ?_)
  obtain ⟨hr8, hc8, hf8⟩ := q8
  refine x_if_ne (tgt := 16) hg dX11_timetable_11 (by decide) (by omega) (fun c11 => ?_) (fun c11 => ?_)
  · skip
    refine x_aload_n hg dX11_timetable_16 rfl ?_
    refine x_getR (j9 := tt) hg dX11_timetable_17 fl_X11_28 (by decide) rfl rfl (by omega) ?_
    refine x_astore_n (ls' := [(0, _), (1, _)]) hg dX11_timetable_20 rfl (by decide) rfl ?_
    refine x_aload_n hg dX11_timetable_21 rfl ?_
    refine x_aload_n hg dX11_timetable_22 rfl ?_
    refine x_getR (j9 := 36 - tt) hg dX11_timetable_23 fl_X11_32 (by decide) rfl rfl (by omega) ?_
    refine x_putR hg dX11_timetable_26 fl_X11_28 ft_11_2 (by decide) rfl (by omega) ?_
    refine x_aload_n hg dX11_timetable_29 rfl ?_
    refine x_aload_n hg dX11_timetable_30 rfl ?_
    refine x_putR hg dX11_timetable_31 fl_X11_32 ft_11_3 (by decide) rfl (by omega) ?_
    rw [RS_swap2 htt]
    refine x_aload_n hg dX11_timetable_34 rfl ?_
    refine x_getR (j9 := 2) hg dX11_timetable_35 fl_X11_12 (by decide) rfl rfl (by decide) ?_
    refine x_iconst hg dX11_timetable_38 ?_
    refine x_putI hg dX11_timetable_39 fl_X11_96 ft_7_1 (by decide) rfl ?_
    refine x_aload_n hg dX11_timetable_42 rfl ?_
    refine x_iconst hg dX11_timetable_43 ?_
    refine x_putZ hg dX11_timetable_44 fl_X11_60 ft_11_7 (by decide) rfl (by first | exact Or.inl rfl | exact Or.inr rfl | omega) ?_
    refine x_aload_n hg dX11_timetable_47 rfl ?_
    refine x_getR (j9 := 36 - tt) hg dX11_timetable_48 fl_X11_28 (by decide) rfl rfl (by omega) ?_
    refine x_getI hg dX11_timetable_51 fl_X11_107 (oO_tt htt2) rfl ?_
    try simp (disch := omega) only [mu_s, mu_nf, mu_nc]
    refine x_iret hg hr (Or.inl rfl) dX11_timetable_54 (Nat.le_refl _) (Nat.le_refl _) ?_
    refine ⟨rfl, 36 - tt, htt2, rfl, _, rfl, hc8, fun a ha => ?_⟩
    funext c
    rw [mu_nc (by omega), mu_nc (by omega), hf8 a (by omega)]
  · skip
    exfalso; omega
set_option maxHeartbeats 4000000 in
set_option maxRecDepth 20000 in
theorem n_X12_next (l : Launch) (b : Nat) (D : va_G) (cy : Nat → ClassId) {tt : Nat} {M0 : xMm} (hJ0 : JN M0) (h3 : M0 172 3 = 0) (h7 : M0 172 7 = 0) : xC l b D cy yX12_next cX12_next 3 none ({ frames := 1, cells := 0, slots := 0, locals := 21 }) [xr 172] 209 M0 (RS tt) (xPv 209 (RS tt) (fun M' => JN M' ∧ frK 6 M' M0 ∧ M' 172 8 = 0)) := by
  refine x_met (by decide) (Nat.le_of_ble_eq_true rfl) (fun g hg hr he => ?_)
  refine x_canon (ls' := [(0, _)]) rfl ?_
  have j8 : ∀ (M : xMm), JN M → M 172 6 = 0 → M 172 3 = 0 → frK 6 M M0 → xW g 209 M (RS tt) 0 0 8 [(0, xr 172)] [] := by
    intro M hJ h6 h3 hk
    have hsz := hJ.2.1
    have j58 : xW g 209 M (RS tt) 0 0 58 [(0, xr 172)] [] := by
      refine x_aload_n hg dX12_next_58 rfl ?_
      refine x_aload_n hg dX12_next_59 rfl ?_
      refine x_getI hg dX12_next_60 fl_X12_20 (by decide) rfl ?_
      refine x_cVi hg he [_] [] dX12_next_63 mv_X12_23 (c_X12_sign l b D cy hJ (by omega)) (by decide) rfl rfl (Nat.le_of_ble_eq_true rfl) (by decide) (by decide) (fun r63 M63 q63 => ?_)
      obtain ⟨h63, e63, f63, v63⟩ := q63
      replace h63 := h63.symm
      subst h63
      refine x_istore_n (ls' := [(0, _), (1, _)]) hg dX12_next_66 rfl (by decide) rfl ?_
      refine x_aload_n hg dX12_next_67 rfl ?_
      refine x_aload_n hg dX12_next_68 rfl ?_
      refine x_getI hg dX12_next_69 fl_X12_20 (by decide) rfl ?_
      refine x_iconst hg dX12_next_72 ?_
      refine x_iadd hg dX12_next_73 ?_
      refine x_putI hg dX12_next_74 fl_X12_17 ft_12_7 (by decide) rfl ?_
      refine x_aload_n hg dX12_next_77 rfl ?_
      refine x_getI hg dX12_next_78 fl_X12_20 (by decide) rfl ?_
      try simp (disch := omega) only [mu_s, mu_nf, mu_nc]
      refine x_aload_n hg dX12_next_81 rfl ?_
      refine x_getI hg dX12_next_82 fl_X12_1 (by decide) rfl ?_
      try simp (disch := omega) only [mu_s, mu_nf, mu_nc]
      refine x_icmp_lt (tgt := 112) hg dX12_next_85 (by decide) (by omega) (by omega) (fun c85 => ?_) (fun c85 => ?_)
      · skip
        exfalso; omega
      · skip
        refine x_aload_n hg dX12_next_88 rfl ?_
        refine x_iconst hg dX12_next_89 ?_
        refine x_putI hg dX12_next_90 fl_X12_27 ft_12_8 (by decide) rfl ?_
        refine x_aload_n hg dX12_next_93 rfl ?_
        refine x_aload_n hg dX12_next_94 rfl ?_
        refine x_getI hg dX12_next_95 fl_X12_1 (by decide) rfl ?_
        try simp (disch := omega) only [mu_s, mu_nf, mu_nc]
        refine x_putI hg dX12_next_98 fl_X12_20 ft_12_6 (by decide) rfl ?_
        refine x_aload_n hg dX12_next_101 rfl ?_
        refine x_aload_n hg dX12_next_102 rfl ?_
        refine x_getI hg dX12_next_103 fl_X12_1 (by decide) rfl ?_
        try simp (disch := omega) only [mu_s, mu_nf, mu_nc]
        refine x_putI hg dX12_next_106 fl_X12_17 ft_12_7 (by decide) rfl ?_
        refine x_goto (tgt := 411) hg dX12_next_109 (by decide) ?_
        refine x_vret hg hr dX12_next_411 (Nat.le_refl _) (Nat.le_refl _) ?_
        refine ⟨rfl, rfl, rfl, JN_mu (JN_mu (JN_mu (JN_mu hJ (by omega)) (by omega)) (by omega)) (by omega), frK_mu (frK_mu (frK_mu (frK_mu hk (by omega)) (by omega)) (by omega)) (by omega), ?_⟩
        simp (disch := omega) only [mu_s, mu_nf, mu_nc]
    refine x_aload_n hg dX12_next_8 rfl ?_
    refine x_getI hg dX12_next_9 fl_X12_20 (by decide) rfl ?_
    refine x_aload_n hg dX12_next_12 rfl ?_
    refine x_getI hg dX12_next_13 fl_X12_1 (by decide) rfl ?_
    refine x_icmp_ge (tgt := 58) hg dX12_next_16 (by decide) (by omega) (by omega) (fun c16 => ?_) (fun c16 => ?_)
    · skip
      exact j58
    · skip
      exfalso; omega
  have hsz := hJ0.2.1
  refine x_aload_n hg dX12_next_0 rfl ?_
  refine x_aload_n hg dX12_next_1 rfl ?_
  refine x_getI hg dX12_next_2 fl_X12_17 (by decide) rfl ?_
  refine x_putI hg dX12_next_5 fl_X12_20 ft_12_6 (by decide) rfl ?_
  exact j8 _ (JN_mu hJ0 (by omega)) (by rw [mu_s]; exact h7) (by simp (disch := omega) only [mu_s, mu_nf, mu_nc]; exact h3) (frK_mu (frK_rf 6 M0) (by omega))
set_option maxHeartbeats 4000000 in
set_option maxRecDepth 20000 in
theorem n_X12_timetable (l : Launch) (b : Nat) (D : va_G) (cy : Nat → ClassId) {tt : Nat} {M : xMm} (hJ : JN M) (hR : MR M) (h2 : M 172 2 = 0) : xC l b D cy yX12_timetable cX12_timetable 2 (some .int) ({ frames := 6, cells := 0, slots := 0, locals := 134 }) [xr 172] 209 M (RS tt) (xPi 209 (RS tt) (fun r M' => r = 0)) := by
  refine x_met (by decide) (Nat.le_of_ble_eq_true rfl) (fun g hg hr he => ?_)
  refine x_canon (ls' := [(0, _)]) rfl ?_
  have loopD : ∀ (n1 : Nat) (M1 : xMm) (i : Int), QT M1 M → M1 180 (M1 172 18).toNat = 0 → 0 ≤ i → i ≤ 8 → 8 - i < n1 → xW g 209 M1 (RS tt) 0 0 120 [(0, xr 172), (1, xi i)] [] := by
    intro n1
    induction n1 with
    | zero => intro M1 i h hz h0 h1 h2; exfalso; omega
    | succ n1 ih =>
      intro M1 i Q1 hz1 hi0 hi1 hi2
      have hb1 := Q1.2.1.1
      refine x_iload_n hg dX12_timetable_120 rfl ?_
      refine x_bipush hg dX12_timetable_121 (by decide) ?_
      refine x_icmp_ge (tgt := 139) hg dX12_timetable_123 (by decide) (by omega) (by omega) (fun c123 => ?_) (fun c123 => ?_)
      · skip
        refine x_aload_n hg dX12_timetable_139 rfl ?_
        refine x_getR (j9 := 180) hg dX12_timetable_140 fl_X12_81 (by decide) rfl rfl (by decide) ?_
        refine x_aload_n hg dX12_timetable_143 rfl ?_
        refine x_getI hg dX12_timetable_144 fl_X12_75 (by decide) rfl ?_
        refine x_iaload (len := 2) hg dX12_timetable_147 (by decide) (by omega) ?_
        refine x_iret hg hr (Or.inl rfl) dX12_timetable_148 (Nat.le_refl _) (Nat.le_refl _) ?_
        exact ⟨rfl, rfl, _, rfl, hz1⟩
      · skip
        refine x_aload_n hg dX12_timetable_126 rfl ?_
        refine x_getR (j9 := 181) hg dX12_timetable_127 fl_X12_88 (by decide) rfl rfl (by decide) ?_
        refine x_iload_n hg dX12_timetable_130 rfl ?_
        refine x_iconst hg dX12_timetable_131 ?_
        refine x_iastore (len := 8) hg dX12_timetable_132 (by decide) (by omega)  ?_
        refine x_iinc (ls' := [(0, _), (1, _)]) hg dX12_timetable_133 rfl (by decide) rfl ?_
        refine x_goto (tgt := 120) hg dX12_timetable_136 (by decide) ?_
        refine x_canon (ls' := [(0, _), (1, _)]) rfl ?_
        exact ih _ _ (QT_ma Q1 (Or.inr ⟨rfl, by omega⟩)) (by simp (disch := omega) only [mu_nc]; exact hz1) (by omega) (by omega) (by omega)
  have j101 : ∀ (M1 : xMm), QT M1 M → (0 ≤ M1 172 19 ∧ M1 172 19 ≤ 1) → M1 172 4 = 0 → M1 180 (M1 172 19).toNat = 0 → xW g 209 M1 (RS tt) 0 0 101 [(0, xr 172)] [] := by
    intro M1 Q1 hr1 hgd hz1
    refine x_aload_n hg dX12_timetable_101 rfl ?_
    refine x_cVi hg he [] [] dX12_timetable_102 mv_X12_54 (c_X12_isGood l b D cy Q1.1) (by decide) rfl rfl (Nat.le_of_ble_eq_true rfl) (by decide) (by decide) (fun r102 M102 q102 => ?_)
    obtain ⟨h102, e102⟩ := q102
    replace h102 := h102.symm
    subst h102
    refine x_if_ne (tgt := 110) hg dX12_timetable_105 (by decide) (by omega) (fun c105 => ?_) (fun c105 => ?_)
    · skip
      refine x_aload_n hg dX12_timetable_110 rfl ?_
      refine x_aload_n hg dX12_timetable_111 rfl ?_
      refine x_getI hg dX12_timetable_112 fl_X12_78 (by decide) rfl ?_
      refine x_putI hg dX12_timetable_115 fl_X12_75 ft_12_18 (by decide) rfl ?_
      refine x_iconst hg dX12_timetable_118 ?_
      refine x_istore_n (ls' := [(0, _), (1, _)]) hg dX12_timetable_119 rfl (by decide) rfl ?_
      exact loopD 9 _ 0 (QT_f Q1 (by omega)) (by rw [mu_s, mu_nc (by decide)]; exact hz1) (by omega) (by omega) (by omega)
    · skip
      exfalso; omega
  have j20 : ∀ (M1 : xMm) (i : Int), QT M1 M → i = 0 → M1 172 3 = 0 → M1 172 4 = 0 → xW g 209 M1 (RS tt) 0 0 20 [(0, xr 172), (1, xi i)] [] := by
    intro M1 i Q1 hi0 hs0 hg0
    have hs1 := Q1.1.2.1
    have hb1 := Q1.2.1.1
    have htp := Q1.1.1.2.1
    refine x_iload_n hg dX12_timetable_20 rfl ?_
    refine x_aload_n hg dX12_timetable_21 rfl ?_
    refine x_getI hg dX12_timetable_22 fl_X12_1 (by decide) rfl ?_
    refine x_icmp_ge (tgt := 46) hg dX12_timetable_25 (by decide) (by omega) (by omega) (fun c25 => ?_) (fun c25 => ?_)
    · skip
      refine x_aload_n hg dX12_timetable_46 rfl ?_
      refine x_iconst hg dX12_timetable_47 ?_
      refine x_putI hg dX12_timetable_48 fl_X12_69 ft_12_2 (by decide) rfl ?_
      refine x_aload_n hg dX12_timetable_51 rfl ?_
      refine x_iconst hg dX12_timetable_52 ?_
      refine x_putI hg dX12_timetable_53 fl_X12_17 ft_12_7 (by decide) rfl ?_
      refine x_aload_n hg dX12_timetable_56 rfl ?_
      refine x_iconst hg dX12_timetable_57 ?_
      refine x_aload_n hg dX12_timetable_58 rfl ?_
      refine x_getI hg dX12_timetable_59 fl_X12_75 (by decide) rfl ?_
      try simp (disch := omega) only [mu_s, mu_nf, mu_nc]
      refine x_isub hg dX12_timetable_62 ?_
      refine x_putI hg dX12_timetable_63 fl_X12_78 ft_12_19 (by decide) rfl ?_
      refine x_aload_n hg dX12_timetable_66 rfl ?_
      refine x_getR (j9 := 180) hg dX12_timetable_67 fl_X12_81 (by decide) rfl rfl (by decide) ?_
      refine x_aload_n hg dX12_timetable_70 rfl ?_
      refine x_getI hg dX12_timetable_71 fl_X12_78 (by decide) rfl ?_
      try simp (disch := omega) only [mu_s, mu_nf, mu_nc]
      refine x_iconst hg dX12_timetable_74 ?_
      refine x_iastore (len := 2) hg dX12_timetable_75 (by decide) (by omega)  ?_
      have Qa := QT_ma (a := 180) (i := (1 - M1 172 18).toNat) (z := 0) (QT_f (f := 19) (z := 1 - M1 172 18) (QT_f (f := 7) (z := 0) (QT_f (f := 2) (z := 0) Q1 (by omega)) (by omega)) (by omega)) (Or.inl ⟨rfl, by omega⟩)
      refine x_aload_n hg dX12_timetable_76 rfl ?_
      refine x_cVv hg he [] [] dX12_timetable_77 mv_X12_58 (n_X12_next l b D cy Qa.1 (by simp (disch := omega) only [mu_s, mu_nf, mu_nc]; exact hs0) (by simp (disch := omega) only [mu_s, mu_nf, mu_nc])) (by decide) rfl rfl (Nat.le_of_ble_eq_true rfl) (by decide) (by decide) (fun M77 q77 => ?_)
      obtain ⟨hJ77, hk77, ht77⟩ := q77
      have hk19 : M77 172 19 = 1 - M1 172 18 := by rw [hk77.2 19 (by omega)]; simp (disch := omega) only [mu_s, mu_nf, mu_nc]
      refine x_canon (ls' := [(0, _)]) rfl ?_
      have hg77 : M77 172 4 = 0 := by rw [hk77.2 4 (by omega)]; simp (disch := omega) only [mu_s, mu_nf, mu_nc]; exact hg0
      refine x_aload_n hg dX12_timetable_80 rfl ?_
      refine x_cVi hg he [] [] dX12_timetable_81 mv_X12_54 (c_X12_isGood l b D cy hJ77) (by decide) rfl rfl (Nat.le_of_ble_eq_true rfl) (by decide) (by decide) (fun r81 M81 q81 => ?_)
      obtain ⟨h81, e81⟩ := q81
      replace h81 := h81.symm
      subst h81
      refine x_if_eq (tgt := 101) hg dX12_timetable_84 (by decide) (by omega) (fun c84 => ?_) (fun c84 => ?_)
      · skip
        exfalso; omega
      · skip
        refine x_aload_n hg dX12_timetable_87 rfl ?_
        refine x_getI hg dX12_timetable_88 fl_X12_27 (by decide) rfl ?_
        refine x_if_eq (tgt := 101) hg dX12_timetable_91 (by decide) (by omega) (fun c91 => ?_) (fun c91 => ?_)
        · skip
          exact j101 M77 ⟨hJ77, MR_K (frK_lo hk77 (by decide)) Qa.2.1, frX_tr (frX_K hk77) Qa.2.2⟩ (by omega) hg77 (by rw [hk19, hk77.1 180 (by decide), mu_s])
        · skip
          exfalso; omega
    · skip
      exfalso; omega
  have ht0 := hJ.1.1
  refine x_aload_n hg dX12_timetable_0 rfl ?_
  refine x_iconst hg dX12_timetable_1 ?_
  refine x_putI hg dX12_timetable_2 fl_X12_11 ft_12_4 (by decide) rfl ?_
  refine x_aload_n hg dX12_timetable_5 rfl ?_
  refine x_iconst hg dX12_timetable_6 ?_
  refine x_putI hg dX12_timetable_7 fl_X12_14 ft_12_5 (by decide) rfl ?_
  refine x_aload_n hg dX12_timetable_10 rfl ?_
  refine x_aload_n hg dX12_timetable_11 rfl ?_
  refine x_getI hg dX12_timetable_12 fl_X12_69 (by decide) rfl ?_
  try simp (disch := omega) only [mu_s, mu_nf, mu_nc]
  refine x_putI hg dX12_timetable_15 fl_X12_1 ft_12_3 (by decide) rfl ?_
  refine x_iconst hg dX12_timetable_18 ?_
  refine x_istore_n (ls' := [(0, _), (1, _)]) hg dX12_timetable_19 rfl (by decide) rfl ?_
  exact j20 _ 0 (QT_f (QT_f (QT_f ⟨hJ, hR, frX_rf M⟩ (by omega)) (by omega)) (by omega)) rfl (by rw [mu_s]; exact h2) (by simp (disch := omega) only [mu_s, mu_nf, mu_nc])
