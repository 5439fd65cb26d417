/-! ===== the model's seeking ===== -/
/-- the last found way's numbers -/
def MWi (M : xMm) : Prop := inR (M 172 33) ∧ inR (M 172 34) ∧ inR (M 172 35)
/-- what a seeking may change -/
abbrev frS (M1 M : xMm) : Prop := (∀ a, a ≠ 172 → a ≠ 183 → a ≠ 184 → a ≠ 191 → a ≠ 192 → M1 a = M a) ∧ ∀ f, f < 33 ∨ 35 < f → M1 172 f = M 172 f
theorem frS_rf (M : xMm) : frS M M := ⟨fun _ _ _ _ _ _ => rfl, fun _ _ => rfl⟩
theorem frS_tr {M2 M1 M : xMm} (h1 : frS M2 M1) (h : frS M1 M) : frS M2 M := ⟨fun a e1 e2 e3 e4 e5 => by rw [h1.1 a e1 e2 e3 e4 e5, h.1 a e1 e2 e3 e4 e5], fun f hf => by rw [h1.2 f hf, h.2 f hf]⟩
def SB (M1 M : xMm) : Prop := MR M1 ∧ MC M1 ∧ MS M1 ∧ MWi M1 ∧ frS M1 M
theorem SB_Y {M2 M1 M : xMm} (h : SB M1 M) (f : frY M2 M1) : SB M2 M := by
  obtain ⟨h1, h2, h3, h4, h5⟩ := h
  refine ⟨fw_R f h1, fw_C f h2, fw_S f h3, ?_, frS_tr ⟨fun a _ _ _ e4 e5 => f a e4 e5, fun k _ => by rw [f 172 (by decide) (by decide)]⟩ h5⟩
  unfold MWi
  rw [f 172 (by decide) (by decide)]
  exact h4
theorem SB_E {M2 M1 M : xMm} (h : SB M1 M) (hW : MWi M2) (f : ∀ a, a ≠ 172 → M2 a = M1 a) (g : ∀ k, k < 33 ∨ 35 < k → M2 172 k = M1 172 k) : SB M2 M := by
  obtain ⟨h1, h2, h3, h4, h5⟩ := h
  exact ⟨MR_fr (fun a _ _ => f a (by omega)) (g 18 (by omega)) h1, MC_fr (fun a _ _ => f a (by omega)) h2, MS_fr (fun a _ _ => f a (by omega)) h3, hW, frS_tr ⟨fun a e1 _ _ _ _ => f a e1, g⟩ h5⟩
theorem MWi_mu {M : xMm} (h : MWi M) {f : Nat} {z : Int} (hz : inR z) : MWi (mu M 172 f z) := by
  obtain ⟨h1, h2, h3⟩ := h
  refine ⟨?_, ?_, ?_⟩
  · by_cases e : 33 = f
    · subst e; rw [mu_s]; exact hz
    · rw [mu_nf e]; exact h1
  · by_cases e : 34 = f
    · subst e; rw [mu_s]; exact hz
    · rw [mu_nf e]; exact h2
  · by_cases e : 35 = f
    · subst e; rw [mu_s]; exact hz
    · rw [mu_nf e]; exact h3
theorem WP_self {M2 M1 : xMm} {v : Int} (G : GW M2 M1 v) : WP M2 M2 := fun s hs => by
  have := G.1 s hs
  rw [← fw_mi G.2.1] at this
  exact this
def IR64 (M : xMm) : Prop := ∀ s : Nat, s < 64 → inR (M 191 s) ∧ inR (M 192 s)
theorem IR64_of {M : xMm} (h : WP M M) (hR : MR M) : IR64 M := fun s hs => by
  have h1 := h s hs
  have h2 := ((MR_use hR (t := ((s / 8 : Nat) : Int)) (by omega) (by omega)).2.2.2.2 ((s % 8 : Nat) : Int) (by omega) (by omega)).2
  omega

theorem dX12_ends_0 : decode cX12_ends 0 = .ok (.aload_n 0, 1) := by decide +kernel
theorem dX12_ends_1 : decode cX12_ends 1 = .ok (.getfield 170, 3) := by decide +kernel
theorem dX12_ends_4 : decode cX12_ends 4 = .ok (.iload_n 1, 1) := by decide +kernel
theorem dX12_ends_5 : decode cX12_ends 5 = .ok (.iaload, 1) := by decide +kernel
theorem dX12_ends_6 : decode cX12_ends 6 = .ok (.ldc 251, 2) := by decide +kernel
theorem dX12_ends_8 : decode cX12_ends 8 = .ok (.if_icmp .ne 4, 3) := by decide +kernel
theorem dX12_ends_11 : decode cX12_ends 11 = .ok (.return_, 1) := by decide +kernel
theorem dX12_ends_12 : decode cX12_ends 12 = .ok (.aload_n 0, 1) := by decide +kernel
theorem dX12_ends_13 : decode cX12_ends 13 = .ok (.getfield 170, 3) := by decide +kernel
theorem dX12_ends_16 : decode cX12_ends 16 = .ok (.iload_n 1, 1) := by decide +kernel
theorem dX12_ends_17 : decode cX12_ends 17 = .ok (.iaload, 1) := by decide +kernel
theorem dX12_ends_18 : decode cX12_ends 18 = .ok (.aload_n 0, 1) := by decide +kernel
theorem dX12_ends_19 : decode cX12_ends 19 = .ok (.getfield 252, 3) := by decide +kernel
theorem dX12_ends_22 : decode cX12_ends 22 = .ok (.if_icmp .lt 45, 3) := by decide +kernel
theorem dX12_ends_25 : decode cX12_ends 25 = .ok (.aload_n 0, 1) := by decide +kernel
theorem dX12_ends_26 : decode cX12_ends 26 = .ok (.getfield 170, 3) := by decide +kernel
theorem dX12_ends_29 : decode cX12_ends 29 = .ok (.iload_n 1, 1) := by decide +kernel
theorem dX12_ends_30 : decode cX12_ends 30 = .ok (.iaload, 1) := by decide +kernel
theorem dX12_ends_31 : decode cX12_ends 31 = .ok (.aload_n 0, 1) := by decide +kernel
theorem dX12_ends_32 : decode cX12_ends 32 = .ok (.getfield 252, 3) := by decide +kernel
theorem dX12_ends_35 : decode cX12_ends 35 = .ok (.if_icmp .ne 36, 3) := by decide +kernel
theorem dX12_ends_38 : decode cX12_ends 38 = .ok (.iload_n 2, 1) := by decide +kernel
theorem dX12_ends_39 : decode cX12_ends 39 = .ok (.aload_n 0, 1) := by decide +kernel
theorem dX12_ends_40 : decode cX12_ends 40 = .ok (.getfield 262, 3) := by decide +kernel
theorem dX12_ends_43 : decode cX12_ends 43 = .ok (.if_icmp .lt 24, 3) := by decide +kernel
theorem dX12_ends_46 : decode cX12_ends 46 = .ok (.iload_n 2, 1) := by decide +kernel
theorem dX12_ends_47 : decode cX12_ends 47 = .ok (.aload_n 0, 1) := by decide +kernel
theorem dX12_ends_48 : decode cX12_ends 48 = .ok (.getfield 262, 3) := by decide +kernel
theorem dX12_ends_51 : decode cX12_ends 51 = .ok (.if_icmp .ne 20, 3) := by decide +kernel
theorem dX12_ends_54 : decode cX12_ends 54 = .ok (.aload_n 0, 1) := by decide +kernel
theorem dX12_ends_55 : decode cX12_ends 55 = .ok (.getfield 173, 3) := by decide +kernel
theorem dX12_ends_58 : decode cX12_ends 58 = .ok (.iload_n 1, 1) := by decide +kernel
theorem dX12_ends_59 : decode cX12_ends 59 = .ok (.iaload, 1) := by decide +kernel
theorem dX12_ends_60 : decode cX12_ends 60 = .ok (.aload_n 0, 1) := by decide +kernel
theorem dX12_ends_61 : decode cX12_ends 61 = .ok (.getfield 265, 3) := by decide +kernel
theorem dX12_ends_64 : decode cX12_ends 64 = .ok (.if_icmp .ge 7, 3) := by decide +kernel
theorem dX12_ends_67 : decode cX12_ends 67 = .ok (.iconst 1, 1) := by decide +kernel
theorem dX12_ends_68 : decode cX12_ends 68 = .ok (.goto 4, 3) := by decide +kernel
theorem dX12_ends_71 : decode cX12_ends 71 = .ok (.iconst 0, 1) := by decide +kernel
theorem dX12_ends_72 : decode cX12_ends 72 = .ok (.istore_n 3, 1) := by decide +kernel
theorem dX12_ends_73 : decode cX12_ends 73 = .ok (.iload_n 3, 1) := by decide +kernel
theorem dX12_ends_74 : decode cX12_ends 74 = .ok (.ifCond .ne 4, 3) := by decide +kernel
theorem dX12_ends_77 : decode cX12_ends 77 = .ok (.return_, 1) := by decide +kernel
theorem dX12_ends_78 : decode cX12_ends 78 = .ok (.aload_n 0, 1) := by decide +kernel
theorem dX12_ends_79 : decode cX12_ends 79 = .ok (.aload_n 0, 1) := by decide +kernel
theorem dX12_ends_80 : decode cX12_ends 80 = .ok (.getfield 170, 3) := by decide +kernel
theorem dX12_ends_83 : decode cX12_ends 83 = .ok (.iload_n 1, 1) := by decide +kernel
theorem dX12_ends_84 : decode cX12_ends 84 = .ok (.iaload, 1) := by decide +kernel
theorem dX12_ends_85 : decode cX12_ends 85 = .ok (.putfield 252, 3) := by decide +kernel
theorem dX12_ends_88 : decode cX12_ends 88 = .ok (.aload_n 0, 1) := by decide +kernel
theorem dX12_ends_89 : decode cX12_ends 89 = .ok (.iload_n 2, 1) := by decide +kernel
theorem dX12_ends_90 : decode cX12_ends 90 = .ok (.putfield 262, 3) := by decide +kernel
theorem dX12_ends_93 : decode cX12_ends 93 = .ok (.aload_n 0, 1) := by decide +kernel
theorem dX12_ends_94 : decode cX12_ends 94 = .ok (.aload_n 0, 1) := by decide +kernel
theorem dX12_ends_95 : decode cX12_ends 95 = .ok (.getfield 173, 3) := by decide +kernel
theorem dX12_ends_98 : decode cX12_ends 98 = .ok (.iload_n 1, 1) := by decide +kernel
theorem dX12_ends_99 : decode cX12_ends 99 = .ok (.iaload, 1) := by decide +kernel
theorem dX12_ends_100 : decode cX12_ends 100 = .ok (.putfield 265, 3) := by decide +kernel
theorem dX12_ends_103 : decode cX12_ends 103 = .ok (.return_, 1) := by decide +kernel
set_option maxHeartbeats 4000000 in
set_option maxRecDepth 20000 in
theorem c_X12_ends (l : Launch) (b : Nat) (D : va_G) (cy : Nat → ClassId) {tt : Nat} {M : xMm} {z y : Int} (hW : MWi M) (hz : 0 ≤ z ∧ z < 64) (hy : inR y) (h1 : inR (M 191 z.toNat)) (h2 : inR (M 192 z.toNat)) : xC l b D cy yX12_ends cX12_ends 4 none ({ frames := 0, cells := 0, slots := 0, locals := 0 }) [xr 172, xi z, xi y] 209 M (RS tt) (xPv 209 (RS tt) (fun M' => MWi M' ∧ (∀ a, a ≠ 172 → M' a = M a) ∧ ∀ k, k < 33 ∨ 35 < k → M' 172 k = M 172 k)) := by
  refine x_met (by decide) (Nat.le_of_ble_eq_true rfl) (fun g hg hr he => ?_)
  have hw1 := hW.1
  have hw2 := hW.2.1
  have hw3 := hW.2.2
  refine x_canon (ls' := [(0, _), (1, _), (2, _)]) rfl ?_
  refine x_aload_n hg dX12_ends_0 rfl ?_
  refine x_getR (j9 := 191) hg dX12_ends_1 fl_X12_170 (by decide) rfl rfl (by decide) ?_
  refine x_iload_n hg dX12_ends_4 rfl ?_
  refine x_iaload (len := 64) hg dX12_ends_5 (by decide) (by omega) ?_
  refine x_ldc hg 1000000000 dX12_ends_6 (List.mem_of_getElem? (i := 1129) (by decide +kernel)) ?_
  refine x_icmp_ne (tgt := 12) hg dX12_ends_8 (by decide) (by omega) (by omega) (fun c8 => ?_) (fun c8 => ?_)
  · skip
    refine x_aload_n hg dX12_ends_12 rfl ?_
    refine x_getR (j9 := 191) hg dX12_ends_13 fl_X12_170 (by decide) rfl rfl (by decide) ?_
    refine x_iload_n hg dX12_ends_16 rfl ?_
    refine x_iaload (len := 64) hg dX12_ends_17 (by decide) (by omega) ?_
    refine x_aload_n hg dX12_ends_18 rfl ?_
    refine x_getI hg dX12_ends_19 fl_X12_252 (by decide) rfl ?_
    refine x_icmp_lt (tgt := 67) hg dX12_ends_22 (by decide) (by omega) (by omega) (fun c22 => ?_) (fun c22 => ?_)
    · skip
      refine x_iconst hg dX12_ends_67 ?_
      refine x_goto (tgt := 72) hg dX12_ends_68 (by decide) ?_
      refine x_istore_n (ls' := [(0, _), (1, _), (2, _), (3, _)]) hg dX12_ends_72 rfl (by decide) rfl ?_
      refine x_iload_n hg dX12_ends_73 rfl ?_
      refine x_if_ne (tgt := 78) hg dX12_ends_74 (by decide) (by omega) (fun c74 => ?_) (fun c74 => ?_)
      · skip
        refine x_aload_n hg dX12_ends_78 rfl ?_
        refine x_aload_n hg dX12_ends_79 rfl ?_
        refine x_getR (j9 := 191) hg dX12_ends_80 fl_X12_170 (by decide) rfl rfl (by decide) ?_
        refine x_iload_n hg dX12_ends_83 rfl ?_
        refine x_iaload (len := 64) hg dX12_ends_84 (by decide) (by omega) ?_
        refine x_putI hg dX12_ends_85 fl_X12_252 ft_12_33 (by decide) rfl ?_
        refine x_aload_n hg dX12_ends_88 rfl ?_
        refine x_iload_n hg dX12_ends_89 rfl ?_
        refine x_putI hg dX12_ends_90 fl_X12_262 ft_12_34 (by decide) rfl ?_
        refine x_aload_n hg dX12_ends_93 rfl ?_
        refine x_aload_n hg dX12_ends_94 rfl ?_
        refine x_getR (j9 := 192) hg dX12_ends_95 fl_X12_173 (by decide) rfl rfl (by decide) ?_
        refine x_iload_n hg dX12_ends_98 rfl ?_
        refine x_iaload (len := 64) hg dX12_ends_99 (by decide) (by omega) ?_
        try simp (disch := omega) only [mu_s, mu_nf, mu_nc]
        refine x_putI hg dX12_ends_100 fl_X12_265 ft_12_35 (by decide) rfl ?_
        refine x_vret hg hr dX12_ends_103 (Nat.le_refl _) (Nat.le_refl _) ?_
        exact ⟨rfl, rfl, rfl, MWi_mu (MWi_mu (MWi_mu hW h1) hy) h2, fun a ha => by funext c; rw [mu_nc ha, mu_nc ha, mu_nc ha], fun k hk => by rw [mu_nf (by omega), mu_nf (by omega), mu_nf (by omega)]⟩
      · skip
        refine x_vret hg hr dX12_ends_77 (Nat.le_refl _) (Nat.le_refl _) ?_
        exact ⟨rfl, rfl, rfl, hW, fun a _ => rfl, fun f _ => rfl⟩
    · skip
      refine x_aload_n hg dX12_ends_25 rfl ?_
      refine x_getR (j9 := 191) hg dX12_ends_26 fl_X12_170 (by decide) rfl rfl (by decide) ?_
      refine x_iload_n hg dX12_ends_29 rfl ?_
      refine x_iaload (len := 64) hg dX12_ends_30 (by decide) (by omega) ?_
      refine x_aload_n hg dX12_ends_31 rfl ?_
      refine x_getI hg dX12_ends_32 fl_X12_252 (by decide) rfl ?_
      refine x_icmp_ne (tgt := 71) hg dX12_ends_35 (by decide) (by omega) (by omega) (fun c35 => ?_) (fun c35 => ?_)
      · skip
        refine x_iconst hg dX12_ends_71 ?_
        refine x_istore_n (ls' := [(0, _), (1, _), (2, _), (3, _)]) hg dX12_ends_72 rfl (by decide) rfl ?_
        refine x_iload_n hg dX12_ends_73 rfl ?_
        refine x_if_ne (tgt := 78) hg dX12_ends_74 (by decide) (by omega) (fun c74 => ?_) (fun c74 => ?_)
        · skip
          refine x_aload_n hg dX12_ends_78 rfl ?_
          refine x_aload_n hg dX12_ends_79 rfl ?_
          refine x_getR (j9 := 191) hg dX12_ends_80 fl_X12_170 (by decide) rfl rfl (by decide) ?_
          refine x_iload_n hg dX12_ends_83 rfl ?_
          refine x_iaload (len := 64) hg dX12_ends_84 (by decide) (by omega) ?_
          refine x_putI hg dX12_ends_85 fl_X12_252 ft_12_33 (by decide) rfl ?_
          refine x_aload_n hg dX12_ends_88 rfl ?_
          refine x_iload_n hg dX12_ends_89 rfl ?_
          refine x_putI hg dX12_ends_90 fl_X12_262 ft_12_34 (by decide) rfl ?_
          refine x_aload_n hg dX12_ends_93 rfl ?_
          refine x_aload_n hg dX12_ends_94 rfl ?_
          refine x_getR (j9 := 192) hg dX12_ends_95 fl_X12_173 (by decide) rfl rfl (by decide) ?_
          refine x_iload_n hg dX12_ends_98 rfl ?_
          refine x_iaload (len := 64) hg dX12_ends_99 (by decide) (by omega) ?_
          try simp (disch := omega) only [mu_s, mu_nf, mu_nc]
          refine x_putI hg dX12_ends_100 fl_X12_265 ft_12_35 (by decide) rfl ?_
          refine x_vret hg hr dX12_ends_103 (Nat.le_refl _) (Nat.le_refl _) ?_
          exact ⟨rfl, rfl, rfl, MWi_mu (MWi_mu (MWi_mu hW h1) hy) h2, fun a ha => by funext c; rw [mu_nc ha, mu_nc ha, mu_nc ha], fun k hk => by rw [mu_nf (by omega), mu_nf (by omega), mu_nf (by omega)]⟩
        · skip
          refine x_vret hg hr dX12_ends_77 (Nat.le_refl _) (Nat.le_refl _) ?_
          exact ⟨rfl, rfl, rfl, hW, fun a _ => rfl, fun f _ => rfl⟩
      · skip
        refine x_iload_n hg dX12_ends_38 rfl ?_
        refine x_aload_n hg dX12_ends_39 rfl ?_
        refine x_getI hg dX12_ends_40 fl_X12_262 (by decide) rfl ?_
        refine x_icmp_lt (tgt := 67) hg dX12_ends_43 (by decide) (by omega) (by omega) (fun c43 => ?_) (fun c43 => ?_)
        · skip
          refine x_iconst hg dX12_ends_67 ?_
          refine x_goto (tgt := 72) hg dX12_ends_68 (by decide) ?_
          refine x_istore_n (ls' := [(0, _), (1, _), (2, _), (3, _)]) hg dX12_ends_72 rfl (by decide) rfl ?_
          refine x_iload_n hg dX12_ends_73 rfl ?_
          refine x_if_ne (tgt := 78) hg dX12_ends_74 (by decide) (by omega) (fun c74 => ?_) (fun c74 => ?_)
          · skip
            refine x_aload_n hg dX12_ends_78 rfl ?_
            refine x_aload_n hg dX12_ends_79 rfl ?_
            refine x_getR (j9 := 191) hg dX12_ends_80 fl_X12_170 (by decide) rfl rfl (by decide) ?_
            refine x_iload_n hg dX12_ends_83 rfl ?_
            refine x_iaload (len := 64) hg dX12_ends_84 (by decide) (by omega) ?_
            refine x_putI hg dX12_ends_85 fl_X12_252 ft_12_33 (by decide) rfl ?_
            refine x_aload_n hg dX12_ends_88 rfl ?_
            refine x_iload_n hg dX12_ends_89 rfl ?_
            refine x_putI hg dX12_ends_90 fl_X12_262 ft_12_34 (by decide) rfl ?_
            refine x_aload_n hg dX12_ends_93 rfl ?_
            refine x_aload_n hg dX12_ends_94 rfl ?_
            refine x_getR (j9 := 192) hg dX12_ends_95 fl_X12_173 (by decide) rfl rfl (by decide) ?_
            refine x_iload_n hg dX12_ends_98 rfl ?_
            refine x_iaload (len := 64) hg dX12_ends_99 (by decide) (by omega) ?_
            try simp (disch := omega) only [mu_s, mu_nf, mu_nc]
            refine x_putI hg dX12_ends_100 fl_X12_265 ft_12_35 (by decide) rfl ?_
            refine x_vret hg hr dX12_ends_103 (Nat.le_refl _) (Nat.le_refl _) ?_
            exact ⟨rfl, rfl, rfl, MWi_mu (MWi_mu (MWi_mu hW h1) hy) h2, fun a ha => by funext c; rw [mu_nc ha, mu_nc ha, mu_nc ha], fun k hk => by rw [mu_nf (by omega), mu_nf (by omega), mu_nf (by omega)]⟩
          · skip
            refine x_vret hg hr dX12_ends_77 (Nat.le_refl _) (Nat.le_refl _) ?_
            exact ⟨rfl, rfl, rfl, hW, fun a _ => rfl, fun f _ => rfl⟩
        · skip
          refine x_iload_n hg dX12_ends_46 rfl ?_
          refine x_aload_n hg dX12_ends_47 rfl ?_
          refine x_getI hg dX12_ends_48 fl_X12_262 (by decide) rfl ?_
          refine x_icmp_ne (tgt := 71) hg dX12_ends_51 (by decide) (by omega) (by omega) (fun c51 => ?_) (fun c51 => ?_)
          · skip
            refine x_iconst hg dX12_ends_71 ?_
            refine x_istore_n (ls' := [(0, _), (1, _), (2, _), (3, _)]) hg dX12_ends_72 rfl (by decide) rfl ?_
            refine x_iload_n hg dX12_ends_73 rfl ?_
            refine x_if_ne (tgt := 78) hg dX12_ends_74 (by decide) (by omega) (fun c74 => ?_) (fun c74 => ?_)
            · skip
              refine x_aload_n hg dX12_ends_78 rfl ?_
              refine x_aload_n hg dX12_ends_79 rfl ?_
              refine x_getR (j9 := 191) hg dX12_ends_80 fl_X12_170 (by decide) rfl rfl (by decide) ?_
              refine x_iload_n hg dX12_ends_83 rfl ?_
              refine x_iaload (len := 64) hg dX12_ends_84 (by decide) (by omega) ?_
              refine x_putI hg dX12_ends_85 fl_X12_252 ft_12_33 (by decide) rfl ?_
              refine x_aload_n hg dX12_ends_88 rfl ?_
              refine x_iload_n hg dX12_ends_89 rfl ?_
              refine x_putI hg dX12_ends_90 fl_X12_262 ft_12_34 (by decide) rfl ?_
              refine x_aload_n hg dX12_ends_93 rfl ?_
              refine x_aload_n hg dX12_ends_94 rfl ?_
              refine x_getR (j9 := 192) hg dX12_ends_95 fl_X12_173 (by decide) rfl rfl (by decide) ?_
              refine x_iload_n hg dX12_ends_98 rfl ?_
              refine x_iaload (len := 64) hg dX12_ends_99 (by decide) (by omega) ?_
              try simp (disch := omega) only [mu_s, mu_nf, mu_nc]
              refine x_putI hg dX12_ends_100 fl_X12_265 ft_12_35 (by decide) rfl ?_
              refine x_vret hg hr dX12_ends_103 (Nat.le_refl _) (Nat.le_refl _) ?_
              exact ⟨rfl, rfl, rfl, MWi_mu (MWi_mu (MWi_mu hW h1) hy) h2, fun a ha => by funext c; rw [mu_nc ha, mu_nc ha, mu_nc ha], fun k hk => by rw [mu_nf (by omega), mu_nf (by omega), mu_nf (by omega)]⟩
            · skip
              refine x_vret hg hr dX12_ends_77 (Nat.le_refl _) (Nat.le_refl _) ?_
              exact ⟨rfl, rfl, rfl, hW, fun a _ => rfl, fun f _ => rfl⟩
          · skip
            refine x_aload_n hg dX12_ends_54 rfl ?_
            refine x_getR (j9 := 192) hg dX12_ends_55 fl_X12_173 (by decide) rfl rfl (by decide) ?_
            refine x_iload_n hg dX12_ends_58 rfl ?_
            refine x_iaload (len := 64) hg dX12_ends_59 (by decide) (by omega) ?_
            refine x_aload_n hg dX12_ends_60 rfl ?_
            refine x_getI hg dX12_ends_61 fl_X12_265 (by decide) rfl ?_
            refine x_icmp_ge (tgt := 71) hg dX12_ends_64 (by decide) (by omega) (by omega) (fun c64 => ?_) (fun c64 => ?_)
            · skip
              refine x_iconst hg dX12_ends_71 ?_
              refine x_istore_n (ls' := [(0, _), (1, _), (2, _), (3, _)]) hg dX12_ends_72 rfl (by decide) rfl ?_
              refine x_iload_n hg dX12_ends_73 rfl ?_
              refine x_if_ne (tgt := 78) hg dX12_ends_74 (by decide) (by omega) (fun c74 => ?_) (fun c74 => ?_)
              · skip
                refine x_aload_n hg dX12_ends_78 rfl ?_
                refine x_aload_n hg dX12_ends_79 rfl ?_
                refine x_getR (j9 := 191) hg dX12_ends_80 fl_X12_170 (by decide) rfl rfl (by decide) ?_
                refine x_iload_n hg dX12_ends_83 rfl ?_
                refine x_iaload (len := 64) hg dX12_ends_84 (by decide) (by omega) ?_
                refine x_putI hg dX12_ends_85 fl_X12_252 ft_12_33 (by decide) rfl ?_
                refine x_aload_n hg dX12_ends_88 rfl ?_
                refine x_iload_n hg dX12_ends_89 rfl ?_
                refine x_putI hg dX12_ends_90 fl_X12_262 ft_12_34 (by decide) rfl ?_
                refine x_aload_n hg dX12_ends_93 rfl ?_
                refine x_aload_n hg dX12_ends_94 rfl ?_
                refine x_getR (j9 := 192) hg dX12_ends_95 fl_X12_173 (by decide) rfl rfl (by decide) ?_
                refine x_iload_n hg dX12_ends_98 rfl ?_
                refine x_iaload (len := 64) hg dX12_ends_99 (by decide) (by omega) ?_
                try simp (disch := omega) only [mu_s, mu_nf, mu_nc]
                refine x_putI hg dX12_ends_100 fl_X12_265 ft_12_35 (by decide) rfl ?_
                refine x_vret hg hr dX12_ends_103 (Nat.le_refl _) (Nat.le_refl _) ?_
                exact ⟨rfl, rfl, rfl, MWi_mu (MWi_mu (MWi_mu hW h1) hy) h2, fun a ha => by funext c; rw [mu_nc ha, mu_nc ha, mu_nc ha], fun k hk => by rw [mu_nf (by omega), mu_nf (by omega), mu_nf (by omega)]⟩
              · skip
                refine x_vret hg hr dX12_ends_77 (Nat.le_refl _) (Nat.le_refl _) ?_
                exact ⟨rfl, rfl, rfl, hW, fun a _ => rfl, fun f _ => rfl⟩
            · skip
              refine x_iconst hg dX12_ends_67 ?_
              refine x_goto (tgt := 72) hg dX12_ends_68 (by decide) ?_
              refine x_istore_n (ls' := [(0, _), (1, _), (2, _), (3, _)]) hg dX12_ends_72 rfl (by decide) rfl ?_
              refine x_iload_n hg dX12_ends_73 rfl ?_
              refine x_if_ne (tgt := 78) hg dX12_ends_74 (by decide) (by omega) (fun c74 => ?_) (fun c74 => ?_)
              · skip
                refine x_aload_n hg dX12_ends_78 rfl ?_
                refine x_aload_n hg dX12_ends_79 rfl ?_
                refine x_getR (j9 := 191) hg dX12_ends_80 fl_X12_170 (by decide) rfl rfl (by decide) ?_
                refine x_iload_n hg dX12_ends_83 rfl ?_
                refine x_iaload (len := 64) hg dX12_ends_84 (by decide) (by omega) ?_
                refine x_putI hg dX12_ends_85 fl_X12_252 ft_12_33 (by decide) rfl ?_
                refine x_aload_n hg dX12_ends_88 rfl ?_
                refine x_iload_n hg dX12_ends_89 rfl ?_
                refine x_putI hg dX12_ends_90 fl_X12_262 ft_12_34 (by decide) rfl ?_
                refine x_aload_n hg dX12_ends_93 rfl ?_
                refine x_aload_n hg dX12_ends_94 rfl ?_
                refine x_getR (j9 := 192) hg dX12_ends_95 fl_X12_173 (by decide) rfl rfl (by decide) ?_
                refine x_iload_n hg dX12_ends_98 rfl ?_
                refine x_iaload (len := 64) hg dX12_ends_99 (by decide) (by omega) ?_
                try simp (disch := omega) only [mu_s, mu_nf, mu_nc]
                refine x_putI hg dX12_ends_100 fl_X12_265 ft_12_35 (by decide) rfl ?_
                refine x_vret hg hr dX12_ends_103 (Nat.le_refl _) (Nat.le_refl _) ?_
                exact ⟨rfl, rfl, rfl, MWi_mu (MWi_mu (MWi_mu hW h1) hy) h2, fun a ha => by funext c; rw [mu_nc ha, mu_nc ha, mu_nc ha], fun k hk => by rw [mu_nf (by omega), mu_nf (by omega), mu_nf (by omega)]⟩
              · skip
                refine x_vret hg hr dX12_ends_77 (Nat.le_refl _) (Nat.le_refl _) ?_
                exact ⟨rfl, rfl, rfl, hW, fun a _ => rfl, fun f _ => rfl⟩
  · skip
    refine x_vret hg hr dX12_ends_11 (Nat.le_refl _) (Nat.le_refl _) ?_
    exact ⟨rfl, rfl, rfl, hW, fun a _ => rfl, fun f _ => rfl⟩

theorem dX12_seek_0 : decode cX12_seek 0 = .ok (.aload_n 0, 1) := by decide +kernel
theorem dX12_seek_1 : decode cX12_seek 1 = .ok (.invokevirtual 248, 3) := by decide +kernel
theorem dX12_seek_4 : decode cX12_seek 4 = .ok (.iconst 0, 1) := by decide +kernel
theorem dX12_seek_5 : decode cX12_seek 5 = .ok (.istore_n 2, 1) := by decide +kernel
theorem dX12_seek_6 : decode cX12_seek 6 = .ok (.iload_n 2, 1) := by decide +kernel
theorem dX12_seek_7 : decode cX12_seek 7 = .ok (.bipush 64, 2) := by decide +kernel
theorem dX12_seek_9 : decode cX12_seek 9 = .ok (.if_icmp .ge 25, 3) := by decide +kernel
theorem dX12_seek_12 : decode cX12_seek 12 = .ok (.aload_n 0, 1) := by decide +kernel
theorem dX12_seek_13 : decode cX12_seek 13 = .ok (.getfield 170, 3) := by decide +kernel
theorem dX12_seek_16 : decode cX12_seek 16 = .ok (.iload_n 2, 1) := by decide +kernel
theorem dX12_seek_17 : decode cX12_seek 17 = .ok (.ldc 251, 2) := by decide +kernel
theorem dX12_seek_19 : decode cX12_seek 19 = .ok (.iastore, 1) := by decide +kernel
theorem dX12_seek_20 : decode cX12_seek 20 = .ok (.aload_n 0, 1) := by decide +kernel
theorem dX12_seek_21 : decode cX12_seek 21 = .ok (.getfield 173, 3) := by decide +kernel
theorem dX12_seek_24 : decode cX12_seek 24 = .ok (.iload_n 2, 1) := by decide +kernel
theorem dX12_seek_25 : decode cX12_seek 25 = .ok (.ldc 251, 2) := by decide +kernel
theorem dX12_seek_27 : decode cX12_seek 27 = .ok (.iastore, 1) := by decide +kernel
theorem dX12_seek_28 : decode cX12_seek 28 = .ok (.iinc 2 1, 3) := by decide +kernel
theorem dX12_seek_31 : decode cX12_seek 31 = .ok (.goto (-25), 3) := by decide +kernel
theorem dX12_seek_34 : decode cX12_seek 34 = .ok (.aload_n 0, 1) := by decide +kernel
theorem dX12_seek_35 : decode cX12_seek 35 = .ok (.ldc 251, 2) := by decide +kernel
theorem dX12_seek_37 : decode cX12_seek 37 = .ok (.putfield 252, 3) := by decide +kernel
theorem dX12_seek_40 : decode cX12_seek 40 = .ok (.aload_n 0, 1) := by decide +kernel
theorem dX12_seek_41 : decode cX12_seek 41 = .ok (.aload_n 0, 1) := by decide +kernel
theorem dX12_seek_42 : decode cX12_seek 42 = .ok (.getfield 158, 3) := by decide +kernel
theorem dX12_seek_45 : decode cX12_seek 45 = .ok (.iload_n 1, 1) := by decide +kernel
theorem dX12_seek_46 : decode cX12_seek 46 = .ok (.iaload, 1) := by decide +kernel
theorem dX12_seek_47 : decode cX12_seek 47 = .ok (.aload_n 0, 1) := by decide +kernel
theorem dX12_seek_48 : decode cX12_seek 48 = .ok (.getfield 161, 3) := by decide +kernel
theorem dX12_seek_51 : decode cX12_seek 51 = .ok (.iload_n 1, 1) := by decide +kernel
theorem dX12_seek_52 : decode cX12_seek 52 = .ok (.iaload, 1) := by decide +kernel
theorem dX12_seek_53 : decode cX12_seek 53 = .ok (.iconst 0, 1) := by decide +kernel
theorem dX12_seek_54 : decode cX12_seek 54 = .ok (.iconst 0, 1) := by decide +kernel
theorem dX12_seek_55 : decode cX12_seek 55 = .ok (.invokevirtual 255, 3) := by decide +kernel
theorem dX12_seek_58 : decode cX12_seek 58 = .ok (.istore_n 2, 1) := by decide +kernel
theorem dX12_seek_59 : decode cX12_seek 59 = .ok (.iload_n 2, 1) := by decide +kernel
theorem dX12_seek_60 : decode cX12_seek 60 = .ok (.ifCond .eq 116, 3) := by decide +kernel
theorem dX12_seek_63 : decode cX12_seek 63 = .ok (.iconst 0, 1) := by decide +kernel
theorem dX12_seek_64 : decode cX12_seek 64 = .ok (.istore_n 2, 1) := by decide +kernel
theorem dX12_seek_65 : decode cX12_seek 65 = .ok (.iconst 0, 1) := by decide +kernel
theorem dX12_seek_66 : decode cX12_seek 66 = .ok (.istore_n 3, 1) := by decide +kernel
theorem dX12_seek_67 : decode cX12_seek 67 = .ok (.iload_n 3, 1) := by decide +kernel
theorem dX12_seek_68 : decode cX12_seek 68 = .ok (.aload_n 0, 1) := by decide +kernel
theorem dX12_seek_69 : decode cX12_seek 69 = .ok (.getfield 81, 3) := by decide +kernel
theorem dX12_seek_72 : decode cX12_seek 72 = .ok (.aload_n 0, 1) := by decide +kernel
theorem dX12_seek_73 : decode cX12_seek 73 = .ok (.getfield 75, 3) := by decide +kernel
theorem dX12_seek_76 : decode cX12_seek 76 = .ok (.iaload, 1) := by decide +kernel
theorem dX12_seek_77 : decode cX12_seek 77 = .ok (.if_icmp .ge 96, 3) := by decide +kernel
theorem dX12_seek_80 : decode cX12_seek 80 = .ok (.iconst 0, 1) := by decide +kernel
theorem dX12_seek_81 : decode cX12_seek 81 = .ok (.istore 4, 2) := by decide +kernel
theorem dX12_seek_83 : decode cX12_seek 83 = .ok (.iload 4, 2) := by decide +kernel
theorem dX12_seek_85 : decode cX12_seek 85 = .ok (.aload_n 0, 1) := by decide +kernel
theorem dX12_seek_86 : decode cX12_seek 86 = .ok (.iload_n 3, 1) := by decide +kernel
theorem dX12_seek_87 : decode cX12_seek 87 = .ok (.invokevirtual 124, 3) := by decide +kernel
theorem dX12_seek_90 : decode cX12_seek 90 = .ok (.if_icmp .ge 77, 3) := by decide +kernel
theorem dX12_seek_93 : decode cX12_seek 93 = .ok (.bipush 8, 2) := by decide +kernel
theorem dX12_seek_95 : decode cX12_seek 95 = .ok (.iload_n 3, 1) := by decide +kernel
theorem dX12_seek_96 : decode cX12_seek 96 = .ok (.imul, 1) := by decide +kernel
theorem dX12_seek_97 : decode cX12_seek 97 = .ok (.iload 4, 2) := by decide +kernel
theorem dX12_seek_99 : decode cX12_seek 99 = .ok (.iadd, 1) := by decide +kernel
theorem dX12_seek_100 : decode cX12_seek 100 = .ok (.istore 5, 2) := by decide +kernel
theorem dX12_seek_102 : decode cX12_seek 102 = .ok (.aload_n 0, 1) := by decide +kernel
theorem dX12_seek_103 : decode cX12_seek 103 = .ok (.getfield 170, 3) := by decide +kernel
theorem dX12_seek_106 : decode cX12_seek 106 = .ok (.iload 5, 2) := by decide +kernel
theorem dX12_seek_108 : decode cX12_seek 108 = .ok (.iaload, 1) := by decide +kernel
theorem dX12_seek_109 : decode cX12_seek 109 = .ok (.ldc 251, 2) := by decide +kernel
theorem dX12_seek_111 : decode cX12_seek 111 = .ok (.if_icmp .ge 50, 3) := by decide +kernel
theorem dX12_seek_114 : decode cX12_seek 114 = .ok (.aload_n 0, 1) := by decide +kernel
theorem dX12_seek_115 : decode cX12_seek 115 = .ok (.iload_n 3, 1) := by decide +kernel
theorem dX12_seek_116 : decode cX12_seek 116 = .ok (.iload 4, 2) := by decide +kernel
theorem dX12_seek_118 : decode cX12_seek 118 = .ok (.invokevirtual 127, 3) := by decide +kernel
theorem dX12_seek_121 : decode cX12_seek 121 = .ok (.ifCond .eq 40, 3) := by decide +kernel
theorem dX12_seek_124 : decode cX12_seek 124 = .ok (.aload_n 0, 1) := by decide +kernel
theorem dX12_seek_125 : decode cX12_seek 125 = .ok (.aload_n 0, 1) := by decide +kernel
theorem dX12_seek_126 : decode cX12_seek 126 = .ok (.iload_n 3, 1) := by decide +kernel
theorem dX12_seek_127 : decode cX12_seek 127 = .ok (.iload 4, 2) := by decide +kernel
theorem dX12_seek_129 : decode cX12_seek 129 = .ok (.invokevirtual 127, 3) := by decide +kernel
theorem dX12_seek_132 : decode cX12_seek 132 = .ok (.aload_n 0, 1) := by decide +kernel
theorem dX12_seek_133 : decode cX12_seek 133 = .ok (.iload_n 3, 1) := by decide +kernel
theorem dX12_seek_134 : decode cX12_seek 134 = .ok (.iload 4, 2) := by decide +kernel
theorem dX12_seek_136 : decode cX12_seek 136 = .ok (.invokevirtual 131, 3) := by decide +kernel
theorem dX12_seek_139 : decode cX12_seek 139 = .ok (.aload_n 0, 1) := by decide +kernel
theorem dX12_seek_140 : decode cX12_seek 140 = .ok (.getfield 170, 3) := by decide +kernel
theorem dX12_seek_143 : decode cX12_seek 143 = .ok (.iload 5, 2) := by decide +kernel
theorem dX12_seek_145 : decode cX12_seek 145 = .ok (.iaload, 1) := by decide +kernel
theorem dX12_seek_146 : decode cX12_seek 146 = .ok (.aload_n 0, 1) := by decide +kernel
theorem dX12_seek_147 : decode cX12_seek 147 = .ok (.getfield 173, 3) := by decide +kernel
theorem dX12_seek_150 : decode cX12_seek 150 = .ok (.iload 5, 2) := by decide +kernel
theorem dX12_seek_152 : decode cX12_seek 152 = .ok (.iaload, 1) := by decide +kernel
theorem dX12_seek_153 : decode cX12_seek 153 = .ok (.invokevirtual 255, 3) := by decide +kernel
theorem dX12_seek_156 : decode cX12_seek 156 = .ok (.ifCond .eq 5, 3) := by decide +kernel
theorem dX12_seek_159 : decode cX12_seek 159 = .ok (.iconst 1, 1) := by decide +kernel
theorem dX12_seek_160 : decode cX12_seek 160 = .ok (.istore_n 2, 1) := by decide +kernel
theorem dX12_seek_161 : decode cX12_seek 161 = .ok (.iinc 4 1, 3) := by decide +kernel
theorem dX12_seek_164 : decode cX12_seek 164 = .ok (.goto (-81), 3) := by decide +kernel
theorem dX12_seek_167 : decode cX12_seek 167 = .ok (.iinc 3 1, 3) := by decide +kernel
theorem dX12_seek_170 : decode cX12_seek 170 = .ok (.goto (-103), 3) := by decide +kernel
theorem dX12_seek_173 : decode cX12_seek 173 = .ok (.goto (-114), 3) := by decide +kernel
theorem dX12_seek_176 : decode cX12_seek 176 = .ok (.iconst 0, 1) := by decide +kernel
theorem dX12_seek_177 : decode cX12_seek 177 = .ok (.istore_n 3, 1) := by decide +kernel
theorem dX12_seek_178 : decode cX12_seek 178 = .ok (.iload_n 3, 1) := by decide +kernel
theorem dX12_seek_179 : decode cX12_seek 179 = .ok (.aload_n 0, 1) := by decide +kernel
theorem dX12_seek_180 : decode cX12_seek 180 = .ok (.getfield 81, 3) := by decide +kernel
theorem dX12_seek_183 : decode cX12_seek 183 = .ok (.aload_n 0, 1) := by decide +kernel
theorem dX12_seek_184 : decode cX12_seek 184 = .ok (.getfield 75, 3) := by decide +kernel
theorem dX12_seek_187 : decode cX12_seek 187 = .ok (.iaload, 1) := by decide +kernel
theorem dX12_seek_188 : decode cX12_seek 188 = .ok (.if_icmp .ge 56, 3) := by decide +kernel
theorem dX12_seek_191 : decode cX12_seek 191 = .ok (.iconst 0, 1) := by decide +kernel
theorem dX12_seek_192 : decode cX12_seek 192 = .ok (.istore 4, 2) := by decide +kernel
theorem dX12_seek_194 : decode cX12_seek 194 = .ok (.iload 4, 2) := by decide +kernel
theorem dX12_seek_196 : decode cX12_seek 196 = .ok (.aload_n 0, 1) := by decide +kernel
theorem dX12_seek_197 : decode cX12_seek 197 = .ok (.iload_n 3, 1) := by decide +kernel
theorem dX12_seek_198 : decode cX12_seek 198 = .ok (.invokevirtual 124, 3) := by decide +kernel
theorem dX12_seek_201 : decode cX12_seek 201 = .ok (.if_icmp .ge 37, 3) := by decide +kernel
theorem dX12_seek_204 : decode cX12_seek 204 = .ok (.aload_n 0, 1) := by decide +kernel
theorem dX12_seek_205 : decode cX12_seek 205 = .ok (.iload_n 3, 1) := by decide +kernel
theorem dX12_seek_206 : decode cX12_seek 206 = .ok (.iload 4, 2) := by decide +kernel
theorem dX12_seek_208 : decode cX12_seek 208 = .ok (.invokevirtual 127, 3) := by decide +kernel
theorem dX12_seek_211 : decode cX12_seek 211 = .ok (.ifCond .ne 21, 3) := by decide +kernel
theorem dX12_seek_214 : decode cX12_seek 214 = .ok (.aload_n 0, 1) := by decide +kernel
theorem dX12_seek_215 : decode cX12_seek 215 = .ok (.bipush 8, 2) := by decide +kernel
theorem dX12_seek_217 : decode cX12_seek 217 = .ok (.iload_n 3, 1) := by decide +kernel
theorem dX12_seek_218 : decode cX12_seek 218 = .ok (.imul, 1) := by decide +kernel
theorem dX12_seek_219 : decode cX12_seek 219 = .ok (.iload 4, 2) := by decide +kernel
theorem dX12_seek_221 : decode cX12_seek 221 = .ok (.iadd, 1) := by decide +kernel
theorem dX12_seek_222 : decode cX12_seek 222 = .ok (.aload_n 0, 1) := by decide +kernel
theorem dX12_seek_223 : decode cX12_seek 223 = .ok (.iload_n 3, 1) := by decide +kernel
theorem dX12_seek_224 : decode cX12_seek 224 = .ok (.iload 4, 2) := by decide +kernel
theorem dX12_seek_226 : decode cX12_seek 226 = .ok (.invokevirtual 131, 3) := by decide +kernel
theorem dX12_seek_229 : decode cX12_seek 229 = .ok (.invokevirtual 259, 3) := by decide +kernel
theorem dX12_seek_232 : decode cX12_seek 232 = .ok (.iinc 4 1, 3) := by decide +kernel
theorem dX12_seek_235 : decode cX12_seek 235 = .ok (.goto (-41), 3) := by decide +kernel
theorem dX12_seek_238 : decode cX12_seek 238 = .ok (.iinc 3 1, 3) := by decide +kernel
theorem dX12_seek_241 : decode cX12_seek 241 = .ok (.goto (-63), 3) := by decide +kernel
theorem dX12_seek_244 : decode cX12_seek 244 = .ok (.return_, 1) := by decide +kernel
set_option maxHeartbeats 4000000 in
set_option maxRecDepth 20000 in
theorem c_X12_seek (l : Launch) (b : Nat) (D : va_G) (cy : Nat → ClassId) {tt : Nat} {M : xMm} {c : Int} (hO : MO M) (hR : MR M) (hC : MC M) (hW : MWi M) (hc : 0 ≤ c ∧ c < 10) : xC l b D cy yX12_seek cX12_seek 6 none ({ frames := 3, cells := 0, slots := 0, locals := 67 }) [xr 172, xi c] 209 M (RS tt) (xPv 209 (RS tt) (fun M' => MWi M' ∧ MC M' ∧ frS M' M)) := by
  refine x_met (by decide) (Nat.le_of_ble_eq_true rfl) (fun g hg hr he => ?_)
  refine x_canon (ls' := [(0, _), (1, _)]) rfl ?_
  have loop178 : ∀ (n1 : Nat) (M1 : xMm) (v t : Int), SB M1 M → IR64 M1 → 0 ≤ t → t ≤ 8 → 8 - t < n1 → xW g 209 M1 (RS tt) 0 0 178 [(0, xr 172), (1, xi c), (2, xi v), (3, xi t)] [] := by
    intro n1
    induction n1 with
    | zero => intro M1 v t S1 I1 ht0 ht1 ht2; exfalso; omega
    | succ n1 ihn1 =>
      intro M1 v t S1 I1 ht0 ht1 ht2
      obtain ⟨hb1, hm1⟩ := MR_many S1.1
      have em1 : M1 180 (M1 172 18).toNat = mMa M1 := rfl
      have loop194 : t < 8 → ∀ (n2 : Nat) (M2 : xMm) (v2 k : Int), SB M2 M → IR64 M2 → 0 ≤ k → k ≤ 8 → 8 - k < n2 → xW g 209 M2 (RS tt) 0 0 194 [(0, xr 172), (1, xi c), (2, xi v2), (3, xi t), (4, xi k)] [] := by
        intro htm n2
        induction n2 with
        | zero => intro M2 v2 k S2 I2 hk0 hk1 hk2; exfalso; omega
        | succ n2 ihn2 =>
          intro M2 v2 k S2 I2 hk0 hk1 hk2
          have hss := (MR_use S2.1 (t := t) (by omega) (by omega)).2.2.1
          have hmi := (MR_use S2.1 (t := t) (by omega) (by omega)).2.2.2.2
          refine x_iload hg dX12_seek_194 rfl ?_
          refine x_aload_n hg dX12_seek_196 rfl ?_
          refine x_iload_n hg dX12_seek_197 rfl ?_
          refine x_cVi hg he [_] [_] dX12_seek_198 mv_X12_124 (c_X12_stops l b D cy S2.1 (by omega)) (by decide) rfl rfl (Nat.le_of_ble_eq_true rfl) (by decide) (by decide) (fun r198 M198 q198 => ?_)
          obtain ⟨h198, e198⟩ := q198
          replace h198 := h198.symm
          subst h198
          refine x_icmp_ge (tgt := 238) hg dX12_seek_201 (by decide) (by omega) (by omega) (fun c201 => ?_) (fun c201 => ?_)
          · skip
            refine x_iinc (ls' := [(0, _), (1, _), (2, _), (3, _), (4, _)]) hg dX12_seek_238 rfl (by decide) rfl ?_
            refine x_goto (tgt := 178) hg dX12_seek_241 (by decide) ?_
            refine x_canon (ls' := [(0, _), (1, _), (2, _), (3, _)]) rfl ?_
            exact ihn1 M2 v2 _ S2 I2 (by omega) (by omega) (by omega)
          · skip
            refine x_aload_n hg dX12_seek_204 rfl ?_
            refine x_iload_n hg dX12_seek_205 rfl ?_
            refine x_iload hg dX12_seek_206 rfl ?_
            refine x_cVi hg he [_, _] [] dX12_seek_208 mv_X12_127 (c_X12_stations l b D cy S2.1 (by omega) (by omega)) (by decide) rfl rfl (Nat.le_of_ble_eq_true rfl) (by decide) (by decide) (fun r208 M208 q208 => ?_)
            obtain ⟨h208, e208⟩ := q208
            replace h208 := h208.symm
            subst h208
            have hmk := hmi k (by omega) (by omega)
            refine x_if_ne (tgt := 232) hg dX12_seek_211 (by decide) (by omega) (fun c211 => ?_) (fun c211 => ?_)
            · skip
              refine x_iinc (ls' := [(0, _), (1, _), (2, _), (3, _), (4, _)]) hg dX12_seek_232 rfl (by decide) rfl ?_
              refine x_goto (tgt := 194) hg dX12_seek_235 (by decide) ?_
              first
                | exact ihn2 M229 v2 _ (SB_E S2 hW229 hf229 hk229) (fun s hs => by rw [hf229 191 (by decide), hf229 192 (by decide)]; exact I2 s hs) (by omega) (by omega) (by omega)
                | exact ihn2 M2 v2 _ S2 I2 (by omega) (by omega) (by omega)
            · skip
              refine x_aload_n hg dX12_seek_214 rfl ?_
              refine x_bipush hg dX12_seek_215 (by decide) ?_
              refine x_iload_n hg dX12_seek_217 rfl ?_
              refine x_imul hg dX12_seek_218 ?_
              refine x_iload hg dX12_seek_219 rfl ?_
              refine x_iadd hg dX12_seek_221 ?_
              refine x_aload_n hg dX12_seek_222 rfl ?_
              refine x_iload_n hg dX12_seek_223 rfl ?_
              refine x_iload hg dX12_seek_224 rfl ?_
              refine x_cVi hg he [_, _] [_, _] dX12_seek_226 mv_X12_131 (c_X12_minutes l b D cy S2.1 (by omega) (by omega)) (by decide) rfl rfl (Nat.le_of_ble_eq_true rfl) (by decide) (by decide) (fun r226 M226 q226 => ?_)
              obtain ⟨h226, e226⟩ := q226
              replace h226 := h226.symm
              subst h226
              refine x_cVv hg he [_, _] [] dX12_seek_229 mv_X12_259 (c_X12_ends l b D cy S2.2.2.2.1 (by omega) (by omega) (I2 _ (by omega)).1 (I2 _ (by omega)).2) (by decide) rfl rfl (Nat.le_of_ble_eq_true rfl) (by decide) (by decide) (fun M229 q229 => ?_)
              obtain ⟨hW229, hf229, hk229⟩ := q229
              refine x_iinc (ls' := [(0, _), (1, _), (2, _), (3, _), (4, _)]) hg dX12_seek_232 rfl (by decide) rfl ?_
              refine x_goto (tgt := 194) hg dX12_seek_235 (by decide) ?_
              first
                | exact ihn2 M229 v2 _ (SB_E S2 hW229 hf229 hk229) (fun s hs => by rw [hf229 191 (by decide), hf229 192 (by decide)]; exact I2 s hs) (by omega) (by omega) (by omega)
                | exact ihn2 M2 v2 _ S2 I2 (by omega) (by omega) (by omega)
      refine x_iload_n hg dX12_seek_178 rfl ?_
      refine x_aload_n hg dX12_seek_179 rfl ?_
      refine x_getR (j9 := 180) hg dX12_seek_180 fl_X12_81 (by decide) rfl rfl (by decide) ?_
      refine x_aload_n hg dX12_seek_183 rfl ?_
      refine x_getI hg dX12_seek_184 fl_X12_75 (by decide) rfl ?_
      refine x_iaload (len := 2) hg dX12_seek_187 (by decide) (by omega) ?_
      refine x_icmp_ge (tgt := 244) hg dX12_seek_188 (by decide) (by omega) (by omega) (fun c188 => ?_) (fun c188 => ?_)
      · skip
        refine x_vret hg hr dX12_seek_244 (Nat.le_refl _) (Nat.le_refl _) ?_
        exact ⟨rfl, rfl, rfl, S1.2.2.2.1, S1.2.1, S1.2.2.2.2⟩
      · skip
        refine x_iconst hg dX12_seek_191 ?_
        refine x_istore (ls' := [(0, _), (1, _), (2, _), (3, _), (4, _)]) hg dX12_seek_192 (by decide) rfl ?_
        exact loop194 (by omega) 9 M1 v 0 S1 I1 (by omega) (by omega) (by omega)
  have j59x : ∀ (M1 : xMm) (v : Int), SB M1 M → WP M1 M1 → v = 0 → xW g 209 M1 (RS tt) 0 0 59 [(0, xr 172), (1, xi c), (2, xi v)] [] := by
    intro M1 v S1 W1 hv
    refine x_iload_n hg dX12_seek_59 rfl ?_
    refine x_if_eq (tgt := 176) hg dX12_seek_60 (by decide) (by omega) (fun c60 => ?_) (fun c60 => ?_)
    · skip
      refine x_iconst hg dX12_seek_176 ?_
      refine x_istore_n (ls' := [(0, _), (1, _), (2, _), (3, _)]) hg dX12_seek_177 rfl (by decide) rfl ?_
      exact loop178 9 M1 v 0 S1 (IR64_of W1 S1.1) (by omega) (by omega) (by omega)
    · skip
      exfalso; omega
  have loop59 : ∀ (n1 : Nat) (M1 : xMm) (v : Int), SB M1 M → WP M1 M1 → (v = 0 ∨ v = 1) → wSum M1 64 < n1 → xW g 209 M1 (RS tt) 0 0 59 [(0, xr 172), (1, xi c), (2, xi v)] [] := by
    intro n1
    induction n1 with
    | zero => intro M1 v S1 W1 hv hn; exfalso; omega
    | succ n1 ihn1 =>
      intro M1 v S1 W1 hv hn
      have loop67 : ∀ (n2 : Nat) (M2 : xMm) (v2 t : Int), GW M2 M1 v2 → 0 ≤ t → t ≤ 8 → 8 - t < n2 → xW g 209 M2 (RS tt) 0 0 67 [(0, xr 172), (1, xi c), (2, xi v2), (3, xi t)] [] := by
        intro n2
        induction n2 with
        | zero => intro M2 v2 t G2 ht0 ht1 ht2; exfalso; omega
        | succ n2 ihn2 =>
          intro M2 v2 t G2 ht0 ht1 ht2
          have S2 := SB_Y S1 G2.2.1
          obtain ⟨hb2, hm2⟩ := MR_many S2.1
          have em2 : M2 180 (M2 172 18).toNat = mMa M2 := rfl
          have loop83 : t < 8 → ∀ (n3 : Nat) (M3 : xMm) (v3 k : Int), GW M3 M1 v3 → 0 ≤ k → k ≤ 8 → 8 - k < n3 → xW g 209 M3 (RS tt) 0 0 83 [(0, xr 172), (1, xi c), (2, xi v3), (3, xi t), (4, xi k)] [] := by
            intro htm n3
            induction n3 with
            | zero => intro M3 v3 k G3 hk0 hk1 hk2; exfalso; omega
            | succ n3 ihn3 =>
              intro M3 v3 k G3 hk0 hk1 hk2
              have S3 := SB_Y S1 G3.2.1
              have hv3 := G3.2.2.1
              have hss := (MR_use S3.1 (t := t) (by omega) (by omega)).2.2.1
              have hmi := (MR_use S3.1 (t := t) (by omega) (by omega)).2.2.2.2
              have W3 := WP_self G3
              have j161 : k < 8 → ∀ (M4 : xMm) (v4 : Int), GW M4 M1 v4 → xW g 209 M4 (RS tt) 0 0 161 [(0, xr 172), (1, xi c), (2, xi v4), (3, xi t), (4, xi k)] [] := by
                intro hk8 M4 v4 G4
                refine x_iinc (ls' := [(0, _), (1, _), (2, _), (3, _), (4, _)]) hg dX12_seek_161 rfl (by decide) rfl ?_
                refine x_goto (tgt := 83) hg dX12_seek_164 (by decide) ?_
                exact ihn3 M4 v4 _ G4 (by omega) (by omega) (by omega)
              refine x_iload hg dX12_seek_83 rfl ?_
              refine x_aload_n hg dX12_seek_85 rfl ?_
              refine x_iload_n hg dX12_seek_86 rfl ?_
              refine x_cVi hg he [_] [_] dX12_seek_87 mv_X12_124 (c_X12_stops l b D cy S3.1 (by omega)) (by decide) rfl rfl (Nat.le_of_ble_eq_true rfl) (by decide) (by decide) (fun r87 M87 q87 => ?_)
              obtain ⟨h87, e87⟩ := q87
              replace h87 := h87.symm
              subst h87
              refine x_icmp_ge (tgt := 167) hg dX12_seek_90 (by decide) (by omega) (by omega) (fun c90 => ?_) (fun c90 => ?_)
              · skip
                refine x_iinc (ls' := [(0, _), (1, _), (2, _), (3, _), (4, _)]) hg dX12_seek_167 rfl (by decide) rfl ?_
                refine x_goto (tgt := 67) hg dX12_seek_170 (by decide) ?_
                refine x_canon (ls' := [(0, _), (1, _), (2, _), (3, _)]) rfl ?_
                exact ihn2 M3 v3 _ G3 (by omega) (by omega) (by omega)
              · skip
                refine x_bipush hg dX12_seek_93 (by decide) ?_
                refine x_iload_n hg dX12_seek_95 rfl ?_
                refine x_imul hg dX12_seek_96 ?_
                refine x_iload hg dX12_seek_97 rfl ?_
                refine x_iadd hg dX12_seek_99 ?_
                refine x_istore (ls' := [(0, _), (1, _), (2, _), (3, _), (4, _), (5, _)]) hg dX12_seek_100 (by decide) rfl ?_
                have hwp := WP_at W3 (t := t) (k := k) (by omega) (by omega)
                have hmk := hmi k (by omega) (by omega)
                refine x_aload_n hg dX12_seek_102 rfl ?_
                refine x_getR (j9 := 191) hg dX12_seek_103 fl_X12_170 (by decide) rfl rfl (by decide) ?_
                refine x_iload hg dX12_seek_106 rfl ?_
                refine x_iaload (len := 64) hg dX12_seek_108 (by decide) (by omega) ?_
                refine x_ldc hg 1000000000 dX12_seek_109 (List.mem_of_getElem? (i := 1129) (by decide +kernel)) ?_
                refine x_icmp_ge (tgt := 161) hg dX12_seek_111 (by decide) (by omega) (by omega) (fun c111 => ?_) (fun c111 => ?_)
                · skip
                  refine x_canon (ls' := [(0, _), (1, _), (2, _), (3, _), (4, _)]) rfl ?_
                  first | exact j161 (by omega) M153 v3 gt1 | exact j161 (by omega) M153 1 (gt2 (by omega)) | exact j161 (by omega) M3 v3 G3
                · skip
                  refine x_aload_n hg dX12_seek_114 rfl ?_
                  refine x_iload_n hg dX12_seek_115 rfl ?_
                  refine x_iload hg dX12_seek_116 rfl ?_
                  refine x_cVi hg he [_, _] [] dX12_seek_118 mv_X12_127 (c_X12_stations l b D cy S3.1 (by omega) (by omega)) (by decide) rfl rfl (Nat.le_of_ble_eq_true rfl) (by decide) (by decide) (fun r118 M118 q118 => ?_)
                  obtain ⟨h118, e118⟩ := q118
                  replace h118 := h118.symm
                  subst h118
                  refine x_if_eq (tgt := 161) hg dX12_seek_121 (by decide) (by omega) (fun c121 => ?_) (fun c121 => ?_)
                  · skip
                    refine x_canon (ls' := [(0, _), (1, _), (2, _), (3, _), (4, _)]) rfl ?_
                    first | exact j161 (by omega) M153 v3 gt1 | exact j161 (by omega) M153 1 (gt2 (by omega)) | exact j161 (by omega) M3 v3 G3
                  · skip
                    refine x_aload_n hg dX12_seek_124 rfl ?_
                    refine x_aload_n hg dX12_seek_125 rfl ?_
                    refine x_iload_n hg dX12_seek_126 rfl ?_
                    refine x_iload hg dX12_seek_127 rfl ?_
                    refine x_cVi hg he [_, _] [_] dX12_seek_129 mv_X12_127 (c_X12_stations l b D cy S3.1 (by omega) (by omega)) (by decide) rfl rfl (Nat.le_of_ble_eq_true rfl) (by decide) (by decide) (fun r129 M129 q129 => ?_)
                    obtain ⟨h129, e129⟩ := q129
                    replace h129 := h129.symm
                    subst h129
                    refine x_aload_n hg dX12_seek_132 rfl ?_
                    refine x_iload_n hg dX12_seek_133 rfl ?_
                    refine x_iload hg dX12_seek_134 rfl ?_
                    refine x_cVi hg he [_, _] [_, _] dX12_seek_136 mv_X12_131 (c_X12_minutes l b D cy S3.1 (by omega) (by omega)) (by decide) rfl rfl (Nat.le_of_ble_eq_true rfl) (by decide) (by decide) (fun r136 M136 q136 => ?_)
                    obtain ⟨h136, e136⟩ := q136
                    replace h136 := h136.symm
                    subst h136
                    refine x_aload_n hg dX12_seek_139 rfl ?_
                    refine x_getR (j9 := 191) hg dX12_seek_140 fl_X12_170 (by decide) rfl rfl (by decide) ?_
                    refine x_iload hg dX12_seek_143 rfl ?_
                    refine x_iaload (len := 64) hg dX12_seek_145 (by decide) (by omega) ?_
                    refine x_aload_n hg dX12_seek_146 rfl ?_
                    refine x_getR (j9 := 192) hg dX12_seek_147 fl_X12_173 (by decide) rfl rfl (by decide) ?_
                    refine x_iload hg dX12_seek_150 rfl ?_
                    refine x_iaload (len := 64) hg dX12_seek_152 (by decide) (by omega) ?_
                    refine x_cVi hg he [_, _, _, _] [] dX12_seek_153 mv_X12_255 (c_X12_goesOn l b D cy S3.1 S3.2.1 S3.2.2.1 W3 (by omega) (by omega) (by omega) (by omega)) (by decide) rfl rfl (Nat.le_of_ble_eq_true rfl) (by decide) (by decide) (fun r153 M153 q153 => ?_)
                    obtain ⟨gt1, gt2⟩ := GW_tr G3 q153
                    have hr153 := q153.2.2.1
                    refine x_if_eq (tgt := 161) hg dX12_seek_156 (by decide) (by omega) (fun c156 => ?_) (fun c156 => ?_)
                    · skip
                      refine x_canon (ls' := [(0, _), (1, _), (2, _), (3, _), (4, _)]) rfl ?_
                      first | exact j161 (by omega) M153 v3 gt1 | exact j161 (by omega) M153 1 (gt2 (by omega)) | exact j161 (by omega) M3 v3 G3
                    · skip
                      refine x_iconst hg dX12_seek_159 ?_
                      refine x_istore_n (ls' := [(0, _), (1, _), (2, _), (3, _), (4, _), (5, _)]) hg dX12_seek_160 rfl (by decide) rfl ?_
                      refine x_canon (ls' := [(0, _), (1, _), (2, _), (3, _), (4, _)]) rfl ?_
                      first | exact j161 (by omega) M153 v3 gt1 | exact j161 (by omega) M153 1 (gt2 (by omega)) | exact j161 (by omega) M3 v3 G3
          refine x_iload_n hg dX12_seek_67 rfl ?_
          refine x_aload_n hg dX12_seek_68 rfl ?_
          refine x_getR (j9 := 180) hg dX12_seek_69 fl_X12_81 (by decide) rfl rfl (by decide) ?_
          refine x_aload_n hg dX12_seek_72 rfl ?_
          refine x_getI hg dX12_seek_73 fl_X12_75 (by decide) rfl ?_
          refine x_iaload (len := 2) hg dX12_seek_76 (by decide) (by omega) ?_
          refine x_icmp_ge (tgt := 173) hg dX12_seek_77 (by decide) (by omega) (by omega) (fun c77 => ?_) (fun c77 => ?_)
          · skip
            refine x_goto (tgt := 59) hg dX12_seek_173 (by decide) ?_
            refine x_canon (ls' := [(0, _), (1, _), (2, _)]) rfl ?_
            by_cases hv1 : v2 = 0
            · exact j59x M2 v2 S2 (WP_self G2) hv1
            · have hv2 := G2.2.2.1
              exact ihn1 M2 v2 S2 (WP_self G2) hv2 (by have := G2.2.2.2.2 (by omega); omega)
          · skip
            refine x_iconst hg dX12_seek_80 ?_
            refine x_istore (ls' := [(0, _), (1, _), (2, _), (3, _), (4, _)]) hg dX12_seek_81 (by decide) rfl ?_
            exact loop83 (by omega) 9 M2 v2 0 G2 (by omega) (by omega) (by omega)
      refine x_iload_n hg dX12_seek_59 rfl ?_
      refine x_if_eq (tgt := 176) hg dX12_seek_60 (by decide) (by omega) (fun c60 => ?_) (fun c60 => ?_)
      · skip
        refine x_iconst hg dX12_seek_176 ?_
        refine x_istore_n (ls' := [(0, _), (1, _), (2, _), (3, _)]) hg dX12_seek_177 rfl (by decide) rfl ?_
        exact loop178 9 M1 v 0 S1 (IR64_of W1 S1.1) (by omega) (by omega) (by omega)
      · skip
        refine x_iconst hg dX12_seek_63 ?_
        refine x_istore_n (ls' := [(0, _), (1, _), (2, _)]) hg dX12_seek_64 rfl (by decide) rfl ?_
        refine x_iconst hg dX12_seek_65 ?_
        refine x_istore_n (ls' := [(0, _), (1, _), (2, _), (3, _)]) hg dX12_seek_66 rfl (by decide) rfl ?_
        exact loop67 9 M1 0 0 (GW_rf W1) (by omega) (by omega) (by omega)
  have loop6 : ∀ (n1 : Nat) (M1 : xMm) (i : Int), SB M1 M → 0 ≤ i → i ≤ 64 → 64 - i < n1 → (∀ s : Nat, (s : Int) < i → M1 191 s = 1000000000 ∧ M1 192 s = 1000000000) → xW g 209 M1 (RS tt) 0 0 6 [(0, xr 172), (1, xi c), (2, xi i)] [] := by
    intro n1
    induction n1 with
    | zero => intro M1 i S1 hi0 hi1 hi2 hs1; exfalso; omega
    | succ n1 ihn1 =>
      intro M1 i S1 hi0 hi1 hi2 hs1
      have hoc := hO.2.2.2.2.2.1 c.toNat (by omega)
      have e187 : M1 187 = M 187 := S1.2.2.2.2.1 187 (by decide) (by decide) (by decide) (by decide) (by decide)
      have e188 : M1 188 = M 188 := S1.2.2.2.2.1 188 (by decide) (by decide) (by decide) (by decide) (by decide)
      refine x_iload_n hg dX12_seek_6 rfl ?_
      refine x_bipush hg dX12_seek_7 (by decide) ?_
      refine x_icmp_ge (tgt := 34) hg dX12_seek_9 (by decide) (by omega) (by omega) (fun c9 => ?_) (fun c9 => ?_)
      · skip
        have Sb : SB (mu M1 172 33 1000000000) M := SB_E S1 (MWi_mu S1.2.2.2.1 (by omega)) (fun a ha => by funext j; exact mu_nc ha) (fun k hk => mu_nf (by omega))
        have Wb : WP (mu M1 172 33 1000000000) (mu M1 172 33 1000000000) := fun s hs => by
          rw [mu_nc (by decide), mu_nc (by decide)]
          exact Or.inl (hs1 s (by omega))
        refine x_aload_n hg dX12_seek_34 rfl ?_
        refine x_ldc hg 1000000000 dX12_seek_35 (List.mem_of_getElem? (i := 1129) (by decide +kernel)) ?_
        refine x_putI hg dX12_seek_37 fl_X12_252 ft_12_33 (by decide) rfl ?_
        refine x_aload_n hg dX12_seek_40 rfl ?_
        refine x_aload_n hg dX12_seek_41 rfl ?_
        refine x_getR (j9 := 187) hg dX12_seek_42 fl_X12_158 (by decide) rfl rfl (by decide) ?_
        refine x_iload_n hg dX12_seek_45 rfl ?_
        refine x_iaload (len := 10) hg dX12_seek_46 (by decide) (by omega) ?_
        try simp (disch := omega) only [mu_s, mu_nf, mu_nc]
        refine x_aload_n hg dX12_seek_47 rfl ?_
        refine x_getR (j9 := 188) hg dX12_seek_48 fl_X12_161 (by decide) rfl rfl (by decide) ?_
        refine x_iload_n hg dX12_seek_51 rfl ?_
        refine x_iaload (len := 10) hg dX12_seek_52 (by decide) (by omega) ?_
        try simp (disch := omega) only [mu_s, mu_nf, mu_nc]
        rw [e187, e188]
        refine x_iconst hg dX12_seek_53 ?_
        refine x_iconst hg dX12_seek_54 ?_
        refine x_cVi hg he [_, _, _, _] [] dX12_seek_55 mv_X12_255 (c_X12_goesOn l b D cy Sb.1 Sb.2.1 Sb.2.2.1 Wb (by omega) (by omega) (by omega) (by omega)) (by decide) rfl rfl (Nat.le_of_ble_eq_true rfl) (by decide) (by decide) (fun r55 M55 q55 => ?_)
        have hr55 := q55.2.2.1
        refine x_istore_n (ls' := [(0, _), (1, _), (2, _)]) hg dX12_seek_58 rfl (by decide) rfl ?_
        exact loop59 (wSum M55 64 + 1) M55 _ (SB_Y Sb q55.2.1) (WP_self q55) hr55 (by omega)
      · skip
        refine x_aload_n hg dX12_seek_12 rfl ?_
        refine x_getR (j9 := 191) hg dX12_seek_13 fl_X12_170 (by decide) rfl rfl (by decide) ?_
        refine x_iload_n hg dX12_seek_16 rfl ?_
        refine x_ldc hg 1000000000 dX12_seek_17 (List.mem_of_getElem? (i := 1129) (by decide +kernel)) ?_
        refine x_iastore (len := 64) hg dX12_seek_19 (by decide) (by omega)  ?_
        refine x_aload_n hg dX12_seek_20 rfl ?_
        refine x_getR (j9 := 192) hg dX12_seek_21 fl_X12_173 (by decide) rfl rfl (by decide) ?_
        refine x_iload_n hg dX12_seek_24 rfl ?_
        refine x_ldc hg 1000000000 dX12_seek_25 (List.mem_of_getElem? (i := 1129) (by decide +kernel)) ?_
        refine x_iastore (len := 64) hg dX12_seek_27 (by decide) (by omega)  ?_
        refine x_iinc (ls' := [(0, _), (1, _), (2, _)]) hg dX12_seek_28 rfl (by decide) rfl ?_
        refine x_goto (tgt := 6) hg dX12_seek_31 (by decide) ?_
        refine x_canon (ls' := [(0, _), (1, _), (2, _)]) rfl ?_
        refine ihn1 _ _ (SB_Y S1 (fun a h1 h2 => by funext j; rw [mu_nc h2, mu_nc h1])) (by omega) (by omega) (by omega) (fun s hs => ?_)
        by_cases es : s = i.toNat
        · subst es; rw [mu_nc (by decide), mu_s, mu_s]; exact ⟨rfl, rfl⟩
        · rw [mu_nc (by decide), mu_nf es, mu_nf es, mu_nc (by decide)]; exact hs1 s (by omega)
  refine x_aload_n hg dX12_seek_0 rfl ?_
  refine x_cVv hg he [] [] dX12_seek_1 mv_X12_248 (c_X12_sumUp l b D cy hC) (by decide) rfl rfl (Nat.le_of_ble_eq_true rfl) (by decide) (by decide) (fun M1 q1 => ?_)
  obtain ⟨hS1, hf1⟩ := q1
  refine x_iconst hg dX12_seek_4 ?_
  refine x_istore_n (ls' := [(0, _), (1, _), (2, _)]) hg dX12_seek_5 rfl (by decide) rfl ?_
  have S0 : SB M1 M := ⟨MR_fr (fun a _ _ => hf1 a (by omega) (by omega)) (by rw [hf1 172 (by decide) (by decide)]) hR, ⟨fun k hk => by rw [hf1 182 (by decide) (by decide)]; exact hC.1 k hk, fun s hs => by rw [hf1 185 (by decide) (by decide)]; exact hC.2.1 s hs, hS1.1, hS1.2.1⟩, hS1, by unfold MWi; rw [hf1 172 (by decide) (by decide)]; exact hW, ⟨fun a _ h1 h2 _ _ => hf1 a h1 h2, fun f _ => by rw [hf1 172 (by decide) (by decide)]⟩⟩
  exact loop6 65 M1 0 S0 (by omega) (by omega) (by omega) (fun s hs => absurd hs (by omega))

theorem dX12_alone_0 : decode cX12_alone 0 = .ok (.aload_n 0, 1) := by decide +kernel
theorem dX12_alone_1 : decode cX12_alone 1 = .ok (.iload_n 1, 1) := by decide +kernel
theorem dX12_alone_2 : decode cX12_alone 2 = .ok (.invokevirtual 237, 3) := by decide +kernel
theorem dX12_alone_5 : decode cX12_alone 5 = .ok (.ifCond .ne 5, 3) := by decide +kernel
theorem dX12_alone_8 : decode cX12_alone 8 = .ok (.iconst (-1), 1) := by decide +kernel
theorem dX12_alone_9 : decode cX12_alone 9 = .ok (.ireturn, 1) := by decide +kernel
theorem dX12_alone_10 : decode cX12_alone 10 = .ok (.aload_n 0, 1) := by decide +kernel
theorem dX12_alone_11 : decode cX12_alone 11 = .ok (.iload_n 1, 1) := by decide +kernel
theorem dX12_alone_12 : decode cX12_alone 12 = .ok (.invokevirtual 268, 3) := by decide +kernel
theorem dX12_alone_15 : decode cX12_alone 15 = .ok (.aload_n 0, 1) := by decide +kernel
theorem dX12_alone_16 : decode cX12_alone 16 = .ok (.getfield 252, 3) := by decide +kernel
theorem dX12_alone_19 : decode cX12_alone 19 = .ok (.ldc 251, 2) := by decide +kernel
theorem dX12_alone_21 : decode cX12_alone 21 = .ok (.if_icmp .ge 10, 3) := by decide +kernel
theorem dX12_alone_24 : decode cX12_alone 24 = .ok (.aload_n 0, 1) := by decide +kernel
theorem dX12_alone_25 : decode cX12_alone 25 = .ok (.getfield 252, 3) := by decide +kernel
theorem dX12_alone_28 : decode cX12_alone 28 = .ok (.goto 4, 3) := by decide +kernel
theorem dX12_alone_31 : decode cX12_alone 31 = .ok (.iconst (-1), 1) := by decide +kernel
theorem dX12_alone_32 : decode cX12_alone 32 = .ok (.ireturn, 1) := by decide +kernel
set_option maxHeartbeats 4000000 in
set_option maxRecDepth 20000 in
theorem c_X12_alone (l : Launch) (b : Nat) (D : va_G) (cy : Nat → ClassId) {tt : Nat} {M : xMm} {z : Int} (hO : MO M) (hR : MR M) (hC : MC M) (hW : MWi M) (hz : inR z) : xC l b D cy yX12_alone cX12_alone 2 (some .int) ({ frames := 4, cells := 0, slots := 0, locals := 92 }) [xr 172, xi z] 209 M (RS tt) (xPi 209 (RS tt) (fun r M' => inR r ∧ MWi M' ∧ MC M' ∧ frS M' M)) := by
  refine x_met (by decide) (Nat.le_of_ble_eq_true rfl) (fun g hg hr he => ?_)
  have hn := hO.1
  refine x_canon (ls' := [(0, _), (1, _)]) rfl ?_
  refine x_aload_n hg dX12_alone_0 rfl ?_
  refine x_iload_n hg dX12_alone_1 rfl ?_
  refine x_cVi hg he [_] [] dX12_alone_2 mv_X12_237 (c_X12_isChurn l b D cy (by omega) (by omega)) (by decide) rfl rfl (Nat.le_of_ble_eq_true rfl) (by decide) (by decide) (fun r2 M2 q2 => ?_)
  obtain ⟨h2, e2⟩ := q2
  replace h2 := h2.symm
  subst h2
  refine x_if_ne (tgt := 10) hg dX12_alone_5 (by decide) (by omega) (fun c5 => ?_) (fun c5 => ?_)
  · skip
    refine x_aload_n hg dX12_alone_10 rfl ?_
    refine x_iload_n hg dX12_alone_11 rfl ?_
    refine x_cVv hg he [_] [] dX12_alone_12 mv_X12_268 (c_X12_seek l b D cy hO hR hC hW (by omega)) (by decide) rfl rfl (Nat.le_of_ble_eq_true rfl) (by decide) (by decide) (fun M12 q12 => ?_)
    obtain ⟨hW12, hC12, hf12⟩ := q12
    have hi12 := hW12.1
    refine x_aload_n hg dX12_alone_15 rfl ?_
    refine x_getI hg dX12_alone_16 fl_X12_252 (by decide) rfl ?_
    try simp (disch := omega) only [mu_s, mu_nf, mu_nc]
    refine x_ldc hg 1000000000 dX12_alone_19 (List.mem_of_getElem? (i := 1129) (by decide +kernel)) ?_
    refine x_icmp_ge (tgt := 31) hg dX12_alone_21 (by decide) (by omega) (by omega) (fun c21 => ?_) (fun c21 => ?_)
    · skip
      refine x_iconst hg dX12_alone_31 ?_
      refine x_iret hg hr (Or.inl rfl) dX12_alone_32 (Nat.le_refl _) (Nat.le_refl _) ?_
      first | exact ⟨rfl, rfl, _, rfl, by omega, hW, hC, frS_rf M⟩ | exact ⟨rfl, rfl, _, rfl, by omega, hW12, hC12, hf12⟩
    · skip
      refine x_aload_n hg dX12_alone_24 rfl ?_
      refine x_getI hg dX12_alone_25 fl_X12_252 (by decide) rfl ?_
      try simp (disch := omega) only [mu_s, mu_nf, mu_nc]
      refine x_goto (tgt := 32) hg dX12_alone_28 (by decide) ?_
      refine x_iret hg hr (Or.inl rfl) dX12_alone_32 (Nat.le_refl _) (Nat.le_refl _) ?_
      first | exact ⟨rfl, rfl, _, rfl, by omega, hW, hC, frS_rf M⟩ | exact ⟨rfl, rfl, _, rfl, by omega, hW12, hC12, hf12⟩
  · skip
    refine x_iconst hg dX12_alone_8 ?_
    refine x_iret hg hr (Or.inl rfl) dX12_alone_9 (Nat.le_refl _) (Nat.le_refl _) ?_
    first | exact ⟨rfl, rfl, _, rfl, by omega, hW, hC, frS_rf M⟩ | exact ⟨rfl, rfl, _, rfl, by omega, hW12, hC12, hf12⟩

theorem dX12_way_0 : decode cX12_way 0 = .ok (.aload_n 0, 1) := by decide +kernel
theorem dX12_way_1 : decode cX12_way 1 = .ok (.iload_n 1, 1) := by decide +kernel
theorem dX12_way_2 : decode cX12_way 2 = .ok (.invokevirtual 271, 3) := by decide +kernel
theorem dX12_way_5 : decode cX12_way 5 = .ok (.ifCond .ge 5, 3) := by decide +kernel
theorem dX12_way_8 : decode cX12_way 8 = .ok (.iconst (-1), 1) := by decide +kernel
theorem dX12_way_9 : decode cX12_way 9 = .ok (.ireturn, 1) := by decide +kernel
theorem dX12_way_10 : decode cX12_way 10 = .ok (.iload_n 2, 1) := by decide +kernel
theorem dX12_way_11 : decode cX12_way 11 = .ok (.ifCond .ne 10, 3) := by decide +kernel
theorem dX12_way_14 : decode cX12_way 14 = .ok (.aload_n 0, 1) := by decide +kernel
theorem dX12_way_15 : decode cX12_way 15 = .ok (.getfield 262, 3) := by decide +kernel
theorem dX12_way_18 : decode cX12_way 18 = .ok (.goto 16, 3) := by decide +kernel
theorem dX12_way_21 : decode cX12_way 21 = .ok (.iload_n 2, 1) := by decide +kernel
theorem dX12_way_22 : decode cX12_way 22 = .ok (.iconst 1, 1) := by decide +kernel
theorem dX12_way_23 : decode cX12_way 23 = .ok (.if_icmp .ne 10, 3) := by decide +kernel
theorem dX12_way_26 : decode cX12_way 26 = .ok (.aload_n 0, 1) := by decide +kernel
theorem dX12_way_27 : decode cX12_way 27 = .ok (.getfield 265, 3) := by decide +kernel
theorem dX12_way_30 : decode cX12_way 30 = .ok (.goto 4, 3) := by decide +kernel
theorem dX12_way_33 : decode cX12_way 33 = .ok (.iconst (-1), 1) := by decide +kernel
theorem dX12_way_34 : decode cX12_way 34 = .ok (.ireturn, 1) := by decide +kernel
set_option maxHeartbeats 4000000 in
set_option maxRecDepth 20000 in
theorem c_X12_way (l : Launch) (b : Nat) (D : va_G) (cy : Nat → ClassId) {tt : Nat} {M : xMm} {z y : Int} (hO : MO M) (hR : MR M) (hC : MC M) (hW : MWi M) (hz : inR z) (hy : inR y) : xC l b D cy yX12_way cX12_way 3 (some .int) ({ frames := 5, cells := 0, slots := 0, locals := 113 }) [xr 172, xi z, xi y] 209 M (RS tt) (xPi 209 (RS tt) (fun r M' => MWi M' ∧ MC M' ∧ frS M' M)) := by
  refine x_met (by decide) (Nat.le_of_ble_eq_true rfl) (fun g hg hr he => ?_)
  refine x_canon (ls' := [(0, _), (1, _), (2, _)]) rfl ?_
  refine x_aload_n hg dX12_way_0 rfl ?_
  refine x_iload_n hg dX12_way_1 rfl ?_
  refine x_cVi hg he [_] [] dX12_way_2 mv_X12_271 (c_X12_alone l b D cy hO hR hC hW (by omega)) (by decide) rfl rfl (Nat.le_of_ble_eq_true rfl) (by decide) (by decide) (fun r2 M2 q2 => ?_)
  obtain ⟨hr2, hW2, hC2, hf2⟩ := q2
  refine x_if_ge (tgt := 10) hg dX12_way_5 (by decide) (by omega) (fun c5 => ?_) (fun c5 => ?_)
  · skip
    refine x_iload_n hg dX12_way_10 rfl ?_
    refine x_if_ne (tgt := 21) hg dX12_way_11 (by decide) (by omega) (fun c11 => ?_) (fun c11 => ?_)
    · skip
      refine x_iload_n hg dX12_way_21 rfl ?_
      refine x_iconst hg dX12_way_22 ?_
      refine x_icmp_ne (tgt := 33) hg dX12_way_23 (by decide) (by omega) (by omega) (fun c23 => ?_) (fun c23 => ?_)
      · skip
        refine x_iconst hg dX12_way_33 ?_
        refine x_iret hg hr (Or.inl rfl) dX12_way_34 (Nat.le_refl _) (Nat.le_refl _) ?_
        exact ⟨rfl, rfl, _, rfl, hW2, hC2, hf2⟩
      · skip
        refine x_aload_n hg dX12_way_26 rfl ?_
        refine x_getI hg dX12_way_27 fl_X12_265 (by decide) rfl ?_
        refine x_goto (tgt := 34) hg dX12_way_30 (by decide) ?_
        refine x_iret hg hr (Or.inl rfl) dX12_way_34 (Nat.le_refl _) (Nat.le_refl _) ?_
        exact ⟨rfl, rfl, _, rfl, hW2, hC2, hf2⟩
    · skip
      refine x_aload_n hg dX12_way_14 rfl ?_
      refine x_getI hg dX12_way_15 fl_X12_262 (by decide) rfl ?_
      refine x_goto (tgt := 34) hg dX12_way_18 (by decide) ?_
      refine x_iret hg hr (Or.inl rfl) dX12_way_34 (Nat.le_refl _) (Nat.le_refl _) ?_
      exact ⟨rfl, rfl, _, rfl, hW2, hC2, hf2⟩
  · skip
    refine x_iconst hg dX12_way_8 ?_
    refine x_iret hg hr (Or.inl rfl) dX12_way_9 (Nat.le_refl _) (Nat.le_refl _) ?_
    exact ⟨rfl, rfl, _, rfl, hW2, hC2, hf2⟩
