theorem dX12_loadAll_0 : decode cX12_loadAll 0 = .ok (.aload_n 0, 1) := by decide +kernel
theorem dX12_loadAll_1 : decode cX12_loadAll 1 = .ok (.invokevirtual 294, 3) := by decide +kernel
theorem dX12_loadAll_4 : decode cX12_loadAll 4 = .ok (.aload_n 0, 1) := by decide +kernel
theorem dX12_loadAll_5 : decode cX12_loadAll 5 = .ok (.getfield 81, 3) := by decide +kernel
theorem dX12_loadAll_8 : decode cX12_loadAll 8 = .ok (.aload_n 0, 1) := by decide +kernel
theorem dX12_loadAll_9 : decode cX12_loadAll 9 = .ok (.getfield 75, 3) := by decide +kernel
theorem dX12_loadAll_12 : decode cX12_loadAll 12 = .ok (.iaload, 1) := by decide +kernel
theorem dX12_loadAll_13 : decode cX12_loadAll 13 = .ok (.istore_n 1, 1) := by decide +kernel
theorem dX12_loadAll_14 : decode cX12_loadAll 14 = .ok (.aload_n 0, 1) := by decide +kernel
theorem dX12_loadAll_15 : decode cX12_loadAll 15 = .ok (.invokevirtual 297, 3) := by decide +kernel
theorem dX12_loadAll_18 : decode cX12_loadAll 18 = .ok (.lstore_n 2, 1) := by decide +kernel
theorem dX12_loadAll_19 : decode cX12_loadAll 19 = .ok (.aload_n 0, 1) := by decide +kernel
theorem dX12_loadAll_20 : decode cX12_loadAll 20 = .ok (.lload_n 2, 1) := by decide +kernel
theorem dX12_loadAll_21 : decode cX12_loadAll 21 = .ok (.ldc2_w 282, 3) := by decide +kernel
theorem dX12_loadAll_24 : decode cX12_loadAll 24 = .ok (.ldiv, 1) := by decide +kernel
theorem dX12_loadAll_25 : decode cX12_loadAll 25 = .ok (.l2i, 1) := by decide +kernel
theorem dX12_loadAll_26 : decode cX12_loadAll 26 = .ok (.putfield 301, 3) := by decide +kernel
theorem dX12_loadAll_29 : decode cX12_loadAll 29 = .ok (.aload_n 0, 1) := by decide +kernel
theorem dX12_loadAll_30 : decode cX12_loadAll 30 = .ok (.lload_n 2, 1) := by decide +kernel
theorem dX12_loadAll_31 : decode cX12_loadAll 31 = .ok (.ldc2_w 282, 3) := by decide +kernel
theorem dX12_loadAll_34 : decode cX12_loadAll 34 = .ok (.lrem, 1) := by decide +kernel
theorem dX12_loadAll_35 : decode cX12_loadAll 35 = .ok (.l2i, 1) := by decide +kernel
theorem dX12_loadAll_36 : decode cX12_loadAll 36 = .ok (.putfield 304, 3) := by decide +kernel
theorem dX12_loadAll_39 : decode cX12_loadAll 39 = .ok (.iconst 0, 1) := by decide +kernel
theorem dX12_loadAll_40 : decode cX12_loadAll 40 = .ok (.istore 4, 2) := by decide +kernel
theorem dX12_loadAll_42 : decode cX12_loadAll 42 = .ok (.iload 4, 2) := by decide +kernel
theorem dX12_loadAll_44 : decode cX12_loadAll 44 = .ok (.aload_n 0, 1) := by decide +kernel
theorem dX12_loadAll_45 : decode cX12_loadAll 45 = .ok (.getfield 234, 3) := by decide +kernel
theorem dX12_loadAll_48 : decode cX12_loadAll 48 = .ok (.if_icmp .ge 77, 3) := by decide +kernel
theorem dX12_loadAll_51 : decode cX12_loadAll 51 = .ok (.iconst 0, 1) := by decide +kernel
theorem dX12_loadAll_52 : decode cX12_loadAll 52 = .ok (.istore 5, 2) := by decide +kernel
theorem dX12_loadAll_54 : decode cX12_loadAll 54 = .ok (.aload_n 0, 1) := by decide +kernel
theorem dX12_loadAll_55 : decode cX12_loadAll 55 = .ok (.iload 4, 2) := by decide +kernel
theorem dX12_loadAll_57 : decode cX12_loadAll 57 = .ok (.iload 5, 2) := by decide +kernel
theorem dX12_loadAll_59 : decode cX12_loadAll 59 = .ok (.lload_n 2, 1) := by decide +kernel
theorem dX12_loadAll_60 : decode cX12_loadAll 60 = .ok (.invokevirtual 307, 3) := by decide +kernel
theorem dX12_loadAll_63 : decode cX12_loadAll 63 = .ok (.ifCond .ne 9, 3) := by decide +kernel
theorem dX12_loadAll_66 : decode cX12_loadAll 66 = .ok (.iinc 5 1, 3) := by decide +kernel
theorem dX12_loadAll_69 : decode cX12_loadAll 69 = .ok (.goto (-15), 3) := by decide +kernel
theorem dX12_loadAll_72 : decode cX12_loadAll 72 = .ok (.iconst 0, 1) := by decide +kernel
theorem dX12_loadAll_73 : decode cX12_loadAll 73 = .ok (.istore 6, 2) := by decide +kernel
theorem dX12_loadAll_75 : decode cX12_loadAll 75 = .ok (.iload 6, 2) := by decide +kernel
theorem dX12_loadAll_77 : decode cX12_loadAll 77 = .ok (.iload_n 1, 1) := by decide +kernel
theorem dX12_loadAll_78 : decode cX12_loadAll 78 = .ok (.if_icmp .gt 32, 3) := by decide +kernel
theorem dX12_loadAll_81 : decode cX12_loadAll 81 = .ok (.iload 6, 2) := by decide +kernel
theorem dX12_loadAll_83 : decode cX12_loadAll 83 = .ok (.iload 5, 2) := by decide +kernel
theorem dX12_loadAll_85 : decode cX12_loadAll 85 = .ok (.if_icmp .eq 19, 3) := by decide +kernel
theorem dX12_loadAll_88 : decode cX12_loadAll 88 = .ok (.aload_n 0, 1) := by decide +kernel
theorem dX12_loadAll_89 : decode cX12_loadAll 89 = .ok (.getfield 182, 3) := by decide +kernel
theorem dX12_loadAll_92 : decode cX12_loadAll 92 = .ok (.bipush 9, 2) := by decide +kernel
theorem dX12_loadAll_94 : decode cX12_loadAll 94 = .ok (.iload 4, 2) := by decide +kernel
theorem dX12_loadAll_96 : decode cX12_loadAll 96 = .ok (.imul, 1) := by decide +kernel
theorem dX12_loadAll_97 : decode cX12_loadAll 97 = .ok (.iload 6, 2) := by decide +kernel
theorem dX12_loadAll_99 : decode cX12_loadAll 99 = .ok (.iadd, 1) := by decide +kernel
theorem dX12_loadAll_100 : decode cX12_loadAll 100 = .ok (.ldc2_w 280, 3) := by decide +kernel
theorem dX12_loadAll_103 : decode cX12_loadAll 103 = .ok (.lastore, 1) := by decide +kernel
theorem dX12_loadAll_104 : decode cX12_loadAll 104 = .ok (.iinc 6 1, 3) := by decide +kernel
theorem dX12_loadAll_107 : decode cX12_loadAll 107 = .ok (.goto (-32), 3) := by decide +kernel
theorem dX12_loadAll_110 : decode cX12_loadAll 110 = .ok (.aload_n 0, 1) := by decide +kernel
theorem dX12_loadAll_111 : decode cX12_loadAll 111 = .ok (.getfield 179, 3) := by decide +kernel
theorem dX12_loadAll_114 : decode cX12_loadAll 114 = .ok (.iload 4, 2) := by decide +kernel
theorem dX12_loadAll_116 : decode cX12_loadAll 116 = .ok (.iload 5, 2) := by decide +kernel
theorem dX12_loadAll_118 : decode cX12_loadAll 118 = .ok (.iastore, 1) := by decide +kernel
theorem dX12_loadAll_119 : decode cX12_loadAll 119 = .ok (.iinc 4 1, 3) := by decide +kernel
theorem dX12_loadAll_122 : decode cX12_loadAll 122 = .ok (.goto (-80), 3) := by decide +kernel
theorem dX12_loadAll_125 : decode cX12_loadAll 125 = .ok (.return_, 1) := by decide +kernel
set_option maxHeartbeats 4000000 in
set_option maxRecDepth 20000 in
theorem c_X12_loadAll (l : Launch) (b : Nat) (D : va_G) (cy : Nat → ClassId) {tt : Nat} {M : xMm} {n : Nat} (eN : n = mN M) (hO : MO M) (hR : MR M) (hC : MC M) (hK : MK M) : xC l b D cy yX12_loadAll cX12_loadAll 7 none ({ frames := 4, cells := 0, slots := 0, locals := 105 }) [xr 172] 209 M (RS tt) (xPv 209 (RS tt) (fun M' => MC M' ∧ MK M' ∧ frA M' M ∧ ∀ d : Nat, (d : Int) < M 172 30 → 0 ≤ M' 194 d ∧ M' 194 d < (n : Int))) := by
  refine x_met (by decide) (Nat.le_of_ble_eq_true rfl) (fun g hg hr he => ?_)
  have em : M 180 (M 172 18).toNat = mMa M := rfl
  obtain ⟨hb, hm⟩ := MR_many hR
  have hN := hO.1
  refine x_canon (ls' := [(0, _)]) rfl ?_
  have en : (n : Int) = mMa M + 1 := by rw [eN]; unfold mN; omega
  have hn9 : n ≤ 9 := by omega
  have loop42 : ∀ s : Int, (0 ≤ s ∧ s ≤ 100000000000) → ∀ (n1 : Nat) (M2 : xMm) (c : Int), LB n (mRo M) (M 172 30).toNat s M2 M c → 0 ≤ c → c ≤ M 172 30 → M 172 30 - c < n1 → xW g 209 M2 (RS tt) 0 0 42 [(0, xr 172), (1, xi (mMa M)), (2, xl s), (4, xi c)] [] := by
    intro s hs n1
    induction n1 with
    | zero => intro M2 c hB hc0 hc1 hc2; exfalso; omega
    | succ n1 ihn1 =>
      intro M2 c hB hc0 hc1 hc2
      obtain ⟨f2, C2, K2, Z2, H2⟩ := hB
      have e30 : M2 172 30 = M 172 30 := f2.2 30 (by decide) (by decide)
      have hR2 := fa_R f2 hR
      have loop75 : ∀ t : Int, c < M 172 30 → (0 ≤ t ∧ t < (n : Int)) → zLS n (zCut (M2 195) n c.toNat t.toNat) (mRo M) (M 172 30).toNat s → ∀ (n2 : Nat) (M4 : xMm) (k : Int), frZ M4 M2 → M4 194 = M2 194 → M4 195 = zCut (M2 195) k.toNat c.toNat t.toNat → 0 ≤ k → k ≤ (n : Int) → (n : Int) - k < n2 → xW g 209 M4 (RS tt) 0 0 75 [(0, xr 172), (1, xi (mMa M)), (2, xl s), (4, xi c), (5, xi t), (6, xi k)] [] := by
        intro t hcl ht hz n2
        induction n2 with
        | zero => intro M4 k f4 e194 e195 hk0 hk1 hk2; exfalso; omega
        | succ n2 ihn2 =>
          intro M4 k f4 e194 e195 hk0 hk1 hk2
          have ix : (9 * c + k).toNat = 9 * c.toNat + k.toNat := by omega
          have ik : (k + 1).toNat = k.toNat + 1 := by omega
          refine x_iload hg dX12_loadAll_75 rfl ?_
          refine x_iload_n hg dX12_loadAll_77 rfl ?_
          refine x_icmp_gt (tgt := 110) hg dX12_loadAll_78 (by decide) (by omega) (by omega) (fun c78 => ?_) (fun c78 => ?_)
          · skip
            refine x_aload_n hg dX12_loadAll_110 rfl ?_
            refine x_getR (j9 := 194) hg dX12_loadAll_111 fl_X12_179 (by decide) rfl rfl (by decide) ?_
            refine x_iload hg dX12_loadAll_114 rfl ?_
            refine x_iload hg dX12_loadAll_116 rfl ?_
            refine x_iastore (len := 10) hg dX12_loadAll_118 (by decide) (by omega)  ?_
            refine x_iinc (ls' := [(0, _), (1, _), (2, _), (4, _), (5, _), (6, _)]) hg dX12_loadAll_119 rfl (by decide) rfl ?_
            refine x_goto (tgt := 42) hg dX12_loadAll_122 (by decide) ?_
            refine x_canon (ls' := [(0, _), (1, _), (2, _), (4, _)]) rfl ?_
            have e5 : mu M4 194 c.toNat t 195 = zCut (M2 195) n c.toNat t.toNat := by
              rw [show n = k.toNat by omega, ← e195]; funext x; exact mu_nc (by decide)
            refine ihn1 _ _ ⟨frA_B (frZ_mu f4 (by decide)) f2, fb_C (frZ_mu f4 (by decide)) C2, MK_cut K2 e5, by rw [e5]; exact hz, fun d hd => ?_⟩ (by omega) (by omega) (by omega)
            by_cases ed : d = c.toNat
            · subst ed; rw [mu_s]; exact ht
            · rw [mu_nf ed, e194]; exact H2 d (by omega)
          · skip
            refine x_iload hg dX12_loadAll_81 rfl ?_
            refine x_iload hg dX12_loadAll_83 rfl ?_
            refine x_icmp_eq (tgt := 104) hg dX12_loadAll_85 (by decide) (by omega) (by omega) (fun c85 => ?_) (fun c85 => ?_)
            · skip
              refine x_iinc (ls' := [(0, _), (1, _), (2, _), (4, _), (5, _), (6, _)]) hg dX12_loadAll_104 rfl (by decide) rfl ?_
              refine x_goto (tgt := 75) hg dX12_loadAll_107 (by decide) ?_
              refine x_canon (ls' := [(0, _), (1, _), (2, _), (4, _), (5, _), (6, _)]) rfl ?_
              first
                | exact ihn2 M4 _ f4 e194 (by rw [ik]; exact zCut_nx e195 (by omega)) (by omega) (by omega) (by omega)
                | exact ihn2 _ _ (frZ_mu f4 (by decide)) (by rw [← e194]; funext x; exact mu_nc (by decide)) (by rw [ik, ix]; exact zCut_mu e195 (by omega)) (by omega) (by omega) (by omega)
            · skip
              refine x_aload_n hg dX12_loadAll_88 rfl ?_
              refine x_getR (j9 := 195) hg dX12_loadAll_89 fl_X12_182 (by decide) rfl rfl (by decide) ?_
              refine x_bipush hg dX12_loadAll_92 (by decide) ?_
              refine x_iload hg dX12_loadAll_94 rfl ?_
              refine x_imul hg dX12_loadAll_96 ?_
              refine x_iload hg dX12_loadAll_97 rfl ?_
              refine x_iadd hg dX12_loadAll_99 ?_
              refine x_ldc2 hg 1000000000000000 dX12_loadAll_100 (List.mem_of_getElem? (i := 1175) (by decide +kernel)) ?_
              refine x_lastore (len := 90) hg dX12_loadAll_103 (by decide) (by omega)  ?_
              refine x_iinc (ls' := [(0, _), (1, _), (2, _), (4, _), (5, _), (6, _)]) hg dX12_loadAll_104 rfl (by decide) rfl ?_
              refine x_goto (tgt := 75) hg dX12_loadAll_107 (by decide) ?_
              refine x_canon (ls' := [(0, _), (1, _), (2, _), (4, _), (5, _), (6, _)]) rfl ?_
              first
                | exact ihn2 M4 _ f4 e194 (by rw [ik]; exact zCut_nx e195 (by omega)) (by omega) (by omega) (by omega)
                | exact ihn2 _ _ (frZ_mu f4 (by decide)) (by rw [← e194]; funext x; exact mu_nc (by decide)) (by rw [ik, ix]; exact zCut_mu e195 (by omega)) (by omega) (by omega) (by omega)
      have loop54 : ∀ t0 : Nat, c < M 172 30 → t0 < n → M2 195 (9 * c.toNat + t0) < 1000000000000000 → (∀ s', zLS n (zCut (M2 195) n c.toNat t0) (mRo M) (M 172 30).toNat s' → s' = s) → ∀ (n2 : Nat) (M3 : xMm) (t : Int), frZ M3 M2 → M3 194 = M2 194 → M3 195 = M2 195 → 0 ≤ t → t ≤ (t0 : Int) → (t0 : Int) - t < n2 → xW g 209 M3 (RS tt) 0 0 54 [(0, xr 172), (1, xi (mMa M)), (2, xl s), (4, xi c), (5, xi t)] [] := by
        intro t0 hcl ht0 hct0 hu n2
        induction n2 with
        | zero => intro M3 t f3 e194 e195 hk0 hk1 hk2; exfalso; omega
        | succ n2 ihn2 =>
          intro M3 t f3 e194 e195 hk0 hk1 hk2
          have e30b : M3 172 30 = M 172 30 := by rw [f3 172 (by decide)]; exact e30
          have ict : (9 * c + t).toNat = 9 * c.toNat + t.toNat := by omega
          refine x_aload_n hg dX12_loadAll_54 rfl ?_
          refine x_iload hg dX12_loadAll_55 rfl ?_
          refine x_iload hg dX12_loadAll_57 rfl ?_
          refine x_lload_n hg dX12_loadAll_59 rfl ?_
          refine x_cVi hg he [_, _, _] [] dX12_loadAll_60 mv_X12_307 (c_X12_canBe l b D cy (n := n) (fb_R f3 hR2) (by omega) (by rw [fb_N f3, fa_N f2]; exact eN) (fun i hi => by rw [e195]; exact K2 i hi) (by omega) (by omega) (by omega)) (by decide) rfl rfl (Nat.le_of_ble_eq_true rfl) (by decide) (by decide) (fun r60 M60 q60 => ?_)
          obtain ⟨hf60, h460, h560, hr60⟩ := q60
          rw [fb_ro f3, fa_ro f2, e195, e30b, ict] at hr60
          have hr01 : r60 = 0 ∨ r60 = 1 := by rcases hr60 with ⟨h, -⟩ | ⟨h, -⟩ <;> omega
          have g3 := frZ_tr hf60 f3
          refine x_if_ne (tgt := 72) hg dX12_loadAll_63 (by decide) (by omega) (fun c63 => ?_) (fun c63 => ?_)
          · skip
            refine x_iconst hg dX12_loadAll_72 ?_
            refine x_istore (ls' := [(0, _), (1, _), (2, _), (4, _), (5, _), (6, _)]) hg dX12_loadAll_73 (by decide) rfl ?_
            have hz : zLS n (zCut (M2 195) n c.toNat t.toNat) (mRo M) (M 172 30).toNat s := by
              rcases hr60 with ⟨-, -, h⟩ | ⟨h, -⟩
              · exact h
              · omega
            exact loop75 t hcl (by omega) hz (n + 1) M60 0 g3 (h460.trans e194) (by rw [h560, e195]; exact (zCut_0 _ _ _).symm) (by omega) (by omega) (by omega)
          · skip
            refine x_iinc (ls' := [(0, _), (1, _), (2, _), (4, _), (5, _)]) hg dX12_loadAll_66 rfl (by decide) rfl ?_
            refine x_goto (tgt := 54) hg dX12_loadAll_69 (by decide) ?_
            have htt : t ≠ (t0 : Int) := by
              intro e
              have et : t.toNat = t0 := by rw [e]; exact Int.toNat_natCast t0
              rw [et] at hr60
              rcases hr60 with ⟨h, -⟩ | ⟨-, h⟩
              · omega
              · obtain ⟨r', hz, hne⟩ := h hct0
                exact hne (hu r' hz)
            exact ihn2 M60 _ g3 (h460.trans e194) (h560.trans e195) (by omega) (by omega) (by omega)
      refine x_iload hg dX12_loadAll_42 rfl ?_
      refine x_aload_n hg dX12_loadAll_44 rfl ?_
      refine x_getI hg dX12_loadAll_45 fl_X12_234 (by decide) rfl ?_
      refine x_icmp_ge (tgt := 125) hg dX12_loadAll_48 (by decide) (by omega) (by omega) (fun c48 => ?_) (fun c48 => ?_)
      · skip
        refine x_vret hg hr dX12_loadAll_125 (Nat.le_refl _) (Nat.le_refl _) ?_
        exact ⟨rfl, rfl, rfl, C2, K2, f2, fun d hd => H2 d (by omega)⟩
      · skip
        refine x_iconst hg dX12_loadAll_51 ?_
        refine x_istore (ls' := [(0, _), (1, _), (2, _), (4, _), (5, _)]) hg dX12_loadAll_52 (by decide) rfl ?_
        obtain ⟨t0, ht0, hct0, hu⟩ := zCut_ex hn9 Z2 (by omega) (c := c.toNat) (by omega)
        exact loop54 t0 (by omega) ht0 hct0 hu (t0 + 1) M2 0 (frZ_rf M2) rfl rfl (by omega) (by omega) (by omega)
  refine x_aload_n hg dX12_loadAll_0 rfl ?_
  refine x_cVv hg he [] [] dX12_loadAll_1 mv_X12_294 (c_X12_price l b D cy hO hR hC hK) (by decide) rfl rfl (Nat.le_of_ble_eq_true rfl) (by decide) (by decide) (fun M1 q1 => ?_)
  obtain ⟨hP1, hq1⟩ := q1
  have e30 : M1 172 30 = M 172 30 := by rw [hP1.1 172 (by decide) (by decide) (by decide)]
  have hb1 := (fp_R hP1.1 hR).1
  refine x_aload_n hg dX12_loadAll_4 rfl ?_
  refine x_getR (j9 := 180) hg dX12_loadAll_5 fl_X12_81 (by decide) rfl rfl (by decide) ?_
  refine x_aload_n hg dX12_loadAll_8 rfl ?_
  refine x_getI hg dX12_loadAll_9 fl_X12_75 (by decide) rfl ?_
  try simp (disch := omega) only [mu_s, mu_nf, mu_nc]
  refine x_iaload (len := 2) hg dX12_loadAll_12 (by decide) (by omega) ?_
  try simp (disch := omega) only [mu_s, mu_nf, mu_nc]
  rw [fp_ma hP1.1]
  refine x_istore_n (ls' := [(0, _), (1, _)]) hg dX12_loadAll_13 rfl (by decide) rfl ?_
  refine x_aload_n hg dX12_loadAll_14 rfl ?_
  refine x_cVl hg he [] [] dX12_loadAll_15 mv_X12_297 (c_X12_least l b D cy (n := n) (C := M1 195) (ro := mRo M) (fp_R hP1.1 hR) (by omega) (by rw [fp_N hP1.1]; exact eN) rfl (fp_ro hP1.1) (MK_Ck hP1.2.2.2 hn9)) (by decide) rfl rfl (Nat.le_of_ble_eq_true rfl) (by decide) (by decide) (fun r15 M15 q15 => ?_)
  obtain ⟨hf15, hr15⟩ := q15
  rw [e30] at hr15
  have hro : ∀ t : Nat, t < n → 0 ≤ mRo M t := fun t ht => (mRo_r hR (by omega)).1
  have hsr := zLS_lt hr15 (zFA_left (by omega) (fun d hd => by have := hq1 d (by omega); rw [show n - 1 = (mMa M).toNat by omega]; omega) hro (by unfold mRo; rw [if_pos (by omega)]; omega))
  refine x_lstore_n (ls' := [(0, _), (1, _), (2, _)]) hg dX12_loadAll_18 rfl (by decide) rfl ?_
  refine x_aload_n hg dX12_loadAll_19 rfl ?_
  refine x_lload_n hg dX12_loadAll_20 rfl ?_
  refine x_ldc2 hg 10000000 dX12_loadAll_21 (List.mem_of_getElem? (i := 1176) (by decide +kernel)) ?_
  refine x_ldiv hg dX12_loadAll_24 (by omega) (by omega) ?_
  refine x_l2i hg dX12_loadAll_25 (by omega) ?_
  refine x_putI hg dX12_loadAll_26 fl_X12_301 ft_12_38 (by decide) rfl ?_
  refine x_aload_n hg dX12_loadAll_29 rfl ?_
  refine x_lload_n hg dX12_loadAll_30 rfl ?_
  refine x_ldc2 hg 10000000 dX12_loadAll_31 (List.mem_of_getElem? (i := 1176) (by decide +kernel)) ?_
  refine x_lrem hg dX12_loadAll_34 (by omega) (by omega) ?_
  refine x_l2i hg dX12_loadAll_35 (by omega) ?_
  refine x_putI hg dX12_loadAll_36 fl_X12_304 ft_12_39 (by decide) rfl ?_
  refine x_iconst hg dX12_loadAll_39 ?_
  refine x_istore (ls' := [(0, _), (1, _), (2, _), (4, _)]) hg dX12_loadAll_40 (by decide) rfl ?_
  have e195 : ∀ x y : Int, mu (mu M15 172 38 x) 172 39 y 195 = M1 195 := fun x y => by
    rw [← hf15 195 (by decide) (by decide) (by decide) (by decide) (by decide)]; funext j; rw [mu_nc (by decide), mu_nc (by decide)]
  exact loop42 r15 hsr ((M 172 30).toNat + 1) _ 0 ⟨frA_f (frA_f (frA_B (frZ_M hf15) (frA_P hP1.1)) (Or.inl rfl)) (Or.inr rfl), MC_fr (fun a _ _ => by funext j; rw [mu_nc (by omega), mu_nc (by omega)]) (fb_C (frZ_M hf15) hP1.2.1), fun i hi => by rw [e195]; exact hP1.2.2.2 i hi, by rw [e195]; exact hr15, fun d hd => absurd hd (by omega)⟩ (by omega) (by omega) (by omega)

theorem dX12_lost_0 : decode cX12_lost 0 = .ok (.aload_n 0, 1) := by decide +kernel
theorem dX12_lost_1 : decode cX12_lost 1 = .ok (.invokevirtual 311, 3) := by decide +kernel
theorem dX12_lost_4 : decode cX12_lost 4 = .ok (.aload_n 0, 1) := by decide +kernel
theorem dX12_lost_5 : decode cX12_lost 5 = .ok (.getfield 301, 3) := by decide +kernel
theorem dX12_lost_8 : decode cX12_lost 8 = .ok (.ireturn, 1) := by decide +kernel
set_option maxHeartbeats 4000000 in
set_option maxRecDepth 20000 in
theorem c_X12_lost (l : Launch) (b : Nat) (D : va_G) (cy : Nat → ClassId) {tt : Nat} {M : xMm}  (hO : MO M) (hR : MR M) (hC : MC M) (hK : MK M) : xC l b D cy yX12_lost cX12_lost 1 (some .int) ({ frames := 5, cells := 0, slots := 0, locals := 131 }) [xr 172] 209 M (RS tt) (xPi 209 (RS tt) (fun r M' => MC M' ∧ MK M' ∧ frA M' M)) := by
  refine x_met (by decide) (Nat.le_of_ble_eq_true rfl) (fun g hg hr he => ?_)
  refine x_canon (ls' := [(0, _)]) rfl ?_
  refine x_aload_n hg dX12_lost_0 rfl ?_
  refine x_cVv hg he [] [] dX12_lost_1 mv_X12_311 (c_X12_loadAll l b D cy (n := mN M) rfl hO hR hC hK) (by decide) rfl rfl (Nat.le_of_ble_eq_true rfl) (by decide) (by decide) (fun M1 q1 => ?_)
  obtain ⟨hC1, hK1, hf1, hb1⟩ := q1
  refine x_aload_n hg dX12_lost_4 rfl ?_
  refine x_getI hg dX12_lost_5 fl_X12_301 (by decide) rfl ?_
  try simp (disch := omega) only [mu_s, mu_nf, mu_nc]
  refine x_iret hg hr (Or.inl rfl) dX12_lost_8 (Nat.le_refl _) (Nat.le_refl _) ?_
  exact ⟨rfl, rfl, _, rfl, hC1, hK1, hf1⟩

theorem dX12_souring_0 : decode cX12_souring 0 = .ok (.aload_n 0, 1) := by decide +kernel
theorem dX12_souring_1 : decode cX12_souring 1 = .ok (.invokevirtual 311, 3) := by decide +kernel
theorem dX12_souring_4 : decode cX12_souring 4 = .ok (.aload_n 0, 1) := by decide +kernel
theorem dX12_souring_5 : decode cX12_souring 5 = .ok (.getfield 304, 3) := by decide +kernel
theorem dX12_souring_8 : decode cX12_souring 8 = .ok (.ireturn, 1) := by decide +kernel
set_option maxHeartbeats 4000000 in
set_option maxRecDepth 20000 in
theorem c_X12_souring (l : Launch) (b : Nat) (D : va_G) (cy : Nat → ClassId) {tt : Nat} {M : xMm}  (hO : MO M) (hR : MR M) (hC : MC M) (hK : MK M) : xC l b D cy yX12_souring cX12_souring 1 (some .int) ({ frames := 5, cells := 0, slots := 0, locals := 131 }) [xr 172] 209 M (RS tt) (xPi 209 (RS tt) (fun r M' => MC M' ∧ MK M' ∧ frA M' M)) := by
  refine x_met (by decide) (Nat.le_of_ble_eq_true rfl) (fun g hg hr he => ?_)
  refine x_canon (ls' := [(0, _)]) rfl ?_
  refine x_aload_n hg dX12_souring_0 rfl ?_
  refine x_cVv hg he [] [] dX12_souring_1 mv_X12_311 (c_X12_loadAll l b D cy (n := mN M) rfl hO hR hC hK) (by decide) rfl rfl (Nat.le_of_ble_eq_true rfl) (by decide) (by decide) (fun M1 q1 => ?_)
  obtain ⟨hC1, hK1, hf1, hb1⟩ := q1
  refine x_aload_n hg dX12_souring_4 rfl ?_
  refine x_getI hg dX12_souring_5 fl_X12_304 (by decide) rfl ?_
  try simp (disch := omega) only [mu_s, mu_nf, mu_nc]
  refine x_iret hg hr (Or.inl rfl) dX12_souring_8 (Nat.le_refl _) (Nat.le_refl _) ?_
  exact ⟨rfl, rfl, _, rfl, hC1, hK1, hf1⟩

theorem dX12_load_0 : decode cX12_load 0 = .ok (.aload_n 0, 1) := by decide +kernel
theorem dX12_load_1 : decode cX12_load 1 = .ok (.iload_n 1, 1) := by decide +kernel
theorem dX12_load_2 : decode cX12_load 2 = .ok (.invokevirtual 237, 3) := by decide +kernel
theorem dX12_load_5 : decode cX12_load 5 = .ok (.ifCond .ne 5, 3) := by decide +kernel
theorem dX12_load_8 : decode cX12_load 8 = .ok (.iconst (-1), 1) := by decide +kernel
theorem dX12_load_9 : decode cX12_load 9 = .ok (.ireturn, 1) := by decide +kernel
theorem dX12_load_10 : decode cX12_load 10 = .ok (.aload_n 0, 1) := by decide +kernel
theorem dX12_load_11 : decode cX12_load 11 = .ok (.invokevirtual 311, 3) := by decide +kernel
theorem dX12_load_14 : decode cX12_load 14 = .ok (.aload_n 0, 1) := by decide +kernel
theorem dX12_load_15 : decode cX12_load 15 = .ok (.getfield 179, 3) := by decide +kernel
theorem dX12_load_18 : decode cX12_load 18 = .ok (.iload_n 1, 1) := by decide +kernel
theorem dX12_load_19 : decode cX12_load 19 = .ok (.iaload, 1) := by decide +kernel
theorem dX12_load_20 : decode cX12_load 20 = .ok (.aload_n 0, 1) := by decide +kernel
theorem dX12_load_21 : decode cX12_load 21 = .ok (.getfield 81, 3) := by decide +kernel
theorem dX12_load_24 : decode cX12_load 24 = .ok (.aload_n 0, 1) := by decide +kernel
theorem dX12_load_25 : decode cX12_load 25 = .ok (.getfield 75, 3) := by decide +kernel
theorem dX12_load_28 : decode cX12_load 28 = .ok (.iaload, 1) := by decide +kernel
theorem dX12_load_29 : decode cX12_load 29 = .ok (.if_icmp .ne 7, 3) := by decide +kernel
theorem dX12_load_32 : decode cX12_load 32 = .ok (.iconst (-1), 1) := by decide +kernel
theorem dX12_load_33 : decode cX12_load 33 = .ok (.goto 9, 3) := by decide +kernel
theorem dX12_load_36 : decode cX12_load 36 = .ok (.aload_n 0, 1) := by decide +kernel
theorem dX12_load_37 : decode cX12_load 37 = .ok (.getfield 179, 3) := by decide +kernel
theorem dX12_load_40 : decode cX12_load 40 = .ok (.iload_n 1, 1) := by decide +kernel
theorem dX12_load_41 : decode cX12_load 41 = .ok (.iaload, 1) := by decide +kernel
theorem dX12_load_42 : decode cX12_load 42 = .ok (.ireturn, 1) := by decide +kernel
set_option maxHeartbeats 4000000 in
set_option maxRecDepth 20000 in
theorem c_X12_load (l : Launch) (b : Nat) (D : va_G) (cy : Nat → ClassId) {tt : Nat} {M : xMm} {z : Int} (hO : MO M) (hR : MR M) (hC : MC M) (hK : MK M) (hz : inR z) : xC l b D cy yX12_load cX12_load 2 (some .int) ({ frames := 5, cells := 0, slots := 0, locals := 131 }) [xr 172, xi z] 209 M (RS tt) (xPi 209 (RS tt) (fun r M' => MC M' ∧ MK M' ∧ frA M' M)) := by
  refine x_met (by decide) (Nat.le_of_ble_eq_true rfl) (fun g hg hr he => ?_)
  have em : M 180 (M 172 18).toNat = mMa M := rfl
  obtain ⟨hb, hm⟩ := MR_many hR
  have hN := hO.1
  refine x_canon (ls' := [(0, _), (1, _)]) rfl ?_
  refine x_aload_n hg dX12_load_0 rfl ?_
  refine x_iload_n hg dX12_load_1 rfl ?_
  refine x_cVi hg he [_] [] dX12_load_2 mv_X12_237 (c_X12_isChurn l b D cy (by omega) (by omega)) (by decide) rfl rfl (Nat.le_of_ble_eq_true rfl) (by decide) (by decide) (fun r2 M2 q2 => ?_)
  obtain ⟨h2, e2⟩ := q2
  replace h2 := h2.symm
  subst h2
  refine x_if_ne (tgt := 10) hg dX12_load_5 (by decide) (by omega) (fun c5 => ?_) (fun c5 => ?_)
  · skip
    refine x_aload_n hg dX12_load_10 rfl ?_
    refine x_cVv hg he [] [] dX12_load_11 mv_X12_311 (c_X12_loadAll l b D cy (n := mN M) rfl hO hR hC hK) (by decide) rfl rfl (Nat.le_of_ble_eq_true rfl) (by decide) (by decide) (fun M11 q11 => ?_)
    obtain ⟨hC11, hK11, hf11, hb11⟩ := q11
    have hma := fa_ma hf11
    have hbk := (fa_R hf11 hR).1
    have hbz := hb11 z.toNat (by omega)
    have hn9 : (mN M : Int) ≤ 9 := by unfold mN; omega
    refine x_aload_n hg dX12_load_14 rfl ?_
    refine x_getR (j9 := 194) hg dX12_load_15 fl_X12_179 (by decide) rfl rfl (by decide) ?_
    refine x_iload_n hg dX12_load_18 rfl ?_
    refine x_iaload (len := 10) hg dX12_load_19 (by decide) (by omega) ?_
    try simp (disch := omega) only [mu_s, mu_nf, mu_nc]
    refine x_aload_n hg dX12_load_20 rfl ?_
    refine x_getR (j9 := 180) hg dX12_load_21 fl_X12_81 (by decide) rfl rfl (by decide) ?_
    refine x_aload_n hg dX12_load_24 rfl ?_
    refine x_getI hg dX12_load_25 fl_X12_75 (by decide) rfl ?_
    try simp (disch := omega) only [mu_s, mu_nf, mu_nc]
    refine x_iaload (len := 2) hg dX12_load_28 (by decide) (by omega) ?_
    try simp (disch := omega) only [mu_s, mu_nf, mu_nc]
    refine x_icmp_ne (tgt := 36) hg dX12_load_29 (by decide) (by omega) (by omega) (fun c29 => ?_) (fun c29 => ?_)
    · skip
      refine x_aload_n hg dX12_load_36 rfl ?_
      refine x_getR (j9 := 194) hg dX12_load_37 fl_X12_179 (by decide) rfl rfl (by decide) ?_
      refine x_iload_n hg dX12_load_40 rfl ?_
      refine x_iaload (len := 10) hg dX12_load_41 (by decide) (by omega) ?_
      try simp (disch := omega) only [mu_s, mu_nf, mu_nc]
      refine x_iret hg hr (Or.inl rfl) dX12_load_42 (Nat.le_refl _) (Nat.le_refl _) ?_
      exact ⟨rfl, rfl, _, rfl, hC11, hK11, hf11⟩
    · skip
      refine x_iconst hg dX12_load_32 ?_
      refine x_goto (tgt := 42) hg dX12_load_33 (by decide) ?_
      refine x_iret hg hr (Or.inl rfl) dX12_load_42 (Nat.le_refl _) (Nat.le_refl _) ?_
      exact ⟨rfl, rfl, _, rfl, hC11, hK11, hf11⟩
  · skip
    refine x_iconst hg dX12_load_8 ?_
    refine x_iret hg hr (Or.inl rfl) dX12_load_9 (Nat.le_refl _) (Nat.le_refl _) ?_
    exact ⟨rfl, rfl, _, rfl, hC, hK, frA_rf M⟩
