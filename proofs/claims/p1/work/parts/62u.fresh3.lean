/-! ===== the loading on the fresh object ===== -/
set_option maxHeartbeats 4000000 in
set_option maxRecDepth 20000 in
theorem n_X4_sumUp (l : Launch) (b : Nat) (D : va_G) (cy : Nat → ClassId) {tt : Nat} {M0 : xMm} {q : Nat} (h6 : M0 68 6 = 0) : xC l b D cy yX4_sumUp cX4_sumUp 4 none ({ frames := 3, cells := 0, slots := 0, locals := 73 }) [xr 68, xr 84, xr q] 209 M0 (RS tt) (xPv 209 (RS tt) (fun M' => (M' 68 7 = 0 ∧ M' 68 8 = 0) ∧ frL M' M0)) := by
  refine x_met (by decide) (Nat.le_of_ble_eq_true rfl) (fun g hg hr he => ?_)
  refine x_canon (ls' := [(0, _), (1, _), (2, _)]) rfl ?_
  refine x_aload_n hg dX4_sumUp_0 rfl ?_
  refine x_iconst hg dX4_sumUp_1 ?_
  refine x_putI hg dX4_sumUp_2 fl_X4_106 ft_4_7 (by decide) rfl ?_
  refine x_aload_n hg dX4_sumUp_5 rfl ?_
  refine x_iconst hg dX4_sumUp_6 ?_
  refine x_putI hg dX4_sumUp_7 fl_X4_109 ft_4_8 (by decide) rfl ?_
  refine x_iconst hg dX4_sumUp_10 ?_
  refine x_istore_n (ls' := [(0, _), (1, _), (2, _), (3, _)]) hg dX4_sumUp_11 rfl (by decide) rfl ?_
  refine x_iload_n hg dX4_sumUp_12 rfl ?_
  refine x_aload_n hg dX4_sumUp_13 rfl ?_
  refine x_getI hg dX4_sumUp_14 fl_X4_34 (by decide) rfl ?_
  try simp (disch := omega) only [mu_s, mu_nf, mu_nc]
  refine x_icmp_ge (tgt := 87) hg dX4_sumUp_17 (by decide) (by omega) (by omega) (fun c17 => ?_) (fun c17 => ?_)
  · skip
    refine x_vret hg hr dX4_sumUp_87 (Nat.le_refl _) (Nat.le_refl _) ?_
    refine ⟨rfl, rfl, rfl, ⟨?_, ?_⟩, frL_mu (frL_mu (fun a _ => rfl) (by decide)) (by decide)⟩
    · simp (disch := omega) only [mu_s, mu_nf, mu_nc]
    · rw [mu_s]
  · skip
    exfalso; omega
set_option maxHeartbeats 4000000 in
set_option maxRecDepth 20000 in
theorem n_X4_settle (l : Launch) (b : Nat) (D : va_G) (cy : Nat → ClassId) {tt : Nat} {M0 : xMm} {q : Nat} {y v : Int} (hL : IL M0) (hI : IR M0) (hq : xTt q) (hy : y = 0) : xC l b D cy yX4_settle cX4_settle 8 none ({ frames := 4, cells := 0, slots := 0, locals := 100 }) [xr 68, xr 84, xi y, xr q, xi v] 209 M0 (RS tt) (xPv 209 (RS tt) (fun M' => (M' 68 7 = 0 ∧ M' 68 8 = 0) ∧ frL M' M0)) := by
  refine x_met (by decide) (Nat.le_of_ble_eq_true rfl) (fun g hg hr he => ?_)
  refine x_canon (ls' := [(0, _), (1, _), (2, _), (3, _), (4, _)]) rfl ?_
  refine x_aload_n hg dX4_settle_0 rfl ?_
  refine x_aload_n hg dX4_settle_1 rfl ?_
  refine x_cVv hg he [_] [] dX4_settle_2 mv_X4_38 (c_X4_makeRoom l b D cy hL hI hq) (by decide) rfl rfl (Nat.le_of_ble_eq_true rfl) (by decide) (by decide) (fun M2 q2 => ?_)
  obtain ⟨hL2, hf2⟩ := q2
  refine x_aload_n hg dX4_settle_5 rfl ?_
  refine x_iload_n hg dX4_settle_6 rfl ?_
  refine x_bipush hg dX4_settle_7 (by decide) ?_
  refine x_min hg dX4_settle_9 (List.mem_of_getElem? (i := 691) (by decide +kernel)) (by omega) (by omega) ⟨by decide, Nat.le_of_ble_eq_true rfl⟩ (by decide) ?_
  refine x_any (P := fun x9 => x9 = 0) (by show _ = (0 : Int); split <;> omega) (fun x9 h9 => ?_)
  replace h9 : x9 = 0 := h9
  refine x_putI hg dX4_settle_12 fl_X4_34 ft_4_6 (by decide) rfl ?_
  refine x_ldc2 hg 387420489 dX4_settle_15 (List.mem_of_getElem? (i := 692) (by decide +kernel)) ?_
  refine x_lstore (ls' := [(0, _), (1, _), (2, _), (3, _), (4, _), (5, _)]) hg dX4_settle_18 (by decide) rfl ?_
  refine x_iconst hg dX4_settle_20 ?_
  refine x_istore (ls' := [(0, _), (1, _), (2, _), (3, _), (4, _), (5, _), (7, _)]) hg dX4_settle_21 (by decide) rfl ?_
  refine x_iload hg dX4_settle_23 rfl ?_
  refine x_aload_n hg dX4_settle_25 rfl ?_
  refine x_getI hg dX4_settle_26 fl_X4_34 (by decide) rfl ?_
  try simp (disch := omega) only [mu_s, mu_nf, mu_nc]
  refine x_icmp_ge (tgt := 77) hg dX4_settle_29 (by decide) (by omega) (by omega) (fun c29 => ?_) (fun c29 => ?_)
  · skip
    refine x_iconst hg dX4_settle_77 ?_
    refine x_istore (ls' := [(0, _), (1, _), (2, _), (3, _), (4, _), (5, _), (7, _)]) hg dX4_settle_78 (by decide) rfl ?_
    refine x_iload hg dX4_settle_80 rfl ?_
    refine x_aload_n hg dX4_settle_82 rfl ?_
    refine x_getI hg dX4_settle_83 fl_X4_34 (by decide) rfl ?_
    try simp (disch := omega) only [mu_s, mu_nf, mu_nc]
    refine x_icmp_ge (tgt := 107) hg dX4_settle_86 (by decide) (by omega) (by omega) (fun c86 => ?_) (fun c86 => ?_)
    · skip
      refine x_aload_n hg dX4_settle_107 rfl ?_
      refine x_aload_n hg dX4_settle_108 rfl ?_
      refine x_aload_n hg dX4_settle_109 rfl ?_
      refine x_cVv hg he [_, _] [] dX4_settle_110 mv_X4_67 (n_X4_sumUp l b D cy (by rw [mu_s]; exact h9)) (by decide) rfl rfl (Nat.le_of_ble_eq_true rfl) (by decide) (by decide) (fun M110 q110 => ?_)
      obtain ⟨hL110, hf110⟩ := q110
      refine x_vret hg hr dX4_settle_113 (Nat.le_refl _) (Nat.le_refl _) ?_
      exact ⟨rfl, rfl, rfl, hL110, frL_tr hf110 (frL_mu hf2 (by decide))⟩
    · skip
      exfalso; omega
  · skip
    exfalso; omega
set_option maxHeartbeats 4000000 in
set_option maxRecDepth 20000 in
theorem n_X11_renewBest (l : Launch) (b : Nat) (D : va_G) (cy : Nat → ClassId) {tt : Nat} {M : xMm} (hI : IO M) (hIR : IR M) (hIL : IL M) (htt : xTt tt) (h7 : M 1 7 = 1) (h10 : M 1 10 = 0) : xC l b D cy yX11_renewBest cX11_renewBest 1 none ({ frames := 5, cells := 0, slots := 0, locals := 127 }) [xr 1] 209 M (RS tt) (xPv 209 (RS tt) (fun M' => (M' 68 7 = 0 ∧ M' 68 8 = 0) ∧ ∀ a, 172 ≤ a → M' a = M a)) := by
  refine x_met (by decide) (Nat.le_of_ble_eq_true rfl) (fun g hg hr he => ?_)
  have hI0 := hI
  obtain ⟨hn10, hn13, hn15, hn16, hn8, hn7, hC, hT, hB, hF⟩ := hI
  refine x_canon (ls' := [(0, _)]) rfl ?_
  refine x_aload_n hg dX11_renewBest_0 rfl ?_
  refine x_getI hg dX11_renewBest_1 fl_X11_60 (by decide) rfl ?_
  refine x_if_eq (tgt := 35) hg dX11_renewBest_4 (by decide) (by omega) (fun c4 => ?_) (fun c4 => ?_)
  · skip
    exfalso; omega
  · skip
    refine x_aload_n hg dX11_renewBest_7 rfl ?_
    refine x_getR (j9 := 68) hg dX11_renewBest_8 fl_X11_56 (by decide) rfl rfl (by decide) ?_
    refine x_aload_n hg dX11_renewBest_11 rfl ?_
    refine x_getR (j9 := 84) hg dX11_renewBest_12 fl_X11_70 (by decide) rfl rfl (by decide) ?_
    refine x_aload_n hg dX11_renewBest_15 rfl ?_
    refine x_getI hg dX11_renewBest_16 fl_X11_162 (by decide) rfl ?_
    refine x_aload_n hg dX11_renewBest_19 rfl ?_
    refine x_getR (j9 := tt) hg dX11_renewBest_20 fl_X11_28 (by decide) rfl rfl (by omega) ?_
    refine x_aload_n hg dX11_renewBest_23 rfl ?_
    refine x_getI hg dX11_renewBest_24 fl_X11_64 (by decide) rfl ?_
    refine x_cVv hg he [_, _, _, _] [] dX11_renewBest_27 mv_X11_269 (n_X4_settle l b D cy hIL hIR htt h10) (by decide) rfl rfl (Nat.le_of_ble_eq_true rfl) (by decide) (by decide) (fun M27 q27 => ?_)
    obtain ⟨⟨hl7, hl8⟩, hf27⟩ := q27
    refine x_aload_n hg dX11_renewBest_30 rfl ?_
    refine x_iconst hg dX11_renewBest_31 ?_
    refine x_putZ hg dX11_renewBest_32 fl_X11_60 ft_11_7 (by decide) rfl (by first | exact Or.inl rfl | exact Or.inr rfl | omega) ?_
    refine x_vret hg hr dX11_renewBest_35 (Nat.le_refl _) (Nat.le_refl _) ?_
    refine ⟨rfl, rfl, rfl, ⟨by rw [mu_nc (by decide)]; exact hl7, by rw [mu_nc (by decide)]; exact hl8⟩, fun a ha => ?_⟩
    rw [← hf27 a (by omega)]
    funext c
    exact mu_nc (by omega)
set_option maxHeartbeats 4000000 in
set_option maxRecDepth 20000 in
theorem n_X11_lost (l : Launch) (b : Nat) (D : va_G) (cy : Nat → ClassId) {tt : Nat} {M : xMm} (hI : IO M) (hIR : IR M) (hIL : IL M) (htt : xTt tt) (h7 : M 1 7 = 1) (h10 : M 1 10 = 0) : xC l b D cy yX11_lost cX11_lost 1 (some .int) ({ frames := 6, cells := 0, slots := 0, locals := 147 }) [xr 1] 209 M (RS tt) (xPi 209 (RS tt) (fun r M' => r = 0 ∧ ∀ a, 172 ≤ a → M' a = M a)) := by
  refine x_met (by decide) (Nat.le_of_ble_eq_true rfl) (fun g hg hr he => ?_)
  refine x_canon (ls' := [(0, _)]) rfl ?_
  refine x_aload_n hg dX11_lost_0 rfl ?_
  refine x_cVv hg he [] [] dX11_lost_1 mv_X11_200 (n_X11_renewBest l b D cy hI hIR hIL htt h7 h10) (by decide) rfl rfl (Nat.le_of_ble_eq_true rfl) (by decide) (by decide) (fun M1 q1 => ?_)
  obtain ⟨⟨hl7, hl8⟩, hf1⟩ := q1
  refine x_aload_n hg dX11_lost_4 rfl ?_
  refine x_getR (j9 := 68) hg dX11_lost_5 fl_X11_56 (by decide) rfl rfl (by decide) ?_
  refine x_getI hg dX11_lost_8 fl_X11_203 (by decide) rfl ?_
  refine x_iret hg hr (Or.inl rfl) dX11_lost_11 (Nat.le_refl _) (Nat.le_refl _) ?_
  exact ⟨rfl, rfl, _, rfl, hl7, hf1⟩
set_option maxHeartbeats 4000000 in
set_option maxRecDepth 20000 in
theorem n_X11_souring (l : Launch) (b : Nat) (D : va_G) (cy : Nat → ClassId) {tt : Nat} {M : xMm} (hI : IO M) (hIR : IR M) (hIL : IL M) (htt : xTt tt) (h7 : M 1 7 = 1) (h10 : M 1 10 = 0) : xC l b D cy yX11_souring cX11_souring 1 (some .int) ({ frames := 6, cells := 0, slots := 0, locals := 147 }) [xr 1] 209 M (RS tt) (xPi 209 (RS tt) (fun r M' => r = 0 ∧ ∀ a, 172 ≤ a → M' a = M a)) := by
  refine x_met (by decide) (Nat.le_of_ble_eq_true rfl) (fun g hg hr he => ?_)
  refine x_canon (ls' := [(0, _)]) rfl ?_
  refine x_aload_n hg dX11_souring_0 rfl ?_
  refine x_cVv hg he [] [] dX11_souring_1 mv_X11_200 (n_X11_renewBest l b D cy hI hIR hIL htt h7 h10) (by decide) rfl rfl (Nat.le_of_ble_eq_true rfl) (by decide) (by decide) (fun M1 q1 => ?_)
  obtain ⟨⟨hl7, hl8⟩, hf1⟩ := q1
  refine x_aload_n hg dX11_souring_4 rfl ?_
  refine x_getR (j9 := 68) hg dX11_souring_5 fl_X11_56 (by decide) rfl rfl (by decide) ?_
  refine x_getI hg dX11_souring_8 fl_X11_206 (by decide) rfl ?_
  refine x_iret hg hr (Or.inl rfl) dX11_souring_11 (Nat.le_refl _) (Nat.le_refl _) ?_
  exact ⟨rfl, rfl, _, rfl, hl8, hf1⟩
set_option maxHeartbeats 4000000 in
set_option maxRecDepth 20000 in
theorem n_X12_loadAll (l : Launch) (b : Nat) (D : va_G) (cy : Nat → ClassId) {tt : Nat} {M : xMm} {n : Nat} (eN : n = mN M) (hO : MO M) (hR : MR M) (hC : MC M) (hK : MK M) (h0 : M 172 30 = 0) : xC l b D cy yX12_loadAll cX12_loadAll 7 none ({ frames := 4, cells := 0, slots := 0, locals := 105 }) [xr 172] 209 M (RS tt) (xPv 209 (RS tt) (fun M' => M' 172 38 = 0 ∧ M' 172 39 = 0)) := by
  refine x_met (by decide) (Nat.le_of_ble_eq_true rfl) (fun g hg hr he => ?_)
  have em : M 180 (M 172 18).toNat = mMa M := rfl
  obtain ⟨hb, hm⟩ := MR_many hR
  have hN := hO.1
  refine x_canon (ls' := [(0, _)]) rfl ?_
  have en : (n : Int) = mMa M + 1 := by rw [eN]; unfold mN; omega
  have hn9 : n ≤ 9 := by omega
  refine x_aload_n hg dX12_loadAll_0 rfl ?_
  refine x_cVv hg he [] [] dX12_loadAll_1 mv_X12_294 (c_X12_price l b D cy hO hR hC hK) (by decide) rfl rfl (Nat.le_of_ble_eq_true rfl) (by decide) (by decide) (fun M1 q1 => ?_)
  obtain ⟨hP1, hq1⟩ := q1
  have e30 : M1 172 30 = M 172 30 := by rw [hP1.1 172 (by decide) (by decide) (by decide)]
  have hb1 := (fp_R hP1.1 hR).1
  refine x_aload_n hg dX12_loadAll_4 rfl ?_
  refine x_getR (j9 := 180) hg dX12_loadAll_5 fl_X12_81 (by decide) rfl rfl (by decide) ?_
  refine x_aload_n hg dX12_loadAll_8 rfl ?_
  refine x_getI hg dX12_loadAll_9 fl_X12_75 (by decide) rfl ?_
  try simp (disch := omega) only [mu_s, mu_nf, mu_nc]
  refine x_iaload (len := 2) hg dX12_loadAll_12 (by decide) (by omega) ?_
  try simp (disch := omega) only [mu_s, mu_nf, mu_nc]
  rw [fp_ma hP1.1]
  refine x_istore_n (ls' := [(0, _), (1, _)]) hg dX12_loadAll_13 rfl (by decide) rfl ?_
  refine x_aload_n hg dX12_loadAll_14 rfl ?_
  refine x_cVl hg he [] [] dX12_loadAll_15 mv_X12_297 (c_X12_least l b D cy (n := n) (C := M1 195) (ro := mRo M) (fp_R hP1.1 hR) (by omega) (by rw [fp_N hP1.1]; exact eN) rfl (fp_ro hP1.1) (MK_Ck hP1.2.2.2 hn9)) (by decide) rfl rfl (Nat.le_of_ble_eq_true rfl) (by decide) (by decide) (fun r15 M15 q15 => ?_)
  obtain ⟨hf15, hr15⟩ := q15
  rw [e30] at hr15
  have hro : ∀ t : Nat, t < n → 0 ≤ mRo M t := fun t ht => (mRo_r hR (by omega)).1
  have hsr := zLS_lt hr15 (zFA_left (by omega) (fun d hd => by have := hq1 d (by omega); rw [show n - 1 = (mMa M).toNat by omega]; omega) hro (by unfold mRo; rw [if_pos (by omega)]; omega))
  have hr0 : r15 = 0 := by
    rw [h0] at hr15
    rcases hr15 with ⟨e, -⟩ | ⟨-, ⟨a, -, e⟩, -⟩
    · omega
    · first | exact e.symm | simpa [zTot] using e.symm
  subst hr0
  refine x_lstore_n (ls' := [(0, _), (1, _), (2, _)]) hg dX12_loadAll_18 rfl (by decide) rfl ?_
  refine x_aload_n hg dX12_loadAll_19 rfl ?_
  refine x_lload_n hg dX12_loadAll_20 rfl ?_
  refine x_ldc2 hg 10000000 dX12_loadAll_21 (List.mem_of_getElem? (i := 1176) (by decide +kernel)) ?_
  refine x_ldiv hg dX12_loadAll_24 (by omega) (by omega) ?_
  refine x_l2i hg dX12_loadAll_25 (by omega) ?_
  refine x_putI hg dX12_loadAll_26 fl_X12_301 ft_12_38 (by decide) rfl ?_
  refine x_aload_n hg dX12_loadAll_29 rfl ?_
  refine x_lload_n hg dX12_loadAll_30 rfl ?_
  refine x_ldc2 hg 10000000 dX12_loadAll_31 (List.mem_of_getElem? (i := 1176) (by decide +kernel)) ?_
  refine x_lrem hg dX12_loadAll_34 (by omega) (by omega) ?_
  refine x_l2i hg dX12_loadAll_35 (by omega) ?_
  refine x_putI hg dX12_loadAll_36 fl_X12_304 ft_12_39 (by decide) rfl ?_
  refine x_iconst hg dX12_loadAll_39 ?_
  refine x_istore (ls' := [(0, _), (1, _), (2, _), (4, _)]) hg dX12_loadAll_40 (by decide) rfl ?_
  refine x_iload hg dX12_loadAll_42 rfl ?_
  refine x_aload_n hg dX12_loadAll_44 rfl ?_
  refine x_getI hg dX12_loadAll_45 fl_X12_234 (by decide) rfl ?_
  try simp (disch := omega) only [mu_s, mu_nf, mu_nc]
  have e30c : M15 172 30 = 0 := by rw [hf15 172 (by decide) (by decide) (by decide) (by decide) (by decide), e30]; exact h0
  refine x_icmp_ge (tgt := 125) hg dX12_loadAll_48 (by decide) (by omega) (by omega) (fun c48 => ?_) (fun c48 => ?_)
  · skip
    refine x_vret hg hr dX12_loadAll_125 (Nat.le_refl _) (Nat.le_refl _) ?_
    refine ⟨rfl, rfl, rfl, ?_, ?_⟩
    · simp (disch := omega) only [mu_s, mu_nf, mu_nc] <;> decide
    · rw [mu_s] <;> decide
  · skip
    exfalso; omega
set_option maxHeartbeats 4000000 in
set_option maxRecDepth 20000 in
theorem n_X12_lost (l : Launch) (b : Nat) (D : va_G) (cy : Nat → ClassId) {tt : Nat} {M : xMm} (hO : MO M) (hR : MR M) (hC : MC M) (hK : MK M) (h0 : M 172 30 = 0) : xC l b D cy yX12_lost cX12_lost 1 (some .int) ({ frames := 5, cells := 0, slots := 0, locals := 131 }) [xr 172] 209 M (RS tt) (xPi 209 (RS tt) (fun r M' => r = 0)) := by
  refine x_met (by decide) (Nat.le_of_ble_eq_true rfl) (fun g hg hr he => ?_)
  refine x_canon (ls' := [(0, _)]) rfl ?_
  refine x_aload_n hg dX12_lost_0 rfl ?_
  refine x_cVv hg he [] [] dX12_lost_1 mv_X12_311 (n_X12_loadAll l b D cy (n := mN M) rfl hO hR hC hK h0) (by decide) rfl rfl (Nat.le_of_ble_eq_true rfl) (by decide) (by decide) (fun M1 q1 => ?_)
  refine x_aload_n hg dX12_lost_4 rfl ?_
  refine x_getI hg dX12_lost_5 fl_X12_301 (by decide) rfl ?_
  try simp (disch := omega) only [mu_s, mu_nf, mu_nc]
  refine x_iret hg hr (Or.inl rfl) dX12_lost_8 (Nat.le_refl _) (Nat.le_refl _) ?_
  exact ⟨rfl, rfl, _, rfl, q1.1⟩
set_option maxHeartbeats 4000000 in
set_option maxRecDepth 20000 in
theorem n_X12_souring (l : Launch) (b : Nat) (D : va_G) (cy : Nat → ClassId) {tt : Nat} {M : xMm} (hO : MO M) (hR : MR M) (hC : MC M) (hK : MK M) (h0 : M 172 30 = 0) : xC l b D cy yX12_souring cX12_souring 1 (some .int) ({ frames := 5, cells := 0, slots := 0, locals := 131 }) [xr 172] 209 M (RS tt) (xPi 209 (RS tt) (fun r M' => r = 0)) := by
  refine x_met (by decide) (Nat.le_of_ble_eq_true rfl) (fun g hg hr he => ?_)
  refine x_canon (ls' := [(0, _)]) rfl ?_
  refine x_aload_n hg dX12_souring_0 rfl ?_
  refine x_cVv hg he [] [] dX12_souring_1 mv_X12_311 (n_X12_loadAll l b D cy (n := mN M) rfl hO hR hC hK h0) (by decide) rfl rfl (Nat.le_of_ble_eq_true rfl) (by decide) (by decide) (fun M1 q1 => ?_)
  refine x_aload_n hg dX12_souring_4 rfl ?_
  refine x_getI hg dX12_souring_5 fl_X12_304 (by decide) rfl ?_
  try simp (disch := omega) only [mu_s, mu_nf, mu_nc]
  refine x_iret hg hr (Or.inl rfl) dX12_souring_8 (Nat.le_refl _) (Nat.le_refl _) ?_
  exact ⟨rfl, rfl, _, rfl, q1.2⟩
