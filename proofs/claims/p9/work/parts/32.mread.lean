/-! ===== the model's reader ===== -/
/-- its numbers: the text's size, the fault, the token -/
def JN (M : xMm) : Prop := MT M ∧ (0 ≤ M 172 3 ∧ M 172 3 ≤ 1000) ∧ (0 ≤ M 172 4 ∧ M 172 4 ≤ 4) ∧ inR (M 172 8) ∧ (0 ≤ M 172 9 ∧ M 172 9 ≤ 9999) ∧ inL (M 172 10)
/-- and where it stands -/
def JM (M : xMm) : Prop := JN M ∧ (0 ≤ M 172 6 ∧ M 172 6 ≤ M 172 3) ∧ (0 ≤ M 172 7 ∧ M 172 7 ≤ M 172 3)
/-- nothing but the reader's numbers changed, those of the fields from lo on -/
abbrev frK (lo : Nat) (M' M : xMm) : Prop := (∀ a, a ≠ 172 → M' a = M a) ∧ ∀ f, f < lo ∨ 10 < f → M' 172 f = M 172 f
theorem frK_rf (lo : Nat) (M : xMm) : frK lo M M := ⟨fun _ _ => rfl, fun _ _ => rfl⟩
theorem frK_mu {lo : Nat} {M' M : xMm} (h : frK lo M' M) {f : Nat} {z : Int} (hf : lo ≤ f ∧ f ≤ 10) : frK lo (mu M' 172 f z) M :=
  ⟨fun a ha => by rw [← h.1 a ha]; funext c; exact mu_nc ha, fun c hc => by rw [mu_nf (by omega)]; exact h.2 c hc⟩
theorem frK_tr {lo : Nat} {M2 M1 M : xMm} (h1 : frK lo M2 M1) (h : frK lo M1 M) : frK lo M2 M := ⟨fun a ha => by rw [h1.1 a ha, h.1 a ha], fun f hf => by rw [h1.2 f hf, h.2 f hf]⟩
theorem frK_lo {lo lo' : Nat} {M' M : xMm} (h : frK lo M' M) (hl : lo' ≤ lo) : frK lo' M' M := ⟨h.1, fun f hf => h.2 f (by omega)⟩
theorem JN_mu {M : xMm} (h : JN M) {f : Nat} {z : Int} (hz : (f = 5 ∨ f = 6 ∨ f = 7) ∨ f = 8 ∧ inR z ∨ f = 9 ∧ (0 ≤ z ∧ z ≤ 9999) ∨ f = 10 ∧ inL z ∨ f = 4 ∧ (0 ≤ z ∧ z ≤ 4)) : JN (mu M 172 f z) := by
  obtain ⟨⟨t1, t2, t3⟩, h2, h3, h4, h5, h6⟩ := h
  refine ⟨⟨by rw [mu_nf (by omega)]; exact t1, fun j => by rw [mu_nc (by decide)]; exact t2 j, fun j => by rw [mu_nc (by decide)]; exact t3 j⟩, by rw [mu_nf (by omega)]; exact h2, ?_, ?_, ?_, ?_⟩
  · by_cases e : f = 4
    · subst e; rw [mu_s]; omega
    · rw [mu_nf (Ne.symm e)]; exact h3
  · by_cases e : f = 8
    · subst e; rw [mu_s]; omega
    · rw [mu_nf (Ne.symm e)]; exact h4
  · by_cases e : f = 9
    · subst e; rw [mu_s]; omega
    · rw [mu_nf (Ne.symm e)]; exact h5
  · by_cases e : f = 10
    · subst e; rw [mu_s]; omega
    · rw [mu_nf (Ne.symm e)]; exact h6
theorem MR_K {M' M : xMm} (h : frK 4 M' M) (hR : MR M) : MR M' := by
  unfold MR
  rw [h.2 18 (by omega), h.1 180 (by decide), h.1 181 (by decide), h.1 177 (by decide), h.1 176 (by decide), h.1 175 (by decide), h.1 178 (by decide), h.1 179 (by decide)]
  exact hR
/-- the number read so far, of so many digits -/
def pNb (dg v : Int) : Prop := (dg = 0 → v = 0) ∧ (dg = 1 → v ≤ 9) ∧ (dg = 2 → v ≤ 99) ∧ (dg = 3 → v ≤ 999)
theorem pNb_0 {dg v : Int} (h1 : dg = 0) (h2 : v = 0) : pNb dg v := ⟨fun _ => h2, fun _ => by omega, fun _ => by omega, fun _ => by omega⟩
theorem pNb_big {dg v : Int} (h : 4 ≤ dg) : pNb dg v := ⟨fun _ => by omega, fun _ => by omega, fun _ => by omega, fun _ => by omega⟩
theorem pNb_s {dg v x : Int} (h : pNb dg v) (h0 : 0 ≤ dg) (h4 : dg < 4) (hv : 0 ≤ v) (hx : 48 ≤ x ∧ x ≤ 57) : (0 ≤ 10 * v + x - 48 ∧ 10 * v + x - 48 ≤ 9999) ∧ pNb (dg + 1) (10 * v + x - 48) := by
  obtain ⟨a0, a1, a2, a3⟩ := h
  have hc : dg = 0 ∨ dg = 1 ∨ dg = 2 ∨ dg = 3 := by omega
  rcases hc with e | e | e | e
  · have := a0 e; refine ⟨by omega, fun _ => by omega, fun _ => by omega, fun _ => by omega, fun _ => by omega⟩
  · have := a1 e; refine ⟨by omega, fun _ => by omega, fun _ => by omega, fun _ => by omega, fun _ => by omega⟩
  · have := a2 e; refine ⟨by omega, fun _ => by omega, fun _ => by omega, fun _ => by omega, fun _ => by omega⟩
  · have := a3 e; refine ⟨by omega, fun _ => by omega, fun _ => by omega, fun _ => by omega, fun _ => by omega⟩
/-- a byte of the text, 0 behind it -/
def vSg (M : xMm) (z : Int) : Int := if z < M 172 3 then bAnd (M 174 z.toNat) 255 else 0

theorem dX12_isLetter_0 : decode cX12_isLetter 0 = .ok (.iload_n 0, 1) := by decide +kernel
theorem dX12_isLetter_1 : decode cX12_isLetter 1 = .ok (.bipush 97, 2) := by decide +kernel
theorem dX12_isLetter_3 : decode cX12_isLetter 3 = .ok (.if_icmp .lt 13, 3) := by decide +kernel
theorem dX12_isLetter_6 : decode cX12_isLetter 6 = .ok (.iload_n 0, 1) := by decide +kernel
theorem dX12_isLetter_7 : decode cX12_isLetter 7 = .ok (.bipush 122, 2) := by decide +kernel
theorem dX12_isLetter_9 : decode cX12_isLetter 9 = .ok (.if_icmp .gt 7, 3) := by decide +kernel
theorem dX12_isLetter_12 : decode cX12_isLetter 12 = .ok (.iconst 1, 1) := by decide +kernel
theorem dX12_isLetter_13 : decode cX12_isLetter 13 = .ok (.goto 4, 3) := by decide +kernel
theorem dX12_isLetter_16 : decode cX12_isLetter 16 = .ok (.iconst 0, 1) := by decide +kernel
theorem dX12_isLetter_17 : decode cX12_isLetter 17 = .ok (.ireturn, 1) := by decide +kernel
set_option maxHeartbeats 4000000 in
set_option maxRecDepth 20000 in
theorem c_X12_isLetter (l : Launch) (b : Nat) (D : va_G) (cy : Nat → ClassId) {tt : Nat} {M : xMm} {z : Int} (hz : inR z) : xC l b D cy yX12_isLetter cX12_isLetter 1 (some .boolean) ({ frames := 0, cells := 0, slots := 0, locals := 0 }) [xi z] 209 M (RS tt) (xPi 209 (RS tt) (fun r M' => M' = M ∧ ((97 ≤ z ∧ z ≤ 122) ∧ r = 1 ∨ ¬ (97 ≤ z ∧ z ≤ 122) ∧ r = 0))) := by
  refine x_met (by decide) (Nat.le_of_ble_eq_true rfl) (fun g hg hr he => ?_)
  refine x_canon (ls' := [(0, _)]) rfl ?_
  refine x_iload_n hg dX12_isLetter_0 rfl ?_
  refine x_bipush hg dX12_isLetter_1 (by decide) ?_
  refine x_icmp_lt (tgt := 16) hg dX12_isLetter_3 (by decide) (by omega) (by omega) (fun c3 => ?_) (fun c3 => ?_)
  · skip
    refine x_iconst hg dX12_isLetter_16 ?_
    refine x_iret hg hr (Or.inr ⟨rfl, by first | exact Or.inl rfl | exact Or.inr rfl | omega⟩) dX12_isLetter_17 (Nat.le_refl _) (Nat.le_refl _) ?_
    exact ⟨rfl, rfl, _, rfl, rfl, by omega⟩
  · skip
    refine x_iload_n hg dX12_isLetter_6 rfl ?_
    refine x_bipush hg dX12_isLetter_7 (by decide) ?_
    refine x_icmp_gt (tgt := 16) hg dX12_isLetter_9 (by decide) (by omega) (by omega) (fun c9 => ?_) (fun c9 => ?_)
    · skip
      refine x_iconst hg dX12_isLetter_16 ?_
      refine x_iret hg hr (Or.inr ⟨rfl, by first | exact Or.inl rfl | exact Or.inr rfl | omega⟩) dX12_isLetter_17 (Nat.le_refl _) (Nat.le_refl _) ?_
      exact ⟨rfl, rfl, _, rfl, rfl, by omega⟩
    · skip
      refine x_iconst hg dX12_isLetter_12 ?_
      refine x_goto (tgt := 17) hg dX12_isLetter_13 (by decide) ?_
      refine x_iret hg hr (Or.inr ⟨rfl, by first | exact Or.inl rfl | exact Or.inr rfl | omega⟩) dX12_isLetter_17 (Nat.le_refl _) (Nat.le_refl _) ?_
      exact ⟨rfl, rfl, _, rfl, rfl, by omega⟩

theorem dX12_isDigit_0 : decode cX12_isDigit 0 = .ok (.iload_n 0, 1) := by decide +kernel
theorem dX12_isDigit_1 : decode cX12_isDigit 1 = .ok (.bipush 48, 2) := by decide +kernel
theorem dX12_isDigit_3 : decode cX12_isDigit 3 = .ok (.if_icmp .lt 13, 3) := by decide +kernel
theorem dX12_isDigit_6 : decode cX12_isDigit 6 = .ok (.iload_n 0, 1) := by decide +kernel
theorem dX12_isDigit_7 : decode cX12_isDigit 7 = .ok (.bipush 57, 2) := by decide +kernel
theorem dX12_isDigit_9 : decode cX12_isDigit 9 = .ok (.if_icmp .gt 7, 3) := by decide +kernel
theorem dX12_isDigit_12 : decode cX12_isDigit 12 = .ok (.iconst 1, 1) := by decide +kernel
theorem dX12_isDigit_13 : decode cX12_isDigit 13 = .ok (.goto 4, 3) := by decide +kernel
theorem dX12_isDigit_16 : decode cX12_isDigit 16 = .ok (.iconst 0, 1) := by decide +kernel
theorem dX12_isDigit_17 : decode cX12_isDigit 17 = .ok (.ireturn, 1) := by decide +kernel
set_option maxHeartbeats 4000000 in
set_option maxRecDepth 20000 in
theorem c_X12_isDigit (l : Launch) (b : Nat) (D : va_G) (cy : Nat → ClassId) {tt : Nat} {M : xMm} {z : Int} (hz : inR z) : xC l b D cy yX12_isDigit cX12_isDigit 1 (some .boolean) ({ frames := 0, cells := 0, slots := 0, locals := 0 }) [xi z] 209 M (RS tt) (xPi 209 (RS tt) (fun r M' => M' = M ∧ ((48 ≤ z ∧ z ≤ 57) ∧ r = 1 ∨ ¬ (48 ≤ z ∧ z ≤ 57) ∧ r = 0))) := by
  refine x_met (by decide) (Nat.le_of_ble_eq_true rfl) (fun g hg hr he => ?_)
  refine x_canon (ls' := [(0, _)]) rfl ?_
  refine x_iload_n hg dX12_isDigit_0 rfl ?_
  refine x_bipush hg dX12_isDigit_1 (by decide) ?_
  refine x_icmp_lt (tgt := 16) hg dX12_isDigit_3 (by decide) (by omega) (by omega) (fun c3 => ?_) (fun c3 => ?_)
  · skip
    refine x_iconst hg dX12_isDigit_16 ?_
    refine x_iret hg hr (Or.inr ⟨rfl, by first | exact Or.inl rfl | exact Or.inr rfl | omega⟩) dX12_isDigit_17 (Nat.le_refl _) (Nat.le_refl _) ?_
    exact ⟨rfl, rfl, _, rfl, rfl, by omega⟩
  · skip
    refine x_iload_n hg dX12_isDigit_6 rfl ?_
    refine x_bipush hg dX12_isDigit_7 (by decide) ?_
    refine x_icmp_gt (tgt := 16) hg dX12_isDigit_9 (by decide) (by omega) (by omega) (fun c9 => ?_) (fun c9 => ?_)
    · skip
      refine x_iconst hg dX12_isDigit_16 ?_
      refine x_iret hg hr (Or.inr ⟨rfl, by first | exact Or.inl rfl | exact Or.inr rfl | omega⟩) dX12_isDigit_17 (Nat.le_refl _) (Nat.le_refl _) ?_
      exact ⟨rfl, rfl, _, rfl, rfl, by omega⟩
    · skip
      refine x_iconst hg dX12_isDigit_12 ?_
      refine x_goto (tgt := 17) hg dX12_isDigit_13 (by decide) ?_
      refine x_iret hg hr (Or.inr ⟨rfl, by first | exact Or.inl rfl | exact Or.inr rfl | omega⟩) dX12_isDigit_17 (Nat.le_refl _) (Nat.le_refl _) ?_
      exact ⟨rfl, rfl, _, rfl, rfl, by omega⟩

theorem dX12_sign_0 : decode cX12_sign 0 = .ok (.iload_n 1, 1) := by decide +kernel
theorem dX12_sign_1 : decode cX12_sign 1 = .ok (.aload_n 0, 1) := by decide +kernel
theorem dX12_sign_2 : decode cX12_sign 2 = .ok (.getfield 1, 3) := by decide +kernel
theorem dX12_sign_5 : decode cX12_sign 5 = .ok (.if_icmp .ge 16, 3) := by decide +kernel
theorem dX12_sign_8 : decode cX12_sign 8 = .ok (.aload_n 0, 1) := by decide +kernel
theorem dX12_sign_9 : decode cX12_sign 9 = .ok (.getfield 7, 3) := by decide +kernel
theorem dX12_sign_12 : decode cX12_sign 12 = .ok (.iload_n 1, 1) := by decide +kernel
theorem dX12_sign_13 : decode cX12_sign 13 = .ok (.baload, 1) := by decide +kernel
theorem dX12_sign_14 : decode cX12_sign 14 = .ok (.sipush 255, 3) := by decide +kernel
theorem dX12_sign_17 : decode cX12_sign 17 = .ok (.iand, 1) := by decide +kernel
theorem dX12_sign_18 : decode cX12_sign 18 = .ok (.goto 4, 3) := by decide +kernel
theorem dX12_sign_21 : decode cX12_sign 21 = .ok (.iconst 0, 1) := by decide +kernel
theorem dX12_sign_22 : decode cX12_sign 22 = .ok (.ireturn, 1) := by decide +kernel
set_option maxHeartbeats 4000000 in
set_option maxRecDepth 20000 in
theorem c_X12_sign (l : Launch) (b : Nat) (D : va_G) (cy : Nat → ClassId) {tt : Nat} {M : xMm} {z : Int} (hJ : JN M) (hz : 0 ≤ z ∧ z ≤ 2147483647) : xC l b D cy yX12_sign cX12_sign 2 (some .int) ({ frames := 0, cells := 0, slots := 0, locals := 0 }) [xr 172, xi z] 209 M (RS tt) (xPi 209 (RS tt) (fun r M' => M' = M ∧ (0 ≤ r ∧ r ≤ 255) ∧ (M 172 3 ≤ z → r = 0) ∧ r = vSg M z)) := by
  refine x_met (by decide) (Nat.le_of_ble_eq_true rfl) (fun g hg hr he => ?_)
  have hs := hJ.2.1
  refine x_canon (ls' := [(0, _), (1, _)]) rfl ?_
  refine x_iload_n hg dX12_sign_0 rfl ?_
  refine x_aload_n hg dX12_sign_1 rfl ?_
  refine x_getI hg dX12_sign_2 fl_X12_1 (by decide) rfl ?_
  refine x_icmp_ge (tgt := 21) hg dX12_sign_5 (by decide) (by omega) (by omega) (fun c5 => ?_) (fun c5 => ?_)
  · skip
    refine x_iconst hg dX12_sign_21 ?_
    refine x_iret hg hr (Or.inl rfl) dX12_sign_22 (Nat.le_refl _) (Nat.le_refl _) ?_
    first | exact ⟨rfl, rfl, _, rfl, rfl, bAnd_255 _, by omega, by unfold vSg; rw [if_pos (by omega)]⟩ | exact ⟨rfl, rfl, _, rfl, rfl, by omega, by omega, by unfold vSg; rw [if_neg (by omega)]⟩
  · skip
    refine x_aload_n hg dX12_sign_8 rfl ?_
    refine x_getR (j9 := 174) hg dX12_sign_9 fl_X12_7 (by decide) rfl rfl (by decide) ?_
    refine x_iload_n hg dX12_sign_12 rfl ?_
    refine x_baload (len := 1000) hg dX12_sign_13 (by decide) (by omega) ?_
    refine x_sipush hg dX12_sign_14 (by decide) ?_
    refine x_iand hg dX12_sign_17 ?_
    refine x_goto (tgt := 22) hg dX12_sign_18 (by decide) ?_
    refine x_iret hg hr (Or.inl rfl) dX12_sign_22 (Nat.le_refl _) (Nat.le_refl _) ?_
    first | exact ⟨rfl, rfl, _, rfl, rfl, bAnd_255 _, by omega, by unfold vSg; rw [if_pos (by omega)]⟩ | exact ⟨rfl, rfl, _, rfl, rfl, by omega, by omega, by unfold vSg; rw [if_neg (by omega)]⟩

theorem dX12_fails_0 : decode cX12_fails 0 = .ok (.aload_n 0, 1) := by decide +kernel
theorem dX12_fails_1 : decode cX12_fails 1 = .ok (.getfield 11, 3) := by decide +kernel
theorem dX12_fails_4 : decode cX12_fails 4 = .ok (.ifCond .le 4, 3) := by decide +kernel
theorem dX12_fails_7 : decode cX12_fails 7 = .ok (.return_, 1) := by decide +kernel
theorem dX12_fails_8 : decode cX12_fails 8 = .ok (.aload_n 0, 1) := by decide +kernel
theorem dX12_fails_9 : decode cX12_fails 9 = .ok (.iload_n 1, 1) := by decide +kernel
theorem dX12_fails_10 : decode cX12_fails 10 = .ok (.putfield 11, 3) := by decide +kernel
theorem dX12_fails_13 : decode cX12_fails 13 = .ok (.aload_n 0, 1) := by decide +kernel
theorem dX12_fails_14 : decode cX12_fails 14 = .ok (.iload_n 2, 1) := by decide +kernel
theorem dX12_fails_15 : decode cX12_fails 15 = .ok (.putfield 14, 3) := by decide +kernel
theorem dX12_fails_18 : decode cX12_fails 18 = .ok (.return_, 1) := by decide +kernel
set_option maxHeartbeats 4000000 in
set_option maxRecDepth 20000 in
theorem c_X12_fails (l : Launch) (b : Nat) (D : va_G) (cy : Nat → ClassId) {tt : Nat} {M : xMm} {z y : Int} (hJ : JN M) (hz : 1 ≤ z ∧ z ≤ 4) : xC l b D cy yX12_fails cX12_fails 3 none ({ frames := 0, cells := 0, slots := 0, locals := 0 }) [xr 172, xi z, xi y] 209 M (RS tt) (xPv 209 (RS tt) (fun M' => JN M' ∧ 0 < M' 172 4 ∧ frK 4 M' M ∧ ∀ f, 5 < f → M' 172 f = M 172 f)) := by
  refine x_met (by decide) (Nat.le_of_ble_eq_true rfl) (fun g hg hr he => ?_)
  have h4 := hJ.2.2.1
  refine x_canon (ls' := [(0, _), (1, _), (2, _)]) rfl ?_
  refine x_aload_n hg dX12_fails_0 rfl ?_
  refine x_getI hg dX12_fails_1 fl_X12_11 (by decide) rfl ?_
  refine x_if_le (tgt := 8) hg dX12_fails_4 (by decide) (by omega) (fun c4 => ?_) (fun c4 => ?_)
  · skip
    refine x_aload_n hg dX12_fails_8 rfl ?_
    refine x_iload_n hg dX12_fails_9 rfl ?_
    refine x_putI hg dX12_fails_10 fl_X12_11 ft_12_4 (by decide) rfl ?_
    refine x_aload_n hg dX12_fails_13 rfl ?_
    refine x_iload_n hg dX12_fails_14 rfl ?_
    refine x_putI hg dX12_fails_15 fl_X12_14 ft_12_5 (by decide) rfl ?_
    refine x_vret hg hr dX12_fails_18 (Nat.le_refl _) (Nat.le_refl _) ?_
    first | exact ⟨rfl, rfl, rfl, hJ, by omega, frK_rf 4 M, fun f _ => rfl⟩ | exact ⟨rfl, rfl, rfl, JN_mu (JN_mu hJ (by omega)) (by omega), by simp (disch := omega) only [mu_s, mu_nf, mu_nc]; omega, frK_mu (frK_mu (frK_rf 4 M) (by omega)) (by omega), fun f hf => by rw [mu_nf (by omega), mu_nf (by omega)]⟩
  · skip
    refine x_vret hg hr dX12_fails_7 (Nat.le_refl _) (Nat.le_refl _) ?_
    first | exact ⟨rfl, rfl, rfl, hJ, by omega, frK_rf 4 M, fun f _ => rfl⟩ | exact ⟨rfl, rfl, rfl, JN_mu (JN_mu hJ (by omega)) (by omega), by simp (disch := omega) only [mu_s, mu_nf, mu_nc]; omega, frK_mu (frK_mu (frK_rf 4 M) (by omega)) (by omega), fun f hf => by rw [mu_nf (by omega), mu_nf (by omega)]⟩

theorem dX12_isGood_0 : decode cX12_isGood 0 = .ok (.aload_n 0, 1) := by decide +kernel
theorem dX12_isGood_1 : decode cX12_isGood 1 = .ok (.getfield 11, 3) := by decide +kernel
theorem dX12_isGood_4 : decode cX12_isGood 4 = .ok (.ifCond .ne 7, 3) := by decide +kernel
theorem dX12_isGood_7 : decode cX12_isGood 7 = .ok (.iconst 1, 1) := by decide +kernel
theorem dX12_isGood_8 : decode cX12_isGood 8 = .ok (.goto 4, 3) := by decide +kernel
theorem dX12_isGood_11 : decode cX12_isGood 11 = .ok (.iconst 0, 1) := by decide +kernel
theorem dX12_isGood_12 : decode cX12_isGood 12 = .ok (.ireturn, 1) := by decide +kernel
set_option maxHeartbeats 4000000 in
set_option maxRecDepth 20000 in
theorem c_X12_isGood (l : Launch) (b : Nat) (D : va_G) (cy : Nat → ClassId) {tt : Nat} {M : xMm}  (hJ : JN M) : xC l b D cy yX12_isGood cX12_isGood 1 (some .boolean) ({ frames := 0, cells := 0, slots := 0, locals := 0 }) [xr 172] 209 M (RS tt) (xPi 209 (RS tt) (fun r M' => M' = M ∧ (M 172 4 = 0 ∧ r = 1 ∨ ¬ M 172 4 = 0 ∧ r = 0))) := by
  refine x_met (by decide) (Nat.le_of_ble_eq_true rfl) (fun g hg hr he => ?_)
  have h4 := hJ.2.2.1
  refine x_canon (ls' := [(0, _)]) rfl ?_
  refine x_aload_n hg dX12_isGood_0 rfl ?_
  refine x_getI hg dX12_isGood_1 fl_X12_11 (by decide) rfl ?_
  refine x_if_ne (tgt := 11) hg dX12_isGood_4 (by decide) (by omega) (fun c4 => ?_) (fun c4 => ?_)
  · skip
    refine x_iconst hg dX12_isGood_11 ?_
    refine x_iret hg hr (Or.inr ⟨rfl, by first | exact Or.inl rfl | exact Or.inr rfl | omega⟩) dX12_isGood_12 (Nat.le_refl _) (Nat.le_refl _) ?_
    exact ⟨rfl, rfl, _, rfl, rfl, by omega⟩
  · skip
    refine x_iconst hg dX12_isGood_7 ?_
    refine x_goto (tgt := 12) hg dX12_isGood_8 (by decide) ?_
    refine x_iret hg hr (Or.inr ⟨rfl, by first | exact Or.inl rfl | exact Or.inr rfl | omega⟩) dX12_isGood_12 (Nat.le_refl _) (Nat.le_refl _) ?_
    exact ⟨rfl, rfl, _, rfl, rfl, by omega⟩

theorem dX12_is_0 : decode cX12_is 0 = .ok (.aload_n 0, 1) := by decide +kernel
theorem dX12_is_1 : decode cX12_is 1 = .ok (.getfield 27, 3) := by decide +kernel
theorem dX12_is_4 : decode cX12_is 4 = .ok (.iconst 5, 1) := by decide +kernel
theorem dX12_is_5 : decode cX12_is 5 = .ok (.if_icmp .ne 19, 3) := by decide +kernel
theorem dX12_is_8 : decode cX12_is 8 = .ok (.aload_n 0, 1) := by decide +kernel
theorem dX12_is_9 : decode cX12_is 9 = .ok (.aload_n 0, 1) := by decide +kernel
theorem dX12_is_10 : decode cX12_is 10 = .ok (.getfield 20, 3) := by decide +kernel
theorem dX12_is_13 : decode cX12_is 13 = .ok (.invokevirtual 23, 3) := by decide +kernel
theorem dX12_is_16 : decode cX12_is 16 = .ok (.iload_n 1, 1) := by decide +kernel
theorem dX12_is_17 : decode cX12_is 17 = .ok (.if_icmp .ne 7, 3) := by decide +kernel
theorem dX12_is_20 : decode cX12_is 20 = .ok (.iconst 1, 1) := by decide +kernel
theorem dX12_is_21 : decode cX12_is 21 = .ok (.goto 4, 3) := by decide +kernel
theorem dX12_is_24 : decode cX12_is 24 = .ok (.iconst 0, 1) := by decide +kernel
theorem dX12_is_25 : decode cX12_is 25 = .ok (.ireturn, 1) := by decide +kernel
set_option maxHeartbeats 4000000 in
set_option maxRecDepth 20000 in
theorem c_X12_is (l : Launch) (b : Nat) (D : va_G) (cy : Nat → ClassId) {tt : Nat} {M : xMm} {z : Int} (hJ : JM M) (hz : inR z) : xC l b D cy yX12_is cX12_is 2 (some .boolean) ({ frames := 1, cells := 0, slots := 0, locals := 21 }) [xr 172, xi z] 209 M (RS tt) (xPi 209 (RS tt) (fun r M' => M' = M ∧ (r = 0 ∨ r = 1))) := by
  refine x_met (by decide) (Nat.le_of_ble_eq_true rfl) (fun g hg hr he => ?_)
  have h8 := hJ.1.2.2.2.1
  have ha := hJ.2.1
  have hsz := hJ.1.2.1
  refine x_canon (ls' := [(0, _), (1, _)]) rfl ?_
  refine x_aload_n hg dX12_is_0 rfl ?_
  refine x_getI hg dX12_is_1 fl_X12_27 (by decide) rfl ?_
  refine x_iconst hg dX12_is_4 ?_
  refine x_icmp_ne (tgt := 24) hg dX12_is_5 (by decide) (by omega) (by omega) (fun c5 => ?_) (fun c5 => ?_)
  · skip
    refine x_iconst hg dX12_is_24 ?_
    refine x_iret hg hr (Or.inr ⟨rfl, by first | exact Or.inl rfl | exact Or.inr rfl | omega⟩) dX12_is_25 (Nat.le_refl _) (Nat.le_refl _) ?_
    exact ⟨rfl, rfl, _, rfl, rfl, by omega⟩
  · skip
    refine x_aload_n hg dX12_is_8 rfl ?_
    refine x_aload_n hg dX12_is_9 rfl ?_
    refine x_getI hg dX12_is_10 fl_X12_20 (by decide) rfl ?_
    refine x_cVi hg he [_] [] dX12_is_13 mv_X12_23 (c_X12_sign l b D cy hJ.1 (by omega)) (by decide) rfl rfl (Nat.le_of_ble_eq_true rfl) (by decide) (by decide) (fun r13 M13 q13 => ?_)
    obtain ⟨h13, e13, f13, v13⟩ := q13
    replace h13 := h13.symm
    subst h13
    refine x_iload_n hg dX12_is_16 rfl ?_
    refine x_icmp_ne (tgt := 24) hg dX12_is_17 (by decide) (by omega) (by omega) (fun c17 => ?_) (fun c17 => ?_)
    · skip
      refine x_iconst hg dX12_is_24 ?_
      refine x_iret hg hr (Or.inr ⟨rfl, by first | exact Or.inl rfl | exact Or.inr rfl | omega⟩) dX12_is_25 (Nat.le_refl _) (Nat.le_refl _) ?_
      exact ⟨rfl, rfl, _, rfl, rfl, by omega⟩
    · skip
      refine x_iconst hg dX12_is_20 ?_
      refine x_goto (tgt := 25) hg dX12_is_21 (by decide) ?_
      refine x_iret hg hr (Or.inr ⟨rfl, by first | exact Or.inl rfl | exact Or.inr rfl | omega⟩) dX12_is_25 (Nat.le_refl _) (Nat.le_refl _) ?_
      exact ⟨rfl, rfl, _, rfl, rfl, by omega⟩

theorem dX12_next_0 : decode cX12_next 0 = .ok (.aload_n 0, 1) := by decide +kernel
theorem dX12_next_1 : decode cX12_next 1 = .ok (.aload_n 0, 1) := by decide +kernel
theorem dX12_next_2 : decode cX12_next 2 = .ok (.getfield 17, 3) := by decide +kernel
theorem dX12_next_5 : decode cX12_next 5 = .ok (.putfield 20, 3) := by decide +kernel
theorem dX12_next_8 : decode cX12_next 8 = .ok (.aload_n 0, 1) := by decide +kernel
theorem dX12_next_9 : decode cX12_next 9 = .ok (.getfield 20, 3) := by decide +kernel
theorem dX12_next_12 : decode cX12_next 12 = .ok (.aload_n 0, 1) := by decide +kernel
theorem dX12_next_13 : decode cX12_next 13 = .ok (.getfield 1, 3) := by decide +kernel
theorem dX12_next_16 : decode cX12_next 16 = .ok (.if_icmp .ge 42, 3) := by decide +kernel
theorem dX12_next_19 : decode cX12_next 19 = .ok (.aload_n 0, 1) := by decide +kernel
theorem dX12_next_20 : decode cX12_next 20 = .ok (.aload_n 0, 1) := by decide +kernel
theorem dX12_next_21 : decode cX12_next 21 = .ok (.getfield 20, 3) := by decide +kernel
theorem dX12_next_24 : decode cX12_next 24 = .ok (.invokevirtual 23, 3) := by decide +kernel
theorem dX12_next_27 : decode cX12_next 27 = .ok (.bipush 32, 2) := by decide +kernel
theorem dX12_next_29 : decode cX12_next 29 = .ok (.if_icmp .eq 16, 3) := by decide +kernel
theorem dX12_next_32 : decode cX12_next 32 = .ok (.aload_n 0, 1) := by decide +kernel
theorem dX12_next_33 : decode cX12_next 33 = .ok (.aload_n 0, 1) := by decide +kernel
theorem dX12_next_34 : decode cX12_next 34 = .ok (.getfield 20, 3) := by decide +kernel
theorem dX12_next_37 : decode cX12_next 37 = .ok (.invokevirtual 23, 3) := by decide +kernel
theorem dX12_next_40 : decode cX12_next 40 = .ok (.bipush 10, 2) := by decide +kernel
theorem dX12_next_42 : decode cX12_next 42 = .ok (.if_icmp .ne 16, 3) := by decide +kernel
theorem dX12_next_45 : decode cX12_next 45 = .ok (.aload_n 0, 1) := by decide +kernel
theorem dX12_next_46 : decode cX12_next 46 = .ok (.dup, 1) := by decide +kernel
theorem dX12_next_47 : decode cX12_next 47 = .ok (.getfield 20, 3) := by decide +kernel
theorem dX12_next_50 : decode cX12_next 50 = .ok (.iconst 1, 1) := by decide +kernel
theorem dX12_next_51 : decode cX12_next 51 = .ok (.iadd, 1) := by decide +kernel
theorem dX12_next_52 : decode cX12_next 52 = .ok (.putfield 20, 3) := by decide +kernel
theorem dX12_next_55 : decode cX12_next 55 = .ok (.goto (-47), 3) := by decide +kernel
theorem dX12_next_58 : decode cX12_next 58 = .ok (.aload_n 0, 1) := by decide +kernel
theorem dX12_next_59 : decode cX12_next 59 = .ok (.aload_n 0, 1) := by decide +kernel
theorem dX12_next_60 : decode cX12_next 60 = .ok (.getfield 20, 3) := by decide +kernel
theorem dX12_next_63 : decode cX12_next 63 = .ok (.invokevirtual 23, 3) := by decide +kernel
theorem dX12_next_66 : decode cX12_next 66 = .ok (.istore_n 1, 1) := by decide +kernel
theorem dX12_next_67 : decode cX12_next 67 = .ok (.aload_n 0, 1) := by decide +kernel
theorem dX12_next_68 : decode cX12_next 68 = .ok (.aload_n 0, 1) := by decide +kernel
theorem dX12_next_69 : decode cX12_next 69 = .ok (.getfield 20, 3) := by decide +kernel
theorem dX12_next_72 : decode cX12_next 72 = .ok (.iconst 1, 1) := by decide +kernel
theorem dX12_next_73 : decode cX12_next 73 = .ok (.iadd, 1) := by decide +kernel
theorem dX12_next_74 : decode cX12_next 74 = .ok (.putfield 17, 3) := by decide +kernel
theorem dX12_next_77 : decode cX12_next 77 = .ok (.aload_n 0, 1) := by decide +kernel
theorem dX12_next_78 : decode cX12_next 78 = .ok (.getfield 20, 3) := by decide +kernel
theorem dX12_next_81 : decode cX12_next 81 = .ok (.aload_n 0, 1) := by decide +kernel
theorem dX12_next_82 : decode cX12_next 82 = .ok (.getfield 1, 3) := by decide +kernel
theorem dX12_next_85 : decode cX12_next 85 = .ok (.if_icmp .lt 27, 3) := by decide +kernel
theorem dX12_next_88 : decode cX12_next 88 = .ok (.aload_n 0, 1) := by decide +kernel
theorem dX12_next_89 : decode cX12_next 89 = .ok (.iconst 0, 1) := by decide +kernel
theorem dX12_next_90 : decode cX12_next 90 = .ok (.putfield 27, 3) := by decide +kernel
theorem dX12_next_93 : decode cX12_next 93 = .ok (.aload_n 0, 1) := by decide +kernel
theorem dX12_next_94 : decode cX12_next 94 = .ok (.aload_n 0, 1) := by decide +kernel
theorem dX12_next_95 : decode cX12_next 95 = .ok (.getfield 1, 3) := by decide +kernel
theorem dX12_next_98 : decode cX12_next 98 = .ok (.putfield 20, 3) := by decide +kernel
theorem dX12_next_101 : decode cX12_next 101 = .ok (.aload_n 0, 1) := by decide +kernel
theorem dX12_next_102 : decode cX12_next 102 = .ok (.aload_n 0, 1) := by decide +kernel
theorem dX12_next_103 : decode cX12_next 103 = .ok (.getfield 1, 3) := by decide +kernel
theorem dX12_next_106 : decode cX12_next 106 = .ok (.putfield 17, 3) := by decide +kernel
theorem dX12_next_109 : decode cX12_next 109 = .ok (.goto 302, 3) := by decide +kernel
theorem dX12_next_112 : decode cX12_next 112 = .ok (.iload_n 1, 1) := by decide +kernel
theorem dX12_next_113 : decode cX12_next 113 = .ok (.invokestatic 30, 3) := by decide +kernel
theorem dX12_next_116 : decode cX12_next 116 = .ok (.ifCond .eq 146, 3) := by decide +kernel
theorem dX12_next_119 : decode cX12_next 119 = .ok (.aload_n 0, 1) := by decide +kernel
theorem dX12_next_120 : decode cX12_next 120 = .ok (.aload_n 0, 1) := by decide +kernel
theorem dX12_next_121 : decode cX12_next 121 = .ok (.getfield 17, 3) := by decide +kernel
theorem dX12_next_124 : decode cX12_next 124 = .ok (.invokevirtual 23, 3) := by decide +kernel
theorem dX12_next_127 : decode cX12_next 127 = .ok (.invokestatic 30, 3) := by decide +kernel
theorem dX12_next_130 : decode cX12_next 130 = .ok (.ifCond .eq 16, 3) := by decide +kernel
theorem dX12_next_133 : decode cX12_next 133 = .ok (.aload_n 0, 1) := by decide +kernel
theorem dX12_next_134 : decode cX12_next 134 = .ok (.dup, 1) := by decide +kernel
theorem dX12_next_135 : decode cX12_next 135 = .ok (.getfield 17, 3) := by decide +kernel
theorem dX12_next_138 : decode cX12_next 138 = .ok (.iconst 1, 1) := by decide +kernel
theorem dX12_next_139 : decode cX12_next 139 = .ok (.iadd, 1) := by decide +kernel
theorem dX12_next_140 : decode cX12_next 140 = .ok (.putfield 17, 3) := by decide +kernel
theorem dX12_next_143 : decode cX12_next 143 = .ok (.goto (-24), 3) := by decide +kernel
theorem dX12_next_146 : decode cX12_next 146 = .ok (.aload_n 0, 1) := by decide +kernel
theorem dX12_next_147 : decode cX12_next 147 = .ok (.lconst 0, 1) := by decide +kernel
theorem dX12_next_148 : decode cX12_next 148 = .ok (.putfield 34, 3) := by decide +kernel
theorem dX12_next_151 : decode cX12_next 151 = .ok (.aload_n 0, 1) := by decide +kernel
theorem dX12_next_152 : decode cX12_next 152 = .ok (.getfield 20, 3) := by decide +kernel
theorem dX12_next_155 : decode cX12_next 155 = .ok (.istore_n 2, 1) := by decide +kernel
theorem dX12_next_156 : decode cX12_next 156 = .ok (.iload_n 2, 1) := by decide +kernel
theorem dX12_next_157 : decode cX12_next 157 = .ok (.aload_n 0, 1) := by decide +kernel
theorem dX12_next_158 : decode cX12_next 158 = .ok (.getfield 17, 3) := by decide +kernel
theorem dX12_next_161 : decode cX12_next 161 = .ok (.if_icmp .ge 38, 3) := by decide +kernel
theorem dX12_next_164 : decode cX12_next 164 = .ok (.iload_n 2, 1) := by decide +kernel
theorem dX12_next_165 : decode cX12_next 165 = .ok (.aload_n 0, 1) := by decide +kernel
theorem dX12_next_166 : decode cX12_next 166 = .ok (.getfield 20, 3) := by decide +kernel
theorem dX12_next_169 : decode cX12_next 169 = .ok (.bipush 8, 2) := by decide +kernel
theorem dX12_next_171 : decode cX12_next 171 = .ok (.iadd, 1) := by decide +kernel
theorem dX12_next_172 : decode cX12_next 172 = .ok (.if_icmp .ge 27, 3) := by decide +kernel
theorem dX12_next_175 : decode cX12_next 175 = .ok (.aload_n 0, 1) := by decide +kernel
theorem dX12_next_176 : decode cX12_next 176 = .ok (.aload_n 0, 1) := by decide +kernel
theorem dX12_next_177 : decode cX12_next 177 = .ok (.getfield 34, 3) := by decide +kernel
theorem dX12_next_180 : decode cX12_next 180 = .ok (.bipush 8, 2) := by decide +kernel
theorem dX12_next_182 : decode cX12_next 182 = .ok (.lshl, 1) := by decide +kernel
theorem dX12_next_183 : decode cX12_next 183 = .ok (.aload_n 0, 1) := by decide +kernel
theorem dX12_next_184 : decode cX12_next 184 = .ok (.iload_n 2, 1) := by decide +kernel
theorem dX12_next_185 : decode cX12_next 185 = .ok (.invokevirtual 23, 3) := by decide +kernel
theorem dX12_next_188 : decode cX12_next 188 = .ok (.i2l, 1) := by decide +kernel
theorem dX12_next_189 : decode cX12_next 189 = .ok (.lor, 1) := by decide +kernel
theorem dX12_next_190 : decode cX12_next 190 = .ok (.putfield 34, 3) := by decide +kernel
theorem dX12_next_193 : decode cX12_next 193 = .ok (.iinc 2 1, 3) := by decide +kernel
theorem dX12_next_196 : decode cX12_next 196 = .ok (.goto (-40), 3) := by decide +kernel
theorem dX12_next_199 : decode cX12_next 199 = .ok (.aload_n 0, 1) := by decide +kernel
theorem dX12_next_200 : decode cX12_next 200 = .ok (.aload_n 0, 1) := by decide +kernel
theorem dX12_next_201 : decode cX12_next 201 = .ok (.getfield 17, 3) := by decide +kernel
theorem dX12_next_204 : decode cX12_next 204 = .ok (.aload_n 0, 1) := by decide +kernel
theorem dX12_next_205 : decode cX12_next 205 = .ok (.getfield 20, 3) := by decide +kernel
theorem dX12_next_208 : decode cX12_next 208 = .ok (.isub, 1) := by decide +kernel
theorem dX12_next_209 : decode cX12_next 209 = .ok (.bipush 8, 2) := by decide +kernel
theorem dX12_next_211 : decode cX12_next 211 = .ok (.if_icmp .le 7, 3) := by decide +kernel
theorem dX12_next_214 : decode cX12_next 214 = .ok (.iconst 1, 1) := by decide +kernel
theorem dX12_next_215 : decode cX12_next 215 = .ok (.goto 41, 3) := by decide +kernel
theorem dX12_next_218 : decode cX12_next 218 = .ok (.aload_n 0, 1) := by decide +kernel
theorem dX12_next_219 : decode cX12_next 219 = .ok (.getfield 34, 3) := by decide +kernel
theorem dX12_next_222 : decode cX12_next 222 = .ok (.ldc2_w 38, 3) := by decide +kernel
theorem dX12_next_225 : decode cX12_next 225 = .ok (.lcmp, 1) := by decide +kernel
theorem dX12_next_226 : decode cX12_next 226 = .ok (.ifCond .eq 25, 3) := by decide +kernel
theorem dX12_next_229 : decode cX12_next 229 = .ok (.aload_n 0, 1) := by decide +kernel
theorem dX12_next_230 : decode cX12_next 230 = .ok (.getfield 34, 3) := by decide +kernel
theorem dX12_next_233 : decode cX12_next 233 = .ok (.ldc2_w 40, 3) := by decide +kernel
theorem dX12_next_236 : decode cX12_next 236 = .ok (.lcmp, 1) := by decide +kernel
theorem dX12_next_237 : decode cX12_next 237 = .ok (.ifCond .eq 14, 3) := by decide +kernel
theorem dX12_next_240 : decode cX12_next 240 = .ok (.aload_n 0, 1) := by decide +kernel
theorem dX12_next_241 : decode cX12_next 241 = .ok (.getfield 34, 3) := by decide +kernel
theorem dX12_next_244 : decode cX12_next 244 = .ok (.ldc2_w 42, 3) := by decide +kernel
theorem dX12_next_247 : decode cX12_next 247 = .ok (.lcmp, 1) := by decide +kernel
theorem dX12_next_248 : decode cX12_next 248 = .ok (.ifCond .ne 7, 3) := by decide +kernel
theorem dX12_next_251 : decode cX12_next 251 = .ok (.iconst 3, 1) := by decide +kernel
theorem dX12_next_252 : decode cX12_next 252 = .ok (.goto 4, 3) := by decide +kernel
theorem dX12_next_255 : decode cX12_next 255 = .ok (.iconst 2, 1) := by decide +kernel
theorem dX12_next_256 : decode cX12_next 256 = .ok (.putfield 27, 3) := by decide +kernel
theorem dX12_next_259 : decode cX12_next 259 = .ok (.goto 152, 3) := by decide +kernel
theorem dX12_next_262 : decode cX12_next 262 = .ok (.iload_n 1, 1) := by decide +kernel
theorem dX12_next_263 : decode cX12_next 263 = .ok (.invokestatic 44, 3) := by decide +kernel
theorem dX12_next_266 : decode cX12_next 266 = .ok (.ifCond .eq 118, 3) := by decide +kernel
theorem dX12_next_269 : decode cX12_next 269 = .ok (.aload_n 0, 1) := by decide +kernel
theorem dX12_next_270 : decode cX12_next 270 = .ok (.iconst 0, 1) := by decide +kernel
theorem dX12_next_271 : decode cX12_next 271 = .ok (.putfield 47, 3) := by decide +kernel
theorem dX12_next_274 : decode cX12_next 274 = .ok (.aload_n 0, 1) := by decide +kernel
theorem dX12_next_275 : decode cX12_next 275 = .ok (.aload_n 0, 1) := by decide +kernel
theorem dX12_next_276 : decode cX12_next 276 = .ok (.getfield 20, 3) := by decide +kernel
theorem dX12_next_279 : decode cX12_next 279 = .ok (.putfield 17, 3) := by decide +kernel
theorem dX12_next_282 : decode cX12_next 282 = .ok (.aload_n 0, 1) := by decide +kernel
theorem dX12_next_283 : decode cX12_next 283 = .ok (.aload_n 0, 1) := by decide +kernel
theorem dX12_next_284 : decode cX12_next 284 = .ok (.getfield 17, 3) := by decide +kernel
theorem dX12_next_287 : decode cX12_next 287 = .ok (.invokevirtual 23, 3) := by decide +kernel
theorem dX12_next_290 : decode cX12_next 290 = .ok (.invokestatic 44, 3) := by decide +kernel
theorem dX12_next_293 : decode cX12_next 293 = .ok (.ifCond .eq 52, 3) := by decide +kernel
theorem dX12_next_296 : decode cX12_next 296 = .ok (.aload_n 0, 1) := by decide +kernel
theorem dX12_next_297 : decode cX12_next 297 = .ok (.getfield 17, 3) := by decide +kernel
theorem dX12_next_300 : decode cX12_next 300 = .ok (.aload_n 0, 1) := by decide +kernel
theorem dX12_next_301 : decode cX12_next 301 = .ok (.getfield 20, 3) := by decide +kernel
theorem dX12_next_304 : decode cX12_next 304 = .ok (.isub, 1) := by decide +kernel
theorem dX12_next_305 : decode cX12_next 305 = .ok (.iconst 4, 1) := by decide +kernel
theorem dX12_next_306 : decode cX12_next 306 = .ok (.if_icmp .ge 26, 3) := by decide +kernel
theorem dX12_next_309 : decode cX12_next 309 = .ok (.aload_n 0, 1) := by decide +kernel
theorem dX12_next_310 : decode cX12_next 310 = .ok (.bipush 10, 2) := by decide +kernel
theorem dX12_next_312 : decode cX12_next 312 = .ok (.aload_n 0, 1) := by decide +kernel
theorem dX12_next_313 : decode cX12_next 313 = .ok (.getfield 47, 3) := by decide +kernel
theorem dX12_next_316 : decode cX12_next 316 = .ok (.imul, 1) := by decide +kernel
theorem dX12_next_317 : decode cX12_next 317 = .ok (.aload_n 0, 1) := by decide +kernel
theorem dX12_next_318 : decode cX12_next 318 = .ok (.aload_n 0, 1) := by decide +kernel
theorem dX12_next_319 : decode cX12_next 319 = .ok (.getfield 17, 3) := by decide +kernel
theorem dX12_next_322 : decode cX12_next 322 = .ok (.invokevirtual 23, 3) := by decide +kernel
theorem dX12_next_325 : decode cX12_next 325 = .ok (.iadd, 1) := by decide +kernel
theorem dX12_next_326 : decode cX12_next 326 = .ok (.bipush 48, 2) := by decide +kernel
theorem dX12_next_328 : decode cX12_next 328 = .ok (.isub, 1) := by decide +kernel
theorem dX12_next_329 : decode cX12_next 329 = .ok (.putfield 47, 3) := by decide +kernel
theorem dX12_next_332 : decode cX12_next 332 = .ok (.aload_n 0, 1) := by decide +kernel
theorem dX12_next_333 : decode cX12_next 333 = .ok (.dup, 1) := by decide +kernel
theorem dX12_next_334 : decode cX12_next 334 = .ok (.getfield 17, 3) := by decide +kernel
theorem dX12_next_337 : decode cX12_next 337 = .ok (.iconst 1, 1) := by decide +kernel
theorem dX12_next_338 : decode cX12_next 338 = .ok (.iadd, 1) := by decide +kernel
theorem dX12_next_339 : decode cX12_next 339 = .ok (.putfield 17, 3) := by decide +kernel
theorem dX12_next_342 : decode cX12_next 342 = .ok (.goto (-60), 3) := by decide +kernel
theorem dX12_next_345 : decode cX12_next 345 = .ok (.aload_n 0, 1) := by decide +kernel
theorem dX12_next_346 : decode cX12_next 346 = .ok (.aload_n 0, 1) := by decide +kernel
theorem dX12_next_347 : decode cX12_next 347 = .ok (.getfield 17, 3) := by decide +kernel
theorem dX12_next_350 : decode cX12_next 350 = .ok (.aload_n 0, 1) := by decide +kernel
theorem dX12_next_351 : decode cX12_next 351 = .ok (.getfield 20, 3) := by decide +kernel
theorem dX12_next_354 : decode cX12_next 354 = .ok (.isub, 1) := by decide +kernel
theorem dX12_next_355 : decode cX12_next 355 = .ok (.iconst 4, 1) := by decide +kernel
theorem dX12_next_356 : decode cX12_next 356 = .ok (.if_icmp .gt 17, 3) := by decide +kernel
theorem dX12_next_359 : decode cX12_next 359 = .ok (.aload_n 0, 1) := by decide +kernel
theorem dX12_next_360 : decode cX12_next 360 = .ok (.aload_n 0, 1) := by decide +kernel
theorem dX12_next_361 : decode cX12_next 361 = .ok (.getfield 17, 3) := by decide +kernel
theorem dX12_next_364 : decode cX12_next 364 = .ok (.invokevirtual 23, 3) := by decide +kernel
theorem dX12_next_367 : decode cX12_next 367 = .ok (.invokestatic 30, 3) := by decide +kernel
theorem dX12_next_370 : decode cX12_next 370 = .ok (.ifCond .eq 7, 3) := by decide +kernel
theorem dX12_next_373 : decode cX12_next 373 = .ok (.iconst 1, 1) := by decide +kernel
theorem dX12_next_374 : decode cX12_next 374 = .ok (.goto 4, 3) := by decide +kernel
theorem dX12_next_377 : decode cX12_next 377 = .ok (.iconst 4, 1) := by decide +kernel
theorem dX12_next_378 : decode cX12_next 378 = .ok (.putfield 27, 3) := by decide +kernel
theorem dX12_next_381 : decode cX12_next 381 = .ok (.goto 30, 3) := by decide +kernel
theorem dX12_next_384 : decode cX12_next 384 = .ok (.aload_n 0, 1) := by decide +kernel
theorem dX12_next_385 : decode cX12_next 385 = .ok (.iload_n 1, 1) := by decide +kernel
theorem dX12_next_386 : decode cX12_next 386 = .ok (.bipush 58, 2) := by decide +kernel
theorem dX12_next_388 : decode cX12_next 388 = .ok (.if_icmp .eq 15, 3) := by decide +kernel
theorem dX12_next_391 : decode cX12_next 391 = .ok (.iload_n 1, 1) := by decide +kernel
theorem dX12_next_392 : decode cX12_next 392 = .ok (.bipush 44, 2) := by decide +kernel
theorem dX12_next_394 : decode cX12_next 394 = .ok (.if_icmp .eq 9, 3) := by decide +kernel
theorem dX12_next_397 : decode cX12_next 397 = .ok (.iload_n 1, 1) := by decide +kernel
theorem dX12_next_398 : decode cX12_next 398 = .ok (.bipush 59, 2) := by decide +kernel
theorem dX12_next_400 : decode cX12_next 400 = .ok (.if_icmp .ne 7, 3) := by decide +kernel
theorem dX12_next_403 : decode cX12_next 403 = .ok (.iconst 5, 1) := by decide +kernel
theorem dX12_next_404 : decode cX12_next 404 = .ok (.goto 4, 3) := by decide +kernel
theorem dX12_next_407 : decode cX12_next 407 = .ok (.iconst 1, 1) := by decide +kernel
theorem dX12_next_408 : decode cX12_next 408 = .ok (.putfield 27, 3) := by decide +kernel
theorem dX12_next_411 : decode cX12_next 411 = .ok (.return_, 1) := by decide +kernel
set_option maxHeartbeats 4000000 in
set_option maxRecDepth 20000 in
theorem c_X12_next (l : Launch) (b : Nat) (D : va_G) (cy : Nat → ClassId) {tt : Nat} {M0 : xMm} (hJ0 : JN M0) (h70 : 0 ≤ M0 172 7 ∧ M0 172 7 ≤ M0 172 3) : xC l b D cy yX12_next cX12_next 3 none ({ frames := 1, cells := 0, slots := 0, locals := 21 }) [xr 172] 209 M0 (RS tt) (xPv 209 (RS tt) (fun M' => JM M' ∧ frK 6 M' M0)) := by
  refine x_met (by decide) (Nat.le_of_ble_eq_true rfl) (fun g hg hr he => ?_)
  refine x_canon (ls' := [(0, _)]) rfl ?_
  have fin : ∀ (M : xMm), JN M → (0 ≤ M 172 6 ∧ M 172 6 ≤ M 172 3) → (0 ≤ M 172 7 ∧ M 172 7 ≤ M 172 3) → frK 6 M M0 → ∀ p : Int, inR p → (209 : Nat) = 209 ∧ RS tt = RS tt ∧ (none : Option xV) = none ∧ JM (mu M 172 8 p) ∧ frK 6 (mu M 172 8 p) M0 := by
    intro M hJ h6 h7 hk p hp
    exact ⟨rfl, rfl, rfl, ⟨JN_mu hJ (by omega), by simp (disch := omega) only [mu_s, mu_nf, mu_nc]; omega, by simp (disch := omega) only [mu_s, mu_nf, mu_nc]; omega⟩, frK_mu hk (by omega)⟩
  have j256 : ∀ (M : xMm) (c k : Int), JN M → (0 ≤ M 172 6 ∧ M 172 6 ≤ M 172 3) → (0 ≤ M 172 7 ∧ M 172 7 ≤ M 172 3) → frK 6 M M0 → ∀ p : Int, inR p → xW g 209 M (RS tt) 0 0 256 [(0, xr 172), (1, xi c), (2, xi k)] [xi p, xr 172] := by
    intro M c k hJ h6 h7 hk p hp
    refine x_putI hg dX12_next_256 fl_X12_27 ft_12_8 (by decide) rfl ?_
    refine x_goto (tgt := 411) hg dX12_next_259 (by decide) ?_
    refine x_vret hg hr dX12_next_411 (Nat.le_refl _) (Nat.le_refl _) ?_
    exact fin M hJ h6 h7 hk p hp
  have j378 : ∀ (M : xMm) (c : Int), JN M → (0 ≤ M 172 6 ∧ M 172 6 ≤ M 172 3) → (0 ≤ M 172 7 ∧ M 172 7 ≤ M 172 3) → frK 6 M M0 → ∀ p : Int, inR p → xW g 209 M (RS tt) 0 0 378 [(0, xr 172), (1, xi c)] [xi p, xr 172] := by
    intro M c hJ h6 h7 hk p hp
    refine x_putI hg dX12_next_378 fl_X12_27 ft_12_8 (by decide) rfl ?_
    refine x_goto (tgt := 411) hg dX12_next_381 (by decide) ?_
    refine x_vret hg hr dX12_next_411 (Nat.le_refl _) (Nat.le_refl _) ?_
    exact fin M hJ h6 h7 hk p hp
  have j408 : ∀ (M : xMm) (c : Int), JN M → (0 ≤ M 172 6 ∧ M 172 6 ≤ M 172 3) → (0 ≤ M 172 7 ∧ M 172 7 ≤ M 172 3) → frK 6 M M0 → ∀ p : Int, inR p → xW g 209 M (RS tt) 0 0 408 [(0, xr 172), (1, xi c)] [xi p, xr 172] := by
    intro M c hJ h6 h7 hk p hp
    refine x_putI hg dX12_next_408 fl_X12_27 ft_12_8 (by decide) rfl ?_
    refine x_vret hg hr dX12_next_411 (Nat.le_refl _) (Nat.le_refl _) ?_
    exact fin M hJ h6 h7 hk p hp
  have loopC : ∀ (n1 : Nat) (M : xMm) (c k : Int), JN M → (0 ≤ M 172 6 ∧ M 172 6 ≤ M 172 3) → (M 172 6 ≤ M 172 7 ∧ M 172 7 ≤ M 172 3) → 0 ≤ k → 1001 - k < n1 → k ≤ 1001 → frK 6 M M0 → xW g 209 M (RS tt) 0 0 156 [(0, xr 172), (1, xi c), (2, xi k)] [] := by
    intro n1
    induction n1 with
    | zero => intro M c k hJ h6 h7 hk0 hn hk1 hk; exfalso; omega
    | succ n1 ih =>
      intro M c k hJ h6 h7 hk0 hn hk1 hk
      have hsz := hJ.2.1
      have hnm := hJ.2.2.2.2.2
      have h8 := hJ.2.2.2.1
      refine x_iload_n hg dX12_next_156 rfl ?_
      refine x_aload_n hg dX12_next_157 rfl ?_
      refine x_getI hg dX12_next_158 fl_X12_17 (by decide) rfl ?_
      refine x_icmp_ge (tgt := 199) hg dX12_next_161 (by decide) (by omega) (by omega) (fun c161 => ?_) (fun c161 => ?_)
      · skip
        refine x_aload_n hg dX12_next_199 rfl ?_
        refine x_aload_n hg dX12_next_200 rfl ?_
        refine x_getI hg dX12_next_201 fl_X12_17 (by decide) rfl ?_
        refine x_aload_n hg dX12_next_204 rfl ?_
        refine x_getI hg dX12_next_205 fl_X12_20 (by decide) rfl ?_
        refine x_isub hg dX12_next_208 ?_
        refine x_bipush hg dX12_next_209 (by decide) ?_
        refine x_icmp_le (tgt := 218) hg dX12_next_211 (by decide) (by omega) (by omega) (fun c211 => ?_) (fun c211 => ?_)
        · skip
          refine x_aload_n hg dX12_next_218 rfl ?_
          refine x_getL hg dX12_next_219 fl_X12_34 (by decide) rfl ?_
          refine x_ldc2 hg 500135192942 dX12_next_222 (List.mem_of_getElem? (i := 829) (by decide +kernel)) ?_
          refine x_lcmp hg dX12_next_225 (by exact hnm) (by decide) ?_
          refine x_if_eq (tgt := 251) hg dX12_next_226 (by decide) (by split <;> (try split) <;> omega) (fun c226 => ?_) (fun c226 => ?_)
          · skip
            refine x_iconst hg dX12_next_251 ?_
            refine x_goto (tgt := 256) hg dX12_next_252 (by decide) ?_
            exact j256 M c k hJ h6 (by omega) hk _ (by omega)
          · skip
            refine x_aload_n hg dX12_next_229 rfl ?_
            refine x_getL hg dX12_next_230 fl_X12_34 (by decide) rfl ?_
            refine x_ldc2 hg 27973166868030835 dX12_next_233 (List.mem_of_getElem? (i := 830) (by decide +kernel)) ?_
            refine x_lcmp hg dX12_next_236 (by exact hnm) (by decide) ?_
            refine x_if_eq (tgt := 251) hg dX12_next_237 (by decide) (by split <;> (try split) <;> omega) (fun c237 => ?_) (fun c237 => ?_)
            · skip
              refine x_iconst hg dX12_next_251 ?_
              refine x_goto (tgt := 256) hg dX12_next_252 (by decide) ?_
              exact j256 M c k hJ h6 (by omega) hk _ (by omega)
            · skip
              refine x_aload_n hg dX12_next_240 rfl ?_
              refine x_getL hg dX12_next_241 fl_X12_34 (by decide) rfl ?_
              refine x_ldc2 hg 24948 dX12_next_244 (List.mem_of_getElem? (i := 831) (by decide +kernel)) ?_
              refine x_lcmp hg dX12_next_247 (by exact hnm) (by decide) ?_
              refine x_if_ne (tgt := 255) hg dX12_next_248 (by decide) (by split <;> (try split) <;> omega) (fun c248 => ?_) (fun c248 => ?_)
              · skip
                refine x_iconst hg dX12_next_255 ?_
                exact j256 M c k hJ h6 (by omega) hk _ (by omega)
              · skip
                refine x_iconst hg dX12_next_251 ?_
                refine x_goto (tgt := 256) hg dX12_next_252 (by decide) ?_
                exact j256 M c k hJ h6 (by omega) hk _ (by omega)
        · skip
          refine x_iconst hg dX12_next_214 ?_
          refine x_goto (tgt := 256) hg dX12_next_215 (by decide) ?_
          exact j256 M c k hJ h6 (by omega) hk _ (by omega)
      · skip
        refine x_iload_n hg dX12_next_164 rfl ?_
        refine x_aload_n hg dX12_next_165 rfl ?_
        refine x_getI hg dX12_next_166 fl_X12_20 (by decide) rfl ?_
        refine x_bipush hg dX12_next_169 (by decide) ?_
        refine x_iadd hg dX12_next_171 ?_
        refine x_icmp_ge (tgt := 199) hg dX12_next_172 (by decide) (by omega) (by omega) (fun c172 => ?_) (fun c172 => ?_)
        · skip
          refine x_aload_n hg dX12_next_199 rfl ?_
          refine x_aload_n hg dX12_next_200 rfl ?_
          refine x_getI hg dX12_next_201 fl_X12_17 (by decide) rfl ?_
          refine x_aload_n hg dX12_next_204 rfl ?_
          refine x_getI hg dX12_next_205 fl_X12_20 (by decide) rfl ?_
          refine x_isub hg dX12_next_208 ?_
          refine x_bipush hg dX12_next_209 (by decide) ?_
          refine x_icmp_le (tgt := 218) hg dX12_next_211 (by decide) (by omega) (by omega) (fun c211 => ?_) (fun c211 => ?_)
          · skip
            refine x_aload_n hg dX12_next_218 rfl ?_
            refine x_getL hg dX12_next_219 fl_X12_34 (by decide) rfl ?_
            refine x_ldc2 hg 500135192942 dX12_next_222 (List.mem_of_getElem? (i := 829) (by decide +kernel)) ?_
            refine x_lcmp hg dX12_next_225 (by exact hnm) (by decide) ?_
            refine x_if_eq (tgt := 251) hg dX12_next_226 (by decide) (by split <;> (try split) <;> omega) (fun c226 => ?_) (fun c226 => ?_)
            · skip
              refine x_iconst hg dX12_next_251 ?_
              refine x_goto (tgt := 256) hg dX12_next_252 (by decide) ?_
              exact j256 M c k hJ h6 (by omega) hk _ (by omega)
            · skip
              refine x_aload_n hg dX12_next_229 rfl ?_
              refine x_getL hg dX12_next_230 fl_X12_34 (by decide) rfl ?_
              refine x_ldc2 hg 27973166868030835 dX12_next_233 (List.mem_of_getElem? (i := 830) (by decide +kernel)) ?_
              refine x_lcmp hg dX12_next_236 (by exact hnm) (by decide) ?_
              refine x_if_eq (tgt := 251) hg dX12_next_237 (by decide) (by split <;> (try split) <;> omega) (fun c237 => ?_) (fun c237 => ?_)
              · skip
                refine x_iconst hg dX12_next_251 ?_
                refine x_goto (tgt := 256) hg dX12_next_252 (by decide) ?_
                exact j256 M c k hJ h6 (by omega) hk _ (by omega)
              · skip
                refine x_aload_n hg dX12_next_240 rfl ?_
                refine x_getL hg dX12_next_241 fl_X12_34 (by decide) rfl ?_
                refine x_ldc2 hg 24948 dX12_next_244 (List.mem_of_getElem? (i := 831) (by decide +kernel)) ?_
                refine x_lcmp hg dX12_next_247 (by exact hnm) (by decide) ?_
                refine x_if_ne (tgt := 255) hg dX12_next_248 (by decide) (by split <;> (try split) <;> omega) (fun c248 => ?_) (fun c248 => ?_)
                · skip
                  refine x_iconst hg dX12_next_255 ?_
                  exact j256 M c k hJ h6 (by omega) hk _ (by omega)
                · skip
                  refine x_iconst hg dX12_next_251 ?_
                  refine x_goto (tgt := 256) hg dX12_next_252 (by decide) ?_
                  exact j256 M c k hJ h6 (by omega) hk _ (by omega)
          · skip
            refine x_iconst hg dX12_next_214 ?_
            refine x_goto (tgt := 256) hg dX12_next_215 (by decide) ?_
            exact j256 M c k hJ h6 (by omega) hk _ (by omega)
        · skip
          refine x_aload_n hg dX12_next_175 rfl ?_
          refine x_aload_n hg dX12_next_176 rfl ?_
          refine x_getL hg dX12_next_177 fl_X12_34 (by decide) rfl ?_
          refine x_bipush hg dX12_next_180 (by decide) ?_
          refine x_lshl hg dX12_next_182 ?_
          refine x_aload_n hg dX12_next_183 rfl ?_
          refine x_iload_n hg dX12_next_184 rfl ?_
          refine x_cVi hg he [_] [_, _] dX12_next_185 mv_X12_23 (c_X12_sign l b D cy hJ (by omega)) (by decide) rfl rfl (Nat.le_of_ble_eq_true rfl) (by decide) (by decide) (fun r185 M185 q185 => ?_)
          obtain ⟨h185, e185, f185, v185⟩ := q185
          replace h185 := h185.symm
          subst h185
          refine x_i2l hg dX12_next_188 (by omega) ?_
          refine x_lor hg dX12_next_189 ?_
          refine x_wrapl (fun a190 h190 => ?_)
          refine x_putL hg dX12_next_190 fl_X12_34 ft_12_10 (by decide) rfl ?_
          refine x_iinc (ls' := [(0, _), (1, _), (2, _)]) hg dX12_next_193 rfl (by decide) rfl ?_
          refine x_goto (tgt := 156) hg dX12_next_196 (by decide) ?_
          exact ih _ _ _ (JN_mu hJ (by omega)) (by simp (disch := omega) only [mu_s, mu_nf, mu_nc]; omega) (by simp (disch := omega) only [mu_s, mu_nf, mu_nc]; omega) (by omega) (by omega) (by omega) (frK_mu hk (by omega))
  have loopB : ∀ (n1 : Nat) (M : xMm) (c : Int), JN M → (0 ≤ M 172 6 ∧ M 172 6 ≤ M 172 3) → (M 172 6 ≤ M 172 7 ∧ M 172 7 ≤ M 172 3) → M 172 3 - M 172 7 < n1 → frK 6 M M0 → xW g 209 M (RS tt) 0 0 119 [(0, xr 172), (1, xi c)] [] := by
    intro n1
    induction n1 with
    | zero => intro M c hJ h6 h7 hn hk; exfalso; omega
    | succ n1 ih =>
      intro M c hJ h6 h7 hn hk
      have hsz := hJ.2.1
      have hnm := hJ.2.2.2.2.2
      have h8 := hJ.2.2.2.1
      refine x_aload_n hg dX12_next_119 rfl ?_
      refine x_aload_n hg dX12_next_120 rfl ?_
      refine x_getI hg dX12_next_121 fl_X12_17 (by decide) rfl ?_
      refine x_cVi hg he [_] [] dX12_next_124 mv_X12_23 (c_X12_sign l b D cy hJ (by omega)) (by decide) rfl rfl (Nat.le_of_ble_eq_true rfl) (by decide) (by decide) (fun r124 M124 q124 => ?_)
      obtain ⟨h124, e124, f124, v124⟩ := q124
      replace h124 := h124.symm
      subst h124
      refine x_cSi hg he [_] [] dX12_next_127 ms_X12_30 (c_X12_isLetter l b D cy (by omega)) rfl rfl (Nat.le_of_ble_eq_true rfl) (by decide) (by decide) (fun r127 M127 q127 => ?_)
      obtain ⟨h127, e127⟩ := q127
      replace h127 := h127.symm
      subst h127
      refine x_if_eq (tgt := 146) hg dX12_next_130 (by decide) (by omega) (fun c130 => ?_) (fun c130 => ?_)
      · skip
        refine x_aload_n hg dX12_next_146 rfl ?_
        refine x_lconst (z := 0) hg dX12_next_147 rfl ?_
        refine x_putL hg dX12_next_148 fl_X12_34 ft_12_10 (by decide) rfl ?_
        refine x_aload_n hg dX12_next_151 rfl ?_
        refine x_getI hg dX12_next_152 fl_X12_20 (by decide) rfl ?_
        try simp (disch := omega) only [mu_s, mu_nf, mu_nc]
        refine x_istore_n (ls' := [(0, _), (1, _), (2, _)]) hg dX12_next_155 rfl (by decide) rfl ?_
        exact loopC 1002 _ _ _ (JN_mu hJ (Or.inr (Or.inr (Or.inr (Or.inl ⟨rfl, by decide⟩))))) (by simp (disch := omega) only [mu_s, mu_nf, mu_nc]; omega) (by simp (disch := omega) only [mu_s, mu_nf, mu_nc]; omega) (by omega) (by omega) (by omega) (frK_mu hk (by omega))
      · skip
        refine x_aload_n hg dX12_next_133 rfl ?_
        refine x_dup hg dX12_next_134 rfl ?_
        refine x_getI hg dX12_next_135 fl_X12_17 (by decide) rfl ?_
        refine x_iconst hg dX12_next_138 ?_
        refine x_iadd hg dX12_next_139 ?_
        refine x_putI hg dX12_next_140 fl_X12_17 ft_12_7 (by decide) rfl ?_
        refine x_goto (tgt := 119) hg dX12_next_143 (by decide) ?_
        exact ih _ _ (JN_mu hJ (by omega)) (by simp (disch := omega) only [mu_s, mu_nf, mu_nc]; omega) (by simp (disch := omega) only [mu_s, mu_nf, mu_nc]; omega) (by simp (disch := omega) only [mu_s, mu_nf, mu_nc]; omega) (frK_mu hk (by omega))
  have loopD : ∀ (n1 : Nat) (M : xMm) (c : Int), JN M → (0 ≤ M 172 6 ∧ M 172 6 ≤ M 172 3) → (M 172 6 ≤ M 172 7 ∧ M 172 7 ≤ M 172 3) → pNb (M 172 7 - M 172 6) (M 172 9) → M 172 3 - M 172 7 < n1 → frK 6 M M0 → xW g 209 M (RS tt) 0 0 282 [(0, xr 172), (1, xi c)] [] := by
    intro n1
    induction n1 with
    | zero => intro M c hJ h6 h7 hnb hn hk; exfalso; omega
    | succ n1 ih =>
      intro M c hJ h6 h7 hnb hn hk
      have hsz := hJ.2.1
      have hnm := hJ.2.2.2.2.2
      have h8 := hJ.2.2.2.1
      have h9 := hJ.2.2.2.2.1
      have j332 : M 172 7 < M 172 3 → ∀ M1, JN M1 → M1 172 6 = M 172 6 → M1 172 7 = M 172 7 → M1 172 3 = M 172 3 → pNb (M 172 7 + 1 - M 172 6) (M1 172 9) → frK 6 M1 M0 → xW g 209 M1 (RS tt) 0 0 332 [(0, xr 172), (1, xi c)] [] := by
        intro hlt M1 hJ1 e6 e7 e3 b0 hk1
        clear hnb hnm h8 h9
        refine x_aload_n hg dX12_next_332 rfl ?_
        refine x_dup hg dX12_next_333 rfl ?_
        refine x_getI hg dX12_next_334 fl_X12_17 (by decide) rfl ?_
        refine x_iconst hg dX12_next_337 ?_
        refine x_iadd hg dX12_next_338 ?_
        refine x_putI hg dX12_next_339 fl_X12_17 ft_12_7 (by decide) rfl ?_
        refine x_goto (tgt := 282) hg dX12_next_342 (by decide) ?_
        exact ih _ _ (JN_mu hJ1 (Or.inl (Or.inr (Or.inr rfl)))) (by simp (disch := omega) only [mu_s, mu_nf, mu_nc]; omega) (by simp (disch := omega) only [mu_s, mu_nf, mu_nc]; omega) (by simp (disch := omega) only [mu_s, mu_nf, mu_nc]; rw [e6, e7]; exact b0) (by simp (disch := omega) only [mu_s, mu_nf, mu_nc]; omega) (frK_mu hk1 (by decide))
      refine x_aload_n hg dX12_next_282 rfl ?_
      refine x_aload_n hg dX12_next_283 rfl ?_
      refine x_getI hg dX12_next_284 fl_X12_17 (by decide) rfl ?_
      refine x_cVi hg he [_] [] dX12_next_287 mv_X12_23 (c_X12_sign l b D cy hJ (by omega)) (by decide) rfl rfl (Nat.le_of_ble_eq_true rfl) (by decide) (by decide) (fun r287 M287 q287 => ?_)
      obtain ⟨h287, e287, f287, v287⟩ := q287
      replace h287 := h287.symm
      subst h287
      refine x_cSi hg he [_] [] dX12_next_290 ms_X12_44 (c_X12_isDigit l b D cy (by omega)) rfl rfl (Nat.le_of_ble_eq_true rfl) (by decide) (by decide) (fun r290 M290 q290 => ?_)
      obtain ⟨h290, e290⟩ := q290
      replace h290 := h290.symm
      subst h290
      refine x_if_eq (tgt := 345) hg dX12_next_293 (by decide) (by omega) (fun c293 => ?_) (fun c293 => ?_)
      · skip
        refine x_aload_n hg dX12_next_345 rfl ?_
        refine x_aload_n hg dX12_next_346 rfl ?_
        refine x_getI hg dX12_next_347 fl_X12_17 (by decide) rfl ?_
        refine x_aload_n hg dX12_next_350 rfl ?_
        refine x_getI hg dX12_next_351 fl_X12_20 (by decide) rfl ?_
        refine x_isub hg dX12_next_354 ?_
        refine x_iconst hg dX12_next_355 ?_
        refine x_icmp_gt (tgt := 373) hg dX12_next_356 (by decide) (by omega) (by omega) (fun c356 => ?_) (fun c356 => ?_)
        · skip
          refine x_iconst hg dX12_next_373 ?_
          refine x_goto (tgt := 378) hg dX12_next_374 (by decide) ?_
          exact j378 M c hJ h6 (by omega) hk _ (by omega)
        · skip
          refine x_aload_n hg dX12_next_359 rfl ?_
          refine x_aload_n hg dX12_next_360 rfl ?_
          refine x_getI hg dX12_next_361 fl_X12_17 (by decide) rfl ?_
          refine x_cVi hg he [_] [_] dX12_next_364 mv_X12_23 (c_X12_sign l b D cy hJ (by omega)) (by decide) rfl rfl (Nat.le_of_ble_eq_true rfl) (by decide) (by decide) (fun r364 M364 q364 => ?_)
          obtain ⟨h364, e364, f364, v364⟩ := q364
          replace h364 := h364.symm
          subst h364
          refine x_cSi hg he [_] [_] dX12_next_367 ms_X12_30 (c_X12_isLetter l b D cy (by omega)) rfl rfl (Nat.le_of_ble_eq_true rfl) (by decide) (by decide) (fun r367 M367 q367 => ?_)
          obtain ⟨h367, e367⟩ := q367
          replace h367 := h367.symm
          subst h367
          refine x_if_eq (tgt := 377) hg dX12_next_370 (by decide) (by omega) (fun c370 => ?_) (fun c370 => ?_)
          · skip
            refine x_iconst hg dX12_next_377 ?_
            exact j378 M c hJ h6 (by omega) hk _ (by omega)
          · skip
            refine x_iconst hg dX12_next_373 ?_
            refine x_goto (tgt := 378) hg dX12_next_374 (by decide) ?_
            exact j378 M c hJ h6 (by omega) hk _ (by omega)
      · skip
        refine x_aload_n hg dX12_next_296 rfl ?_
        refine x_getI hg dX12_next_297 fl_X12_17 (by decide) rfl ?_
        refine x_aload_n hg dX12_next_300 rfl ?_
        refine x_getI hg dX12_next_301 fl_X12_20 (by decide) rfl ?_
        refine x_isub hg dX12_next_304 ?_
        refine x_iconst hg dX12_next_305 ?_
        refine x_icmp_ge (tgt := 332) hg dX12_next_306 (by decide) (by omega) (by omega) (fun c306 => ?_) (fun c306 => ?_)
        · skip
          first | exact j332 (by omega) M hJ rfl rfl rfl (pNb_big (by omega)) hk | exact j332 (by omega) _ (JN_mu hJ (Or.inr (Or.inr (Or.inl ⟨rfl, hps.1⟩)))) (by simp (disch := omega) only [mu_s, mu_nf, mu_nc]) (by simp (disch := omega) only [mu_s, mu_nf, mu_nc]) (by simp (disch := omega) only [mu_s, mu_nf, mu_nc]) (by simp (disch := omega) only [mu_s, mu_nf, mu_nc]; rw [show M 172 7 + 1 - M 172 6 = M 172 7 - M 172 6 + 1 by omega]; exact hps.2) (frK_mu hk (by decide))
        · skip
          refine x_aload_n hg dX12_next_309 rfl ?_
          refine x_bipush hg dX12_next_310 (by decide) ?_
          refine x_aload_n hg dX12_next_312 rfl ?_
          refine x_getI hg dX12_next_313 fl_X12_47 (by decide) rfl ?_
          refine x_imul hg dX12_next_316 ?_
          refine x_aload_n hg dX12_next_317 rfl ?_
          refine x_aload_n hg dX12_next_318 rfl ?_
          refine x_getI hg dX12_next_319 fl_X12_17 (by decide) rfl ?_
          refine x_cVi hg he [_] [_, _] dX12_next_322 mv_X12_23 (c_X12_sign l b D cy hJ (by omega)) (by decide) rfl rfl (Nat.le_of_ble_eq_true rfl) (by decide) (by decide) (fun r322 M322 q322 => ?_)
          obtain ⟨h322, e322, f322, v322⟩ := q322
          replace h322 := h322.symm
          subst h322
          refine x_iadd hg dX12_next_325 ?_
          refine x_bipush hg dX12_next_326 (by decide) ?_
          refine x_isub hg dX12_next_328 ?_
          have hdg : 48 ≤ r322 ∧ r322 ≤ 57 := by omega
          have hps := pNb_s (x := r322) hnb (by omega) (by omega) h9.1 hdg
          refine x_putI hg dX12_next_329 fl_X12_47 ft_12_9 (by decide) rfl ?_
          first | exact j332 (by omega) M hJ rfl rfl rfl (pNb_big (by omega)) hk | exact j332 (by omega) _ (JN_mu hJ (Or.inr (Or.inr (Or.inl ⟨rfl, hps.1⟩)))) (by simp (disch := omega) only [mu_s, mu_nf, mu_nc]) (by simp (disch := omega) only [mu_s, mu_nf, mu_nc]) (by simp (disch := omega) only [mu_s, mu_nf, mu_nc]) (by simp (disch := omega) only [mu_s, mu_nf, mu_nc]; rw [show M 172 7 + 1 - M 172 6 = M 172 7 - M 172 6 + 1 by omega]; exact hps.2) (frK_mu hk (by decide))
  have loopA : ∀ (n1 : Nat) (M : xMm), JN M → (0 ≤ M 172 6 ∧ M 172 6 ≤ M 172 3) → M 172 3 - M 172 6 < n1 → frK 6 M M0 → xW g 209 M (RS tt) 0 0 8 [(0, xr 172)] [] := by
    intro n1
    induction n1 with
    | zero => intro M hJ h6 hn hk; exfalso; omega
    | succ n1 ih =>
      intro M hJ h6 hn hk
      have hsz := hJ.2.1
      have hnm := hJ.2.2.2.2.2
      have h8 := hJ.2.2.2.1
      have j58 : xW g 209 M (RS tt) 0 0 58 [(0, xr 172)] [] := by
        refine x_aload_n hg dX12_next_58 rfl ?_
        refine x_aload_n hg dX12_next_59 rfl ?_
        refine x_getI hg dX12_next_60 fl_X12_20 (by decide) rfl ?_
        refine x_cVi hg he [_] [] dX12_next_63 mv_X12_23 (c_X12_sign l b D cy hJ (by omega)) (by decide) rfl rfl (Nat.le_of_ble_eq_true rfl) (by decide) (by decide) (fun r63 M63 q63 => ?_)
        obtain ⟨h63, e63, f63, v63⟩ := q63
        replace h63 := h63.symm
        subst h63
        refine x_istore_n (ls' := [(0, _), (1, _)]) hg dX12_next_66 rfl (by decide) rfl ?_
        refine x_aload_n hg dX12_next_67 rfl ?_
        refine x_aload_n hg dX12_next_68 rfl ?_
        refine x_getI hg dX12_next_69 fl_X12_20 (by decide) rfl ?_
        refine x_iconst hg dX12_next_72 ?_
        refine x_iadd hg dX12_next_73 ?_
        refine x_putI hg dX12_next_74 fl_X12_17 ft_12_7 (by decide) rfl ?_
        refine x_aload_n hg dX12_next_77 rfl ?_
        refine x_getI hg dX12_next_78 fl_X12_20 (by decide) rfl ?_
        try simp (disch := omega) only [mu_s, mu_nf, mu_nc]
        refine x_aload_n hg dX12_next_81 rfl ?_
        refine x_getI hg dX12_next_82 fl_X12_1 (by decide) rfl ?_
        try simp (disch := omega) only [mu_s, mu_nf, mu_nc]
        refine x_icmp_lt (tgt := 112) hg dX12_next_85 (by decide) (by omega) (by omega) (fun c85 => ?_) (fun c85 => ?_)
        · skip
          refine x_iload_n hg dX12_next_112 rfl ?_
          refine x_cSi hg he [_] [] dX12_next_113 ms_X12_30 (c_X12_isLetter l b D cy (by omega)) rfl rfl (Nat.le_of_ble_eq_true rfl) (by decide) (by decide) (fun r113 M113 q113 => ?_)
          obtain ⟨h113, e113⟩ := q113
          replace h113 := h113.symm
          subst h113
          refine x_if_eq (tgt := 262) hg dX12_next_116 (by decide) (by omega) (fun c116 => ?_) (fun c116 => ?_)
          · skip
            refine x_iload_n hg dX12_next_262 rfl ?_
            refine x_cSi hg he [_] [] dX12_next_263 ms_X12_44 (c_X12_isDigit l b D cy (by omega)) rfl rfl (Nat.le_of_ble_eq_true rfl) (by decide) (by decide) (fun r263 M263 q263 => ?_)
            obtain ⟨h263, e263⟩ := q263
            replace h263 := h263.symm
            subst h263
            refine x_if_eq (tgt := 384) hg dX12_next_266 (by decide) (by omega) (fun c266 => ?_) (fun c266 => ?_)
            · skip
              refine x_aload_n hg dX12_next_384 rfl ?_
              refine x_iload_n hg dX12_next_385 rfl ?_
              refine x_bipush hg dX12_next_386 (by decide) ?_
              refine x_icmp_eq (tgt := 403) hg dX12_next_388 (by decide) (by omega) (by omega) (fun c388 => ?_) (fun c388 => ?_)
              · skip
                refine x_iconst hg dX12_next_403 ?_
                refine x_goto (tgt := 408) hg dX12_next_404 (by decide) ?_
                exact j408 _ _ (JN_mu hJ (by omega)) (by simp (disch := omega) only [mu_s, mu_nf, mu_nc]; omega) (by simp (disch := omega) only [mu_s, mu_nf, mu_nc]; omega) (frK_mu hk (by omega)) _ (by omega)
              · skip
                refine x_iload_n hg dX12_next_391 rfl ?_
                refine x_bipush hg dX12_next_392 (by decide) ?_
                refine x_icmp_eq (tgt := 403) hg dX12_next_394 (by decide) (by omega) (by omega) (fun c394 => ?_) (fun c394 => ?_)
                · skip
                  refine x_iconst hg dX12_next_403 ?_
                  refine x_goto (tgt := 408) hg dX12_next_404 (by decide) ?_
                  exact j408 _ _ (JN_mu hJ (by omega)) (by simp (disch := omega) only [mu_s, mu_nf, mu_nc]; omega) (by simp (disch := omega) only [mu_s, mu_nf, mu_nc]; omega) (frK_mu hk (by omega)) _ (by omega)
                · skip
                  refine x_iload_n hg dX12_next_397 rfl ?_
                  refine x_bipush hg dX12_next_398 (by decide) ?_
                  refine x_icmp_ne (tgt := 407) hg dX12_next_400 (by decide) (by omega) (by omega) (fun c400 => ?_) (fun c400 => ?_)
                  · skip
                    refine x_iconst hg dX12_next_407 ?_
                    exact j408 _ _ (JN_mu hJ (by omega)) (by simp (disch := omega) only [mu_s, mu_nf, mu_nc]; omega) (by simp (disch := omega) only [mu_s, mu_nf, mu_nc]; omega) (frK_mu hk (by omega)) _ (by omega)
                  · skip
                    refine x_iconst hg dX12_next_403 ?_
                    refine x_goto (tgt := 408) hg dX12_next_404 (by decide) ?_
                    exact j408 _ _ (JN_mu hJ (by omega)) (by simp (disch := omega) only [mu_s, mu_nf, mu_nc]; omega) (by simp (disch := omega) only [mu_s, mu_nf, mu_nc]; omega) (frK_mu hk (by omega)) _ (by omega)
            · skip
              refine x_aload_n hg dX12_next_269 rfl ?_
              refine x_iconst hg dX12_next_270 ?_
              refine x_putI hg dX12_next_271 fl_X12_47 ft_12_9 (by decide) rfl ?_
              refine x_aload_n hg dX12_next_274 rfl ?_
              refine x_aload_n hg dX12_next_275 rfl ?_
              refine x_getI hg dX12_next_276 fl_X12_20 (by decide) rfl ?_
              try simp (disch := omega) only [mu_s, mu_nf, mu_nc]
              refine x_putI hg dX12_next_279 fl_X12_17 ft_12_7 (by decide) rfl ?_
              exact loopD 1001 _ _ (JN_mu (JN_mu (JN_mu hJ (by omega)) (by omega)) (by omega)) (by simp (disch := omega) only [mu_s, mu_nf, mu_nc]; omega) (by simp (disch := omega) only [mu_s, mu_nf, mu_nc]; omega) (by simp (disch := omega) only [mu_s, mu_nf, mu_nc]; exact pNb_0 (by omega) rfl) (by simp (disch := omega) only [mu_s, mu_nf, mu_nc]; omega) (frK_mu (frK_mu (frK_mu hk (by omega)) (by omega)) (by omega))
          · skip
            exact loopB 1001 _ _ (JN_mu hJ (by omega)) (by simp (disch := omega) only [mu_s, mu_nf, mu_nc]; omega) (by simp (disch := omega) only [mu_s, mu_nf, mu_nc]; omega) (by simp (disch := omega) only [mu_s, mu_nf, mu_nc]; omega) (frK_mu hk (by omega))
        · skip
          refine x_aload_n hg dX12_next_88 rfl ?_
          refine x_iconst hg dX12_next_89 ?_
          refine x_putI hg dX12_next_90 fl_X12_27 ft_12_8 (by decide) rfl ?_
          refine x_aload_n hg dX12_next_93 rfl ?_
          refine x_aload_n hg dX12_next_94 rfl ?_
          refine x_getI hg dX12_next_95 fl_X12_1 (by decide) rfl ?_
          try simp (disch := omega) only [mu_s, mu_nf, mu_nc]
          refine x_putI hg dX12_next_98 fl_X12_20 ft_12_6 (by decide) rfl ?_
          refine x_aload_n hg dX12_next_101 rfl ?_
          refine x_aload_n hg dX12_next_102 rfl ?_
          refine x_getI hg dX12_next_103 fl_X12_1 (by decide) rfl ?_
          try simp (disch := omega) only [mu_s, mu_nf, mu_nc]
          refine x_putI hg dX12_next_106 fl_X12_17 ft_12_7 (by decide) rfl ?_
          refine x_goto (tgt := 411) hg dX12_next_109 (by decide) ?_
          refine x_vret hg hr dX12_next_411 (Nat.le_refl _) (Nat.le_refl _) ?_
          exact ⟨rfl, rfl, rfl, ⟨JN_mu (JN_mu (JN_mu (JN_mu hJ (by omega)) (by omega)) (by omega)) (by omega), by simp (disch := omega) only [mu_s, mu_nf, mu_nc]; omega, by simp (disch := omega) only [mu_s, mu_nf, mu_nc]; omega⟩, frK_mu (frK_mu (frK_mu (frK_mu hk (by omega)) (by omega)) (by omega)) (by omega)⟩
      refine x_aload_n hg dX12_next_8 rfl ?_
      refine x_getI hg dX12_next_9 fl_X12_20 (by decide) rfl ?_
      refine x_aload_n hg dX12_next_12 rfl ?_
      refine x_getI hg dX12_next_13 fl_X12_1 (by decide) rfl ?_
      refine x_icmp_ge (tgt := 58) hg dX12_next_16 (by decide) (by omega) (by omega) (fun c16 => ?_) (fun c16 => ?_)
      · skip
        exact j58
      · skip
        refine x_aload_n hg dX12_next_19 rfl ?_
        refine x_aload_n hg dX12_next_20 rfl ?_
        refine x_getI hg dX12_next_21 fl_X12_20 (by decide) rfl ?_
        refine x_cVi hg he [_] [] dX12_next_24 mv_X12_23 (c_X12_sign l b D cy hJ (by omega)) (by decide) rfl rfl (Nat.le_of_ble_eq_true rfl) (by decide) (by decide) (fun r24 M24 q24 => ?_)
        obtain ⟨h24, e24, f24, v24⟩ := q24
        replace h24 := h24.symm
        subst h24
        refine x_bipush hg dX12_next_27 (by decide) ?_
        refine x_icmp_eq (tgt := 45) hg dX12_next_29 (by decide) (by omega) (by omega) (fun c29 => ?_) (fun c29 => ?_)
        · skip
          refine x_aload_n hg dX12_next_45 rfl ?_
          refine x_dup hg dX12_next_46 rfl ?_
          refine x_getI hg dX12_next_47 fl_X12_20 (by decide) rfl ?_
          refine x_iconst hg dX12_next_50 ?_
          refine x_iadd hg dX12_next_51 ?_
          refine x_putI hg dX12_next_52 fl_X12_20 ft_12_6 (by decide) rfl ?_
          refine x_goto (tgt := 8) hg dX12_next_55 (by decide) ?_
          exact ih _ (JN_mu hJ (by omega)) (by simp (disch := omega) only [mu_s, mu_nf, mu_nc]; omega) (by simp (disch := omega) only [mu_s, mu_nf, mu_nc]; omega) (frK_mu hk (by omega))
        · skip
          refine x_aload_n hg dX12_next_32 rfl ?_
          refine x_aload_n hg dX12_next_33 rfl ?_
          refine x_getI hg dX12_next_34 fl_X12_20 (by decide) rfl ?_
          refine x_cVi hg he [_] [] dX12_next_37 mv_X12_23 (c_X12_sign l b D cy hJ (by omega)) (by decide) rfl rfl (Nat.le_of_ble_eq_true rfl) (by decide) (by decide) (fun r37 M37 q37 => ?_)
          obtain ⟨h37, e37, f37, v37⟩ := q37
          replace h37 := h37.symm
          subst h37
          refine x_bipush hg dX12_next_40 (by decide) ?_
          refine x_icmp_ne (tgt := 58) hg dX12_next_42 (by decide) (by omega) (by omega) (fun c42 => ?_) (fun c42 => ?_)
          · skip
            exact j58
          · skip
            refine x_aload_n hg dX12_next_45 rfl ?_
            refine x_dup hg dX12_next_46 rfl ?_
            refine x_getI hg dX12_next_47 fl_X12_20 (by decide) rfl ?_
            refine x_iconst hg dX12_next_50 ?_
            refine x_iadd hg dX12_next_51 ?_
            refine x_putI hg dX12_next_52 fl_X12_20 ft_12_6 (by decide) rfl ?_
            refine x_goto (tgt := 8) hg dX12_next_55 (by decide) ?_
            exact ih _ (JN_mu hJ (by omega)) (by simp (disch := omega) only [mu_s, mu_nf, mu_nc]; omega) (by simp (disch := omega) only [mu_s, mu_nf, mu_nc]; omega) (frK_mu hk (by omega))
  have hsz := hJ0.2.1
  refine x_aload_n hg dX12_next_0 rfl ?_
  refine x_aload_n hg dX12_next_1 rfl ?_
  refine x_getI hg dX12_next_2 fl_X12_17 (by decide) rfl ?_
  refine x_putI hg dX12_next_5 fl_X12_20 ft_12_6 (by decide) rfl ?_
  exact loopA 1001 _ (JN_mu hJ0 (by omega)) (by simp (disch := omega) only [mu_s, mu_nf, mu_nc]; omega) (by simp (disch := omega) only [mu_s, mu_nf, mu_nc]; omega) (frK_mu (frK_rf 6 M0) (by omega))
