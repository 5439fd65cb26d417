/-! ===== the model's office ===== -/
def MO (M : xMm) : Prop := (0 ≤ M 172 30 ∧ M 172 30 ≤ 10) ∧ (0 ≤ M 172 56 ∧ M 172 56 ≤ 40) ∧ (0 ≤ M 172 57 ∧ M 172 57 ≤ 30) ∧ (0 ≤ M 172 55 ∧ M 172 55 ≤ 100000) ∧ (1 ≤ M 172 24 ∧ M 172 24 ≤ 100000)
  ∧ (∀ c, c < 10 → (0 ≤ M 186 c ∧ M 186 c ≤ 11) ∧ (0 ≤ M 187 c ∧ M 187 c ≤ 9) ∧ (0 ≤ M 188 c ∧ M 188 c ≤ 1439) ∧ (0 ≤ M 189 c ∧ M 189 c ≤ 100) ∧ (-1 ≤ M 190 c ∧ M 190 c ≤ 3))
  ∧ (∀ t, t < 4 → (0 ≤ M 201 t ∧ M 201 t ≤ 1000) ∧ inR (M 202 t))
  ∧ (∀ k, k < 40 → (0 ≤ M 203 k ∧ M 203 k ≤ 1000) ∧ inR (M 204 k) ∧ (0 ≤ M 205 k ∧ M 205 k ≤ 100000))
  ∧ (∀ k, k < 30 → (0 ≤ M 206 k ∧ M 206 k ≤ 11) ∧ (0 ≤ M 207 k ∧ M 207 k ≤ 100000) ∧ (0 ≤ M 208 k ∧ M 208 k ≤ 100000) ∧ (-1 ≤ M 209 k ∧ M 209 k ≤ 100000))
def wOfM (M : xMm) (z w : Int) : Int := if 0 ≤ z ∧ z < M 172 30 then (if w = 0 then M 186 z.toNat else if w = 1 then M 187 z.toNat else if w = 2 then M 188 z.toNat else if w = 3 then M 189 z.toNat else if w = 4 then M 190 z.toNat else -1) else -1
def wTank (M : xMm) (z w : Int) : Int := if 0 ≤ z ∧ z < 4 then (if w = 0 then M 201 z.toNat else if w = 1 then M 202 z.toNat else -1) else -1
def wBottling (M : xMm) (z w : Int) : Int := if 0 ≤ z ∧ z < M 172 56 then (if w = 0 then M 203 z.toNat else if w = 1 then M 204 z.toNat else if w = 2 then M 205 z.toNat else -1) else -1
abbrev pKc (M : xMm) (i b : Nat) (k : Int) : Prop := M 208 i ≤ k ∧ (M 209 i < 0 ∨ k < M 209 i) ∧ M 207 i ≤ M 205 b ∧ bAnd (bShr (M 204 b) (M 206 i)) 1 = 1
def pRC (M : xMm) (b : Nat) (k : Int) : Prop := M 205 b ≤ k ∧ ∃ i : Nat, i < (M 172 57).toNat ∧ pKc M i b k
def dRC (M : xMm) (b : Nat) (k : Int) : Decidable (pRC M b k) := inferInstanceAs (Decidable (M 205 b ≤ k ∧ ∃ i : Nat, i < (M 172 57).toNat ∧ pKc M i b k))
def wRs (M : xMm) (k : Int) : Nat → Int
  | 0 => 0
  | n + 1 => wRs M k n + @ite Int (pRC M n k) (dRC M n k) (M 203 n) 0
theorem wRs_y {M : xMm} {k : Int} {n : Nat} (h : pRC M n k) : wRs M k (n + 1) = wRs M k n + M 203 n := by simp only [wRs]; rw [if_pos h]
theorem wRs_n {M : xMm} {k : Int} {n : Nat} (h : ¬ pRC M n k) : wRs M k (n + 1) = wRs M k n + 0 := by simp only [wRs]; rw [if_neg h]
theorem wRs_le {M : xMm} {k : Int} (h : ∀ j, j < 40 → 0 ≤ M 203 j ∧ M 203 j ≤ 1000) : ∀ n, n ≤ 40 → 0 ≤ wRs M k n ∧ wRs M k n ≤ 1000 * n
  | 0, _ => by simp [wRs]
  | n + 1, hn => by
    have ih := wRs_le (k := k) h n (by omega)
    have := h n (by omega)
    simp only [wRs]
    split <;> omega

theorem dX12_isTank_0 : decode cX12_isTank 0 = .ok (.iload_n 0, 1) := by decide +kernel
theorem dX12_isTank_1 : decode cX12_isTank 1 = .ok (.ifCond .lt 12, 3) := by decide +kernel
theorem dX12_isTank_4 : decode cX12_isTank 4 = .ok (.iload_n 0, 1) := by decide +kernel
theorem dX12_isTank_5 : decode cX12_isTank 5 = .ok (.iconst 4, 1) := by decide +kernel
theorem dX12_isTank_6 : decode cX12_isTank 6 = .ok (.if_icmp .ge 7, 3) := by decide +kernel
theorem dX12_isTank_9 : decode cX12_isTank 9 = .ok (.iconst 1, 1) := by decide +kernel
theorem dX12_isTank_10 : decode cX12_isTank 10 = .ok (.goto 4, 3) := by decide +kernel
theorem dX12_isTank_13 : decode cX12_isTank 13 = .ok (.iconst 0, 1) := by decide +kernel
theorem dX12_isTank_14 : decode cX12_isTank 14 = .ok (.ireturn, 1) := by decide +kernel
set_option maxHeartbeats 4000000 in
set_option maxRecDepth 20000 in
theorem c_X12_isTank (l : Launch) (b : Nat) (D : va_G) (cy : Nat → ClassId) {tt : Nat} {M : xMm} {z : Int} (hz : inR z) : xC l b D cy yX12_isTank cX12_isTank 1 (some .boolean) ({ frames := 0, cells := 0, slots := 0, locals := 0 }) [xi z] 209 M (RS tt) (xPi 209 (RS tt) (fun r M' => M' = M ∧ ((0 ≤ z ∧ z < 4) ∧ r = 1 ∨ ¬ (0 ≤ z ∧ z < 4) ∧ r = 0))) := by
  refine x_met (by decide) (Nat.le_of_ble_eq_true rfl) (fun g hg hr he => ?_)
  refine x_canon (ls' := [(0, _)]) rfl ?_
  refine x_iload_n hg dX12_isTank_0 rfl ?_
  refine x_if_lt (tgt := 13) hg dX12_isTank_1 (by decide) (by omega) (fun c1 => ?_) (fun c1 => ?_)
  · skip
    refine x_iconst hg dX12_isTank_13 ?_
    refine x_iret hg hr (Or.inr ⟨rfl, by first | exact Or.inl rfl | exact Or.inr rfl | omega⟩) dX12_isTank_14 (Nat.le_refl _) (Nat.le_refl _) ?_
    exact ⟨rfl, rfl, _, rfl, rfl, by omega⟩
  · skip
    refine x_iload_n hg dX12_isTank_4 rfl ?_
    refine x_iconst hg dX12_isTank_5 ?_
    refine x_icmp_ge (tgt := 13) hg dX12_isTank_6 (by decide) (by omega) (by omega) (fun c6 => ?_) (fun c6 => ?_)
    · skip
      refine x_iconst hg dX12_isTank_13 ?_
      refine x_iret hg hr (Or.inr ⟨rfl, by first | exact Or.inl rfl | exact Or.inr rfl | omega⟩) dX12_isTank_14 (Nat.le_refl _) (Nat.le_refl _) ?_
      exact ⟨rfl, rfl, _, rfl, rfl, by omega⟩
    · skip
      refine x_iconst hg dX12_isTank_9 ?_
      refine x_goto (tgt := 14) hg dX12_isTank_10 (by decide) ?_
      refine x_iret hg hr (Or.inr ⟨rfl, by first | exact Or.inl rfl | exact Or.inr rfl | omega⟩) dX12_isTank_14 (Nat.le_refl _) (Nat.le_refl _) ?_
      exact ⟨rfl, rfl, _, rfl, rfl, by omega⟩

theorem dX12_isChurn_0 : decode cX12_isChurn 0 = .ok (.iload_n 1, 1) := by decide +kernel
theorem dX12_isChurn_1 : decode cX12_isChurn 1 = .ok (.ifCond .lt 15, 3) := by decide +kernel
theorem dX12_isChurn_4 : decode cX12_isChurn 4 = .ok (.iload_n 1, 1) := by decide +kernel
theorem dX12_isChurn_5 : decode cX12_isChurn 5 = .ok (.aload_n 0, 1) := by decide +kernel
theorem dX12_isChurn_6 : decode cX12_isChurn 6 = .ok (.getfield 234, 3) := by decide +kernel
theorem dX12_isChurn_9 : decode cX12_isChurn 9 = .ok (.if_icmp .ge 7, 3) := by decide +kernel
theorem dX12_isChurn_12 : decode cX12_isChurn 12 = .ok (.iconst 1, 1) := by decide +kernel
theorem dX12_isChurn_13 : decode cX12_isChurn 13 = .ok (.goto 4, 3) := by decide +kernel
theorem dX12_isChurn_16 : decode cX12_isChurn 16 = .ok (.iconst 0, 1) := by decide +kernel
theorem dX12_isChurn_17 : decode cX12_isChurn 17 = .ok (.ireturn, 1) := by decide +kernel
set_option maxHeartbeats 4000000 in
set_option maxRecDepth 20000 in
theorem c_X12_isChurn (l : Launch) (b : Nat) (D : va_G) (cy : Nat → ClassId) {tt : Nat} {M : xMm} {z : Int} (hz : inR z) (hn : inR (M 172 30)) : xC l b D cy yX12_isChurn cX12_isChurn 2 (some .boolean) ({ frames := 0, cells := 0, slots := 0, locals := 0 }) [xr 172, xi z] 209 M (RS tt) (xPi 209 (RS tt) (fun r M' => M' = M ∧ ((0 ≤ z ∧ z < M 172 30) ∧ r = 1 ∨ ¬ (0 ≤ z ∧ z < M 172 30) ∧ r = 0))) := by
  refine x_met (by decide) (Nat.le_of_ble_eq_true rfl) (fun g hg hr he => ?_)
  refine x_canon (ls' := [(0, _), (1, _)]) rfl ?_
  refine x_iload_n hg dX12_isChurn_0 rfl ?_
  refine x_if_lt (tgt := 16) hg dX12_isChurn_1 (by decide) (by omega) (fun c1 => ?_) (fun c1 => ?_)
  · skip
    refine x_iconst hg dX12_isChurn_16 ?_
    refine x_iret hg hr (Or.inr ⟨rfl, by first | exact Or.inl rfl | exact Or.inr rfl | omega⟩) dX12_isChurn_17 (Nat.le_refl _) (Nat.le_refl _) ?_
    exact ⟨rfl, rfl, _, rfl, rfl, by omega⟩
  · skip
    refine x_iload_n hg dX12_isChurn_4 rfl ?_
    refine x_aload_n hg dX12_isChurn_5 rfl ?_
    refine x_getI hg dX12_isChurn_6 fl_X12_234 (by decide) rfl ?_
    refine x_icmp_ge (tgt := 16) hg dX12_isChurn_9 (by decide) (by omega) (by omega) (fun c9 => ?_) (fun c9 => ?_)
    · skip
      refine x_iconst hg dX12_isChurn_16 ?_
      refine x_iret hg hr (Or.inr ⟨rfl, by first | exact Or.inl rfl | exact Or.inr rfl | omega⟩) dX12_isChurn_17 (Nat.le_refl _) (Nat.le_refl _) ?_
      exact ⟨rfl, rfl, _, rfl, rfl, by omega⟩
    · skip
      refine x_iconst hg dX12_isChurn_12 ?_
      refine x_goto (tgt := 17) hg dX12_isChurn_13 (by decide) ?_
      refine x_iret hg hr (Or.inr ⟨rfl, by first | exact Or.inl rfl | exact Or.inr rfl | omega⟩) dX12_isChurn_17 (Nat.le_refl _) (Nat.le_refl _) ?_
      exact ⟨rfl, rfl, _, rfl, rfl, by omega⟩

theorem dX12_isBottling_0 : decode cX12_isBottling 0 = .ok (.iload_n 1, 1) := by decide +kernel
theorem dX12_isBottling_1 : decode cX12_isBottling 1 = .ok (.ifCond .lt 15, 3) := by decide +kernel
theorem dX12_isBottling_4 : decode cX12_isBottling 4 = .ok (.iload_n 1, 1) := by decide +kernel
theorem dX12_isBottling_5 : decode cX12_isBottling 5 = .ok (.aload_n 0, 1) := by decide +kernel
theorem dX12_isBottling_6 : decode cX12_isBottling 6 = .ok (.getfield 327, 3) := by decide +kernel
theorem dX12_isBottling_9 : decode cX12_isBottling 9 = .ok (.if_icmp .ge 7, 3) := by decide +kernel
theorem dX12_isBottling_12 : decode cX12_isBottling 12 = .ok (.iconst 1, 1) := by decide +kernel
theorem dX12_isBottling_13 : decode cX12_isBottling 13 = .ok (.goto 4, 3) := by decide +kernel
theorem dX12_isBottling_16 : decode cX12_isBottling 16 = .ok (.iconst 0, 1) := by decide +kernel
theorem dX12_isBottling_17 : decode cX12_isBottling 17 = .ok (.ireturn, 1) := by decide +kernel
set_option maxHeartbeats 4000000 in
set_option maxRecDepth 20000 in
theorem c_X12_isBottling (l : Launch) (b : Nat) (D : va_G) (cy : Nat → ClassId) {tt : Nat} {M : xMm} {z : Int} (hz : inR z) (hn : inR (M 172 56)) : xC l b D cy yX12_isBottling cX12_isBottling 2 (some .boolean) ({ frames := 0, cells := 0, slots := 0, locals := 0 }) [xr 172, xi z] 209 M (RS tt) (xPi 209 (RS tt) (fun r M' => M' = M ∧ ((0 ≤ z ∧ z < M 172 56) ∧ r = 1 ∨ ¬ (0 ≤ z ∧ z < M 172 56) ∧ r = 0))) := by
  refine x_met (by decide) (Nat.le_of_ble_eq_true rfl) (fun g hg hr he => ?_)
  refine x_canon (ls' := [(0, _), (1, _)]) rfl ?_
  refine x_iload_n hg dX12_isBottling_0 rfl ?_
  refine x_if_lt (tgt := 16) hg dX12_isBottling_1 (by decide) (by omega) (fun c1 => ?_) (fun c1 => ?_)
  · skip
    refine x_iconst hg dX12_isBottling_16 ?_
    refine x_iret hg hr (Or.inr ⟨rfl, by first | exact Or.inl rfl | exact Or.inr rfl | omega⟩) dX12_isBottling_17 (Nat.le_refl _) (Nat.le_refl _) ?_
    exact ⟨rfl, rfl, _, rfl, rfl, by omega⟩
  · skip
    refine x_iload_n hg dX12_isBottling_4 rfl ?_
    refine x_aload_n hg dX12_isBottling_5 rfl ?_
    refine x_getI hg dX12_isBottling_6 fl_X12_327 (by decide) rfl ?_
    refine x_icmp_ge (tgt := 16) hg dX12_isBottling_9 (by decide) (by omega) (by omega) (fun c9 => ?_) (fun c9 => ?_)
    · skip
      refine x_iconst hg dX12_isBottling_16 ?_
      refine x_iret hg hr (Or.inr ⟨rfl, by first | exact Or.inl rfl | exact Or.inr rfl | omega⟩) dX12_isBottling_17 (Nat.le_refl _) (Nat.le_refl _) ?_
      exact ⟨rfl, rfl, _, rfl, rfl, by omega⟩
    · skip
      refine x_iconst hg dX12_isBottling_12 ?_
      refine x_goto (tgt := 17) hg dX12_isBottling_13 (by decide) ?_
      refine x_iret hg hr (Or.inr ⟨rfl, by first | exact Or.inl rfl | exact Or.inr rfl | omega⟩) dX12_isBottling_17 (Nat.le_refl _) (Nat.le_refl _) ?_
      exact ⟨rfl, rfl, _, rfl, rfl, by omega⟩

theorem dX12_limit_0 : decode cX12_limit 0 = .ok (.iload_n 1, 1) := by decide +kernel
theorem dX12_limit_1 : decode cX12_limit 1 = .ok (.iconst 1, 1) := by decide +kernel
theorem dX12_limit_2 : decode cX12_limit 2 = .ok (.if_icmp .lt 9, 3) := by decide +kernel
theorem dX12_limit_5 : decode cX12_limit 5 = .ok (.iload_n 1, 1) := by decide +kernel
theorem dX12_limit_6 : decode cX12_limit 6 = .ok (.ldc 233, 2) := by decide +kernel
theorem dX12_limit_8 : decode cX12_limit 8 = .ok (.if_icmp .le 5, 3) := by decide +kernel
theorem dX12_limit_11 : decode cX12_limit 11 = .ok (.iconst 0, 1) := by decide +kernel
theorem dX12_limit_12 : decode cX12_limit 12 = .ok (.ireturn, 1) := by decide +kernel
theorem dX12_limit_13 : decode cX12_limit 13 = .ok (.aload_n 0, 1) := by decide +kernel
theorem dX12_limit_14 : decode cX12_limit 14 = .ok (.iload_n 1, 1) := by decide +kernel
theorem dX12_limit_15 : decode cX12_limit 15 = .ok (.putfield 152, 3) := by decide +kernel
theorem dX12_limit_18 : decode cX12_limit 18 = .ok (.iconst 1, 1) := by decide +kernel
theorem dX12_limit_19 : decode cX12_limit 19 = .ok (.ireturn, 1) := by decide +kernel
set_option maxHeartbeats 4000000 in
set_option maxRecDepth 20000 in
theorem c_X12_limit (l : Launch) (b : Nat) (D : va_G) (cy : Nat → ClassId) {tt : Nat} {M : xMm} {z : Int} (hz : inR z) : xC l b D cy yX12_limit cX12_limit 2 (some .boolean) ({ frames := 0, cells := 0, slots := 0, locals := 0 }) [xr 172, xi z] 209 M (RS tt) (xPi 209 (RS tt) (fun r M' => ((1 ≤ z ∧ z ≤ 100000) ∧ r = 1 ∧ M' = mu M 172 24 z) ∨ (¬ (1 ≤ z ∧ z ≤ 100000) ∧ r = 0 ∧ M' = M))) := by
  refine x_met (by decide) (Nat.le_of_ble_eq_true rfl) (fun g hg hr he => ?_)
  refine x_canon (ls' := [(0, _), (1, _)]) rfl ?_
  refine x_iload_n hg dX12_limit_0 rfl ?_
  refine x_iconst hg dX12_limit_1 ?_
  refine x_icmp_lt (tgt := 11) hg dX12_limit_2 (by decide) (by omega) (by omega) (fun c2 => ?_) (fun c2 => ?_)
  · skip
    refine x_iconst hg dX12_limit_11 ?_
    refine x_iret hg hr (Or.inr ⟨rfl, by first | exact Or.inl rfl | exact Or.inr rfl | omega⟩) dX12_limit_12 (Nat.le_refl _) (Nat.le_refl _) ?_
    refine ⟨rfl, rfl, _, rfl, ?_⟩
    first | exact Or.inl ⟨by omega, rfl, rfl⟩ | exact Or.inr ⟨by omega, rfl, rfl⟩
  · skip
    refine x_iload_n hg dX12_limit_5 rfl ?_
    refine x_ldc hg 100000 dX12_limit_6 (List.mem_of_getElem? (i := 1104) (by decide +kernel)) ?_
    refine x_icmp_le (tgt := 13) hg dX12_limit_8 (by decide) (by omega) (by omega) (fun c8 => ?_) (fun c8 => ?_)
    · skip
      refine x_aload_n hg dX12_limit_13 rfl ?_
      refine x_iload_n hg dX12_limit_14 rfl ?_
      refine x_putI hg dX12_limit_15 fl_X12_152 ft_12_24 (by decide) rfl ?_
      refine x_iconst hg dX12_limit_18 ?_
      refine x_iret hg hr (Or.inr ⟨rfl, by first | exact Or.inl rfl | exact Or.inr rfl | omega⟩) dX12_limit_19 (Nat.le_refl _) (Nat.le_refl _) ?_
      refine ⟨rfl, rfl, _, rfl, ?_⟩
      first | exact Or.inl ⟨by omega, rfl, rfl⟩ | exact Or.inr ⟨by omega, rfl, rfl⟩
    · skip
      refine x_iconst hg dX12_limit_11 ?_
      refine x_iret hg hr (Or.inr ⟨rfl, by first | exact Or.inl rfl | exact Or.inr rfl | omega⟩) dX12_limit_12 (Nat.le_refl _) (Nat.le_refl _) ?_
      refine ⟨rfl, rfl, _, rfl, ?_⟩
      first | exact Or.inl ⟨by omega, rfl, rfl⟩ | exact Or.inr ⟨by omega, rfl, rfl⟩

theorem dX12_later_0 : decode cX12_later 0 = .ok (.iload_n 1, 1) := by decide +kernel
theorem dX12_later_1 : decode cX12_later 1 = .ok (.ifCond .lt 21, 3) := by decide +kernel
theorem dX12_later_4 : decode cX12_later 4 = .ok (.iload_n 1, 1) := by decide +kernel
theorem dX12_later_5 : decode cX12_later 5 = .ok (.sipush 1000, 3) := by decide +kernel
theorem dX12_later_8 : decode cX12_later 8 = .ok (.if_icmp .gt 14, 3) := by decide +kernel
theorem dX12_later_11 : decode cX12_later 11 = .ok (.aload_n 0, 1) := by decide +kernel
theorem dX12_later_12 : decode cX12_later 12 = .ok (.getfield 314, 3) := by decide +kernel
theorem dX12_later_15 : decode cX12_later 15 = .ok (.iload_n 1, 1) := by decide +kernel
theorem dX12_later_16 : decode cX12_later 16 = .ok (.iadd, 1) := by decide +kernel
theorem dX12_later_17 : decode cX12_later 17 = .ok (.ldc 233, 2) := by decide +kernel
theorem dX12_later_19 : decode cX12_later 19 = .ok (.if_icmp .le 5, 3) := by decide +kernel
theorem dX12_later_22 : decode cX12_later 22 = .ok (.iconst (-1), 1) := by decide +kernel
theorem dX12_later_23 : decode cX12_later 23 = .ok (.ireturn, 1) := by decide +kernel
theorem dX12_later_24 : decode cX12_later 24 = .ok (.aload_n 0, 1) := by decide +kernel
theorem dX12_later_25 : decode cX12_later 25 = .ok (.dup, 1) := by decide +kernel
theorem dX12_later_26 : decode cX12_later 26 = .ok (.getfield 314, 3) := by decide +kernel
theorem dX12_later_29 : decode cX12_later 29 = .ok (.iload_n 1, 1) := by decide +kernel
theorem dX12_later_30 : decode cX12_later 30 = .ok (.iadd, 1) := by decide +kernel
theorem dX12_later_31 : decode cX12_later 31 = .ok (.putfield 314, 3) := by decide +kernel
theorem dX12_later_34 : decode cX12_later 34 = .ok (.aload_n 0, 1) := by decide +kernel
theorem dX12_later_35 : decode cX12_later 35 = .ok (.getfield 314, 3) := by decide +kernel
theorem dX12_later_38 : decode cX12_later 38 = .ok (.ireturn, 1) := by decide +kernel
set_option maxHeartbeats 4000000 in
set_option maxRecDepth 20000 in
theorem c_X12_later (l : Launch) (b : Nat) (D : va_G) (cy : Nat → ClassId) {tt : Nat} {M : xMm} {z : Int} (hz : inR z) (hM : 0 ≤ M 172 55 ∧ M 172 55 ≤ 100000) : xC l b D cy yX12_later cX12_later 2 (some .int) ({ frames := 0, cells := 0, slots := 0, locals := 0 }) [xr 172, xi z] 209 M (RS tt) (xPi 209 (RS tt) (fun r M' => ((0 ≤ z ∧ z ≤ 1000 ∧ M 172 55 + z ≤ 100000) ∧ r = M 172 55 + z ∧ M' = mu M 172 55 (M 172 55 + z)) ∨ (¬ (0 ≤ z ∧ z ≤ 1000 ∧ M 172 55 + z ≤ 100000) ∧ r = -1 ∧ M' = M))) := by
  refine x_met (by decide) (Nat.le_of_ble_eq_true rfl) (fun g hg hr he => ?_)
  refine x_canon (ls' := [(0, _), (1, _)]) rfl ?_
  refine x_iload_n hg dX12_later_0 rfl ?_
  refine x_if_lt (tgt := 22) hg dX12_later_1 (by decide) (by omega) (fun c1 => ?_) (fun c1 => ?_)
  · skip
    refine x_iconst hg dX12_later_22 ?_
    refine x_iret hg hr (Or.inl rfl) dX12_later_23 (Nat.le_refl _) (Nat.le_refl _) ?_
    refine ⟨rfl, rfl, _, rfl, ?_⟩
    first | exact Or.inl ⟨by omega, rfl, rfl⟩ | exact Or.inr ⟨by omega, rfl, rfl⟩
  · skip
    refine x_iload_n hg dX12_later_4 rfl ?_
    refine x_sipush hg dX12_later_5 (by decide) ?_
    refine x_icmp_gt (tgt := 22) hg dX12_later_8 (by decide) (by omega) (by omega) (fun c8 => ?_) (fun c8 => ?_)
    · skip
      refine x_iconst hg dX12_later_22 ?_
      refine x_iret hg hr (Or.inl rfl) dX12_later_23 (Nat.le_refl _) (Nat.le_refl _) ?_
      refine ⟨rfl, rfl, _, rfl, ?_⟩
      first | exact Or.inl ⟨by omega, rfl, rfl⟩ | exact Or.inr ⟨by omega, rfl, rfl⟩
    · skip
      refine x_aload_n hg dX12_later_11 rfl ?_
      refine x_getI hg dX12_later_12 fl_X12_314 (by decide) rfl ?_
      refine x_iload_n hg dX12_later_15 rfl ?_
      refine x_iadd hg dX12_later_16 ?_
      refine x_ldc hg 100000 dX12_later_17 (List.mem_of_getElem? (i := 1104) (by decide +kernel)) ?_
      refine x_icmp_le (tgt := 24) hg dX12_later_19 (by decide) (by omega) (by omega) (fun c19 => ?_) (fun c19 => ?_)
      · skip
        refine x_aload_n hg dX12_later_24 rfl ?_
        refine x_dup hg dX12_later_25 rfl ?_
        refine x_getI hg dX12_later_26 fl_X12_314 (by decide) rfl ?_
        refine x_iload_n hg dX12_later_29 rfl ?_
        refine x_iadd hg dX12_later_30 ?_
        refine x_putI hg dX12_later_31 fl_X12_314 ft_12_55 (by decide) rfl ?_
        refine x_aload_n hg dX12_later_34 rfl ?_
        refine x_getI hg dX12_later_35 fl_X12_314 (by decide) rfl ?_
        try simp (disch := omega) only [mu_s, mu_nf, mu_nc]
        refine x_iret hg hr (Or.inl rfl) dX12_later_38 (Nat.le_refl _) (Nat.le_refl _) ?_
        refine ⟨rfl, rfl, _, rfl, ?_⟩
        first | exact Or.inl ⟨by omega, rfl, rfl⟩ | exact Or.inr ⟨by omega, rfl, rfl⟩
      · skip
        refine x_iconst hg dX12_later_22 ?_
        refine x_iret hg hr (Or.inl rfl) dX12_later_23 (Nat.le_refl _) (Nat.le_refl _) ?_
        refine ⟨rfl, rfl, _, rfl, ?_⟩
        first | exact Or.inl ⟨by omega, rfl, rfl⟩ | exact Or.inr ⟨by omega, rfl, rfl⟩

theorem dX12_cooler_0 : decode cX12_cooler 0 = .ok (.iload_n 1, 1) := by decide +kernel
theorem dX12_cooler_1 : decode cX12_cooler 1 = .ok (.ifCond .lt 9, 3) := by decide +kernel
theorem dX12_cooler_4 : decode cX12_cooler 4 = .ok (.iload_n 1, 1) := by decide +kernel
theorem dX12_cooler_5 : decode cX12_cooler 5 = .ok (.bipush 10, 2) := by decide +kernel
theorem dX12_cooler_7 : decode cX12_cooler 7 = .ok (.if_icmp .lt 5, 3) := by decide +kernel
theorem dX12_cooler_10 : decode cX12_cooler 10 = .ok (.iconst 0, 1) := by decide +kernel
theorem dX12_cooler_11 : decode cX12_cooler 11 = .ok (.ireturn, 1) := by decide +kernel
theorem dX12_cooler_12 : decode cX12_cooler 12 = .ok (.aload_n 0, 1) := by decide +kernel
theorem dX12_cooler_13 : decode cX12_cooler 13 = .ok (.getfield 148, 3) := by decide +kernel
theorem dX12_cooler_16 : decode cX12_cooler 16 = .ok (.iload_n 1, 1) := by decide +kernel
theorem dX12_cooler_17 : decode cX12_cooler 17 = .ok (.iload_n 2, 1) := by decide +kernel
theorem dX12_cooler_18 : decode cX12_cooler 18 = .ok (.bastore, 1) := by decide +kernel
theorem dX12_cooler_19 : decode cX12_cooler 19 = .ok (.iconst 1, 1) := by decide +kernel
theorem dX12_cooler_20 : decode cX12_cooler 20 = .ok (.ireturn, 1) := by decide +kernel
set_option maxHeartbeats 4000000 in
set_option maxRecDepth 20000 in
theorem c_X12_cooler (l : Launch) (b : Nat) (D : va_G) (cy : Nat → ClassId) {tt : Nat} {M : xMm} {s z : Int} (hs : inR s) (hz : z = 0 ∨ z = 1) : xC l b D cy yX12_cooler cX12_cooler 3 (some .boolean) ({ frames := 0, cells := 0, slots := 0, locals := 0 }) [xr 172, xi s, xi z] 209 M (RS tt) (xPi 209 (RS tt) (fun r M' => ((0 ≤ s ∧ s < 10) ∧ r = 1 ∧ M' = mu M 185 s.toNat z) ∨ (¬ (0 ≤ s ∧ s < 10) ∧ r = 0 ∧ M' = M))) := by
  refine x_met (by decide) (Nat.le_of_ble_eq_true rfl) (fun g hg hr he => ?_)
  refine x_canon (ls' := [(0, _), (1, _), (2, _)]) rfl ?_
  refine x_iload_n hg dX12_cooler_0 rfl ?_
  refine x_if_lt (tgt := 10) hg dX12_cooler_1 (by decide) (by omega) (fun c1 => ?_) (fun c1 => ?_)
  · skip
    refine x_iconst hg dX12_cooler_10 ?_
    refine x_iret hg hr (Or.inr ⟨rfl, by first | exact Or.inl rfl | exact Or.inr rfl | omega⟩) dX12_cooler_11 (Nat.le_refl _) (Nat.le_refl _) ?_
    refine ⟨rfl, rfl, _, rfl, ?_⟩
    first | exact Or.inl ⟨by omega, rfl, rfl⟩ | exact Or.inr ⟨by omega, rfl, rfl⟩
  · skip
    refine x_iload_n hg dX12_cooler_4 rfl ?_
    refine x_bipush hg dX12_cooler_5 (by decide) ?_
    refine x_icmp_lt (tgt := 12) hg dX12_cooler_7 (by decide) (by omega) (by omega) (fun c7 => ?_) (fun c7 => ?_)
    · skip
      refine x_aload_n hg dX12_cooler_12 rfl ?_
      refine x_getR (j9 := 185) hg dX12_cooler_13 fl_X12_148 (by decide) rfl rfl (by decide) ?_
      refine x_iload_n hg dX12_cooler_16 rfl ?_
      refine x_iload_n hg dX12_cooler_17 rfl ?_
      refine x_zastore (len := 10) hg dX12_cooler_18 (by decide) (by omega) (by omega) ?_
      refine x_iconst hg dX12_cooler_19 ?_
      refine x_iret hg hr (Or.inr ⟨rfl, by first | exact Or.inl rfl | exact Or.inr rfl | omega⟩) dX12_cooler_20 (Nat.le_refl _) (Nat.le_refl _) ?_
      refine ⟨rfl, rfl, _, rfl, ?_⟩
      first | exact Or.inl ⟨by omega, rfl, rfl⟩ | exact Or.inr ⟨by omega, rfl, rfl⟩
    · skip
      refine x_iconst hg dX12_cooler_10 ?_
      refine x_iret hg hr (Or.inr ⟨rfl, by first | exact Or.inl rfl | exact Or.inr rfl | omega⟩) dX12_cooler_11 (Nat.le_refl _) (Nat.le_refl _) ?_
      refine ⟨rfl, rfl, _, rfl, ?_⟩
      first | exact Or.inl ⟨by omega, rfl, rfl⟩ | exact Or.inr ⟨by omega, rfl, rfl⟩

theorem dX12_warmth_0 : decode cX12_warmth 0 = .ok (.iload_n 1, 1) := by decide +kernel
theorem dX12_warmth_1 : decode cX12_warmth 1 = .ok (.ifCond .lt 20, 3) := by decide +kernel
theorem dX12_warmth_4 : decode cX12_warmth 4 = .ok (.iload_n 1, 1) := by decide +kernel
theorem dX12_warmth_5 : decode cX12_warmth 5 = .ok (.bipush 23, 2) := by decide +kernel
theorem dX12_warmth_7 : decode cX12_warmth 7 = .ok (.if_icmp .gt 14, 3) := by decide +kernel
theorem dX12_warmth_10 : decode cX12_warmth 10 = .ok (.iload_n 2, 1) := by decide +kernel
theorem dX12_warmth_11 : decode cX12_warmth 11 = .ok (.iconst (-1), 1) := by decide +kernel
theorem dX12_warmth_12 : decode cX12_warmth 12 = .ok (.if_icmp .lt 9, 3) := by decide +kernel
theorem dX12_warmth_15 : decode cX12_warmth 15 = .ok (.iload_n 2, 1) := by decide +kernel
theorem dX12_warmth_16 : decode cX12_warmth 16 = .ok (.bipush 40, 2) := by decide +kernel
theorem dX12_warmth_18 : decode cX12_warmth 18 = .ok (.if_icmp .le 5, 3) := by decide +kernel
theorem dX12_warmth_21 : decode cX12_warmth 21 = .ok (.iconst 0, 1) := by decide +kernel
theorem dX12_warmth_22 : decode cX12_warmth 22 = .ok (.ireturn, 1) := by decide +kernel
theorem dX12_warmth_23 : decode cX12_warmth 23 = .ok (.aload_n 0, 1) := by decide +kernel
theorem dX12_warmth_24 : decode cX12_warmth 24 = .ok (.getfield 139, 3) := by decide +kernel
theorem dX12_warmth_27 : decode cX12_warmth 27 = .ok (.iload_n 1, 1) := by decide +kernel
theorem dX12_warmth_28 : decode cX12_warmth 28 = .ok (.iload_n 2, 1) := by decide +kernel
theorem dX12_warmth_29 : decode cX12_warmth 29 = .ok (.iastore, 1) := by decide +kernel
theorem dX12_warmth_30 : decode cX12_warmth 30 = .ok (.iconst 1, 1) := by decide +kernel
theorem dX12_warmth_31 : decode cX12_warmth 31 = .ok (.ireturn, 1) := by decide +kernel
set_option maxHeartbeats 4000000 in
set_option maxRecDepth 20000 in
theorem c_X12_warmth (l : Launch) (b : Nat) (D : va_G) (cy : Nat → ClassId) {tt : Nat} {M : xMm} {z y : Int} (hz : inR z) (hy : inR y) : xC l b D cy yX12_warmth cX12_warmth 3 (some .boolean) ({ frames := 0, cells := 0, slots := 0, locals := 0 }) [xr 172, xi z, xi y] 209 M (RS tt) (xPi 209 (RS tt) (fun r M' => ((0 ≤ z ∧ z < 24 ∧ -1 ≤ y ∧ y ≤ 40) ∧ r = 1 ∧ M' = mu M 182 z.toNat y) ∨ (¬ (0 ≤ z ∧ z < 24 ∧ -1 ≤ y ∧ y ≤ 40) ∧ r = 0 ∧ M' = M))) := by
  refine x_met (by decide) (Nat.le_of_ble_eq_true rfl) (fun g hg hr he => ?_)
  refine x_canon (ls' := [(0, _), (1, _), (2, _)]) rfl ?_
  refine x_iload_n hg dX12_warmth_0 rfl ?_
  refine x_if_lt (tgt := 21) hg dX12_warmth_1 (by decide) (by omega) (fun c1 => ?_) (fun c1 => ?_)
  · skip
    refine x_iconst hg dX12_warmth_21 ?_
    refine x_iret hg hr (Or.inr ⟨rfl, by first | exact Or.inl rfl | exact Or.inr rfl | omega⟩) dX12_warmth_22 (Nat.le_refl _) (Nat.le_refl _) ?_
    refine ⟨rfl, rfl, _, rfl, ?_⟩
    first | exact Or.inl ⟨by omega, rfl, rfl⟩ | exact Or.inr ⟨by omega, rfl, rfl⟩
  · skip
    refine x_iload_n hg dX12_warmth_4 rfl ?_
    refine x_bipush hg dX12_warmth_5 (by decide) ?_
    refine x_icmp_gt (tgt := 21) hg dX12_warmth_7 (by decide) (by omega) (by omega) (fun c7 => ?_) (fun c7 => ?_)
    · skip
      refine x_iconst hg dX12_warmth_21 ?_
      refine x_iret hg hr (Or.inr ⟨rfl, by first | exact Or.inl rfl | exact Or.inr rfl | omega⟩) dX12_warmth_22 (Nat.le_refl _) (Nat.le_refl _) ?_
      refine ⟨rfl, rfl, _, rfl, ?_⟩
      first | exact Or.inl ⟨by omega, rfl, rfl⟩ | exact Or.inr ⟨by omega, rfl, rfl⟩
    · skip
      refine x_iload_n hg dX12_warmth_10 rfl ?_
      refine x_iconst hg dX12_warmth_11 ?_
      refine x_icmp_lt (tgt := 21) hg dX12_warmth_12 (by decide) (by omega) (by omega) (fun c12 => ?_) (fun c12 => ?_)
      · skip
        refine x_iconst hg dX12_warmth_21 ?_
        refine x_iret hg hr (Or.inr ⟨rfl, by first | exact Or.inl rfl | exact Or.inr rfl | omega⟩) dX12_warmth_22 (Nat.le_refl _) (Nat.le_refl _) ?_
        refine ⟨rfl, rfl, _, rfl, ?_⟩
        first | exact Or.inl ⟨by omega, rfl, rfl⟩ | exact Or.inr ⟨by omega, rfl, rfl⟩
      · skip
        refine x_iload_n hg dX12_warmth_15 rfl ?_
        refine x_bipush hg dX12_warmth_16 (by decide) ?_
        refine x_icmp_le (tgt := 23) hg dX12_warmth_18 (by decide) (by omega) (by omega) (fun c18 => ?_) (fun c18 => ?_)
        · skip
          refine x_aload_n hg dX12_warmth_23 rfl ?_
          refine x_getR (j9 := 182) hg dX12_warmth_24 fl_X12_139 (by decide) rfl rfl (by decide) ?_
          refine x_iload_n hg dX12_warmth_27 rfl ?_
          refine x_iload_n hg dX12_warmth_28 rfl ?_
          refine x_iastore (len := 24) hg dX12_warmth_29 (by decide) (by omega)  ?_
          refine x_iconst hg dX12_warmth_30 ?_
          refine x_iret hg hr (Or.inr ⟨rfl, by first | exact Or.inl rfl | exact Or.inr rfl | omega⟩) dX12_warmth_31 (Nat.le_refl _) (Nat.le_refl _) ?_
          refine ⟨rfl, rfl, _, rfl, ?_⟩
          first | exact Or.inl ⟨by omega, rfl, rfl⟩ | exact Or.inr ⟨by omega, rfl, rfl⟩
        · skip
          refine x_iconst hg dX12_warmth_21 ?_
          refine x_iret hg hr (Or.inr ⟨rfl, by first | exact Or.inl rfl | exact Or.inr rfl | omega⟩) dX12_warmth_22 (Nat.le_refl _) (Nat.le_refl _) ?_
          refine ⟨rfl, rfl, _, rfl, ?_⟩
          first | exact Or.inl ⟨by omega, rfl, rfl⟩ | exact Or.inr ⟨by omega, rfl, rfl⟩

theorem dX12_churn_0 : decode cX12_churn 0 = .ok (.iload_n 1, 1) := by decide +kernel
theorem dX12_churn_1 : decode cX12_churn 1 = .ok (.ifCond .lt 53, 3) := by decide +kernel
theorem dX12_churn_4 : decode cX12_churn 4 = .ok (.iload_n 1, 1) := by decide +kernel
theorem dX12_churn_5 : decode cX12_churn 5 = .ok (.bipush 12, 2) := by decide +kernel
theorem dX12_churn_7 : decode cX12_churn 7 = .ok (.if_icmp .ge 47, 3) := by decide +kernel
theorem dX12_churn_10 : decode cX12_churn 10 = .ok (.iload_n 2, 1) := by decide +kernel
theorem dX12_churn_11 : decode cX12_churn 11 = .ok (.iconst 1, 1) := by decide +kernel
theorem dX12_churn_12 : decode cX12_churn 12 = .ok (.if_icmp .lt 42, 3) := by decide +kernel
theorem dX12_churn_15 : decode cX12_churn 15 = .ok (.iload_n 2, 1) := by decide +kernel
theorem dX12_churn_16 : decode cX12_churn 16 = .ok (.bipush 10, 2) := by decide +kernel
theorem dX12_churn_18 : decode cX12_churn 18 = .ok (.if_icmp .ge 36, 3) := by decide +kernel
theorem dX12_churn_21 : decode cX12_churn 21 = .ok (.iload_n 3, 1) := by decide +kernel
theorem dX12_churn_22 : decode cX12_churn 22 = .ok (.ifCond .lt 32, 3) := by decide +kernel
theorem dX12_churn_25 : decode cX12_churn 25 = .ok (.iload_n 3, 1) := by decide +kernel
theorem dX12_churn_26 : decode cX12_churn 26 = .ok (.sipush 1440, 3) := by decide +kernel
theorem dX12_churn_29 : decode cX12_churn 29 = .ok (.if_icmp .ge 25, 3) := by decide +kernel
theorem dX12_churn_32 : decode cX12_churn 32 = .ok (.iload 4, 2) := by decide +kernel
theorem dX12_churn_34 : decode cX12_churn 34 = .ok (.iconst 1, 1) := by decide +kernel
theorem dX12_churn_35 : decode cX12_churn 35 = .ok (.if_icmp .lt 19, 3) := by decide +kernel
theorem dX12_churn_38 : decode cX12_churn 38 = .ok (.iload 4, 2) := by decide +kernel
theorem dX12_churn_40 : decode cX12_churn 40 = .ok (.bipush 100, 2) := by decide +kernel
theorem dX12_churn_42 : decode cX12_churn 42 = .ok (.if_icmp .gt 12, 3) := by decide +kernel
theorem dX12_churn_45 : decode cX12_churn 45 = .ok (.aload_n 0, 1) := by decide +kernel
theorem dX12_churn_46 : decode cX12_churn 46 = .ok (.getfield 234, 3) := by decide +kernel
theorem dX12_churn_49 : decode cX12_churn 49 = .ok (.bipush 10, 2) := by decide +kernel
theorem dX12_churn_51 : decode cX12_churn 51 = .ok (.if_icmp .ne 5, 3) := by decide +kernel
theorem dX12_churn_54 : decode cX12_churn 54 = .ok (.iconst (-1), 1) := by decide +kernel
theorem dX12_churn_55 : decode cX12_churn 55 = .ok (.ireturn, 1) := by decide +kernel
theorem dX12_churn_56 : decode cX12_churn 56 = .ok (.aload_n 0, 1) := by decide +kernel
theorem dX12_churn_57 : decode cX12_churn 57 = .ok (.getfield 155, 3) := by decide +kernel
theorem dX12_churn_60 : decode cX12_churn 60 = .ok (.aload_n 0, 1) := by decide +kernel
theorem dX12_churn_61 : decode cX12_churn 61 = .ok (.getfield 234, 3) := by decide +kernel
theorem dX12_churn_64 : decode cX12_churn 64 = .ok (.iload_n 1, 1) := by decide +kernel
theorem dX12_churn_65 : decode cX12_churn 65 = .ok (.iastore, 1) := by decide +kernel
theorem dX12_churn_66 : decode cX12_churn 66 = .ok (.aload_n 0, 1) := by decide +kernel
theorem dX12_churn_67 : decode cX12_churn 67 = .ok (.getfield 158, 3) := by decide +kernel
theorem dX12_churn_70 : decode cX12_churn 70 = .ok (.aload_n 0, 1) := by decide +kernel
theorem dX12_churn_71 : decode cX12_churn 71 = .ok (.getfield 234, 3) := by decide +kernel
theorem dX12_churn_74 : decode cX12_churn 74 = .ok (.iload_n 2, 1) := by decide +kernel
theorem dX12_churn_75 : decode cX12_churn 75 = .ok (.iastore, 1) := by decide +kernel
theorem dX12_churn_76 : decode cX12_churn 76 = .ok (.aload_n 0, 1) := by decide +kernel
theorem dX12_churn_77 : decode cX12_churn 77 = .ok (.getfield 161, 3) := by decide +kernel
theorem dX12_churn_80 : decode cX12_churn 80 = .ok (.aload_n 0, 1) := by decide +kernel
theorem dX12_churn_81 : decode cX12_churn 81 = .ok (.getfield 234, 3) := by decide +kernel
theorem dX12_churn_84 : decode cX12_churn 84 = .ok (.iload_n 3, 1) := by decide +kernel
theorem dX12_churn_85 : decode cX12_churn 85 = .ok (.iastore, 1) := by decide +kernel
theorem dX12_churn_86 : decode cX12_churn 86 = .ok (.aload_n 0, 1) := by decide +kernel
theorem dX12_churn_87 : decode cX12_churn 87 = .ok (.getfield 164, 3) := by decide +kernel
theorem dX12_churn_90 : decode cX12_churn 90 = .ok (.aload_n 0, 1) := by decide +kernel
theorem dX12_churn_91 : decode cX12_churn 91 = .ok (.getfield 234, 3) := by decide +kernel
theorem dX12_churn_94 : decode cX12_churn 94 = .ok (.iload 4, 2) := by decide +kernel
theorem dX12_churn_96 : decode cX12_churn 96 = .ok (.iastore, 1) := by decide +kernel
theorem dX12_churn_97 : decode cX12_churn 97 = .ok (.aload_n 0, 1) := by decide +kernel
theorem dX12_churn_98 : decode cX12_churn 98 = .ok (.getfield 167, 3) := by decide +kernel
theorem dX12_churn_101 : decode cX12_churn 101 = .ok (.aload_n 0, 1) := by decide +kernel
theorem dX12_churn_102 : decode cX12_churn 102 = .ok (.getfield 234, 3) := by decide +kernel
theorem dX12_churn_105 : decode cX12_churn 105 = .ok (.iconst (-1), 1) := by decide +kernel
theorem dX12_churn_106 : decode cX12_churn 106 = .ok (.iastore, 1) := by decide +kernel
theorem dX12_churn_107 : decode cX12_churn 107 = .ok (.aload_n 0, 1) := by decide +kernel
theorem dX12_churn_108 : decode cX12_churn 108 = .ok (.dup, 1) := by decide +kernel
theorem dX12_churn_109 : decode cX12_churn 109 = .ok (.getfield 234, 3) := by decide +kernel
theorem dX12_churn_112 : decode cX12_churn 112 = .ok (.iconst 1, 1) := by decide +kernel
theorem dX12_churn_113 : decode cX12_churn 113 = .ok (.iadd, 1) := by decide +kernel
theorem dX12_churn_114 : decode cX12_churn 114 = .ok (.putfield 234, 3) := by decide +kernel
theorem dX12_churn_117 : decode cX12_churn 117 = .ok (.aload_n 0, 1) := by decide +kernel
theorem dX12_churn_118 : decode cX12_churn 118 = .ok (.getfield 234, 3) := by decide +kernel
theorem dX12_churn_121 : decode cX12_churn 121 = .ok (.iconst 1, 1) := by decide +kernel
theorem dX12_churn_122 : decode cX12_churn 122 = .ok (.isub, 1) := by decide +kernel
theorem dX12_churn_123 : decode cX12_churn 123 = .ok (.ireturn, 1) := by decide +kernel
set_option maxHeartbeats 4000000 in
set_option maxRecDepth 20000 in
theorem c_X12_churn (l : Launch) (b : Nat) (D : va_G) (cy : Nat → ClassId) {tt : Nat} {M : xMm} {f s y p : Int} (hM : MO M) (hf : inR f) (hs : inR s) (hy : inR y) (hp : inR p) : xC l b D cy yX12_churn cX12_churn 5 (some .int) ({ frames := 0, cells := 0, slots := 0, locals := 0 }) [xr 172, xi f, xi s, xi y, xi p] 209 M (RS tt) (xPi 209 (RS tt) (fun r M' => (((0 ≤ f ∧ f < 12) ∧ (1 ≤ s ∧ s < 10) ∧ (0 ≤ y ∧ y ≤ 1439) ∧ (1 ≤ p ∧ p ≤ 100) ∧ M 172 30 < 10) ∧ r = M 172 30 ∧ M' = mu (mu (mu (mu (mu (mu M 186 (M 172 30).toNat f) 187 (M 172 30).toNat s) 188 (M 172 30).toNat y) 189 (M 172 30).toNat p) 190 (M 172 30).toNat (-1)) 172 30 (M 172 30 + 1)) ∨ (¬ ((0 ≤ f ∧ f < 12) ∧ (1 ≤ s ∧ s < 10) ∧ (0 ≤ y ∧ y ≤ 1439) ∧ (1 ≤ p ∧ p ≤ 100) ∧ M 172 30 < 10) ∧ r = -1 ∧ M' = M))) := by
  refine x_met (by decide) (Nat.le_of_ble_eq_true rfl) (fun g hg hr he => ?_)
  have hM0 := hM
  obtain ⟨hn30, hn56, hn57, hn55, hn24, hC, hT, hB, hF⟩ := hM
  refine x_canon (ls' := [(0, _), (1, _), (2, _), (3, _), (4, _)]) rfl ?_
  refine x_iload_n hg dX12_churn_0 rfl ?_
  refine x_if_lt (tgt := 54) hg dX12_churn_1 (by decide) (by omega) (fun c1 => ?_) (fun c1 => ?_)
  · skip
    refine x_iconst hg dX12_churn_54 ?_
    refine x_iret hg hr (Or.inl rfl) dX12_churn_55 (Nat.le_refl _) (Nat.le_refl _) ?_
    exact ⟨rfl, rfl, _, rfl, Or.inr ⟨by omega, rfl, rfl⟩⟩
  · skip
    refine x_iload_n hg dX12_churn_4 rfl ?_
    refine x_bipush hg dX12_churn_5 (by decide) ?_
    refine x_icmp_ge (tgt := 54) hg dX12_churn_7 (by decide) (by omega) (by omega) (fun c7 => ?_) (fun c7 => ?_)
    · skip
      refine x_iconst hg dX12_churn_54 ?_
      refine x_iret hg hr (Or.inl rfl) dX12_churn_55 (Nat.le_refl _) (Nat.le_refl _) ?_
      exact ⟨rfl, rfl, _, rfl, Or.inr ⟨by omega, rfl, rfl⟩⟩
    · skip
      refine x_iload_n hg dX12_churn_10 rfl ?_
      refine x_iconst hg dX12_churn_11 ?_
      refine x_icmp_lt (tgt := 54) hg dX12_churn_12 (by decide) (by omega) (by omega) (fun c12 => ?_) (fun c12 => ?_)
      · skip
        refine x_iconst hg dX12_churn_54 ?_
        refine x_iret hg hr (Or.inl rfl) dX12_churn_55 (Nat.le_refl _) (Nat.le_refl _) ?_
        exact ⟨rfl, rfl, _, rfl, Or.inr ⟨by omega, rfl, rfl⟩⟩
      · skip
        refine x_iload_n hg dX12_churn_15 rfl ?_
        refine x_bipush hg dX12_churn_16 (by decide) ?_
        refine x_icmp_ge (tgt := 54) hg dX12_churn_18 (by decide) (by omega) (by omega) (fun c18 => ?_) (fun c18 => ?_)
        · skip
          refine x_iconst hg dX12_churn_54 ?_
          refine x_iret hg hr (Or.inl rfl) dX12_churn_55 (Nat.le_refl _) (Nat.le_refl _) ?_
          exact ⟨rfl, rfl, _, rfl, Or.inr ⟨by omega, rfl, rfl⟩⟩
        · skip
          refine x_iload_n hg dX12_churn_21 rfl ?_
          refine x_if_lt (tgt := 54) hg dX12_churn_22 (by decide) (by omega) (fun c22 => ?_) (fun c22 => ?_)
          · skip
            refine x_iconst hg dX12_churn_54 ?_
            refine x_iret hg hr (Or.inl rfl) dX12_churn_55 (Nat.le_refl _) (Nat.le_refl _) ?_
            exact ⟨rfl, rfl, _, rfl, Or.inr ⟨by omega, rfl, rfl⟩⟩
          · skip
            refine x_iload_n hg dX12_churn_25 rfl ?_
            refine x_sipush hg dX12_churn_26 (by decide) ?_
            refine x_icmp_ge (tgt := 54) hg dX12_churn_29 (by decide) (by omega) (by omega) (fun c29 => ?_) (fun c29 => ?_)
            · skip
              refine x_iconst hg dX12_churn_54 ?_
              refine x_iret hg hr (Or.inl rfl) dX12_churn_55 (Nat.le_refl _) (Nat.le_refl _) ?_
              exact ⟨rfl, rfl, _, rfl, Or.inr ⟨by omega, rfl, rfl⟩⟩
            · skip
              refine x_iload hg dX12_churn_32 rfl ?_
              refine x_iconst hg dX12_churn_34 ?_
              refine x_icmp_lt (tgt := 54) hg dX12_churn_35 (by decide) (by omega) (by omega) (fun c35 => ?_) (fun c35 => ?_)
              · skip
                refine x_iconst hg dX12_churn_54 ?_
                refine x_iret hg hr (Or.inl rfl) dX12_churn_55 (Nat.le_refl _) (Nat.le_refl _) ?_
                exact ⟨rfl, rfl, _, rfl, Or.inr ⟨by omega, rfl, rfl⟩⟩
              · skip
                refine x_iload hg dX12_churn_38 rfl ?_
                refine x_bipush hg dX12_churn_40 (by decide) ?_
                refine x_icmp_gt (tgt := 54) hg dX12_churn_42 (by decide) (by omega) (by omega) (fun c42 => ?_) (fun c42 => ?_)
                · skip
                  refine x_iconst hg dX12_churn_54 ?_
                  refine x_iret hg hr (Or.inl rfl) dX12_churn_55 (Nat.le_refl _) (Nat.le_refl _) ?_
                  exact ⟨rfl, rfl, _, rfl, Or.inr ⟨by omega, rfl, rfl⟩⟩
                · skip
                  refine x_aload_n hg dX12_churn_45 rfl ?_
                  refine x_getI hg dX12_churn_46 fl_X12_234 (by decide) rfl ?_
                  refine x_bipush hg dX12_churn_49 (by decide) ?_
                  refine x_icmp_ne (tgt := 56) hg dX12_churn_51 (by decide) (by omega) (by omega) (fun c51 => ?_) (fun c51 => ?_)
                  · skip
                    refine x_aload_n hg dX12_churn_56 rfl ?_
                    refine x_getR (j9 := 186) hg dX12_churn_57 fl_X12_155 (by decide) rfl rfl (by decide) ?_
                    refine x_aload_n hg dX12_churn_60 rfl ?_
                    refine x_getI hg dX12_churn_61 fl_X12_234 (by decide) rfl ?_
                    refine x_iload_n hg dX12_churn_64 rfl ?_
                    refine x_iastore (len := 10) hg dX12_churn_65 (by decide) (by omega)  ?_
                    refine x_aload_n hg dX12_churn_66 rfl ?_
                    refine x_getR (j9 := 187) hg dX12_churn_67 fl_X12_158 (by decide) rfl rfl (by decide) ?_
                    refine x_aload_n hg dX12_churn_70 rfl ?_
                    refine x_getI hg dX12_churn_71 fl_X12_234 (by decide) rfl ?_
                    try simp (disch := omega) only [mu_s, mu_nf, mu_nc]
                    refine x_iload_n hg dX12_churn_74 rfl ?_
                    refine x_iastore (len := 10) hg dX12_churn_75 (by decide) (by omega)  ?_
                    refine x_aload_n hg dX12_churn_76 rfl ?_
                    refine x_getR (j9 := 188) hg dX12_churn_77 fl_X12_161 (by decide) rfl rfl (by decide) ?_
                    refine x_aload_n hg dX12_churn_80 rfl ?_
                    refine x_getI hg dX12_churn_81 fl_X12_234 (by decide) rfl ?_
                    try simp (disch := omega) only [mu_s, mu_nf, mu_nc]
                    refine x_iload_n hg dX12_churn_84 rfl ?_
                    refine x_iastore (len := 10) hg dX12_churn_85 (by decide) (by omega)  ?_
                    refine x_aload_n hg dX12_churn_86 rfl ?_
                    refine x_getR (j9 := 189) hg dX12_churn_87 fl_X12_164 (by decide) rfl rfl (by decide) ?_
                    refine x_aload_n hg dX12_churn_90 rfl ?_
                    refine x_getI hg dX12_churn_91 fl_X12_234 (by decide) rfl ?_
                    try simp (disch := omega) only [mu_s, mu_nf, mu_nc]
                    refine x_iload hg dX12_churn_94 rfl ?_
                    refine x_iastore (len := 10) hg dX12_churn_96 (by decide) (by omega)  ?_
                    refine x_aload_n hg dX12_churn_97 rfl ?_
                    refine x_getR (j9 := 190) hg dX12_churn_98 fl_X12_167 (by decide) rfl rfl (by decide) ?_
                    refine x_aload_n hg dX12_churn_101 rfl ?_
                    refine x_getI hg dX12_churn_102 fl_X12_234 (by decide) rfl ?_
                    try simp (disch := omega) only [mu_s, mu_nf, mu_nc]
                    refine x_iconst hg dX12_churn_105 ?_
                    refine x_iastore (len := 10) hg dX12_churn_106 (by decide) (by omega)  ?_
                    refine x_aload_n hg dX12_churn_107 rfl ?_
                    refine x_dup hg dX12_churn_108 rfl ?_
                    refine x_getI hg dX12_churn_109 fl_X12_234 (by decide) rfl ?_
                    try simp (disch := omega) only [mu_s, mu_nf, mu_nc]
                    refine x_iconst hg dX12_churn_112 ?_
                    refine x_iadd hg dX12_churn_113 ?_
                    refine x_putI hg dX12_churn_114 fl_X12_234 ft_12_30 (by decide) rfl ?_
                    refine x_aload_n hg dX12_churn_117 rfl ?_
                    refine x_getI hg dX12_churn_118 fl_X12_234 (by decide) rfl ?_
                    try simp (disch := omega) only [mu_s, mu_nf, mu_nc]
                    refine x_iconst hg dX12_churn_121 ?_
                    refine x_isub hg dX12_churn_122 ?_
                    refine x_iret hg hr (Or.inl rfl) dX12_churn_123 (Nat.le_refl _) (Nat.le_refl _) ?_
                    exact ⟨rfl, rfl, _, rfl, Or.inl ⟨by omega, by omega, rfl⟩⟩
                  · skip
                    refine x_iconst hg dX12_churn_54 ?_
                    refine x_iret hg hr (Or.inl rfl) dX12_churn_55 (Nat.le_refl _) (Nat.le_refl _) ?_
                    exact ⟨rfl, rfl, _, rfl, Or.inr ⟨by omega, rfl, rfl⟩⟩

theorem dX12_of_0 : decode cX12_of 0 = .ok (.aload_n 0, 1) := by decide +kernel
theorem dX12_of_1 : decode cX12_of 1 = .ok (.iload_n 1, 1) := by decide +kernel
theorem dX12_of_2 : decode cX12_of 2 = .ok (.invokevirtual 237, 3) := by decide +kernel
theorem dX12_of_5 : decode cX12_of 5 = .ok (.ifCond .ne 5, 3) := by decide +kernel
theorem dX12_of_8 : decode cX12_of 8 = .ok (.iconst (-1), 1) := by decide +kernel
theorem dX12_of_9 : decode cX12_of 9 = .ok (.ireturn, 1) := by decide +kernel
theorem dX12_of_10 : decode cX12_of 10 = .ok (.iload_n 2, 1) := by decide +kernel
theorem dX12_of_11 : decode cX12_of 11 = .ok (.tableswitch 68 0 4 #[33, 40, 47, 54, 61], 33) := by decide +kernel
theorem dX12_of_44 : decode cX12_of 44 = .ok (.aload_n 0, 1) := by decide +kernel
theorem dX12_of_45 : decode cX12_of 45 = .ok (.getfield 155, 3) := by decide +kernel
theorem dX12_of_48 : decode cX12_of 48 = .ok (.iload_n 1, 1) := by decide +kernel
theorem dX12_of_49 : decode cX12_of 49 = .ok (.iaload, 1) := by decide +kernel
theorem dX12_of_50 : decode cX12_of 50 = .ok (.ireturn, 1) := by decide +kernel
theorem dX12_of_51 : decode cX12_of 51 = .ok (.aload_n 0, 1) := by decide +kernel
theorem dX12_of_52 : decode cX12_of 52 = .ok (.getfield 158, 3) := by decide +kernel
theorem dX12_of_55 : decode cX12_of 55 = .ok (.iload_n 1, 1) := by decide +kernel
theorem dX12_of_56 : decode cX12_of 56 = .ok (.iaload, 1) := by decide +kernel
theorem dX12_of_57 : decode cX12_of 57 = .ok (.ireturn, 1) := by decide +kernel
theorem dX12_of_58 : decode cX12_of 58 = .ok (.aload_n 0, 1) := by decide +kernel
theorem dX12_of_59 : decode cX12_of 59 = .ok (.getfield 161, 3) := by decide +kernel
theorem dX12_of_62 : decode cX12_of 62 = .ok (.iload_n 1, 1) := by decide +kernel
theorem dX12_of_63 : decode cX12_of 63 = .ok (.iaload, 1) := by decide +kernel
theorem dX12_of_64 : decode cX12_of 64 = .ok (.ireturn, 1) := by decide +kernel
theorem dX12_of_65 : decode cX12_of 65 = .ok (.aload_n 0, 1) := by decide +kernel
theorem dX12_of_66 : decode cX12_of 66 = .ok (.getfield 164, 3) := by decide +kernel
theorem dX12_of_69 : decode cX12_of 69 = .ok (.iload_n 1, 1) := by decide +kernel
theorem dX12_of_70 : decode cX12_of 70 = .ok (.iaload, 1) := by decide +kernel
theorem dX12_of_71 : decode cX12_of 71 = .ok (.ireturn, 1) := by decide +kernel
theorem dX12_of_72 : decode cX12_of 72 = .ok (.aload_n 0, 1) := by decide +kernel
theorem dX12_of_73 : decode cX12_of 73 = .ok (.getfield 167, 3) := by decide +kernel
theorem dX12_of_76 : decode cX12_of 76 = .ok (.iload_n 1, 1) := by decide +kernel
theorem dX12_of_77 : decode cX12_of 77 = .ok (.iaload, 1) := by decide +kernel
theorem dX12_of_78 : decode cX12_of 78 = .ok (.ireturn, 1) := by decide +kernel
theorem dX12_of_79 : decode cX12_of 79 = .ok (.iconst (-1), 1) := by decide +kernel
theorem dX12_of_80 : decode cX12_of 80 = .ok (.ireturn, 1) := by decide +kernel
set_option maxHeartbeats 4000000 in
set_option maxRecDepth 20000 in
theorem c_X12_of (l : Launch) (b : Nat) (D : va_G) (cy : Nat → ClassId) {tt : Nat} {M : xMm} {z w : Int} (hM : MO M) (hz : inR z) (hw : inR w) : xC l b D cy yX12_of cX12_of 3 (some .int) ({ frames := 1, cells := 0, slots := 0, locals := 21 }) [xr 172, xi z, xi w] 209 M (RS tt) (xPi 209 (RS tt) (fun r M' => M' = M ∧ r = wOfM M z w)) := by
  refine x_met (by decide) (Nat.le_of_ble_eq_true rfl) (fun g hg hr he => ?_)
  have hM0 := hM
  obtain ⟨hn30, hn56, hn57, hn55, hn24, hC, hT, hB, hF⟩ := hM
  refine x_canon (ls' := [(0, _), (1, _), (2, _)]) rfl ?_
  refine x_aload_n hg dX12_of_0 rfl ?_
  refine x_iload_n hg dX12_of_1 rfl ?_
  refine x_cVi hg he [_] [] dX12_of_2 mv_X12_237 (c_X12_isChurn l b D cy (by omega) (by omega)) (by decide) rfl rfl (Nat.le_of_ble_eq_true rfl) (by decide) (by decide) (fun r2 M2 q2 => ?_)
  obtain ⟨h2, e2⟩ := q2
  replace h2 := h2.symm
  subst h2
  refine x_if_ne (tgt := 10) hg dX12_of_5 (by decide) (by omega) (fun c5 => ?_) (fun c5 => ?_)
  · skip
    refine x_iload_n hg dX12_of_10 rfl ?_
    refine x_int_cases 0 4 (fun hsw11 => ?_) (fun h1sw11 h2sw11 => ?_)
    · refine x_tableOut (tgt := 79) hg dX12_of_11 (by omega) hsw11 (by decide) ?_
      refine x_iconst hg dX12_of_79 ?_
      refine x_iret hg hr (Or.inl rfl) dX12_of_80 (Nat.le_refl _) (Nat.le_refl _) ?_
      refine ⟨rfl, rfl, _, rfl, rfl, ?_⟩
      unfold wOfM
      repeat (first | rw [if_pos (by omega)] | rw [if_neg (by omega)])
    · refine x_sw5 h1sw11 h2sw11 (fun e11 => ?_) (fun e11 => ?_) (fun e11 => ?_) (fun e11 => ?_) (fun e11 => ?_)
      · refine x_tableIn (off := 33) (tgt := 44) hg dX12_of_11 (by omega) h1sw11 h2sw11 (by rw [e11]; rfl) (by decide) ?_
        refine x_aload_n hg dX12_of_44 rfl ?_
        refine x_getR (j9 := 186) hg dX12_of_45 fl_X12_155 (by decide) rfl rfl (by decide) ?_
        refine x_iload_n hg dX12_of_48 rfl ?_
        refine x_iaload (len := 10) hg dX12_of_49 (by decide) (by omega) ?_
        refine x_iret hg hr (Or.inl rfl) dX12_of_50 (Nat.le_refl _) (Nat.le_refl _) ?_
        refine ⟨rfl, rfl, _, rfl, rfl, ?_⟩
        unfold wOfM
        repeat (first | rw [if_pos (by omega)] | rw [if_neg (by omega)])
      · refine x_tableIn (off := 40) (tgt := 51) hg dX12_of_11 (by omega) h1sw11 h2sw11 (by rw [e11]; rfl) (by decide) ?_
        refine x_aload_n hg dX12_of_51 rfl ?_
        refine x_getR (j9 := 187) hg dX12_of_52 fl_X12_158 (by decide) rfl rfl (by decide) ?_
        refine x_iload_n hg dX12_of_55 rfl ?_
        refine x_iaload (len := 10) hg dX12_of_56 (by decide) (by omega) ?_
        refine x_iret hg hr (Or.inl rfl) dX12_of_57 (Nat.le_refl _) (Nat.le_refl _) ?_
        refine ⟨rfl, rfl, _, rfl, rfl, ?_⟩
        unfold wOfM
        repeat (first | rw [if_pos (by omega)] | rw [if_neg (by omega)])
      · refine x_tableIn (off := 47) (tgt := 58) hg dX12_of_11 (by omega) h1sw11 h2sw11 (by rw [e11]; rfl) (by decide) ?_
        refine x_aload_n hg dX12_of_58 rfl ?_
        refine x_getR (j9 := 188) hg dX12_of_59 fl_X12_161 (by decide) rfl rfl (by decide) ?_
        refine x_iload_n hg dX12_of_62 rfl ?_
        refine x_iaload (len := 10) hg dX12_of_63 (by decide) (by omega) ?_
        refine x_iret hg hr (Or.inl rfl) dX12_of_64 (Nat.le_refl _) (Nat.le_refl _) ?_
        refine ⟨rfl, rfl, _, rfl, rfl, ?_⟩
        unfold wOfM
        repeat (first | rw [if_pos (by omega)] | rw [if_neg (by omega)])
      · refine x_tableIn (off := 54) (tgt := 65) hg dX12_of_11 (by omega) h1sw11 h2sw11 (by rw [e11]; rfl) (by decide) ?_
        refine x_aload_n hg dX12_of_65 rfl ?_
        refine x_getR (j9 := 189) hg dX12_of_66 fl_X12_164 (by decide) rfl rfl (by decide) ?_
        refine x_iload_n hg dX12_of_69 rfl ?_
        refine x_iaload (len := 10) hg dX12_of_70 (by decide) (by omega) ?_
        refine x_iret hg hr (Or.inl rfl) dX12_of_71 (Nat.le_refl _) (Nat.le_refl _) ?_
        refine ⟨rfl, rfl, _, rfl, rfl, ?_⟩
        unfold wOfM
        repeat (first | rw [if_pos (by omega)] | rw [if_neg (by omega)])
      · refine x_tableIn (off := 61) (tgt := 72) hg dX12_of_11 (by omega) h1sw11 h2sw11 (by rw [e11]; rfl) (by decide) ?_
        refine x_aload_n hg dX12_of_72 rfl ?_
        refine x_getR (j9 := 190) hg dX12_of_73 fl_X12_167 (by decide) rfl rfl (by decide) ?_
        refine x_iload_n hg dX12_of_76 rfl ?_
        refine x_iaload (len := 10) hg dX12_of_77 (by decide) (by omega) ?_
        refine x_iret hg hr (Or.inl rfl) dX12_of_78 (Nat.le_refl _) (Nat.le_refl _) ?_
        refine ⟨rfl, rfl, _, rfl, rfl, ?_⟩
        unfold wOfM
        repeat (first | rw [if_pos (by omega)] | rw [if_neg (by omega)])
  · skip
    refine x_iconst hg dX12_of_8 ?_
    refine x_iret hg hr (Or.inl rfl) dX12_of_9 (Nat.le_refl _) (Nat.le_refl _) ?_
    refine ⟨rfl, rfl, _, rfl, rfl, ?_⟩
    unfold wOfM
    repeat (first | rw [if_pos (by omega)] | rw [if_neg (by omega)])

theorem dX12_tank_0 : decode cX12_tank 0 = .ok (.iload_n 1, 1) := by decide +kernel
theorem dX12_tank_1 : decode cX12_tank 1 = .ok (.invokestatic 317, 3) := by decide +kernel
theorem dX12_tank_4 : decode cX12_tank 4 = .ok (.ifCond .ne 7, 3) := by decide +kernel
theorem dX12_tank_7 : decode cX12_tank 7 = .ok (.iconst (-1), 1) := by decide +kernel
theorem dX12_tank_8 : decode cX12_tank 8 = .ok (.goto 31, 3) := by decide +kernel
theorem dX12_tank_11 : decode cX12_tank 11 = .ok (.iload_n 2, 1) := by decide +kernel
theorem dX12_tank_12 : decode cX12_tank 12 = .ok (.ifCond .ne 12, 3) := by decide +kernel
theorem dX12_tank_15 : decode cX12_tank 15 = .ok (.aload_n 0, 1) := by decide +kernel
theorem dX12_tank_16 : decode cX12_tank 16 = .ok (.getfield 200, 3) := by decide +kernel
theorem dX12_tank_19 : decode cX12_tank 19 = .ok (.iload_n 1, 1) := by decide +kernel
theorem dX12_tank_20 : decode cX12_tank 20 = .ok (.iaload, 1) := by decide +kernel
theorem dX12_tank_21 : decode cX12_tank 21 = .ok (.goto 18, 3) := by decide +kernel
theorem dX12_tank_24 : decode cX12_tank 24 = .ok (.iload_n 2, 1) := by decide +kernel
theorem dX12_tank_25 : decode cX12_tank 25 = .ok (.iconst 1, 1) := by decide +kernel
theorem dX12_tank_26 : decode cX12_tank 26 = .ok (.if_icmp .ne 12, 3) := by decide +kernel
theorem dX12_tank_29 : decode cX12_tank 29 = .ok (.aload_n 0, 1) := by decide +kernel
theorem dX12_tank_30 : decode cX12_tank 30 = .ok (.getfield 203, 3) := by decide +kernel
theorem dX12_tank_33 : decode cX12_tank 33 = .ok (.iload_n 1, 1) := by decide +kernel
theorem dX12_tank_34 : decode cX12_tank 34 = .ok (.iaload, 1) := by decide +kernel
theorem dX12_tank_35 : decode cX12_tank 35 = .ok (.goto 4, 3) := by decide +kernel
theorem dX12_tank_38 : decode cX12_tank 38 = .ok (.iconst (-1), 1) := by decide +kernel
theorem dX12_tank_39 : decode cX12_tank 39 = .ok (.ireturn, 1) := by decide +kernel
set_option maxHeartbeats 4000000 in
set_option maxRecDepth 20000 in
theorem c_X12_tank (l : Launch) (b : Nat) (D : va_G) (cy : Nat → ClassId) {tt : Nat} {M : xMm} {z w : Int} (hM : MO M) (hz : inR z) (hw : inR w) : xC l b D cy yX12_tank cX12_tank 3 (some .int) ({ frames := 1, cells := 0, slots := 0, locals := 20 }) [xr 172, xi z, xi w] 209 M (RS tt) (xPi 209 (RS tt) (fun r M' => M' = M ∧ r = wTank M z w)) := by
  refine x_met (by decide) (Nat.le_of_ble_eq_true rfl) (fun g hg hr he => ?_)
  have hM0 := hM
  obtain ⟨hn30, hn56, hn57, hn55, hn24, hC, hT, hB, hF⟩ := hM
  refine x_canon (ls' := [(0, _), (1, _), (2, _)]) rfl ?_
  refine x_iload_n hg dX12_tank_0 rfl ?_
  refine x_cSi hg he [_] [] dX12_tank_1 ms_X12_317 (c_X12_isTank l b D cy (by omega)) rfl rfl (Nat.le_of_ble_eq_true rfl) (by decide) (by decide) (fun r1 M1 q1 => ?_)
  obtain ⟨h1, e1⟩ := q1
  replace h1 := h1.symm
  subst h1
  refine x_if_ne (tgt := 11) hg dX12_tank_4 (by decide) (by omega) (fun c4 => ?_) (fun c4 => ?_)
  · skip
    refine x_iload_n hg dX12_tank_11 rfl ?_
    refine x_if_ne (tgt := 24) hg dX12_tank_12 (by decide) (by omega) (fun c12 => ?_) (fun c12 => ?_)
    · skip
      refine x_iload_n hg dX12_tank_24 rfl ?_
      refine x_iconst hg dX12_tank_25 ?_
      refine x_icmp_ne (tgt := 38) hg dX12_tank_26 (by decide) (by omega) (by omega) (fun c26 => ?_) (fun c26 => ?_)
      · skip
        refine x_iconst hg dX12_tank_38 ?_
        refine x_iret hg hr (Or.inl rfl) dX12_tank_39 (Nat.le_refl _) (Nat.le_refl _) ?_
        refine ⟨rfl, rfl, _, rfl, rfl, ?_⟩
        unfold wTank
        repeat (first | rw [if_pos (by omega)] | rw [if_neg (by omega)])
      · skip
        refine x_aload_n hg dX12_tank_29 rfl ?_
        refine x_getR (j9 := 202) hg dX12_tank_30 fl_X12_203 (by decide) rfl rfl (by decide) ?_
        refine x_iload_n hg dX12_tank_33 rfl ?_
        refine x_iaload (len := 4) hg dX12_tank_34 (by decide) (by omega) ?_
        refine x_goto (tgt := 39) hg dX12_tank_35 (by decide) ?_
        refine x_iret hg hr (Or.inl rfl) dX12_tank_39 (Nat.le_refl _) (Nat.le_refl _) ?_
        refine ⟨rfl, rfl, _, rfl, rfl, ?_⟩
        unfold wTank
        repeat (first | rw [if_pos (by omega)] | rw [if_neg (by omega)])
    · skip
      refine x_aload_n hg dX12_tank_15 rfl ?_
      refine x_getR (j9 := 201) hg dX12_tank_16 fl_X12_200 (by decide) rfl rfl (by decide) ?_
      refine x_iload_n hg dX12_tank_19 rfl ?_
      refine x_iaload (len := 4) hg dX12_tank_20 (by decide) (by omega) ?_
      refine x_goto (tgt := 39) hg dX12_tank_21 (by decide) ?_
      refine x_iret hg hr (Or.inl rfl) dX12_tank_39 (Nat.le_refl _) (Nat.le_refl _) ?_
      refine ⟨rfl, rfl, _, rfl, rfl, ?_⟩
      unfold wTank
      repeat (first | rw [if_pos (by omega)] | rw [if_neg (by omega)])
  · skip
    refine x_iconst hg dX12_tank_7 ?_
    refine x_goto (tgt := 39) hg dX12_tank_8 (by decide) ?_
    refine x_iret hg hr (Or.inl rfl) dX12_tank_39 (Nat.le_refl _) (Nat.le_refl _) ?_
    refine ⟨rfl, rfl, _, rfl, rfl, ?_⟩
    unfold wTank
    repeat (first | rw [if_pos (by omega)] | rw [if_neg (by omega)])

theorem dX12_bottling_0 : decode cX12_bottling 0 = .ok (.aload_n 0, 1) := by decide +kernel
theorem dX12_bottling_1 : decode cX12_bottling 1 = .ok (.iload_n 1, 1) := by decide +kernel
theorem dX12_bottling_2 : decode cX12_bottling 2 = .ok (.invokevirtual 330, 3) := by decide +kernel
theorem dX12_bottling_5 : decode cX12_bottling 5 = .ok (.ifCond .ne 7, 3) := by decide +kernel
theorem dX12_bottling_8 : decode cX12_bottling 8 = .ok (.iconst (-1), 1) := by decide +kernel
theorem dX12_bottling_9 : decode cX12_bottling 9 = .ok (.goto 45, 3) := by decide +kernel
theorem dX12_bottling_12 : decode cX12_bottling 12 = .ok (.iload_n 2, 1) := by decide +kernel
theorem dX12_bottling_13 : decode cX12_bottling 13 = .ok (.ifCond .ne 12, 3) := by decide +kernel
theorem dX12_bottling_16 : decode cX12_bottling 16 = .ok (.aload_n 0, 1) := by decide +kernel
theorem dX12_bottling_17 : decode cX12_bottling 17 = .ok (.getfield 206, 3) := by decide +kernel
theorem dX12_bottling_20 : decode cX12_bottling 20 = .ok (.iload_n 1, 1) := by decide +kernel
theorem dX12_bottling_21 : decode cX12_bottling 21 = .ok (.iaload, 1) := by decide +kernel
theorem dX12_bottling_22 : decode cX12_bottling 22 = .ok (.goto 32, 3) := by decide +kernel
theorem dX12_bottling_25 : decode cX12_bottling 25 = .ok (.iload_n 2, 1) := by decide +kernel
theorem dX12_bottling_26 : decode cX12_bottling 26 = .ok (.iconst 1, 1) := by decide +kernel
theorem dX12_bottling_27 : decode cX12_bottling 27 = .ok (.if_icmp .ne 12, 3) := by decide +kernel
theorem dX12_bottling_30 : decode cX12_bottling 30 = .ok (.aload_n 0, 1) := by decide +kernel
theorem dX12_bottling_31 : decode cX12_bottling 31 = .ok (.getfield 209, 3) := by decide +kernel
theorem dX12_bottling_34 : decode cX12_bottling 34 = .ok (.iload_n 1, 1) := by decide +kernel
theorem dX12_bottling_35 : decode cX12_bottling 35 = .ok (.iaload, 1) := by decide +kernel
theorem dX12_bottling_36 : decode cX12_bottling 36 = .ok (.goto 18, 3) := by decide +kernel
theorem dX12_bottling_39 : decode cX12_bottling 39 = .ok (.iload_n 2, 1) := by decide +kernel
theorem dX12_bottling_40 : decode cX12_bottling 40 = .ok (.iconst 2, 1) := by decide +kernel
theorem dX12_bottling_41 : decode cX12_bottling 41 = .ok (.if_icmp .ne 12, 3) := by decide +kernel
theorem dX12_bottling_44 : decode cX12_bottling 44 = .ok (.aload_n 0, 1) := by decide +kernel
theorem dX12_bottling_45 : decode cX12_bottling 45 = .ok (.getfield 212, 3) := by decide +kernel
theorem dX12_bottling_48 : decode cX12_bottling 48 = .ok (.iload_n 1, 1) := by decide +kernel
theorem dX12_bottling_49 : decode cX12_bottling 49 = .ok (.iaload, 1) := by decide +kernel
theorem dX12_bottling_50 : decode cX12_bottling 50 = .ok (.goto 4, 3) := by decide +kernel
theorem dX12_bottling_53 : decode cX12_bottling 53 = .ok (.iconst (-1), 1) := by decide +kernel
theorem dX12_bottling_54 : decode cX12_bottling 54 = .ok (.ireturn, 1) := by decide +kernel
set_option maxHeartbeats 4000000 in
set_option maxRecDepth 20000 in
theorem c_X12_bottling (l : Launch) (b : Nat) (D : va_G) (cy : Nat → ClassId) {tt : Nat} {M : xMm} {z w : Int} (hM : MO M) (hz : inR z) (hw : inR w) : xC l b D cy yX12_bottling cX12_bottling 3 (some .int) ({ frames := 1, cells := 0, slots := 0, locals := 21 }) [xr 172, xi z, xi w] 209 M (RS tt) (xPi 209 (RS tt) (fun r M' => M' = M ∧ r = wBottling M z w)) := by
  refine x_met (by decide) (Nat.le_of_ble_eq_true rfl) (fun g hg hr he => ?_)
  have hM0 := hM
  obtain ⟨hn30, hn56, hn57, hn55, hn24, hC, hT, hB, hF⟩ := hM
  refine x_canon (ls' := [(0, _), (1, _), (2, _)]) rfl ?_
  refine x_aload_n hg dX12_bottling_0 rfl ?_
  refine x_iload_n hg dX12_bottling_1 rfl ?_
  refine x_cVi hg he [_] [] dX12_bottling_2 mv_X12_330 (c_X12_isBottling l b D cy (by omega) (by omega)) (by decide) rfl rfl (Nat.le_of_ble_eq_true rfl) (by decide) (by decide) (fun r2 M2 q2 => ?_)
  obtain ⟨h2, e2⟩ := q2
  replace h2 := h2.symm
  subst h2
  refine x_if_ne (tgt := 12) hg dX12_bottling_5 (by decide) (by omega) (fun c5 => ?_) (fun c5 => ?_)
  · skip
    refine x_iload_n hg dX12_bottling_12 rfl ?_
    refine x_if_ne (tgt := 25) hg dX12_bottling_13 (by decide) (by omega) (fun c13 => ?_) (fun c13 => ?_)
    · skip
      refine x_iload_n hg dX12_bottling_25 rfl ?_
      refine x_iconst hg dX12_bottling_26 ?_
      refine x_icmp_ne (tgt := 39) hg dX12_bottling_27 (by decide) (by omega) (by omega) (fun c27 => ?_) (fun c27 => ?_)
      · skip
        refine x_iload_n hg dX12_bottling_39 rfl ?_
        refine x_iconst hg dX12_bottling_40 ?_
        refine x_icmp_ne (tgt := 53) hg dX12_bottling_41 (by decide) (by omega) (by omega) (fun c41 => ?_) (fun c41 => ?_)
        · skip
          refine x_iconst hg dX12_bottling_53 ?_
          refine x_iret hg hr (Or.inl rfl) dX12_bottling_54 (Nat.le_refl _) (Nat.le_refl _) ?_
          refine ⟨rfl, rfl, _, rfl, rfl, ?_⟩
          unfold wBottling
          repeat (first | rw [if_pos (by omega)] | rw [if_neg (by omega)])
        · skip
          refine x_aload_n hg dX12_bottling_44 rfl ?_
          refine x_getR (j9 := 205) hg dX12_bottling_45 fl_X12_212 (by decide) rfl rfl (by decide) ?_
          refine x_iload_n hg dX12_bottling_48 rfl ?_
          refine x_iaload (len := 40) hg dX12_bottling_49 (by decide) (by omega) ?_
          refine x_goto (tgt := 54) hg dX12_bottling_50 (by decide) ?_
          refine x_iret hg hr (Or.inl rfl) dX12_bottling_54 (Nat.le_refl _) (Nat.le_refl _) ?_
          refine ⟨rfl, rfl, _, rfl, rfl, ?_⟩
          unfold wBottling
          repeat (first | rw [if_pos (by omega)] | rw [if_neg (by omega)])
      · skip
        refine x_aload_n hg dX12_bottling_30 rfl ?_
        refine x_getR (j9 := 204) hg dX12_bottling_31 fl_X12_209 (by decide) rfl rfl (by decide) ?_
        refine x_iload_n hg dX12_bottling_34 rfl ?_
        refine x_iaload (len := 40) hg dX12_bottling_35 (by decide) (by omega) ?_
        refine x_goto (tgt := 54) hg dX12_bottling_36 (by decide) ?_
        refine x_iret hg hr (Or.inl rfl) dX12_bottling_54 (Nat.le_refl _) (Nat.le_refl _) ?_
        refine ⟨rfl, rfl, _, rfl, rfl, ?_⟩
        unfold wBottling
        repeat (first | rw [if_pos (by omega)] | rw [if_neg (by omega)])
    · skip
      refine x_aload_n hg dX12_bottling_16 rfl ?_
      refine x_getR (j9 := 203) hg dX12_bottling_17 fl_X12_206 (by decide) rfl rfl (by decide) ?_
      refine x_iload_n hg dX12_bottling_20 rfl ?_
      refine x_iaload (len := 40) hg dX12_bottling_21 (by decide) (by omega) ?_
      refine x_goto (tgt := 54) hg dX12_bottling_22 (by decide) ?_
      refine x_iret hg hr (Or.inl rfl) dX12_bottling_54 (Nat.le_refl _) (Nat.le_refl _) ?_
      refine ⟨rfl, rfl, _, rfl, rfl, ?_⟩
      unfold wBottling
      repeat (first | rw [if_pos (by omega)] | rw [if_neg (by omega)])
  · skip
    refine x_iconst hg dX12_bottling_8 ?_
    refine x_goto (tgt := 54) hg dX12_bottling_9 (by decide) ?_
    refine x_iret hg hr (Or.inl rfl) dX12_bottling_54 (Nat.le_refl _) (Nat.le_refl _) ?_
    refine ⟨rfl, rfl, _, rfl, rfl, ?_⟩
    unfold wBottling
    repeat (first | rw [if_pos (by omega)] | rw [if_neg (by omega)])

theorem dX12_pour_0 : decode cX12_pour 0 = .ok (.aload_n 0, 1) := by decide +kernel
theorem dX12_pour_1 : decode cX12_pour 1 = .ok (.iload_n 1, 1) := by decide +kernel
theorem dX12_pour_2 : decode cX12_pour 2 = .ok (.invokevirtual 237, 3) := by decide +kernel
theorem dX12_pour_5 : decode cX12_pour 5 = .ok (.ifCond .eq 38, 3) := by decide +kernel
theorem dX12_pour_8 : decode cX12_pour 8 = .ok (.iload_n 2, 1) := by decide +kernel
theorem dX12_pour_9 : decode cX12_pour 9 = .ok (.invokestatic 317, 3) := by decide +kernel
theorem dX12_pour_12 : decode cX12_pour 12 = .ok (.ifCond .eq 31, 3) := by decide +kernel
theorem dX12_pour_15 : decode cX12_pour 15 = .ok (.aload_n 0, 1) := by decide +kernel
theorem dX12_pour_16 : decode cX12_pour 16 = .ok (.getfield 167, 3) := by decide +kernel
theorem dX12_pour_19 : decode cX12_pour 19 = .ok (.iload_n 1, 1) := by decide +kernel
theorem dX12_pour_20 : decode cX12_pour 20 = .ok (.iaload, 1) := by decide +kernel
theorem dX12_pour_21 : decode cX12_pour 21 = .ok (.ifCond .ge 22, 3) := by decide +kernel
theorem dX12_pour_24 : decode cX12_pour 24 = .ok (.aload_n 0, 1) := by decide +kernel
theorem dX12_pour_25 : decode cX12_pour 25 = .ok (.getfield 200, 3) := by decide +kernel
theorem dX12_pour_28 : decode cX12_pour 28 = .ok (.iload_n 2, 1) := by decide +kernel
theorem dX12_pour_29 : decode cX12_pour 29 = .ok (.iaload, 1) := by decide +kernel
theorem dX12_pour_30 : decode cX12_pour 30 = .ok (.aload_n 0, 1) := by decide +kernel
theorem dX12_pour_31 : decode cX12_pour 31 = .ok (.getfield 164, 3) := by decide +kernel
theorem dX12_pour_34 : decode cX12_pour 34 = .ok (.iload_n 1, 1) := by decide +kernel
theorem dX12_pour_35 : decode cX12_pour 35 = .ok (.iaload, 1) := by decide +kernel
theorem dX12_pour_36 : decode cX12_pour 36 = .ok (.iadd, 1) := by decide +kernel
theorem dX12_pour_37 : decode cX12_pour 37 = .ok (.sipush 1000, 3) := by decide +kernel
theorem dX12_pour_40 : decode cX12_pour 40 = .ok (.if_icmp .le 5, 3) := by decide +kernel
theorem dX12_pour_43 : decode cX12_pour 43 = .ok (.iconst (-1), 1) := by decide +kernel
theorem dX12_pour_44 : decode cX12_pour 44 = .ok (.ireturn, 1) := by decide +kernel
theorem dX12_pour_45 : decode cX12_pour 45 = .ok (.aload_n 0, 1) := by decide +kernel
theorem dX12_pour_46 : decode cX12_pour 46 = .ok (.getfield 167, 3) := by decide +kernel
theorem dX12_pour_49 : decode cX12_pour 49 = .ok (.iload_n 1, 1) := by decide +kernel
theorem dX12_pour_50 : decode cX12_pour 50 = .ok (.iload_n 2, 1) := by decide +kernel
theorem dX12_pour_51 : decode cX12_pour 51 = .ok (.iastore, 1) := by decide +kernel
theorem dX12_pour_52 : decode cX12_pour 52 = .ok (.aload_n 0, 1) := by decide +kernel
theorem dX12_pour_53 : decode cX12_pour 53 = .ok (.getfield 200, 3) := by decide +kernel
theorem dX12_pour_56 : decode cX12_pour 56 = .ok (.iload_n 2, 1) := by decide +kernel
theorem dX12_pour_57 : decode cX12_pour 57 = .ok (.dup2, 1) := by decide +kernel
theorem dX12_pour_58 : decode cX12_pour 58 = .ok (.iaload, 1) := by decide +kernel
theorem dX12_pour_59 : decode cX12_pour 59 = .ok (.aload_n 0, 1) := by decide +kernel
theorem dX12_pour_60 : decode cX12_pour 60 = .ok (.getfield 164, 3) := by decide +kernel
theorem dX12_pour_63 : decode cX12_pour 63 = .ok (.iload_n 1, 1) := by decide +kernel
theorem dX12_pour_64 : decode cX12_pour 64 = .ok (.iaload, 1) := by decide +kernel
theorem dX12_pour_65 : decode cX12_pour 65 = .ok (.iadd, 1) := by decide +kernel
theorem dX12_pour_66 : decode cX12_pour 66 = .ok (.iastore, 1) := by decide +kernel
theorem dX12_pour_67 : decode cX12_pour 67 = .ok (.aload_n 0, 1) := by decide +kernel
theorem dX12_pour_68 : decode cX12_pour 68 = .ok (.getfield 203, 3) := by decide +kernel
theorem dX12_pour_71 : decode cX12_pour 71 = .ok (.iload_n 2, 1) := by decide +kernel
theorem dX12_pour_72 : decode cX12_pour 72 = .ok (.dup2, 1) := by decide +kernel
theorem dX12_pour_73 : decode cX12_pour 73 = .ok (.iaload, 1) := by decide +kernel
theorem dX12_pour_74 : decode cX12_pour 74 = .ok (.iconst 1, 1) := by decide +kernel
theorem dX12_pour_75 : decode cX12_pour 75 = .ok (.aload_n 0, 1) := by decide +kernel
theorem dX12_pour_76 : decode cX12_pour 76 = .ok (.getfield 155, 3) := by decide +kernel
theorem dX12_pour_79 : decode cX12_pour 79 = .ok (.iload_n 1, 1) := by decide +kernel
theorem dX12_pour_80 : decode cX12_pour 80 = .ok (.iaload, 1) := by decide +kernel
theorem dX12_pour_81 : decode cX12_pour 81 = .ok (.ishl, 1) := by decide +kernel
theorem dX12_pour_82 : decode cX12_pour 82 = .ok (.ior, 1) := by decide +kernel
theorem dX12_pour_83 : decode cX12_pour 83 = .ok (.iastore, 1) := by decide +kernel
theorem dX12_pour_84 : decode cX12_pour 84 = .ok (.aload_n 0, 1) := by decide +kernel
theorem dX12_pour_85 : decode cX12_pour 85 = .ok (.getfield 200, 3) := by decide +kernel
theorem dX12_pour_88 : decode cX12_pour 88 = .ok (.iload_n 2, 1) := by decide +kernel
theorem dX12_pour_89 : decode cX12_pour 89 = .ok (.iaload, 1) := by decide +kernel
theorem dX12_pour_90 : decode cX12_pour 90 = .ok (.ireturn, 1) := by decide +kernel
set_option maxHeartbeats 4000000 in
set_option maxRecDepth 20000 in
theorem c_X12_pour (l : Launch) (b : Nat) (D : va_G) (cy : Nat → ClassId) {tt : Nat} {M : xMm} {z y : Int} (hM : MO M) (hz : inR z) (hy : inR y) : xC l b D cy yX12_pour cX12_pour 3 (some .int) ({ frames := 1, cells := 0, slots := 0, locals := 21 }) [xr 172, xi z, xi y] 209 M (RS tt) (xPi 209 (RS tt) (fun r M' => ((0 ≤ z ∧ z < M 172 30 ∧ 0 ≤ y ∧ y < 4 ∧ M 190 z.toNat < 0 ∧ M 201 y.toNat + M 189 z.toNat ≤ 1000) ∧ r = M 201 y.toNat + M 189 z.toNat ∧ M' = mu (mu (mu M 190 z.toNat y) 201 y.toNat (M 201 y.toNat + M 189 z.toNat)) 202 y.toNat (bOr (M 202 y.toNat) (bShl 1 (M 186 z.toNat)))) ∨ (¬ (0 ≤ z ∧ z < M 172 30 ∧ 0 ≤ y ∧ y < 4 ∧ M 190 z.toNat < 0 ∧ M 201 y.toNat + M 189 z.toNat ≤ 1000) ∧ r = -1 ∧ M' = M))) := by
  refine x_met (by decide) (Nat.le_of_ble_eq_true rfl) (fun g hg hr he => ?_)
  have hM0 := hM
  obtain ⟨hn30, hn56, hn57, hn55, hn24, hC, hT, hB, hF⟩ := hM
  refine x_canon (ls' := [(0, _), (1, _), (2, _)]) rfl ?_
  refine x_aload_n hg dX12_pour_0 rfl ?_
  refine x_iload_n hg dX12_pour_1 rfl ?_
  refine x_cVi hg he [_] [] dX12_pour_2 mv_X12_237 (c_X12_isChurn l b D cy (by omega) (by omega)) (by decide) rfl rfl (Nat.le_of_ble_eq_true rfl) (by decide) (by decide) (fun r2 M2 q2 => ?_)
  obtain ⟨h2, e2⟩ := q2
  replace h2 := h2.symm
  subst h2
  refine x_if_eq (tgt := 43) hg dX12_pour_5 (by decide) (by omega) (fun c5 => ?_) (fun c5 => ?_)
  · skip
    refine x_iconst hg dX12_pour_43 ?_
    refine x_iret hg hr (Or.inl rfl) dX12_pour_44 (Nat.le_refl _) (Nat.le_refl _) ?_
    exact ⟨rfl, rfl, _, rfl, Or.inr ⟨by omega, rfl, rfl⟩⟩
  · skip
    refine x_iload_n hg dX12_pour_8 rfl ?_
    refine x_cSi hg he [_] [] dX12_pour_9 ms_X12_317 (c_X12_isTank l b D cy (by omega)) rfl rfl (Nat.le_of_ble_eq_true rfl) (by decide) (by decide) (fun r9 M9 q9 => ?_)
    obtain ⟨h9, e9⟩ := q9
    replace h9 := h9.symm
    subst h9
    refine x_if_eq (tgt := 43) hg dX12_pour_12 (by decide) (by omega) (fun c12 => ?_) (fun c12 => ?_)
    · skip
      refine x_iconst hg dX12_pour_43 ?_
      refine x_iret hg hr (Or.inl rfl) dX12_pour_44 (Nat.le_refl _) (Nat.le_refl _) ?_
      exact ⟨rfl, rfl, _, rfl, Or.inr ⟨by omega, rfl, rfl⟩⟩
    · skip
      refine x_aload_n hg dX12_pour_15 rfl ?_
      refine x_getR (j9 := 190) hg dX12_pour_16 fl_X12_167 (by decide) rfl rfl (by decide) ?_
      refine x_iload_n hg dX12_pour_19 rfl ?_
      refine x_iaload (len := 10) hg dX12_pour_20 (by decide) (by omega) ?_
      refine x_if_ge (tgt := 43) hg dX12_pour_21 (by decide) (by have h1 := hC z.toNat (by omega); omega) (fun c21 => ?_) (fun c21 => ?_)
      · skip
        refine x_iconst hg dX12_pour_43 ?_
        refine x_iret hg hr (Or.inl rfl) dX12_pour_44 (Nat.le_refl _) (Nat.le_refl _) ?_
        exact ⟨rfl, rfl, _, rfl, Or.inr ⟨by omega, rfl, rfl⟩⟩
      · skip
        refine x_aload_n hg dX12_pour_24 rfl ?_
        refine x_getR (j9 := 201) hg dX12_pour_25 fl_X12_200 (by decide) rfl rfl (by decide) ?_
        refine x_iload_n hg dX12_pour_28 rfl ?_
        refine x_iaload (len := 4) hg dX12_pour_29 (by decide) (by omega) ?_
        refine x_aload_n hg dX12_pour_30 rfl ?_
        refine x_getR (j9 := 189) hg dX12_pour_31 fl_X12_164 (by decide) rfl rfl (by decide) ?_
        refine x_iload_n hg dX12_pour_34 rfl ?_
        refine x_iaload (len := 10) hg dX12_pour_35 (by decide) (by omega) ?_
        refine x_iadd hg dX12_pour_36 ?_
        refine x_sipush hg dX12_pour_37 (by decide) ?_
        refine x_icmp_le (tgt := 45) hg dX12_pour_40 (by decide) (by have h1 := hT y.toNat (by omega); have h2 := hC z.toNat (by omega); omega) (by omega) (fun c40 => ?_) (fun c40 => ?_)
        · skip
          refine x_aload_n hg dX12_pour_45 rfl ?_
          refine x_getR (j9 := 190) hg dX12_pour_46 fl_X12_167 (by decide) rfl rfl (by decide) ?_
          refine x_iload_n hg dX12_pour_49 rfl ?_
          refine x_iload_n hg dX12_pour_50 rfl ?_
          refine x_iastore (len := 10) hg dX12_pour_51 (by decide) (by omega)  ?_
          refine x_aload_n hg dX12_pour_52 rfl ?_
          refine x_getR (j9 := 201) hg dX12_pour_53 fl_X12_200 (by decide) rfl rfl (by decide) ?_
          refine x_iload_n hg dX12_pour_56 rfl ?_
          refine x_dup2 hg dX12_pour_57 rfl rfl ?_
          refine x_iaload (len := 4) hg dX12_pour_58 (by decide) (by omega) ?_
          try simp (disch := omega) only [mu_s, mu_nf, mu_nc]
          refine x_aload_n hg dX12_pour_59 rfl ?_
          refine x_getR (j9 := 189) hg dX12_pour_60 fl_X12_164 (by decide) rfl rfl (by decide) ?_
          refine x_iload_n hg dX12_pour_63 rfl ?_
          refine x_iaload (len := 10) hg dX12_pour_64 (by decide) (by omega) ?_
          try simp (disch := omega) only [mu_s, mu_nf, mu_nc]
          refine x_iadd hg dX12_pour_65 ?_
          refine x_iastore (len := 4) hg dX12_pour_66 (by decide) (by omega)  ?_
          refine x_aload_n hg dX12_pour_67 rfl ?_
          refine x_getR (j9 := 202) hg dX12_pour_68 fl_X12_203 (by decide) rfl rfl (by decide) ?_
          refine x_iload_n hg dX12_pour_71 rfl ?_
          refine x_dup2 hg dX12_pour_72 rfl rfl ?_
          refine x_iaload (len := 4) hg dX12_pour_73 (by decide) (by omega) ?_
          try simp (disch := omega) only [mu_s, mu_nf, mu_nc]
          refine x_iconst hg dX12_pour_74 ?_
          refine x_aload_n hg dX12_pour_75 rfl ?_
          refine x_getR (j9 := 186) hg dX12_pour_76 fl_X12_155 (by decide) rfl rfl (by decide) ?_
          refine x_iload_n hg dX12_pour_79 rfl ?_
          refine x_iaload (len := 10) hg dX12_pour_80 (by decide) (by omega) ?_
          try simp (disch := omega) only [mu_s, mu_nf, mu_nc]
          refine x_ishl hg dX12_pour_81 ?_
          refine x_ior hg dX12_pour_82 ?_
          refine x_iastore (len := 4) hg dX12_pour_83 (by decide) (by omega)  ?_
          refine x_aload_n hg dX12_pour_84 rfl ?_
          refine x_getR (j9 := 201) hg dX12_pour_85 fl_X12_200 (by decide) rfl rfl (by decide) ?_
          refine x_iload_n hg dX12_pour_88 rfl ?_
          refine x_iaload (len := 4) hg dX12_pour_89 (by decide) (by omega) ?_
          try simp (disch := omega) only [mu_s, mu_nf, mu_nc]
          refine x_iret hg hr (Or.inl rfl) dX12_pour_90 (Nat.le_refl _) (Nat.le_refl _) ?_
          exact ⟨rfl, rfl, _, rfl, Or.inl ⟨by omega, rfl, rfl⟩⟩
        · skip
          refine x_iconst hg dX12_pour_43 ?_
          refine x_iret hg hr (Or.inl rfl) dX12_pour_44 (Nat.le_refl _) (Nat.le_refl _) ?_
          exact ⟨rfl, rfl, _, rfl, Or.inr ⟨by omega, rfl, rfl⟩⟩

theorem dX12_has_0 : decode cX12_has 0 = .ok (.iload_n 1, 1) := by decide +kernel
theorem dX12_has_1 : decode cX12_has 1 = .ok (.invokestatic 317, 3) := by decide +kernel
theorem dX12_has_4 : decode cX12_has 4 = .ok (.ifCond .eq 22, 3) := by decide +kernel
theorem dX12_has_7 : decode cX12_has 7 = .ok (.iload_n 2, 1) := by decide +kernel
theorem dX12_has_8 : decode cX12_has 8 = .ok (.iconst 1, 1) := by decide +kernel
theorem dX12_has_9 : decode cX12_has 9 = .ok (.if_icmp .lt 17, 3) := by decide +kernel
theorem dX12_has_12 : decode cX12_has 12 = .ok (.iload_n 2, 1) := by decide +kernel
theorem dX12_has_13 : decode cX12_has 13 = .ok (.aload_n 0, 1) := by decide +kernel
theorem dX12_has_14 : decode cX12_has 14 = .ok (.getfield 200, 3) := by decide +kernel
theorem dX12_has_17 : decode cX12_has 17 = .ok (.iload_n 1, 1) := by decide +kernel
theorem dX12_has_18 : decode cX12_has 18 = .ok (.iaload, 1) := by decide +kernel
theorem dX12_has_19 : decode cX12_has 19 = .ok (.if_icmp .gt 7, 3) := by decide +kernel
theorem dX12_has_22 : decode cX12_has 22 = .ok (.iconst 1, 1) := by decide +kernel
theorem dX12_has_23 : decode cX12_has 23 = .ok (.goto 4, 3) := by decide +kernel
theorem dX12_has_26 : decode cX12_has 26 = .ok (.iconst 0, 1) := by decide +kernel
theorem dX12_has_27 : decode cX12_has 27 = .ok (.ireturn, 1) := by decide +kernel
set_option maxHeartbeats 4000000 in
set_option maxRecDepth 20000 in
theorem c_X12_has (l : Launch) (b : Nat) (D : va_G) (cy : Nat → ClassId) {tt : Nat} {M : xMm} {z y : Int} (hM : MO M) (hz : inR z) (hy : inR y) : xC l b D cy yX12_has cX12_has 3 (some .boolean) ({ frames := 1, cells := 0, slots := 0, locals := 20 }) [xr 172, xi z, xi y] 209 M (RS tt) (xPi 209 (RS tt) (fun r M' => M' = M ∧ ((0 ≤ z ∧ z < 4 ∧ 1 ≤ y ∧ y ≤ M 201 z.toNat) ∧ r = 1 ∨ ¬ (0 ≤ z ∧ z < 4 ∧ 1 ≤ y ∧ y ≤ M 201 z.toNat) ∧ r = 0))) := by
  refine x_met (by decide) (Nat.le_of_ble_eq_true rfl) (fun g hg hr he => ?_)
  have hM0 := hM
  obtain ⟨hn30, hn56, hn57, hn55, hn24, hC, hT, hB, hF⟩ := hM
  refine x_canon (ls' := [(0, _), (1, _), (2, _)]) rfl ?_
  refine x_iload_n hg dX12_has_0 rfl ?_
  refine x_cSi hg he [_] [] dX12_has_1 ms_X12_317 (c_X12_isTank l b D cy (by omega)) rfl rfl (Nat.le_of_ble_eq_true rfl) (by decide) (by decide) (fun r1 M1 q1 => ?_)
  obtain ⟨h1, e1⟩ := q1
  replace h1 := h1.symm
  subst h1
  refine x_if_eq (tgt := 26) hg dX12_has_4 (by decide) (by omega) (fun c4 => ?_) (fun c4 => ?_)
  · skip
    refine x_iconst hg dX12_has_26 ?_
    refine x_iret hg hr (Or.inr ⟨rfl, by first | exact Or.inl rfl | exact Or.inr rfl | omega⟩) dX12_has_27 (Nat.le_refl _) (Nat.le_refl _) ?_
    exact ⟨rfl, rfl, _, rfl, rfl, by omega⟩
  · skip
    refine x_iload_n hg dX12_has_7 rfl ?_
    refine x_iconst hg dX12_has_8 ?_
    refine x_icmp_lt (tgt := 26) hg dX12_has_9 (by decide) (by omega) (by omega) (fun c9 => ?_) (fun c9 => ?_)
    · skip
      refine x_iconst hg dX12_has_26 ?_
      refine x_iret hg hr (Or.inr ⟨rfl, by first | exact Or.inl rfl | exact Or.inr rfl | omega⟩) dX12_has_27 (Nat.le_refl _) (Nat.le_refl _) ?_
      exact ⟨rfl, rfl, _, rfl, rfl, by omega⟩
    · skip
      refine x_iload_n hg dX12_has_12 rfl ?_
      refine x_aload_n hg dX12_has_13 rfl ?_
      refine x_getR (j9 := 201) hg dX12_has_14 fl_X12_200 (by decide) rfl rfl (by decide) ?_
      refine x_iload_n hg dX12_has_17 rfl ?_
      refine x_iaload (len := 4) hg dX12_has_18 (by decide) (by omega) ?_
      refine x_icmp_gt (tgt := 26) hg dX12_has_19 (by decide) (by omega) (by have h1 := hT z.toNat (by omega); omega) (fun c19 => ?_) (fun c19 => ?_)
      · skip
        refine x_iconst hg dX12_has_26 ?_
        refine x_iret hg hr (Or.inr ⟨rfl, by first | exact Or.inl rfl | exact Or.inr rfl | omega⟩) dX12_has_27 (Nat.le_refl _) (Nat.le_refl _) ?_
        exact ⟨rfl, rfl, _, rfl, rfl, by omega⟩
      · skip
        refine x_iconst hg dX12_has_22 ?_
        refine x_goto (tgt := 27) hg dX12_has_23 (by decide) ?_
        refine x_iret hg hr (Or.inr ⟨rfl, by first | exact Or.inl rfl | exact Or.inr rfl | omega⟩) dX12_has_27 (Nat.le_refl _) (Nat.le_refl _) ?_
        exact ⟨rfl, rfl, _, rfl, rfl, by omega⟩

theorem dX12_draw_0 : decode cX12_draw 0 = .ok (.aload_n 0, 1) := by decide +kernel
theorem dX12_draw_1 : decode cX12_draw 1 = .ok (.getfield 200, 3) := by decide +kernel
theorem dX12_draw_4 : decode cX12_draw 4 = .ok (.iload_n 1, 1) := by decide +kernel
theorem dX12_draw_5 : decode cX12_draw 5 = .ok (.dup2, 1) := by decide +kernel
theorem dX12_draw_6 : decode cX12_draw 6 = .ok (.iaload, 1) := by decide +kernel
theorem dX12_draw_7 : decode cX12_draw 7 = .ok (.iload_n 2, 1) := by decide +kernel
theorem dX12_draw_8 : decode cX12_draw 8 = .ok (.isub, 1) := by decide +kernel
theorem dX12_draw_9 : decode cX12_draw 9 = .ok (.iastore, 1) := by decide +kernel
theorem dX12_draw_10 : decode cX12_draw 10 = .ok (.aload_n 0, 1) := by decide +kernel
theorem dX12_draw_11 : decode cX12_draw 11 = .ok (.getfield 200, 3) := by decide +kernel
theorem dX12_draw_14 : decode cX12_draw 14 = .ok (.iload_n 1, 1) := by decide +kernel
theorem dX12_draw_15 : decode cX12_draw 15 = .ok (.iaload, 1) := by decide +kernel
theorem dX12_draw_16 : decode cX12_draw 16 = .ok (.ifCond .ne 10, 3) := by decide +kernel
theorem dX12_draw_19 : decode cX12_draw 19 = .ok (.aload_n 0, 1) := by decide +kernel
theorem dX12_draw_20 : decode cX12_draw 20 = .ok (.getfield 203, 3) := by decide +kernel
theorem dX12_draw_23 : decode cX12_draw 23 = .ok (.iload_n 1, 1) := by decide +kernel
theorem dX12_draw_24 : decode cX12_draw 24 = .ok (.iconst 0, 1) := by decide +kernel
theorem dX12_draw_25 : decode cX12_draw 25 = .ok (.iastore, 1) := by decide +kernel
theorem dX12_draw_26 : decode cX12_draw 26 = .ok (.return_, 1) := by decide +kernel
set_option maxHeartbeats 4000000 in
set_option maxRecDepth 20000 in
theorem c_X12_draw (l : Launch) (b : Nat) (D : va_G) (cy : Nat → ClassId) {tt : Nat} {M : xMm} {z y : Int} (hz : 0 ≤ z ∧ z < 4) (hy : inR (M 201 z.toNat - y)) : xC l b D cy yX12_draw cX12_draw 3 none ({ frames := 0, cells := 0, slots := 0, locals := 0 }) [xr 172, xi z, xi y] 209 M (RS tt) (xPv 209 (RS tt) (fun M' => M' = if (M 201 z.toNat - y) = 0 then mu (mu M 201 z.toNat (M 201 z.toNat - y)) 202 z.toNat 0 else mu M 201 z.toNat (M 201 z.toNat - y))) := by
  refine x_met (by decide) (Nat.le_of_ble_eq_true rfl) (fun g hg hr he => ?_)
  refine x_canon (ls' := [(0, _), (1, _), (2, _)]) rfl ?_
  refine x_aload_n hg dX12_draw_0 rfl ?_
  refine x_getR (j9 := 201) hg dX12_draw_1 fl_X12_200 (by decide) rfl rfl (by decide) ?_
  refine x_iload_n hg dX12_draw_4 rfl ?_
  refine x_dup2 hg dX12_draw_5 rfl rfl ?_
  refine x_iaload (len := 4) hg dX12_draw_6 (by decide) (by omega) ?_
  refine x_iload_n hg dX12_draw_7 rfl ?_
  refine x_isub hg dX12_draw_8 ?_
  refine x_iastore (len := 4) hg dX12_draw_9 (by decide) (by omega)  ?_
  refine x_aload_n hg dX12_draw_10 rfl ?_
  refine x_getR (j9 := 201) hg dX12_draw_11 fl_X12_200 (by decide) rfl rfl (by decide) ?_
  refine x_iload_n hg dX12_draw_14 rfl ?_
  refine x_iaload (len := 4) hg dX12_draw_15 (by decide) (by omega) ?_
  try simp (disch := omega) only [mu_s, mu_nf, mu_nc]
  refine x_if_ne (tgt := 26) hg dX12_draw_16 (by decide) (by omega) (fun c16 => ?_) (fun c16 => ?_)
  · skip
    refine x_vret hg hr dX12_draw_26 (Nat.le_refl _) (Nat.le_refl _) ?_
    refine ⟨rfl, rfl, rfl, ?_⟩
    first | rw [if_pos (by omega)] | rw [if_neg (by omega)]
  · skip
    refine x_aload_n hg dX12_draw_19 rfl ?_
    refine x_getR (j9 := 202) hg dX12_draw_20 fl_X12_203 (by decide) rfl rfl (by decide) ?_
    refine x_iload_n hg dX12_draw_23 rfl ?_
    refine x_iconst hg dX12_draw_24 ?_
    refine x_iastore (len := 4) hg dX12_draw_25 (by decide) (by omega)  ?_
    refine x_vret hg hr dX12_draw_26 (Nat.le_refl _) (Nat.le_refl _) ?_
    refine ⟨rfl, rfl, rfl, ?_⟩
    first | rw [if_pos (by omega)] | rw [if_neg (by omega)]

theorem dX12_lead_0 : decode cX12_lead 0 = .ok (.aload_n 0, 1) := by decide +kernel
theorem dX12_lead_1 : decode cX12_lead 1 = .ok (.iload_n 1, 1) := by decide +kernel
theorem dX12_lead_2 : decode cX12_lead 2 = .ok (.iload_n 3, 1) := by decide +kernel
theorem dX12_lead_3 : decode cX12_lead 3 = .ok (.invokevirtual 320, 3) := by decide +kernel
theorem dX12_lead_6 : decode cX12_lead 6 = .ok (.ifCond .eq 29, 3) := by decide +kernel
theorem dX12_lead_9 : decode cX12_lead 9 = .ok (.iload_n 2, 1) := by decide +kernel
theorem dX12_lead_10 : decode cX12_lead 10 = .ok (.invokestatic 317, 3) := by decide +kernel
theorem dX12_lead_13 : decode cX12_lead 13 = .ok (.ifCond .eq 22, 3) := by decide +kernel
theorem dX12_lead_16 : decode cX12_lead 16 = .ok (.iload_n 1, 1) := by decide +kernel
theorem dX12_lead_17 : decode cX12_lead 17 = .ok (.iload_n 2, 1) := by decide +kernel
theorem dX12_lead_18 : decode cX12_lead 18 = .ok (.if_icmp .eq 17, 3) := by decide +kernel
theorem dX12_lead_21 : decode cX12_lead 21 = .ok (.aload_n 0, 1) := by decide +kernel
theorem dX12_lead_22 : decode cX12_lead 22 = .ok (.getfield 200, 3) := by decide +kernel
theorem dX12_lead_25 : decode cX12_lead 25 = .ok (.iload_n 2, 1) := by decide +kernel
theorem dX12_lead_26 : decode cX12_lead 26 = .ok (.iaload, 1) := by decide +kernel
theorem dX12_lead_27 : decode cX12_lead 27 = .ok (.iload_n 3, 1) := by decide +kernel
theorem dX12_lead_28 : decode cX12_lead 28 = .ok (.iadd, 1) := by decide +kernel
theorem dX12_lead_29 : decode cX12_lead 29 = .ok (.sipush 1000, 3) := by decide +kernel
theorem dX12_lead_32 : decode cX12_lead 32 = .ok (.if_icmp .le 5, 3) := by decide +kernel
theorem dX12_lead_35 : decode cX12_lead 35 = .ok (.iconst (-1), 1) := by decide +kernel
theorem dX12_lead_36 : decode cX12_lead 36 = .ok (.ireturn, 1) := by decide +kernel
theorem dX12_lead_37 : decode cX12_lead 37 = .ok (.aload_n 0, 1) := by decide +kernel
theorem dX12_lead_38 : decode cX12_lead 38 = .ok (.getfield 200, 3) := by decide +kernel
theorem dX12_lead_41 : decode cX12_lead 41 = .ok (.iload_n 2, 1) := by decide +kernel
theorem dX12_lead_42 : decode cX12_lead 42 = .ok (.dup2, 1) := by decide +kernel
theorem dX12_lead_43 : decode cX12_lead 43 = .ok (.iaload, 1) := by decide +kernel
theorem dX12_lead_44 : decode cX12_lead 44 = .ok (.iload_n 3, 1) := by decide +kernel
theorem dX12_lead_45 : decode cX12_lead 45 = .ok (.iadd, 1) := by decide +kernel
theorem dX12_lead_46 : decode cX12_lead 46 = .ok (.iastore, 1) := by decide +kernel
theorem dX12_lead_47 : decode cX12_lead 47 = .ok (.aload_n 0, 1) := by decide +kernel
theorem dX12_lead_48 : decode cX12_lead 48 = .ok (.getfield 203, 3) := by decide +kernel
theorem dX12_lead_51 : decode cX12_lead 51 = .ok (.iload_n 2, 1) := by decide +kernel
theorem dX12_lead_52 : decode cX12_lead 52 = .ok (.dup2, 1) := by decide +kernel
theorem dX12_lead_53 : decode cX12_lead 53 = .ok (.iaload, 1) := by decide +kernel
theorem dX12_lead_54 : decode cX12_lead 54 = .ok (.aload_n 0, 1) := by decide +kernel
theorem dX12_lead_55 : decode cX12_lead 55 = .ok (.getfield 203, 3) := by decide +kernel
theorem dX12_lead_58 : decode cX12_lead 58 = .ok (.iload_n 1, 1) := by decide +kernel
theorem dX12_lead_59 : decode cX12_lead 59 = .ok (.iaload, 1) := by decide +kernel
theorem dX12_lead_60 : decode cX12_lead 60 = .ok (.ior, 1) := by decide +kernel
theorem dX12_lead_61 : decode cX12_lead 61 = .ok (.iastore, 1) := by decide +kernel
theorem dX12_lead_62 : decode cX12_lead 62 = .ok (.aload_n 0, 1) := by decide +kernel
theorem dX12_lead_63 : decode cX12_lead 63 = .ok (.iload_n 1, 1) := by decide +kernel
theorem dX12_lead_64 : decode cX12_lead 64 = .ok (.iload_n 3, 1) := by decide +kernel
theorem dX12_lead_65 : decode cX12_lead 65 = .ok (.invokevirtual 324, 3) := by decide +kernel
theorem dX12_lead_68 : decode cX12_lead 68 = .ok (.aload_n 0, 1) := by decide +kernel
theorem dX12_lead_69 : decode cX12_lead 69 = .ok (.getfield 200, 3) := by decide +kernel
theorem dX12_lead_72 : decode cX12_lead 72 = .ok (.iload_n 1, 1) := by decide +kernel
theorem dX12_lead_73 : decode cX12_lead 73 = .ok (.iaload, 1) := by decide +kernel
theorem dX12_lead_74 : decode cX12_lead 74 = .ok (.ireturn, 1) := by decide +kernel
set_option maxHeartbeats 4000000 in
set_option maxRecDepth 20000 in
theorem c_X12_lead (l : Launch) (b : Nat) (D : va_G) (cy : Nat → ClassId) {tt : Nat} {M : xMm} {z y p : Int} (hM : MO M) (hz : inR z) (hy : inR y) (hp : inR p) : xC l b D cy yX12_lead cX12_lead 4 (some .int) ({ frames := 2, cells := 0, slots := 0, locals := 42 }) [xr 172, xi z, xi y, xi p] 209 M (RS tt) (xPi 209 (RS tt) (fun r M' => ((0 ≤ z ∧ z < 4 ∧ 0 ≤ y ∧ y < 4 ∧ z ≠ y ∧ 1 ≤ p ∧ p ≤ M 201 z.toNat ∧ M 201 y.toNat + p ≤ 1000) ∧ r = (M 201 z.toNat - p) ∧ M' = if (M 201 z.toNat - p) = 0 then mu (mu (mu (mu M 201 y.toNat (M 201 y.toNat + p)) 202 y.toNat (bOr (M 202 y.toNat) (M 202 z.toNat))) 201 z.toNat (M 201 z.toNat - p)) 202 z.toNat 0 else mu (mu (mu M 201 y.toNat (M 201 y.toNat + p)) 202 y.toNat (bOr (M 202 y.toNat) (M 202 z.toNat))) 201 z.toNat (M 201 z.toNat - p)) ∨ (¬ (0 ≤ z ∧ z < 4 ∧ 0 ≤ y ∧ y < 4 ∧ z ≠ y ∧ 1 ≤ p ∧ p ≤ M 201 z.toNat ∧ M 201 y.toNat + p ≤ 1000) ∧ r = -1 ∧ M' = M))) := by
  refine x_met (by decide) (Nat.le_of_ble_eq_true rfl) (fun g hg hr he => ?_)
  have hM0 := hM
  obtain ⟨hn30, hn56, hn57, hn55, hn24, hC, hT, hB, hF⟩ := hM
  refine x_canon (ls' := [(0, _), (1, _), (2, _), (3, _)]) rfl ?_
  refine x_aload_n hg dX12_lead_0 rfl ?_
  refine x_iload_n hg dX12_lead_1 rfl ?_
  refine x_iload_n hg dX12_lead_2 rfl ?_
  refine x_cVi hg he [_, _] [] dX12_lead_3 mv_X12_320 (c_X12_has l b D cy hM0 (by omega) (by omega)) (by decide) rfl rfl (Nat.le_of_ble_eq_true rfl) (by decide) (by decide) (fun r3 M3 q3 => ?_)
  obtain ⟨h3, e3⟩ := q3
  replace h3 := h3.symm
  subst h3
  refine x_if_eq (tgt := 35) hg dX12_lead_6 (by decide) (by omega) (fun c6 => ?_) (fun c6 => ?_)
  · skip
    refine x_iconst hg dX12_lead_35 ?_
    refine x_iret hg hr (Or.inl rfl) dX12_lead_36 (Nat.le_refl _) (Nat.le_refl _) ?_
    exact ⟨rfl, rfl, _, rfl, Or.inr ⟨by omega, rfl, rfl⟩⟩
  · skip
    refine x_iload_n hg dX12_lead_9 rfl ?_
    refine x_cSi hg he [_] [] dX12_lead_10 ms_X12_317 (c_X12_isTank l b D cy (by omega)) rfl rfl (Nat.le_of_ble_eq_true rfl) (by decide) (by decide) (fun r10 M10 q10 => ?_)
    obtain ⟨h10, e10⟩ := q10
    replace h10 := h10.symm
    subst h10
    refine x_if_eq (tgt := 35) hg dX12_lead_13 (by decide) (by omega) (fun c13 => ?_) (fun c13 => ?_)
    · skip
      refine x_iconst hg dX12_lead_35 ?_
      refine x_iret hg hr (Or.inl rfl) dX12_lead_36 (Nat.le_refl _) (Nat.le_refl _) ?_
      exact ⟨rfl, rfl, _, rfl, Or.inr ⟨by omega, rfl, rfl⟩⟩
    · skip
      refine x_iload_n hg dX12_lead_16 rfl ?_
      refine x_iload_n hg dX12_lead_17 rfl ?_
      refine x_icmp_eq (tgt := 35) hg dX12_lead_18 (by decide) (by omega) (by omega) (fun c18 => ?_) (fun c18 => ?_)
      · skip
        refine x_iconst hg dX12_lead_35 ?_
        refine x_iret hg hr (Or.inl rfl) dX12_lead_36 (Nat.le_refl _) (Nat.le_refl _) ?_
        exact ⟨rfl, rfl, _, rfl, Or.inr ⟨by omega, rfl, rfl⟩⟩
      · skip
        refine x_aload_n hg dX12_lead_21 rfl ?_
        refine x_getR (j9 := 201) hg dX12_lead_22 fl_X12_200 (by decide) rfl rfl (by decide) ?_
        refine x_iload_n hg dX12_lead_25 rfl ?_
        refine x_iaload (len := 4) hg dX12_lead_26 (by decide) (by omega) ?_
        refine x_iload_n hg dX12_lead_27 rfl ?_
        refine x_iadd hg dX12_lead_28 ?_
        refine x_sipush hg dX12_lead_29 (by decide) ?_
        refine x_icmp_le (tgt := 37) hg dX12_lead_32 (by decide) (by have h1 := hT z.toNat (by omega); have h2 := hT y.toNat (by omega); omega) (by omega) (fun c32 => ?_) (fun c32 => ?_)
        · skip
          refine x_aload_n hg dX12_lead_37 rfl ?_
          refine x_getR (j9 := 201) hg dX12_lead_38 fl_X12_200 (by decide) rfl rfl (by decide) ?_
          refine x_iload_n hg dX12_lead_41 rfl ?_
          refine x_dup2 hg dX12_lead_42 rfl rfl ?_
          refine x_iaload (len := 4) hg dX12_lead_43 (by decide) (by omega) ?_
          refine x_iload_n hg dX12_lead_44 rfl ?_
          refine x_iadd hg dX12_lead_45 ?_
          refine x_iastore (len := 4) hg dX12_lead_46 (by decide) (by omega)  ?_
          refine x_aload_n hg dX12_lead_47 rfl ?_
          refine x_getR (j9 := 202) hg dX12_lead_48 fl_X12_203 (by decide) rfl rfl (by decide) ?_
          refine x_iload_n hg dX12_lead_51 rfl ?_
          refine x_dup2 hg dX12_lead_52 rfl rfl ?_
          refine x_iaload (len := 4) hg dX12_lead_53 (by decide) (by omega) ?_
          try simp (disch := omega) only [mu_s, mu_nf, mu_nc]
          refine x_aload_n hg dX12_lead_54 rfl ?_
          refine x_getR (j9 := 202) hg dX12_lead_55 fl_X12_203 (by decide) rfl rfl (by decide) ?_
          refine x_iload_n hg dX12_lead_58 rfl ?_
          refine x_iaload (len := 4) hg dX12_lead_59 (by decide) (by omega) ?_
          try simp (disch := omega) only [mu_s, mu_nf, mu_nc]
          refine x_ior hg dX12_lead_60 ?_
          refine x_iastore (len := 4) hg dX12_lead_61 (by decide) (by omega)  ?_
          refine x_aload_n hg dX12_lead_62 rfl ?_
          refine x_iload_n hg dX12_lead_63 rfl ?_
          refine x_iload_n hg dX12_lead_64 rfl ?_
          refine x_cVv hg he [_, _] [] dX12_lead_65 mv_X12_324 (c_X12_draw l b D cy (by omega) (by simp (disch := omega) only [mu_s, mu_nf, mu_nc]; have h1 := hT z.toNat (by omega); have h2 := hT y.toNat (by omega); omega)) (by decide) rfl rfl (Nat.le_of_ble_eq_true rfl) (by decide) (by decide) (fun M65 q65 => ?_)
          simp (disch := omega) only [mu_s, mu_nf, mu_nc] at q65
          have q65b : M65 201 z.toNat = M 201 z.toNat - p := by rw [q65]; split <;> simp (disch := omega) only [mu_s, mu_nf, mu_nc]
          refine x_aload_n hg dX12_lead_68 rfl ?_
          refine x_getR (j9 := 201) hg dX12_lead_69 fl_X12_200 (by decide) rfl rfl (by decide) ?_
          refine x_iload_n hg dX12_lead_72 rfl ?_
          refine x_iaload (len := 4) hg dX12_lead_73 (by decide) (by omega) ?_
          try simp (disch := omega) only [mu_s, mu_nf, mu_nc]
          refine x_iret hg hr (Or.inl rfl) dX12_lead_74 (Nat.le_refl _) (Nat.le_refl _) ?_
          exact ⟨rfl, rfl, _, rfl, Or.inl ⟨by omega, q65b, q65⟩⟩
        · skip
          refine x_iconst hg dX12_lead_35 ?_
          refine x_iret hg hr (Or.inl rfl) dX12_lead_36 (Nat.le_refl _) (Nat.le_refl _) ?_
          exact ⟨rfl, rfl, _, rfl, Or.inr ⟨by omega, rfl, rfl⟩⟩

theorem dX12_bottle_0 : decode cX12_bottle 0 = .ok (.aload_n 0, 1) := by decide +kernel
theorem dX12_bottle_1 : decode cX12_bottle 1 = .ok (.iload_n 1, 1) := by decide +kernel
theorem dX12_bottle_2 : decode cX12_bottle 2 = .ok (.iload_n 2, 1) := by decide +kernel
theorem dX12_bottle_3 : decode cX12_bottle 3 = .ok (.invokevirtual 320, 3) := by decide +kernel
theorem dX12_bottle_6 : decode cX12_bottle 6 = .ok (.ifCond .eq 12, 3) := by decide +kernel
theorem dX12_bottle_9 : decode cX12_bottle 9 = .ok (.aload_n 0, 1) := by decide +kernel
theorem dX12_bottle_10 : decode cX12_bottle 10 = .ok (.getfield 327, 3) := by decide +kernel
theorem dX12_bottle_13 : decode cX12_bottle 13 = .ok (.bipush 40, 2) := by decide +kernel
theorem dX12_bottle_15 : decode cX12_bottle 15 = .ok (.if_icmp .ne 5, 3) := by decide +kernel
theorem dX12_bottle_18 : decode cX12_bottle 18 = .ok (.iconst (-1), 1) := by decide +kernel
theorem dX12_bottle_19 : decode cX12_bottle 19 = .ok (.ireturn, 1) := by decide +kernel
theorem dX12_bottle_20 : decode cX12_bottle 20 = .ok (.aload_n 0, 1) := by decide +kernel
theorem dX12_bottle_21 : decode cX12_bottle 21 = .ok (.getfield 206, 3) := by decide +kernel
theorem dX12_bottle_24 : decode cX12_bottle 24 = .ok (.aload_n 0, 1) := by decide +kernel
theorem dX12_bottle_25 : decode cX12_bottle 25 = .ok (.getfield 327, 3) := by decide +kernel
theorem dX12_bottle_28 : decode cX12_bottle 28 = .ok (.iload_n 2, 1) := by decide +kernel
theorem dX12_bottle_29 : decode cX12_bottle 29 = .ok (.iastore, 1) := by decide +kernel
theorem dX12_bottle_30 : decode cX12_bottle 30 = .ok (.aload_n 0, 1) := by decide +kernel
theorem dX12_bottle_31 : decode cX12_bottle 31 = .ok (.getfield 209, 3) := by decide +kernel
theorem dX12_bottle_34 : decode cX12_bottle 34 = .ok (.aload_n 0, 1) := by decide +kernel
theorem dX12_bottle_35 : decode cX12_bottle 35 = .ok (.getfield 327, 3) := by decide +kernel
theorem dX12_bottle_38 : decode cX12_bottle 38 = .ok (.aload_n 0, 1) := by decide +kernel
theorem dX12_bottle_39 : decode cX12_bottle 39 = .ok (.getfield 203, 3) := by decide +kernel
theorem dX12_bottle_42 : decode cX12_bottle 42 = .ok (.iload_n 1, 1) := by decide +kernel
theorem dX12_bottle_43 : decode cX12_bottle 43 = .ok (.iaload, 1) := by decide +kernel
theorem dX12_bottle_44 : decode cX12_bottle 44 = .ok (.iastore, 1) := by decide +kernel
theorem dX12_bottle_45 : decode cX12_bottle 45 = .ok (.aload_n 0, 1) := by decide +kernel
theorem dX12_bottle_46 : decode cX12_bottle 46 = .ok (.getfield 212, 3) := by decide +kernel
theorem dX12_bottle_49 : decode cX12_bottle 49 = .ok (.aload_n 0, 1) := by decide +kernel
theorem dX12_bottle_50 : decode cX12_bottle 50 = .ok (.getfield 327, 3) := by decide +kernel
theorem dX12_bottle_53 : decode cX12_bottle 53 = .ok (.aload_n 0, 1) := by decide +kernel
theorem dX12_bottle_54 : decode cX12_bottle 54 = .ok (.getfield 314, 3) := by decide +kernel
theorem dX12_bottle_57 : decode cX12_bottle 57 = .ok (.iastore, 1) := by decide +kernel
theorem dX12_bottle_58 : decode cX12_bottle 58 = .ok (.aload_n 0, 1) := by decide +kernel
theorem dX12_bottle_59 : decode cX12_bottle 59 = .ok (.dup, 1) := by decide +kernel
theorem dX12_bottle_60 : decode cX12_bottle 60 = .ok (.getfield 327, 3) := by decide +kernel
theorem dX12_bottle_63 : decode cX12_bottle 63 = .ok (.iconst 1, 1) := by decide +kernel
theorem dX12_bottle_64 : decode cX12_bottle 64 = .ok (.iadd, 1) := by decide +kernel
theorem dX12_bottle_65 : decode cX12_bottle 65 = .ok (.putfield 327, 3) := by decide +kernel
theorem dX12_bottle_68 : decode cX12_bottle 68 = .ok (.aload_n 0, 1) := by decide +kernel
theorem dX12_bottle_69 : decode cX12_bottle 69 = .ok (.iload_n 1, 1) := by decide +kernel
theorem dX12_bottle_70 : decode cX12_bottle 70 = .ok (.iload_n 2, 1) := by decide +kernel
theorem dX12_bottle_71 : decode cX12_bottle 71 = .ok (.invokevirtual 324, 3) := by decide +kernel
theorem dX12_bottle_74 : decode cX12_bottle 74 = .ok (.aload_n 0, 1) := by decide +kernel
theorem dX12_bottle_75 : decode cX12_bottle 75 = .ok (.getfield 327, 3) := by decide +kernel
theorem dX12_bottle_78 : decode cX12_bottle 78 = .ok (.iconst 1, 1) := by decide +kernel
theorem dX12_bottle_79 : decode cX12_bottle 79 = .ok (.isub, 1) := by decide +kernel
theorem dX12_bottle_80 : decode cX12_bottle 80 = .ok (.ireturn, 1) := by decide +kernel
set_option maxHeartbeats 4000000 in
set_option maxRecDepth 20000 in
theorem c_X12_bottle (l : Launch) (b : Nat) (D : va_G) (cy : Nat → ClassId) {tt : Nat} {M : xMm} {z y : Int} (hM : MO M) (hz : inR z) (hy : inR y) : xC l b D cy yX12_bottle cX12_bottle 3 (some .int) ({ frames := 2, cells := 0, slots := 0, locals := 42 }) [xr 172, xi z, xi y] 209 M (RS tt) (xPi 209 (RS tt) (fun r M' => ((0 ≤ z ∧ z < 4 ∧ 1 ≤ y ∧ y ≤ M 201 z.toNat ∧ M 172 56 < 40) ∧ r = M 172 56 ∧ M' = if (M 201 z.toNat - y) = 0 then mu (mu (mu (mu (mu (mu M 203 (M 172 56).toNat y) 204 (M 172 56).toNat (M 202 z.toNat)) 205 (M 172 56).toNat (M 172 55)) 172 56 (M 172 56 + 1)) 201 z.toNat (M 201 z.toNat - y)) 202 z.toNat 0 else mu (mu (mu (mu (mu M 203 (M 172 56).toNat y) 204 (M 172 56).toNat (M 202 z.toNat)) 205 (M 172 56).toNat (M 172 55)) 172 56 (M 172 56 + 1)) 201 z.toNat (M 201 z.toNat - y)) ∨ (¬ (0 ≤ z ∧ z < 4 ∧ 1 ≤ y ∧ y ≤ M 201 z.toNat ∧ M 172 56 < 40) ∧ r = -1 ∧ M' = M))) := by
  refine x_met (by decide) (Nat.le_of_ble_eq_true rfl) (fun g hg hr he => ?_)
  have hM0 := hM
  obtain ⟨hn30, hn56, hn57, hn55, hn24, hC, hT, hB, hF⟩ := hM
  refine x_canon (ls' := [(0, _), (1, _), (2, _)]) rfl ?_
  refine x_aload_n hg dX12_bottle_0 rfl ?_
  refine x_iload_n hg dX12_bottle_1 rfl ?_
  refine x_iload_n hg dX12_bottle_2 rfl ?_
  refine x_cVi hg he [_, _] [] dX12_bottle_3 mv_X12_320 (c_X12_has l b D cy hM0 (by omega) (by omega)) (by decide) rfl rfl (Nat.le_of_ble_eq_true rfl) (by decide) (by decide) (fun r3 M3 q3 => ?_)
  obtain ⟨h3, e3⟩ := q3
  replace h3 := h3.symm
  subst h3
  refine x_if_eq (tgt := 18) hg dX12_bottle_6 (by decide) (by omega) (fun c6 => ?_) (fun c6 => ?_)
  · skip
    refine x_iconst hg dX12_bottle_18 ?_
    refine x_iret hg hr (Or.inl rfl) dX12_bottle_19 (Nat.le_refl _) (Nat.le_refl _) ?_
    exact ⟨rfl, rfl, _, rfl, Or.inr ⟨by omega, rfl, rfl⟩⟩
  · skip
    refine x_aload_n hg dX12_bottle_9 rfl ?_
    refine x_getI hg dX12_bottle_10 fl_X12_327 (by decide) rfl ?_
    refine x_bipush hg dX12_bottle_13 (by decide) ?_
    refine x_icmp_ne (tgt := 20) hg dX12_bottle_15 (by decide) (by omega) (by omega) (fun c15 => ?_) (fun c15 => ?_)
    · skip
      refine x_aload_n hg dX12_bottle_20 rfl ?_
      refine x_getR (j9 := 203) hg dX12_bottle_21 fl_X12_206 (by decide) rfl rfl (by decide) ?_
      refine x_aload_n hg dX12_bottle_24 rfl ?_
      refine x_getI hg dX12_bottle_25 fl_X12_327 (by decide) rfl ?_
      refine x_iload_n hg dX12_bottle_28 rfl ?_
      refine x_iastore (len := 40) hg dX12_bottle_29 (by decide) (by omega)  ?_
      refine x_aload_n hg dX12_bottle_30 rfl ?_
      refine x_getR (j9 := 204) hg dX12_bottle_31 fl_X12_209 (by decide) rfl rfl (by decide) ?_
      refine x_aload_n hg dX12_bottle_34 rfl ?_
      refine x_getI hg dX12_bottle_35 fl_X12_327 (by decide) rfl ?_
      try simp (disch := omega) only [mu_s, mu_nf, mu_nc]
      refine x_aload_n hg dX12_bottle_38 rfl ?_
      refine x_getR (j9 := 202) hg dX12_bottle_39 fl_X12_203 (by decide) rfl rfl (by decide) ?_
      refine x_iload_n hg dX12_bottle_42 rfl ?_
      refine x_iaload (len := 4) hg dX12_bottle_43 (by decide) (by omega) ?_
      try simp (disch := omega) only [mu_s, mu_nf, mu_nc]
      refine x_iastore (len := 40) hg dX12_bottle_44 (by decide) (by omega)  ?_
      refine x_aload_n hg dX12_bottle_45 rfl ?_
      refine x_getR (j9 := 205) hg dX12_bottle_46 fl_X12_212 (by decide) rfl rfl (by decide) ?_
      refine x_aload_n hg dX12_bottle_49 rfl ?_
      refine x_getI hg dX12_bottle_50 fl_X12_327 (by decide) rfl ?_
      try simp (disch := omega) only [mu_s, mu_nf, mu_nc]
      refine x_aload_n hg dX12_bottle_53 rfl ?_
      refine x_getI hg dX12_bottle_54 fl_X12_314 (by decide) rfl ?_
      try simp (disch := omega) only [mu_s, mu_nf, mu_nc]
      refine x_iastore (len := 40) hg dX12_bottle_57 (by decide) (by omega)  ?_
      refine x_aload_n hg dX12_bottle_58 rfl ?_
      refine x_dup hg dX12_bottle_59 rfl ?_
      refine x_getI hg dX12_bottle_60 fl_X12_327 (by decide) rfl ?_
      try simp (disch := omega) only [mu_s, mu_nf, mu_nc]
      refine x_iconst hg dX12_bottle_63 ?_
      refine x_iadd hg dX12_bottle_64 ?_
      refine x_putI hg dX12_bottle_65 fl_X12_327 ft_12_56 (by decide) rfl ?_
      refine x_aload_n hg dX12_bottle_68 rfl ?_
      refine x_iload_n hg dX12_bottle_69 rfl ?_
      refine x_iload_n hg dX12_bottle_70 rfl ?_
      refine x_cVv hg he [_, _] [] dX12_bottle_71 mv_X12_324 (c_X12_draw l b D cy (by omega) (by simp (disch := omega) only [mu_s, mu_nf, mu_nc]; have h1 := hT z.toNat (by omega); omega)) (by decide) rfl rfl (Nat.le_of_ble_eq_true rfl) (by decide) (by decide) (fun M71 q71 => ?_)
      simp (disch := omega) only [mu_s, mu_nf, mu_nc] at q71
      have q71b : M71 172 56 = M 172 56 + 1 := by rw [q71]; split <;> simp (disch := omega) only [mu_s, mu_nf, mu_nc]
      refine x_aload_n hg dX12_bottle_74 rfl ?_
      refine x_getI hg dX12_bottle_75 fl_X12_327 (by decide) rfl ?_
      try simp (disch := omega) only [mu_s, mu_nf, mu_nc]
      refine x_iconst hg dX12_bottle_78 ?_
      refine x_isub hg dX12_bottle_79 ?_
      refine x_iret hg hr (Or.inl rfl) dX12_bottle_80 (Nat.le_refl _) (Nat.le_refl _) ?_
      exact ⟨rfl, rfl, _, rfl, Or.inl ⟨by omega, by omega, q71⟩⟩
    · skip
      refine x_iconst hg dX12_bottle_18 ?_
      refine x_iret hg hr (Or.inl rfl) dX12_bottle_19 (Nat.le_refl _) (Nat.le_refl _) ?_
      exact ⟨rfl, rfl, _, rfl, Or.inr ⟨by omega, rfl, rfl⟩⟩

theorem dX12_find_0 : decode cX12_find 0 = .ok (.iload_n 1, 1) := by decide +kernel
theorem dX12_find_1 : decode cX12_find 1 = .ok (.ifCond .lt 28, 3) := by decide +kernel
theorem dX12_find_4 : decode cX12_find 4 = .ok (.iload_n 1, 1) := by decide +kernel
theorem dX12_find_5 : decode cX12_find 5 = .ok (.bipush 12, 2) := by decide +kernel
theorem dX12_find_7 : decode cX12_find 7 = .ok (.if_icmp .ge 22, 3) := by decide +kernel
theorem dX12_find_10 : decode cX12_find 10 = .ok (.iload_n 2, 1) := by decide +kernel
theorem dX12_find_11 : decode cX12_find 11 = .ok (.ifCond .lt 18, 3) := by decide +kernel
theorem dX12_find_14 : decode cX12_find 14 = .ok (.iload_n 2, 1) := by decide +kernel
theorem dX12_find_15 : decode cX12_find 15 = .ok (.ldc 233, 2) := by decide +kernel
theorem dX12_find_17 : decode cX12_find 17 = .ok (.if_icmp .gt 12, 3) := by decide +kernel
theorem dX12_find_20 : decode cX12_find 20 = .ok (.aload_n 0, 1) := by decide +kernel
theorem dX12_find_21 : decode cX12_find 21 = .ok (.getfield 333, 3) := by decide +kernel
theorem dX12_find_24 : decode cX12_find 24 = .ok (.bipush 30, 2) := by decide +kernel
theorem dX12_find_26 : decode cX12_find 26 = .ok (.if_icmp .ne 5, 3) := by decide +kernel
theorem dX12_find_29 : decode cX12_find 29 = .ok (.iconst (-1), 1) := by decide +kernel
theorem dX12_find_30 : decode cX12_find 30 = .ok (.ireturn, 1) := by decide +kernel
theorem dX12_find_31 : decode cX12_find 31 = .ok (.aload_n 0, 1) := by decide +kernel
theorem dX12_find_32 : decode cX12_find 32 = .ok (.getfield 215, 3) := by decide +kernel
theorem dX12_find_35 : decode cX12_find 35 = .ok (.aload_n 0, 1) := by decide +kernel
theorem dX12_find_36 : decode cX12_find 36 = .ok (.getfield 333, 3) := by decide +kernel
theorem dX12_find_39 : decode cX12_find 39 = .ok (.iload_n 1, 1) := by decide +kernel
theorem dX12_find_40 : decode cX12_find 40 = .ok (.iastore, 1) := by decide +kernel
theorem dX12_find_41 : decode cX12_find 41 = .ok (.aload_n 0, 1) := by decide +kernel
theorem dX12_find_42 : decode cX12_find 42 = .ok (.getfield 218, 3) := by decide +kernel
theorem dX12_find_45 : decode cX12_find 45 = .ok (.aload_n 0, 1) := by decide +kernel
theorem dX12_find_46 : decode cX12_find 46 = .ok (.getfield 333, 3) := by decide +kernel
theorem dX12_find_49 : decode cX12_find 49 = .ok (.iload_n 2, 1) := by decide +kernel
theorem dX12_find_50 : decode cX12_find 50 = .ok (.iastore, 1) := by decide +kernel
theorem dX12_find_51 : decode cX12_find 51 = .ok (.aload_n 0, 1) := by decide +kernel
theorem dX12_find_52 : decode cX12_find 52 = .ok (.getfield 221, 3) := by decide +kernel
theorem dX12_find_55 : decode cX12_find 55 = .ok (.aload_n 0, 1) := by decide +kernel
theorem dX12_find_56 : decode cX12_find 56 = .ok (.getfield 333, 3) := by decide +kernel
theorem dX12_find_59 : decode cX12_find 59 = .ok (.aload_n 0, 1) := by decide +kernel
theorem dX12_find_60 : decode cX12_find 60 = .ok (.getfield 314, 3) := by decide +kernel
theorem dX12_find_63 : decode cX12_find 63 = .ok (.iastore, 1) := by decide +kernel
theorem dX12_find_64 : decode cX12_find 64 = .ok (.aload_n 0, 1) := by decide +kernel
theorem dX12_find_65 : decode cX12_find 65 = .ok (.getfield 224, 3) := by decide +kernel
theorem dX12_find_68 : decode cX12_find 68 = .ok (.aload_n 0, 1) := by decide +kernel
theorem dX12_find_69 : decode cX12_find 69 = .ok (.getfield 333, 3) := by decide +kernel
theorem dX12_find_72 : decode cX12_find 72 = .ok (.iconst (-1), 1) := by decide +kernel
theorem dX12_find_73 : decode cX12_find 73 = .ok (.iastore, 1) := by decide +kernel
theorem dX12_find_74 : decode cX12_find 74 = .ok (.aload_n 0, 1) := by decide +kernel
theorem dX12_find_75 : decode cX12_find 75 = .ok (.dup, 1) := by decide +kernel
theorem dX12_find_76 : decode cX12_find 76 = .ok (.getfield 333, 3) := by decide +kernel
theorem dX12_find_79 : decode cX12_find 79 = .ok (.iconst 1, 1) := by decide +kernel
theorem dX12_find_80 : decode cX12_find 80 = .ok (.iadd, 1) := by decide +kernel
theorem dX12_find_81 : decode cX12_find 81 = .ok (.putfield 333, 3) := by decide +kernel
theorem dX12_find_84 : decode cX12_find 84 = .ok (.aload_n 0, 1) := by decide +kernel
theorem dX12_find_85 : decode cX12_find 85 = .ok (.getfield 333, 3) := by decide +kernel
theorem dX12_find_88 : decode cX12_find 88 = .ok (.iconst 1, 1) := by decide +kernel
theorem dX12_find_89 : decode cX12_find 89 = .ok (.isub, 1) := by decide +kernel
theorem dX12_find_90 : decode cX12_find 90 = .ok (.ireturn, 1) := by decide +kernel
set_option maxHeartbeats 4000000 in
set_option maxRecDepth 20000 in
theorem c_X12_find (l : Launch) (b : Nat) (D : va_G) (cy : Nat → ClassId) {tt : Nat} {M : xMm} {z y : Int} (hM : MO M) (hz : inR z) (hy : inR y) : xC l b D cy yX12_find cX12_find 3 (some .int) ({ frames := 0, cells := 0, slots := 0, locals := 0 }) [xr 172, xi z, xi y] 209 M (RS tt) (xPi 209 (RS tt) (fun r M' => ((0 ≤ z ∧ z < 12 ∧ 0 ≤ y ∧ y ≤ 100000 ∧ M 172 57 < 30) ∧ r = M 172 57 ∧ M' = mu (mu (mu (mu (mu M 206 (M 172 57).toNat z) 207 (M 172 57).toNat y) 208 (M 172 57).toNat (M 172 55)) 209 (M 172 57).toNat (-1)) 172 57 (M 172 57 + 1)) ∨ (¬ (0 ≤ z ∧ z < 12 ∧ 0 ≤ y ∧ y ≤ 100000 ∧ M 172 57 < 30) ∧ r = -1 ∧ M' = M))) := by
  refine x_met (by decide) (Nat.le_of_ble_eq_true rfl) (fun g hg hr he => ?_)
  have hM0 := hM
  obtain ⟨hn30, hn56, hn57, hn55, hn24, hC, hT, hB, hF⟩ := hM
  refine x_canon (ls' := [(0, _), (1, _), (2, _)]) rfl ?_
  refine x_iload_n hg dX12_find_0 rfl ?_
  refine x_if_lt (tgt := 29) hg dX12_find_1 (by decide) (by omega) (fun c1 => ?_) (fun c1 => ?_)
  · skip
    refine x_iconst hg dX12_find_29 ?_
    refine x_iret hg hr (Or.inl rfl) dX12_find_30 (Nat.le_refl _) (Nat.le_refl _) ?_
    exact ⟨rfl, rfl, _, rfl, Or.inr ⟨by omega, rfl, rfl⟩⟩
  · skip
    refine x_iload_n hg dX12_find_4 rfl ?_
    refine x_bipush hg dX12_find_5 (by decide) ?_
    refine x_icmp_ge (tgt := 29) hg dX12_find_7 (by decide) (by omega) (by omega) (fun c7 => ?_) (fun c7 => ?_)
    · skip
      refine x_iconst hg dX12_find_29 ?_
      refine x_iret hg hr (Or.inl rfl) dX12_find_30 (Nat.le_refl _) (Nat.le_refl _) ?_
      exact ⟨rfl, rfl, _, rfl, Or.inr ⟨by omega, rfl, rfl⟩⟩
    · skip
      refine x_iload_n hg dX12_find_10 rfl ?_
      refine x_if_lt (tgt := 29) hg dX12_find_11 (by decide) (by omega) (fun c11 => ?_) (fun c11 => ?_)
      · skip
        refine x_iconst hg dX12_find_29 ?_
        refine x_iret hg hr (Or.inl rfl) dX12_find_30 (Nat.le_refl _) (Nat.le_refl _) ?_
        exact ⟨rfl, rfl, _, rfl, Or.inr ⟨by omega, rfl, rfl⟩⟩
      · skip
        refine x_iload_n hg dX12_find_14 rfl ?_
        refine x_ldc hg 100000 dX12_find_15 (List.mem_of_getElem? (i := 1104) (by decide +kernel)) ?_
        refine x_icmp_gt (tgt := 29) hg dX12_find_17 (by decide) (by omega) (by omega) (fun c17 => ?_) (fun c17 => ?_)
        · skip
          refine x_iconst hg dX12_find_29 ?_
          refine x_iret hg hr (Or.inl rfl) dX12_find_30 (Nat.le_refl _) (Nat.le_refl _) ?_
          exact ⟨rfl, rfl, _, rfl, Or.inr ⟨by omega, rfl, rfl⟩⟩
        · skip
          refine x_aload_n hg dX12_find_20 rfl ?_
          refine x_getI hg dX12_find_21 fl_X12_333 (by decide) rfl ?_
          refine x_bipush hg dX12_find_24 (by decide) ?_
          refine x_icmp_ne (tgt := 31) hg dX12_find_26 (by decide) (by omega) (by omega) (fun c26 => ?_) (fun c26 => ?_)
          · skip
            refine x_aload_n hg dX12_find_31 rfl ?_
            refine x_getR (j9 := 206) hg dX12_find_32 fl_X12_215 (by decide) rfl rfl (by decide) ?_
            refine x_aload_n hg dX12_find_35 rfl ?_
            refine x_getI hg dX12_find_36 fl_X12_333 (by decide) rfl ?_
            refine x_iload_n hg dX12_find_39 rfl ?_
            refine x_iastore (len := 30) hg dX12_find_40 (by decide) (by omega)  ?_
            refine x_aload_n hg dX12_find_41 rfl ?_
            refine x_getR (j9 := 207) hg dX12_find_42 fl_X12_218 (by decide) rfl rfl (by decide) ?_
            refine x_aload_n hg dX12_find_45 rfl ?_
            refine x_getI hg dX12_find_46 fl_X12_333 (by decide) rfl ?_
            try simp (disch := omega) only [mu_s, mu_nf, mu_nc]
            refine x_iload_n hg dX12_find_49 rfl ?_
            refine x_iastore (len := 30) hg dX12_find_50 (by decide) (by omega)  ?_
            refine x_aload_n hg dX12_find_51 rfl ?_
            refine x_getR (j9 := 208) hg dX12_find_52 fl_X12_221 (by decide) rfl rfl (by decide) ?_
            refine x_aload_n hg dX12_find_55 rfl ?_
            refine x_getI hg dX12_find_56 fl_X12_333 (by decide) rfl ?_
            try simp (disch := omega) only [mu_s, mu_nf, mu_nc]
            refine x_aload_n hg dX12_find_59 rfl ?_
            refine x_getI hg dX12_find_60 fl_X12_314 (by decide) rfl ?_
            try simp (disch := omega) only [mu_s, mu_nf, mu_nc]
            refine x_iastore (len := 30) hg dX12_find_63 (by decide) (by omega)  ?_
            refine x_aload_n hg dX12_find_64 rfl ?_
            refine x_getR (j9 := 209) hg dX12_find_65 fl_X12_224 (by decide) rfl rfl (by decide) ?_
            refine x_aload_n hg dX12_find_68 rfl ?_
            refine x_getI hg dX12_find_69 fl_X12_333 (by decide) rfl ?_
            try simp (disch := omega) only [mu_s, mu_nf, mu_nc]
            refine x_iconst hg dX12_find_72 ?_
            refine x_iastore (len := 30) hg dX12_find_73 (by decide) (by omega)  ?_
            refine x_aload_n hg dX12_find_74 rfl ?_
            refine x_dup hg dX12_find_75 rfl ?_
            refine x_getI hg dX12_find_76 fl_X12_333 (by decide) rfl ?_
            try simp (disch := omega) only [mu_s, mu_nf, mu_nc]
            refine x_iconst hg dX12_find_79 ?_
            refine x_iadd hg dX12_find_80 ?_
            refine x_putI hg dX12_find_81 fl_X12_333 ft_12_57 (by decide) rfl ?_
            refine x_aload_n hg dX12_find_84 rfl ?_
            refine x_getI hg dX12_find_85 fl_X12_333 (by decide) rfl ?_
            try simp (disch := omega) only [mu_s, mu_nf, mu_nc]
            refine x_iconst hg dX12_find_88 ?_
            refine x_isub hg dX12_find_89 ?_
            refine x_iret hg hr (Or.inl rfl) dX12_find_90 (Nat.le_refl _) (Nat.le_refl _) ?_
            exact ⟨rfl, rfl, _, rfl, Or.inl ⟨by omega, by omega, rfl⟩⟩
          · skip
            refine x_iconst hg dX12_find_29 ?_
            refine x_iret hg hr (Or.inl rfl) dX12_find_30 (Nat.le_refl _) (Nat.le_refl _) ?_
            exact ⟨rfl, rfl, _, rfl, Or.inr ⟨by omega, rfl, rfl⟩⟩

theorem dX12_untell_0 : decode cX12_untell 0 = .ok (.iload_n 1, 1) := by decide +kernel
theorem dX12_untell_1 : decode cX12_untell 1 = .ok (.ifCond .lt 20, 3) := by decide +kernel
theorem dX12_untell_4 : decode cX12_untell 4 = .ok (.iload_n 1, 1) := by decide +kernel
theorem dX12_untell_5 : decode cX12_untell 5 = .ok (.aload_n 0, 1) := by decide +kernel
theorem dX12_untell_6 : decode cX12_untell 6 = .ok (.getfield 333, 3) := by decide +kernel
theorem dX12_untell_9 : decode cX12_untell 9 = .ok (.if_icmp .ge 12, 3) := by decide +kernel
theorem dX12_untell_12 : decode cX12_untell 12 = .ok (.aload_n 0, 1) := by decide +kernel
theorem dX12_untell_13 : decode cX12_untell 13 = .ok (.getfield 224, 3) := by decide +kernel
theorem dX12_untell_16 : decode cX12_untell 16 = .ok (.iload_n 1, 1) := by decide +kernel
theorem dX12_untell_17 : decode cX12_untell 17 = .ok (.iaload, 1) := by decide +kernel
theorem dX12_untell_18 : decode cX12_untell 18 = .ok (.ifCond .lt 5, 3) := by decide +kernel
theorem dX12_untell_21 : decode cX12_untell 21 = .ok (.iconst 0, 1) := by decide +kernel
theorem dX12_untell_22 : decode cX12_untell 22 = .ok (.ireturn, 1) := by decide +kernel
theorem dX12_untell_23 : decode cX12_untell 23 = .ok (.aload_n 0, 1) := by decide +kernel
theorem dX12_untell_24 : decode cX12_untell 24 = .ok (.getfield 224, 3) := by decide +kernel
theorem dX12_untell_27 : decode cX12_untell 27 = .ok (.iload_n 1, 1) := by decide +kernel
theorem dX12_untell_28 : decode cX12_untell 28 = .ok (.aload_n 0, 1) := by decide +kernel
theorem dX12_untell_29 : decode cX12_untell 29 = .ok (.getfield 314, 3) := by decide +kernel
theorem dX12_untell_32 : decode cX12_untell 32 = .ok (.iastore, 1) := by decide +kernel
theorem dX12_untell_33 : decode cX12_untell 33 = .ok (.iconst 1, 1) := by decide +kernel
theorem dX12_untell_34 : decode cX12_untell 34 = .ok (.ireturn, 1) := by decide +kernel
set_option maxHeartbeats 4000000 in
set_option maxRecDepth 20000 in
theorem c_X12_untell (l : Launch) (b : Nat) (D : va_G) (cy : Nat → ClassId) {tt : Nat} {M : xMm} {z : Int} (hM : MO M) (hz : inR z) : xC l b D cy yX12_untell cX12_untell 2 (some .boolean) ({ frames := 0, cells := 0, slots := 0, locals := 0 }) [xr 172, xi z] 209 M (RS tt) (xPi 209 (RS tt) (fun r M' => ((0 ≤ z ∧ z < M 172 57 ∧ M 209 z.toNat < 0) ∧ r = 1 ∧ M' = mu M 209 z.toNat (M 172 55)) ∨ (¬ (0 ≤ z ∧ z < M 172 57 ∧ M 209 z.toNat < 0) ∧ r = 0 ∧ M' = M))) := by
  refine x_met (by decide) (Nat.le_of_ble_eq_true rfl) (fun g hg hr he => ?_)
  have hM0 := hM
  obtain ⟨hn30, hn56, hn57, hn55, hn24, hC, hT, hB, hF⟩ := hM
  refine x_canon (ls' := [(0, _), (1, _)]) rfl ?_
  refine x_iload_n hg dX12_untell_0 rfl ?_
  refine x_if_lt (tgt := 21) hg dX12_untell_1 (by decide) (by omega) (fun c1 => ?_) (fun c1 => ?_)
  · skip
    refine x_iconst hg dX12_untell_21 ?_
    refine x_iret hg hr (Or.inr ⟨rfl, by first | exact Or.inl rfl | exact Or.inr rfl | omega⟩) dX12_untell_22 (Nat.le_refl _) (Nat.le_refl _) ?_
    refine ⟨rfl, rfl, _, rfl, ?_⟩
    first | exact Or.inl ⟨by omega, rfl, rfl⟩ | exact Or.inr ⟨by omega, rfl, rfl⟩
  · skip
    refine x_iload_n hg dX12_untell_4 rfl ?_
    refine x_aload_n hg dX12_untell_5 rfl ?_
    refine x_getI hg dX12_untell_6 fl_X12_333 (by decide) rfl ?_
    refine x_icmp_ge (tgt := 21) hg dX12_untell_9 (by decide) (by omega) (by omega) (fun c9 => ?_) (fun c9 => ?_)
    · skip
      refine x_iconst hg dX12_untell_21 ?_
      refine x_iret hg hr (Or.inr ⟨rfl, by first | exact Or.inl rfl | exact Or.inr rfl | omega⟩) dX12_untell_22 (Nat.le_refl _) (Nat.le_refl _) ?_
      refine ⟨rfl, rfl, _, rfl, ?_⟩
      first | exact Or.inl ⟨by omega, rfl, rfl⟩ | exact Or.inr ⟨by omega, rfl, rfl⟩
    · skip
      refine x_aload_n hg dX12_untell_12 rfl ?_
      refine x_getR (j9 := 209) hg dX12_untell_13 fl_X12_224 (by decide) rfl rfl (by decide) ?_
      refine x_iload_n hg dX12_untell_16 rfl ?_
      refine x_iaload (len := 30) hg dX12_untell_17 (by decide) (by omega) ?_
      refine x_if_lt (tgt := 23) hg dX12_untell_18 (by decide) (by have h1 := hF z.toNat (by omega); omega) (fun c18 => ?_) (fun c18 => ?_)
      · skip
        refine x_aload_n hg dX12_untell_23 rfl ?_
        refine x_getR (j9 := 209) hg dX12_untell_24 fl_X12_224 (by decide) rfl rfl (by decide) ?_
        refine x_iload_n hg dX12_untell_27 rfl ?_
        refine x_aload_n hg dX12_untell_28 rfl ?_
        refine x_getI hg dX12_untell_29 fl_X12_314 (by decide) rfl ?_
        refine x_iastore (len := 30) hg dX12_untell_32 (by decide) (by omega)  ?_
        refine x_iconst hg dX12_untell_33 ?_
        refine x_iret hg hr (Or.inr ⟨rfl, by first | exact Or.inl rfl | exact Or.inr rfl | omega⟩) dX12_untell_34 (Nat.le_refl _) (Nat.le_refl _) ?_
        refine ⟨rfl, rfl, _, rfl, ?_⟩
        first | exact Or.inl ⟨by omega, rfl, rfl⟩ | exact Or.inr ⟨by omega, rfl, rfl⟩
      · skip
        refine x_iconst hg dX12_untell_21 ?_
        refine x_iret hg hr (Or.inr ⟨rfl, by first | exact Or.inl rfl | exact Or.inr rfl | omega⟩) dX12_untell_22 (Nat.le_refl _) (Nat.le_refl _) ?_
        refine ⟨rfl, rfl, _, rfl, ?_⟩
        first | exact Or.inl ⟨by omega, rfl, rfl⟩ | exact Or.inr ⟨by omega, rfl, rfl⟩

theorem dX12_isRecalled_0 : decode cX12_isRecalled 0 = .ok (.aload_n 0, 1) := by decide +kernel
theorem dX12_isRecalled_1 : decode cX12_isRecalled 1 = .ok (.getfield 212, 3) := by decide +kernel
theorem dX12_isRecalled_4 : decode cX12_isRecalled 4 = .ok (.iload_n 1, 1) := by decide +kernel
theorem dX12_isRecalled_5 : decode cX12_isRecalled 5 = .ok (.iaload, 1) := by decide +kernel
theorem dX12_isRecalled_6 : decode cX12_isRecalled 6 = .ok (.iload_n 2, 1) := by decide +kernel
theorem dX12_isRecalled_7 : decode cX12_isRecalled 7 = .ok (.if_icmp .le 5, 3) := by decide +kernel
theorem dX12_isRecalled_10 : decode cX12_isRecalled 10 = .ok (.iconst 0, 1) := by decide +kernel
theorem dX12_isRecalled_11 : decode cX12_isRecalled 11 = .ok (.ireturn, 1) := by decide +kernel
theorem dX12_isRecalled_12 : decode cX12_isRecalled 12 = .ok (.iconst 0, 1) := by decide +kernel
theorem dX12_isRecalled_13 : decode cX12_isRecalled 13 = .ok (.istore_n 3, 1) := by decide +kernel
theorem dX12_isRecalled_14 : decode cX12_isRecalled 14 = .ok (.iload_n 3, 1) := by decide +kernel
theorem dX12_isRecalled_15 : decode cX12_isRecalled 15 = .ok (.aload_n 0, 1) := by decide +kernel
theorem dX12_isRecalled_16 : decode cX12_isRecalled 16 = .ok (.getfield 333, 3) := by decide +kernel
theorem dX12_isRecalled_19 : decode cX12_isRecalled 19 = .ok (.if_icmp .ge 74, 3) := by decide +kernel
theorem dX12_isRecalled_22 : decode cX12_isRecalled 22 = .ok (.aload_n 0, 1) := by decide +kernel
theorem dX12_isRecalled_23 : decode cX12_isRecalled 23 = .ok (.getfield 221, 3) := by decide +kernel
theorem dX12_isRecalled_26 : decode cX12_isRecalled 26 = .ok (.iload_n 3, 1) := by decide +kernel
theorem dX12_isRecalled_27 : decode cX12_isRecalled 27 = .ok (.iaload, 1) := by decide +kernel
theorem dX12_isRecalled_28 : decode cX12_isRecalled 28 = .ok (.iload_n 2, 1) := by decide +kernel
theorem dX12_isRecalled_29 : decode cX12_isRecalled 29 = .ok (.if_icmp .gt 58, 3) := by decide +kernel
theorem dX12_isRecalled_32 : decode cX12_isRecalled 32 = .ok (.aload_n 0, 1) := by decide +kernel
theorem dX12_isRecalled_33 : decode cX12_isRecalled 33 = .ok (.getfield 224, 3) := by decide +kernel
theorem dX12_isRecalled_36 : decode cX12_isRecalled 36 = .ok (.iload_n 3, 1) := by decide +kernel
theorem dX12_isRecalled_37 : decode cX12_isRecalled 37 = .ok (.iaload, 1) := by decide +kernel
theorem dX12_isRecalled_38 : decode cX12_isRecalled 38 = .ok (.ifCond .lt 13, 3) := by decide +kernel
theorem dX12_isRecalled_41 : decode cX12_isRecalled 41 = .ok (.aload_n 0, 1) := by decide +kernel
theorem dX12_isRecalled_42 : decode cX12_isRecalled 42 = .ok (.getfield 224, 3) := by decide +kernel
theorem dX12_isRecalled_45 : decode cX12_isRecalled 45 = .ok (.iload_n 3, 1) := by decide +kernel
theorem dX12_isRecalled_46 : decode cX12_isRecalled 46 = .ok (.iaload, 1) := by decide +kernel
theorem dX12_isRecalled_47 : decode cX12_isRecalled 47 = .ok (.iload_n 2, 1) := by decide +kernel
theorem dX12_isRecalled_48 : decode cX12_isRecalled 48 = .ok (.if_icmp .le 39, 3) := by decide +kernel
theorem dX12_isRecalled_51 : decode cX12_isRecalled 51 = .ok (.aload_n 0, 1) := by decide +kernel
theorem dX12_isRecalled_52 : decode cX12_isRecalled 52 = .ok (.getfield 218, 3) := by decide +kernel
theorem dX12_isRecalled_55 : decode cX12_isRecalled 55 = .ok (.iload_n 3, 1) := by decide +kernel
theorem dX12_isRecalled_56 : decode cX12_isRecalled 56 = .ok (.iaload, 1) := by decide +kernel
theorem dX12_isRecalled_57 : decode cX12_isRecalled 57 = .ok (.aload_n 0, 1) := by decide +kernel
theorem dX12_isRecalled_58 : decode cX12_isRecalled 58 = .ok (.getfield 212, 3) := by decide +kernel
theorem dX12_isRecalled_61 : decode cX12_isRecalled 61 = .ok (.iload_n 1, 1) := by decide +kernel
theorem dX12_isRecalled_62 : decode cX12_isRecalled 62 = .ok (.iaload, 1) := by decide +kernel
theorem dX12_isRecalled_63 : decode cX12_isRecalled 63 = .ok (.if_icmp .gt 24, 3) := by decide +kernel
theorem dX12_isRecalled_66 : decode cX12_isRecalled 66 = .ok (.aload_n 0, 1) := by decide +kernel
theorem dX12_isRecalled_67 : decode cX12_isRecalled 67 = .ok (.getfield 209, 3) := by decide +kernel
theorem dX12_isRecalled_70 : decode cX12_isRecalled 70 = .ok (.iload_n 1, 1) := by decide +kernel
theorem dX12_isRecalled_71 : decode cX12_isRecalled 71 = .ok (.iaload, 1) := by decide +kernel
theorem dX12_isRecalled_72 : decode cX12_isRecalled 72 = .ok (.aload_n 0, 1) := by decide +kernel
theorem dX12_isRecalled_73 : decode cX12_isRecalled 73 = .ok (.getfield 215, 3) := by decide +kernel
theorem dX12_isRecalled_76 : decode cX12_isRecalled 76 = .ok (.iload_n 3, 1) := by decide +kernel
theorem dX12_isRecalled_77 : decode cX12_isRecalled 77 = .ok (.iaload, 1) := by decide +kernel
theorem dX12_isRecalled_78 : decode cX12_isRecalled 78 = .ok (.ishr, 1) := by decide +kernel
theorem dX12_isRecalled_79 : decode cX12_isRecalled 79 = .ok (.iconst 1, 1) := by decide +kernel
theorem dX12_isRecalled_80 : decode cX12_isRecalled 80 = .ok (.iand, 1) := by decide +kernel
theorem dX12_isRecalled_81 : decode cX12_isRecalled 81 = .ok (.iconst 1, 1) := by decide +kernel
theorem dX12_isRecalled_82 : decode cX12_isRecalled 82 = .ok (.if_icmp .ne 5, 3) := by decide +kernel
theorem dX12_isRecalled_85 : decode cX12_isRecalled 85 = .ok (.iconst 1, 1) := by decide +kernel
theorem dX12_isRecalled_86 : decode cX12_isRecalled 86 = .ok (.ireturn, 1) := by decide +kernel
theorem dX12_isRecalled_87 : decode cX12_isRecalled 87 = .ok (.iinc 3 1, 3) := by decide +kernel
theorem dX12_isRecalled_90 : decode cX12_isRecalled 90 = .ok (.goto (-76), 3) := by decide +kernel
theorem dX12_isRecalled_93 : decode cX12_isRecalled 93 = .ok (.iconst 0, 1) := by decide +kernel
theorem dX12_isRecalled_94 : decode cX12_isRecalled 94 = .ok (.ireturn, 1) := by decide +kernel
set_option maxHeartbeats 4000000 in
set_option maxRecDepth 20000 in
theorem c_X12_isRecalled (l : Launch) (b : Nat) (D : va_G) (cy : Nat → ClassId) {tt : Nat} {M : xMm} {z k : Int} (hM : MO M) (hz : 0 ≤ z ∧ z < 40) (hk : inR k) : xC l b D cy yX12_isRecalled cX12_isRecalled 4 (some .boolean) ({ frames := 0, cells := 0, slots := 0, locals := 0 }) [xr 172, xi z, xi k] 209 M (RS tt) (xPi 209 (RS tt) (fun r M' => M' = M ∧ (pRC M z.toNat k ∧ r = 1 ∨ ¬ pRC M z.toNat k ∧ r = 0))) := by
  refine x_met (by decide) (Nat.le_of_ble_eq_true rfl) (fun g hg hr he => ?_)
  have hM0 := hM
  obtain ⟨hn30, hn56, hn57, hn55, hn24, hC, hT, hB, hF⟩ := hM
  have hbz := hB z.toNat (by omega)
  refine x_canon (ls' := [(0, _), (1, _), (2, _)]) rfl ?_
  have loop : ∀ (f : Nat) (i : Int), 0 ≤ i → i ≤ M 172 57 → M 172 57 - i < f → M 205 z.toNat ≤ k → (∀ a : Nat, (a : Int) < i → ¬ pKc M a z.toNat k) → xW g 209 M (RS tt) 0 0 14 [(0, xr 172), (1, xi z), (2, xi k), (3, xi i)] [] := by
    intro f
    induction f with
    | zero => intro i h1 h2 h3 _ _; exact absurd h3 (by omega)
    | succ f ih =>
      intro i hi1 hi2 hi3 hjk hno
      refine x_iload_n hg dX12_isRecalled_14 rfl ?_
      refine x_aload_n hg dX12_isRecalled_15 rfl ?_
      refine x_getI hg dX12_isRecalled_16 fl_X12_333 (by decide) rfl ?_
      refine x_icmp_ge (tgt := 93) hg dX12_isRecalled_19 (by decide) (by omega) (by omega) (fun c19 => ?_) (fun c19 => ?_)
      · skip
        refine x_iconst hg dX12_isRecalled_93 ?_
        refine x_iret hg hr (Or.inr ⟨rfl, by first | exact Or.inl rfl | exact Or.inr rfl | omega⟩) dX12_isRecalled_94 (Nat.le_refl _) (Nat.le_refl _) ?_
        refine ⟨rfl, rfl, _, rfl, rfl, Or.inr ⟨?_, rfl⟩⟩
        rintro ⟨-, a, ha, hp⟩
        exact hno a (by omega) hp
      · skip
        refine x_aload_n hg dX12_isRecalled_22 rfl ?_
        refine x_getR (j9 := 208) hg dX12_isRecalled_23 fl_X12_221 (by decide) rfl rfl (by decide) ?_
        refine x_iload_n hg dX12_isRecalled_26 rfl ?_
        refine x_iaload (len := 30) hg dX12_isRecalled_27 (by decide) (by omega) ?_
        refine x_iload_n hg dX12_isRecalled_28 rfl ?_
        refine x_icmp_gt (tgt := 87) hg dX12_isRecalled_29 (by decide) (by have h1 := hF i.toNat (by omega); omega) (by omega) (fun c29 => ?_) (fun c29 => ?_)
        · skip
          refine x_iinc (ls' := [(0, _), (1, _), (2, _), (3, _)]) hg dX12_isRecalled_87 rfl (by decide) rfl ?_
          refine x_goto (tgt := 14) hg dX12_isRecalled_90 (by decide) ?_
          refine ih _ (by omega) (by omega) (by omega) hjk (fun a ha => ?_)
          by_cases hai : (a : Int) < i
          · exact hno a hai
          · have ea : a = i.toNat := by omega
            subst ea
            intro hcon
            obtain ⟨k1, k2, k3, k4⟩ := hcon
            first | omega | exact absurd k4 (by assumption)
        · skip
          refine x_aload_n hg dX12_isRecalled_32 rfl ?_
          refine x_getR (j9 := 209) hg dX12_isRecalled_33 fl_X12_224 (by decide) rfl rfl (by decide) ?_
          refine x_iload_n hg dX12_isRecalled_36 rfl ?_
          refine x_iaload (len := 30) hg dX12_isRecalled_37 (by decide) (by omega) ?_
          refine x_if_lt (tgt := 51) hg dX12_isRecalled_38 (by decide) (by have h1 := hF i.toNat (by omega); omega) (fun c38 => ?_) (fun c38 => ?_)
          · skip
            refine x_aload_n hg dX12_isRecalled_51 rfl ?_
            refine x_getR (j9 := 207) hg dX12_isRecalled_52 fl_X12_218 (by decide) rfl rfl (by decide) ?_
            refine x_iload_n hg dX12_isRecalled_55 rfl ?_
            refine x_iaload (len := 30) hg dX12_isRecalled_56 (by decide) (by omega) ?_
            refine x_aload_n hg dX12_isRecalled_57 rfl ?_
            refine x_getR (j9 := 205) hg dX12_isRecalled_58 fl_X12_212 (by decide) rfl rfl (by decide) ?_
            refine x_iload_n hg dX12_isRecalled_61 rfl ?_
            refine x_iaload (len := 40) hg dX12_isRecalled_62 (by decide) (by omega) ?_
            refine x_icmp_gt (tgt := 87) hg dX12_isRecalled_63 (by decide) (by have h1 := hF i.toNat (by omega); omega) (by omega) (fun c63 => ?_) (fun c63 => ?_)
            · skip
              refine x_iinc (ls' := [(0, _), (1, _), (2, _), (3, _)]) hg dX12_isRecalled_87 rfl (by decide) rfl ?_
              refine x_goto (tgt := 14) hg dX12_isRecalled_90 (by decide) ?_
              refine ih _ (by omega) (by omega) (by omega) hjk (fun a ha => ?_)
              by_cases hai : (a : Int) < i
              · exact hno a hai
              · have ea : a = i.toNat := by omega
                subst ea
                intro hcon
                obtain ⟨k1, k2, k3, k4⟩ := hcon
                first | omega | exact absurd k4 (by assumption)
            · skip
              refine x_aload_n hg dX12_isRecalled_66 rfl ?_
              refine x_getR (j9 := 204) hg dX12_isRecalled_67 fl_X12_209 (by decide) rfl rfl (by decide) ?_
              refine x_iload_n hg dX12_isRecalled_70 rfl ?_
              refine x_iaload (len := 40) hg dX12_isRecalled_71 (by decide) (by omega) ?_
              refine x_aload_n hg dX12_isRecalled_72 rfl ?_
              refine x_getR (j9 := 206) hg dX12_isRecalled_73 fl_X12_215 (by decide) rfl rfl (by decide) ?_
              refine x_iload_n hg dX12_isRecalled_76 rfl ?_
              refine x_iaload (len := 30) hg dX12_isRecalled_77 (by decide) (by omega) ?_
              refine x_ishr hg dX12_isRecalled_78 ?_
              refine x_iconst hg dX12_isRecalled_79 ?_
              refine x_iand hg dX12_isRecalled_80 ?_
              refine x_iconst hg dX12_isRecalled_81 ?_
              refine x_icmp_ne (tgt := 87) hg dX12_isRecalled_82 (by decide) (by exact xt_int _) (by omega) (fun c82 => ?_) (fun c82 => ?_)
              · skip
                refine x_iinc (ls' := [(0, _), (1, _), (2, _), (3, _)]) hg dX12_isRecalled_87 rfl (by decide) rfl ?_
                refine x_goto (tgt := 14) hg dX12_isRecalled_90 (by decide) ?_
                refine ih _ (by omega) (by omega) (by omega) hjk (fun a ha => ?_)
                by_cases hai : (a : Int) < i
                · exact hno a hai
                · have ea : a = i.toNat := by omega
                  subst ea
                  intro hcon
                  obtain ⟨k1, k2, k3, k4⟩ := hcon
                  first | omega | exact absurd k4 (by assumption)
              · skip
                refine x_iconst hg dX12_isRecalled_85 ?_
                refine x_iret hg hr (Or.inr ⟨rfl, by first | exact Or.inl rfl | exact Or.inr rfl | omega⟩) dX12_isRecalled_86 (Nat.le_refl _) (Nat.le_refl _) ?_
                exact ⟨rfl, rfl, _, rfl, rfl, Or.inl ⟨⟨hjk, i.toNat, by omega, by omega, by omega, by omega, by first | assumption | omega⟩, rfl⟩⟩
          · skip
            refine x_aload_n hg dX12_isRecalled_41 rfl ?_
            refine x_getR (j9 := 209) hg dX12_isRecalled_42 fl_X12_224 (by decide) rfl rfl (by decide) ?_
            refine x_iload_n hg dX12_isRecalled_45 rfl ?_
            refine x_iaload (len := 30) hg dX12_isRecalled_46 (by decide) (by omega) ?_
            refine x_iload_n hg dX12_isRecalled_47 rfl ?_
            refine x_icmp_le (tgt := 87) hg dX12_isRecalled_48 (by decide) (by have h1 := hF i.toNat (by omega); omega) (by omega) (fun c48 => ?_) (fun c48 => ?_)
            · skip
              refine x_iinc (ls' := [(0, _), (1, _), (2, _), (3, _)]) hg dX12_isRecalled_87 rfl (by decide) rfl ?_
              refine x_goto (tgt := 14) hg dX12_isRecalled_90 (by decide) ?_
              refine ih _ (by omega) (by omega) (by omega) hjk (fun a ha => ?_)
              by_cases hai : (a : Int) < i
              · exact hno a hai
              · have ea : a = i.toNat := by omega
                subst ea
                intro hcon
                obtain ⟨k1, k2, k3, k4⟩ := hcon
                first | omega | exact absurd k4 (by assumption)
            · skip
              refine x_aload_n hg dX12_isRecalled_51 rfl ?_
              refine x_getR (j9 := 207) hg dX12_isRecalled_52 fl_X12_218 (by decide) rfl rfl (by decide) ?_
              refine x_iload_n hg dX12_isRecalled_55 rfl ?_
              refine x_iaload (len := 30) hg dX12_isRecalled_56 (by decide) (by omega) ?_
              refine x_aload_n hg dX12_isRecalled_57 rfl ?_
              refine x_getR (j9 := 205) hg dX12_isRecalled_58 fl_X12_212 (by decide) rfl rfl (by decide) ?_
              refine x_iload_n hg dX12_isRecalled_61 rfl ?_
              refine x_iaload (len := 40) hg dX12_isRecalled_62 (by decide) (by omega) ?_
              refine x_icmp_gt (tgt := 87) hg dX12_isRecalled_63 (by decide) (by have h1 := hF i.toNat (by omega); omega) (by omega) (fun c63 => ?_) (fun c63 => ?_)
              · skip
                refine x_iinc (ls' := [(0, _), (1, _), (2, _), (3, _)]) hg dX12_isRecalled_87 rfl (by decide) rfl ?_
                refine x_goto (tgt := 14) hg dX12_isRecalled_90 (by decide) ?_
                refine ih _ (by omega) (by omega) (by omega) hjk (fun a ha => ?_)
                by_cases hai : (a : Int) < i
                · exact hno a hai
                · have ea : a = i.toNat := by omega
                  subst ea
                  intro hcon
                  obtain ⟨k1, k2, k3, k4⟩ := hcon
                  first | omega | exact absurd k4 (by assumption)
              · skip
                refine x_aload_n hg dX12_isRecalled_66 rfl ?_
                refine x_getR (j9 := 204) hg dX12_isRecalled_67 fl_X12_209 (by decide) rfl rfl (by decide) ?_
                refine x_iload_n hg dX12_isRecalled_70 rfl ?_
                refine x_iaload (len := 40) hg dX12_isRecalled_71 (by decide) (by omega) ?_
                refine x_aload_n hg dX12_isRecalled_72 rfl ?_
                refine x_getR (j9 := 206) hg dX12_isRecalled_73 fl_X12_215 (by decide) rfl rfl (by decide) ?_
                refine x_iload_n hg dX12_isRecalled_76 rfl ?_
                refine x_iaload (len := 30) hg dX12_isRecalled_77 (by decide) (by omega) ?_
                refine x_ishr hg dX12_isRecalled_78 ?_
                refine x_iconst hg dX12_isRecalled_79 ?_
                refine x_iand hg dX12_isRecalled_80 ?_
                refine x_iconst hg dX12_isRecalled_81 ?_
                refine x_icmp_ne (tgt := 87) hg dX12_isRecalled_82 (by decide) (by exact xt_int _) (by omega) (fun c82 => ?_) (fun c82 => ?_)
                · skip
                  refine x_iinc (ls' := [(0, _), (1, _), (2, _), (3, _)]) hg dX12_isRecalled_87 rfl (by decide) rfl ?_
                  refine x_goto (tgt := 14) hg dX12_isRecalled_90 (by decide) ?_
                  refine ih _ (by omega) (by omega) (by omega) hjk (fun a ha => ?_)
                  by_cases hai : (a : Int) < i
                  · exact hno a hai
                  · have ea : a = i.toNat := by omega
                    subst ea
                    intro hcon
                    obtain ⟨k1, k2, k3, k4⟩ := hcon
                    first | omega | exact absurd k4 (by assumption)
                · skip
                  refine x_iconst hg dX12_isRecalled_85 ?_
                  refine x_iret hg hr (Or.inr ⟨rfl, by first | exact Or.inl rfl | exact Or.inr rfl | omega⟩) dX12_isRecalled_86 (Nat.le_refl _) (Nat.le_refl _) ?_
                  exact ⟨rfl, rfl, _, rfl, rfl, Or.inl ⟨⟨hjk, i.toNat, by omega, by omega, by omega, by omega, by first | assumption | omega⟩, rfl⟩⟩
  refine x_aload_n hg dX12_isRecalled_0 rfl ?_
  refine x_getR (j9 := 205) hg dX12_isRecalled_1 fl_X12_212 (by decide) rfl rfl (by decide) ?_
  refine x_iload_n hg dX12_isRecalled_4 rfl ?_
  refine x_iaload (len := 40) hg dX12_isRecalled_5 (by decide) (by omega) ?_
  refine x_iload_n hg dX12_isRecalled_6 rfl ?_
  refine x_icmp_le (tgt := 12) hg dX12_isRecalled_7 (by decide) (by omega) (by omega) (fun c7 => ?_) (fun c7 => ?_)
  · skip
    refine x_iconst hg dX12_isRecalled_12 ?_
    refine x_istore_n (ls' := [(0, _), (1, _), (2, _), (3, _)]) hg dX12_isRecalled_13 rfl (by decide) rfl ?_
    exact loop ((M 172 57).toNat + 1) 0 (by omega) (by omega) (by omega) (by omega) (fun a ha => absurd ha (by omega))
  · skip
    refine x_iconst hg dX12_isRecalled_10 ?_
    refine x_iret hg hr (Or.inr ⟨rfl, by first | exact Or.inl rfl | exact Or.inr rfl | omega⟩) dX12_isRecalled_11 (Nat.le_refl _) (Nat.le_refl _) ?_
    exact ⟨rfl, rfl, _, rfl, rfl, Or.inr ⟨fun hp => absurd hp.1 (by omega), rfl⟩⟩

theorem dX12_recalled_0 : decode cX12_recalled 0 = .ok (.aload_n 0, 1) := by decide +kernel
theorem dX12_recalled_1 : decode cX12_recalled 1 = .ok (.iload_n 1, 1) := by decide +kernel
theorem dX12_recalled_2 : decode cX12_recalled 2 = .ok (.invokevirtual 330, 3) := by decide +kernel
theorem dX12_recalled_5 : decode cX12_recalled 5 = .ok (.ifCond .ne 7, 3) := by decide +kernel
theorem dX12_recalled_8 : decode cX12_recalled 8 = .ok (.iconst (-1), 1) := by decide +kernel
theorem dX12_recalled_9 : decode cX12_recalled 9 = .ok (.goto 17, 3) := by decide +kernel
theorem dX12_recalled_12 : decode cX12_recalled 12 = .ok (.aload_n 0, 1) := by decide +kernel
theorem dX12_recalled_13 : decode cX12_recalled 13 = .ok (.iload_n 1, 1) := by decide +kernel
theorem dX12_recalled_14 : decode cX12_recalled 14 = .ok (.iload_n 2, 1) := by decide +kernel
theorem dX12_recalled_15 : decode cX12_recalled 15 = .ok (.invokevirtual 336, 3) := by decide +kernel
theorem dX12_recalled_18 : decode cX12_recalled 18 = .ok (.ifCond .eq 7, 3) := by decide +kernel
theorem dX12_recalled_21 : decode cX12_recalled 21 = .ok (.iconst 1, 1) := by decide +kernel
theorem dX12_recalled_22 : decode cX12_recalled 22 = .ok (.goto 4, 3) := by decide +kernel
theorem dX12_recalled_25 : decode cX12_recalled 25 = .ok (.iconst 0, 1) := by decide +kernel
theorem dX12_recalled_26 : decode cX12_recalled 26 = .ok (.ireturn, 1) := by decide +kernel
set_option maxHeartbeats 4000000 in
set_option maxRecDepth 20000 in
theorem c_X12_recalled (l : Launch) (b : Nat) (D : va_G) (cy : Nat → ClassId) {tt : Nat} {M : xMm} {z k : Int} (hM : MO M) (hz : inR z) (hk : inR k) : xC l b D cy yX12_recalled cX12_recalled 3 (some .int) ({ frames := 1, cells := 0, slots := 0, locals := 23 }) [xr 172, xi z, xi k] 209 M (RS tt) (xPi 209 (RS tt) (fun r M' => M' = M ∧ ((0 ≤ z ∧ z < M 172 56) ∧ (pRC M z.toNat k ∧ r = 1 ∨ ¬ pRC M z.toNat k ∧ r = 0) ∨ ¬ (0 ≤ z ∧ z < M 172 56) ∧ r = -1))) := by
  refine x_met (by decide) (Nat.le_of_ble_eq_true rfl) (fun g hg hr he => ?_)
  have hM0 := hM
  obtain ⟨hn30, hn56, hn57, hn55, hn24, hC, hT, hB, hF⟩ := hM
  refine x_canon (ls' := [(0, _), (1, _), (2, _)]) rfl ?_
  refine x_aload_n hg dX12_recalled_0 rfl ?_
  refine x_iload_n hg dX12_recalled_1 rfl ?_
  refine x_cVi hg he [_] [] dX12_recalled_2 mv_X12_330 (c_X12_isBottling l b D cy (by omega) (by omega)) (by decide) rfl rfl (Nat.le_of_ble_eq_true rfl) (by decide) (by decide) (fun r2 M2 q2 => ?_)
  obtain ⟨h2, e2⟩ := q2
  replace h2 := h2.symm
  subst h2
  refine x_if_ne (tgt := 12) hg dX12_recalled_5 (by decide) (by omega) (fun c5 => ?_) (fun c5 => ?_)
  · skip
    refine x_aload_n hg dX12_recalled_12 rfl ?_
    refine x_iload_n hg dX12_recalled_13 rfl ?_
    refine x_iload_n hg dX12_recalled_14 rfl ?_
    refine x_cVi hg he [_, _] [] dX12_recalled_15 mv_X12_336 (c_X12_isRecalled l b D cy hM0 (by omega) (by omega)) (by decide) rfl rfl (Nat.le_of_ble_eq_true rfl) (by decide) (by decide) (fun r15 M15 q15 => ?_)
    obtain ⟨h15, e15⟩ := q15
    replace h15 := h15.symm
    subst h15
    have e15b : r15 = 0 ∨ r15 = 1 := by rcases e15 with ⟨-, h⟩ | ⟨-, h⟩ <;> omega
    refine x_if_eq (tgt := 25) hg dX12_recalled_18 (by decide) (by omega) (fun c18 => ?_) (fun c18 => ?_)
    · skip
      refine x_iconst hg dX12_recalled_25 ?_
      refine x_iret hg hr (Or.inl rfl) dX12_recalled_26 (Nat.le_refl _) (Nat.le_refl _) ?_
      refine ⟨rfl, rfl, _, rfl, rfl, ?_⟩
      first | exact Or.inr ⟨by omega, rfl⟩ | (refine Or.inl ⟨by omega, ?_⟩; rcases e15 with ⟨h, h2⟩ | ⟨h, h2⟩ <;> first | exact Or.inl ⟨h, rfl⟩ | exact Or.inr ⟨h, rfl⟩ | exact absurd h2 (by omega))
    · skip
      refine x_iconst hg dX12_recalled_21 ?_
      refine x_goto (tgt := 26) hg dX12_recalled_22 (by decide) ?_
      refine x_iret hg hr (Or.inl rfl) dX12_recalled_26 (Nat.le_refl _) (Nat.le_refl _) ?_
      refine ⟨rfl, rfl, _, rfl, rfl, ?_⟩
      first | exact Or.inr ⟨by omega, rfl⟩ | (refine Or.inl ⟨by omega, ?_⟩; rcases e15 with ⟨h, h2⟩ | ⟨h, h2⟩ <;> first | exact Or.inl ⟨h, rfl⟩ | exact Or.inr ⟨h, rfl⟩ | exact absurd h2 (by omega))
  · skip
    refine x_iconst hg dX12_recalled_8 ?_
    refine x_goto (tgt := 26) hg dX12_recalled_9 (by decide) ?_
    refine x_iret hg hr (Or.inl rfl) dX12_recalled_26 (Nat.le_refl _) (Nat.le_refl _) ?_
    refine ⟨rfl, rfl, _, rfl, rfl, ?_⟩
    first | exact Or.inr ⟨by omega, rfl⟩ | (refine Or.inl ⟨by omega, ?_⟩; rcases e15 with ⟨h, h2⟩ | ⟨h, h2⟩ <;> first | exact Or.inl ⟨h, rfl⟩ | exact Or.inr ⟨h, rfl⟩ | exact absurd h2 (by omega))

theorem dX12_recall_0 : decode cX12_recall 0 = .ok (.iconst 0, 1) := by decide +kernel
theorem dX12_recall_1 : decode cX12_recall 1 = .ok (.istore_n 2, 1) := by decide +kernel
theorem dX12_recall_2 : decode cX12_recall 2 = .ok (.iconst 0, 1) := by decide +kernel
theorem dX12_recall_3 : decode cX12_recall 3 = .ok (.istore_n 3, 1) := by decide +kernel
theorem dX12_recall_4 : decode cX12_recall 4 = .ok (.iload_n 3, 1) := by decide +kernel
theorem dX12_recall_5 : decode cX12_recall 5 = .ok (.aload_n 0, 1) := by decide +kernel
theorem dX12_recall_6 : decode cX12_recall 6 = .ok (.getfield 327, 3) := by decide +kernel
theorem dX12_recall_9 : decode cX12_recall 9 = .ok (.if_icmp .ge 31, 3) := by decide +kernel
theorem dX12_recall_12 : decode cX12_recall 12 = .ok (.iload_n 2, 1) := by decide +kernel
theorem dX12_recall_13 : decode cX12_recall 13 = .ok (.aload_n 0, 1) := by decide +kernel
theorem dX12_recall_14 : decode cX12_recall 14 = .ok (.iload_n 3, 1) := by decide +kernel
theorem dX12_recall_15 : decode cX12_recall 15 = .ok (.iload_n 1, 1) := by decide +kernel
theorem dX12_recall_16 : decode cX12_recall 16 = .ok (.invokevirtual 336, 3) := by decide +kernel
theorem dX12_recall_19 : decode cX12_recall 19 = .ok (.ifCond .eq 12, 3) := by decide +kernel
theorem dX12_recall_22 : decode cX12_recall 22 = .ok (.aload_n 0, 1) := by decide +kernel
theorem dX12_recall_23 : decode cX12_recall 23 = .ok (.getfield 206, 3) := by decide +kernel
theorem dX12_recall_26 : decode cX12_recall 26 = .ok (.iload_n 3, 1) := by decide +kernel
theorem dX12_recall_27 : decode cX12_recall 27 = .ok (.iaload, 1) := by decide +kernel
theorem dX12_recall_28 : decode cX12_recall 28 = .ok (.goto 4, 3) := by decide +kernel
theorem dX12_recall_31 : decode cX12_recall 31 = .ok (.iconst 0, 1) := by decide +kernel
theorem dX12_recall_32 : decode cX12_recall 32 = .ok (.iadd, 1) := by decide +kernel
theorem dX12_recall_33 : decode cX12_recall 33 = .ok (.istore_n 2, 1) := by decide +kernel
theorem dX12_recall_34 : decode cX12_recall 34 = .ok (.iinc 3 1, 3) := by decide +kernel
theorem dX12_recall_37 : decode cX12_recall 37 = .ok (.goto (-33), 3) := by decide +kernel
theorem dX12_recall_40 : decode cX12_recall 40 = .ok (.iload_n 2, 1) := by decide +kernel
theorem dX12_recall_41 : decode cX12_recall 41 = .ok (.ireturn, 1) := by decide +kernel
set_option maxHeartbeats 4000000 in
set_option maxRecDepth 20000 in
theorem c_X12_recall (l : Launch) (b : Nat) (D : va_G) (cy : Nat → ClassId) {tt : Nat} {M : xMm} {k : Int} (hM : MO M) (hk : inR k) : xC l b D cy yX12_recall cX12_recall 4 (some .int) ({ frames := 1, cells := 0, slots := 0, locals := 23 }) [xr 172, xi k] 209 M (RS tt) (xPi 209 (RS tt) (fun r M' => M' = M ∧ r = wRs M k (M 172 56).toNat)) := by
  refine x_met (by decide) (Nat.le_of_ble_eq_true rfl) (fun g hg hr he => ?_)
  have hM0 := hM
  obtain ⟨hn30, hn56, hn57, hn55, hn24, hC, hT, hB, hF⟩ := hM
  refine x_canon (ls' := [(0, _), (1, _)]) rfl ?_
  have hle := wRs_le (M := M) (k := k) (fun j hj => (hB j hj).1)
  have loop : ∀ (f : Nat) (i : Nat), (i : Int) ≤ M 172 56 → M 172 56 - i < f → xW g 209 M (RS tt) 0 0 4 [(0, xr 172), (1, xi k), (2, xi (wRs M k i)), (3, xi (i : Int))] [] := by
    intro f
    induction f with
    | zero => intro i h1 h2; exact absurd h2 (by omega)
    | succ f ih =>
      intro i hi2 hi3
      have hli := hle i (by omega)
      refine x_iload_n hg dX12_recall_4 rfl ?_
      refine x_aload_n hg dX12_recall_5 rfl ?_
      refine x_getI hg dX12_recall_6 fl_X12_327 (by decide) rfl ?_
      refine x_icmp_ge (tgt := 40) hg dX12_recall_9 (by decide) (by omega) (by omega) (fun c9 => ?_) (fun c9 => ?_)
      · skip
        refine x_iload_n hg dX12_recall_40 rfl ?_
        refine x_iret hg hr (Or.inl rfl) dX12_recall_41 (Nat.le_refl _) (Nat.le_refl _) ?_
        exact ⟨rfl, rfl, _, rfl, rfl, by rw [show i = (M 172 56).toNat by omega]⟩
      · skip
        refine x_iload_n hg dX12_recall_12 rfl ?_
        refine x_aload_n hg dX12_recall_13 rfl ?_
        refine x_iload_n hg dX12_recall_14 rfl ?_
        refine x_iload_n hg dX12_recall_15 rfl ?_
        refine x_cVi hg he [_, _] [_] dX12_recall_16 mv_X12_336 (c_X12_isRecalled l b D cy hM0 (by omega) (by omega)) (by decide) rfl rfl (Nat.le_of_ble_eq_true rfl) (by decide) (by decide) (fun r16 M16 q16 => ?_)
        obtain ⟨h16, e16⟩ := q16
        replace h16 := h16.symm
        subst h16
        simp only [Int.toNat_natCast] at e16
        have e16b : r16 = 0 ∨ r16 = 1 := by rcases e16 with ⟨-, h⟩ | ⟨-, h⟩ <;> omega
        refine x_if_eq (tgt := 31) hg dX12_recall_19 (by decide) (by omega) (fun c19 => ?_) (fun c19 => ?_)
        · skip
          refine x_iconst hg dX12_recall_31 ?_
          refine x_iadd hg dX12_recall_32 ?_
          refine x_istore_n (ls' := [(0, _), (1, _), (2, _), (3, _)]) hg dX12_recall_33 rfl (by decide) rfl ?_
          refine x_iinc (ls' := [(0, _), (1, _), (2, _), (3, _)]) hg dX12_recall_34 rfl (by decide) rfl ?_
          refine x_goto (tgt := 4) hg dX12_recall_37 (by decide) ?_
          have hn := ih (i + 1) (by omega) (by omega)
          rcases e16 with ⟨hcb, h2⟩ | ⟨hcb, h2⟩
          · rw [wRs_y hcb] at hn
            first | (simp only [Int.toNat_natCast, Int.natCast_add, Int.natCast_one] at hn ⊢; exact hn) | exact absurd h2 (by omega)
          · rw [wRs_n hcb] at hn
            first | (simp only [Int.toNat_natCast, Int.natCast_add, Int.natCast_one] at hn ⊢; exact hn) | exact absurd h2 (by omega)
        · skip
          refine x_aload_n hg dX12_recall_22 rfl ?_
          refine x_getR (j9 := 203) hg dX12_recall_23 fl_X12_206 (by decide) rfl rfl (by decide) ?_
          refine x_iload_n hg dX12_recall_26 rfl ?_
          refine x_iaload (len := 40) hg dX12_recall_27 (by decide) (by omega) ?_
          refine x_goto (tgt := 32) hg dX12_recall_28 (by decide) ?_
          refine x_iadd hg dX12_recall_32 ?_
          refine x_istore_n (ls' := [(0, _), (1, _), (2, _), (3, _)]) hg dX12_recall_33 rfl (by decide) rfl ?_
          refine x_iinc (ls' := [(0, _), (1, _), (2, _), (3, _)]) hg dX12_recall_34 rfl (by decide) rfl ?_
          refine x_goto (tgt := 4) hg dX12_recall_37 (by decide) ?_
          have hn := ih (i + 1) (by omega) (by omega)
          rcases e16 with ⟨hcb, h2⟩ | ⟨hcb, h2⟩
          · rw [wRs_y hcb] at hn
            first | (simp only [Int.toNat_natCast, Int.natCast_add, Int.natCast_one] at hn ⊢; exact hn) | exact absurd h2 (by omega)
          · rw [wRs_n hcb] at hn
            first | (simp only [Int.toNat_natCast, Int.natCast_add, Int.natCast_one] at hn ⊢; exact hn) | exact absurd h2 (by omega)
  refine x_iconst hg dX12_recall_0 ?_
  refine x_istore_n (ls' := [(0, _), (1, _), (2, _)]) hg dX12_recall_1 rfl (by decide) rfl ?_
  refine x_iconst hg dX12_recall_2 ?_
  refine x_istore_n (ls' := [(0, _), (1, _), (2, _), (3, _)]) hg dX12_recall_3 rfl (by decide) rfl ?_
  exact loop ((M 172 56).toNat + 1) 0 (by omega) (by omega)

theorem dX12_fault_0 : decode cX12_fault 0 = .ok (.iload_n 1, 1) := by decide +kernel
theorem dX12_fault_1 : decode cX12_fault 1 = .ok (.ifCond .ne 10, 3) := by decide +kernel
theorem dX12_fault_4 : decode cX12_fault 4 = .ok (.aload_n 0, 1) := by decide +kernel
theorem dX12_fault_5 : decode cX12_fault 5 = .ok (.getfield 11, 3) := by decide +kernel
theorem dX12_fault_8 : decode cX12_fault 8 = .ok (.goto 16, 3) := by decide +kernel
theorem dX12_fault_11 : decode cX12_fault 11 = .ok (.iload_n 1, 1) := by decide +kernel
theorem dX12_fault_12 : decode cX12_fault 12 = .ok (.iconst 1, 1) := by decide +kernel
theorem dX12_fault_13 : decode cX12_fault 13 = .ok (.if_icmp .ne 10, 3) := by decide +kernel
theorem dX12_fault_16 : decode cX12_fault 16 = .ok (.aload_n 0, 1) := by decide +kernel
theorem dX12_fault_17 : decode cX12_fault 17 = .ok (.getfield 14, 3) := by decide +kernel
theorem dX12_fault_20 : decode cX12_fault 20 = .ok (.goto 4, 3) := by decide +kernel
theorem dX12_fault_23 : decode cX12_fault 23 = .ok (.iconst (-1), 1) := by decide +kernel
theorem dX12_fault_24 : decode cX12_fault 24 = .ok (.ireturn, 1) := by decide +kernel
set_option maxHeartbeats 4000000 in
set_option maxRecDepth 20000 in
theorem c_X12_fault (l : Launch) (b : Nat) (D : va_G) (cy : Nat → ClassId) {tt : Nat} {M : xMm} {z : Int} (hz : inR z) : xC l b D cy yX12_fault cX12_fault 2 (some .int) ({ frames := 0, cells := 0, slots := 0, locals := 0 }) [xr 172, xi z] 209 M (RS tt) (xPi 209 (RS tt) (fun r M' => M' = M)) := by
  refine x_met (by decide) (Nat.le_of_ble_eq_true rfl) (fun g hg hr he => ?_)
  refine x_canon (ls' := [(0, _), (1, _)]) rfl ?_
  refine x_iload_n hg dX12_fault_0 rfl ?_
  refine x_if_ne (tgt := 11) hg dX12_fault_1 (by decide) (by omega) (fun c1 => ?_) (fun c1 => ?_)
  · skip
    refine x_iload_n hg dX12_fault_11 rfl ?_
    refine x_iconst hg dX12_fault_12 ?_
    refine x_icmp_ne (tgt := 23) hg dX12_fault_13 (by decide) (by omega) (by omega) (fun c13 => ?_) (fun c13 => ?_)
    · skip
      refine x_iconst hg dX12_fault_23 ?_
      refine x_iret hg hr (Or.inl rfl) dX12_fault_24 (Nat.le_refl _) (Nat.le_refl _) ?_
      exact ⟨rfl, rfl, _, rfl, rfl⟩
    · skip
      refine x_aload_n hg dX12_fault_16 rfl ?_
      refine x_getI hg dX12_fault_17 fl_X12_14 (by decide) rfl ?_
      refine x_goto (tgt := 24) hg dX12_fault_20 (by decide) ?_
      refine x_iret hg hr (Or.inl rfl) dX12_fault_24 (Nat.le_refl _) (Nat.le_refl _) ?_
      exact ⟨rfl, rfl, _, rfl, rfl⟩
  · skip
    refine x_aload_n hg dX12_fault_4 rfl ?_
    refine x_getI hg dX12_fault_5 fl_X12_11 (by decide) rfl ?_
    refine x_goto (tgt := 24) hg dX12_fault_8 (by decide) ?_
    refine x_iret hg hr (Or.inl rfl) dX12_fault_24 (Nat.le_refl _) (Nat.le_refl _) ?_
    exact ⟨rfl, rfl, _, rfl, rfl⟩

theorem dX12_about_0 : decode cX12_about 0 = .ok (.iload_n 1, 1) := by decide +kernel
theorem dX12_about_1 : decode cX12_about 1 = .ok (.tableswitch 83 0 6 #[43, 48, 58, 63, 68, 73, 78], 43) := by decide +kernel
theorem dX12_about_44 : decode cX12_about 44 = .ok (.aload_n 0, 1) := by decide +kernel
theorem dX12_about_45 : decode cX12_about 45 = .ok (.getfield 314, 3) := by decide +kernel
theorem dX12_about_48 : decode cX12_about 48 = .ok (.ireturn, 1) := by decide +kernel
theorem dX12_about_49 : decode cX12_about 49 = .ok (.aload_n 0, 1) := by decide +kernel
theorem dX12_about_50 : decode cX12_about 50 = .ok (.getfield 81, 3) := by decide +kernel
theorem dX12_about_53 : decode cX12_about 53 = .ok (.aload_n 0, 1) := by decide +kernel
theorem dX12_about_54 : decode cX12_about 54 = .ok (.getfield 75, 3) := by decide +kernel
theorem dX12_about_57 : decode cX12_about 57 = .ok (.iaload, 1) := by decide +kernel
theorem dX12_about_58 : decode cX12_about 58 = .ok (.ireturn, 1) := by decide +kernel
theorem dX12_about_59 : decode cX12_about 59 = .ok (.aload_n 0, 1) := by decide +kernel
theorem dX12_about_60 : decode cX12_about 60 = .ok (.getfield 234, 3) := by decide +kernel
theorem dX12_about_63 : decode cX12_about 63 = .ok (.ireturn, 1) := by decide +kernel
theorem dX12_about_64 : decode cX12_about 64 = .ok (.aload_n 0, 1) := by decide +kernel
theorem dX12_about_65 : decode cX12_about 65 = .ok (.getfield 327, 3) := by decide +kernel
theorem dX12_about_68 : decode cX12_about 68 = .ok (.ireturn, 1) := by decide +kernel
theorem dX12_about_69 : decode cX12_about 69 = .ok (.aload_n 0, 1) := by decide +kernel
theorem dX12_about_70 : decode cX12_about 70 = .ok (.getfield 333, 3) := by decide +kernel
theorem dX12_about_73 : decode cX12_about 73 = .ok (.ireturn, 1) := by decide +kernel
theorem dX12_about_74 : decode cX12_about 74 = .ok (.aload_n 0, 1) := by decide +kernel
theorem dX12_about_75 : decode cX12_about 75 = .ok (.getfield 69, 3) := by decide +kernel
theorem dX12_about_78 : decode cX12_about 78 = .ok (.ireturn, 1) := by decide +kernel
theorem dX12_about_79 : decode cX12_about 79 = .ok (.aload_n 0, 1) := by decide +kernel
theorem dX12_about_80 : decode cX12_about 80 = .ok (.getfield 152, 3) := by decide +kernel
theorem dX12_about_83 : decode cX12_about 83 = .ok (.ireturn, 1) := by decide +kernel
theorem dX12_about_84 : decode cX12_about 84 = .ok (.iconst (-1), 1) := by decide +kernel
theorem dX12_about_85 : decode cX12_about 85 = .ok (.ireturn, 1) := by decide +kernel
set_option maxHeartbeats 4000000 in
set_option maxRecDepth 20000 in
theorem c_X12_about (l : Launch) (b : Nat) (D : va_G) (cy : Nat → ClassId) {tt : Nat} {M : xMm} {z : Int} (hz : inR z) (hbk : 0 ≤ M 172 18 ∧ M 172 18 ≤ 1) : xC l b D cy yX12_about cX12_about 2 (some .int) ({ frames := 0, cells := 0, slots := 0, locals := 0 }) [xr 172, xi z] 209 M (RS tt) (xPi 209 (RS tt) (fun r M' => M' = M)) := by
  refine x_met (by decide) (Nat.le_of_ble_eq_true rfl) (fun g hg hr he => ?_)
  refine x_canon (ls' := [(0, _), (1, _)]) rfl ?_
  refine x_iload_n hg dX12_about_0 rfl ?_
  refine x_int_cases 0 6 (fun hsw1 => ?_) (fun h1sw1 h2sw1 => ?_)
  · refine x_tableOut (tgt := 84) hg dX12_about_1 (by omega) hsw1 (by decide) ?_
    refine x_iconst hg dX12_about_84 ?_
    refine x_iret hg hr (Or.inl rfl) dX12_about_85 (Nat.le_refl _) (Nat.le_refl _) ?_
    exact ⟨rfl, rfl, _, rfl, rfl⟩
  · refine x_sw7 h1sw1 h2sw1 (fun e1 => ?_) (fun e1 => ?_) (fun e1 => ?_) (fun e1 => ?_) (fun e1 => ?_) (fun e1 => ?_) (fun e1 => ?_)
    · refine x_tableIn (off := 43) (tgt := 44) hg dX12_about_1 (by omega) h1sw1 h2sw1 (by rw [e1]; rfl) (by decide) ?_
      refine x_aload_n hg dX12_about_44 rfl ?_
      refine x_getI hg dX12_about_45 fl_X12_314 (by decide) rfl ?_
      refine x_iret hg hr (Or.inl rfl) dX12_about_48 (Nat.le_refl _) (Nat.le_refl _) ?_
      exact ⟨rfl, rfl, _, rfl, rfl⟩
    · refine x_tableIn (off := 48) (tgt := 49) hg dX12_about_1 (by omega) h1sw1 h2sw1 (by rw [e1]; rfl) (by decide) ?_
      refine x_aload_n hg dX12_about_49 rfl ?_
      refine x_getR (j9 := 180) hg dX12_about_50 fl_X12_81 (by decide) rfl rfl (by decide) ?_
      refine x_aload_n hg dX12_about_53 rfl ?_
      refine x_getI hg dX12_about_54 fl_X12_75 (by decide) rfl ?_
      refine x_iaload (len := 2) hg dX12_about_57 (by decide) (by omega) ?_
      refine x_iret hg hr (Or.inl rfl) dX12_about_58 (Nat.le_refl _) (Nat.le_refl _) ?_
      exact ⟨rfl, rfl, _, rfl, rfl⟩
    · refine x_tableIn (off := 58) (tgt := 59) hg dX12_about_1 (by omega) h1sw1 h2sw1 (by rw [e1]; rfl) (by decide) ?_
      refine x_aload_n hg dX12_about_59 rfl ?_
      refine x_getI hg dX12_about_60 fl_X12_234 (by decide) rfl ?_
      refine x_iret hg hr (Or.inl rfl) dX12_about_63 (Nat.le_refl _) (Nat.le_refl _) ?_
      exact ⟨rfl, rfl, _, rfl, rfl⟩
    · refine x_tableIn (off := 63) (tgt := 64) hg dX12_about_1 (by omega) h1sw1 h2sw1 (by rw [e1]; rfl) (by decide) ?_
      refine x_aload_n hg dX12_about_64 rfl ?_
      refine x_getI hg dX12_about_65 fl_X12_327 (by decide) rfl ?_
      refine x_iret hg hr (Or.inl rfl) dX12_about_68 (Nat.le_refl _) (Nat.le_refl _) ?_
      exact ⟨rfl, rfl, _, rfl, rfl⟩
    · refine x_tableIn (off := 68) (tgt := 69) hg dX12_about_1 (by omega) h1sw1 h2sw1 (by rw [e1]; rfl) (by decide) ?_
      refine x_aload_n hg dX12_about_69 rfl ?_
      refine x_getI hg dX12_about_70 fl_X12_333 (by decide) rfl ?_
      refine x_iret hg hr (Or.inl rfl) dX12_about_73 (Nat.le_refl _) (Nat.le_refl _) ?_
      exact ⟨rfl, rfl, _, rfl, rfl⟩
    · refine x_tableIn (off := 73) (tgt := 74) hg dX12_about_1 (by omega) h1sw1 h2sw1 (by rw [e1]; rfl) (by decide) ?_
      refine x_aload_n hg dX12_about_74 rfl ?_
      refine x_getI hg dX12_about_75 fl_X12_69 (by decide) rfl ?_
      refine x_iret hg hr (Or.inl rfl) dX12_about_78 (Nat.le_refl _) (Nat.le_refl _) ?_
      exact ⟨rfl, rfl, _, rfl, rfl⟩
    · refine x_tableIn (off := 78) (tgt := 79) hg dX12_about_1 (by omega) h1sw1 h2sw1 (by rw [e1]; rfl) (by decide) ?_
      refine x_aload_n hg dX12_about_79 rfl ?_
      refine x_getI hg dX12_about_80 fl_X12_152 (by decide) rfl ?_
      refine x_iret hg hr (Or.inl rfl) dX12_about_83 (Nat.le_refl _) (Nat.le_refl _) ?_
      exact ⟨rfl, rfl, _, rfl, rfl⟩
