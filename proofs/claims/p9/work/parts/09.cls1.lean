theorem dX11_isFarm_0 : decode cX11_isFarm 0 = .ok (.iload_n 0, 1) := by decide +kernel
theorem dX11_isFarm_1 : decode cX11_isFarm 1 = .ok (.ifCond .lt 13, 3) := by decide +kernel
theorem dX11_isFarm_4 : decode cX11_isFarm 4 = .ok (.iload_n 0, 1) := by decide +kernel
theorem dX11_isFarm_5 : decode cX11_isFarm 5 = .ok (.bipush 12, 2) := by decide +kernel
theorem dX11_isFarm_7 : decode cX11_isFarm 7 = .ok (.if_icmp .ge 7, 3) := by decide +kernel
theorem dX11_isFarm_10 : decode cX11_isFarm 10 = .ok (.iconst 1, 1) := by decide +kernel
theorem dX11_isFarm_11 : decode cX11_isFarm 11 = .ok (.goto 4, 3) := by decide +kernel
theorem dX11_isFarm_14 : decode cX11_isFarm 14 = .ok (.iconst 0, 1) := by decide +kernel
theorem dX11_isFarm_15 : decode cX11_isFarm 15 = .ok (.ireturn, 1) := by decide +kernel
set_option maxHeartbeats 4000000 in
set_option maxRecDepth 20000 in
theorem c_X11_isFarm (l : Launch) (b : Nat) (D : va_G) (cy : Nat → ClassId) {tt : Nat} {M : xMm} {z : Int} (hz : inR z) : xC l b D cy yX11_isFarm cX11_isFarm 1 (some .boolean) ({ frames := 0, cells := 0, slots := 0, locals := 0 }) [xi z] 209 M (RS tt) (xPi 209 (RS tt) (fun r M' => M' = M ∧ ((0 ≤ z ∧ z < 12) ∧ r = 1 ∨ ¬ (0 ≤ z ∧ z < 12) ∧ r = 0))) := by
  refine x_met (by decide) (Nat.le_of_ble_eq_true rfl) (fun g hg hr he => ?_)
  refine x_canon (ls' := [(0, _)]) rfl ?_
  refine x_iload_n hg dX11_isFarm_0 rfl ?_
  refine x_if_lt (tgt := 14) hg dX11_isFarm_1 (by decide) (by omega) (fun c1 => ?_) (fun c1 => ?_)
  · skip
    refine x_iconst hg dX11_isFarm_14 ?_
    refine x_iret hg hr (Or.inr ⟨rfl, by first | exact Or.inl rfl | exact Or.inr rfl | omega⟩) dX11_isFarm_15 (Nat.le_refl _) (Nat.le_refl _) ?_
    exact ⟨rfl, rfl, _, rfl, rfl, by omega⟩
  · skip
    refine x_iload_n hg dX11_isFarm_4 rfl ?_
    refine x_bipush hg dX11_isFarm_5 (by decide) ?_
    refine x_icmp_ge (tgt := 14) hg dX11_isFarm_7 (by decide) (by omega) (by omega) (fun c7 => ?_) (fun c7 => ?_)
    · skip
      refine x_iconst hg dX11_isFarm_14 ?_
      refine x_iret hg hr (Or.inr ⟨rfl, by first | exact Or.inl rfl | exact Or.inr rfl | omega⟩) dX11_isFarm_15 (Nat.le_refl _) (Nat.le_refl _) ?_
      exact ⟨rfl, rfl, _, rfl, rfl, by omega⟩
    · skip
      refine x_iconst hg dX11_isFarm_10 ?_
      refine x_goto (tgt := 15) hg dX11_isFarm_11 (by decide) ?_
      refine x_iret hg hr (Or.inr ⟨rfl, by first | exact Or.inl rfl | exact Or.inr rfl | omega⟩) dX11_isFarm_15 (Nat.le_refl _) (Nat.le_refl _) ?_
      exact ⟨rfl, rfl, _, rfl, rfl, by omega⟩

theorem dX11_isTank_0 : decode cX11_isTank 0 = .ok (.iload_n 0, 1) := by decide +kernel
theorem dX11_isTank_1 : decode cX11_isTank 1 = .ok (.ifCond .lt 12, 3) := by decide +kernel
theorem dX11_isTank_4 : decode cX11_isTank 4 = .ok (.iload_n 0, 1) := by decide +kernel
theorem dX11_isTank_5 : decode cX11_isTank 5 = .ok (.iconst 4, 1) := by decide +kernel
theorem dX11_isTank_6 : decode cX11_isTank 6 = .ok (.if_icmp .ge 7, 3) := by decide +kernel
theorem dX11_isTank_9 : decode cX11_isTank 9 = .ok (.iconst 1, 1) := by decide +kernel
theorem dX11_isTank_10 : decode cX11_isTank 10 = .ok (.goto 4, 3) := by decide +kernel
theorem dX11_isTank_13 : decode cX11_isTank 13 = .ok (.iconst 0, 1) := by decide +kernel
theorem dX11_isTank_14 : decode cX11_isTank 14 = .ok (.ireturn, 1) := by decide +kernel
set_option maxHeartbeats 4000000 in
set_option maxRecDepth 20000 in
theorem c_X11_isTank (l : Launch) (b : Nat) (D : va_G) (cy : Nat → ClassId) {tt : Nat} {M : xMm} {z : Int} (hz : inR z) : xC l b D cy yX11_isTank cX11_isTank 1 (some .boolean) ({ frames := 0, cells := 0, slots := 0, locals := 0 }) [xi z] 209 M (RS tt) (xPi 209 (RS tt) (fun r M' => M' = M ∧ ((0 ≤ z ∧ z < 4) ∧ r = 1 ∨ ¬ (0 ≤ z ∧ z < 4) ∧ r = 0))) := by
  refine x_met (by decide) (Nat.le_of_ble_eq_true rfl) (fun g hg hr he => ?_)
  refine x_canon (ls' := [(0, _)]) rfl ?_
  refine x_iload_n hg dX11_isTank_0 rfl ?_
  refine x_if_lt (tgt := 13) hg dX11_isTank_1 (by decide) (by omega) (fun c1 => ?_) (fun c1 => ?_)
  · skip
    refine x_iconst hg dX11_isTank_13 ?_
    refine x_iret hg hr (Or.inr ⟨rfl, by first | exact Or.inl rfl | exact Or.inr rfl | omega⟩) dX11_isTank_14 (Nat.le_refl _) (Nat.le_refl _) ?_
    exact ⟨rfl, rfl, _, rfl, rfl, by omega⟩
  · skip
    refine x_iload_n hg dX11_isTank_4 rfl ?_
    refine x_iconst hg dX11_isTank_5 ?_
    refine x_icmp_ge (tgt := 13) hg dX11_isTank_6 (by decide) (by omega) (by omega) (fun c6 => ?_) (fun c6 => ?_)
    · skip
      refine x_iconst hg dX11_isTank_13 ?_
      refine x_iret hg hr (Or.inr ⟨rfl, by first | exact Or.inl rfl | exact Or.inr rfl | omega⟩) dX11_isTank_14 (Nat.le_refl _) (Nat.le_refl _) ?_
      exact ⟨rfl, rfl, _, rfl, rfl, by omega⟩
    · skip
      refine x_iconst hg dX11_isTank_9 ?_
      refine x_goto (tgt := 14) hg dX11_isTank_10 (by decide) ?_
      refine x_iret hg hr (Or.inr ⟨rfl, by first | exact Or.inl rfl | exact Or.inr rfl | omega⟩) dX11_isTank_14 (Nat.le_refl _) (Nat.le_refl _) ?_
      exact ⟨rfl, rfl, _, rfl, rfl, by omega⟩

theorem dX11_isChurn_0 : decode cX11_isChurn 0 = .ok (.iload_n 1, 1) := by decide +kernel
theorem dX11_isChurn_1 : decode cX11_isChurn 1 = .ok (.ifCond .lt 15, 3) := by decide +kernel
theorem dX11_isChurn_4 : decode cX11_isChurn 4 = .ok (.iload_n 1, 1) := by decide +kernel
theorem dX11_isChurn_5 : decode cX11_isChurn 5 = .ok (.aload_n 0, 1) := by decide +kernel
theorem dX11_isChurn_6 : decode cX11_isChurn 6 = .ok (.getfield 162, 3) := by decide +kernel
theorem dX11_isChurn_9 : decode cX11_isChurn 9 = .ok (.if_icmp .ge 7, 3) := by decide +kernel
theorem dX11_isChurn_12 : decode cX11_isChurn 12 = .ok (.iconst 1, 1) := by decide +kernel
theorem dX11_isChurn_13 : decode cX11_isChurn 13 = .ok (.goto 4, 3) := by decide +kernel
theorem dX11_isChurn_16 : decode cX11_isChurn 16 = .ok (.iconst 0, 1) := by decide +kernel
theorem dX11_isChurn_17 : decode cX11_isChurn 17 = .ok (.ireturn, 1) := by decide +kernel
set_option maxHeartbeats 4000000 in
set_option maxRecDepth 20000 in
theorem c_X11_isChurn (l : Launch) (b : Nat) (D : va_G) (cy : Nat → ClassId) {tt : Nat} {M : xMm} {z : Int} (hz : inR z) (hM : inR (M 1 10)) : xC l b D cy yX11_isChurn cX11_isChurn 2 (some .boolean) ({ frames := 0, cells := 0, slots := 0, locals := 0 }) [xr 1, xi z] 209 M (RS tt) (xPi 209 (RS tt) (fun r M' => M' = M ∧ ((0 ≤ z ∧ z < M 1 10) ∧ r = 1 ∨ ¬ (0 ≤ z ∧ z < M 1 10) ∧ r = 0))) := by
  refine x_met (by decide) (Nat.le_of_ble_eq_true rfl) (fun g hg hr he => ?_)
  refine x_canon (ls' := [(0, _), (1, _)]) rfl ?_
  refine x_iload_n hg dX11_isChurn_0 rfl ?_
  refine x_if_lt (tgt := 16) hg dX11_isChurn_1 (by decide) (by omega) (fun c1 => ?_) (fun c1 => ?_)
  · skip
    refine x_iconst hg dX11_isChurn_16 ?_
    refine x_iret hg hr (Or.inr ⟨rfl, by first | exact Or.inl rfl | exact Or.inr rfl | omega⟩) dX11_isChurn_17 (Nat.le_refl _) (Nat.le_refl _) ?_
    exact ⟨rfl, rfl, _, rfl, rfl, by omega⟩
  · skip
    refine x_iload_n hg dX11_isChurn_4 rfl ?_
    refine x_aload_n hg dX11_isChurn_5 rfl ?_
    refine x_getI hg dX11_isChurn_6 fl_X11_162 (by decide) rfl ?_
    refine x_icmp_ge (tgt := 16) hg dX11_isChurn_9 (by decide) (by omega) (by omega) (fun c9 => ?_) (fun c9 => ?_)
    · skip
      refine x_iconst hg dX11_isChurn_16 ?_
      refine x_iret hg hr (Or.inr ⟨rfl, by first | exact Or.inl rfl | exact Or.inr rfl | omega⟩) dX11_isChurn_17 (Nat.le_refl _) (Nat.le_refl _) ?_
      exact ⟨rfl, rfl, _, rfl, rfl, by omega⟩
    · skip
      refine x_iconst hg dX11_isChurn_12 ?_
      refine x_goto (tgt := 17) hg dX11_isChurn_13 (by decide) ?_
      refine x_iret hg hr (Or.inr ⟨rfl, by first | exact Or.inl rfl | exact Or.inr rfl | omega⟩) dX11_isChurn_17 (Nat.le_refl _) (Nat.le_refl _) ?_
      exact ⟨rfl, rfl, _, rfl, rfl, by omega⟩

theorem dX11_isBottling_0 : decode cX11_isBottling 0 = .ok (.iload_n 1, 1) := by decide +kernel
theorem dX11_isBottling_1 : decode cX11_isBottling 1 = .ok (.ifCond .lt 15, 3) := by decide +kernel
theorem dX11_isBottling_4 : decode cX11_isBottling 4 = .ok (.iload_n 1, 1) := by decide +kernel
theorem dX11_isBottling_5 : decode cX11_isBottling 5 = .ok (.aload_n 0, 1) := by decide +kernel
theorem dX11_isBottling_6 : decode cX11_isBottling 6 = .ok (.getfield 234, 3) := by decide +kernel
theorem dX11_isBottling_9 : decode cX11_isBottling 9 = .ok (.if_icmp .ge 7, 3) := by decide +kernel
theorem dX11_isBottling_12 : decode cX11_isBottling 12 = .ok (.iconst 1, 1) := by decide +kernel
theorem dX11_isBottling_13 : decode cX11_isBottling 13 = .ok (.goto 4, 3) := by decide +kernel
theorem dX11_isBottling_16 : decode cX11_isBottling 16 = .ok (.iconst 0, 1) := by decide +kernel
theorem dX11_isBottling_17 : decode cX11_isBottling 17 = .ok (.ireturn, 1) := by decide +kernel
set_option maxHeartbeats 4000000 in
set_option maxRecDepth 20000 in
theorem c_X11_isBottling (l : Launch) (b : Nat) (D : va_G) (cy : Nat → ClassId) {tt : Nat} {M : xMm} {z : Int} (hz : inR z) (hM : inR (M 1 13)) : xC l b D cy yX11_isBottling cX11_isBottling 2 (some .boolean) ({ frames := 0, cells := 0, slots := 0, locals := 0 }) [xr 1, xi z] 209 M (RS tt) (xPi 209 (RS tt) (fun r M' => M' = M ∧ ((0 ≤ z ∧ z < M 1 13) ∧ r = 1 ∨ ¬ (0 ≤ z ∧ z < M 1 13) ∧ r = 0))) := by
  refine x_met (by decide) (Nat.le_of_ble_eq_true rfl) (fun g hg hr he => ?_)
  refine x_canon (ls' := [(0, _), (1, _)]) rfl ?_
  refine x_iload_n hg dX11_isBottling_0 rfl ?_
  refine x_if_lt (tgt := 16) hg dX11_isBottling_1 (by decide) (by omega) (fun c1 => ?_) (fun c1 => ?_)
  · skip
    refine x_iconst hg dX11_isBottling_16 ?_
    refine x_iret hg hr (Or.inr ⟨rfl, by first | exact Or.inl rfl | exact Or.inr rfl | omega⟩) dX11_isBottling_17 (Nat.le_refl _) (Nat.le_refl _) ?_
    exact ⟨rfl, rfl, _, rfl, rfl, by omega⟩
  · skip
    refine x_iload_n hg dX11_isBottling_4 rfl ?_
    refine x_aload_n hg dX11_isBottling_5 rfl ?_
    refine x_getI hg dX11_isBottling_6 fl_X11_234 (by decide) rfl ?_
    refine x_icmp_ge (tgt := 16) hg dX11_isBottling_9 (by decide) (by omega) (by omega) (fun c9 => ?_) (fun c9 => ?_)
    · skip
      refine x_iconst hg dX11_isBottling_16 ?_
      refine x_iret hg hr (Or.inr ⟨rfl, by first | exact Or.inl rfl | exact Or.inr rfl | omega⟩) dX11_isBottling_17 (Nat.le_refl _) (Nat.le_refl _) ?_
      exact ⟨rfl, rfl, _, rfl, rfl, by omega⟩
    · skip
      refine x_iconst hg dX11_isBottling_12 ?_
      refine x_goto (tgt := 17) hg dX11_isBottling_13 (by decide) ?_
      refine x_iret hg hr (Or.inr ⟨rfl, by first | exact Or.inl rfl | exact Or.inr rfl | omega⟩) dX11_isBottling_17 (Nat.le_refl _) (Nat.le_refl _) ?_
      exact ⟨rfl, rfl, _, rfl, rfl, by omega⟩

theorem dX11_limit_0 : decode cX11_limit 0 = .ok (.iload_n 1, 1) := by decide +kernel
theorem dX11_limit_1 : decode cX11_limit 1 = .ok (.iconst 1, 1) := by decide +kernel
theorem dX11_limit_2 : decode cX11_limit 2 = .ok (.if_icmp .lt 9, 3) := by decide +kernel
theorem dX11_limit_5 : decode cX11_limit 5 = .ok (.iload_n 1, 1) := by decide +kernel
theorem dX11_limit_6 : decode cX11_limit 6 = .ok (.ldc 158, 2) := by decide +kernel
theorem dX11_limit_8 : decode cX11_limit 8 = .ok (.if_icmp .le 5, 3) := by decide +kernel
theorem dX11_limit_11 : decode cX11_limit 11 = .ok (.iconst 0, 1) := by decide +kernel
theorem dX11_limit_12 : decode cX11_limit 12 = .ok (.ireturn, 1) := by decide +kernel
theorem dX11_limit_13 : decode cX11_limit 13 = .ok (.aload_n 0, 1) := by decide +kernel
theorem dX11_limit_14 : decode cX11_limit 14 = .ok (.iload_n 1, 1) := by decide +kernel
theorem dX11_limit_15 : decode cX11_limit 15 = .ok (.putfield 64, 3) := by decide +kernel
theorem dX11_limit_18 : decode cX11_limit 18 = .ok (.aload_n 0, 1) := by decide +kernel
theorem dX11_limit_19 : decode cX11_limit 19 = .ok (.iconst 1, 1) := by decide +kernel
theorem dX11_limit_20 : decode cX11_limit 20 = .ok (.putfield 60, 3) := by decide +kernel
theorem dX11_limit_23 : decode cX11_limit 23 = .ok (.iconst 1, 1) := by decide +kernel
theorem dX11_limit_24 : decode cX11_limit 24 = .ok (.ireturn, 1) := by decide +kernel
set_option maxHeartbeats 4000000 in
set_option maxRecDepth 20000 in
theorem c_X11_limit (l : Launch) (b : Nat) (D : va_G) (cy : Nat → ClassId) {tt : Nat} {M : xMm} {z : Int} (hz : inR z) : xC l b D cy yX11_limit cX11_limit 2 (some .boolean) ({ frames := 0, cells := 0, slots := 0, locals := 0 }) [xr 1, xi z] 209 M (RS tt) (xPi 209 (RS tt) (fun r M' => ((1 ≤ z ∧ z ≤ 100000) ∧ r = 1 ∧ M' = mu (mu M 1 8 z) 1 7 1) ∨ (¬ (1 ≤ z ∧ z ≤ 100000) ∧ r = 0 ∧ M' = M))) := by
  refine x_met (by decide) (Nat.le_of_ble_eq_true rfl) (fun g hg hr he => ?_)
  refine x_canon (ls' := [(0, _), (1, _)]) rfl ?_
  refine x_iload_n hg dX11_limit_0 rfl ?_
  refine x_iconst hg dX11_limit_1 ?_
  refine x_icmp_lt (tgt := 11) hg dX11_limit_2 (by decide) (by omega) (by omega) (fun c2 => ?_) (fun c2 => ?_)
  · skip
    refine x_iconst hg dX11_limit_11 ?_
    refine x_iret hg hr (Or.inr ⟨rfl, by first | exact Or.inl rfl | exact Or.inr rfl | omega⟩) dX11_limit_12 (Nat.le_refl _) (Nat.le_refl _) ?_
    refine ⟨rfl, rfl, _, rfl, ?_⟩
    first | exact Or.inl ⟨by omega, rfl, rfl⟩ | exact Or.inr ⟨by omega, rfl, rfl⟩
  · skip
    refine x_iload_n hg dX11_limit_5 rfl ?_
    refine x_ldc hg 100000 dX11_limit_6 (List.mem_of_getElem? (i := 605) (by decide +kernel)) ?_
    refine x_icmp_le (tgt := 13) hg dX11_limit_8 (by decide) (by omega) (by omega) (fun c8 => ?_) (fun c8 => ?_)
    · skip
      refine x_aload_n hg dX11_limit_13 rfl ?_
      refine x_iload_n hg dX11_limit_14 rfl ?_
      refine x_putI hg dX11_limit_15 fl_X11_64 ft_11_8 (by decide) rfl ?_
      refine x_aload_n hg dX11_limit_18 rfl ?_
      refine x_iconst hg dX11_limit_19 ?_
      refine x_putZ hg dX11_limit_20 fl_X11_60 ft_11_7 (by decide) rfl (by first | exact Or.inl rfl | exact Or.inr rfl | omega) ?_
      refine x_iconst hg dX11_limit_23 ?_
      refine x_iret hg hr (Or.inr ⟨rfl, by first | exact Or.inl rfl | exact Or.inr rfl | omega⟩) dX11_limit_24 (Nat.le_refl _) (Nat.le_refl _) ?_
      refine ⟨rfl, rfl, _, rfl, ?_⟩
      first | exact Or.inl ⟨by omega, rfl, rfl⟩ | exact Or.inr ⟨by omega, rfl, rfl⟩
    · skip
      refine x_iconst hg dX11_limit_11 ?_
      refine x_iret hg hr (Or.inr ⟨rfl, by first | exact Or.inl rfl | exact Or.inr rfl | omega⟩) dX11_limit_12 (Nat.le_refl _) (Nat.le_refl _) ?_
      refine ⟨rfl, rfl, _, rfl, ?_⟩
      first | exact Or.inl ⟨by omega, rfl, rfl⟩ | exact Or.inr ⟨by omega, rfl, rfl⟩

theorem dX11_later_0 : decode cX11_later 0 = .ok (.iload_n 1, 1) := by decide +kernel
theorem dX11_later_1 : decode cX11_later 1 = .ok (.ifCond .lt 21, 3) := by decide +kernel
theorem dX11_later_4 : decode cX11_later 4 = .ok (.iload_n 1, 1) := by decide +kernel
theorem dX11_later_5 : decode cX11_later 5 = .ok (.sipush 1000, 3) := by decide +kernel
theorem dX11_later_8 : decode cX11_later 8 = .ok (.if_icmp .gt 14, 3) := by decide +kernel
theorem dX11_later_11 : decode cX11_later 11 = .ok (.aload_n 0, 1) := by decide +kernel
theorem dX11_later_12 : decode cX11_later 12 = .ok (.getfield 212, 3) := by decide +kernel
theorem dX11_later_15 : decode cX11_later 15 = .ok (.iload_n 1, 1) := by decide +kernel
theorem dX11_later_16 : decode cX11_later 16 = .ok (.iadd, 1) := by decide +kernel
theorem dX11_later_17 : decode cX11_later 17 = .ok (.ldc 158, 2) := by decide +kernel
theorem dX11_later_19 : decode cX11_later 19 = .ok (.if_icmp .le 5, 3) := by decide +kernel
theorem dX11_later_22 : decode cX11_later 22 = .ok (.iconst (-1), 1) := by decide +kernel
theorem dX11_later_23 : decode cX11_later 23 = .ok (.ireturn, 1) := by decide +kernel
theorem dX11_later_24 : decode cX11_later 24 = .ok (.aload_n 0, 1) := by decide +kernel
theorem dX11_later_25 : decode cX11_later 25 = .ok (.dup, 1) := by decide +kernel
theorem dX11_later_26 : decode cX11_later 26 = .ok (.getfield 212, 3) := by decide +kernel
theorem dX11_later_29 : decode cX11_later 29 = .ok (.iload_n 1, 1) := by decide +kernel
theorem dX11_later_30 : decode cX11_later 30 = .ok (.iadd, 1) := by decide +kernel
theorem dX11_later_31 : decode cX11_later 31 = .ok (.putfield 212, 3) := by decide +kernel
theorem dX11_later_34 : decode cX11_later 34 = .ok (.aload_n 0, 1) := by decide +kernel
theorem dX11_later_35 : decode cX11_later 35 = .ok (.getfield 212, 3) := by decide +kernel
theorem dX11_later_38 : decode cX11_later 38 = .ok (.ireturn, 1) := by decide +kernel
set_option maxHeartbeats 4000000 in
set_option maxRecDepth 20000 in
theorem c_X11_later (l : Launch) (b : Nat) (D : va_G) (cy : Nat → ClassId) {tt : Nat} {M : xMm} {z : Int} (hz : inR z) (hM : 0 ≤ M 1 16 ∧ M 1 16 ≤ 100000) : xC l b D cy yX11_later cX11_later 2 (some .int) ({ frames := 0, cells := 0, slots := 0, locals := 0 }) [xr 1, xi z] 209 M (RS tt) (xPi 209 (RS tt) (fun r M' => ((0 ≤ z ∧ z ≤ 1000 ∧ M 1 16 + z ≤ 100000) ∧ r = M 1 16 + z ∧ M' = mu M 1 16 (M 1 16 + z)) ∨ (¬ (0 ≤ z ∧ z ≤ 1000 ∧ M 1 16 + z ≤ 100000) ∧ r = -1 ∧ M' = M))) := by
  refine x_met (by decide) (Nat.le_of_ble_eq_true rfl) (fun g hg hr he => ?_)
  refine x_canon (ls' := [(0, _), (1, _)]) rfl ?_
  refine x_iload_n hg dX11_later_0 rfl ?_
  refine x_if_lt (tgt := 22) hg dX11_later_1 (by decide) (by omega) (fun c1 => ?_) (fun c1 => ?_)
  · skip
    refine x_iconst hg dX11_later_22 ?_
    refine x_iret hg hr (Or.inl rfl) dX11_later_23 (Nat.le_refl _) (Nat.le_refl _) ?_
    refine ⟨rfl, rfl, _, rfl, ?_⟩
    first | exact Or.inl ⟨by omega, rfl, rfl⟩ | exact Or.inr ⟨by omega, rfl, rfl⟩
  · skip
    refine x_iload_n hg dX11_later_4 rfl ?_
    refine x_sipush hg dX11_later_5 (by decide) ?_
    refine x_icmp_gt (tgt := 22) hg dX11_later_8 (by decide) (by omega) (by omega) (fun c8 => ?_) (fun c8 => ?_)
    · skip
      refine x_iconst hg dX11_later_22 ?_
      refine x_iret hg hr (Or.inl rfl) dX11_later_23 (Nat.le_refl _) (Nat.le_refl _) ?_
      refine ⟨rfl, rfl, _, rfl, ?_⟩
      first | exact Or.inl ⟨by omega, rfl, rfl⟩ | exact Or.inr ⟨by omega, rfl, rfl⟩
    · skip
      refine x_aload_n hg dX11_later_11 rfl ?_
      refine x_getI hg dX11_later_12 fl_X11_212 (by decide) rfl ?_
      refine x_iload_n hg dX11_later_15 rfl ?_
      refine x_iadd hg dX11_later_16 ?_
      refine x_ldc hg 100000 dX11_later_17 (List.mem_of_getElem? (i := 605) (by decide +kernel)) ?_
      refine x_icmp_le (tgt := 24) hg dX11_later_19 (by decide) (by omega) (by omega) (fun c19 => ?_) (fun c19 => ?_)
      · skip
        refine x_aload_n hg dX11_later_24 rfl ?_
        refine x_dup hg dX11_later_25 rfl ?_
        refine x_getI hg dX11_later_26 fl_X11_212 (by decide) rfl ?_
        refine x_iload_n hg dX11_later_29 rfl ?_
        refine x_iadd hg dX11_later_30 ?_
        refine x_putI hg dX11_later_31 fl_X11_212 ft_11_16 (by decide) rfl ?_
        refine x_aload_n hg dX11_later_34 rfl ?_
        refine x_getI hg dX11_later_35 fl_X11_212 (by decide) rfl ?_
        try simp (disch := omega) only [mu_s, mu_nf, mu_nc]
        refine x_iret hg hr (Or.inl rfl) dX11_later_38 (Nat.le_refl _) (Nat.le_refl _) ?_
        refine ⟨rfl, rfl, _, rfl, ?_⟩
        first | exact Or.inl ⟨by omega, rfl, rfl⟩ | exact Or.inr ⟨by omega, rfl, rfl⟩
      · skip
        refine x_iconst hg dX11_later_22 ?_
        refine x_iret hg hr (Or.inl rfl) dX11_later_23 (Nat.le_refl _) (Nat.le_refl _) ?_
        refine ⟨rfl, rfl, _, rfl, ?_⟩
        first | exact Or.inl ⟨by omega, rfl, rfl⟩ | exact Or.inr ⟨by omega, rfl, rfl⟩

theorem dX11_cooler_0 : decode cX11_cooler 0 = .ok (.iload_n 1, 1) := by decide +kernel
theorem dX11_cooler_1 : decode cX11_cooler 1 = .ok (.ifCond .lt 9, 3) := by decide +kernel
theorem dX11_cooler_4 : decode cX11_cooler 4 = .ok (.iload_n 1, 1) := by decide +kernel
theorem dX11_cooler_5 : decode cX11_cooler 5 = .ok (.bipush 10, 2) := by decide +kernel
theorem dX11_cooler_7 : decode cX11_cooler 7 = .ok (.if_icmp .lt 5, 3) := by decide +kernel
theorem dX11_cooler_10 : decode cX11_cooler 10 = .ok (.iconst 0, 1) := by decide +kernel
theorem dX11_cooler_11 : decode cX11_cooler 11 = .ok (.ireturn, 1) := by decide +kernel
theorem dX11_cooler_12 : decode cX11_cooler 12 = .ok (.aload_n 0, 1) := by decide +kernel
theorem dX11_cooler_13 : decode cX11_cooler 13 = .ok (.getfield 38, 3) := by decide +kernel
theorem dX11_cooler_16 : decode cX11_cooler 16 = .ok (.getfield 154, 3) := by decide +kernel
theorem dX11_cooler_19 : decode cX11_cooler 19 = .ok (.iload_n 1, 1) := by decide +kernel
theorem dX11_cooler_20 : decode cX11_cooler 20 = .ok (.iload_n 2, 1) := by decide +kernel
theorem dX11_cooler_21 : decode cX11_cooler 21 = .ok (.bastore, 1) := by decide +kernel
theorem dX11_cooler_22 : decode cX11_cooler 22 = .ok (.aload_n 0, 1) := by decide +kernel
theorem dX11_cooler_23 : decode cX11_cooler 23 = .ok (.iconst 1, 1) := by decide +kernel
theorem dX11_cooler_24 : decode cX11_cooler 24 = .ok (.putfield 60, 3) := by decide +kernel
theorem dX11_cooler_27 : decode cX11_cooler 27 = .ok (.iconst 1, 1) := by decide +kernel
theorem dX11_cooler_28 : decode cX11_cooler 28 = .ok (.ireturn, 1) := by decide +kernel
set_option maxHeartbeats 4000000 in
set_option maxRecDepth 20000 in
theorem c_X11_cooler (l : Launch) (b : Nat) (D : va_G) (cy : Nat → ClassId) {tt : Nat} {M : xMm} {s z : Int} (hs : inR s) (hz : z = 0 ∨ z = 1) : xC l b D cy yX11_cooler cX11_cooler 3 (some .boolean) ({ frames := 0, cells := 0, slots := 0, locals := 0 }) [xr 1, xi s, xi z] 209 M (RS tt) (xPi 209 (RS tt) (fun r M' => ((0 ≤ s ∧ s < 10) ∧ r = 1 ∧ M' = mu (mu M 59 s.toNat z) 1 7 1) ∨ (¬ (0 ≤ s ∧ s < 10) ∧ r = 0 ∧ M' = M))) := by
  refine x_met (by decide) (Nat.le_of_ble_eq_true rfl) (fun g hg hr he => ?_)
  refine x_canon (ls' := [(0, _), (1, _), (2, _)]) rfl ?_
  refine x_iload_n hg dX11_cooler_0 rfl ?_
  refine x_if_lt (tgt := 10) hg dX11_cooler_1 (by decide) (by omega) (fun c1 => ?_) (fun c1 => ?_)
  · skip
    refine x_iconst hg dX11_cooler_10 ?_
    refine x_iret hg hr (Or.inr ⟨rfl, by first | exact Or.inl rfl | exact Or.inr rfl | omega⟩) dX11_cooler_11 (Nat.le_refl _) (Nat.le_refl _) ?_
    refine ⟨rfl, rfl, _, rfl, ?_⟩
    first | exact Or.inl ⟨by omega, rfl, rfl⟩ | exact Or.inr ⟨by omega, rfl, rfl⟩
  · skip
    refine x_iload_n hg dX11_cooler_4 rfl ?_
    refine x_bipush hg dX11_cooler_5 (by decide) ?_
    refine x_icmp_lt (tgt := 12) hg dX11_cooler_7 (by decide) (by omega) (by omega) (fun c7 => ?_) (fun c7 => ?_)
    · skip
      refine x_aload_n hg dX11_cooler_12 rfl ?_
      refine x_getR (j9 := 57) hg dX11_cooler_13 fl_X11_38 (by decide) rfl rfl (by decide) ?_
      refine x_getR (j9 := 59) hg dX11_cooler_16 fl_X11_154 (by decide) rfl rfl (by decide) ?_
      refine x_iload_n hg dX11_cooler_19 rfl ?_
      refine x_iload_n hg dX11_cooler_20 rfl ?_
      refine x_zastore (len := 10) hg dX11_cooler_21 (by decide) (by omega) (by omega) ?_
      refine x_aload_n hg dX11_cooler_22 rfl ?_
      refine x_iconst hg dX11_cooler_23 ?_
      refine x_putZ hg dX11_cooler_24 fl_X11_60 ft_11_7 (by decide) rfl (by first | exact Or.inl rfl | exact Or.inr rfl | omega) ?_
      refine x_iconst hg dX11_cooler_27 ?_
      refine x_iret hg hr (Or.inr ⟨rfl, by first | exact Or.inl rfl | exact Or.inr rfl | omega⟩) dX11_cooler_28 (Nat.le_refl _) (Nat.le_refl _) ?_
      refine ⟨rfl, rfl, _, rfl, ?_⟩
      first | exact Or.inl ⟨by omega, rfl, rfl⟩ | exact Or.inr ⟨by omega, rfl, rfl⟩
    · skip
      refine x_iconst hg dX11_cooler_10 ?_
      refine x_iret hg hr (Or.inr ⟨rfl, by first | exact Or.inl rfl | exact Or.inr rfl | omega⟩) dX11_cooler_11 (Nat.le_refl _) (Nat.le_refl _) ?_
      refine ⟨rfl, rfl, _, rfl, ?_⟩
      first | exact Or.inl ⟨by omega, rfl, rfl⟩ | exact Or.inr ⟨by omega, rfl, rfl⟩

theorem dX6_hasRoomFor_0 : decode cX6_hasRoomFor 0 = .ok (.iload_n 1, 1) := by decide +kernel
theorem dX6_hasRoomFor_1 : decode cX6_hasRoomFor 1 = .ok (.sipush 1000, 3) := by decide +kernel
theorem dX6_hasRoomFor_4 : decode cX6_hasRoomFor 4 = .ok (.aload_n 0, 1) := by decide +kernel
theorem dX6_hasRoomFor_5 : decode cX6_hasRoomFor 5 = .ok (.getfield 9, 3) := by decide +kernel
theorem dX6_hasRoomFor_8 : decode cX6_hasRoomFor 8 = .ok (.isub, 1) := by decide +kernel
theorem dX6_hasRoomFor_9 : decode cX6_hasRoomFor 9 = .ok (.if_icmp .gt 7, 3) := by decide +kernel
theorem dX6_hasRoomFor_12 : decode cX6_hasRoomFor 12 = .ok (.iconst 1, 1) := by decide +kernel
theorem dX6_hasRoomFor_13 : decode cX6_hasRoomFor 13 = .ok (.goto 4, 3) := by decide +kernel
theorem dX6_hasRoomFor_16 : decode cX6_hasRoomFor 16 = .ok (.iconst 0, 1) := by decide +kernel
theorem dX6_hasRoomFor_17 : decode cX6_hasRoomFor 17 = .ok (.ireturn, 1) := by decide +kernel
set_option maxHeartbeats 4000000 in
set_option maxRecDepth 20000 in
theorem c_X6_hasRoomFor (l : Launch) (b : Nat) (D : va_G) (cy : Nat → ClassId) {tt : Nat} {M : xMm} {i : Nat} {z : Int} (ho : xO 209 i 6) (hz : inR z) (hM : 0 ≤ M i 0 ∧ M i 0 ≤ 1000) : xC l b D cy yX6_hasRoomFor cX6_hasRoomFor 2 (some .boolean) ({ frames := 0, cells := 0, slots := 0, locals := 0 }) [xr i, xi z] 209 M (RS tt) (xPi 209 (RS tt) (fun r M' => M' = M ∧ (z ≤ 1000 - M i 0 ∧ r = 1 ∨ ¬ z ≤ 1000 - M i 0 ∧ r = 0))) := by
  refine x_met (by decide) (Nat.le_of_ble_eq_true rfl) (fun g hg hr he => ?_)
  refine x_canon (ls' := [(0, _), (1, _)]) rfl ?_
  refine x_iload_n hg dX6_hasRoomFor_0 rfl ?_
  refine x_sipush hg dX6_hasRoomFor_1 (by decide) ?_
  refine x_aload_n hg dX6_hasRoomFor_4 rfl ?_
  refine x_getI hg dX6_hasRoomFor_5 fl_X6_9 ho rfl ?_
  refine x_isub hg dX6_hasRoomFor_8 ?_
  refine x_icmp_gt (tgt := 16) hg dX6_hasRoomFor_9 (by decide) (by omega) (by omega) (fun c9 => ?_) (fun c9 => ?_)
  · skip
    refine x_iconst hg dX6_hasRoomFor_16 ?_
    refine x_iret hg hr (Or.inr ⟨rfl, by first | exact Or.inl rfl | exact Or.inr rfl | omega⟩) dX6_hasRoomFor_17 (Nat.le_refl _) (Nat.le_refl _) ?_
    exact ⟨rfl, rfl, _, rfl, rfl, by omega⟩
  · skip
    refine x_iconst hg dX6_hasRoomFor_12 ?_
    refine x_goto (tgt := 17) hg dX6_hasRoomFor_13 (by decide) ?_
    refine x_iret hg hr (Or.inr ⟨rfl, by first | exact Or.inl rfl | exact Or.inr rfl | omega⟩) dX6_hasRoomFor_17 (Nat.le_refl _) (Nat.le_refl _) ?_
    exact ⟨rfl, rfl, _, rfl, rfl, by omega⟩

theorem dX6_canGive_0 : decode cX6_canGive 0 = .ok (.iload_n 1, 1) := by decide +kernel
theorem dX6_canGive_1 : decode cX6_canGive 1 = .ok (.iconst 1, 1) := by decide +kernel
theorem dX6_canGive_2 : decode cX6_canGive 2 = .ok (.if_icmp .lt 15, 3) := by decide +kernel
theorem dX6_canGive_5 : decode cX6_canGive 5 = .ok (.iload_n 1, 1) := by decide +kernel
theorem dX6_canGive_6 : decode cX6_canGive 6 = .ok (.aload_n 0, 1) := by decide +kernel
theorem dX6_canGive_7 : decode cX6_canGive 7 = .ok (.getfield 9, 3) := by decide +kernel
theorem dX6_canGive_10 : decode cX6_canGive 10 = .ok (.if_icmp .gt 7, 3) := by decide +kernel
theorem dX6_canGive_13 : decode cX6_canGive 13 = .ok (.iconst 1, 1) := by decide +kernel
theorem dX6_canGive_14 : decode cX6_canGive 14 = .ok (.goto 4, 3) := by decide +kernel
theorem dX6_canGive_17 : decode cX6_canGive 17 = .ok (.iconst 0, 1) := by decide +kernel
theorem dX6_canGive_18 : decode cX6_canGive 18 = .ok (.ireturn, 1) := by decide +kernel
set_option maxHeartbeats 4000000 in
set_option maxRecDepth 20000 in
theorem c_X6_canGive (l : Launch) (b : Nat) (D : va_G) (cy : Nat → ClassId) {tt : Nat} {M : xMm} {i : Nat} {z : Int} (ho : xO 209 i 6) (hz : inR z) (hM : 0 ≤ M i 0 ∧ M i 0 ≤ 1000) : xC l b D cy yX6_canGive cX6_canGive 2 (some .boolean) ({ frames := 0, cells := 0, slots := 0, locals := 0 }) [xr i, xi z] 209 M (RS tt) (xPi 209 (RS tt) (fun r M' => M' = M ∧ ((1 ≤ z ∧ z ≤ M i 0) ∧ r = 1 ∨ ¬ (1 ≤ z ∧ z ≤ M i 0) ∧ r = 0))) := by
  refine x_met (by decide) (Nat.le_of_ble_eq_true rfl) (fun g hg hr he => ?_)
  refine x_canon (ls' := [(0, _), (1, _)]) rfl ?_
  refine x_iload_n hg dX6_canGive_0 rfl ?_
  refine x_iconst hg dX6_canGive_1 ?_
  refine x_icmp_lt (tgt := 17) hg dX6_canGive_2 (by decide) (by omega) (by omega) (fun c2 => ?_) (fun c2 => ?_)
  · skip
    refine x_iconst hg dX6_canGive_17 ?_
    refine x_iret hg hr (Or.inr ⟨rfl, by first | exact Or.inl rfl | exact Or.inr rfl | omega⟩) dX6_canGive_18 (Nat.le_refl _) (Nat.le_refl _) ?_
    exact ⟨rfl, rfl, _, rfl, rfl, by omega⟩
  · skip
    refine x_iload_n hg dX6_canGive_5 rfl ?_
    refine x_aload_n hg dX6_canGive_6 rfl ?_
    refine x_getI hg dX6_canGive_7 fl_X6_9 ho rfl ?_
    refine x_icmp_gt (tgt := 17) hg dX6_canGive_10 (by decide) (by omega) (by omega) (fun c10 => ?_) (fun c10 => ?_)
    · skip
      refine x_iconst hg dX6_canGive_17 ?_
      refine x_iret hg hr (Or.inr ⟨rfl, by first | exact Or.inl rfl | exact Or.inr rfl | omega⟩) dX6_canGive_18 (Nat.le_refl _) (Nat.le_refl _) ?_
      exact ⟨rfl, rfl, _, rfl, rfl, by omega⟩
    · skip
      refine x_iconst hg dX6_canGive_13 ?_
      refine x_goto (tgt := 18) hg dX6_canGive_14 (by decide) ?_
      refine x_iret hg hr (Or.inr ⟨rfl, by first | exact Or.inl rfl | exact Or.inr rfl | omega⟩) dX6_canGive_18 (Nat.le_refl _) (Nat.le_refl _) ?_
      exact ⟨rfl, rfl, _, rfl, rfl, by omega⟩

theorem dX6_fill_0 : decode cX6_fill 0 = .ok (.aload_n 0, 1) := by decide +kernel
theorem dX6_fill_1 : decode cX6_fill 1 = .ok (.dup, 1) := by decide +kernel
theorem dX6_fill_2 : decode cX6_fill 2 = .ok (.getfield 9, 3) := by decide +kernel
theorem dX6_fill_5 : decode cX6_fill 5 = .ok (.iload_n 1, 1) := by decide +kernel
theorem dX6_fill_6 : decode cX6_fill 6 = .ok (.iadd, 1) := by decide +kernel
theorem dX6_fill_7 : decode cX6_fill 7 = .ok (.putfield 9, 3) := by decide +kernel
theorem dX6_fill_10 : decode cX6_fill 10 = .ok (.aload_n 0, 1) := by decide +kernel
theorem dX6_fill_11 : decode cX6_fill 11 = .ok (.dup, 1) := by decide +kernel
theorem dX6_fill_12 : decode cX6_fill 12 = .ok (.getfield 15, 3) := by decide +kernel
theorem dX6_fill_15 : decode cX6_fill 15 = .ok (.iload_n 2, 1) := by decide +kernel
theorem dX6_fill_16 : decode cX6_fill 16 = .ok (.ior, 1) := by decide +kernel
theorem dX6_fill_17 : decode cX6_fill 17 = .ok (.putfield 15, 3) := by decide +kernel
theorem dX6_fill_20 : decode cX6_fill 20 = .ok (.return_, 1) := by decide +kernel
set_option maxHeartbeats 4000000 in
set_option maxRecDepth 20000 in
theorem c_X6_fill (l : Launch) (b : Nat) (D : va_G) (cy : Nat → ClassId) {tt : Nat} {M : xMm} {i : Nat} {z f : Int} (ho : xO 209 i 6) : xC l b D cy yX6_fill cX6_fill 3 none ({ frames := 0, cells := 0, slots := 0, locals := 0 }) [xr i, xi z, xi f] 209 M (RS tt) (xPv 209 (RS tt) (fun M' => M' = mu (mu M i 0 (M i 0 + z)) i 1 (bOr (M i 1) f))) := by
  refine x_met (by decide) (Nat.le_of_ble_eq_true rfl) (fun g hg hr he => ?_)
  refine x_canon (ls' := [(0, _), (1, _), (2, _)]) rfl ?_
  refine x_aload_n hg dX6_fill_0 rfl ?_
  refine x_dup hg dX6_fill_1 rfl ?_
  refine x_getI hg dX6_fill_2 fl_X6_9 ho rfl ?_
  refine x_iload_n hg dX6_fill_5 rfl ?_
  refine x_iadd hg dX6_fill_6 ?_
  refine x_putI hg dX6_fill_7 fl_X6_9 ft_6_0 ho rfl ?_
  refine x_aload_n hg dX6_fill_10 rfl ?_
  refine x_dup hg dX6_fill_11 rfl ?_
  refine x_getI hg dX6_fill_12 fl_X6_15 ho rfl ?_
  try simp (disch := omega) only [mu_s, mu_nf, mu_nc]
  refine x_iload_n hg dX6_fill_15 rfl ?_
  refine x_ior hg dX6_fill_16 ?_
  refine x_putI hg dX6_fill_17 fl_X6_15 ft_6_1 ho rfl ?_
  refine x_vret hg hr dX6_fill_20 (Nat.le_refl _) (Nat.le_refl _) ?_
  exact ⟨rfl, rfl, rfl, rfl⟩

theorem dX6_draw_0 : decode cX6_draw 0 = .ok (.aload_n 0, 1) := by decide +kernel
theorem dX6_draw_1 : decode cX6_draw 1 = .ok (.dup, 1) := by decide +kernel
theorem dX6_draw_2 : decode cX6_draw 2 = .ok (.getfield 9, 3) := by decide +kernel
theorem dX6_draw_5 : decode cX6_draw 5 = .ok (.iload_n 1, 1) := by decide +kernel
theorem dX6_draw_6 : decode cX6_draw 6 = .ok (.isub, 1) := by decide +kernel
theorem dX6_draw_7 : decode cX6_draw 7 = .ok (.putfield 9, 3) := by decide +kernel
theorem dX6_draw_10 : decode cX6_draw 10 = .ok (.aload_n 0, 1) := by decide +kernel
theorem dX6_draw_11 : decode cX6_draw 11 = .ok (.getfield 9, 3) := by decide +kernel
theorem dX6_draw_14 : decode cX6_draw 14 = .ok (.ifCond .ne 8, 3) := by decide +kernel
theorem dX6_draw_17 : decode cX6_draw 17 = .ok (.aload_n 0, 1) := by decide +kernel
theorem dX6_draw_18 : decode cX6_draw 18 = .ok (.iconst 0, 1) := by decide +kernel
theorem dX6_draw_19 : decode cX6_draw 19 = .ok (.putfield 15, 3) := by decide +kernel
theorem dX6_draw_22 : decode cX6_draw 22 = .ok (.return_, 1) := by decide +kernel
set_option maxHeartbeats 4000000 in
set_option maxRecDepth 20000 in
theorem c_X6_draw (l : Launch) (b : Nat) (D : va_G) (cy : Nat → ClassId) {tt : Nat} {M : xMm} {i : Nat} {z : Int} (ho : xO 209 i 6) (hz : 0 ≤ z ∧ z ≤ M i 0) (hM : M i 0 ≤ 1000) : xC l b D cy yX6_draw cX6_draw 2 none ({ frames := 0, cells := 0, slots := 0, locals := 0 }) [xr i, xi z] 209 M (RS tt) (xPv 209 (RS tt) (fun M' => M' = if M i 0 - z = 0 then mu (mu M i 0 (M i 0 - z)) i 1 0 else mu M i 0 (M i 0 - z))) := by
  refine x_met (by decide) (Nat.le_of_ble_eq_true rfl) (fun g hg hr he => ?_)
  refine x_canon (ls' := [(0, _), (1, _)]) rfl ?_
  refine x_aload_n hg dX6_draw_0 rfl ?_
  refine x_dup hg dX6_draw_1 rfl ?_
  refine x_getI hg dX6_draw_2 fl_X6_9 ho rfl ?_
  refine x_iload_n hg dX6_draw_5 rfl ?_
  refine x_isub hg dX6_draw_6 ?_
  refine x_putI hg dX6_draw_7 fl_X6_9 ft_6_0 ho rfl ?_
  refine x_aload_n hg dX6_draw_10 rfl ?_
  refine x_getI hg dX6_draw_11 fl_X6_9 ho rfl ?_
  try simp (disch := omega) only [mu_s, mu_nf, mu_nc]
  refine x_if_ne (tgt := 22) hg dX6_draw_14 (by decide) (by first | omega | (simp [mu_s, mu_nf, mu_nc]; omega)) (fun c14 => ?_) (fun c14 => ?_)
  · skip
    refine x_vret hg hr dX6_draw_22 (Nat.le_refl _) (Nat.le_refl _) ?_
    refine ⟨rfl, rfl, rfl, ?_⟩
    first | rw [if_pos (by omega)] | rw [if_neg (by omega)]
  · skip
    refine x_aload_n hg dX6_draw_17 rfl ?_
    refine x_iconst hg dX6_draw_18 ?_
    refine x_putI hg dX6_draw_19 fl_X6_15 ft_6_1 ho rfl ?_
    refine x_vret hg hr dX6_draw_22 (Nat.le_refl _) (Nat.le_refl _) ?_
    refine ⟨rfl, rfl, rfl, ?_⟩
    first | rw [if_pos (by omega)] | rw [if_neg (by omega)]

theorem dX3_isKnownAt_0 : decode cX3_isKnownAt 0 = .ok (.aload_n 0, 1) := by decide +kernel
theorem dX3_isKnownAt_1 : decode cX3_isKnownAt 1 = .ok (.getfield 15, 3) := by decide +kernel
theorem dX3_isKnownAt_4 : decode cX3_isKnownAt 4 = .ok (.iload_n 1, 1) := by decide +kernel
theorem dX3_isKnownAt_5 : decode cX3_isKnownAt 5 = .ok (.if_icmp .gt 23, 3) := by decide +kernel
theorem dX3_isKnownAt_8 : decode cX3_isKnownAt 8 = .ok (.aload_n 0, 1) := by decide +kernel
theorem dX3_isKnownAt_9 : decode cX3_isKnownAt 9 = .ok (.getfield 9, 3) := by decide +kernel
theorem dX3_isKnownAt_12 : decode cX3_isKnownAt 12 = .ok (.iconst (-1), 1) := by decide +kernel
theorem dX3_isKnownAt_13 : decode cX3_isKnownAt 13 = .ok (.if_icmp .eq 11, 3) := by decide +kernel
theorem dX3_isKnownAt_16 : decode cX3_isKnownAt 16 = .ok (.aload_n 0, 1) := by decide +kernel
theorem dX3_isKnownAt_17 : decode cX3_isKnownAt 17 = .ok (.getfield 9, 3) := by decide +kernel
theorem dX3_isKnownAt_20 : decode cX3_isKnownAt 20 = .ok (.iload_n 1, 1) := by decide +kernel
theorem dX3_isKnownAt_21 : decode cX3_isKnownAt 21 = .ok (.if_icmp .le 7, 3) := by decide +kernel
theorem dX3_isKnownAt_24 : decode cX3_isKnownAt 24 = .ok (.iconst 1, 1) := by decide +kernel
theorem dX3_isKnownAt_25 : decode cX3_isKnownAt 25 = .ok (.goto 4, 3) := by decide +kernel
theorem dX3_isKnownAt_28 : decode cX3_isKnownAt 28 = .ok (.iconst 0, 1) := by decide +kernel
theorem dX3_isKnownAt_29 : decode cX3_isKnownAt 29 = .ok (.ireturn, 1) := by decide +kernel
set_option maxHeartbeats 4000000 in
set_option maxRecDepth 20000 in
theorem c_X3_isKnownAt (l : Launch) (b : Nat) (D : va_G) (cy : Nat → ClassId) {tt : Nat} {M : xMm} {i : Nat} {k : Int} (ho : xO 209 i 3) (hk : inR k) (h2 : inR (M i 2)) (h3 : inR (M i 3)) : xC l b D cy yX3_isKnownAt cX3_isKnownAt 2 (some .boolean) ({ frames := 0, cells := 0, slots := 0, locals := 0 }) [xr i, xi k] 209 M (RS tt) (xPi 209 (RS tt) (fun r M' => M' = M ∧ ((M i 2 ≤ k ∧ (M i 3 = -1 ∨ k < M i 3)) ∧ r = 1 ∨ ¬ (M i 2 ≤ k ∧ (M i 3 = -1 ∨ k < M i 3)) ∧ r = 0))) := by
  refine x_met (by decide) (Nat.le_of_ble_eq_true rfl) (fun g hg hr he => ?_)
  refine x_canon (ls' := [(0, _), (1, _)]) rfl ?_
  refine x_aload_n hg dX3_isKnownAt_0 rfl ?_
  refine x_getI hg dX3_isKnownAt_1 fl_X3_15 ho rfl ?_
  refine x_iload_n hg dX3_isKnownAt_4 rfl ?_
  refine x_icmp_gt (tgt := 28) hg dX3_isKnownAt_5 (by decide) (by omega) (by omega) (fun c5 => ?_) (fun c5 => ?_)
  · skip
    refine x_iconst hg dX3_isKnownAt_28 ?_
    refine x_iret hg hr (Or.inr ⟨rfl, by first | exact Or.inl rfl | exact Or.inr rfl | omega⟩) dX3_isKnownAt_29 (Nat.le_refl _) (Nat.le_refl _) ?_
    exact ⟨rfl, rfl, _, rfl, rfl, by omega⟩
  · skip
    refine x_aload_n hg dX3_isKnownAt_8 rfl ?_
    refine x_getI hg dX3_isKnownAt_9 fl_X3_9 ho rfl ?_
    refine x_iconst hg dX3_isKnownAt_12 ?_
    refine x_icmp_eq (tgt := 24) hg dX3_isKnownAt_13 (by decide) (by omega) (by omega) (fun c13 => ?_) (fun c13 => ?_)
    · skip
      refine x_iconst hg dX3_isKnownAt_24 ?_
      refine x_goto (tgt := 29) hg dX3_isKnownAt_25 (by decide) ?_
      refine x_iret hg hr (Or.inr ⟨rfl, by first | exact Or.inl rfl | exact Or.inr rfl | omega⟩) dX3_isKnownAt_29 (Nat.le_refl _) (Nat.le_refl _) ?_
      exact ⟨rfl, rfl, _, rfl, rfl, by omega⟩
    · skip
      refine x_aload_n hg dX3_isKnownAt_16 rfl ?_
      refine x_getI hg dX3_isKnownAt_17 fl_X3_9 ho rfl ?_
      refine x_iload_n hg dX3_isKnownAt_20 rfl ?_
      refine x_icmp_le (tgt := 28) hg dX3_isKnownAt_21 (by decide) (by omega) (by omega) (fun c21 => ?_) (fun c21 => ?_)
      · skip
        refine x_iconst hg dX3_isKnownAt_28 ?_
        refine x_iret hg hr (Or.inr ⟨rfl, by first | exact Or.inl rfl | exact Or.inr rfl | omega⟩) dX3_isKnownAt_29 (Nat.le_refl _) (Nat.le_refl _) ?_
        exact ⟨rfl, rfl, _, rfl, rfl, by omega⟩
      · skip
        refine x_iconst hg dX3_isKnownAt_24 ?_
        refine x_goto (tgt := 29) hg dX3_isKnownAt_25 (by decide) ?_
        refine x_iret hg hr (Or.inr ⟨rfl, by first | exact Or.inl rfl | exact Or.inr rfl | omega⟩) dX3_isKnownAt_29 (Nat.le_refl _) (Nat.le_refl _) ?_
        exact ⟨rfl, rfl, _, rfl, rfl, by omega⟩

theorem dX3_concerns_0 : decode cX3_concerns 0 = .ok (.aload_n 1, 1) := by decide +kernel
theorem dX3_concerns_1 : decode cX3_concerns 1 = .ok (.getfield 18, 3) := by decide +kernel
theorem dX3_concerns_4 : decode cX3_concerns 4 = .ok (.aload_n 0, 1) := by decide +kernel
theorem dX3_concerns_5 : decode cX3_concerns 5 = .ok (.getfield 23, 3) := by decide +kernel
theorem dX3_concerns_8 : decode cX3_concerns 8 = .ok (.if_icmp .lt 21, 3) := by decide +kernel
theorem dX3_concerns_11 : decode cX3_concerns 11 = .ok (.aload_n 1, 1) := by decide +kernel
theorem dX3_concerns_12 : decode cX3_concerns 12 = .ok (.getfield 26, 3) := by decide +kernel
theorem dX3_concerns_15 : decode cX3_concerns 15 = .ok (.iconst 1, 1) := by decide +kernel
theorem dX3_concerns_16 : decode cX3_concerns 16 = .ok (.aload_n 0, 1) := by decide +kernel
theorem dX3_concerns_17 : decode cX3_concerns 17 = .ok (.getfield 29, 3) := by decide +kernel
theorem dX3_concerns_20 : decode cX3_concerns 20 = .ok (.ishl, 1) := by decide +kernel
theorem dX3_concerns_21 : decode cX3_concerns 21 = .ok (.iand, 1) := by decide +kernel
theorem dX3_concerns_22 : decode cX3_concerns 22 = .ok (.ifCond .eq 7, 3) := by decide +kernel
theorem dX3_concerns_25 : decode cX3_concerns 25 = .ok (.iconst 1, 1) := by decide +kernel
theorem dX3_concerns_26 : decode cX3_concerns 26 = .ok (.goto 4, 3) := by decide +kernel
theorem dX3_concerns_29 : decode cX3_concerns 29 = .ok (.iconst 0, 1) := by decide +kernel
theorem dX3_concerns_30 : decode cX3_concerns 30 = .ok (.ireturn, 1) := by decide +kernel
set_option maxHeartbeats 4000000 in
set_option maxRecDepth 20000 in
theorem c_X3_concerns (l : Launch) (b : Nat) (D : va_G) (cy : Nat → ClassId) {tt : Nat} {M : xMm} {i j : Nat} (ho : xO 209 i 3) (hb : xO 209 j 0) (h1 : inR (M i 1)) (h2 : inR (M j 2)) : xC l b D cy yX3_concerns cX3_concerns 2 (some .boolean) ({ frames := 0, cells := 0, slots := 0, locals := 0 }) [xr i, xr j] 209 M (RS tt) (xPi 209 (RS tt) (fun r M' => M' = M ∧ ((M i 1 ≤ M j 2 ∧ bAnd (M j 1) (bShl 1 (M i 0)) ≠ 0) ∧ r = 1 ∨ ¬ (M i 1 ≤ M j 2 ∧ bAnd (M j 1) (bShl 1 (M i 0)) ≠ 0) ∧ r = 0))) := by
  refine x_met (by decide) (Nat.le_of_ble_eq_true rfl) (fun g hg hr he => ?_)
  refine x_canon (ls' := [(0, _), (1, _)]) rfl ?_
  refine x_aload_n hg dX3_concerns_0 rfl ?_
  refine x_getI hg dX3_concerns_1 fl_X3_18 hb rfl ?_
  refine x_aload_n hg dX3_concerns_4 rfl ?_
  refine x_getI hg dX3_concerns_5 fl_X3_23 ho rfl ?_
  refine x_icmp_lt (tgt := 29) hg dX3_concerns_8 (by decide) (by omega) (by omega) (fun c8 => ?_) (fun c8 => ?_)
  · skip
    refine x_iconst hg dX3_concerns_29 ?_
    refine x_iret hg hr (Or.inr ⟨rfl, by first | exact Or.inl rfl | exact Or.inr rfl | omega⟩) dX3_concerns_30 (Nat.le_refl _) (Nat.le_refl _) ?_
    exact ⟨rfl, rfl, _, rfl, rfl, by omega⟩
  · skip
    refine x_aload_n hg dX3_concerns_11 rfl ?_
    refine x_getI hg dX3_concerns_12 fl_X3_26 hb rfl ?_
    refine x_iconst hg dX3_concerns_15 ?_
    refine x_aload_n hg dX3_concerns_16 rfl ?_
    refine x_getI hg dX3_concerns_17 fl_X3_29 ho rfl ?_
    refine x_ishl hg dX3_concerns_20 ?_
    refine x_iand hg dX3_concerns_21 ?_
    refine x_if_eq (tgt := 29) hg dX3_concerns_22 (by decide) (by exact xt_int _) (fun c22 => ?_) (fun c22 => ?_)
    · skip
      refine x_iconst hg dX3_concerns_29 ?_
      refine x_iret hg hr (Or.inr ⟨rfl, by first | exact Or.inl rfl | exact Or.inr rfl | omega⟩) dX3_concerns_30 (Nat.le_refl _) (Nat.le_refl _) ?_
      exact ⟨rfl, rfl, _, rfl, rfl, by omega⟩
    · skip
      refine x_iconst hg dX3_concerns_25 ?_
      refine x_goto (tgt := 30) hg dX3_concerns_26 (by decide) ?_
      refine x_iret hg hr (Or.inr ⟨rfl, by first | exact Or.inl rfl | exact Or.inr rfl | omega⟩) dX3_concerns_30 (Nat.le_refl _) (Nat.le_refl _) ?_
      exact ⟨rfl, rfl, _, rfl, rfl, by omega⟩
