/-- the model's rails while they are read: the row that is filled -/
def MQ2 (M : xMm) : Prop := MR M ∧ (0 ≤ M 172 19 ∧ M 172 19 ≤ 1)
/-- the cells that a reading may change: 172 (fields 2 to 19) and 174 to 181 -/
abbrev frX (M' M : xMm) : Prop := (∀ a, a < 172 ∨ a = 173 ∨ 181 < a → M' a = M a) ∧ ∀ f, 19 < f → M' 172 f = M 172 f
theorem frX_rf (M : xMm) : frX M M := ⟨fun _ _ => rfl, fun _ _ => rfl⟩
theorem frX_tr {M2 M1 M : xMm} (h1 : frX M2 M1) (h : frX M1 M) : frX M2 M := ⟨fun a ha => by rw [h1.1 a ha, h.1 a ha], fun f hf => by rw [h1.2 f hf, h.2 f hf]⟩
theorem frX_K {lo : Nat} {M' M : xMm} (h : frK lo M' M) : frX M' M := ⟨fun a ha => h.1 a (by omega), fun f hf => h.2 f (by omega)⟩
theorem frX_mu {M' M : xMm} (h : frX M' M) {a k : Nat} {z : Int} (ha : 174 ≤ a ∧ a ≤ 181) : frX (mu M' a k z) M :=
  ⟨fun c hc => by rw [← h.1 c hc]; funext j; exact mu_nc (by omega), fun f hf => by rw [mu_nc (by omega)]; exact h.2 f hf⟩
theorem frX_f {M' M : xMm} (h : frX M' M) {k : Nat} {z : Int} (hk : k ≤ 19) : frX (mu M' 172 k z) M :=
  ⟨fun c hc => by rw [← h.1 c hc]; funext j; exact mu_nc (by omega), fun f hf => by rw [mu_nf (by omega)]; exact h.2 f hf⟩
theorem JM_mu {M : xMm} (h : JM M) {a k : Nat} {z : Int} (ha : 175 ≤ a ∧ a ≤ 181) : JM (mu M a k z) := by
  obtain ⟨⟨⟨t1, t2, t3⟩, h2⟩, h3⟩ := h
  have e : ∀ f, mu M a k z 172 f = M 172 f := fun f => mu_nc (by omega)
  refine ⟨⟨⟨by rw [e]; exact t1, fun j => by rw [mu_nc (by omega)]; exact t2 j, fun j => by rw [mu_nc (by omega)]; exact t3 j⟩, ?_⟩, ?_⟩
  · simp only [e]; exact h2
  · simp only [e]; exact h3
theorem MQ2_K {M' M : xMm} (h : frK 4 M' M) (hQ : MQ2 M) : MQ2 M' := ⟨MR_K h hQ.1, by rw [h.2 19 (by omega)]; exact hQ.2⟩
/-- a number of the rails changes -/
theorem MR_mu {M : xMm} (h : MR M) {a i : Nat} {z : Int} (hz : a = 175 ∧ inL z ∨ a = 176 ∧ (0 ≤ z ∧ z ≤ 9999) ∨ a = 180 ∧ (0 ≤ z ∧ z ≤ 8) ∨ a = 177 ∧ z = 0 ∨ a = 181 ∧ (0 ≤ z ∧ z ≤ 300)) : MR (mu M a i z) := by
  obtain ⟨h1, h2, h3, h4, h5, h6⟩ := h
  refine ⟨by rw [mu_nc (by omega)]; exact h1, fun k hk => ?_, fun t ht => ?_, fun t ht => ?_, fun j hj => by rw [mu_nc (by omega), mu_nc (by omega)]; exact h5 j hj, fun t k ht hk => ?_⟩
  · by_cases e : 180 = a ∧ k = i
    · obtain ⟨e1, rfl⟩ := e; rw [← e1, mu_s]; omega
    · rw [mu_n e]; exact h2 k hk
  · by_cases e : 181 = a ∧ t = i
    · obtain ⟨e1, rfl⟩ := e; rw [← e1, mu_s]; omega
    · rw [mu_n e]; exact h3 t ht
  · have h7 := h4 t ht
    refine ⟨?_, ?_, ?_⟩
    · by_cases e : 177 = a ∧ t = i
      · obtain ⟨e1, rfl⟩ := e; rw [← e1, mu_s]; omega
      · rw [mu_n e]; exact h7.1
    · by_cases e : 176 = a ∧ t = i
      · obtain ⟨e1, rfl⟩ := e; rw [← e1, mu_s]; omega
      · rw [mu_n e]; exact h7.2.1
    · by_cases e : 175 = a ∧ t = i
      · obtain ⟨e1, rfl⟩ := e; rw [← e1, mu_s]; omega
      · rw [mu_n e]; exact h7.2.2
  · rw [mu_nc (show 179 ≠ a by omega), mu_nc (show 179 ≠ a by omega)]
    by_cases e : 177 = a ∧ t = i
    · obtain ⟨e1, rfl⟩ := e
      rw [← e1, mu_s] at hk
      omega
    · rw [mu_n e] at hk; exact h6 t k ht hk
/-- a stop more -/
theorem MR_stop {M : xMm} (h : MR M) {t : Nat} {s m : Int} (ht : t < 16) (h7 : M 177 t < 8) (hs : 0 ≤ s ∧ s ≤ 9) (hm : 0 ≤ m ∧ m ≤ 1439) (hup : 0 < M 177 t → M 179 (8 * t + (M 177 t).toNat - 1) < m) : MR (mu (mu (mu M 178 (8 * t + (M 177 t).toNat) s) 179 (8 * t + (M 177 t).toNat) m) 177 t (M 177 t + 1)) := by
  obtain ⟨h1, h2, h3, h4, h5, h6⟩ := h
  have h8 := (h4 t ht).1
  have e177 : ∀ x, mu (mu (mu M 178 (8 * t + (M 177 t).toNat) s) 179 (8 * t + (M 177 t).toNat) m) 177 t (M 177 t + 1) 177 x = if x = t then M 177 t + 1 else M 177 x := fun x => by
    by_cases e : x = t
    · subst e; rw [mu_s, if_pos rfl]
    · rw [mu_nf e, mu_nc (by decide), mu_nc (by decide), if_neg e]
  have e179 : ∀ x, mu (mu (mu M 178 (8 * t + (M 177 t).toNat) s) 179 (8 * t + (M 177 t).toNat) m) 177 t (M 177 t + 1) 179 x = if x = 8 * t + (M 177 t).toNat then m else M 179 x := fun x => by
    rw [mu_nc (by decide)]
    by_cases e : x = 8 * t + (M 177 t).toNat
    · subst e; rw [mu_s, if_pos rfl]
    · rw [mu_nf e, mu_nc (by decide), if_neg e]
  refine ⟨by rw [mu_nc (by decide), mu_nc (by decide), mu_nc (by decide)]; exact h1, fun k hk => by rw [mu_nc (by decide), mu_nc (by decide), mu_nc (by decide)]; exact h2 k hk, fun k hk => by rw [mu_nc (by decide), mu_nc (by decide), mu_nc (by decide)]; exact h3 k hk, fun x hx => ?_, fun j hj => ?_, fun x k hx hk => ?_⟩
  · refine ⟨?_, by rw [mu_nc (by decide), mu_nc (by decide), mu_nc (by decide)]; exact (h4 x hx).2.1, by rw [mu_nc (by decide), mu_nc (by decide), mu_nc (by decide)]; exact (h4 x hx).2.2⟩
    rw [e177]
    have := (h4 x hx).1
    split <;> omega
  · refine ⟨?_, ?_⟩
    · rw [mu_nc (by decide), mu_nc (by decide)]
      by_cases e : j = 8 * t + (M 177 t).toNat
      · subst e; rw [mu_s]; exact hs
      · rw [mu_nf e]; exact (h5 j hj).1
    · rw [e179]
      have := (h5 j hj).2
      split <;> omega
  · rw [e177] at hk
    rw [e179, e179]
    have hx8 := (h4 x hx).1
    by_cases ex : x = t
    · subst ex
      rw [if_pos rfl] at hk
      rw [if_neg (by omega)]
      by_cases ek : (k : Int) + 1 = M 177 x
      · rw [if_pos (by omega)]
        have := hup (by omega)
        rw [show 8 * x + (M 177 x).toNat - 1 = 8 * x + k by omega] at this
        exact this
      · rw [if_neg (by omega)]
        exact h6 x k hx (by omega)
    · rw [if_neg ex] at hk
      rw [if_neg (by omega), if_neg (by omega)]
      exact h6 x k hx hk

theorem dX12_wrong_0 : decode cX12_wrong 0 = .ok (.aload_n 0, 1) := by decide +kernel
theorem dX12_wrong_1 : decode cX12_wrong 1 = .ok (.aload_n 0, 1) := by decide +kernel
theorem dX12_wrong_2 : decode cX12_wrong 2 = .ok (.getfield 27, 3) := by decide +kernel
theorem dX12_wrong_5 : decode cX12_wrong 5 = .ok (.iconst 1, 1) := by decide +kernel
theorem dX12_wrong_6 : decode cX12_wrong 6 = .ok (.if_icmp .ne 7, 3) := by decide +kernel
theorem dX12_wrong_9 : decode cX12_wrong 9 = .ok (.iconst 1, 1) := by decide +kernel
theorem dX12_wrong_10 : decode cX12_wrong 10 = .ok (.goto 4, 3) := by decide +kernel
theorem dX12_wrong_13 : decode cX12_wrong 13 = .ok (.iconst 2, 1) := by decide +kernel
theorem dX12_wrong_14 : decode cX12_wrong 14 = .ok (.aload_n 0, 1) := by decide +kernel
theorem dX12_wrong_15 : decode cX12_wrong 15 = .ok (.getfield 20, 3) := by decide +kernel
theorem dX12_wrong_18 : decode cX12_wrong 18 = .ok (.invokevirtual 50, 3) := by decide +kernel
theorem dX12_wrong_21 : decode cX12_wrong 21 = .ok (.return_, 1) := by decide +kernel
set_option maxHeartbeats 4000000 in
set_option maxRecDepth 20000 in
theorem c_X12_wrong (l : Launch) (b : Nat) (D : va_G) (cy : Nat → ClassId) {tt : Nat} {M : xMm}  (hJ : JM M) : xC l b D cy yX12_wrong cX12_wrong 1 none ({ frames := 1, cells := 0, slots := 0, locals := 22 }) [xr 172] 209 M (RS tt) (xPv 209 (RS tt) (fun M' => JM M' ∧ 0 < M' 172 4 ∧ frK 4 M' M)) := by
  refine x_met (by decide) (Nat.le_of_ble_eq_true rfl) (fun g hg hr he => ?_)
  have hJN := hJ.1
  have h8 := hJN.2.2.2.1
  have h4 := hJN.2.2.1
  have h9 := hJN.2.2.2.2.1
  have hnm := hJN.2.2.2.2.2
  have h6 := hJ.2.1
  have h7 := hJ.2.2
  have hsz := hJN.2.1
  refine x_canon (ls' := [(0, _)]) rfl ?_
  refine x_aload_n hg dX12_wrong_0 rfl ?_
  refine x_aload_n hg dX12_wrong_1 rfl ?_
  refine x_getI hg dX12_wrong_2 fl_X12_27 (by decide) rfl ?_
  refine x_iconst hg dX12_wrong_5 ?_
  refine x_icmp_ne (tgt := 13) hg dX12_wrong_6 (by decide) (by omega) (by omega) (fun c6 => ?_) (fun c6 => ?_)
  · skip
    refine x_iconst hg dX12_wrong_13 ?_
    refine x_aload_n hg dX12_wrong_14 rfl ?_
    refine x_getI hg dX12_wrong_15 fl_X12_20 (by decide) rfl ?_
    refine x_cVv hg he [_, _] [] dX12_wrong_18 mv_X12_50 (c_X12_fails l b D cy hJN (by omega)) (by decide) rfl rfl (Nat.le_of_ble_eq_true rfl) (by decide) (by decide) (fun M18 q18 => ?_)
    obtain ⟨hJ18, hg18, hk18, hq18⟩ := q18
    refine x_vret hg hr dX12_wrong_21 (Nat.le_refl _) (Nat.le_refl _) ?_
    exact ⟨rfl, rfl, rfl, ⟨hJ18, by rw [hq18 6 (by omega), hk18.2 3 (by omega)]; exact h6, by rw [hq18 7 (by omega), hk18.2 3 (by omega)]; exact h7⟩, hg18, hk18⟩
  · skip
    refine x_iconst hg dX12_wrong_9 ?_
    refine x_goto (tgt := 14) hg dX12_wrong_10 (by decide) ?_
    refine x_aload_n hg dX12_wrong_14 rfl ?_
    refine x_getI hg dX12_wrong_15 fl_X12_20 (by decide) rfl ?_
    refine x_cVv hg he [_, _] [] dX12_wrong_18 mv_X12_50 (c_X12_fails l b D cy hJN (by omega)) (by decide) rfl rfl (Nat.le_of_ble_eq_true rfl) (by decide) (by decide) (fun M18 q18 => ?_)
    obtain ⟨hJ18, hg18, hk18, hq18⟩ := q18
    refine x_vret hg hr dX12_wrong_21 (Nat.le_refl _) (Nat.le_refl _) ?_
    exact ⟨rfl, rfl, rfl, ⟨hJ18, by rw [hq18 6 (by omega), hk18.2 3 (by omega)]; exact h6, by rw [hq18 7 (by omega), hk18.2 3 (by omega)]; exact h7⟩, hg18, hk18⟩

theorem dX12_must_0 : decode cX12_must 0 = .ok (.aload_n 0, 1) := by decide +kernel
theorem dX12_must_1 : decode cX12_must 1 = .ok (.invokevirtual 54, 3) := by decide +kernel
theorem dX12_must_4 : decode cX12_must 4 = .ok (.ifCond .ne 4, 3) := by decide +kernel
theorem dX12_must_7 : decode cX12_must 7 = .ok (.return_, 1) := by decide +kernel
theorem dX12_must_8 : decode cX12_must 8 = .ok (.iload_n 1, 1) := by decide +kernel
theorem dX12_must_9 : decode cX12_must 9 = .ok (.ifCond .eq 10, 3) := by decide +kernel
theorem dX12_must_12 : decode cX12_must 12 = .ok (.aload_n 0, 1) := by decide +kernel
theorem dX12_must_13 : decode cX12_must 13 = .ok (.invokevirtual 58, 3) := by decide +kernel
theorem dX12_must_16 : decode cX12_must 16 = .ok (.goto 7, 3) := by decide +kernel
theorem dX12_must_19 : decode cX12_must 19 = .ok (.aload_n 0, 1) := by decide +kernel
theorem dX12_must_20 : decode cX12_must 20 = .ok (.invokevirtual 62, 3) := by decide +kernel
theorem dX12_must_23 : decode cX12_must 23 = .ok (.return_, 1) := by decide +kernel
set_option maxHeartbeats 4000000 in
set_option maxRecDepth 20000 in
theorem c_X12_must (l : Launch) (b : Nat) (D : va_G) (cy : Nat → ClassId) {tt : Nat} {M : xMm} {z : Int} (hJ : JM M) (hz : z = 0 ∨ z = 1) : xC l b D cy yX12_must cX12_must 2 none ({ frames := 2, cells := 0, slots := 0, locals := 43 }) [xr 172, xi z] 209 M (RS tt) (xPv 209 (RS tt) (fun M' => JM M' ∧ (M' 172 4 = 0 → M 172 4 = 0) ∧ frK 4 M' M)) := by
  refine x_met (by decide) (Nat.le_of_ble_eq_true rfl) (fun g hg hr he => ?_)
  have hJN := hJ.1
  have h8 := hJN.2.2.2.1
  have h4 := hJN.2.2.1
  have h9 := hJN.2.2.2.2.1
  have hnm := hJN.2.2.2.2.2
  have h6 := hJ.2.1
  have h7 := hJ.2.2
  have hsz := hJN.2.1
  refine x_canon (ls' := [(0, _), (1, _)]) rfl ?_
  refine x_aload_n hg dX12_must_0 rfl ?_
  refine x_cVi hg he [] [] dX12_must_1 mv_X12_54 (c_X12_isGood l b D cy hJN) (by decide) rfl rfl (Nat.le_of_ble_eq_true rfl) (by decide) (by decide) (fun r1 M1 q1 => ?_)
  obtain ⟨h1, e1⟩ := q1
  replace h1 := h1.symm
  subst h1
  refine x_if_ne (tgt := 8) hg dX12_must_4 (by decide) (by omega) (fun c4 => ?_) (fun c4 => ?_)
  · skip
    refine x_iload_n hg dX12_must_8 rfl ?_
    refine x_if_eq (tgt := 19) hg dX12_must_9 (by decide) (by omega) (fun c9 => ?_) (fun c9 => ?_)
    · skip
      refine x_aload_n hg dX12_must_19 rfl ?_
      refine x_cVv hg he [] [] dX12_must_20 mv_X12_62 (c_X12_wrong l b D cy hJ) (by decide) rfl rfl (Nat.le_of_ble_eq_true rfl) (by decide) (by decide) (fun M20 q20 => ?_)
      obtain ⟨hJ20, hg20, hk20⟩ := q20
      refine x_vret hg hr dX12_must_23 (Nat.le_refl _) (Nat.le_refl _) ?_
      first | exact ⟨rfl, rfl, rfl, hJ13, fun _ => by omega, frK_lo hk13 (by omega)⟩ | exact ⟨rfl, rfl, rfl, hJ20, fun _ => by omega, hk20⟩ | exact ⟨rfl, rfl, rfl, hJ, fun h => h, frK_rf 4 M⟩
    · skip
      refine x_aload_n hg dX12_must_12 rfl ?_
      refine x_cVv hg he [] [] dX12_must_13 mv_X12_58 (c_X12_next l b D cy hJN (by omega)) (by decide) rfl rfl (Nat.le_of_ble_eq_true rfl) (by decide) (by decide) (fun M13 q13 => ?_)
      obtain ⟨hJ13, hk13⟩ := q13
      refine x_goto (tgt := 23) hg dX12_must_16 (by decide) ?_
      refine x_vret hg hr dX12_must_23 (Nat.le_refl _) (Nat.le_refl _) ?_
      first | exact ⟨rfl, rfl, rfl, hJ13, fun _ => by omega, frK_lo hk13 (by omega)⟩ | exact ⟨rfl, rfl, rfl, hJ20, fun _ => by omega, hk20⟩ | exact ⟨rfl, rfl, rfl, hJ, fun h => h, frK_rf 4 M⟩
  · skip
    refine x_vret hg hr dX12_must_7 (Nat.le_refl _) (Nat.le_refl _) ?_
    first | exact ⟨rfl, rfl, rfl, hJ13, fun _ => by omega, frK_lo hk13 (by omega)⟩ | exact ⟨rfl, rfl, rfl, hJ20, fun _ => by omega, hk20⟩ | exact ⟨rfl, rfl, rfl, hJ, fun h => h, frK_rf 4 M⟩

theorem dX12_mustWord_0 : decode cX12_mustWord 0 = .ok (.aload_n 0, 1) := by decide +kernel
theorem dX12_mustWord_1 : decode cX12_mustWord 1 = .ok (.aload_n 0, 1) := by decide +kernel
theorem dX12_mustWord_2 : decode cX12_mustWord 2 = .ok (.getfield 27, 3) := by decide +kernel
theorem dX12_mustWord_5 : decode cX12_mustWord 5 = .ok (.iconst 3, 1) := by decide +kernel
theorem dX12_mustWord_6 : decode cX12_mustWord 6 = .ok (.if_icmp .ne 16, 3) := by decide +kernel
theorem dX12_mustWord_9 : decode cX12_mustWord 9 = .ok (.aload_n 0, 1) := by decide +kernel
theorem dX12_mustWord_10 : decode cX12_mustWord 10 = .ok (.getfield 34, 3) := by decide +kernel
theorem dX12_mustWord_13 : decode cX12_mustWord 13 = .ok (.lload_n 1, 1) := by decide +kernel
theorem dX12_mustWord_14 : decode cX12_mustWord 14 = .ok (.lcmp, 1) := by decide +kernel
theorem dX12_mustWord_15 : decode cX12_mustWord 15 = .ok (.ifCond .ne 7, 3) := by decide +kernel
theorem dX12_mustWord_18 : decode cX12_mustWord 18 = .ok (.iconst 1, 1) := by decide +kernel
theorem dX12_mustWord_19 : decode cX12_mustWord 19 = .ok (.goto 4, 3) := by decide +kernel
theorem dX12_mustWord_22 : decode cX12_mustWord 22 = .ok (.iconst 0, 1) := by decide +kernel
theorem dX12_mustWord_23 : decode cX12_mustWord 23 = .ok (.invokevirtual 65, 3) := by decide +kernel
theorem dX12_mustWord_26 : decode cX12_mustWord 26 = .ok (.return_, 1) := by decide +kernel
set_option maxHeartbeats 4000000 in
set_option maxRecDepth 20000 in
theorem c_X12_mustWord (l : Launch) (b : Nat) (D : va_G) (cy : Nat → ClassId) {tt : Nat} {M : xMm} {z : Int} (hJ : JM M) (hz : inL z) : xC l b D cy yX12_mustWord cX12_mustWord 3 none ({ frames := 3, cells := 0, slots := 0, locals := 64 }) [xr 172, xl z] 209 M (RS tt) (xPv 209 (RS tt) (fun M' => JM M' ∧ (M' 172 4 = 0 → M 172 4 = 0) ∧ frK 4 M' M)) := by
  refine x_met (by decide) (Nat.le_of_ble_eq_true rfl) (fun g hg hr he => ?_)
  have hJN := hJ.1
  have h8 := hJN.2.2.2.1
  have h4 := hJN.2.2.1
  have h9 := hJN.2.2.2.2.1
  have hnm := hJN.2.2.2.2.2
  have h6 := hJ.2.1
  have h7 := hJ.2.2
  have hsz := hJN.2.1
  refine x_canon (ls' := [(0, _), (1, _)]) rfl ?_
  refine x_aload_n hg dX12_mustWord_0 rfl ?_
  refine x_aload_n hg dX12_mustWord_1 rfl ?_
  refine x_getI hg dX12_mustWord_2 fl_X12_27 (by decide) rfl ?_
  refine x_iconst hg dX12_mustWord_5 ?_
  refine x_icmp_ne (tgt := 22) hg dX12_mustWord_6 (by decide) (by omega) (by omega) (fun c6 => ?_) (fun c6 => ?_)
  · skip
    refine x_iconst hg dX12_mustWord_22 ?_
    refine x_cVv hg he [_] [] dX12_mustWord_23 mv_X12_65 (c_X12_must l b D cy hJ (by omega)) (by decide) rfl rfl (Nat.le_of_ble_eq_true rfl) (by decide) (by decide) (fun M23 q23 => ?_)
    obtain ⟨hJ23, hg23, hk23⟩ := q23
    refine x_vret hg hr dX12_mustWord_26 (Nat.le_refl _) (Nat.le_refl _) ?_
    exact ⟨rfl, rfl, rfl, hJ23, hg23, hk23⟩
  · skip
    refine x_aload_n hg dX12_mustWord_9 rfl ?_
    refine x_getL hg dX12_mustWord_10 fl_X12_34 (by decide) rfl ?_
    refine x_lload_n hg dX12_mustWord_13 rfl ?_
    refine x_lcmp hg dX12_mustWord_14 (by exact hnm) (by exact hz) ?_
    refine x_if_ne (tgt := 22) hg dX12_mustWord_15 (by decide) (by split <;> (try split) <;> omega) (fun c15 => ?_) (fun c15 => ?_)
    · skip
      refine x_iconst hg dX12_mustWord_22 ?_
      refine x_cVv hg he [_] [] dX12_mustWord_23 mv_X12_65 (c_X12_must l b D cy hJ (by omega)) (by decide) rfl rfl (Nat.le_of_ble_eq_true rfl) (by decide) (by decide) (fun M23 q23 => ?_)
      obtain ⟨hJ23, hg23, hk23⟩ := q23
      refine x_vret hg hr dX12_mustWord_26 (Nat.le_refl _) (Nat.le_refl _) ?_
      exact ⟨rfl, rfl, rfl, hJ23, hg23, hk23⟩
    · skip
      refine x_iconst hg dX12_mustWord_18 ?_
      refine x_goto (tgt := 23) hg dX12_mustWord_19 (by decide) ?_
      refine x_cVv hg he [_] [] dX12_mustWord_23 mv_X12_65 (c_X12_must l b D cy hJ (by omega)) (by decide) rfl rfl (Nat.le_of_ble_eq_true rfl) (by decide) (by decide) (fun M23 q23 => ?_)
      obtain ⟨hJ23, hg23, hk23⟩ := q23
      refine x_vret hg hr dX12_mustWord_26 (Nat.le_refl _) (Nat.le_refl _) ?_
      exact ⟨rfl, rfl, rfl, hJ23, hg23, hk23⟩

theorem dX12_numeral_0 : decode cX12_numeral 0 = .ok (.aload_n 0, 1) := by decide +kernel
theorem dX12_numeral_1 : decode cX12_numeral 1 = .ok (.invokevirtual 54, 3) := by decide +kernel
theorem dX12_numeral_4 : decode cX12_numeral 4 = .ok (.ifCond .ne 5, 3) := by decide +kernel
theorem dX12_numeral_7 : decode cX12_numeral 7 = .ok (.iconst 0, 1) := by decide +kernel
theorem dX12_numeral_8 : decode cX12_numeral 8 = .ok (.ireturn, 1) := by decide +kernel
theorem dX12_numeral_9 : decode cX12_numeral 9 = .ok (.aload_n 0, 1) := by decide +kernel
theorem dX12_numeral_10 : decode cX12_numeral 10 = .ok (.getfield 27, 3) := by decide +kernel
theorem dX12_numeral_13 : decode cX12_numeral 13 = .ok (.iconst 4, 1) := by decide +kernel
theorem dX12_numeral_14 : decode cX12_numeral 14 = .ok (.if_icmp .eq 7, 3) := by decide +kernel
theorem dX12_numeral_17 : decode cX12_numeral 17 = .ok (.aload_n 0, 1) := by decide +kernel
theorem dX12_numeral_18 : decode cX12_numeral 18 = .ok (.invokevirtual 62, 3) := by decide +kernel
theorem dX12_numeral_21 : decode cX12_numeral 21 = .ok (.aload_n 0, 1) := by decide +kernel
theorem dX12_numeral_22 : decode cX12_numeral 22 = .ok (.invokevirtual 54, 3) := by decide +kernel
theorem dX12_numeral_25 : decode cX12_numeral 25 = .ok (.ifCond .eq 20, 3) := by decide +kernel
theorem dX12_numeral_28 : decode cX12_numeral 28 = .ok (.aload_n 0, 1) := by decide +kernel
theorem dX12_numeral_29 : decode cX12_numeral 29 = .ok (.getfield 47, 3) := by decide +kernel
theorem dX12_numeral_32 : decode cX12_numeral 32 = .ok (.iload_n 1, 1) := by decide +kernel
theorem dX12_numeral_33 : decode cX12_numeral 33 = .ok (.if_icmp .le 12, 3) := by decide +kernel
theorem dX12_numeral_36 : decode cX12_numeral 36 = .ok (.aload_n 0, 1) := by decide +kernel
theorem dX12_numeral_37 : decode cX12_numeral 37 = .ok (.iconst 4, 1) := by decide +kernel
theorem dX12_numeral_38 : decode cX12_numeral 38 = .ok (.aload_n 0, 1) := by decide +kernel
theorem dX12_numeral_39 : decode cX12_numeral 39 = .ok (.getfield 20, 3) := by decide +kernel
theorem dX12_numeral_42 : decode cX12_numeral 42 = .ok (.invokevirtual 50, 3) := by decide +kernel
theorem dX12_numeral_45 : decode cX12_numeral 45 = .ok (.aload_n 0, 1) := by decide +kernel
theorem dX12_numeral_46 : decode cX12_numeral 46 = .ok (.getfield 47, 3) := by decide +kernel
theorem dX12_numeral_49 : decode cX12_numeral 49 = .ok (.istore_n 2, 1) := by decide +kernel
theorem dX12_numeral_50 : decode cX12_numeral 50 = .ok (.aload_n 0, 1) := by decide +kernel
theorem dX12_numeral_51 : decode cX12_numeral 51 = .ok (.invokevirtual 54, 3) := by decide +kernel
theorem dX12_numeral_54 : decode cX12_numeral 54 = .ok (.ifCond .eq 7, 3) := by decide +kernel
theorem dX12_numeral_57 : decode cX12_numeral 57 = .ok (.aload_n 0, 1) := by decide +kernel
theorem dX12_numeral_58 : decode cX12_numeral 58 = .ok (.invokevirtual 58, 3) := by decide +kernel
theorem dX12_numeral_61 : decode cX12_numeral 61 = .ok (.iload_n 2, 1) := by decide +kernel
theorem dX12_numeral_62 : decode cX12_numeral 62 = .ok (.ireturn, 1) := by decide +kernel
set_option maxHeartbeats 4000000 in
set_option maxRecDepth 20000 in
theorem c_X12_numeral (l : Launch) (b : Nat) (D : va_G) (cy : Nat → ClassId) {tt : Nat} {M : xMm} {z : Int} (hJ : JM M) (hz : 0 ≤ z ∧ z ≤ 9999) : xC l b D cy yX12_numeral cX12_numeral 3 (some .int) ({ frames := 2, cells := 0, slots := 0, locals := 43 }) [xr 172, xi z] 209 M (RS tt) (xPi 209 (RS tt) (fun r M' => (0 ≤ r ∧ r ≤ 9999) ∧ (M' 172 4 = 0 → r ≤ z) ∧ JM M' ∧ (M' 172 4 = 0 → M 172 4 = 0) ∧ frK 4 M' M)) := by
  refine x_met (by decide) (Nat.le_of_ble_eq_true rfl) (fun g hg hr he => ?_)
  have hJN := hJ.1
  have h8 := hJN.2.2.2.1
  have h4 := hJN.2.2.1
  have h9 := hJN.2.2.2.2.1
  have hnm := hJN.2.2.2.2.2
  have h6 := hJ.2.1
  have h7 := hJ.2.2
  have hsz := hJN.2.1
  refine x_canon (ls' := [(0, _), (1, _)]) rfl ?_
  have j45 : ∀ (M1 : xMm) (hJ1 : JM M1) (hk1 : frK 4 M1 M) (hg1 : M1 172 4 = 0 → M 172 4 = 0) (hb1 : M1 172 4 = 0 → M1 172 9 ≤ z), xW g 209 M1 (RS tt) 0 0 45 [(0, xr 172), (1, xi z)] [] := by
    intro M1 hJ1 hk1 hg1 hb1
    have h91 := hJ1.1.2.2.2.2.1
    have h71 := hJ1.2.2
    refine x_aload_n hg dX12_numeral_45 rfl ?_
    refine x_getI hg dX12_numeral_46 fl_X12_47 (by decide) rfl ?_
    refine x_istore_n (ls' := [(0, _), (1, _), (2, _)]) hg dX12_numeral_49 rfl (by decide) rfl ?_
    refine x_aload_n hg dX12_numeral_50 rfl ?_
    refine x_cVi hg he [] [] dX12_numeral_51 mv_X12_54 (c_X12_isGood l b D cy hJ1.1) (by decide) rfl rfl (Nat.le_of_ble_eq_true rfl) (by decide) (by decide) (fun r51 M51 q51 => ?_)
    obtain ⟨h51, e51⟩ := q51
    replace h51 := h51.symm
    subst h51
    refine x_if_eq (tgt := 61) hg dX12_numeral_54 (by decide) (by omega) (fun c54 => ?_) (fun c54 => ?_)
    · skip
      refine x_iload_n hg dX12_numeral_61 rfl ?_
      refine x_iret hg hr (Or.inl rfl) dX12_numeral_62 (Nat.le_refl _) (Nat.le_refl _) ?_
      first | exact ⟨rfl, rfl, _, rfl, by omega, by omega, hJ1, hg1, hk1⟩ | exact ⟨rfl, rfl, _, rfl, by omega, fun _ => by omega, hJ58, fun _ => by omega, frK_tr (frK_lo hk58 (by omega)) hk1⟩
    · skip
      refine x_aload_n hg dX12_numeral_57 rfl ?_
      refine x_cVv hg he [] [] dX12_numeral_58 mv_X12_58 (c_X12_next l b D cy hJ1.1 h71) (by decide) rfl rfl (Nat.le_of_ble_eq_true rfl) (by decide) (by decide) (fun M58 q58 => ?_)
      obtain ⟨hJ58, hk58⟩ := q58
      refine x_iload_n hg dX12_numeral_61 rfl ?_
      refine x_iret hg hr (Or.inl rfl) dX12_numeral_62 (Nat.le_refl _) (Nat.le_refl _) ?_
      first | exact ⟨rfl, rfl, _, rfl, by omega, by omega, hJ1, hg1, hk1⟩ | exact ⟨rfl, rfl, _, rfl, by omega, fun _ => by omega, hJ58, fun _ => by omega, frK_tr (frK_lo hk58 (by omega)) hk1⟩
  have j21 : ∀ (M1 : xMm) (hJ1 : JM M1) (hk1 : frK 4 M1 M) (hg1 : M1 172 4 = 0 → M 172 4 = 0), xW g 209 M1 (RS tt) 0 0 21 [(0, xr 172), (1, xi z)] [] := by
    intro M1 hJ1 hk1 hg1
    have h91 := hJ1.1.2.2.2.2.1
    have h61 := hJ1.2.1
    have h71 := hJ1.2.2
    refine x_aload_n hg dX12_numeral_21 rfl ?_
    refine x_cVi hg he [] [] dX12_numeral_22 mv_X12_54 (c_X12_isGood l b D cy hJ1.1) (by decide) rfl rfl (Nat.le_of_ble_eq_true rfl) (by decide) (by decide) (fun r22 M22 q22 => ?_)
    obtain ⟨h22, e22⟩ := q22
    replace h22 := h22.symm
    subst h22
    refine x_if_eq (tgt := 45) hg dX12_numeral_25 (by decide) (by omega) (fun c25 => ?_) (fun c25 => ?_)
    · skip
      first | exact j45 M1 hJ1 hk1 hg1 (by omega) | exact j45 M42 ⟨hJ42, by rw [hq42 6 (by omega), hk42.2 3 (by omega)]; exact h61, by rw [hq42 7 (by omega), hk42.2 3 (by omega)]; exact h71⟩ (frK_tr hk42 hk1) (by omega) (by omega)
    · skip
      refine x_aload_n hg dX12_numeral_28 rfl ?_
      refine x_getI hg dX12_numeral_29 fl_X12_47 (by decide) rfl ?_
      refine x_iload_n hg dX12_numeral_32 rfl ?_
      refine x_icmp_le (tgt := 45) hg dX12_numeral_33 (by decide) (by omega) (by omega) (fun c33 => ?_) (fun c33 => ?_)
      · skip
        first | exact j45 M1 hJ1 hk1 hg1 (by omega) | exact j45 M42 ⟨hJ42, by rw [hq42 6 (by omega), hk42.2 3 (by omega)]; exact h61, by rw [hq42 7 (by omega), hk42.2 3 (by omega)]; exact h71⟩ (frK_tr hk42 hk1) (by omega) (by omega)
      · skip
        refine x_aload_n hg dX12_numeral_36 rfl ?_
        refine x_iconst hg dX12_numeral_37 ?_
        refine x_aload_n hg dX12_numeral_38 rfl ?_
        refine x_getI hg dX12_numeral_39 fl_X12_20 (by decide) rfl ?_
        refine x_cVv hg he [_, _] [] dX12_numeral_42 mv_X12_50 (c_X12_fails l b D cy hJ1.1 (by omega)) (by decide) rfl rfl (Nat.le_of_ble_eq_true rfl) (by decide) (by decide) (fun M42 q42 => ?_)
        obtain ⟨hJ42, hg42, hk42, hq42⟩ := q42
        first | exact j45 M1 hJ1 hk1 hg1 (by omega) | exact j45 M42 ⟨hJ42, by rw [hq42 6 (by omega), hk42.2 3 (by omega)]; exact h61, by rw [hq42 7 (by omega), hk42.2 3 (by omega)]; exact h71⟩ (frK_tr hk42 hk1) (by omega) (by omega)
  refine x_aload_n hg dX12_numeral_0 rfl ?_
  refine x_cVi hg he [] [] dX12_numeral_1 mv_X12_54 (c_X12_isGood l b D cy hJN) (by decide) rfl rfl (Nat.le_of_ble_eq_true rfl) (by decide) (by decide) (fun r1 M1 q1 => ?_)
  obtain ⟨h1, e1⟩ := q1
  replace h1 := h1.symm
  subst h1
  refine x_if_ne (tgt := 9) hg dX12_numeral_4 (by decide) (by omega) (fun c4 => ?_) (fun c4 => ?_)
  · skip
    refine x_aload_n hg dX12_numeral_9 rfl ?_
    refine x_getI hg dX12_numeral_10 fl_X12_27 (by decide) rfl ?_
    refine x_iconst hg dX12_numeral_13 ?_
    refine x_icmp_eq (tgt := 21) hg dX12_numeral_14 (by decide) (by omega) (by omega) (fun c14 => ?_) (fun c14 => ?_)
    · skip
      first | exact j21 M hJ (frK_rf 4 M) (fun h => h) | exact j21 M18 hJ18 hk18 (by omega)
    · skip
      refine x_aload_n hg dX12_numeral_17 rfl ?_
      refine x_cVv hg he [] [] dX12_numeral_18 mv_X12_62 (c_X12_wrong l b D cy hJ) (by decide) rfl rfl (Nat.le_of_ble_eq_true rfl) (by decide) (by decide) (fun M18 q18 => ?_)
      obtain ⟨hJ18, hg18, hk18⟩ := q18
      first | exact j21 M hJ (frK_rf 4 M) (fun h => h) | exact j21 M18 hJ18 hk18 (by omega)
  · skip
    refine x_iconst hg dX12_numeral_7 ?_
    refine x_iret hg hr (Or.inl rfl) dX12_numeral_8 (Nat.le_refl _) (Nat.le_refl _) ?_
    exact ⟨rfl, rfl, _, rfl, by omega, by omega, hJ, fun h => h, frK_rf 4 M⟩

theorem dX12_readStop_0 : decode cX12_readStop 0 = .ok (.aload_n 0, 1) := by decide +kernel
theorem dX12_readStop_1 : decode cX12_readStop 1 = .ok (.getfield 20, 3) := by decide +kernel
theorem dX12_readStop_4 : decode cX12_readStop 4 = .ok (.istore_n 2, 1) := by decide +kernel
theorem dX12_readStop_5 : decode cX12_readStop 5 = .ok (.bipush 8, 2) := by decide +kernel
theorem dX12_readStop_7 : decode cX12_readStop 7 = .ok (.iload_n 1, 1) := by decide +kernel
theorem dX12_readStop_8 : decode cX12_readStop 8 = .ok (.imul, 1) := by decide +kernel
theorem dX12_readStop_9 : decode cX12_readStop 9 = .ok (.istore_n 3, 1) := by decide +kernel
theorem dX12_readStop_10 : decode cX12_readStop 10 = .ok (.iload_n 3, 1) := by decide +kernel
theorem dX12_readStop_11 : decode cX12_readStop 11 = .ok (.aload_n 0, 1) := by decide +kernel
theorem dX12_readStop_12 : decode cX12_readStop 12 = .ok (.getfield 108, 3) := by decide +kernel
theorem dX12_readStop_15 : decode cX12_readStop 15 = .ok (.iload_n 1, 1) := by decide +kernel
theorem dX12_readStop_16 : decode cX12_readStop 16 = .ok (.iaload, 1) := by decide +kernel
theorem dX12_readStop_17 : decode cX12_readStop 17 = .ok (.iadd, 1) := by decide +kernel
theorem dX12_readStop_18 : decode cX12_readStop 18 = .ok (.istore 4, 2) := by decide +kernel
theorem dX12_readStop_20 : decode cX12_readStop 20 = .ok (.aload_n 0, 1) := by decide +kernel
theorem dX12_readStop_21 : decode cX12_readStop 21 = .ok (.getfield 108, 3) := by decide +kernel
theorem dX12_readStop_24 : decode cX12_readStop 24 = .ok (.iload_n 1, 1) := by decide +kernel
theorem dX12_readStop_25 : decode cX12_readStop 25 = .ok (.iaload, 1) := by decide +kernel
theorem dX12_readStop_26 : decode cX12_readStop 26 = .ok (.bipush 8, 2) := by decide +kernel
theorem dX12_readStop_28 : decode cX12_readStop 28 = .ok (.if_icmp .ne 7, 3) := by decide +kernel
theorem dX12_readStop_31 : decode cX12_readStop 31 = .ok (.aload_n 0, 1) := by decide +kernel
theorem dX12_readStop_32 : decode cX12_readStop 32 = .ok (.invokevirtual 62, 3) := by decide +kernel
theorem dX12_readStop_35 : decode cX12_readStop 35 = .ok (.aload_n 0, 1) := by decide +kernel
theorem dX12_readStop_36 : decode cX12_readStop 36 = .ok (.bipush 9, 2) := by decide +kernel
theorem dX12_readStop_38 : decode cX12_readStop 38 = .ok (.invokevirtual 102, 3) := by decide +kernel
theorem dX12_readStop_41 : decode cX12_readStop 41 = .ok (.istore 5, 2) := by decide +kernel
theorem dX12_readStop_43 : decode cX12_readStop 43 = .ok (.iload_n 3, 1) := by decide +kernel
theorem dX12_readStop_44 : decode cX12_readStop 44 = .ok (.istore 6, 2) := by decide +kernel
theorem dX12_readStop_46 : decode cX12_readStop 46 = .ok (.iload 6, 2) := by decide +kernel
theorem dX12_readStop_48 : decode cX12_readStop 48 = .ok (.iload 4, 2) := by decide +kernel
theorem dX12_readStop_50 : decode cX12_readStop 50 = .ok (.if_icmp .ge 34, 3) := by decide +kernel
theorem dX12_readStop_53 : decode cX12_readStop 53 = .ok (.aload_n 0, 1) := by decide +kernel
theorem dX12_readStop_54 : decode cX12_readStop 54 = .ok (.invokevirtual 54, 3) := by decide +kernel
theorem dX12_readStop_57 : decode cX12_readStop 57 = .ok (.ifCond .eq 27, 3) := by decide +kernel
theorem dX12_readStop_60 : decode cX12_readStop 60 = .ok (.aload_n 0, 1) := by decide +kernel
theorem dX12_readStop_61 : decode cX12_readStop 61 = .ok (.getfield 115, 3) := by decide +kernel
theorem dX12_readStop_64 : decode cX12_readStop 64 = .ok (.iload 6, 2) := by decide +kernel
theorem dX12_readStop_66 : decode cX12_readStop 66 = .ok (.iaload, 1) := by decide +kernel
theorem dX12_readStop_67 : decode cX12_readStop 67 = .ok (.iload 5, 2) := by decide +kernel
theorem dX12_readStop_69 : decode cX12_readStop 69 = .ok (.if_icmp .ne 9, 3) := by decide +kernel
theorem dX12_readStop_72 : decode cX12_readStop 72 = .ok (.aload_n 0, 1) := by decide +kernel
theorem dX12_readStop_73 : decode cX12_readStop 73 = .ok (.iconst 3, 1) := by decide +kernel
theorem dX12_readStop_74 : decode cX12_readStop 74 = .ok (.iload_n 2, 1) := by decide +kernel
theorem dX12_readStop_75 : decode cX12_readStop 75 = .ok (.invokevirtual 50, 3) := by decide +kernel
theorem dX12_readStop_78 : decode cX12_readStop 78 = .ok (.iinc 6 1, 3) := by decide +kernel
theorem dX12_readStop_81 : decode cX12_readStop 81 = .ok (.goto (-35), 3) := by decide +kernel
theorem dX12_readStop_84 : decode cX12_readStop 84 = .ok (.aload_n 0, 1) := by decide +kernel
theorem dX12_readStop_85 : decode cX12_readStop 85 = .ok (.ldc2_w 42, 3) := by decide +kernel
theorem dX12_readStop_88 : decode cX12_readStop 88 = .ok (.invokevirtual 91, 3) := by decide +kernel
theorem dX12_readStop_91 : decode cX12_readStop 91 = .ok (.aload_n 0, 1) := by decide +kernel
theorem dX12_readStop_92 : decode cX12_readStop 92 = .ok (.getfield 20, 3) := by decide +kernel
theorem dX12_readStop_95 : decode cX12_readStop 95 = .ok (.istore_n 2, 1) := by decide +kernel
theorem dX12_readStop_96 : decode cX12_readStop 96 = .ok (.aload_n 0, 1) := by decide +kernel
theorem dX12_readStop_97 : decode cX12_readStop 97 = .ok (.sipush 1439, 3) := by decide +kernel
theorem dX12_readStop_100 : decode cX12_readStop 100 = .ok (.invokevirtual 102, 3) := by decide +kernel
theorem dX12_readStop_103 : decode cX12_readStop 103 = .ok (.istore 6, 2) := by decide +kernel
theorem dX12_readStop_105 : decode cX12_readStop 105 = .ok (.aload_n 0, 1) := by decide +kernel
theorem dX12_readStop_106 : decode cX12_readStop 106 = .ok (.invokevirtual 54, 3) := by decide +kernel
theorem dX12_readStop_109 : decode cX12_readStop 109 = .ok (.ifCond .eq 29, 3) := by decide +kernel
theorem dX12_readStop_112 : decode cX12_readStop 112 = .ok (.iload 4, 2) := by decide +kernel
theorem dX12_readStop_114 : decode cX12_readStop 114 = .ok (.iload_n 3, 1) := by decide +kernel
theorem dX12_readStop_115 : decode cX12_readStop 115 = .ok (.if_icmp .le 23, 3) := by decide +kernel
theorem dX12_readStop_118 : decode cX12_readStop 118 = .ok (.iload 6, 2) := by decide +kernel
theorem dX12_readStop_120 : decode cX12_readStop 120 = .ok (.aload_n 0, 1) := by decide +kernel
theorem dX12_readStop_121 : decode cX12_readStop 121 = .ok (.getfield 118, 3) := by decide +kernel
theorem dX12_readStop_124 : decode cX12_readStop 124 = .ok (.iload 4, 2) := by decide +kernel
theorem dX12_readStop_126 : decode cX12_readStop 126 = .ok (.iconst 1, 1) := by decide +kernel
theorem dX12_readStop_127 : decode cX12_readStop 127 = .ok (.isub, 1) := by decide +kernel
theorem dX12_readStop_128 : decode cX12_readStop 128 = .ok (.iaload, 1) := by decide +kernel
theorem dX12_readStop_129 : decode cX12_readStop 129 = .ok (.if_icmp .gt 9, 3) := by decide +kernel
theorem dX12_readStop_132 : decode cX12_readStop 132 = .ok (.aload_n 0, 1) := by decide +kernel
theorem dX12_readStop_133 : decode cX12_readStop 133 = .ok (.iconst 4, 1) := by decide +kernel
theorem dX12_readStop_134 : decode cX12_readStop 134 = .ok (.iload_n 2, 1) := by decide +kernel
theorem dX12_readStop_135 : decode cX12_readStop 135 = .ok (.invokevirtual 50, 3) := by decide +kernel
theorem dX12_readStop_138 : decode cX12_readStop 138 = .ok (.aload_n 0, 1) := by decide +kernel
theorem dX12_readStop_139 : decode cX12_readStop 139 = .ok (.invokevirtual 54, 3) := by decide +kernel
theorem dX12_readStop_142 : decode cX12_readStop 142 = .ok (.ifCond .ne 4, 3) := by decide +kernel
theorem dX12_readStop_145 : decode cX12_readStop 145 = .ok (.return_, 1) := by decide +kernel
theorem dX12_readStop_146 : decode cX12_readStop 146 = .ok (.aload_n 0, 1) := by decide +kernel
theorem dX12_readStop_147 : decode cX12_readStop 147 = .ok (.getfield 115, 3) := by decide +kernel
theorem dX12_readStop_150 : decode cX12_readStop 150 = .ok (.iload 4, 2) := by decide +kernel
theorem dX12_readStop_152 : decode cX12_readStop 152 = .ok (.iload 5, 2) := by decide +kernel
theorem dX12_readStop_154 : decode cX12_readStop 154 = .ok (.iastore, 1) := by decide +kernel
theorem dX12_readStop_155 : decode cX12_readStop 155 = .ok (.aload_n 0, 1) := by decide +kernel
theorem dX12_readStop_156 : decode cX12_readStop 156 = .ok (.getfield 118, 3) := by decide +kernel
theorem dX12_readStop_159 : decode cX12_readStop 159 = .ok (.iload 4, 2) := by decide +kernel
theorem dX12_readStop_161 : decode cX12_readStop 161 = .ok (.iload 6, 2) := by decide +kernel
theorem dX12_readStop_163 : decode cX12_readStop 163 = .ok (.iastore, 1) := by decide +kernel
theorem dX12_readStop_164 : decode cX12_readStop 164 = .ok (.aload_n 0, 1) := by decide +kernel
theorem dX12_readStop_165 : decode cX12_readStop 165 = .ok (.getfield 108, 3) := by decide +kernel
theorem dX12_readStop_168 : decode cX12_readStop 168 = .ok (.iload_n 1, 1) := by decide +kernel
theorem dX12_readStop_169 : decode cX12_readStop 169 = .ok (.dup2, 1) := by decide +kernel
theorem dX12_readStop_170 : decode cX12_readStop 170 = .ok (.iaload, 1) := by decide +kernel
theorem dX12_readStop_171 : decode cX12_readStop 171 = .ok (.iconst 1, 1) := by decide +kernel
theorem dX12_readStop_172 : decode cX12_readStop 172 = .ok (.iadd, 1) := by decide +kernel
theorem dX12_readStop_173 : decode cX12_readStop 173 = .ok (.iastore, 1) := by decide +kernel
theorem dX12_readStop_174 : decode cX12_readStop 174 = .ok (.return_, 1) := by decide +kernel
set_option maxHeartbeats 4000000 in
set_option maxRecDepth 20000 in
theorem c_X12_readStop (l : Launch) (b : Nat) (D : va_G) (cy : Nat → ClassId) {tt : Nat} {M : xMm} {z : Int} (hJ : JM M) (hR : MR M) (hz : 0 ≤ z ∧ z ≤ 15) : xC l b D cy yX12_readStop cX12_readStop 7 none ({ frames := 4, cells := 0, slots := 0, locals := 86 }) [xr 172, xi z] 209 M (RS tt) (xPv 209 (RS tt) (fun M' => JM M' ∧ MR M' ∧ (M' 172 4 = 0 → M 172 4 = 0) ∧ (M' 172 4 = 0 → M' 177 z.toNat = M 177 z.toNat + 1) ∧ frX M' M ∧ M' 172 18 = M 172 18 ∧ M' 172 19 = M 172 19 ∧ (∀ x, x ≠ z.toNat → M' 177 x = M 177 x) ∧ M' 180 = M 180)) := by
  refine x_met (by decide) (Nat.le_of_ble_eq_true rfl) (fun g hg hr he => ?_)
  have hJN := hJ.1
  have h8 := hJN.2.2.2.1
  have h4 := hJN.2.2.1
  have h9 := hJN.2.2.2.2.1
  have hnm := hJN.2.2.2.2.2
  have h6 := hJ.2.1
  have h7 := hJ.2.2
  have hsz := hJN.2.1
  have h177 := (hR.2.2.2.1 z.toNat (by omega)).1
  refine x_canon (ls' := [(0, _), (1, _)]) rfl ?_
  have j138 : ∀ (M1 : xMm) (pl : Int) (hJ1 : JM M1) (hk1 : frK 4 M1 M) (hg1 : M1 172 4 = 0 → M 172 4 = 0 ∧ M 177 z.toNat < 8) (s m : Int) (hs1 : M1 172 4 = 0 → 0 ≤ s ∧ s ≤ 9) (hm1 : M1 172 4 = 0 → 0 ≤ m ∧ m ≤ 1439) (hu1 : M1 172 4 = 0 → 0 < M 177 z.toNat → M 179 (8 * z + M 177 z.toNat - 1).toNat < m), xW g 209 M1 (RS tt) 0 0 138 [(0, xr 172), (1, xi z), (2, xi pl), (3, xi (8 * z)), (4, xi (8 * z + M 177 z.toNat)), (5, xi s), (6, xi m)] [] := by
    intro M1 pl hJ1 hk1 hg1 s m hs1 hm1 hu1
    have a177 : M1 177 = M 177 := hk1.1 177 (by decide)
    have a178 : M1 178 = M 178 := hk1.1 178 (by decide)
    have a179 : M1 179 = M 179 := hk1.1 179 (by decide)
    refine x_aload_n hg dX12_readStop_138 rfl ?_
    refine x_cVi hg he [] [] dX12_readStop_139 mv_X12_54 (c_X12_isGood l b D cy hJ1.1) (by decide) rfl rfl (Nat.le_of_ble_eq_true rfl) (by decide) (by decide) (fun r139 M139 q139 => ?_)
    obtain ⟨h139, e139⟩ := q139
    replace h139 := h139.symm
    subst h139
    refine x_if_ne (tgt := 146) hg dX12_readStop_142 (by decide) (by omega) (fun c142 => ?_) (fun c142 => ?_)
    · skip
      refine x_aload_n hg dX12_readStop_146 rfl ?_
      refine x_getR (j9 := 178) hg dX12_readStop_147 fl_X12_115 (by decide) rfl rfl (by decide) ?_
      refine x_iload hg dX12_readStop_150 rfl ?_
      refine x_iload hg dX12_readStop_152 rfl ?_
      refine x_iastore (len := 128) hg dX12_readStop_154 (by decide) (by omega)  ?_
      refine x_aload_n hg dX12_readStop_155 rfl ?_
      refine x_getR (j9 := 179) hg dX12_readStop_156 fl_X12_118 (by decide) rfl rfl (by decide) ?_
      refine x_iload hg dX12_readStop_159 rfl ?_
      refine x_iload hg dX12_readStop_161 rfl ?_
      refine x_iastore (len := 128) hg dX12_readStop_163 (by decide) (by omega)  ?_
      refine x_aload_n hg dX12_readStop_164 rfl ?_
      refine x_getR (j9 := 177) hg dX12_readStop_165 fl_X12_108 (by decide) rfl rfl (by decide) ?_
      refine x_iload_n hg dX12_readStop_168 rfl ?_
      refine x_dup2 hg dX12_readStop_169 rfl rfl ?_
      refine x_iaload (len := 16) hg dX12_readStop_170 (by decide) (by omega) ?_
      try simp (disch := omega) only [mu_s, mu_nf, mu_nc]
      refine x_iconst hg dX12_readStop_171 ?_
      refine x_iadd hg dX12_readStop_172 ?_
      refine x_iastore (len := 16) hg dX12_readStop_173 (by decide) (by omega)  ?_
      refine x_vret hg hr dX12_readStop_174 (Nat.le_refl _) (Nat.le_refl _) ?_
      have hgd := hg1 (by omega)
      have hst := MR_stop (M := M1) (t := z.toNat) (s := s) (m := m) (MR_K hk1 hR) (by omega) (by rw [a177]; exact hgd.2) (hs1 (by omega)) (hm1 (by omega)) (by rw [a177, a179]; intro h0; have := hu1 (by omega) h0; rw [show 8 * z.toNat + (M 177 z.toNat).toNat - 1 = (8 * z + M 177 z.toNat - 1).toNat by omega]; exact this)
      rw [a177, show 8 * z.toNat + (M 177 z.toNat).toNat = (8 * z + M 177 z.toNat).toNat by omega] at hst
      simp only [a177]
      refine ⟨rfl, rfl, rfl, JM_mu (JM_mu (JM_mu hJ1 (by decide)) (by decide)) (by decide), hst, fun _ => hgd.1, fun _ => by rw [mu_s], frX_mu (frX_mu (frX_mu (frX_K hk1) (by decide)) (by decide)) (by decide), ?_, ?_, fun x hx => ?_, ?_⟩
      · rw [mu_nc (by decide), mu_nc (by decide), mu_nc (by decide)]; exact hk1.2 18 (by omega)
      · rw [mu_nc (by decide), mu_nc (by decide), mu_nc (by decide)]; exact hk1.2 19 (by omega)
      · rw [mu_nf hx, mu_nc (by decide), mu_nc (by decide), a177]
      · rw [← hk1.1 180 (by decide)]; funext c; rw [mu_nc (by decide), mu_nc (by decide), mu_nc (by decide)]
    · skip
      refine x_vret hg hr dX12_readStop_145 (Nat.le_refl _) (Nat.le_refl _) ?_
      exact ⟨rfl, rfl, rfl, hJ1, MR_K hk1 hR, fun h => (hg1 h).1, fun h => absurd h (by omega), frX_K hk1, hk1.2 18 (by omega), hk1.2 19 (by omega), fun x _ => by rw [a177], hk1.1 180 (by decide)⟩
  have j84 : ∀ (M1 : xMm) (pl : Int) (hJ1 : JM M1) (hk1 : frK 4 M1 M) (hg1 : M1 172 4 = 0 → M 172 4 = 0 ∧ M 177 z.toNat < 8) (s k : Int) (hs1 : M1 172 4 = 0 → 0 ≤ s ∧ s ≤ 9), xW g 209 M1 (RS tt) 0 0 84 [(0, xr 172), (1, xi z), (2, xi pl), (3, xi (8 * z)), (4, xi (8 * z + M 177 z.toNat)), (5, xi s), (6, xi k)] [] := by
    intro M1 pl hJ1 hk1 hg1 s k hs1
    refine x_aload_n hg dX12_readStop_84 rfl ?_
    refine x_ldc2 hg 24948 dX12_readStop_85 (List.mem_of_getElem? (i := 831) (by decide +kernel)) ?_
    refine x_cVv hg he [_] [] dX12_readStop_88 mv_X12_91 (c_X12_mustWord l b D cy hJ1 (by decide)) (by decide) rfl rfl (Nat.le_of_ble_eq_true rfl) (by decide) (by decide) (fun M88 q88 => ?_)
    obtain ⟨hJ88, hg88, hk88⟩ := q88
    refine x_aload_n hg dX12_readStop_91 rfl ?_
    refine x_getI hg dX12_readStop_92 fl_X12_20 (by decide) rfl ?_
    refine x_istore_n (ls' := [(0, _), (1, _), (2, _), (3, _), (4, _), (5, _), (6, _)]) hg dX12_readStop_95 rfl (by decide) rfl ?_
    refine x_aload_n hg dX12_readStop_96 rfl ?_
    refine x_sipush hg dX12_readStop_97 (by decide) ?_
    refine x_cVi hg he [_] [] dX12_readStop_100 mv_X12_102 (c_X12_numeral l b D cy hJ88 (by omega)) (by decide) rfl rfl (Nat.le_of_ble_eq_true rfl) (by decide) (by decide) (fun r100 M100 q100 => ?_)
    obtain ⟨hr100, hb100, hJ100, hg100, hk100⟩ := q100
    have hka := frK_tr hk100 (frK_tr hk88 hk1)
    have a179 : M100 179 = M 179 := hka.1 179 (by decide)
    have h6a := hJ100.2.1
    have h7a := hJ100.2.2
    have hpm := fun (h : 0 < M 177 z.toNat) => (hR.2.2.2.2.1 (8 * z + M 177 z.toNat - 1).toNat (by omega)).2
    refine x_istore (ls' := [(0, _), (1, _), (2, _), (3, _), (4, _), (5, _), (6, _)]) hg dX12_readStop_103 (by decide) rfl ?_
    refine x_aload_n hg dX12_readStop_105 rfl ?_
    refine x_cVi hg he [] [] dX12_readStop_106 mv_X12_54 (c_X12_isGood l b D cy hJ100.1) (by decide) rfl rfl (Nat.le_of_ble_eq_true rfl) (by decide) (by decide) (fun r106 M106 q106 => ?_)
    obtain ⟨h106, e106⟩ := q106
    replace h106 := h106.symm
    subst h106
    refine x_if_eq (tgt := 138) hg dX12_readStop_109 (by decide) (by omega) (fun c109 => ?_) (fun c109 => ?_)
    · skip
      first
        | exact j138 M135 _ ⟨hJ135, by rw [hq135 6 (by omega), hk135.2 3 (by omega)]; exact h6a, by rw [hq135 7 (by omega), hk135.2 3 (by omega)]; exact h7a⟩ (frK_tr hk135 hka) (fun h => absurd h (by omega)) _ _ (fun h => absurd h (by omega)) (fun h => absurd h (by omega)) (fun h => absurd h (by omega))
        | exact j138 M100 _ hJ100 hka (fun h => hg1 (hg88 (hg100 h))) _ _ (fun h => hs1 (hg88 (hg100 h))) (fun h => ⟨hr100.1, hb100 h⟩) (fun h h0 => by omega)
    · skip
      refine x_iload hg dX12_readStop_112 rfl ?_
      refine x_iload_n hg dX12_readStop_114 rfl ?_
      refine x_icmp_le (tgt := 138) hg dX12_readStop_115 (by decide) (by omega) (by omega) (fun c115 => ?_) (fun c115 => ?_)
      · skip
        first
          | exact j138 M135 _ ⟨hJ135, by rw [hq135 6 (by omega), hk135.2 3 (by omega)]; exact h6a, by rw [hq135 7 (by omega), hk135.2 3 (by omega)]; exact h7a⟩ (frK_tr hk135 hka) (fun h => absurd h (by omega)) _ _ (fun h => absurd h (by omega)) (fun h => absurd h (by omega)) (fun h => absurd h (by omega))
          | exact j138 M100 _ hJ100 hka (fun h => hg1 (hg88 (hg100 h))) _ _ (fun h => hs1 (hg88 (hg100 h))) (fun h => ⟨hr100.1, hb100 h⟩) (fun h h0 => by omega)
      · skip
        refine x_iload hg dX12_readStop_118 rfl ?_
        refine x_aload_n hg dX12_readStop_120 rfl ?_
        refine x_getR (j9 := 179) hg dX12_readStop_121 fl_X12_118 (by decide) rfl rfl (by decide) ?_
        refine x_iload hg dX12_readStop_124 rfl ?_
        refine x_iconst hg dX12_readStop_126 ?_
        refine x_isub hg dX12_readStop_127 ?_
        refine x_iaload (len := 128) hg dX12_readStop_128 (by decide) (by omega) ?_
        rw [a179]
        refine x_icmp_gt (tgt := 138) hg dX12_readStop_129 (by decide) (by omega) (by have := hpm (by omega); omega) (fun c129 => ?_) (fun c129 => ?_)
        · skip
          first
            | exact j138 M135 _ ⟨hJ135, by rw [hq135 6 (by omega), hk135.2 3 (by omega)]; exact h6a, by rw [hq135 7 (by omega), hk135.2 3 (by omega)]; exact h7a⟩ (frK_tr hk135 hka) (fun h => absurd h (by omega)) _ _ (fun h => absurd h (by omega)) (fun h => absurd h (by omega)) (fun h => absurd h (by omega))
            | exact j138 M100 _ hJ100 hka (fun h => hg1 (hg88 (hg100 h))) _ _ (fun h => hs1 (hg88 (hg100 h))) (fun h => ⟨hr100.1, hb100 h⟩) (fun h h0 => by omega)
        · skip
          refine x_aload_n hg dX12_readStop_132 rfl ?_
          refine x_iconst hg dX12_readStop_133 ?_
          refine x_iload_n hg dX12_readStop_134 rfl ?_
          refine x_cVv hg he [_, _] [] dX12_readStop_135 mv_X12_50 (c_X12_fails l b D cy hJ100.1 (by omega)) (by decide) rfl rfl (Nat.le_of_ble_eq_true rfl) (by decide) (by decide) (fun M135 q135 => ?_)
          obtain ⟨hJ135, hg135, hk135, hq135⟩ := q135
          first
            | exact j138 M135 _ ⟨hJ135, by rw [hq135 6 (by omega), hk135.2 3 (by omega)]; exact h6a, by rw [hq135 7 (by omega), hk135.2 3 (by omega)]; exact h7a⟩ (frK_tr hk135 hka) (fun h => absurd h (by omega)) _ _ (fun h => absurd h (by omega)) (fun h => absurd h (by omega)) (fun h => absurd h (by omega))
            | exact j138 M100 _ hJ100 hka (fun h => hg1 (hg88 (hg100 h))) _ _ (fun h => hs1 (hg88 (hg100 h))) (fun h => ⟨hr100.1, hb100 h⟩) (fun h h0 => by omega)
  have loop : ∀ (n1 : Nat) (M1 : xMm) (pl : Int) (hJ1 : JM M1) (hk1 : frK 4 M1 M) (hg1 : M1 172 4 = 0 → M 172 4 = 0 ∧ M 177 z.toNat < 8) (s k : Int) (hs1 : M1 172 4 = 0 → 0 ≤ s ∧ s ≤ 9) (hsr : 0 ≤ s ∧ s ≤ 9999) (hk0 : 8 * z ≤ k), k ≤ 8 * z + M 177 z.toNat → 8 * z + M 177 z.toNat - k < n1 → xW g 209 M1 (RS tt) 0 0 46 [(0, xr 172), (1, xi z), (2, xi pl), (3, xi (8 * z)), (4, xi (8 * z + M 177 z.toNat)), (5, xi s), (6, xi k)] [] := by
    intro n1
    induction n1 with
    | zero => intro M1 pl _ _ _ s k _ _ _ h1 h2; exfalso; omega
    | succ n1 ih =>
      intro M1 pl hJ1 hk1 hg1 s k hs1 hsr hk0 hk2 hk3
      have a177 : M1 177 = M 177 := hk1.1 177 (by decide)
      have a178 : M1 178 = M 178 := hk1.1 178 (by decide)
      have a179 : M1 179 = M 179 := hk1.1 179 (by decide)
      have h61 := hJ1.2.1
      have h71 := hJ1.2.2
      refine x_iload hg dX12_readStop_46 rfl ?_
      refine x_iload hg dX12_readStop_48 rfl ?_
      refine x_icmp_ge (tgt := 84) hg dX12_readStop_50 (by decide) (by omega) (by omega) (fun c50 => ?_) (fun c50 => ?_)
      · skip
        exact j84 M1 _ hJ1 hk1 hg1 _ _ hs1
      · skip
        refine x_aload_n hg dX12_readStop_53 rfl ?_
        refine x_cVi hg he [] [] dX12_readStop_54 mv_X12_54 (c_X12_isGood l b D cy hJ1.1) (by decide) rfl rfl (Nat.le_of_ble_eq_true rfl) (by decide) (by decide) (fun r54 M54 q54 => ?_)
        obtain ⟨h54, e54⟩ := q54
        replace h54 := h54.symm
        subst h54
        refine x_if_eq (tgt := 84) hg dX12_readStop_57 (by decide) (by omega) (fun c57 => ?_) (fun c57 => ?_)
        · skip
          exact j84 M1 _ hJ1 hk1 hg1 _ _ hs1
        · skip
          refine x_aload_n hg dX12_readStop_60 rfl ?_
          refine x_getR (j9 := 178) hg dX12_readStop_61 fl_X12_115 (by decide) rfl rfl (by decide) ?_
          refine x_iload hg dX12_readStop_64 rfl ?_
          refine x_iaload (len := 128) hg dX12_readStop_66 (by decide) (by omega) ?_
          refine x_iload hg dX12_readStop_67 rfl ?_
          skip
          refine x_icmp_ne (tgt := 78) hg dX12_readStop_69 (by decide) (by have := (hR.2.2.2.2.1 k.toNat (by omega)).1; rw [a178]; omega) (by omega) (fun c69 => ?_) (fun c69 => ?_)
          · skip
            refine x_iinc (ls' := [(0, _), (1, _), (2, _), (3, _), (4, _), (5, _), (6, _)]) hg dX12_readStop_78 rfl (by decide) rfl ?_
            refine x_goto (tgt := 46) hg dX12_readStop_81 (by decide) ?_
            first
              | exact ih M75 _ ⟨hJ75, by rw [hq75 6 (by omega), hk75.2 3 (by omega)]; exact h61, by rw [hq75 7 (by omega), hk75.2 3 (by omega)]; exact h71⟩ (frK_tr hk75 hk1) (fun h => absurd h (by omega)) _ _ (fun h => absurd h (by omega)) hsr (by omega) (by omega) (by omega)
              | exact ih M1 _ hJ1 hk1 hg1 _ _ hs1 hsr (by omega) (by omega) (by omega)
          · skip
            refine x_aload_n hg dX12_readStop_72 rfl ?_
            refine x_iconst hg dX12_readStop_73 ?_
            refine x_iload_n hg dX12_readStop_74 rfl ?_
            refine x_cVv hg he [_, _] [] dX12_readStop_75 mv_X12_50 (c_X12_fails l b D cy hJ1.1 (by omega)) (by decide) rfl rfl (Nat.le_of_ble_eq_true rfl) (by decide) (by decide) (fun M75 q75 => ?_)
            obtain ⟨hJ75, hg75, hk75, hq75⟩ := q75
            refine x_iinc (ls' := [(0, _), (1, _), (2, _), (3, _), (4, _), (5, _), (6, _)]) hg dX12_readStop_78 rfl (by decide) rfl ?_
            refine x_goto (tgt := 46) hg dX12_readStop_81 (by decide) ?_
            first
              | exact ih M75 _ ⟨hJ75, by rw [hq75 6 (by omega), hk75.2 3 (by omega)]; exact h61, by rw [hq75 7 (by omega), hk75.2 3 (by omega)]; exact h71⟩ (frK_tr hk75 hk1) (fun h => absurd h (by omega)) _ _ (fun h => absurd h (by omega)) hsr (by omega) (by omega) (by omega)
              | exact ih M1 _ hJ1 hk1 hg1 _ _ hs1 hsr (by omega) (by omega) (by omega)
  have j35 : ∀ (M1 : xMm) (pl : Int) (hJ1 : JM M1) (hk1 : frK 4 M1 M) (hg1 : M1 172 4 = 0 → M 172 4 = 0 ∧ M 177 z.toNat < 8), xW g 209 M1 (RS tt) 0 0 35 [(0, xr 172), (1, xi z), (2, xi pl), (3, xi (8 * z)), (4, xi (8 * z + M 177 z.toNat))] [] := by
    intro M1 pl hJ1 hk1 hg1
    refine x_aload_n hg dX12_readStop_35 rfl ?_
    refine x_bipush hg dX12_readStop_36 (by decide) ?_
    refine x_cVi hg he [_] [] dX12_readStop_38 mv_X12_102 (c_X12_numeral l b D cy hJ1 (by omega)) (by decide) rfl rfl (Nat.le_of_ble_eq_true rfl) (by decide) (by decide) (fun r38 M38 q38 => ?_)
    obtain ⟨hr38, hb38, hJ38, hg38, hk38⟩ := q38
    refine x_istore (ls' := [(0, _), (1, _), (2, _), (3, _), (4, _), (5, _)]) hg dX12_readStop_41 (by decide) rfl ?_
    refine x_iload_n hg dX12_readStop_43 rfl ?_
    refine x_istore (ls' := [(0, _), (1, _), (2, _), (3, _), (4, _), (5, _), (6, _)]) hg dX12_readStop_44 (by decide) rfl ?_
    exact loop 9 M38 _ hJ38 (frK_tr hk38 hk1) (fun h => hg1 (hg38 h)) _ _ (fun h => ⟨hr38.1, hb38 h⟩) hr38 (by omega) (by omega) (by omega)
  refine x_aload_n hg dX12_readStop_0 rfl ?_
  refine x_getI hg dX12_readStop_1 fl_X12_20 (by decide) rfl ?_
  refine x_istore_n (ls' := [(0, _), (1, _), (2, _)]) hg dX12_readStop_4 rfl (by decide) rfl ?_
  refine x_bipush hg dX12_readStop_5 (by decide) ?_
  refine x_iload_n hg dX12_readStop_7 rfl ?_
  refine x_imul hg dX12_readStop_8 ?_
  refine x_istore_n (ls' := [(0, _), (1, _), (2, _), (3, _)]) hg dX12_readStop_9 rfl (by decide) rfl ?_
  refine x_iload_n hg dX12_readStop_10 rfl ?_
  refine x_aload_n hg dX12_readStop_11 rfl ?_
  refine x_getR (j9 := 177) hg dX12_readStop_12 fl_X12_108 (by decide) rfl rfl (by decide) ?_
  refine x_iload_n hg dX12_readStop_15 rfl ?_
  refine x_iaload (len := 16) hg dX12_readStop_16 (by decide) (by omega) ?_
  refine x_iadd hg dX12_readStop_17 ?_
  refine x_istore (ls' := [(0, _), (1, _), (2, _), (3, _), (4, _)]) hg dX12_readStop_18 (by decide) rfl ?_
  refine x_aload_n hg dX12_readStop_20 rfl ?_
  refine x_getR (j9 := 177) hg dX12_readStop_21 fl_X12_108 (by decide) rfl rfl (by decide) ?_
  refine x_iload_n hg dX12_readStop_24 rfl ?_
  refine x_iaload (len := 16) hg dX12_readStop_25 (by decide) (by omega) ?_
  refine x_bipush hg dX12_readStop_26 (by decide) ?_
  refine x_icmp_ne (tgt := 35) hg dX12_readStop_28 (by decide) (by omega) (by omega) (fun c28 => ?_) (fun c28 => ?_)
  · skip
    first | exact j35 M _ hJ (frK_rf 4 M) (fun h => ⟨h, by omega⟩) | exact j35 M32 _ hJ32 hk32 (fun h => absurd h (by omega))
  · skip
    refine x_aload_n hg dX12_readStop_31 rfl ?_
    refine x_cVv hg he [] [] dX12_readStop_32 mv_X12_62 (c_X12_wrong l b D cy hJ) (by decide) rfl rfl (Nat.le_of_ble_eq_true rfl) (by decide) (by decide) (fun M32 q32 => ?_)
    obtain ⟨hJ32, hg32, hk32⟩ := q32
    first | exact j35 M _ hJ (frK_rf 4 M) (fun h => ⟨h, by omega⟩) | exact j35 M32 _ hJ32 hk32 (fun h => absurd h (by omega))
