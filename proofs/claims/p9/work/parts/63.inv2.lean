/-! ===== by, once more; the steps of timetable and by; what holds between two calls ===== -/
set_option maxHeartbeats 4000000 in
set_option maxRecDepth 20000 in
theorem c_X12_by2 (l : Launch) (b : Nat) (D : va_G) (cy : Nat → ClassId) {tt : Nat} {M : xMm} {z y : Int} (hO : MO M) (hR : MR M) (hC : MC M) (hz : inR z) (hy : inR y) : xC l b D cy yX12_by cX12_by 3 (some .int) ({ frames := 3, cells := 0, slots := 0, locals := 69 }) [xr 172, xi z, xi y] 209 M (RS tt) (xPi 209 (RS tt) (fun r M' => MC M' ∧ ∀ a, a ≠ 183 → a ≠ 184 → M' a = M a)) := by
  refine x_met (by decide) (Nat.le_of_ble_eq_true rfl) (fun g hg hr he => ?_)
  have hn := hO.1
  obtain ⟨hb, hm⟩ := MR_many hR
  refine x_canon (ls' := [(0, _), (1, _), (2, _)]) rfl ?_
  refine x_aload_n hg dX12_by_0 rfl ?_
  refine x_iload_n hg dX12_by_1 rfl ?_
  refine x_cVi hg he [_] [] dX12_by_2 mv_X12_237 (c_X12_isChurn l b D cy (by omega) (by omega)) (by decide) rfl rfl (Nat.le_of_ble_eq_true rfl) (by decide) (by decide) (fun r2 M2 q2 => ?_)
  obtain ⟨h2, e2⟩ := q2
  replace h2 := h2.symm
  subst h2
  refine x_if_eq (tgt := 16) hg dX12_by_5 (by decide) (by omega) (fun c5 => ?_) (fun c5 => ?_)
  · skip
    refine x_iconst hg dX12_by_16 ?_
    refine x_iret hg hr (Or.inl rfl) dX12_by_17 (Nat.le_refl _) (Nat.le_refl _) ?_
    exact ⟨rfl, rfl, _, rfl, hC, fun a _ _ => rfl⟩
  · skip
    refine x_aload_n hg dX12_by_8 rfl ?_
    refine x_iload_n hg dX12_by_9 rfl ?_
    refine x_cVi hg he [_] [] dX12_by_10 mv_X12_121 (c_X12_isTrain l b D cy hR (by omega)) (by decide) rfl rfl (Nat.le_of_ble_eq_true rfl) (by decide) (by decide) (fun r10 M10 q10 => ?_)
    obtain ⟨h10, e10⟩ := q10
    replace h10 := h10.symm
    subst h10
    refine x_if_ne (tgt := 18) hg dX12_by_13 (by decide) (by omega) (fun c13 => ?_) (fun c13 => ?_)
    · skip
      refine x_aload_n hg dX12_by_18 rfl ?_
      refine x_cVv hg he [] [] dX12_by_19 mv_X12_248 (c_X12_sumUp l b D cy hC) (by decide) rfl rfl (Nat.le_of_ble_eq_true rfl) (by decide) (by decide) (fun M19 q19 => ?_)
      obtain ⟨hS19, hf19⟩ := q19
      have hC2 : MC M19 := ⟨fun k hk => by rw [hf19 182 (by decide) (by decide)]; exact hC.1 k hk, fun s hs => by rw [hf19 185 (by decide) (by decide)]; exact hC.2.1 s hs, hS19.1, hS19.2.1⟩
      refine x_aload_n hg dX12_by_22 rfl ?_
      refine x_iload_n hg dX12_by_23 rfl ?_
      refine x_iload_n hg dX12_by_24 rfl ?_
      refine x_cVi hg he [_, _] [] dX12_by_25 mv_X12_277 (c_X12_souredBy l b D cy (MR_fr (fun a _ _ => hf19 a (by omega) (by omega)) (by rw [hf19 172 (by decide) (by decide)]) hR) hC2 hS19 (by omega) (by rw [hf19 187 (by decide) (by decide)]; exact (hO.2.2.2.2.2.1 z.toNat (by omega)).2.1) (by rw [hf19 188 (by decide) (by decide)]; exact (hO.2.2.2.2.2.1 z.toNat (by omega)).2.2.1) (by omega)) (by decide) rfl rfl (Nat.le_of_ble_eq_true rfl) (by decide) (by decide) (fun r25 M25 q25 => ?_)
      obtain ⟨h25, e25⟩ := q25
      replace h25 := h25.symm
      subst h25
      refine x_iret hg hr (Or.inl rfl) dX12_by_28 (Nat.le_refl _) (Nat.le_refl _) ?_
      exact ⟨rfl, rfl, _, rfl, hC2, hf19⟩
    · skip
      refine x_iconst hg dX12_by_16 ?_
      refine x_iret hg hr (Or.inl rfl) dX12_by_17 (Nat.le_refl _) (Nat.le_refl _) ?_
      exact ⟨rfl, rfl, _, rfl, hC, fun a _ _ => rfl⟩
theorem sx_timetable {M M' : xMm} (h : IX M) (q : JG M' ∧ IR M' ∧ (∀ a, a ≠ 1 → (a < 2 ∨ 56 < a) → M' a = M a) ∧ (M' 1 = M 1 ∨ M' 1 = mu M 1 7 1 1)) : IX M' ∧ ∀ a, 172 ≤ a → M' a = M a := by
  obtain ⟨q1, q2, q3, q4⟩ := q
  exact ⟨SX_r h q1 q2 q3 q4, fun a ha => q3 a (by omega) (by omega)⟩
theorem sy_by {M M' : xMm} (h : IY M) (q : MC M' ∧ ∀ a, a ≠ 183 → a ≠ 184 → M' a = M a) : IY M' ∧ ∀ a, a ≤ 171 → M' a = M a := by
  obtain ⟨q1, q2⟩ := q
  obtain ⟨h1, h2, h3, h4, h5, h6⟩ := h
  have e := q2 172 (by decide) (by decide)
  exact ⟨⟨MO_fr (fun a x y => q2 a (by omega) (by omega)) (fun f hf => by rw [e]) h1, JN_congr h2 (fun f _ => by rw [e]) (q2 173 (by decide) (by decide)) (q2 174 (by decide) (by decide)), MR_fr (fun a x y => q2 a (by omega) (by omega)) (by rw [e]) h3, q1, MWi_congr h5 (fun f x y => by rw [e]), MK_congr h6 (q2 195 (by decide) (by decide))⟩, fun a ha => q2 a (by omega) (by omega)⟩
/-- what holds between two calls of the law -/
abbrev IZ (tt : Nat) (M : xMm) : Prop := xTt tt ∧ IX M ∧ IY M ∧ REL M
abbrev rmL : Room := { frames := 9, cells := 600000, slots := 7302250, locals := 336 }
