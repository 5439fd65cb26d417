/-! ===== the model's ways ===== -/
theorem MC_fr {M' M : xMm} (h : ∀ a, 182 ≤ a → a ≤ 185 → M' a = M a) (hC : MC M) : MC M' := by
  obtain ⟨h1, h2, h3, h4⟩ := hC
  exact ⟨fun k hk => by rw [h 182 (by decide) (by decide)]; exact h1 k hk, fun s hs => by rw [h 185 (by decide) (by decide)]; exact h2 s hs, by rw [h 183 (by decide) (by decide)]; exact h3, by rw [h 184 (by decide) (by decide)]; exact h4⟩
theorem MS_fr {M' M : xMm} (h : ∀ a, 183 ≤ a → a ≤ 184 → M' a = M a) (hS : MS M) : MS M' := by
  unfold MS
  rw [h 183 (by decide) (by decide), h 184 (by decide) (by decide)]
  exact hS
theorem MO_fr {M' M : xMm} (h : ∀ a, 186 ≤ a → a ≤ 190 ∨ 201 ≤ a → M' a = M a) (hf : ∀ f, f = 24 ∨ f = 30 ∨ 55 ≤ f → M' 172 f = M 172 f) (hO : MO M) : MO M' := by
  unfold MO
  rw [hf 30 (by omega), hf 56 (by omega), hf 57 (by omega), hf 55 (by omega), hf 24 (by omega), h 186 (by omega) (by omega), h 187 (by omega) (by omega), h 188 (by omega) (by omega), h 189 (by omega) (by omega), h 190 (by omega) (by omega), h 201 (by omega) (by omega), h 202 (by omega) (by omega), h 203 (by omega) (by omega), h 204 (by omega) (by omega), h 205 (by omega) (by omega), h 206 (by omega) (by omega), h 207 (by omega) (by omega), h 208 (by omega) (by omega), h 209 (by omega) (by omega)]
  exact hO
/-- nothing changed but the ways' two rows -/
abbrev frY (M1 M : xMm) : Prop := ∀ a, a ≠ 191 → a ≠ 192 → M1 a = M a
theorem fw_mi {M1 M : xMm} (h : frY M1 M) (t k : Int) : mMi M1 t k = mMi M t k := by unfold mMi; rw [h 172 (by decide) (by decide), h 179 (by decide) (by decide), h 181 (by decide) (by decide)]
theorem fw_st {M1 M : xMm} (h : frY M1 M) (t k : Int) : mSt M1 t k = mSt M t k := by unfold mSt; rw [h 172 (by decide) (by decide), h 178 (by decide) (by decide)]
theorem fw_ss {M1 M : xMm} (h : frY M1 M) (t : Int) : mSs M1 t = mSs M t := by unfold mSs; rw [h 172 (by decide) (by decide), h 177 (by decide) (by decide)]
theorem fw_ma {M1 M : xMm} (h : frY M1 M) : M1 180 (M1 172 18).toNat = mMa M := by unfold mMa; rw [h 172 (by decide) (by decide), h 180 (by decide) (by decide)]
theorem fw_wt {M1 M : xMm} (h : frY M1 M) (s x y : Int) : wt M1 s x y = wt M s x y := by unfold wt; rw [h 183 (by decide) (by decide), h 184 (by decide) (by decide), h 185 (by decide) (by decide)]
theorem fw_R {M1 M : xMm} (h : frY M1 M) (hR : MR M) : MR M1 := MR_fr (fun a _ _ => h a (by omega) (by omega)) (by rw [h 172 (by decide) (by decide)]) hR
theorem fw_C {M1 M : xMm} (h : frY M1 M) (hC : MC M) : MC M1 := MC_fr (fun a _ _ => h a (by omega) (by omega)) hC
theorem fw_S {M1 M : xMm} (h : frY M1 M) (hS : MS M) : MS M1 := MS_fr (fun a _ _ => h a (by omega) (by omega)) hS
/-- each stop: not reached, or souring and trains within its minute -/
def WP (M1 M : xMm) : Prop := ∀ s : Nat, s < 64 → (M1 191 s = 1000000000 ∧ M1 192 s = 1000000000) ∨ ((0 ≤ M1 191 s ∧ M1 191 s ≤ 36 * mMi M ((s / 8 : Nat) : Int) ((s % 8 : Nat) : Int)) ∧ (1 ≤ M1 192 s ∧ M1 192 s ≤ mMi M ((s / 8 : Nat) : Int) ((s % 8 : Nat) : Int)))
theorem WP_at {M1 M : xMm} (h : WP M1 M) {t k : Int} (ht : 0 ≤ t ∧ t < 8) (hk : 0 ≤ k ∧ k < 8) : (M1 191 (8 * t + k).toNat = 1000000000 ∧ M1 192 (8 * t + k).toNat = 1000000000) ∨ ((0 ≤ M1 191 (8 * t + k).toNat ∧ M1 191 (8 * t + k).toNat ≤ 36 * mMi M t k) ∧ (1 ≤ M1 192 (8 * t + k).toNat ∧ M1 192 (8 * t + k).toNat ≤ mMi M t k)) := by
  have := h (8 * t + k).toNat (by omega)
  rw [show (((8 * t + k).toNat / 8 : Nat) : Int) = t by omega, show (((8 * t + k).toNat % 8 : Nat) : Int) = k by omega] at this
  exact this
theorem WP_set {M1 M : xMm} (h : WP M1 M) {t k y x : Int} (ht : 0 ≤ t ∧ t < 8) (hk : 0 ≤ k ∧ k < 8) (hy : 0 ≤ y ∧ y ≤ 36 * mMi M t k) (hx : 1 ≤ x ∧ x ≤ mMi M t k) : WP (mu (mu M1 191 (8 * t + k).toNat y) 192 (8 * t + k).toNat x) M := by
  intro s hs
  by_cases e : s = (8 * t + k).toNat
  · subst e
    rw [show (((8 * t + k).toNat / 8 : Nat) : Int) = t by omega, show (((8 * t + k).toNat % 8 : Nat) : Int) = k by omega, mu_nc (by decide), mu_s, mu_s]
    exact Or.inr ⟨hy, hx⟩
  · rw [mu_nc (by decide), mu_nf e, mu_nf e, mu_nc (by decide)]
    exact h s hs
theorem WP_base {M1 M M0 : xMm} (h : WP M1 M) (hf : frY M M0) : WP M1 M0 := fun s hs => by
  have := h s hs
  rw [fw_mi hf] at this
  exact this
def wSum (M : xMm) : Nat → Nat
  | 0 => 0
  | n + 1 => wSum M n + (M 191 n * 2000 + M 192 n).toNat
theorem wSum_same {M' M : xMm} : ∀ n : Nat, (∀ s, s < n → M' 191 s = M 191 s ∧ M' 192 s = M 192 s) → wSum M' n = wSum M n
  | 0, _ => rfl
  | n + 1, h => by simp only [wSum]; rw [wSum_same n (fun s hs => h s (by omega)), (h n (by omega)).1, (h n (by omega)).2]
theorem wSum_lt {M' M : xMm} {s : Nat} (h : ∀ x, x ≠ s → M' 191 x = M 191 x ∧ M' 192 x = M 192 x) (hl : (M' 191 s * 2000 + M' 192 s).toNat < (M 191 s * 2000 + M 192 s).toNat) : ∀ n, s < n → wSum M' n < wSum M n
  | 0, hs => by omega
  | n + 1, hs => by
    simp only [wSum]
    by_cases e : s = n
    · subst e
      rw [wSum_same s (fun x hx => h x (by omega))]
      omega
    · have ih := wSum_lt h hl n (by omega)
      rw [(h n (by omega)).1, (h n (by omega)).2]
      omega
/-- what a going on may do; v says whether something was found -/
def GW (M1 M : xMm) (v : Int) : Prop := WP M1 M ∧ frY M1 M ∧ (v = 0 ∨ v = 1) ∧ wSum M1 64 ≤ wSum M 64 ∧ (v = 1 → wSum M1 64 < wSum M 64)
theorem GW_rf {M : xMm} (h : WP M M) : GW M M 0 := ⟨h, fun _ _ _ => rfl, Or.inl rfl, Nat.le_refl _, fun h => absurd h (by decide)⟩
theorem GW_reach {M2 M1 M : xMm} {v r y x t j : Int} (G : GW M1 M v) (hR : MR M) (ht : 0 ≤ t ∧ t < 8) (hj : 0 ≤ j ∧ j < 8) (hy : 0 ≤ y ∧ y ≤ 36 * mMi M t j) (hx : 1 ≤ x ∧ x ≤ mMi M t j) (q : (r = 0 ∧ M2 = M1) ∨ (r = 1 ∧ M2 = mu (mu M1 191 (8 * t + j).toNat y) 192 (8 * t + j).toNat x ∧ (y < M1 191 (8 * t + j).toNat ∨ y = M1 191 (8 * t + j).toNat ∧ x < M1 192 (8 * t + j).toNat))) : GW M2 M v ∧ (¬ r = 0 → GW M2 M 1) ∧ (r = 0 ∨ r = 1) := by
  rcases q with ⟨e, rfl⟩ | ⟨e, rfl, hlt⟩
  · exact ⟨G, fun h => absurd e h, Or.inl e⟩
  · obtain ⟨g1, g2, g3, g4, g5⟩ := G
    have w := WP_at g1 ht hj
    have hm := ((MR_use hR ht.1 ht.2).2.2.2.2 j hj.1 hj.2).2
    have hs := wSum_lt (M' := mu (mu M1 191 (8 * t + j).toNat y) 192 (8 * t + j).toNat x) (M := M1) (s := (8 * t + j).toNat) (fun c hc => ⟨by rw [mu_nc (by decide), mu_nf hc], by rw [mu_nf hc, mu_nc (by decide)]⟩) (by rw [mu_nc (by decide), mu_s, mu_s]; omega) 64 (by omega)
    have hf : frY (mu (mu M1 191 (8 * t + j).toNat y) 192 (8 * t + j).toNat x) M := fun a h1 h2 => by rw [← g2 a h1 h2]; funext c; rw [mu_nc h2, mu_nc h1]
    have hw := WP_set g1 ht hj hy hx
    exact ⟨⟨hw, hf, g3, by omega, fun _ => by omega⟩, fun _ => ⟨hw, hf, Or.inr rfl, by omega, fun _ => by omega⟩, Or.inr e⟩
theorem GW_tr {M2 M1 M : xMm} {v r : Int} (G : GW M1 M v) (H : GW M2 M1 r) : GW M2 M v ∧ (¬ r = 0 → GW M2 M 1) := by
  obtain ⟨g1, g2, g3, g4, g5⟩ := G
  obtain ⟨h1, h2, h3, h4, h5⟩ := H
  have hf : frY M2 M := fun a e1 e2 => by rw [h2 a e1 e2, g2 a e1 e2]
  have hw := WP_base h1 g2
  refine ⟨⟨hw, hf, g3, by omega, fun h => ?_⟩, fun hr => ⟨hw, hf, Or.inr rfl, ?_, fun _ => ?_⟩⟩
  · have := g5 h; omega
  · omega
  · have := h5 (by omega); omega

theorem dX12_stopAt_0 : decode cX12_stopAt 0 = .ok (.iconst 0, 1) := by decide +kernel
theorem dX12_stopAt_1 : decode cX12_stopAt 1 = .ok (.istore_n 3, 1) := by decide +kernel
theorem dX12_stopAt_2 : decode cX12_stopAt 2 = .ok (.iload_n 3, 1) := by decide +kernel
theorem dX12_stopAt_3 : decode cX12_stopAt 3 = .ok (.aload_n 0, 1) := by decide +kernel
theorem dX12_stopAt_4 : decode cX12_stopAt 4 = .ok (.iload_n 1, 1) := by decide +kernel
theorem dX12_stopAt_5 : decode cX12_stopAt 5 = .ok (.invokevirtual 124, 3) := by decide +kernel
theorem dX12_stopAt_8 : decode cX12_stopAt 8 = .ok (.if_icmp .ge 21, 3) := by decide +kernel
theorem dX12_stopAt_11 : decode cX12_stopAt 11 = .ok (.aload_n 0, 1) := by decide +kernel
theorem dX12_stopAt_12 : decode cX12_stopAt 12 = .ok (.iload_n 1, 1) := by decide +kernel
theorem dX12_stopAt_13 : decode cX12_stopAt 13 = .ok (.iload_n 3, 1) := by decide +kernel
theorem dX12_stopAt_14 : decode cX12_stopAt 14 = .ok (.invokevirtual 127, 3) := by decide +kernel
theorem dX12_stopAt_17 : decode cX12_stopAt 17 = .ok (.iload_n 2, 1) := by decide +kernel
theorem dX12_stopAt_18 : decode cX12_stopAt 18 = .ok (.if_icmp .ne 5, 3) := by decide +kernel
theorem dX12_stopAt_21 : decode cX12_stopAt 21 = .ok (.iload_n 3, 1) := by decide +kernel
theorem dX12_stopAt_22 : decode cX12_stopAt 22 = .ok (.ireturn, 1) := by decide +kernel
theorem dX12_stopAt_23 : decode cX12_stopAt 23 = .ok (.iinc 3 1, 3) := by decide +kernel
theorem dX12_stopAt_26 : decode cX12_stopAt 26 = .ok (.goto (-24), 3) := by decide +kernel
theorem dX12_stopAt_29 : decode cX12_stopAt 29 = .ok (.iconst (-1), 1) := by decide +kernel
theorem dX12_stopAt_30 : decode cX12_stopAt 30 = .ok (.ireturn, 1) := by decide +kernel
set_option maxHeartbeats 4000000 in
set_option maxRecDepth 20000 in
theorem c_X12_stopAt (l : Launch) (b : Nat) (D : va_G) (cy : Nat → ClassId) {tt : Nat} {M : xMm} {t s : Int} (hR : MR M) (ht : 0 ≤ t ∧ t < 8) (hs : inR s) : xC l b D cy yX12_stopAt cX12_stopAt 4 (some .int) ({ frames := 1, cells := 0, slots := 0, locals := 22 }) [xr 172, xi t, xi s] 209 M (RS tt) (xPi 209 (RS tt) (fun r M' => M' = M ∧ (r = -1 ∨ (0 ≤ r ∧ r < mSs M t)))) := by
  refine x_met (by decide) (Nat.le_of_ble_eq_true rfl) (fun g hg hr he => ?_)
  refine x_canon (ls' := [(0, _), (1, _), (2, _)]) rfl ?_
  have hss := (MR_use hR ht.1 ht.2).2.2.1
  have hst := (MR_use hR ht.1 ht.2).2.2.2.2
  have loop : ∀ (n1 : Nat) (k : Int), 0 ≤ k → k ≤ 8 → 8 - k < n1 → xW g 209 M (RS tt) 0 0 2 [(0, xr 172), (1, xi t), (2, xi s), (3, xi k)] [] := by
    intro n1
    induction n1 with
    | zero => intro k hk0 hk1 hk2; exfalso; omega
    | succ n1 ihn1 =>
      intro k hk0 hk1 hk2
      refine x_iload_n hg dX12_stopAt_2 rfl ?_
      refine x_aload_n hg dX12_stopAt_3 rfl ?_
      refine x_iload_n hg dX12_stopAt_4 rfl ?_
      refine x_cVi hg he [_] [_] dX12_stopAt_5 mv_X12_124 (c_X12_stops l b D cy hR (by omega)) (by decide) rfl rfl (Nat.le_of_ble_eq_true rfl) (by decide) (by decide) (fun r5 M5 q5 => ?_)
      obtain ⟨h5, e5⟩ := q5
      replace h5 := h5.symm
      subst h5
      refine x_icmp_ge (tgt := 29) hg dX12_stopAt_8 (by decide) (by omega) (by omega) (fun c8 => ?_) (fun c8 => ?_)
      · skip
        refine x_iconst hg dX12_stopAt_29 ?_
        refine x_iret hg hr (Or.inl rfl) dX12_stopAt_30 (Nat.le_refl _) (Nat.le_refl _) ?_
        exact ⟨rfl, rfl, _, rfl, rfl, Or.inl rfl⟩
      · skip
        refine x_aload_n hg dX12_stopAt_11 rfl ?_
        refine x_iload_n hg dX12_stopAt_12 rfl ?_
        refine x_iload_n hg dX12_stopAt_13 rfl ?_
        have hsk := (hst k hk0 (by omega)).1
        refine x_cVi hg he [_, _] [] dX12_stopAt_14 mv_X12_127 (c_X12_stations l b D cy hR (by omega) (by omega)) (by decide) rfl rfl (Nat.le_of_ble_eq_true rfl) (by decide) (by decide) (fun r14 M14 q14 => ?_)
        obtain ⟨h14, e14⟩ := q14
        replace h14 := h14.symm
        subst h14
        refine x_iload_n hg dX12_stopAt_17 rfl ?_
        refine x_icmp_ne (tgt := 23) hg dX12_stopAt_18 (by decide) (by omega) (by omega) (fun c18 => ?_) (fun c18 => ?_)
        · skip
          refine x_iinc (ls' := [(0, _), (1, _), (2, _), (3, _)]) hg dX12_stopAt_23 rfl (by decide) rfl ?_
          refine x_goto (tgt := 2) hg dX12_stopAt_26 (by decide) ?_
          exact ihn1 _ (by omega) (by omega) (by omega)
        · skip
          refine x_iload_n hg dX12_stopAt_21 rfl ?_
          refine x_iret hg hr (Or.inl rfl) dX12_stopAt_22 (Nat.le_refl _) (Nat.le_refl _) ?_
          exact ⟨rfl, rfl, _, rfl, rfl, Or.inr ⟨by omega, by omega⟩⟩
  refine x_iconst hg dX12_stopAt_0 ?_
  refine x_istore_n (ls' := [(0, _), (1, _), (2, _), (3, _)]) hg dX12_stopAt_1 rfl (by decide) rfl ?_
  exact loop 9 0 (by omega) (by omega) (by omega)

theorem dX12_souredBy_0 : decode cX12_souredBy 0 = .ok (.aload_n 0, 1) := by decide +kernel
theorem dX12_souredBy_1 : decode cX12_souredBy 1 = .ok (.iload_n 2, 1) := by decide +kernel
theorem dX12_souredBy_2 : decode cX12_souredBy 2 = .ok (.aload_n 0, 1) := by decide +kernel
theorem dX12_souredBy_3 : decode cX12_souredBy 3 = .ok (.getfield 158, 3) := by decide +kernel
theorem dX12_souredBy_6 : decode cX12_souredBy 6 = .ok (.iload_n 1, 1) := by decide +kernel
theorem dX12_souredBy_7 : decode cX12_souredBy 7 = .ok (.iaload, 1) := by decide +kernel
theorem dX12_souredBy_8 : decode cX12_souredBy 8 = .ok (.invokevirtual 274, 3) := by decide +kernel
theorem dX12_souredBy_11 : decode cX12_souredBy 11 = .ok (.istore_n 3, 1) := by decide +kernel
theorem dX12_souredBy_12 : decode cX12_souredBy 12 = .ok (.aload_n 0, 1) := by decide +kernel
theorem dX12_souredBy_13 : decode cX12_souredBy 13 = .ok (.iload_n 2, 1) := by decide +kernel
theorem dX12_souredBy_14 : decode cX12_souredBy 14 = .ok (.iconst 0, 1) := by decide +kernel
theorem dX12_souredBy_15 : decode cX12_souredBy 15 = .ok (.invokevirtual 274, 3) := by decide +kernel
theorem dX12_souredBy_18 : decode cX12_souredBy 18 = .ok (.istore 4, 2) := by decide +kernel
theorem dX12_souredBy_20 : decode cX12_souredBy 20 = .ok (.iload_n 3, 1) := by decide +kernel
theorem dX12_souredBy_21 : decode cX12_souredBy 21 = .ok (.ifCond .lt 24, 3) := by decide +kernel
theorem dX12_souredBy_24 : decode cX12_souredBy 24 = .ok (.iload 4, 2) := by decide +kernel
theorem dX12_souredBy_26 : decode cX12_souredBy 26 = .ok (.iload_n 3, 1) := by decide +kernel
theorem dX12_souredBy_27 : decode cX12_souredBy 27 = .ok (.if_icmp .lt 18, 3) := by decide +kernel
theorem dX12_souredBy_30 : decode cX12_souredBy 30 = .ok (.aload_n 0, 1) := by decide +kernel
theorem dX12_souredBy_31 : decode cX12_souredBy 31 = .ok (.iload_n 2, 1) := by decide +kernel
theorem dX12_souredBy_32 : decode cX12_souredBy 32 = .ok (.iload_n 3, 1) := by decide +kernel
theorem dX12_souredBy_33 : decode cX12_souredBy 33 = .ok (.invokevirtual 131, 3) := by decide +kernel
theorem dX12_souredBy_36 : decode cX12_souredBy 36 = .ok (.aload_n 0, 1) := by decide +kernel
theorem dX12_souredBy_37 : decode cX12_souredBy 37 = .ok (.getfield 161, 3) := by decide +kernel
theorem dX12_souredBy_40 : decode cX12_souredBy 40 = .ok (.iload_n 1, 1) := by decide +kernel
theorem dX12_souredBy_41 : decode cX12_souredBy 41 = .ok (.iaload, 1) := by decide +kernel
theorem dX12_souredBy_42 : decode cX12_souredBy 42 = .ok (.if_icmp .ge 5, 3) := by decide +kernel
theorem dX12_souredBy_45 : decode cX12_souredBy 45 = .ok (.iconst (-1), 1) := by decide +kernel
theorem dX12_souredBy_46 : decode cX12_souredBy 46 = .ok (.ireturn, 1) := by decide +kernel
theorem dX12_souredBy_47 : decode cX12_souredBy 47 = .ok (.aload_n 0, 1) := by decide +kernel
theorem dX12_souredBy_48 : decode cX12_souredBy 48 = .ok (.aload_n 0, 1) := by decide +kernel
theorem dX12_souredBy_49 : decode cX12_souredBy 49 = .ok (.getfield 158, 3) := by decide +kernel
theorem dX12_souredBy_52 : decode cX12_souredBy 52 = .ok (.iload_n 1, 1) := by decide +kernel
theorem dX12_souredBy_53 : decode cX12_souredBy 53 = .ok (.iaload, 1) := by decide +kernel
theorem dX12_souredBy_54 : decode cX12_souredBy 54 = .ok (.aload_n 0, 1) := by decide +kernel
theorem dX12_souredBy_55 : decode cX12_souredBy 55 = .ok (.getfield 161, 3) := by decide +kernel
theorem dX12_souredBy_58 : decode cX12_souredBy 58 = .ok (.iload_n 1, 1) := by decide +kernel
theorem dX12_souredBy_59 : decode cX12_souredBy 59 = .ok (.iaload, 1) := by decide +kernel
theorem dX12_souredBy_60 : decode cX12_souredBy 60 = .ok (.aload_n 0, 1) := by decide +kernel
theorem dX12_souredBy_61 : decode cX12_souredBy 61 = .ok (.iload_n 2, 1) := by decide +kernel
theorem dX12_souredBy_62 : decode cX12_souredBy 62 = .ok (.iload_n 3, 1) := by decide +kernel
theorem dX12_souredBy_63 : decode cX12_souredBy 63 = .ok (.invokevirtual 131, 3) := by decide +kernel
theorem dX12_souredBy_66 : decode cX12_souredBy 66 = .ok (.invokevirtual 240, 3) := by decide +kernel
theorem dX12_souredBy_69 : decode cX12_souredBy 69 = .ok (.aload_n 0, 1) := by decide +kernel
theorem dX12_souredBy_70 : decode cX12_souredBy 70 = .ok (.getfield 142, 3) := by decide +kernel
theorem dX12_souredBy_73 : decode cX12_souredBy 73 = .ok (.aload_n 0, 1) := by decide +kernel
theorem dX12_souredBy_74 : decode cX12_souredBy 74 = .ok (.iload_n 2, 1) := by decide +kernel
theorem dX12_souredBy_75 : decode cX12_souredBy 75 = .ok (.iload 4, 2) := by decide +kernel
theorem dX12_souredBy_77 : decode cX12_souredBy 77 = .ok (.invokevirtual 131, 3) := by decide +kernel
theorem dX12_souredBy_80 : decode cX12_souredBy 80 = .ok (.iaload, 1) := by decide +kernel
theorem dX12_souredBy_81 : decode cX12_souredBy 81 = .ok (.iadd, 1) := by decide +kernel
theorem dX12_souredBy_82 : decode cX12_souredBy 82 = .ok (.aload_n 0, 1) := by decide +kernel
theorem dX12_souredBy_83 : decode cX12_souredBy 83 = .ok (.getfield 142, 3) := by decide +kernel
theorem dX12_souredBy_86 : decode cX12_souredBy 86 = .ok (.aload_n 0, 1) := by decide +kernel
theorem dX12_souredBy_87 : decode cX12_souredBy 87 = .ok (.iload_n 2, 1) := by decide +kernel
theorem dX12_souredBy_88 : decode cX12_souredBy 88 = .ok (.iload_n 3, 1) := by decide +kernel
theorem dX12_souredBy_89 : decode cX12_souredBy 89 = .ok (.invokevirtual 131, 3) := by decide +kernel
theorem dX12_souredBy_92 : decode cX12_souredBy 92 = .ok (.iaload, 1) := by decide +kernel
theorem dX12_souredBy_93 : decode cX12_souredBy 93 = .ok (.isub, 1) := by decide +kernel
theorem dX12_souredBy_94 : decode cX12_souredBy 94 = .ok (.ireturn, 1) := by decide +kernel
set_option maxHeartbeats 4000000 in
set_option maxRecDepth 20000 in
theorem c_X12_souredBy (l : Launch) (b : Nat) (D : va_G) (cy : Nat → ClassId) {tt : Nat} {M : xMm} {c t : Int} (hR : MR M) (hC : MC M) (hS : MS M) (hc : 0 ≤ c ∧ c < 10) (hst : 0 ≤ M 187 c.toNat ∧ M 187 c.toNat ≤ 9) (hrd : 0 ≤ M 188 c.toNat ∧ M 188 c.toNat ≤ 1439) (ht : 0 ≤ t ∧ t < 8) : xC l b D cy yX12_souredBy cX12_souredBy 5 (some .int) ({ frames := 2, cells := 0, slots := 0, locals := 45 }) [xr 172, xi c, xi t] 209 M (RS tt) (xPi 209 (RS tt) (fun r M' => M' = M ∧ (r = -1 ∨ (0 ≤ r ∧ r ≤ 62640)))) := by
  refine x_met (by decide) (Nat.le_of_ble_eq_true rfl) (fun g hg hr he => ?_)
  have hss := (MR_use hR ht.1 ht.2).2.2.1
  have hmi := (MR_use hR ht.1 ht.2).2.2.2.2
  refine x_canon (ls' := [(0, _), (1, _), (2, _)]) rfl ?_
  refine x_aload_n hg dX12_souredBy_0 rfl ?_
  refine x_iload_n hg dX12_souredBy_1 rfl ?_
  refine x_aload_n hg dX12_souredBy_2 rfl ?_
  refine x_getR (j9 := 187) hg dX12_souredBy_3 fl_X12_158 (by decide) rfl rfl (by decide) ?_
  refine x_iload_n hg dX12_souredBy_6 rfl ?_
  refine x_iaload (len := 10) hg dX12_souredBy_7 (by decide) (by omega) ?_
  refine x_cVi hg he [_, _] [] dX12_souredBy_8 mv_X12_274 (c_X12_stopAt l b D cy hR (by omega) (by omega)) (by decide) rfl rfl (Nat.le_of_ble_eq_true rfl) (by decide) (by decide) (fun r8 M8 q8 => ?_)
  obtain ⟨h8, e8⟩ := q8
  replace h8 := h8.symm
  subst h8
  refine x_istore_n (ls' := [(0, _), (1, _), (2, _), (3, _)]) hg dX12_souredBy_11 rfl (by decide) rfl ?_
  refine x_aload_n hg dX12_souredBy_12 rfl ?_
  refine x_iload_n hg dX12_souredBy_13 rfl ?_
  refine x_iconst hg dX12_souredBy_14 ?_
  refine x_cVi hg he [_, _] [] dX12_souredBy_15 mv_X12_274 (c_X12_stopAt l b D cy hR (by omega) (by omega)) (by decide) rfl rfl (Nat.le_of_ble_eq_true rfl) (by decide) (by decide) (fun r15 M15 q15 => ?_)
  obtain ⟨h15, e15⟩ := q15
  replace h15 := h15.symm
  subst h15
  refine x_istore (ls' := [(0, _), (1, _), (2, _), (3, _), (4, _)]) hg dX12_souredBy_18 (by decide) rfl ?_
  refine x_iload_n hg dX12_souredBy_20 rfl ?_
  refine x_if_lt (tgt := 45) hg dX12_souredBy_21 (by decide) (by omega) (fun c21 => ?_) (fun c21 => ?_)
  · skip
    refine x_iconst hg dX12_souredBy_45 ?_
    refine x_iret hg hr (Or.inl rfl) dX12_souredBy_46 (Nat.le_refl _) (Nat.le_refl _) ?_
    exact ⟨rfl, rfl, _, rfl, rfl, Or.inl rfl⟩
  · skip
    refine x_iload hg dX12_souredBy_24 rfl ?_
    refine x_iload_n hg dX12_souredBy_26 rfl ?_
    refine x_icmp_lt (tgt := 45) hg dX12_souredBy_27 (by decide) (by omega) (by omega) (fun c27 => ?_) (fun c27 => ?_)
    · skip
      refine x_iconst hg dX12_souredBy_45 ?_
      refine x_iret hg hr (Or.inl rfl) dX12_souredBy_46 (Nat.le_refl _) (Nat.le_refl _) ?_
      exact ⟨rfl, rfl, _, rfl, rfl, Or.inl rfl⟩
    · skip
      refine x_aload_n hg dX12_souredBy_30 rfl ?_
      refine x_iload_n hg dX12_souredBy_31 rfl ?_
      refine x_iload_n hg dX12_souredBy_32 rfl ?_
      refine x_cVi hg he [_, _] [] dX12_souredBy_33 mv_X12_131 (c_X12_minutes l b D cy hR (by omega) (by omega)) (by decide) rfl rfl (Nat.le_of_ble_eq_true rfl) (by decide) (by decide) (fun r33 M33 q33 => ?_)
      obtain ⟨h33, e33⟩ := q33
      replace h33 := h33.symm
      subst h33
      have hmk := (hmi r8 (by omega) (by omega)).2
      refine x_aload_n hg dX12_souredBy_36 rfl ?_
      refine x_getR (j9 := 188) hg dX12_souredBy_37 fl_X12_161 (by decide) rfl rfl (by decide) ?_
      refine x_iload_n hg dX12_souredBy_40 rfl ?_
      refine x_iaload (len := 10) hg dX12_souredBy_41 (by decide) (by omega) ?_
      refine x_icmp_ge (tgt := 47) hg dX12_souredBy_42 (by decide) (by omega) (by omega) (fun c42 => ?_) (fun c42 => ?_)
      · skip
        refine x_aload_n hg dX12_souredBy_47 rfl ?_
        refine x_aload_n hg dX12_souredBy_48 rfl ?_
        refine x_getR (j9 := 187) hg dX12_souredBy_49 fl_X12_158 (by decide) rfl rfl (by decide) ?_
        refine x_iload_n hg dX12_souredBy_52 rfl ?_
        refine x_iaload (len := 10) hg dX12_souredBy_53 (by decide) (by omega) ?_
        refine x_aload_n hg dX12_souredBy_54 rfl ?_
        refine x_getR (j9 := 188) hg dX12_souredBy_55 fl_X12_161 (by decide) rfl rfl (by decide) ?_
        refine x_iload_n hg dX12_souredBy_58 rfl ?_
        refine x_iaload (len := 10) hg dX12_souredBy_59 (by decide) (by omega) ?_
        refine x_aload_n hg dX12_souredBy_60 rfl ?_
        refine x_iload_n hg dX12_souredBy_61 rfl ?_
        refine x_iload_n hg dX12_souredBy_62 rfl ?_
        refine x_cVi hg he [_, _] [_, _, _] dX12_souredBy_63 mv_X12_131 (c_X12_minutes l b D cy hR (by omega) (by omega)) (by decide) rfl rfl (Nat.le_of_ble_eq_true rfl) (by decide) (by decide) (fun r63 M63 q63 => ?_)
        obtain ⟨h63, e63⟩ := q63
        replace h63 := h63.symm
        subst h63
        refine x_cVi hg he [_, _, _] [] dX12_souredBy_66 mv_X12_240 (c_X12_waits l b D cy hC (by omega) (by omega) (by omega)) (by decide) rfl rfl (Nat.le_of_ble_eq_true rfl) (by decide) (by decide) (fun r66 M66 q66 => ?_)
        obtain ⟨h66, e66⟩ := q66
        replace h66 := h66.symm
        subst h66
        have hwb := wt_bd hS (s := M 187 c.toNat) hrd.1 (show M 188 c.toNat ≤ r63 by omega) (by omega)
        refine x_aload_n hg dX12_souredBy_69 rfl ?_
        refine x_getR (j9 := 183) hg dX12_souredBy_70 fl_X12_142 (by decide) rfl rfl (by decide) ?_
        refine x_aload_n hg dX12_souredBy_73 rfl ?_
        refine x_iload_n hg dX12_souredBy_74 rfl ?_
        refine x_iload hg dX12_souredBy_75 rfl ?_
        refine x_cVi hg he [_, _] [_, _] dX12_souredBy_77 mv_X12_131 (c_X12_minutes l b D cy hR (by omega) (by omega)) (by decide) rfl rfl (Nat.le_of_ble_eq_true rfl) (by decide) (by decide) (fun r77 M77 q77 => ?_)
        obtain ⟨h77, e77⟩ := q77
        replace h77 := h77.symm
        subst h77
        have hmj := (hmi r15 (by omega) (by omega)).2
        have hmu : mMi M t r8 ≤ mMi M t r15 := by
          by_cases he : r8 = r15
          · rw [he]; omega
          · exact Int.le_of_lt (MR_lt hR ht.1 ht.2 (by omega) (by omega) (by omega))
        have hse := (MS_le hS (i := r63.toNat) (j := r77.toNat) (by omega) (by omega)).1
        refine x_iaload (len := 1741) hg dX12_souredBy_80 (by decide) (by omega) ?_
        refine x_iadd hg dX12_souredBy_81 ?_
        refine x_aload_n hg dX12_souredBy_82 rfl ?_
        refine x_getR (j9 := 183) hg dX12_souredBy_83 fl_X12_142 (by decide) rfl rfl (by decide) ?_
        refine x_aload_n hg dX12_souredBy_86 rfl ?_
        refine x_iload_n hg dX12_souredBy_87 rfl ?_
        refine x_iload_n hg dX12_souredBy_88 rfl ?_
        refine x_cVi hg he [_, _] [_, _] dX12_souredBy_89 mv_X12_131 (c_X12_minutes l b D cy hR (by omega) (by omega)) (by decide) rfl rfl (Nat.le_of_ble_eq_true rfl) (by decide) (by decide) (fun r89 M89 q89 => ?_)
        obtain ⟨h89, e89⟩ := q89
        replace h89 := h89.symm
        subst h89
        refine x_iaload (len := 1741) hg dX12_souredBy_92 (by decide) (by omega) ?_
        refine x_isub hg dX12_souredBy_93 ?_
        refine x_iret hg hr (Or.inl rfl) dX12_souredBy_94 (Nat.le_refl _) (Nat.le_refl _) ?_
        refine ⟨rfl, rfl, _, rfl, rfl, Or.inr ?_⟩
        rw [show r89.toNat = r63.toNat by omega]
        omega
      · skip
        refine x_iconst hg dX12_souredBy_45 ?_
        refine x_iret hg hr (Or.inl rfl) dX12_souredBy_46 (Nat.le_refl _) (Nat.le_refl _) ?_
        exact ⟨rfl, rfl, _, rfl, rfl, Or.inl rfl⟩

theorem dX12_by_0 : decode cX12_by 0 = .ok (.aload_n 0, 1) := by decide +kernel
theorem dX12_by_1 : decode cX12_by 1 = .ok (.iload_n 1, 1) := by decide +kernel
theorem dX12_by_2 : decode cX12_by 2 = .ok (.invokevirtual 237, 3) := by decide +kernel
theorem dX12_by_5 : decode cX12_by 5 = .ok (.ifCond .eq 11, 3) := by decide +kernel
theorem dX12_by_8 : decode cX12_by 8 = .ok (.aload_n 0, 1) := by decide +kernel
theorem dX12_by_9 : decode cX12_by 9 = .ok (.iload_n 2, 1) := by decide +kernel
theorem dX12_by_10 : decode cX12_by 10 = .ok (.invokevirtual 121, 3) := by decide +kernel
theorem dX12_by_13 : decode cX12_by 13 = .ok (.ifCond .ne 5, 3) := by decide +kernel
theorem dX12_by_16 : decode cX12_by 16 = .ok (.iconst (-1), 1) := by decide +kernel
theorem dX12_by_17 : decode cX12_by 17 = .ok (.ireturn, 1) := by decide +kernel
theorem dX12_by_18 : decode cX12_by 18 = .ok (.aload_n 0, 1) := by decide +kernel
theorem dX12_by_19 : decode cX12_by 19 = .ok (.invokevirtual 248, 3) := by decide +kernel
theorem dX12_by_22 : decode cX12_by 22 = .ok (.aload_n 0, 1) := by decide +kernel
theorem dX12_by_23 : decode cX12_by 23 = .ok (.iload_n 1, 1) := by decide +kernel
theorem dX12_by_24 : decode cX12_by 24 = .ok (.iload_n 2, 1) := by decide +kernel
theorem dX12_by_25 : decode cX12_by 25 = .ok (.invokevirtual 277, 3) := by decide +kernel
theorem dX12_by_28 : decode cX12_by 28 = .ok (.ireturn, 1) := by decide +kernel
set_option maxHeartbeats 4000000 in
set_option maxRecDepth 20000 in
theorem c_X12_by (l : Launch) (b : Nat) (D : va_G) (cy : Nat → ClassId) {tt : Nat} {M : xMm} {z y : Int} (hO : MO M) (hR : MR M) (hC : MC M) (hz : inR z) (hy : inR y) : xC l b D cy yX12_by cX12_by 3 (some .int) ({ frames := 3, cells := 0, slots := 0, locals := 69 }) [xr 172, xi z, xi y] 209 M (RS tt) (xPi 209 (RS tt) (fun r M' => ∀ a, a ≠ 183 → a ≠ 184 → M' a = M a)) := by
  refine x_met (by decide) (Nat.le_of_ble_eq_true rfl) (fun g hg hr he => ?_)
  have hn := hO.1
  obtain ⟨hb, hm⟩ := MR_many hR
  refine x_canon (ls' := [(0, _), (1, _), (2, _)]) rfl ?_
  refine x_aload_n hg dX12_by_0 rfl ?_
  refine x_iload_n hg dX12_by_1 rfl ?_
  refine x_cVi hg he [_] [] dX12_by_2 mv_X12_237 (c_X12_isChurn l b D cy (by omega) (by omega)) (by decide) rfl rfl (Nat.le_of_ble_eq_true rfl) (by decide) (by decide) (fun r2 M2 q2 => ?_)
  obtain ⟨h2, e2⟩ := q2
  replace h2 := h2.symm
  subst h2
  refine x_if_eq (tgt := 16) hg dX12_by_5 (by decide) (by omega) (fun c5 => ?_) (fun c5 => ?_)
  · skip
    refine x_iconst hg dX12_by_16 ?_
    refine x_iret hg hr (Or.inl rfl) dX12_by_17 (Nat.le_refl _) (Nat.le_refl _) ?_
    exact ⟨rfl, rfl, _, rfl, fun a _ _ => rfl⟩
  · skip
    refine x_aload_n hg dX12_by_8 rfl ?_
    refine x_iload_n hg dX12_by_9 rfl ?_
    refine x_cVi hg he [_] [] dX12_by_10 mv_X12_121 (c_X12_isTrain l b D cy hR (by omega)) (by decide) rfl rfl (Nat.le_of_ble_eq_true rfl) (by decide) (by decide) (fun r10 M10 q10 => ?_)
    obtain ⟨h10, e10⟩ := q10
    replace h10 := h10.symm
    subst h10
    refine x_if_ne (tgt := 18) hg dX12_by_13 (by decide) (by omega) (fun c13 => ?_) (fun c13 => ?_)
    · skip
      refine x_aload_n hg dX12_by_18 rfl ?_
      refine x_cVv hg he [] [] dX12_by_19 mv_X12_248 (c_X12_sumUp l b D cy hC) (by decide) rfl rfl (Nat.le_of_ble_eq_true rfl) (by decide) (by decide) (fun M19 q19 => ?_)
      obtain ⟨hS19, hf19⟩ := q19
      have hC2 : MC M19 := ⟨fun k hk => by rw [hf19 182 (by decide) (by decide)]; exact hC.1 k hk, fun s hs => by rw [hf19 185 (by decide) (by decide)]; exact hC.2.1 s hs, hS19.1, hS19.2.1⟩
      refine x_aload_n hg dX12_by_22 rfl ?_
      refine x_iload_n hg dX12_by_23 rfl ?_
      refine x_iload_n hg dX12_by_24 rfl ?_
      refine x_cVi hg he [_, _] [] dX12_by_25 mv_X12_277 (c_X12_souredBy l b D cy (MR_fr (fun a _ _ => hf19 a (by omega) (by omega)) (by rw [hf19 172 (by decide) (by decide)]) hR) hC2 hS19 (by omega) (by rw [hf19 187 (by decide) (by decide)]; exact (hO.2.2.2.2.2.1 z.toNat (by omega)).2.1) (by rw [hf19 188 (by decide) (by decide)]; exact (hO.2.2.2.2.2.1 z.toNat (by omega)).2.2.1) (by omega)) (by decide) rfl rfl (Nat.le_of_ble_eq_true rfl) (by decide) (by decide) (fun r25 M25 q25 => ?_)
      obtain ⟨h25, e25⟩ := q25
      replace h25 := h25.symm
      subst h25
      refine x_iret hg hr (Or.inl rfl) dX12_by_28 (Nat.le_refl _) (Nat.le_refl _) ?_
      exact ⟨rfl, rfl, _, rfl, hf19⟩
    · skip
      refine x_iconst hg dX12_by_16 ?_
      refine x_iret hg hr (Or.inl rfl) dX12_by_17 (Nat.le_refl _) (Nat.le_refl _) ?_
      exact ⟨rfl, rfl, _, rfl, fun a _ _ => rfl⟩

theorem dX12_reaches_0 : decode cX12_reaches 0 = .ok (.iload_n 2, 1) := by decide +kernel
theorem dX12_reaches_1 : decode cX12_reaches 1 = .ok (.aload_n 0, 1) := by decide +kernel
theorem dX12_reaches_2 : decode cX12_reaches 2 = .ok (.getfield 170, 3) := by decide +kernel
theorem dX12_reaches_5 : decode cX12_reaches 5 = .ok (.iload_n 1, 1) := by decide +kernel
theorem dX12_reaches_6 : decode cX12_reaches 6 = .ok (.iaload, 1) := by decide +kernel
theorem dX12_reaches_7 : decode cX12_reaches 7 = .ok (.if_icmp .gt 23, 3) := by decide +kernel
theorem dX12_reaches_10 : decode cX12_reaches 10 = .ok (.iload_n 2, 1) := by decide +kernel
theorem dX12_reaches_11 : decode cX12_reaches 11 = .ok (.aload_n 0, 1) := by decide +kernel
theorem dX12_reaches_12 : decode cX12_reaches 12 = .ok (.getfield 170, 3) := by decide +kernel
theorem dX12_reaches_15 : decode cX12_reaches 15 = .ok (.iload_n 1, 1) := by decide +kernel
theorem dX12_reaches_16 : decode cX12_reaches 16 = .ok (.iaload, 1) := by decide +kernel
theorem dX12_reaches_17 : decode cX12_reaches 17 = .ok (.if_icmp .ne 15, 3) := by decide +kernel
theorem dX12_reaches_20 : decode cX12_reaches 20 = .ok (.iload_n 3, 1) := by decide +kernel
theorem dX12_reaches_21 : decode cX12_reaches 21 = .ok (.aload_n 0, 1) := by decide +kernel
theorem dX12_reaches_22 : decode cX12_reaches 22 = .ok (.getfield 173, 3) := by decide +kernel
theorem dX12_reaches_25 : decode cX12_reaches 25 = .ok (.iload_n 1, 1) := by decide +kernel
theorem dX12_reaches_26 : decode cX12_reaches 26 = .ok (.iaload, 1) := by decide +kernel
theorem dX12_reaches_27 : decode cX12_reaches 27 = .ok (.if_icmp .lt 5, 3) := by decide +kernel
theorem dX12_reaches_30 : decode cX12_reaches 30 = .ok (.iconst 0, 1) := by decide +kernel
theorem dX12_reaches_31 : decode cX12_reaches 31 = .ok (.ireturn, 1) := by decide +kernel
theorem dX12_reaches_32 : decode cX12_reaches 32 = .ok (.aload_n 0, 1) := by decide +kernel
theorem dX12_reaches_33 : decode cX12_reaches 33 = .ok (.getfield 170, 3) := by decide +kernel
theorem dX12_reaches_36 : decode cX12_reaches 36 = .ok (.iload_n 1, 1) := by decide +kernel
theorem dX12_reaches_37 : decode cX12_reaches 37 = .ok (.iload_n 2, 1) := by decide +kernel
theorem dX12_reaches_38 : decode cX12_reaches 38 = .ok (.iastore, 1) := by decide +kernel
theorem dX12_reaches_39 : decode cX12_reaches 39 = .ok (.aload_n 0, 1) := by decide +kernel
theorem dX12_reaches_40 : decode cX12_reaches 40 = .ok (.getfield 173, 3) := by decide +kernel
theorem dX12_reaches_43 : decode cX12_reaches 43 = .ok (.iload_n 1, 1) := by decide +kernel
theorem dX12_reaches_44 : decode cX12_reaches 44 = .ok (.iload_n 3, 1) := by decide +kernel
theorem dX12_reaches_45 : decode cX12_reaches 45 = .ok (.iastore, 1) := by decide +kernel
theorem dX12_reaches_46 : decode cX12_reaches 46 = .ok (.iconst 1, 1) := by decide +kernel
theorem dX12_reaches_47 : decode cX12_reaches 47 = .ok (.ireturn, 1) := by decide +kernel
set_option maxHeartbeats 4000000 in
set_option maxRecDepth 20000 in
theorem c_X12_reaches (l : Launch) (b : Nat) (D : va_G) (cy : Nat → ClassId) {tt : Nat} {M : xMm} {z y x : Int} (hz : 0 ≤ z ∧ z < 64) (hy : inR y) (hx : inR x) (h1 : inR (M 191 z.toNat)) (h2 : inR (M 192 z.toNat)) : xC l b D cy yX12_reaches cX12_reaches 4 (some .boolean) ({ frames := 0, cells := 0, slots := 0, locals := 0 }) [xr 172, xi z, xi y, xi x] 209 M (RS tt) (xPi 209 (RS tt) (fun r M' => (r = 0 ∧ M' = M) ∨ (r = 1 ∧ M' = mu (mu M 191 z.toNat y) 192 z.toNat x ∧ (y < M 191 z.toNat ∨ y = M 191 z.toNat ∧ x < M 192 z.toNat)))) := by
  refine x_met (by decide) (Nat.le_of_ble_eq_true rfl) (fun g hg hr he => ?_)
  refine x_canon (ls' := [(0, _), (1, _), (2, _), (3, _)]) rfl ?_
  refine x_iload_n hg dX12_reaches_0 rfl ?_
  refine x_aload_n hg dX12_reaches_1 rfl ?_
  refine x_getR (j9 := 191) hg dX12_reaches_2 fl_X12_170 (by decide) rfl rfl (by decide) ?_
  refine x_iload_n hg dX12_reaches_5 rfl ?_
  refine x_iaload (len := 64) hg dX12_reaches_6 (by decide) (by omega) ?_
  refine x_icmp_gt (tgt := 30) hg dX12_reaches_7 (by decide) (by omega) (by omega) (fun c7 => ?_) (fun c7 => ?_)
  · skip
    refine x_iconst hg dX12_reaches_30 ?_
    refine x_iret hg hr (Or.inr ⟨rfl, by first | exact Or.inl rfl | exact Or.inr rfl | omega⟩) dX12_reaches_31 (Nat.le_refl _) (Nat.le_refl _) ?_
    exact ⟨rfl, rfl, _, rfl, Or.inl ⟨rfl, rfl⟩⟩
  · skip
    refine x_iload_n hg dX12_reaches_10 rfl ?_
    refine x_aload_n hg dX12_reaches_11 rfl ?_
    refine x_getR (j9 := 191) hg dX12_reaches_12 fl_X12_170 (by decide) rfl rfl (by decide) ?_
    refine x_iload_n hg dX12_reaches_15 rfl ?_
    refine x_iaload (len := 64) hg dX12_reaches_16 (by decide) (by omega) ?_
    refine x_icmp_ne (tgt := 32) hg dX12_reaches_17 (by decide) (by omega) (by omega) (fun c17 => ?_) (fun c17 => ?_)
    · skip
      refine x_aload_n hg dX12_reaches_32 rfl ?_
      refine x_getR (j9 := 191) hg dX12_reaches_33 fl_X12_170 (by decide) rfl rfl (by decide) ?_
      refine x_iload_n hg dX12_reaches_36 rfl ?_
      refine x_iload_n hg dX12_reaches_37 rfl ?_
      refine x_iastore (len := 64) hg dX12_reaches_38 (by decide) (by omega)  ?_
      refine x_aload_n hg dX12_reaches_39 rfl ?_
      refine x_getR (j9 := 192) hg dX12_reaches_40 fl_X12_173 (by decide) rfl rfl (by decide) ?_
      refine x_iload_n hg dX12_reaches_43 rfl ?_
      refine x_iload_n hg dX12_reaches_44 rfl ?_
      refine x_iastore (len := 64) hg dX12_reaches_45 (by decide) (by omega)  ?_
      refine x_iconst hg dX12_reaches_46 ?_
      refine x_iret hg hr (Or.inr ⟨rfl, by first | exact Or.inl rfl | exact Or.inr rfl | omega⟩) dX12_reaches_47 (Nat.le_refl _) (Nat.le_refl _) ?_
      exact ⟨rfl, rfl, _, rfl, Or.inr ⟨rfl, rfl, by omega⟩⟩
    · skip
      refine x_iload_n hg dX12_reaches_20 rfl ?_
      refine x_aload_n hg dX12_reaches_21 rfl ?_
      refine x_getR (j9 := 192) hg dX12_reaches_22 fl_X12_173 (by decide) rfl rfl (by decide) ?_
      refine x_iload_n hg dX12_reaches_25 rfl ?_
      refine x_iaload (len := 64) hg dX12_reaches_26 (by decide) (by omega) ?_
      refine x_icmp_lt (tgt := 32) hg dX12_reaches_27 (by decide) (by omega) (by omega) (fun c27 => ?_) (fun c27 => ?_)
      · skip
        refine x_aload_n hg dX12_reaches_32 rfl ?_
        refine x_getR (j9 := 191) hg dX12_reaches_33 fl_X12_170 (by decide) rfl rfl (by decide) ?_
        refine x_iload_n hg dX12_reaches_36 rfl ?_
        refine x_iload_n hg dX12_reaches_37 rfl ?_
        refine x_iastore (len := 64) hg dX12_reaches_38 (by decide) (by omega)  ?_
        refine x_aload_n hg dX12_reaches_39 rfl ?_
        refine x_getR (j9 := 192) hg dX12_reaches_40 fl_X12_173 (by decide) rfl rfl (by decide) ?_
        refine x_iload_n hg dX12_reaches_43 rfl ?_
        refine x_iload_n hg dX12_reaches_44 rfl ?_
        refine x_iastore (len := 64) hg dX12_reaches_45 (by decide) (by omega)  ?_
        refine x_iconst hg dX12_reaches_46 ?_
        refine x_iret hg hr (Or.inr ⟨rfl, by first | exact Or.inl rfl | exact Or.inr rfl | omega⟩) dX12_reaches_47 (Nat.le_refl _) (Nat.le_refl _) ?_
        exact ⟨rfl, rfl, _, rfl, Or.inr ⟨rfl, rfl, by omega⟩⟩
      · skip
        refine x_iconst hg dX12_reaches_30 ?_
        refine x_iret hg hr (Or.inr ⟨rfl, by first | exact Or.inl rfl | exact Or.inr rfl | omega⟩) dX12_reaches_31 (Nat.le_refl _) (Nat.le_refl _) ?_
        exact ⟨rfl, rfl, _, rfl, Or.inl ⟨rfl, rfl⟩⟩

theorem dX12_goesOn_0 : decode cX12_goesOn 0 = .ok (.iconst 0, 1) := by decide +kernel
theorem dX12_goesOn_1 : decode cX12_goesOn 1 = .ok (.istore 5, 2) := by decide +kernel
theorem dX12_goesOn_3 : decode cX12_goesOn 3 = .ok (.iconst 0, 1) := by decide +kernel
theorem dX12_goesOn_4 : decode cX12_goesOn 4 = .ok (.istore 6, 2) := by decide +kernel
theorem dX12_goesOn_6 : decode cX12_goesOn 6 = .ok (.iload 6, 2) := by decide +kernel
theorem dX12_goesOn_8 : decode cX12_goesOn 8 = .ok (.aload_n 0, 1) := by decide +kernel
theorem dX12_goesOn_9 : decode cX12_goesOn 9 = .ok (.getfield 81, 3) := by decide +kernel
theorem dX12_goesOn_12 : decode cX12_goesOn 12 = .ok (.aload_n 0, 1) := by decide +kernel
theorem dX12_goesOn_13 : decode cX12_goesOn 13 = .ok (.getfield 75, 3) := by decide +kernel
theorem dX12_goesOn_16 : decode cX12_goesOn 16 = .ok (.iaload, 1) := by decide +kernel
theorem dX12_goesOn_17 : decode cX12_goesOn 17 = .ok (.if_icmp .ge 149, 3) := by decide +kernel
theorem dX12_goesOn_20 : decode cX12_goesOn 20 = .ok (.iconst 0, 1) := by decide +kernel
theorem dX12_goesOn_21 : decode cX12_goesOn 21 = .ok (.istore 7, 2) := by decide +kernel
theorem dX12_goesOn_23 : decode cX12_goesOn 23 = .ok (.iload 7, 2) := by decide +kernel
theorem dX12_goesOn_25 : decode cX12_goesOn 25 = .ok (.aload_n 0, 1) := by decide +kernel
theorem dX12_goesOn_26 : decode cX12_goesOn 26 = .ok (.iload 6, 2) := by decide +kernel
theorem dX12_goesOn_28 : decode cX12_goesOn 28 = .ok (.invokevirtual 124, 3) := by decide +kernel
theorem dX12_goesOn_31 : decode cX12_goesOn 31 = .ok (.if_icmp .ge 129, 3) := by decide +kernel
theorem dX12_goesOn_34 : decode cX12_goesOn 34 = .ok (.aload_n 0, 1) := by decide +kernel
theorem dX12_goesOn_35 : decode cX12_goesOn 35 = .ok (.iload 6, 2) := by decide +kernel
theorem dX12_goesOn_37 : decode cX12_goesOn 37 = .ok (.iload 7, 2) := by decide +kernel
theorem dX12_goesOn_39 : decode cX12_goesOn 39 = .ok (.invokevirtual 127, 3) := by decide +kernel
theorem dX12_goesOn_42 : decode cX12_goesOn 42 = .ok (.iload_n 1, 1) := by decide +kernel
theorem dX12_goesOn_43 : decode cX12_goesOn 43 = .ok (.if_icmp .ne 111, 3) := by decide +kernel
theorem dX12_goesOn_46 : decode cX12_goesOn 46 = .ok (.aload_n 0, 1) := by decide +kernel
theorem dX12_goesOn_47 : decode cX12_goesOn 47 = .ok (.iload 6, 2) := by decide +kernel
theorem dX12_goesOn_49 : decode cX12_goesOn 49 = .ok (.iload 7, 2) := by decide +kernel
theorem dX12_goesOn_51 : decode cX12_goesOn 51 = .ok (.invokevirtual 131, 3) := by decide +kernel
theorem dX12_goesOn_54 : decode cX12_goesOn 54 = .ok (.iload_n 2, 1) := by decide +kernel
theorem dX12_goesOn_55 : decode cX12_goesOn 55 = .ok (.if_icmp .ge 6, 3) := by decide +kernel
theorem dX12_goesOn_58 : decode cX12_goesOn 58 = .ok (.goto 96, 3) := by decide +kernel
theorem dX12_goesOn_61 : decode cX12_goesOn 61 = .ok (.iload_n 3, 1) := by decide +kernel
theorem dX12_goesOn_62 : decode cX12_goesOn 62 = .ok (.aload_n 0, 1) := by decide +kernel
theorem dX12_goesOn_63 : decode cX12_goesOn 63 = .ok (.iload_n 1, 1) := by decide +kernel
theorem dX12_goesOn_64 : decode cX12_goesOn 64 = .ok (.iload_n 2, 1) := by decide +kernel
theorem dX12_goesOn_65 : decode cX12_goesOn 65 = .ok (.aload_n 0, 1) := by decide +kernel
theorem dX12_goesOn_66 : decode cX12_goesOn 66 = .ok (.iload 6, 2) := by decide +kernel
theorem dX12_goesOn_68 : decode cX12_goesOn 68 = .ok (.iload 7, 2) := by decide +kernel
theorem dX12_goesOn_70 : decode cX12_goesOn 70 = .ok (.invokevirtual 131, 3) := by decide +kernel
theorem dX12_goesOn_73 : decode cX12_goesOn 73 = .ok (.invokevirtual 240, 3) := by decide +kernel
theorem dX12_goesOn_76 : decode cX12_goesOn 76 = .ok (.iadd, 1) := by decide +kernel
theorem dX12_goesOn_77 : decode cX12_goesOn 77 = .ok (.istore 8, 2) := by decide +kernel
theorem dX12_goesOn_79 : decode cX12_goesOn 79 = .ok (.iload 7, 2) := by decide +kernel
theorem dX12_goesOn_81 : decode cX12_goesOn 81 = .ok (.iconst 1, 1) := by decide +kernel
theorem dX12_goesOn_82 : decode cX12_goesOn 82 = .ok (.iadd, 1) := by decide +kernel
theorem dX12_goesOn_83 : decode cX12_goesOn 83 = .ok (.istore 9, 2) := by decide +kernel
theorem dX12_goesOn_85 : decode cX12_goesOn 85 = .ok (.iload 9, 2) := by decide +kernel
theorem dX12_goesOn_87 : decode cX12_goesOn 87 = .ok (.aload_n 0, 1) := by decide +kernel
theorem dX12_goesOn_88 : decode cX12_goesOn 88 = .ok (.iload 6, 2) := by decide +kernel
theorem dX12_goesOn_90 : decode cX12_goesOn 90 = .ok (.invokevirtual 124, 3) := by decide +kernel
theorem dX12_goesOn_93 : decode cX12_goesOn 93 = .ok (.if_icmp .ge 61, 3) := by decide +kernel
theorem dX12_goesOn_96 : decode cX12_goesOn 96 = .ok (.aload_n 0, 1) := by decide +kernel
theorem dX12_goesOn_97 : decode cX12_goesOn 97 = .ok (.bipush 8, 2) := by decide +kernel
theorem dX12_goesOn_99 : decode cX12_goesOn 99 = .ok (.iload 6, 2) := by decide +kernel
theorem dX12_goesOn_101 : decode cX12_goesOn 101 = .ok (.imul, 1) := by decide +kernel
theorem dX12_goesOn_102 : decode cX12_goesOn 102 = .ok (.iload 9, 2) := by decide +kernel
theorem dX12_goesOn_104 : decode cX12_goesOn 104 = .ok (.iadd, 1) := by decide +kernel
theorem dX12_goesOn_105 : decode cX12_goesOn 105 = .ok (.iload 8, 2) := by decide +kernel
theorem dX12_goesOn_107 : decode cX12_goesOn 107 = .ok (.aload_n 0, 1) := by decide +kernel
theorem dX12_goesOn_108 : decode cX12_goesOn 108 = .ok (.getfield 142, 3) := by decide +kernel
theorem dX12_goesOn_111 : decode cX12_goesOn 111 = .ok (.aload_n 0, 1) := by decide +kernel
theorem dX12_goesOn_112 : decode cX12_goesOn 112 = .ok (.iload 6, 2) := by decide +kernel
theorem dX12_goesOn_114 : decode cX12_goesOn 114 = .ok (.iload 9, 2) := by decide +kernel
theorem dX12_goesOn_116 : decode cX12_goesOn 116 = .ok (.invokevirtual 131, 3) := by decide +kernel
theorem dX12_goesOn_119 : decode cX12_goesOn 119 = .ok (.iaload, 1) := by decide +kernel
theorem dX12_goesOn_120 : decode cX12_goesOn 120 = .ok (.iadd, 1) := by decide +kernel
theorem dX12_goesOn_121 : decode cX12_goesOn 121 = .ok (.aload_n 0, 1) := by decide +kernel
theorem dX12_goesOn_122 : decode cX12_goesOn 122 = .ok (.getfield 142, 3) := by decide +kernel
theorem dX12_goesOn_125 : decode cX12_goesOn 125 = .ok (.aload_n 0, 1) := by decide +kernel
theorem dX12_goesOn_126 : decode cX12_goesOn 126 = .ok (.iload 6, 2) := by decide +kernel
theorem dX12_goesOn_128 : decode cX12_goesOn 128 = .ok (.iload 7, 2) := by decide +kernel
theorem dX12_goesOn_130 : decode cX12_goesOn 130 = .ok (.invokevirtual 131, 3) := by decide +kernel
theorem dX12_goesOn_133 : decode cX12_goesOn 133 = .ok (.iaload, 1) := by decide +kernel
theorem dX12_goesOn_134 : decode cX12_goesOn 134 = .ok (.isub, 1) := by decide +kernel
theorem dX12_goesOn_135 : decode cX12_goesOn 135 = .ok (.iload 4, 2) := by decide +kernel
theorem dX12_goesOn_137 : decode cX12_goesOn 137 = .ok (.iconst 1, 1) := by decide +kernel
theorem dX12_goesOn_138 : decode cX12_goesOn 138 = .ok (.iadd, 1) := by decide +kernel
theorem dX12_goesOn_139 : decode cX12_goesOn 139 = .ok (.invokevirtual 244, 3) := by decide +kernel
theorem dX12_goesOn_142 : decode cX12_goesOn 142 = .ok (.ifCond .eq 6, 3) := by decide +kernel
theorem dX12_goesOn_145 : decode cX12_goesOn 145 = .ok (.iconst 1, 1) := by decide +kernel
theorem dX12_goesOn_146 : decode cX12_goesOn 146 = .ok (.istore 5, 2) := by decide +kernel
theorem dX12_goesOn_148 : decode cX12_goesOn 148 = .ok (.iinc 9 1, 3) := by decide +kernel
theorem dX12_goesOn_151 : decode cX12_goesOn 151 = .ok (.goto (-66), 3) := by decide +kernel
theorem dX12_goesOn_154 : decode cX12_goesOn 154 = .ok (.iinc 7 1, 3) := by decide +kernel
theorem dX12_goesOn_157 : decode cX12_goesOn 157 = .ok (.goto (-134), 3) := by decide +kernel
theorem dX12_goesOn_160 : decode cX12_goesOn 160 = .ok (.iinc 6 1, 3) := by decide +kernel
theorem dX12_goesOn_163 : decode cX12_goesOn 163 = .ok (.goto (-157), 3) := by decide +kernel
theorem dX12_goesOn_166 : decode cX12_goesOn 166 = .ok (.iload 5, 2) := by decide +kernel
theorem dX12_goesOn_168 : decode cX12_goesOn 168 = .ok (.ireturn, 1) := by decide +kernel
set_option maxHeartbeats 4000000 in
set_option maxRecDepth 20000 in
theorem c_X12_goesOn (l : Launch) (b : Nat) (D : va_G) (cy : Nat → ClassId) {tt : Nat} {M : xMm} {z fr so tn : Int} (hR : MR M) (hC : MC M) (hS : MS M) (hW : WP M M) (hz : 0 ≤ z ∧ z < 10) (hfr : 0 ≤ fr ∧ fr ≤ 1739) (hso : 0 ≤ so ∧ so ≤ 36 * fr) (htn : 0 ≤ tn ∧ tn ≤ fr) : xC l b D cy yX12_goesOn cX12_goesOn 10 (some .boolean) ({ frames := 1, cells := 0, slots := 0, locals := 23 }) [xr 172, xi z, xi fr, xi so, xi tn] 209 M (RS tt) (xPi 209 (RS tt) (fun r M' => GW M' M r)) := by
  refine x_met (by decide) (Nat.le_of_ble_eq_true rfl) (fun g hg hr he => ?_)
  refine x_canon (ls' := [(0, _), (1, _), (2, _), (3, _), (4, _)]) rfl ?_
  obtain ⟨hb, hm⟩ := MR_many hR
  have loop6 : ∀ (n1 : Nat) (M1 : xMm) (v t : Int), GW M1 M v → 0 ≤ t → t ≤ 8 → 8 - t < n1 → xW g 209 M1 (RS tt) 0 0 6 [(0, xr 172), (1, xi z), (2, xi fr), (3, xi so), (4, xi tn), (5, xi v), (6, xi t)] [] := by
    intro n1
    induction n1 with
    | zero => intro M1 v t G1 ht0 ht1 ht2; exfalso; omega
    | succ n1 ihn1 =>
      intro M1 v t G1 ht0 ht1 ht2
      have hR1 := fw_R G1.2.1 hR
      have hC1 := fw_C G1.2.1 hC
      have hma1 := fw_ma G1.2.1
      have hb1 := hR1.1
      have hv1 := G1.2.2.1
      have loop23 : t < mMa M → ∀ (n2 : Nat) (M2 : xMm) (v2 k : Int), GW M2 M v2 → 0 ≤ k → k ≤ 8 → 8 - k < n2 → xW g 209 M2 (RS tt) 0 0 23 [(0, xr 172), (1, xi z), (2, xi fr), (3, xi so), (4, xi tn), (5, xi v2), (6, xi t), (7, xi k)] [] := by
        intro htm n2
        induction n2 with
        | zero => intro M2 v2 k G2 hk0 hk1 hk2; exfalso; omega
        | succ n2 ihn2 =>
          intro M2 v2 k G2 hk0 hk1 hk2
          have hR2 := fw_R G2.2.1 hR
          have hC2 := fw_C G2.2.1 hC
          have hma2 := fw_ma G2.2.1
          have hb2 := hR2.1
          have hv2 := G2.2.2.1
          have hss := (MR_use hR (t := t) (by omega) (by omega)).2.2.1
          have hmi := (MR_use hR (t := t) (by omega) (by omega)).2.2.2.2
          have j154 : ∀ (M3 : xMm) (v3 : Int), GW M3 M v3 → k < 8 → xW g 209 M3 (RS tt) 0 0 154 [(0, xr 172), (1, xi z), (2, xi fr), (3, xi so), (4, xi tn), (5, xi v3), (6, xi t), (7, xi k)] [] := by
            intro M3 v3 G3 hk8
            refine x_iinc (ls' := [(0, _), (1, _), (2, _), (3, _), (4, _), (5, _), (6, _), (7, _)]) hg dX12_goesOn_154 rfl (by decide) rfl ?_
            refine x_goto (tgt := 23) hg dX12_goesOn_157 (by decide) ?_
            exact ihn2 M3 v3 _ G3 (by omega) (by omega) (by omega)
          have loop85 : ∀ bg : Int, (0 ≤ bg ∧ bg ≤ 36 * mMi M t k) → fr ≤ mMi M t k → k < mSs M t → ∀ (n3 : Nat) (M3 : xMm) (v3 j : Int), GW M3 M v3 → k < j → j ≤ 8 → 8 - j < n3 → xW g 209 M3 (RS tt) 0 0 85 [(0, xr 172), (1, xi z), (2, xi fr), (3, xi so), (4, xi tn), (5, xi v3), (6, xi t), (7, xi k), (8, xi bg), (9, xi j)] [] := by
            intro bg hbg hfk hks n3
            induction n3 with
            | zero => intro M3 v3 j G3 hj0 hj1 hj2; exfalso; omega
            | succ n3 ihn3 =>
              intro M3 v3 j G3 hj0 hj1 hj2
              have hR3 := fw_R G3.2.1 hR
              have hC3 := fw_C G3.2.1 hC
              have hma3 := fw_ma G3.2.1
              have hb3 := hR3.1
              have hv3 := G3.2.2.1
              refine x_iload hg dX12_goesOn_85 rfl ?_
              refine x_aload_n hg dX12_goesOn_87 rfl ?_
              refine x_iload hg dX12_goesOn_88 rfl ?_
              refine x_cVi hg he [_] [_] dX12_goesOn_90 mv_X12_124 (c_X12_stops l b D cy hR3 (by omega)) (by decide) rfl rfl (Nat.le_of_ble_eq_true rfl) (by decide) (by decide) (fun r90 M90 q90 => ?_)
              obtain ⟨h90, e90⟩ := q90
              replace h90 := h90.symm
              subst h90
              rw [fw_ss G3.2.1] at e90
              refine x_icmp_ge (tgt := 154) hg dX12_goesOn_93 (by decide) (by omega) (by omega) (fun c93 => ?_) (fun c93 => ?_)
              · skip
                refine x_canon (ls' := [(0, _), (1, _), (2, _), (3, _), (4, _), (5, _), (6, _), (7, _)]) rfl ?_
                exact j154 M3 v3 G3 (by omega)
              · skip
                refine x_aload_n hg dX12_goesOn_96 rfl ?_
                refine x_bipush hg dX12_goesOn_97 (by decide) ?_
                refine x_iload hg dX12_goesOn_99 rfl ?_
                refine x_imul hg dX12_goesOn_101 ?_
                refine x_iload hg dX12_goesOn_102 rfl ?_
                refine x_iadd hg dX12_goesOn_104 ?_
                refine x_iload hg dX12_goesOn_105 rfl ?_
                refine x_aload_n hg dX12_goesOn_107 rfl ?_
                refine x_getR (j9 := 183) hg dX12_goesOn_108 fl_X12_142 (by decide) rfl rfl (by decide) ?_
                refine x_aload_n hg dX12_goesOn_111 rfl ?_
                refine x_iload hg dX12_goesOn_112 rfl ?_
                refine x_iload hg dX12_goesOn_114 rfl ?_
                refine x_cVi hg he [_, _] [_, _, _, _] dX12_goesOn_116 mv_X12_131 (c_X12_minutes l b D cy hR3 (by omega) (by omega)) (by decide) rfl rfl (Nat.le_of_ble_eq_true rfl) (by decide) (by decide) (fun r116 M116 q116 => ?_)
                obtain ⟨h116, e116⟩ := q116
                replace h116 := h116.symm
                subst h116
                rw [fw_mi G3.2.1] at e116
                have hmj := (hmi j (by omega) (by omega)).2
                have hmk := (hmi k (by omega) (by omega)).2
                have hlt := MR_lt hR (t := t) (k := k) (j := j) (by omega) (by omega) (by omega) (by omega) (by omega)
                refine x_iaload (len := 1741) hg dX12_goesOn_119 (by decide) (by omega) ?_
                refine x_iadd hg dX12_goesOn_120 ?_
                refine x_aload_n hg dX12_goesOn_121 rfl ?_
                refine x_getR (j9 := 183) hg dX12_goesOn_122 fl_X12_142 (by decide) rfl rfl (by decide) ?_
                refine x_aload_n hg dX12_goesOn_125 rfl ?_
                refine x_iload hg dX12_goesOn_126 rfl ?_
                refine x_iload hg dX12_goesOn_128 rfl ?_
                refine x_cVi hg he [_, _] [_, _, _, _] dX12_goesOn_130 mv_X12_131 (c_X12_minutes l b D cy hR3 (by omega) (by omega)) (by decide) rfl rfl (Nat.le_of_ble_eq_true rfl) (by decide) (by decide) (fun r130 M130 q130 => ?_)
                obtain ⟨h130, e130⟩ := q130
                replace h130 := h130.symm
                subst h130
                rw [fw_mi G3.2.1] at e130
                have hse := (MS_le (fw_S G3.2.1 hS) (i := r130.toNat) (j := r116.toNat) (by omega) (by omega)).1
                have hwp := WP_at G3.1 (t := t) (k := j) (by omega) (by omega)
                refine x_iaload (len := 1741) hg dX12_goesOn_133 (by decide) (by omega) ?_
                refine x_isub hg dX12_goesOn_134 ?_
                refine x_iload hg dX12_goesOn_135 rfl ?_
                refine x_iconst hg dX12_goesOn_137 ?_
                refine x_iadd hg dX12_goesOn_138 ?_
                refine x_cVi hg he [_, _, _] [] dX12_goesOn_139 mv_X12_244 (c_X12_reaches l b D cy (by omega) (by omega) (by omega) (by omega) (by omega)) (by decide) rfl rfl (Nat.le_of_ble_eq_true rfl) (by decide) (by decide) (fun r139 M139 q139 => ?_)
                have gr := GW_reach (t := t) (j := j) G3 hR (by omega) (by omega) (by omega) (by omega) q139
                obtain ⟨gr1, gr2, gr3⟩ := gr
                refine x_if_eq (tgt := 148) hg dX12_goesOn_142 (by decide) (by omega) (fun c142 => ?_) (fun c142 => ?_)
                · skip
                  refine x_iinc (ls' := [(0, _), (1, _), (2, _), (3, _), (4, _), (5, _), (6, _), (7, _), (8, _), (9, _)]) hg dX12_goesOn_148 rfl (by decide) rfl ?_
                  refine x_goto (tgt := 85) hg dX12_goesOn_151 (by decide) ?_
                  first | exact ihn3 M139 v3 _ gr1 (by omega) (by omega) (by omega) | exact ihn3 M139 1 _ (gr2 (by omega)) (by omega) (by omega) (by omega)
                · skip
                  refine x_iconst hg dX12_goesOn_145 ?_
                  refine x_istore (ls' := [(0, _), (1, _), (2, _), (3, _), (4, _), (5, _), (6, _), (7, _), (8, _), (9, _)]) hg dX12_goesOn_146 (by decide) rfl ?_
                  refine x_iinc (ls' := [(0, _), (1, _), (2, _), (3, _), (4, _), (5, _), (6, _), (7, _), (8, _), (9, _)]) hg dX12_goesOn_148 rfl (by decide) rfl ?_
                  refine x_goto (tgt := 85) hg dX12_goesOn_151 (by decide) ?_
                  first | exact ihn3 M139 v3 _ gr1 (by omega) (by omega) (by omega) | exact ihn3 M139 1 _ (gr2 (by omega)) (by omega) (by omega) (by omega)
          refine x_iload hg dX12_goesOn_23 rfl ?_
          refine x_aload_n hg dX12_goesOn_25 rfl ?_
          refine x_iload hg dX12_goesOn_26 rfl ?_
          refine x_cVi hg he [_] [_] dX12_goesOn_28 mv_X12_124 (c_X12_stops l b D cy hR2 (by omega)) (by decide) rfl rfl (Nat.le_of_ble_eq_true rfl) (by decide) (by decide) (fun r28 M28 q28 => ?_)
          obtain ⟨h28, e28⟩ := q28
          replace h28 := h28.symm
          subst h28
          rw [fw_ss G2.2.1] at e28
          refine x_icmp_ge (tgt := 160) hg dX12_goesOn_31 (by decide) (by omega) (by omega) (fun c31 => ?_) (fun c31 => ?_)
          · skip
            refine x_iinc (ls' := [(0, _), (1, _), (2, _), (3, _), (4, _), (5, _), (6, _), (7, _)]) hg dX12_goesOn_160 rfl (by decide) rfl ?_
            refine x_goto (tgt := 6) hg dX12_goesOn_163 (by decide) ?_
            refine x_canon (ls' := [(0, _), (1, _), (2, _), (3, _), (4, _), (5, _), (6, _)]) rfl ?_
            exact ihn1 M2 v2 _ G2 (by omega) (by omega) (by omega)
          · skip
            refine x_aload_n hg dX12_goesOn_34 rfl ?_
            refine x_iload hg dX12_goesOn_35 rfl ?_
            refine x_iload hg dX12_goesOn_37 rfl ?_
            refine x_cVi hg he [_, _] [] dX12_goesOn_39 mv_X12_127 (c_X12_stations l b D cy hR2 (by omega) (by omega)) (by decide) rfl rfl (Nat.le_of_ble_eq_true rfl) (by decide) (by decide) (fun r39 M39 q39 => ?_)
            obtain ⟨h39, e39⟩ := q39
            replace h39 := h39.symm
            subst h39
            rw [fw_st G2.2.1] at e39
            have hmk := hmi k (by omega) (by omega)
            refine x_iload_n hg dX12_goesOn_42 rfl ?_
            refine x_icmp_ne (tgt := 154) hg dX12_goesOn_43 (by decide) (by omega) (by omega) (fun c43 => ?_) (fun c43 => ?_)
            · skip
              exact j154 M2 v2 G2 (by omega)
            · skip
              refine x_aload_n hg dX12_goesOn_46 rfl ?_
              refine x_iload hg dX12_goesOn_47 rfl ?_
              refine x_iload hg dX12_goesOn_49 rfl ?_
              refine x_cVi hg he [_, _] [] dX12_goesOn_51 mv_X12_131 (c_X12_minutes l b D cy hR2 (by omega) (by omega)) (by decide) rfl rfl (Nat.le_of_ble_eq_true rfl) (by decide) (by decide) (fun r51 M51 q51 => ?_)
              obtain ⟨h51, e51⟩ := q51
              replace h51 := h51.symm
              subst h51
              rw [fw_mi G2.2.1] at e51
              refine x_iload_n hg dX12_goesOn_54 rfl ?_
              refine x_icmp_ge (tgt := 61) hg dX12_goesOn_55 (by decide) (by omega) (by omega) (fun c55 => ?_) (fun c55 => ?_)
              · skip
                refine x_iload_n hg dX12_goesOn_61 rfl ?_
                refine x_aload_n hg dX12_goesOn_62 rfl ?_
                refine x_iload_n hg dX12_goesOn_63 rfl ?_
                refine x_iload_n hg dX12_goesOn_64 rfl ?_
                refine x_aload_n hg dX12_goesOn_65 rfl ?_
                refine x_iload hg dX12_goesOn_66 rfl ?_
                refine x_iload hg dX12_goesOn_68 rfl ?_
                refine x_cVi hg he [_, _] [_, _, _, _] dX12_goesOn_70 mv_X12_131 (c_X12_minutes l b D cy hR2 (by omega) (by omega)) (by decide) rfl rfl (Nat.le_of_ble_eq_true rfl) (by decide) (by decide) (fun r70 M70 q70 => ?_)
                obtain ⟨h70, e70⟩ := q70
                replace h70 := h70.symm
                subst h70
                rw [fw_mi G2.2.1] at e70
                refine x_cVi hg he [_, _, _] [_] dX12_goesOn_73 mv_X12_240 (c_X12_waits l b D cy hC2 (by omega) (by omega) (by omega)) (by decide) rfl rfl (Nat.le_of_ble_eq_true rfl) (by decide) (by decide) (fun r73 M73 q73 => ?_)
                obtain ⟨h73, e73⟩ := q73
                replace h73 := h73.symm
                subst h73
                have hwb := wt_bd (fw_S G2.2.1 hS) (s := z) (x := fr) (y := r70) (by omega) (by omega) (by omega)
                refine x_iadd hg dX12_goesOn_76 ?_
                refine x_istore (ls' := [(0, _), (1, _), (2, _), (3, _), (4, _), (5, _), (6, _), (7, _), (8, _)]) hg dX12_goesOn_77 (by decide) rfl ?_
                refine x_iload hg dX12_goesOn_79 rfl ?_
                refine x_iconst hg dX12_goesOn_81 ?_
                refine x_iadd hg dX12_goesOn_82 ?_
                refine x_istore (ls' := [(0, _), (1, _), (2, _), (3, _), (4, _), (5, _), (6, _), (7, _), (8, _), (9, _)]) hg dX12_goesOn_83 (by decide) rfl ?_
                exact loop85 _ (by omega) (by omega) (by omega) 9 M2 v2 _ G2 (by omega) (by omega) (by omega)
              · skip
                refine x_goto (tgt := 154) hg dX12_goesOn_58 (by decide) ?_
                exact j154 M2 v2 G2 (by omega)
      refine x_iload hg dX12_goesOn_6 rfl ?_
      refine x_aload_n hg dX12_goesOn_8 rfl ?_
      refine x_getR (j9 := 180) hg dX12_goesOn_9 fl_X12_81 (by decide) rfl rfl (by decide) ?_
      refine x_aload_n hg dX12_goesOn_12 rfl ?_
      refine x_getI hg dX12_goesOn_13 fl_X12_75 (by decide) rfl ?_
      refine x_iaload (len := 2) hg dX12_goesOn_16 (by decide) (by omega) ?_
      refine x_icmp_ge (tgt := 166) hg dX12_goesOn_17 (by decide) (by omega) (by omega) (fun c17 => ?_) (fun c17 => ?_)
      · skip
        refine x_iload hg dX12_goesOn_166 rfl ?_
        refine x_iret hg hr (Or.inr ⟨rfl, by first | exact Or.inl rfl | exact Or.inr rfl | omega⟩) dX12_goesOn_168 (Nat.le_refl _) (Nat.le_refl _) ?_
        exact ⟨rfl, rfl, _, rfl, G1⟩
      · skip
        refine x_iconst hg dX12_goesOn_20 ?_
        refine x_istore (ls' := [(0, _), (1, _), (2, _), (3, _), (4, _), (5, _), (6, _), (7, _)]) hg dX12_goesOn_21 (by decide) rfl ?_
        exact loop23 (by omega) 9 M1 v 0 G1 (by omega) (by omega) (by omega)
  refine x_iconst hg dX12_goesOn_0 ?_
  refine x_istore (ls' := [(0, _), (1, _), (2, _), (3, _), (4, _), (5, _)]) hg dX12_goesOn_1 (by decide) rfl ?_
  refine x_iconst hg dX12_goesOn_3 ?_
  refine x_istore (ls' := [(0, _), (1, _), (2, _), (3, _), (4, _), (5, _), (6, _)]) hg dX12_goesOn_4 (by decide) rfl ?_
  exact loop6 9 M 0 0 (GW_rf hW) (by omega) (by omega) (by omega)
