/-! ===== the model's least sum, prices, and the best loading ===== -/
/-- every cost is within bounds, or none -/
def MK (M : xMm) : Prop := ∀ i : Nat, i < 90 → (0 ≤ M 195 i ∧ M 195 i ≤ 1100000000) ∨ M 195 i = 1000000000000000
theorem MK_Ck {M : xMm} (h : MK M) {n : Nat} (hn : n ≤ 9) : zCk n (M 195) := fun d t hd ht => h (9 * d + t) (by omega)
theorem MK_mu {M : xMm} (h : MK M) {i : Nat} {v : Int} (hv : (0 ≤ v ∧ v ≤ 1100000000) ∨ v = 1000000000000000) : MK (mu M 195 i v) := fun j hj => by
  by_cases e : j = i
  · subst e; rw [mu_s]; exact hv
  · rw [mu_nf e]; exact h j hj
theorem MK_cut {M M' : xMm} (h : MK M) {n c t : Nat} (e : M' 195 = zCut (M 195) n c t) : MK M' := fun j hj => by
  rw [e]
  unfold zCut
  split
  · exact Or.inr rfl
  · exact h j hj
theorem zDU_0 {n : Nat} {C ro nw on : Nat → Int} (h1 : ∀ t : Nat, t < n → on t = 0) (h2 : ∀ t : Nat, t < n → 0 ≤ ro t) : zDU n C ro (fun _ => 0) nw on 0 := by
  refine ⟨fun t ht => ⟨⟨Int.le_refl 0, by show (0 : Int) ≤ 10000000000 * ((0 : Nat) : Int); decide⟩, ⟨by rw [h1 t ht]; rfl, by rw [h1 t ht]; exact h2 t ht⟩, fun h => absurd h (by show ¬ (0 : Int) < 0; decide)⟩, fun d hd => absurd hd (by omega)⟩
theorem zCnt_zero {f : Nat → Int} {t : Int} : ∀ c : Nat, (∀ d, d < c → f d ≠ t) → zCnt f t c = 0
  | 0, _ => rfl
  | c + 1, h => by simp only [zCnt]; rw [zCnt_zero c (fun d hd => h d (by omega)), if_neg (h c (by omega))]; rfl
/-- all may be left -/
theorem zFA_left {n : Nat} {C ro : Nat → Int} {N : Nat} (hn : 1 ≤ n) (h : ∀ d, d < N → C (9 * d + (n - 1)) < 1000000000000000) (h2 : ∀ t : Nat, t < n → 0 ≤ ro t) (h3 : (N : Int) ≤ ro (n - 1)) : zFA n C ro (fun _ => ((n - 1 : Nat) : Int)) N := by
  refine ⟨fun d hd => ⟨by show 0 ≤ ((n - 1 : Nat) : Int) ∧ ((n - 1 : Nat) : Int) < (n : Int); omega, ?_⟩, fun t ht => ?_⟩
  · show C (9 * d + (((n - 1 : Nat) : Int)).toNat) < 1000000000000000
    rw [Int.toNat_natCast]
    exact h d hd
  · by_cases e : t = n - 1
    · subst e
      have := zCnt_le (fun _ => ((n - 1 : Nat) : Int)) ((n - 1 : Nat) : Int) N
      omega
    · rw [zCnt_zero N (fun d _ => by show ((n - 1 : Nat) : Int) ≠ _; omega)]
      exact h2 t ht
theorem zLS_r {n : Nat} {C ro : Nat → Int} {N : Nat} {s : Int} (h : zLS n C ro N s) : 0 ≤ s ∧ s ≤ 1000000000000000 := by
  rcases h with ⟨e, -⟩ | ⟨h1, -⟩ <;> omega
theorem zLS_lt {n : Nat} {C ro a : Nat → Int} {N : Nat} {s : Int} (h : zLS n C ro N s) (ha : zFA n C ro a N) : 0 ≤ s ∧ s ≤ 100000000000 := by
  rcases h with ⟨-, e⟩ | ⟨h1, -⟩
  · exact absurd ha (e a)
  · exact h1
/-- the least sum so far -/
def zLo (n : Nat) (C ro : Nat → Int) (M M1 : xMm) (s c : Int) : Prop := frM M1 M ∧ (∃ p, zDU n C ro p (M1 193) (M1 199) c.toNat) ∧ s = zTot C (M1 193) c.toNat ∧ 0 ≤ s ∧ s ≤ 9900000000 * c
/-- nothing changed but the loading's rows -/
abbrev frZ (M1 M : xMm) : Prop := ∀ a, ¬ (193 ≤ a ∧ a ≤ 200) → M1 a = M a
theorem frZ_rf (M : xMm) : frZ M M := fun _ _ => rfl
theorem frZ_tr {M2 M1 M : xMm} (h1 : frZ M2 M1) (h : frZ M1 M) : frZ M2 M := fun a e => by rw [h1 a e, h a e]
theorem frZ_M {M1 M : xMm} (h : frM M1 M) : frZ M1 M := fun a e => h a (by omega) (by omega) (by omega) (by omega) (by omega)
theorem frZ_mu {M1 M : xMm} (h : frZ M1 M) {a k : Nat} {z : Int} (ha : 193 ≤ a ∧ a ≤ 200) : frZ (mu M1 a k z) M := fun c e => by
  rw [← h c e]; funext j; exact mu_nc (by omega)
theorem fb_ma {M1 M : xMm} (h : frZ M1 M) : M1 180 (M1 172 18).toNat = mMa M := by unfold mMa; rw [h 172 (by decide), h 180 (by decide)]
theorem fb_R {M1 M : xMm} (h : frZ M1 M) (hR : MR M) : MR M1 := MR_fr (fun a _ _ => h a (by omega)) (by rw [h 172 (by decide)]) hR
theorem fb_C {M1 M : xMm} (h : frZ M1 M) (hC : MC M) : MC M1 := MC_fr (fun a _ _ => h a (by omega)) hC
theorem fb_N {M1 M : xMm} (h : frZ M1 M) : mN M1 = mN M := by
  have e : mMa M1 = mMa M := fb_ma h
  unfold mN; rw [e]
theorem fb_ro {M1 M : xMm} (h : frZ M1 M) : mRo M1 = mRo M := by
  have e : mMa M1 = mMa M := fb_ma h
  unfold mRo; rw [e, h 172 (by decide), h 176 (by decide)]
/-- pricing -/
abbrev frP (M1 M : xMm) : Prop := ∀ a, a ≠ 183 → a ≠ 184 → a ≠ 195 → M1 a = M a
theorem fp_ma {M1 M : xMm} (h : frP M1 M) : M1 180 (M1 172 18).toNat = mMa M := by unfold mMa; rw [h 172 (by decide) (by decide) (by decide), h 180 (by decide) (by decide) (by decide)]
theorem fp_R {M1 M : xMm} (h : frP M1 M) (hR : MR M) : MR M1 := MR_fr (fun a _ _ => h a (by omega) (by omega) (by omega)) (by rw [h 172 (by decide) (by decide) (by decide)]) hR
theorem fp_N {M1 M : xMm} (h : frP M1 M) : mN M1 = mN M := by
  have e : mMa M1 = mMa M := fp_ma h
  unfold mN; rw [e]
theorem fp_ro {M1 M : xMm} (h : frP M1 M) : mRo M1 = mRo M := by
  have e : mMa M1 = mMa M := fp_ma h
  unfold mRo; rw [e, h 172 (by decide) (by decide) (by decide), h 176 (by decide) (by decide) (by decide)]
def PB (M1 M : xMm) : Prop := frP M1 M ∧ MC M1 ∧ MS M1 ∧ MK M1
theorem PB_mu {M1 M : xMm} (h : PB M1 M) {i : Nat} {v : Int} (hv : (0 ≤ v ∧ v ≤ 1100000000) ∨ v = 1000000000000000) : PB (mu M1 195 i v) M := by
  obtain ⟨h1, h2, h3, h4⟩ := h
  exact ⟨fun a e1 e2 e3 => by rw [← h1 a e1 e2 e3]; funext j; exact mu_nc e3, MC_fr (fun a _ _ => by funext j; exact mu_nc (by omega)) h2, MS_fr (fun a _ _ => by funext j; exact mu_nc (by omega)) h3, MK_mu h4 hv⟩
/-- the cutting, train by train -/
theorem zCut_0 (C : Nat → Int) (c t : Nat) : zCut C 0 c t = C := by
  funext i; unfold zCut; rw [if_neg (by omega)]
theorem zCut_at {C : Nat → Int} {k c t x : Nat} (h : k ≤ x) : zCut C k c t (9 * c + x) = C (9 * c + x) := by
  unfold zCut; rw [if_neg (by omega)]
theorem zCut_same {C : Nat → Int} {k c : Nat} : zCut C (k + 1) c k = zCut C k c k := by
  funext i; unfold zCut
  by_cases e : 9 * c ≤ i ∧ i < 9 * c + k ∧ i ≠ 9 * c + k
  · rw [if_pos e, if_pos (by omega)]
  · rw [if_neg e, if_neg (by omega)]
theorem zCut_mu {C : Nat → Int} {k c t : Nat} {M1 : xMm} (e : M1 195 = zCut C k c t) (h : k ≠ t) : mu M1 195 (9 * c + k) 1000000000000000 195 = zCut C (k + 1) c t := by
  funext i
  by_cases ei : i = 9 * c + k
  · subst ei; rw [mu_s]; unfold zCut; rw [if_pos (by omega)]
  · rw [mu_nf ei, e]; unfold zCut
    by_cases e2 : 9 * c ≤ i ∧ i < 9 * c + k ∧ i ≠ 9 * c + t
    · rw [if_pos e2, if_pos (by omega)]
    · rw [if_neg e2, if_neg (by omega)]
/-- the row is laid back -/
def zRes (C : Nat → Int) (n c t k : Nat) : Nat → Int := fun i => if 9 * c ≤ i ∧ i < 9 * c + k then C i else zCut C n c t i
theorem zRes_0 (C : Nat → Int) (n c t : Nat) : zCut C n c t = zRes C n c t 0 := by
  funext i; unfold zRes; rw [if_neg (by omega)]
theorem zRes_n (C : Nat → Int) (n c t : Nat) : zRes C n c t n = C := by
  funext i; unfold zRes
  split
  · rfl
  · unfold zCut; rw [if_neg (by omega)]
theorem zRes_mu {C : Nat → Int} {n c t k : Nat} {v : Int} {M1 : xMm} (e : M1 195 = zRes C n c t k) (h : v = C (9 * c + k)) : mu M1 195 (9 * c + k) v 195 = zRes C n c t (k + 1) := by
  funext i
  by_cases ei : i = 9 * c + k
  · subst ei; rw [mu_s, h]; unfold zRes; rw [if_pos (by omega)]
  · rw [mu_nf ei, e]; unfold zRes
    by_cases e2 : 9 * c ≤ i ∧ i < 9 * c + k
    · rw [if_pos e2, if_pos (by omega)]
    · rw [if_neg e2, if_neg (by omega)]
/-- what a loading may change -/
abbrev frA (M1 M : xMm) : Prop := (∀ a, a ≠ 172 → a ≠ 183 → a ≠ 184 → ¬ (193 ≤ a ∧ a ≤ 200) → M1 a = M a) ∧ ∀ f, f ≠ 38 → f ≠ 39 → M1 172 f = M 172 f
theorem frA_rf (M : xMm) : frA M M := ⟨fun _ _ _ _ _ => rfl, fun _ _ _ => rfl⟩
theorem frA_B {M2 M1 M : xMm} (h1 : frZ M2 M1) (h : frA M1 M) : frA M2 M := ⟨fun a e1 e2 e3 e4 => by rw [h1 a e4, h.1 a e1 e2 e3 e4], fun f e1 e2 => by rw [h1 172 (by decide), h.2 f e1 e2]⟩
theorem frA_P {M1 M : xMm} (h : frP M1 M) : frA M1 M := ⟨fun a _ e2 e3 e4 => h a e2 e3 (by omega), fun f _ _ => by rw [h 172 (by decide) (by decide) (by decide)]⟩
theorem frA_f {M1 M : xMm} (h : frA M1 M) {k : Nat} {z : Int} (hk : k = 38 ∨ k = 39) : frA (mu M1 172 k z) M := ⟨fun a e1 e2 e3 e4 => by rw [← h.1 a e1 e2 e3 e4]; funext j; exact mu_nc e1, fun f e1 e2 => by rw [mu_nf (by omega)]; exact h.2 f e1 e2⟩
theorem fa_ma {M1 M : xMm} (h : frA M1 M) : M1 180 (M1 172 18).toNat = mMa M := by unfold mMa; rw [h.2 18 (by decide) (by decide), h.1 180 (by decide) (by decide) (by decide) (by decide)]
theorem fa_R {M1 M : xMm} (h : frA M1 M) (hR : MR M) : MR M1 := MR_fr (fun a _ _ => h.1 a (by omega) (by omega) (by omega) (by omega)) (h.2 18 (by decide) (by decide)) hR
theorem fa_N {M1 M : xMm} (h : frA M1 M) : mN M1 = mN M := by
  have e : mMa M1 = mMa M := fa_ma h
  unfold mN; rw [e]
theorem fa_ro {M1 M : xMm} (h : frA M1 M) : mRo M1 = mRo M := by
  have e : mMa M1 = mMa M := fa_ma h
  unfold mRo; rw [e, h.2 18 (by decide) (by decide), h.1 176 (by decide) (by decide) (by decide) (by decide)]
/-- between two churns of a loading -/
def LB (n : Nat) (ro : Nat → Int) (N : Nat) (s : Int) (M1 M : xMm) (c : Int) : Prop := frA M1 M ∧ MC M1 ∧ MK M1 ∧ zLS n (M1 195) ro N s ∧ ∀ d : Nat, (d : Int) < c → 0 ≤ M1 194 d ∧ M1 194 d < (n : Int)
theorem zCut_nx {C : Nat → Int} {k c t : Nat} {M1 : xMm} (e : M1 195 = zCut C k c t) (h : k = t) : M1 195 = zCut C (k + 1) c t := by
  subst h; rw [zCut_same]; exact e

theorem dX12_least_0 : decode cX12_least 0 = .ok (.lconst 0, 1) := by decide +kernel
theorem dX12_least_1 : decode cX12_least 1 = .ok (.lstore_n 1, 1) := by decide +kernel
theorem dX12_least_2 : decode cX12_least 2 = .ok (.iconst 0, 1) := by decide +kernel
theorem dX12_least_3 : decode cX12_least 3 = .ok (.istore_n 3, 1) := by decide +kernel
theorem dX12_least_4 : decode cX12_least 4 = .ok (.iload_n 3, 1) := by decide +kernel
theorem dX12_least_5 : decode cX12_least 5 = .ok (.aload_n 0, 1) := by decide +kernel
theorem dX12_least_6 : decode cX12_least 6 = .ok (.getfield 81, 3) := by decide +kernel
theorem dX12_least_9 : decode cX12_least 9 = .ok (.aload_n 0, 1) := by decide +kernel
theorem dX12_least_10 : decode cX12_least 10 = .ok (.getfield 75, 3) := by decide +kernel
theorem dX12_least_13 : decode cX12_least 13 = .ok (.iaload, 1) := by decide +kernel
theorem dX12_least_14 : decode cX12_least 14 = .ok (.if_icmp .gt 16, 3) := by decide +kernel
theorem dX12_least_17 : decode cX12_least 17 = .ok (.aload_n 0, 1) := by decide +kernel
theorem dX12_least_18 : decode cX12_least 18 = .ok (.getfield 194, 3) := by decide +kernel
theorem dX12_least_21 : decode cX12_least 21 = .ok (.iload_n 3, 1) := by decide +kernel
theorem dX12_least_22 : decode cX12_least 22 = .ok (.iconst 0, 1) := by decide +kernel
theorem dX12_least_23 : decode cX12_least 23 = .ok (.iastore, 1) := by decide +kernel
theorem dX12_least_24 : decode cX12_least 24 = .ok (.iinc 3 1, 3) := by decide +kernel
theorem dX12_least_27 : decode cX12_least 27 = .ok (.goto (-23), 3) := by decide +kernel
theorem dX12_least_30 : decode cX12_least 30 = .ok (.iconst 0, 1) := by decide +kernel
theorem dX12_least_31 : decode cX12_least 31 = .ok (.istore_n 3, 1) := by decide +kernel
theorem dX12_least_32 : decode cX12_least 32 = .ok (.iload_n 3, 1) := by decide +kernel
theorem dX12_least_33 : decode cX12_least 33 = .ok (.aload_n 0, 1) := by decide +kernel
theorem dX12_least_34 : decode cX12_least 34 = .ok (.getfield 234, 3) := by decide +kernel
theorem dX12_least_37 : decode cX12_least 37 = .ok (.if_icmp .ge 16, 3) := by decide +kernel
theorem dX12_least_40 : decode cX12_least 40 = .ok (.aload_n 0, 1) := by decide +kernel
theorem dX12_least_41 : decode cX12_least 41 = .ok (.getfield 176, 3) := by decide +kernel
theorem dX12_least_44 : decode cX12_least 44 = .ok (.iload_n 3, 1) := by decide +kernel
theorem dX12_least_45 : decode cX12_least 45 = .ok (.iconst (-1), 1) := by decide +kernel
theorem dX12_least_46 : decode cX12_least 46 = .ok (.iastore, 1) := by decide +kernel
theorem dX12_least_47 : decode cX12_least 47 = .ok (.iinc 3 1, 3) := by decide +kernel
theorem dX12_least_50 : decode cX12_least 50 = .ok (.goto (-18), 3) := by decide +kernel
theorem dX12_least_53 : decode cX12_least 53 = .ok (.iconst 0, 1) := by decide +kernel
theorem dX12_least_54 : decode cX12_least 54 = .ok (.istore_n 3, 1) := by decide +kernel
theorem dX12_least_55 : decode cX12_least 55 = .ok (.iload_n 3, 1) := by decide +kernel
theorem dX12_least_56 : decode cX12_least 56 = .ok (.aload_n 0, 1) := by decide +kernel
theorem dX12_least_57 : decode cX12_least 57 = .ok (.getfield 234, 3) := by decide +kernel
theorem dX12_least_60 : decode cX12_least 60 = .ok (.if_icmp .ge 34, 3) := by decide +kernel
theorem dX12_least_63 : decode cX12_least 63 = .ok (.aload_n 0, 1) := by decide +kernel
theorem dX12_least_64 : decode cX12_least 64 = .ok (.iload_n 3, 1) := by decide +kernel
theorem dX12_least_65 : decode cX12_least 65 = .ok (.invokevirtual 284, 3) := by decide +kernel
theorem dX12_least_68 : decode cX12_least 68 = .ok (.lstore 4, 2) := by decide +kernel
theorem dX12_least_70 : decode cX12_least 70 = .ok (.lload 4, 2) := by decide +kernel
theorem dX12_least_72 : decode cX12_least 72 = .ok (.ldc2_w 280, 3) := by decide +kernel
theorem dX12_least_75 : decode cX12_least 75 = .ok (.lcmp, 1) := by decide +kernel
theorem dX12_least_76 : decode cX12_least 76 = .ok (.ifCond .lt 7, 3) := by decide +kernel
theorem dX12_least_79 : decode cX12_least 79 = .ok (.ldc2_w 280, 3) := by decide +kernel
theorem dX12_least_82 : decode cX12_least 82 = .ok (.lreturn, 1) := by decide +kernel
theorem dX12_least_83 : decode cX12_least 83 = .ok (.lload_n 1, 1) := by decide +kernel
theorem dX12_least_84 : decode cX12_least 84 = .ok (.lload 4, 2) := by decide +kernel
theorem dX12_least_86 : decode cX12_least 86 = .ok (.ladd, 1) := by decide +kernel
theorem dX12_least_87 : decode cX12_least 87 = .ok (.lstore_n 1, 1) := by decide +kernel
theorem dX12_least_88 : decode cX12_least 88 = .ok (.iinc 3 1, 3) := by decide +kernel
theorem dX12_least_91 : decode cX12_least 91 = .ok (.goto (-36), 3) := by decide +kernel
theorem dX12_least_94 : decode cX12_least 94 = .ok (.lload_n 1, 1) := by decide +kernel
theorem dX12_least_95 : decode cX12_least 95 = .ok (.lreturn, 1) := by decide +kernel
set_option maxHeartbeats 4000000 in
set_option maxRecDepth 20000 in
theorem c_X12_least (l : Launch) (b : Nat) (D : va_G) (cy : Nat → ClassId) {tt : Nat} {M : xMm} {n : Nat} {C ro : Nat → Int} (hR : MR M) (hN : 0 ≤ M 172 30 ∧ M 172 30 ≤ 10) (eN : n = mN M) (eC : M 195 = C) (er : mRo M = ro) (hC : zCk n C) : xC l b D cy yX12_least cX12_least 6 (some .long) ({ frames := 2, cells := 0, slots := 0, locals := 54 }) [xr 172] 209 M (RS tt) (xPl 209 (RS tt) (fun r M' => frM M' M ∧ zLS n C ro (M 172 30).toNat r)) := by
  refine x_met (by decide) (Nat.le_of_ble_eq_true rfl) (fun g hg hr he => ?_)
  have em : M 180 (M 172 18).toNat = mMa M := rfl
  obtain ⟨hb, hm⟩ := MR_many hR
  refine x_canon (ls' := [(0, _)]) rfl ?_
  have en : (n : Int) = mMa M + 1 := by rw [eN]; unfold mN; omega
  have hn9 : n ≤ 9 := by omega
  have hro : ∀ t : Nat, t < n → 0 ≤ ro t := fun t ht => by rw [← er]; exact (mRo_r hR (by omega)).1
  have loop55 : ∀ (n1 : Nat) (M1 : xMm) (s c : Int), zLo n C ro M M1 s c → 0 ≤ c → c ≤ M 172 30 → M 172 30 - c < n1 → xW g 209 M1 (RS tt) 0 0 55 [(0, xr 172), (1, xl s), (3, xi c)] [] := by
    intro n1
    induction n1 with
    | zero => intro M1 s c hz hc0 hc1 hc2; exfalso; omega
    | succ n1 ihn1 =>
      intro M1 s c hz hc0 hc1 hc2
      obtain ⟨f1, ⟨p, hp⟩, hs, hs0, hs1⟩ := hz
      have e30 : M1 172 30 = M 172 30 := by rw [f1 172 (by decide) (by decide) (by decide) (by decide) (by decide)]
      refine x_iload_n hg dX12_least_55 rfl ?_
      refine x_aload_n hg dX12_least_56 rfl ?_
      refine x_getI hg dX12_least_57 fl_X12_234 (by decide) rfl ?_
      refine x_icmp_ge (tgt := 94) hg dX12_least_60 (by decide) (by omega) (by omega) (fun c60 => ?_) (fun c60 => ?_)
      · skip
        refine x_lload_n hg dX12_least_94 rfl ?_
        refine x_lret hg hr dX12_least_95 (Nat.le_refl _) (Nat.le_refl _) ?_
        refine ⟨rfl, rfl, _, rfl, f1, ?_⟩
        have ec : c.toNat = (M 172 30).toNat := by omega
        rw [ec] at hp hs
        rw [hs]
        exact zLS_of hp (by omega)
      · skip
        refine x_aload_n hg dX12_least_63 rfl ?_
        refine x_iload_n hg dX12_least_64 rfl ?_
        refine x_cVl hg he [_] [] dX12_least_65 mv_X12_284 (c_X12_comesIn l b D cy (fm_R f1 hR) (by rw [fm_N f1]; exact eN) (by rw [f1 195 (by decide) (by decide) (by decide) (by decide) (by decide)]; exact eC) rfl rfl (by rw [fm_ro f1]; exact er) hC (by omega) hp) (by decide) rfl rfl (Nat.le_of_ble_eq_true rfl) (by decide) (by decide) (fun r65 M65 q65 => ?_)
        obtain ⟨hf65, hr65⟩ := q65
        have hrr : 0 ≤ r65 ∧ r65 ≤ 1000000000000000 := by rcases hr65 with ⟨h, -⟩ | ⟨h, -⟩ <;> omega
        refine x_lstore (ls' := [(0, _), (1, _), (3, _), (4, _)]) hg dX12_least_68 (by decide) rfl ?_
        refine x_lload hg dX12_least_70 rfl ?_
        refine x_ldc2 hg 1000000000000000 dX12_least_72 (List.mem_of_getElem? (i := 1175) (by decide +kernel)) ?_
        refine x_lcmp hg dX12_least_75 (by omega) (by decide) ?_
        refine x_if_lt (tgt := 83) hg dX12_least_76 (by decide) (by split <;> (try split) <;> omega) (fun c76 => ?_) (fun c76 => ?_)
        · skip
          refine x_lload_n hg dX12_least_83 rfl ?_
          refine x_lload hg dX12_least_84 rfl ?_
          refine x_ladd hg dX12_least_86 ?_
          refine x_lstore_n (ls' := [(0, _), (1, _), (3, _), (4, _)]) hg dX12_least_87 rfl (by decide) rfl ?_
          refine x_iinc (ls' := [(0, _), (1, _), (3, _), (4, _)]) hg dX12_least_88 rfl (by decide) rfl ?_
          refine x_goto (tgt := 55) hg dX12_least_91 (by decide) ?_
          refine x_canon (ls' := [(0, _), (1, _), (3, _)]) rfl ?_
          rcases hr65 with ⟨h, -⟩ | ⟨h1, h2, p2, h3⟩
          · omega
          · have ec : (c + 1).toNat = c.toNat + 1 := by omega
            exact ihn1 M65 _ _ ⟨frM_tr hf65 f1, ⟨p2, by rw [ec]; exact h3⟩, by rw [ec, h2, hs], by omega, by omega⟩ (by omega) (by omega) (by omega)
        · skip
          refine x_ldc2 hg 1000000000000000 dX12_least_79 (List.mem_of_getElem? (i := 1175) (by decide +kernel)) ?_
          refine x_lret hg hr dX12_least_82 (Nat.le_refl _) (Nat.le_refl _) ?_
          refine ⟨rfl, rfl, _, rfl, frM_tr hf65 f1, ?_⟩
          rcases hr65 with ⟨h, hno⟩ | ⟨h, -⟩
          · exact Or.inl ⟨rfl, fun a ha => hno a (zFA_less ha (by omega))⟩
          · omega
  have loop32 : ∀ (n1 : Nat) (M1 : xMm) (i : Int), frM M1 M → (∀ x : Nat, x < n → M1 199 x = 0) → 0 ≤ i → i ≤ M 172 30 → M 172 30 - i < n1 → xW g 209 M1 (RS tt) 0 0 32 [(0, xr 172), (1, xl 0), (3, xi i)] [] := by
    intro n1
    induction n1 with
    | zero => intro M1 i f1 h1 hi0 hi1 hi2; exfalso; omega
    | succ n1 ihn1 =>
      intro M1 i f1 h1 hi0 hi1 hi2
      have e30 : M1 172 30 = M 172 30 := by rw [f1 172 (by decide) (by decide) (by decide) (by decide) (by decide)]
      refine x_iload_n hg dX12_least_32 rfl ?_
      refine x_aload_n hg dX12_least_33 rfl ?_
      refine x_getI hg dX12_least_34 fl_X12_234 (by decide) rfl ?_
      refine x_icmp_ge (tgt := 53) hg dX12_least_37 (by decide) (by omega) (by omega) (fun c37 => ?_) (fun c37 => ?_)
      · skip
        refine x_iconst hg dX12_least_53 ?_
        refine x_istore_n (ls' := [(0, _), (1, _), (3, _)]) hg dX12_least_54 rfl (by decide) rfl ?_
        exact loop55 ((M 172 30).toNat + 1) M1 0 0 ⟨f1, ⟨fun _ => 0, zDU_0 h1 hro⟩, rfl, by omega, by omega⟩ (by omega) (by omega) (by omega)
      · skip
        refine x_aload_n hg dX12_least_40 rfl ?_
        refine x_getR (j9 := 193) hg dX12_least_41 fl_X12_176 (by decide) rfl rfl (by decide) ?_
        refine x_iload_n hg dX12_least_44 rfl ?_
        refine x_iconst hg dX12_least_45 ?_
        refine x_iastore (len := 10) hg dX12_least_46 (by decide) (by omega)  ?_
        refine x_iinc (ls' := [(0, _), (1, _), (3, _)]) hg dX12_least_47 rfl (by decide) rfl ?_
        refine x_goto (tgt := 32) hg dX12_least_50 (by decide) ?_
        refine x_canon (ls' := [(0, _), (1, _), (3, _)]) rfl ?_
        exact ihn1 _ _ (frM_mu f1 (Or.inl rfl)) (fun x hx => by rw [mu_nc (by decide)]; exact h1 x hx) (by omega) (by omega) (by omega)
  have loop4 : ∀ (n1 : Nat) (M1 : xMm) (i : Int), frM M1 M → (∀ x : Nat, (x : Int) < i → M1 199 x = 0) → 0 ≤ i → i ≤ (n : Int) → (n : Int) - i < n1 → xW g 209 M1 (RS tt) 0 0 4 [(0, xr 172), (1, xl 0), (3, xi i)] [] := by
    intro n1
    induction n1 with
    | zero => intro M1 i f1 h1 hi0 hi1 hi2; exfalso; omega
    | succ n1 ihn1 =>
      intro M1 i f1 h1 hi0 hi1 hi2
      have hma1 := fm_ma f1
      have hb1 := (fm_R f1 hR).1
      refine x_iload_n hg dX12_least_4 rfl ?_
      refine x_aload_n hg dX12_least_5 rfl ?_
      refine x_getR (j9 := 180) hg dX12_least_6 fl_X12_81 (by decide) rfl rfl (by decide) ?_
      refine x_aload_n hg dX12_least_9 rfl ?_
      refine x_getI hg dX12_least_10 fl_X12_75 (by decide) rfl ?_
      refine x_iaload (len := 2) hg dX12_least_13 (by decide) (by omega) ?_
      refine x_icmp_gt (tgt := 30) hg dX12_least_14 (by decide) (by omega) (by omega) (fun c14 => ?_) (fun c14 => ?_)
      · skip
        refine x_iconst hg dX12_least_30 ?_
        refine x_istore_n (ls' := [(0, _), (1, _), (3, _)]) hg dX12_least_31 rfl (by decide) rfl ?_
        exact loop32 ((M 172 30).toNat + 1) M1 0 f1 (fun x hx => h1 x (by omega)) (by omega) (by omega) (by omega)
      · skip
        refine x_aload_n hg dX12_least_17 rfl ?_
        refine x_getR (j9 := 199) hg dX12_least_18 fl_X12_194 (by decide) rfl rfl (by decide) ?_
        refine x_iload_n hg dX12_least_21 rfl ?_
        refine x_iconst hg dX12_least_22 ?_
        refine x_iastore (len := 9) hg dX12_least_23 (by decide) (by omega)  ?_
        refine x_iinc (ls' := [(0, _), (1, _), (3, _)]) hg dX12_least_24 rfl (by decide) rfl ?_
        refine x_goto (tgt := 4) hg dX12_least_27 (by decide) ?_
        refine x_canon (ls' := [(0, _), (1, _), (3, _)]) rfl ?_
        refine ihn1 _ _ (frM_mu f1 (Or.inr rfl)) (fun x hx => ?_) (by omega) (by omega) (by omega)
        by_cases ex : x = i.toNat
        · subst ex; rw [mu_s]
        · rw [mu_nf ex]; exact h1 x (by omega)
  refine x_lconst (z := 0) hg dX12_least_0 rfl ?_
  refine x_lstore_n (ls' := [(0, _), (1, _)]) hg dX12_least_1 rfl (by decide) rfl ?_
  refine x_iconst hg dX12_least_2 ?_
  refine x_istore_n (ls' := [(0, _), (1, _), (3, _)]) hg dX12_least_3 rfl (by decide) rfl ?_
  exact loop4 (n + 1) M 0 (frM_rf M) (fun x hx => absurd hx (by omega)) (by omega) (by omega) (by omega)

theorem dX12_price_0 : decode cX12_price 0 = .ok (.aload_n 0, 1) := by decide +kernel
theorem dX12_price_1 : decode cX12_price 1 = .ok (.invokevirtual 248, 3) := by decide +kernel
theorem dX12_price_4 : decode cX12_price 4 = .ok (.aload_n 0, 1) := by decide +kernel
theorem dX12_price_5 : decode cX12_price 5 = .ok (.getfield 81, 3) := by decide +kernel
theorem dX12_price_8 : decode cX12_price 8 = .ok (.aload_n 0, 1) := by decide +kernel
theorem dX12_price_9 : decode cX12_price 9 = .ok (.getfield 75, 3) := by decide +kernel
theorem dX12_price_12 : decode cX12_price 12 = .ok (.iaload, 1) := by decide +kernel
theorem dX12_price_13 : decode cX12_price 13 = .ok (.istore_n 1, 1) := by decide +kernel
theorem dX12_price_14 : decode cX12_price 14 = .ok (.iconst 0, 1) := by decide +kernel
theorem dX12_price_15 : decode cX12_price 15 = .ok (.istore_n 2, 1) := by decide +kernel
theorem dX12_price_16 : decode cX12_price 16 = .ok (.iload_n 2, 1) := by decide +kernel
theorem dX12_price_17 : decode cX12_price 17 = .ok (.aload_n 0, 1) := by decide +kernel
theorem dX12_price_18 : decode cX12_price 18 = .ok (.getfield 234, 3) := by decide +kernel
theorem dX12_price_21 : decode cX12_price 21 = .ok (.if_icmp .ge 102, 3) := by decide +kernel
theorem dX12_price_24 : decode cX12_price 24 = .ok (.iconst 0, 1) := by decide +kernel
theorem dX12_price_25 : decode cX12_price 25 = .ok (.istore_n 3, 1) := by decide +kernel
theorem dX12_price_26 : decode cX12_price 26 = .ok (.iload_n 3, 1) := by decide +kernel
theorem dX12_price_27 : decode cX12_price 27 = .ok (.iload_n 1, 1) := by decide +kernel
theorem dX12_price_28 : decode cX12_price 28 = .ok (.if_icmp .ge 67, 3) := by decide +kernel
theorem dX12_price_31 : decode cX12_price 31 = .ok (.aload_n 0, 1) := by decide +kernel
theorem dX12_price_32 : decode cX12_price 32 = .ok (.iload_n 2, 1) := by decide +kernel
theorem dX12_price_33 : decode cX12_price 33 = .ok (.iload_n 3, 1) := by decide +kernel
theorem dX12_price_34 : decode cX12_price 34 = .ok (.invokevirtual 277, 3) := by decide +kernel
theorem dX12_price_37 : decode cX12_price 37 = .ok (.istore 4, 2) := by decide +kernel
theorem dX12_price_39 : decode cX12_price 39 = .ok (.aload_n 0, 1) := by decide +kernel
theorem dX12_price_40 : decode cX12_price 40 = .ok (.getfield 182, 3) := by decide +kernel
theorem dX12_price_43 : decode cX12_price 43 = .ok (.bipush 9, 2) := by decide +kernel
theorem dX12_price_45 : decode cX12_price 45 = .ok (.iload_n 2, 1) := by decide +kernel
theorem dX12_price_46 : decode cX12_price 46 = .ok (.imul, 1) := by decide +kernel
theorem dX12_price_47 : decode cX12_price 47 = .ok (.iload_n 3, 1) := by decide +kernel
theorem dX12_price_48 : decode cX12_price 48 = .ok (.iadd, 1) := by decide +kernel
theorem dX12_price_49 : decode cX12_price 49 = .ok (.iload 4, 2) := by decide +kernel
theorem dX12_price_51 : decode cX12_price 51 = .ok (.ifCond .ge 9, 3) := by decide +kernel
theorem dX12_price_54 : decode cX12_price 54 = .ok (.ldc2_w 280, 3) := by decide +kernel
theorem dX12_price_57 : decode cX12_price 57 = .ok (.goto 31, 3) := by decide +kernel
theorem dX12_price_60 : decode cX12_price 60 = .ok (.iload 4, 2) := by decide +kernel
theorem dX12_price_62 : decode cX12_price 62 = .ok (.i2l, 1) := by decide +kernel
theorem dX12_price_63 : decode cX12_price 63 = .ok (.iload 4, 2) := by decide +kernel
theorem dX12_price_65 : decode cX12_price 65 = .ok (.aload_n 0, 1) := by decide +kernel
theorem dX12_price_66 : decode cX12_price 66 = .ok (.getfield 152, 3) := by decide +kernel
theorem dX12_price_69 : decode cX12_price 69 = .ok (.if_icmp .lt 17, 3) := by decide +kernel
theorem dX12_price_72 : decode cX12_price 72 = .ok (.ldc2_w 282, 3) := by decide +kernel
theorem dX12_price_75 : decode cX12_price 75 = .ok (.aload_n 0, 1) := by decide +kernel
theorem dX12_price_76 : decode cX12_price 76 = .ok (.getfield 164, 3) := by decide +kernel
theorem dX12_price_79 : decode cX12_price 79 = .ok (.iload_n 2, 1) := by decide +kernel
theorem dX12_price_80 : decode cX12_price 80 = .ok (.iaload, 1) := by decide +kernel
theorem dX12_price_81 : decode cX12_price 81 = .ok (.i2l, 1) := by decide +kernel
theorem dX12_price_82 : decode cX12_price 82 = .ok (.lmul, 1) := by decide +kernel
theorem dX12_price_83 : decode cX12_price 83 = .ok (.goto 4, 3) := by decide +kernel
theorem dX12_price_86 : decode cX12_price 86 = .ok (.lconst 0, 1) := by decide +kernel
theorem dX12_price_87 : decode cX12_price 87 = .ok (.ladd, 1) := by decide +kernel
theorem dX12_price_88 : decode cX12_price 88 = .ok (.lastore, 1) := by decide +kernel
theorem dX12_price_89 : decode cX12_price 89 = .ok (.iinc 3 1, 3) := by decide +kernel
theorem dX12_price_92 : decode cX12_price 92 = .ok (.goto (-66), 3) := by decide +kernel
theorem dX12_price_95 : decode cX12_price 95 = .ok (.aload_n 0, 1) := by decide +kernel
theorem dX12_price_96 : decode cX12_price 96 = .ok (.getfield 182, 3) := by decide +kernel
theorem dX12_price_99 : decode cX12_price 99 = .ok (.bipush 9, 2) := by decide +kernel
theorem dX12_price_101 : decode cX12_price 101 = .ok (.iload_n 2, 1) := by decide +kernel
theorem dX12_price_102 : decode cX12_price 102 = .ok (.imul, 1) := by decide +kernel
theorem dX12_price_103 : decode cX12_price 103 = .ok (.iload_n 1, 1) := by decide +kernel
theorem dX12_price_104 : decode cX12_price 104 = .ok (.iadd, 1) := by decide +kernel
theorem dX12_price_105 : decode cX12_price 105 = .ok (.ldc2_w 282, 3) := by decide +kernel
theorem dX12_price_108 : decode cX12_price 108 = .ok (.aload_n 0, 1) := by decide +kernel
theorem dX12_price_109 : decode cX12_price 109 = .ok (.getfield 164, 3) := by decide +kernel
theorem dX12_price_112 : decode cX12_price 112 = .ok (.iload_n 2, 1) := by decide +kernel
theorem dX12_price_113 : decode cX12_price 113 = .ok (.iaload, 1) := by decide +kernel
theorem dX12_price_114 : decode cX12_price 114 = .ok (.i2l, 1) := by decide +kernel
theorem dX12_price_115 : decode cX12_price 115 = .ok (.lmul, 1) := by decide +kernel
theorem dX12_price_116 : decode cX12_price 116 = .ok (.lastore, 1) := by decide +kernel
theorem dX12_price_117 : decode cX12_price 117 = .ok (.iinc 2 1, 3) := by decide +kernel
theorem dX12_price_120 : decode cX12_price 120 = .ok (.goto (-104), 3) := by decide +kernel
theorem dX12_price_123 : decode cX12_price 123 = .ok (.return_, 1) := by decide +kernel
set_option maxHeartbeats 4000000 in
set_option maxRecDepth 20000 in
theorem c_X12_price (l : Launch) (b : Nat) (D : va_G) (cy : Nat → ClassId) {tt : Nat} {M : xMm}  (hO : MO M) (hR : MR M) (hC : MC M) (hK : MK M) : xC l b D cy yX12_price cX12_price 5 none ({ frames := 3, cells := 0, slots := 0, locals := 69 }) [xr 172] 209 M (RS tt) (xPv 209 (RS tt) (fun M' => PB M' M ∧ ∀ d : Nat, (d : Int) < M 172 30 → 0 ≤ M' 195 (9 * d + (mMa M).toNat) ∧ M' 195 (9 * d + (mMa M).toNat) ≤ 1000000000)) := by
  refine x_met (by decide) (Nat.le_of_ble_eq_true rfl) (fun g hg hr he => ?_)
  have em : M 180 (M 172 18).toNat = mMa M := rfl
  obtain ⟨hb, hm⟩ := MR_many hR
  have hN := hO.1
  have hLi := hO.2.2.2.2.1
  refine x_canon (ls' := [(0, _)]) rfl ?_
  have loop16 : ∀ (n1 : Nat) (M2 : xMm) (c : Int), PB M2 M → (∀ d : Nat, (d : Int) < c → 0 ≤ M2 195 (9 * d + (mMa M).toNat) ∧ M2 195 (9 * d + (mMa M).toNat) ≤ 1000000000) → 0 ≤ c → c ≤ M 172 30 → M 172 30 - c < n1 → xW g 209 M2 (RS tt) 0 0 16 [(0, xr 172), (1, xi (mMa M)), (2, xi c)] [] := by
    intro n1
    induction n1 with
    | zero => intro M2 c P2 h2 hc0 hc1 hc2; exfalso; omega
    | succ n1 ihn1 =>
      intro M2 c P2 h2 hc0 hc1 hc2
      have e30 : M2 172 30 = M 172 30 := by rw [P2.1 172 (by decide) (by decide) (by decide)]
      have loop26 : c < M 172 30 → ∀ (n2 : Nat) (M3 : xMm) (t : Int), PB M3 M → (∀ d : Nat, (d : Int) < c → 0 ≤ M3 195 (9 * d + (mMa M).toNat) ∧ M3 195 (9 * d + (mMa M).toNat) ≤ 1000000000) → 0 ≤ t → t ≤ mMa M → mMa M - t < n2 → xW g 209 M3 (RS tt) 0 0 26 [(0, xr 172), (1, xi (mMa M)), (2, xi c), (3, xi t)] [] := by
        intro hcl n2
        induction n2 with
        | zero => intro M3 t P3 h3 ht0 ht1 ht2; exfalso; omega
        | succ n2 ihn2 =>
          intro M3 t P3 h3 ht0 ht1 ht2
          have hcc := hO.2.2.2.2.2.1 c.toNat (by omega)
          have e24 : M3 172 24 = M 172 24 := by rw [P3.1 172 (by decide) (by decide) (by decide)]
          have e187 : M3 187 = M 187 := P3.1 187 (by decide) (by decide) (by decide)
          have e188 : M3 188 = M 188 := P3.1 188 (by decide) (by decide) (by decide)
          have e189 : M3 189 c.toNat = M 189 c.toNat := by rw [P3.1 189 (by decide) (by decide) (by decide)]
          refine x_iload_n hg dX12_price_26 rfl ?_
          refine x_iload_n hg dX12_price_27 rfl ?_
          refine x_icmp_ge (tgt := 95) hg dX12_price_28 (by decide) (by omega) (by omega) (fun c28 => ?_) (fun c28 => ?_)
          · skip
            refine x_aload_n hg dX12_price_95 rfl ?_
            refine x_getR (j9 := 195) hg dX12_price_96 fl_X12_182 (by decide) rfl rfl (by decide) ?_
            refine x_bipush hg dX12_price_99 (by decide) ?_
            refine x_iload_n hg dX12_price_101 rfl ?_
            refine x_imul hg dX12_price_102 ?_
            refine x_iload_n hg dX12_price_103 rfl ?_
            refine x_iadd hg dX12_price_104 ?_
            refine x_ldc2 hg 10000000 dX12_price_105 (List.mem_of_getElem? (i := 1176) (by decide +kernel)) ?_
            refine x_aload_n hg dX12_price_108 rfl ?_
            refine x_getR (j9 := 189) hg dX12_price_109 fl_X12_164 (by decide) rfl rfl (by decide) ?_
            refine x_iload_n hg dX12_price_112 rfl ?_
            refine x_iaload (len := 10) hg dX12_price_113 (by decide) (by omega) ?_
            refine x_i2l hg dX12_price_114 (by omega) ?_
            refine x_lmul hg dX12_price_115 ?_
            refine x_lastore (len := 90) hg dX12_price_116 (by decide) (by omega)  ?_
            refine x_iinc (ls' := [(0, _), (1, _), (2, _), (3, _)]) hg dX12_price_117 rfl (by decide) rfl ?_
            refine x_goto (tgt := 16) hg dX12_price_120 (by decide) ?_
            refine x_canon (ls' := [(0, _), (1, _), (2, _)]) rfl ?_
            refine ihn1 _ _ (PB_mu P3 (by omega)) (fun d hd => ?_) (by omega) (by omega) (by omega)
            by_cases ed : (d : Int) = c
            · rw [show 9 * d + (mMa M).toNat = (9 * c + mMa M).toNat by omega, mu_s]; omega
            · rw [mu_nf (by omega)]; exact h3 d (by omega)
          · skip
            refine x_aload_n hg dX12_price_31 rfl ?_
            refine x_iload_n hg dX12_price_32 rfl ?_
            refine x_iload_n hg dX12_price_33 rfl ?_
            refine x_cVi hg he [_, _] [] dX12_price_34 mv_X12_277 (c_X12_souredBy l b D cy (fp_R P3.1 hR) P3.2.1 P3.2.2.1 (by omega) (by rw [e187]; exact hcc.2.1) (by rw [e188]; exact hcc.2.2.1) (by omega)) (by decide) rfl rfl (Nat.le_of_ble_eq_true rfl) (by decide) (by decide) (fun r34 M34 q34 => ?_)
            obtain ⟨h34, e34⟩ := q34
            replace h34 := h34.symm
            subst h34
            refine x_istore (ls' := [(0, _), (1, _), (2, _), (3, _), (4, _)]) hg dX12_price_37 (by decide) rfl ?_
            refine x_aload_n hg dX12_price_39 rfl ?_
            refine x_getR (j9 := 195) hg dX12_price_40 fl_X12_182 (by decide) rfl rfl (by decide) ?_
            refine x_bipush hg dX12_price_43 (by decide) ?_
            refine x_iload_n hg dX12_price_45 rfl ?_
            refine x_imul hg dX12_price_46 ?_
            refine x_iload_n hg dX12_price_47 rfl ?_
            refine x_iadd hg dX12_price_48 ?_
            refine x_iload hg dX12_price_49 rfl ?_
            refine x_if_ge (tgt := 60) hg dX12_price_51 (by decide) (by omega) (fun c51 => ?_) (fun c51 => ?_)
            · skip
              refine x_iload hg dX12_price_60 rfl ?_
              refine x_i2l hg dX12_price_62 (by omega) ?_
              refine x_iload hg dX12_price_63 rfl ?_
              refine x_aload_n hg dX12_price_65 rfl ?_
              refine x_getI hg dX12_price_66 fl_X12_152 (by decide) rfl ?_
              refine x_icmp_lt (tgt := 86) hg dX12_price_69 (by decide) (by omega) (by omega) (fun c69 => ?_) (fun c69 => ?_)
              · skip
                refine x_lconst (z := 0) hg dX12_price_86 rfl ?_
                refine x_ladd hg dX12_price_87 ?_
                refine x_lastore (len := 90) hg dX12_price_88 (by decide) (by omega)  ?_
                refine x_iinc (ls' := [(0, _), (1, _), (2, _), (3, _), (4, _)]) hg dX12_price_89 rfl (by decide) rfl ?_
                refine x_goto (tgt := 26) hg dX12_price_92 (by decide) ?_
                refine x_canon (ls' := [(0, _), (1, _), (2, _), (3, _)]) rfl ?_
                refine ihn2 _ _ (PB_mu P3 (by omega)) (fun d hd => ?_) (by omega) (by omega) (by omega)
                rw [mu_nf (by omega)]
                exact h3 d hd
              · skip
                refine x_ldc2 hg 10000000 dX12_price_72 (List.mem_of_getElem? (i := 1176) (by decide +kernel)) ?_
                refine x_aload_n hg dX12_price_75 rfl ?_
                refine x_getR (j9 := 189) hg dX12_price_76 fl_X12_164 (by decide) rfl rfl (by decide) ?_
                refine x_iload_n hg dX12_price_79 rfl ?_
                refine x_iaload (len := 10) hg dX12_price_80 (by decide) (by omega) ?_
                refine x_i2l hg dX12_price_81 (by omega) ?_
                refine x_lmul hg dX12_price_82 ?_
                refine x_goto (tgt := 87) hg dX12_price_83 (by decide) ?_
                refine x_ladd hg dX12_price_87 ?_
                refine x_lastore (len := 90) hg dX12_price_88 (by decide) (by omega)  ?_
                refine x_iinc (ls' := [(0, _), (1, _), (2, _), (3, _), (4, _)]) hg dX12_price_89 rfl (by decide) rfl ?_
                refine x_goto (tgt := 26) hg dX12_price_92 (by decide) ?_
                refine x_canon (ls' := [(0, _), (1, _), (2, _), (3, _)]) rfl ?_
                refine ihn2 _ _ (PB_mu P3 (by omega)) (fun d hd => ?_) (by omega) (by omega) (by omega)
                rw [mu_nf (by omega)]
                exact h3 d hd
            · skip
              refine x_ldc2 hg 1000000000000000 dX12_price_54 (List.mem_of_getElem? (i := 1175) (by decide +kernel)) ?_
              refine x_goto (tgt := 88) hg dX12_price_57 (by decide) ?_
              refine x_lastore (len := 90) hg dX12_price_88 (by decide) (by omega)  ?_
              refine x_iinc (ls' := [(0, _), (1, _), (2, _), (3, _), (4, _)]) hg dX12_price_89 rfl (by decide) rfl ?_
              refine x_goto (tgt := 26) hg dX12_price_92 (by decide) ?_
              refine x_canon (ls' := [(0, _), (1, _), (2, _), (3, _)]) rfl ?_
              refine ihn2 _ _ (PB_mu P3 (by omega)) (fun d hd => ?_) (by omega) (by omega) (by omega)
              rw [mu_nf (by omega)]
              exact h3 d hd
      refine x_iload_n hg dX12_price_16 rfl ?_
      refine x_aload_n hg dX12_price_17 rfl ?_
      refine x_getI hg dX12_price_18 fl_X12_234 (by decide) rfl ?_
      refine x_icmp_ge (tgt := 123) hg dX12_price_21 (by decide) (by omega) (by omega) (fun c21 => ?_) (fun c21 => ?_)
      · skip
        refine x_vret hg hr dX12_price_123 (Nat.le_refl _) (Nat.le_refl _) ?_
        exact ⟨rfl, rfl, rfl, P2, fun d hd => h2 d (by omega)⟩
      · skip
        refine x_iconst hg dX12_price_24 ?_
        refine x_istore_n (ls' := [(0, _), (1, _), (2, _), (3, _)]) hg dX12_price_25 rfl (by decide) rfl ?_
        exact loop26 (by omega) ((mMa M).toNat + 1) M2 0 P2 h2 (by omega) (by omega) (by omega)
  refine x_aload_n hg dX12_price_0 rfl ?_
  refine x_cVv hg he [] [] dX12_price_1 mv_X12_248 (c_X12_sumUp l b D cy hC) (by decide) rfl rfl (Nat.le_of_ble_eq_true rfl) (by decide) (by decide) (fun M1 q1 => ?_)
  obtain ⟨hS1, hf1⟩ := q1
  have P0 : PB M1 M := ⟨fun a e1 e2 _ => hf1 a e1 e2, ⟨fun k hk => by rw [hf1 182 (by decide) (by decide)]; exact hC.1 k hk, fun s hs => by rw [hf1 185 (by decide) (by decide)]; exact hC.2.1 s hs, hS1.1, hS1.2.1⟩, hS1, fun i hi => by rw [hf1 195 (by decide) (by decide)]; exact hK i hi⟩
  have hb1 := (fp_R P0.1 hR).1
  refine x_aload_n hg dX12_price_4 rfl ?_
  refine x_getR (j9 := 180) hg dX12_price_5 fl_X12_81 (by decide) rfl rfl (by decide) ?_
  refine x_aload_n hg dX12_price_8 rfl ?_
  refine x_getI hg dX12_price_9 fl_X12_75 (by decide) rfl ?_
  refine x_iaload (len := 2) hg dX12_price_12 (by decide) (by omega) ?_
  rw [fp_ma P0.1]
  refine x_istore_n (ls' := [(0, _), (1, _)]) hg dX12_price_13 rfl (by decide) rfl ?_
  refine x_iconst hg dX12_price_14 ?_
  refine x_istore_n (ls' := [(0, _), (1, _), (2, _)]) hg dX12_price_15 rfl (by decide) rfl ?_
  exact loop16 ((M 172 30).toNat + 1) M1 0 P0 (fun d hd => absurd hd (by omega)) (by omega) (by omega) (by omega)

theorem dX12_canBe_0 : decode cX12_canBe 0 = .ok (.aload_n 0, 1) := by decide +kernel
theorem dX12_canBe_1 : decode cX12_canBe 1 = .ok (.getfield 182, 3) := by decide +kernel
theorem dX12_canBe_4 : decode cX12_canBe 4 = .ok (.bipush 9, 2) := by decide +kernel
theorem dX12_canBe_6 : decode cX12_canBe 6 = .ok (.iload_n 1, 1) := by decide +kernel
theorem dX12_canBe_7 : decode cX12_canBe 7 = .ok (.imul, 1) := by decide +kernel
theorem dX12_canBe_8 : decode cX12_canBe 8 = .ok (.iload_n 2, 1) := by decide +kernel
theorem dX12_canBe_9 : decode cX12_canBe 9 = .ok (.iadd, 1) := by decide +kernel
theorem dX12_canBe_10 : decode cX12_canBe 10 = .ok (.laload, 1) := by decide +kernel
theorem dX12_canBe_11 : decode cX12_canBe 11 = .ok (.ldc2_w 280, 3) := by decide +kernel
theorem dX12_canBe_14 : decode cX12_canBe 14 = .ok (.lcmp, 1) := by decide +kernel
theorem dX12_canBe_15 : decode cX12_canBe 15 = .ok (.ifCond .lt 5, 3) := by decide +kernel
theorem dX12_canBe_18 : decode cX12_canBe 18 = .ok (.iconst 0, 1) := by decide +kernel
theorem dX12_canBe_19 : decode cX12_canBe 19 = .ok (.ireturn, 1) := by decide +kernel
theorem dX12_canBe_20 : decode cX12_canBe 20 = .ok (.iconst 0, 1) := by decide +kernel
theorem dX12_canBe_21 : decode cX12_canBe 21 = .ok (.istore 5, 2) := by decide +kernel
theorem dX12_canBe_23 : decode cX12_canBe 23 = .ok (.iload 5, 2) := by decide +kernel
theorem dX12_canBe_25 : decode cX12_canBe 25 = .ok (.aload_n 0, 1) := by decide +kernel
theorem dX12_canBe_26 : decode cX12_canBe 26 = .ok (.getfield 81, 3) := by decide +kernel
theorem dX12_canBe_29 : decode cX12_canBe 29 = .ok (.aload_n 0, 1) := by decide +kernel
theorem dX12_canBe_30 : decode cX12_canBe 30 = .ok (.getfield 75, 3) := by decide +kernel
theorem dX12_canBe_33 : decode cX12_canBe 33 = .ok (.iaload, 1) := by decide +kernel
theorem dX12_canBe_34 : decode cX12_canBe 34 = .ok (.if_icmp .gt 49, 3) := by decide +kernel
theorem dX12_canBe_37 : decode cX12_canBe 37 = .ok (.aload_n 0, 1) := by decide +kernel
theorem dX12_canBe_38 : decode cX12_canBe 38 = .ok (.getfield 197, 3) := by decide +kernel
theorem dX12_canBe_41 : decode cX12_canBe 41 = .ok (.iload 5, 2) := by decide +kernel
theorem dX12_canBe_43 : decode cX12_canBe 43 = .ok (.aload_n 0, 1) := by decide +kernel
theorem dX12_canBe_44 : decode cX12_canBe 44 = .ok (.getfield 182, 3) := by decide +kernel
theorem dX12_canBe_47 : decode cX12_canBe 47 = .ok (.bipush 9, 2) := by decide +kernel
theorem dX12_canBe_49 : decode cX12_canBe 49 = .ok (.iload_n 1, 1) := by decide +kernel
theorem dX12_canBe_50 : decode cX12_canBe 50 = .ok (.imul, 1) := by decide +kernel
theorem dX12_canBe_51 : decode cX12_canBe 51 = .ok (.iload 5, 2) := by decide +kernel
theorem dX12_canBe_53 : decode cX12_canBe 53 = .ok (.iadd, 1) := by decide +kernel
theorem dX12_canBe_54 : decode cX12_canBe 54 = .ok (.laload, 1) := by decide +kernel
theorem dX12_canBe_55 : decode cX12_canBe 55 = .ok (.lastore, 1) := by decide +kernel
theorem dX12_canBe_56 : decode cX12_canBe 56 = .ok (.iload 5, 2) := by decide +kernel
theorem dX12_canBe_58 : decode cX12_canBe 58 = .ok (.iload_n 2, 1) := by decide +kernel
theorem dX12_canBe_59 : decode cX12_canBe 59 = .ok (.if_icmp .eq 18, 3) := by decide +kernel
theorem dX12_canBe_62 : decode cX12_canBe 62 = .ok (.aload_n 0, 1) := by decide +kernel
theorem dX12_canBe_63 : decode cX12_canBe 63 = .ok (.getfield 182, 3) := by decide +kernel
theorem dX12_canBe_66 : decode cX12_canBe 66 = .ok (.bipush 9, 2) := by decide +kernel
theorem dX12_canBe_68 : decode cX12_canBe 68 = .ok (.iload_n 1, 1) := by decide +kernel
theorem dX12_canBe_69 : decode cX12_canBe 69 = .ok (.imul, 1) := by decide +kernel
theorem dX12_canBe_70 : decode cX12_canBe 70 = .ok (.iload 5, 2) := by decide +kernel
theorem dX12_canBe_72 : decode cX12_canBe 72 = .ok (.iadd, 1) := by decide +kernel
theorem dX12_canBe_73 : decode cX12_canBe 73 = .ok (.ldc2_w 280, 3) := by decide +kernel
theorem dX12_canBe_76 : decode cX12_canBe 76 = .ok (.lastore, 1) := by decide +kernel
theorem dX12_canBe_77 : decode cX12_canBe 77 = .ok (.iinc 5 1, 3) := by decide +kernel
theorem dX12_canBe_80 : decode cX12_canBe 80 = .ok (.goto (-57), 3) := by decide +kernel
theorem dX12_canBe_83 : decode cX12_canBe 83 = .ok (.aload_n 0, 1) := by decide +kernel
theorem dX12_canBe_84 : decode cX12_canBe 84 = .ok (.invokevirtual 297, 3) := by decide +kernel
theorem dX12_canBe_87 : decode cX12_canBe 87 = .ok (.lload_n 3, 1) := by decide +kernel
theorem dX12_canBe_88 : decode cX12_canBe 88 = .ok (.lcmp, 1) := by decide +kernel
theorem dX12_canBe_89 : decode cX12_canBe 89 = .ok (.ifCond .ne 7, 3) := by decide +kernel
theorem dX12_canBe_92 : decode cX12_canBe 92 = .ok (.iconst 1, 1) := by decide +kernel
theorem dX12_canBe_93 : decode cX12_canBe 93 = .ok (.goto 4, 3) := by decide +kernel
theorem dX12_canBe_96 : decode cX12_canBe 96 = .ok (.iconst 0, 1) := by decide +kernel
theorem dX12_canBe_97 : decode cX12_canBe 97 = .ok (.istore 5, 2) := by decide +kernel
theorem dX12_canBe_99 : decode cX12_canBe 99 = .ok (.iconst 0, 1) := by decide +kernel
theorem dX12_canBe_100 : decode cX12_canBe 100 = .ok (.istore 6, 2) := by decide +kernel
theorem dX12_canBe_102 : decode cX12_canBe 102 = .ok (.iload 6, 2) := by decide +kernel
theorem dX12_canBe_104 : decode cX12_canBe 104 = .ok (.aload_n 0, 1) := by decide +kernel
theorem dX12_canBe_105 : decode cX12_canBe 105 = .ok (.getfield 81, 3) := by decide +kernel
theorem dX12_canBe_108 : decode cX12_canBe 108 = .ok (.aload_n 0, 1) := by decide +kernel
theorem dX12_canBe_109 : decode cX12_canBe 109 = .ok (.getfield 75, 3) := by decide +kernel
theorem dX12_canBe_112 : decode cX12_canBe 112 = .ok (.iaload, 1) := by decide +kernel
theorem dX12_canBe_113 : decode cX12_canBe 113 = .ok (.if_icmp .gt 28, 3) := by decide +kernel
theorem dX12_canBe_116 : decode cX12_canBe 116 = .ok (.aload_n 0, 1) := by decide +kernel
theorem dX12_canBe_117 : decode cX12_canBe 117 = .ok (.getfield 182, 3) := by decide +kernel
theorem dX12_canBe_120 : decode cX12_canBe 120 = .ok (.bipush 9, 2) := by decide +kernel
theorem dX12_canBe_122 : decode cX12_canBe 122 = .ok (.iload_n 1, 1) := by decide +kernel
theorem dX12_canBe_123 : decode cX12_canBe 123 = .ok (.imul, 1) := by decide +kernel
theorem dX12_canBe_124 : decode cX12_canBe 124 = .ok (.iload 6, 2) := by decide +kernel
theorem dX12_canBe_126 : decode cX12_canBe 126 = .ok (.iadd, 1) := by decide +kernel
theorem dX12_canBe_127 : decode cX12_canBe 127 = .ok (.aload_n 0, 1) := by decide +kernel
theorem dX12_canBe_128 : decode cX12_canBe 128 = .ok (.getfield 197, 3) := by decide +kernel
theorem dX12_canBe_131 : decode cX12_canBe 131 = .ok (.iload 6, 2) := by decide +kernel
theorem dX12_canBe_133 : decode cX12_canBe 133 = .ok (.laload, 1) := by decide +kernel
theorem dX12_canBe_134 : decode cX12_canBe 134 = .ok (.lastore, 1) := by decide +kernel
theorem dX12_canBe_135 : decode cX12_canBe 135 = .ok (.iinc 6 1, 3) := by decide +kernel
theorem dX12_canBe_138 : decode cX12_canBe 138 = .ok (.goto (-36), 3) := by decide +kernel
theorem dX12_canBe_141 : decode cX12_canBe 141 = .ok (.iload 5, 2) := by decide +kernel
theorem dX12_canBe_143 : decode cX12_canBe 143 = .ok (.ireturn, 1) := by decide +kernel
set_option maxHeartbeats 4000000 in
set_option maxRecDepth 20000 in
theorem c_X12_canBe (l : Launch) (b : Nat) (D : va_G) (cy : Nat → ClassId) {tt : Nat} {M : xMm} {n : Nat} {c t s : Int} (hR : MR M) (hN : 0 ≤ M 172 30 ∧ M 172 30 ≤ 10) (eN : n = mN M) (hK : MK M) (hc : 0 ≤ c ∧ c < 10) (ht : 0 ≤ t ∧ t < (n : Int)) (hs : 0 ≤ s ∧ s ≤ 1000000000000000) : xC l b D cy yX12_canBe cX12_canBe 7 (some .boolean) ({ frames := 3, cells := 0, slots := 0, locals := 79 }) [xr 172, xi c, xi t, xl s] 209 M (RS tt) (xPi 209 (RS tt) (fun r M' => frZ M' M ∧ M' 194 = M 194 ∧ M' 195 = M 195 ∧ ((r = 1 ∧ M 195 (9 * c + t).toNat < 1000000000000000 ∧ zLS n (zCut (M 195) n c.toNat t.toNat) (mRo M) (M 172 30).toNat s) ∨ (r = 0 ∧ (M 195 (9 * c + t).toNat < 1000000000000000 → ∃ r', zLS n (zCut (M 195) n c.toNat t.toNat) (mRo M) (M 172 30).toNat r' ∧ r' ≠ s))))) := by
  refine x_met (by decide) (Nat.le_of_ble_eq_true rfl) (fun g hg hr he => ?_)
  have em : M 180 (M 172 18).toNat = mMa M := rfl
  obtain ⟨hb, hm⟩ := MR_many hR
  refine x_canon (ls' := [(0, _), (1, _), (2, _), (3, _)]) rfl ?_
  have en : (n : Int) = mMa M + 1 := by rw [eN]; unfold mN; omega
  have hn9 : n ≤ 9 := by omega
  have hct := hK (9 * c + t).toNat (by omega)
  have ict : (9 * c + t).toNat = 9 * c.toNat + t.toNat := by omega
  have loop102 : ∀ (n1 : Nat) (M1 : xMm) (v k : Int), (∃ r, zLS n (zCut (M 195) n c.toNat t.toNat) (mRo M) (M 172 30).toNat r ∧ (v = 1 ∧ r = s ∨ v = 0 ∧ r ≠ s)) → M 195 (9 * c + t).toNat < 1000000000000000 → frZ M1 M → M1 194 = M 194 → M1 195 = zRes (M 195) n c.toNat t.toNat k.toNat → (∀ x : Nat, x < n → M1 200 x = M 195 (9 * c.toNat + x)) → 0 ≤ k → k ≤ (n : Int) → (n : Int) - k < n1 → xW g 209 M1 (RS tt) 0 0 102 [(0, xr 172), (1, xi c), (2, xi t), (3, xl s), (5, xi v), (6, xi k)] [] := by
    intro n1
    induction n1 with
    | zero => intro M1 v k hv hlt f1 e194 e195 h200 hk0 hk1 hk2; exfalso; omega
    | succ n1 ihn1 =>
      intro M1 v k hv hlt f1 e194 e195 h200 hk0 hk1 hk2
      have hv01 : v = 0 ∨ v = 1 := by obtain ⟨r, -, h⟩ := hv; omega
      have hma1 := fb_ma f1
      have hb1 := (fb_R f1 hR).1
      have ix : (9 * c + k).toNat = 9 * c.toNat + k.toNat := by omega
      refine x_iload hg dX12_canBe_102 rfl ?_
      refine x_aload_n hg dX12_canBe_104 rfl ?_
      refine x_getR (j9 := 180) hg dX12_canBe_105 fl_X12_81 (by decide) rfl rfl (by decide) ?_
      refine x_aload_n hg dX12_canBe_108 rfl ?_
      refine x_getI hg dX12_canBe_109 fl_X12_75 (by decide) rfl ?_
      refine x_iaload (len := 2) hg dX12_canBe_112 (by decide) (by omega) ?_
      refine x_icmp_gt (tgt := 141) hg dX12_canBe_113 (by decide) (by omega) (by omega) (fun c113 => ?_) (fun c113 => ?_)
      · skip
        refine x_iload hg dX12_canBe_141 rfl ?_
        refine x_iret hg hr (Or.inr ⟨rfl, (by omega)⟩) dX12_canBe_143 (Nat.le_refl _) (Nat.le_refl _) ?_
        refine ⟨rfl, rfl, _, rfl, f1, e194, ?_, ?_⟩
        · rw [e195, show k.toNat = n by omega]; exact zRes_n _ _ _ _
        · obtain ⟨r, hr, h⟩ := hv
          rcases h with ⟨h1, h2⟩ | ⟨h1, h2⟩
          · left; rw [← h2]; exact ⟨h1, hlt, hr⟩
          · right; exact ⟨h1, fun _ => ⟨r, hr, h2⟩⟩
      · skip
        refine x_aload_n hg dX12_canBe_116 rfl ?_
        refine x_getR (j9 := 195) hg dX12_canBe_117 fl_X12_182 (by decide) rfl rfl (by decide) ?_
        refine x_bipush hg dX12_canBe_120 (by decide) ?_
        refine x_iload_n hg dX12_canBe_122 rfl ?_
        refine x_imul hg dX12_canBe_123 ?_
        refine x_iload hg dX12_canBe_124 rfl ?_
        refine x_iadd hg dX12_canBe_126 ?_
        refine x_aload_n hg dX12_canBe_127 rfl ?_
        refine x_getR (j9 := 200) hg dX12_canBe_128 fl_X12_197 (by decide) rfl rfl (by decide) ?_
        refine x_iload hg dX12_canBe_131 rfl ?_
        refine x_laload (len := 9) hg dX12_canBe_133 (by decide) (by omega) ?_
        refine x_lastore (len := 90) hg dX12_canBe_134 (by decide) (by omega)  ?_
        refine x_iinc (ls' := [(0, _), (1, _), (2, _), (3, _), (5, _), (6, _)]) hg dX12_canBe_135 rfl (by decide) rfl ?_
        refine x_goto (tgt := 102) hg dX12_canBe_138 (by decide) ?_
        refine x_canon (ls' := [(0, _), (1, _), (2, _), (3, _), (5, _), (6, _)]) rfl ?_
        refine ihn1 _ _ _ hv hlt (frZ_mu f1 (by decide)) (by rw [← e194]; funext x; exact mu_nc (by decide)) ?_ (fun x hx => by rw [mu_nc (by decide)]; exact h200 x hx) (by omega) (by omega) (by omega)
        rw [ix, show (k + 1).toNat = k.toNat + 1 by omega]
        exact zRes_mu e195 (h200 k.toNat (by omega))
  have loop23 : ∀ (n1 : Nat) (M1 : xMm) (k : Int), M 195 (9 * c + t).toNat < 1000000000000000 → frZ M1 M → M1 194 = M 194 → M1 195 = zCut (M 195) k.toNat c.toNat t.toNat → (∀ x : Nat, (x : Int) < k → M1 200 x = M 195 (9 * c.toNat + x)) → 0 ≤ k → k ≤ (n : Int) → (n : Int) - k < n1 → xW g 209 M1 (RS tt) 0 0 23 [(0, xr 172), (1, xi c), (2, xi t), (3, xl s), (5, xi k)] [] := by
    intro n1
    induction n1 with
    | zero => intro M1 k hlt f1 e194 e195 h200 hk0 hk1 hk2; exfalso; omega
    | succ n1 ihn1 =>
      intro M1 k hlt f1 e194 e195 h200 hk0 hk1 hk2
      have hma1 := fb_ma f1
      have hb1 := (fb_R f1 hR).1
      have ix : (9 * c + k).toNat = 9 * c.toNat + k.toNat := by omega
      have ik : (k + 1).toNat = k.toNat + 1 := by omega
      have e30 : M1 172 30 = M 172 30 := by rw [f1 172 (by decide)]
      have h54 : M1 195 (9 * c + k).toNat = M 195 (9 * c.toNat + k.toNat) := by rw [ix, e195]; exact zCut_at (Nat.le_refl _)
      refine x_iload hg dX12_canBe_23 rfl ?_
      refine x_aload_n hg dX12_canBe_25 rfl ?_
      refine x_getR (j9 := 180) hg dX12_canBe_26 fl_X12_81 (by decide) rfl rfl (by decide) ?_
      refine x_aload_n hg dX12_canBe_29 rfl ?_
      refine x_getI hg dX12_canBe_30 fl_X12_75 (by decide) rfl ?_
      refine x_iaload (len := 2) hg dX12_canBe_33 (by decide) (by omega) ?_
      refine x_icmp_gt (tgt := 83) hg dX12_canBe_34 (by decide) (by omega) (by omega) (fun c34 => ?_) (fun c34 => ?_)
      · skip
        refine x_aload_n hg dX12_canBe_83 rfl ?_
        refine x_cVl hg he [] [] dX12_canBe_84 mv_X12_297 (c_X12_least l b D cy (n := n) (C := zCut (M 195) n c.toNat t.toNat) (ro := mRo M) (fb_R f1 hR) (by omega) (by rw [fb_N f1]; exact eN) (by rw [e195, show k.toNat = n by omega]) (fb_ro f1) (zCut_Ck (MK_Ck hK hn9))) (by decide) rfl rfl (Nat.le_of_ble_eq_true rfl) (by decide) (by decide) (fun r84 M84 q84 => ?_)
        obtain ⟨hf84, hr84⟩ := q84
        rw [e30] at hr84
        have hrr := zLS_r hr84
        refine x_lload_n hg dX12_canBe_87 rfl ?_
        refine x_lcmp hg dX12_canBe_88 (by omega) (by omega) ?_
        refine x_if_ne (tgt := 96) hg dX12_canBe_89 (by decide) (by split <;> (try split) <;> omega) (fun c89 => ?_) (fun c89 => ?_)
        · skip
          refine x_iconst hg dX12_canBe_96 ?_
          refine x_istore (ls' := [(0, _), (1, _), (2, _), (3, _), (5, _)]) hg dX12_canBe_97 (by decide) rfl ?_
          refine x_iconst hg dX12_canBe_99 ?_
          refine x_istore (ls' := [(0, _), (1, _), (2, _), (3, _), (5, _), (6, _)]) hg dX12_canBe_100 (by decide) rfl ?_
          first
            | (
               refine loop102 (n + 1) M84 1 0 ⟨r84, hr84, Or.inl ⟨rfl, by omega⟩⟩ hlt (frZ_tr (frZ_M hf84) f1) (by rw [hf84 194 (by decide) (by decide) (by decide) (by decide) (by decide)]; exact e194) ?_ (fun x hx => by rw [hf84 200 (by decide) (by decide) (by decide) (by decide) (by decide)]; exact h200 x (by omega)) (by omega) (by omega) (by omega)
               rw [hf84 195 (by decide) (by decide) (by decide) (by decide) (by decide), e195, show k.toNat = n by omega]
               exact zRes_0 _ _ _ _)
            | (
               refine loop102 (n + 1) M84 0 0 ⟨r84, hr84, Or.inr ⟨rfl, by omega⟩⟩ hlt (frZ_tr (frZ_M hf84) f1) (by rw [hf84 194 (by decide) (by decide) (by decide) (by decide) (by decide)]; exact e194) ?_ (fun x hx => by rw [hf84 200 (by decide) (by decide) (by decide) (by decide) (by decide)]; exact h200 x (by omega)) (by omega) (by omega) (by omega)
               rw [hf84 195 (by decide) (by decide) (by decide) (by decide) (by decide), e195, show k.toNat = n by omega]
               exact zRes_0 _ _ _ _)
        · skip
          refine x_iconst hg dX12_canBe_92 ?_
          refine x_goto (tgt := 97) hg dX12_canBe_93 (by decide) ?_
          refine x_istore (ls' := [(0, _), (1, _), (2, _), (3, _), (5, _)]) hg dX12_canBe_97 (by decide) rfl ?_
          refine x_iconst hg dX12_canBe_99 ?_
          refine x_istore (ls' := [(0, _), (1, _), (2, _), (3, _), (5, _), (6, _)]) hg dX12_canBe_100 (by decide) rfl ?_
          first
            | (
               refine loop102 (n + 1) M84 1 0 ⟨r84, hr84, Or.inl ⟨rfl, by omega⟩⟩ hlt (frZ_tr (frZ_M hf84) f1) (by rw [hf84 194 (by decide) (by decide) (by decide) (by decide) (by decide)]; exact e194) ?_ (fun x hx => by rw [hf84 200 (by decide) (by decide) (by decide) (by decide) (by decide)]; exact h200 x (by omega)) (by omega) (by omega) (by omega)
               rw [hf84 195 (by decide) (by decide) (by decide) (by decide) (by decide), e195, show k.toNat = n by omega]
               exact zRes_0 _ _ _ _)
            | (
               refine loop102 (n + 1) M84 0 0 ⟨r84, hr84, Or.inr ⟨rfl, by omega⟩⟩ hlt (frZ_tr (frZ_M hf84) f1) (by rw [hf84 194 (by decide) (by decide) (by decide) (by decide) (by decide)]; exact e194) ?_ (fun x hx => by rw [hf84 200 (by decide) (by decide) (by decide) (by decide) (by decide)]; exact h200 x (by omega)) (by omega) (by omega) (by omega)
               rw [hf84 195 (by decide) (by decide) (by decide) (by decide) (by decide), e195, show k.toNat = n by omega]
               exact zRes_0 _ _ _ _)
      · skip
        refine x_aload_n hg dX12_canBe_37 rfl ?_
        refine x_getR (j9 := 200) hg dX12_canBe_38 fl_X12_197 (by decide) rfl rfl (by decide) ?_
        refine x_iload hg dX12_canBe_41 rfl ?_
        refine x_aload_n hg dX12_canBe_43 rfl ?_
        refine x_getR (j9 := 195) hg dX12_canBe_44 fl_X12_182 (by decide) rfl rfl (by decide) ?_
        refine x_bipush hg dX12_canBe_47 (by decide) ?_
        refine x_iload_n hg dX12_canBe_49 rfl ?_
        refine x_imul hg dX12_canBe_50 ?_
        refine x_iload hg dX12_canBe_51 rfl ?_
        refine x_iadd hg dX12_canBe_53 ?_
        refine x_laload (len := 90) hg dX12_canBe_54 (by decide) (by omega) ?_
        rw [h54]
        refine x_lastore (len := 9) hg dX12_canBe_55 (by decide) (by omega)  ?_
        refine x_iload hg dX12_canBe_56 rfl ?_
        refine x_iload_n hg dX12_canBe_58 rfl ?_
        refine x_icmp_eq (tgt := 77) hg dX12_canBe_59 (by decide) (by omega) (by omega) (fun c59 => ?_) (fun c59 => ?_)
        · skip
          refine x_iinc (ls' := [(0, _), (1, _), (2, _), (3, _), (5, _)]) hg dX12_canBe_77 rfl (by decide) rfl ?_
          refine x_goto (tgt := 23) hg dX12_canBe_80 (by decide) ?_
          refine x_canon (ls' := [(0, _), (1, _), (2, _), (3, _), (5, _)]) rfl ?_
          by_cases hkt : k = t
          · first
            | (exfalso; omega)
            | (refine ihn1 _ _ hlt (frZ_mu f1 (by decide)) (by rw [← e194]; funext x; exact mu_nc (by decide)) ?_ (fun x hx => by
                 by_cases ex : x = k.toNat
                 · subst ex; rw [mu_s]
                 · rw [mu_nf ex]; exact h200 x (by omega)) (by omega) (by omega) (by omega)
               rw [ik, show (mu M1 200 k.toNat (M 195 (9 * c.toNat + k.toNat))) 195 = M1 195 by funext x; exact mu_nc (by decide)]
               exact zCut_nx e195 (by omega))
          · first
            | (exfalso; omega)
            | (refine ihn1 _ _ hlt (frZ_mu (frZ_mu f1 (by decide)) (by decide)) (by rw [← e194]; funext x; rw [mu_nc (by decide), mu_nc (by decide)]) ?_ (fun x hx => by
                 by_cases ex : x = k.toNat
                 · subst ex; rw [mu_nc (by decide)]; rw [mu_s]
                 · rw [mu_nc (by decide)]; rw [mu_nf ex]; exact h200 x (by omega)) (by omega) (by omega) (by omega)
               rw [ik, ix]
               exact zCut_mu (by rw [← e195]; funext x; exact mu_nc (by decide)) (by omega))
        · skip
          refine x_aload_n hg dX12_canBe_62 rfl ?_
          refine x_getR (j9 := 195) hg dX12_canBe_63 fl_X12_182 (by decide) rfl rfl (by decide) ?_
          refine x_bipush hg dX12_canBe_66 (by decide) ?_
          refine x_iload_n hg dX12_canBe_68 rfl ?_
          refine x_imul hg dX12_canBe_69 ?_
          refine x_iload hg dX12_canBe_70 rfl ?_
          refine x_iadd hg dX12_canBe_72 ?_
          refine x_ldc2 hg 1000000000000000 dX12_canBe_73 (List.mem_of_getElem? (i := 1175) (by decide +kernel)) ?_
          refine x_lastore (len := 90) hg dX12_canBe_76 (by decide) (by omega)  ?_
          refine x_iinc (ls' := [(0, _), (1, _), (2, _), (3, _), (5, _)]) hg dX12_canBe_77 rfl (by decide) rfl ?_
          refine x_goto (tgt := 23) hg dX12_canBe_80 (by decide) ?_
          refine x_canon (ls' := [(0, _), (1, _), (2, _), (3, _), (5, _)]) rfl ?_
          by_cases hkt : k = t
          · first
            | (exfalso; omega)
            | (refine ihn1 _ _ hlt (frZ_mu f1 (by decide)) (by rw [← e194]; funext x; exact mu_nc (by decide)) ?_ (fun x hx => by
                 by_cases ex : x = k.toNat
                 · subst ex; rw [mu_s]
                 · rw [mu_nf ex]; exact h200 x (by omega)) (by omega) (by omega) (by omega)
               rw [ik, show (mu M1 200 k.toNat (M 195 (9 * c.toNat + k.toNat))) 195 = M1 195 by funext x; exact mu_nc (by decide)]
               exact zCut_nx e195 (by omega))
          · first
            | (exfalso; omega)
            | (refine ihn1 _ _ hlt (frZ_mu (frZ_mu f1 (by decide)) (by decide)) (by rw [← e194]; funext x; rw [mu_nc (by decide), mu_nc (by decide)]) ?_ (fun x hx => by
                 by_cases ex : x = k.toNat
                 · subst ex; rw [mu_nc (by decide)]; rw [mu_s]
                 · rw [mu_nc (by decide)]; rw [mu_nf ex]; exact h200 x (by omega)) (by omega) (by omega) (by omega)
               rw [ik, ix]
               exact zCut_mu (by rw [← e195]; funext x; exact mu_nc (by decide)) (by omega))
  refine x_aload_n hg dX12_canBe_0 rfl ?_
  refine x_getR (j9 := 195) hg dX12_canBe_1 fl_X12_182 (by decide) rfl rfl (by decide) ?_
  refine x_bipush hg dX12_canBe_4 (by decide) ?_
  refine x_iload_n hg dX12_canBe_6 rfl ?_
  refine x_imul hg dX12_canBe_7 ?_
  refine x_iload_n hg dX12_canBe_8 rfl ?_
  refine x_iadd hg dX12_canBe_9 ?_
  refine x_laload (len := 90) hg dX12_canBe_10 (by decide) (by omega) ?_
  refine x_ldc2 hg 1000000000000000 dX12_canBe_11 (List.mem_of_getElem? (i := 1175) (by decide +kernel)) ?_
  refine x_lcmp hg dX12_canBe_14 (by omega) (by decide) ?_
  refine x_if_lt (tgt := 20) hg dX12_canBe_15 (by decide) (by split <;> (try split) <;> omega) (fun c15 => ?_) (fun c15 => ?_)
  · skip
    refine x_iconst hg dX12_canBe_20 ?_
    refine x_istore (ls' := [(0, _), (1, _), (2, _), (3, _), (5, _)]) hg dX12_canBe_21 (by decide) rfl ?_
    exact loop23 (n + 1) M 0 (by omega) (frZ_rf M) rfl (zCut_0 _ _ _).symm (fun x hx => absurd hx (by omega)) (by omega) (by omega) (by omega)
  · skip
    refine x_iconst hg dX12_canBe_18 ?_
    refine x_iret hg hr (Or.inr ⟨rfl, by first | exact Or.inl rfl | exact Or.inr rfl | omega⟩) dX12_canBe_19 (Nat.le_refl _) (Nat.le_refl _) ?_
    exact ⟨rfl, rfl, _, rfl, frZ_rf M, rfl, rfl, Or.inr ⟨rfl, fun h => absurd h (by omega)⟩⟩
