/-! ===== the steps: what each call keeps ===== -/
theorem SX_t {M' M : xMm} (h : IX M) (hT : IT M') (e : ∀ a, a ≠ 2 → a ≠ 3 → M' a = M a) : IX M' := by
  obtain ⟨h1, h2, h3, h4, h5, h6⟩ := h
  have e4 := e 4 (by decide) (by decide)
  exact ⟨IO_congr h1 (fun f _ => by rw [e 1 (by decide) (by decide)]) (by rw [e 1 (by decide) (by decide)]; exact h1.2.2.2.2.2.1) (fun a x y => e a (by omega) (by omega)), ⟨hT, by rw [e4]; exact h2.2.1, by rw [e4]; exact h2.2.2⟩, IC_congr h3 (fun a x y => e a (by omega) (by omega)), IR_congr h4 (fun a x y => e a (by omega) (by omega)), IW_congr h5 (fun a x y => e a (by omega) (by omega)), IL_congr h6 (fun a x y => e a (by omega) (by omega))⟩
theorem IO_7 {M' M : xMm} (h : IO M) {v : Int} (hv : v = 0 ∨ v = 1) (e : ∀ a, 85 ≤ a → a ≤ 171 → M' a = M a) (e1 : M' 1 = M 1 ∨ M' 1 = mu M 1 7 v 1) : IO M' := by
  refine IO_congr h (fun f hf => ?_) ?_ e
  · rcases e1 with e1 | e1
    · rw [e1]
    · rw [e1]; exact mu_nf hf
  · rcases e1 with e1 | e1
    · rw [e1]; exact h.2.2.2.2.2.1
    · rw [e1, mu_s]; exact hv
theorem SX_r {M' M : xMm} (h : IX M) (hJ : JG M') (hR : IR M') (e : ∀ a, a ≠ 1 → (a < 2 ∨ 56 < a) → M' a = M a) (e1 : M' 1 = M 1 ∨ M' 1 = mu M 1 7 1 1) : IX M' := by
  obtain ⟨h1, h2, h3, h4, h5, h6⟩ := h
  exact ⟨IO_7 h1 (Or.inr rfl) (fun a x y => e a (by omega) (by omega)) e1, hJ, IC_congr h3 (fun a x y => e a (by omega) (by omega)), hR, IW_congr h5 (fun a x y => e a (by omega) (by omega)), IL_congr h6 (fun a x y => e a (by omega) (by omega))⟩
theorem SX_w {M' M : xMm} (h : IX M) (hC : IC M') (e : ∀ a, a ≠ 1 → (a < 58 ∨ 62 < a) → M' a = M a) (e1 : M' 1 = mu M 1 7 1 1) : IX M' := by
  obtain ⟨h1, h2, h3, h4, h5, h6⟩ := h
  exact ⟨IO_7 h1 (Or.inr rfl) (fun a x y => e a (by omega) (by omega)) (Or.inr e1), JG_congr h2 (fun a x y => e a (by omega) (by omega)), hC, IR_congr h4 (fun a x y => e a (by omega) (by omega)), IW_congr h5 (fun a x y => e a (by omega) (by omega)), IL_congr h6 (fun a x y => e a (by omega) (by omega))⟩
theorem IC_59 {M : xMm} (h : IC M) {s : Nat} {z : Int} (hz : z = 0 ∨ z = 1) : IC (mu M 59 s z) := by
  obtain ⟨h1, h2, h3⟩ := h
  refine ⟨fun k hk => by rw [mu_nc (by decide)]; exact h1 k hk, fun x hx => ?_, fun k hk => ?_⟩
  · by_cases e : x = s
    · subst e; rw [mu_s]; exact hz
    · rw [mu_nf e]; exact h2 x hx
  · rw [mu_nc (by decide), mu_nc (by decide), mu_nc (by decide), rate_congr (M := M) (fun j _ => mu_nc (by decide))]
    exact h3 k hk
theorem SX_W {M' M : xMm} (h : IX M) (hW : IW M') (e : frW M' M) : IX M' := by
  obtain ⟨h1, h2, h3, h4, h5, h6⟩ := h
  exact ⟨IO_congr h1 (fun f _ => by rw [e 1 (by decide)]) (by rw [e 1 (by decide)]; exact h1.2.2.2.2.2.1) (fun a x y => e a (by omega)), JG_congr h2 (fun a x y => e a (by omega)), IC_congr h3 (fun a x y => e a (by omega)), IR_congr h4 (fun a x y => e a (by omega)), hW, IL_congr h6 (fun a x y => e a (by omega))⟩
theorem SX_B {M' M : xMm} (h : IX M) (hL : IL M') (e : frB M' M) : IX M' := by
  obtain ⟨h1, h2, h3, h4, h5, h6⟩ := h
  exact ⟨IO_7 h1 (Or.inl rfl) (fun a x y => e.1 a (by omega) (by omega)) e.2, JG_congr h2 (fun a x y => e.1 a (by omega) (by omega)), IC_congr h3 (fun a x y => e.1 a (by omega) (by omega)), IR_congr h4 (fun a x y => e.1 a (by omega) (by omega)), IW_congr h5 (fun a x y => e.1 a (by omega) (by omega)), hL⟩
theorem MC_85 {M : xMm} (h : MC M) {s : Nat} {z : Int} (hz : z = 0 ∨ z = 1) : MC (mu M 185 s z) := by
  obtain ⟨h1, h2, h3, h4⟩ := h
  refine ⟨fun k hk => by rw [mu_nc (by decide)]; exact h1 k hk, fun x hx => ?_, by rw [mu_nc (by decide)]; exact h3, by rw [mu_nc (by decide)]; exact h4⟩
  by_cases e : x = s
  · subst e; rw [mu_s]; omega
  · rw [mu_nf e]; exact h2 x hx
theorem MC_82 {M : xMm} (h : MC M) {s : Nat} {z : Int} (hz : -1 ≤ z ∧ z ≤ 40) : MC (mu M 182 s z) := by
  obtain ⟨h1, h2, h3, h4⟩ := h
  refine ⟨fun k hk => ?_, fun x hx => by rw [mu_nc (by decide)]; exact h2 x hx, by rw [mu_nc (by decide)]; exact h3, by rw [mu_nc (by decide)]; exact h4⟩
  by_cases e : k = s
  · subst e; rw [mu_s]; exact hz
  · rw [mu_nf e]; exact h1 k hk

theorem sx_feed {M M' : xMm}  (h : IX M)  (q : IT M' ∧ ∀ a, a ≠ 2 → a ≠ 3 → M' a = M a) : IX M' ∧ ∀ a, 172 ≤ a → M' a = M a := by
  exact ⟨SX_t h q.1 q.2, fun a ha => q.2 a (by omega) (by omega)⟩
theorem sx_end {M M' : xMm}  (h : IX M)  (q : IT M' ∧ ∀ a, a ≠ 2 → a ≠ 3 → M' a = M a) : IX M' ∧ ∀ a, 172 ≤ a → M' a = M a := by
  exact ⟨SX_t h q.1 q.2, fun a ha => q.2 a (by omega) (by omega)⟩
theorem sx_fault {M M' : xMm}  (h : IX M)  (q : M' = M) : IX M' ∧ ∀ a, 172 ≤ a → M' a = M a := by
  subst q; exact ⟨h, fun a _ => rfl⟩
theorem sx_train {M M' : xMm}  (h : IX M)  (q : M' = M) : IX M' ∧ ∀ a, 172 ≤ a → M' a = M a := by
  subst q; exact ⟨h, fun a _ => rfl⟩
theorem sx_by {M M' : xMm}  (h : IX M)  (q : M' = M) : IX M' ∧ ∀ a, 172 ≤ a → M' a = M a := by
  subst q; exact ⟨h, fun a _ => rfl⟩
theorem sx_about {M M' : xMm}  (h : IX M)  (q : M' = M) : IX M' ∧ ∀ a, 172 ≤ a → M' a = M a := by
  subst q; exact ⟨h, fun a _ => rfl⟩
theorem sx_sours {M M' : xMm} {r z y : Int} (h : IX M) (hz : inR z) (hy : inR y) (q : M' = M ∧ ((0 ≤ z ∧ z ≤ 1739 ∧ -1 ≤ y ∧ y < 10) ∧ r = vSo M z y ∨ ¬ (0 ≤ z ∧ z ≤ 1739 ∧ -1 ≤ y ∧ y < 10) ∧ r = -1)) : IX M' ∧ ∀ a, 172 ≤ a → M' a = M a := by
  obtain ⟨rfl, -⟩ := q
  exact ⟨h, fun a _ => rfl⟩
theorem sx_of {M M' : xMm} {r z w : Int} (h : IX M) (hz : inR z) (hw : inR w) (q : M' = M ∧ r = vOf M z w) : IX M' ∧ ∀ a, 172 ≤ a → M' a = M a := by
  obtain ⟨rfl, -⟩ := q
  exact ⟨h, fun a _ => rfl⟩
theorem sx_tank {M M' : xMm} {r z w : Int} (h : IX M) (hz : inR z) (hw : inR w) (q : M' = M ∧ r = vTank M z w) : IX M' ∧ ∀ a, 172 ≤ a → M' a = M a := by
  obtain ⟨rfl, -⟩ := q
  exact ⟨h, fun a _ => rfl⟩
theorem sx_bottling {M M' : xMm} {r z w : Int} (h : IX M) (hz : inR z) (hw : inR w) (q : M' = M ∧ r = vBottling M z w) : IX M' ∧ ∀ a, 172 ≤ a → M' a = M a := by
  obtain ⟨rfl, -⟩ := q
  exact ⟨h, fun a _ => rfl⟩
theorem sx_recalled {M M' : xMm} {r z k : Int} (h : IX M) (hz : inR z) (hk : inR k) (q : M' = M ∧ ((0 ≤ z ∧ z < M 1 13) ∧ (pCB M (101 + z.toNat) k ∧ r = 1 ∨ ¬ pCB M (101 + z.toNat) k ∧ r = 0) ∨ ¬ (0 ≤ z ∧ z < M 1 13) ∧ r = -1)) : IX M' ∧ ∀ a, 172 ≤ a → M' a = M a := by
  obtain ⟨rfl, -⟩ := q
  exact ⟨h, fun a _ => rfl⟩
theorem sx_recall {M M' : xMm} {r k : Int} (h : IX M) (hk : inR k) (q : M' = M ∧ r = vRs M k (M 1 13).toNat) : IX M' ∧ ∀ a, 172 ≤ a → M' a = M a := by
  obtain ⟨rfl, -⟩ := q
  exact ⟨h, fun a _ => rfl⟩
theorem sx_delay {M M' : xMm}  (h : IX M)  (q : IR M' ∧ (∀ a, a ≠ 1 → (a < 5 ∨ 56 < a) → M' a = M a) ∧ (M' 1 = M 1 ∨ M' 1 = mu M 1 7 1 1)) : IX M' ∧ ∀ a, 172 ≤ a → M' a = M a := by
  obtain ⟨q1, q2, q3⟩ := q
  exact ⟨SX_r h (JG_congr h.2.1 (fun a x y => q2 a (by omega) (by omega))) q1 (fun a x y => q2 a x (by omega)) q3, fun a ha => q2 a (by omega) (by omega)⟩
theorem sx_warmth {M M' : xMm} {r z y : Int} (h : IX M) (hz : inR z) (hy : inR y) (q : ((0 ≤ z ∧ z < 24 ∧ -1 ≤ y ∧ y ≤ 40) ∧ r = 1 ∧ IC M' ∧ (∀ a, a ≠ 1 → (a < 58 ∨ 62 < a) → M' a = M a) ∧ M' 1 = mu M 1 7 1 1 ∧ M' 59 = M 59 ∧ M' 58 = mu M 58 z.toNat y 58) ∨ (¬ (0 ≤ z ∧ z < 24 ∧ -1 ≤ y ∧ y ≤ 40) ∧ r = 0 ∧ M' = M)) : IX M' ∧ ∀ a, 172 ≤ a → M' a = M a := by
  rcases q with ⟨-, -, q1, q2, q3, -⟩ | ⟨-, -, rfl⟩
  · exact ⟨SX_w h q1 q2 q3, fun a ha => q2 a (by omega) (by omega)⟩
  · exact ⟨h, fun a _ => rfl⟩
theorem sx_cooler {M M' : xMm} {r s z : Int} (h : IX M) (hs : inR s) (hz : z = 0 ∨ z = 1) (q : ((0 ≤ s ∧ s < 10) ∧ r = 1 ∧ M' = mu (mu M 59 s.toNat z) 1 7 1) ∨ (¬ (0 ≤ s ∧ s < 10) ∧ r = 0 ∧ M' = M)) : IX M' ∧ ∀ a, 172 ≤ a → M' a = M a := by
  rcases q with ⟨-, -, rfl⟩ | ⟨-, -, rfl⟩
  · refine ⟨SX_w h (IC_congr (IC_59 (s := s.toNat) h.2.2.1 hz) (fun a x y => by funext f; exact mu_nc (by omega))) (fun a x y => by funext f; rw [mu_nc (by omega), mu_nc (by omega)]) ?_, fun a ha => by funext f; simp (disch := omega) only [mu_nc]⟩
    funext f
    by_cases e : f = 7
    · subst e; rw [mu_s, mu_s]
    · rw [mu_nf e, mu_nf e, mu_nc (by decide)]
  · exact ⟨h, fun a _ => rfl⟩
theorem sx_limit {M M' : xMm} {r z : Int} (h : IX M) (hz : inR z) (q : ((1 ≤ z ∧ z ≤ 100000) ∧ r = 1 ∧ M' = mu (mu M 1 8 z) 1 7 1) ∨ (¬ (1 ≤ z ∧ z ≤ 100000) ∧ r = 0 ∧ M' = M)) : IX M' ∧ ∀ a, 172 ≤ a → M' a = M a := by
  rcases q with ⟨c, -, rfl⟩ | ⟨-, -, rfl⟩
  · exact ⟨IX_o h (IO_1 (IO_1 h.1 (by omega)) (by omega)) (fun a x y => by funext f; simp (disch := omega) only [mu_nc]), fun a ha => by funext f; simp (disch := omega) only [mu_nc]⟩
  · exact ⟨h, fun a _ => rfl⟩
theorem sx_later {M M' : xMm} {r z : Int} (h : IX M) (hz : inR z) (q : ((0 ≤ z ∧ z ≤ 1000 ∧ M 1 16 + z ≤ 100000) ∧ r = M 1 16 + z ∧ M' = mu M 1 16 (M 1 16 + z)) ∨ (¬ (0 ≤ z ∧ z ≤ 1000 ∧ M 1 16 + z ≤ 100000) ∧ r = -1 ∧ M' = M)) : IX M' ∧ ∀ a, 172 ≤ a → M' a = M a := by
  have h4 := h.1.2.2.2.1
  rcases q with ⟨c, -, rfl⟩ | ⟨-, -, rfl⟩
  · exact ⟨IX_o h (IO_1 h.1 (by omega)) (fun a x y => by funext f; simp (disch := omega) only [mu_nc]), fun a ha => by funext f; simp (disch := omega) only [mu_nc]⟩
  · exact ⟨h, fun a _ => rfl⟩
theorem sx_churn {M M' : xMm} {r f s y p : Int} (h : IX M) (hf : inR f) (hs : inR s) (hy : inR y) (hp : inR p) (q : (((0 ≤ f ∧ f < 12) ∧ (1 ≤ s ∧ s < 10) ∧ (0 ≤ y ∧ y ≤ 1439) ∧ (1 ≤ p ∧ p ≤ 100) ∧ M 1 10 < 10) ∧ r = M 1 10 ∧ M' = mu (mu (mu (mu (mu (mu M (85 + (M 1 10).toNat) 0 f) (85 + (M 1 10).toNat) 1 s) (85 + (M 1 10).toNat) 2 y) (85 + (M 1 10).toNat) 3 p) 1 10 (M 1 10 + 1)) 1 7 1) ∨ (¬ ((0 ≤ f ∧ f < 12) ∧ (1 ≤ s ∧ s < 10) ∧ (0 ≤ y ∧ y ≤ 1439) ∧ (1 ≤ p ∧ p ≤ 100) ∧ M 1 10 < 10) ∧ r = -1 ∧ M' = M)) : IX M' ∧ ∀ a, 172 ≤ a → M' a = M a := by
  have h1 := h.1.1
  rcases q with ⟨c, -, rfl⟩ | ⟨-, -, rfl⟩
  · exact ⟨IX_o h (IO_1 (IO_1 (IO_c (IO_c (IO_c (IO_c h.1 (by omega)) (by omega)) (by omega)) (by omega)) (by omega)) (by omega)) (fun a x y => by funext f; simp (disch := omega) only [mu_nc]), fun a ha => by funext f; simp (disch := omega) only [mu_nc]⟩
  · exact ⟨h, fun a _ => rfl⟩
theorem sx_alone {M M' : xMm}  (h : IX M)  (q : IW M' ∧ frW M' M) : IX M' ∧ ∀ a, 172 ≤ a → M' a = M a := by
  exact ⟨SX_W h q.1 q.2, fun a ha => q.2 a (by omega)⟩
theorem sx_way {M M' : xMm}  (h : IX M)  (q : IW M' ∧ frW M' M) : IX M' ∧ ∀ a, 172 ≤ a → M' a = M a := by
  exact ⟨SX_W h q.1 q.2, fun a ha => q.2 a (by omega)⟩
theorem sx_lost {M M' : xMm}  (h : IX M)  (q : IL M' ∧ frB M' M) : IX M' ∧ ∀ a, 172 ≤ a → M' a = M a := by
  exact ⟨SX_B h q.1 q.2, fun a ha => q.2.1 a (by omega) (by omega)⟩
theorem sx_souring {M M' : xMm}  (h : IX M)  (q : IL M' ∧ frB M' M) : IX M' ∧ ∀ a, 172 ≤ a → M' a = M a := by
  exact ⟨SX_B h q.1 q.2, fun a ha => q.2.1 a (by omega) (by omega)⟩
theorem sx_load {M M' : xMm}  (h : IX M)  (q : IL M' ∧ frB M' M) : IX M' ∧ ∀ a, 172 ≤ a → M' a = M a := by
  exact ⟨SX_B h q.1 q.2, fun a ha => q.2.1 a (by omega) (by omega)⟩
theorem sx_pour {M M' : xMm} {r z y : Int} (h : IX M) (hz : inR z) (hy : inR y) (q : ((0 ≤ z ∧ z < M 1 10 ∧ 0 ≤ y ∧ y < 4 ∧ M (85 + z.toNat) 4 = -1 ∧ M (85 + z.toNat) 3 ≤ 1000 - M (96 + y.toNat) 0) ∧ r = M (96 + y.toNat) 0 + M (85 + z.toNat) 3 ∧ M' = mu (mu (mu M (96 + y.toNat) 0 (M (96 + y.toNat) 0 + M (85 + z.toNat) 3)) (96 + y.toNat) 1 (bOr (M (96 + y.toNat) 1) (bShl 1 (M (85 + z.toNat) 0)))) (85 + z.toNat) 4 y) ∨ (¬ (0 ≤ z ∧ z < M 1 10 ∧ 0 ≤ y ∧ y < 4 ∧ M (85 + z.toNat) 4 = -1 ∧ M (85 + z.toNat) 3 ≤ 1000 - M (96 + y.toNat) 0) ∧ r = -1 ∧ M' = M)) : IX M' ∧ ∀ a, 172 ≤ a → M' a = M a := by
  obtain ⟨h1, -, -, -, -, -, h7, h8, -, -⟩ := h.1
  rcases q with ⟨c, -, rfl⟩ | ⟨-, -, rfl⟩
  · have hc := h7 z.toNat (by omega)
    have ht := h8 y.toNat (by omega)
    have hb := bOr_r (M (96 + y.toNat) 1) (bShl 1 (M (85 + z.toNat) 0))
    exact ⟨IX_o h (IO_c (IO_c (IO_c h.1 (by omega)) (by omega)) (by omega)) (fun a x y => by funext f; simp (disch := omega) only [mu_nc]), fun a ha => by funext f; simp (disch := omega) only [mu_nc]⟩
  · exact ⟨h, fun a _ => rfl⟩
theorem sx_lead {M M' : xMm} {r z y p : Int} (h : IX M) (hz : inR z) (hy : inR y) (hp : inR p) (q : ((0 ≤ z ∧ z < 4 ∧ 0 ≤ y ∧ y < 4 ∧ z ≠ y ∧ 1 ≤ p ∧ p ≤ M (96 + z.toNat) 0 ∧ p ≤ 1000 - M (96 + y.toNat) 0) ∧ r = (M (96 + z.toNat) 0 - p) ∧ M' = if (M (96 + z.toNat) 0 - p) = 0 then mu (mu (mu (mu M (96 + y.toNat) 0 (M (96 + y.toNat) 0 + p)) (96 + y.toNat) 1 (bOr (M (96 + y.toNat) 1) (M (96 + z.toNat) 1))) (96 + z.toNat) 0 (M (96 + z.toNat) 0 - p)) (96 + z.toNat) 1 0 else mu (mu (mu M (96 + y.toNat) 0 (M (96 + y.toNat) 0 + p)) (96 + y.toNat) 1 (bOr (M (96 + y.toNat) 1) (M (96 + z.toNat) 1))) (96 + z.toNat) 0 (M (96 + z.toNat) 0 - p)) ∨ (¬ (0 ≤ z ∧ z < 4 ∧ 0 ≤ y ∧ y < 4 ∧ z ≠ y ∧ 1 ≤ p ∧ p ≤ M (96 + z.toNat) 0 ∧ p ≤ 1000 - M (96 + y.toNat) 0) ∧ r = -1 ∧ M' = M)) : IX M' ∧ ∀ a, 172 ≤ a → M' a = M a := by
  obtain ⟨h1, -, -, -, -, -, h7, h8, -, -⟩ := h.1
  rcases q with ⟨c, -, e⟩ | ⟨-, -, rfl⟩
  · have ht := h8 z.toNat (by omega)
    have hy2 := h8 y.toNat (by omega)
    have hb := bOr_r (M (96 + y.toNat) 1) (M (96 + z.toNat) 1)
    have hO2 := IO_c (a := 96 + y.toNat) (f := 1) (z := bOr (M (96 + y.toNat) 1) (M (96 + z.toNat) 1)) (IO_c (a := 96 + y.toNat) (f := 0) (z := M (96 + y.toNat) 0 + p) h.1 (by omega)) (by omega)
    by_cases e0 : M (96 + z.toNat) 0 - p = 0
    · rw [if_pos e0] at e; subst e
      exact ⟨IX_o h (IO_c (IO_c hO2 (by omega)) (by omega)) (fun a x y => by funext f; simp (disch := omega) only [mu_nc]), fun a ha => by funext f; simp (disch := omega) only [mu_nc]⟩
    · rw [if_neg e0] at e; subst e
      exact ⟨IX_o h (IO_c hO2 (by omega)) (fun a x y => by funext f; simp (disch := omega) only [mu_nc]), fun a ha => by funext f; simp (disch := omega) only [mu_nc]⟩
  · exact ⟨h, fun a _ => rfl⟩
theorem sx_bottle {M M' : xMm} {r z y : Int} (h : IX M) (hz : inR z) (hy : inR y) (q : ((0 ≤ z ∧ z < 4 ∧ 1 ≤ y ∧ y ≤ M (96 + z.toNat) 0 ∧ M 1 13 < 40) ∧ r = M 1 13 ∧ ∃ Mt, (Mt = if M (96 + z.toNat) 0 - y = 0 then mu (mu (mu (mu (mu M (101 + (M 1 13).toNat) 0 y) (101 + (M 1 13).toNat) 1 (M (96 + z.toNat) 1)) (101 + (M 1 13).toNat) 2 (M 1 16)) (96 + z.toNat) 0 (M (96 + z.toNat) 0 - y)) (96 + z.toNat) 1 0 else mu (mu (mu (mu M (101 + (M 1 13).toNat) 0 y) (101 + (M 1 13).toNat) 1 (M (96 + z.toNat) 1)) (101 + (M 1 13).toNat) 2 (M 1 16)) (96 + z.toNat) 0 (M (96 + z.toNat) 0 - y)) ∧ M' = mu Mt 1 13 (M 1 13 + 1)) ∨ (¬ (0 ≤ z ∧ z < 4 ∧ 1 ≤ y ∧ y ≤ M (96 + z.toNat) 0 ∧ M 1 13 < 40) ∧ r = -1 ∧ M' = M)) : IX M' ∧ ∀ a, 172 ≤ a → M' a = M a := by
  obtain ⟨h1, h2, -, h4, -, -, h7, h8, -, -⟩ := h.1
  rcases q with ⟨c, -, Mt, e, rfl⟩ | ⟨-, -, rfl⟩
  · have ht := h8 z.toNat (by omega)
    have hO2 := IO_c (a := 101 + (M 1 13).toNat) (f := 2) (z := M 1 16) (IO_c (a := 101 + (M 1 13).toNat) (f := 1) (z := M (96 + z.toNat) 1) (IO_c (a := 101 + (M 1 13).toNat) (f := 0) (z := y) h.1 (by omega)) (by omega)) (by omega)
    by_cases e0 : M (96 + z.toNat) 0 - y = 0
    · rw [if_pos e0] at e; subst e
      exact ⟨IX_o h (IO_1 (IO_c (IO_c hO2 (by omega)) (by omega)) (by omega)) (fun a x y => by funext f; simp (disch := omega) only [mu_nc]), fun a ha => by funext f; simp (disch := omega) only [mu_nc]⟩
    · rw [if_neg e0] at e; subst e
      exact ⟨IX_o h (IO_1 (IO_c hO2 (by omega)) (by omega)) (fun a x y => by funext f; simp (disch := omega) only [mu_nc]), fun a ha => by funext f; simp (disch := omega) only [mu_nc]⟩
  · exact ⟨h, fun a _ => rfl⟩
theorem sx_find {M M' : xMm} {r z y : Int} (h : IX M) (hz : inR z) (hy : inR y) (q : ((0 ≤ z ∧ z < 12 ∧ 0 ≤ y ∧ y ≤ 100000 ∧ M 1 15 < 30) ∧ r = M 1 15 ∧ M' = mu (mu (mu (mu M (142 + (M 1 15).toNat) 0 z) (142 + (M 1 15).toNat) 1 y) (142 + (M 1 15).toNat) 2 (M 1 16)) 1 15 (M 1 15 + 1)) ∨ (¬ (0 ≤ z ∧ z < 12 ∧ 0 ≤ y ∧ y ≤ 100000 ∧ M 1 15 < 30) ∧ r = -1 ∧ M' = M)) : IX M' ∧ ∀ a, 172 ≤ a → M' a = M a := by
  obtain ⟨-, -, h3, h4, -, -, -, -, -, -⟩ := h.1
  rcases q with ⟨c, -, rfl⟩ | ⟨-, -, rfl⟩
  · exact ⟨IX_o h (IO_1 (IO_c (IO_c (IO_c h.1 (by omega)) (by omega)) (by omega)) (by omega)) (fun a x y => by funext f; simp (disch := omega) only [mu_nc]), fun a ha => by funext f; simp (disch := omega) only [mu_nc]⟩
  · exact ⟨h, fun a _ => rfl⟩
theorem sx_untell {M M' : xMm} {r z : Int} (h : IX M) (hz : inR z) (q : ((0 ≤ z ∧ z < M 1 15 ∧ M (142 + z.toNat) 3 = -1) ∧ r = 1 ∧ M' = mu M (142 + z.toNat) 3 (M 1 16)) ∨ (¬ (0 ≤ z ∧ z < M 1 15 ∧ M (142 + z.toNat) 3 = -1) ∧ r = 0 ∧ M' = M)) : IX M' ∧ ∀ a, 172 ≤ a → M' a = M a := by
  obtain ⟨-, -, h3, h4, -, -, -, -, -, -⟩ := h.1
  rcases q with ⟨c, -, rfl⟩ | ⟨-, -, rfl⟩
  · exact ⟨IX_o h (IO_c h.1 (by omega)) (fun a x y => by funext f; simp (disch := omega) only [mu_nc]), fun a ha => by funext f; simp (disch := omega) only [mu_nc]⟩
  · exact ⟨h, fun a _ => rfl⟩
theorem sy_fault {M M' : xMm}  (h : IY M)  (q : M' = M) : IY M' ∧ ∀ a, a ≤ 171 → M' a = M a := by
  subst q; exact ⟨h, fun a _ => rfl⟩
theorem sy_train {M M' : xMm}  (h : IY M)  (q : M' = M) : IY M' ∧ ∀ a, a ≤ 171 → M' a = M a := by
  subst q; exact ⟨h, fun a _ => rfl⟩
theorem sy_about {M M' : xMm}  (h : IY M)  (q : M' = M) : IY M' ∧ ∀ a, a ≤ 171 → M' a = M a := by
  subst q; exact ⟨h, fun a _ => rfl⟩
theorem sy_sours {M M' : xMm} {r z y : Int} (h : IY M) (hz : inR z) (hy : inR y) (q : M' = M ∧ ((0 ≤ z ∧ z ≤ 1739 ∧ -1 ≤ y ∧ y < 10) ∧ r = wSo M z y ∨ ¬ (0 ≤ z ∧ z ≤ 1739 ∧ -1 ≤ y ∧ y < 10) ∧ r = -1)) : IY M' ∧ ∀ a, a ≤ 171 → M' a = M a := by
  obtain ⟨rfl, -⟩ := q
  exact ⟨h, fun a _ => rfl⟩
theorem sy_of {M M' : xMm} {r z w : Int} (h : IY M) (hz : inR z) (hw : inR w) (q : M' = M ∧ r = wOfM M z w) : IY M' ∧ ∀ a, a ≤ 171 → M' a = M a := by
  obtain ⟨rfl, -⟩ := q
  exact ⟨h, fun a _ => rfl⟩
theorem sy_tank {M M' : xMm} {r z w : Int} (h : IY M) (hz : inR z) (hw : inR w) (q : M' = M ∧ r = wTank M z w) : IY M' ∧ ∀ a, a ≤ 171 → M' a = M a := by
  obtain ⟨rfl, -⟩ := q
  exact ⟨h, fun a _ => rfl⟩
theorem sy_bottling {M M' : xMm} {r z w : Int} (h : IY M) (hz : inR z) (hw : inR w) (q : M' = M ∧ r = wBottling M z w) : IY M' ∧ ∀ a, a ≤ 171 → M' a = M a := by
  obtain ⟨rfl, -⟩ := q
  exact ⟨h, fun a _ => rfl⟩
theorem sy_recalled {M M' : xMm} {r z k : Int} (h : IY M) (hz : inR z) (hk : inR k) (q : M' = M ∧ ((0 ≤ z ∧ z < M 172 56) ∧ (pRC M z.toNat k ∧ r = 1 ∨ ¬ pRC M z.toNat k ∧ r = 0) ∨ ¬ (0 ≤ z ∧ z < M 172 56) ∧ r = -1)) : IY M' ∧ ∀ a, a ≤ 171 → M' a = M a := by
  obtain ⟨rfl, -⟩ := q
  exact ⟨h, fun a _ => rfl⟩
theorem sy_recall {M M' : xMm} {r k : Int} (h : IY M) (hk : inR k) (q : M' = M ∧ r = wRs M k (M 172 56).toNat) : IY M' ∧ ∀ a, a ≤ 171 → M' a = M a := by
  obtain ⟨rfl, -⟩ := q
  exact ⟨h, fun a _ => rfl⟩
theorem sy_feed {M M' : xMm}  (h : IY M)  (q : MT M' ∧ frF M' M) : IY M' ∧ ∀ a, a ≤ 171 → M' a = M a := by
  obtain ⟨q1, q2, q3⟩ := q
  obtain ⟨h1, h2, h3, h4, h5, h6⟩ := h
  refine ⟨⟨MO_fr (fun a x y => q2 a (by omega) (by omega)) (fun f hf => q3 f (by omega)) h1, ⟨q1, ?_⟩, MR_fr (fun a x y => q2 a (by omega) (by omega)) (q3 18 (by decide)) h3, MC_fr (fun a x y => q2 a (by omega) (by omega)) h4, MWi_congr h5 (fun f x y => q3 f (by omega)), MK_congr h6 (q2 195 (by decide) (by decide))⟩, fun a ha => q2 a (by omega) (by omega)⟩
  rw [q3 3 (by decide), q3 4 (by decide), q3 8 (by decide), q3 9 (by decide), q3 10 (by decide)]
  exact h2.2
theorem sy_end {M M' : xMm}  (h : IY M)  (q : MT M' ∧ frF M' M) : IY M' ∧ ∀ a, a ≤ 171 → M' a = M a := by
  obtain ⟨q1, q2, q3⟩ := q
  obtain ⟨h1, h2, h3, h4, h5, h6⟩ := h
  refine ⟨⟨MO_fr (fun a x y => q2 a (by omega) (by omega)) (fun f hf => q3 f (by omega)) h1, ⟨q1, ?_⟩, MR_fr (fun a x y => q2 a (by omega) (by omega)) (q3 18 (by decide)) h3, MC_fr (fun a x y => q2 a (by omega) (by omega)) h4, MWi_congr h5 (fun f x y => q3 f (by omega)), MK_congr h6 (q2 195 (by decide) (by decide))⟩, fun a ha => q2 a (by omega) (by omega)⟩
  rw [q3 3 (by decide), q3 4 (by decide), q3 8 (by decide), q3 9 (by decide), q3 10 (by decide)]
  exact h2.2
theorem sy_timetable {M M' : xMm}  (h : IY M)  (q : QT M' M) : IY M' ∧ ∀ a, a ≤ 171 → M' a = M a := by
  obtain ⟨q1, q2, q3, q4⟩ := q
  obtain ⟨h1, h2, h3, h4, h5, h6⟩ := h
  exact ⟨⟨MO_fr (fun a x y => q3 a (by omega)) (fun f hf => q4 f (by omega)) h1, q1, q2, MC_fr (fun a x y => q3 a (by omega)) h4, MWi_congr h5 (fun f x y => q4 f (by omega)), MK_congr h6 (q3 195 (by decide))⟩, fun a ha => q3 a (by omega)⟩
theorem sy_delay {M M' : xMm}  (h : IY M)  (q : MR M' ∧ ∀ a, a ≠ 181 → M' a = M a) : IY M' ∧ ∀ a, a ≤ 171 → M' a = M a := by
  obtain ⟨q1, q2⟩ := q
  obtain ⟨h1, h2, h3, h4, h5, h6⟩ := h
  have e := q2 172 (by decide)
  exact ⟨⟨MO_fr (fun a x y => q2 a (by omega)) (fun f hf => by rw [e]) h1, JN_congr h2 (fun f _ => by rw [e]) (q2 173 (by decide)) (q2 174 (by decide)), q1, MC_fr (fun a x y => q2 a (by omega)) h4, MWi_congr h5 (fun f x y => by rw [e]), MK_congr h6 (q2 195 (by decide))⟩, fun a ha => q2 a (by omega)⟩
theorem sy_warmth {M M' : xMm} {r z y : Int} (h : IY M) (hz : inR z) (hy : inR y) (q : ((0 ≤ z ∧ z < 24 ∧ -1 ≤ y ∧ y ≤ 40) ∧ r = 1 ∧ M' = mu M 182 z.toNat y) ∨ (¬ (0 ≤ z ∧ z < 24 ∧ -1 ≤ y ∧ y ≤ 40) ∧ r = 0 ∧ M' = M)) : IY M' ∧ ∀ a, a ≤ 171 → M' a = M a := by
  rcases q with ⟨c, -, rfl⟩ | ⟨-, -, rfl⟩
  · obtain ⟨h1, h2, h3, h4, h5, h6⟩ := h
    exact ⟨⟨MO_fr (fun a x y => by funext f; exact mu_nc (by omega)) (fun f hf => mu_nc (by decide)) h1, JN_congr h2 (fun f _ => mu_nc (by decide)) (by funext f; exact mu_nc (by decide)) (by funext f; exact mu_nc (by decide)), MR_fr (fun a x y => by funext f; exact mu_nc (by omega)) (mu_nc (by decide)) h3, MC_82 h4 (by omega), MWi_congr h5 (fun f x y => mu_nc (by decide)), MK_congr h6 (by funext f; exact mu_nc (by decide))⟩, fun a ha => by funext f; exact mu_nc (by omega)⟩
  · exact ⟨h, fun a _ => rfl⟩
theorem sy_cooler {M M' : xMm} {r s z : Int} (h : IY M) (hs : inR s) (hz : z = 0 ∨ z = 1) (q : ((0 ≤ s ∧ s < 10) ∧ r = 1 ∧ M' = mu M 185 s.toNat z) ∨ (¬ (0 ≤ s ∧ s < 10) ∧ r = 0 ∧ M' = M)) : IY M' ∧ ∀ a, a ≤ 171 → M' a = M a := by
  rcases q with ⟨c, -, rfl⟩ | ⟨-, -, rfl⟩
  · obtain ⟨h1, h2, h3, h4, h5, h6⟩ := h
    exact ⟨⟨MO_fr (fun a x y => by funext f; exact mu_nc (by omega)) (fun f hf => mu_nc (by decide)) h1, JN_congr h2 (fun f _ => mu_nc (by decide)) (by funext f; exact mu_nc (by decide)) (by funext f; exact mu_nc (by decide)), MR_fr (fun a x y => by funext f; exact mu_nc (by omega)) (mu_nc (by decide)) h3, MC_85 h4 hz, MWi_congr h5 (fun f x y => mu_nc (by decide)), MK_congr h6 (by funext f; exact mu_nc (by decide))⟩, fun a ha => by funext f; exact mu_nc (by omega)⟩
  · exact ⟨h, fun a _ => rfl⟩
theorem sy_limit {M M' : xMm} {r z : Int} (h : IY M) (hz : inR z) (q : ((1 ≤ z ∧ z ≤ 100000) ∧ r = 1 ∧ M' = mu M 172 24 z) ∨ (¬ (1 ≤ z ∧ z ≤ 100000) ∧ r = 0 ∧ M' = M)) : IY M' ∧ ∀ a, a ≤ 171 → M' a = M a := by
  rcases q with ⟨c, -, rfl⟩ | ⟨-, -, rfl⟩
  · exact ⟨IY_o h (MO_1 h.1 (by omega)) (fun f hf => by simp (disch := omega) only [mu_nc, mu_nf]) (fun a x y => by funext f; simp (disch := omega) only [mu_nc]), fun a ha => by funext f; simp (disch := omega) only [mu_nc]⟩
  · exact ⟨h, fun a _ => rfl⟩
theorem sy_later {M M' : xMm} {r z : Int} (h : IY M) (hz : inR z) (q : ((0 ≤ z ∧ z ≤ 1000 ∧ M 172 55 + z ≤ 100000) ∧ r = M 172 55 + z ∧ M' = mu M 172 55 (M 172 55 + z)) ∨ (¬ (0 ≤ z ∧ z ≤ 1000 ∧ M 172 55 + z ≤ 100000) ∧ r = -1 ∧ M' = M)) : IY M' ∧ ∀ a, a ≤ 171 → M' a = M a := by
  have h4 := h.1.2.2.2.1
  rcases q with ⟨c, -, rfl⟩ | ⟨-, -, rfl⟩
  · exact ⟨IY_o h (MO_1 h.1 (by omega)) (fun f hf => by simp (disch := omega) only [mu_nc, mu_nf]) (fun a x y => by funext f; simp (disch := omega) only [mu_nc]), fun a ha => by funext f; simp (disch := omega) only [mu_nc]⟩
  · exact ⟨h, fun a _ => rfl⟩
theorem sy_churn {M M' : xMm} {r f s y p : Int} (h : IY M) (hf : inR f) (hs : inR s) (hy : inR y) (hp : inR p) (q : (((0 ≤ f ∧ f < 12) ∧ (1 ≤ s ∧ s < 10) ∧ (0 ≤ y ∧ y ≤ 1439) ∧ (1 ≤ p ∧ p ≤ 100) ∧ M 172 30 < 10) ∧ r = M 172 30 ∧ M' = mu (mu (mu (mu (mu (mu M 186 (M 172 30).toNat f) 187 (M 172 30).toNat s) 188 (M 172 30).toNat y) 189 (M 172 30).toNat p) 190 (M 172 30).toNat (-1)) 172 30 (M 172 30 + 1)) ∨ (¬ ((0 ≤ f ∧ f < 12) ∧ (1 ≤ s ∧ s < 10) ∧ (0 ≤ y ∧ y ≤ 1439) ∧ (1 ≤ p ∧ p ≤ 100) ∧ M 172 30 < 10) ∧ r = -1 ∧ M' = M)) : IY M' ∧ ∀ a, a ≤ 171 → M' a = M a := by
  have h1 := h.1.1
  rcases q with ⟨c, -, rfl⟩ | ⟨-, -, rfl⟩
  · exact ⟨IY_o h (MO_1 (MO_c (MO_c (MO_c (MO_c (MO_c h.1 (by omega)) (by omega)) (by omega)) (by omega)) (by omega)) (by omega)) (fun f hf => by simp (disch := omega) only [mu_nc, mu_nf]) (fun a x y => by funext f; simp (disch := omega) only [mu_nc]), fun a ha => by funext f; simp (disch := omega) only [mu_nc]⟩
  · exact ⟨h, fun a _ => rfl⟩
theorem sy_alone {M M' : xMm} {r : Int} (h : IY M)  (q : inR r ∧ MWi M' ∧ MC M' ∧ frS M' M) : IY M' ∧ ∀ a, a ≤ 171 → M' a = M a := by
  obtain ⟨-, q1, q2, q3⟩ := q
  obtain ⟨h1, h2, h3, h4, h5, h6⟩ := h
  exact ⟨⟨MO_fr (fun a x y => q3.1 a (by omega) (by omega) (by omega) (by omega) (by omega)) (fun f hf => q3.2 f (by omega)) h1, JN_congr h2 (fun f _ => q3.2 f (by omega)) (q3.1 173 (by decide) (by decide) (by decide) (by decide) (by decide)) (q3.1 174 (by decide) (by decide) (by decide) (by decide) (by decide)), MR_fr (fun a x y => q3.1 a (by omega) (by omega) (by omega) (by omega) (by omega)) (q3.2 18 (by omega)) h3, q2, q1, MK_congr h6 (q3.1 195 (by decide) (by decide) (by decide) (by decide) (by decide))⟩, fun a ha => q3.1 a (by omega) (by omega) (by omega) (by omega) (by omega)⟩
theorem sy_way {M M' : xMm}  (h : IY M)  (q : MWi M' ∧ MC M' ∧ frS M' M) : IY M' ∧ ∀ a, a ≤ 171 → M' a = M a := by
  obtain ⟨q1, q2, q3⟩ := q
  obtain ⟨h1, h2, h3, h4, h5, h6⟩ := h
  exact ⟨⟨MO_fr (fun a x y => q3.1 a (by omega) (by omega) (by omega) (by omega) (by omega)) (fun f hf => q3.2 f (by omega)) h1, JN_congr h2 (fun f _ => q3.2 f (by omega)) (q3.1 173 (by decide) (by decide) (by decide) (by decide) (by decide)) (q3.1 174 (by decide) (by decide) (by decide) (by decide) (by decide)), MR_fr (fun a x y => q3.1 a (by omega) (by omega) (by omega) (by omega) (by omega)) (q3.2 18 (by omega)) h3, q2, q1, MK_congr h6 (q3.1 195 (by decide) (by decide) (by decide) (by decide) (by decide))⟩, fun a ha => q3.1 a (by omega) (by omega) (by omega) (by omega) (by omega)⟩
theorem sy_lost {M M' : xMm}  (h : IY M)  (q : MC M' ∧ MK M' ∧ frA M' M) : IY M' ∧ ∀ a, a ≤ 171 → M' a = M a := by
  obtain ⟨q1, q2, q3⟩ := q
  obtain ⟨h1, h2, h3, h4, h5, h6⟩ := h
  exact ⟨⟨MO_fr (fun a x y => q3.1 a (by omega) (by omega) (by omega) (by omega)) (fun f hf => q3.2 f (by omega) (by omega)) h1, JN_congr h2 (fun f _ => q3.2 f (by omega) (by omega)) (q3.1 173 (by decide) (by decide) (by decide) (by decide)) (q3.1 174 (by decide) (by decide) (by decide) (by decide)), MR_fr (fun a x y => q3.1 a (by omega) (by omega) (by omega) (by omega)) (q3.2 18 (by decide) (by decide)) h3, q1, MWi_congr h5 (fun f x y => q3.2 f (by omega) (by omega)), q2⟩, fun a ha => q3.1 a (by omega) (by omega) (by omega) (by omega)⟩
theorem sy_souring {M M' : xMm}  (h : IY M)  (q : MC M' ∧ MK M' ∧ frA M' M) : IY M' ∧ ∀ a, a ≤ 171 → M' a = M a := by
  obtain ⟨q1, q2, q3⟩ := q
  obtain ⟨h1, h2, h3, h4, h5, h6⟩ := h
  exact ⟨⟨MO_fr (fun a x y => q3.1 a (by omega) (by omega) (by omega) (by omega)) (fun f hf => q3.2 f (by omega) (by omega)) h1, JN_congr h2 (fun f _ => q3.2 f (by omega) (by omega)) (q3.1 173 (by decide) (by decide) (by decide) (by decide)) (q3.1 174 (by decide) (by decide) (by decide) (by decide)), MR_fr (fun a x y => q3.1 a (by omega) (by omega) (by omega) (by omega)) (q3.2 18 (by decide) (by decide)) h3, q1, MWi_congr h5 (fun f x y => q3.2 f (by omega) (by omega)), q2⟩, fun a ha => q3.1 a (by omega) (by omega) (by omega) (by omega)⟩
theorem sy_load {M M' : xMm}  (h : IY M)  (q : MC M' ∧ MK M' ∧ frA M' M) : IY M' ∧ ∀ a, a ≤ 171 → M' a = M a := by
  obtain ⟨q1, q2, q3⟩ := q
  obtain ⟨h1, h2, h3, h4, h5, h6⟩ := h
  exact ⟨⟨MO_fr (fun a x y => q3.1 a (by omega) (by omega) (by omega) (by omega)) (fun f hf => q3.2 f (by omega) (by omega)) h1, JN_congr h2 (fun f _ => q3.2 f (by omega) (by omega)) (q3.1 173 (by decide) (by decide) (by decide) (by decide)) (q3.1 174 (by decide) (by decide) (by decide) (by decide)), MR_fr (fun a x y => q3.1 a (by omega) (by omega) (by omega) (by omega)) (q3.2 18 (by decide) (by decide)) h3, q1, MWi_congr h5 (fun f x y => q3.2 f (by omega) (by omega)), q2⟩, fun a ha => q3.1 a (by omega) (by omega) (by omega) (by omega)⟩
theorem sy_pour {M M' : xMm} {r z y : Int} (h : IY M) (hz : inR z) (hy : inR y) (q : ((0 ≤ z ∧ z < M 172 30 ∧ 0 ≤ y ∧ y < 4 ∧ M 190 z.toNat < 0 ∧ M 201 y.toNat + M 189 z.toNat ≤ 1000) ∧ r = M 201 y.toNat + M 189 z.toNat ∧ M' = mu (mu (mu M 190 z.toNat y) 201 y.toNat (M 201 y.toNat + M 189 z.toNat)) 202 y.toNat (bOr (M 202 y.toNat) (bShl 1 (M 186 z.toNat)))) ∨ (¬ (0 ≤ z ∧ z < M 172 30 ∧ 0 ≤ y ∧ y < 4 ∧ M 190 z.toNat < 0 ∧ M 201 y.toNat + M 189 z.toNat ≤ 1000) ∧ r = -1 ∧ M' = M)) : IY M' ∧ ∀ a, a ≤ 171 → M' a = M a := by
  obtain ⟨h1, -, -, -, -, h6, h7, -, -⟩ := h.1
  rcases q with ⟨c, -, rfl⟩ | ⟨-, -, rfl⟩
  · have hc := h6 z.toNat (by omega)
    have ht := h7 y.toNat (by omega)
    have hb := bOr_r (M 202 y.toNat) (bShl 1 (M 186 z.toNat))
    exact ⟨IY_o h (MO_c (MO_c (MO_c h.1 (by omega)) (by omega)) (by omega)) (fun f hf => by simp (disch := omega) only [mu_nc, mu_nf]) (fun a x y => by funext f; simp (disch := omega) only [mu_nc]), fun a ha => by funext f; simp (disch := omega) only [mu_nc]⟩
  · exact ⟨h, fun a _ => rfl⟩
theorem sy_lead {M M' : xMm} {r z y p : Int} (h : IY M) (hz : inR z) (hy : inR y) (hp : inR p) (q : ((0 ≤ z ∧ z < 4 ∧ 0 ≤ y ∧ y < 4 ∧ z ≠ y ∧ 1 ≤ p ∧ p ≤ M 201 z.toNat ∧ M 201 y.toNat + p ≤ 1000) ∧ r = (M 201 z.toNat - p) ∧ M' = if (M 201 z.toNat - p) = 0 then mu (mu (mu (mu M 201 y.toNat (M 201 y.toNat + p)) 202 y.toNat (bOr (M 202 y.toNat) (M 202 z.toNat))) 201 z.toNat (M 201 z.toNat - p)) 202 z.toNat 0 else mu (mu (mu M 201 y.toNat (M 201 y.toNat + p)) 202 y.toNat (bOr (M 202 y.toNat) (M 202 z.toNat))) 201 z.toNat (M 201 z.toNat - p)) ∨ (¬ (0 ≤ z ∧ z < 4 ∧ 0 ≤ y ∧ y < 4 ∧ z ≠ y ∧ 1 ≤ p ∧ p ≤ M 201 z.toNat ∧ M 201 y.toNat + p ≤ 1000) ∧ r = -1 ∧ M' = M)) : IY M' ∧ ∀ a, a ≤ 171 → M' a = M a := by
  obtain ⟨h1, -, -, -, -, h6, h7, -, -⟩ := h.1
  rcases q with ⟨c, -, e⟩ | ⟨-, -, rfl⟩
  · have ht := h7 z.toNat (by omega)
    have hy2 := h7 y.toNat (by omega)
    have hb := bOr_r (M 202 y.toNat) (M 202 z.toNat)
    have hO2 := MO_c (a := 202) (f := y.toNat) (z := bOr (M 202 y.toNat) (M 202 z.toNat)) (MO_c (a := 201) (f := y.toNat) (z := M 201 y.toNat + p) h.1 (by omega)) (by omega)
    by_cases e0 : M 201 z.toNat - p = 0
    · rw [if_pos e0] at e; subst e
      exact ⟨IY_o h (MO_c (MO_c hO2 (by omega)) (by omega)) (fun f hf => by simp (disch := omega) only [mu_nc, mu_nf]) (fun a x y => by funext f; simp (disch := omega) only [mu_nc]), fun a ha => by funext f; simp (disch := omega) only [mu_nc]⟩
    · rw [if_neg e0] at e; subst e
      exact ⟨IY_o h (MO_c hO2 (by omega)) (fun f hf => by simp (disch := omega) only [mu_nc, mu_nf]) (fun a x y => by funext f; simp (disch := omega) only [mu_nc]), fun a ha => by funext f; simp (disch := omega) only [mu_nc]⟩
  · exact ⟨h, fun a _ => rfl⟩
theorem sy_bottle {M M' : xMm} {r z y : Int} (h : IY M) (hz : inR z) (hy : inR y) (q : ((0 ≤ z ∧ z < 4 ∧ 1 ≤ y ∧ y ≤ M 201 z.toNat ∧ M 172 56 < 40) ∧ r = M 172 56 ∧ M' = if (M 201 z.toNat - y) = 0 then mu (mu (mu (mu (mu (mu M 203 (M 172 56).toNat y) 204 (M 172 56).toNat (M 202 z.toNat)) 205 (M 172 56).toNat (M 172 55)) 172 56 (M 172 56 + 1)) 201 z.toNat (M 201 z.toNat - y)) 202 z.toNat 0 else mu (mu (mu (mu (mu M 203 (M 172 56).toNat y) 204 (M 172 56).toNat (M 202 z.toNat)) 205 (M 172 56).toNat (M 172 55)) 172 56 (M 172 56 + 1)) 201 z.toNat (M 201 z.toNat - y)) ∨ (¬ (0 ≤ z ∧ z < 4 ∧ 1 ≤ y ∧ y ≤ M 201 z.toNat ∧ M 172 56 < 40) ∧ r = -1 ∧ M' = M)) : IY M' ∧ ∀ a, a ≤ 171 → M' a = M a := by
  obtain ⟨h1, h2, -, h4, -, h6, h7, -, -⟩ := h.1
  rcases q with ⟨c, -, e⟩ | ⟨-, -, rfl⟩
  · have ht := h7 z.toNat (by omega)
    have hO2 := MO_1 (f := 56) (z := M 172 56 + 1) (MO_c (a := 205) (f := (M 172 56).toNat) (z := M 172 55) (MO_c (a := 204) (f := (M 172 56).toNat) (z := M 202 z.toNat) (MO_c (a := 203) (f := (M 172 56).toNat) (z := y) h.1 (by omega)) (by omega)) (by omega)) (by omega)
    by_cases e0 : M 201 z.toNat - y = 0
    · rw [if_pos e0] at e; subst e
      exact ⟨IY_o h (MO_c (MO_c hO2 (by omega)) (by omega)) (fun f hf => by simp (disch := omega) only [mu_nc, mu_nf]) (fun a x y => by funext f; simp (disch := omega) only [mu_nc]), fun a ha => by funext f; simp (disch := omega) only [mu_nc]⟩
    · rw [if_neg e0] at e; subst e
      exact ⟨IY_o h (MO_c hO2 (by omega)) (fun f hf => by simp (disch := omega) only [mu_nc, mu_nf]) (fun a x y => by funext f; simp (disch := omega) only [mu_nc]), fun a ha => by funext f; simp (disch := omega) only [mu_nc]⟩
  · exact ⟨h, fun a _ => rfl⟩
theorem sy_find {M M' : xMm} {r z y : Int} (h : IY M) (hz : inR z) (hy : inR y) (q : ((0 ≤ z ∧ z < 12 ∧ 0 ≤ y ∧ y ≤ 100000 ∧ M 172 57 < 30) ∧ r = M 172 57 ∧ M' = mu (mu (mu (mu (mu M 206 (M 172 57).toNat z) 207 (M 172 57).toNat y) 208 (M 172 57).toNat (M 172 55)) 209 (M 172 57).toNat (-1)) 172 57 (M 172 57 + 1)) ∨ (¬ (0 ≤ z ∧ z < 12 ∧ 0 ≤ y ∧ y ≤ 100000 ∧ M 172 57 < 30) ∧ r = -1 ∧ M' = M)) : IY M' ∧ ∀ a, a ≤ 171 → M' a = M a := by
  obtain ⟨-, -, h3, h4, -⟩ := h.1
  rcases q with ⟨c, -, rfl⟩ | ⟨-, -, rfl⟩
  · exact ⟨IY_o h (MO_1 (MO_c (MO_c (MO_c (MO_c h.1 (by omega)) (by omega)) (by omega)) (by omega)) (by omega)) (fun f hf => by simp (disch := omega) only [mu_nc, mu_nf]) (fun a x y => by funext f; simp (disch := omega) only [mu_nc]), fun a ha => by funext f; simp (disch := omega) only [mu_nc]⟩
  · exact ⟨h, fun a _ => rfl⟩
theorem sy_untell {M M' : xMm} {r z : Int} (h : IY M) (hz : inR z) (q : ((0 ≤ z ∧ z < M 172 57 ∧ M 209 z.toNat < 0) ∧ r = 1 ∧ M' = mu M 209 z.toNat (M 172 55)) ∨ (¬ (0 ≤ z ∧ z < M 172 57 ∧ M 209 z.toNat < 0) ∧ r = 0 ∧ M' = M)) : IY M' ∧ ∀ a, a ≤ 171 → M' a = M a := by
  obtain ⟨-, -, h3, h4, -⟩ := h.1
  rcases q with ⟨c, -, rfl⟩ | ⟨-, -, rfl⟩
  · exact ⟨IY_o h (MO_c h.1 (by omega)) (fun f hf => by simp (disch := omega) only [mu_nc, mu_nf]) (fun a x y => by funext f; simp (disch := omega) only [mu_nc]), fun a ha => by funext f; simp (disch := omega) only [mu_nc]⟩
  · exact ⟨h, fun a _ => rfl⟩
