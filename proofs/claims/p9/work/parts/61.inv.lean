/-! ===== what holds between two calls of the law ===== -/
def IX (M : xMm) : Prop := IO M ∧ JG M ∧ IC M ∧ IR M ∧ IW M ∧ IL M
def IY (M : xMm) : Prop := MO M ∧ JN M ∧ MR M ∧ MC M ∧ MWi M ∧ MK M
theorem IO_congr {M' M : xMm} (h : IO M) (e1 : ∀ f, f ≠ 7 → M' 1 f = M 1 f) (e7 : M' 1 7 = 0 ∨ M' 1 7 = 1) (e : ∀ a, 85 ≤ a → a ≤ 171 → M' a = M a) : IO M' := by
  obtain ⟨h1, h2, h3, h4, h5, -, h7, h8, h9, h10⟩ := h
  refine ⟨by rw [e1 10 (by decide)]; exact h1, by rw [e1 13 (by decide)]; exact h2, by rw [e1 15 (by decide)]; exact h3, by rw [e1 16 (by decide)]; exact h4, by rw [e1 8 (by decide)]; exact h5, e7, fun c hc => ?_, fun t ht => ?_, fun k hk => ?_, fun k hk => ?_⟩
  · rw [e (85 + c) (by omega) (by omega)]; exact h7 c hc
  · rw [e (96 + t) (by omega) (by omega)]; exact h8 t ht
  · rw [e (101 + k) (by omega) (by omega)]; exact h9 k hk
  · rw [e (142 + k) (by omega) (by omega)]; exact h10 k hk
theorem IO_1 {M : xMm} (h : IO M) {f : Nat} {z : Int} (hz : f = 7 ∧ (z = 0 ∨ z = 1) ∨ f = 8 ∧ (1 ≤ z ∧ z ≤ 100000) ∨ f = 10 ∧ (0 ≤ z ∧ z ≤ 10) ∨ f = 13 ∧ (0 ≤ z ∧ z ≤ 40) ∨ f = 15 ∧ (0 ≤ z ∧ z ≤ 30) ∨ f = 16 ∧ (0 ≤ z ∧ z ≤ 100000)) : IO (mu M 1 f z) := by
  obtain ⟨h1, h2, h3, h4, h5, h6, h7, h8, h9, h10⟩ := h
  refine ⟨?_, ?_, ?_, ?_, ?_, ?_, fun c hc => by rw [mu_nc (by omega), mu_nc (by omega), mu_nc (by omega), mu_nc (by omega), mu_nc (by omega)]; exact h7 c hc, fun t ht => by rw [mu_nc (by omega), mu_nc (by omega)]; exact h8 t ht, fun k hk => by rw [mu_nc (by omega), mu_nc (by omega), mu_nc (by omega)]; exact h9 k hk, fun k hk => by rw [mu_nc (by omega), mu_nc (by omega), mu_nc (by omega), mu_nc (by omega)]; exact h10 k hk⟩
  · by_cases e : 10 = f
    · rw [← e, mu_s]; omega
    · rw [mu_nf e]; exact h1
  · by_cases e : 13 = f
    · rw [← e, mu_s]; omega
    · rw [mu_nf e]; exact h2
  · by_cases e : 15 = f
    · rw [← e, mu_s]; omega
    · rw [mu_nf e]; exact h3
  · by_cases e : 16 = f
    · rw [← e, mu_s]; omega
    · rw [mu_nf e]; exact h4
  · by_cases e : 8 = f
    · rw [← e, mu_s]; omega
    · rw [mu_nf e]; exact h5
  · by_cases e : 7 = f
    · rw [← e, mu_s]; omega
    · rw [mu_nf e]; exact h6
/-- one of the office's small cells changes -/
theorem IO_c {M : xMm} (h : IO M) {a f : Nat} {z : Int} (hz : (85 ≤ a ∧ a ≤ 94 ∧ (f = 0 ∧ (0 ≤ z ∧ z ≤ 11) ∨ f = 1 ∧ (0 ≤ z ∧ z ≤ 9) ∨ f = 2 ∧ (0 ≤ z ∧ z ≤ 1439) ∨ f = 3 ∧ (0 ≤ z ∧ z ≤ 100) ∨ f = 4 ∧ (-1 ≤ z ∧ z ≤ 3))) ∨ (96 ≤ a ∧ a ≤ 99 ∧ (f = 0 ∧ (0 ≤ z ∧ z ≤ 1000) ∨ f = 1 ∧ inR z)) ∨ (101 ≤ a ∧ a ≤ 140 ∧ (f = 0 ∧ (0 ≤ z ∧ z ≤ 1000) ∨ f = 1 ∧ inR z ∨ f = 2 ∧ (0 ≤ z ∧ z ≤ 100000))) ∨ (142 ≤ a ∧ a ≤ 171 ∧ (f = 0 ∧ (0 ≤ z ∧ z ≤ 11) ∨ f = 1 ∧ (0 ≤ z ∧ z ≤ 100000) ∨ f = 2 ∧ (0 ≤ z ∧ z ≤ 100000) ∨ f = 3 ∧ (-1 ≤ z ∧ z ≤ 100000)))) : IO (mu M a f z) := by
  obtain ⟨h1, h2, h3, h4, h5, h6, h7, h8, h9, h10⟩ := h
  have e1 : ∀ k, mu M a f z 1 k = M 1 k := fun k => mu_nc (by omega)
  refine ⟨by rw [e1]; exact h1, by rw [e1]; exact h2, by rw [e1]; exact h3, by rw [e1]; exact h4, by rw [e1]; exact h5, by rw [e1]; exact h6, fun c hc => ?_, fun t ht => ?_, fun k hk => ?_, fun k hk => ?_⟩
  · have h := h7 c hc
    by_cases e : 85 + c = a
    · subst e
      by_cases f0 : 0 = f
      · subst f0; simp only [mu_s, mu_nf (show (1 : Nat) ≠ 0 by decide), mu_nf (show (2 : Nat) ≠ 0 by decide), mu_nf (show (3 : Nat) ≠ 0 by decide), mu_nf (show (4 : Nat) ≠ 0 by decide)]; omega
      · by_cases f1 : 1 = f
        · subst f1; simp only [mu_s, mu_nf (show (0 : Nat) ≠ 1 by decide), mu_nf (show (2 : Nat) ≠ 1 by decide), mu_nf (show (3 : Nat) ≠ 1 by decide), mu_nf (show (4 : Nat) ≠ 1 by decide)]; omega
        · by_cases f2 : 2 = f
          · subst f2; simp only [mu_s, mu_nf (show (0 : Nat) ≠ 2 by decide), mu_nf (show (1 : Nat) ≠ 2 by decide), mu_nf (show (3 : Nat) ≠ 2 by decide), mu_nf (show (4 : Nat) ≠ 2 by decide)]; omega
          · by_cases f3 : 3 = f
            · subst f3; simp only [mu_s, mu_nf (show (0 : Nat) ≠ 3 by decide), mu_nf (show (1 : Nat) ≠ 3 by decide), mu_nf (show (2 : Nat) ≠ 3 by decide), mu_nf (show (4 : Nat) ≠ 3 by decide)]; omega
            · rw [mu_nf f0, mu_nf f1, mu_nf f2, mu_nf f3]
              by_cases f4 : 4 = f
              · subst f4; rw [mu_s]; omega
              · rw [mu_nf f4]; exact h
    · rw [mu_nc e, mu_nc e, mu_nc e, mu_nc e, mu_nc e]; exact h
  · have h := h8 t ht
    by_cases e : 96 + t = a
    · subst e
      by_cases f0 : 0 = f
      · subst f0; simp only [mu_s, mu_nf (show (1 : Nat) ≠ 0 by decide)]; omega
      · rw [mu_nf f0]
        by_cases f1 : 1 = f
        · subst f1; rw [mu_s]; omega
        · rw [mu_nf f1]; exact h
    · rw [mu_nc e, mu_nc e]; exact h
  · have h := h9 k hk
    by_cases e : 101 + k = a
    · subst e
      by_cases f0 : 0 = f
      · subst f0; simp only [mu_s, mu_nf (show (1 : Nat) ≠ 0 by decide), mu_nf (show (2 : Nat) ≠ 0 by decide)]; omega
      · rw [mu_nf f0]
        by_cases f1 : 1 = f
        · subst f1; simp only [mu_s, mu_nf (show (2 : Nat) ≠ 1 by decide)]; omega
        · rw [mu_nf f1]
          by_cases f2 : 2 = f
          · subst f2; rw [mu_s]; omega
          · rw [mu_nf f2]; exact h
    · rw [mu_nc e, mu_nc e, mu_nc e]; exact h
  · have h := h10 k hk
    by_cases e : 142 + k = a
    · subst e
      by_cases f0 : 0 = f
      · subst f0; simp only [mu_s, mu_nf (show (1 : Nat) ≠ 0 by decide), mu_nf (show (2 : Nat) ≠ 0 by decide), mu_nf (show (3 : Nat) ≠ 0 by decide)]; omega
      · rw [mu_nf f0]
        by_cases f1 : 1 = f
        · subst f1; simp only [mu_s, mu_nf (show (2 : Nat) ≠ 1 by decide), mu_nf (show (3 : Nat) ≠ 1 by decide)]; omega
        · rw [mu_nf f1]
          by_cases f2 : 2 = f
          · subst f2; simp only [mu_s, mu_nf (show (3 : Nat) ≠ 2 by decide)]; omega
          · rw [mu_nf f2]
            by_cases f3 : 3 = f
            · subst f3; rw [mu_s]; omega
            · rw [mu_nf f3]; exact h
    · rw [mu_nc e, mu_nc e, mu_nc e, mu_nc e]; exact h
theorem IW_congr {M' M : xMm} (h : IW M) (e : ∀ a, 63 ≤ a → a ≤ 67 → M' a = M a) : IW M' := by
  unfold IW
  rw [e 63 (by decide) (by decide), e 64 (by decide) (by decide), e 65 (by decide) (by decide), e 66 (by decide) (by decide), e 67 (by decide) (by decide)]
  exact h
theorem IL_congr {M' M : xMm} (h : IL M) (e : ∀ a, 68 ≤ a → a ≤ 83 → M' a = M a) : IL M' := by
  obtain ⟨h1, h2, h3, h4⟩ := h
  refine ⟨by rw [e 68 (by decide) (by decide)]; exact h1, fun c hc => by rw [e 80 (by decide) (by decide)]; exact h2 c hc, fun t ht => by rw [e 81 (by decide) (by decide), e 82 (by decide) (by decide), e 83 (by decide) (by decide)]; exact h3 t ht, fun c hc t ht => by rw [e (70 + c) (by omega) (by omega)]; exact h4 c hc t ht⟩
theorem JG_congr {M' M : xMm} (h : JG M) (e : ∀ a, 2 ≤ a → a ≤ 4 → M' a = M a) : JG M' := by
  obtain ⟨h1, h2, h3⟩ := h
  exact ⟨IT_congr h1 (e 2 (by decide) (by decide)) (e 3 (by decide) (by decide)), by rw [e 4 (by decide) (by decide)]; exact h2, by rw [e 4 (by decide) (by decide)]; exact h3⟩
theorem IX_o {M' M : xMm} (h : IX M) (hO : IO M') (e : ∀ a, 2 ≤ a → a ≤ 83 → M' a = M a) : IX M' := by
  obtain ⟨-, h2, h3, h4, h5, h6⟩ := h
  exact ⟨hO, JG_congr h2 (fun a x y => e a x (by omega)), IC_congr h3 (fun a x y => e a (by omega) (by omega)), IR_congr h4 (fun a x y => e a (by omega) (by omega)), IW_congr h5 (fun a x y => e a (by omega) (by omega)), IL_congr h6 (fun a x y => e a (by omega) (by omega))⟩
theorem IX_fr {M' M : xMm} (h : IX M) (e : ∀ a, a ≤ 171 → M' a = M a) : IX M' := IX_o h (IO_congr h.1 (fun f _ => by rw [e 1 (by decide)]) (by rw [e 1 (by decide)]; exact h.1.2.2.2.2.2.1) (fun a _ y => e a y)) (fun a _ y => e a (by omega))
theorem MK_congr {M' M : xMm} (h : MK M) (e : M' 195 = M 195) : MK M' := fun i hi => by rw [e]; exact h i hi
theorem JN_congr {M' M : xMm} (h : JN M) (e : ∀ f, f ≤ 10 → M' 172 f = M 172 f) (e1 : M' 173 = M 173) (e2 : M' 174 = M 174) : JN M' := by
  unfold JN MT
  rw [e 2 (by decide), e 3 (by decide), e 4 (by decide), e 8 (by decide), e 9 (by decide), e 10 (by decide), e1, e2]
  exact h
theorem MWi_congr {M' M : xMm} (h : MWi M) (e : ∀ f, 33 ≤ f → f ≤ 35 → M' 172 f = M 172 f) : MWi M' := by
  unfold MWi
  rw [e 33 (by decide) (by decide), e 34 (by decide) (by decide), e 35 (by decide) (by decide)]
  exact h
theorem IY_o {M' M : xMm} (h : IY M) (hO : MO M') (ef : ∀ f, f ≤ 18 ∨ (33 ≤ f ∧ f ≤ 35) → M' 172 f = M 172 f) (e : ∀ a, 173 ≤ a → a ≤ 185 ∨ a = 195 → M' a = M a) : IY M' := by
  obtain ⟨-, h2, h3, h4, h5, h6⟩ := h
  exact ⟨hO, JN_congr h2 (fun f x => ef f (by omega)) (e 173 (by decide) (by decide)) (e 174 (by decide) (by decide)), MR_fr (fun a x y => e a (by omega) (by omega)) (ef 18 (by omega)) h3, MC_fr (fun a x y => e a (by omega) (by omega)) h4, MWi_congr h5 (fun f x y => ef f (by omega)), MK_congr h6 (e 195 (by decide) (by decide))⟩
theorem IY_fr {M' M : xMm} (h : IY M) (e : ∀ a, 172 ≤ a → M' a = M a) : IY M' := IY_o h (MO_fr (fun a x _ => e a (by omega)) (fun f _ => by rw [e 172 (by decide)]) h.1) (fun f _ => by rw [e 172 (by decide)]) (fun a x _ => e a (by omega))
theorem MO_1 {M : xMm} (h : MO M) {f : Nat} {z : Int} (hz : f = 24 ∧ (1 ≤ z ∧ z ≤ 100000) ∨ f = 30 ∧ (0 ≤ z ∧ z ≤ 10) ∨ f = 55 ∧ (0 ≤ z ∧ z ≤ 100000) ∨ f = 56 ∧ (0 ≤ z ∧ z ≤ 40) ∨ f = 57 ∧ (0 ≤ z ∧ z ≤ 30)) : MO (mu M 172 f z) := by
  obtain ⟨h1, h2, h3, h4, h5, h6, h7, h8, h9⟩ := h
  refine ⟨?_, ?_, ?_, ?_, ?_, fun c hc => by rw [mu_nc (by omega), mu_nc (by omega), mu_nc (by omega), mu_nc (by omega), mu_nc (by omega)]; exact h6 c hc, fun t ht => by rw [mu_nc (by omega), mu_nc (by omega)]; exact h7 t ht, fun k hk => by rw [mu_nc (by omega), mu_nc (by omega), mu_nc (by omega)]; exact h8 k hk, fun k hk => by rw [mu_nc (by omega), mu_nc (by omega), mu_nc (by omega), mu_nc (by omega)]; exact h9 k hk⟩
  · by_cases e : 30 = f
    · rw [← e, mu_s]; omega
    · rw [mu_nf e]; exact h1
  · by_cases e : 56 = f
    · rw [← e, mu_s]; omega
    · rw [mu_nf e]; exact h2
  · by_cases e : 57 = f
    · rw [← e, mu_s]; omega
    · rw [mu_nf e]; exact h3
  · by_cases e : 55 = f
    · rw [← e, mu_s]; omega
    · rw [mu_nf e]; exact h4
  · by_cases e : 24 = f
    · rw [← e, mu_s]; omega
    · rw [mu_nf e]; exact h5
/-- one of the model's office rows changes -/
theorem MO_c {M : xMm} (h : MO M) {a f : Nat} {z : Int} (hz : a = 186 ∧ (0 ≤ z ∧ z ≤ 11) ∨ a = 187 ∧ (0 ≤ z ∧ z ≤ 9) ∨ a = 188 ∧ (0 ≤ z ∧ z ≤ 1439) ∨ a = 189 ∧ (0 ≤ z ∧ z ≤ 100) ∨ a = 190 ∧ (-1 ≤ z ∧ z ≤ 3) ∨ a = 201 ∧ (0 ≤ z ∧ z ≤ 1000) ∨ a = 202 ∧ inR z ∨ a = 203 ∧ (0 ≤ z ∧ z ≤ 1000) ∨ a = 204 ∧ inR z ∨ a = 205 ∧ (0 ≤ z ∧ z ≤ 100000) ∨ a = 206 ∧ (0 ≤ z ∧ z ≤ 11) ∨ a = 207 ∧ (0 ≤ z ∧ z ≤ 100000) ∨ a = 208 ∧ (0 ≤ z ∧ z ≤ 100000) ∨ a = 209 ∧ (-1 ≤ z ∧ z ≤ 100000)) : MO (mu M a f z) := by
  obtain ⟨h1, h2, h3, h4, h5, h6, h7, h8, h9⟩ := h
  have e1 : ∀ k, mu M a f z 172 k = M 172 k := fun k => mu_nc (by omega)
  have key : ∀ (c j : Nat) (lo hi : Int), (lo ≤ M c j ∧ M c j ≤ hi) → (c = a → lo ≤ z ∧ z ≤ hi) → lo ≤ mu M a f z c j ∧ mu M a f z c j ≤ hi := fun c j lo hi hm hz2 => by
    by_cases ec : c = a
    · by_cases ej : j = f
      · subst ec; subst ej; rw [mu_s]; exact hz2 rfl
      · rw [mu_nf ej]; exact hm
    · rw [mu_nc ec]; exact hm
  refine ⟨by rw [e1]; exact h1, by rw [e1]; exact h2, by rw [e1]; exact h3, by rw [e1]; exact h4, by rw [e1]; exact h5, fun c hc => ?_, fun t ht => ?_, fun k hk => ?_, fun k hk => ?_⟩
  · obtain ⟨a1, a2, a3, a4, a5⟩ := h6 c hc
    exact ⟨key _ _ _ _ a1 (fun e => by omega), key _ _ _ _ a2 (fun e => by omega), key _ _ _ _ a3 (fun e => by omega), key _ _ _ _ a4 (fun e => by omega), key _ _ _ _ a5 (fun e => by omega)⟩
  · obtain ⟨a1, a2⟩ := h7 t ht
    exact ⟨key _ _ _ _ a1 (fun e => by omega), key _ _ _ _ a2 (fun e => by omega)⟩
  · obtain ⟨a1, a2, a3⟩ := h8 k hk
    exact ⟨key _ _ _ _ a1 (fun e => by omega), key _ _ _ _ a2 (fun e => by omega), key _ _ _ _ a3 (fun e => by omega)⟩
  · obtain ⟨a1, a2, a3, a4⟩ := h9 k hk
    exact ⟨key _ _ _ _ a1 (fun e => by omega), key _ _ _ _ a2 (fun e => by omega), key _ _ _ _ a3 (fun e => by omega), key _ _ _ _ a4 (fun e => by omega)⟩
theorem bOr_r (x y : Int) : inR (bOr x y) := xt_int _
/-- the start -/
theorem IX_start {M : xMm} (hC : IC M) (e : ∀ a, a ≠ 60 → a ≠ 61 → a ≠ 62 → a ≤ 171 → M a = m0c a) : IX M := by
  have e1 := e 1 (by decide) (by decide) (by decide) (by decide)
  refine ⟨⟨?_, ?_, ?_, ?_, ?_, ?_, fun c hc => ?_, fun t ht => ?_, fun k hk => ?_, fun k hk => ?_⟩, ⟨⟨?_, fun j => ?_⟩, ?_, ?_⟩, hC, ⟨fun q hq => ?_, fun i hi => ⟨⟨?_, ?_, ?_, ?_⟩, fun k hk => ⟨?_, ?_⟩⟩⟩, ⟨⟨?_, ?_, ?_, ?_⟩, fun j hj => ⟨?_, ?_, ?_, ?_⟩⟩, ⟨⟨?_, ?_, ?_⟩, fun c hc => ?_, fun t ht => ⟨?_, ?_, ?_⟩, fun c hc t ht => ?_⟩⟩
  · rw [e1]; decide
  · rw [e1]; decide
  · rw [e1]; decide
  · rw [e1]; decide
  · rw [e1]; decide
  · rw [e1]; decide
  · rw [e (85 + c) (by omega) (by omega) (by omega) (by omega)]
    have e4 : m0c (85 + c) 4 = -1 := by unfold m0c; rw [if_neg (by omega), if_neg (by omega), if_neg (by omega), if_pos (by omega)]
    have ef : ∀ f, f < 4 → m0c (85 + c) f = 0 := fun f hf => by unfold m0c; rw [if_neg (by omega), if_neg (by omega), if_neg (by omega), if_neg (by omega), if_neg (by omega)]
    rw [e4, ef 0 (by decide), ef 1 (by decide), ef 2 (by decide), ef 3 (by decide)]; decide
  · rw [e (96 + t) (by omega) (by omega) (by omega) (by omega)]
    have ef : ∀ f, m0c (96 + t) f = 0 := fun f => by unfold m0c; rw [if_neg (by omega), if_neg (by omega), if_neg (by omega), if_neg (by omega), if_neg (by omega)]
    rw [ef, ef]; decide
  · rw [e (101 + k) (by omega) (by omega) (by omega) (by omega)]
    have ef : ∀ f, m0c (101 + k) f = 0 := fun f => by unfold m0c; rw [if_neg (by omega), if_neg (by omega), if_neg (by omega), if_neg (by omega), if_neg (by omega)]
    rw [ef, ef, ef]; decide
  · rw [e (142 + k) (by omega) (by omega) (by omega) (by omega)]
    have e4 : m0c (142 + k) 3 = -1 := by unfold m0c; rw [if_neg (by omega), if_neg (by omega), if_neg (by omega), if_neg (by omega), if_pos (by omega)]
    have ef : ∀ f, f < 3 → m0c (142 + k) f = 0 := fun f hf => by unfold m0c; rw [if_neg (by omega), if_neg (by omega), if_neg (by omega), if_neg (by omega), if_neg (by omega)]
    rw [e4, ef 0 (by decide), ef 1 (by decide), ef 2 (by decide)]; decide
  all_goals try (rw [e _ (by omega) (by omega) (by omega) (by omega)])
  all_goals unfold m0c
  all_goals repeat (first | rw [if_neg (by omega)])
  all_goals decide
theorem IY_start {M0 M : xMm} (h0 : ∀ a, 172 ≤ a → ∀ f, M0 a f = 0) (e : M = wM (mu (mu M0 172 5 (-1)) 172 24 1000) 182 24) : IY M := by
  have ea : ∀ a f, 173 ≤ a → a ≠ 182 → M a f = 0 := fun a f h1 h2 => by rw [e, wM_n h2, mu_nc (by omega), mu_nc (by omega)]; exact h0 a (by omega) f
  have ef : ∀ f, f ≠ 5 → f ≠ 24 → M 172 f = 0 := fun f h1 h2 => by rw [e, wM_n (by decide), mu_nf h2, mu_nf h1]; exact h0 172 (by decide) f
  have e24 : M 172 24 = 1000 := by rw [e, wM_n (by decide), mu_s]
  have e182 : ∀ f, M 182 f = -1 ∨ M 182 f = 0 := fun f => by
    rw [e]; unfold wM
    split
    · exact Or.inl rfl
    · rw [mu_nc (by decide), mu_nc (by decide)]; exact Or.inr (h0 182 (by decide) f)
  refine ⟨⟨?_, ?_, ?_, ?_, ?_, fun c hc => ?_, fun t ht => ?_, fun k hk => ?_, fun k hk => ?_⟩, ⟨⟨?_, fun j => ?_, fun j => ?_⟩, ?_, ?_, ?_, ?_, ?_⟩, ⟨?_, fun k hk => ?_, fun t ht => ?_, fun t ht => ⟨?_, ?_, ?_⟩, fun j hj => ⟨?_, ?_⟩, fun t k ht hk => ?_⟩, ⟨fun h hh => ?_, fun s hs => ?_, ?_, ?_⟩, ⟨?_, ?_, ?_⟩, fun i hi => ?_⟩
  all_goals first
    | (rw [e24]; decide)
    | exact ea _ _ (by decide) (by decide)
    | (simp (disch := decide) only [ef, ea]; decide)
    | (have h9 := e182 h; omega)
    | (rw [ea 177 _ (by decide) (by decide)] at hk; exfalso; omega)
    | (left; simp (disch := decide) only [ea]; decide)
