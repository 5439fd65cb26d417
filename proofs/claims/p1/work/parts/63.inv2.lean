/-! ===== what holds at the start ===== -/
theorem FX_start {M4 M12 : xMm} (e4 : ∀ a, a ≠ 60 → a ≠ 61 → a ≠ 62 → M4 a = m0c a) (q12 : M12 = wM (mu (mu M4 172 5 (-1)) 172 24 1000) 182 24) : FX 5 M12 := by
  have ea : ∀ a f, a ≤ 59 → M12 a f = m0c a f := fun a f h => by rw [q12, wM_n (by omega), mu_nc (by omega), mu_nc (by omega), e4 a (by omega) (by omega) (by omega)]
  unfold FX
  rw [ea 1 7 (by decide), ea 1 8 (by decide), ea 1 10 (by decide), ea 1 13 (by decide), ea 1 15 (by decide), ea 1 16 (by decide), ea 2 1 (by decide), ea 4 6 (by decide), ea 4 7 (by decide), ea 5 1 (by decide)]
  decide
theorem FY_start {M4 M12 : xMm} (z4 : ∀ a, 172 ≤ a → ∀ f, M4 a f = 0) (q12 : M12 = wM (mu (mu M4 172 5 (-1)) 172 24 1000) 182 24) : FY M12 := by
  have eb : ∀ f, f ≠ 5 → f ≠ 24 → M12 172 f = 0 := fun f h1 h2 => by rw [q12, wM_n (by decide), mu_nf h2, mu_nf h1]; exact z4 172 (by decide) f
  have e5 : M12 172 5 = -1 := by rw [q12, wM_n (by decide), mu_nf (by decide), mu_s]
  have e24 : M12 172 24 = 1000 := by rw [q12, wM_n (by decide), mu_s]
  have e180 : ∀ f, M12 180 f = 0 := fun f => by rw [q12, wM_n (by decide), mu_nc (by decide), mu_nc (by decide)]; exact z4 180 (by decide) f
  exact ⟨⟨eb 2 (by decide) (by decide), eb 4 (by decide) (by decide), e5, e24, eb 30 (by decide) (by decide)⟩, ⟨eb 55 (by decide) (by decide), eb 56 (by decide) (by decide), eb 57 (by decide) (by decide)⟩, e180 _⟩
/-- what holds between two calls of the law -/
abbrev IZ (tt : Nat) (M : xMm) : Prop := xTt tt ∧ IX M ∧ IY M ∧ REL M
abbrev rmL : Room := { frames := 9, cells := 600000, slots := 7302250, locals := 338 }
