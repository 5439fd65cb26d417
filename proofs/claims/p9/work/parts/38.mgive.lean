/-! ===== the loading that is least: numbers alone ===== -/
def zCnt (f : Nat → Int) (t : Int) : Nat → Int
  | 0 => 0
  | c + 1 => zCnt f t c + (if f c = t then 1 else 0)
def zTot (C f : Nat → Int) : Nat → Int
  | 0 => 0
  | c + 1 => zTot C f c + C (9 * c + (f c).toNat)
def zSp (p f : Nat → Int) : Nat → Int
  | 0 => 0
  | c + 1 => zSp p f c + p (f c).toNat
def zSt (h : Nat → Int) : Nat → Int
  | 0 => 0
  | n + 1 => zSt h n + h n
def zNs (fa : Nat → Int) : Nat → Int
  | 0 => 0
  | n + 1 => zNs fa n + (if fa n < 1000000000000000 then 1 else 0)
def zRx (lv : Nat → Int) : Nat → Nat → Prop
  | 0, t => lv t = -1
  | k + 1, t => 0 ≤ lv t ∧ zRx lv k (lv t).toNat
theorem zSt_eq {g h : Nat → Int} : ∀ n : Nat, (∀ t, t < n → g t = h t) → zSt g n = zSt h n
  | 0, _ => rfl
  | n + 1, e => by simp only [zSt]; rw [zSt_eq n (fun t ht => e t (by omega)), e n (by omega)]
theorem zSt_le {g h : Nat → Int} : ∀ n : Nat, (∀ t, t < n → g t ≤ h t) → zSt g n ≤ zSt h n
  | 0, _ => by simp [zSt]
  | n + 1, e => by
    have h1 := zSt_le n (fun t ht => e t (by omega))
    have h2 := e n (by omega)
    simp only [zSt]
    omega
theorem zSt_nn {h : Nat → Int} : ∀ n : Nat, (∀ t, t < n → 0 ≤ h t) → 0 ≤ zSt h n
  | 0, _ => by simp [zSt]
  | n + 1, e => by
    have h1 := zSt_nn n (fun t ht => e t (by omega))
    have h2 := e n (by omega)
    simp only [zSt]
    omega
theorem zSt_lt {g h : Nat → Int} {t : Nat} (ho : ∀ x, x ≠ t → g x = h x) (ht : g t < h t) : ∀ n : Nat, t < n → zSt g n < zSt h n
  | 0, hn => by omega
  | n + 1, hn => by
    simp only [zSt]
    by_cases e : t = n
    · subst e
      rw [zSt_eq t (fun x hx => ho x (by omega))]
      omega
    · have ih := zSt_lt ho ht n (by omega)
      rw [ho n (by omega)]
      omega
theorem zSt_zero {h : Nat → Int} : ∀ n : Nat, (∀ t, t < n → h t = 0) → zSt h n = 0
  | 0, _ => rfl
  | n + 1, e => by simp only [zSt]; rw [zSt_zero n (fun t ht => e t (by omega)), e n (by omega)]; rfl
theorem zSt_add (g h : Nat → Int) : ∀ n : Nat, zSt (fun t => g t + h t) n = zSt g n + zSt h n
  | 0 => rfl
  | n + 1 => by simp only [zSt]; rw [zSt_add g h n]; omega
theorem zSt_one (p : Nat → Int) {x : Int} (h0 : 0 ≤ x) : ∀ n : Nat, x < (n : Int) → zSt (fun t => p t * (if x = (t : Int) then 1 else 0)) n = p x.toNat
  | 0, h1 => by omega
  | n + 1, h1 => by
    simp only [zSt]
    by_cases e : x = (n : Int)
    · rw [zSt_zero n (fun t ht => by rw [if_neg (by omega)]; exact Int.mul_zero _), if_pos e, e, Int.mul_one, Int.zero_add, Int.toNat_natCast]
    · rw [zSt_one p h0 n (by omega), if_neg e, Int.mul_zero, Int.add_zero]
theorem zSp_eq (p : Nat → Int) {f : Nat → Int} {n : Nat} : ∀ c : Nat, (∀ d, d < c → 0 ≤ f d ∧ f d < (n : Int)) → zSp p f c = zSt (fun t => p t * zCnt f t c) n
  | 0, _ => by
    simp only [zSp, zCnt]
    rw [zSt_zero n (fun t _ => Int.mul_zero _)]
  | c + 1, h => by
    simp only [zSp, zCnt]
    rw [zSp_eq p c (fun d hd => h d (by omega)), ← zSt_one p (h c (by omega)).1 n (h c (by omega)).2, ← zSt_add]
    exact zSt_eq n (fun t _ => (Int.mul_add _ _ _).symm)
theorem zCnt_nn (f : Nat → Int) (t : Int) : ∀ c : Nat, 0 ≤ zCnt f t c
  | 0 => by simp [zCnt]
  | c + 1 => by
    have := zCnt_nn f t c
    simp only [zCnt]
    split <;> omega
theorem zCnt_le (f : Nat → Int) (t : Int) : ∀ c : Nat, zCnt f t c ≤ c
  | 0 => by simp [zCnt]
  | c + 1 => by
    have := zCnt_le f t c
    simp only [zCnt]
    split <;> omega
theorem zCnt_mono (f : Nat → Int) (t : Int) {c : Nat} : ∀ k : Nat, zCnt f t c ≤ zCnt f t (c + k)
  | 0 => by simp
  | k + 1 => by
    have := zCnt_mono f t (c := c) k
    show zCnt f t c ≤ zCnt f t (c + k) + _
    split <;> omega
theorem zCnt_eq {f g : Nat → Int} (t : Int) : ∀ c : Nat, (∀ d, d < c → f d = g d) → zCnt f t c = zCnt g t c
  | 0, _ => rfl
  | c + 1, h => by simp only [zCnt]; rw [zCnt_eq t c (fun d hd => h d (by omega)), h c (by omega)]
theorem zTot_eq {C f g : Nat → Int} : ∀ c : Nat, (∀ d, d < c → f d = g d) → zTot C f c = zTot C g c
  | 0, _ => rfl
  | c + 1, h => by simp only [zTot]; rw [zTot_eq c (fun d hd => h d (by omega)), h c (by omega)]
theorem zTot_C {C C' f : Nat → Int} : ∀ c : Nat, (∀ d, d < c → C (9 * d + (f d).toNat) = C' (9 * d + (f d).toNat)) → zTot C f c = zTot C' f c
  | 0, _ => rfl
  | c + 1, h => by simp only [zTot]; rw [zTot_C c (fun d hd => h d (by omega)), h c (by omega)]
theorem zCnt_up {f g : Nat → Int} {d : Nat} {x : Int} (hd : g d = x) (ho : ∀ e, e ≠ d → g e = f e) (t : Int) : ∀ c : Nat, d < c → zCnt g t c = zCnt f t c - (if f d = t then 1 else 0) + (if x = t then 1 else 0)
  | 0, h => by omega
  | c + 1, h => by
    simp only [zCnt]
    by_cases e : d = c
    · subst e
      rw [zCnt_eq t d (fun y hy => ho y (by omega)), hd]
      omega
    · rw [zCnt_up hd ho t c (by omega), ho c (by omega)]
      omega
theorem zTot_up {C f g : Nat → Int} {d : Nat} {x : Int} (hd : g d = x) (ho : ∀ e, e ≠ d → g e = f e) : ∀ c : Nat, d < c → zTot C g c = zTot C f c - C (9 * d + (f d).toNat) + C (9 * d + x.toNat)
  | 0, h => by omega
  | c + 1, h => by
    simp only [zTot]
    by_cases e : d = c
    · subst e
      rw [zTot_eq d (fun y hy => ho y (by omega)), hd]
      omega
    · rw [zTot_up hd ho c (by omega), ho c (by omega)]
      omega
theorem zNs_r (fa : Nat → Int) : ∀ n : Nat, 0 ≤ zNs fa n ∧ zNs fa n ≤ n
  | 0 => by simp [zNs]
  | n + 1 => by
    have := zNs_r fa n
    simp only [zNs]
    split <;> omega
theorem zNs_pos {fa : Nat → Int} {t : Nat} (h : fa t < 1000000000000000) : ∀ n : Nat, t < n → 1 ≤ zNs fa n
  | 0, hn => by omega
  | n + 1, hn => by
    have h0 := zNs_r fa n
    simp only [zNs]
    by_cases e : t = n
    · subst e
      rw [if_pos h]
      omega
    · have := zNs_pos h n (by omega)
      split <;> omega
theorem zNs_mono {fa fb : Nat → Int} (h : ∀ x, fb x ≤ fa x) : ∀ n : Nat, zNs fa n ≤ zNs fb n
  | 0 => by simp [zNs]
  | n + 1 => by
    have h1 := zNs_mono h n
    have h2 := h n
    simp only [zNs]
    split <;> split <;> omega
theorem zNs_step {fa fb : Nat → Int} {t : Nat} (h : ∀ x, fb x ≤ fa x) (h1 : ¬ fa t < 1000000000000000) (h2 : fb t < 1000000000000000) : ∀ n : Nat, t < n → zNs fa n + 1 ≤ zNs fb n
  | 0, hn => by omega
  | n + 1, hn => by
    simp only [zNs]
    by_cases e : t = n
    · subst e
      have h3 := zNs_mono h t
      rw [if_neg h1, if_pos h2]
      omega
    · have h3 := zNs_step h h1 h2 n (by omega)
      have h4 := h n
      split <;> split <;> omega
theorem zRx_one {lv : Nat → Int} : ∀ k k' t : Nat, zRx lv k t → zRx lv k' t → k = k'
  | 0, 0, _, _, _ => rfl
  | 0, k' + 1, t, h1, h2 => by have := h2.1; simp only [zRx] at h1; omega
  | k + 1, 0, t, h1, h2 => by have := h1.1; simp only [zRx] at h2; omega
  | k + 1, k' + 1, t, h1, h2 => by rw [zRx_one k k' _ h1.2 h2.2]
/-- the costs: within bounds, or none -/
def zCk (n : Nat) (C : Nat → Int) : Prop := ∀ d t : Nat, d < 10 → t < n → (0 ≤ C (9 * d + t) ∧ C (9 * d + t) ≤ 1100000000) ∨ C (9 * d + t) = 1000000000000000
/-- a loading of the first c churns that may be -/
def zFA (n : Nat) (C ro a : Nat → Int) (c : Nat) : Prop := (∀ d, d < c → (0 ≤ a d ∧ a d < (n : Int)) ∧ C (9 * d + (a d).toNat) < 1000000000000000) ∧ ∀ t : Nat, t < n → zCnt a t c ≤ ro t
/-- a loading with its prices: so it is least -/
def zDU (n : Nat) (C ro p nw on : Nat → Int) (c : Nat) : Prop := (∀ t : Nat, t < n → (0 ≤ p t ∧ p t ≤ 10000000000 * (c : Int)) ∧ (on t = zCnt nw t c ∧ on t ≤ ro t) ∧ (0 < p t → on t = ro t)) ∧ ∀ d, d < c → (0 ≤ nw d ∧ nw d < (n : Int)) ∧ C (9 * d + (nw d).toNat) < 1000000000000000 ∧ ∀ t : Nat, t < n → C (9 * d + t) < 1000000000000000 → C (9 * d + (nw d).toNat) + p (nw d).toNat ≤ C (9 * d + t) + p t
theorem zOpt {n : Nat} {C ro p nw on a : Nat → Int} {c : Nat} (hD : zDU n C ro p nw on c) (hA : zFA n C ro a c) : zTot C nw c ≤ zTot C a c := by
  obtain ⟨h1, h2⟩ := hD
  obtain ⟨g1, g2⟩ := hA
  have k1 : ∀ k : Nat, k ≤ c → zTot C nw k + zSp p nw k ≤ zTot C a k + zSp p a k := by
    intro k
    induction k with
    | zero => intro _; simp [zTot, zSp]
    | succ k ih =>
      intro hk
      have i1 := ih (by omega)
      have i2 := (h2 k (by omega)).2.2 (a k).toNat (by have := (g1 k (by omega)).1; omega) (g1 k (by omega)).2
      simp only [zTot, zSp]
      omega
  have k2 := k1 c (Nat.le_refl c)
  rw [zSp_eq p c (fun d hd => (h2 d hd).1), zSp_eq p c (fun d hd => (g1 d hd).1)] at k2
  have k3 : zSt (fun t => p t * zCnt a t c) n ≤ zSt (fun t => p t * zCnt nw t c) n := by
    refine zSt_le n (fun t ht => ?_)
    obtain ⟨⟨i1, i2⟩, ⟨i3, i4⟩, i5⟩ := h1 t ht
    by_cases e : p t = 0
    · rw [e, Int.zero_mul, Int.zero_mul]; exact Int.le_refl 0
    · exact Int.mul_le_mul_of_nonneg_left (by have := i5 (by omega); have := g2 t ht; omega) i1
  omega
/-- the chains, while they are sought -/
def zIN (n : Nat) (C p nw fa co lv : Nat → Int) (c : Nat) : Prop := ∀ t : Nat, t < n → (0 ≤ fa t + p t ∧ fa t ≤ C (9 * c + t) ∧ (fa t = 1000000000000000 ∨ fa t ≤ 1100000000 * zNs fa n)) ∧ ((lv t = -1 ∧ co t = (c : Int) ∧ fa t = C (9 * c + t)) ∨ ((0 ≤ lv t ∧ lv t < (n : Int)) ∧ (0 ≤ co t ∧ co t < (c : Int)) ∧ nw (co t).toNat = lv t ∧ C (9 * (co t).toNat + t) < 1000000000000000 ∧ fa (lv t).toNat < 1000000000000000 ∧ fa (lv t).toNat + C (9 * (co t).toNat + t) - C (9 * (co t).toNat + (lv t).toNat) ≤ fa t)) ∧ ∃ k, zRx lv k t
theorem zPhi {n : Nat} {C ro p nw on fa co lv : Nat → Int} {c : Nat} (hD : zDU n C ro p nw on c) (hI : zIN n C p nw fa co lv c) {u : Nat} (hu : u < n) (h0 : 0 ≤ lv u) : (lv u < (n : Int)) ∧ fa (lv u).toNat + p (lv u).toNat ≤ fa u + p u := by
  rcases (hI u hu).2.1 with ⟨e, -, -⟩ | ⟨h1, h2, h3, h4, h5, h6⟩
  · omega
  · refine ⟨h1.2, ?_⟩
    have i1 := (hD.2 (co u).toNat (by omega)).2.2 u hu h4
    rw [h3] at i1
    omega
theorem zRx_keep {n : Nat} {C ro p nw on fa co lv lw : Nat → Int} {c t : Nat} (hD : zDU n C ro p nw on c) (hI : zIN n C p nw fa co lv c) (ho : ∀ x, x ≠ t → lw x = lv x) : ∀ k u : Nat, u < n → zRx lv k u → fa u + p u < fa t + p t → zRx lw k u
  | 0, u, hu, hr, hl => by
    have e : u ≠ t := by rintro rfl; omega
    simp only [zRx] at hr ⊢
    rw [ho u e]; exact hr
  | k + 1, u, hu, hr, hl => by
    have e : u ≠ t := by rintro rfl; omega
    obtain ⟨r1, r2⟩ := hr
    have h1 := zPhi hD hI hu r1
    have h2 := zRx_keep hD hI ho k (lv u).toNat (by omega) r2 (by omega)
    refine ⟨by rw [ho u e]; exact r1, ?_⟩
    rw [ho u e]; exact h2
theorem zRx_all {lv lw : Nat → Int} {t : Nat} (ho : ∀ x, x ≠ t → lw x = lv x) (ht : ∃ k, zRx lw k t) : ∀ k u : Nat, zRx lv k u → ∃ k', zRx lw k' u
  | 0, u, hr => by
    by_cases e : u = t
    · subst e; exact ht
    · exact ⟨0, by simp only [zRx] at hr ⊢; rw [ho u e]; exact hr⟩
  | k + 1, u, hr => by
    by_cases e : u = t
    · subst e; exact ht
    · obtain ⟨k', hk⟩ := zRx_all ho ht k _ hr.2
      refine ⟨k' + 1, by rw [ho u e]; exact hr.1, ?_⟩
      rw [ho u e]; exact hk
/-- a chain gets shorter -/
theorem zIN_up {n : Nat} {C ro p nw on fa co lv fb cb lw : Nat → Int} {c d t : Nat} {v : Int} (hC : zCk n C) (hc : c < 10) (hD : zDU n C ro p nw on c) (hI : zIN n C p nw fa co lv c) (hd : d < c) (hf : fa (nw d).toNat < 1000000000000000) (ht : t < n) (hn : (t : Int) ≠ nw d) (hct : C (9 * d + t) < 1000000000000000)
    (hv : v = fa (nw d).toNat + C (9 * d + t) - C (9 * d + (nw d).toNat)) (hl : v < fa t) (f1 : fb t = v) (f2 : ∀ x, x ≠ t → fb x = fa x) (c1 : cb t = (d : Int)) (c2 : ∀ x, x ≠ t → cb x = co x) (l1 : lw t = nw d) (l2 : ∀ x, x ≠ t → lw x = lv x) :
    zIN n C p nw fb cb lw c ∧ zSt (fun x => fb x + p x) n < zSt (fun x => fa x + p x) n := by
  obtain ⟨⟨d1, d2⟩, d3, d4⟩ := hD.2 d hd
  have d5 := d4 t ht hct
  have ef : fb (nw d).toNat = fa (nw d).toNat := f2 _ (by omega)
  have hfr := (hI (nw d).toNat (by omega)).1
  have hft := (hI t ht).1
  have cf := hC d (nw d).toNat (by omega) (by omega)
  have ctt := hC d t (by omega) ht
  have hle : ∀ x, fb x ≤ fa x := fun x => by
    by_cases e : x = t
    · subst e; omega
    · rw [f2 x e]; exact Int.le_refl _
  have hns := zNs_mono hle n
  have hphi : fa (nw d).toNat + p (nw d).toNat < fa t + p t := by omega
  have hrt : ∃ k, zRx lw k t := by
    obtain ⟨k, hk⟩ := (hI (nw d).toNat (by omega)).2.2
    refine ⟨k + 1, by omega, ?_⟩
    rw [l1]
    exact zRx_keep hD hI l2 k _ (by omega) hk hphi
  refine ⟨fun x hx => ?_, zSt_lt (t := t) (fun y hy => by show fb y + p y = fa y + p y; rw [f2 y hy]) (by show fb t + p t < fa t + p t; omega) n ht⟩
  by_cases e : x = t
  · subst e
    refine ⟨⟨by omega, by omega, Or.inr ?_⟩, Or.inr ⟨by omega, by omega, ?_, ?_, ?_, ?_⟩, hrt⟩
    · rcases hft.2.2 with h | h
      · have := zNs_step hle (t := x) (by omega) (by omega) n ht
        omega
      · omega
    · rw [c1, Int.toNat_natCast, l1]
    · rw [c1, Int.toNat_natCast]; exact hct
    · rw [l1, ef]; exact hf
    · rw [l1, c1, Int.toNat_natCast, ef]; omega
  · obtain ⟨i1, i2, i3⟩ := hI x hx
    rw [f2 x e, l2 x e, c2 x e]
    refine ⟨⟨i1.1, i1.2.1, by omega⟩, ?_, ?_⟩
    · rcases i2 with h | ⟨h1, h2, h3, h4, h5, h6⟩
      · exact Or.inl h
      · have := hle (lv x).toNat
        exact Or.inr ⟨h1, h2, h3, h4, by omega, by omega⟩
    · obtain ⟨k, hk⟩ := i3
      exact zRx_all l2 hrt k x hk
/-- nothing gets shorter -/
def zCV (n : Nat) (C nw fa : Nat → Int) (d : Nat) : Prop := fa (nw d).toNat < 1000000000000000 → ∀ t : Nat, t < n → C (9 * d + t) < 1000000000000000 → fa t ≤ fa (nw d).toNat + C (9 * d + t) - C (9 * d + (nw d).toNat)
/-- no room is found: there is none -/
theorem zInf {n : Nat} {C ro p nw on fa co lv a : Nat → Int} {c : Nat} (hn : n ≤ 9) (hC : zCk n C) (hc : c < 10) (hD : zDU n C ro p nw on c) (hI : zIN n C p nw fa co lv c) (hV : ∀ d, d < c → zCV n C nw fa d) (hB : ∀ t : Nat, t < n → on t < ro t → ¬ fa t < 1000000000000000) (hA : zFA n C ro a (c + 1)) : False := by
  obtain ⟨g1, g2⟩ := hA
  have hns := zNs_r fa n
  have key : ∀ k : Nat, k ≤ c → zSp (fun t => if fa t < 1000000000000000 then 1 else 0) nw k ≤ zSp (fun t => if fa t < 1000000000000000 then 1 else 0) a k := by
    intro k
    induction k with
    | zero => intro _; simp [zSp]
    | succ k ih =>
      intro hk
      have i1 := ih (by omega)
      obtain ⟨⟨j1, j2⟩, j3⟩ := g1 k (by omega)
      obtain ⟨⟨q1, q2⟩, q3, q4⟩ := hD.2 k (by omega)
      have v1 := hV k (by omega)
      have b1 := (hI (nw k).toNat (by omega)).1
      have cf := hC k (nw k).toNat (by omega) (by omega)
      have ca := hC k (a k).toNat (by omega) (by omega)
      simp only [zSp]
      by_cases e1 : fa (nw k).toNat < 1000000000000000
      · have v2 := v1 e1 (a k).toNat (by omega) j3
        rw [if_pos e1, if_pos (by omega)]
        omega
      · rw [if_neg e1]
        split <;> omega
  have k0 := key c (Nat.le_refl c)
  obtain ⟨⟨j1, j2⟩, j3⟩ := g1 c (by omega)
  have ce : fa (a c).toNat < 1000000000000000 := by have := (hI (a c).toNat (by omega)).1; omega
  have k1 : zSp (fun t => if fa t < 1000000000000000 then 1 else 0) a (c + 1) = zSp (fun t => if fa t < 1000000000000000 then 1 else 0) a c + 1 := by
    simp only [zSp]
    rw [if_pos ce]
  rw [zSp_eq _ (c + 1) (fun d hd => (g1 d hd).1)] at k1
  rw [zSp_eq (n := n) _ c (fun d hd => (hD.2 d hd).1)] at k0
  have k2 : zSt (fun t => (if fa t < 1000000000000000 then 1 else 0) * zCnt a t (c + 1)) n ≤ zSt (fun t => (if fa t < 1000000000000000 then 1 else 0) * zCnt nw t c) n := by
    refine zSt_le n (fun t ht => ?_)
    by_cases e : fa t < 1000000000000000
    · have h1 := hB t ht
      have h2 := (hD.1 t ht).2.1
      have h3 := g2 t ht
      rw [if_pos e]
      omega
    · rw [if_neg e]; omega
  omega
/-- the walk back over a chain -/
def zWK (n : Nat) (C p nw fa co lv : Nat → Int) (c bs : Nat) (n1 : Nat → Int) (t k : Nat) : Prop := t < n ∧ zRx lv k t ∧ fa t + p t ≤ fa bs ∧ fa t < 1000000000000000 ∧ (∀ x : Nat, zCnt n1 x c = zCnt nw x c + (if x = bs then 1 else 0) - (if x = t then 1 else 0)) ∧ zTot C n1 c = zTot C nw c + fa bs - fa t
  ∧ ∀ d, d < c → n1 d = nw d ∨ ((0 ≤ n1 d ∧ n1 d < (n : Int)) ∧ co (n1 d).toNat = (d : Int) ∧ lv (n1 d).toNat = nw d ∧ fa (n1 d).toNat + p (n1 d).toNat ≤ fa bs ∧ ∃ k', k < k' ∧ zRx lv k' (n1 d).toNat)
theorem zWK_0 {n : Nat} {C ro p nw on fa co lv : Nat → Int} {c bs : Nat} (hD : zDU n C ro p nw on c) (hI : zIN n C p nw fa co lv c) (hb : bs < n) (hr : on bs < ro bs) (hf : fa bs < 1000000000000000) : ∃ k, zWK n C p nw fa co lv c bs nw bs k := by
  obtain ⟨k, hk⟩ := (hI bs hb).2.2
  have h1 := hD.1 bs hb
  exact ⟨k, hb, hk, by omega, hf, fun x => by omega, by omega, fun d _ => Or.inl rfl⟩
theorem zWK_s {n : Nat} {C ro p nw on fa co lv n1 n2 : Nat → Int} {c bs t k : Nat} (hD : zDU n C ro p nw on c) (hI : zIN n C p nw fa co lv c) (hV : ∀ d, d < c → zCV n C nw fa d) (hW : zWK n C p nw fa co lv c bs n1 t k) (h0 : 0 ≤ lv t) (e1 : n2 (co t).toNat = (t : Int)) (e2 : ∀ x, x ≠ (co t).toNat → n2 x = n1 x) : ∃ k', k = k' + 1 ∧ zWK n C p nw fa co lv c bs n2 (lv t).toNat k' := by
  obtain ⟨w1, w2, w3, w4, w5, w6, w7⟩ := hW
  cases k with
  | zero => simp only [zRx] at w2; omega
  | succ k =>
    obtain ⟨r1, r2⟩ := w2
    have hphi := zPhi hD hI w1 h0
    rcases (hI t w1).2.1 with ⟨e, -, -⟩ | ⟨h1, h2, h3, h4, h5, h6⟩
    · omega
    · have hcv := hV (co t).toNat (by omega)
      unfold zCV at hcv
      rw [h3] at hcv
      have hcv2 := hcv h5 t w1 h4
      have hnm : n1 (co t).toNat = nw (co t).toNat := by
        rcases w7 (co t).toNat (by omega) with e | ⟨m1, m2, m3, m4, k', m5, m6⟩
        · exact e
        · exfalso
          cases k' with
          | zero => omega
          | succ k' =>
            obtain ⟨r3, r4⟩ := m6
            rw [m3, h3] at r4
            have := zRx_one _ _ _ r2 r4
            omega
      refine ⟨k, rfl, by omega, r2, by omega, h5, fun x => ?_, ?_, fun d hd => ?_⟩
      · rw [zCnt_up e1 e2 (x : Int) c (by omega), hnm, h3, w5 x]
        have i1 : ((t : Int) = (x : Int)) ↔ (x = t) := by omega
        have i2 : (lv t = (x : Int)) ↔ (x = (lv t).toNat) := by omega
        simp only [i1, i2]
        omega
      · rw [zTot_up e1 e2 c (by omega), hnm, h3, w6, Int.toNat_natCast]
        omega
      · by_cases ed : d = (co t).toNat
        · subst ed
          right
          rw [e1, Int.toNat_natCast]
          exact ⟨by omega, by omega, h3.symm, w3, k + 1, by omega, r1, r2⟩
        · rw [e2 d ed]
          rcases w7 d hd with e | ⟨m1, m2, m3, m4, k', m5, m6⟩
          · exact Or.inl e
          · exact Or.inr ⟨m1, m2, m3, m4, k', by omega, m6⟩
theorem zWK_e {n : Nat} {C ro p nw on fa co lv n1 n2 o2 : Nat → Int} {c bs t k : Nat} (hn : n ≤ 9) (hD : zDU n C ro p nw on c) (hI : zIN n C p nw fa co lv c) (hV : ∀ d, d < c → zCV n C nw fa d) (hb : bs < n) (hr : on bs < ro bs) (hfb : fa bs < 1000000000000000) (hB : ∀ x : Nat, x < n → on x < ro x → fa x < 1000000000000000 → fa bs ≤ fa x) (hW : zWK n C p nw fa co lv c bs n1 t k) (h0 : lv t = -1) (e1 : n2 (co t).toNat = (t : Int)) (e2 : ∀ x, x ≠ (co t).toNat → n2 x = n1 x) (o1 : o2 bs = on bs + 1) (oo : ∀ x, x ≠ bs → o2 x = on x) :
    co t = (c : Int) ∧ zTot C n2 (c + 1) = zTot C nw c + fa bs ∧ (0 ≤ fa bs ∧ fa bs ≤ 9900000000) ∧ ∃ p2, zDU n C ro p2 n2 o2 (c + 1) := by
  obtain ⟨w1, w2, w3, w4, w5, w6, w7⟩ := hW
  have hce : co t = (c : Int) ∧ fa t = C (9 * c + t) := by
    rcases (hI t w1).2.1 with ⟨-, e4, e5⟩ | ⟨h1, -⟩
    · exact ⟨e4, e5⟩
    · omega
  obtain ⟨e4, e5⟩ := hce
  rw [e4, Int.toNat_natCast] at e1 e2
  have hfbb := hI bs hb
  have hns := zNs_r fa n
  have hpb := hD.1 bs hb
  have hF : 0 ≤ fa bs ∧ fa bs ≤ 9900000000 := by omega
  refine ⟨e4, ?_, hF, fun x => if p x < fa bs - fa x then fa bs - fa x else p x, fun x hx => ⟨?_, ⟨?_, ?_⟩, ?_⟩, fun d hd => ?_⟩
  · simp only [zTot]
    rw [zTot_eq c (fun d hd => e2 d (by omega)), w6, e1, Int.toNat_natCast]
    omega
  · have i1 := hD.1 x hx
    have i2 := (hI x hx).1
    show 0 ≤ (if p x < fa bs - fa x then fa bs - fa x else p x) ∧ (if p x < fa bs - fa x then fa bs - fa x else p x) ≤ _
    split <;> omega
  · simp only [zCnt]
    rw [zCnt_eq (x : Int) c (fun d hd => e2 d (by omega)), w5 x, e1]
    have i1 := (hD.1 x hx).2.1.1
    have i2 : ((t : Int) = (x : Int)) ↔ (x = t) := by omega
    simp only [i2]
    by_cases ex : x = bs
    · subst ex; rw [o1, if_pos rfl]; omega
    · rw [oo x ex, if_neg ex]; omega
  · have i1 := (hD.1 x hx).2.1.2
    by_cases ex : x = bs
    · subst ex; omega
    · rw [oo x ex]; exact i1
  · intro hp
    replace hp : 0 < (if p x < fa bs - fa x then fa bs - fa x else p x) := hp
    have i1 := hD.1 x hx
    have i3 := hB x hx
    have hne : x ≠ bs := by
      rintro rfl
      split at hp <;> omega
    rw [oo x hne]
    split at hp
    · omega
    · omega
  · by_cases ed : d = c
    · subst ed
      rw [e1, Int.toNat_natCast]
      refine ⟨by omega, by omega, fun x hx hcx => ?_⟩
      have i2 := (hI x hx).1
      have i4 := (hI t w1).1
      show C (9 * d + t) + (if p t < fa bs - fa t then fa bs - fa t else p t) ≤ C (9 * d + x) + (if p x < fa bs - fa x then fa bs - fa x else p x)
      split <;> split <;> omega
    · rw [e2 d ed]
      obtain ⟨⟨q1, q2⟩, q3, q4⟩ := hD.2 d (by omega)
      have v1 := hV d (by omega)
      rcases w7 d (by omega) with e | ⟨m1, m2, m3, m4, -⟩
      · rw [e]
        refine ⟨⟨q1, q2⟩, q3, fun x hx hcx => ?_⟩
        have u1 := q4 x hx hcx
        show C (9 * d + (nw d).toNat) + (if p (nw d).toNat < fa bs - fa (nw d).toNat then fa bs - fa (nw d).toNat else p (nw d).toNat) ≤ C (9 * d + x) + (if p x < fa bs - fa x then fa bs - fa x else p x)
        have hp0 := (hD.1 (nw d).toNat (by omega)).1
        by_cases ef : fa (nw d).toNat < 1000000000000000
        · have v2 := v1 ef x hx hcx
          split <;> split <;> omega
        · split <;> split <;> omega
      · rcases (hI (n1 d).toNat (by omega)).2.1 with ⟨z1, -, -⟩ | ⟨z1, z2, z3, z4, z5, z6⟩
        · omega
        · rw [m2, Int.toNat_natCast] at z3 z4 z6
          rw [m3] at z5 z6
          have v2 := v1 z5
          have v3 := v2 (n1 d).toNat (by omega) z4
          refine ⟨m1, z4, fun x hx hcx => ?_⟩
          have v4 := v2 x hx hcx
          show C (9 * d + (n1 d).toNat) + (if p (n1 d).toNat < fa bs - fa (n1 d).toNat then fa bs - fa (n1 d).toNat else p (n1 d).toNat) ≤ C (9 * d + x) + (if p x < fa bs - fa x then fa bs - fa x else p x)
          split <;> split <;> omega
/-- the least sum, or none -/
def zLS (n : Nat) (C ro : Nat → Int) (N : Nat) (s : Int) : Prop := (s = 1000000000000000 ∧ ∀ a, ¬ zFA n C ro a N) ∨ ((0 ≤ s ∧ s ≤ 100000000000) ∧ (∃ a, zFA n C ro a N ∧ zTot C a N = s) ∧ ∀ a, zFA n C ro a N → s ≤ zTot C a N)
theorem zFA_less {n : Nat} {C ro a : Nat → Int} {c N : Nat} (h : zFA n C ro a N) (hc : c ≤ N) : zFA n C ro a c := by
  refine ⟨fun d hd => h.1 d (by omega), fun t ht => ?_⟩
  have h1 := zCnt_mono a t (c := c) (N - c)
  rw [show c + (N - c) = N by omega] at h1
  have := h.2 t ht
  omega
theorem zLS_of {n : Nat} {C ro p nw on : Nat → Int} {N : Nat} (hD : zDU n C ro p nw on N) (hs : 0 ≤ zTot C nw N ∧ zTot C nw N ≤ 100000000000) : zLS n C ro N (zTot C nw N) :=
  Or.inr ⟨hs, ⟨nw, ⟨fun d hd => ⟨(hD.2 d hd).1, (hD.2 d hd).2.1⟩, fun t ht => by have := (hD.1 t ht).2.1; omega⟩, rfl⟩, fun a ha => zOpt hD ha⟩
/-- the row of churn c kept at train t alone -/
def zCut (C : Nat → Int) (n c t : Nat) : Nat → Int := fun i => if 9 * c ≤ i ∧ i < 9 * c + n ∧ i ≠ 9 * c + t then 1000000000000000 else C i
theorem zCut_r {C : Nat → Int} {n c t d x : Nat} (hn : n ≤ 9) (hx : x < n) (h : zCut C n c t (9 * d + x) < 1000000000000000) : C (9 * d + x) < 1000000000000000 ∧ (d = c → x = t) ∧ zCut C n c t (9 * d + x) = C (9 * d + x) := by
  unfold zCut at h ⊢
  split at h
  · omega
  · rename_i hc
    rw [if_neg hc]
    exact ⟨h, fun e => by subst e; omega, rfl⟩
theorem zCut_y {C : Nat → Int} {n c t d x : Nat} (hn : n ≤ 9) (hx : x < n) (h : d = c → x = t) : zCut C n c t (9 * d + x) = C (9 * d + x) := by
  unfold zCut
  rw [if_neg]
  intro hc
  have : d = c := by omega
  have := h this
  omega
theorem zCut_Ck {C : Nat → Int} {n c t : Nat} (h : zCk n C) : zCk n (zCut C n c t) := fun d x hd hx => by
  unfold zCut
  split
  · exact Or.inr rfl
  · exact h d x hd hx
/-- where the least loading has churn c, the cut costs have the same least sum -/
theorem zCut_ex {n : Nat} {C ro : Nat → Int} {N : Nat} {s : Int} (hn : n ≤ 9) (h : zLS n C ro N s) (hs : s < 1000000000000000) {c : Nat} (hc : c < N) : ∃ t : Nat, t < n ∧ C (9 * c + t) < 1000000000000000 ∧ ∀ s', zLS n (zCut C n c t) ro N s' → s' = s := by
  rcases h with ⟨e, -⟩ | ⟨h1, ⟨a, ha, ht⟩, h3⟩
  · omega
  · have hac := ha.1 c hc
    have hfa : ∀ b : Nat → Int, zFA n (zCut C n c (a c).toNat) ro b N → zFA n C ro b N ∧ zTot (zCut C n c (a c).toNat) b N = zTot C b N := fun b hb =>
      ⟨⟨fun d hd => ⟨(hb.1 d hd).1, (zCut_r hn (by have := (hb.1 d hd).1; omega) (hb.1 d hd).2).1⟩, hb.2⟩, zTot_C N (fun d hd => (zCut_r hn (by have := (hb.1 d hd).1; omega) (hb.1 d hd).2).2.2)⟩
    have ey : ∀ d, d < N → zCut C n c (a c).toNat (9 * d + (a d).toNat) = C (9 * d + (a d).toNat) := fun d hd => zCut_y hn (by have := (ha.1 d hd).1; omega) (fun e => by rw [e])
    have hya : zFA n (zCut C n c (a c).toNat) ro a N := ⟨fun d hd => ⟨(ha.1 d hd).1, by rw [ey d hd]; exact (ha.1 d hd).2⟩, ha.2⟩
    refine ⟨(a c).toNat, by omega, hac.2, fun s' hs' => ?_⟩
    rcases hs' with ⟨-, hno⟩ | ⟨-, ⟨b, hb, hbt⟩, hall⟩
    · exact absurd hya (hno a)
    · have g1 := hall a hya
      rw [zTot_C N ey, ht] at g1
      have g2 := h3 b (hfa b hb).1
      rw [← (hfa b hb).2, hbt] at g2
      omega

/-! ===== the model's chains ===== -/
def mN (M : xMm) : Nat := (mMa M).toNat + 1
def mRo (M : xMm) : Nat → Int := fun t => if (t : Int) = mMa M then 10 else M 176 (8 * M 172 18 + t).toNat
theorem mRo_r {M : xMm} (hR : MR M) {t : Nat} (ht : t < mN M) : 0 ≤ mRo M t ∧ mRo M t ≤ 9999 := by
  unfold mRo
  unfold mN at ht
  obtain ⟨h1, h2⟩ := MR_many hR
  split
  · omega
  · exact (MR_use hR (t := (t : Int)) (by omega) (by omega)).2.2.2.1
theorem zIN_r {n : Nat} {C ro p nw on fa co lv : Nat → Int} {c : Nat} (hC : zCk n C) (hc : c < 10) (hD : zDU n C ro p nw on c) (hI : zIN n C p nw fa co lv c) {t : Nat} (ht : t < n) : -100000000000 ≤ fa t ∧ fa t ≤ 1000000000000000 := by
  have h1 := hC c t hc ht
  have h2 := (hI t ht).1
  have h3 := (hD.1 t ht).1
  omega
theorem zIN_0 {n : Nat} {C ro p nw on fa co lv : Nat → Int} {c : Nat} (hC : zCk n C) (hc : c < 10) (hD : zDU n C ro p nw on c) (h : ∀ t : Nat, t < n → fa t = C (9 * c + t) ∧ co t = (c : Int) ∧ lv t = -1) : zIN n C p nw fa co lv c := fun t ht => by
  obtain ⟨e1, e2, e3⟩ := h t ht
  have h1 := hC c t hc ht
  have h2 := (hD.1 t ht).1
  have h3 := zNs_r fa n
  refine ⟨⟨by omega, by omega, ?_⟩, Or.inl ⟨e3, e2, e1⟩, 0, e3⟩
  rcases h1 with h1 | h1
  · have := zNs_pos (fa := fa) (t := t) (by omega) n ht
    right; omega
  · left; omega
/-- what giving may change -/
abbrev frG (M1 M : xMm) : Prop := ∀ a, a ≠ 196 → a ≠ 197 → a ≠ 198 → M1 a = M a
theorem frG_rf (M : xMm) : frG M M := fun _ _ _ _ => rfl
theorem frG_tr {M2 M1 M : xMm} (h1 : frG M2 M1) (h : frG M1 M) : frG M2 M := fun a e1 e2 e3 => by rw [h1 a e1 e2 e3, h a e1 e2 e3]
theorem fg_ma {M1 M : xMm} (h : frG M1 M) : M1 180 (M1 172 18).toNat = mMa M := by unfold mMa; rw [h 172 (by decide) (by decide) (by decide), h 180 (by decide) (by decide) (by decide)]
theorem fg_R {M1 M : xMm} (h : frG M1 M) (hR : MR M) : MR M1 := MR_fr (fun a _ _ => h a (by omega) (by omega) (by omega)) (by rw [h 172 (by decide) (by decide) (by decide)]) hR
theorem fg_N {M1 M : xMm} (h : frG M1 M) : mN M1 = mN M := by
  have e : mMa M1 = mMa M := fg_ma h
  unfold mN; rw [e]
theorem fg_ro {M1 M : xMm} (h : frG M1 M) : mRo M1 = mRo M := by
  have e : mMa M1 = mMa M := fg_ma h
  unfold mRo; rw [e, h 172 (by decide) (by decide) (by decide), h 176 (by decide) (by decide) (by decide)]
def zG (n : Nat) (C nw p : Nat → Int) (c d : Nat) (M M1 : xMm) (v t : Int) : Prop := frG M1 M ∧ zIN n C p nw (M1 196) (M1 197) (M1 198) c ∧ M1 196 (nw d).toNat < 1000000000000000 ∧ ((v = 0 ∧ M1 = M ∧ ∀ x : Nat, (x : Int) < t → C (9 * d + x) < 1000000000000000 → M1 196 x ≤ M1 196 (nw d).toNat + C (9 * d + x) - C (9 * d + (nw d).toNat)) ∨ (v = 1 ∧ zSt (fun x => M1 196 x + p x) n < zSt (fun x => M 196 x + p x) n))
theorem zG_v {n : Nat} {C nw p : Nat → Int} {c d : Nat} {M M1 : xMm} {v t : Int} (h : zG n C nw p c d M M1 v t) : v = 0 ∨ v = 1 := by
  rcases h.2.2.2 with ⟨e, -⟩ | ⟨e, -⟩
  · exact Or.inl e
  · exact Or.inr e
theorem zG_k {n : Nat} {C nw p : Nat → Int} {c d : Nat} {M M1 : xMm} {v t : Int} (h : zG n C nw p c d M M1 v t) (h0 : 0 ≤ t) (hk : C (9 * d + t.toNat) < 1000000000000000 → M1 196 t.toNat ≤ M1 196 (nw d).toNat + C (9 * d + t.toNat) - C (9 * d + (nw d).toNat)) : zG n C nw p c d M M1 v (t + 1) := by
  obtain ⟨h1, h2, h3, h4⟩ := h
  refine ⟨h1, h2, h3, ?_⟩
  rcases h4 with ⟨e1, e2, e3⟩ | h4
  · refine Or.inl ⟨e1, e2, fun x hx => ?_⟩
    by_cases e : x = t.toNat
    · subst e; exact hk
    · exact e3 x (by omega)
  · exact Or.inr h4
theorem zG_s {n : Nat} {C ro on nw p : Nat → Int} {c d : Nat} {M M1 : xMm} {v t y : Int} (hC : zCk n C) (hc : c < 10) (hD : zDU n C ro p nw on c) (h : zG n C nw p c d M M1 v t) (hd : d < c) (h0 : 0 ≤ t ∧ t < (n : Int)) (hn : t ≠ nw d) (hct : C (9 * d + t.toNat) < 1000000000000000) (hy : y = M1 196 (nw d).toNat + C (9 * d + t.toNat) - C (9 * d + (nw d).toNat)) (hl : y < M1 196 t.toNat) :
    zG n C nw p c d M (mu (mu (mu M1 196 t.toNat y) 197 t.toNat (d : Int)) 198 t.toNat (nw d)) 1 (t + 1) := by
  obtain ⟨h1, h2, h3, h4⟩ := h
  have hdr := (hD.2 d hd).1
  have u := zIN_up (t := t.toNat) (fb := mu (mu (mu M1 196 t.toNat y) 197 t.toNat (d : Int)) 198 t.toNat (nw d) 196) (cb := mu (mu (mu M1 196 t.toNat y) 197 t.toNat (d : Int)) 198 t.toNat (nw d) 197) (lw := mu (mu (mu M1 196 t.toNat y) 197 t.toNat (d : Int)) 198 t.toNat (nw d) 198) hC hc hD h2 hd h3 (by omega) (by omega) hct hy hl
    (by rw [mu_nc (by decide), mu_nc (by decide), mu_s]) (fun x hx => by rw [mu_nc (by decide), mu_nc (by decide), mu_nf hx]) (by rw [mu_nc (by decide), mu_s]) (fun x hx => by rw [mu_nc (by decide), mu_nf hx, mu_nc (by decide)]) (by rw [mu_s]) (fun x hx => by rw [mu_nf hx, mu_nc (by decide), mu_nc (by decide)])
  refine ⟨fun a e1 e2 e3 => by rw [← h1 a e1 e2 e3]; funext x; rw [mu_nc e3, mu_nc e2, mu_nc e1], u.1, by rw [mu_nc (by decide), mu_nc (by decide), mu_nf (by omega)]; exact h3, Or.inr ⟨rfl, ?_⟩⟩
  rcases h4 with ⟨e1, e2, -⟩ | ⟨e1, e2⟩
  · rw [← e2]; exact u.2
  · exact Int.lt_trans u.2 e2

theorem dX12_roomOf_0 : decode cX12_roomOf 0 = .ok (.iload_n 1, 1) := by decide +kernel
theorem dX12_roomOf_1 : decode cX12_roomOf 1 = .ok (.aload_n 0, 1) := by decide +kernel
theorem dX12_roomOf_2 : decode cX12_roomOf 2 = .ok (.getfield 81, 3) := by decide +kernel
theorem dX12_roomOf_5 : decode cX12_roomOf 5 = .ok (.aload_n 0, 1) := by decide +kernel
theorem dX12_roomOf_6 : decode cX12_roomOf 6 = .ok (.getfield 75, 3) := by decide +kernel
theorem dX12_roomOf_9 : decode cX12_roomOf 9 = .ok (.iaload, 1) := by decide +kernel
theorem dX12_roomOf_10 : decode cX12_roomOf 10 = .ok (.if_icmp .ne 8, 3) := by decide +kernel
theorem dX12_roomOf_13 : decode cX12_roomOf 13 = .ok (.bipush 10, 2) := by decide +kernel
theorem dX12_roomOf_15 : decode cX12_roomOf 15 = .ok (.goto 17, 3) := by decide +kernel
theorem dX12_roomOf_18 : decode cX12_roomOf 18 = .ok (.aload_n 0, 1) := by decide +kernel
theorem dX12_roomOf_19 : decode cX12_roomOf 19 = .ok (.getfield 99, 3) := by decide +kernel
theorem dX12_roomOf_22 : decode cX12_roomOf 22 = .ok (.bipush 8, 2) := by decide +kernel
theorem dX12_roomOf_24 : decode cX12_roomOf 24 = .ok (.aload_n 0, 1) := by decide +kernel
theorem dX12_roomOf_25 : decode cX12_roomOf 25 = .ok (.getfield 75, 3) := by decide +kernel
theorem dX12_roomOf_28 : decode cX12_roomOf 28 = .ok (.imul, 1) := by decide +kernel
theorem dX12_roomOf_29 : decode cX12_roomOf 29 = .ok (.iload_n 1, 1) := by decide +kernel
theorem dX12_roomOf_30 : decode cX12_roomOf 30 = .ok (.iadd, 1) := by decide +kernel
theorem dX12_roomOf_31 : decode cX12_roomOf 31 = .ok (.iaload, 1) := by decide +kernel
theorem dX12_roomOf_32 : decode cX12_roomOf 32 = .ok (.ireturn, 1) := by decide +kernel
set_option maxHeartbeats 4000000 in
set_option maxRecDepth 20000 in
theorem c_X12_roomOf (l : Launch) (b : Nat) (D : va_G) (cy : Nat → ClassId) {tt : Nat} {M : xMm} {t : Int} (hR : MR M) (ht : 0 ≤ t ∧ t < (mN M : Int)) : xC l b D cy yX12_roomOf cX12_roomOf 2 (some .int) ({ frames := 0, cells := 0, slots := 0, locals := 0 }) [xr 172, xi t] 209 M (RS tt) (xPi 209 (RS tt) (fun r M' => M' = M ∧ r = mRo M t.toNat)) := by
  refine x_met (by decide) (Nat.le_of_ble_eq_true rfl) (fun g hg hr he => ?_)
  have em : M 180 (M 172 18).toNat = mMa M := rfl
  obtain ⟨hb, hm⟩ := MR_many hR
  have en : (mN M : Int) = mMa M + 1 := by unfold mN; omega
  refine x_canon (ls' := [(0, _), (1, _)]) rfl ?_
  refine x_iload_n hg dX12_roomOf_0 rfl ?_
  refine x_aload_n hg dX12_roomOf_1 rfl ?_
  refine x_getR (j9 := 180) hg dX12_roomOf_2 fl_X12_81 (by decide) rfl rfl (by decide) ?_
  refine x_aload_n hg dX12_roomOf_5 rfl ?_
  refine x_getI hg dX12_roomOf_6 fl_X12_75 (by decide) rfl ?_
  refine x_iaload (len := 2) hg dX12_roomOf_9 (by decide) (by omega) ?_
  refine x_icmp_ne (tgt := 18) hg dX12_roomOf_10 (by decide) (by omega) (by omega) (fun c10 => ?_) (fun c10 => ?_)
  · skip
    refine x_aload_n hg dX12_roomOf_18 rfl ?_
    refine x_getR (j9 := 176) hg dX12_roomOf_19 fl_X12_99 (by decide) rfl rfl (by decide) ?_
    refine x_bipush hg dX12_roomOf_22 (by decide) ?_
    refine x_aload_n hg dX12_roomOf_24 rfl ?_
    refine x_getI hg dX12_roomOf_25 fl_X12_75 (by decide) rfl ?_
    refine x_imul hg dX12_roomOf_28 ?_
    refine x_iload_n hg dX12_roomOf_29 rfl ?_
    refine x_iadd hg dX12_roomOf_30 ?_
    refine x_iaload (len := 16) hg dX12_roomOf_31 (by decide) (by omega) ?_
    refine x_iret hg hr (Or.inl rfl) dX12_roomOf_32 (Nat.le_refl _) (Nat.le_refl _) ?_
    refine ⟨rfl, rfl, _, rfl, rfl, ?_⟩
    unfold mRo
    first | rw [if_pos (by omega)] | rw [if_neg (by omega), show (8 * M 172 18 + (t.toNat : Int)).toNat = (8 * M 172 18 + t).toNat by omega]
  · skip
    refine x_bipush hg dX12_roomOf_13 (by decide) ?_
    refine x_goto (tgt := 32) hg dX12_roomOf_15 (by decide) ?_
    refine x_iret hg hr (Or.inl rfl) dX12_roomOf_32 (Nat.le_refl _) (Nat.le_refl _) ?_
    refine ⟨rfl, rfl, _, rfl, rfl, ?_⟩
    unfold mRo
    first | rw [if_pos (by omega)] | rw [if_neg (by omega), show (8 * M 172 18 + (t.toNat : Int)).toNat = (8 * M 172 18 + t).toNat by omega]

theorem dX12_gives_0 : decode cX12_gives 0 = .ok (.aload_n 0, 1) := by decide +kernel
theorem dX12_gives_1 : decode cX12_gives 1 = .ok (.getfield 176, 3) := by decide +kernel
theorem dX12_gives_4 : decode cX12_gives 4 = .ok (.iload_n 1, 1) := by decide +kernel
theorem dX12_gives_5 : decode cX12_gives 5 = .ok (.iaload, 1) := by decide +kernel
theorem dX12_gives_6 : decode cX12_gives 6 = .ok (.istore_n 2, 1) := by decide +kernel
theorem dX12_gives_7 : decode cX12_gives 7 = .ok (.aload_n 0, 1) := by decide +kernel
theorem dX12_gives_8 : decode cX12_gives 8 = .ok (.getfield 185, 3) := by decide +kernel
theorem dX12_gives_11 : decode cX12_gives 11 = .ok (.iload_n 2, 1) := by decide +kernel
theorem dX12_gives_12 : decode cX12_gives 12 = .ok (.laload, 1) := by decide +kernel
theorem dX12_gives_13 : decode cX12_gives 13 = .ok (.ldc2_w 280, 3) := by decide +kernel
theorem dX12_gives_16 : decode cX12_gives 16 = .ok (.lcmp, 1) := by decide +kernel
theorem dX12_gives_17 : decode cX12_gives 17 = .ok (.ifCond .lt 5, 3) := by decide +kernel
theorem dX12_gives_20 : decode cX12_gives 20 = .ok (.iconst 0, 1) := by decide +kernel
theorem dX12_gives_21 : decode cX12_gives 21 = .ok (.ireturn, 1) := by decide +kernel
theorem dX12_gives_22 : decode cX12_gives 22 = .ok (.iconst 0, 1) := by decide +kernel
theorem dX12_gives_23 : decode cX12_gives 23 = .ok (.istore_n 3, 1) := by decide +kernel
theorem dX12_gives_24 : decode cX12_gives 24 = .ok (.iconst 0, 1) := by decide +kernel
theorem dX12_gives_25 : decode cX12_gives 25 = .ok (.istore 4, 2) := by decide +kernel
theorem dX12_gives_27 : decode cX12_gives 27 = .ok (.iload 4, 2) := by decide +kernel
theorem dX12_gives_29 : decode cX12_gives 29 = .ok (.aload_n 0, 1) := by decide +kernel
theorem dX12_gives_30 : decode cX12_gives 30 = .ok (.getfield 81, 3) := by decide +kernel
theorem dX12_gives_33 : decode cX12_gives 33 = .ok (.aload_n 0, 1) := by decide +kernel
theorem dX12_gives_34 : decode cX12_gives 34 = .ok (.getfield 75, 3) := by decide +kernel
theorem dX12_gives_37 : decode cX12_gives 37 = .ok (.iaload, 1) := by decide +kernel
theorem dX12_gives_38 : decode cX12_gives 38 = .ok (.if_icmp .gt 110, 3) := by decide +kernel
theorem dX12_gives_41 : decode cX12_gives 41 = .ok (.aload_n 0, 1) := by decide +kernel
theorem dX12_gives_42 : decode cX12_gives 42 = .ok (.getfield 185, 3) := by decide +kernel
theorem dX12_gives_45 : decode cX12_gives 45 = .ok (.iload_n 2, 1) := by decide +kernel
theorem dX12_gives_46 : decode cX12_gives 46 = .ok (.laload, 1) := by decide +kernel
theorem dX12_gives_47 : decode cX12_gives 47 = .ok (.aload_n 0, 1) := by decide +kernel
theorem dX12_gives_48 : decode cX12_gives 48 = .ok (.getfield 182, 3) := by decide +kernel
theorem dX12_gives_51 : decode cX12_gives 51 = .ok (.bipush 9, 2) := by decide +kernel
theorem dX12_gives_53 : decode cX12_gives 53 = .ok (.iload_n 1, 1) := by decide +kernel
theorem dX12_gives_54 : decode cX12_gives 54 = .ok (.imul, 1) := by decide +kernel
theorem dX12_gives_55 : decode cX12_gives 55 = .ok (.iload 4, 2) := by decide +kernel
theorem dX12_gives_57 : decode cX12_gives 57 = .ok (.iadd, 1) := by decide +kernel
theorem dX12_gives_58 : decode cX12_gives 58 = .ok (.laload, 1) := by decide +kernel
theorem dX12_gives_59 : decode cX12_gives 59 = .ok (.ladd, 1) := by decide +kernel
theorem dX12_gives_60 : decode cX12_gives 60 = .ok (.aload_n 0, 1) := by decide +kernel
theorem dX12_gives_61 : decode cX12_gives 61 = .ok (.getfield 182, 3) := by decide +kernel
theorem dX12_gives_64 : decode cX12_gives 64 = .ok (.bipush 9, 2) := by decide +kernel
theorem dX12_gives_66 : decode cX12_gives 66 = .ok (.iload_n 1, 1) := by decide +kernel
theorem dX12_gives_67 : decode cX12_gives 67 = .ok (.imul, 1) := by decide +kernel
theorem dX12_gives_68 : decode cX12_gives 68 = .ok (.iload_n 2, 1) := by decide +kernel
theorem dX12_gives_69 : decode cX12_gives 69 = .ok (.iadd, 1) := by decide +kernel
theorem dX12_gives_70 : decode cX12_gives 70 = .ok (.laload, 1) := by decide +kernel
theorem dX12_gives_71 : decode cX12_gives 71 = .ok (.lsub, 1) := by decide +kernel
theorem dX12_gives_72 : decode cX12_gives 72 = .ok (.lstore 5, 2) := by decide +kernel
theorem dX12_gives_74 : decode cX12_gives 74 = .ok (.iload 4, 2) := by decide +kernel
theorem dX12_gives_76 : decode cX12_gives 76 = .ok (.iload_n 2, 1) := by decide +kernel
theorem dX12_gives_77 : decode cX12_gives 77 = .ok (.if_icmp .eq 65, 3) := by decide +kernel
theorem dX12_gives_80 : decode cX12_gives 80 = .ok (.aload_n 0, 1) := by decide +kernel
theorem dX12_gives_81 : decode cX12_gives 81 = .ok (.getfield 182, 3) := by decide +kernel
theorem dX12_gives_84 : decode cX12_gives 84 = .ok (.bipush 9, 2) := by decide +kernel
theorem dX12_gives_86 : decode cX12_gives 86 = .ok (.iload_n 1, 1) := by decide +kernel
theorem dX12_gives_87 : decode cX12_gives 87 = .ok (.imul, 1) := by decide +kernel
theorem dX12_gives_88 : decode cX12_gives 88 = .ok (.iload 4, 2) := by decide +kernel
theorem dX12_gives_90 : decode cX12_gives 90 = .ok (.iadd, 1) := by decide +kernel
theorem dX12_gives_91 : decode cX12_gives 91 = .ok (.laload, 1) := by decide +kernel
theorem dX12_gives_92 : decode cX12_gives 92 = .ok (.ldc2_w 280, 3) := by decide +kernel
theorem dX12_gives_95 : decode cX12_gives 95 = .ok (.lcmp, 1) := by decide +kernel
theorem dX12_gives_96 : decode cX12_gives 96 = .ok (.ifCond .ge 46, 3) := by decide +kernel
theorem dX12_gives_99 : decode cX12_gives 99 = .ok (.lload 5, 2) := by decide +kernel
theorem dX12_gives_101 : decode cX12_gives 101 = .ok (.aload_n 0, 1) := by decide +kernel
theorem dX12_gives_102 : decode cX12_gives 102 = .ok (.getfield 185, 3) := by decide +kernel
theorem dX12_gives_105 : decode cX12_gives 105 = .ok (.iload 4, 2) := by decide +kernel
theorem dX12_gives_107 : decode cX12_gives 107 = .ok (.laload, 1) := by decide +kernel
theorem dX12_gives_108 : decode cX12_gives 108 = .ok (.lcmp, 1) := by decide +kernel
theorem dX12_gives_109 : decode cX12_gives 109 = .ok (.ifCond .lt 6, 3) := by decide +kernel
theorem dX12_gives_112 : decode cX12_gives 112 = .ok (.goto 30, 3) := by decide +kernel
theorem dX12_gives_115 : decode cX12_gives 115 = .ok (.aload_n 0, 1) := by decide +kernel
theorem dX12_gives_116 : decode cX12_gives 116 = .ok (.getfield 185, 3) := by decide +kernel
theorem dX12_gives_119 : decode cX12_gives 119 = .ok (.iload 4, 2) := by decide +kernel
theorem dX12_gives_121 : decode cX12_gives 121 = .ok (.lload 5, 2) := by decide +kernel
theorem dX12_gives_123 : decode cX12_gives 123 = .ok (.lastore, 1) := by decide +kernel
theorem dX12_gives_124 : decode cX12_gives 124 = .ok (.aload_n 0, 1) := by decide +kernel
theorem dX12_gives_125 : decode cX12_gives 125 = .ok (.getfield 188, 3) := by decide +kernel
theorem dX12_gives_128 : decode cX12_gives 128 = .ok (.iload 4, 2) := by decide +kernel
theorem dX12_gives_130 : decode cX12_gives 130 = .ok (.iload_n 1, 1) := by decide +kernel
theorem dX12_gives_131 : decode cX12_gives 131 = .ok (.iastore, 1) := by decide +kernel
theorem dX12_gives_132 : decode cX12_gives 132 = .ok (.aload_n 0, 1) := by decide +kernel
theorem dX12_gives_133 : decode cX12_gives 133 = .ok (.getfield 191, 3) := by decide +kernel
theorem dX12_gives_136 : decode cX12_gives 136 = .ok (.iload 4, 2) := by decide +kernel
theorem dX12_gives_138 : decode cX12_gives 138 = .ok (.iload_n 2, 1) := by decide +kernel
theorem dX12_gives_139 : decode cX12_gives 139 = .ok (.iastore, 1) := by decide +kernel
theorem dX12_gives_140 : decode cX12_gives 140 = .ok (.iconst 1, 1) := by decide +kernel
theorem dX12_gives_141 : decode cX12_gives 141 = .ok (.istore_n 3, 1) := by decide +kernel
theorem dX12_gives_142 : decode cX12_gives 142 = .ok (.iinc 4 1, 3) := by decide +kernel
theorem dX12_gives_145 : decode cX12_gives 145 = .ok (.goto (-118), 3) := by decide +kernel
theorem dX12_gives_148 : decode cX12_gives 148 = .ok (.iload_n 3, 1) := by decide +kernel
theorem dX12_gives_149 : decode cX12_gives 149 = .ok (.ireturn, 1) := by decide +kernel
set_option maxHeartbeats 4000000 in
set_option maxRecDepth 20000 in
theorem c_X12_gives (l : Launch) (b : Nat) (D : va_G) (cy : Nat → ClassId) {tt : Nat} {M : xMm} {n : Nat} {C ro p nw on : Nat → Int} {c : Nat} {d : Int} (hR : MR M) (eN : n = mN M) (eC : M 195 = C) (ew : M 193 = nw) (hC : zCk n C) (hc : c < 10) (hD : zDU n C ro p nw on c) (hI : zIN n C p nw (M 196) (M 197) (M 198) c) (hd : 0 ≤ d ∧ d < (c : Int)) : xC l b D cy yX12_gives cX12_gives 7 (some .boolean) ({ frames := 0, cells := 0, slots := 0, locals := 0 }) [xr 172, xi d] 209 M (RS tt) (xPi 209 (RS tt) (fun r M' => (r = 0 ∧ M' = M ∧ zCV n C nw (M 196) d.toNat) ∨ (r = 1 ∧ frG M' M ∧ zIN n C p nw (M' 196) (M' 197) (M' 198) c ∧ zSt (fun x => M' 196 x + p x) n < zSt (fun x => M 196 x + p x) n))) := by
  refine x_met (by decide) (Nat.le_of_ble_eq_true rfl) (fun g hg hr he => ?_)
  have em : M 180 (M 172 18).toNat = mMa M := rfl
  obtain ⟨hb, hm⟩ := MR_many hR
  refine x_canon (ls' := [(0, _), (1, _)]) rfl ?_
  have en : (n : Int) = mMa M + 1 := by rw [eN]; unfold mN; omega
  have hdd := hD.2 d.toNat (by omega)
  have hfr0 := zIN_r hC hc hD hI (t := (nw d.toNat).toNat) (by omega)
  have hcf := hC d.toNat (nw d.toNat).toNat (by omega) (by omega)
  have loop : ∀ (n1 : Nat) (M1 : xMm) (v t : Int), zG n C nw p c d.toNat M M1 v t → 0 ≤ t → t ≤ (n : Int) → (n : Int) - t < n1 → xW g 209 M1 (RS tt) 0 0 27 [(0, xr 172), (1, xi d), (2, xi (nw d.toNat)), (3, xi v), (4, xi t)] [] := by
    intro n1
    induction n1 with
    | zero => intro M1 v t g1 ht0 ht1 ht2; exfalso; omega
    | succ n1 ihn1 =>
      intro M1 v t g1 ht0 ht1 ht2
      have hma1 := fg_ma g1.1
      have hb1 := (fg_R g1.1 hR).1
      have hv1 := zG_v g1
      have e195 : M1 195 = C := by rw [← eC]; exact g1.1 195 (by decide) (by decide) (by decide)
      have ix : (9 * d + t).toNat = 9 * d.toNat + t.toNat := by omega
      have iy : (9 * d + nw d.toNat).toNat = 9 * d.toNat + (nw d.toNat).toNat := by omega
      have hff := g1.2.2.1
      have hfr1 := zIN_r hC hc hD g1.2.1 (t := (nw d.toNat).toNat) (by omega)
      refine x_iload hg dX12_gives_27 rfl ?_
      refine x_aload_n hg dX12_gives_29 rfl ?_
      refine x_getR (j9 := 180) hg dX12_gives_30 fl_X12_81 (by decide) rfl rfl (by decide) ?_
      refine x_aload_n hg dX12_gives_33 rfl ?_
      refine x_getI hg dX12_gives_34 fl_X12_75 (by decide) rfl ?_
      refine x_iaload (len := 2) hg dX12_gives_37 (by decide) (by omega) ?_
      refine x_icmp_gt (tgt := 148) hg dX12_gives_38 (by decide) (by omega) (by omega) (fun c38 => ?_) (fun c38 => ?_)
      · skip
        refine x_iload_n hg dX12_gives_148 rfl ?_
        refine x_iret hg hr (Or.inr ⟨rfl, by first | exact Or.inl rfl | exact Or.inr rfl | omega⟩) dX12_gives_149 (Nat.le_refl _) (Nat.le_refl _) ?_
        refine ⟨rfl, rfl, _, rfl, ?_⟩
        obtain ⟨q1, q2, q3, q4⟩ := g1
        rcases q4 with ⟨e1, e2, e3⟩ | ⟨e1, e2⟩
        · left
          subst e2
          exact ⟨e1, rfl, fun _ x hx hcx => e3 x (by omega) hcx⟩
        · exact Or.inr ⟨e1, q1, q2, e2⟩
      · skip
        have hct := hC d.toNat t.toNat (by omega) (by omega)
        have hft := zIN_r hC hc hD g1.2.1 (t := t.toNat) (by omega)
        refine x_aload_n hg dX12_gives_41 rfl ?_
        refine x_getR (j9 := 196) hg dX12_gives_42 fl_X12_185 (by decide) rfl rfl (by decide) ?_
        refine x_iload_n hg dX12_gives_45 rfl ?_
        refine x_laload (len := 9) hg dX12_gives_46 (by decide) (by omega) ?_
        refine x_aload_n hg dX12_gives_47 rfl ?_
        refine x_getR (j9 := 195) hg dX12_gives_48 fl_X12_182 (by decide) rfl rfl (by decide) ?_
        refine x_bipush hg dX12_gives_51 (by decide) ?_
        refine x_iload_n hg dX12_gives_53 rfl ?_
        refine x_imul hg dX12_gives_54 ?_
        refine x_iload hg dX12_gives_55 rfl ?_
        refine x_iadd hg dX12_gives_57 ?_
        refine x_laload (len := 90) hg dX12_gives_58 (by decide) (by omega) ?_
        refine x_ladd hg dX12_gives_59 ?_
        refine x_aload_n hg dX12_gives_60 rfl ?_
        refine x_getR (j9 := 195) hg dX12_gives_61 fl_X12_182 (by decide) rfl rfl (by decide) ?_
        refine x_bipush hg dX12_gives_64 (by decide) ?_
        refine x_iload_n hg dX12_gives_66 rfl ?_
        refine x_imul hg dX12_gives_67 ?_
        refine x_iload_n hg dX12_gives_68 rfl ?_
        refine x_iadd hg dX12_gives_69 ?_
        refine x_laload (len := 90) hg dX12_gives_70 (by decide) (by omega) ?_
        refine x_lsub hg dX12_gives_71 ?_
        rw [e195, ix, iy]
        refine x_lstore (ls' := [(0, _), (1, _), (2, _), (3, _), (4, _), (5, _)]) hg dX12_gives_72 (by decide) rfl ?_
        refine x_iload hg dX12_gives_74 rfl ?_
        refine x_iload_n hg dX12_gives_76 rfl ?_
        refine x_icmp_eq (tgt := 142) hg dX12_gives_77 (by decide) (by omega) (by omega) (fun c77 => ?_) (fun c77 => ?_)
        · skip
          refine x_iinc (ls' := [(0, _), (1, _), (2, _), (3, _), (4, _), (5, _)]) hg dX12_gives_142 rfl (by decide) rfl ?_
          refine x_goto (tgt := 27) hg dX12_gives_145 (by decide) ?_
          refine x_canon (ls' := [(0, _), (1, _), (2, _), (3, _), (4, _)]) rfl ?_
          first
            | exact ihn1 _ _ _ (zG_k g1 ht0 (fun _ => by omega)) (by omega) (by omega) (by omega)
            | exact ihn1 _ _ _ (zG_k g1 ht0 (fun _ => by rw [show t.toNat = (nw d.toNat).toNat by omega]; omega)) (by omega) (by omega) (by omega)
            | (have zs := zG_s (d := d.toNat) hC hc hD g1 (by omega) (by omega) (by omega) (by omega) rfl (by omega)
               rw [Int.toNat_of_nonneg hd.1] at zs
               exact ihn1 _ _ _ zs (by omega) (by omega) (by omega))
        · skip
          refine x_aload_n hg dX12_gives_80 rfl ?_
          refine x_getR (j9 := 195) hg dX12_gives_81 fl_X12_182 (by decide) rfl rfl (by decide) ?_
          refine x_bipush hg dX12_gives_84 (by decide) ?_
          refine x_iload_n hg dX12_gives_86 rfl ?_
          refine x_imul hg dX12_gives_87 ?_
          refine x_iload hg dX12_gives_88 rfl ?_
          refine x_iadd hg dX12_gives_90 ?_
          refine x_laload (len := 90) hg dX12_gives_91 (by decide) (by omega) ?_
          rw [e195, ix]
          refine x_ldc2 hg 1000000000000000 dX12_gives_92 (List.mem_of_getElem? (i := 1175) (by decide +kernel)) ?_
          refine x_lcmp hg dX12_gives_95 (by omega) (by decide) ?_
          refine x_if_ge (tgt := 142) hg dX12_gives_96 (by decide) (by split <;> (try split) <;> omega) (fun c96 => ?_) (fun c96 => ?_)
          · skip
            refine x_iinc (ls' := [(0, _), (1, _), (2, _), (3, _), (4, _), (5, _)]) hg dX12_gives_142 rfl (by decide) rfl ?_
            refine x_goto (tgt := 27) hg dX12_gives_145 (by decide) ?_
            refine x_canon (ls' := [(0, _), (1, _), (2, _), (3, _), (4, _)]) rfl ?_
            first
              | exact ihn1 _ _ _ (zG_k g1 ht0 (fun _ => by omega)) (by omega) (by omega) (by omega)
              | exact ihn1 _ _ _ (zG_k g1 ht0 (fun _ => by rw [show t.toNat = (nw d.toNat).toNat by omega]; omega)) (by omega) (by omega) (by omega)
              | (have zs := zG_s (d := d.toNat) hC hc hD g1 (by omega) (by omega) (by omega) (by omega) rfl (by omega)
                 rw [Int.toNat_of_nonneg hd.1] at zs
                 exact ihn1 _ _ _ zs (by omega) (by omega) (by omega))
          · skip
            refine x_lload hg dX12_gives_99 rfl ?_
            refine x_aload_n hg dX12_gives_101 rfl ?_
            refine x_getR (j9 := 196) hg dX12_gives_102 fl_X12_185 (by decide) rfl rfl (by decide) ?_
            refine x_iload hg dX12_gives_105 rfl ?_
            refine x_laload (len := 9) hg dX12_gives_107 (by decide) (by omega) ?_
            refine x_lcmp hg dX12_gives_108 (by omega) (by omega) ?_
            refine x_if_lt (tgt := 115) hg dX12_gives_109 (by decide) (by split <;> (try split) <;> omega) (fun c109 => ?_) (fun c109 => ?_)
            · skip
              refine x_aload_n hg dX12_gives_115 rfl ?_
              refine x_getR (j9 := 196) hg dX12_gives_116 fl_X12_185 (by decide) rfl rfl (by decide) ?_
              refine x_iload hg dX12_gives_119 rfl ?_
              refine x_lload hg dX12_gives_121 rfl ?_
              refine x_lastore (len := 9) hg dX12_gives_123 (by decide) (by omega)  ?_
              refine x_aload_n hg dX12_gives_124 rfl ?_
              refine x_getR (j9 := 197) hg dX12_gives_125 fl_X12_188 (by decide) rfl rfl (by decide) ?_
              refine x_iload hg dX12_gives_128 rfl ?_
              refine x_iload_n hg dX12_gives_130 rfl ?_
              refine x_iastore (len := 9) hg dX12_gives_131 (by decide) (by omega)  ?_
              refine x_aload_n hg dX12_gives_132 rfl ?_
              refine x_getR (j9 := 198) hg dX12_gives_133 fl_X12_191 (by decide) rfl rfl (by decide) ?_
              refine x_iload hg dX12_gives_136 rfl ?_
              refine x_iload_n hg dX12_gives_138 rfl ?_
              refine x_iastore (len := 9) hg dX12_gives_139 (by decide) (by omega)  ?_
              refine x_iconst hg dX12_gives_140 ?_
              refine x_istore_n (ls' := [(0, _), (1, _), (2, _), (3, _), (4, _), (5, _)]) hg dX12_gives_141 rfl (by decide) rfl ?_
              refine x_iinc (ls' := [(0, _), (1, _), (2, _), (3, _), (4, _), (5, _)]) hg dX12_gives_142 rfl (by decide) rfl ?_
              refine x_goto (tgt := 27) hg dX12_gives_145 (by decide) ?_
              refine x_canon (ls' := [(0, _), (1, _), (2, _), (3, _), (4, _)]) rfl ?_
              first
                | exact ihn1 _ _ _ (zG_k g1 ht0 (fun _ => by omega)) (by omega) (by omega) (by omega)
                | exact ihn1 _ _ _ (zG_k g1 ht0 (fun _ => by rw [show t.toNat = (nw d.toNat).toNat by omega]; omega)) (by omega) (by omega) (by omega)
                | (have zs := zG_s (d := d.toNat) hC hc hD g1 (by omega) (by omega) (by omega) (by omega) rfl (by omega)
                   rw [Int.toNat_of_nonneg hd.1] at zs
                   exact ihn1 _ _ _ zs (by omega) (by omega) (by omega))
            · skip
              refine x_goto (tgt := 142) hg dX12_gives_112 (by decide) ?_
              refine x_iinc (ls' := [(0, _), (1, _), (2, _), (3, _), (4, _), (5, _)]) hg dX12_gives_142 rfl (by decide) rfl ?_
              refine x_goto (tgt := 27) hg dX12_gives_145 (by decide) ?_
              refine x_canon (ls' := [(0, _), (1, _), (2, _), (3, _), (4, _)]) rfl ?_
              first
                | exact ihn1 _ _ _ (zG_k g1 ht0 (fun _ => by omega)) (by omega) (by omega) (by omega)
                | exact ihn1 _ _ _ (zG_k g1 ht0 (fun _ => by rw [show t.toNat = (nw d.toNat).toNat by omega]; omega)) (by omega) (by omega) (by omega)
                | (have zs := zG_s (d := d.toNat) hC hc hD g1 (by omega) (by omega) (by omega) (by omega) rfl (by omega)
                   rw [Int.toNat_of_nonneg hd.1] at zs
                   exact ihn1 _ _ _ zs (by omega) (by omega) (by omega))
  refine x_aload_n hg dX12_gives_0 rfl ?_
  refine x_getR (j9 := 193) hg dX12_gives_1 fl_X12_176 (by decide) rfl rfl (by decide) ?_
  refine x_iload_n hg dX12_gives_4 rfl ?_
  skip
  refine x_iaload (len := 10) hg dX12_gives_5 (by decide) (by omega) ?_
  rw [ew]
  refine x_istore_n (ls' := [(0, _), (1, _), (2, _)]) hg dX12_gives_6 rfl (by decide) rfl ?_
  refine x_aload_n hg dX12_gives_7 rfl ?_
  refine x_getR (j9 := 196) hg dX12_gives_8 fl_X12_185 (by decide) rfl rfl (by decide) ?_
  refine x_iload_n hg dX12_gives_11 rfl ?_
  refine x_laload (len := 9) hg dX12_gives_12 (by decide) (by omega) ?_
  refine x_ldc2 hg 1000000000000000 dX12_gives_13 (List.mem_of_getElem? (i := 1175) (by decide +kernel)) ?_
  refine x_lcmp hg dX12_gives_16 (by omega) (by decide) ?_
  refine x_if_lt (tgt := 22) hg dX12_gives_17 (by decide) (by split <;> (try split) <;> omega) (fun c17 => ?_) (fun c17 => ?_)
  · skip
    refine x_iconst hg dX12_gives_22 ?_
    refine x_istore_n (ls' := [(0, _), (1, _), (2, _), (3, _)]) hg dX12_gives_23 rfl (by decide) rfl ?_
    refine x_iconst hg dX12_gives_24 ?_
    refine x_istore (ls' := [(0, _), (1, _), (2, _), (3, _), (4, _)]) hg dX12_gives_25 (by decide) rfl ?_
    exact loop (n + 1) M 0 0 ⟨frG_rf M, hI, by omega, Or.inl ⟨rfl, rfl, fun x hx => absurd hx (by omega)⟩⟩ (by omega) (by omega) (by omega)
  · skip
    refine x_iconst hg dX12_gives_20 ?_
    refine x_iret hg hr (Or.inr ⟨rfl, by first | exact Or.inl rfl | exact Or.inr rfl | omega⟩) dX12_gives_21 (Nat.le_refl _) (Nat.le_refl _) ?_
    exact ⟨rfl, rfl, _, rfl, Or.inl ⟨rfl, rfl, fun h => absurd h (by omega)⟩⟩
