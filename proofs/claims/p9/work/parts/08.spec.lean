/-! ===== the references of the finished world; typed posts; calls by them ===== -/
/-- the references: those of MilkTrain (its table is cell tt: 5 or 31), of its parts, of the model -/
def RS (tt i k : Nat) : Nat :=
  if i = 1 then (if k = 0 then 2 else if k = 1 then 4 else if k = 2 then tt else if k = 3 then 36 - tt else if k = 4 then 57 else if k = 5 then 63 else if k = 6 then 68 else if k = 9 then 84 else if k = 11 then 95 else if k = 12 then 100 else if k = 14 then 141 else 0)
  else if i = 2 then 3
  else if i = 4 then 2
  else if i = 5 then 6
  else if i = 31 then 32
  else if i = 6 then 7 + 3 * k
  else if i = 32 then 33 + 3 * k
  else if i = 57 then 58 + k
  else if i = 63 then (if k = 0 then 57 else 63 + k)
  else if i = 68 then (if k = 0 then 63 else if k = 1 then 69 else 78 + k)
  else if i = 69 then 70 + k
  else if i = 84 then 85 + k
  else if i = 95 then 96 + k
  else if i = 100 then 101 + k
  else if i = 141 then 142 + k
  else if i = 172 then (if k ≤ 1 then 173 + k else if k ≤ 17 then 164 + k else if k ≤ 23 then 162 + k else if k ≤ 29 then 161 + k else if k ≤ 32 then 160 + k else if k ≤ 37 then 157 + k else 155 + k)
  else (if k = 4 then i + 1 else i + 2)
theorem RS_swap (tt : Nat) : ru (ru (RS tt) 1 2 (36 - tt)) 1 3 tt = (fun a c => if a = 1 ∧ c = 3 then tt else RS (36 - tt) a c) := by
  funext a c
  simp only [ru, RS]
  by_cases h1 : a = 1 ∧ c = 3
  · simp [h1]
  · by_cases h2 : a = 1 ∧ c = 2
    · obtain ⟨rfl, rfl⟩ := h2
      simp
    · simp only [h1, h2, if_false]
      by_cases ha : a = 1
      · subst ha
        have : c ≠ 2 := fun q => h2 ⟨rfl, q⟩
        have : c ≠ 3 := fun q => h1 ⟨rfl, q⟩
        simp [*]
      · simp [ha]
abbrev xPi (n : Nat) (R : xRm) (Q : Int → xMm → Prop) : xPost := fun v n' M' R' => n' = n ∧ R' = R ∧ ∃ r, v = some (xi r) ∧ Q r M'
abbrev xPl (n : Nat) (R : xRm) (Q : Int → xMm → Prop) : xPost := fun v n' M' R' => n' = n ∧ R' = R ∧ ∃ r, v = some (xl r) ∧ Q r M'
abbrev xPv (n : Nat) (R : xRm) (Q : xMm → Prop) : xPost := fun v n' M' R' => n' = n ∧ R' = R ∧ v = none ∧ Q M'
/-- the launch, the base and the tables' numbers of a walk -/
abbrev xE (g : xGT) (l : Launch) (b : Nat) (D : va_G) (cy : Nat → ClassId) : Prop := g.2.1 = l ∧ g.2.2.2.2.2.2.2.2.2.2.1 = b ∧ g.2.2.2.2.2.2.2.2.2.2.2.1 = D ∧ g.2.2.2.2.2.2.2.2.2.2.2.2.1 = cy
section XT
variable {g : xGT} {cc : ByteArray} {own : String} {rm : Room} {nL : Nat} {n : Nat} {M : xMm} {R : xRm} {k w pc : Nat} {ls ls' : List (Nat × xV)} {st : List xV}
variable {l : Launch} {b : Nat} {D : va_G} {cy : Nat → ClassId} {idx ci i na : Nat} {y : MethodName} {code : ByteArray} {maxL : Nat} {ret : Option FieldType} {rmc : Room}
theorem x_cVi (hg : xG g cc own rm nL) (he : xE g l b D cy) {n2 : Nat} {R2 : xRm} {Q : Int → xMm → Prop} (As rest : List xV) (d : decode cc pc = .ok (.invokevirtual idx, 3)) (hM : xMV own idx ci y code maxL ret na) (hC : xC l b D cy y code maxL ret rmc (xr i :: As) n M R (xPi n2 R2 Q)) (ho : xO n i ci) (hn : As.length = na) (hst : st = As.reverse ++ xr i :: rest) (hrest : (rest.map xcat).sum ≤ 8) (hroom : rmc.frames + 1 ≤ rm.frames ∧ 8 + (maxL + 11) + rmc.locals ≤ rm.locals) (hcells : k + rmc.cells ≤ rm.cells ∧ w + rmc.slots ≤ rm.slots)
    (t : ∀ (r : Int) M', Q r M' → xW g n2 M' R2 (k + rmc.cells) (w + rmc.slots) (pc + 3) ls (xi r :: rest)) : xW g n M R k w pc ls st :=
  x_callV (rest := rest) hg he d hM hC ho hn hst hrest hroom hcells (fun v n' M' R' hp => by obtain ⟨rfl, rfl, r, rfl, hq⟩ := hp; exact t r M' hq)
theorem x_cSi (hg : xG g cc own rm nL) (he : xE g l b D cy) {n2 : Nat} {R2 : xRm} {Q : Int → xMm → Prop} (As rest : List xV) (d : decode cc pc = .ok (.invokestatic idx, 3)) (hM : xMS own idx y code maxL ret na) (hC : xC l b D cy y code maxL ret rmc As n M R (xPi n2 R2 Q)) (hn : As.length = na) (hst : st = As.reverse ++ rest) (hrest : (rest.map xcat).sum ≤ 8) (hroom : rmc.frames + 1 ≤ rm.frames ∧ 8 + (maxL + 11) + rmc.locals ≤ rm.locals) (hcells : k + rmc.cells ≤ rm.cells ∧ w + rmc.slots ≤ rm.slots)
    (t : ∀ (r : Int) M', Q r M' → xW g n2 M' R2 (k + rmc.cells) (w + rmc.slots) (pc + 3) ls (xi r :: rest)) : xW g n M R k w pc ls st :=
  x_callS (rest := rest) hg he d hM hC hn hst hrest hroom hcells (fun v n' M' R' hp => by obtain ⟨rfl, rfl, r, rfl, hq⟩ := hp; exact t r M' hq)
theorem x_cVl (hg : xG g cc own rm nL) (he : xE g l b D cy) {n2 : Nat} {R2 : xRm} {Q : Int → xMm → Prop} (As rest : List xV) (d : decode cc pc = .ok (.invokevirtual idx, 3)) (hM : xMV own idx ci y code maxL ret na) (hC : xC l b D cy y code maxL ret rmc (xr i :: As) n M R (xPl n2 R2 Q)) (ho : xO n i ci) (hn : As.length = na) (hst : st = As.reverse ++ xr i :: rest) (hrest : (rest.map xcat).sum ≤ 8) (hroom : rmc.frames + 1 ≤ rm.frames ∧ 8 + (maxL + 11) + rmc.locals ≤ rm.locals) (hcells : k + rmc.cells ≤ rm.cells ∧ w + rmc.slots ≤ rm.slots)
    (t : ∀ (r : Int) M', Q r M' → xW g n2 M' R2 (k + rmc.cells) (w + rmc.slots) (pc + 3) ls (xl r :: rest)) : xW g n M R k w pc ls st :=
  x_callV (rest := rest) hg he d hM hC ho hn hst hrest hroom hcells (fun v n' M' R' hp => by obtain ⟨rfl, rfl, r, rfl, hq⟩ := hp; exact t r M' hq)
theorem x_cSl (hg : xG g cc own rm nL) (he : xE g l b D cy) {n2 : Nat} {R2 : xRm} {Q : Int → xMm → Prop} (As rest : List xV) (d : decode cc pc = .ok (.invokestatic idx, 3)) (hM : xMS own idx y code maxL ret na) (hC : xC l b D cy y code maxL ret rmc As n M R (xPl n2 R2 Q)) (hn : As.length = na) (hst : st = As.reverse ++ rest) (hrest : (rest.map xcat).sum ≤ 8) (hroom : rmc.frames + 1 ≤ rm.frames ∧ 8 + (maxL + 11) + rmc.locals ≤ rm.locals) (hcells : k + rmc.cells ≤ rm.cells ∧ w + rmc.slots ≤ rm.slots)
    (t : ∀ (r : Int) M', Q r M' → xW g n2 M' R2 (k + rmc.cells) (w + rmc.slots) (pc + 3) ls (xl r :: rest)) : xW g n M R k w pc ls st :=
  x_callS (rest := rest) hg he d hM hC hn hst hrest hroom hcells (fun v n' M' R' hp => by obtain ⟨rfl, rfl, r, rfl, hq⟩ := hp; exact t r M' hq)
theorem x_cVv (hg : xG g cc own rm nL) (he : xE g l b D cy) {n2 : Nat} {R2 : xRm} {Q : xMm → Prop} (As rest : List xV) (d : decode cc pc = .ok (.invokevirtual idx, 3)) (hM : xMV own idx ci y code maxL ret na) (hC : xC l b D cy y code maxL ret rmc (xr i :: As) n M R (xPv n2 R2 Q)) (ho : xO n i ci) (hn : As.length = na) (hst : st = As.reverse ++ xr i :: rest) (hrest : (rest.map xcat).sum ≤ 8) (hroom : rmc.frames + 1 ≤ rm.frames ∧ 8 + (maxL + 11) + rmc.locals ≤ rm.locals) (hcells : k + rmc.cells ≤ rm.cells ∧ w + rmc.slots ≤ rm.slots)
    (t : ∀ M', Q M' → xW g n2 M' R2 (k + rmc.cells) (w + rmc.slots) (pc + 3) ls (rest)) : xW g n M R k w pc ls st :=
  x_callV (rest := rest) hg he d hM hC ho hn hst hrest hroom hcells (fun v n' M' R' hp => by obtain ⟨rfl, rfl, rfl, hq⟩ := hp; exact t M' hq)
theorem x_cSv (hg : xG g cc own rm nL) (he : xE g l b D cy) {n2 : Nat} {R2 : xRm} {Q : xMm → Prop} (As rest : List xV) (d : decode cc pc = .ok (.invokestatic idx, 3)) (hM : xMS own idx y code maxL ret na) (hC : xC l b D cy y code maxL ret rmc As n M R (xPv n2 R2 Q)) (hn : As.length = na) (hst : st = As.reverse ++ rest) (hrest : (rest.map xcat).sum ≤ 8) (hroom : rmc.frames + 1 ≤ rm.frames ∧ 8 + (maxL + 11) + rmc.locals ≤ rm.locals) (hcells : k + rmc.cells ≤ rm.cells ∧ w + rmc.slots ≤ rm.slots)
    (t : ∀ M', Q M' → xW g n2 M' R2 (k + rmc.cells) (w + rmc.slots) (pc + 3) ls (rest)) : xW g n M R k w pc ls st :=
  x_callS (rest := rest) hg he d hM hC hn hst hrest hroom hcells (fun v n' M' R' hp => by obtain ⟨rfl, rfl, rfl, hq⟩ := hp; exact t M' hq)
/-- another number for the same int -/
theorem x_top {x z : Int} (h : Int32.ofInt x = Int32.ofInt z) (t : xW g n M R k w pc ls (xi z :: st)) : xW g n M R k w pc ls (xi x :: st) := by
  obtain ⟨p, l, e, Rm, s, m, args, below, meth, c, b, D, cy, Q⟩ := g
  intro H locs lsA hW hS hv
  have t2 := t H locs lsA hW hS hv
  simp only [List.map_cons, cv] at t2 ⊢
  rw [h]
  exact t2
theorem x_topl {x z : Int} (h : Int64.ofInt x = Int64.ofInt z) (t : xW g n M R k w pc ls (xl z :: st)) : xW g n M R k w pc ls (xl x :: st) := by
  obtain ⟨p, l, e, Rm, s, m, args, below, meth, c, b, D, cy, Q⟩ := g
  intro H locs lsA hW hS hv
  have t2 := t H locs lsA hW hS hv
  simp only [List.map_cons, cv] at t2 ⊢
  rw [h]
  exact t2
end XT
/-- families of cells -/
theorem lay_churn : ∀ c, c < 10 → lay (85 + c) = .inl 1 := by decide
theorem lay_tank : ∀ c, c < 4 → lay (96 + c) = .inl 6 := by decide
theorem lay_bottling : ∀ c, c < 40 → lay (101 + c) = .inl 0 := by decide
theorem lay_find : ∀ c, c < 30 → lay (142 + c) = .inl 3 := by decide
theorem lay_row : ∀ c, c < 10 → lay (70 + c) = .inr (3, 9) := by decide
/-- a train's cell -/
abbrev xTr (i : Nat) : Prop := (7 ≤ i ∧ i ≤ 28 ∧ i % 3 = 1) ∨ (33 ≤ i ∧ i ≤ 54 ∧ i % 3 = 0)
theorem lay_train : ∀ i, i < 57 → xTr i → lay i = .inl 9 ∧ lay (i + 1) = .inr (0, 8) ∧ lay (i + 2) = .inr (0, 8) := by decide
theorem RS_tr {tt i : Nat} (h : xTr i) : RS tt i 4 = i + 1 ∧ RS tt i 5 = i + 2 := by
  constructor
  · simp only [RS]
    rw [if_neg (by omega), if_neg (by omega), if_neg (by omega), if_neg (by omega), if_neg (by omega), if_neg (by omega), if_neg (by omega), if_neg (by omega), if_neg (by omega), if_neg (by omega), if_neg (by omega), if_neg (by omega), if_neg (by omega), if_neg (by omega), if_neg (by omega), if_neg (by omega)]
    simp
  · simp only [RS]
    rw [if_neg (by omega), if_neg (by omega), if_neg (by omega), if_neg (by omega), if_neg (by omega), if_neg (by omega), if_neg (by omega), if_neg (by omega), if_neg (by omega), if_neg (by omega), if_neg (by omega), if_neg (by omega), if_neg (by omega), if_neg (by omega), if_neg (by omega), if_neg (by omega)]
    simp
theorem oO_churn {c : Nat} (h : c < 10) : xO 209 (85 + c) 1 := ⟨by omega, by omega, lay_churn c h⟩
theorem oO_tank {c : Nat} (h : c < 4) : xO 209 (96 + c) 6 := ⟨by omega, by omega, lay_tank c h⟩
theorem oO_bottling {c : Nat} (h : c < 40) : xO 209 (101 + c) 0 := ⟨by omega, by omega, lay_bottling c h⟩
theorem oO_find {c : Nat} (h : c < 30) : xO 209 (142 + c) 3 := ⟨by omega, by omega, lay_find c h⟩
theorem oA_row {c : Nat} (h : c < 10) : xA 209 (70 + c) 3 9 := ⟨by omega, by omega, lay_row c h, by decide⟩
theorem oO_train {i : Nat} (h : xTr i) : xO 209 i 9 := ⟨by omega, by omega, (lay_train i (by omega) h).1⟩
theorem oA_train1 {i : Nat} (h : xTr i) : xA 209 (i + 1) 0 8 := ⟨by omega, by omega, (lay_train i (by omega) h).2.1, by decide⟩
theorem oA_train2 {i : Nat} (h : xTr i) : xA 209 (i + 2) 0 8 := ⟨by omega, by omega, (lay_train i (by omega) h).2.2, by decide⟩
theorem mu_nf {M : xMm} {i k a c : Nat} {v : Int} (h : c ≠ k) : mu M i k v a c = M a c := mu_n (fun q => h q.2)
theorem mu_nc {M : xMm} {i k a c : Nat} {v : Int} (h : a ≠ i) : mu M i k v a c = M a c := mu_n (fun q => h q.1)
theorem bAnd_255 (x : Int) : 0 ≤ bAnd x 255 ∧ bAnd x 255 ≤ 255 := by
  obtain ⟨j, hj, e⟩ := pk_andE (Int32.ofInt x) (m := Int32.ofInt 255) 8 (by decide)
  show 0 ≤ (Int32.ofInt x &&& Int32.ofInt 255).toInt ∧ (Int32.ofInt x &&& Int32.ofInt 255).toInt ≤ 255
  rw [e, nI_toInt (by omega)]
  omega
/-- the office's numbers: counts, clock, limit, churns, tanks, bottlings, finds -/
def IO (M : xMm) : Prop := (0 ≤ M 1 10 ∧ M 1 10 ≤ 10) ∧ (0 ≤ M 1 13 ∧ M 1 13 ≤ 40) ∧ (0 ≤ M 1 15 ∧ M 1 15 ≤ 30) ∧ (0 ≤ M 1 16 ∧ M 1 16 ≤ 100000) ∧ (1 ≤ M 1 8 ∧ M 1 8 ≤ 100000) ∧ (M 1 7 = 0 ∨ M 1 7 = 1)
  ∧ (∀ c, c < 10 → (0 ≤ M (85 + c) 0 ∧ M (85 + c) 0 ≤ 11) ∧ (0 ≤ M (85 + c) 1 ∧ M (85 + c) 1 ≤ 9) ∧ (0 ≤ M (85 + c) 2 ∧ M (85 + c) 2 ≤ 1439) ∧ (0 ≤ M (85 + c) 3 ∧ M (85 + c) 3 ≤ 100) ∧ (-1 ≤ M (85 + c) 4 ∧ M (85 + c) 4 ≤ 3))
  ∧ (∀ t, t < 4 → (0 ≤ M (96 + t) 0 ∧ M (96 + t) 0 ≤ 1000) ∧ inR (M (96 + t) 1))
  ∧ (∀ k, k < 40 → (0 ≤ M (101 + k) 0 ∧ M (101 + k) 0 ≤ 1000) ∧ inR (M (101 + k) 1) ∧ (0 ≤ M (101 + k) 2 ∧ M (101 + k) 2 ≤ 100000))
  ∧ (∀ k, k < 30 → (0 ≤ M (142 + k) 0 ∧ M (142 + k) 0 ≤ 11) ∧ (0 ≤ M (142 + k) 1 ∧ M (142 + k) 1 ≤ 100000) ∧ (0 ≤ M (142 + k) 2 ∧ M (142 + k) 2 ≤ 100000) ∧ (-1 ≤ M (142 + k) 3 ∧ M (142 + k) 3 ≤ 100000))
/-- the answers of the readers -/
def vOf (M : xMm) (z w : Int) : Int := if 0 ≤ z ∧ z < M 1 10 then (if w = 0 then M (85 + z.toNat) 0 else if w = 1 then M (85 + z.toNat) 1 else if w = 2 then M (85 + z.toNat) 2 else if w = 3 then M (85 + z.toNat) 3 else if w = 4 then M (85 + z.toNat) 4 else -1) else -1
def vTank (M : xMm) (z w : Int) : Int := if 0 ≤ z ∧ z < 4 then (if w = 0 then M (96 + z.toNat) 0 else if w = 1 then M (96 + z.toNat) 1 else -1) else -1
def vBottling (M : xMm) (z w : Int) : Int := if 0 ≤ z ∧ z < M 1 13 then (if w = 0 then M (101 + z.toNat) 0 else if w = 1 then M (101 + z.toNat) 1 else if w = 2 then M (101 + z.toNat) 2 else -1) else -1
/-- a bottling (cell j) is called back at k -/
abbrev pKn (M : xMm) (i : Nat) (k : Int) : Prop := M i 2 ≤ k ∧ (M i 3 = -1 ∨ k < M i 3)
abbrev pCo (M : xMm) (i j : Nat) : Prop := M i 1 ≤ M j 2 ∧ bAnd (M j 1) (bShl 1 (M i 0)) ≠ 0
def pCB (M : xMm) (j : Nat) (k : Int) : Prop := M j 2 ≤ k ∧ ∃ i : Nat, i < (M 1 15).toNat ∧ (pKn M (142 + i) k ∧ pCo M (142 + i) j)
def dCB (M : xMm) (j : Nat) (k : Int) : Decidable (pCB M j k) := inferInstanceAs (Decidable (M j 2 ≤ k ∧ ∃ i : Nat, i < (M 1 15).toNat ∧ (pKn M (142 + i) k ∧ pCo M (142 + i) j)))
/-- the pints that are called back of the first n bottlings -/
def vRs (M : xMm) (k : Int) : Nat → Int
  | 0 => 0
  | n + 1 => vRs M k n + @ite Int (pCB M (101 + n) k) (dCB M (101 + n) k) (M (101 + n) 0) 0
theorem vRs_y {M : xMm} {k : Int} {n : Nat} (h : pCB M (101 + n) k) : vRs M k (n + 1) = vRs M k n + M (101 + n) 0 := by simp only [vRs]; rw [if_pos h]
theorem vRs_n {M : xMm} {k : Int} {n : Nat} (h : ¬ pCB M (101 + n) k) : vRs M k (n + 1) = vRs M k n := by simp only [vRs]; rw [if_neg h, Int.add_zero]
theorem vRs_le {M : xMm} {k : Int} (h : ∀ j, j < 40 → 0 ≤ M (101 + j) 0 ∧ M (101 + j) 0 ≤ 1000) : ∀ n, n ≤ 40 → 0 ≤ vRs M k n ∧ vRs M k n ≤ 1000 * n
  | 0, _ => by simp [vRs]
  | n + 1, hn => by
    have ih := vRs_le (k := k) h n (by omega)
    have := h n (by omega)
    simp only [vRs]
    split <;> omega
/-- the tape: its length, its bytes -/
def IT (M : xMm) : Prop := (0 ≤ M 2 1 ∧ M 2 1 ≤ 1000) ∧ ∀ j, 0 ≤ M 3 j ∧ M 3 j ≤ 255
theorem IT_len {M : xMm} (h : IT M) {z : Int} (h1 : 0 ≤ z) (h2 : z ≤ 1000) : IT (mu M 2 1 z) := by
  refine ⟨by simp only [mu_s]; omega, fun j => ?_⟩
  rw [mu_nc (by decide)]
  exact h.2 j
theorem IT_byte {M : xMm} (h : IT M) {i : Nat} {z : Int} (h1 : 0 ≤ z) (h2 : z ≤ 255) : IT (mu M 3 i z) := by
  refine ⟨by rw [mu_nc (by decide)]; exact h.1, fun j => ?_⟩
  by_cases hj : j = i
  · subst hj
    rw [mu_s]
    omega
  · rw [mu_nf hj]
    exact h.2 j
theorem RS_churn (tt k : Nat) : RS tt 84 k = 85 + k := rfl
theorem RS_tank (tt k : Nat) : RS tt 95 k = 96 + k := rfl
theorem RS_bottling (tt k : Nat) : RS tt 100 k = 101 + k := rfl
theorem RS_find (tt k : Nat) : RS tt 141 k = 142 + k := rfl
theorem RS_row (tt k : Nat) : RS tt 69 k = 70 + k := rfl
/-- a timetable's cell -/
abbrev xTt (q : Nat) : Prop := q = 5 ∨ q = 31
theorem oO_tt {q : Nat} (h : xTt q) : xO 209 q 8 := by rcases h with rfl | rfl <;> decide
theorem oA_tt {q : Nat} (h : xTt q) : xA 209 (q + 1) 4 8 := by rcases h with rfl | rfl <;> decide
theorem RS_tt {tt q : Nat} (h : xTt q) : RS tt q 0 = q + 1 := by rcases h with rfl | rfl <;> rfl
theorem RS_trn {tt q : Nat} (h : xTt q) (k : Nat) : RS tt (q + 1) k = q + 2 + 3 * k := by rcases h with rfl | rfl <;> rfl
theorem xTr_of {q k : Nat} (h : xTt q) (hk : k < 8) : xTr (q + 2 + 3 * k) := by rcases h with rfl | rfl <;> omega
theorem x_int_cases {g : xGT} {n : Nat} {M : xMm} {R : xRm} {k w pc : Nat} {ls : List (Nat × xV)} {st : List xV} (lo hi : Int) {x : Int} (h1 : x < lo ∨ hi < x → xW g n M R k w pc ls (xi x :: st)) (h2 : ¬ x < lo → ¬ hi < x → xW g n M R k w pc ls (xi x :: st)) : xW g n M R k w pc ls (xi x :: st) := by
  by_cases a : x < lo
  · exact h1 (Or.inl a)
  · by_cases c : hi < x
    · exact h1 (Or.inr c)
    · exact h2 a c
theorem x_lk2 {g : xGT} {n : Nat} {M : xMm} {R : xRm} {k w pc : Nat} {ls : List (Nat × xV)} {st : List xV} {x : Int} (p0 : x = 0 → xW g n M R k w pc ls (xi x :: st)) (p1 : x = 1 → xW g n M R k w pc ls (xi x :: st)) (p2 : x ≠ 0 → x ≠ 1 → xW g n M R k w pc ls (xi x :: st)) : xW g n M R k w pc ls (xi x :: st) := by
  by_cases a : x = 0
  · exact p0 a
  · by_cases c : x = 1
    · exact p1 c
    · exact p2 a c
theorem x_sw2 {x : Int} {P : Prop} (h1 : ¬ x < 0) (h2 : ¬ 1 < x) (p0 : x = 0 → P) (p1 : x = 1 → P) : P := by
  rcases (show x = 0 ∨ x = 1 by omega) with h | h
  all_goals first | exact p0 h | exact p1 h
theorem x_sw3 {x : Int} {P : Prop} (h1 : ¬ x < 0) (h2 : ¬ 2 < x) (p0 : x = 0 → P) (p1 : x = 1 → P) (p2 : x = 2 → P) : P := by
  rcases (show x = 0 ∨ x = 1 ∨ x = 2 by omega) with h | h | h
  all_goals first | exact p0 h | exact p1 h | exact p2 h
theorem x_sw5 {x : Int} {P : Prop} (h1 : ¬ x < 0) (h2 : ¬ 4 < x) (p0 : x = 0 → P) (p1 : x = 1 → P) (p2 : x = 2 → P) (p3 : x = 3 → P) (p4 : x = 4 → P) : P := by
  rcases (show x = 0 ∨ x = 1 ∨ x = 2 ∨ x = 3 ∨ x = 4 by omega) with h | h | h | h | h
  all_goals first | exact p0 h | exact p1 h | exact p2 h | exact p3 h | exact p4 h
theorem x_sw7 {x : Int} {P : Prop} (h1 : ¬ x < 0) (h2 : ¬ 6 < x) (p0 : x = 0 → P) (p1 : x = 1 → P) (p2 : x = 2 → P) (p3 : x = 3 → P) (p4 : x = 4 → P) (p5 : x = 5 → P) (p6 : x = 6 → P) : P := by
  rcases (show x = 0 ∨ x = 1 ∨ x = 2 ∨ x = 3 ∨ x = 4 ∨ x = 5 ∨ x = 6 by omega) with h | h | h | h | h | h | h
  all_goals first | exact p0 h | exact p1 h | exact p2 h | exact p3 h | exact p4 h | exact p5 h | exact p6 h
theorem xt_int (x : Int32) : inR x.toInt := ⟨by have := Int32.le_toInt x; omega, by have := Int32.toInt_lt x; omega⟩
