/-! ===== the world by numbers: the i-th cell that the law makes stands at address b + i ===== -/
/-- a value: an int, a long, or a reference by its cell's number -/
abbrev xV : Type := Int ⊕ (Int ⊕ Nat)
abbrev xi (z : Int) : xV := .inl z
abbrev xl (z : Int) : xV := .inr (.inl z)
abbrev xr (i : Nat) : xV := .inr (.inr i)
def cv (b : Nat) : xV → Value
  | .inl z => .int (Int32.ofInt z)
  | .inr (.inl z) => .long (Int64.ofInt z)
  | .inr (.inr i) => .ref (b + i)
abbrev cvs (b : Nat) (l : List (Nat × xV)) : List (Nat × Value) := l.map (fun q => (q.1, cv b q.2))
abbrev xMm : Type := Nat → Nat → Int
abbrev xRm : Type := Nat → Nat → Nat
def mu (M : xMm) (i k : Nat) (v : Int) : xMm := fun a c => if a = i ∧ c = k then v else M a c
def ru (R : xRm) (i k : Nat) (v : Nat) : xRm := fun a c => if a = i ∧ c = k then v else R a c
theorem mu_s (M : xMm) (i k : Nat) (v : Int) : mu M i k v i k = v := by simp [mu]
theorem mu_n {M : xMm} {i k a c : Nat} {v : Int} (h : ¬ (a = i ∧ c = k)) : mu M i k v a c = M a c := by simp [mu, h]
theorem ru_s (R : xRm) (i k : Nat) (v : Nat) : ru R i k v i k = v := by simp [ru]
theorem ru_n {R : xRm} {i k a c : Nat} {v : Nat} (h : ¬ (a = i ∧ c = k)) : ru R i k v a c = R a c := by simp [ru, h]
/-- what each cell is: an object of a class, or an array of a kind and length -/
def layL : List (Nat ⊕ (Nat × Nat)) := [.inl 11, .inl 7, .inr (0, 1000), .inl 5, .inl 8, .inr (4, 8), .inl 9, .inr (0, 8), .inr (0, 8), .inl 9, .inr (0, 8), .inr (0, 8), .inl 9, .inr (0, 8), .inr (0, 8), .inl 9, .inr (0, 8), .inr (0, 8), .inl 9, .inr (0, 8), .inr (0, 8), .inl 9, .inr (0, 8), .inr (0, 8), .inl 9, .inr (0, 8), .inr (0, 8), .inl 9, .inr (0, 8), .inr (0, 8), .inl 8, .inr (4, 8), .inl 9, .inr (0, 8), .inr (0, 8), .inl 9, .inr (0, 8), .inr (0, 8), .inl 9, .inr (0, 8), .inr (0, 8), .inl 9, .inr (0, 8), .inr (0, 8), .inl 9, .inr (0, 8), .inr (0, 8), .inl 9, .inr (0, 8), .inr (0, 8), .inl 9, .inr (0, 8), .inr (0, 8), .inl 9, .inr (0, 8), .inr (0, 8), .inl 2, .inr (0, 24), .inr (2, 10), .inr (0, 29), .inr (0, 29), .inr (0, 29), .inl 10, .inr (0, 64), .inr (0, 64), .inr (0, 64), .inr (0, 64), .inl 4, .inr (9, 10), .inr (3, 9), .inr (3, 9), .inr (3, 9), .inr (3, 9), .inr (3, 9), .inr (3, 9), .inr (3, 9), .inr (3, 9), .inr (3, 9), .inr (3, 9), .inr (0, 10), .inr (0, 9), .inr (3, 9), .inr (0, 9), .inr (5, 10), .inl 1, .inl 1, .inl 1, .inl 1, .inl 1, .inl 1, .inl 1, .inl 1, .inl 1, .inl 1, .inr (6, 4), .inl 6, .inl 6, .inl 6, .inl 6, .inr (7, 40), .inl 0, .inl 0, .inl 0, .inl 0, .inl 0, .inl 0, .inl 0, .inl 0, .inl 0, .inl 0, .inl 0, .inl 0, .inl 0, .inl 0, .inl 0, .inl 0, .inl 0, .inl 0, .inl 0, .inl 0, .inl 0, .inl 0, .inl 0, .inl 0, .inl 0, .inl 0, .inl 0, .inl 0, .inl 0, .inl 0, .inl 0, .inl 0, .inl 0, .inl 0, .inl 0, .inl 0, .inl 0, .inl 0, .inl 0, .inl 0, .inr (8, 30), .inl 3, .inl 3, .inl 3, .inl 3, .inl 3, .inl 3, .inl 3, .inl 3, .inl 3, .inl 3, .inl 3, .inl 3, .inl 3, .inl 3, .inl 3, .inl 3, .inl 3, .inl 3, .inl 3, .inl 3, .inl 3, .inl 3, .inl 3, .inl 3, .inl 3, .inl 3, .inl 3, .inl 3, .inl 3, .inl 3, .inl 12, .inr (1, 1020), .inr (1, 1000), .inr (3, 16), .inr (0, 16), .inr (0, 16), .inr (0, 128), .inr (0, 128), .inr (0, 2), .inr (0, 8), .inr (0, 24), .inr (0, 1741), .inr (0, 1741), .inr (2, 10), .inr (0, 10), .inr (0, 10), .inr (0, 10), .inr (0, 10), .inr (0, 10), .inr (0, 64), .inr (0, 64), .inr (0, 10), .inr (0, 10), .inr (3, 90), .inr (3, 9), .inr (0, 9), .inr (0, 9), .inr (0, 9), .inr (3, 9), .inr (0, 4), .inr (0, 4), .inr (0, 40), .inr (0, 40), .inr (0, 40), .inr (0, 30), .inr (0, 30), .inr (0, 30), .inr (0, 30)]
def lay (i : Nat) : Nat ⊕ (Nat × Nat) := layL.getD (i - 1) (.inl 99)
def xfk : Nat → List Nat
  | 0 => [0, 0, 0]
  | 1 => [0, 0, 0, 0, 0]
  | 2 => [2, 2, 2, 2, 2]
  | 3 => [0, 0, 0, 0]
  | 4 => [2, 2, 2, 2, 2, 2, 0, 0, 0]
  | 5 => [2, 0, 0, 0, 1, 0, 0, 0]
  | 6 => [0, 0]
  | 7 => [2, 0]
  | 8 => [2, 0]
  | 9 => [1, 0, 0, 0, 2, 2]
  | 10 => [2, 2, 2, 2, 2, 0, 0, 0, 0]
  | 11 => [2, 2, 2, 2, 2, 2, 2, 0, 0, 2, 0, 2, 2, 0, 2, 0, 0]
  | 12 => [2, 2, 0, 0, 0, 0, 0, 0, 0, 0, 1, 2, 2, 2, 2, 2, 2, 2, 0, 0, 2, 2, 2, 2, 0, 2, 2, 2, 2, 2, 0, 2, 2, 0, 0, 0, 2, 2, 0, 0, 2, 2, 2, 2, 2, 2, 2, 2, 2, 2, 2, 2, 2, 2, 2, 0, 0, 0]
  | _ => []

abbrev xrf (b r : Nat) : Option Nat := if r = 0 then none else some (b + r)
def xfv (b : Nat) (M : xMm) (R : xRm) (i k t : Nat) : Value := if t = 0 then .int (Int32.ofInt (M i k)) else if t = 1 then .long (Int64.ofInt (M i k)) else va_rf (xrf b (R i k))
def xfs (b : Nat) (M : xMm) (R : xRm) (i : Nat) (ts : List Nat) : List Value := (List.range ts.length).map (fun k => xfv b M R i k (ts.getD k 0))
def xarr (b : Nat) (M : xMm) (R : xRm) (i t : Nat) : ((Nat → Int32) ⊕ (Nat → Int64) ⊕ (Nat → UInt32) ⊕ (Nat → UInt64) ⊕ (Nat → Option Nat)) :=
  if t ≤ 2 then .inl (fun j => Int32.ofInt (M i j)) else if t = 3 then .inr (.inl (fun j => Int64.ofInt (M i j))) else .inr (.inr (.inr (.inr (fun j => xrf b (R i j)))))
def xcell (cy : Nat → ClassId) (b : Nat) (M : xMm) (R : xRm) (i : Nat) : va_E := match lay i with
  | .inl ci => .inr (ci, xfs b M R i (xfk ci))
  | .inr (t, n) => .inl (cy t, n, xarr b M R i t)
def xws (cy : Nat → ClassId) (b n : Nat) (M : xMm) (R : xRm) : va_W := (List.range n).map (fun i => (b + (i + 1), xcell cy b M R (i + 1)))
theorem xws_at {cy : Nat → ClassId} {b n : Nat} {M : xMm} {R : xRm} {i : Nat} (h1 : 1 ≤ i) (h2 : i ≤ n) : (xws cy b n M R)[i - 1]? = some (b + i, xcell cy b M R i) := by
  obtain ⟨j, rfl⟩ : ∃ j, i = j + 1 := ⟨i - 1, by omega⟩
  simp [xws, show j < n by omega]
theorem xws_get {cy : Nat → ClassId} {b n : Nat} {M : xMm} {R : xRm} {k : Nat} {q : Nat × va_E} (h : (xws cy b n M R)[k]? = some q) : k < n ∧ q = (b + (k + 1), xcell cy b M R (k + 1)) := by
  simp only [xws, List.getElem?_map] at h
  cases hk : (List.range n)[k]? with
  | none => rw [hk] at h; cases h
  | some j =>
    rw [hk] at h
    have hj := List.getElem?_eq_some_iff.mp hk
    obtain ⟨h1, h2⟩ := hj
    simp at h1 h2
    subst h2
    exact ⟨h1, (Option.some.inj h).symm⟩
theorem xws_D {cy : Nat → ClassId} {b n : Nat} {M : xMm} {R : xRm} : va_D (fun q => b < q) (xws cy b n M R) := by
  refine ⟨fun i j p q hp hq e => ?_, fun k q hk => ?_⟩
  · obtain ⟨-, rfl⟩ := xws_get hp
    obtain ⟨-, rfl⟩ := xws_get hq
    simp at e
    omega
  · obtain ⟨-, rfl⟩ := xws_get hk
    show b < b + (k + 1)
    omega
theorem xws_set {cy : Nat → ClassId} {b n : Nat} {M M' : xMm} {R R' : xRm} {i : Nat} {e : va_E} (h1 : 1 ≤ i) (h2 : i ≤ n) (he : xcell cy b M' R' i = e) (ho : ∀ j, j ≠ i → xcell cy b M' R' j = xcell cy b M R j) : (xws cy b n M R).set (i - 1) (b + i, e) = xws cy b n M' R' := by
  obtain ⟨i', rfl⟩ : ∃ j, i = j + 1 := ⟨i - 1, by omega⟩
  apply List.ext_getElem?
  intro j
  by_cases hj : j = i'
  · subst hj
    rw [show j + 1 - 1 = j by omega, List.getElem?_set_self (by simp [xws]; omega)]
    have := xws_at (cy := cy) (b := b) (M := M') (R := R') h1 h2
    rw [show j + 1 - 1 = j by omega] at this
    rw [this, he]
  · rw [show i' + 1 - 1 = i' by omega, List.getElem?_set_ne (fun q => hj q.symm)]
    by_cases hn : j < n
    · simp [xws, hn, ho (j + 1) (by omega)]
    · simp [xws, hn]
theorem xfs_len {b : Nat} {M : xMm} {R : xRm} {i : Nat} {ts : List Nat} : (xfs b M R i ts).length = ts.length := by simp [xfs]
theorem xfs_at {b : Nat} {M : xMm} {R : xRm} {i k t : Nat} {ts : List Nat} (h : ts[k]? = some t) : (xfs b M R i ts)[k]? = some (xfv b M R i k t) := by
  obtain ⟨hl, rfl⟩ := List.getElem?_eq_some_iff.mp h
  simp [xfs, hl]
theorem xfs_set {b : Nat} {M M' : xMm} {R R' : xRm} {i k t : Nat} {ts : List Nat} {v : Value} (h : ts[k]? = some t) (hv : xfv b M' R' i k t = v) (ho : ∀ c, c ≠ k → M' i c = M i c ∧ R' i c = R i c) : (xfs b M R i ts).set k v = xfs b M' R' i ts := by
  have hl := (List.getElem?_eq_some_iff.mp h).1
  apply List.ext_getElem?
  intro j
  by_cases hj : j = k
  · subst hj
    rw [List.getElem?_set_self (by rw [xfs_len]; exact hl), xfs_at h, hv]
  · rw [List.getElem?_set_ne (fun q => hj q.symm)]
    by_cases hn : j < ts.length
    · obtain ⟨t2, ht2⟩ : ∃ t2, ts[j]? = some t2 := ⟨_, List.getElem?_eq_getElem hn⟩
      rw [xfs_at ht2, xfs_at ht2]
      simp [xfv, (ho j hj).1, (ho j hj).2]
    · rw [List.getElem?_eq_none (by rw [xfs_len]; omega), List.getElem?_eq_none (by rw [xfs_len]; omega)]
theorem xcell_congr {cy : Nat → ClassId} {b : Nat} {M M' : xMm} {R R' : xRm} {i : Nat} (hM : ∀ c, M' i c = M i c) (hR : ∀ c, R' i c = R i c) : xcell cy b M' R' i = xcell cy b M R i := by
  have e1 : ∀ ts, xfs b M' R' i ts = xfs b M R i ts := fun ts => by simp [xfs, xfv, hM, hR]
  have e2 : ∀ t, xarr b M' R' i t = xarr b M R i t := fun t => by simp [xarr, hM, hR]
  simp only [xcell, e1, e2]
/-- the kinds of arrays -/
abbrev xtys (cy : Nat → ClassId) : List (ClassId × FieldType) := [(cy 0, .int), (cy 1, .byte), (cy 2, .boolean), (cy 3, .long), (cy 4, .object "MilkTrain$Train"), (cy 5, .object "MilkTrain$Churn"), (cy 6, .object "MilkTrain$Tank"), (cy 7, .object "MilkTrain$Bottling"), (cy 8, .object "MilkTrain$Find"), (cy 9, .array .long)]
def isNest : Cond → Bool
  | .fieldLinkNest .. => true
  | .methodLinkNest .. => true
  | _ => false
def xK (D : va_G) (cy : Nat → ClassId) (U : State) : Prop := va_K D vwCl (xtys cy) U ∧ ∀ w ∈ lw_tbl, isNest w = true → va_Nw w U
theorem xK_warm {D : va_G} {cy : Nat → ClassId} {s U : State} (h : xK D cy s) (hW : s.WarmedH U.vm) : xK D cy U := by
  refine ⟨va_K.moved hW.alike h.1, fun w hw hn => ?_⟩
  have h2 := h.2 w hw hn
  cases w <;> first | exact va_Nw.warmF hW h2 | exact va_Nw.warmM hW h2 | (simp [isNest] at hn)
theorem xK_same {D : va_G} {cy : Nat → ClassId} {s U : State} (h : xK D cy s) (e : s.vm = U.vm) : xK D cy U := by
  refine ⟨va_K.moved (by rw [e]; exact Vm.Alike.refl U.vm) h.1, fun w hw hn => ?_⟩
  have h2 := h.2 w hw hn
  cases w <;> first | (simp [isNest] at hn; done) | exact va_Nw.same rfl e h2
/-- the heap holds the first n cells of the world -/
def xWd (D : va_G) (cy : Nat → ClassId) (b n : Nat) (M : xMm) (R : xRm) (H : Heap) : Prop := H.size = b + 1 + n ∧ va_P D vwCl (xws cy b n M R) H
theorem xWd_obj {D : va_G} {cy : Nat → ClassId} {b n : Nat} {M : xMm} {R : xRm} {i ci : Nat} (h1 : 1 ≤ i) (h2 : i ≤ n) (hl : lay i = .inl ci) : (xws cy b n M R)[i - 1]? = some (b + i, .inr (ci, xfs b M R i (xfk ci))) := by
  rw [xws_at h1 h2]
  simp [xcell, hl]
theorem xWd_arr {D : va_G} {cy : Nat → ClassId} {b n : Nat} {M : xMm} {R : xRm} {i t len : Nat} (h1 : 1 ≤ i) (h2 : i ≤ n) (hl : lay i = .inr (t, len)) : (xws cy b n M R)[i - 1]? = some (b + i, .inl (cy t, len, xarr b M R i t)) := by
  rw [xws_at h1 h2]
  simp [xcell, hl]
theorem inX0 : ∀ w ∈ wsX00, w ∈ lw_tbl ∧ goodWord w = true := by decide +kernel
theorem inX1 : ∀ w ∈ wsX10, w ∈ lw_tbl ∧ goodWord w = true := by decide +kernel
theorem inX2 : ∀ w ∈ wsX20, w ∈ lw_tbl ∧ goodWord w = true := by decide +kernel
theorem inX3 : ∀ w ∈ wsX30, w ∈ lw_tbl ∧ goodWord w = true := by decide +kernel
theorem inX4 : ∀ w ∈ wsX40, w ∈ lw_tbl ∧ goodWord w = true := by decide +kernel
theorem inX5 : ∀ w ∈ wsX50, w ∈ lw_tbl ∧ goodWord w = true := by decide +kernel
theorem inX6 : ∀ w ∈ wsX60, w ∈ lw_tbl ∧ goodWord w = true := by decide +kernel
theorem inX7 : ∀ w ∈ wsX70, w ∈ lw_tbl ∧ goodWord w = true := by decide +kernel
theorem inX8 : ∀ w ∈ wsX80, w ∈ lw_tbl ∧ goodWord w = true := by decide +kernel
theorem inX9 : ∀ w ∈ wsX90, w ∈ lw_tbl ∧ goodWord w = true := by decide +kernel
theorem inX10 : ∀ w ∈ wsX100, w ∈ lw_tbl ∧ goodWord w = true := by decide +kernel
theorem inX11 : ∀ w ∈ wsX110, w ∈ lw_tbl ∧ goodWord w = true := by decide +kernel
theorem inX12 : ∀ w ∈ wsX120, w ∈ lw_tbl ∧ goodWord w = true := by decide +kernel
theorem xcl {ci : Nat} {q : vw_C} (h : vwCl[ci]? = some q) : (∀ w ∈ u_ws q.1 q.2.1 q.2.2, w ∈ lw_tbl ∧ goodWord w = true) ∧ ∃ ty0 : Nat → FieldType, (∀ k, k < q.2.2 → parseFieldDescriptor (q.2.1 k).2.2.1 = some (ty0 k)) ∧ (∀ a, a < q.2.2 → ∀ b, b < q.2.2 → a ≠ b → (q.2.1 a).2.1 ≠ (q.2.1 b).2.1) := by
  match ci, h with
  | 0, h => cases h; exact ⟨inX0, tyX0, tyX0_ok, nmX0⟩
  | 1, h => cases h; exact ⟨inX1, tyX1, tyX1_ok, nmX1⟩
  | 2, h => cases h; exact ⟨inX2, tyX2, tyX2_ok, nmX2⟩
  | 3, h => cases h; exact ⟨inX3, tyX3, tyX3_ok, nmX3⟩
  | 4, h => cases h; exact ⟨inX4, tyX4, tyX4_ok, nmX4⟩
  | 5, h => cases h; exact ⟨inX5, tyX5, tyX5_ok, nmX5⟩
  | 6, h => cases h; exact ⟨inX6, tyX6, tyX6_ok, nmX6⟩
  | 7, h => cases h; exact ⟨inX7, tyX7, tyX7_ok, nmX7⟩
  | 8, h => cases h; exact ⟨inX8, tyX8, tyX8_ok, nmX8⟩
  | 9, h => cases h; exact ⟨inX9, tyX9, tyX9_ok, nmX9⟩
  | 10, h => cases h; exact ⟨inX10, tyX10, tyX10_ok, nmX10⟩
  | 11, h => cases h; exact ⟨inX11, tyX11, tyX11_ok, nmX11⟩
  | 12, h => cases h; exact ⟨inX12, tyX12, tyX12_ok, nmX12⟩
  | n + 13, h => simp [vwCl] at h
/-- numbers -/
abbrev inR (z : Int) : Prop := -2147483648 ≤ z ∧ z ≤ 2147483647
abbrev inL (z : Int) : Prop := -9223372036854775808 ≤ z ∧ z ≤ 9223372036854775807
theorem oi_t {a : Int} (h : inR a) : (Int32.ofInt a).toInt = a := by
  rw [Int32.toInt_ofInt]
  have : Int32.size = 4294967296 := rfl
  rw [this]
  simp only [Int.bmod]
  omega
theorem ol_t {a : Int} (h : inL a) : (Int64.ofInt a).toInt = a := by
  rw [Int64.toInt_ofInt]
  have : Int64.size = 18446744073709551616 := rfl
  rw [this]
  simp only [Int.bmod]
  omega
theorem oi_lt {a c : Int} (ha : inR a) (hc : inR c) : Int32.ofInt a < Int32.ofInt c ↔ a < c := by rw [Int32.lt_iff_toInt_lt, oi_t ha, oi_t hc]
theorem oi_le {a c : Int} (ha : inR a) (hc : inR c) : Int32.ofInt a ≤ Int32.ofInt c ↔ a ≤ c := by rw [Int32.le_iff_toInt_le, oi_t ha, oi_t hc]
theorem oi_eq {a c : Int} (ha : inR a) (hc : inR c) : Int32.ofInt a = Int32.ofInt c ↔ a = c := by rw [← Int32.toInt_inj, oi_t ha, oi_t hc]
theorem ol_lt {a c : Int} (ha : inL a) (hc : inL c) : Int64.ofInt a < Int64.ofInt c ↔ a < c := by rw [Int64.lt_iff_toInt_lt, ol_t ha, ol_t hc]
theorem ol_eq {a c : Int} (ha : inL a) (hc : inL c) : Int64.ofInt a = Int64.ofInt c ↔ a = c := by rw [← Int64.toInt_inj, ol_t ha, ol_t hc]
theorem oi_0 : (0 : Int32) = Int32.ofInt 0 := rfl
theorem oi_nat {a : Int} (h0 : 0 ≤ a) (h : a ≤ 2147483647) : Int32.ofInt a = nI a.toNat := by
  rw [← Int32.toInt_inj, oi_t ⟨by omega, h⟩, nI_toInt (by omega)]
  omega
theorem oi_cl {a : Int} (h0 : 0 ≤ a) (h : a ≤ 2147483647) : (Int32.ofInt a).toNatClampNeg = a.toNat := by
  rw [oi_nat h0 h, nI_clamp (by omega)]
theorem oi_in {a : Int} {n : Nat} (h0 : 0 ≤ a) (h : a < n) (hn : n ≤ 2147483647) : vp_in (Int32.ofInt a) n := by
  rw [oi_nat h0 (by omega)]
  exact vp_in_nI (by omega) (by omega)
/-- a field as a class's constant names it -/
def xFl (own : String) (idx ci f : Nat) : Prop := ∃ q : vw_C, vwCl[ci]? = some q ∧ f < q.2.2 ∧ (q.2.1 f).1 = q.1 ∧ (Cond.fieldLink own idx q.1 (q.2.1 f).2.1 (q.2.1 f).2.2.1 ∈ lw_tbl ∨ ∃ host, Cond.fieldLinkNest own idx q.1 (q.2.1 f).2.1 (q.2.1 f).2.2.1 host ∈ lw_tbl)
/-- a field that may be written, and its type -/
def xFt (ci f : Nat) (ty : FieldType) : Prop := ∃ q : vw_C, vwCl[ci]? = some q ∧ (q.2.1 f).2.2.2 = false ∧ parseFieldDescriptor (q.2.1 f).2.2.1 = some ty
/-- what a call of a method of an object stands on: the tables' words -/
def xMV (own : String) (idx ci : Nat) (y : MethodName) (code : ByteArray) (maxL : Nat) (ret : Option FieldType) (na : Nat) : Prop :=
  (∃ q : vw_C, vwCl[ci]? = some q ∧ y.cls = q.1) ∧ Cond.methodLink own idx y ∈ lw_tbl ∧ Cond.instanceMethod y ∈ lw_tbl ∧ Cond.selects y.cls y y ∈ lw_tbl ∧ Cond.initialized y.cls ∈ lw_tbl ∧ Cond.code y code maxL ret ∈ lw_tbl ∧ goodWord (Cond.code y code maxL ret) = true ∧ (y.cls ≠ "java/lang/invoke/MethodHandle" ∧ y.cls ≠ "java/lang/invoke/VarHandle" ∧ (parseMethodDescriptor y.desc).map (fun d => d.parameters.length) = some na)
def xMS (own : String) (idx : Nat) (y : MethodName) (code : ByteArray) (maxL : Nat) (ret : Option FieldType) (na : Nat) : Prop :=
  Cond.methodLink own idx y ∈ lw_tbl ∧ Cond.static y ∈ lw_tbl ∧ Cond.initialized y.cls ∈ lw_tbl ∧ Cond.code y code maxL ret ∈ lw_tbl ∧ goodWord (Cond.code y code maxL ret) = true ∧ (y.cls ≠ "java/lang/invoke/MethodHandle" ∧ y.cls ≠ "java/lang/invoke/VarHandle" ∧ (parseMethodDescriptor y.desc).map (fun d => d.parameters.length) = some na)
