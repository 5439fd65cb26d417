/-! ===== the constructors ===== -/
theorem ru_nc {R : xRm} {i k a c : Nat} {v : Nat} (h : a ≠ i) : ru R i k v a c = R a c := ru_n (fun q => h q.1)
/-- the cells lo .. hi are finished -/
def rF (R : xRm) (lo hi : Nat) : xRm := fun a k => if lo ≤ a ∧ a ≤ hi then RS 5 a k else R a k
theorem sameR_F {n lo : Nat} {R1 R : xRm} (h0 : ∀ a, a < lo → ∀ k, R1 a k = R a k) (h : ∀ i, lo ≤ i → i ≤ n → (∀ ci, lay i = .inl ci → ∀ j, j < (xfk ci).length → 2 ≤ (xfk ci).getD j 0 → R1 i j = RS 5 i j) ∧ (∀ t len, lay i = .inr (t, len) → 4 ≤ t → ∀ j, j < len → R1 i j = RS 5 i j)) : sameR n R1 (rF R lo n) := by
  intro i h1 h2
  by_cases e : lo ≤ i
  · obtain ⟨a, b⟩ := h i e h2
    unfold rF
    simp only [show lo ≤ i ∧ i ≤ n from ⟨e, h2⟩, and_self, if_true]
    exact ⟨a, b⟩
  · unfold rF
    simp only [show ¬ (lo ≤ i ∧ i ≤ n) from fun q => e q.1, if_false]
    exact ⟨fun _ _ j _ _ => h0 i (by omega) j, fun _ _ _ _ j _ => h0 i (by omega) j⟩
/-- by trying all -/
def sameB (lo n : Nat) (R R' : xRm) : Bool := (List.range (n + 1)).all (fun i => decide (i < lo) || match lay i with
  | .inl ci => (List.range (xfk ci).length).all (fun j => decide ((xfk ci).getD j 0 < 2) || decide (R i j = R' i j))
  | .inr (t, len) => decide (t < 4) || (List.range len).all (fun j => decide (R i j = R' i j)))
theorem sameB_at {lo n : Nat} {R R' : xRm} (h : sameB lo n R R' = true) {i : Nat} (h1 : lo ≤ i) (h2 : i ≤ n) : (∀ ci, lay i = .inl ci → ∀ j, j < (xfk ci).length → 2 ≤ (xfk ci).getD j 0 → R i j = R' i j) ∧ (∀ t len, lay i = .inr (t, len) → 4 ≤ t → ∀ j, j < len → R i j = R' i j) := by
  have h3 := List.all_eq_true.mp h i (List.mem_range.mpr (by omega))
  rw [Bool.or_eq_true, decide_eq_true_eq] at h3
  rcases h3 with h3 | h3
  · omega
  · refine ⟨fun ci hl j hj hk => ?_, fun t len hl ht j hj => ?_⟩
    · rw [hl] at h3
      have h4 := List.all_eq_true.mp h3 j (List.mem_range.mpr hj)
      rw [Bool.or_eq_true, decide_eq_true_eq, decide_eq_true_eq] at h4
      omega
    · rw [hl] at h3
      simp only [Bool.or_eq_true, decide_eq_true_eq] at h3
      rcases h3 with h3 | h3
      · omega
      · have h4 := List.all_eq_true.mp h3 j (List.mem_range.mpr hj)
        exact of_decide_eq_true h4
theorem sameB_ok {n : Nat} {R R' : xRm} (h : sameB 1 n R R' = true) : sameR n R R' := fun i h1 h2 => sameB_at h h1 h2
/-- a row of objects, filled up to i -/
def rA (R : xRm) (q i : Nat) : xRm := fun a f => if a = q ∧ f < i then q + 1 + f else R a f
theorem rA_0 (R : xRm) (q : Nat) : rA R q 0 = R := by
  funext a f; unfold rA; rw [if_neg (by omega)]
theorem rA_s {R : xRm} {q i v : Nat} {j : Int} (hj : j.toNat = i) (hv : v = q + 1 + i) : ru (rA R q i) q j.toNat v = rA R q (i + 1) := by
  subst hv
  funext a f
  unfold ru rA
  rw [hj]
  by_cases e1 : a = q ∧ f = i
  · rw [if_pos e1, if_pos (by omega)]; omega
  · rw [if_neg e1]
    by_cases e2 : a = q ∧ f < i
    · rw [if_pos e2, if_pos (by omega)]
    · rw [if_neg e2, if_neg (by omega)]
theorem rA_n {R : xRm} {q i a : Nat} (h : a ≠ q) (f : Nat) : rA R q i a f = R a f := by
  unfold rA; rw [if_neg (fun z => h z.1)]
/-- a column, filled up to i -/
def cM (M : xMm) (q c i : Nat) : xMm := fun a f => if q ≤ a ∧ a < q + i ∧ f = c then -1 else M a f
theorem cM_0 (M : xMm) (q c : Nat) : cM M q c 0 = M := by
  funext a f; unfold cM; rw [if_neg (by omega)]
theorem cM_s {M : xMm} {q c i a0 : Nat} (h : a0 = q + i) : mu (cM M q c i) a0 c (-1) = cM M q c (i + 1) := by
  subst h
  funext a f
  unfold mu cM
  by_cases e1 : a = q + i ∧ f = c
  · rw [if_pos e1, if_pos (by omega)]
  · rw [if_neg e1]
    by_cases e2 : q ≤ a ∧ a < q + i ∧ f = c
    · rw [if_pos e2, if_pos (by omega)]
    · rw [if_neg e2, if_neg (by omega)]
theorem cM_n {M : xMm} {q c i a : Nat} (h : a < q ∨ q + i ≤ a) (f : Nat) : cM M q c i a f = M a f := by
  unfold cM; rw [if_neg (by omega)]
/-- a row of numbers, filled up to i -/
def wM (M : xMm) (q i : Nat) : xMm := fun a f => if a = q ∧ f < i then -1 else M a f
theorem wM_0 (M : xMm) (q : Nat) : wM M q 0 = M := by
  funext a f; unfold wM; rw [if_neg (by omega)]
theorem wM_s {M : xMm} {q i : Nat} {j : Int} (hj : j.toNat = i) : mu (wM M q i) q j.toNat (-1) = wM M q (i + 1) := by
  funext a f
  unfold mu wM
  rw [hj]
  by_cases e1 : a = q ∧ f = i
  · rw [if_pos e1, if_pos (by omega)]
  · rw [if_neg e1]
    by_cases e2 : a = q ∧ f < i
    · rw [if_pos e2, if_pos (by omega)]
    · rw [if_neg e2, if_neg (by omega)]
theorem wM_n {M : xMm} {q i a : Nat} (h : a ≠ q) (f : Nat) : wM M q i a f = M a f := by
  unfold wM; rw [if_neg (fun z => h z.1)]
/-- a timetable, its first k trains made -/
def rL (R : xRm) (q k : Nat) : xRm := fun a j => if a = q + 1 ∧ j < k then q + 2 + 3 * j else if a = q ∧ j = 0 then q + 1 else if q + 2 ≤ a ∧ a ≤ q + 1 + 3 * k then RS 5 a j else R a j
theorem rL_0 (R : xRm) (q : Nat) : rL R q 0 = ru R q 0 (q + 1) := by
  funext a j
  unfold rL ru
  rw [if_neg (by omega)]
  by_cases e : a = q ∧ j = 0
  · rw [if_pos e, if_pos e]
  · rw [if_neg e, if_neg e, if_neg (by omega)]
theorem rL_s {R : xRm} {q k : Nat} {z : Int} (hz : z.toNat = k) {v lo hi : Nat} (hv : v = q + 2 + 3 * k) (hlo : lo = q + 2 + 3 * k) (hhi : hi = q + 4 + 3 * k) : ru (rF (rL R q k) lo hi) (q + 1) z.toNat v = rL R q (k + 1) := by
  subst hv hlo hhi
  funext a j
  unfold ru rF rL
  rw [hz]
  by_cases h1 : a = q + 1
  · by_cases h2 : j < k
    · repeat (first | rw [if_pos (by omega)] | rw [if_neg (by omega)])
    · by_cases h3 : j = k
      · rw [if_pos (by omega), if_pos (by omega), h3]
      · repeat (first | rw [if_pos (by omega)] | rw [if_neg (by omega)])
  · by_cases h4 : a = q ∧ j = 0
    · repeat (first | rw [if_pos (by omega)] | rw [if_neg (by omega)])
    · by_cases h5 : q + 2 ≤ a ∧ a ≤ q + 1 + 3 * k
      · repeat (first | rw [if_pos (by omega)] | rw [if_neg (by omega)])
      · by_cases h6 : q + 2 + 3 * k ≤ a ∧ a ≤ q + 4 + 3 * k
        · repeat (first | rw [if_pos (by omega)] | rw [if_neg (by omega)])
        · repeat (first | rw [if_pos (by omega)] | rw [if_neg (by omega)])
theorem lay_tt {q : Nat} (h : xTt q) : lay q = .inl 8 ∧ lay (q + 1) = .inr (4, 8) := by rcases h with rfl | rfl <;> decide

theorem oi_X0_1 : Cond.methodLink RX0 1 Lib.objectInit ∈ lw_tbl := (List.mem_of_getElem? (i := 361) (by decide +kernel))
theorem oi_X1_3 : Cond.methodLink RX1 3 Lib.objectInit ∈ lw_tbl := (List.mem_of_getElem? (i := 318) (by decide +kernel))
theorem oi_X2_3 : Cond.methodLink RX2 3 Lib.objectInit ∈ lw_tbl := (List.mem_of_getElem? (i := 203) (by decide +kernel))
theorem ff_X2_9 : xFf RX2 9 2 0 (.array .int) := ⟨_, rfl, by decide, rfl, rfl, rfl, by decide +kernel, rfl, (List.mem_of_getElem? (i := 218) (by decide +kernel))⟩
theorem ff_X2_15 : xFf RX2 15 2 1 (.array .boolean) := ⟨_, rfl, by decide, rfl, rfl, rfl, by decide +kernel, rfl, (List.mem_of_getElem? (i := 219) (by decide +kernel))⟩
theorem ff_X2_19 : xFf RX2 19 2 2 (.array .int) := ⟨_, rfl, by decide, rfl, rfl, rfl, by decide +kernel, rfl, (List.mem_of_getElem? (i := 221) (by decide +kernel))⟩
theorem ff_X2_22 : xFf RX2 22 2 3 (.array .int) := ⟨_, rfl, by decide, rfl, rfl, rfl, by decide +kernel, rfl, (List.mem_of_getElem? (i := 222) (by decide +kernel))⟩
theorem ff_X2_25 : xFf RX2 25 2 4 (.array .int) := ⟨_, rfl, by decide, rfl, rfl, rfl, by decide +kernel, rfl, (List.mem_of_getElem? (i := 223) (by decide +kernel))⟩
theorem oi_X3_3 : Cond.methodLink RX3 3 Lib.objectInit ∈ lw_tbl := (List.mem_of_getElem? (i := 380) (by decide +kernel))
theorem oi_X4_5 : Cond.methodLink RX4 5 Lib.objectInit ∈ lw_tbl := (List.mem_of_getElem? (i := 278) (by decide +kernel))
theorem cl_X4_11 : Cond.classLink RX4 11 "[[J" ∈ lw_tbl := (List.mem_of_getElem? (i := 279) (by decide +kernel))
theorem ff_X4_13 : xFf RX4 13 4 1 (.array (.array .long)) := ⟨_, rfl, by decide, rfl, rfl, rfl, by decide +kernel, rfl, (List.mem_of_getElem? (i := 282) (by decide +kernel))⟩
theorem ff_X4_16 : xFf RX4 16 4 2 (.array .int) := ⟨_, rfl, by decide, rfl, rfl, rfl, by decide +kernel, rfl, (List.mem_of_getElem? (i := 283) (by decide +kernel))⟩
theorem ff_X4_20 : xFf RX4 20 4 3 (.array .int) := ⟨_, rfl, by decide, rfl, rfl, rfl, by decide +kernel, rfl, (List.mem_of_getElem? (i := 284) (by decide +kernel))⟩
theorem ff_X4_23 : xFf RX4 23 4 4 (.array .long) := ⟨_, rfl, by decide, rfl, rfl, rfl, by decide +kernel, rfl, (List.mem_of_getElem? (i := 285) (by decide +kernel))⟩
theorem ff_X4_27 : xFf RX4 27 4 5 (.array .int) := ⟨_, rfl, by decide, rfl, rfl, rfl, by decide +kernel, rfl, (List.mem_of_getElem? (i := 286) (by decide +kernel))⟩
theorem ff_X4_30 : xFf RX4 30 4 0 (.object "MilkTrain$WayFinder") := ⟨_, rfl, by decide, rfl, rfl, rfl, by decide +kernel, rfl, (List.mem_of_getElem? (i := 281) (by decide +kernel))⟩
theorem oi_X5_3 : Cond.methodLink RX5 3 Lib.objectInit ∈ lw_tbl := (List.mem_of_getElem? (i := 114) (by decide +kernel))
theorem ff_X5_9 : xFf RX5 9 5 0 (.object "MilkTrain$Tape") := ⟨_, rfl, by decide, rfl, rfl, rfl, by decide +kernel, rfl, (List.mem_of_getElem? (i := 115) (by decide +kernel))⟩
theorem oi_X6_3 : Cond.methodLink RX6 3 Lib.objectInit ∈ lw_tbl := (List.mem_of_getElem? (i := 345) (by decide +kernel))
theorem oi_X7_3 : Cond.methodLink RX7 3 Lib.objectInit ∈ lw_tbl := (List.mem_of_getElem? (i := 98) (by decide +kernel))
theorem ff_X7_9 : xFf RX7 9 7 0 (.array .int) := ⟨_, rfl, by decide, rfl, rfl, rfl, by decide +kernel, rfl, (List.mem_of_getElem? (i := 99) (by decide +kernel))⟩
theorem oi_X8_3 : Cond.methodLink RX8 3 Lib.objectInit ∈ lw_tbl := (List.mem_of_getElem? (i := 147) (by decide +kernel))
theorem cl_X8_9 : Cond.classLink RX8 9 "MilkTrain$Train" ∈ lw_tbl := (List.mem_of_getElem? (i := 148) (by decide +kernel))
theorem ff_X8_11 : xFf RX8 11 8 0 (.array (.object "MilkTrain$Train")) := ⟨_, rfl, by decide, rfl, rfl, rfl, by decide +kernel, rfl, (List.mem_of_getElem? (i := 184) (by decide +kernel))⟩
theorem nw_X8_9 : xNw RX8 9 9 6 := ⟨_, rfl, rfl, (List.mem_of_getElem? (i := 148) (by decide +kernel)), (List.mem_of_getElem? (i := 150) (by decide +kernel)), (List.mem_of_getElem? (i := 75) (by decide +kernel))⟩
theorem mi_X8_17 : xMI RX8 17 yX9_init cX9_init 1 0 := ⟨Or.inr ⟨"MilkTrain", (List.mem_of_getElem? (i := 151) (by decide +kernel))⟩, (List.mem_of_getElem? (i := 152) (by decide +kernel)), (List.mem_of_getElem? (i := 75) (by decide +kernel)), (List.mem_of_getElem? (i := 153) (by decide +kernel)), by decide +kernel, rfl, by decide +kernel⟩
theorem oi_X9_3 : Cond.methodLink RX9 3 Lib.objectInit ∈ lw_tbl := (List.mem_of_getElem? (i := 154) (by decide +kernel))
theorem ff_X9_9 : xFf RX9 9 9 4 (.array .int) := ⟨_, rfl, by decide, rfl, rfl, rfl, by decide +kernel, rfl, (List.mem_of_getElem? (i := 167) (by decide +kernel))⟩
theorem ff_X9_15 : xFf RX9 15 9 5 (.array .int) := ⟨_, rfl, by decide, rfl, rfl, rfl, by decide +kernel, rfl, (List.mem_of_getElem? (i := 169) (by decide +kernel))⟩
theorem oi_X10_3 : Cond.methodLink RX10 3 Lib.objectInit ∈ lw_tbl := (List.mem_of_getElem? (i := 241) (by decide +kernel))
theorem ff_X10_11 : xFf RX10 11 10 1 (.array .int) := ⟨_, rfl, by decide, rfl, rfl, rfl, by decide +kernel, rfl, (List.mem_of_getElem? (i := 243) (by decide +kernel))⟩
theorem ff_X10_15 : xFf RX10 15 10 2 (.array .int) := ⟨_, rfl, by decide, rfl, rfl, rfl, by decide +kernel, rfl, (List.mem_of_getElem? (i := 244) (by decide +kernel))⟩
theorem ff_X10_18 : xFf RX10 18 10 3 (.array .int) := ⟨_, rfl, by decide, rfl, rfl, rfl, by decide +kernel, rfl, (List.mem_of_getElem? (i := 245) (by decide +kernel))⟩
theorem ff_X10_21 : xFf RX10 21 10 4 (.array .int) := ⟨_, rfl, by decide, rfl, rfl, rfl, by decide +kernel, rfl, (List.mem_of_getElem? (i := 246) (by decide +kernel))⟩
theorem ff_X10_24 : xFf RX10 24 10 0 (.object "MilkTrain$Climate") := ⟨_, rfl, by decide, rfl, rfl, rfl, by decide +kernel, rfl, (List.mem_of_getElem? (i := 242) (by decide +kernel))⟩
theorem oi_X11_3 : Cond.methodLink RX11 3 Lib.objectInit ∈ lw_tbl := (List.mem_of_getElem? (i := 90) (by decide +kernel))
theorem nw_X11_9 : xNw RX11 9 7 2 := ⟨_, rfl, rfl, (List.mem_of_getElem? (i := 93) (by decide +kernel)), (List.mem_of_getElem? (i := 94) (by decide +kernel)), (List.mem_of_getElem? (i := 72) (by decide +kernel))⟩
theorem mi_X11_11 : xMI RX11 11 yX7_init cX7_init 1 0 := ⟨Or.inr ⟨"MilkTrain", (List.mem_of_getElem? (i := 95) (by decide +kernel))⟩, (List.mem_of_getElem? (i := 96) (by decide +kernel)), (List.mem_of_getElem? (i := 72) (by decide +kernel)), (List.mem_of_getElem? (i := 97) (by decide +kernel)), by decide +kernel, rfl, by decide +kernel⟩
theorem ff_X11_12 : xFf RX11 12 11 0 (.object "MilkTrain$Tape") := ⟨_, rfl, by decide, rfl, rfl, rfl, by decide +kernel, rfl, (List.mem_of_getElem? (i := 398) (by decide +kernel))⟩
theorem nw_X11_16 : xNw RX11 16 5 8 := ⟨_, rfl, rfl, (List.mem_of_getElem? (i := 109) (by decide +kernel)), (List.mem_of_getElem? (i := 110) (by decide +kernel)), (List.mem_of_getElem? (i := 73) (by decide +kernel))⟩
theorem mi_X11_18 : xMI RX11 18 yX5_init cX5_init 2 1 := ⟨Or.inl (List.mem_of_getElem? (i := 111) (by decide +kernel)), (List.mem_of_getElem? (i := 112) (by decide +kernel)), (List.mem_of_getElem? (i := 73) (by decide +kernel)), (List.mem_of_getElem? (i := 113) (by decide +kernel)), by decide +kernel, rfl, by decide +kernel⟩
theorem ff_X11_21 : xFf RX11 21 11 1 (.object "MilkTrain$Reader") := ⟨_, rfl, by decide, rfl, rfl, rfl, by decide +kernel, rfl, (List.mem_of_getElem? (i := 399) (by decide +kernel))⟩
theorem nw_X11_25 : xNw RX11 25 8 2 := ⟨_, rfl, rfl, (List.mem_of_getElem? (i := 142) (by decide +kernel)), (List.mem_of_getElem? (i := 143) (by decide +kernel)), (List.mem_of_getElem? (i := 74) (by decide +kernel))⟩
theorem mi_X11_27 : xMI RX11 27 yX8_init cX8_init 2 0 := ⟨Or.inl (List.mem_of_getElem? (i := 144) (by decide +kernel)), (List.mem_of_getElem? (i := 145) (by decide +kernel)), (List.mem_of_getElem? (i := 74) (by decide +kernel)), (List.mem_of_getElem? (i := 146) (by decide +kernel)), by decide +kernel, rfl, by decide +kernel⟩
theorem nw_X11_35 : xNw RX11 35 2 5 := ⟨_, rfl, rfl, (List.mem_of_getElem? (i := 198) (by decide +kernel)), (List.mem_of_getElem? (i := 199) (by decide +kernel)), (List.mem_of_getElem? (i := 76) (by decide +kernel))⟩
theorem mi_X11_37 : xMI RX11 37 yX2_init cX2_init 2 0 := ⟨Or.inl (List.mem_of_getElem? (i := 200) (by decide +kernel)), (List.mem_of_getElem? (i := 201) (by decide +kernel)), (List.mem_of_getElem? (i := 76) (by decide +kernel)), (List.mem_of_getElem? (i := 202) (by decide +kernel)), by decide +kernel, rfl, by decide +kernel⟩
theorem ff_X11_38 : xFf RX11 38 11 4 (.object "MilkTrain$Climate") := ⟨_, rfl, by decide, rfl, rfl, rfl, by decide +kernel, rfl, (List.mem_of_getElem? (i := 402) (by decide +kernel))⟩
theorem nw_X11_42 : xNw RX11 42 10 9 := ⟨_, rfl, rfl, (List.mem_of_getElem? (i := 236) (by decide +kernel)), (List.mem_of_getElem? (i := 237) (by decide +kernel)), (List.mem_of_getElem? (i := 78) (by decide +kernel))⟩
theorem mi_X11_44 : xMI RX11 44 yX10_init cX10_init 2 1 := ⟨Or.inl (List.mem_of_getElem? (i := 238) (by decide +kernel)), (List.mem_of_getElem? (i := 239) (by decide +kernel)), (List.mem_of_getElem? (i := 78) (by decide +kernel)), (List.mem_of_getElem? (i := 240) (by decide +kernel)), by decide +kernel, rfl, by decide +kernel⟩
theorem ff_X11_47 : xFf RX11 47 11 5 (.object "MilkTrain$WayFinder") := ⟨_, rfl, by decide, rfl, rfl, rfl, by decide +kernel, rfl, (List.mem_of_getElem? (i := 403) (by decide +kernel))⟩
theorem nw_X11_51 : xNw RX11 51 4 9 := ⟨_, rfl, rfl, (List.mem_of_getElem? (i := 273) (by decide +kernel)), (List.mem_of_getElem? (i := 274) (by decide +kernel)), (List.mem_of_getElem? (i := 79) (by decide +kernel))⟩
theorem mi_X11_53 : xMI RX11 53 yX4_init cX4_init 2 1 := ⟨Or.inl (List.mem_of_getElem? (i := 275) (by decide +kernel)), (List.mem_of_getElem? (i := 276) (by decide +kernel)), (List.mem_of_getElem? (i := 79) (by decide +kernel)), (List.mem_of_getElem? (i := 277) (by decide +kernel)), by decide +kernel, rfl, by decide +kernel⟩
theorem ff_X11_56 : xFf RX11 56 11 6 (.object "MilkTrain$Loading") := ⟨_, rfl, by decide, rfl, rfl, rfl, by decide +kernel, rfl, (List.mem_of_getElem? (i := 404) (by decide +kernel))⟩
theorem cl_X11_68 : Cond.classLink RX11 68 "MilkTrain$Churn" ∈ lw_tbl := (List.mem_of_getElem? (i := 312) (by decide +kernel))
theorem ff_X11_70 : xFf RX11 70 11 9 (.array (.object "MilkTrain$Churn")) := ⟨_, rfl, by decide, rfl, rfl, rfl, by decide +kernel, rfl, (List.mem_of_getElem? (i := 407) (by decide +kernel))⟩
theorem nw_X11_68 : xNw RX11 68 1 5 := ⟨_, rfl, rfl, (List.mem_of_getElem? (i := 312) (by decide +kernel)), (List.mem_of_getElem? (i := 314) (by decide +kernel)), (List.mem_of_getElem? (i := 80) (by decide +kernel))⟩
theorem mi_X11_74 : xMI RX11 74 yX1_init cX1_init 1 0 := ⟨Or.inr ⟨"MilkTrain", (List.mem_of_getElem? (i := 315) (by decide +kernel))⟩, (List.mem_of_getElem? (i := 316) (by decide +kernel)), (List.mem_of_getElem? (i := 80) (by decide +kernel)), (List.mem_of_getElem? (i := 317) (by decide +kernel)), by decide +kernel, rfl, by decide +kernel⟩
theorem cl_X11_75 : Cond.classLink RX11 75 "MilkTrain$Tank" ∈ lw_tbl := (List.mem_of_getElem? (i := 339) (by decide +kernel))
theorem ff_X11_77 : xFf RX11 77 11 11 (.array (.object "MilkTrain$Tank")) := ⟨_, rfl, by decide, rfl, rfl, rfl, by decide +kernel, rfl, (List.mem_of_getElem? (i := 409) (by decide +kernel))⟩
theorem nw_X11_75 : xNw RX11 75 6 2 := ⟨_, rfl, rfl, (List.mem_of_getElem? (i := 339) (by decide +kernel)), (List.mem_of_getElem? (i := 341) (by decide +kernel)), (List.mem_of_getElem? (i := 81) (by decide +kernel))⟩
theorem mi_X11_81 : xMI RX11 81 yX6_init cX6_init 1 0 := ⟨Or.inr ⟨"MilkTrain", (List.mem_of_getElem? (i := 342) (by decide +kernel))⟩, (List.mem_of_getElem? (i := 343) (by decide +kernel)), (List.mem_of_getElem? (i := 81) (by decide +kernel)), (List.mem_of_getElem? (i := 344) (by decide +kernel)), by decide +kernel, rfl, by decide +kernel⟩
theorem cl_X11_82 : Cond.classLink RX11 82 "MilkTrain$Bottling" ∈ lw_tbl := (List.mem_of_getElem? (i := 355) (by decide +kernel))
theorem ff_X11_84 : xFf RX11 84 11 12 (.array (.object "MilkTrain$Bottling")) := ⟨_, rfl, by decide, rfl, rfl, rfl, by decide +kernel, rfl, (List.mem_of_getElem? (i := 410) (by decide +kernel))⟩
theorem nw_X11_82 : xNw RX11 82 0 3 := ⟨_, rfl, rfl, (List.mem_of_getElem? (i := 355) (by decide +kernel)), (List.mem_of_getElem? (i := 357) (by decide +kernel)), (List.mem_of_getElem? (i := 82) (by decide +kernel))⟩
theorem mi_X11_88 : xMI RX11 88 yX0_init cX0_init 1 0 := ⟨Or.inr ⟨"MilkTrain", (List.mem_of_getElem? (i := 358) (by decide +kernel))⟩, (List.mem_of_getElem? (i := 359) (by decide +kernel)), (List.mem_of_getElem? (i := 82) (by decide +kernel)), (List.mem_of_getElem? (i := 360) (by decide +kernel)), by decide +kernel, rfl, by decide +kernel⟩
theorem cl_X11_89 : Cond.classLink RX11 89 "MilkTrain$Find" ∈ lw_tbl := (List.mem_of_getElem? (i := 374) (by decide +kernel))
theorem ff_X11_91 : xFf RX11 91 11 14 (.array (.object "MilkTrain$Find")) := ⟨_, rfl, by decide, rfl, rfl, rfl, by decide +kernel, rfl, (List.mem_of_getElem? (i := 412) (by decide +kernel))⟩
theorem nw_X11_89 : xNw RX11 89 3 4 := ⟨_, rfl, rfl, (List.mem_of_getElem? (i := 374) (by decide +kernel)), (List.mem_of_getElem? (i := 376) (by decide +kernel)), (List.mem_of_getElem? (i := 83) (by decide +kernel))⟩
theorem mi_X11_95 : xMI RX11 95 yX3_init cX3_init 1 0 := ⟨Or.inr ⟨"MilkTrain", (List.mem_of_getElem? (i := 377) (by decide +kernel))⟩, (List.mem_of_getElem? (i := 378) (by decide +kernel)), (List.mem_of_getElem? (i := 83) (by decide +kernel)), (List.mem_of_getElem? (i := 379) (by decide +kernel)), by decide +kernel, rfl, by decide +kernel⟩
theorem oi_X12_134 : Cond.methodLink RX12 134 Lib.objectInit ∈ lw_tbl := (List.mem_of_getElem? (i := 903) (by decide +kernel))
theorem ff_X12_72 : xFf RX12 72 12 0 (.array .byte) := ⟨_, rfl, by decide, rfl, rfl, rfl, by decide +kernel, rfl, (List.mem_of_getElem? (i := 904) (by decide +kernel))⟩
theorem ff_X12_7 : xFf RX12 7 12 1 (.array .byte) := ⟨_, rfl, by decide, rfl, rfl, rfl, by decide +kernel, rfl, (List.mem_of_getElem? (i := 905) (by decide +kernel))⟩
theorem ff_X12_95 : xFf RX12 95 12 11 (.array .long) := ⟨_, rfl, by decide, rfl, rfl, rfl, by decide +kernel, rfl, (List.mem_of_getElem? (i := 915) (by decide +kernel))⟩
theorem ff_X12_99 : xFf RX12 99 12 12 (.array .int) := ⟨_, rfl, by decide, rfl, rfl, rfl, by decide +kernel, rfl, (List.mem_of_getElem? (i := 916) (by decide +kernel))⟩
theorem ff_X12_108 : xFf RX12 108 12 13 (.array .int) := ⟨_, rfl, by decide, rfl, rfl, rfl, by decide +kernel, rfl, (List.mem_of_getElem? (i := 917) (by decide +kernel))⟩
theorem ff_X12_115 : xFf RX12 115 12 14 (.array .int) := ⟨_, rfl, by decide, rfl, rfl, rfl, by decide +kernel, rfl, (List.mem_of_getElem? (i := 918) (by decide +kernel))⟩
theorem ff_X12_118 : xFf RX12 118 12 15 (.array .int) := ⟨_, rfl, by decide, rfl, rfl, rfl, by decide +kernel, rfl, (List.mem_of_getElem? (i := 919) (by decide +kernel))⟩
theorem ff_X12_81 : xFf RX12 81 12 16 (.array .int) := ⟨_, rfl, by decide, rfl, rfl, rfl, by decide +kernel, rfl, (List.mem_of_getElem? (i := 920) (by decide +kernel))⟩
theorem ff_X12_88 : xFf RX12 88 12 17 (.array .int) := ⟨_, rfl, by decide, rfl, rfl, rfl, by decide +kernel, rfl, (List.mem_of_getElem? (i := 921) (by decide +kernel))⟩
theorem ff_X12_139 : xFf RX12 139 12 20 (.array .int) := ⟨_, rfl, by decide, rfl, rfl, rfl, by decide +kernel, rfl, (List.mem_of_getElem? (i := 924) (by decide +kernel))⟩
theorem ff_X12_142 : xFf RX12 142 12 21 (.array .int) := ⟨_, rfl, by decide, rfl, rfl, rfl, by decide +kernel, rfl, (List.mem_of_getElem? (i := 925) (by decide +kernel))⟩
theorem ff_X12_145 : xFf RX12 145 12 22 (.array .int) := ⟨_, rfl, by decide, rfl, rfl, rfl, by decide +kernel, rfl, (List.mem_of_getElem? (i := 926) (by decide +kernel))⟩
theorem ff_X12_148 : xFf RX12 148 12 23 (.array .boolean) := ⟨_, rfl, by decide, rfl, rfl, rfl, by decide +kernel, rfl, (List.mem_of_getElem? (i := 927) (by decide +kernel))⟩
theorem ff_X12_155 : xFf RX12 155 12 25 (.array .int) := ⟨_, rfl, by decide, rfl, rfl, rfl, by decide +kernel, rfl, (List.mem_of_getElem? (i := 929) (by decide +kernel))⟩
theorem ff_X12_158 : xFf RX12 158 12 26 (.array .int) := ⟨_, rfl, by decide, rfl, rfl, rfl, by decide +kernel, rfl, (List.mem_of_getElem? (i := 930) (by decide +kernel))⟩
theorem ff_X12_161 : xFf RX12 161 12 27 (.array .int) := ⟨_, rfl, by decide, rfl, rfl, rfl, by decide +kernel, rfl, (List.mem_of_getElem? (i := 931) (by decide +kernel))⟩
theorem ff_X12_164 : xFf RX12 164 12 28 (.array .int) := ⟨_, rfl, by decide, rfl, rfl, rfl, by decide +kernel, rfl, (List.mem_of_getElem? (i := 932) (by decide +kernel))⟩
theorem ff_X12_167 : xFf RX12 167 12 29 (.array .int) := ⟨_, rfl, by decide, rfl, rfl, rfl, by decide +kernel, rfl, (List.mem_of_getElem? (i := 933) (by decide +kernel))⟩
theorem ff_X12_170 : xFf RX12 170 12 31 (.array .int) := ⟨_, rfl, by decide, rfl, rfl, rfl, by decide +kernel, rfl, (List.mem_of_getElem? (i := 935) (by decide +kernel))⟩
theorem ff_X12_173 : xFf RX12 173 12 32 (.array .int) := ⟨_, rfl, by decide, rfl, rfl, rfl, by decide +kernel, rfl, (List.mem_of_getElem? (i := 936) (by decide +kernel))⟩
theorem ff_X12_176 : xFf RX12 176 12 36 (.array .int) := ⟨_, rfl, by decide, rfl, rfl, rfl, by decide +kernel, rfl, (List.mem_of_getElem? (i := 940) (by decide +kernel))⟩
theorem ff_X12_179 : xFf RX12 179 12 37 (.array .int) := ⟨_, rfl, by decide, rfl, rfl, rfl, by decide +kernel, rfl, (List.mem_of_getElem? (i := 941) (by decide +kernel))⟩
theorem ff_X12_182 : xFf RX12 182 12 40 (.array .long) := ⟨_, rfl, by decide, rfl, rfl, rfl, by decide +kernel, rfl, (List.mem_of_getElem? (i := 944) (by decide +kernel))⟩
theorem ff_X12_185 : xFf RX12 185 12 41 (.array .long) := ⟨_, rfl, by decide, rfl, rfl, rfl, by decide +kernel, rfl, (List.mem_of_getElem? (i := 945) (by decide +kernel))⟩
theorem ff_X12_188 : xFf RX12 188 12 42 (.array .int) := ⟨_, rfl, by decide, rfl, rfl, rfl, by decide +kernel, rfl, (List.mem_of_getElem? (i := 946) (by decide +kernel))⟩
theorem ff_X12_191 : xFf RX12 191 12 43 (.array .int) := ⟨_, rfl, by decide, rfl, rfl, rfl, by decide +kernel, rfl, (List.mem_of_getElem? (i := 947) (by decide +kernel))⟩
theorem ff_X12_194 : xFf RX12 194 12 44 (.array .int) := ⟨_, rfl, by decide, rfl, rfl, rfl, by decide +kernel, rfl, (List.mem_of_getElem? (i := 948) (by decide +kernel))⟩
theorem ff_X12_197 : xFf RX12 197 12 45 (.array .long) := ⟨_, rfl, by decide, rfl, rfl, rfl, by decide +kernel, rfl, (List.mem_of_getElem? (i := 949) (by decide +kernel))⟩
theorem ff_X12_200 : xFf RX12 200 12 46 (.array .int) := ⟨_, rfl, by decide, rfl, rfl, rfl, by decide +kernel, rfl, (List.mem_of_getElem? (i := 950) (by decide +kernel))⟩
theorem ff_X12_203 : xFf RX12 203 12 47 (.array .int) := ⟨_, rfl, by decide, rfl, rfl, rfl, by decide +kernel, rfl, (List.mem_of_getElem? (i := 951) (by decide +kernel))⟩
theorem ff_X12_206 : xFf RX12 206 12 48 (.array .int) := ⟨_, rfl, by decide, rfl, rfl, rfl, by decide +kernel, rfl, (List.mem_of_getElem? (i := 952) (by decide +kernel))⟩
theorem ff_X12_209 : xFf RX12 209 12 49 (.array .int) := ⟨_, rfl, by decide, rfl, rfl, rfl, by decide +kernel, rfl, (List.mem_of_getElem? (i := 953) (by decide +kernel))⟩
theorem ff_X12_212 : xFf RX12 212 12 50 (.array .int) := ⟨_, rfl, by decide, rfl, rfl, rfl, by decide +kernel, rfl, (List.mem_of_getElem? (i := 954) (by decide +kernel))⟩
theorem ff_X12_215 : xFf RX12 215 12 51 (.array .int) := ⟨_, rfl, by decide, rfl, rfl, rfl, by decide +kernel, rfl, (List.mem_of_getElem? (i := 955) (by decide +kernel))⟩
theorem ff_X12_218 : xFf RX12 218 12 52 (.array .int) := ⟨_, rfl, by decide, rfl, rfl, rfl, by decide +kernel, rfl, (List.mem_of_getElem? (i := 956) (by decide +kernel))⟩
theorem ff_X12_221 : xFf RX12 221 12 53 (.array .int) := ⟨_, rfl, by decide, rfl, rfl, rfl, by decide +kernel, rfl, (List.mem_of_getElem? (i := 957) (by decide +kernel))⟩
theorem ff_X12_224 : xFf RX12 224 12 54 (.array .int) := ⟨_, rfl, by decide, rfl, rfl, rfl, by decide +kernel, rfl, (List.mem_of_getElem? (i := 958) (by decide +kernel))⟩
theorem nw_L_7 : xNw RL 7 11 17 := ⟨_, rfl, rfl, (List.mem_of_getElem? (i := 85) (by decide +kernel)), (List.mem_of_getElem? (i := 86) (by decide +kernel)), (List.mem_of_getElem? (i := 71) (by decide +kernel))⟩
theorem mi_L_9 : xMI RL 9 yX11_init cX11_init 2 0 := ⟨Or.inl (List.mem_of_getElem? (i := 87) (by decide +kernel)), (List.mem_of_getElem? (i := 88) (by decide +kernel)), (List.mem_of_getElem? (i := 71) (by decide +kernel)), (List.mem_of_getElem? (i := 89) (by decide +kernel)), by decide +kernel, rfl, by decide +kernel⟩
theorem nw_L_10 : xNw RL 10 12 58 := ⟨_, rfl, rfl, (List.mem_of_getElem? (i := 899) (by decide +kernel)), (List.mem_of_getElem? (i := 820) (by decide +kernel)), (List.mem_of_getElem? (i := 84) (by decide +kernel))⟩
theorem mi_L_12 : xMI RL 12 yX12_init cX12_init 2 0 := ⟨Or.inl (List.mem_of_getElem? (i := 900) (by decide +kernel)), (List.mem_of_getElem? (i := 901) (by decide +kernel)), (List.mem_of_getElem? (i := 84) (by decide +kernel)), (List.mem_of_getElem? (i := 902) (by decide +kernel)), by decide +kernel, rfl, by decide +kernel⟩
theorem dX0_init_0 : decode cX0_init 0 = .ok (.aload_n 0, 1) := by decide +kernel
theorem dX0_init_1 : decode cX0_init 1 = .ok (.invokespecial 1, 3) := by decide +kernel
theorem dX0_init_4 : decode cX0_init 4 = .ok (.return_, 1) := by decide +kernel
set_option maxHeartbeats 4000000 in
set_option maxRecDepth 20000 in
theorem c_X0_init (l : Launch) (b : Nat) (D : va_G) (cy : Nat → ClassId) {i : Nat} {M : xMm} {R : xRm} (ho : xO i i 0) : xCi l b D cy yX0_init cX0_init 1 ({ frames := 1, cells := 0, slots := 0, locals := 21 }) [xr i] i M R (xPc i R (fun M' => M' = M)) := by
  refine x_metI (by decide) (Nat.le_of_ble_eq_true rfl) (fun g hg hr he ha => ?_)
  refine x_canon (ls' := [(0, _)]) rfl ?_
  refine x_aload_n hg dX0_init_0 rfl ?_
  refine x_objInit hg dX0_init_1 oi_X0_1 ⟨by decide, Nat.le_of_ble_eq_true rfl⟩ ?_
  refine x_vret hg hr dX0_init_4 (by decide) (by decide) ⟨rfl, rfl, rfl, rfl⟩

theorem dX6_init_0 : decode cX6_init 0 = .ok (.aload_n 0, 1) := by decide +kernel
theorem dX6_init_1 : decode cX6_init 1 = .ok (.invokespecial 3, 3) := by decide +kernel
theorem dX6_init_4 : decode cX6_init 4 = .ok (.return_, 1) := by decide +kernel
set_option maxHeartbeats 4000000 in
set_option maxRecDepth 20000 in
theorem c_X6_init (l : Launch) (b : Nat) (D : va_G) (cy : Nat → ClassId) {i : Nat} {M : xMm} {R : xRm} (ho : xO i i 6) : xCi l b D cy yX6_init cX6_init 1 ({ frames := 1, cells := 0, slots := 0, locals := 21 }) [xr i] i M R (xPc i R (fun M' => M' = M)) := by
  refine x_metI (by decide) (Nat.le_of_ble_eq_true rfl) (fun g hg hr he ha => ?_)
  refine x_canon (ls' := [(0, _)]) rfl ?_
  refine x_aload_n hg dX6_init_0 rfl ?_
  refine x_objInit hg dX6_init_1 oi_X6_3 ⟨by decide, Nat.le_of_ble_eq_true rfl⟩ ?_
  refine x_vret hg hr dX6_init_4 (by decide) (by decide) ⟨rfl, rfl, rfl, rfl⟩

theorem dX1_init_0 : decode cX1_init 0 = .ok (.aload_n 0, 1) := by decide +kernel
theorem dX1_init_1 : decode cX1_init 1 = .ok (.invokespecial 3, 3) := by decide +kernel
theorem dX1_init_4 : decode cX1_init 4 = .ok (.aload_n 0, 1) := by decide +kernel
theorem dX1_init_5 : decode cX1_init 5 = .ok (.iconst (-1), 1) := by decide +kernel
theorem dX1_init_6 : decode cX1_init 6 = .ok (.putfield 9, 3) := by decide +kernel
theorem dX1_init_9 : decode cX1_init 9 = .ok (.return_, 1) := by decide +kernel
set_option maxHeartbeats 4000000 in
set_option maxRecDepth 20000 in
theorem c_X1_init (l : Launch) (b : Nat) (D : va_G) (cy : Nat → ClassId) {i : Nat} {M : xMm} {R : xRm} (ho : xO i i 1) : xCi l b D cy yX1_init cX1_init 1 ({ frames := 1, cells := 0, slots := 0, locals := 21 }) [xr i] i M R (xPc i R (fun M' => M' = mu M i 4 (-1))) := by
  refine x_metI (by decide) (Nat.le_of_ble_eq_true rfl) (fun g hg hr he ha => ?_)
  refine x_canon (ls' := [(0, _)]) rfl ?_
  refine x_aload_n hg dX1_init_0 rfl ?_
  refine x_objInit hg dX1_init_1 oi_X1_3 ⟨by decide, Nat.le_of_ble_eq_true rfl⟩ ?_
  refine x_aload_n hg dX1_init_4 rfl ?_
  refine x_iconst hg dX1_init_5 ?_
  refine x_putI hg dX1_init_6 fl_X1_9 ft_1_4 ho rfl ?_
  refine x_vret hg hr dX1_init_9 (by decide) (by decide) ⟨rfl, rfl, rfl, rfl⟩

theorem dX3_init_0 : decode cX3_init 0 = .ok (.aload_n 0, 1) := by decide +kernel
theorem dX3_init_1 : decode cX3_init 1 = .ok (.invokespecial 3, 3) := by decide +kernel
theorem dX3_init_4 : decode cX3_init 4 = .ok (.aload_n 0, 1) := by decide +kernel
theorem dX3_init_5 : decode cX3_init 5 = .ok (.iconst (-1), 1) := by decide +kernel
theorem dX3_init_6 : decode cX3_init 6 = .ok (.putfield 9, 3) := by decide +kernel
theorem dX3_init_9 : decode cX3_init 9 = .ok (.return_, 1) := by decide +kernel
set_option maxHeartbeats 4000000 in
set_option maxRecDepth 20000 in
theorem c_X3_init (l : Launch) (b : Nat) (D : va_G) (cy : Nat → ClassId) {i : Nat} {M : xMm} {R : xRm} (ho : xO i i 3) : xCi l b D cy yX3_init cX3_init 1 ({ frames := 1, cells := 0, slots := 0, locals := 21 }) [xr i] i M R (xPc i R (fun M' => M' = mu M i 3 (-1))) := by
  refine x_metI (by decide) (Nat.le_of_ble_eq_true rfl) (fun g hg hr he ha => ?_)
  refine x_canon (ls' := [(0, _)]) rfl ?_
  refine x_aload_n hg dX3_init_0 rfl ?_
  refine x_objInit hg dX3_init_1 oi_X3_3 ⟨by decide, Nat.le_of_ble_eq_true rfl⟩ ?_
  refine x_aload_n hg dX3_init_4 rfl ?_
  refine x_iconst hg dX3_init_5 ?_
  refine x_putI hg dX3_init_6 fl_X3_9 ft_3_3 ho rfl ?_
  refine x_vret hg hr dX3_init_9 (by decide) (by decide) ⟨rfl, rfl, rfl, rfl⟩

theorem dX9_init_0 : decode cX9_init 0 = .ok (.aload_n 0, 1) := by decide +kernel
theorem dX9_init_1 : decode cX9_init 1 = .ok (.invokespecial 3, 3) := by decide +kernel
theorem dX9_init_4 : decode cX9_init 4 = .ok (.aload_n 0, 1) := by decide +kernel
theorem dX9_init_5 : decode cX9_init 5 = .ok (.bipush 8, 2) := by decide +kernel
theorem dX9_init_7 : decode cX9_init 7 = .ok (.newarray .int, 2) := by decide +kernel
theorem dX9_init_9 : decode cX9_init 9 = .ok (.putfield 9, 3) := by decide +kernel
theorem dX9_init_12 : decode cX9_init 12 = .ok (.aload_n 0, 1) := by decide +kernel
theorem dX9_init_13 : decode cX9_init 13 = .ok (.bipush 8, 2) := by decide +kernel
theorem dX9_init_15 : decode cX9_init 15 = .ok (.newarray .int, 2) := by decide +kernel
theorem dX9_init_17 : decode cX9_init 17 = .ok (.putfield 15, 3) := by decide +kernel
theorem dX9_init_20 : decode cX9_init 20 = .ok (.return_, 1) := by decide +kernel
set_option maxHeartbeats 4000000 in
set_option maxRecDepth 20000 in
theorem c_X9_init (l : Launch) (b : Nat) (D : va_G) (cy : Nat → ClassId) {i : Nat} {M : xMm} {R : xRm} (hi : xTr i) (hM : ∀ a, i < a → ∀ f, M a f = 0) (hR : ∀ a, i ≤ a → ∀ f, R a f = 0) : xCi l b D cy yX9_init cX9_init 1 ({ frames := 1, cells := 2, slots := 16, locals := 21 }) [xr i] i M R (xPc (i + 2) (rF R i (i + 2)) (fun M' => M' = M)) := by
  refine x_metI (by decide) (Nat.le_of_ble_eq_true rfl) (fun g hg hr he ha => ?_)
  have hly := lay_train i (by omega) hi
  refine x_canon (ls' := [(0, _)]) rfl ?_
  refine x_aload_n hg dX9_init_0 rfl ?_
  refine x_objInit hg dX9_init_1 oi_X9_3 ⟨by decide, Nat.le_of_ble_eq_true rfl⟩ ?_
  refine x_aload_n hg dX9_init_4 rfl ?_
  refine x_bipush hg dX9_init_5 (by decide) ?_
  refine x_newa0 (len := 8) hg dX9_init_7 hly.2.1 rfl (by decide) (fun f => by first | exact hM _ (by omega) f | (simp (disch := omega) only [mu_nc]; exact hM _ (by omega) f)) (by decide) (by decide) ?_
  refine x_putF hg hr rfl dX9_init_9 ff_X9_9 ⟨by omega, by omega, hly.1⟩ rfl (by omega) ?_
  refine x_aload_n hg dX9_init_12 rfl ?_
  refine x_bipush hg dX9_init_13 (by decide) ?_
  refine x_newa0 (len := 8) hg dX9_init_15 hly.2.2 rfl (by decide) (fun f => by first | exact hM _ (by omega) f | (simp (disch := omega) only [mu_nc]; exact hM _ (by omega) f)) (by decide) (by decide) ?_
  refine x_putF hg hr rfl dX9_init_17 ff_X9_15 ⟨by omega, by omega, hly.1⟩ rfl (by omega) ?_
  refine x_sameR (R' := rF R i (i + 2)) (sameR_F (fun a ha2 k => ?_) (fun a h1 h2 => ?_)) ?_
  · rw [ru_nc (by omega), ru_nc (by omega)]
  · have hab : a = i ∨ a = i + 1 ∨ a = i + 2 := by omega
    rcases hab with rfl | rfl | rfl
    · refine ⟨fun ci hl j hj hk => ?_, fun t len hl => ?_⟩
      · rw [hly.1] at hl
        cases hl
        have hj6 : j < 6 := hj
        rcases (show j = 0 ∨ j = 1 ∨ j = 2 ∨ j = 3 ∨ j = 4 ∨ j = 5 by omega) with rfl | rfl | rfl | rfl | rfl | rfl
        · exact absurd hk (by decide)
        · exact absurd hk (by decide)
        · exact absurd hk (by decide)
        · exact absurd hk (by decide)
        · rw [(RS_tr hi).1, ru_n (by omega), ru_s]
        · rw [(RS_tr hi).2, ru_s]
      · rw [hly.1] at hl; cases hl
    · refine ⟨fun ci hl => ?_, fun t len hl ht => ?_⟩
      · rw [hly.2.1] at hl; cases hl
      · rw [hly.2.1] at hl; cases hl; exact absurd ht (by decide)
    · refine ⟨fun ci hl => ?_, fun t len hl ht => ?_⟩
      · rw [hly.2.2] at hl; cases hl
      · rw [hly.2.2] at hl; cases hl; exact absurd ht (by decide)
  · refine x_vret hg hr dX9_init_20 (by decide) (by decide) ⟨rfl, rfl, rfl, rfl⟩
