/-! ===== values that are only in range ===== -/
section XA
variable {g : xGT} {n : Nat} {M : xMm} {R : xRm} {k w pc : Nat} {ls : List (Nat × xV)} {st : List xV}
theorem x_any {P : Int → Prop} {z : Int} (hz : P z) (t : ∀ a, P a → xW g n M R k w pc ls (xi a :: st)) : xW g n M R k w pc ls (xi z :: st) := t z hz
theorem x_wrap {z : Int} (t : ∀ a, inR a → xW g n M R k w pc ls (xi a :: st)) : xW g n M R k w pc ls (xi z :: st) :=
  x_top (z := (Int32.ofInt z).toInt) (Int32.ofInt_toInt _).symm (t _ (xt_int _))
theorem xt_long (x : Int64) : inL x.toInt := ⟨by have := Int64.le_toInt x; omega, by have := Int64.toInt_lt x; omega⟩
theorem x_wrapl {z : Int} (t : ∀ a, inL a → xW g n M R k w pc ls (xl a :: st)) : xW g n M R k w pc ls (xl z :: st) :=
  x_topl (z := (Int64.ofInt z).toInt) (Int64.ofInt_toInt _).symm (t _ (xt_long _))
theorem x_idivW {cc : ByteArray} {own : String} {rm : Room} {nL : Nat} (hg : xG g cc own rm nL) {x y : Int} (d : decode cc pc = .ok (.idiv, 1)) (hy : inR y ∧ y ≠ 0) (t : ∀ a, inR a → xW g n M R k w (pc + 1) ls (xi a :: st)) : xW g n M R k w pc ls (xi y :: xi x :: st) := by
  have t2 := t _ (xt_int (Int32.ofInt x / Int32.ofInt y))
  obtain ⟨p, l, e, Rm, s, m, args, below, meth, c, b, D, cy, Q⟩ := g
  obtain ⟨hx, hb, -⟩ := hg
  intro H locs lsA hW hS hv
  refine lv_idiv hx hb d (fun q => ?_) ?_
  · rw [oi_0, oi_eq hy.1 ⟨by omega, by omega⟩] at q
    exact hy.2 q
  · have t3 := t2 H locs lsA hW hS hv
    simp only [List.map_cons, cv, Int32.ofInt_toInt] at t3
    exact t3
theorem x_iremW {cc : ByteArray} {own : String} {rm : Room} {nL : Nat} (hg : xG g cc own rm nL) {x y : Int} (d : decode cc pc = .ok (.irem, 1)) (hy : inR y ∧ y ≠ 0) (t : ∀ a, inR a → xW g n M R k w (pc + 1) ls (xi a :: st)) : xW g n M R k w pc ls (xi y :: xi x :: st) := by
  have t2 := t _ (xt_int (Int32.ofInt x - Int32.ofInt x / Int32.ofInt y * Int32.ofInt y))
  obtain ⟨p, l, e, Rm, s, m, args, below, meth, c, b, D, cy, Q⟩ := g
  obtain ⟨hx, hb, -⟩ := hg
  intro H locs lsA hW hS hv
  refine lv_irem hx hb d (fun q => ?_) ?_
  · rw [oi_0, oi_eq hy.1 ⟨by omega, by omega⟩] at q
    exact hy.2 q
  · have t3 := t2 H locs lsA hW hS hv
    simp only [List.map_cons, cv, Int32.ofInt_toInt] at t3
    exact t3
theorem x_ldivW {cc : ByteArray} {own : String} {rm : Room} {nL : Nat} (hg : xG g cc own rm nL) {x y : Int} (d : decode cc pc = .ok (.ldiv, 1)) (hy : inL y ∧ y ≠ 0) (t : ∀ a, inL a → xW g n M R k w (pc + 1) ls (xl a :: st)) : xW g n M R k w pc ls (xl y :: xl x :: st) := by
  have t2 := t _ (xt_long (Int64.ofInt x / Int64.ofInt y))
  obtain ⟨p, l, e, Rm, s, m, args, below, meth, c, b, D, cy, Q⟩ := g
  obtain ⟨hx, hb, -⟩ := hg
  intro H locs lsA hW hS hv
  refine lv_ldiv hx hb d (fun q => ?_) ?_
  · rw [show (0 : Int64) = Int64.ofInt 0 from rfl, ol_eq hy.1 ⟨by omega, by omega⟩] at q
    exact hy.2 q
  · have t3 := t2 H locs lsA hW hS hv
    simp only [List.map_cons, cv, Int64.ofInt_toInt] at t3
    exact t3
end XA
/-! ===== the rails: two timetables, their trains ===== -/
def IR (M : xMm) : Prop := (∀ q, xTt q → 0 ≤ M q 1 ∧ M q 1 ≤ 8) ∧ ∀ i, xTr i → ((0 ≤ M i 1 ∧ M i 1 ≤ 99) ∧ (0 ≤ M i 2 ∧ M i 2 ≤ 300) ∧ (0 ≤ M i 3 ∧ M i 3 ≤ 8) ∧ inL (M i 0)) ∧ ∀ k, k < 8 → (0 ≤ M (i + 1) k ∧ M (i + 1) k ≤ 9) ∧ (0 ≤ M (i + 2) k ∧ M (i + 2) k ≤ 1439)
theorem IR_congr {M M' : xMm} (h : IR M) (e : ∀ a, 5 ≤ a → a ≤ 56 → M' a = M a) : IR M' := by
  refine ⟨fun q hq => ?_, fun i hi => ?_⟩
  · have := h.1 q hq
    rw [e q (by omega) (by omega)]
    exact this
  · rw [e i (by omega) (by omega), e (i + 1) (by omega) (by omega), e (i + 2) (by omega) (by omega)]
    exact h.2 i hi
/-- a train's own numbers change -/
theorem IR_tr {M : xMm} (h : IR M) {j f : Nat} {z : Int} (hj : xTr j) (hf : f = 1 ∧ (0 ≤ z ∧ z ≤ 99) ∨ f = 2 ∧ (0 ≤ z ∧ z ≤ 300) ∨ f = 3 ∧ (0 ≤ z ∧ z ≤ 8) ∨ f = 0 ∧ inL z) : IR (mu M j f z) := by
  refine ⟨fun q hq => ?_, fun i hi => ?_⟩
  · rw [mu_nc (by omega)]
    exact h.1 q hq
  · have h1 := h.2 i hi
    refine ⟨?_, fun k hk => ?_⟩
    · by_cases e : i = j
      · subst e
        have h2 := h1.1
        rcases hf with ⟨rfl, hz⟩ | ⟨rfl, hz⟩ | ⟨rfl, hz⟩ | ⟨rfl, hz⟩ <;> simp only [mu_s, mu_nf (show (0 : Nat) ≠ 1 by decide), mu_nf (show (0 : Nat) ≠ 2 by decide), mu_nf (show (0 : Nat) ≠ 3 by decide), mu_nf (show (1 : Nat) ≠ 0 by decide), mu_nf (show (1 : Nat) ≠ 2 by decide), mu_nf (show (1 : Nat) ≠ 3 by decide), mu_nf (show (2 : Nat) ≠ 0 by decide), mu_nf (show (2 : Nat) ≠ 1 by decide), mu_nf (show (2 : Nat) ≠ 3 by decide), mu_nf (show (3 : Nat) ≠ 0 by decide), mu_nf (show (3 : Nat) ≠ 1 by decide), mu_nf (show (3 : Nat) ≠ 2 by decide)] <;> omega
      · rw [mu_nc e, mu_nc e, mu_nc e, mu_nc e]
        exact h1.1
    · rw [mu_nc (by omega), mu_nc (by omega)]
      exact h1.2 k hk
theorem IR_st {M : xMm} (h : IR M) {j k : Nat} {z : Int} (hj : xTr j) (hz : 0 ≤ z ∧ z ≤ 9) : IR (mu M (j + 1) k z) := by
  refine ⟨fun q hq => ?_, fun i hi => ?_⟩
  · rw [mu_nc (by omega)]
    exact h.1 q hq
  · have h1 := h.2 i hi
    refine ⟨?_, fun c hc => ?_⟩
    · rw [mu_nc (by omega), mu_nc (by omega), mu_nc (by omega), mu_nc (by omega)]
      exact h1.1
    · rw [mu_nc (show i + 2 ≠ j + 1 by omega)]
      refine ⟨?_, (h1.2 c hc).2⟩
      by_cases e : i + 1 = j + 1 ∧ c = k
      · obtain ⟨e1, rfl⟩ := e
        rw [e1, mu_s]
        omega
      · rw [mu_n e]
        exact (h1.2 c hc).1
theorem IR_mi {M : xMm} (h : IR M) {j k : Nat} {z : Int} (hj : xTr j) (hz : 0 ≤ z ∧ z ≤ 1439) : IR (mu M (j + 2) k z) := by
  refine ⟨fun q hq => ?_, fun i hi => ?_⟩
  · rw [mu_nc (by omega)]
    exact h.1 q hq
  · have h1 := h.2 i hi
    refine ⟨?_, fun c hc => ?_⟩
    · rw [mu_nc (by omega), mu_nc (by omega), mu_nc (by omega), mu_nc (by omega)]
      exact h1.1
    · rw [mu_nc (show i + 1 ≠ j + 2 by omega)]
      refine ⟨(h1.2 c hc).1, ?_⟩
      by_cases e : i + 2 = j + 2 ∧ c = k
      · obtain ⟨e1, rfl⟩ := e
        rw [e1, mu_s]
        omega
      · rw [mu_n e]
        exact (h1.2 c hc).2
theorem IR_ct {M : xMm} (h : IR M) {q : Nat} {z : Int} (hq : xTt q) (hz : 0 ≤ z ∧ z ≤ 8) : IR (mu M q 1 z) := by
  refine ⟨fun p hp => ?_, fun i hi => ?_⟩
  · by_cases e : p = q
    · subst e
      rw [mu_s]
      omega
    · rw [mu_nc e]
      exact h.1 p hp
  · rw [mu_nc (by omega), mu_nc (by omega), mu_nc (by omega), mu_nc (by omega)]
    refine ⟨(h.2 i hi).1, fun k hk => ?_⟩
    rw [mu_nc (by omega), mu_nc (by omega)]
    exact (h.2 i hi).2 k hk

theorem dX9_stationOf_0 : decode cX9_stationOf 0 = .ok (.iload_n 1, 1) := by decide +kernel
theorem dX9_stationOf_1 : decode cX9_stationOf 1 = .ok (.ifCond .lt 20, 3) := by decide +kernel
theorem dX9_stationOf_4 : decode cX9_stationOf 4 = .ok (.iload_n 1, 1) := by decide +kernel
theorem dX9_stationOf_5 : decode cX9_stationOf 5 = .ok (.aload_n 0, 1) := by decide +kernel
theorem dX9_stationOf_6 : decode cX9_stationOf 6 = .ok (.getfield 29, 3) := by decide +kernel
theorem dX9_stationOf_9 : decode cX9_stationOf 9 = .ok (.if_icmp .ge 12, 3) := by decide +kernel
theorem dX9_stationOf_12 : decode cX9_stationOf 12 = .ok (.aload_n 0, 1) := by decide +kernel
theorem dX9_stationOf_13 : decode cX9_stationOf 13 = .ok (.getfield 9, 3) := by decide +kernel
theorem dX9_stationOf_16 : decode cX9_stationOf 16 = .ok (.iload_n 1, 1) := by decide +kernel
theorem dX9_stationOf_17 : decode cX9_stationOf 17 = .ok (.iaload, 1) := by decide +kernel
theorem dX9_stationOf_18 : decode cX9_stationOf 18 = .ok (.goto 4, 3) := by decide +kernel
theorem dX9_stationOf_21 : decode cX9_stationOf 21 = .ok (.iconst (-1), 1) := by decide +kernel
theorem dX9_stationOf_22 : decode cX9_stationOf 22 = .ok (.ireturn, 1) := by decide +kernel
set_option maxHeartbeats 4000000 in
set_option maxRecDepth 20000 in
theorem c_X9_stationOf (l : Launch) (b : Nat) (D : va_G) (cy : Nat → ClassId) {tt : Nat} {M : xMm} {i : Nat} {z : Int} (hI : IR M) (hi : xTr i) (hz : inR z) : xC l b D cy yX9_stationOf cX9_stationOf 2 (some .int) ({ frames := 0, cells := 0, slots := 0, locals := 0 }) [xr i, xi z] 209 M (RS tt) (xPi 209 (RS tt) (fun r M' => M' = M ∧ ((0 ≤ z ∧ z < M i 3) ∧ (0 ≤ r ∧ r ≤ 9) ∨ ¬ (0 ≤ z ∧ z < M i 3) ∧ r = -1))) := by
  refine x_met (by decide) (Nat.le_of_ble_eq_true rfl) (fun g hg hr he => ?_)
  obtain ⟨hn, hst⟩ := hI.2 i hi
  refine x_canon (ls' := [(0, _), (1, _)]) rfl ?_
  refine x_iload_n hg dX9_stationOf_0 rfl ?_
  refine x_if_lt (tgt := 21) hg dX9_stationOf_1 (by decide) (by omega) (fun c1 => ?_) (fun c1 => ?_)
  · skip
    refine x_iconst hg dX9_stationOf_21 ?_
    refine x_iret hg hr (Or.inl rfl) dX9_stationOf_22 (Nat.le_refl _) (Nat.le_refl _) ?_
    refine ⟨rfl, rfl, _, rfl, rfl, ?_⟩
    first | (have h1 := hst z.toNat (by omega); omega) | omega
  · skip
    refine x_iload_n hg dX9_stationOf_4 rfl ?_
    refine x_aload_n hg dX9_stationOf_5 rfl ?_
    refine x_getI hg dX9_stationOf_6 fl_X9_29 (oO_train hi) rfl ?_
    refine x_icmp_ge (tgt := 21) hg dX9_stationOf_9 (by decide) (by omega) (by omega) (fun c9 => ?_) (fun c9 => ?_)
    · skip
      refine x_iconst hg dX9_stationOf_21 ?_
      refine x_iret hg hr (Or.inl rfl) dX9_stationOf_22 (Nat.le_refl _) (Nat.le_refl _) ?_
      refine ⟨rfl, rfl, _, rfl, rfl, ?_⟩
      first | (have h1 := hst z.toNat (by omega); omega) | omega
    · skip
      refine x_aload_n hg dX9_stationOf_12 rfl ?_
      refine x_getR hg dX9_stationOf_13 fl_X9_9 (oO_train hi) rfl (RS_tr hi).1 (by omega) ?_
      refine x_iload_n hg dX9_stationOf_16 rfl ?_
      refine x_iaload (len := 8) hg dX9_stationOf_17 (oA_train1 hi) (by omega) ?_
      refine x_goto (tgt := 22) hg dX9_stationOf_18 (by decide) ?_
      refine x_iret hg hr (Or.inl rfl) dX9_stationOf_22 (Nat.le_refl _) (Nat.le_refl _) ?_
      refine ⟨rfl, rfl, _, rfl, rfl, ?_⟩
      first | (have h1 := hst z.toNat (by omega); omega) | omega

theorem dX9_minuteOf_0 : decode cX9_minuteOf 0 = .ok (.iload_n 1, 1) := by decide +kernel
theorem dX9_minuteOf_1 : decode cX9_minuteOf 1 = .ok (.ifCond .lt 25, 3) := by decide +kernel
theorem dX9_minuteOf_4 : decode cX9_minuteOf 4 = .ok (.iload_n 1, 1) := by decide +kernel
theorem dX9_minuteOf_5 : decode cX9_minuteOf 5 = .ok (.aload_n 0, 1) := by decide +kernel
theorem dX9_minuteOf_6 : decode cX9_minuteOf 6 = .ok (.getfield 29, 3) := by decide +kernel
theorem dX9_minuteOf_9 : decode cX9_minuteOf 9 = .ok (.if_icmp .ge 17, 3) := by decide +kernel
theorem dX9_minuteOf_12 : decode cX9_minuteOf 12 = .ok (.aload_n 0, 1) := by decide +kernel
theorem dX9_minuteOf_13 : decode cX9_minuteOf 13 = .ok (.getfield 15, 3) := by decide +kernel
theorem dX9_minuteOf_16 : decode cX9_minuteOf 16 = .ok (.iload_n 1, 1) := by decide +kernel
theorem dX9_minuteOf_17 : decode cX9_minuteOf 17 = .ok (.iaload, 1) := by decide +kernel
theorem dX9_minuteOf_18 : decode cX9_minuteOf 18 = .ok (.aload_n 0, 1) := by decide +kernel
theorem dX9_minuteOf_19 : decode cX9_minuteOf 19 = .ok (.getfield 26, 3) := by decide +kernel
theorem dX9_minuteOf_22 : decode cX9_minuteOf 22 = .ok (.iadd, 1) := by decide +kernel
theorem dX9_minuteOf_23 : decode cX9_minuteOf 23 = .ok (.goto 4, 3) := by decide +kernel
theorem dX9_minuteOf_26 : decode cX9_minuteOf 26 = .ok (.iconst (-1), 1) := by decide +kernel
theorem dX9_minuteOf_27 : decode cX9_minuteOf 27 = .ok (.ireturn, 1) := by decide +kernel
set_option maxHeartbeats 4000000 in
set_option maxRecDepth 20000 in
theorem c_X9_minuteOf (l : Launch) (b : Nat) (D : va_G) (cy : Nat → ClassId) {tt : Nat} {M : xMm} {i : Nat} {z : Int} (hI : IR M) (hi : xTr i) (hz : inR z) : xC l b D cy yX9_minuteOf cX9_minuteOf 2 (some .int) ({ frames := 0, cells := 0, slots := 0, locals := 0 }) [xr i, xi z] 209 M (RS tt) (xPi 209 (RS tt) (fun r M' => M' = M ∧ ((0 ≤ z ∧ z < M i 3) ∧ (0 ≤ r ∧ r ≤ 1739) ∨ ¬ (0 ≤ z ∧ z < M i 3) ∧ r = -1))) := by
  refine x_met (by decide) (Nat.le_of_ble_eq_true rfl) (fun g hg hr he => ?_)
  obtain ⟨hn, hst⟩ := hI.2 i hi
  refine x_canon (ls' := [(0, _), (1, _)]) rfl ?_
  refine x_iload_n hg dX9_minuteOf_0 rfl ?_
  refine x_if_lt (tgt := 26) hg dX9_minuteOf_1 (by decide) (by omega) (fun c1 => ?_) (fun c1 => ?_)
  · skip
    refine x_iconst hg dX9_minuteOf_26 ?_
    refine x_iret hg hr (Or.inl rfl) dX9_minuteOf_27 (Nat.le_refl _) (Nat.le_refl _) ?_
    refine ⟨rfl, rfl, _, rfl, rfl, ?_⟩
    first | (have h1 := hst z.toNat (by omega); omega) | omega
  · skip
    refine x_iload_n hg dX9_minuteOf_4 rfl ?_
    refine x_aload_n hg dX9_minuteOf_5 rfl ?_
    refine x_getI hg dX9_minuteOf_6 fl_X9_29 (oO_train hi) rfl ?_
    refine x_icmp_ge (tgt := 26) hg dX9_minuteOf_9 (by decide) (by omega) (by omega) (fun c9 => ?_) (fun c9 => ?_)
    · skip
      refine x_iconst hg dX9_minuteOf_26 ?_
      refine x_iret hg hr (Or.inl rfl) dX9_minuteOf_27 (Nat.le_refl _) (Nat.le_refl _) ?_
      refine ⟨rfl, rfl, _, rfl, rfl, ?_⟩
      first | (have h1 := hst z.toNat (by omega); omega) | omega
    · skip
      refine x_aload_n hg dX9_minuteOf_12 rfl ?_
      refine x_getR hg dX9_minuteOf_13 fl_X9_15 (oO_train hi) rfl (RS_tr hi).2 (by omega) ?_
      refine x_iload_n hg dX9_minuteOf_16 rfl ?_
      refine x_iaload (len := 8) hg dX9_minuteOf_17 (oA_train2 hi) (by omega) ?_
      refine x_aload_n hg dX9_minuteOf_18 rfl ?_
      refine x_getI hg dX9_minuteOf_19 fl_X9_26 (oO_train hi) rfl ?_
      refine x_iadd hg dX9_minuteOf_22 ?_
      refine x_goto (tgt := 27) hg dX9_minuteOf_23 (by decide) ?_
      refine x_iret hg hr (Or.inl rfl) dX9_minuteOf_27 (Nat.le_refl _) (Nat.le_refl _) ?_
      refine ⟨rfl, rfl, _, rfl, rfl, ?_⟩
      first | (have h1 := hst z.toNat (by omega); omega) | omega

theorem dX9_stopAt_0 : decode cX9_stopAt 0 = .ok (.iconst 0, 1) := by decide +kernel
theorem dX9_stopAt_1 : decode cX9_stopAt 1 = .ok (.istore_n 2, 1) := by decide +kernel
theorem dX9_stopAt_2 : decode cX9_stopAt 2 = .ok (.iload_n 2, 1) := by decide +kernel
theorem dX9_stopAt_3 : decode cX9_stopAt 3 = .ok (.aload_n 0, 1) := by decide +kernel
theorem dX9_stopAt_4 : decode cX9_stopAt 4 = .ok (.getfield 29, 3) := by decide +kernel
theorem dX9_stopAt_7 : decode cX9_stopAt 7 = .ok (.if_icmp .ge 21, 3) := by decide +kernel
theorem dX9_stopAt_10 : decode cX9_stopAt 10 = .ok (.aload_n 0, 1) := by decide +kernel
theorem dX9_stopAt_11 : decode cX9_stopAt 11 = .ok (.getfield 9, 3) := by decide +kernel
theorem dX9_stopAt_14 : decode cX9_stopAt 14 = .ok (.iload_n 2, 1) := by decide +kernel
theorem dX9_stopAt_15 : decode cX9_stopAt 15 = .ok (.iaload, 1) := by decide +kernel
theorem dX9_stopAt_16 : decode cX9_stopAt 16 = .ok (.iload_n 1, 1) := by decide +kernel
theorem dX9_stopAt_17 : decode cX9_stopAt 17 = .ok (.if_icmp .ne 5, 3) := by decide +kernel
theorem dX9_stopAt_20 : decode cX9_stopAt 20 = .ok (.iload_n 2, 1) := by decide +kernel
theorem dX9_stopAt_21 : decode cX9_stopAt 21 = .ok (.ireturn, 1) := by decide +kernel
theorem dX9_stopAt_22 : decode cX9_stopAt 22 = .ok (.iinc 2 1, 3) := by decide +kernel
theorem dX9_stopAt_25 : decode cX9_stopAt 25 = .ok (.goto (-23), 3) := by decide +kernel
theorem dX9_stopAt_28 : decode cX9_stopAt 28 = .ok (.iconst (-1), 1) := by decide +kernel
theorem dX9_stopAt_29 : decode cX9_stopAt 29 = .ok (.ireturn, 1) := by decide +kernel
set_option maxHeartbeats 4000000 in
set_option maxRecDepth 20000 in
theorem c_X9_stopAt (l : Launch) (b : Nat) (D : va_G) (cy : Nat → ClassId) {tt : Nat} {M : xMm} {i : Nat} {z : Int} (hI : IR M) (hi : xTr i) (hz : inR z) : xC l b D cy yX9_stopAt cX9_stopAt 3 (some .int) ({ frames := 0, cells := 0, slots := 0, locals := 0 }) [xr i, xi z] 209 M (RS tt) (xPi 209 (RS tt) (fun r M' => M' = M ∧ -1 ≤ r ∧ r < 8 ∧ (r < M i 3))) := by
  refine x_met (by decide) (Nat.le_of_ble_eq_true rfl) (fun g hg hr he => ?_)
  obtain ⟨hn, hst⟩ := hI.2 i hi
  refine x_canon (ls' := [(0, _), (1, _)]) rfl ?_
  have loop : ∀ (c : Nat) (j : Int), 0 ≤ j → j ≤ M i 3 → M i 3 - j < c → xW g 209 M (RS tt) 0 0 2 [(0, xr i), (1, xi z), (2, xi j)] [] := by
    intro c
    induction c with
    | zero => intro j h1 h2 h3; exact absurd h3 (by omega)
    | succ c ih =>
      intro j hj1 hj2 hj3
      refine x_iload_n hg dX9_stopAt_2 rfl ?_
      refine x_aload_n hg dX9_stopAt_3 rfl ?_
      refine x_getI hg dX9_stopAt_4 fl_X9_29 (oO_train hi) rfl ?_
      refine x_icmp_ge (tgt := 28) hg dX9_stopAt_7 (by decide) (by omega) (by omega) (fun c7 => ?_) (fun c7 => ?_)
      · skip
        refine x_iconst hg dX9_stopAt_28 ?_
        refine x_iret hg hr (Or.inl rfl) dX9_stopAt_29 (Nat.le_refl _) (Nat.le_refl _) ?_
        exact ⟨rfl, rfl, _, rfl, rfl, by omega, by omega, by omega⟩
      · skip
        refine x_aload_n hg dX9_stopAt_10 rfl ?_
        refine x_getR hg dX9_stopAt_11 fl_X9_9 (oO_train hi) rfl (RS_tr hi).1 (by omega) ?_
        refine x_iload_n hg dX9_stopAt_14 rfl ?_
        refine x_iaload (len := 8) hg dX9_stopAt_15 (oA_train1 hi) (by omega) ?_
        refine x_iload_n hg dX9_stopAt_16 rfl ?_
        refine x_icmp_ne (tgt := 22) hg dX9_stopAt_17 (by decide) (by have h1 := hst j.toNat (by omega); omega) (by omega) (fun c17 => ?_) (fun c17 => ?_)
        · skip
          refine x_iinc (ls' := [(0, _), (1, _), (2, _)]) hg dX9_stopAt_22 rfl (by decide) rfl ?_
          refine x_goto (tgt := 2) hg dX9_stopAt_25 (by decide) ?_
          exact ih _ (by omega) (by omega) (by omega)
        · skip
          refine x_iload_n hg dX9_stopAt_20 rfl ?_
          refine x_iret hg hr (Or.inl rfl) dX9_stopAt_21 (Nat.le_refl _) (Nat.le_refl _) ?_
          exact ⟨rfl, rfl, _, rfl, rfl, by omega, by omega, by omega⟩
  refine x_iconst hg dX9_stopAt_0 ?_
  refine x_istore_n (ls' := [(0, _), (1, _), (2, _)]) hg dX9_stopAt_1 rfl (by decide) rfl ?_
  exact loop 9 0 (by omega) (by omega) (by omega)

theorem dX9_begin_0 : decode cX9_begin 0 = .ok (.aload_n 0, 1) := by decide +kernel
theorem dX9_begin_1 : decode cX9_begin 1 = .ok (.lload_n 1, 1) := by decide +kernel
theorem dX9_begin_2 : decode cX9_begin 2 = .ok (.putfield 18, 3) := by decide +kernel
theorem dX9_begin_5 : decode cX9_begin 5 = .ok (.aload_n 0, 1) := by decide +kernel
theorem dX9_begin_6 : decode cX9_begin 6 = .ok (.iconst 0, 1) := by decide +kernel
theorem dX9_begin_7 : decode cX9_begin 7 = .ok (.putfield 22, 3) := by decide +kernel
theorem dX9_begin_10 : decode cX9_begin 10 = .ok (.aload_n 0, 1) := by decide +kernel
theorem dX9_begin_11 : decode cX9_begin 11 = .ok (.iconst 0, 1) := by decide +kernel
theorem dX9_begin_12 : decode cX9_begin 12 = .ok (.putfield 26, 3) := by decide +kernel
theorem dX9_begin_15 : decode cX9_begin 15 = .ok (.aload_n 0, 1) := by decide +kernel
theorem dX9_begin_16 : decode cX9_begin 16 = .ok (.iconst 0, 1) := by decide +kernel
theorem dX9_begin_17 : decode cX9_begin 17 = .ok (.putfield 29, 3) := by decide +kernel
theorem dX9_begin_20 : decode cX9_begin 20 = .ok (.return_, 1) := by decide +kernel
set_option maxHeartbeats 4000000 in
set_option maxRecDepth 20000 in
theorem c_X9_begin (l : Launch) (b : Nat) (D : va_G) (cy : Nat → ClassId) {tt : Nat} {M : xMm} {i : Nat} {z : Int} (hi : xTr i) : xC l b D cy yX9_begin cX9_begin 3 none ({ frames := 0, cells := 0, slots := 0, locals := 0 }) [xr i, xl z] 209 M (RS tt) (xPv 209 (RS tt) (fun M' => M' = mu (mu (mu (mu M i 0 z) i 1 0) i 2 0) i 3 0)) := by
  refine x_met (by decide) (Nat.le_of_ble_eq_true rfl) (fun g hg hr he => ?_)
  refine x_canon (ls' := [(0, _), (1, _)]) rfl ?_
  refine x_aload_n hg dX9_begin_0 rfl ?_
  refine x_lload_n hg dX9_begin_1 rfl ?_
  refine x_putL hg dX9_begin_2 fl_X9_18 ft_9_0 (oO_train hi) rfl ?_
  refine x_aload_n hg dX9_begin_5 rfl ?_
  refine x_iconst hg dX9_begin_6 ?_
  refine x_putI hg dX9_begin_7 fl_X9_22 ft_9_1 (oO_train hi) rfl ?_
  refine x_aload_n hg dX9_begin_10 rfl ?_
  refine x_iconst hg dX9_begin_11 ?_
  refine x_putI hg dX9_begin_12 fl_X9_26 ft_9_2 (oO_train hi) rfl ?_
  refine x_aload_n hg dX9_begin_15 rfl ?_
  refine x_iconst hg dX9_begin_16 ?_
  refine x_putI hg dX9_begin_17 fl_X9_29 ft_9_3 (oO_train hi) rfl ?_
  refine x_vret hg hr dX9_begin_20 (Nat.le_refl _) (Nat.le_refl _) ?_
  exact ⟨rfl, rfl, rfl, rfl⟩

theorem dX8_has_0 : decode cX8_has 0 = .ok (.iload_n 1, 1) := by decide +kernel
theorem dX8_has_1 : decode cX8_has 1 = .ok (.ifCond .lt 15, 3) := by decide +kernel
theorem dX8_has_4 : decode cX8_has 4 = .ok (.iload_n 1, 1) := by decide +kernel
theorem dX8_has_5 : decode cX8_has 5 = .ok (.aload_n 0, 1) := by decide +kernel
theorem dX8_has_6 : decode cX8_has 6 = .ok (.getfield 18, 3) := by decide +kernel
theorem dX8_has_9 : decode cX8_has 9 = .ok (.if_icmp .ge 7, 3) := by decide +kernel
theorem dX8_has_12 : decode cX8_has 12 = .ok (.iconst 1, 1) := by decide +kernel
theorem dX8_has_13 : decode cX8_has 13 = .ok (.goto 4, 3) := by decide +kernel
theorem dX8_has_16 : decode cX8_has 16 = .ok (.iconst 0, 1) := by decide +kernel
theorem dX8_has_17 : decode cX8_has 17 = .ok (.ireturn, 1) := by decide +kernel
set_option maxHeartbeats 4000000 in
set_option maxRecDepth 20000 in
theorem c_X8_has (l : Launch) (b : Nat) (D : va_G) (cy : Nat → ClassId) {tt : Nat} {M : xMm} {q : Nat} {z : Int} (hI : IR M) (hq : xTt q) (hz : inR z) : xC l b D cy yX8_has cX8_has 2 (some .boolean) ({ frames := 0, cells := 0, slots := 0, locals := 0 }) [xr q, xi z] 209 M (RS tt) (xPi 209 (RS tt) (fun r M' => M' = M ∧ ((0 ≤ z ∧ z < M q 1) ∧ r = 1 ∨ ¬ (0 ≤ z ∧ z < M q 1) ∧ r = 0))) := by
  refine x_met (by decide) (Nat.le_of_ble_eq_true rfl) (fun g hg hr he => ?_)
  have hc := hI.1 q hq
  refine x_canon (ls' := [(0, _), (1, _)]) rfl ?_
  refine x_iload_n hg dX8_has_0 rfl ?_
  refine x_if_lt (tgt := 16) hg dX8_has_1 (by decide) (by omega) (fun c1 => ?_) (fun c1 => ?_)
  · skip
    refine x_iconst hg dX8_has_16 ?_
    refine x_iret hg hr (Or.inr ⟨rfl, by first | exact Or.inl rfl | exact Or.inr rfl | omega⟩) dX8_has_17 (Nat.le_refl _) (Nat.le_refl _) ?_
    exact ⟨rfl, rfl, _, rfl, rfl, by omega⟩
  · skip
    refine x_iload_n hg dX8_has_4 rfl ?_
    refine x_aload_n hg dX8_has_5 rfl ?_
    refine x_getI hg dX8_has_6 fl_X8_18 (oO_tt hq) rfl ?_
    refine x_icmp_ge (tgt := 16) hg dX8_has_9 (by decide) (by omega) (by omega) (fun c9 => ?_) (fun c9 => ?_)
    · skip
      refine x_iconst hg dX8_has_16 ?_
      refine x_iret hg hr (Or.inr ⟨rfl, by first | exact Or.inl rfl | exact Or.inr rfl | omega⟩) dX8_has_17 (Nat.le_refl _) (Nat.le_refl _) ?_
      exact ⟨rfl, rfl, _, rfl, rfl, by omega⟩
    · skip
      refine x_iconst hg dX8_has_12 ?_
      refine x_goto (tgt := 17) hg dX8_has_13 (by decide) ?_
      refine x_iret hg hr (Or.inr ⟨rfl, by first | exact Or.inl rfl | exact Or.inr rfl | omega⟩) dX8_has_17 (Nat.le_refl _) (Nat.le_refl _) ?_
      exact ⟨rfl, rfl, _, rfl, rfl, by omega⟩

theorem dX8_hasName_0 : decode cX8_hasName 0 = .ok (.iconst 0, 1) := by decide +kernel
theorem dX8_hasName_1 : decode cX8_hasName 1 = .ok (.istore_n 3, 1) := by decide +kernel
theorem dX8_hasName_2 : decode cX8_hasName 2 = .ok (.iload_n 3, 1) := by decide +kernel
theorem dX8_hasName_3 : decode cX8_hasName 3 = .ok (.aload_n 0, 1) := by decide +kernel
theorem dX8_hasName_4 : decode cX8_hasName 4 = .ok (.getfield 18, 3) := by decide +kernel
theorem dX8_hasName_7 : decode cX8_hasName 7 = .ok (.if_icmp .ge 25, 3) := by decide +kernel
theorem dX8_hasName_10 : decode cX8_hasName 10 = .ok (.aload_n 0, 1) := by decide +kernel
theorem dX8_hasName_11 : decode cX8_hasName 11 = .ok (.getfield 11, 3) := by decide +kernel
theorem dX8_hasName_14 : decode cX8_hasName 14 = .ok (.iload_n 3, 1) := by decide +kernel
theorem dX8_hasName_15 : decode cX8_hasName 15 = .ok (.aaload, 1) := by decide +kernel
theorem dX8_hasName_16 : decode cX8_hasName 16 = .ok (.getfield 22, 3) := by decide +kernel
theorem dX8_hasName_19 : decode cX8_hasName 19 = .ok (.lload_n 1, 1) := by decide +kernel
theorem dX8_hasName_20 : decode cX8_hasName 20 = .ok (.lcmp, 1) := by decide +kernel
theorem dX8_hasName_21 : decode cX8_hasName 21 = .ok (.ifCond .ne 5, 3) := by decide +kernel
theorem dX8_hasName_24 : decode cX8_hasName 24 = .ok (.iconst 1, 1) := by decide +kernel
theorem dX8_hasName_25 : decode cX8_hasName 25 = .ok (.ireturn, 1) := by decide +kernel
theorem dX8_hasName_26 : decode cX8_hasName 26 = .ok (.iinc 3 1, 3) := by decide +kernel
theorem dX8_hasName_29 : decode cX8_hasName 29 = .ok (.goto (-27), 3) := by decide +kernel
theorem dX8_hasName_32 : decode cX8_hasName 32 = .ok (.iconst 0, 1) := by decide +kernel
theorem dX8_hasName_33 : decode cX8_hasName 33 = .ok (.ireturn, 1) := by decide +kernel
set_option maxHeartbeats 4000000 in
set_option maxRecDepth 20000 in
theorem c_X8_hasName (l : Launch) (b : Nat) (D : va_G) (cy : Nat → ClassId) {tt : Nat} {M : xMm} {q : Nat} {z : Int} (hI : IR M) (hq : xTt q) (hz : inL z) : xC l b D cy yX8_hasName cX8_hasName 4 (some .boolean) ({ frames := 0, cells := 0, slots := 0, locals := 0 }) [xr q, xl z] 209 M (RS tt) (xPi 209 (RS tt) (fun r M' => M' = M ∧ (r = 0 ∨ r = 1))) := by
  refine x_met (by decide) (Nat.le_of_ble_eq_true rfl) (fun g hg hr he => ?_)
  have hc := hI.1 q hq
  refine x_canon (ls' := [(0, _), (1, _)]) rfl ?_
  have loop : ∀ (c : Nat) (j : Int), 0 ≤ j → j ≤ M q 1 → M q 1 - j < c → xW g 209 M (RS tt) 0 0 2 [(0, xr q), (1, xl z), (3, xi j)] [] := by
    intro c
    induction c with
    | zero => intro j h1 h2 h3; exact absurd h3 (by omega)
    | succ c ih =>
      intro j hj1 hj2 hj3
      refine x_iload_n hg dX8_hasName_2 rfl ?_
      refine x_aload_n hg dX8_hasName_3 rfl ?_
      refine x_getI hg dX8_hasName_4 fl_X8_18 (oO_tt hq) rfl ?_
      refine x_icmp_ge (tgt := 32) hg dX8_hasName_7 (by decide) (by omega) (by omega) (fun c7 => ?_) (fun c7 => ?_)
      · skip
        refine x_iconst hg dX8_hasName_32 ?_
        refine x_iret hg hr (Or.inr ⟨rfl, by first | exact Or.inl rfl | exact Or.inr rfl | omega⟩) dX8_hasName_33 (Nat.le_refl _) (Nat.le_refl _) ?_
        exact ⟨rfl, rfl, _, rfl, rfl, by omega⟩
      · skip
        refine x_aload_n hg dX8_hasName_10 rfl ?_
        refine x_getR hg dX8_hasName_11 fl_X8_11 (oO_tt hq) rfl (RS_tt hq) (by omega) ?_
        refine x_iload_n hg dX8_hasName_14 rfl ?_
        refine x_aaload (len := 8) (et := 4) hg dX8_hasName_15 (oA_tt hq) (by decide) (by omega) (RS_trn hq _) (by omega) ?_
        refine x_getL hg dX8_hasName_16 fl_X8_22 (oO_train (xTr_of hq (by omega))) rfl ?_
        refine x_lload_n hg dX8_hasName_19 rfl ?_
        refine x_lcmp hg dX8_hasName_20 (by exact ((hI.2 _ (xTr_of hq (by omega))).1).2.2.2) (by omega) ?_
        refine x_if_ne (tgt := 26) hg dX8_hasName_21 (by decide) (by split <;> (try split) <;> omega) (fun c21 => ?_) (fun c21 => ?_)
        · skip
          refine x_iinc (ls' := [(0, _), (1, _), (3, _)]) hg dX8_hasName_26 rfl (by decide) rfl ?_
          refine x_goto (tgt := 2) hg dX8_hasName_29 (by decide) ?_
          exact ih _ (by omega) (by omega) (by omega)
        · skip
          refine x_iconst hg dX8_hasName_24 ?_
          refine x_iret hg hr (Or.inr ⟨rfl, by first | exact Or.inl rfl | exact Or.inr rfl | omega⟩) dX8_hasName_25 (Nat.le_refl _) (Nat.le_refl _) ?_
          exact ⟨rfl, rfl, _, rfl, rfl, by omega⟩
  refine x_iconst hg dX8_hasName_0 ?_
  refine x_istore_n (ls' := [(0, _), (1, _), (3, _)]) hg dX8_hasName_1 rfl (by decide) rfl ?_
  exact loop 9 0 (by omega) (by omega) (by omega)

theorem dX11_stopOf_0 : decode cX11_stopOf 0 = .ok (.iload_n 1, 1) := by decide +kernel
theorem dX11_stopOf_1 : decode cX11_stopOf 1 = .ok (.bipush 10, 2) := by decide +kernel
theorem dX11_stopOf_3 : decode cX11_stopOf 3 = .ok (.if_icmp .lt 23, 3) := by decide +kernel
theorem dX11_stopOf_6 : decode cX11_stopOf 6 = .ok (.iload_n 1, 1) := by decide +kernel
theorem dX11_stopOf_7 : decode cX11_stopOf 7 = .ok (.bipush 10, 2) := by decide +kernel
theorem dX11_stopOf_9 : decode cX11_stopOf 9 = .ok (.aload_n 0, 1) := by decide +kernel
theorem dX11_stopOf_10 : decode cX11_stopOf 10 = .ok (.getfield 129, 3) := by decide +kernel
theorem dX11_stopOf_13 : decode cX11_stopOf 13 = .ok (.iadd, 1) := by decide +kernel
theorem dX11_stopOf_14 : decode cX11_stopOf 14 = .ok (.if_icmp .ge 12, 3) := by decide +kernel
theorem dX11_stopOf_17 : decode cX11_stopOf 17 = .ok (.aload_n 0, 1) := by decide +kernel
theorem dX11_stopOf_18 : decode cX11_stopOf 18 = .ok (.iload_n 1, 1) := by decide +kernel
theorem dX11_stopOf_19 : decode cX11_stopOf 19 = .ok (.bipush 10, 2) := by decide +kernel
theorem dX11_stopOf_21 : decode cX11_stopOf 21 = .ok (.isub, 1) := by decide +kernel
theorem dX11_stopOf_22 : decode cX11_stopOf 22 = .ok (.invokevirtual 139, 3) := by decide +kernel
theorem dX11_stopOf_25 : decode cX11_stopOf 25 = .ok (.ireturn, 1) := by decide +kernel
theorem dX11_stopOf_26 : decode cX11_stopOf 26 = .ok (.iload_n 1, 1) := by decide +kernel
theorem dX11_stopOf_27 : decode cX11_stopOf 27 = .ok (.bipush 20, 2) := by decide +kernel
theorem dX11_stopOf_29 : decode cX11_stopOf 29 = .ok (.if_icmp .lt 23, 3) := by decide +kernel
theorem dX11_stopOf_32 : decode cX11_stopOf 32 = .ok (.iload_n 1, 1) := by decide +kernel
theorem dX11_stopOf_33 : decode cX11_stopOf 33 = .ok (.bipush 20, 2) := by decide +kernel
theorem dX11_stopOf_35 : decode cX11_stopOf 35 = .ok (.aload_n 0, 1) := by decide +kernel
theorem dX11_stopOf_36 : decode cX11_stopOf 36 = .ok (.getfield 129, 3) := by decide +kernel
theorem dX11_stopOf_39 : decode cX11_stopOf 39 = .ok (.iadd, 1) := by decide +kernel
theorem dX11_stopOf_40 : decode cX11_stopOf 40 = .ok (.if_icmp .ge 12, 3) := by decide +kernel
theorem dX11_stopOf_43 : decode cX11_stopOf 43 = .ok (.aload_n 0, 1) := by decide +kernel
theorem dX11_stopOf_44 : decode cX11_stopOf 44 = .ok (.iload_n 1, 1) := by decide +kernel
theorem dX11_stopOf_45 : decode cX11_stopOf 45 = .ok (.bipush 20, 2) := by decide +kernel
theorem dX11_stopOf_47 : decode cX11_stopOf 47 = .ok (.isub, 1) := by decide +kernel
theorem dX11_stopOf_48 : decode cX11_stopOf 48 = .ok (.invokevirtual 143, 3) := by decide +kernel
theorem dX11_stopOf_51 : decode cX11_stopOf 51 = .ok (.ireturn, 1) := by decide +kernel
theorem dX11_stopOf_52 : decode cX11_stopOf 52 = .ok (.iconst (-1), 1) := by decide +kernel
theorem dX11_stopOf_53 : decode cX11_stopOf 53 = .ok (.ireturn, 1) := by decide +kernel
set_option maxHeartbeats 4000000 in
set_option maxRecDepth 20000 in
theorem c_X11_stopOf (l : Launch) (b : Nat) (D : va_G) (cy : Nat → ClassId) {tt : Nat} {M : xMm} {i : Nat} {z : Int} (hI : IR M) (hi : xTr i) (hz : inR z) : xC l b D cy yX11_stopOf cX11_stopOf 2 (some .int) ({ frames := 1, cells := 0, slots := 0, locals := 21 }) [xr i, xi z] 209 M (RS tt) (xPi 209 (RS tt) (fun r M' => M' = M)) := by
  refine x_met (by decide) (Nat.le_of_ble_eq_true rfl) (fun g hg hr he => ?_)
  obtain ⟨hn, hst⟩ := hI.2 i hi
  refine x_canon (ls' := [(0, _), (1, _)]) rfl ?_
  refine x_iload_n hg dX11_stopOf_0 rfl ?_
  refine x_bipush hg dX11_stopOf_1 (by decide) ?_
  refine x_icmp_lt (tgt := 26) hg dX11_stopOf_3 (by decide) (by omega) (by omega) (fun c3 => ?_) (fun c3 => ?_)
  · skip
    refine x_iload_n hg dX11_stopOf_26 rfl ?_
    refine x_bipush hg dX11_stopOf_27 (by decide) ?_
    refine x_icmp_lt (tgt := 52) hg dX11_stopOf_29 (by decide) (by omega) (by omega) (fun c29 => ?_) (fun c29 => ?_)
    · skip
      refine x_iconst hg dX11_stopOf_52 ?_
      refine x_iret hg hr (Or.inl rfl) dX11_stopOf_53 (Nat.le_refl _) (Nat.le_refl _) ?_
      exact ⟨rfl, rfl, _, rfl, rfl⟩
    · skip
      refine x_iload_n hg dX11_stopOf_32 rfl ?_
      refine x_bipush hg dX11_stopOf_33 (by decide) ?_
      refine x_aload_n hg dX11_stopOf_35 rfl ?_
      refine x_getI hg dX11_stopOf_36 fl_X11_129 (oO_train hi) rfl ?_
      refine x_iadd hg dX11_stopOf_39 ?_
      refine x_icmp_ge (tgt := 52) hg dX11_stopOf_40 (by decide) (by omega) (by omega) (fun c40 => ?_) (fun c40 => ?_)
      · skip
        refine x_iconst hg dX11_stopOf_52 ?_
        refine x_iret hg hr (Or.inl rfl) dX11_stopOf_53 (Nat.le_refl _) (Nat.le_refl _) ?_
        exact ⟨rfl, rfl, _, rfl, rfl⟩
      · skip
        refine x_aload_n hg dX11_stopOf_43 rfl ?_
        refine x_iload_n hg dX11_stopOf_44 rfl ?_
        refine x_bipush hg dX11_stopOf_45 (by decide) ?_
        refine x_isub hg dX11_stopOf_47 ?_
        refine x_cVi hg he [_] [] dX11_stopOf_48 mv_X11_143 (c_X9_minuteOf l b D cy hI hi (by omega)) (oO_train hi) rfl rfl (Nat.le_of_ble_eq_true rfl) (by decide) (by decide) (fun r48 M48 q48 => ?_)
        obtain ⟨h48, e48⟩ := q48
        replace h48 := h48.symm
        subst h48
        refine x_iret hg hr (Or.inl rfl) dX11_stopOf_51 (Nat.le_refl _) (Nat.le_refl _) ?_
        exact ⟨rfl, rfl, _, rfl, rfl⟩
  · skip
    refine x_iload_n hg dX11_stopOf_6 rfl ?_
    refine x_bipush hg dX11_stopOf_7 (by decide) ?_
    refine x_aload_n hg dX11_stopOf_9 rfl ?_
    refine x_getI hg dX11_stopOf_10 fl_X11_129 (oO_train hi) rfl ?_
    refine x_iadd hg dX11_stopOf_13 ?_
    refine x_icmp_ge (tgt := 26) hg dX11_stopOf_14 (by decide) (by omega) (by omega) (fun c14 => ?_) (fun c14 => ?_)
    · skip
      refine x_iload_n hg dX11_stopOf_26 rfl ?_
      refine x_bipush hg dX11_stopOf_27 (by decide) ?_
      refine x_icmp_lt (tgt := 52) hg dX11_stopOf_29 (by decide) (by omega) (by omega) (fun c29 => ?_) (fun c29 => ?_)
      · skip
        refine x_iconst hg dX11_stopOf_52 ?_
        refine x_iret hg hr (Or.inl rfl) dX11_stopOf_53 (Nat.le_refl _) (Nat.le_refl _) ?_
        exact ⟨rfl, rfl, _, rfl, rfl⟩
      · skip
        refine x_iload_n hg dX11_stopOf_32 rfl ?_
        refine x_bipush hg dX11_stopOf_33 (by decide) ?_
        refine x_aload_n hg dX11_stopOf_35 rfl ?_
        refine x_getI hg dX11_stopOf_36 fl_X11_129 (oO_train hi) rfl ?_
        refine x_iadd hg dX11_stopOf_39 ?_
        refine x_icmp_ge (tgt := 52) hg dX11_stopOf_40 (by decide) (by omega) (by omega) (fun c40 => ?_) (fun c40 => ?_)
        · skip
          refine x_iconst hg dX11_stopOf_52 ?_
          refine x_iret hg hr (Or.inl rfl) dX11_stopOf_53 (Nat.le_refl _) (Nat.le_refl _) ?_
          exact ⟨rfl, rfl, _, rfl, rfl⟩
        · skip
          refine x_aload_n hg dX11_stopOf_43 rfl ?_
          refine x_iload_n hg dX11_stopOf_44 rfl ?_
          refine x_bipush hg dX11_stopOf_45 (by decide) ?_
          refine x_isub hg dX11_stopOf_47 ?_
          refine x_cVi hg he [_] [] dX11_stopOf_48 mv_X11_143 (c_X9_minuteOf l b D cy hI hi (by omega)) (oO_train hi) rfl rfl (Nat.le_of_ble_eq_true rfl) (by decide) (by decide) (fun r48 M48 q48 => ?_)
          obtain ⟨h48, e48⟩ := q48
          replace h48 := h48.symm
          subst h48
          refine x_iret hg hr (Or.inl rfl) dX11_stopOf_51 (Nat.le_refl _) (Nat.le_refl _) ?_
          exact ⟨rfl, rfl, _, rfl, rfl⟩
    · skip
      refine x_aload_n hg dX11_stopOf_17 rfl ?_
      refine x_iload_n hg dX11_stopOf_18 rfl ?_
      refine x_bipush hg dX11_stopOf_19 (by decide) ?_
      refine x_isub hg dX11_stopOf_21 ?_
      refine x_cVi hg he [_] [] dX11_stopOf_22 mv_X11_139 (c_X9_stationOf l b D cy hI hi (by omega)) (oO_train hi) rfl rfl (Nat.le_of_ble_eq_true rfl) (by decide) (by decide) (fun r22 M22 q22 => ?_)
      obtain ⟨h22, e22⟩ := q22
      replace h22 := h22.symm
      subst h22
      refine x_iret hg hr (Or.inl rfl) dX11_stopOf_25 (Nat.le_refl _) (Nat.le_refl _) ?_
      exact ⟨rfl, rfl, _, rfl, rfl⟩

theorem dX11_train_0 : decode cX11_train 0 = .ok (.aload_n 0, 1) := by decide +kernel
theorem dX11_train_1 : decode cX11_train 1 = .ok (.getfield 28, 3) := by decide +kernel
theorem dX11_train_4 : decode cX11_train 4 = .ok (.iload_n 1, 1) := by decide +kernel
theorem dX11_train_5 : decode cX11_train 5 = .ok (.invokevirtual 116, 3) := by decide +kernel
theorem dX11_train_8 : decode cX11_train 8 = .ok (.ifCond .ne 5, 3) := by decide +kernel
theorem dX11_train_11 : decode cX11_train 11 = .ok (.iconst (-1), 1) := by decide +kernel
theorem dX11_train_12 : decode cX11_train 12 = .ok (.ireturn, 1) := by decide +kernel
theorem dX11_train_13 : decode cX11_train 13 = .ok (.aload_n 0, 1) := by decide +kernel
theorem dX11_train_14 : decode cX11_train 14 = .ok (.getfield 28, 3) := by decide +kernel
theorem dX11_train_17 : decode cX11_train 17 = .ok (.getfield 120, 3) := by decide +kernel
theorem dX11_train_20 : decode cX11_train 20 = .ok (.iload_n 1, 1) := by decide +kernel
theorem dX11_train_21 : decode cX11_train 21 = .ok (.aaload, 1) := by decide +kernel
theorem dX11_train_22 : decode cX11_train 22 = .ok (.astore_n 3, 1) := by decide +kernel
theorem dX11_train_23 : decode cX11_train 23 = .ok (.iload_n 2, 1) := by decide +kernel
theorem dX11_train_24 : decode cX11_train 24 = .ok (.tableswitch 43 0 2 #[28, 33, 38], 28) := by decide +kernel
theorem dX11_train_52 : decode cX11_train 52 = .ok (.aload_n 3, 1) := by decide +kernel
theorem dX11_train_53 : decode cX11_train 53 = .ok (.getfield 124, 3) := by decide +kernel
theorem dX11_train_56 : decode cX11_train 56 = .ok (.ireturn, 1) := by decide +kernel
theorem dX11_train_57 : decode cX11_train 57 = .ok (.aload_n 3, 1) := by decide +kernel
theorem dX11_train_58 : decode cX11_train 58 = .ok (.getfield 129, 3) := by decide +kernel
theorem dX11_train_61 : decode cX11_train 61 = .ok (.ireturn, 1) := by decide +kernel
theorem dX11_train_62 : decode cX11_train 62 = .ok (.aload_n 3, 1) := by decide +kernel
theorem dX11_train_63 : decode cX11_train 63 = .ok (.getfield 132, 3) := by decide +kernel
theorem dX11_train_66 : decode cX11_train 66 = .ok (.ireturn, 1) := by decide +kernel
theorem dX11_train_67 : decode cX11_train 67 = .ok (.aload_n 3, 1) := by decide +kernel
theorem dX11_train_68 : decode cX11_train 68 = .ok (.iload_n 2, 1) := by decide +kernel
theorem dX11_train_69 : decode cX11_train 69 = .ok (.invokestatic 135, 3) := by decide +kernel
theorem dX11_train_72 : decode cX11_train 72 = .ok (.ireturn, 1) := by decide +kernel
set_option maxHeartbeats 4000000 in
set_option maxRecDepth 20000 in
theorem c_X11_train (l : Launch) (b : Nat) (D : va_G) (cy : Nat → ClassId) {tt : Nat} {M : xMm} {z y : Int} (hI : IR M) (htt : xTt tt) (hz : inR z) (hy : inR y) : xC l b D cy yX11_train cX11_train 4 (some .int) ({ frames := 2, cells := 0, slots := 0, locals := 42 }) [xr 1, xi z, xi y] 209 M (RS tt) (xPi 209 (RS tt) (fun r M' => M' = M)) := by
  refine x_met (by decide) (Nat.le_of_ble_eq_true rfl) (fun g hg hr he => ?_)
  have htt2 : xTt tt := htt
  have hc := hI.1 tt htt
  refine x_canon (ls' := [(0, _), (1, _), (2, _)]) rfl ?_
  refine x_aload_n hg dX11_train_0 rfl ?_
  refine x_getR (j9 := tt) hg dX11_train_1 fl_X11_28 (by decide) rfl rfl (by omega) ?_
  refine x_iload_n hg dX11_train_4 rfl ?_
  refine x_cVi hg he [_] [] dX11_train_5 mv_X11_116 (c_X8_has l b D cy hI htt (by omega)) (oO_tt htt) rfl rfl (Nat.le_of_ble_eq_true rfl) (by decide) (by decide) (fun r5 M5 q5 => ?_)
  obtain ⟨h5, e5⟩ := q5
  replace h5 := h5.symm
  subst h5
  refine x_if_ne (tgt := 13) hg dX11_train_8 (by decide) (by omega) (fun c8 => ?_) (fun c8 => ?_)
  · skip
    refine x_aload_n hg dX11_train_13 rfl ?_
    refine x_getR (j9 := tt) hg dX11_train_14 fl_X11_28 (by decide) rfl rfl (by omega) ?_
    refine x_getR hg dX11_train_17 fl_X11_120 (oO_tt htt) rfl (RS_tt htt) (by omega) ?_
    refine x_iload_n hg dX11_train_20 rfl ?_
    refine x_aaload (len := 8) (et := 4) hg dX11_train_21 (oA_tt htt) (by decide) (by omega) (RS_trn htt _) (by omega) ?_
    refine x_astore_n (ls' := [(0, _), (1, _), (2, _), (3, _)]) hg dX11_train_22 rfl (by decide) rfl ?_
    refine x_iload_n hg dX11_train_23 rfl ?_
    refine x_int_cases 0 2 (fun hsw24 => ?_) (fun h1sw24 h2sw24 => ?_)
    · refine x_tableOut (tgt := 67) hg dX11_train_24 (by omega) hsw24 (by decide) ?_
      refine x_aload_n hg dX11_train_67 rfl ?_
      refine x_iload_n hg dX11_train_68 rfl ?_
      refine x_cSi hg he [_, _] [] dX11_train_69 ms_X11_135 (c_X11_stopOf l b D cy hI (xTr_of htt (by omega)) (by omega)) rfl rfl (Nat.le_of_ble_eq_true rfl) (by decide) (by decide) (fun r69 M69 q69 => ?_)
      refine x_iret hg hr (Or.inl rfl) dX11_train_72 (Nat.le_refl _) (Nat.le_refl _) ?_
      exact ⟨rfl, rfl, _, rfl, q69⟩
    · refine x_sw3 h1sw24 h2sw24 (fun e24 => ?_) (fun e24 => ?_) (fun e24 => ?_)
      · refine x_tableIn (off := 28) (tgt := 52) hg dX11_train_24 (by omega) h1sw24 h2sw24 (by rw [e24]; rfl) (by decide) ?_
        refine x_aload_n hg dX11_train_52 rfl ?_
        refine x_getI hg dX11_train_53 fl_X11_124 (oO_train (xTr_of htt (by omega))) rfl ?_
        refine x_iret hg hr (Or.inl rfl) dX11_train_56 (Nat.le_refl _) (Nat.le_refl _) ?_
        exact ⟨rfl, rfl, _, rfl, rfl⟩
      · refine x_tableIn (off := 33) (tgt := 57) hg dX11_train_24 (by omega) h1sw24 h2sw24 (by rw [e24]; rfl) (by decide) ?_
        refine x_aload_n hg dX11_train_57 rfl ?_
        refine x_getI hg dX11_train_58 fl_X11_129 (oO_train (xTr_of htt (by omega))) rfl ?_
        refine x_iret hg hr (Or.inl rfl) dX11_train_61 (Nat.le_refl _) (Nat.le_refl _) ?_
        exact ⟨rfl, rfl, _, rfl, rfl⟩
      · refine x_tableIn (off := 38) (tgt := 62) hg dX11_train_24 (by omega) h1sw24 h2sw24 (by rw [e24]; rfl) (by decide) ?_
        refine x_aload_n hg dX11_train_62 rfl ?_
        refine x_getI hg dX11_train_63 fl_X11_132 (oO_train (xTr_of htt (by omega))) rfl ?_
        refine x_iret hg hr (Or.inl rfl) dX11_train_66 (Nat.le_refl _) (Nat.le_refl _) ?_
        exact ⟨rfl, rfl, _, rfl, rfl⟩
  · skip
    refine x_iconst hg dX11_train_11 ?_
    refine x_iret hg hr (Or.inl rfl) dX11_train_12 (Nat.le_refl _) (Nat.le_refl _) ?_
    exact ⟨rfl, rfl, _, rfl, rfl⟩

theorem dX11_delay_0 : decode cX11_delay 0 = .ok (.aload_n 0, 1) := by decide +kernel
theorem dX11_delay_1 : decode cX11_delay 1 = .ok (.getfield 28, 3) := by decide +kernel
theorem dX11_delay_4 : decode cX11_delay 4 = .ok (.iload_n 1, 1) := by decide +kernel
theorem dX11_delay_5 : decode cX11_delay 5 = .ok (.invokevirtual 116, 3) := by decide +kernel
theorem dX11_delay_8 : decode cX11_delay 8 = .ok (.ifCond .eq 14, 3) := by decide +kernel
theorem dX11_delay_11 : decode cX11_delay 11 = .ok (.iload_n 2, 1) := by decide +kernel
theorem dX11_delay_12 : decode cX11_delay 12 = .ok (.ifCond .lt 10, 3) := by decide +kernel
theorem dX11_delay_15 : decode cX11_delay 15 = .ok (.iload_n 2, 1) := by decide +kernel
theorem dX11_delay_16 : decode cX11_delay 16 = .ok (.sipush 300, 3) := by decide +kernel
theorem dX11_delay_19 : decode cX11_delay 19 = .ok (.if_icmp .le 5, 3) := by decide +kernel
theorem dX11_delay_22 : decode cX11_delay 22 = .ok (.iconst 0, 1) := by decide +kernel
theorem dX11_delay_23 : decode cX11_delay 23 = .ok (.ireturn, 1) := by decide +kernel
theorem dX11_delay_24 : decode cX11_delay 24 = .ok (.aload_n 0, 1) := by decide +kernel
theorem dX11_delay_25 : decode cX11_delay 25 = .ok (.getfield 28, 3) := by decide +kernel
theorem dX11_delay_28 : decode cX11_delay 28 = .ok (.getfield 120, 3) := by decide +kernel
theorem dX11_delay_31 : decode cX11_delay 31 = .ok (.iload_n 1, 1) := by decide +kernel
theorem dX11_delay_32 : decode cX11_delay 32 = .ok (.aaload, 1) := by decide +kernel
theorem dX11_delay_33 : decode cX11_delay 33 = .ok (.iload_n 2, 1) := by decide +kernel
theorem dX11_delay_34 : decode cX11_delay 34 = .ok (.putfield 132, 3) := by decide +kernel
theorem dX11_delay_37 : decode cX11_delay 37 = .ok (.aload_n 0, 1) := by decide +kernel
theorem dX11_delay_38 : decode cX11_delay 38 = .ok (.iconst 1, 1) := by decide +kernel
theorem dX11_delay_39 : decode cX11_delay 39 = .ok (.putfield 60, 3) := by decide +kernel
theorem dX11_delay_42 : decode cX11_delay 42 = .ok (.iconst 1, 1) := by decide +kernel
theorem dX11_delay_43 : decode cX11_delay 43 = .ok (.ireturn, 1) := by decide +kernel
set_option maxHeartbeats 4000000 in
set_option maxRecDepth 20000 in
theorem c_X11_delay (l : Launch) (b : Nat) (D : va_G) (cy : Nat → ClassId) {tt : Nat} {M : xMm} {z y : Int} (hI : IR M) (htt : xTt tt) (hz : inR z) (hy : inR y) : xC l b D cy yX11_delay cX11_delay 3 (some .boolean) ({ frames := 1, cells := 0, slots := 0, locals := 21 }) [xr 1, xi z, xi y] 209 M (RS tt) (xPi 209 (RS tt) (fun r M' => IR M' ∧ (∀ a, a ≠ 1 → (a < 5 ∨ 56 < a) → M' a = M a) ∧ (M' 1 = M 1 ∨ M' 1 = mu M 1 7 1 1))) := by
  refine x_met (by decide) (Nat.le_of_ble_eq_true rfl) (fun g hg hr he => ?_)
  have htt2 : xTt tt := htt
  have hc := hI.1 tt htt
  refine x_canon (ls' := [(0, _), (1, _), (2, _)]) rfl ?_
  refine x_aload_n hg dX11_delay_0 rfl ?_
  refine x_getR (j9 := tt) hg dX11_delay_1 fl_X11_28 (by decide) rfl rfl (by omega) ?_
  refine x_iload_n hg dX11_delay_4 rfl ?_
  refine x_cVi hg he [_] [] dX11_delay_5 mv_X11_116 (c_X8_has l b D cy hI htt (by omega)) (oO_tt htt) rfl rfl (Nat.le_of_ble_eq_true rfl) (by decide) (by decide) (fun r5 M5 q5 => ?_)
  obtain ⟨h5, e5⟩ := q5
  replace h5 := h5.symm
  subst h5
  refine x_if_eq (tgt := 22) hg dX11_delay_8 (by decide) (by omega) (fun c8 => ?_) (fun c8 => ?_)
  · skip
    refine x_iconst hg dX11_delay_22 ?_
    refine x_iret hg hr (Or.inr ⟨rfl, by first | exact Or.inl rfl | exact Or.inr rfl | omega⟩) dX11_delay_23 (Nat.le_refl _) (Nat.le_refl _) ?_
    exact ⟨rfl, rfl, _, rfl, hI, fun a _ _ => rfl, Or.inl rfl⟩
  · skip
    refine x_iload_n hg dX11_delay_11 rfl ?_
    refine x_if_lt (tgt := 22) hg dX11_delay_12 (by decide) (by omega) (fun c12 => ?_) (fun c12 => ?_)
    · skip
      refine x_iconst hg dX11_delay_22 ?_
      refine x_iret hg hr (Or.inr ⟨rfl, by first | exact Or.inl rfl | exact Or.inr rfl | omega⟩) dX11_delay_23 (Nat.le_refl _) (Nat.le_refl _) ?_
      exact ⟨rfl, rfl, _, rfl, hI, fun a _ _ => rfl, Or.inl rfl⟩
    · skip
      refine x_iload_n hg dX11_delay_15 rfl ?_
      refine x_sipush hg dX11_delay_16 (by decide) ?_
      refine x_icmp_le (tgt := 24) hg dX11_delay_19 (by decide) (by omega) (by omega) (fun c19 => ?_) (fun c19 => ?_)
      · skip
        refine x_aload_n hg dX11_delay_24 rfl ?_
        refine x_getR (j9 := tt) hg dX11_delay_25 fl_X11_28 (by decide) rfl rfl (by omega) ?_
        refine x_getR hg dX11_delay_28 fl_X11_120 (oO_tt htt) rfl (RS_tt htt) (by omega) ?_
        refine x_iload_n hg dX11_delay_31 rfl ?_
        refine x_aaload (len := 8) (et := 4) hg dX11_delay_32 (oA_tt htt) (by decide) (by omega) (RS_trn htt _) (by omega) ?_
        refine x_iload_n hg dX11_delay_33 rfl ?_
        refine x_putI hg dX11_delay_34 fl_X11_132 ft_9_2 (oO_train (xTr_of htt (by omega))) rfl ?_
        refine x_aload_n hg dX11_delay_37 rfl ?_
        refine x_iconst hg dX11_delay_38 ?_
        refine x_putZ hg dX11_delay_39 fl_X11_60 ft_11_7 (by decide) rfl (by first | exact Or.inl rfl | exact Or.inr rfl | omega) ?_
        refine x_iconst hg dX11_delay_42 ?_
        refine x_iret hg hr (Or.inr ⟨rfl, by first | exact Or.inl rfl | exact Or.inr rfl | omega⟩) dX11_delay_43 (Nat.le_refl _) (Nat.le_refl _) ?_
        refine ⟨rfl, rfl, _, rfl, IR_congr (M := mu M (tt + 2 + 3 * z.toNat) 2 y) (IR_tr hI (xTr_of htt (show z.toNat < 8 by omega)) (Or.inr (Or.inl ⟨rfl, by omega⟩))) (fun a h1 h2 => ?_), fun a h1 h2 => ?_, Or.inr ?_⟩
        · funext c; exact mu_nc (by omega)
        · funext c; rw [mu_nc h1, mu_nc (by omega)]
        · funext c
          by_cases e : c = 7
          · subst e; rw [mu_s, mu_s]
          · rw [mu_nf e, mu_nf e, mu_nc (by omega)]
      · skip
        refine x_iconst hg dX11_delay_22 ?_
        refine x_iret hg hr (Or.inr ⟨rfl, by first | exact Or.inl rfl | exact Or.inr rfl | omega⟩) dX11_delay_23 (Nat.le_refl _) (Nat.le_refl _) ?_
        exact ⟨rfl, rfl, _, rfl, hI, fun a _ _ => rfl, Or.inl rfl⟩
