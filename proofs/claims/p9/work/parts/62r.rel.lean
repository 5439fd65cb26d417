/-! ===== what ties the class to the model: counts, churns, tanks, bottlings, finds, warmths, coolers ===== -/
def relB (M : xMm) (c : Nat) : Prop := (M 186 c = M (85 + c) 0 ∧ M 187 c = M (85 + c) 1 ∧ M 188 c = M (85 + c) 2 ∧ M 189 c = M (85 + c) 3) ∧ ((c : Int) < M 1 10 → M 190 c = M (85 + c) 4) ∧ (M 1 10 ≤ (c : Int) → M (85 + c) 4 = -1)
def relF (M : xMm) (k : Nat) : Prop := (M 206 k = M (142 + k) 0 ∧ M 207 k = M (142 + k) 1 ∧ M 208 k = M (142 + k) 2) ∧ ((k : Int) < M 1 15 → M 209 k = M (142 + k) 3) ∧ (M 1 15 ≤ (k : Int) → M (142 + k) 3 = -1)
def REL (M : xMm) : Prop := (M 172 30 = M 1 10 ∧ M 172 56 = M 1 13 ∧ M 172 57 = M 1 15 ∧ M 172 55 = M 1 16)
  ∧ (∀ c, c < 10 → relB M c) ∧ (∀ t, t < 4 → M 201 t = M (96 + t) 0 ∧ M 202 t = M (96 + t) 1)
  ∧ (∀ k, k < 40 → M 203 k = M (101 + k) 0 ∧ M 204 k = M (101 + k) 1 ∧ M 205 k = M (101 + k) 2)
  ∧ (∀ k, k < 30 → relF M k) ∧ (∀ h, h < 24 → M 182 h = M 58 h) ∧ ∀ s, s < 10 → M 185 s = M 59 s
theorem REL_fr {M' M : xMm} (h : REL M) (e1 : ∀ f, f ≠ 7 → f ≠ 8 → M' 1 f = M 1 f) (e2 : ∀ a, (58 ≤ a ∧ a ≤ 59) ∨ (85 ≤ a ∧ a ≤ 171) ∨ a = 182 ∨ (185 ≤ a ∧ a ≤ 190) ∨ (201 ≤ a ∧ a ≤ 209) → M' a = M a) (e3 : ∀ f, f = 30 ∨ 55 ≤ f → M' 172 f = M 172 f) : REL M' := by
  obtain ⟨h1, h2, h3, h4, h5, h6, h7⟩ := h
  refine ⟨?_, fun c hc => ?_, fun t ht => ?_, fun k hk => ?_, fun k hk => ?_, fun k hk => ?_, fun s hs => ?_⟩
  · rw [e3 30 (by omega), e3 56 (by omega), e3 57 (by omega), e3 55 (by omega), e1 10 (by decide) (by decide), e1 13 (by decide) (by decide), e1 15 (by decide) (by decide), e1 16 (by decide) (by decide)]; exact h1
  · unfold relB
    rw [e2 186 (by omega), e2 187 (by omega), e2 188 (by omega), e2 189 (by omega), e2 190 (by omega), e2 (85 + c) (by omega), e1 10 (by decide) (by decide)]; exact h2 c hc
  · rw [e2 201 (by omega), e2 202 (by omega), e2 (96 + t) (by omega)]; exact h3 t ht
  · rw [e2 203 (by omega), e2 204 (by omega), e2 205 (by omega), e2 (101 + k) (by omega)]; exact h4 k hk
  · unfold relF
    rw [e2 206 (by omega), e2 207 (by omega), e2 208 (by omega), e2 209 (by omega), e2 (142 + k) (by omega), e1 15 (by decide) (by decide)]; exact h5 k hk
  · rw [e2 182 (by omega), e2 58 (by omega)]; exact h6 k hk
  · rw [e2 185 (by omega), e2 59 (by omega)]; exact h7 s hs
theorem f1_of {M' M : xMm} {v : Int} (h : M' 1 = M 1 ∨ M' 1 = mu M 1 7 v 1) (f : Nat) (hf : f ≠ 7) : M' 1 f = M 1 f := by
  rcases h with h | h
  · rw [h]
  · rw [h]; exact mu_nf hf
/-- the class's part, where nothing of the tie changes -/
theorem rx_t {M' M : xMm} (h : REL M) (e : ∀ a, a ≠ 2 → a ≠ 3 → M' a = M a) : REL M' := REL_fr h (fun f _ _ => by rw [e 1 (by decide) (by decide)]) (fun a ha => e a (by omega) (by omega)) (fun f _ => by rw [e 172 (by decide) (by decide)])
theorem rx_r {M' M : xMm} (h : REL M) (e : ∀ a, a ≠ 1 → (a < 2 ∨ 56 < a) → M' a = M a) (e1 : M' 1 = M 1 ∨ M' 1 = mu M 1 7 1 1) : REL M' := REL_fr h (fun f hf _ => f1_of e1 f hf) (fun a ha => e a (by omega) (by omega)) (fun f _ => by rw [e 172 (by decide) (by decide)])
theorem rx_W {M' M : xMm} (h : REL M) (e : frW M' M) : REL M' := REL_fr h (fun f hf _ => by rw [e 1 (by decide)]) (fun a ha => e a (by omega)) (fun f _ => by rw [e 172 (by decide)])
theorem rx_B {M' M : xMm} (h : REL M) (e : frB M' M) : REL M' := REL_fr h (fun f hf _ => f1_of e.2 f hf) (fun a ha => e.1 a (by omega) (by omega)) (fun f _ => by rw [e.1 172 (by decide) (by decide)])
/-- the model's part -/
theorem ry_F {M' M : xMm} (h : REL M) (e : frF M' M) : REL M' := REL_fr h (fun f _ _ => by rw [e.1 1 (by decide) (by decide)]) (fun a ha => e.1 a (by omega) (by omega)) (fun f hf => e.2 f (by omega))
theorem ry_X {M' M : xMm} (h : REL M) (e : frX M' M) : REL M' := REL_fr h (fun f _ _ => by rw [e.1 1 (by decide)]) (fun a ha => e.1 a (by omega)) (fun f hf => e.2 f (by omega))
theorem ry_d {M' M : xMm} (h : REL M) (e : ∀ a, a ≠ 181 → M' a = M a) : REL M' := REL_fr h (fun f _ _ => by rw [e 1 (by decide)]) (fun a ha => e a (by omega)) (fun f hf => by rw [e 172 (by decide)])
theorem ry_b {M' M : xMm} (h : REL M) (e : ∀ a, a ≠ 183 → a ≠ 184 → M' a = M a) : REL M' := REL_fr h (fun f _ _ => by rw [e 1 (by decide) (by decide)]) (fun a ha => e a (by omega) (by omega)) (fun f hf => by rw [e 172 (by decide) (by decide)])
theorem ry_S {M' M : xMm} (h : REL M) (e : frS M' M) : REL M' := REL_fr h (fun f _ _ => by rw [e.1 1 (by decide) (by decide) (by decide) (by decide) (by decide)]) (fun a ha => e.1 a (by omega) (by omega) (by omega) (by omega) (by omega)) (fun f hf => e.2 f (by omega))
theorem ry_A {M' M : xMm} (h : REL M) (e : frA M' M) : REL M' := REL_fr h (fun f _ _ => by rw [e.1 1 (by decide) (by decide) (by decide) (by omega)]) (fun a ha => e.1 a (by omega) (by omega) (by omega) (by omega)) (fun f hf => e.2 f (by omega) (by omega))
/-- a bit, seen from the mask and from the shift -/
def btq (x : Int32) (i : Nat) : Bool := x.toBitVec.getLsbD i
theorem btq_1 : ∀ i, i < 32 → btq (Int32.ofInt 1) i = decide (i = 0) := by decide +kernel
theorem btq_sl : ∀ n : Nat, n < 12 → ((Int32.ofInt (n : Int) &&& 31).toBitVec.smod 32).toNat = n := by decide +kernel
theorem btq_shl {n : Nat} (hn : n < 12) (x : Int32) {i : Nat} (hi : i < 32) : btq (x <<< (Int32.ofInt (n : Int) &&& 31)) i = (decide (n ≤ i) && btq x (i - n)) := by
  unfold btq
  rw [Int32.toBitVec_shiftLeft]
  show (x.toBitVec <<< ((Int32.ofInt (n : Int) &&& 31).toBitVec.smod 32).toNat).getLsbD i = _
  rw [btq_sl n hn, BitVec.getLsbD_shiftLeft]
  rcases Nat.lt_or_ge i n with h | h
  · simp [h, Nat.not_le.mpr h]
  · simp [hi, h, Nat.not_lt.mpr h]
theorem btq_shr {n : Nat} (hn : n < 12) (x : Int32) {i : Nat} (hi : i < 32) : btq (x >>> (Int32.ofInt (n : Int) &&& 31)) i = if n + i < 32 then btq x (n + i) else btq x 31 := by
  unfold btq
  rw [Int32.toBitVec_shiftRight]
  show (x.toBitVec.sshiftRight ((Int32.ofInt (n : Int) &&& 31).toBitVec.smod 32).toNat).getLsbD i = _
  rw [btq_sl n hn, BitVec.getLsbD_sshiftRight, BitVec.msb_eq_getLsbD_last]
  simp [hi]
theorem btq_ext {x y : Int32} (h : ∀ i, i < 32 → btq x i = btq y i) : x = y := Int32.toBitVec_inj.mp (BitVec.eq_of_getLsbD_eq (fun i hi => h i hi))
theorem btq_and (x y : Int32) (i : Nat) : btq (x &&& y) i = (btq x i && btq y i) := by unfold btq; rw [Int32.toBitVec_and, BitVec.getLsbD_and]
theorem bit_same (x : Int) {f : Int} (h0 : 0 ≤ f) (h1 : f ≤ 11) : (bAnd x (bShl 1 f) ≠ 0) ↔ bAnd (bShr x f) 1 = 1 := by
  obtain ⟨n, rfl⟩ : ∃ n : Nat, f = (n : Int) := ⟨f.toNat, by omega⟩
  have hn : n < 12 := by omega
  show ((Int32.ofInt x &&& Int32.ofInt (Int32.ofInt 1 <<< (Int32.ofInt (n : Int) &&& 31)).toInt).toInt ≠ 0) ↔ (Int32.ofInt (Int32.ofInt x >>> (Int32.ofInt (n : Int) &&& 31)).toInt &&& Int32.ofInt 1).toInt = 1
  rw [Int32.ofInt_toInt, Int32.ofInt_toInt]
  generalize Int32.ofInt x = u
  have a1 : u &&& (Int32.ofInt 1 <<< (Int32.ofInt (n : Int) &&& 31)) = if btq u n = true then Int32.ofInt 1 <<< (Int32.ofInt (n : Int) &&& 31) else 0 := by
    apply btq_ext
    intro i hi
    rw [btq_and, btq_shl hn _ hi]
    by_cases e : i = n
    · subst e
      cases hu : btq u i
      · simp [btq]
      · simp [btq_shl hn _ hi]
    · have : (decide (n ≤ i) && btq (Int32.ofInt 1) (i - n)) = false := by
        by_cases hle : n ≤ i
        · rw [btq_1 (i - n) (by omega)]; simp; omega
        · simp [hle]
      rw [this, Bool.and_false]
      cases hu : btq u n
      · simp [btq]
      · rw [if_pos rfl, btq_shl hn _ hi, this]
  have a2 : (u >>> (Int32.ofInt (n : Int) &&& 31)) &&& Int32.ofInt 1 = if btq u n = true then Int32.ofInt 1 else 0 := by
    apply btq_ext
    intro i hi
    rw [btq_and, btq_shr hn _ hi, btq_1 i hi]
    by_cases e : i = 0
    · subst e
      rw [if_pos (by omega), Nat.add_zero]
      cases hu : btq u n
      · simp [btq]
      · rw [if_pos rfl, btq_1 0 (by decide), Bool.true_and]
    · rw [decide_eq_false e, Bool.and_false]
      cases hu : btq u n
      · simp [btq]
      · rw [if_pos rfl, btq_1 i hi, decide_eq_false e]
  rw [a1, a2]
  have a3 : ∀ n : Nat, n < 12 → (Int32.ofInt 1 <<< (Int32.ofInt (n : Int) &&& 31)).toInt ≠ 0 := by decide +kernel
  cases btq u n
  · simp
  · simp only [if_true]
    exact ⟨fun _ => by decide, fun _ => a3 n hn⟩
theorem cb_same {M : xMm} (hO : IO M) (hr : REL M) {b : Nat} (hb : b < 40) (k : Int) : pCB M (101 + b) k ↔ pRC M b k := by
  obtain ⟨⟨r1, r2, r3, r4⟩, rB, rC, rD, rF, rG, rH⟩ := hr
  have hb2 := rD b hb
  have h15 := hO.2.2.1
  unfold pCB pRC
  rw [r3, hb2.2.2]
  refine and_congr Iff.rfl (exists_congr fun i => and_congr_right fun hi => ?_)
  have hi2 : i < 30 := by omega
  obtain ⟨⟨f1, f2, f3⟩, f4, -⟩ := rF i hi2
  have f4 := f4 (by omega)
  have hf := (hO.2.2.2.2.2.2.2.2.2 i hi2)
  have hbit := bit_same (M (101 + b) 1) hf.1.1 hf.1.2
  show ((M (142 + i) 2 ≤ k ∧ (M (142 + i) 3 = -1 ∨ k < M (142 + i) 3)) ∧ M (142 + i) 1 ≤ M (101 + b) 2 ∧ bAnd (M (101 + b) 1) (bShl 1 (M (142 + i) 0)) ≠ 0) ↔ (M 208 i ≤ k ∧ (M 209 i < 0 ∨ k < M 209 i) ∧ M 207 i ≤ M 205 b ∧ bAnd (bShr (M 204 b) (M 206 i)) 1 = 1)
  rw [f1, f2, f3, f4, hb2.2.1, hb2.2.2, hbit]
  have h9 := hf.2.2.2
  constructor
  · rintro ⟨⟨q1, q2⟩, q3, q4⟩; exact ⟨q1, by omega, q3, q4⟩
  · rintro ⟨q1, q2, q3, q4⟩; exact ⟨⟨q1, by omega⟩, q3, q4⟩
theorem rs_same {M : xMm} (hO : IO M) (hr : REL M) (k : Int) : ∀ n, n ≤ 40 → vRs M k n = wRs M k n
  | 0, _ => rfl
  | n + 1, hn => by
    have ih := rs_same hO hr k n (by omega)
    have hc := cb_same hO hr (b := n) (by omega) k
    have h3 := (hr.2.2.2.1 n (by omega)).1
    by_cases h : pCB M (101 + n) k
    · rw [vRs_y h, wRs_y (hc.mp h), ih, h3]
    · rw [vRs_n h, wRs_n (fun z => h (hc.mpr z)), ih, Int.add_zero]
theorem rel_feed {M M1 M2 : xMm}  (hx : IX M) (hy : IY M) (hr : REL M) (hf1 : ∀ a, 172 ≤ a → M1 a = M a) (p1 : IT M1 ∧ ∀ a, a ≠ 2 → a ≠ 3 → M1 a = M a) (p2 : MT M2 ∧ frF M2 M1) : REL M2 := by
  exact ry_F (rx_t hr p1.2) p2.2
theorem rel_end {M M1 M2 : xMm}  (hx : IX M) (hy : IY M) (hr : REL M) (hf1 : ∀ a, 172 ≤ a → M1 a = M a) (p1 : IT M1 ∧ ∀ a, a ≠ 2 → a ≠ 3 → M1 a = M a) (p2 : MT M2 ∧ frF M2 M1) : REL M2 := by
  exact ry_F (rx_t hr p1.2) p2.2
theorem rel_timetable {M M1 M2 : xMm}  (hx : IX M) (hy : IY M) (hr : REL M) (hf1 : ∀ a, 172 ≤ a → M1 a = M a) (p1 : JG M1 ∧ IR M1 ∧ (∀ a, a ≠ 1 → (a < 2 ∨ 56 < a) → M1 a = M a) ∧ (M1 1 = M 1 ∨ M1 1 = mu M 1 7 1 1)) (p2 : QT M2 M1) : REL M2 := by
  exact ry_X (rx_r hr p1.2.2.1 p1.2.2.2) p2.2.2
theorem rel_fault {M M1 M2 : xMm}  (hx : IX M) (hy : IY M) (hr : REL M) (hf1 : ∀ a, 172 ≤ a → M1 a = M a) (p1 : M1 = M) (p2 : M2 = M1) : REL M2 := by
  subst p1; subst p2; exact hr
theorem rel_train {M M1 M2 : xMm}  (hx : IX M) (hy : IY M) (hr : REL M) (hf1 : ∀ a, 172 ≤ a → M1 a = M a) (p1 : M1 = M) (p2 : M2 = M1) : REL M2 := by
  subst p1; subst p2; exact hr
theorem rel_about {M M1 M2 : xMm}  (hx : IX M) (hy : IY M) (hr : REL M) (hf1 : ∀ a, 172 ≤ a → M1 a = M a) (p1 : M1 = M) (p2 : M2 = M1) : REL M2 := by
  subst p1; subst p2; exact hr
theorem rel_delay {M M1 M2 : xMm}  (hx : IX M) (hy : IY M) (hr : REL M) (hf1 : ∀ a, 172 ≤ a → M1 a = M a) (p1 : IR M1 ∧ (∀ a, a ≠ 1 → (a < 5 ∨ 56 < a) → M1 a = M a) ∧ (M1 1 = M 1 ∨ M1 1 = mu M 1 7 1 1)) (p2 : MR M2 ∧ ∀ a, a ≠ 181 → M2 a = M1 a) : REL M2 := by
  exact ry_d (rx_r hr (fun a x y => p1.2.1 a x (by omega)) p1.2.2) p2.2
theorem rel_alone {M M1 M2 : xMm} {r2 : Int} (hx : IX M) (hy : IY M) (hr : REL M) (hf1 : ∀ a, 172 ≤ a → M1 a = M a) (p1 : IW M1 ∧ frW M1 M) (p2 : inR r2 ∧ MWi M2 ∧ MC M2 ∧ frS M2 M1) : REL M2 := by
  exact ry_S (rx_W hr p1.2) p2.2.2.2
theorem rel_way {M M1 M2 : xMm}  (hx : IX M) (hy : IY M) (hr : REL M) (hf1 : ∀ a, 172 ≤ a → M1 a = M a) (p1 : IW M1 ∧ frW M1 M) (p2 : MWi M2 ∧ MC M2 ∧ frS M2 M1) : REL M2 := by
  exact ry_S (rx_W hr p1.2) p2.2.2
theorem rel_by {M M1 M2 : xMm}  (hx : IX M) (hy : IY M) (hr : REL M) (hf1 : ∀ a, 172 ≤ a → M1 a = M a) (p1 : M1 = M) (p2 : MC M2 ∧ ∀ a, a ≠ 183 → a ≠ 184 → M2 a = M1 a) : REL M2 := by
  subst p1; exact ry_b hr p2.2
theorem rel_lost {M M1 M2 : xMm}  (hx : IX M) (hy : IY M) (hr : REL M) (hf1 : ∀ a, 172 ≤ a → M1 a = M a) (p1 : IL M1 ∧ frB M1 M) (p2 : MC M2 ∧ MK M2 ∧ frA M2 M1) : REL M2 := by
  exact ry_A (rx_B hr p1.2) p2.2.2
theorem rel_souring {M M1 M2 : xMm}  (hx : IX M) (hy : IY M) (hr : REL M) (hf1 : ∀ a, 172 ≤ a → M1 a = M a) (p1 : IL M1 ∧ frB M1 M) (p2 : MC M2 ∧ MK M2 ∧ frA M2 M1) : REL M2 := by
  exact ry_A (rx_B hr p1.2) p2.2.2
theorem rel_load {M M1 M2 : xMm}  (hx : IX M) (hy : IY M) (hr : REL M) (hf1 : ∀ a, 172 ≤ a → M1 a = M a) (p1 : IL M1 ∧ frB M1 M) (p2 : MC M2 ∧ MK M2 ∧ frA M2 M1) : REL M2 := by
  exact ry_A (rx_B hr p1.2) p2.2.2
set_option maxHeartbeats 1000000 in
theorem rs_sours {M M1 M2 : xMm} {r1 r2 z y : Int} (hx : IX M) (hy : IY M) (hr : REL M) (hf1 : ∀ a, 172 ≤ a → M1 a = M a) (p1 : M1 = M ∧ ((0 ≤ z ∧ z ≤ 1739 ∧ -1 ≤ y ∧ y < 10) ∧ r1 = vSo M z y ∨ ¬ (0 ≤ z ∧ z ≤ 1739 ∧ -1 ≤ y ∧ y < 10) ∧ r1 = -1)) (p2 : M2 = M1 ∧ ((0 ≤ z ∧ z ≤ 1739 ∧ -1 ≤ y ∧ y < 10) ∧ r2 = wSo M1 z y ∨ ¬ (0 ≤ z ∧ z ≤ 1739 ∧ -1 ≤ y ∧ y < 10) ∧ r2 = -1)) : REL M2 ∧ r1 = r2 ∧ inR r1 := by
  obtain ⟨⟨r1e, r2e, r3e, r4e⟩, rB, rC, rD, rF, rG, rH⟩ := id hr
  obtain ⟨o1, o2, o3, o4, o5, o6, o7, o8, o9, o10⟩ := id hx.1
  obtain ⟨rfl, p1⟩ := p1
  obtain ⟨rfl, p2⟩ := p2
  refine ⟨hr, ?_⟩
  have e1 := rate_congr (M' := M2) (M := M2) (a' := 182) (a := 58) rG (z / 60).toNat
  have hb := rate_le hx.2.2.1.1 (z / 60).toNat
  have ev : (0 ≤ z ∧ z ≤ 1739 ∧ -1 ≤ y ∧ y < 10) → vSo M2 z y = wSo M2 z y ∧ inR (vSo M2 z y) := fun hc => by
    unfold vSo wSo
    rw [e1]
    by_cases hy0 : 0 ≤ y ∧ y < 10
    · rw [rH y.toNat (by omega)]
      refine ⟨rfl, ?_⟩
      split <;> omega
    · rw [if_neg (by omega), if_neg (by omega)]
      exact ⟨rfl, by omega⟩
  rcases p1 with ⟨c1, e1⟩ | ⟨c1, e1⟩
  · rcases p2 with ⟨c2, e2⟩ | ⟨c2, e2⟩
    · rw [e1, e2]; exact ev c1
    · exact absurd c1 c2
  · rcases p2 with ⟨c2, e2⟩ | ⟨c2, e2⟩
    · exact absurd c2 c1
    · rw [e1, e2]; exact ⟨rfl, by decide⟩
theorem rel_sours {M M1 M2 : xMm} {r1 r2 z y : Int} (hx : IX M) (hy : IY M) (hr : REL M) (hf1 : ∀ a, 172 ≤ a → M1 a = M a) (p1 : M1 = M ∧ ((0 ≤ z ∧ z ≤ 1739 ∧ -1 ≤ y ∧ y < 10) ∧ r1 = vSo M z y ∨ ¬ (0 ≤ z ∧ z ≤ 1739 ∧ -1 ≤ y ∧ y < 10) ∧ r1 = -1)) (p2 : M2 = M1 ∧ ((0 ≤ z ∧ z ≤ 1739 ∧ -1 ≤ y ∧ y < 10) ∧ r2 = wSo M1 z y ∨ ¬ (0 ≤ z ∧ z ≤ 1739 ∧ -1 ≤ y ∧ y < 10) ∧ r2 = -1)) : REL M2 := (rs_sours hx hy hr hf1 p1 p2).1
theorem same_sours {M M1 M2 : xMm} {r1 r2 z y : Int} (hx : IX M) (hy : IY M) (hr : REL M) (hf1 : ∀ a, 172 ≤ a → M1 a = M a) (p1 : M1 = M ∧ ((0 ≤ z ∧ z ≤ 1739 ∧ -1 ≤ y ∧ y < 10) ∧ r1 = vSo M z y ∨ ¬ (0 ≤ z ∧ z ≤ 1739 ∧ -1 ≤ y ∧ y < 10) ∧ r1 = -1)) (p2 : M2 = M1 ∧ ((0 ≤ z ∧ z ≤ 1739 ∧ -1 ≤ y ∧ y < 10) ∧ r2 = wSo M1 z y ∨ ¬ (0 ≤ z ∧ z ≤ 1739 ∧ -1 ≤ y ∧ y < 10) ∧ r2 = -1)) : r1 = r2 ∧ inR r1 := (rs_sours hx hy hr hf1 p1 p2).2
set_option maxHeartbeats 1000000 in
theorem rs_of {M M1 M2 : xMm} {r1 r2 z w : Int} (hx : IX M) (hy : IY M) (hr : REL M) (hf1 : ∀ a, 172 ≤ a → M1 a = M a) (p1 : M1 = M ∧ r1 = vOf M z w) (p2 : M2 = M1 ∧ r2 = wOfM M1 z w) : REL M2 ∧ r1 = r2 ∧ inR r1 := by
  obtain ⟨⟨r1e, r2e, r3e, r4e⟩, rB, rC, rD, rF, rG, rH⟩ := id hr
  obtain ⟨o1, o2, o3, o4, o5, o6, o7, o8, o9, o10⟩ := id hx.1
  obtain ⟨rfl, rfl⟩ := p1
  obtain ⟨rfl, rfl⟩ := p2
  refine ⟨hr, ?_⟩
  unfold vOf wOfM
  rw [r1e]
  by_cases hc : 0 ≤ z ∧ z < M2 1 10
  · rw [if_pos hc, if_pos hc]
    have h := rB z.toNat (by omega)
    unfold relB at h
    have hb := o7 z.toNat (by omega)
    obtain ⟨⟨b0, b1, b2, b3⟩, b4, -⟩ := h
    rw [b0, b1, b2, b3, b4 (by omega)]
    refine ⟨rfl, ?_⟩
    repeat' split
    all_goals omega
  · rw [if_neg hc, if_neg hc]; exact ⟨rfl, by decide⟩
theorem rel_of {M M1 M2 : xMm} {r1 r2 z w : Int} (hx : IX M) (hy : IY M) (hr : REL M) (hf1 : ∀ a, 172 ≤ a → M1 a = M a) (p1 : M1 = M ∧ r1 = vOf M z w) (p2 : M2 = M1 ∧ r2 = wOfM M1 z w) : REL M2 := (rs_of hx hy hr hf1 p1 p2).1
theorem same_of {M M1 M2 : xMm} {r1 r2 z w : Int} (hx : IX M) (hy : IY M) (hr : REL M) (hf1 : ∀ a, 172 ≤ a → M1 a = M a) (p1 : M1 = M ∧ r1 = vOf M z w) (p2 : M2 = M1 ∧ r2 = wOfM M1 z w) : r1 = r2 ∧ inR r1 := (rs_of hx hy hr hf1 p1 p2).2
set_option maxHeartbeats 1000000 in
theorem rs_tank {M M1 M2 : xMm} {r1 r2 z w : Int} (hx : IX M) (hy : IY M) (hr : REL M) (hf1 : ∀ a, 172 ≤ a → M1 a = M a) (p1 : M1 = M ∧ r1 = vTank M z w) (p2 : M2 = M1 ∧ r2 = wTank M1 z w) : REL M2 ∧ r1 = r2 ∧ inR r1 := by
  obtain ⟨⟨r1e, r2e, r3e, r4e⟩, rB, rC, rD, rF, rG, rH⟩ := id hr
  obtain ⟨o1, o2, o3, o4, o5, o6, o7, o8, o9, o10⟩ := id hx.1
  obtain ⟨rfl, rfl⟩ := p1
  obtain ⟨rfl, rfl⟩ := p2
  refine ⟨hr, ?_⟩
  unfold vTank wTank
  by_cases hc : 0 ≤ z ∧ z < 4
  · rw [if_pos hc, if_pos hc]
    have h := rC z.toNat (by omega)
    have hb := o8 z.toNat (by omega)
    rw [h.1, h.2]
    refine ⟨rfl, ?_⟩
    repeat' split
    all_goals omega
  · rw [if_neg hc, if_neg hc]; exact ⟨rfl, by decide⟩
theorem rel_tank {M M1 M2 : xMm} {r1 r2 z w : Int} (hx : IX M) (hy : IY M) (hr : REL M) (hf1 : ∀ a, 172 ≤ a → M1 a = M a) (p1 : M1 = M ∧ r1 = vTank M z w) (p2 : M2 = M1 ∧ r2 = wTank M1 z w) : REL M2 := (rs_tank hx hy hr hf1 p1 p2).1
theorem same_tank {M M1 M2 : xMm} {r1 r2 z w : Int} (hx : IX M) (hy : IY M) (hr : REL M) (hf1 : ∀ a, 172 ≤ a → M1 a = M a) (p1 : M1 = M ∧ r1 = vTank M z w) (p2 : M2 = M1 ∧ r2 = wTank M1 z w) : r1 = r2 ∧ inR r1 := (rs_tank hx hy hr hf1 p1 p2).2
set_option maxHeartbeats 1000000 in
theorem rs_bottling {M M1 M2 : xMm} {r1 r2 z w : Int} (hx : IX M) (hy : IY M) (hr : REL M) (hf1 : ∀ a, 172 ≤ a → M1 a = M a) (p1 : M1 = M ∧ r1 = vBottling M z w) (p2 : M2 = M1 ∧ r2 = wBottling M1 z w) : REL M2 ∧ r1 = r2 ∧ inR r1 := by
  obtain ⟨⟨r1e, r2e, r3e, r4e⟩, rB, rC, rD, rF, rG, rH⟩ := id hr
  obtain ⟨o1, o2, o3, o4, o5, o6, o7, o8, o9, o10⟩ := id hx.1
  obtain ⟨rfl, rfl⟩ := p1
  obtain ⟨rfl, rfl⟩ := p2
  refine ⟨hr, ?_⟩
  unfold vBottling wBottling
  rw [r2e]
  by_cases hc : 0 ≤ z ∧ z < M2 1 13
  · rw [if_pos hc, if_pos hc]
    have h := rD z.toNat (by omega)
    have hb := o9 z.toNat (by omega)
    rw [h.1, h.2.1, h.2.2]
    refine ⟨rfl, ?_⟩
    repeat' split
    all_goals omega
  · rw [if_neg hc, if_neg hc]; exact ⟨rfl, by decide⟩
theorem rel_bottling {M M1 M2 : xMm} {r1 r2 z w : Int} (hx : IX M) (hy : IY M) (hr : REL M) (hf1 : ∀ a, 172 ≤ a → M1 a = M a) (p1 : M1 = M ∧ r1 = vBottling M z w) (p2 : M2 = M1 ∧ r2 = wBottling M1 z w) : REL M2 := (rs_bottling hx hy hr hf1 p1 p2).1
theorem same_bottling {M M1 M2 : xMm} {r1 r2 z w : Int} (hx : IX M) (hy : IY M) (hr : REL M) (hf1 : ∀ a, 172 ≤ a → M1 a = M a) (p1 : M1 = M ∧ r1 = vBottling M z w) (p2 : M2 = M1 ∧ r2 = wBottling M1 z w) : r1 = r2 ∧ inR r1 := (rs_bottling hx hy hr hf1 p1 p2).2
set_option maxHeartbeats 1000000 in
theorem rs_recalled {M M1 M2 : xMm} {r1 r2 z k : Int} (hx : IX M) (hy : IY M) (hr : REL M) (hf1 : ∀ a, 172 ≤ a → M1 a = M a) (p1 : M1 = M ∧ ((0 ≤ z ∧ z < M 1 13) ∧ (pCB M (101 + z.toNat) k ∧ r1 = 1 ∨ ¬ pCB M (101 + z.toNat) k ∧ r1 = 0) ∨ ¬ (0 ≤ z ∧ z < M 1 13) ∧ r1 = -1)) (p2 : M2 = M1 ∧ ((0 ≤ z ∧ z < M1 172 56) ∧ (pRC M1 z.toNat k ∧ r2 = 1 ∨ ¬ pRC M1 z.toNat k ∧ r2 = 0) ∨ ¬ (0 ≤ z ∧ z < M1 172 56) ∧ r2 = -1)) : REL M2 ∧ r1 = r2 ∧ inR r1 := by
  obtain ⟨⟨r1e, r2e, r3e, r4e⟩, rB, rC, rD, rF, rG, rH⟩ := id hr
  obtain ⟨o1, o2, o3, o4, o5, o6, o7, o8, o9, o10⟩ := id hx.1
  obtain ⟨rfl, p1⟩ := p1
  obtain ⟨rfl, p2⟩ := p2
  refine ⟨hr, ?_⟩
  rw [r2e] at p2
  by_cases hc : 0 ≤ z ∧ z < M2 1 13
  · have hs := cb_same hx.1 hr (b := z.toNat) (by omega) k
    rcases p1 with ⟨-, ⟨c1, e1⟩ | ⟨c1, e1⟩⟩ | ⟨c1, -⟩
    · rcases p2 with ⟨-, ⟨c2, e2⟩ | ⟨c2, e2⟩⟩ | ⟨c2, -⟩
      · omega
      · exact absurd (hs.mp c1) c2
      · exact absurd hc c2
    · rcases p2 with ⟨-, ⟨c2, e2⟩ | ⟨c2, e2⟩⟩ | ⟨c2, -⟩
      · exact absurd (hs.mpr c2) c1
      · omega
      · exact absurd hc c2
    · exact absurd hc c1
  · rcases p1 with ⟨c1, -⟩ | ⟨-, e1⟩
    · exact absurd c1 hc
    · rcases p2 with ⟨c2, -⟩ | ⟨-, e2⟩
      · exact absurd c2 hc
      · omega
theorem rel_recalled {M M1 M2 : xMm} {r1 r2 z k : Int} (hx : IX M) (hy : IY M) (hr : REL M) (hf1 : ∀ a, 172 ≤ a → M1 a = M a) (p1 : M1 = M ∧ ((0 ≤ z ∧ z < M 1 13) ∧ (pCB M (101 + z.toNat) k ∧ r1 = 1 ∨ ¬ pCB M (101 + z.toNat) k ∧ r1 = 0) ∨ ¬ (0 ≤ z ∧ z < M 1 13) ∧ r1 = -1)) (p2 : M2 = M1 ∧ ((0 ≤ z ∧ z < M1 172 56) ∧ (pRC M1 z.toNat k ∧ r2 = 1 ∨ ¬ pRC M1 z.toNat k ∧ r2 = 0) ∨ ¬ (0 ≤ z ∧ z < M1 172 56) ∧ r2 = -1)) : REL M2 := (rs_recalled hx hy hr hf1 p1 p2).1
theorem same_recalled {M M1 M2 : xMm} {r1 r2 z k : Int} (hx : IX M) (hy : IY M) (hr : REL M) (hf1 : ∀ a, 172 ≤ a → M1 a = M a) (p1 : M1 = M ∧ ((0 ≤ z ∧ z < M 1 13) ∧ (pCB M (101 + z.toNat) k ∧ r1 = 1 ∨ ¬ pCB M (101 + z.toNat) k ∧ r1 = 0) ∨ ¬ (0 ≤ z ∧ z < M 1 13) ∧ r1 = -1)) (p2 : M2 = M1 ∧ ((0 ≤ z ∧ z < M1 172 56) ∧ (pRC M1 z.toNat k ∧ r2 = 1 ∨ ¬ pRC M1 z.toNat k ∧ r2 = 0) ∨ ¬ (0 ≤ z ∧ z < M1 172 56) ∧ r2 = -1)) : r1 = r2 ∧ inR r1 := (rs_recalled hx hy hr hf1 p1 p2).2
set_option maxHeartbeats 1000000 in
theorem rs_recall {M M1 M2 : xMm} {r1 r2 k : Int} (hx : IX M) (hy : IY M) (hr : REL M) (hf1 : ∀ a, 172 ≤ a → M1 a = M a) (p1 : M1 = M ∧ r1 = vRs M k (M 1 13).toNat) (p2 : M2 = M1 ∧ r2 = wRs M1 k (M1 172 56).toNat) : REL M2 ∧ r1 = r2 ∧ inR r1 := by
  obtain ⟨⟨r1e, r2e, r3e, r4e⟩, rB, rC, rD, rF, rG, rH⟩ := id hr
  obtain ⟨o1, o2, o3, o4, o5, o6, o7, o8, o9, o10⟩ := id hx.1
  obtain ⟨rfl, rfl⟩ := p1
  obtain ⟨rfl, rfl⟩ := p2
  refine ⟨hr, ?_⟩
  have hs := rs_same hx.1 hr k (M2 1 13).toNat (by omega)
  have hb := vRs_le (M := M2) (k := k) (fun j hj => (o9 j hj).1) (M2 1 13).toNat (by omega)
  rw [r2e, ← hs]
  exact ⟨rfl, by omega⟩
theorem rel_recall {M M1 M2 : xMm} {r1 r2 k : Int} (hx : IX M) (hy : IY M) (hr : REL M) (hf1 : ∀ a, 172 ≤ a → M1 a = M a) (p1 : M1 = M ∧ r1 = vRs M k (M 1 13).toNat) (p2 : M2 = M1 ∧ r2 = wRs M1 k (M1 172 56).toNat) : REL M2 := (rs_recall hx hy hr hf1 p1 p2).1
theorem same_recall {M M1 M2 : xMm} {r1 r2 k : Int} (hx : IX M) (hy : IY M) (hr : REL M) (hf1 : ∀ a, 172 ≤ a → M1 a = M a) (p1 : M1 = M ∧ r1 = vRs M k (M 1 13).toNat) (p2 : M2 = M1 ∧ r2 = wRs M1 k (M1 172 56).toNat) : r1 = r2 ∧ inR r1 := (rs_recall hx hy hr hf1 p1 p2).2
set_option maxHeartbeats 1000000 in
theorem rs_limit {M M1 M2 : xMm} {r1 r2 z : Int} (hx : IX M) (hy : IY M) (hr : REL M) (hf1 : ∀ a, 172 ≤ a → M1 a = M a) (p1 : ((1 ≤ z ∧ z ≤ 100000) ∧ r1 = 1 ∧ M1 = mu (mu M 1 8 z) 1 7 1) ∨ (¬ (1 ≤ z ∧ z ≤ 100000) ∧ r1 = 0 ∧ M1 = M)) (p2 : ((1 ≤ z ∧ z ≤ 100000) ∧ r2 = 1 ∧ M2 = mu M1 172 24 z) ∨ (¬ (1 ≤ z ∧ z ≤ 100000) ∧ r2 = 0 ∧ M2 = M1)) : REL M2 ∧ r1 = r2 ∧ inR r1 := by
  rcases p1 with ⟨c1, e1, rfl⟩ | ⟨c1, e1, rfl⟩
  · rcases p2 with ⟨c2, e2, rfl⟩ | ⟨c2, e2, rfl⟩
    · refine ⟨REL_fr hr (fun f h7 h8 => ?_) (fun a ha => ?_) (fun f hf => ?_), by omega⟩
      · simp (disch := omega) only [mu_nc, mu_nf]
      · funext f; simp (disch := omega) only [mu_nc]
      · simp (disch := omega) only [mu_nc, mu_nf]
    · exfalso; omega
  · rcases p2 with ⟨c2, e2, -⟩ | ⟨c2, e2, rfl⟩
    · exfalso; omega
    · exact ⟨hr, by omega⟩
theorem rel_limit {M M1 M2 : xMm} {r1 r2 z : Int} (hx : IX M) (hy : IY M) (hr : REL M) (hf1 : ∀ a, 172 ≤ a → M1 a = M a) (p1 : ((1 ≤ z ∧ z ≤ 100000) ∧ r1 = 1 ∧ M1 = mu (mu M 1 8 z) 1 7 1) ∨ (¬ (1 ≤ z ∧ z ≤ 100000) ∧ r1 = 0 ∧ M1 = M)) (p2 : ((1 ≤ z ∧ z ≤ 100000) ∧ r2 = 1 ∧ M2 = mu M1 172 24 z) ∨ (¬ (1 ≤ z ∧ z ≤ 100000) ∧ r2 = 0 ∧ M2 = M1)) : REL M2 := (rs_limit hx hy hr hf1 p1 p2).1
theorem same_limit {M M1 M2 : xMm} {r1 r2 z : Int} (hx : IX M) (hy : IY M) (hr : REL M) (hf1 : ∀ a, 172 ≤ a → M1 a = M a) (p1 : ((1 ≤ z ∧ z ≤ 100000) ∧ r1 = 1 ∧ M1 = mu (mu M 1 8 z) 1 7 1) ∨ (¬ (1 ≤ z ∧ z ≤ 100000) ∧ r1 = 0 ∧ M1 = M)) (p2 : ((1 ≤ z ∧ z ≤ 100000) ∧ r2 = 1 ∧ M2 = mu M1 172 24 z) ∨ (¬ (1 ≤ z ∧ z ≤ 100000) ∧ r2 = 0 ∧ M2 = M1)) : r1 = r2 ∧ inR r1 := (rs_limit hx hy hr hf1 p1 p2).2
set_option maxHeartbeats 1000000 in
theorem rs_later {M M1 M2 : xMm} {r1 r2 z : Int} (hx : IX M) (hy : IY M) (hr : REL M) (hf1 : ∀ a, 172 ≤ a → M1 a = M a) (p1 : ((0 ≤ z ∧ z ≤ 1000 ∧ M 1 16 + z ≤ 100000) ∧ r1 = M 1 16 + z ∧ M1 = mu M 1 16 (M 1 16 + z)) ∨ (¬ (0 ≤ z ∧ z ≤ 1000 ∧ M 1 16 + z ≤ 100000) ∧ r1 = -1 ∧ M1 = M)) (p2 : ((0 ≤ z ∧ z ≤ 1000 ∧ M1 172 55 + z ≤ 100000) ∧ r2 = M1 172 55 + z ∧ M2 = mu M1 172 55 (M1 172 55 + z)) ∨ (¬ (0 ≤ z ∧ z ≤ 1000 ∧ M1 172 55 + z ≤ 100000) ∧ r2 = -1 ∧ M2 = M1)) : REL M2 ∧ r1 = r2 ∧ inR r1 := by
  obtain ⟨⟨r1e, r2e, r3e, r4e⟩, rB, rC, rD, rF, rG, rH⟩ := id hr
  obtain ⟨o1, o2, o3, o4, o5, o6, o7, o8, o9, o10⟩ := id hx.1
  have E : ∀ a f, 172 ≤ a → M1 a f = M a f := fun a f ha => by rw [hf1 a ha]
  simp (disch := omega) only [E] at p2
  rw [r4e] at p2
  rcases p1 with ⟨c1, e1, rfl⟩ | ⟨c1, e1, rfl⟩
  · rcases p2 with ⟨c2, e2, rfl⟩ | ⟨c2, e2, rfl⟩
    · skip
      refine ⟨?_, by omega⟩
      refine ⟨?_, fun c hc => ?_, fun t ht => ?_, fun k hk => ?_, fun k hk => ?_, fun k hk => ?_, fun s hs => ?_⟩
      · (try simp (disch := first | decide | omega) only [mu_s, mu_nf, mu_nc, and_true, true_and, implies_true]) <;> omega
      · have h := rB c hc
        unfold relB at h ⊢
        (try simp (disch := first | decide | omega) only [mu_s, mu_nf, mu_nc, and_true, true_and, implies_true]) <;> omega
      · have h := rC t ht
        (try simp (disch := first | decide | omega) only [mu_s, mu_nf, mu_nc, and_true, true_and, implies_true]) <;> omega
      · have h := rD k hk
        (try simp (disch := first | decide | omega) only [mu_s, mu_nf, mu_nc, and_true, true_and, implies_true]) <;> omega
      · have h := rF k hk
        unfold relF at h ⊢
        (try simp (disch := first | decide | omega) only [mu_s, mu_nf, mu_nc, and_true, true_and, implies_true]) <;> omega
      · have h := rG k hk
        (try simp (disch := first | decide | omega) only [mu_s, mu_nf, mu_nc, and_true, true_and, implies_true]) <;> omega
      · have h := rH s hs
        (try simp (disch := first | decide | omega) only [mu_s, mu_nf, mu_nc, and_true, true_and, implies_true]) <;> omega
    · exfalso; omega
  · rcases p2 with ⟨c2, e2, -⟩ | ⟨c2, e2, rfl⟩
    · exfalso; omega
    · exact ⟨hr, by omega⟩
theorem rel_later {M M1 M2 : xMm} {r1 r2 z : Int} (hx : IX M) (hy : IY M) (hr : REL M) (hf1 : ∀ a, 172 ≤ a → M1 a = M a) (p1 : ((0 ≤ z ∧ z ≤ 1000 ∧ M 1 16 + z ≤ 100000) ∧ r1 = M 1 16 + z ∧ M1 = mu M 1 16 (M 1 16 + z)) ∨ (¬ (0 ≤ z ∧ z ≤ 1000 ∧ M 1 16 + z ≤ 100000) ∧ r1 = -1 ∧ M1 = M)) (p2 : ((0 ≤ z ∧ z ≤ 1000 ∧ M1 172 55 + z ≤ 100000) ∧ r2 = M1 172 55 + z ∧ M2 = mu M1 172 55 (M1 172 55 + z)) ∨ (¬ (0 ≤ z ∧ z ≤ 1000 ∧ M1 172 55 + z ≤ 100000) ∧ r2 = -1 ∧ M2 = M1)) : REL M2 := (rs_later hx hy hr hf1 p1 p2).1
theorem same_later {M M1 M2 : xMm} {r1 r2 z : Int} (hx : IX M) (hy : IY M) (hr : REL M) (hf1 : ∀ a, 172 ≤ a → M1 a = M a) (p1 : ((0 ≤ z ∧ z ≤ 1000 ∧ M 1 16 + z ≤ 100000) ∧ r1 = M 1 16 + z ∧ M1 = mu M 1 16 (M 1 16 + z)) ∨ (¬ (0 ≤ z ∧ z ≤ 1000 ∧ M 1 16 + z ≤ 100000) ∧ r1 = -1 ∧ M1 = M)) (p2 : ((0 ≤ z ∧ z ≤ 1000 ∧ M1 172 55 + z ≤ 100000) ∧ r2 = M1 172 55 + z ∧ M2 = mu M1 172 55 (M1 172 55 + z)) ∨ (¬ (0 ≤ z ∧ z ≤ 1000 ∧ M1 172 55 + z ≤ 100000) ∧ r2 = -1 ∧ M2 = M1)) : r1 = r2 ∧ inR r1 := (rs_later hx hy hr hf1 p1 p2).2
set_option maxHeartbeats 1000000 in
theorem rs_warmth {M M1 M2 : xMm} {r1 r2 z y : Int} (hx : IX M) (hy : IY M) (hr : REL M) (hf1 : ∀ a, 172 ≤ a → M1 a = M a) (p1 : ((0 ≤ z ∧ z < 24 ∧ -1 ≤ y ∧ y ≤ 40) ∧ r1 = 1 ∧ IC M1 ∧ (∀ a, a ≠ 1 → (a < 58 ∨ 62 < a) → M1 a = M a) ∧ M1 1 = mu M 1 7 1 1 ∧ M1 59 = M 59 ∧ M1 58 = mu M 58 z.toNat y 58) ∨ (¬ (0 ≤ z ∧ z < 24 ∧ -1 ≤ y ∧ y ≤ 40) ∧ r1 = 0 ∧ M1 = M)) (p2 : ((0 ≤ z ∧ z < 24 ∧ -1 ≤ y ∧ y ≤ 40) ∧ r2 = 1 ∧ M2 = mu M1 182 z.toNat y) ∨ (¬ (0 ≤ z ∧ z < 24 ∧ -1 ≤ y ∧ y ≤ 40) ∧ r2 = 0 ∧ M2 = M1)) : REL M2 ∧ r1 = r2 ∧ inR r1 := by
  obtain ⟨⟨r1e, r2e, r3e, r4e⟩, rB, rC, rD, rF, rG, rH⟩ := id hr
  obtain ⟨o1, o2, o3, o4, o5, o6, o7, o8, o9, o10⟩ := id hx.1
  rcases p1 with ⟨c1, e1, -, q2, q3, q4, q5⟩ | ⟨c1, e1, rfl⟩
  · rcases p2 with ⟨c2, e2, rfl⟩ | ⟨c2, e2, rfl⟩
    · refine ⟨?_, by omega⟩
      have hm : REL (mu (mu M 58 z.toNat y) 182 z.toNat y) := by
        refine ⟨?_, fun c hc => ?_, fun t ht => ?_, fun k hk => ?_, fun k hk => ?_, fun k hk => ?_, fun s hs => ?_⟩
        · (try simp (disch := first | decide | omega) only [mu_s, mu_nf, mu_nc, and_true, true_and, implies_true]) <;> omega
        · have h := rB c hc
          unfold relB at h ⊢
          (try simp (disch := first | decide | omega) only [mu_s, mu_nf, mu_nc, and_true, true_and, implies_true]) <;> omega
        · have h := rC t ht
          (try simp (disch := first | decide | omega) only [mu_s, mu_nf, mu_nc, and_true, true_and, implies_true]) <;> omega
        · have h := rD k hk
          (try simp (disch := first | decide | omega) only [mu_s, mu_nf, mu_nc, and_true, true_and, implies_true]) <;> omega
        · have h := rF k hk
          unfold relF at h ⊢
          (try simp (disch := first | decide | omega) only [mu_s, mu_nf, mu_nc, and_true, true_and, implies_true]) <;> omega
        · have h := rG k hk
          by_cases e0 : k = z.toNat
          · subst e0
            (try simp (disch := first | decide | omega) only [mu_s, mu_nf, mu_nc, and_true, true_and, implies_true] at h ⊢) <;> omega
          · skip
            (try simp (disch := first | decide | omega) only [mu_s, mu_nf, mu_nc, and_true, true_and, implies_true]) <;> omega
        · have h := rH s hs
          (try simp (disch := first | decide | omega) only [mu_s, mu_nf, mu_nc, and_true, true_and, implies_true]) <;> omega
      refine REL_fr hm (fun f h7 h8 => ?_) (fun a ha => ?_) (fun f hf => ?_)
      · rw [mu_nc (by decide), mu_nc (by decide), mu_nc (by decide), q3]; exact mu_nf h7
      · funext f
        by_cases e : a = 182
        · subst e
          by_cases ef : f = z.toNat
          · rw [ef, mu_s, mu_s]
          · rw [mu_nf ef, mu_nf ef, mu_nc (by decide), q2 182 (by decide) (by decide)]
        · rw [mu_nc e, mu_nc e]
          by_cases e8 : a = 58
          · subst e8; rw [q5]
          · rw [mu_nc e8]
            by_cases e9 : a = 59
            · subst e9; rw [q4]
            · rw [q2 a (by omega) (by omega)]
      · rw [mu_nc (by decide), mu_nc (by decide), mu_nc (by decide), q2 172 (by decide) (by decide)]
    · exfalso; omega
  · rcases p2 with ⟨c2, e2, -⟩ | ⟨c2, e2, rfl⟩
    · exfalso; omega
    · exact ⟨hr, by omega⟩
theorem rel_warmth {M M1 M2 : xMm} {r1 r2 z y : Int} (hx : IX M) (hy : IY M) (hr : REL M) (hf1 : ∀ a, 172 ≤ a → M1 a = M a) (p1 : ((0 ≤ z ∧ z < 24 ∧ -1 ≤ y ∧ y ≤ 40) ∧ r1 = 1 ∧ IC M1 ∧ (∀ a, a ≠ 1 → (a < 58 ∨ 62 < a) → M1 a = M a) ∧ M1 1 = mu M 1 7 1 1 ∧ M1 59 = M 59 ∧ M1 58 = mu M 58 z.toNat y 58) ∨ (¬ (0 ≤ z ∧ z < 24 ∧ -1 ≤ y ∧ y ≤ 40) ∧ r1 = 0 ∧ M1 = M)) (p2 : ((0 ≤ z ∧ z < 24 ∧ -1 ≤ y ∧ y ≤ 40) ∧ r2 = 1 ∧ M2 = mu M1 182 z.toNat y) ∨ (¬ (0 ≤ z ∧ z < 24 ∧ -1 ≤ y ∧ y ≤ 40) ∧ r2 = 0 ∧ M2 = M1)) : REL M2 := (rs_warmth hx hy hr hf1 p1 p2).1
theorem same_warmth {M M1 M2 : xMm} {r1 r2 z y : Int} (hx : IX M) (hy : IY M) (hr : REL M) (hf1 : ∀ a, 172 ≤ a → M1 a = M a) (p1 : ((0 ≤ z ∧ z < 24 ∧ -1 ≤ y ∧ y ≤ 40) ∧ r1 = 1 ∧ IC M1 ∧ (∀ a, a ≠ 1 → (a < 58 ∨ 62 < a) → M1 a = M a) ∧ M1 1 = mu M 1 7 1 1 ∧ M1 59 = M 59 ∧ M1 58 = mu M 58 z.toNat y 58) ∨ (¬ (0 ≤ z ∧ z < 24 ∧ -1 ≤ y ∧ y ≤ 40) ∧ r1 = 0 ∧ M1 = M)) (p2 : ((0 ≤ z ∧ z < 24 ∧ -1 ≤ y ∧ y ≤ 40) ∧ r2 = 1 ∧ M2 = mu M1 182 z.toNat y) ∨ (¬ (0 ≤ z ∧ z < 24 ∧ -1 ≤ y ∧ y ≤ 40) ∧ r2 = 0 ∧ M2 = M1)) : r1 = r2 ∧ inR r1 := (rs_warmth hx hy hr hf1 p1 p2).2
set_option maxHeartbeats 1000000 in
theorem rs_cooler {M M1 M2 : xMm} {r1 r2 s z : Int} (hx : IX M) (hy : IY M) (hr : REL M) (hf1 : ∀ a, 172 ≤ a → M1 a = M a) (p1 : ((0 ≤ s ∧ s < 10) ∧ r1 = 1 ∧ M1 = mu (mu M 59 s.toNat z) 1 7 1) ∨ (¬ (0 ≤ s ∧ s < 10) ∧ r1 = 0 ∧ M1 = M)) (p2 : ((0 ≤ s ∧ s < 10) ∧ r2 = 1 ∧ M2 = mu M1 185 s.toNat z) ∨ (¬ (0 ≤ s ∧ s < 10) ∧ r2 = 0 ∧ M2 = M1)) : REL M2 ∧ r1 = r2 ∧ inR r1 := by
  obtain ⟨⟨r1e, r2e, r3e, r4e⟩, rB, rC, rD, rF, rG, rH⟩ := id hr
  obtain ⟨o1, o2, o3, o4, o5, o6, o7, o8, o9, o10⟩ := id hx.1
  rcases p1 with ⟨c1, e1, rfl⟩ | ⟨c1, e1, rfl⟩
  · rcases p2 with ⟨c2, e2, rfl⟩ | ⟨c2, e2, rfl⟩
    · skip
      refine ⟨?_, by omega⟩
      refine ⟨?_, fun c hc => ?_, fun t ht => ?_, fun k hk => ?_, fun k hk => ?_, fun k hk => ?_, fun s2 hs => ?_⟩
      · (try simp (disch := first | decide | omega) only [mu_s, mu_nf, mu_nc, and_true, true_and, implies_true]) <;> omega
      · have h := rB c hc
        unfold relB at h ⊢
        (try simp (disch := first | decide | omega) only [mu_s, mu_nf, mu_nc, and_true, true_and, implies_true]) <;> omega
      · have h := rC t ht
        (try simp (disch := first | decide | omega) only [mu_s, mu_nf, mu_nc, and_true, true_and, implies_true]) <;> omega
      · have h := rD k hk
        (try simp (disch := first | decide | omega) only [mu_s, mu_nf, mu_nc, and_true, true_and, implies_true]) <;> omega
      · have h := rF k hk
        unfold relF at h ⊢
        (try simp (disch := first | decide | omega) only [mu_s, mu_nf, mu_nc, and_true, true_and, implies_true]) <;> omega
      · have h := rG k hk
        (try simp (disch := first | decide | omega) only [mu_s, mu_nf, mu_nc, and_true, true_and, implies_true]) <;> omega
      · have h := rH s2 hs
        by_cases e0 : s2 = s.toNat
        · subst e0
          (try simp (disch := first | decide | omega) only [mu_s, mu_nf, mu_nc, and_true, true_and, implies_true] at h ⊢) <;> omega
        · skip
          (try simp (disch := first | decide | omega) only [mu_s, mu_nf, mu_nc, and_true, true_and, implies_true]) <;> omega
    · exfalso; omega
  · rcases p2 with ⟨c2, e2, -⟩ | ⟨c2, e2, rfl⟩
    · exfalso; omega
    · exact ⟨hr, by omega⟩
theorem rel_cooler {M M1 M2 : xMm} {r1 r2 s z : Int} (hx : IX M) (hy : IY M) (hr : REL M) (hf1 : ∀ a, 172 ≤ a → M1 a = M a) (p1 : ((0 ≤ s ∧ s < 10) ∧ r1 = 1 ∧ M1 = mu (mu M 59 s.toNat z) 1 7 1) ∨ (¬ (0 ≤ s ∧ s < 10) ∧ r1 = 0 ∧ M1 = M)) (p2 : ((0 ≤ s ∧ s < 10) ∧ r2 = 1 ∧ M2 = mu M1 185 s.toNat z) ∨ (¬ (0 ≤ s ∧ s < 10) ∧ r2 = 0 ∧ M2 = M1)) : REL M2 := (rs_cooler hx hy hr hf1 p1 p2).1
theorem same_cooler {M M1 M2 : xMm} {r1 r2 s z : Int} (hx : IX M) (hy : IY M) (hr : REL M) (hf1 : ∀ a, 172 ≤ a → M1 a = M a) (p1 : ((0 ≤ s ∧ s < 10) ∧ r1 = 1 ∧ M1 = mu (mu M 59 s.toNat z) 1 7 1) ∨ (¬ (0 ≤ s ∧ s < 10) ∧ r1 = 0 ∧ M1 = M)) (p2 : ((0 ≤ s ∧ s < 10) ∧ r2 = 1 ∧ M2 = mu M1 185 s.toNat z) ∨ (¬ (0 ≤ s ∧ s < 10) ∧ r2 = 0 ∧ M2 = M1)) : r1 = r2 ∧ inR r1 := (rs_cooler hx hy hr hf1 p1 p2).2
set_option maxHeartbeats 1000000 in
theorem rs_churn {M M1 M2 : xMm} {r1 r2 f s y p : Int} (hx : IX M) (hy : IY M) (hr : REL M) (hf1 : ∀ a, 172 ≤ a → M1 a = M a) (p1 : (((0 ≤ f ∧ f < 12) ∧ (1 ≤ s ∧ s < 10) ∧ (0 ≤ y ∧ y ≤ 1439) ∧ (1 ≤ p ∧ p ≤ 100) ∧ M 1 10 < 10) ∧ r1 = M 1 10 ∧ M1 = mu (mu (mu (mu (mu (mu M (85 + (M 1 10).toNat) 0 f) (85 + (M 1 10).toNat) 1 s) (85 + (M 1 10).toNat) 2 y) (85 + (M 1 10).toNat) 3 p) 1 10 (M 1 10 + 1)) 1 7 1) ∨ (¬ ((0 ≤ f ∧ f < 12) ∧ (1 ≤ s ∧ s < 10) ∧ (0 ≤ y ∧ y ≤ 1439) ∧ (1 ≤ p ∧ p ≤ 100) ∧ M 1 10 < 10) ∧ r1 = -1 ∧ M1 = M)) (p2 : (((0 ≤ f ∧ f < 12) ∧ (1 ≤ s ∧ s < 10) ∧ (0 ≤ y ∧ y ≤ 1439) ∧ (1 ≤ p ∧ p ≤ 100) ∧ M1 172 30 < 10) ∧ r2 = M1 172 30 ∧ M2 = mu (mu (mu (mu (mu (mu M1 186 (M1 172 30).toNat f) 187 (M1 172 30).toNat s) 188 (M1 172 30).toNat y) 189 (M1 172 30).toNat p) 190 (M1 172 30).toNat (-1)) 172 30 (M1 172 30 + 1)) ∨ (¬ ((0 ≤ f ∧ f < 12) ∧ (1 ≤ s ∧ s < 10) ∧ (0 ≤ y ∧ y ≤ 1439) ∧ (1 ≤ p ∧ p ≤ 100) ∧ M1 172 30 < 10) ∧ r2 = -1 ∧ M2 = M1)) : REL M2 ∧ r1 = r2 ∧ inR r1 := by
  obtain ⟨⟨r1e, r2e, r3e, r4e⟩, rB, rC, rD, rF, rG, rH⟩ := id hr
  obtain ⟨o1, o2, o3, o4, o5, o6, o7, o8, o9, o10⟩ := id hx.1
  have E : ∀ a f, 172 ≤ a → M1 a f = M a f := fun a f ha => by rw [hf1 a ha]
  simp (disch := omega) only [E] at p2
  rw [r1e] at p2
  rcases p1 with ⟨c1, e1, rfl⟩ | ⟨c1, e1, rfl⟩
  · rcases p2 with ⟨c2, e2, rfl⟩ | ⟨c2, e2, rfl⟩
    · skip
      refine ⟨?_, by omega⟩
      refine ⟨?_, fun c hc => ?_, fun t ht => ?_, fun k hk => ?_, fun k hk => ?_, fun k hk => ?_, fun s hs => ?_⟩
      · (try simp (disch := first | decide | omega) only [mu_s, mu_nf, mu_nc, and_true, true_and, implies_true]) <;> omega
      · have h := rB c hc
        unfold relB at h ⊢
        by_cases e0 : c = (M 1 10).toNat
        · subst e0
          (try simp (disch := first | decide | omega) only [mu_s, mu_nf, mu_nc, and_true, true_and, implies_true] at h ⊢) <;> omega
        · skip
          (try simp (disch := first | decide | omega) only [mu_s, mu_nf, mu_nc, and_true, true_and, implies_true]) <;> omega
      · have h := rC t ht
        (try simp (disch := first | decide | omega) only [mu_s, mu_nf, mu_nc, and_true, true_and, implies_true]) <;> omega
      · have h := rD k hk
        (try simp (disch := first | decide | omega) only [mu_s, mu_nf, mu_nc, and_true, true_and, implies_true]) <;> omega
      · have h := rF k hk
        unfold relF at h ⊢
        (try simp (disch := first | decide | omega) only [mu_s, mu_nf, mu_nc, and_true, true_and, implies_true]) <;> omega
      · have h := rG k hk
        (try simp (disch := first | decide | omega) only [mu_s, mu_nf, mu_nc, and_true, true_and, implies_true]) <;> omega
      · have h := rH s hs
        (try simp (disch := first | decide | omega) only [mu_s, mu_nf, mu_nc, and_true, true_and, implies_true]) <;> omega
    · exfalso; omega
  · rcases p2 with ⟨c2, e2, -⟩ | ⟨c2, e2, rfl⟩
    · exfalso; omega
    · exact ⟨hr, by omega⟩
theorem rel_churn {M M1 M2 : xMm} {r1 r2 f s y p : Int} (hx : IX M) (hy : IY M) (hr : REL M) (hf1 : ∀ a, 172 ≤ a → M1 a = M a) (p1 : (((0 ≤ f ∧ f < 12) ∧ (1 ≤ s ∧ s < 10) ∧ (0 ≤ y ∧ y ≤ 1439) ∧ (1 ≤ p ∧ p ≤ 100) ∧ M 1 10 < 10) ∧ r1 = M 1 10 ∧ M1 = mu (mu (mu (mu (mu (mu M (85 + (M 1 10).toNat) 0 f) (85 + (M 1 10).toNat) 1 s) (85 + (M 1 10).toNat) 2 y) (85 + (M 1 10).toNat) 3 p) 1 10 (M 1 10 + 1)) 1 7 1) ∨ (¬ ((0 ≤ f ∧ f < 12) ∧ (1 ≤ s ∧ s < 10) ∧ (0 ≤ y ∧ y ≤ 1439) ∧ (1 ≤ p ∧ p ≤ 100) ∧ M 1 10 < 10) ∧ r1 = -1 ∧ M1 = M)) (p2 : (((0 ≤ f ∧ f < 12) ∧ (1 ≤ s ∧ s < 10) ∧ (0 ≤ y ∧ y ≤ 1439) ∧ (1 ≤ p ∧ p ≤ 100) ∧ M1 172 30 < 10) ∧ r2 = M1 172 30 ∧ M2 = mu (mu (mu (mu (mu (mu M1 186 (M1 172 30).toNat f) 187 (M1 172 30).toNat s) 188 (M1 172 30).toNat y) 189 (M1 172 30).toNat p) 190 (M1 172 30).toNat (-1)) 172 30 (M1 172 30 + 1)) ∨ (¬ ((0 ≤ f ∧ f < 12) ∧ (1 ≤ s ∧ s < 10) ∧ (0 ≤ y ∧ y ≤ 1439) ∧ (1 ≤ p ∧ p ≤ 100) ∧ M1 172 30 < 10) ∧ r2 = -1 ∧ M2 = M1)) : REL M2 := (rs_churn hx hy hr hf1 p1 p2).1
theorem same_churn {M M1 M2 : xMm} {r1 r2 f s y p : Int} (hx : IX M) (hy : IY M) (hr : REL M) (hf1 : ∀ a, 172 ≤ a → M1 a = M a) (p1 : (((0 ≤ f ∧ f < 12) ∧ (1 ≤ s ∧ s < 10) ∧ (0 ≤ y ∧ y ≤ 1439) ∧ (1 ≤ p ∧ p ≤ 100) ∧ M 1 10 < 10) ∧ r1 = M 1 10 ∧ M1 = mu (mu (mu (mu (mu (mu M (85 + (M 1 10).toNat) 0 f) (85 + (M 1 10).toNat) 1 s) (85 + (M 1 10).toNat) 2 y) (85 + (M 1 10).toNat) 3 p) 1 10 (M 1 10 + 1)) 1 7 1) ∨ (¬ ((0 ≤ f ∧ f < 12) ∧ (1 ≤ s ∧ s < 10) ∧ (0 ≤ y ∧ y ≤ 1439) ∧ (1 ≤ p ∧ p ≤ 100) ∧ M 1 10 < 10) ∧ r1 = -1 ∧ M1 = M)) (p2 : (((0 ≤ f ∧ f < 12) ∧ (1 ≤ s ∧ s < 10) ∧ (0 ≤ y ∧ y ≤ 1439) ∧ (1 ≤ p ∧ p ≤ 100) ∧ M1 172 30 < 10) ∧ r2 = M1 172 30 ∧ M2 = mu (mu (mu (mu (mu (mu M1 186 (M1 172 30).toNat f) 187 (M1 172 30).toNat s) 188 (M1 172 30).toNat y) 189 (M1 172 30).toNat p) 190 (M1 172 30).toNat (-1)) 172 30 (M1 172 30 + 1)) ∨ (¬ ((0 ≤ f ∧ f < 12) ∧ (1 ≤ s ∧ s < 10) ∧ (0 ≤ y ∧ y ≤ 1439) ∧ (1 ≤ p ∧ p ≤ 100) ∧ M1 172 30 < 10) ∧ r2 = -1 ∧ M2 = M1)) : r1 = r2 ∧ inR r1 := (rs_churn hx hy hr hf1 p1 p2).2
set_option maxHeartbeats 1000000 in
theorem rs_find {M M1 M2 : xMm} {r1 r2 z y : Int} (hx : IX M) (hy : IY M) (hr : REL M) (hf1 : ∀ a, 172 ≤ a → M1 a = M a) (p1 : ((0 ≤ z ∧ z < 12 ∧ 0 ≤ y ∧ y ≤ 100000 ∧ M 1 15 < 30) ∧ r1 = M 1 15 ∧ M1 = mu (mu (mu (mu M (142 + (M 1 15).toNat) 0 z) (142 + (M 1 15).toNat) 1 y) (142 + (M 1 15).toNat) 2 (M 1 16)) 1 15 (M 1 15 + 1)) ∨ (¬ (0 ≤ z ∧ z < 12 ∧ 0 ≤ y ∧ y ≤ 100000 ∧ M 1 15 < 30) ∧ r1 = -1 ∧ M1 = M)) (p2 : ((0 ≤ z ∧ z < 12 ∧ 0 ≤ y ∧ y ≤ 100000 ∧ M1 172 57 < 30) ∧ r2 = M1 172 57 ∧ M2 = mu (mu (mu (mu (mu M1 206 (M1 172 57).toNat z) 207 (M1 172 57).toNat y) 208 (M1 172 57).toNat (M1 172 55)) 209 (M1 172 57).toNat (-1)) 172 57 (M1 172 57 + 1)) ∨ (¬ (0 ≤ z ∧ z < 12 ∧ 0 ≤ y ∧ y ≤ 100000 ∧ M1 172 57 < 30) ∧ r2 = -1 ∧ M2 = M1)) : REL M2 ∧ r1 = r2 ∧ inR r1 := by
  obtain ⟨⟨r1e, r2e, r3e, r4e⟩, rB, rC, rD, rF, rG, rH⟩ := id hr
  obtain ⟨o1, o2, o3, o4, o5, o6, o7, o8, o9, o10⟩ := id hx.1
  have E : ∀ a f, 172 ≤ a → M1 a f = M a f := fun a f ha => by rw [hf1 a ha]
  simp (disch := omega) only [E] at p2
  rw [r3e, r4e] at p2
  rcases p1 with ⟨c1, e1, rfl⟩ | ⟨c1, e1, rfl⟩
  · rcases p2 with ⟨c2, e2, rfl⟩ | ⟨c2, e2, rfl⟩
    · skip
      refine ⟨?_, by omega⟩
      refine ⟨?_, fun c hc => ?_, fun t ht => ?_, fun k hk => ?_, fun k hk => ?_, fun k hk => ?_, fun s hs => ?_⟩
      · (try simp (disch := first | decide | omega) only [mu_s, mu_nf, mu_nc, and_true, true_and, implies_true]) <;> omega
      · have h := rB c hc
        unfold relB at h ⊢
        (try simp (disch := first | decide | omega) only [mu_s, mu_nf, mu_nc, and_true, true_and, implies_true]) <;> omega
      · have h := rC t ht
        (try simp (disch := first | decide | omega) only [mu_s, mu_nf, mu_nc, and_true, true_and, implies_true]) <;> omega
      · have h := rD k hk
        (try simp (disch := first | decide | omega) only [mu_s, mu_nf, mu_nc, and_true, true_and, implies_true]) <;> omega
      · have h := rF k hk
        unfold relF at h ⊢
        by_cases e0 : k = (M 1 15).toNat
        · subst e0
          (try simp (disch := first | decide | omega) only [mu_s, mu_nf, mu_nc, and_true, true_and, implies_true] at h ⊢) <;> omega
        · skip
          (try simp (disch := first | decide | omega) only [mu_s, mu_nf, mu_nc, and_true, true_and, implies_true]) <;> omega
      · have h := rG k hk
        (try simp (disch := first | decide | omega) only [mu_s, mu_nf, mu_nc, and_true, true_and, implies_true]) <;> omega
      · have h := rH s hs
        (try simp (disch := first | decide | omega) only [mu_s, mu_nf, mu_nc, and_true, true_and, implies_true]) <;> omega
    · exfalso; omega
  · rcases p2 with ⟨c2, e2, -⟩ | ⟨c2, e2, rfl⟩
    · exfalso; omega
    · exact ⟨hr, by omega⟩
theorem rel_find {M M1 M2 : xMm} {r1 r2 z y : Int} (hx : IX M) (hy : IY M) (hr : REL M) (hf1 : ∀ a, 172 ≤ a → M1 a = M a) (p1 : ((0 ≤ z ∧ z < 12 ∧ 0 ≤ y ∧ y ≤ 100000 ∧ M 1 15 < 30) ∧ r1 = M 1 15 ∧ M1 = mu (mu (mu (mu M (142 + (M 1 15).toNat) 0 z) (142 + (M 1 15).toNat) 1 y) (142 + (M 1 15).toNat) 2 (M 1 16)) 1 15 (M 1 15 + 1)) ∨ (¬ (0 ≤ z ∧ z < 12 ∧ 0 ≤ y ∧ y ≤ 100000 ∧ M 1 15 < 30) ∧ r1 = -1 ∧ M1 = M)) (p2 : ((0 ≤ z ∧ z < 12 ∧ 0 ≤ y ∧ y ≤ 100000 ∧ M1 172 57 < 30) ∧ r2 = M1 172 57 ∧ M2 = mu (mu (mu (mu (mu M1 206 (M1 172 57).toNat z) 207 (M1 172 57).toNat y) 208 (M1 172 57).toNat (M1 172 55)) 209 (M1 172 57).toNat (-1)) 172 57 (M1 172 57 + 1)) ∨ (¬ (0 ≤ z ∧ z < 12 ∧ 0 ≤ y ∧ y ≤ 100000 ∧ M1 172 57 < 30) ∧ r2 = -1 ∧ M2 = M1)) : REL M2 := (rs_find hx hy hr hf1 p1 p2).1
theorem same_find {M M1 M2 : xMm} {r1 r2 z y : Int} (hx : IX M) (hy : IY M) (hr : REL M) (hf1 : ∀ a, 172 ≤ a → M1 a = M a) (p1 : ((0 ≤ z ∧ z < 12 ∧ 0 ≤ y ∧ y ≤ 100000 ∧ M 1 15 < 30) ∧ r1 = M 1 15 ∧ M1 = mu (mu (mu (mu M (142 + (M 1 15).toNat) 0 z) (142 + (M 1 15).toNat) 1 y) (142 + (M 1 15).toNat) 2 (M 1 16)) 1 15 (M 1 15 + 1)) ∨ (¬ (0 ≤ z ∧ z < 12 ∧ 0 ≤ y ∧ y ≤ 100000 ∧ M 1 15 < 30) ∧ r1 = -1 ∧ M1 = M)) (p2 : ((0 ≤ z ∧ z < 12 ∧ 0 ≤ y ∧ y ≤ 100000 ∧ M1 172 57 < 30) ∧ r2 = M1 172 57 ∧ M2 = mu (mu (mu (mu (mu M1 206 (M1 172 57).toNat z) 207 (M1 172 57).toNat y) 208 (M1 172 57).toNat (M1 172 55)) 209 (M1 172 57).toNat (-1)) 172 57 (M1 172 57 + 1)) ∨ (¬ (0 ≤ z ∧ z < 12 ∧ 0 ≤ y ∧ y ≤ 100000 ∧ M1 172 57 < 30) ∧ r2 = -1 ∧ M2 = M1)) : r1 = r2 ∧ inR r1 := (rs_find hx hy hr hf1 p1 p2).2
set_option maxHeartbeats 1000000 in
theorem rs_untell {M M1 M2 : xMm} {r1 r2 z : Int} (hx : IX M) (hy : IY M) (hr : REL M) (hf1 : ∀ a, 172 ≤ a → M1 a = M a) (p1 : ((0 ≤ z ∧ z < M 1 15 ∧ M (142 + z.toNat) 3 = -1) ∧ r1 = 1 ∧ M1 = mu M (142 + z.toNat) 3 (M 1 16)) ∨ (¬ (0 ≤ z ∧ z < M 1 15 ∧ M (142 + z.toNat) 3 = -1) ∧ r1 = 0 ∧ M1 = M)) (p2 : ((0 ≤ z ∧ z < M1 172 57 ∧ M1 209 z.toNat < 0) ∧ r2 = 1 ∧ M2 = mu M1 209 z.toNat (M1 172 55)) ∨ (¬ (0 ≤ z ∧ z < M1 172 57 ∧ M1 209 z.toNat < 0) ∧ r2 = 0 ∧ M2 = M1)) : REL M2 ∧ r1 = r2 ∧ inR r1 := by
  obtain ⟨⟨r1e, r2e, r3e, r4e⟩, rB, rC, rD, rF, rG, rH⟩ := id hr
  obtain ⟨o1, o2, o3, o4, o5, o6, o7, o8, o9, o10⟩ := id hx.1
  have E : ∀ a f, 172 ≤ a → M1 a f = M a f := fun a f ha => by rw [hf1 a ha]
  simp (disch := omega) only [E] at p2
  rw [r3e, r4e] at p2
  by_cases hc : 0 ≤ z ∧ z < M 1 15
  · have hF := rF z.toNat (by omega)
    have hO := o10 z.toNat (by omega)
    unfold relF at hF
    rcases p1 with ⟨c1, e1, rfl⟩ | ⟨c1, e1, rfl⟩
    · rcases p2 with ⟨c2, e2, rfl⟩ | ⟨c2, e2, rfl⟩
      · skip
        refine ⟨?_, by omega⟩
        refine ⟨?_, fun c hc => ?_, fun t ht => ?_, fun k hk => ?_, fun k hk => ?_, fun k hk => ?_, fun s hs => ?_⟩
        · (try simp (disch := first | decide | omega) only [mu_s, mu_nf, mu_nc, and_true, true_and, implies_true]) <;> omega
        · have h := rB c hc
          unfold relB at h ⊢
          (try simp (disch := first | decide | omega) only [mu_s, mu_nf, mu_nc, and_true, true_and, implies_true]) <;> omega
        · have h := rC t ht
          (try simp (disch := first | decide | omega) only [mu_s, mu_nf, mu_nc, and_true, true_and, implies_true]) <;> omega
        · have h := rD k hk
          (try simp (disch := first | decide | omega) only [mu_s, mu_nf, mu_nc, and_true, true_and, implies_true]) <;> omega
        · have h := rF k hk
          unfold relF at h ⊢
          by_cases e0 : k = z.toNat
          · subst e0
            (try simp (disch := first | decide | omega) only [mu_s, mu_nf, mu_nc, and_true, true_and, implies_true] at h ⊢) <;> omega
          · skip
            (try simp (disch := first | decide | omega) only [mu_s, mu_nf, mu_nc, and_true, true_and, implies_true]) <;> omega
        · have h := rG k hk
          (try simp (disch := first | decide | omega) only [mu_s, mu_nf, mu_nc, and_true, true_and, implies_true]) <;> omega
        · have h := rH s hs
          (try simp (disch := first | decide | omega) only [mu_s, mu_nf, mu_nc, and_true, true_and, implies_true]) <;> omega
      · exfalso; omega
    · rcases p2 with ⟨c2, e2, -⟩ | ⟨c2, e2, rfl⟩
      · exfalso; omega
      · exact ⟨hr, by omega⟩
  · rcases p1 with ⟨c1, -⟩ | ⟨c1, e1, rfl⟩
    · exact absurd ⟨c1.1, c1.2.1⟩ hc
    · rcases p2 with ⟨c2, -⟩ | ⟨c2, e2, rfl⟩
      · exact absurd ⟨c2.1, c2.2.1⟩ hc
      · exact ⟨hr, by omega⟩
theorem rel_untell {M M1 M2 : xMm} {r1 r2 z : Int} (hx : IX M) (hy : IY M) (hr : REL M) (hf1 : ∀ a, 172 ≤ a → M1 a = M a) (p1 : ((0 ≤ z ∧ z < M 1 15 ∧ M (142 + z.toNat) 3 = -1) ∧ r1 = 1 ∧ M1 = mu M (142 + z.toNat) 3 (M 1 16)) ∨ (¬ (0 ≤ z ∧ z < M 1 15 ∧ M (142 + z.toNat) 3 = -1) ∧ r1 = 0 ∧ M1 = M)) (p2 : ((0 ≤ z ∧ z < M1 172 57 ∧ M1 209 z.toNat < 0) ∧ r2 = 1 ∧ M2 = mu M1 209 z.toNat (M1 172 55)) ∨ (¬ (0 ≤ z ∧ z < M1 172 57 ∧ M1 209 z.toNat < 0) ∧ r2 = 0 ∧ M2 = M1)) : REL M2 := (rs_untell hx hy hr hf1 p1 p2).1
theorem same_untell {M M1 M2 : xMm} {r1 r2 z : Int} (hx : IX M) (hy : IY M) (hr : REL M) (hf1 : ∀ a, 172 ≤ a → M1 a = M a) (p1 : ((0 ≤ z ∧ z < M 1 15 ∧ M (142 + z.toNat) 3 = -1) ∧ r1 = 1 ∧ M1 = mu M (142 + z.toNat) 3 (M 1 16)) ∨ (¬ (0 ≤ z ∧ z < M 1 15 ∧ M (142 + z.toNat) 3 = -1) ∧ r1 = 0 ∧ M1 = M)) (p2 : ((0 ≤ z ∧ z < M1 172 57 ∧ M1 209 z.toNat < 0) ∧ r2 = 1 ∧ M2 = mu M1 209 z.toNat (M1 172 55)) ∨ (¬ (0 ≤ z ∧ z < M1 172 57 ∧ M1 209 z.toNat < 0) ∧ r2 = 0 ∧ M2 = M1)) : r1 = r2 ∧ inR r1 := (rs_untell hx hy hr hf1 p1 p2).2
set_option maxHeartbeats 1000000 in
theorem rs_pour {M M1 M2 : xMm} {r1 r2 z y : Int} (hx : IX M) (hy : IY M) (hr : REL M) (hf1 : ∀ a, 172 ≤ a → M1 a = M a) (p1 : ((0 ≤ z ∧ z < M 1 10 ∧ 0 ≤ y ∧ y < 4 ∧ M (85 + z.toNat) 4 = -1 ∧ M (85 + z.toNat) 3 ≤ 1000 - M (96 + y.toNat) 0) ∧ r1 = M (96 + y.toNat) 0 + M (85 + z.toNat) 3 ∧ M1 = mu (mu (mu M (96 + y.toNat) 0 (M (96 + y.toNat) 0 + M (85 + z.toNat) 3)) (96 + y.toNat) 1 (bOr (M (96 + y.toNat) 1) (bShl 1 (M (85 + z.toNat) 0)))) (85 + z.toNat) 4 y) ∨ (¬ (0 ≤ z ∧ z < M 1 10 ∧ 0 ≤ y ∧ y < 4 ∧ M (85 + z.toNat) 4 = -1 ∧ M (85 + z.toNat) 3 ≤ 1000 - M (96 + y.toNat) 0) ∧ r1 = -1 ∧ M1 = M)) (p2 : ((0 ≤ z ∧ z < M1 172 30 ∧ 0 ≤ y ∧ y < 4 ∧ M1 190 z.toNat < 0 ∧ M1 201 y.toNat + M1 189 z.toNat ≤ 1000) ∧ r2 = M1 201 y.toNat + M1 189 z.toNat ∧ M2 = mu (mu (mu M1 190 z.toNat y) 201 y.toNat (M1 201 y.toNat + M1 189 z.toNat)) 202 y.toNat (bOr (M1 202 y.toNat) (bShl 1 (M1 186 z.toNat)))) ∨ (¬ (0 ≤ z ∧ z < M1 172 30 ∧ 0 ≤ y ∧ y < 4 ∧ M1 190 z.toNat < 0 ∧ M1 201 y.toNat + M1 189 z.toNat ≤ 1000) ∧ r2 = -1 ∧ M2 = M1)) : REL M2 ∧ r1 = r2 ∧ inR r1 := by
  obtain ⟨⟨r1e, r2e, r3e, r4e⟩, rB, rC, rD, rF, rG, rH⟩ := id hr
  obtain ⟨o1, o2, o3, o4, o5, o6, o7, o8, o9, o10⟩ := id hx.1
  have E : ∀ a f, 172 ≤ a → M1 a f = M a f := fun a f ha => by rw [hf1 a ha]
  simp (disch := omega) only [E] at p2
  rw [r1e] at p2
  by_cases hc : (0 ≤ z ∧ z < M 1 10) ∧ 0 ≤ y ∧ y < 4
  · have hB := rB z.toNat (by omega)
    have hO := o7 z.toNat (by omega)
    have hT := rC y.toNat (by omega)
    have hO2 := o8 y.toNat (by omega)
    unfold relB at hB
    rw [hB.1.1] at p2
    rw [hT.2] at p2
    rcases p1 with ⟨c1, e1, rfl⟩ | ⟨c1, e1, rfl⟩
    · rcases p2 with ⟨c2, e2, rfl⟩ | ⟨c2, e2, rfl⟩
      · skip
        refine ⟨?_, by omega⟩
        refine ⟨?_, fun c hc => ?_, fun t ht => ?_, fun k hk => ?_, fun k hk => ?_, fun k hk => ?_, fun s hs => ?_⟩
        · (try simp (disch := first | decide | omega) only [mu_s, mu_nf, mu_nc, and_true, true_and, implies_true]) <;> omega
        · have h := rB c hc
          unfold relB at h ⊢
          by_cases e0 : c = z.toNat
          · subst e0
            (try simp (disch := first | decide | omega) only [mu_s, mu_nf, mu_nc, and_true, true_and, implies_true] at h ⊢) <;> omega
          · skip
            (try simp (disch := first | decide | omega) only [mu_s, mu_nf, mu_nc, and_true, true_and, implies_true]) <;> omega
        · have h := rC t ht
          by_cases e0 : t = y.toNat
          · subst e0
            (try simp (disch := first | decide | omega) only [mu_s, mu_nf, mu_nc, and_true, true_and, implies_true] at h ⊢) <;> omega
          · skip
            (try simp (disch := first | decide | omega) only [mu_s, mu_nf, mu_nc, and_true, true_and, implies_true]) <;> omega
        · have h := rD k hk
          (try simp (disch := first | decide | omega) only [mu_s, mu_nf, mu_nc, and_true, true_and, implies_true]) <;> omega
        · have h := rF k hk
          unfold relF at h ⊢
          (try simp (disch := first | decide | omega) only [mu_s, mu_nf, mu_nc, and_true, true_and, implies_true]) <;> omega
        · have h := rG k hk
          (try simp (disch := first | decide | omega) only [mu_s, mu_nf, mu_nc, and_true, true_and, implies_true]) <;> omega
        · have h := rH s hs
          (try simp (disch := first | decide | omega) only [mu_s, mu_nf, mu_nc, and_true, true_and, implies_true]) <;> omega
      · exfalso; omega
    · rcases p2 with ⟨c2, e2, -⟩ | ⟨c2, e2, rfl⟩
      · exfalso; omega
      · exact ⟨hr, by omega⟩
  · rcases p1 with ⟨c1, -⟩ | ⟨c1, e1, rfl⟩
    · exact absurd ⟨⟨c1.1, c1.2.1⟩, c1.2.2.1, c1.2.2.2.1⟩ hc
    · rcases p2 with ⟨c2, -⟩ | ⟨c2, e2, rfl⟩
      · exact absurd ⟨⟨c2.1, c2.2.1⟩, c2.2.2.1, c2.2.2.2.1⟩ hc
      · exact ⟨hr, by omega⟩
theorem rel_pour {M M1 M2 : xMm} {r1 r2 z y : Int} (hx : IX M) (hy : IY M) (hr : REL M) (hf1 : ∀ a, 172 ≤ a → M1 a = M a) (p1 : ((0 ≤ z ∧ z < M 1 10 ∧ 0 ≤ y ∧ y < 4 ∧ M (85 + z.toNat) 4 = -1 ∧ M (85 + z.toNat) 3 ≤ 1000 - M (96 + y.toNat) 0) ∧ r1 = M (96 + y.toNat) 0 + M (85 + z.toNat) 3 ∧ M1 = mu (mu (mu M (96 + y.toNat) 0 (M (96 + y.toNat) 0 + M (85 + z.toNat) 3)) (96 + y.toNat) 1 (bOr (M (96 + y.toNat) 1) (bShl 1 (M (85 + z.toNat) 0)))) (85 + z.toNat) 4 y) ∨ (¬ (0 ≤ z ∧ z < M 1 10 ∧ 0 ≤ y ∧ y < 4 ∧ M (85 + z.toNat) 4 = -1 ∧ M (85 + z.toNat) 3 ≤ 1000 - M (96 + y.toNat) 0) ∧ r1 = -1 ∧ M1 = M)) (p2 : ((0 ≤ z ∧ z < M1 172 30 ∧ 0 ≤ y ∧ y < 4 ∧ M1 190 z.toNat < 0 ∧ M1 201 y.toNat + M1 189 z.toNat ≤ 1000) ∧ r2 = M1 201 y.toNat + M1 189 z.toNat ∧ M2 = mu (mu (mu M1 190 z.toNat y) 201 y.toNat (M1 201 y.toNat + M1 189 z.toNat)) 202 y.toNat (bOr (M1 202 y.toNat) (bShl 1 (M1 186 z.toNat)))) ∨ (¬ (0 ≤ z ∧ z < M1 172 30 ∧ 0 ≤ y ∧ y < 4 ∧ M1 190 z.toNat < 0 ∧ M1 201 y.toNat + M1 189 z.toNat ≤ 1000) ∧ r2 = -1 ∧ M2 = M1)) : REL M2 := (rs_pour hx hy hr hf1 p1 p2).1
theorem same_pour {M M1 M2 : xMm} {r1 r2 z y : Int} (hx : IX M) (hy : IY M) (hr : REL M) (hf1 : ∀ a, 172 ≤ a → M1 a = M a) (p1 : ((0 ≤ z ∧ z < M 1 10 ∧ 0 ≤ y ∧ y < 4 ∧ M (85 + z.toNat) 4 = -1 ∧ M (85 + z.toNat) 3 ≤ 1000 - M (96 + y.toNat) 0) ∧ r1 = M (96 + y.toNat) 0 + M (85 + z.toNat) 3 ∧ M1 = mu (mu (mu M (96 + y.toNat) 0 (M (96 + y.toNat) 0 + M (85 + z.toNat) 3)) (96 + y.toNat) 1 (bOr (M (96 + y.toNat) 1) (bShl 1 (M (85 + z.toNat) 0)))) (85 + z.toNat) 4 y) ∨ (¬ (0 ≤ z ∧ z < M 1 10 ∧ 0 ≤ y ∧ y < 4 ∧ M (85 + z.toNat) 4 = -1 ∧ M (85 + z.toNat) 3 ≤ 1000 - M (96 + y.toNat) 0) ∧ r1 = -1 ∧ M1 = M)) (p2 : ((0 ≤ z ∧ z < M1 172 30 ∧ 0 ≤ y ∧ y < 4 ∧ M1 190 z.toNat < 0 ∧ M1 201 y.toNat + M1 189 z.toNat ≤ 1000) ∧ r2 = M1 201 y.toNat + M1 189 z.toNat ∧ M2 = mu (mu (mu M1 190 z.toNat y) 201 y.toNat (M1 201 y.toNat + M1 189 z.toNat)) 202 y.toNat (bOr (M1 202 y.toNat) (bShl 1 (M1 186 z.toNat)))) ∨ (¬ (0 ≤ z ∧ z < M1 172 30 ∧ 0 ≤ y ∧ y < 4 ∧ M1 190 z.toNat < 0 ∧ M1 201 y.toNat + M1 189 z.toNat ≤ 1000) ∧ r2 = -1 ∧ M2 = M1)) : r1 = r2 ∧ inR r1 := (rs_pour hx hy hr hf1 p1 p2).2
set_option maxHeartbeats 1000000 in
theorem rs_lead {M M1 M2 : xMm} {r1 r2 z y p : Int} (hx : IX M) (hy : IY M) (hr : REL M) (hf1 : ∀ a, 172 ≤ a → M1 a = M a) (p1 : ((0 ≤ z ∧ z < 4 ∧ 0 ≤ y ∧ y < 4 ∧ z ≠ y ∧ 1 ≤ p ∧ p ≤ M (96 + z.toNat) 0 ∧ p ≤ 1000 - M (96 + y.toNat) 0) ∧ r1 = (M (96 + z.toNat) 0 - p) ∧ M1 = if (M (96 + z.toNat) 0 - p) = 0 then mu (mu (mu (mu M (96 + y.toNat) 0 (M (96 + y.toNat) 0 + p)) (96 + y.toNat) 1 (bOr (M (96 + y.toNat) 1) (M (96 + z.toNat) 1))) (96 + z.toNat) 0 (M (96 + z.toNat) 0 - p)) (96 + z.toNat) 1 0 else mu (mu (mu M (96 + y.toNat) 0 (M (96 + y.toNat) 0 + p)) (96 + y.toNat) 1 (bOr (M (96 + y.toNat) 1) (M (96 + z.toNat) 1))) (96 + z.toNat) 0 (M (96 + z.toNat) 0 - p)) ∨ (¬ (0 ≤ z ∧ z < 4 ∧ 0 ≤ y ∧ y < 4 ∧ z ≠ y ∧ 1 ≤ p ∧ p ≤ M (96 + z.toNat) 0 ∧ p ≤ 1000 - M (96 + y.toNat) 0) ∧ r1 = -1 ∧ M1 = M)) (p2 : ((0 ≤ z ∧ z < 4 ∧ 0 ≤ y ∧ y < 4 ∧ z ≠ y ∧ 1 ≤ p ∧ p ≤ M1 201 z.toNat ∧ M1 201 y.toNat + p ≤ 1000) ∧ r2 = (M1 201 z.toNat - p) ∧ M2 = if (M1 201 z.toNat - p) = 0 then mu (mu (mu (mu M1 201 y.toNat (M1 201 y.toNat + p)) 202 y.toNat (bOr (M1 202 y.toNat) (M1 202 z.toNat))) 201 z.toNat (M1 201 z.toNat - p)) 202 z.toNat 0 else mu (mu (mu M1 201 y.toNat (M1 201 y.toNat + p)) 202 y.toNat (bOr (M1 202 y.toNat) (M1 202 z.toNat))) 201 z.toNat (M1 201 z.toNat - p)) ∨ (¬ (0 ≤ z ∧ z < 4 ∧ 0 ≤ y ∧ y < 4 ∧ z ≠ y ∧ 1 ≤ p ∧ p ≤ M1 201 z.toNat ∧ M1 201 y.toNat + p ≤ 1000) ∧ r2 = -1 ∧ M2 = M1)) : REL M2 ∧ r1 = r2 ∧ inR r1 := by
  obtain ⟨⟨r1e, r2e, r3e, r4e⟩, rB, rC, rD, rF, rG, rH⟩ := id hr
  obtain ⟨o1, o2, o3, o4, o5, o6, o7, o8, o9, o10⟩ := id hx.1
  have E : ∀ a f, 172 ≤ a → M1 a f = M a f := fun a f ha => by rw [hf1 a ha]
  simp (disch := omega) only [E] at p2
  by_cases hc : (0 ≤ z ∧ z < 4) ∧ 0 ≤ y ∧ y < 4 ∧ z ≠ y
  · have hS := rC z.toNat (by omega)
    have hO := o8 z.toNat (by omega)
    have hT := rC y.toNat (by omega)
    have hO2 := o8 y.toNat (by omega)
    have hne : z.toNat ≠ y.toNat := by omega
    rw [hS.1, hS.2, hT.1, hT.2] at p2
    rcases p1 with ⟨c1, e1, m1⟩ | ⟨c1, e1, rfl⟩
    · rcases p2 with ⟨c2, e2, m2⟩ | ⟨c2, e2, rfl⟩
      · refine ⟨?_, by omega⟩
        by_cases e0 : M (96 + z.toNat) 0 - p = 0
        · rw [if_pos e0] at m1 m2
          subst m1; subst m2
          refine ⟨?_, fun c hc => ?_, fun t ht => ?_, fun k hk => ?_, fun k hk => ?_, fun k hk => ?_, fun s hs => ?_⟩
          · (try simp (disch := first | decide | omega) only [mu_s, mu_nf, mu_nc, and_true, true_and, implies_true]) <;> omega
          · have h := rB c hc
            unfold relB at h ⊢
            (try simp (disch := first | decide | omega) only [mu_s, mu_nf, mu_nc, and_true, true_and, implies_true]) <;> omega
          · have h := rC t ht
            by_cases e0 : t = z.toNat
            · subst e0
              (try simp (disch := first | decide | omega) only [mu_s, mu_nf, mu_nc, and_true, true_and, implies_true] at h ⊢) <;> omega
            · skip
              by_cases e1 : t = y.toNat
              · subst e1
                (try simp (disch := first | decide | omega) only [mu_s, mu_nf, mu_nc, and_true, true_and, implies_true] at h ⊢) <;> omega
              · skip
                (try simp (disch := first | decide | omega) only [mu_s, mu_nf, mu_nc, and_true, true_and, implies_true]) <;> omega
          · have h := rD k hk
            (try simp (disch := first | decide | omega) only [mu_s, mu_nf, mu_nc, and_true, true_and, implies_true]) <;> omega
          · have h := rF k hk
            unfold relF at h ⊢
            (try simp (disch := first | decide | omega) only [mu_s, mu_nf, mu_nc, and_true, true_and, implies_true]) <;> omega
          · have h := rG k hk
            (try simp (disch := first | decide | omega) only [mu_s, mu_nf, mu_nc, and_true, true_and, implies_true]) <;> omega
          · have h := rH s hs
            (try simp (disch := first | decide | omega) only [mu_s, mu_nf, mu_nc, and_true, true_and, implies_true]) <;> omega
        · rw [if_neg e0] at m1 m2
          subst m1; subst m2
          refine ⟨?_, fun c hc => ?_, fun t ht => ?_, fun k hk => ?_, fun k hk => ?_, fun k hk => ?_, fun s hs => ?_⟩
          · (try simp (disch := first | decide | omega) only [mu_s, mu_nf, mu_nc, and_true, true_and, implies_true]) <;> omega
          · have h := rB c hc
            unfold relB at h ⊢
            (try simp (disch := first | decide | omega) only [mu_s, mu_nf, mu_nc, and_true, true_and, implies_true]) <;> omega
          · have h := rC t ht
            by_cases e0 : t = z.toNat
            · subst e0
              (try simp (disch := first | decide | omega) only [mu_s, mu_nf, mu_nc, and_true, true_and, implies_true] at h ⊢) <;> omega
            · skip
              by_cases e1 : t = y.toNat
              · subst e1
                (try simp (disch := first | decide | omega) only [mu_s, mu_nf, mu_nc, and_true, true_and, implies_true] at h ⊢) <;> omega
              · skip
                (try simp (disch := first | decide | omega) only [mu_s, mu_nf, mu_nc, and_true, true_and, implies_true]) <;> omega
          · have h := rD k hk
            (try simp (disch := first | decide | omega) only [mu_s, mu_nf, mu_nc, and_true, true_and, implies_true]) <;> omega
          · have h := rF k hk
            unfold relF at h ⊢
            (try simp (disch := first | decide | omega) only [mu_s, mu_nf, mu_nc, and_true, true_and, implies_true]) <;> omega
          · have h := rG k hk
            (try simp (disch := first | decide | omega) only [mu_s, mu_nf, mu_nc, and_true, true_and, implies_true]) <;> omega
          · have h := rH s hs
            (try simp (disch := first | decide | omega) only [mu_s, mu_nf, mu_nc, and_true, true_and, implies_true]) <;> omega
      · exfalso; omega
    · rcases p2 with ⟨c2, e2, -⟩ | ⟨c2, e2, rfl⟩
      · exfalso; omega
      · exact ⟨hr, by omega⟩
  · rcases p1 with ⟨c1, -⟩ | ⟨c1, e1, rfl⟩
    · exact absurd ⟨⟨c1.1, c1.2.1⟩, c1.2.2.1, c1.2.2.2.1, c1.2.2.2.2.1⟩ hc
    · rcases p2 with ⟨c2, -⟩ | ⟨c2, e2, rfl⟩
      · exact absurd ⟨⟨c2.1, c2.2.1⟩, c2.2.2.1, c2.2.2.2.1, c2.2.2.2.2.1⟩ hc
      · exact ⟨hr, by omega⟩
theorem rel_lead {M M1 M2 : xMm} {r1 r2 z y p : Int} (hx : IX M) (hy : IY M) (hr : REL M) (hf1 : ∀ a, 172 ≤ a → M1 a = M a) (p1 : ((0 ≤ z ∧ z < 4 ∧ 0 ≤ y ∧ y < 4 ∧ z ≠ y ∧ 1 ≤ p ∧ p ≤ M (96 + z.toNat) 0 ∧ p ≤ 1000 - M (96 + y.toNat) 0) ∧ r1 = (M (96 + z.toNat) 0 - p) ∧ M1 = if (M (96 + z.toNat) 0 - p) = 0 then mu (mu (mu (mu M (96 + y.toNat) 0 (M (96 + y.toNat) 0 + p)) (96 + y.toNat) 1 (bOr (M (96 + y.toNat) 1) (M (96 + z.toNat) 1))) (96 + z.toNat) 0 (M (96 + z.toNat) 0 - p)) (96 + z.toNat) 1 0 else mu (mu (mu M (96 + y.toNat) 0 (M (96 + y.toNat) 0 + p)) (96 + y.toNat) 1 (bOr (M (96 + y.toNat) 1) (M (96 + z.toNat) 1))) (96 + z.toNat) 0 (M (96 + z.toNat) 0 - p)) ∨ (¬ (0 ≤ z ∧ z < 4 ∧ 0 ≤ y ∧ y < 4 ∧ z ≠ y ∧ 1 ≤ p ∧ p ≤ M (96 + z.toNat) 0 ∧ p ≤ 1000 - M (96 + y.toNat) 0) ∧ r1 = -1 ∧ M1 = M)) (p2 : ((0 ≤ z ∧ z < 4 ∧ 0 ≤ y ∧ y < 4 ∧ z ≠ y ∧ 1 ≤ p ∧ p ≤ M1 201 z.toNat ∧ M1 201 y.toNat + p ≤ 1000) ∧ r2 = (M1 201 z.toNat - p) ∧ M2 = if (M1 201 z.toNat - p) = 0 then mu (mu (mu (mu M1 201 y.toNat (M1 201 y.toNat + p)) 202 y.toNat (bOr (M1 202 y.toNat) (M1 202 z.toNat))) 201 z.toNat (M1 201 z.toNat - p)) 202 z.toNat 0 else mu (mu (mu M1 201 y.toNat (M1 201 y.toNat + p)) 202 y.toNat (bOr (M1 202 y.toNat) (M1 202 z.toNat))) 201 z.toNat (M1 201 z.toNat - p)) ∨ (¬ (0 ≤ z ∧ z < 4 ∧ 0 ≤ y ∧ y < 4 ∧ z ≠ y ∧ 1 ≤ p ∧ p ≤ M1 201 z.toNat ∧ M1 201 y.toNat + p ≤ 1000) ∧ r2 = -1 ∧ M2 = M1)) : REL M2 := (rs_lead hx hy hr hf1 p1 p2).1
theorem same_lead {M M1 M2 : xMm} {r1 r2 z y p : Int} (hx : IX M) (hy : IY M) (hr : REL M) (hf1 : ∀ a, 172 ≤ a → M1 a = M a) (p1 : ((0 ≤ z ∧ z < 4 ∧ 0 ≤ y ∧ y < 4 ∧ z ≠ y ∧ 1 ≤ p ∧ p ≤ M (96 + z.toNat) 0 ∧ p ≤ 1000 - M (96 + y.toNat) 0) ∧ r1 = (M (96 + z.toNat) 0 - p) ∧ M1 = if (M (96 + z.toNat) 0 - p) = 0 then mu (mu (mu (mu M (96 + y.toNat) 0 (M (96 + y.toNat) 0 + p)) (96 + y.toNat) 1 (bOr (M (96 + y.toNat) 1) (M (96 + z.toNat) 1))) (96 + z.toNat) 0 (M (96 + z.toNat) 0 - p)) (96 + z.toNat) 1 0 else mu (mu (mu M (96 + y.toNat) 0 (M (96 + y.toNat) 0 + p)) (96 + y.toNat) 1 (bOr (M (96 + y.toNat) 1) (M (96 + z.toNat) 1))) (96 + z.toNat) 0 (M (96 + z.toNat) 0 - p)) ∨ (¬ (0 ≤ z ∧ z < 4 ∧ 0 ≤ y ∧ y < 4 ∧ z ≠ y ∧ 1 ≤ p ∧ p ≤ M (96 + z.toNat) 0 ∧ p ≤ 1000 - M (96 + y.toNat) 0) ∧ r1 = -1 ∧ M1 = M)) (p2 : ((0 ≤ z ∧ z < 4 ∧ 0 ≤ y ∧ y < 4 ∧ z ≠ y ∧ 1 ≤ p ∧ p ≤ M1 201 z.toNat ∧ M1 201 y.toNat + p ≤ 1000) ∧ r2 = (M1 201 z.toNat - p) ∧ M2 = if (M1 201 z.toNat - p) = 0 then mu (mu (mu (mu M1 201 y.toNat (M1 201 y.toNat + p)) 202 y.toNat (bOr (M1 202 y.toNat) (M1 202 z.toNat))) 201 z.toNat (M1 201 z.toNat - p)) 202 z.toNat 0 else mu (mu (mu M1 201 y.toNat (M1 201 y.toNat + p)) 202 y.toNat (bOr (M1 202 y.toNat) (M1 202 z.toNat))) 201 z.toNat (M1 201 z.toNat - p)) ∨ (¬ (0 ≤ z ∧ z < 4 ∧ 0 ≤ y ∧ y < 4 ∧ z ≠ y ∧ 1 ≤ p ∧ p ≤ M1 201 z.toNat ∧ M1 201 y.toNat + p ≤ 1000) ∧ r2 = -1 ∧ M2 = M1)) : r1 = r2 ∧ inR r1 := (rs_lead hx hy hr hf1 p1 p2).2
set_option maxHeartbeats 1000000 in
theorem rs_bottle {M M1 M2 : xMm} {r1 r2 z y : Int} (hx : IX M) (hy : IY M) (hr : REL M) (hf1 : ∀ a, 172 ≤ a → M1 a = M a) (p1 : ((0 ≤ z ∧ z < 4 ∧ 1 ≤ y ∧ y ≤ M (96 + z.toNat) 0 ∧ M 1 13 < 40) ∧ r1 = M 1 13 ∧ ∃ Mt, (Mt = if M (96 + z.toNat) 0 - y = 0 then mu (mu (mu (mu (mu M (101 + (M 1 13).toNat) 0 y) (101 + (M 1 13).toNat) 1 (M (96 + z.toNat) 1)) (101 + (M 1 13).toNat) 2 (M 1 16)) (96 + z.toNat) 0 (M (96 + z.toNat) 0 - y)) (96 + z.toNat) 1 0 else mu (mu (mu (mu M (101 + (M 1 13).toNat) 0 y) (101 + (M 1 13).toNat) 1 (M (96 + z.toNat) 1)) (101 + (M 1 13).toNat) 2 (M 1 16)) (96 + z.toNat) 0 (M (96 + z.toNat) 0 - y)) ∧ M1 = mu Mt 1 13 (M 1 13 + 1)) ∨ (¬ (0 ≤ z ∧ z < 4 ∧ 1 ≤ y ∧ y ≤ M (96 + z.toNat) 0 ∧ M 1 13 < 40) ∧ r1 = -1 ∧ M1 = M)) (p2 : ((0 ≤ z ∧ z < 4 ∧ 1 ≤ y ∧ y ≤ M1 201 z.toNat ∧ M1 172 56 < 40) ∧ r2 = M1 172 56 ∧ M2 = if (M1 201 z.toNat - y) = 0 then mu (mu (mu (mu (mu (mu M1 203 (M1 172 56).toNat y) 204 (M1 172 56).toNat (M1 202 z.toNat)) 205 (M1 172 56).toNat (M1 172 55)) 172 56 (M1 172 56 + 1)) 201 z.toNat (M1 201 z.toNat - y)) 202 z.toNat 0 else mu (mu (mu (mu (mu M1 203 (M1 172 56).toNat y) 204 (M1 172 56).toNat (M1 202 z.toNat)) 205 (M1 172 56).toNat (M1 172 55)) 172 56 (M1 172 56 + 1)) 201 z.toNat (M1 201 z.toNat - y)) ∨ (¬ (0 ≤ z ∧ z < 4 ∧ 1 ≤ y ∧ y ≤ M1 201 z.toNat ∧ M1 172 56 < 40) ∧ r2 = -1 ∧ M2 = M1)) : REL M2 ∧ r1 = r2 ∧ inR r1 := by
  obtain ⟨⟨r1e, r2e, r3e, r4e⟩, rB, rC, rD, rF, rG, rH⟩ := id hr
  obtain ⟨o1, o2, o3, o4, o5, o6, o7, o8, o9, o10⟩ := id hx.1
  have E : ∀ a f, 172 ≤ a → M1 a f = M a f := fun a f ha => by rw [hf1 a ha]
  simp (disch := omega) only [E] at p2
  rw [r2e, r4e] at p2
  by_cases hc : 0 ≤ z ∧ z < 4
  · have hS := rC z.toNat (by omega)
    have hO := o8 z.toNat (by omega)
    rw [hS.1, hS.2] at p2
    rcases p1 with ⟨c1, e1, Mt, m1, m1b⟩ | ⟨c1, e1, rfl⟩
    · rcases p2 with ⟨c2, e2, m2⟩ | ⟨c2, e2, rfl⟩
      · refine ⟨?_, by omega⟩
        by_cases e0 : M (96 + z.toNat) 0 - y = 0
        · rw [if_pos e0] at m1 m2
          subst m1; subst m1b; subst m2
          refine ⟨?_, fun c hc => ?_, fun t ht => ?_, fun k hk => ?_, fun k hk => ?_, fun k hk => ?_, fun s hs => ?_⟩
          · (try simp (disch := first | decide | omega) only [mu_s, mu_nf, mu_nc, and_true, true_and, implies_true]) <;> omega
          · have h := rB c hc
            unfold relB at h ⊢
            (try simp (disch := first | decide | omega) only [mu_s, mu_nf, mu_nc, and_true, true_and, implies_true]) <;> omega
          · have h := rC t ht
            by_cases e0 : t = z.toNat
            · subst e0
              (try simp (disch := first | decide | omega) only [mu_s, mu_nf, mu_nc, and_true, true_and, implies_true] at h ⊢) <;> omega
            · skip
              (try simp (disch := first | decide | omega) only [mu_s, mu_nf, mu_nc, and_true, true_and, implies_true]) <;> omega
          · have h := rD k hk
            by_cases e0 : k = (M 1 13).toNat
            · subst e0
              (try simp (disch := first | decide | omega) only [mu_s, mu_nf, mu_nc, and_true, true_and, implies_true] at h ⊢) <;> omega
            · skip
              (try simp (disch := first | decide | omega) only [mu_s, mu_nf, mu_nc, and_true, true_and, implies_true]) <;> omega
          · have h := rF k hk
            unfold relF at h ⊢
            (try simp (disch := first | decide | omega) only [mu_s, mu_nf, mu_nc, and_true, true_and, implies_true]) <;> omega
          · have h := rG k hk
            (try simp (disch := first | decide | omega) only [mu_s, mu_nf, mu_nc, and_true, true_and, implies_true]) <;> omega
          · have h := rH s hs
            (try simp (disch := first | decide | omega) only [mu_s, mu_nf, mu_nc, and_true, true_and, implies_true]) <;> omega
        · rw [if_neg e0] at m1 m2
          subst m1; subst m1b; subst m2
          refine ⟨?_, fun c hc => ?_, fun t ht => ?_, fun k hk => ?_, fun k hk => ?_, fun k hk => ?_, fun s hs => ?_⟩
          · (try simp (disch := first | decide | omega) only [mu_s, mu_nf, mu_nc, and_true, true_and, implies_true]) <;> omega
          · have h := rB c hc
            unfold relB at h ⊢
            (try simp (disch := first | decide | omega) only [mu_s, mu_nf, mu_nc, and_true, true_and, implies_true]) <;> omega
          · have h := rC t ht
            by_cases e0 : t = z.toNat
            · subst e0
              (try simp (disch := first | decide | omega) only [mu_s, mu_nf, mu_nc, and_true, true_and, implies_true] at h ⊢) <;> omega
            · skip
              (try simp (disch := first | decide | omega) only [mu_s, mu_nf, mu_nc, and_true, true_and, implies_true]) <;> omega
          · have h := rD k hk
            by_cases e0 : k = (M 1 13).toNat
            · subst e0
              (try simp (disch := first | decide | omega) only [mu_s, mu_nf, mu_nc, and_true, true_and, implies_true] at h ⊢) <;> omega
            · skip
              (try simp (disch := first | decide | omega) only [mu_s, mu_nf, mu_nc, and_true, true_and, implies_true]) <;> omega
          · have h := rF k hk
            unfold relF at h ⊢
            (try simp (disch := first | decide | omega) only [mu_s, mu_nf, mu_nc, and_true, true_and, implies_true]) <;> omega
          · have h := rG k hk
            (try simp (disch := first | decide | omega) only [mu_s, mu_nf, mu_nc, and_true, true_and, implies_true]) <;> omega
          · have h := rH s hs
            (try simp (disch := first | decide | omega) only [mu_s, mu_nf, mu_nc, and_true, true_and, implies_true]) <;> omega
      · exfalso; omega
    · rcases p2 with ⟨c2, e2, -⟩ | ⟨c2, e2, rfl⟩
      · exfalso; omega
      · exact ⟨hr, by omega⟩
  · rcases p1 with ⟨c1, -⟩ | ⟨c1, e1, rfl⟩
    · exact absurd ⟨c1.1, c1.2.1⟩ hc
    · rcases p2 with ⟨c2, -⟩ | ⟨c2, e2, rfl⟩
      · exact absurd ⟨c2.1, c2.2.1⟩ hc
      · exact ⟨hr, by omega⟩
theorem rel_bottle {M M1 M2 : xMm} {r1 r2 z y : Int} (hx : IX M) (hy : IY M) (hr : REL M) (hf1 : ∀ a, 172 ≤ a → M1 a = M a) (p1 : ((0 ≤ z ∧ z < 4 ∧ 1 ≤ y ∧ y ≤ M (96 + z.toNat) 0 ∧ M 1 13 < 40) ∧ r1 = M 1 13 ∧ ∃ Mt, (Mt = if M (96 + z.toNat) 0 - y = 0 then mu (mu (mu (mu (mu M (101 + (M 1 13).toNat) 0 y) (101 + (M 1 13).toNat) 1 (M (96 + z.toNat) 1)) (101 + (M 1 13).toNat) 2 (M 1 16)) (96 + z.toNat) 0 (M (96 + z.toNat) 0 - y)) (96 + z.toNat) 1 0 else mu (mu (mu (mu M (101 + (M 1 13).toNat) 0 y) (101 + (M 1 13).toNat) 1 (M (96 + z.toNat) 1)) (101 + (M 1 13).toNat) 2 (M 1 16)) (96 + z.toNat) 0 (M (96 + z.toNat) 0 - y)) ∧ M1 = mu Mt 1 13 (M 1 13 + 1)) ∨ (¬ (0 ≤ z ∧ z < 4 ∧ 1 ≤ y ∧ y ≤ M (96 + z.toNat) 0 ∧ M 1 13 < 40) ∧ r1 = -1 ∧ M1 = M)) (p2 : ((0 ≤ z ∧ z < 4 ∧ 1 ≤ y ∧ y ≤ M1 201 z.toNat ∧ M1 172 56 < 40) ∧ r2 = M1 172 56 ∧ M2 = if (M1 201 z.toNat - y) = 0 then mu (mu (mu (mu (mu (mu M1 203 (M1 172 56).toNat y) 204 (M1 172 56).toNat (M1 202 z.toNat)) 205 (M1 172 56).toNat (M1 172 55)) 172 56 (M1 172 56 + 1)) 201 z.toNat (M1 201 z.toNat - y)) 202 z.toNat 0 else mu (mu (mu (mu (mu M1 203 (M1 172 56).toNat y) 204 (M1 172 56).toNat (M1 202 z.toNat)) 205 (M1 172 56).toNat (M1 172 55)) 172 56 (M1 172 56 + 1)) 201 z.toNat (M1 201 z.toNat - y)) ∨ (¬ (0 ≤ z ∧ z < 4 ∧ 1 ≤ y ∧ y ≤ M1 201 z.toNat ∧ M1 172 56 < 40) ∧ r2 = -1 ∧ M2 = M1)) : REL M2 := (rs_bottle hx hy hr hf1 p1 p2).1
theorem same_bottle {M M1 M2 : xMm} {r1 r2 z y : Int} (hx : IX M) (hy : IY M) (hr : REL M) (hf1 : ∀ a, 172 ≤ a → M1 a = M a) (p1 : ((0 ≤ z ∧ z < 4 ∧ 1 ≤ y ∧ y ≤ M (96 + z.toNat) 0 ∧ M 1 13 < 40) ∧ r1 = M 1 13 ∧ ∃ Mt, (Mt = if M (96 + z.toNat) 0 - y = 0 then mu (mu (mu (mu (mu M (101 + (M 1 13).toNat) 0 y) (101 + (M 1 13).toNat) 1 (M (96 + z.toNat) 1)) (101 + (M 1 13).toNat) 2 (M 1 16)) (96 + z.toNat) 0 (M (96 + z.toNat) 0 - y)) (96 + z.toNat) 1 0 else mu (mu (mu (mu M (101 + (M 1 13).toNat) 0 y) (101 + (M 1 13).toNat) 1 (M (96 + z.toNat) 1)) (101 + (M 1 13).toNat) 2 (M 1 16)) (96 + z.toNat) 0 (M (96 + z.toNat) 0 - y)) ∧ M1 = mu Mt 1 13 (M 1 13 + 1)) ∨ (¬ (0 ≤ z ∧ z < 4 ∧ 1 ≤ y ∧ y ≤ M (96 + z.toNat) 0 ∧ M 1 13 < 40) ∧ r1 = -1 ∧ M1 = M)) (p2 : ((0 ≤ z ∧ z < 4 ∧ 1 ≤ y ∧ y ≤ M1 201 z.toNat ∧ M1 172 56 < 40) ∧ r2 = M1 172 56 ∧ M2 = if (M1 201 z.toNat - y) = 0 then mu (mu (mu (mu (mu (mu M1 203 (M1 172 56).toNat y) 204 (M1 172 56).toNat (M1 202 z.toNat)) 205 (M1 172 56).toNat (M1 172 55)) 172 56 (M1 172 56 + 1)) 201 z.toNat (M1 201 z.toNat - y)) 202 z.toNat 0 else mu (mu (mu (mu (mu M1 203 (M1 172 56).toNat y) 204 (M1 172 56).toNat (M1 202 z.toNat)) 205 (M1 172 56).toNat (M1 172 55)) 172 56 (M1 172 56 + 1)) 201 z.toNat (M1 201 z.toNat - y)) ∨ (¬ (0 ≤ z ∧ z < 4 ∧ 1 ≤ y ∧ y ≤ M1 201 z.toNat ∧ M1 172 56 < 40) ∧ r2 = -1 ∧ M2 = M1)) : r1 = r2 ∧ inR r1 := (rs_bottle hx hy hr hf1 p1 p2).2
theorem REL_start {M4 M12 : xMm} (e4 : ∀ a, a ≠ 60 → a ≠ 61 → a ≠ 62 → M4 a = m0c a) (q12 : M12 = wM (mu (mu M4 172 5 (-1)) 172 24 1000) 182 24) : REL M12 := by
  have ea : ∀ a f, a ≠ 172 → a ≠ 182 → M12 a f = M4 a f := fun a f h1 h2 => by rw [q12, wM_n h2, mu_nc h1, mu_nc h1]
  have eb : ∀ f, f ≠ 5 → f ≠ 24 → M12 172 f = M4 172 f := fun f h1 h2 => by rw [q12, wM_n (by decide), mu_nf h2, mu_nf h1]
  have z4 : ∀ a, 172 ≤ a → ∀ f, M4 a f = 0 := fun a ha f => by
    rw [e4 a (by omega) (by omega) (by omega)]
    unfold m0c
    rw [if_neg (by omega), if_neg (by omega), if_neg (by omega), if_neg (by omega), if_neg (by omega)]
  have c1 : ∀ f, f ≠ 7 → f ≠ 8 → M12 1 f = 0 := fun f h7 h8 => by
    rw [ea 1 f (by decide) (by decide), e4 1 (by decide) (by decide) (by decide)]
    unfold m0c
    rw [if_pos rfl, if_neg h7, if_neg h8]
  have cz : ∀ a f, 85 ≤ a → a ≤ 171 → ¬ (85 ≤ a ∧ a ≤ 94 ∧ f = 4) → ¬ (142 ≤ a ∧ f = 3) → M12 a f = 0 := fun a f h1 h2 h3 h4 => by
    rw [ea a f (by omega) (by omega), e4 a (by omega) (by omega) (by omega)]
    unfold m0c
    rw [if_neg (by omega), if_neg (by omega), if_neg (by omega), if_neg h3, if_neg (by omega)]
  have yz : ∀ a f, 183 ≤ a → M12 a f = 0 := fun a f h => by rw [ea a f (by omega) (by omega)]; exact z4 a (by omega) f
  refine ⟨?_, fun c hc => ?_, fun t ht => ?_, fun k hk => ?_, fun k hk => ?_, fun k hk => ?_, fun s hs => ?_⟩
  · rw [eb 30 (by decide) (by decide), eb 56 (by decide) (by decide), eb 57 (by decide) (by decide), eb 55 (by decide) (by decide), z4 172 (by decide), z4 172 (by decide), z4 172 (by decide), z4 172 (by decide), c1 10 (by decide) (by decide), c1 13 (by decide) (by decide), c1 15 (by decide) (by decide), c1 16 (by decide) (by decide)]
    decide
  · unfold relB
    rw [yz 186 c (by decide), yz 187 c (by decide), yz 188 c (by decide), yz 189 c (by decide), cz (85 + c) 0 (by omega) (by omega) (by omega) (by omega), cz (85 + c) 1 (by omega) (by omega) (by omega) (by omega), cz (85 + c) 2 (by omega) (by omega) (by omega) (by omega), cz (85 + c) 3 (by omega) (by omega) (by omega) (by omega), c1 10 (by decide) (by decide)]
    refine ⟨⟨rfl, rfl, rfl, rfl⟩, fun h => by omega, fun _ => ?_⟩
    rw [ea (85 + c) 4 (by omega) (by omega), e4 (85 + c) (by omega) (by omega) (by omega)]
    unfold m0c
    rw [if_neg (by omega), if_neg (by omega), if_neg (by omega), if_pos (by omega)]
  · rw [yz 201 t (by decide), yz 202 t (by decide), cz (96 + t) 0 (by omega) (by omega) (by omega) (by omega), cz (96 + t) 1 (by omega) (by omega) (by omega) (by omega)]
    exact ⟨rfl, rfl⟩
  · rw [yz 203 k (by decide), yz 204 k (by decide), yz 205 k (by decide), cz (101 + k) 0 (by omega) (by omega) (by omega) (by omega), cz (101 + k) 1 (by omega) (by omega) (by omega) (by omega), cz (101 + k) 2 (by omega) (by omega) (by omega) (by omega)]
    exact ⟨rfl, rfl, rfl⟩
  · unfold relF
    rw [yz 206 k (by decide), yz 207 k (by decide), yz 208 k (by decide), cz (142 + k) 0 (by omega) (by omega) (by omega) (by omega), cz (142 + k) 1 (by omega) (by omega) (by omega) (by omega), cz (142 + k) 2 (by omega) (by omega) (by omega) (by omega), c1 15 (by decide) (by decide)]
    refine ⟨⟨rfl, rfl, rfl⟩, fun h => by omega, fun _ => ?_⟩
    rw [ea (142 + k) 3 (by omega) (by omega), e4 (142 + k) (by omega) (by omega) (by omega)]
    unfold m0c
    rw [if_neg (by omega), if_neg (by omega), if_neg (by omega), if_neg (by omega), if_pos (by omega)]
  · rw [ea 58 k (by decide) (by decide), e4 58 (by decide) (by decide) (by decide), q12]
    unfold wM m0c
    rw [if_pos ⟨rfl, hk⟩, if_neg (by omega), if_neg (by omega), if_pos ⟨rfl, hk⟩]
  · rw [yz 185 s (by decide), ea 59 s (by decide) (by decide), e4 59 (by decide) (by decide) (by decide)]
    unfold m0c
    rw [if_neg (by omega), if_neg (by omega), if_neg (by omega), if_neg (by omega), if_neg (by omega)]
