/-! ===== the model's climate, tape and rails ===== -/
theorem wOf_min {M : xMm} {a h h' : Nat} (e : min h 23 = min h' 23) : wOf M a h = wOf M a h' := by simp only [wOf, e]
theorem rate_min {M : xMm} {a h h' : Nat} (e : min h 23 = min h' 23) : rate M a h = rate M a h' := by simp only [rate, wOf_min e]
/-- the model's climate -/
def MC (M : xMm) : Prop := ITo M 182 ∧ (∀ s, s < 10 → 0 ≤ M 185 s ∧ M 185 s ≤ 1) ∧ M 183 0 = 0 ∧ M 184 0 = 0
def wSo (M : xMm) (z y : Int) : Int := if 0 ≤ y ∧ y < 10 ∧ M 185 y.toNat ≠ 0 then rate M 182 (z / 60).toNat / 4 else rate M 182 (z / 60).toNat
/-- the sums of the souring, minute by minute -/
def MS (M : xMm) : Prop := M 183 0 = 0 ∧ M 184 0 = 0 ∧ ∀ m, m < 1740 → (M 183 m ≤ M 183 (m + 1) ∧ M 183 (m + 1) ≤ M 183 m + 36) ∧ (M 184 m ≤ M 184 (m + 1) ∧ M 184 (m + 1) ≤ M 184 m + 36)
theorem MS_mono {M : xMm} (h : MS M) {i : Nat} : ∀ d, i + d ≤ 1740 → (M 183 i ≤ M 183 (i + d) ∧ M 183 (i + d) ≤ M 183 i + 36 * d) ∧ (M 184 i ≤ M 184 (i + d) ∧ M 184 (i + d) ≤ M 184 i + 36 * d)
  | 0, _ => by simp
  | d + 1, hd => by
    have ih := MS_mono h (i := i) d (by omega)
    have h1 := h.2.2 (i + d) (by omega)
    rw [show i + (d + 1) = i + d + 1 by omega]
    omega
theorem MS_le {M : xMm} (h : MS M) {i j : Nat} (hij : i ≤ j) (hj : j ≤ 1740) : (M 183 i ≤ M 183 j ∧ M 183 j ≤ M 183 i + 36 * (j - i)) ∧ (M 184 i ≤ M 184 j ∧ M 184 j ≤ M 184 i + 36 * (j - i)) := by
  have h1 := MS_mono h (i := i) (j - i) (by omega)
  rw [show i + (j - i) = j by omega] at h1
  omega
theorem MS_bd {M : xMm} (h : MS M) {j : Nat} (hj : j ≤ 1740) : (0 ≤ M 183 j ∧ M 183 j ≤ 62640) ∧ (0 ≤ M 184 j ∧ M 184 j ≤ 62640) := by
  have h1 := MS_le h (Nat.zero_le j) hj
  have h2 := h.1
  have h3 := h.2.1
  omega
def wt (M : xMm) (s x y : Int) : Int := if M 185 s.toNat ≠ 0 then M 184 y.toNat - M 184 x.toNat else M 183 y.toNat - M 183 x.toNat
theorem wt_bd {M : xMm} (h : MS M) {s x y : Int} (hx : 0 ≤ x) (hxy : x ≤ y) (hy : y ≤ 1740) : 0 ≤ wt M s x y ∧ wt M s x y ≤ 36 * (y - x) := by
  have h1 := MS_le h (i := x.toNat) (j := y.toNat) (by omega) (by omega)
  unfold wt
  split <;> omega
/-- the model's tape: how much, bytes of both rows -/
def MT (M : xMm) : Prop := (0 ≤ M 172 2 ∧ M 172 2 ≤ 1000) ∧ (∀ j, -128 ≤ M 173 j ∧ M 173 j ≤ 127) ∧ ∀ j, -128 ≤ M 174 j ∧ M 174 j ≤ 127
/-- the model's rails: the bank in use, the trains of both -/
def MR (M : xMm) : Prop := (0 ≤ M 172 18 ∧ M 172 18 ≤ 1) ∧ (∀ k, k < 2 → 0 ≤ M 180 k ∧ M 180 k ≤ 8) ∧ (∀ t, t < 8 → 0 ≤ M 181 t ∧ M 181 t ≤ 300)
  ∧ (∀ t, t < 16 → (0 ≤ M 177 t ∧ M 177 t ≤ 8) ∧ (0 ≤ M 176 t ∧ M 176 t ≤ 9999) ∧ inL (M 175 t)) ∧ (∀ j, j < 128 → (0 ≤ M 178 j ∧ M 178 j ≤ 9) ∧ (0 ≤ M 179 j ∧ M 179 j ≤ 1439))
  ∧ ∀ t k : Nat, t < 16 → (k : Int) + 1 < M 177 t → M 179 (8 * t + k) < M 179 (8 * t + k + 1)
abbrev mSt (M : xMm) (t k : Int) : Int := M 178 (8 * (8 * M 172 18 + t) + k).toNat
abbrev mMi (M : xMm) (t k : Int) : Int := M 179 (8 * (8 * M 172 18 + t) + k).toNat + M 181 t.toNat
abbrev mSs (M : xMm) (t : Int) : Int := M 177 (8 * M 172 18 + t).toNat
abbrev mMa (M : xMm) : Int := M 180 (M 172 18).toNat
theorem MR_use {M : xMm} (h : MR M) {t : Int} (h0 : 0 ≤ t) (h8 : t < 8) : (0 ≤ M 172 18 ∧ M 172 18 ≤ 1) ∧ (0 ≤ mMa M ∧ mMa M ≤ 8) ∧ (0 ≤ mSs M t ∧ mSs M t ≤ 8) ∧ (0 ≤ M 176 (8 * M 172 18 + t).toNat ∧ M 176 (8 * M 172 18 + t).toNat ≤ 9999) ∧ ∀ k : Int, 0 ≤ k → k < 8 → (0 ≤ mSt M t k ∧ mSt M t k ≤ 9) ∧ (0 ≤ mMi M t k ∧ mMi M t k ≤ 1739) := by
  obtain ⟨h1, h2, h3, h4, h5, h6⟩ := h
  have a1 := h2 (M 172 18).toNat (by omega)
  have a2 := h4 (8 * M 172 18 + t).toNat (by omega)
  refine ⟨h1, a1, a2.1, a2.2.1, fun k hk0 hk8 => ?_⟩
  have a3 := h5 (8 * (8 * M 172 18 + t) + k).toNat (by omega)
  have a4 := h3 t.toNat (by omega)
  unfold mSt mMi
  omega
theorem MR_many {M : xMm} (h : MR M) : (0 ≤ M 172 18 ∧ M 172 18 ≤ 1) ∧ (0 ≤ mMa M ∧ mMa M ≤ 8) := ⟨h.1, h.2.1 (M 172 18).toNat (by have := h.1; omega)⟩
theorem MR_up {M : xMm} (h : MR M) {t k : Int} (h0 : 0 ≤ t) (h8 : t < 8) (hk : 0 ≤ k) : ∀ d : Nat, 0 < d → k + d < mSs M t → mMi M t k < mMi M t (k + d)
  | 0, hd, _ => by omega
  | 1, _, h1 => by
    obtain ⟨b1, -, -, -, -, h6⟩ := h
    have := h6 (8 * M 172 18 + t).toNat k.toNat (by omega) (by unfold mSs at h1; omega)
    unfold mMi
    rw [show (8 * (8 * M 172 18 + t) + k).toNat = 8 * (8 * M 172 18 + t).toNat + k.toNat by omega, show (8 * (8 * M 172 18 + t) + (k + ((1 : Nat) : Int))).toNat = 8 * (8 * M 172 18 + t).toNat + k.toNat + 1 by omega]
    omega
  | d + 2, _, h1 => by
    have ih := MR_up h (k := k) h0 h8 hk (d + 1) (by omega) (by omega)
    have ih2 := MR_up h (k := k + (d + 1 : Nat)) h0 h8 (by omega) 1 (by omega) (by omega)
    rw [show k + ((d + 2 : Nat) : Int) = k + ((d + 1 : Nat) : Int) + ((1 : Nat) : Int) by omega]
    omega
theorem MR_lt {M : xMm} (h : MR M) {t k j : Int} (h0 : 0 ≤ t) (h8 : t < 8) (hk : 0 ≤ k) (hkj : k < j) (hj : j < mSs M t) : mMi M t k < mMi M t j := by
  have := MR_up h (k := k) h0 h8 hk (j - k).toNat (by omega) (by omega)
  rw [show k + ((j - k).toNat : Int) = j by omega] at this
  exact this

theorem dX12_warmthOf_0 : decode cX12_warmthOf 0 = .ok (.iload_n 1, 1) := by decide +kernel
theorem dX12_warmthOf_1 : decode cX12_warmthOf 1 = .ok (.istore_n 2, 1) := by decide +kernel
theorem dX12_warmthOf_2 : decode cX12_warmthOf 2 = .ok (.iload_n 1, 1) := by decide +kernel
theorem dX12_warmthOf_3 : decode cX12_warmthOf 3 = .ok (.istore_n 3, 1) := by decide +kernel
theorem dX12_warmthOf_4 : decode cX12_warmthOf 4 = .ok (.iload_n 2, 1) := by decide +kernel
theorem dX12_warmthOf_5 : decode cX12_warmthOf 5 = .ok (.ifCond .lt 18, 3) := by decide +kernel
theorem dX12_warmthOf_8 : decode cX12_warmthOf 8 = .ok (.aload_n 0, 1) := by decide +kernel
theorem dX12_warmthOf_9 : decode cX12_warmthOf 9 = .ok (.getfield 139, 3) := by decide +kernel
theorem dX12_warmthOf_12 : decode cX12_warmthOf 12 = .ok (.iload_n 2, 1) := by decide +kernel
theorem dX12_warmthOf_13 : decode cX12_warmthOf 13 = .ok (.iaload, 1) := by decide +kernel
theorem dX12_warmthOf_14 : decode cX12_warmthOf 14 = .ok (.ifCond .ge 9, 3) := by decide +kernel
theorem dX12_warmthOf_17 : decode cX12_warmthOf 17 = .ok (.iinc 2 (-1), 3) := by decide +kernel
theorem dX12_warmthOf_20 : decode cX12_warmthOf 20 = .ok (.goto (-16), 3) := by decide +kernel
theorem dX12_warmthOf_23 : decode cX12_warmthOf 23 = .ok (.iload_n 3, 1) := by decide +kernel
theorem dX12_warmthOf_24 : decode cX12_warmthOf 24 = .ok (.bipush 24, 2) := by decide +kernel
theorem dX12_warmthOf_26 : decode cX12_warmthOf 26 = .ok (.if_icmp .ge 18, 3) := by decide +kernel
theorem dX12_warmthOf_29 : decode cX12_warmthOf 29 = .ok (.aload_n 0, 1) := by decide +kernel
theorem dX12_warmthOf_30 : decode cX12_warmthOf 30 = .ok (.getfield 139, 3) := by decide +kernel
theorem dX12_warmthOf_33 : decode cX12_warmthOf 33 = .ok (.iload_n 3, 1) := by decide +kernel
theorem dX12_warmthOf_34 : decode cX12_warmthOf 34 = .ok (.iaload, 1) := by decide +kernel
theorem dX12_warmthOf_35 : decode cX12_warmthOf 35 = .ok (.ifCond .ge 9, 3) := by decide +kernel
theorem dX12_warmthOf_38 : decode cX12_warmthOf 38 = .ok (.iinc 3 1, 3) := by decide +kernel
theorem dX12_warmthOf_41 : decode cX12_warmthOf 41 = .ok (.goto (-18), 3) := by decide +kernel
theorem dX12_warmthOf_44 : decode cX12_warmthOf 44 = .ok (.iload_n 2, 1) := by decide +kernel
theorem dX12_warmthOf_45 : decode cX12_warmthOf 45 = .ok (.ifCond .ge 21, 3) := by decide +kernel
theorem dX12_warmthOf_48 : decode cX12_warmthOf 48 = .ok (.iload_n 3, 1) := by decide +kernel
theorem dX12_warmthOf_49 : decode cX12_warmthOf 49 = .ok (.bipush 24, 2) := by decide +kernel
theorem dX12_warmthOf_51 : decode cX12_warmthOf 51 = .ok (.if_icmp .ne 8, 3) := by decide +kernel
theorem dX12_warmthOf_54 : decode cX12_warmthOf 54 = .ok (.bipush 10, 2) := by decide +kernel
theorem dX12_warmthOf_56 : decode cX12_warmthOf 56 = .ok (.goto 9, 3) := by decide +kernel
theorem dX12_warmthOf_59 : decode cX12_warmthOf 59 = .ok (.aload_n 0, 1) := by decide +kernel
theorem dX12_warmthOf_60 : decode cX12_warmthOf 60 = .ok (.getfield 139, 3) := by decide +kernel
theorem dX12_warmthOf_63 : decode cX12_warmthOf 63 = .ok (.iload_n 3, 1) := by decide +kernel
theorem dX12_warmthOf_64 : decode cX12_warmthOf 64 = .ok (.iaload, 1) := by decide +kernel
theorem dX12_warmthOf_65 : decode cX12_warmthOf 65 = .ok (.ireturn, 1) := by decide +kernel
theorem dX12_warmthOf_66 : decode cX12_warmthOf 66 = .ok (.iload_n 3, 1) := by decide +kernel
theorem dX12_warmthOf_67 : decode cX12_warmthOf 67 = .ok (.bipush 24, 2) := by decide +kernel
theorem dX12_warmthOf_69 : decode cX12_warmthOf 69 = .ok (.if_icmp .ne 12, 3) := by decide +kernel
theorem dX12_warmthOf_72 : decode cX12_warmthOf 72 = .ok (.aload_n 0, 1) := by decide +kernel
theorem dX12_warmthOf_73 : decode cX12_warmthOf 73 = .ok (.getfield 139, 3) := by decide +kernel
theorem dX12_warmthOf_76 : decode cX12_warmthOf 76 = .ok (.iload_n 2, 1) := by decide +kernel
theorem dX12_warmthOf_77 : decode cX12_warmthOf 77 = .ok (.iaload, 1) := by decide +kernel
theorem dX12_warmthOf_78 : decode cX12_warmthOf 78 = .ok (.goto 18, 3) := by decide +kernel
theorem dX12_warmthOf_81 : decode cX12_warmthOf 81 = .ok (.aload_n 0, 1) := by decide +kernel
theorem dX12_warmthOf_82 : decode cX12_warmthOf 82 = .ok (.getfield 139, 3) := by decide +kernel
theorem dX12_warmthOf_85 : decode cX12_warmthOf 85 = .ok (.iload_n 2, 1) := by decide +kernel
theorem dX12_warmthOf_86 : decode cX12_warmthOf 86 = .ok (.iaload, 1) := by decide +kernel
theorem dX12_warmthOf_87 : decode cX12_warmthOf 87 = .ok (.aload_n 0, 1) := by decide +kernel
theorem dX12_warmthOf_88 : decode cX12_warmthOf 88 = .ok (.getfield 139, 3) := by decide +kernel
theorem dX12_warmthOf_91 : decode cX12_warmthOf 91 = .ok (.iload_n 3, 1) := by decide +kernel
theorem dX12_warmthOf_92 : decode cX12_warmthOf 92 = .ok (.iaload, 1) := by decide +kernel
theorem dX12_warmthOf_93 : decode cX12_warmthOf 93 = .ok (.iadd, 1) := by decide +kernel
theorem dX12_warmthOf_94 : decode cX12_warmthOf 94 = .ok (.iconst 2, 1) := by decide +kernel
theorem dX12_warmthOf_95 : decode cX12_warmthOf 95 = .ok (.idiv, 1) := by decide +kernel
theorem dX12_warmthOf_96 : decode cX12_warmthOf 96 = .ok (.ireturn, 1) := by decide +kernel
set_option maxHeartbeats 4000000 in
set_option maxRecDepth 20000 in
theorem c_X12_warmthOf (l : Launch) (b : Nat) (D : va_G) (cy : Nat → ClassId) {tt : Nat} {M : xMm} {z : Int} (hT : ITo M 182) (hz : 0 ≤ z ∧ z ≤ 23) : xC l b D cy yX12_warmthOf cX12_warmthOf 4 (some .int) ({ frames := 0, cells := 0, slots := 0, locals := 0 }) [xr 172, xi z] 209 M (RS tt) (xPi 209 (RS tt) (fun r M' => M' = M ∧ r = wOf M 182 z.toNat)) := by
  refine x_met (by decide) (Nat.le_of_ble_eq_true rfl) (fun g hg hr he => ?_)
  refine x_canon (ls' := [(0, _), (1, _)]) rfl ?_
  have hA := wAc_le hT (z.toNat + 1) (by omega)
  have hB := wBc_le hT (24 - z.toNat) (by omega)
  have j44 : ∀ a c : Int, -1 ≤ a → (a < 0 ∧ wAc M 182 (z.toNat + 1) = -1 ∨ 0 ≤ a ∧ a ≤ 23 ∧ 0 ≤ M 182 a.toNat ∧ wAc M 182 (z.toNat + 1) = M 182 a.toNat) → (c = 24 ∧ wBc M 182 (24 - z.toNat) = -1 ∨ 0 ≤ c ∧ c < 24 ∧ 0 ≤ M 182 c.toNat ∧ wBc M 182 (24 - z.toNat) = M 182 c.toNat) → xW g 209 M (RS tt) 0 0 44 [(0, xr 172), (1, xi z), (2, xi a), (3, xi c)] [] := by
    intro a c ha hfa hfb
    refine x_iload_n hg dX12_warmthOf_44 rfl ?_
    refine x_if_ge (tgt := 66) hg dX12_warmthOf_45 (by decide) (by omega) (fun c45 => ?_) (fun c45 => ?_)
    · skip
      refine x_iload_n hg dX12_warmthOf_66 rfl ?_
      refine x_bipush hg dX12_warmthOf_67 (by decide) ?_
      refine x_icmp_ne (tgt := 81) hg dX12_warmthOf_69 (by decide) (by omega) (by omega) (fun c69 => ?_) (fun c69 => ?_)
      · skip
        refine x_aload_n hg dX12_warmthOf_81 rfl ?_
        refine x_getR (j9 := 182) hg dX12_warmthOf_82 fl_X12_139 (by decide) rfl rfl (by decide) ?_
        refine x_iload_n hg dX12_warmthOf_85 rfl ?_
        refine x_iaload (len := 24) hg dX12_warmthOf_86 (by decide) (by omega) ?_
        refine x_aload_n hg dX12_warmthOf_87 rfl ?_
        refine x_getR (j9 := 182) hg dX12_warmthOf_88 fl_X12_139 (by decide) rfl rfl (by decide) ?_
        refine x_iload_n hg dX12_warmthOf_91 rfl ?_
        refine x_iaload (len := 24) hg dX12_warmthOf_92 (by decide) (by omega) ?_
        refine x_iadd hg dX12_warmthOf_93 ?_
        refine x_iconst hg dX12_warmthOf_94 ?_
        refine x_idiv hg dX12_warmthOf_95 (by have h1 := hT a.toNat (by omega); have h2 := hT c.toNat (by omega); omega) (by omega) ?_
        refine x_iret hg hr (Or.inl rfl) dX12_warmthOf_96 (Nat.le_refl _) (Nat.le_refl _) ?_
        refine ⟨rfl, rfl, _, rfl, rfl, ?_⟩
        unfold wOf
        rw [show min z.toNat 23 = z.toNat by omega]
        repeat (first | rw [if_pos (by omega)] | rw [if_neg (by omega)])
        all_goals (first | omega | (congr 1; omega))
      · skip
        refine x_aload_n hg dX12_warmthOf_72 rfl ?_
        refine x_getR (j9 := 182) hg dX12_warmthOf_73 fl_X12_139 (by decide) rfl rfl (by decide) ?_
        refine x_iload_n hg dX12_warmthOf_76 rfl ?_
        refine x_iaload (len := 24) hg dX12_warmthOf_77 (by decide) (by omega) ?_
        refine x_goto (tgt := 96) hg dX12_warmthOf_78 (by decide) ?_
        refine x_iret hg hr (Or.inl rfl) dX12_warmthOf_96 (Nat.le_refl _) (Nat.le_refl _) ?_
        refine ⟨rfl, rfl, _, rfl, rfl, ?_⟩
        unfold wOf
        rw [show min z.toNat 23 = z.toNat by omega]
        repeat (first | rw [if_pos (by omega)] | rw [if_neg (by omega)])
        all_goals (first | omega | (congr 1; omega))
    · skip
      refine x_iload_n hg dX12_warmthOf_48 rfl ?_
      refine x_bipush hg dX12_warmthOf_49 (by decide) ?_
      refine x_icmp_ne (tgt := 59) hg dX12_warmthOf_51 (by decide) (by omega) (by omega) (fun c51 => ?_) (fun c51 => ?_)
      · skip
        refine x_aload_n hg dX12_warmthOf_59 rfl ?_
        refine x_getR (j9 := 182) hg dX12_warmthOf_60 fl_X12_139 (by decide) rfl rfl (by decide) ?_
        refine x_iload_n hg dX12_warmthOf_63 rfl ?_
        refine x_iaload (len := 24) hg dX12_warmthOf_64 (by decide) (by omega) ?_
        refine x_iret hg hr (Or.inl rfl) dX12_warmthOf_65 (Nat.le_refl _) (Nat.le_refl _) ?_
        refine ⟨rfl, rfl, _, rfl, rfl, ?_⟩
        unfold wOf
        rw [show min z.toNat 23 = z.toNat by omega]
        repeat (first | rw [if_pos (by omega)] | rw [if_neg (by omega)])
        all_goals (first | omega | (congr 1; omega))
      · skip
        refine x_bipush hg dX12_warmthOf_54 (by decide) ?_
        refine x_goto (tgt := 65) hg dX12_warmthOf_56 (by decide) ?_
        refine x_iret hg hr (Or.inl rfl) dX12_warmthOf_65 (Nat.le_refl _) (Nat.le_refl _) ?_
        refine ⟨rfl, rfl, _, rfl, rfl, ?_⟩
        unfold wOf
        rw [show min z.toNat 23 = z.toNat by omega]
        repeat (first | rw [if_pos (by omega)] | rw [if_neg (by omega)])
        all_goals (first | omega | (congr 1; omega))
  have loop2 : ∀ (n1 : Nat) (a c : Int), -1 ≤ a → (a < 0 ∧ wAc M 182 (z.toNat + 1) = -1 ∨ 0 ≤ a ∧ a ≤ 23 ∧ 0 ≤ M 182 a.toNat ∧ wAc M 182 (z.toNat + 1) = M 182 a.toNat) → 0 ≤ c → c ≤ 24 → 24 - c < n1 → wBc M 182 (24 - z.toNat) = wBc M 182 (24 - c).toNat → xW g 209 M (RS tt) 0 0 23 [(0, xr 172), (1, xi z), (2, xi a), (3, xi c)] [] := by
    intro n1
    induction n1 with
    | zero => intro a c _ _ h1 h2 h3; exfalso; omega
    | succ n1 ih =>
      intro a c ha hfa hc1 hc2 hc3 hv
      refine x_iload_n hg dX12_warmthOf_23 rfl ?_
      refine x_bipush hg dX12_warmthOf_24 (by decide) ?_
      refine x_icmp_ge (tgt := 44) hg dX12_warmthOf_26 (by decide) (by omega) (by omega) (fun c26 => ?_) (fun c26 => ?_)
      · skip
        by_cases h24 : c = 24
        · exact j44 a c ha hfa (Or.inl ⟨by omega, by rw [hv, show (24 - c).toNat = 0 by omega]; rfl⟩)
        · skip
          have e8 : (24 - c).toNat = (24 - (c + 1)).toNat + 1 := by omega
          have e7 : 23 - (24 - (c + 1)).toNat = c.toNat := by omega
          have hv2 : wBc M 182 (24 - z.toNat) = (if M 182 c.toNat = -1 then wBc M 182 (24 - (c + 1)).toNat else M 182 c.toNat) := by
            rw [hv, e8]
            simp only [wBc, e7]
          have h1 := hT c.toNat (by omega)
          rw [if_neg (by omega)] at hv2
          exact j44 a c ha hfa (Or.inr ⟨by omega, by omega, by omega, hv2⟩)
      · skip
        refine x_aload_n hg dX12_warmthOf_29 rfl ?_
        refine x_getR (j9 := 182) hg dX12_warmthOf_30 fl_X12_139 (by decide) rfl rfl (by decide) ?_
        refine x_iload_n hg dX12_warmthOf_33 rfl ?_
        refine x_iaload (len := 24) hg dX12_warmthOf_34 (by decide) (by omega) ?_
        refine x_if_ge (tgt := 44) hg dX12_warmthOf_35 (by decide) (by have h1 := hT c.toNat (by omega); omega) (fun c35 => ?_) (fun c35 => ?_)
        · skip
          by_cases h24 : c = 24
          · exact j44 a c ha hfa (Or.inl ⟨by omega, by rw [hv, show (24 - c).toNat = 0 by omega]; rfl⟩)
          · skip
            have e8 : (24 - c).toNat = (24 - (c + 1)).toNat + 1 := by omega
            have e7 : 23 - (24 - (c + 1)).toNat = c.toNat := by omega
            have hv2 : wBc M 182 (24 - z.toNat) = (if M 182 c.toNat = -1 then wBc M 182 (24 - (c + 1)).toNat else M 182 c.toNat) := by
              rw [hv, e8]
              simp only [wBc, e7]
            have h1 := hT c.toNat (by omega)
            rw [if_neg (by omega)] at hv2
            exact j44 a c ha hfa (Or.inr ⟨by omega, by omega, by omega, hv2⟩)
        · skip
          refine x_iinc (ls' := [(0, _), (1, _), (2, _), (3, _)]) hg dX12_warmthOf_38 rfl (by decide) rfl ?_
          refine x_goto (tgt := 23) hg dX12_warmthOf_41 (by decide) ?_
          have e8 : (24 - c).toNat = (24 - (c + 1)).toNat + 1 := by omega
          have e7 : 23 - (24 - (c + 1)).toNat = c.toNat := by omega
          have hv2 : wBc M 182 (24 - z.toNat) = (if M 182 c.toNat = -1 then wBc M 182 (24 - (c + 1)).toNat else M 182 c.toNat) := by
            rw [hv, e8]
            simp only [wBc, e7]
          have h1 := hT c.toNat (by omega)
          rw [if_pos (by omega)] at hv2
          exact ih _ _ ha hfa (by omega) (by omega) (by omega) hv2
  have loop1 : ∀ (n1 : Nat) (a : Int), -1 ≤ a → a ≤ 23 → a + 1 < n1 → wAc M 182 (z.toNat + 1) = wAc M 182 (a + 1).toNat → xW g 209 M (RS tt) 0 0 4 [(0, xr 172), (1, xi z), (2, xi a), (3, xi z)] [] := by
    intro n1
    induction n1 with
    | zero => intro a h1 h2 h3; exfalso; omega
    | succ n1 ih =>
      intro a ha1 ha2 ha3 hv
      refine x_iload_n hg dX12_warmthOf_4 rfl ?_
      refine x_if_lt (tgt := 23) hg dX12_warmthOf_5 (by decide) (by omega) (fun c5 => ?_) (fun c5 => ?_)
      · skip
        by_cases h0 : a < 0
        · exact loop2 25 a z ha1 (Or.inl ⟨by omega, by rw [hv, show (a + 1).toNat = 0 by omega]; rfl⟩) (by omega) (by omega) (by omega) (by rw [show (24 - z).toNat = 24 - z.toNat by omega])
        · skip
          have e8 : (a + 1).toNat = a.toNat + 1 := by omega
          have hv2 : wAc M 182 (z.toNat + 1) = (if M 182 a.toNat = -1 then wAc M 182 a.toNat else M 182 a.toNat) := by
            rw [hv, e8]
            rfl
          have h1 := hT a.toNat (by omega)
          rw [if_neg (by omega)] at hv2
          exact loop2 25 a z ha1 (Or.inr ⟨by omega, by omega, by omega, hv2⟩) (by omega) (by omega) (by omega) (by rw [show (24 - z).toNat = 24 - z.toNat by omega])
      · skip
        refine x_aload_n hg dX12_warmthOf_8 rfl ?_
        refine x_getR (j9 := 182) hg dX12_warmthOf_9 fl_X12_139 (by decide) rfl rfl (by decide) ?_
        refine x_iload_n hg dX12_warmthOf_12 rfl ?_
        refine x_iaload (len := 24) hg dX12_warmthOf_13 (by decide) (by omega) ?_
        refine x_if_ge (tgt := 23) hg dX12_warmthOf_14 (by decide) (by have h1 := hT a.toNat (by omega); omega) (fun c14 => ?_) (fun c14 => ?_)
        · skip
          by_cases h0 : a < 0
          · exact loop2 25 a z ha1 (Or.inl ⟨by omega, by rw [hv, show (a + 1).toNat = 0 by omega]; rfl⟩) (by omega) (by omega) (by omega) (by rw [show (24 - z).toNat = 24 - z.toNat by omega])
          · skip
            have e8 : (a + 1).toNat = a.toNat + 1 := by omega
            have hv2 : wAc M 182 (z.toNat + 1) = (if M 182 a.toNat = -1 then wAc M 182 a.toNat else M 182 a.toNat) := by
              rw [hv, e8]
              rfl
            have h1 := hT a.toNat (by omega)
            rw [if_neg (by omega)] at hv2
            exact loop2 25 a z ha1 (Or.inr ⟨by omega, by omega, by omega, hv2⟩) (by omega) (by omega) (by omega) (by rw [show (24 - z).toNat = 24 - z.toNat by omega])
        · skip
          refine x_iinc (ls' := [(0, _), (1, _), (2, _), (3, _)]) hg dX12_warmthOf_17 rfl (by decide) rfl ?_
          refine x_goto (tgt := 4) hg dX12_warmthOf_20 (by decide) ?_
          have e8 : (a + 1).toNat = a.toNat + 1 := by omega
          have hv2 : wAc M 182 (z.toNat + 1) = (if M 182 a.toNat = -1 then wAc M 182 a.toNat else M 182 a.toNat) := by
            rw [hv, e8]
            rfl
          have h1 := hT a.toNat (by omega)
          rw [if_pos (by omega)] at hv2
          exact ih _ (by omega) (by omega) (by omega) (by rw [show (a + -1 + 1).toNat = a.toNat by omega]; exact hv2)
  refine x_iload_n hg dX12_warmthOf_0 rfl ?_
  refine x_istore_n (ls' := [(0, _), (1, _), (2, _)]) hg dX12_warmthOf_1 rfl (by decide) rfl ?_
  refine x_iload_n hg dX12_warmthOf_2 rfl ?_
  refine x_istore_n (ls' := [(0, _), (1, _), (2, _), (3, _)]) hg dX12_warmthOf_3 rfl (by decide) rfl ?_
  exact loop1 26 z (by omega) (by omega) (by omega) (by rw [show (z + 1).toNat = z.toNat + 1 by omega])

theorem dX12_aMinute_0 : decode cX12_aMinute 0 = .ok (.aload_n 0, 1) := by decide +kernel
theorem dX12_aMinute_1 : decode cX12_aMinute 1 = .ok (.iload_n 1, 1) := by decide +kernel
theorem dX12_aMinute_2 : decode cX12_aMinute 2 = .ok (.sipush 1440, 3) := by decide +kernel
theorem dX12_aMinute_5 : decode cX12_aMinute 5 = .ok (.if_icmp .ge 10, 3) := by decide +kernel
theorem dX12_aMinute_8 : decode cX12_aMinute 8 = .ok (.iload_n 1, 1) := by decide +kernel
theorem dX12_aMinute_9 : decode cX12_aMinute 9 = .ok (.bipush 60, 2) := by decide +kernel
theorem dX12_aMinute_11 : decode cX12_aMinute 11 = .ok (.idiv, 1) := by decide +kernel
theorem dX12_aMinute_12 : decode cX12_aMinute 12 = .ok (.goto 5, 3) := by decide +kernel
theorem dX12_aMinute_15 : decode cX12_aMinute 15 = .ok (.bipush 23, 2) := by decide +kernel
theorem dX12_aMinute_17 : decode cX12_aMinute 17 = .ok (.invokevirtual 227, 3) := by decide +kernel
theorem dX12_aMinute_20 : decode cX12_aMinute 20 = .ok (.iconst 4, 1) := by decide +kernel
theorem dX12_aMinute_21 : decode cX12_aMinute 21 = .ok (.isub, 1) := by decide +kernel
theorem dX12_aMinute_22 : decode cX12_aMinute 22 = .ok (.istore_n 2, 1) := by decide +kernel
theorem dX12_aMinute_23 : decode cX12_aMinute 23 = .ok (.iload_n 2, 1) := by decide +kernel
theorem dX12_aMinute_24 : decode cX12_aMinute 24 = .ok (.ifCond .ge 7, 3) := by decide +kernel
theorem dX12_aMinute_27 : decode cX12_aMinute 27 = .ok (.iconst 0, 1) := by decide +kernel
theorem dX12_aMinute_28 : decode cX12_aMinute 28 = .ok (.goto 4, 3) := by decide +kernel
theorem dX12_aMinute_31 : decode cX12_aMinute 31 = .ok (.iload_n 2, 1) := by decide +kernel
theorem dX12_aMinute_32 : decode cX12_aMinute 32 = .ok (.ireturn, 1) := by decide +kernel
set_option maxHeartbeats 4000000 in
set_option maxRecDepth 20000 in
theorem c_X12_aMinute (l : Launch) (b : Nat) (D : va_G) (cy : Nat → ClassId) {tt : Nat} {M : xMm} {z : Int} (hT : ITo M 182) (hz : 0 ≤ z ∧ z ≤ 1739) : xC l b D cy yX12_aMinute cX12_aMinute 3 (some .int) ({ frames := 1, cells := 0, slots := 0, locals := 23 }) [xr 172, xi z] 209 M (RS tt) (xPi 209 (RS tt) (fun r M' => M' = M ∧ r = rate M 182 (z / 60).toNat)) := by
  refine x_met (by decide) (Nat.le_of_ble_eq_true rfl) (fun g hg hr he => ?_)
  refine x_canon (ls' := [(0, _), (1, _)]) rfl ?_
  have hw := wOf_le hT (z / 60).toNat
  have j17 : ∀ h : Int, (0 ≤ h ∧ h ≤ 23) → min h.toNat 23 = min (z / 60).toNat 23 → xW g 209 M (RS tt) 0 0 17 [(0, xr 172), (1, xi z)] [xi h, xr 172] := by
    intro h hh hm
    refine x_cVi hg he [_] [] dX12_aMinute_17 mv_X12_227 (c_X12_warmthOf l b D cy hT (by omega)) (by decide) rfl rfl (Nat.le_of_ble_eq_true rfl) (by decide) (by decide) (fun r17 M17 q17 => ?_)
    obtain ⟨h17, e17⟩ := q17
    replace h17 := h17.symm
    subst h17
    rw [wOf_min hm] at e17
    refine x_iconst hg dX12_aMinute_20 ?_
    refine x_isub hg dX12_aMinute_21 ?_
    refine x_istore_n (ls' := [(0, _), (1, _), (2, _)]) hg dX12_aMinute_22 rfl (by decide) rfl ?_
    refine x_iload_n hg dX12_aMinute_23 rfl ?_
    refine x_if_ge (tgt := 31) hg dX12_aMinute_24 (by decide) (by omega) (fun c24 => ?_) (fun c24 => ?_)
    · skip
      refine x_iload_n hg dX12_aMinute_31 rfl ?_
      refine x_iret hg hr (Or.inl rfl) dX12_aMinute_32 (Nat.le_refl _) (Nat.le_refl _) ?_
      refine ⟨rfl, rfl, _, rfl, rfl, ?_⟩
      unfold rate
      first | rw [if_pos (by omega)] | (rw [if_neg (by omega)]; omega)
    · skip
      refine x_iconst hg dX12_aMinute_27 ?_
      refine x_goto (tgt := 32) hg dX12_aMinute_28 (by decide) ?_
      refine x_iret hg hr (Or.inl rfl) dX12_aMinute_32 (Nat.le_refl _) (Nat.le_refl _) ?_
      refine ⟨rfl, rfl, _, rfl, rfl, ?_⟩
      unfold rate
      first | rw [if_pos (by omega)] | (rw [if_neg (by omega)]; omega)
  refine x_aload_n hg dX12_aMinute_0 rfl ?_
  refine x_iload_n hg dX12_aMinute_1 rfl ?_
  refine x_sipush hg dX12_aMinute_2 (by decide) ?_
  refine x_icmp_ge (tgt := 15) hg dX12_aMinute_5 (by decide) (by omega) (by omega) (fun c5 => ?_) (fun c5 => ?_)
  · skip
    refine x_bipush hg dX12_aMinute_15 (by decide) ?_
    exact j17 _ (by omega) (by omega)
  · skip
    refine x_iload_n hg dX12_aMinute_8 rfl ?_
    refine x_bipush hg dX12_aMinute_9 (by decide) ?_
    refine x_idiv hg dX12_aMinute_11 (by omega) (by omega) ?_
    refine x_goto (tgt := 17) hg dX12_aMinute_12 (by decide) ?_
    exact j17 _ (by omega) (by omega)

theorem dX12_sumUp_0 : decode cX12_sumUp 0 = .ok (.iconst 0, 1) := by decide +kernel
theorem dX12_sumUp_1 : decode cX12_sumUp 1 = .ok (.istore_n 1, 1) := by decide +kernel
theorem dX12_sumUp_2 : decode cX12_sumUp 2 = .ok (.iload_n 1, 1) := by decide +kernel
theorem dX12_sumUp_3 : decode cX12_sumUp 3 = .ok (.sipush 1740, 3) := by decide +kernel
theorem dX12_sumUp_6 : decode cX12_sumUp 6 = .ok (.if_icmp .ge 49, 3) := by decide +kernel
theorem dX12_sumUp_9 : decode cX12_sumUp 9 = .ok (.aload_n 0, 1) := by decide +kernel
theorem dX12_sumUp_10 : decode cX12_sumUp 10 = .ok (.iload_n 1, 1) := by decide +kernel
theorem dX12_sumUp_11 : decode cX12_sumUp 11 = .ok (.invokevirtual 230, 3) := by decide +kernel
theorem dX12_sumUp_14 : decode cX12_sumUp 14 = .ok (.istore_n 2, 1) := by decide +kernel
theorem dX12_sumUp_15 : decode cX12_sumUp 15 = .ok (.aload_n 0, 1) := by decide +kernel
theorem dX12_sumUp_16 : decode cX12_sumUp 16 = .ok (.getfield 142, 3) := by decide +kernel
theorem dX12_sumUp_19 : decode cX12_sumUp 19 = .ok (.iload_n 1, 1) := by decide +kernel
theorem dX12_sumUp_20 : decode cX12_sumUp 20 = .ok (.iconst 1, 1) := by decide +kernel
theorem dX12_sumUp_21 : decode cX12_sumUp 21 = .ok (.iadd, 1) := by decide +kernel
theorem dX12_sumUp_22 : decode cX12_sumUp 22 = .ok (.aload_n 0, 1) := by decide +kernel
theorem dX12_sumUp_23 : decode cX12_sumUp 23 = .ok (.getfield 142, 3) := by decide +kernel
theorem dX12_sumUp_26 : decode cX12_sumUp 26 = .ok (.iload_n 1, 1) := by decide +kernel
theorem dX12_sumUp_27 : decode cX12_sumUp 27 = .ok (.iaload, 1) := by decide +kernel
theorem dX12_sumUp_28 : decode cX12_sumUp 28 = .ok (.iload_n 2, 1) := by decide +kernel
theorem dX12_sumUp_29 : decode cX12_sumUp 29 = .ok (.iadd, 1) := by decide +kernel
theorem dX12_sumUp_30 : decode cX12_sumUp 30 = .ok (.iastore, 1) := by decide +kernel
theorem dX12_sumUp_31 : decode cX12_sumUp 31 = .ok (.aload_n 0, 1) := by decide +kernel
theorem dX12_sumUp_32 : decode cX12_sumUp 32 = .ok (.getfield 145, 3) := by decide +kernel
theorem dX12_sumUp_35 : decode cX12_sumUp 35 = .ok (.iload_n 1, 1) := by decide +kernel
theorem dX12_sumUp_36 : decode cX12_sumUp 36 = .ok (.iconst 1, 1) := by decide +kernel
theorem dX12_sumUp_37 : decode cX12_sumUp 37 = .ok (.iadd, 1) := by decide +kernel
theorem dX12_sumUp_38 : decode cX12_sumUp 38 = .ok (.aload_n 0, 1) := by decide +kernel
theorem dX12_sumUp_39 : decode cX12_sumUp 39 = .ok (.getfield 145, 3) := by decide +kernel
theorem dX12_sumUp_42 : decode cX12_sumUp 42 = .ok (.iload_n 1, 1) := by decide +kernel
theorem dX12_sumUp_43 : decode cX12_sumUp 43 = .ok (.iaload, 1) := by decide +kernel
theorem dX12_sumUp_44 : decode cX12_sumUp 44 = .ok (.iload_n 2, 1) := by decide +kernel
theorem dX12_sumUp_45 : decode cX12_sumUp 45 = .ok (.iconst 4, 1) := by decide +kernel
theorem dX12_sumUp_46 : decode cX12_sumUp 46 = .ok (.idiv, 1) := by decide +kernel
theorem dX12_sumUp_47 : decode cX12_sumUp 47 = .ok (.iadd, 1) := by decide +kernel
theorem dX12_sumUp_48 : decode cX12_sumUp 48 = .ok (.iastore, 1) := by decide +kernel
theorem dX12_sumUp_49 : decode cX12_sumUp 49 = .ok (.iinc 1 1, 3) := by decide +kernel
theorem dX12_sumUp_52 : decode cX12_sumUp 52 = .ok (.goto (-50), 3) := by decide +kernel
theorem dX12_sumUp_55 : decode cX12_sumUp 55 = .ok (.return_, 1) := by decide +kernel
set_option maxHeartbeats 4000000 in
set_option maxRecDepth 20000 in
theorem c_X12_sumUp (l : Launch) (b : Nat) (D : va_G) (cy : Nat → ClassId) {tt : Nat} {M0 : xMm} (hMC : MC M0) : xC l b D cy yX12_sumUp cX12_sumUp 3 none ({ frames := 2, cells := 0, slots := 0, locals := 45 }) [xr 172] 209 M0 (RS tt) (xPv 209 (RS tt) (fun M' => MS M' ∧ ∀ a, a ≠ 183 → a ≠ 184 → M' a = M0 a)) := by
  refine x_met (by decide) (Nat.le_of_ble_eq_true rfl) (fun g hg hr he => ?_)
  refine x_canon (ls' := [(0, _)]) rfl ?_
  have loop : ∀ (n1 : Nat) (M : xMm) (i : Nat), i ≤ 1740 → 1740 < i + n1 → (∀ a, a ≠ 183 → a ≠ 184 → M a = M0 a) → (M 183 0 = 0 ∧ M 184 0 = 0 ∧ ∀ m, m < i → (M 183 m ≤ M 183 (m + 1) ∧ M 183 (m + 1) ≤ M 183 m + 36) ∧ (M 184 m ≤ M 184 (m + 1) ∧ M 184 (m + 1) ≤ M 184 m + 36)) → xW g 209 M (RS tt) 0 0 2 [(0, xr 172), (1, xi (i : Int))] [] := by
    intro n1
    induction n1 with
    | zero => intro M i h1 h2; exfalso; omega
    | succ n1 ih =>
      intro M i hi hn hf hs
      have e182 : M 182 = M0 182 := hf 182 (by decide) (by decide)
      have hT : ITo M 182 := fun k hk => by rw [e182]; exact hMC.1 k hk
      have hrt := rate_le hT ((i : Int) / 60).toNat
      refine x_iload_n hg dX12_sumUp_2 rfl ?_
      refine x_sipush hg dX12_sumUp_3 (by decide) ?_
      refine x_icmp_ge (tgt := 55) hg dX12_sumUp_6 (by decide) (by omega) (by omega) (fun c6 => ?_) (fun c6 => ?_)
      · skip
        refine x_vret hg hr dX12_sumUp_55 (Nat.le_refl _) (Nat.le_refl _) ?_
        exact ⟨rfl, rfl, rfl, ⟨hs.1, hs.2.1, fun m hm => hs.2.2 m (by omega)⟩, hf⟩
      · skip
        refine x_aload_n hg dX12_sumUp_9 rfl ?_
        refine x_iload_n hg dX12_sumUp_10 rfl ?_
        refine x_cVi hg he [_] [] dX12_sumUp_11 mv_X12_230 (c_X12_aMinute l b D cy hT (by omega)) (by decide) rfl rfl (Nat.le_of_ble_eq_true rfl) (by decide) (by decide) (fun r11 M11 q11 => ?_)
        obtain ⟨h11, e11⟩ := q11
        replace h11 := h11.symm
        subst h11
        refine x_istore_n (ls' := [(0, _), (1, _), (2, _)]) hg dX12_sumUp_14 rfl (by decide) rfl ?_
        refine x_aload_n hg dX12_sumUp_15 rfl ?_
        refine x_getR (j9 := 183) hg dX12_sumUp_16 fl_X12_142 (by decide) rfl rfl (by decide) ?_
        refine x_iload_n hg dX12_sumUp_19 rfl ?_
        refine x_iconst hg dX12_sumUp_20 ?_
        refine x_iadd hg dX12_sumUp_21 ?_
        refine x_aload_n hg dX12_sumUp_22 rfl ?_
        refine x_getR (j9 := 183) hg dX12_sumUp_23 fl_X12_142 (by decide) rfl rfl (by decide) ?_
        refine x_iload_n hg dX12_sumUp_26 rfl ?_
        refine x_iaload (len := 1741) hg dX12_sumUp_27 (by decide) (by omega) ?_
        refine x_iload_n hg dX12_sumUp_28 rfl ?_
        refine x_iadd hg dX12_sumUp_29 ?_
        refine x_iastore (len := 1741) hg dX12_sumUp_30 (by decide) (by omega)  ?_
        refine x_aload_n hg dX12_sumUp_31 rfl ?_
        refine x_getR (j9 := 184) hg dX12_sumUp_32 fl_X12_145 (by decide) rfl rfl (by decide) ?_
        refine x_iload_n hg dX12_sumUp_35 rfl ?_
        refine x_iconst hg dX12_sumUp_36 ?_
        refine x_iadd hg dX12_sumUp_37 ?_
        refine x_aload_n hg dX12_sumUp_38 rfl ?_
        refine x_getR (j9 := 184) hg dX12_sumUp_39 fl_X12_145 (by decide) rfl rfl (by decide) ?_
        refine x_iload_n hg dX12_sumUp_42 rfl ?_
        refine x_iaload (len := 1741) hg dX12_sumUp_43 (by decide) (by omega) ?_
        try simp (disch := omega) only [mu_s, mu_nf, mu_nc]
        refine x_iload_n hg dX12_sumUp_44 rfl ?_
        refine x_iconst hg dX12_sumUp_45 ?_
        refine x_idiv hg dX12_sumUp_46 (by omega) (by omega) ?_
        refine x_iadd hg dX12_sumUp_47 ?_
        refine x_iastore (len := 1741) hg dX12_sumUp_48 (by decide) (by omega)  ?_
        refine x_iinc (ls' := [(0, _), (1, _), (2, _)]) hg dX12_sumUp_49 rfl (by decide) rfl ?_
        refine x_goto (tgt := 2) hg dX12_sumUp_52 (by decide) ?_
        refine x_canon (ls' := [(0, _), (1, _)]) rfl ?_
        refine ih _ (i + 1) (by omega) (by omega) (fun a h1 h2 => ?_) ⟨?_, ?_, fun m hm => ?_⟩
        · rw [← hf a h1 h2]; funext c; rw [mu_nc h2, mu_nc h1]
        · rw [mu_nc (by decide), mu_nf (by omega)]; exact hs.1
        · rw [mu_nf (by omega), mu_nc (by decide)]; exact hs.2.1
        · have e1 : ((i : Int) + 1).toNat = i + 1 := by omega
          simp only [e1, Int.toNat_natCast]
          by_cases hmi : m = i
          · subst hmi
            simp only [mu_s, mu_nc (show (183 : Nat) ≠ 184 by decide), mu_nc (show (184 : Nat) ≠ 183 by decide), mu_nf (show m ≠ m + 1 by omega)]
            omega
          · have h9 := hs.2.2 m (by omega)
            simp only [mu_nc (show (183 : Nat) ≠ 184 by decide), mu_nc (show (184 : Nat) ≠ 183 by decide), mu_nf (show m ≠ i + 1 by omega), mu_nf (show m + 1 ≠ i + 1 by omega)]
            exact h9
  refine x_iconst hg dX12_sumUp_0 ?_
  refine x_istore_n (ls' := [(0, _), (1, _)]) hg dX12_sumUp_1 rfl (by decide) rfl ?_
  exact loop 1741 M0 0 (by omega) (by omega) (fun a _ _ => rfl) ⟨hMC.2.2.1, hMC.2.2.2, fun m hm => absurd hm (by omega)⟩

theorem dX12_sours_0 : decode cX12_sours 0 = .ok (.iload_n 1, 1) := by decide +kernel
theorem dX12_sours_1 : decode cX12_sours 1 = .ok (.ifCond .lt 21, 3) := by decide +kernel
theorem dX12_sours_4 : decode cX12_sours 4 = .ok (.iload_n 1, 1) := by decide +kernel
theorem dX12_sours_5 : decode cX12_sours 5 = .ok (.sipush 1740, 3) := by decide +kernel
theorem dX12_sours_8 : decode cX12_sours 8 = .ok (.if_icmp .ge 14, 3) := by decide +kernel
theorem dX12_sours_11 : decode cX12_sours 11 = .ok (.iload_n 2, 1) := by decide +kernel
theorem dX12_sours_12 : decode cX12_sours 12 = .ok (.iconst (-1), 1) := by decide +kernel
theorem dX12_sours_13 : decode cX12_sours 13 = .ok (.if_icmp .lt 9, 3) := by decide +kernel
theorem dX12_sours_16 : decode cX12_sours 16 = .ok (.iload_n 2, 1) := by decide +kernel
theorem dX12_sours_17 : decode cX12_sours 17 = .ok (.bipush 10, 2) := by decide +kernel
theorem dX12_sours_19 : decode cX12_sours 19 = .ok (.if_icmp .lt 5, 3) := by decide +kernel
theorem dX12_sours_22 : decode cX12_sours 22 = .ok (.iconst (-1), 1) := by decide +kernel
theorem dX12_sours_23 : decode cX12_sours 23 = .ok (.ireturn, 1) := by decide +kernel
theorem dX12_sours_24 : decode cX12_sours 24 = .ok (.iload_n 2, 1) := by decide +kernel
theorem dX12_sours_25 : decode cX12_sours 25 = .ok (.ifCond .lt 22, 3) := by decide +kernel
theorem dX12_sours_28 : decode cX12_sours 28 = .ok (.aload_n 0, 1) := by decide +kernel
theorem dX12_sours_29 : decode cX12_sours 29 = .ok (.getfield 148, 3) := by decide +kernel
theorem dX12_sours_32 : decode cX12_sours 32 = .ok (.iload_n 2, 1) := by decide +kernel
theorem dX12_sours_33 : decode cX12_sours 33 = .ok (.baload, 1) := by decide +kernel
theorem dX12_sours_34 : decode cX12_sours 34 = .ok (.ifCond .eq 13, 3) := by decide +kernel
theorem dX12_sours_37 : decode cX12_sours 37 = .ok (.aload_n 0, 1) := by decide +kernel
theorem dX12_sours_38 : decode cX12_sours 38 = .ok (.iload_n 1, 1) := by decide +kernel
theorem dX12_sours_39 : decode cX12_sours 39 = .ok (.invokevirtual 230, 3) := by decide +kernel
theorem dX12_sours_42 : decode cX12_sours 42 = .ok (.iconst 4, 1) := by decide +kernel
theorem dX12_sours_43 : decode cX12_sours 43 = .ok (.idiv, 1) := by decide +kernel
theorem dX12_sours_44 : decode cX12_sours 44 = .ok (.goto 8, 3) := by decide +kernel
theorem dX12_sours_47 : decode cX12_sours 47 = .ok (.aload_n 0, 1) := by decide +kernel
theorem dX12_sours_48 : decode cX12_sours 48 = .ok (.iload_n 1, 1) := by decide +kernel
theorem dX12_sours_49 : decode cX12_sours 49 = .ok (.invokevirtual 230, 3) := by decide +kernel
theorem dX12_sours_52 : decode cX12_sours 52 = .ok (.ireturn, 1) := by decide +kernel
set_option maxHeartbeats 4000000 in
set_option maxRecDepth 20000 in
theorem c_X12_sours (l : Launch) (b : Nat) (D : va_G) (cy : Nat → ClassId) {tt : Nat} {M : xMm} {z y : Int} (hMC : MC M) (hz : inR z) (hy : inR y) : xC l b D cy yX12_sours cX12_sours 3 (some .int) ({ frames := 2, cells := 0, slots := 0, locals := 45 }) [xr 172, xi z, xi y] 209 M (RS tt) (xPi 209 (RS tt) (fun r M' => M' = M ∧ ((0 ≤ z ∧ z ≤ 1739 ∧ -1 ≤ y ∧ y < 10) ∧ r = wSo M z y ∨ ¬ (0 ≤ z ∧ z ≤ 1739 ∧ -1 ≤ y ∧ y < 10) ∧ r = -1))) := by
  refine x_met (by decide) (Nat.le_of_ble_eq_true rfl) (fun g hg hr he => ?_)
  have hT := hMC.1
  have hcl := hMC.2.1
  have hrt := rate_le hT (z / 60).toNat
  refine x_canon (ls' := [(0, _), (1, _), (2, _)]) rfl ?_
  refine x_iload_n hg dX12_sours_0 rfl ?_
  refine x_if_lt (tgt := 22) hg dX12_sours_1 (by decide) (by omega) (fun c1 => ?_) (fun c1 => ?_)
  · skip
    refine x_iconst hg dX12_sours_22 ?_
    refine x_iret hg hr (Or.inl rfl) dX12_sours_23 (Nat.le_refl _) (Nat.le_refl _) ?_
    refine ⟨rfl, rfl, _, rfl, rfl, ?_⟩
    first
      | exact Or.inr ⟨by omega, rfl⟩
      | (refine Or.inl ⟨by omega, ?_⟩; unfold wSo; first | (rw [if_pos (by omega)]; first | omega | (rw [e39]; done)) | (rw [if_neg (by omega)]; first | omega | (rw [e49]; done)))
  · skip
    refine x_iload_n hg dX12_sours_4 rfl ?_
    refine x_sipush hg dX12_sours_5 (by decide) ?_
    refine x_icmp_ge (tgt := 22) hg dX12_sours_8 (by decide) (by omega) (by omega) (fun c8 => ?_) (fun c8 => ?_)
    · skip
      refine x_iconst hg dX12_sours_22 ?_
      refine x_iret hg hr (Or.inl rfl) dX12_sours_23 (Nat.le_refl _) (Nat.le_refl _) ?_
      refine ⟨rfl, rfl, _, rfl, rfl, ?_⟩
      first
        | exact Or.inr ⟨by omega, rfl⟩
        | (refine Or.inl ⟨by omega, ?_⟩; unfold wSo; first | (rw [if_pos (by omega)]; first | omega | (rw [e39]; done)) | (rw [if_neg (by omega)]; first | omega | (rw [e49]; done)))
    · skip
      refine x_iload_n hg dX12_sours_11 rfl ?_
      refine x_iconst hg dX12_sours_12 ?_
      refine x_icmp_lt (tgt := 22) hg dX12_sours_13 (by decide) (by omega) (by omega) (fun c13 => ?_) (fun c13 => ?_)
      · skip
        refine x_iconst hg dX12_sours_22 ?_
        refine x_iret hg hr (Or.inl rfl) dX12_sours_23 (Nat.le_refl _) (Nat.le_refl _) ?_
        refine ⟨rfl, rfl, _, rfl, rfl, ?_⟩
        first
          | exact Or.inr ⟨by omega, rfl⟩
          | (refine Or.inl ⟨by omega, ?_⟩; unfold wSo; first | (rw [if_pos (by omega)]; first | omega | (rw [e39]; done)) | (rw [if_neg (by omega)]; first | omega | (rw [e49]; done)))
      · skip
        refine x_iload_n hg dX12_sours_16 rfl ?_
        refine x_bipush hg dX12_sours_17 (by decide) ?_
        refine x_icmp_lt (tgt := 24) hg dX12_sours_19 (by decide) (by omega) (by omega) (fun c19 => ?_) (fun c19 => ?_)
        · skip
          refine x_iload_n hg dX12_sours_24 rfl ?_
          refine x_if_lt (tgt := 47) hg dX12_sours_25 (by decide) (by omega) (fun c25 => ?_) (fun c25 => ?_)
          · skip
            refine x_aload_n hg dX12_sours_47 rfl ?_
            refine x_iload_n hg dX12_sours_48 rfl ?_
            refine x_cVi hg he [_] [] dX12_sours_49 mv_X12_230 (c_X12_aMinute l b D cy hT (by omega)) (by decide) rfl rfl (Nat.le_of_ble_eq_true rfl) (by decide) (by decide) (fun r49 M49 q49 => ?_)
            obtain ⟨h49, e49⟩ := q49
            replace h49 := h49.symm
            subst h49
            refine x_iret hg hr (Or.inl rfl) dX12_sours_52 (Nat.le_refl _) (Nat.le_refl _) ?_
            refine ⟨rfl, rfl, _, rfl, rfl, ?_⟩
            first
              | exact Or.inr ⟨by omega, rfl⟩
              | (refine Or.inl ⟨by omega, ?_⟩; unfold wSo; first | (rw [if_pos (by omega)]; first | omega | (rw [e39]; done)) | (rw [if_neg (by omega)]; first | omega | (rw [e49]; done)))
          · skip
            refine x_aload_n hg dX12_sours_28 rfl ?_
            refine x_getR (j9 := 185) hg dX12_sours_29 fl_X12_148 (by decide) rfl rfl (by decide) ?_
            refine x_iload_n hg dX12_sours_32 rfl ?_
            refine x_zaload (len := 10) hg dX12_sours_33 (by decide) (by omega) ?_
            refine x_if_eq (tgt := 47) hg dX12_sours_34 (by decide) (by have h1 := hcl y.toNat (by omega); omega) (fun c34 => ?_) (fun c34 => ?_)
            · skip
              refine x_aload_n hg dX12_sours_47 rfl ?_
              refine x_iload_n hg dX12_sours_48 rfl ?_
              refine x_cVi hg he [_] [] dX12_sours_49 mv_X12_230 (c_X12_aMinute l b D cy hT (by omega)) (by decide) rfl rfl (Nat.le_of_ble_eq_true rfl) (by decide) (by decide) (fun r49 M49 q49 => ?_)
              obtain ⟨h49, e49⟩ := q49
              replace h49 := h49.symm
              subst h49
              refine x_iret hg hr (Or.inl rfl) dX12_sours_52 (Nat.le_refl _) (Nat.le_refl _) ?_
              refine ⟨rfl, rfl, _, rfl, rfl, ?_⟩
              first
                | exact Or.inr ⟨by omega, rfl⟩
                | (refine Or.inl ⟨by omega, ?_⟩; unfold wSo; first | (rw [if_pos (by omega)]; first | omega | (rw [e39]; done)) | (rw [if_neg (by omega)]; first | omega | (rw [e49]; done)))
            · skip
              refine x_aload_n hg dX12_sours_37 rfl ?_
              refine x_iload_n hg dX12_sours_38 rfl ?_
              refine x_cVi hg he [_] [] dX12_sours_39 mv_X12_230 (c_X12_aMinute l b D cy hT (by omega)) (by decide) rfl rfl (Nat.le_of_ble_eq_true rfl) (by decide) (by decide) (fun r39 M39 q39 => ?_)
              obtain ⟨h39, e39⟩ := q39
              replace h39 := h39.symm
              subst h39
              refine x_iconst hg dX12_sours_42 ?_
              refine x_idiv hg dX12_sours_43 (by omega) (by omega) ?_
              refine x_goto (tgt := 52) hg dX12_sours_44 (by decide) ?_
              refine x_iret hg hr (Or.inl rfl) dX12_sours_52 (Nat.le_refl _) (Nat.le_refl _) ?_
              refine ⟨rfl, rfl, _, rfl, rfl, ?_⟩
              first
                | exact Or.inr ⟨by omega, rfl⟩
                | (refine Or.inl ⟨by omega, ?_⟩; unfold wSo; first | (rw [if_pos (by omega)]; first | omega | (rw [e39]; done)) | (rw [if_neg (by omega)]; first | omega | (rw [e49]; done)))
        · skip
          refine x_iconst hg dX12_sours_22 ?_
          refine x_iret hg hr (Or.inl rfl) dX12_sours_23 (Nat.le_refl _) (Nat.le_refl _) ?_
          refine ⟨rfl, rfl, _, rfl, rfl, ?_⟩
          first
            | exact Or.inr ⟨by omega, rfl⟩
            | (refine Or.inl ⟨by omega, ?_⟩; unfold wSo; first | (rw [if_pos (by omega)]; first | omega | (rw [e39]; done)) | (rw [if_neg (by omega)]; first | omega | (rw [e49]; done)))

theorem dX12_waits_0 : decode cX12_waits 0 = .ok (.aload_n 0, 1) := by decide +kernel
theorem dX12_waits_1 : decode cX12_waits 1 = .ok (.getfield 148, 3) := by decide +kernel
theorem dX12_waits_4 : decode cX12_waits 4 = .ok (.iload_n 1, 1) := by decide +kernel
theorem dX12_waits_5 : decode cX12_waits 5 = .ok (.baload, 1) := by decide +kernel
theorem dX12_waits_6 : decode cX12_waits 6 = .ok (.ifCond .eq 19, 3) := by decide +kernel
theorem dX12_waits_9 : decode cX12_waits 9 = .ok (.aload_n 0, 1) := by decide +kernel
theorem dX12_waits_10 : decode cX12_waits 10 = .ok (.getfield 145, 3) := by decide +kernel
theorem dX12_waits_13 : decode cX12_waits 13 = .ok (.iload_n 3, 1) := by decide +kernel
theorem dX12_waits_14 : decode cX12_waits 14 = .ok (.iaload, 1) := by decide +kernel
theorem dX12_waits_15 : decode cX12_waits 15 = .ok (.aload_n 0, 1) := by decide +kernel
theorem dX12_waits_16 : decode cX12_waits 16 = .ok (.getfield 145, 3) := by decide +kernel
theorem dX12_waits_19 : decode cX12_waits 19 = .ok (.iload_n 2, 1) := by decide +kernel
theorem dX12_waits_20 : decode cX12_waits 20 = .ok (.iaload, 1) := by decide +kernel
theorem dX12_waits_21 : decode cX12_waits 21 = .ok (.isub, 1) := by decide +kernel
theorem dX12_waits_22 : decode cX12_waits 22 = .ok (.goto 16, 3) := by decide +kernel
theorem dX12_waits_25 : decode cX12_waits 25 = .ok (.aload_n 0, 1) := by decide +kernel
theorem dX12_waits_26 : decode cX12_waits 26 = .ok (.getfield 142, 3) := by decide +kernel
theorem dX12_waits_29 : decode cX12_waits 29 = .ok (.iload_n 3, 1) := by decide +kernel
theorem dX12_waits_30 : decode cX12_waits 30 = .ok (.iaload, 1) := by decide +kernel
theorem dX12_waits_31 : decode cX12_waits 31 = .ok (.aload_n 0, 1) := by decide +kernel
theorem dX12_waits_32 : decode cX12_waits 32 = .ok (.getfield 142, 3) := by decide +kernel
theorem dX12_waits_35 : decode cX12_waits 35 = .ok (.iload_n 2, 1) := by decide +kernel
theorem dX12_waits_36 : decode cX12_waits 36 = .ok (.iaload, 1) := by decide +kernel
theorem dX12_waits_37 : decode cX12_waits 37 = .ok (.isub, 1) := by decide +kernel
theorem dX12_waits_38 : decode cX12_waits 38 = .ok (.ireturn, 1) := by decide +kernel
set_option maxHeartbeats 4000000 in
set_option maxRecDepth 20000 in
theorem c_X12_waits (l : Launch) (b : Nat) (D : va_G) (cy : Nat → ClassId) {tt : Nat} {M : xMm} {s x y : Int} (hMC : MC M) (hs : 0 ≤ s ∧ s < 10) (hx : 0 ≤ x ∧ x ≤ 1740) (hy : 0 ≤ y ∧ y ≤ 1740) : xC l b D cy yX12_waits cX12_waits 4 (some .int) ({ frames := 0, cells := 0, slots := 0, locals := 0 }) [xr 172, xi s, xi x, xi y] 209 M (RS tt) (xPi 209 (RS tt) (fun r M' => M' = M ∧ r = wt M s x y)) := by
  refine x_met (by decide) (Nat.le_of_ble_eq_true rfl) (fun g hg hr he => ?_)
  have hcl := hMC.2.1 s.toNat (by omega)
  refine x_canon (ls' := [(0, _), (1, _), (2, _), (3, _)]) rfl ?_
  refine x_aload_n hg dX12_waits_0 rfl ?_
  refine x_getR (j9 := 185) hg dX12_waits_1 fl_X12_148 (by decide) rfl rfl (by decide) ?_
  refine x_iload_n hg dX12_waits_4 rfl ?_
  refine x_zaload (len := 10) hg dX12_waits_5 (by decide) (by omega) ?_
  refine x_if_eq (tgt := 25) hg dX12_waits_6 (by decide) (by omega) (fun c6 => ?_) (fun c6 => ?_)
  · skip
    refine x_aload_n hg dX12_waits_25 rfl ?_
    refine x_getR (j9 := 183) hg dX12_waits_26 fl_X12_142 (by decide) rfl rfl (by decide) ?_
    refine x_iload_n hg dX12_waits_29 rfl ?_
    refine x_iaload (len := 1741) hg dX12_waits_30 (by decide) (by omega) ?_
    refine x_aload_n hg dX12_waits_31 rfl ?_
    refine x_getR (j9 := 183) hg dX12_waits_32 fl_X12_142 (by decide) rfl rfl (by decide) ?_
    refine x_iload_n hg dX12_waits_35 rfl ?_
    refine x_iaload (len := 1741) hg dX12_waits_36 (by decide) (by omega) ?_
    refine x_isub hg dX12_waits_37 ?_
    refine x_iret hg hr (Or.inl rfl) dX12_waits_38 (Nat.le_refl _) (Nat.le_refl _) ?_
    refine ⟨rfl, rfl, _, rfl, rfl, ?_⟩
    unfold wt
    first | rw [if_pos (by omega)] | rw [if_neg (by omega)]
  · skip
    refine x_aload_n hg dX12_waits_9 rfl ?_
    refine x_getR (j9 := 184) hg dX12_waits_10 fl_X12_145 (by decide) rfl rfl (by decide) ?_
    refine x_iload_n hg dX12_waits_13 rfl ?_
    refine x_iaload (len := 1741) hg dX12_waits_14 (by decide) (by omega) ?_
    refine x_aload_n hg dX12_waits_15 rfl ?_
    refine x_getR (j9 := 184) hg dX12_waits_16 fl_X12_145 (by decide) rfl rfl (by decide) ?_
    refine x_iload_n hg dX12_waits_19 rfl ?_
    refine x_iaload (len := 1741) hg dX12_waits_20 (by decide) (by omega) ?_
    refine x_isub hg dX12_waits_21 ?_
    refine x_goto (tgt := 38) hg dX12_waits_22 (by decide) ?_
    refine x_iret hg hr (Or.inl rfl) dX12_waits_38 (Nat.le_refl _) (Nat.le_refl _) ?_
    refine ⟨rfl, rfl, _, rfl, rfl, ?_⟩
    unfold wt
    first | rw [if_pos (by omega)] | rw [if_neg (by omega)]

theorem dX12_isTrain_0 : decode cX12_isTrain 0 = .ok (.iload_n 1, 1) := by decide +kernel
theorem dX12_isTrain_1 : decode cX12_isTrain 1 = .ok (.ifCond .lt 20, 3) := by decide +kernel
theorem dX12_isTrain_4 : decode cX12_isTrain 4 = .ok (.iload_n 1, 1) := by decide +kernel
theorem dX12_isTrain_5 : decode cX12_isTrain 5 = .ok (.aload_n 0, 1) := by decide +kernel
theorem dX12_isTrain_6 : decode cX12_isTrain 6 = .ok (.getfield 81, 3) := by decide +kernel
theorem dX12_isTrain_9 : decode cX12_isTrain 9 = .ok (.aload_n 0, 1) := by decide +kernel
theorem dX12_isTrain_10 : decode cX12_isTrain 10 = .ok (.getfield 75, 3) := by decide +kernel
theorem dX12_isTrain_13 : decode cX12_isTrain 13 = .ok (.iaload, 1) := by decide +kernel
theorem dX12_isTrain_14 : decode cX12_isTrain 14 = .ok (.if_icmp .ge 7, 3) := by decide +kernel
theorem dX12_isTrain_17 : decode cX12_isTrain 17 = .ok (.iconst 1, 1) := by decide +kernel
theorem dX12_isTrain_18 : decode cX12_isTrain 18 = .ok (.goto 4, 3) := by decide +kernel
theorem dX12_isTrain_21 : decode cX12_isTrain 21 = .ok (.iconst 0, 1) := by decide +kernel
theorem dX12_isTrain_22 : decode cX12_isTrain 22 = .ok (.ireturn, 1) := by decide +kernel
set_option maxHeartbeats 4000000 in
set_option maxRecDepth 20000 in
theorem c_X12_isTrain (l : Launch) (b : Nat) (D : va_G) (cy : Nat → ClassId) {tt : Nat} {M : xMm} {z : Int} (hR : MR M) (hz : inR z) : xC l b D cy yX12_isTrain cX12_isTrain 2 (some .boolean) ({ frames := 0, cells := 0, slots := 0, locals := 0 }) [xr 172, xi z] 209 M (RS tt) (xPi 209 (RS tt) (fun r M' => M' = M ∧ ((0 ≤ z ∧ z < mMa M) ∧ r = 1 ∨ ¬ (0 ≤ z ∧ z < mMa M) ∧ r = 0))) := by
  refine x_met (by decide) (Nat.le_of_ble_eq_true rfl) (fun g hg hr he => ?_)
  obtain ⟨hb, hm⟩ := MR_many hR
  have em : M 180 (M 172 18).toNat = mMa M := rfl
  refine x_canon (ls' := [(0, _), (1, _)]) rfl ?_
  refine x_iload_n hg dX12_isTrain_0 rfl ?_
  refine x_if_lt (tgt := 21) hg dX12_isTrain_1 (by decide) (by omega) (fun c1 => ?_) (fun c1 => ?_)
  · skip
    refine x_iconst hg dX12_isTrain_21 ?_
    refine x_iret hg hr (Or.inr ⟨rfl, by first | exact Or.inl rfl | exact Or.inr rfl | omega⟩) dX12_isTrain_22 (Nat.le_refl _) (Nat.le_refl _) ?_
    exact ⟨rfl, rfl, _, rfl, rfl, by omega⟩
  · skip
    refine x_iload_n hg dX12_isTrain_4 rfl ?_
    refine x_aload_n hg dX12_isTrain_5 rfl ?_
    refine x_getR (j9 := 180) hg dX12_isTrain_6 fl_X12_81 (by decide) rfl rfl (by decide) ?_
    refine x_aload_n hg dX12_isTrain_9 rfl ?_
    refine x_getI hg dX12_isTrain_10 fl_X12_75 (by decide) rfl ?_
    refine x_iaload (len := 2) hg dX12_isTrain_13 (by decide) (by omega) ?_
    refine x_icmp_ge (tgt := 21) hg dX12_isTrain_14 (by decide) (by omega) (by omega) (fun c14 => ?_) (fun c14 => ?_)
    · skip
      refine x_iconst hg dX12_isTrain_21 ?_
      refine x_iret hg hr (Or.inr ⟨rfl, by first | exact Or.inl rfl | exact Or.inr rfl | omega⟩) dX12_isTrain_22 (Nat.le_refl _) (Nat.le_refl _) ?_
      exact ⟨rfl, rfl, _, rfl, rfl, by omega⟩
    · skip
      refine x_iconst hg dX12_isTrain_17 ?_
      refine x_goto (tgt := 22) hg dX12_isTrain_18 (by decide) ?_
      refine x_iret hg hr (Or.inr ⟨rfl, by first | exact Or.inl rfl | exact Or.inr rfl | omega⟩) dX12_isTrain_22 (Nat.le_refl _) (Nat.le_refl _) ?_
      exact ⟨rfl, rfl, _, rfl, rfl, by omega⟩

theorem dX12_stations_0 : decode cX12_stations 0 = .ok (.aload_n 0, 1) := by decide +kernel
theorem dX12_stations_1 : decode cX12_stations 1 = .ok (.getfield 115, 3) := by decide +kernel
theorem dX12_stations_4 : decode cX12_stations 4 = .ok (.bipush 8, 2) := by decide +kernel
theorem dX12_stations_6 : decode cX12_stations 6 = .ok (.bipush 8, 2) := by decide +kernel
theorem dX12_stations_8 : decode cX12_stations 8 = .ok (.aload_n 0, 1) := by decide +kernel
theorem dX12_stations_9 : decode cX12_stations 9 = .ok (.getfield 75, 3) := by decide +kernel
theorem dX12_stations_12 : decode cX12_stations 12 = .ok (.imul, 1) := by decide +kernel
theorem dX12_stations_13 : decode cX12_stations 13 = .ok (.iload_n 1, 1) := by decide +kernel
theorem dX12_stations_14 : decode cX12_stations 14 = .ok (.iadd, 1) := by decide +kernel
theorem dX12_stations_15 : decode cX12_stations 15 = .ok (.imul, 1) := by decide +kernel
theorem dX12_stations_16 : decode cX12_stations 16 = .ok (.iload_n 2, 1) := by decide +kernel
theorem dX12_stations_17 : decode cX12_stations 17 = .ok (.iadd, 1) := by decide +kernel
theorem dX12_stations_18 : decode cX12_stations 18 = .ok (.iaload, 1) := by decide +kernel
theorem dX12_stations_19 : decode cX12_stations 19 = .ok (.ireturn, 1) := by decide +kernel
set_option maxHeartbeats 4000000 in
set_option maxRecDepth 20000 in
theorem c_X12_stations (l : Launch) (b : Nat) (D : va_G) (cy : Nat → ClassId) {tt : Nat} {M : xMm} {t k : Int} (hR : MR M) (ht : 0 ≤ t ∧ t < 8) (hk : 0 ≤ k ∧ k < 8) : xC l b D cy yX12_stations cX12_stations 3 (some .int) ({ frames := 0, cells := 0, slots := 0, locals := 0 }) [xr 172, xi t, xi k] 209 M (RS tt) (xPi 209 (RS tt) (fun r M' => M' = M ∧ r = mSt M t k)) := by
  refine x_met (by decide) (Nat.le_of_ble_eq_true rfl) (fun g hg hr he => ?_)
  obtain ⟨hb, hm⟩ := MR_many hR
  refine x_canon (ls' := [(0, _), (1, _), (2, _)]) rfl ?_
  refine x_aload_n hg dX12_stations_0 rfl ?_
  refine x_getR (j9 := 178) hg dX12_stations_1 fl_X12_115 (by decide) rfl rfl (by decide) ?_
  refine x_bipush hg dX12_stations_4 (by decide) ?_
  refine x_bipush hg dX12_stations_6 (by decide) ?_
  refine x_aload_n hg dX12_stations_8 rfl ?_
  refine x_getI hg dX12_stations_9 fl_X12_75 (by decide) rfl ?_
  refine x_imul hg dX12_stations_12 ?_
  refine x_iload_n hg dX12_stations_13 rfl ?_
  refine x_iadd hg dX12_stations_14 ?_
  refine x_imul hg dX12_stations_15 ?_
  refine x_iload_n hg dX12_stations_16 rfl ?_
  refine x_iadd hg dX12_stations_17 ?_
  refine x_iaload (len := 128) hg dX12_stations_18 (by decide) (by omega) ?_
  refine x_iret hg hr (Or.inl rfl) dX12_stations_19 (Nat.le_refl _) (Nat.le_refl _) ?_
  exact ⟨rfl, rfl, _, rfl, rfl, rfl⟩

theorem dX12_minutes_0 : decode cX12_minutes 0 = .ok (.aload_n 0, 1) := by decide +kernel
theorem dX12_minutes_1 : decode cX12_minutes 1 = .ok (.getfield 118, 3) := by decide +kernel
theorem dX12_minutes_4 : decode cX12_minutes 4 = .ok (.bipush 8, 2) := by decide +kernel
theorem dX12_minutes_6 : decode cX12_minutes 6 = .ok (.bipush 8, 2) := by decide +kernel
theorem dX12_minutes_8 : decode cX12_minutes 8 = .ok (.aload_n 0, 1) := by decide +kernel
theorem dX12_minutes_9 : decode cX12_minutes 9 = .ok (.getfield 75, 3) := by decide +kernel
theorem dX12_minutes_12 : decode cX12_minutes 12 = .ok (.imul, 1) := by decide +kernel
theorem dX12_minutes_13 : decode cX12_minutes 13 = .ok (.iload_n 1, 1) := by decide +kernel
theorem dX12_minutes_14 : decode cX12_minutes 14 = .ok (.iadd, 1) := by decide +kernel
theorem dX12_minutes_15 : decode cX12_minutes 15 = .ok (.imul, 1) := by decide +kernel
theorem dX12_minutes_16 : decode cX12_minutes 16 = .ok (.iload_n 2, 1) := by decide +kernel
theorem dX12_minutes_17 : decode cX12_minutes 17 = .ok (.iadd, 1) := by decide +kernel
theorem dX12_minutes_18 : decode cX12_minutes 18 = .ok (.iaload, 1) := by decide +kernel
theorem dX12_minutes_19 : decode cX12_minutes 19 = .ok (.aload_n 0, 1) := by decide +kernel
theorem dX12_minutes_20 : decode cX12_minutes 20 = .ok (.getfield 88, 3) := by decide +kernel
theorem dX12_minutes_23 : decode cX12_minutes 23 = .ok (.iload_n 1, 1) := by decide +kernel
theorem dX12_minutes_24 : decode cX12_minutes 24 = .ok (.iaload, 1) := by decide +kernel
theorem dX12_minutes_25 : decode cX12_minutes 25 = .ok (.iadd, 1) := by decide +kernel
theorem dX12_minutes_26 : decode cX12_minutes 26 = .ok (.ireturn, 1) := by decide +kernel
set_option maxHeartbeats 4000000 in
set_option maxRecDepth 20000 in
theorem c_X12_minutes (l : Launch) (b : Nat) (D : va_G) (cy : Nat → ClassId) {tt : Nat} {M : xMm} {t k : Int} (hR : MR M) (ht : 0 ≤ t ∧ t < 8) (hk : 0 ≤ k ∧ k < 8) : xC l b D cy yX12_minutes cX12_minutes 3 (some .int) ({ frames := 0, cells := 0, slots := 0, locals := 0 }) [xr 172, xi t, xi k] 209 M (RS tt) (xPi 209 (RS tt) (fun r M' => M' = M ∧ r = mMi M t k)) := by
  refine x_met (by decide) (Nat.le_of_ble_eq_true rfl) (fun g hg hr he => ?_)
  obtain ⟨hb, hm⟩ := MR_many hR
  refine x_canon (ls' := [(0, _), (1, _), (2, _)]) rfl ?_
  refine x_aload_n hg dX12_minutes_0 rfl ?_
  refine x_getR (j9 := 179) hg dX12_minutes_1 fl_X12_118 (by decide) rfl rfl (by decide) ?_
  refine x_bipush hg dX12_minutes_4 (by decide) ?_
  refine x_bipush hg dX12_minutes_6 (by decide) ?_
  refine x_aload_n hg dX12_minutes_8 rfl ?_
  refine x_getI hg dX12_minutes_9 fl_X12_75 (by decide) rfl ?_
  refine x_imul hg dX12_minutes_12 ?_
  refine x_iload_n hg dX12_minutes_13 rfl ?_
  refine x_iadd hg dX12_minutes_14 ?_
  refine x_imul hg dX12_minutes_15 ?_
  refine x_iload_n hg dX12_minutes_16 rfl ?_
  refine x_iadd hg dX12_minutes_17 ?_
  refine x_iaload (len := 128) hg dX12_minutes_18 (by decide) (by omega) ?_
  refine x_aload_n hg dX12_minutes_19 rfl ?_
  refine x_getR (j9 := 181) hg dX12_minutes_20 fl_X12_88 (by decide) rfl rfl (by decide) ?_
  refine x_iload_n hg dX12_minutes_23 rfl ?_
  refine x_iaload (len := 8) hg dX12_minutes_24 (by decide) (by omega) ?_
  refine x_iadd hg dX12_minutes_25 ?_
  refine x_iret hg hr (Or.inl rfl) dX12_minutes_26 (Nat.le_refl _) (Nat.le_refl _) ?_
  exact ⟨rfl, rfl, _, rfl, rfl, rfl⟩

theorem dX12_stops_0 : decode cX12_stops 0 = .ok (.aload_n 0, 1) := by decide +kernel
theorem dX12_stops_1 : decode cX12_stops 1 = .ok (.getfield 108, 3) := by decide +kernel
theorem dX12_stops_4 : decode cX12_stops 4 = .ok (.bipush 8, 2) := by decide +kernel
theorem dX12_stops_6 : decode cX12_stops 6 = .ok (.aload_n 0, 1) := by decide +kernel
theorem dX12_stops_7 : decode cX12_stops 7 = .ok (.getfield 75, 3) := by decide +kernel
theorem dX12_stops_10 : decode cX12_stops 10 = .ok (.imul, 1) := by decide +kernel
theorem dX12_stops_11 : decode cX12_stops 11 = .ok (.iload_n 1, 1) := by decide +kernel
theorem dX12_stops_12 : decode cX12_stops 12 = .ok (.iadd, 1) := by decide +kernel
theorem dX12_stops_13 : decode cX12_stops 13 = .ok (.iaload, 1) := by decide +kernel
theorem dX12_stops_14 : decode cX12_stops 14 = .ok (.ireturn, 1) := by decide +kernel
set_option maxHeartbeats 4000000 in
set_option maxRecDepth 20000 in
theorem c_X12_stops (l : Launch) (b : Nat) (D : va_G) (cy : Nat → ClassId) {tt : Nat} {M : xMm} {t : Int} (hR : MR M) (ht : 0 ≤ t ∧ t < 8) : xC l b D cy yX12_stops cX12_stops 2 (some .int) ({ frames := 0, cells := 0, slots := 0, locals := 0 }) [xr 172, xi t] 209 M (RS tt) (xPi 209 (RS tt) (fun r M' => M' = M ∧ r = mSs M t)) := by
  refine x_met (by decide) (Nat.le_of_ble_eq_true rfl) (fun g hg hr he => ?_)
  obtain ⟨hb, hm⟩ := MR_many hR
  refine x_canon (ls' := [(0, _), (1, _)]) rfl ?_
  refine x_aload_n hg dX12_stops_0 rfl ?_
  refine x_getR (j9 := 177) hg dX12_stops_1 fl_X12_108 (by decide) rfl rfl (by decide) ?_
  refine x_bipush hg dX12_stops_4 (by decide) ?_
  refine x_aload_n hg dX12_stops_6 rfl ?_
  refine x_getI hg dX12_stops_7 fl_X12_75 (by decide) rfl ?_
  refine x_imul hg dX12_stops_10 ?_
  refine x_iload_n hg dX12_stops_11 rfl ?_
  refine x_iadd hg dX12_stops_12 ?_
  refine x_iaload (len := 16) hg dX12_stops_13 (by decide) (by omega) ?_
  refine x_iret hg hr (Or.inl rfl) dX12_stops_14 (Nat.le_refl _) (Nat.le_refl _) ?_
  exact ⟨rfl, rfl, _, rfl, rfl, rfl⟩

theorem dX12_train_0 : decode cX12_train 0 = .ok (.aload_n 0, 1) := by decide +kernel
theorem dX12_train_1 : decode cX12_train 1 = .ok (.iload_n 1, 1) := by decide +kernel
theorem dX12_train_2 : decode cX12_train 2 = .ok (.invokevirtual 121, 3) := by decide +kernel
theorem dX12_train_5 : decode cX12_train 5 = .ok (.ifCond .ne 5, 3) := by decide +kernel
theorem dX12_train_8 : decode cX12_train 8 = .ok (.iconst (-1), 1) := by decide +kernel
theorem dX12_train_9 : decode cX12_train 9 = .ok (.ireturn, 1) := by decide +kernel
theorem dX12_train_10 : decode cX12_train 10 = .ok (.iload_n 2, 1) := by decide +kernel
theorem dX12_train_11 : decode cX12_train 11 = .ok (.ifCond .ne 18, 3) := by decide +kernel
theorem dX12_train_14 : decode cX12_train 14 = .ok (.aload_n 0, 1) := by decide +kernel
theorem dX12_train_15 : decode cX12_train 15 = .ok (.getfield 99, 3) := by decide +kernel
theorem dX12_train_18 : decode cX12_train 18 = .ok (.bipush 8, 2) := by decide +kernel
theorem dX12_train_20 : decode cX12_train 20 = .ok (.aload_n 0, 1) := by decide +kernel
theorem dX12_train_21 : decode cX12_train 21 = .ok (.getfield 75, 3) := by decide +kernel
theorem dX12_train_24 : decode cX12_train 24 = .ok (.imul, 1) := by decide +kernel
theorem dX12_train_25 : decode cX12_train 25 = .ok (.iload_n 1, 1) := by decide +kernel
theorem dX12_train_26 : decode cX12_train 26 = .ok (.iadd, 1) := by decide +kernel
theorem dX12_train_27 : decode cX12_train 27 = .ok (.iaload, 1) := by decide +kernel
theorem dX12_train_28 : decode cX12_train 28 = .ok (.ireturn, 1) := by decide +kernel
theorem dX12_train_29 : decode cX12_train 29 = .ok (.iload_n 2, 1) := by decide +kernel
theorem dX12_train_30 : decode cX12_train 30 = .ok (.iconst 1, 1) := by decide +kernel
theorem dX12_train_31 : decode cX12_train 31 = .ok (.if_icmp .ne 9, 3) := by decide +kernel
theorem dX12_train_34 : decode cX12_train 34 = .ok (.aload_n 0, 1) := by decide +kernel
theorem dX12_train_35 : decode cX12_train 35 = .ok (.iload_n 1, 1) := by decide +kernel
theorem dX12_train_36 : decode cX12_train 36 = .ok (.invokevirtual 124, 3) := by decide +kernel
theorem dX12_train_39 : decode cX12_train 39 = .ok (.ireturn, 1) := by decide +kernel
theorem dX12_train_40 : decode cX12_train 40 = .ok (.iload_n 2, 1) := by decide +kernel
theorem dX12_train_41 : decode cX12_train 41 = .ok (.iconst 2, 1) := by decide +kernel
theorem dX12_train_42 : decode cX12_train 42 = .ok (.if_icmp .ne 10, 3) := by decide +kernel
theorem dX12_train_45 : decode cX12_train 45 = .ok (.aload_n 0, 1) := by decide +kernel
theorem dX12_train_46 : decode cX12_train 46 = .ok (.getfield 88, 3) := by decide +kernel
theorem dX12_train_49 : decode cX12_train 49 = .ok (.iload_n 1, 1) := by decide +kernel
theorem dX12_train_50 : decode cX12_train 50 = .ok (.iaload, 1) := by decide +kernel
theorem dX12_train_51 : decode cX12_train 51 = .ok (.ireturn, 1) := by decide +kernel
theorem dX12_train_52 : decode cX12_train 52 = .ok (.iload_n 2, 1) := by decide +kernel
theorem dX12_train_53 : decode cX12_train 53 = .ok (.bipush 10, 2) := by decide +kernel
theorem dX12_train_55 : decode cX12_train 55 = .ok (.if_icmp .lt 25, 3) := by decide +kernel
theorem dX12_train_58 : decode cX12_train 58 = .ok (.iload_n 2, 1) := by decide +kernel
theorem dX12_train_59 : decode cX12_train 59 = .ok (.bipush 10, 2) := by decide +kernel
theorem dX12_train_61 : decode cX12_train 61 = .ok (.aload_n 0, 1) := by decide +kernel
theorem dX12_train_62 : decode cX12_train 62 = .ok (.iload_n 1, 1) := by decide +kernel
theorem dX12_train_63 : decode cX12_train 63 = .ok (.invokevirtual 124, 3) := by decide +kernel
theorem dX12_train_66 : decode cX12_train 66 = .ok (.iadd, 1) := by decide +kernel
theorem dX12_train_67 : decode cX12_train 67 = .ok (.if_icmp .ge 13, 3) := by decide +kernel
theorem dX12_train_70 : decode cX12_train 70 = .ok (.aload_n 0, 1) := by decide +kernel
theorem dX12_train_71 : decode cX12_train 71 = .ok (.iload_n 1, 1) := by decide +kernel
theorem dX12_train_72 : decode cX12_train 72 = .ok (.iload_n 2, 1) := by decide +kernel
theorem dX12_train_73 : decode cX12_train 73 = .ok (.bipush 10, 2) := by decide +kernel
theorem dX12_train_75 : decode cX12_train 75 = .ok (.isub, 1) := by decide +kernel
theorem dX12_train_76 : decode cX12_train 76 = .ok (.invokevirtual 127, 3) := by decide +kernel
theorem dX12_train_79 : decode cX12_train 79 = .ok (.ireturn, 1) := by decide +kernel
theorem dX12_train_80 : decode cX12_train 80 = .ok (.iload_n 2, 1) := by decide +kernel
theorem dX12_train_81 : decode cX12_train 81 = .ok (.bipush 20, 2) := by decide +kernel
theorem dX12_train_83 : decode cX12_train 83 = .ok (.if_icmp .lt 27, 3) := by decide +kernel
theorem dX12_train_86 : decode cX12_train 86 = .ok (.iload_n 2, 1) := by decide +kernel
theorem dX12_train_87 : decode cX12_train 87 = .ok (.bipush 20, 2) := by decide +kernel
theorem dX12_train_89 : decode cX12_train 89 = .ok (.aload_n 0, 1) := by decide +kernel
theorem dX12_train_90 : decode cX12_train 90 = .ok (.iload_n 1, 1) := by decide +kernel
theorem dX12_train_91 : decode cX12_train 91 = .ok (.invokevirtual 124, 3) := by decide +kernel
theorem dX12_train_94 : decode cX12_train 94 = .ok (.iadd, 1) := by decide +kernel
theorem dX12_train_95 : decode cX12_train 95 = .ok (.if_icmp .ge 15, 3) := by decide +kernel
theorem dX12_train_98 : decode cX12_train 98 = .ok (.aload_n 0, 1) := by decide +kernel
theorem dX12_train_99 : decode cX12_train 99 = .ok (.iload_n 1, 1) := by decide +kernel
theorem dX12_train_100 : decode cX12_train 100 = .ok (.iload_n 2, 1) := by decide +kernel
theorem dX12_train_101 : decode cX12_train 101 = .ok (.bipush 20, 2) := by decide +kernel
theorem dX12_train_103 : decode cX12_train 103 = .ok (.isub, 1) := by decide +kernel
theorem dX12_train_104 : decode cX12_train 104 = .ok (.invokevirtual 131, 3) := by decide +kernel
theorem dX12_train_107 : decode cX12_train 107 = .ok (.goto 4, 3) := by decide +kernel
theorem dX12_train_110 : decode cX12_train 110 = .ok (.iconst (-1), 1) := by decide +kernel
theorem dX12_train_111 : decode cX12_train 111 = .ok (.ireturn, 1) := by decide +kernel
set_option maxHeartbeats 4000000 in
set_option maxRecDepth 20000 in
theorem c_X12_train (l : Launch) (b : Nat) (D : va_G) (cy : Nat → ClassId) {tt : Nat} {M : xMm} {z y : Int} (hR : MR M) (hz : inR z) (hy : inR y) : xC l b D cy yX12_train cX12_train 3 (some .int) ({ frames := 1, cells := 0, slots := 0, locals := 22 }) [xr 172, xi z, xi y] 209 M (RS tt) (xPi 209 (RS tt) (fun r M' => M' = M)) := by
  refine x_met (by decide) (Nat.le_of_ble_eq_true rfl) (fun g hg hr he => ?_)
  obtain ⟨hb, hm⟩ := MR_many hR
  refine x_canon (ls' := [(0, _), (1, _), (2, _)]) rfl ?_
  refine x_aload_n hg dX12_train_0 rfl ?_
  refine x_iload_n hg dX12_train_1 rfl ?_
  refine x_cVi hg he [_] [] dX12_train_2 mv_X12_121 (c_X12_isTrain l b D cy hR (by omega)) (by decide) rfl rfl (Nat.le_of_ble_eq_true rfl) (by decide) (by decide) (fun r2 M2 q2 => ?_)
  obtain ⟨h2, e2⟩ := q2
  replace h2 := h2.symm
  subst h2
  refine x_if_ne (tgt := 10) hg dX12_train_5 (by decide) (by omega) (fun c5 => ?_) (fun c5 => ?_)
  · skip
    refine x_iload_n hg dX12_train_10 rfl ?_
    refine x_if_ne (tgt := 29) hg dX12_train_11 (by decide) (by omega) (fun c11 => ?_) (fun c11 => ?_)
    · skip
      refine x_iload_n hg dX12_train_29 rfl ?_
      refine x_iconst hg dX12_train_30 ?_
      refine x_icmp_ne (tgt := 40) hg dX12_train_31 (by decide) (by omega) (by omega) (fun c31 => ?_) (fun c31 => ?_)
      · skip
        refine x_iload_n hg dX12_train_40 rfl ?_
        refine x_iconst hg dX12_train_41 ?_
        refine x_icmp_ne (tgt := 52) hg dX12_train_42 (by decide) (by omega) (by omega) (fun c42 => ?_) (fun c42 => ?_)
        · skip
          refine x_iload_n hg dX12_train_52 rfl ?_
          refine x_bipush hg dX12_train_53 (by decide) ?_
          refine x_icmp_lt (tgt := 80) hg dX12_train_55 (by decide) (by omega) (by omega) (fun c55 => ?_) (fun c55 => ?_)
          · skip
            refine x_iload_n hg dX12_train_80 rfl ?_
            refine x_bipush hg dX12_train_81 (by decide) ?_
            refine x_icmp_lt (tgt := 110) hg dX12_train_83 (by decide) (by omega) (by omega) (fun c83 => ?_) (fun c83 => ?_)
            · skip
              refine x_iconst hg dX12_train_110 ?_
              refine x_iret hg hr (Or.inl rfl) dX12_train_111 (Nat.le_refl _) (Nat.le_refl _) ?_
              exact ⟨rfl, rfl, _, rfl, rfl⟩
            · skip
              refine x_iload_n hg dX12_train_86 rfl ?_
              refine x_bipush hg dX12_train_87 (by decide) ?_
              refine x_aload_n hg dX12_train_89 rfl ?_
              refine x_iload_n hg dX12_train_90 rfl ?_
              refine x_cVi hg he [_] [_, _] dX12_train_91 mv_X12_124 (c_X12_stops l b D cy hR (by omega)) (by decide) rfl rfl (Nat.le_of_ble_eq_true rfl) (by decide) (by decide) (fun r91 M91 q91 => ?_)
              obtain ⟨h91, e91⟩ := q91
              replace h91 := h91.symm
              subst h91
              have hss2 := (MR_use hR (show 0 ≤ z by omega) (show z < 8 by omega)).2.2.1
              refine x_iadd hg dX12_train_94 ?_
              refine x_icmp_ge (tgt := 110) hg dX12_train_95 (by decide) (by omega) (by omega) (fun c95 => ?_) (fun c95 => ?_)
              · skip
                refine x_iconst hg dX12_train_110 ?_
                refine x_iret hg hr (Or.inl rfl) dX12_train_111 (Nat.le_refl _) (Nat.le_refl _) ?_
                exact ⟨rfl, rfl, _, rfl, rfl⟩
              · skip
                refine x_aload_n hg dX12_train_98 rfl ?_
                refine x_iload_n hg dX12_train_99 rfl ?_
                refine x_iload_n hg dX12_train_100 rfl ?_
                refine x_bipush hg dX12_train_101 (by decide) ?_
                refine x_isub hg dX12_train_103 ?_
                refine x_cVi hg he [_, _] [] dX12_train_104 mv_X12_131 (c_X12_minutes l b D cy hR (by omega) (by omega)) (by decide) rfl rfl (Nat.le_of_ble_eq_true rfl) (by decide) (by decide) (fun r104 M104 q104 => ?_)
                obtain ⟨h104, e104⟩ := q104
                replace h104 := h104.symm
                subst h104
                refine x_goto (tgt := 111) hg dX12_train_107 (by decide) ?_
                refine x_iret hg hr (Or.inl rfl) dX12_train_111 (Nat.le_refl _) (Nat.le_refl _) ?_
                exact ⟨rfl, rfl, _, rfl, rfl⟩
          · skip
            refine x_iload_n hg dX12_train_58 rfl ?_
            refine x_bipush hg dX12_train_59 (by decide) ?_
            refine x_aload_n hg dX12_train_61 rfl ?_
            refine x_iload_n hg dX12_train_62 rfl ?_
            refine x_cVi hg he [_] [_, _] dX12_train_63 mv_X12_124 (c_X12_stops l b D cy hR (by omega)) (by decide) rfl rfl (Nat.le_of_ble_eq_true rfl) (by decide) (by decide) (fun r63 M63 q63 => ?_)
            obtain ⟨h63, e63⟩ := q63
            replace h63 := h63.symm
            subst h63
            have hss := (MR_use hR (show 0 ≤ z by omega) (show z < 8 by omega)).2.2.1
            refine x_iadd hg dX12_train_66 ?_
            refine x_icmp_ge (tgt := 80) hg dX12_train_67 (by decide) (by omega) (by omega) (fun c67 => ?_) (fun c67 => ?_)
            · skip
              refine x_iload_n hg dX12_train_80 rfl ?_
              refine x_bipush hg dX12_train_81 (by decide) ?_
              refine x_icmp_lt (tgt := 110) hg dX12_train_83 (by decide) (by omega) (by omega) (fun c83 => ?_) (fun c83 => ?_)
              · skip
                refine x_iconst hg dX12_train_110 ?_
                refine x_iret hg hr (Or.inl rfl) dX12_train_111 (Nat.le_refl _) (Nat.le_refl _) ?_
                exact ⟨rfl, rfl, _, rfl, rfl⟩
              · skip
                refine x_iload_n hg dX12_train_86 rfl ?_
                refine x_bipush hg dX12_train_87 (by decide) ?_
                refine x_aload_n hg dX12_train_89 rfl ?_
                refine x_iload_n hg dX12_train_90 rfl ?_
                refine x_cVi hg he [_] [_, _] dX12_train_91 mv_X12_124 (c_X12_stops l b D cy hR (by omega)) (by decide) rfl rfl (Nat.le_of_ble_eq_true rfl) (by decide) (by decide) (fun r91 M91 q91 => ?_)
                obtain ⟨h91, e91⟩ := q91
                replace h91 := h91.symm
                subst h91
                have hss2 := (MR_use hR (show 0 ≤ z by omega) (show z < 8 by omega)).2.2.1
                refine x_iadd hg dX12_train_94 ?_
                refine x_icmp_ge (tgt := 110) hg dX12_train_95 (by decide) (by omega) (by omega) (fun c95 => ?_) (fun c95 => ?_)
                · skip
                  refine x_iconst hg dX12_train_110 ?_
                  refine x_iret hg hr (Or.inl rfl) dX12_train_111 (Nat.le_refl _) (Nat.le_refl _) ?_
                  exact ⟨rfl, rfl, _, rfl, rfl⟩
                · skip
                  refine x_aload_n hg dX12_train_98 rfl ?_
                  refine x_iload_n hg dX12_train_99 rfl ?_
                  refine x_iload_n hg dX12_train_100 rfl ?_
                  refine x_bipush hg dX12_train_101 (by decide) ?_
                  refine x_isub hg dX12_train_103 ?_
                  refine x_cVi hg he [_, _] [] dX12_train_104 mv_X12_131 (c_X12_minutes l b D cy hR (by omega) (by omega)) (by decide) rfl rfl (Nat.le_of_ble_eq_true rfl) (by decide) (by decide) (fun r104 M104 q104 => ?_)
                  obtain ⟨h104, e104⟩ := q104
                  replace h104 := h104.symm
                  subst h104
                  refine x_goto (tgt := 111) hg dX12_train_107 (by decide) ?_
                  refine x_iret hg hr (Or.inl rfl) dX12_train_111 (Nat.le_refl _) (Nat.le_refl _) ?_
                  exact ⟨rfl, rfl, _, rfl, rfl⟩
            · skip
              refine x_aload_n hg dX12_train_70 rfl ?_
              refine x_iload_n hg dX12_train_71 rfl ?_
              refine x_iload_n hg dX12_train_72 rfl ?_
              refine x_bipush hg dX12_train_73 (by decide) ?_
              refine x_isub hg dX12_train_75 ?_
              refine x_cVi hg he [_, _] [] dX12_train_76 mv_X12_127 (c_X12_stations l b D cy hR (by omega) (by omega)) (by decide) rfl rfl (Nat.le_of_ble_eq_true rfl) (by decide) (by decide) (fun r76 M76 q76 => ?_)
              obtain ⟨h76, e76⟩ := q76
              replace h76 := h76.symm
              subst h76
              refine x_iret hg hr (Or.inl rfl) dX12_train_79 (Nat.le_refl _) (Nat.le_refl _) ?_
              exact ⟨rfl, rfl, _, rfl, rfl⟩
        · skip
          refine x_aload_n hg dX12_train_45 rfl ?_
          refine x_getR (j9 := 181) hg dX12_train_46 fl_X12_88 (by decide) rfl rfl (by decide) ?_
          refine x_iload_n hg dX12_train_49 rfl ?_
          refine x_iaload (len := 8) hg dX12_train_50 (by decide) (by omega) ?_
          refine x_iret hg hr (Or.inl rfl) dX12_train_51 (Nat.le_refl _) (Nat.le_refl _) ?_
          exact ⟨rfl, rfl, _, rfl, rfl⟩
      · skip
        refine x_aload_n hg dX12_train_34 rfl ?_
        refine x_iload_n hg dX12_train_35 rfl ?_
        refine x_cVi hg he [_] [] dX12_train_36 mv_X12_124 (c_X12_stops l b D cy hR (by omega)) (by decide) rfl rfl (Nat.le_of_ble_eq_true rfl) (by decide) (by decide) (fun r36 M36 q36 => ?_)
        obtain ⟨h36, e36⟩ := q36
        replace h36 := h36.symm
        subst h36
        refine x_iret hg hr (Or.inl rfl) dX12_train_39 (Nat.le_refl _) (Nat.le_refl _) ?_
        exact ⟨rfl, rfl, _, rfl, rfl⟩
    · skip
      refine x_aload_n hg dX12_train_14 rfl ?_
      refine x_getR (j9 := 176) hg dX12_train_15 fl_X12_99 (by decide) rfl rfl (by decide) ?_
      refine x_bipush hg dX12_train_18 (by decide) ?_
      refine x_aload_n hg dX12_train_20 rfl ?_
      refine x_getI hg dX12_train_21 fl_X12_75 (by decide) rfl ?_
      refine x_imul hg dX12_train_24 ?_
      refine x_iload_n hg dX12_train_25 rfl ?_
      refine x_iadd hg dX12_train_26 ?_
      refine x_iaload (len := 16) hg dX12_train_27 (by decide) (by omega) ?_
      refine x_iret hg hr (Or.inl rfl) dX12_train_28 (Nat.le_refl _) (Nat.le_refl _) ?_
      exact ⟨rfl, rfl, _, rfl, rfl⟩
  · skip
    refine x_iconst hg dX12_train_8 ?_
    refine x_iret hg hr (Or.inl rfl) dX12_train_9 (Nat.le_refl _) (Nat.le_refl _) ?_
    exact ⟨rfl, rfl, _, rfl, rfl⟩

theorem dX12_delay_0 : decode cX12_delay 0 = .ok (.aload_n 0, 1) := by decide +kernel
theorem dX12_delay_1 : decode cX12_delay 1 = .ok (.iload_n 1, 1) := by decide +kernel
theorem dX12_delay_2 : decode cX12_delay 2 = .ok (.invokevirtual 121, 3) := by decide +kernel
theorem dX12_delay_5 : decode cX12_delay 5 = .ok (.ifCond .eq 14, 3) := by decide +kernel
theorem dX12_delay_8 : decode cX12_delay 8 = .ok (.iload_n 2, 1) := by decide +kernel
theorem dX12_delay_9 : decode cX12_delay 9 = .ok (.ifCond .lt 10, 3) := by decide +kernel
theorem dX12_delay_12 : decode cX12_delay 12 = .ok (.iload_n 2, 1) := by decide +kernel
theorem dX12_delay_13 : decode cX12_delay 13 = .ok (.sipush 300, 3) := by decide +kernel
theorem dX12_delay_16 : decode cX12_delay 16 = .ok (.if_icmp .le 5, 3) := by decide +kernel
theorem dX12_delay_19 : decode cX12_delay 19 = .ok (.iconst 0, 1) := by decide +kernel
theorem dX12_delay_20 : decode cX12_delay 20 = .ok (.ireturn, 1) := by decide +kernel
theorem dX12_delay_21 : decode cX12_delay 21 = .ok (.aload_n 0, 1) := by decide +kernel
theorem dX12_delay_22 : decode cX12_delay 22 = .ok (.getfield 88, 3) := by decide +kernel
theorem dX12_delay_25 : decode cX12_delay 25 = .ok (.iload_n 1, 1) := by decide +kernel
theorem dX12_delay_26 : decode cX12_delay 26 = .ok (.iload_n 2, 1) := by decide +kernel
theorem dX12_delay_27 : decode cX12_delay 27 = .ok (.iastore, 1) := by decide +kernel
theorem dX12_delay_28 : decode cX12_delay 28 = .ok (.iconst 1, 1) := by decide +kernel
theorem dX12_delay_29 : decode cX12_delay 29 = .ok (.ireturn, 1) := by decide +kernel
set_option maxHeartbeats 4000000 in
set_option maxRecDepth 20000 in
theorem c_X12_delay (l : Launch) (b : Nat) (D : va_G) (cy : Nat → ClassId) {tt : Nat} {M : xMm} {z y : Int} (hR : MR M) (hz : inR z) (hy : inR y) : xC l b D cy yX12_delay cX12_delay 3 (some .boolean) ({ frames := 1, cells := 0, slots := 0, locals := 21 }) [xr 172, xi z, xi y] 209 M (RS tt) (xPi 209 (RS tt) (fun r M' => MR M' ∧ ∀ a, a ≠ 181 → M' a = M a)) := by
  refine x_met (by decide) (Nat.le_of_ble_eq_true rfl) (fun g hg hr he => ?_)
  obtain ⟨hb, hm⟩ := MR_many hR
  refine x_canon (ls' := [(0, _), (1, _), (2, _)]) rfl ?_
  refine x_aload_n hg dX12_delay_0 rfl ?_
  refine x_iload_n hg dX12_delay_1 rfl ?_
  refine x_cVi hg he [_] [] dX12_delay_2 mv_X12_121 (c_X12_isTrain l b D cy hR (by omega)) (by decide) rfl rfl (Nat.le_of_ble_eq_true rfl) (by decide) (by decide) (fun r2 M2 q2 => ?_)
  obtain ⟨h2, e2⟩ := q2
  replace h2 := h2.symm
  subst h2
  refine x_if_eq (tgt := 19) hg dX12_delay_5 (by decide) (by omega) (fun c5 => ?_) (fun c5 => ?_)
  · skip
    refine x_iconst hg dX12_delay_19 ?_
    refine x_iret hg hr (Or.inr ⟨rfl, by first | exact Or.inl rfl | exact Or.inr rfl | omega⟩) dX12_delay_20 (Nat.le_refl _) (Nat.le_refl _) ?_
    exact ⟨rfl, rfl, _, rfl, hR, fun a _ => rfl⟩
  · skip
    refine x_iload_n hg dX12_delay_8 rfl ?_
    refine x_if_lt (tgt := 19) hg dX12_delay_9 (by decide) (by omega) (fun c9 => ?_) (fun c9 => ?_)
    · skip
      refine x_iconst hg dX12_delay_19 ?_
      refine x_iret hg hr (Or.inr ⟨rfl, by first | exact Or.inl rfl | exact Or.inr rfl | omega⟩) dX12_delay_20 (Nat.le_refl _) (Nat.le_refl _) ?_
      exact ⟨rfl, rfl, _, rfl, hR, fun a _ => rfl⟩
    · skip
      refine x_iload_n hg dX12_delay_12 rfl ?_
      refine x_sipush hg dX12_delay_13 (by decide) ?_
      refine x_icmp_le (tgt := 21) hg dX12_delay_16 (by decide) (by omega) (by omega) (fun c16 => ?_) (fun c16 => ?_)
      · skip
        refine x_aload_n hg dX12_delay_21 rfl ?_
        refine x_getR (j9 := 181) hg dX12_delay_22 fl_X12_88 (by decide) rfl rfl (by decide) ?_
        refine x_iload_n hg dX12_delay_25 rfl ?_
        refine x_iload_n hg dX12_delay_26 rfl ?_
        refine x_iastore (len := 8) hg dX12_delay_27 (by decide) (by omega)  ?_
        refine x_iconst hg dX12_delay_28 ?_
        refine x_iret hg hr (Or.inr ⟨rfl, by first | exact Or.inl rfl | exact Or.inr rfl | omega⟩) dX12_delay_29 (Nat.le_refl _) (Nat.le_refl _) ?_
        refine ⟨rfl, rfl, _, rfl, ?_, fun a h1 => by funext c; exact mu_nc h1⟩
        obtain ⟨h1, h2, h3, h4, h5, h6⟩ := hR
        refine ⟨by rw [mu_nc (by decide)]; exact h1, fun k hk => by rw [mu_nc (by decide)]; exact h2 k hk, fun t ht => ?_, fun t ht => by rw [mu_nc (by decide), mu_nc (by decide), mu_nc (by decide)]; exact h4 t ht, fun j hj => by rw [mu_nc (by decide), mu_nc (by decide)]; exact h5 j hj, fun t k ht hk => by rw [mu_nc (by decide)] at hk; rw [mu_nc (by decide), mu_nc (by decide)]; exact h6 t k ht hk⟩
        by_cases e : t = z.toNat
        · subst e; rw [mu_s]; omega
        · rw [mu_nf e]; exact h3 t ht
      · skip
        refine x_iconst hg dX12_delay_19 ?_
        refine x_iret hg hr (Or.inr ⟨rfl, by first | exact Or.inl rfl | exact Or.inr rfl | omega⟩) dX12_delay_20 (Nat.le_refl _) (Nat.le_refl _) ?_
        exact ⟨rfl, rfl, _, rfl, hR, fun a _ => rfl⟩
