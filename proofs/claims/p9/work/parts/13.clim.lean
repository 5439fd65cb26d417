/-! ===== the climate ===== -/
/-- the warmth told last at or ahead of an hour (k: how many hours are looked at), and first at or behind it; -1: none -/
def wAc (M : xMm) (a : Nat) : Nat → Int
  | 0 => -1
  | k + 1 => if M a k = -1 then wAc M a k else M a k
def wBc (M : xMm) (a : Nat) : Nat → Int
  | 0 => -1
  | k + 1 => if M a (23 - k) = -1 then wBc M a k else M a (23 - k)
/-- the warmth of an hour, from the told ones in the cell a -/
def wOf (M : xMm) (a h : Nat) : Int :=
  if wAc M a (min h 23 + 1) = -1 then (if wBc M a (24 - min h 23) = -1 then 10 else wBc M a (24 - min h 23)) else (if wBc M a (24 - min h 23) = -1 then wAc M a (min h 23 + 1) else (wAc M a (min h 23 + 1) + wBc M a (24 - min h 23)) / 2)
def rate (M : xMm) (a h : Nat) : Int := if wOf M a h < 4 then 0 else wOf M a h - 4
def ITo (M : xMm) (a : Nat) : Prop := ∀ h, h < 24 → -1 ≤ M a h ∧ M a h ≤ 40
theorem wAc_le {M : xMm} {a : Nat} (h : ITo M a) : ∀ k, k ≤ 24 → -1 ≤ wAc M a k ∧ wAc M a k ≤ 40
  | 0, _ => by simp [wAc]
  | k + 1, hk => by
    have ih := wAc_le h k (by omega)
    have := h k (by omega)
    simp only [wAc]
    split <;> omega
theorem wBc_le {M : xMm} {a : Nat} (h : ITo M a) : ∀ k, k ≤ 24 → -1 ≤ wBc M a k ∧ wBc M a k ≤ 40
  | 0, _ => by simp [wBc]
  | k + 1, hk => by
    have ih := wBc_le h k (by omega)
    have := h (23 - k) (by omega)
    simp only [wBc]
    split <;> omega
theorem wOf_le {M : xMm} {a : Nat} (h : ITo M a) (hr : Nat) : 0 ≤ wOf M a hr ∧ wOf M a hr ≤ 40 := by
  have h1 := wAc_le h (min hr 23 + 1) (by omega)
  have h2 := wBc_le h (24 - min hr 23) (by omega)
  unfold wOf
  split <;> split <;> omega
theorem rate_le {M : xMm} {a : Nat} (h : ITo M a) (hr : Nat) : 0 ≤ rate M a hr ∧ rate M a hr ≤ 36 := by
  have h1 := wOf_le h hr
  unfold rate
  split <;> omega
theorem wAc_congr {M M' : xMm} {a a' : Nat} (h : ∀ k, k < 24 → M' a' k = M a k) : ∀ k, k ≤ 24 → wAc M' a' k = wAc M a k
  | 0, _ => rfl
  | k + 1, hk => by simp only [wAc, h k (by omega), wAc_congr h k (by omega)]
theorem wBc_congr {M M' : xMm} {a a' : Nat} (h : ∀ k, k < 24 → M' a' k = M a k) : ∀ k, k ≤ 24 → wBc M' a' k = wBc M a k
  | 0, _ => rfl
  | k + 1, hk => by simp only [wBc, h (23 - k) (by omega), wBc_congr h k (by omega)]
theorem wOf_congr {M M' : xMm} {a a' : Nat} (h : ∀ k, k < 24 → M' a' k = M a k) (hr : Nat) : wOf M' a' hr = wOf M a hr := by
  simp only [wOf, wAc_congr h _ (show min hr 23 + 1 ≤ 24 by omega), wBc_congr h _ (show 24 - min hr 23 ≤ 24 by omega)]
theorem rate_congr {M M' : xMm} {a a' : Nat} (h : ∀ k, k < 24 → M' a' k = M a k) (hr : Nat) : rate M' a' hr = rate M a hr := by simp only [rate, wOf_congr h]
/-- the climate's cells -/
def IC (M : xMm) : Prop := ITo M 58 ∧ (∀ s, s < 10 → M 59 s = 0 ∨ M 59 s = 1) ∧ ∀ h, h < 29 → M 60 h = rate M 58 h ∧ (0 ≤ M 61 h ∧ M 61 h ≤ 62640) ∧ (0 ≤ M 62 h ∧ M 62 h ≤ 62640)
theorem IC_rate {M : xMm} (h : IC M) {k : Nat} (hk : k < 29) : 0 ≤ M 60 k ∧ M 60 k ≤ 36 := by
  have h1 := rate_le h.1 k
  have h2 := (h.2.2 k hk).1
  omega
theorem IC_congr {M M' : xMm} (h : IC M) (e : ∀ a, 58 ≤ a → a ≤ 62 → M' a = M a) : IC M' := by
  have e58 := e 58 (by omega) (by omega)
  have e59 := e 59 (by omega) (by omega)
  have e60 := e 60 (by omega) (by omega)
  have e61 := e 61 (by omega) (by omega)
  have e62 := e 62 (by omega) (by omega)
  obtain ⟨h1, h2, h3⟩ := h
  refine ⟨fun k hk => by rw [e58]; exact h1 k hk, fun s hs => by rw [e59]; exact h2 s hs, fun k hk => ?_⟩
  rw [e60, e61, e62, rate_congr (M := M) (fun j _ => by rw [e58])]
  exact h3 k hk
theorem oC {n : Nat} (hn : 62 ≤ n) : xO n 57 2 := ⟨by decide, by omega, by decide⟩
theorem aC0 {n : Nat} (hn : 62 ≤ n) : xA n 58 0 24 := ⟨by decide, by omega, by decide, by decide⟩
theorem aC1 {n : Nat} (hn : 62 ≤ n) : xA n 59 2 10 := ⟨by decide, by omega, by decide, by decide⟩
theorem aC2 {n : Nat} (hn : 62 ≤ n) : xA n 60 0 29 := ⟨by decide, by omega, by decide, by decide⟩
theorem aC3 {n : Nat} (hn : 62 ≤ n) : xA n 61 0 29 := ⟨by decide, by omega, by decide, by decide⟩
theorem aC4 {n : Nat} (hn : 62 ≤ n) : xA n 62 0 29 := ⟨by decide, by omega, by decide, by decide⟩

theorem dX2_warmthOf_0 : decode cX2_warmthOf 0 = .ok (.iload_n 1, 1) := by decide +kernel
theorem dX2_warmthOf_1 : decode cX2_warmthOf 1 = .ok (.bipush 23, 2) := by decide +kernel
theorem dX2_warmthOf_3 : decode cX2_warmthOf 3 = .ok (.invokestatic 49, 3) := by decide +kernel
theorem dX2_warmthOf_6 : decode cX2_warmthOf 6 = .ok (.istore_n 2, 1) := by decide +kernel
theorem dX2_warmthOf_7 : decode cX2_warmthOf 7 = .ok (.iconst (-1), 1) := by decide +kernel
theorem dX2_warmthOf_8 : decode cX2_warmthOf 8 = .ok (.istore_n 3, 1) := by decide +kernel
theorem dX2_warmthOf_9 : decode cX2_warmthOf 9 = .ok (.iload_n 2, 1) := by decide +kernel
theorem dX2_warmthOf_10 : decode cX2_warmthOf 10 = .ok (.istore 4, 2) := by decide +kernel
theorem dX2_warmthOf_12 : decode cX2_warmthOf 12 = .ok (.iload 4, 2) := by decide +kernel
theorem dX2_warmthOf_14 : decode cX2_warmthOf 14 = .ok (.ifCond .lt 22, 3) := by decide +kernel
theorem dX2_warmthOf_17 : decode cX2_warmthOf 17 = .ok (.iload_n 3, 1) := by decide +kernel
theorem dX2_warmthOf_18 : decode cX2_warmthOf 18 = .ok (.iconst (-1), 1) := by decide +kernel
theorem dX2_warmthOf_19 : decode cX2_warmthOf 19 = .ok (.if_icmp .ne 17, 3) := by decide +kernel
theorem dX2_warmthOf_22 : decode cX2_warmthOf 22 = .ok (.aload_n 0, 1) := by decide +kernel
theorem dX2_warmthOf_23 : decode cX2_warmthOf 23 = .ok (.getfield 9, 3) := by decide +kernel
theorem dX2_warmthOf_26 : decode cX2_warmthOf 26 = .ok (.iload 4, 2) := by decide +kernel
theorem dX2_warmthOf_28 : decode cX2_warmthOf 28 = .ok (.iaload, 1) := by decide +kernel
theorem dX2_warmthOf_29 : decode cX2_warmthOf 29 = .ok (.istore_n 3, 1) := by decide +kernel
theorem dX2_warmthOf_30 : decode cX2_warmthOf 30 = .ok (.iinc 4 (-1), 3) := by decide +kernel
theorem dX2_warmthOf_33 : decode cX2_warmthOf 33 = .ok (.goto (-21), 3) := by decide +kernel
theorem dX2_warmthOf_36 : decode cX2_warmthOf 36 = .ok (.iconst (-1), 1) := by decide +kernel
theorem dX2_warmthOf_37 : decode cX2_warmthOf 37 = .ok (.istore 4, 2) := by decide +kernel
theorem dX2_warmthOf_39 : decode cX2_warmthOf 39 = .ok (.iload_n 2, 1) := by decide +kernel
theorem dX2_warmthOf_40 : decode cX2_warmthOf 40 = .ok (.istore 5, 2) := by decide +kernel
theorem dX2_warmthOf_42 : decode cX2_warmthOf 42 = .ok (.iload 5, 2) := by decide +kernel
theorem dX2_warmthOf_44 : decode cX2_warmthOf 44 = .ok (.ifCond .lt 31, 3) := by decide +kernel
theorem dX2_warmthOf_47 : decode cX2_warmthOf 47 = .ok (.iload 5, 2) := by decide +kernel
theorem dX2_warmthOf_49 : decode cX2_warmthOf 49 = .ok (.bipush 24, 2) := by decide +kernel
theorem dX2_warmthOf_51 : decode cX2_warmthOf 51 = .ok (.if_icmp .ge 24, 3) := by decide +kernel
theorem dX2_warmthOf_54 : decode cX2_warmthOf 54 = .ok (.iload 4, 2) := by decide +kernel
theorem dX2_warmthOf_56 : decode cX2_warmthOf 56 = .ok (.iconst (-1), 1) := by decide +kernel
theorem dX2_warmthOf_57 : decode cX2_warmthOf 57 = .ok (.if_icmp .ne 18, 3) := by decide +kernel
theorem dX2_warmthOf_60 : decode cX2_warmthOf 60 = .ok (.aload_n 0, 1) := by decide +kernel
theorem dX2_warmthOf_61 : decode cX2_warmthOf 61 = .ok (.getfield 9, 3) := by decide +kernel
theorem dX2_warmthOf_64 : decode cX2_warmthOf 64 = .ok (.iload 5, 2) := by decide +kernel
theorem dX2_warmthOf_66 : decode cX2_warmthOf 66 = .ok (.iaload, 1) := by decide +kernel
theorem dX2_warmthOf_67 : decode cX2_warmthOf 67 = .ok (.istore 4, 2) := by decide +kernel
theorem dX2_warmthOf_69 : decode cX2_warmthOf 69 = .ok (.iinc 5 1, 3) := by decide +kernel
theorem dX2_warmthOf_72 : decode cX2_warmthOf 72 = .ok (.goto (-30), 3) := by decide +kernel
theorem dX2_warmthOf_75 : decode cX2_warmthOf 75 = .ok (.iload_n 3, 1) := by decide +kernel
theorem dX2_warmthOf_76 : decode cX2_warmthOf 76 = .ok (.iconst (-1), 1) := by decide +kernel
theorem dX2_warmthOf_77 : decode cX2_warmthOf 77 = .ok (.if_icmp .ne 17, 3) := by decide +kernel
theorem dX2_warmthOf_80 : decode cX2_warmthOf 80 = .ok (.iload 4, 2) := by decide +kernel
theorem dX2_warmthOf_82 : decode cX2_warmthOf 82 = .ok (.iconst (-1), 1) := by decide +kernel
theorem dX2_warmthOf_83 : decode cX2_warmthOf 83 = .ok (.if_icmp .ne 8, 3) := by decide +kernel
theorem dX2_warmthOf_86 : decode cX2_warmthOf 86 = .ok (.bipush 10, 2) := by decide +kernel
theorem dX2_warmthOf_88 : decode cX2_warmthOf 88 = .ok (.goto 5, 3) := by decide +kernel
theorem dX2_warmthOf_91 : decode cX2_warmthOf 91 = .ok (.iload 4, 2) := by decide +kernel
theorem dX2_warmthOf_93 : decode cX2_warmthOf 93 = .ok (.ireturn, 1) := by decide +kernel
theorem dX2_warmthOf_94 : decode cX2_warmthOf 94 = .ok (.iload 4, 2) := by decide +kernel
theorem dX2_warmthOf_96 : decode cX2_warmthOf 96 = .ok (.iconst (-1), 1) := by decide +kernel
theorem dX2_warmthOf_97 : decode cX2_warmthOf 97 = .ok (.if_icmp .ne 7, 3) := by decide +kernel
theorem dX2_warmthOf_100 : decode cX2_warmthOf 100 = .ok (.iload_n 3, 1) := by decide +kernel
theorem dX2_warmthOf_101 : decode cX2_warmthOf 101 = .ok (.goto 9, 3) := by decide +kernel
theorem dX2_warmthOf_104 : decode cX2_warmthOf 104 = .ok (.iload_n 3, 1) := by decide +kernel
theorem dX2_warmthOf_105 : decode cX2_warmthOf 105 = .ok (.iload 4, 2) := by decide +kernel
theorem dX2_warmthOf_107 : decode cX2_warmthOf 107 = .ok (.iadd, 1) := by decide +kernel
theorem dX2_warmthOf_108 : decode cX2_warmthOf 108 = .ok (.iconst 2, 1) := by decide +kernel
theorem dX2_warmthOf_109 : decode cX2_warmthOf 109 = .ok (.idiv, 1) := by decide +kernel
theorem dX2_warmthOf_110 : decode cX2_warmthOf 110 = .ok (.ireturn, 1) := by decide +kernel
set_option maxHeartbeats 4000000 in
set_option maxRecDepth 20000 in
theorem c_X2_warmthOf (l : Launch) (b : Nat) (D : va_G) (cy : Nat → ClassId) {n : Nat} {R : xRm} {M : xMm} {z : Int} (hn : 62 ≤ n) (hR : ∀ k, k < 5 → R 57 k = 58 + k) (hT : ITo M 58) (hz : 0 ≤ z ∧ z ≤ 2147483647) : xC l b D cy yX2_warmthOf cX2_warmthOf 6 (some .int) ({ frames := 1, cells := 0, slots := 0, locals := 21 }) [xr 57, xi z] n M R (xPi n R (fun r M' => M' = M ∧ r = wOf M 58 z.toNat)) := by
  refine x_met (by decide) (Nat.le_of_ble_eq_true rfl) (fun g hg hr he => ?_)
  refine x_canon (ls' := [(0, _), (1, _)]) rfl ?_
  obtain ⟨H, hH⟩ : ∃ H : Nat, H = min z.toNat 23 := ⟨_, rfl⟩
  have hA := wAc_le hT (H + 1) (by omega)
  have hB := wBc_le hT (24 - H) (by omega)
  have j75 : xW g n M R 0 0 75 [(0, xr 57), (1, xi z), (2, xi (H : Int)), (3, xi (wAc M 58 (H + 1))), (4, xi (wBc M 58 (24 - H)))] [] := by
    refine x_iload_n hg dX2_warmthOf_75 rfl ?_
    refine x_iconst hg dX2_warmthOf_76 ?_
    refine x_icmp_ne (tgt := 94) hg dX2_warmthOf_77 (by decide) (by omega) (by omega) (fun c77 => ?_) (fun c77 => ?_)
    · skip
      refine x_iload hg dX2_warmthOf_94 rfl ?_
      refine x_iconst hg dX2_warmthOf_96 ?_
      refine x_icmp_ne (tgt := 104) hg dX2_warmthOf_97 (by decide) (by omega) (by omega) (fun c97 => ?_) (fun c97 => ?_)
      · skip
        refine x_iload_n hg dX2_warmthOf_104 rfl ?_
        refine x_iload hg dX2_warmthOf_105 rfl ?_
        refine x_iadd hg dX2_warmthOf_107 ?_
        refine x_iconst hg dX2_warmthOf_108 ?_
        refine x_idiv hg dX2_warmthOf_109 (by omega) (by omega) ?_
        refine x_iret hg hr (Or.inl rfl) dX2_warmthOf_110 (Nat.le_refl _) (Nat.le_refl _) ?_
        refine ⟨rfl, rfl, _, rfl, rfl, ?_⟩
        unfold wOf
        rw [← hH]
        repeat (first | rw [if_pos (by omega)] | rw [if_neg (by omega)])
      · skip
        refine x_iload_n hg dX2_warmthOf_100 rfl ?_
        refine x_goto (tgt := 110) hg dX2_warmthOf_101 (by decide) ?_
        refine x_iret hg hr (Or.inl rfl) dX2_warmthOf_110 (Nat.le_refl _) (Nat.le_refl _) ?_
        refine ⟨rfl, rfl, _, rfl, rfl, ?_⟩
        unfold wOf
        rw [← hH]
        repeat (first | rw [if_pos (by omega)] | rw [if_neg (by omega)])
    · skip
      refine x_iload hg dX2_warmthOf_80 rfl ?_
      refine x_iconst hg dX2_warmthOf_82 ?_
      refine x_icmp_ne (tgt := 91) hg dX2_warmthOf_83 (by decide) (by omega) (by omega) (fun c83 => ?_) (fun c83 => ?_)
      · skip
        refine x_iload hg dX2_warmthOf_91 rfl ?_
        refine x_iret hg hr (Or.inl rfl) dX2_warmthOf_93 (Nat.le_refl _) (Nat.le_refl _) ?_
        refine ⟨rfl, rfl, _, rfl, rfl, ?_⟩
        unfold wOf
        rw [← hH]
        repeat (first | rw [if_pos (by omega)] | rw [if_neg (by omega)])
      · skip
        refine x_bipush hg dX2_warmthOf_86 (by decide) ?_
        refine x_goto (tgt := 93) hg dX2_warmthOf_88 (by decide) ?_
        refine x_iret hg hr (Or.inl rfl) dX2_warmthOf_93 (Nat.le_refl _) (Nat.le_refl _) ?_
        refine ⟨rfl, rfl, _, rfl, rfl, ?_⟩
        unfold wOf
        rw [← hH]
        repeat (first | rw [if_pos (by omega)] | rw [if_neg (by omega)])
  have loop2 : ∀ (c : Nat) (i a : Int), 0 ≤ i → i ≤ 24 → 24 - i < c → -1 ≤ a → a ≤ 40 → (a = -1 ∧ wBc M 58 (24 - H) = wBc M 58 (24 - i).toNat ∨ a ≠ -1 ∧ a = wBc M 58 (24 - H)) → xW g n M R 0 0 42 [(0, xr 57), (1, xi z), (2, xi (H : Int)), (3, xi (wAc M 58 (H + 1))), (4, xi a), (5, xi i)] [] := by
    intro c
    induction c with
    | zero => intro i a h1 h2 h3; exact absurd h3 (by omega)
    | succ c ih =>
      intro i a hi1 hi2 hi3 ha1 ha2 hv
      refine x_iload hg dX2_warmthOf_42 rfl ?_
      refine x_if_lt (tgt := 75) hg dX2_warmthOf_44 (by decide) (by omega) (fun c44 => ?_) (fun c44 => ?_)
      · skip
        refine x_canon (ls' := [(0, _), (1, _), (2, _), (3, _), (4, _)]) rfl ?_
        have e9 : a = wBc M 58 (24 - H) := by
          rcases hv with ⟨h1, h2⟩ | ⟨h1, h2⟩
          · first | (exact absurd h1 (by omega)) | (rw [h1, h2, show (24 - i).toNat = 0 by omega]; rfl)
          · exact h2
        rw [e9]
        exact j75
      · skip
        refine x_iload hg dX2_warmthOf_47 rfl ?_
        refine x_bipush hg dX2_warmthOf_49 (by decide) ?_
        refine x_icmp_ge (tgt := 75) hg dX2_warmthOf_51 (by decide) (by omega) (by omega) (fun c51 => ?_) (fun c51 => ?_)
        · skip
          refine x_canon (ls' := [(0, _), (1, _), (2, _), (3, _), (4, _)]) rfl ?_
          have e9 : a = wBc M 58 (24 - H) := by
            rcases hv with ⟨h1, h2⟩ | ⟨h1, h2⟩
            · first | (exact absurd h1 (by omega)) | (rw [h1, h2, show (24 - i).toNat = 0 by omega]; rfl)
            · exact h2
          rw [e9]
          exact j75
        · skip
          refine x_iload hg dX2_warmthOf_54 rfl ?_
          refine x_iconst hg dX2_warmthOf_56 ?_
          refine x_icmp_ne (tgt := 75) hg dX2_warmthOf_57 (by decide) (by omega) (by omega) (fun c57 => ?_) (fun c57 => ?_)
          · skip
            refine x_canon (ls' := [(0, _), (1, _), (2, _), (3, _), (4, _)]) rfl ?_
            have e9 : a = wBc M 58 (24 - H) := by
              rcases hv with ⟨h1, h2⟩ | ⟨h1, h2⟩
              · first | (exact absurd h1 (by omega)) | (rw [h1, h2, show (24 - i).toNat = 0 by omega]; rfl)
              · exact h2
            rw [e9]
            exact j75
          · skip
            refine x_aload_n hg dX2_warmthOf_60 rfl ?_
            refine x_getR (j9 := 58) hg dX2_warmthOf_61 fl_X2_9 (oC hn) rfl (hR 0 (by decide)) (by decide) ?_
            refine x_iload hg dX2_warmthOf_64 rfl ?_
            refine x_iaload (len := 24) hg dX2_warmthOf_66 (aC0 hn) (by omega) ?_
            refine x_istore (ls' := [(0, _), (1, _), (2, _), (3, _), (4, _), (5, _)]) hg dX2_warmthOf_67 (by decide) rfl ?_
            refine x_iinc (ls' := [(0, _), (1, _), (2, _), (3, _), (4, _), (5, _)]) hg dX2_warmthOf_69 rfl (by decide) rfl ?_
            refine x_goto (tgt := 42) hg dX2_warmthOf_72 (by decide) ?_
            have ht := hT i.toNat (by omega)
            have e8 : (24 - i).toNat = (24 - (i + 1)).toNat + 1 := by omega
            have e7 : 23 - (24 - (i + 1)).toNat = i.toNat := by omega
            have hv2 : wBc M 58 (24 - H) = wBc M 58 (24 - i).toNat := by
              rcases hv with ⟨h1, h2⟩ | ⟨h1, h2⟩
              · exact h2
              · exact absurd h1 (by omega)
            rw [e8] at hv2
            simp only [wBc, e7] at hv2
            refine ih _ _ (by omega) (by omega) (by omega) ht.1 ht.2 ?_
            by_cases hm : M 58 i.toNat = -1
            · rw [if_pos hm] at hv2
              exact Or.inl ⟨hm, hv2⟩
            · rw [if_neg hm] at hv2
              exact Or.inr ⟨hm, hv2.symm⟩
  have loop1 : ∀ (c : Nat) (i a : Int), -1 ≤ i → i ≤ 23 → i < c → -1 ≤ a → a ≤ 40 → (a = -1 ∧ wAc M 58 (H + 1) = wAc M 58 (i + 1).toNat ∨ a ≠ -1 ∧ a = wAc M 58 (H + 1)) → xW g n M R 0 0 12 [(0, xr 57), (1, xi z), (2, xi (H : Int)), (3, xi a), (4, xi i)] [] := by
    intro c
    induction c with
    | zero =>
      intro i a hi1 hi2 hi3 ha1 ha2 hv
      refine x_iload hg dX2_warmthOf_12 rfl ?_
      refine x_if_lt (tgt := 36) hg dX2_warmthOf_14 (by decide) (by omega) (fun c14 => ?_) (fun c14 => ?_)
      · skip
        have e9 : a = wAc M 58 (H + 1) := by
          rcases hv with ⟨h1, h2⟩ | ⟨h1, h2⟩
          · first | (exact absurd h1 (by omega)) | (rw [h1, h2, show (i + 1).toNat = 0 by omega]; rfl)
          · exact h2
        rw [e9]
        refine x_iconst hg dX2_warmthOf_36 ?_
        refine x_istore (ls' := [(0, _), (1, _), (2, _), (3, _), (4, _)]) hg dX2_warmthOf_37 (by decide) rfl ?_
        refine x_iload_n hg dX2_warmthOf_39 rfl ?_
        refine x_istore (ls' := [(0, _), (1, _), (2, _), (3, _), (4, _), (5, _)]) hg dX2_warmthOf_40 (by decide) rfl ?_
        exact loop2 25 H (-1) (by omega) (by omega) (by omega) (by omega) (by omega) (Or.inl ⟨rfl, by rw [show (24 - (H : Int)).toNat = 24 - H by omega]⟩)
      · skip
        exact absurd hi3 (by omega)
    | succ c ih =>
      intro i a hi1 hi2 hi3 ha1 ha2 hv
      refine x_iload hg dX2_warmthOf_12 rfl ?_
      refine x_if_lt (tgt := 36) hg dX2_warmthOf_14 (by decide) (by omega) (fun c14 => ?_) (fun c14 => ?_)
      · skip
        have e9 : a = wAc M 58 (H + 1) := by
          rcases hv with ⟨h1, h2⟩ | ⟨h1, h2⟩
          · first | (exact absurd h1 (by omega)) | (rw [h1, h2, show (i + 1).toNat = 0 by omega]; rfl)
          · exact h2
        rw [e9]
        refine x_iconst hg dX2_warmthOf_36 ?_
        refine x_istore (ls' := [(0, _), (1, _), (2, _), (3, _), (4, _)]) hg dX2_warmthOf_37 (by decide) rfl ?_
        refine x_iload_n hg dX2_warmthOf_39 rfl ?_
        refine x_istore (ls' := [(0, _), (1, _), (2, _), (3, _), (4, _), (5, _)]) hg dX2_warmthOf_40 (by decide) rfl ?_
        exact loop2 25 H (-1) (by omega) (by omega) (by omega) (by omega) (by omega) (Or.inl ⟨rfl, by rw [show (24 - (H : Int)).toNat = 24 - H by omega]⟩)
      · skip
        refine x_iload_n hg dX2_warmthOf_17 rfl ?_
        refine x_iconst hg dX2_warmthOf_18 ?_
        refine x_icmp_ne (tgt := 36) hg dX2_warmthOf_19 (by decide) (by omega) (by omega) (fun c19 => ?_) (fun c19 => ?_)
        · skip
          have e9 : a = wAc M 58 (H + 1) := by
            rcases hv with ⟨h1, h2⟩ | ⟨h1, h2⟩
            · first | (exact absurd h1 (by omega)) | (rw [h1, h2, show (i + 1).toNat = 0 by omega]; rfl)
            · exact h2
          rw [e9]
          refine x_iconst hg dX2_warmthOf_36 ?_
          refine x_istore (ls' := [(0, _), (1, _), (2, _), (3, _), (4, _)]) hg dX2_warmthOf_37 (by decide) rfl ?_
          refine x_iload_n hg dX2_warmthOf_39 rfl ?_
          refine x_istore (ls' := [(0, _), (1, _), (2, _), (3, _), (4, _), (5, _)]) hg dX2_warmthOf_40 (by decide) rfl ?_
          exact loop2 25 H (-1) (by omega) (by omega) (by omega) (by omega) (by omega) (Or.inl ⟨rfl, by rw [show (24 - (H : Int)).toNat = 24 - H by omega]⟩)
        · skip
          refine x_aload_n hg dX2_warmthOf_22 rfl ?_
          refine x_getR (j9 := 58) hg dX2_warmthOf_23 fl_X2_9 (oC hn) rfl (hR 0 (by decide)) (by decide) ?_
          refine x_iload hg dX2_warmthOf_26 rfl ?_
          refine x_iaload (len := 24) hg dX2_warmthOf_28 (aC0 hn) (by omega) ?_
          refine x_istore_n (ls' := [(0, _), (1, _), (2, _), (3, _), (4, _)]) hg dX2_warmthOf_29 rfl (by decide) rfl ?_
          refine x_iinc (ls' := [(0, _), (1, _), (2, _), (3, _), (4, _)]) hg dX2_warmthOf_30 rfl (by decide) rfl ?_
          refine x_goto (tgt := 12) hg dX2_warmthOf_33 (by decide) ?_
          have ht := hT i.toNat (by omega)
          have e8 : (i + 1).toNat = i.toNat + 1 := by omega
          have e7 : (i + -1 + 1).toNat = i.toNat := by omega
          have hv2 : wAc M 58 (H + 1) = wAc M 58 (i + 1).toNat := by
            rcases hv with ⟨h1, h2⟩ | ⟨h1, h2⟩
            · exact h2
            · exact absurd h1 (by omega)
          rw [e8] at hv2
          simp only [wAc] at hv2
          refine ih _ _ (by omega) (by omega) (by omega) ht.1 ht.2 ?_
          rw [e7]
          by_cases hm : M 58 i.toNat = -1
          · rw [if_pos hm] at hv2
            exact Or.inl ⟨hm, hv2⟩
          · rw [if_neg hm] at hv2
            exact Or.inr ⟨hm, hv2.symm⟩
  refine x_iload_n hg dX2_warmthOf_0 rfl ?_
  refine x_bipush hg dX2_warmthOf_1 (by decide) ?_
  refine x_min hg dX2_warmthOf_3 (List.mem_of_getElem? (i := 212) (by decide +kernel)) (by omega) (by omega) ⟨by decide, Nat.le_of_ble_eq_true rfl⟩ (by decide) ?_
  refine x_istore_n (ls' := [(0, _), (1, _), (2, _)]) hg dX2_warmthOf_6 rfl (by decide) rfl ?_
  have e9 : (if (23 : Int) < z then 23 else z) = (H : Int) := by split <;> omega
  rw [e9]
  refine x_iconst hg dX2_warmthOf_7 ?_
  refine x_istore_n (ls' := [(0, _), (1, _), (2, _), (3, _)]) hg dX2_warmthOf_8 rfl (by decide) rfl ?_
  refine x_iload_n hg dX2_warmthOf_9 rfl ?_
  refine x_istore (ls' := [(0, _), (1, _), (2, _), (3, _), (4, _)]) hg dX2_warmthOf_10 (by decide) rfl ?_
  exact loop1 24 H (-1) (by omega) (by omega) (by omega) (by omega) (by omega) (Or.inl ⟨rfl, by rw [show ((H : Int) + 1).toNat = H + 1 by omega]⟩)
