theorem bByte_r (x : Int) : -128 ≤ bByte x ∧ bByte x ≤ 127 := by
  show -128 ≤ (Int32.ofInt x).toInt8.toInt32.toInt ∧ (Int32.ofInt x).toInt8.toInt32.toInt ≤ 127
  rw [Int8.toInt_toInt32]
  have h1 := Int8.le_toInt (Int32.ofInt x).toInt8
  have h2 := Int8.toInt_lt (Int32.ofInt x).toInt8
  omega
theorem MT_byte {M : xMm} (hT : MT M) {i : Nat} {z : Int} (hz : -128 ≤ z ∧ z ≤ 127) : MT (mu M 173 i z) := by
  obtain ⟨t1, t2, t3⟩ := hT
  refine ⟨by rw [mu_nc (by decide)]; exact t1, fun j => ?_, fun j => by rw [mu_nc (by decide)]; exact t3 j⟩
  by_cases ej : j = i
  · subst ej; rw [mu_s]; exact hz
  · rw [mu_nf ej]; exact t2 j
theorem MT_len {M : xMm} (hT : MT M) {z : Int} (hz : 0 ≤ z ∧ z ≤ 1000) : MT (mu M 172 2 z) := by
  obtain ⟨t1, t2, t3⟩ := hT
  exact ⟨by rw [mu_s]; exact hz, fun j => by rw [mu_nc (by decide)]; exact t2 j, fun j => by rw [mu_nc (by decide)]; exact t3 j⟩
/-- what feed and end may change -/
abbrev frF (M' M : xMm) : Prop := (∀ a, a ≠ 172 → a ≠ 173 → M' a = M a) ∧ ∀ f, f ≠ 2 → M' 172 f = M 172 f

theorem dX12_feed_0 : decode cX12_feed 0 = .ok (.aload_n 0, 1) := by decide +kernel
theorem dX12_feed_1 : decode cX12_feed 1 = .ok (.getfield 69, 3) := by decide +kernel
theorem dX12_feed_4 : decode cX12_feed 4 = .ok (.bipush 20, 2) := by decide +kernel
theorem dX12_feed_6 : decode cX12_feed 6 = .ok (.iadd, 1) := by decide +kernel
theorem dX12_feed_7 : decode cX12_feed 7 = .ok (.sipush 1000, 3) := by decide +kernel
theorem dX12_feed_10 : decode cX12_feed 10 = .ok (.if_icmp .le 5, 3) := by decide +kernel
theorem dX12_feed_13 : decode cX12_feed 13 = .ok (.iconst (-1), 1) := by decide +kernel
theorem dX12_feed_14 : decode cX12_feed 14 = .ok (.ireturn, 1) := by decide +kernel
theorem dX12_feed_15 : decode cX12_feed 15 = .ok (.iconst 0, 1) := by decide +kernel
theorem dX12_feed_16 : decode cX12_feed 16 = .ok (.istore 6, 2) := by decide +kernel
theorem dX12_feed_18 : decode cX12_feed 18 = .ok (.iload 6, 2) := by decide +kernel
theorem dX12_feed_20 : decode cX12_feed 20 = .ok (.bipush 20, 2) := by decide +kernel
theorem dX12_feed_22 : decode cX12_feed 22 = .ok (.if_icmp .ge 83, 3) := by decide +kernel
theorem dX12_feed_25 : decode cX12_feed 25 = .ok (.iload 6, 2) := by decide +kernel
theorem dX12_feed_27 : decode cX12_feed 27 = .ok (.iconst 4, 1) := by decide +kernel
theorem dX12_feed_28 : decode cX12_feed 28 = .ok (.if_icmp .ge 7, 3) := by decide +kernel
theorem dX12_feed_31 : decode cX12_feed 31 = .ok (.iload_n 1, 1) := by decide +kernel
theorem dX12_feed_32 : decode cX12_feed 32 = .ok (.goto 39, 3) := by decide +kernel
theorem dX12_feed_35 : decode cX12_feed 35 = .ok (.iload 6, 2) := by decide +kernel
theorem dX12_feed_37 : decode cX12_feed 37 = .ok (.bipush 8, 2) := by decide +kernel
theorem dX12_feed_39 : decode cX12_feed 39 = .ok (.if_icmp .ge 7, 3) := by decide +kernel
theorem dX12_feed_42 : decode cX12_feed 42 = .ok (.iload_n 2, 1) := by decide +kernel
theorem dX12_feed_43 : decode cX12_feed 43 = .ok (.goto 28, 3) := by decide +kernel
theorem dX12_feed_46 : decode cX12_feed 46 = .ok (.iload 6, 2) := by decide +kernel
theorem dX12_feed_48 : decode cX12_feed 48 = .ok (.bipush 12, 2) := by decide +kernel
theorem dX12_feed_50 : decode cX12_feed 50 = .ok (.if_icmp .ge 7, 3) := by decide +kernel
theorem dX12_feed_53 : decode cX12_feed 53 = .ok (.iload_n 3, 1) := by decide +kernel
theorem dX12_feed_54 : decode cX12_feed 54 = .ok (.goto 17, 3) := by decide +kernel
theorem dX12_feed_57 : decode cX12_feed 57 = .ok (.iload 6, 2) := by decide +kernel
theorem dX12_feed_59 : decode cX12_feed 59 = .ok (.bipush 16, 2) := by decide +kernel
theorem dX12_feed_61 : decode cX12_feed 61 = .ok (.if_icmp .ge 8, 3) := by decide +kernel
theorem dX12_feed_64 : decode cX12_feed 64 = .ok (.iload 4, 2) := by decide +kernel
theorem dX12_feed_66 : decode cX12_feed 66 = .ok (.goto 5, 3) := by decide +kernel
theorem dX12_feed_69 : decode cX12_feed 69 = .ok (.iload 5, 2) := by decide +kernel
theorem dX12_feed_71 : decode cX12_feed 71 = .ok (.istore 7, 2) := by decide +kernel
theorem dX12_feed_73 : decode cX12_feed 73 = .ok (.aload_n 0, 1) := by decide +kernel
theorem dX12_feed_74 : decode cX12_feed 74 = .ok (.getfield 72, 3) := by decide +kernel
theorem dX12_feed_77 : decode cX12_feed 77 = .ok (.aload_n 0, 1) := by decide +kernel
theorem dX12_feed_78 : decode cX12_feed 78 = .ok (.getfield 69, 3) := by decide +kernel
theorem dX12_feed_81 : decode cX12_feed 81 = .ok (.iload 6, 2) := by decide +kernel
theorem dX12_feed_83 : decode cX12_feed 83 = .ok (.iadd, 1) := by decide +kernel
theorem dX12_feed_84 : decode cX12_feed 84 = .ok (.iload 7, 2) := by decide +kernel
theorem dX12_feed_86 : decode cX12_feed 86 = .ok (.bipush 24, 2) := by decide +kernel
theorem dX12_feed_88 : decode cX12_feed 88 = .ok (.bipush 8, 2) := by decide +kernel
theorem dX12_feed_90 : decode cX12_feed 90 = .ok (.iload 6, 2) := by decide +kernel
theorem dX12_feed_92 : decode cX12_feed 92 = .ok (.iconst 3, 1) := by decide +kernel
theorem dX12_feed_93 : decode cX12_feed 93 = .ok (.iand, 1) := by decide +kernel
theorem dX12_feed_94 : decode cX12_feed 94 = .ok (.imul, 1) := by decide +kernel
theorem dX12_feed_95 : decode cX12_feed 95 = .ok (.isub, 1) := by decide +kernel
theorem dX12_feed_96 : decode cX12_feed 96 = .ok (.ishr, 1) := by decide +kernel
theorem dX12_feed_97 : decode cX12_feed 97 = .ok (.i2b, 1) := by decide +kernel
theorem dX12_feed_98 : decode cX12_feed 98 = .ok (.bastore, 1) := by decide +kernel
theorem dX12_feed_99 : decode cX12_feed 99 = .ok (.iinc 6 1, 3) := by decide +kernel
theorem dX12_feed_102 : decode cX12_feed 102 = .ok (.goto (-84), 3) := by decide +kernel
theorem dX12_feed_105 : decode cX12_feed 105 = .ok (.aload_n 0, 1) := by decide +kernel
theorem dX12_feed_106 : decode cX12_feed 106 = .ok (.dup, 1) := by decide +kernel
theorem dX12_feed_107 : decode cX12_feed 107 = .ok (.getfield 69, 3) := by decide +kernel
theorem dX12_feed_110 : decode cX12_feed 110 = .ok (.bipush 20, 2) := by decide +kernel
theorem dX12_feed_112 : decode cX12_feed 112 = .ok (.iadd, 1) := by decide +kernel
theorem dX12_feed_113 : decode cX12_feed 113 = .ok (.putfield 69, 3) := by decide +kernel
theorem dX12_feed_116 : decode cX12_feed 116 = .ok (.aload_n 0, 1) := by decide +kernel
theorem dX12_feed_117 : decode cX12_feed 117 = .ok (.getfield 69, 3) := by decide +kernel
theorem dX12_feed_120 : decode cX12_feed 120 = .ok (.ireturn, 1) := by decide +kernel
set_option maxHeartbeats 4000000 in
set_option maxRecDepth 20000 in
theorem c_X12_feed (l : Launch) (b : Nat) (D : va_G) (cy : Nat → ClassId) {tt : Nat} {M0 : xMm} {va vb vc vd ve : Int} (hT0 : MT M0) : xC l b D cy yX12_feed cX12_feed 8 (some .int) ({ frames := 0, cells := 0, slots := 0, locals := 0 }) [xr 172, xi va, xi vb, xi vc, xi vd, xi ve] 209 M0 (RS tt) (xPi 209 (RS tt) (fun r M' => MT M' ∧ frF M' M0)) := by
  refine x_met (by decide) (Nat.le_of_ble_eq_true rfl) (fun g hg hr he => ?_)
  have hl0 := hT0.1
  refine x_canon (ls' := [(0, _), (1, _), (2, _), (3, _), (4, _), (5, _)]) rfl ?_
  have loop : M0 172 2 ≤ 980 → ∀ (n1 : Nat) (M : xMm) (i : Int), 0 ≤ i → i ≤ 20 → 20 - i < n1 → MT M → M 172 = M0 172 → (∀ a, a ≠ 173 → M a = M0 a) → xW g 209 M (RS tt) 0 0 18 [(0, xr 172), (1, xi va), (2, xi vb), (3, xi vc), (4, xi vd), (5, xi ve), (6, xi i)] [] := by
    intro h980 n1
    induction n1 with
    | zero => intro M i h1 h2 h3; exfalso; omega
    | succ n1 ih =>
      intro M i hi1 hi2 hi3 hT h172 hfr
      have h2 : M 172 2 = M0 172 2 := by rw [h172]
      have j71 : i < 20 → ∀ p : Int, xW g 209 M (RS tt) 0 0 71 [(0, xr 172), (1, xi va), (2, xi vb), (3, xi vc), (4, xi vd), (5, xi ve), (6, xi i)] [xi p] := by
        intro hi20 p
        refine x_istore (ls' := [(0, _), (1, _), (2, _), (3, _), (4, _), (5, _), (6, _), (7, _)]) hg dX12_feed_71 (by decide) rfl ?_
        refine x_aload_n hg dX12_feed_73 rfl ?_
        refine x_getR (j9 := 173) hg dX12_feed_74 fl_X12_72 (by decide) rfl rfl (by decide) ?_
        refine x_aload_n hg dX12_feed_77 rfl ?_
        refine x_getI hg dX12_feed_78 fl_X12_69 (by decide) rfl ?_
        refine x_iload hg dX12_feed_81 rfl ?_
        refine x_iadd hg dX12_feed_83 ?_
        refine x_iload hg dX12_feed_84 rfl ?_
        refine x_bipush hg dX12_feed_86 (by decide) ?_
        refine x_bipush hg dX12_feed_88 (by decide) ?_
        refine x_iload hg dX12_feed_90 rfl ?_
        refine x_iconst hg dX12_feed_92 ?_
        refine x_iand hg dX12_feed_93 ?_
        refine x_imul hg dX12_feed_94 ?_
        refine x_isub hg dX12_feed_95 ?_
        refine x_ishr hg dX12_feed_96 ?_
        refine x_i2b hg dX12_feed_97 ?_
        refine x_any (P := fun x9 => -128 ≤ x9 ∧ x9 ≤ 127) (bByte_r _) (fun x98 h98 => ?_)
        refine x_bastore (len := 1020) hg dX12_feed_98 (by decide) (by omega) (by exact h98) ?_
        refine x_iinc (ls' := [(0, _), (1, _), (2, _), (3, _), (4, _), (5, _), (6, _), (7, _)]) hg dX12_feed_99 rfl (by decide) rfl ?_
        refine x_goto (tgt := 18) hg dX12_feed_102 (by decide) ?_
        refine x_canon (ls' := [(0, _), (1, _), (2, _), (3, _), (4, _), (5, _), (6, _)]) rfl ?_
        exact ih _ _ (by omega) (by omega) (by omega) (MT_byte hT h98) (by rw [← h172]; funext y; exact mu_nc (by decide)) (fun a ha => by rw [← hfr a ha]; funext y; exact mu_nc ha)
      refine x_iload hg dX12_feed_18 rfl ?_
      refine x_bipush hg dX12_feed_20 (by decide) ?_
      refine x_icmp_ge (tgt := 105) hg dX12_feed_22 (by decide) (by omega) (by omega) (fun c22 => ?_) (fun c22 => ?_)
      · skip
        refine x_aload_n hg dX12_feed_105 rfl ?_
        refine x_dup hg dX12_feed_106 rfl ?_
        refine x_getI hg dX12_feed_107 fl_X12_69 (by decide) rfl ?_
        refine x_bipush hg dX12_feed_110 (by decide) ?_
        refine x_iadd hg dX12_feed_112 ?_
        refine x_putI hg dX12_feed_113 fl_X12_69 ft_12_2 (by decide) rfl ?_
        refine x_aload_n hg dX12_feed_116 rfl ?_
        refine x_getI hg dX12_feed_117 fl_X12_69 (by decide) rfl ?_
        try simp (disch := omega) only [mu_s, mu_nf, mu_nc]
        refine x_iret hg hr (Or.inl rfl) dX12_feed_120 (Nat.le_refl _) (Nat.le_refl _) ?_
        refine ⟨rfl, rfl, _, rfl, MT_len hT (by omega), fun a h1 h3 => ?_, fun y hy => ?_⟩
        · rw [← hfr a h3]; funext y; exact mu_nc h1
        · rw [mu_nf hy, h172]
      · skip
        refine x_iload hg dX12_feed_25 rfl ?_
        refine x_iconst hg dX12_feed_27 ?_
        refine x_icmp_ge (tgt := 35) hg dX12_feed_28 (by decide) (by omega) (by omega) (fun c28 => ?_) (fun c28 => ?_)
        · skip
          refine x_iload hg dX12_feed_35 rfl ?_
          refine x_bipush hg dX12_feed_37 (by decide) ?_
          refine x_icmp_ge (tgt := 46) hg dX12_feed_39 (by decide) (by omega) (by omega) (fun c39 => ?_) (fun c39 => ?_)
          · skip
            refine x_iload hg dX12_feed_46 rfl ?_
            refine x_bipush hg dX12_feed_48 (by decide) ?_
            refine x_icmp_ge (tgt := 57) hg dX12_feed_50 (by decide) (by omega) (by omega) (fun c50 => ?_) (fun c50 => ?_)
            · skip
              refine x_iload hg dX12_feed_57 rfl ?_
              refine x_bipush hg dX12_feed_59 (by decide) ?_
              refine x_icmp_ge (tgt := 69) hg dX12_feed_61 (by decide) (by omega) (by omega) (fun c61 => ?_) (fun c61 => ?_)
              · skip
                refine x_iload hg dX12_feed_69 rfl ?_
                exact j71 (by omega) _
              · skip
                refine x_iload hg dX12_feed_64 rfl ?_
                refine x_goto (tgt := 71) hg dX12_feed_66 (by decide) ?_
                exact j71 (by omega) _
            · skip
              refine x_iload_n hg dX12_feed_53 rfl ?_
              refine x_goto (tgt := 71) hg dX12_feed_54 (by decide) ?_
              exact j71 (by omega) _
          · skip
            refine x_iload_n hg dX12_feed_42 rfl ?_
            refine x_goto (tgt := 71) hg dX12_feed_43 (by decide) ?_
            exact j71 (by omega) _
        · skip
          refine x_iload_n hg dX12_feed_31 rfl ?_
          refine x_goto (tgt := 71) hg dX12_feed_32 (by decide) ?_
          exact j71 (by omega) _
  refine x_aload_n hg dX12_feed_0 rfl ?_
  refine x_getI hg dX12_feed_1 fl_X12_69 (by decide) rfl ?_
  refine x_bipush hg dX12_feed_4 (by decide) ?_
  refine x_iadd hg dX12_feed_6 ?_
  refine x_sipush hg dX12_feed_7 (by decide) ?_
  refine x_icmp_le (tgt := 15) hg dX12_feed_10 (by decide) (by omega) (by omega) (fun c10 => ?_) (fun c10 => ?_)
  · skip
    refine x_iconst hg dX12_feed_15 ?_
    refine x_istore (ls' := [(0, _), (1, _), (2, _), (3, _), (4, _), (5, _), (6, _)]) hg dX12_feed_16 (by decide) rfl ?_
    exact loop (by omega) 21 M0 0 (by omega) (by omega) (by omega) hT0 rfl (fun a _ => rfl)
  · skip
    refine x_iconst hg dX12_feed_13 ?_
    refine x_iret hg hr (Or.inl rfl) dX12_feed_14 (Nat.le_refl _) (Nat.le_refl _) ?_
    exact ⟨rfl, rfl, _, rfl, hT0, fun a _ _ => rfl, fun y _ => rfl⟩

theorem dX12_end_0 : decode cX12_end 0 = .ok (.iload_n 1, 1) := by decide +kernel
theorem dX12_end_1 : decode cX12_end 1 = .ok (.ifCond .lt 11, 3) := by decide +kernel
theorem dX12_end_4 : decode cX12_end 4 = .ok (.iload_n 1, 1) := by decide +kernel
theorem dX12_end_5 : decode cX12_end 5 = .ok (.aload_n 0, 1) := by decide +kernel
theorem dX12_end_6 : decode cX12_end 6 = .ok (.getfield 69, 3) := by decide +kernel
theorem dX12_end_9 : decode cX12_end 9 = .ok (.if_icmp .le 5, 3) := by decide +kernel
theorem dX12_end_12 : decode cX12_end 12 = .ok (.iconst (-1), 1) := by decide +kernel
theorem dX12_end_13 : decode cX12_end 13 = .ok (.ireturn, 1) := by decide +kernel
theorem dX12_end_14 : decode cX12_end 14 = .ok (.aload_n 0, 1) := by decide +kernel
theorem dX12_end_15 : decode cX12_end 15 = .ok (.iload_n 1, 1) := by decide +kernel
theorem dX12_end_16 : decode cX12_end 16 = .ok (.putfield 69, 3) := by decide +kernel
theorem dX12_end_19 : decode cX12_end 19 = .ok (.iload_n 1, 1) := by decide +kernel
theorem dX12_end_20 : decode cX12_end 20 = .ok (.ireturn, 1) := by decide +kernel
set_option maxHeartbeats 4000000 in
set_option maxRecDepth 20000 in
theorem c_X12_end (l : Launch) (b : Nat) (D : va_G) (cy : Nat → ClassId) {tt : Nat} {M : xMm} {z : Int} (hT : MT M) (hz : inR z) : xC l b D cy yX12_end cX12_end 2 (some .int) ({ frames := 0, cells := 0, slots := 0, locals := 0 }) [xr 172, xi z] 209 M (RS tt) (xPi 209 (RS tt) (fun r M' => MT M' ∧ frF M' M)) := by
  refine x_met (by decide) (Nat.le_of_ble_eq_true rfl) (fun g hg hr he => ?_)
  have hl0 := hT.1
  refine x_canon (ls' := [(0, _), (1, _)]) rfl ?_
  refine x_iload_n hg dX12_end_0 rfl ?_
  refine x_if_lt (tgt := 12) hg dX12_end_1 (by decide) (by omega) (fun c1 => ?_) (fun c1 => ?_)
  · skip
    refine x_iconst hg dX12_end_12 ?_
    refine x_iret hg hr (Or.inl rfl) dX12_end_13 (Nat.le_refl _) (Nat.le_refl _) ?_
    exact ⟨rfl, rfl, _, rfl, hT, fun a _ _ => rfl, fun y _ => rfl⟩
  · skip
    refine x_iload_n hg dX12_end_4 rfl ?_
    refine x_aload_n hg dX12_end_5 rfl ?_
    refine x_getI hg dX12_end_6 fl_X12_69 (by decide) rfl ?_
    refine x_icmp_le (tgt := 14) hg dX12_end_9 (by decide) (by omega) (by omega) (fun c9 => ?_) (fun c9 => ?_)
    · skip
      refine x_aload_n hg dX12_end_14 rfl ?_
      refine x_iload_n hg dX12_end_15 rfl ?_
      refine x_putI hg dX12_end_16 fl_X12_69 ft_12_2 (by decide) rfl ?_
      refine x_iload_n hg dX12_end_19 rfl ?_
      refine x_iret hg hr (Or.inl rfl) dX12_end_20 (Nat.le_refl _) (Nat.le_refl _) ?_
      exact ⟨rfl, rfl, _, rfl, MT_len hT (by omega), fun a h1 h3 => by funext y; exact mu_nc h1, fun y hy => mu_nf hy⟩
    · skip
      refine x_iconst hg dX12_end_12 ?_
      refine x_iret hg hr (Or.inl rfl) dX12_end_13 (Nat.le_refl _) (Nat.le_refl _) ?_
      exact ⟨rfl, rfl, _, rfl, hT, fun a _ _ => rfl, fun y _ => rfl⟩
