/-! ===== the model's timetable ===== -/
theorem MR_fr {M' M : xMm} (h : ∀ a, 175 ≤ a → a ≤ 181 → M' a = M a) (h18 : M' 172 18 = M 172 18) (hR : MR M) : MR M' := by
  unfold MR
  rw [h18, h 180 (by decide) (by decide), h 181 (by decide) (by decide), h 177 (by decide) (by decide), h 176 (by decide) (by decide), h 175 (by decide) (by decide), h 178 (by decide) (by decide), h 179 (by decide) (by decide)]
  exact hR
theorem MR_bank {M : xMm} (hR : MR M) {z : Int} (hz : 0 ≤ z ∧ z ≤ 1) : MR (mu M 172 18 z) := by
  obtain ⟨h1, h2, h3, h4, h5, h6⟩ := hR
  have e : ∀ a, a ≠ 172 → mu M 172 18 z a = M a := fun a ha => by funext c; exact mu_nc ha
  refine ⟨by rw [mu_s]; exact hz, ?_⟩
  rw [e 180 (by decide), e 181 (by decide), e 177 (by decide), e 176 (by decide), e 175 (by decide), e 178 (by decide), e 179 (by decide)]
  exact ⟨h2, h3, h4, h5, h6⟩
theorem MR_fld {M : xMm} (hR : MR M) {f : Nat} {z : Int} (hf : f ≠ 18) : MR (mu M 172 f z) := MR_fr (fun a h1 _ => by funext c; exact mu_nc (by omega)) (mu_nf (Ne.symm hf)) hR
theorem MR_tx {M : xMm} (hR : MR M) {i : Nat} {z : Int} : MR (mu M 174 i z) := MR_fr (fun a h1 _ => by funext c; exact mu_nc (by omega)) (mu_nc (by decide)) hR
theorem JN_sz {M : xMm} (h : JN M) {f : Nat} {z : Int} (hf : f = 2 ∨ f = 3) (hz : 0 ≤ z ∧ z ≤ 1000) : JN (mu M 172 f z) := by
  obtain ⟨⟨t1, t2, t3⟩, h2, h3, h4, h5, h6⟩ := h
  refine ⟨⟨?_, fun j => by rw [mu_nc (by decide)]; exact t2 j, fun j => by rw [mu_nc (by decide)]; exact t3 j⟩, ?_, by rw [mu_nf (by omega)]; exact h3, by rw [mu_nf (by omega)]; exact h4, by rw [mu_nf (by omega)]; exact h5, by rw [mu_nf (by omega)]; exact h6⟩
  · by_cases e : f = 2
    · subst e; rw [mu_s]; exact hz
    · rw [mu_nf (Ne.symm e)]; exact t1
  · by_cases e : f = 3
    · subst e; rw [mu_s]; exact hz
    · rw [mu_nf (Ne.symm e)]; exact h2
theorem JN_fl {M : xMm} (h : JN M) {f : Nat} {z : Int} (hf : 10 < f) : JN (mu M 172 f z) := by
  obtain ⟨⟨t1, t2, t3⟩, h2, h3, h4, h5, h6⟩ := h
  exact ⟨⟨by rw [mu_nf (by omega)]; exact t1, fun j => by rw [mu_nc (by decide)]; exact t2 j, fun j => by rw [mu_nc (by decide)]; exact t3 j⟩, by rw [mu_nf (by omega)]; exact h2, by rw [mu_nf (by omega)]; exact h3, by rw [mu_nf (by omega)]; exact h4, by rw [mu_nf (by omega)]; exact h5, by rw [mu_nf (by omega)]; exact h6⟩
theorem JN_ar {M : xMm} (h : JN M) {a i : Nat} {z : Int} (ha : 174 < a) : JN (mu M a i z) := by
  obtain ⟨⟨t1, t2, t3⟩, h2, h3, h4, h5, h6⟩ := h
  have e : ∀ f, mu M a i z 172 f = M 172 f := fun f => mu_nc (by omega)
  refine ⟨⟨by rw [e]; exact t1, fun j => by rw [mu_nc (by omega)]; exact t2 j, fun j => by rw [mu_nc (by omega)]; exact t3 j⟩, ?_⟩
  simp only [e]
  exact ⟨h2, h3, h4, h5, h6⟩
theorem JN_tx {M : xMm} (h : JN M) {i : Nat} {z : Int} (hz : -128 ≤ z ∧ z ≤ 127) : JN (mu M 174 i z) := by
  obtain ⟨⟨t1, t2, t3⟩, h2, h3, h4, h5, h6⟩ := h
  have e : ∀ f, mu M 174 i z 172 f = M 172 f := fun f => mu_nc (by omega)
  refine ⟨⟨by rw [e]; exact t1, fun j => by rw [mu_nc (by omega)]; exact t2 j, fun j => ?_⟩, ?_⟩
  · by_cases ej : j = i
    · subst ej; rw [mu_s]; exact hz
    · rw [mu_nf ej]; exact t3 j
  · simp only [e]
    exact ⟨h2, h3, h4, h5, h6⟩
/-- what holds while a timetable is read -/
def QT (M' M : xMm) : Prop := JN M' ∧ MR M' ∧ frX M' M
theorem QT_f {M' M : xMm} (h : QT M' M) {f : Nat} {z : Int} (hf : f = 2 ∧ (0 ≤ z ∧ z ≤ 1000) ∨ f = 3 ∧ (0 ≤ z ∧ z ≤ 1000) ∨ f = 5 ∨ f = 7 ∨ f = 4 ∧ z = 0 ∨ f = 19 ∨ f = 18 ∧ (0 ≤ z ∧ z ≤ 1)) : QT (mu M' 172 f z) M := by
  obtain ⟨hJ, hR, hX⟩ := h
  refine ⟨?_, ?_, frX_f hX (by omega)⟩
  · rcases hf with ⟨e, h⟩ | ⟨e, h⟩ | e | e | ⟨e, h⟩ | e | ⟨e, h⟩
    · exact JN_sz hJ (Or.inl e) h
    · exact JN_sz hJ (Or.inr e) h
    · exact JN_mu hJ (by omega)
    · exact JN_mu hJ (by omega)
    · exact JN_mu hJ (by omega)
    · exact JN_fl hJ (by omega)
    · exact JN_fl hJ (by omega)
  · by_cases e : f = 18
    · subst e; exact MR_bank hR (by omega)
    · exact MR_fld hR e
theorem QT_tx {M' M : xMm} (h : QT M' M) {i : Nat} {z : Int} (hz : -128 ≤ z ∧ z ≤ 127) : QT (mu M' 174 i z) M := ⟨JN_tx h.1 hz, MR_tx h.2.1, frX_mu h.2.2 (by decide)⟩
theorem QT_ma {M' M : xMm} (h : QT M' M) {a i : Nat} {z : Int} (hz : a = 180 ∧ (0 ≤ z ∧ z ≤ 8) ∨ a = 181 ∧ (0 ≤ z ∧ z ≤ 300)) : QT (mu M' a i z) M := ⟨JN_ar h.1 (by omega), MR_mu h.2.1 (by omega), frX_mu h.2.2 (by omega)⟩

theorem dX12_timetable_0 : decode cX12_timetable 0 = .ok (.aload_n 0, 1) := by decide +kernel
theorem dX12_timetable_1 : decode cX12_timetable 1 = .ok (.iconst 0, 1) := by decide +kernel
theorem dX12_timetable_2 : decode cX12_timetable 2 = .ok (.putfield 11, 3) := by decide +kernel
theorem dX12_timetable_5 : decode cX12_timetable 5 = .ok (.aload_n 0, 1) := by decide +kernel
theorem dX12_timetable_6 : decode cX12_timetable 6 = .ok (.iconst (-1), 1) := by decide +kernel
theorem dX12_timetable_7 : decode cX12_timetable 7 = .ok (.putfield 14, 3) := by decide +kernel
theorem dX12_timetable_10 : decode cX12_timetable 10 = .ok (.aload_n 0, 1) := by decide +kernel
theorem dX12_timetable_11 : decode cX12_timetable 11 = .ok (.aload_n 0, 1) := by decide +kernel
theorem dX12_timetable_12 : decode cX12_timetable 12 = .ok (.getfield 69, 3) := by decide +kernel
theorem dX12_timetable_15 : decode cX12_timetable 15 = .ok (.putfield 1, 3) := by decide +kernel
theorem dX12_timetable_18 : decode cX12_timetable 18 = .ok (.iconst 0, 1) := by decide +kernel
theorem dX12_timetable_19 : decode cX12_timetable 19 = .ok (.istore_n 1, 1) := by decide +kernel
theorem dX12_timetable_20 : decode cX12_timetable 20 = .ok (.iload_n 1, 1) := by decide +kernel
theorem dX12_timetable_21 : decode cX12_timetable 21 = .ok (.aload_n 0, 1) := by decide +kernel
theorem dX12_timetable_22 : decode cX12_timetable 22 = .ok (.getfield 1, 3) := by decide +kernel
theorem dX12_timetable_25 : decode cX12_timetable 25 = .ok (.if_icmp .ge 21, 3) := by decide +kernel
theorem dX12_timetable_28 : decode cX12_timetable 28 = .ok (.aload_n 0, 1) := by decide +kernel
theorem dX12_timetable_29 : decode cX12_timetable 29 = .ok (.getfield 7, 3) := by decide +kernel
theorem dX12_timetable_32 : decode cX12_timetable 32 = .ok (.iload_n 1, 1) := by decide +kernel
theorem dX12_timetable_33 : decode cX12_timetable 33 = .ok (.aload_n 0, 1) := by decide +kernel
theorem dX12_timetable_34 : decode cX12_timetable 34 = .ok (.getfield 72, 3) := by decide +kernel
theorem dX12_timetable_37 : decode cX12_timetable 37 = .ok (.iload_n 1, 1) := by decide +kernel
theorem dX12_timetable_38 : decode cX12_timetable 38 = .ok (.baload, 1) := by decide +kernel
theorem dX12_timetable_39 : decode cX12_timetable 39 = .ok (.bastore, 1) := by decide +kernel
theorem dX12_timetable_40 : decode cX12_timetable 40 = .ok (.iinc 1 1, 3) := by decide +kernel
theorem dX12_timetable_43 : decode cX12_timetable 43 = .ok (.goto (-23), 3) := by decide +kernel
theorem dX12_timetable_46 : decode cX12_timetable 46 = .ok (.aload_n 0, 1) := by decide +kernel
theorem dX12_timetable_47 : decode cX12_timetable 47 = .ok (.iconst 0, 1) := by decide +kernel
theorem dX12_timetable_48 : decode cX12_timetable 48 = .ok (.putfield 69, 3) := by decide +kernel
theorem dX12_timetable_51 : decode cX12_timetable 51 = .ok (.aload_n 0, 1) := by decide +kernel
theorem dX12_timetable_52 : decode cX12_timetable 52 = .ok (.iconst 0, 1) := by decide +kernel
theorem dX12_timetable_53 : decode cX12_timetable 53 = .ok (.putfield 17, 3) := by decide +kernel
theorem dX12_timetable_56 : decode cX12_timetable 56 = .ok (.aload_n 0, 1) := by decide +kernel
theorem dX12_timetable_57 : decode cX12_timetable 57 = .ok (.iconst 1, 1) := by decide +kernel
theorem dX12_timetable_58 : decode cX12_timetable 58 = .ok (.aload_n 0, 1) := by decide +kernel
theorem dX12_timetable_59 : decode cX12_timetable 59 = .ok (.getfield 75, 3) := by decide +kernel
theorem dX12_timetable_62 : decode cX12_timetable 62 = .ok (.isub, 1) := by decide +kernel
theorem dX12_timetable_63 : decode cX12_timetable 63 = .ok (.putfield 78, 3) := by decide +kernel
theorem dX12_timetable_66 : decode cX12_timetable 66 = .ok (.aload_n 0, 1) := by decide +kernel
theorem dX12_timetable_67 : decode cX12_timetable 67 = .ok (.getfield 81, 3) := by decide +kernel
theorem dX12_timetable_70 : decode cX12_timetable 70 = .ok (.aload_n 0, 1) := by decide +kernel
theorem dX12_timetable_71 : decode cX12_timetable 71 = .ok (.getfield 78, 3) := by decide +kernel
theorem dX12_timetable_74 : decode cX12_timetable 74 = .ok (.iconst 0, 1) := by decide +kernel
theorem dX12_timetable_75 : decode cX12_timetable 75 = .ok (.iastore, 1) := by decide +kernel
theorem dX12_timetable_76 : decode cX12_timetable 76 = .ok (.aload_n 0, 1) := by decide +kernel
theorem dX12_timetable_77 : decode cX12_timetable 77 = .ok (.invokevirtual 58, 3) := by decide +kernel
theorem dX12_timetable_80 : decode cX12_timetable 80 = .ok (.aload_n 0, 1) := by decide +kernel
theorem dX12_timetable_81 : decode cX12_timetable 81 = .ok (.invokevirtual 54, 3) := by decide +kernel
theorem dX12_timetable_84 : decode cX12_timetable 84 = .ok (.ifCond .eq 17, 3) := by decide +kernel
theorem dX12_timetable_87 : decode cX12_timetable 87 = .ok (.aload_n 0, 1) := by decide +kernel
theorem dX12_timetable_88 : decode cX12_timetable 88 = .ok (.getfield 27, 3) := by decide +kernel
theorem dX12_timetable_91 : decode cX12_timetable 91 = .ok (.ifCond .eq 10, 3) := by decide +kernel
theorem dX12_timetable_94 : decode cX12_timetable 94 = .ok (.aload_n 0, 1) := by decide +kernel
theorem dX12_timetable_95 : decode cX12_timetable 95 = .ok (.invokevirtual 85, 3) := by decide +kernel
theorem dX12_timetable_98 : decode cX12_timetable 98 = .ok (.goto (-18), 3) := by decide +kernel
theorem dX12_timetable_101 : decode cX12_timetable 101 = .ok (.aload_n 0, 1) := by decide +kernel
theorem dX12_timetable_102 : decode cX12_timetable 102 = .ok (.invokevirtual 54, 3) := by decide +kernel
theorem dX12_timetable_105 : decode cX12_timetable 105 = .ok (.ifCond .ne 5, 3) := by decide +kernel
theorem dX12_timetable_108 : decode cX12_timetable 108 = .ok (.iconst (-1), 1) := by decide +kernel
theorem dX12_timetable_109 : decode cX12_timetable 109 = .ok (.ireturn, 1) := by decide +kernel
theorem dX12_timetable_110 : decode cX12_timetable 110 = .ok (.aload_n 0, 1) := by decide +kernel
theorem dX12_timetable_111 : decode cX12_timetable 111 = .ok (.aload_n 0, 1) := by decide +kernel
theorem dX12_timetable_112 : decode cX12_timetable 112 = .ok (.getfield 78, 3) := by decide +kernel
theorem dX12_timetable_115 : decode cX12_timetable 115 = .ok (.putfield 75, 3) := by decide +kernel
theorem dX12_timetable_118 : decode cX12_timetable 118 = .ok (.iconst 0, 1) := by decide +kernel
theorem dX12_timetable_119 : decode cX12_timetable 119 = .ok (.istore_n 1, 1) := by decide +kernel
theorem dX12_timetable_120 : decode cX12_timetable 120 = .ok (.iload_n 1, 1) := by decide +kernel
theorem dX12_timetable_121 : decode cX12_timetable 121 = .ok (.bipush 8, 2) := by decide +kernel
theorem dX12_timetable_123 : decode cX12_timetable 123 = .ok (.if_icmp .ge 16, 3) := by decide +kernel
theorem dX12_timetable_126 : decode cX12_timetable 126 = .ok (.aload_n 0, 1) := by decide +kernel
theorem dX12_timetable_127 : decode cX12_timetable 127 = .ok (.getfield 88, 3) := by decide +kernel
theorem dX12_timetable_130 : decode cX12_timetable 130 = .ok (.iload_n 1, 1) := by decide +kernel
theorem dX12_timetable_131 : decode cX12_timetable 131 = .ok (.iconst 0, 1) := by decide +kernel
theorem dX12_timetable_132 : decode cX12_timetable 132 = .ok (.iastore, 1) := by decide +kernel
theorem dX12_timetable_133 : decode cX12_timetable 133 = .ok (.iinc 1 1, 3) := by decide +kernel
theorem dX12_timetable_136 : decode cX12_timetable 136 = .ok (.goto (-16), 3) := by decide +kernel
theorem dX12_timetable_139 : decode cX12_timetable 139 = .ok (.aload_n 0, 1) := by decide +kernel
theorem dX12_timetable_140 : decode cX12_timetable 140 = .ok (.getfield 81, 3) := by decide +kernel
theorem dX12_timetable_143 : decode cX12_timetable 143 = .ok (.aload_n 0, 1) := by decide +kernel
theorem dX12_timetable_144 : decode cX12_timetable 144 = .ok (.getfield 75, 3) := by decide +kernel
theorem dX12_timetable_147 : decode cX12_timetable 147 = .ok (.iaload, 1) := by decide +kernel
theorem dX12_timetable_148 : decode cX12_timetable 148 = .ok (.ireturn, 1) := by decide +kernel
set_option maxHeartbeats 4000000 in
set_option maxRecDepth 20000 in
theorem c_X12_timetable (l : Launch) (b : Nat) (D : va_G) (cy : Nat → ClassId) {tt : Nat} {M : xMm}  (hJ : JN M) (hR : MR M) : xC l b D cy yX12_timetable cX12_timetable 2 (some .int) ({ frames := 6, cells := 0, slots := 0, locals := 134 }) [xr 172] 209 M (RS tt) (xPi 209 (RS tt) (fun r M' => QT M' M)) := by
  refine x_met (by decide) (Nat.le_of_ble_eq_true rfl) (fun g hg hr he => ?_)
  refine x_canon (ls' := [(0, _)]) rfl ?_
  have loopD : ∀ (n1 : Nat) (M1 : xMm) (i : Int), QT M1 M → 0 ≤ i → i ≤ 8 → 8 - i < n1 → xW g 209 M1 (RS tt) 0 0 120 [(0, xr 172), (1, xi i)] [] := by
    intro n1
    induction n1 with
    | zero => intro M1 i h h0 h1 h2; exfalso; omega
    | succ n1 ih =>
      intro M1 i Q1 hi0 hi1 hi2
      have hb1 := Q1.2.1.1
      refine x_iload_n hg dX12_timetable_120 rfl ?_
      refine x_bipush hg dX12_timetable_121 (by decide) ?_
      refine x_icmp_ge (tgt := 139) hg dX12_timetable_123 (by decide) (by omega) (by omega) (fun c123 => ?_) (fun c123 => ?_)
      · skip
        refine x_aload_n hg dX12_timetable_139 rfl ?_
        refine x_getR (j9 := 180) hg dX12_timetable_140 fl_X12_81 (by decide) rfl rfl (by decide) ?_
        refine x_aload_n hg dX12_timetable_143 rfl ?_
        refine x_getI hg dX12_timetable_144 fl_X12_75 (by decide) rfl ?_
        refine x_iaload (len := 2) hg dX12_timetable_147 (by decide) (by omega) ?_
        refine x_iret hg hr (Or.inl rfl) dX12_timetable_148 (Nat.le_refl _) (Nat.le_refl _) ?_
        exact ⟨rfl, rfl, _, rfl, Q1⟩
      · skip
        refine x_aload_n hg dX12_timetable_126 rfl ?_
        refine x_getR (j9 := 181) hg dX12_timetable_127 fl_X12_88 (by decide) rfl rfl (by decide) ?_
        refine x_iload_n hg dX12_timetable_130 rfl ?_
        refine x_iconst hg dX12_timetable_131 ?_
        refine x_iastore (len := 8) hg dX12_timetable_132 (by decide) (by omega)  ?_
        refine x_iinc (ls' := [(0, _), (1, _)]) hg dX12_timetable_133 rfl (by decide) rfl ?_
        refine x_goto (tgt := 120) hg dX12_timetable_136 (by decide) ?_
        refine x_canon (ls' := [(0, _), (1, _)]) rfl ?_
        exact ih _ _ (QT_ma Q1 (Or.inr ⟨rfl, by omega⟩)) (by omega) (by omega) (by omega)
  have j101 : ∀ (M1 : xMm), QT M1 M → (0 ≤ M1 172 19 ∧ M1 172 19 ≤ 1) → xW g 209 M1 (RS tt) 0 0 101 [(0, xr 172)] [] := by
    intro M1 Q1 hr1
    refine x_aload_n hg dX12_timetable_101 rfl ?_
    refine x_cVi hg he [] [] dX12_timetable_102 mv_X12_54 (c_X12_isGood l b D cy Q1.1) (by decide) rfl rfl (Nat.le_of_ble_eq_true rfl) (by decide) (by decide) (fun r102 M102 q102 => ?_)
    obtain ⟨h102, e102⟩ := q102
    replace h102 := h102.symm
    subst h102
    refine x_if_ne (tgt := 110) hg dX12_timetable_105 (by decide) (by omega) (fun c105 => ?_) (fun c105 => ?_)
    · skip
      refine x_aload_n hg dX12_timetable_110 rfl ?_
      refine x_aload_n hg dX12_timetable_111 rfl ?_
      refine x_getI hg dX12_timetable_112 fl_X12_78 (by decide) rfl ?_
      refine x_putI hg dX12_timetable_115 fl_X12_75 ft_12_18 (by decide) rfl ?_
      refine x_iconst hg dX12_timetable_118 ?_
      refine x_istore_n (ls' := [(0, _), (1, _)]) hg dX12_timetable_119 rfl (by decide) rfl ?_
      exact loopD 9 _ 0 (QT_f Q1 (by omega)) (by omega) (by omega) (by omega)
    · skip
      refine x_iconst hg dX12_timetable_108 ?_
      refine x_iret hg hr (Or.inl rfl) dX12_timetable_109 (Nat.le_refl _) (Nat.le_refl _) ?_
      exact ⟨rfl, rfl, _, rfl, Q1⟩
  have j80x : ∀ (M1 : xMm), QT M1 M → (0 ≤ M1 172 19 ∧ M1 172 19 ≤ 1) → ¬ M1 172 4 = 0 → xW g 209 M1 (RS tt) 0 0 80 [(0, xr 172)] [] := by
    intro M1 Q1 hr1 hx
    refine x_aload_n hg dX12_timetable_80 rfl ?_
    refine x_cVi hg he [] [] dX12_timetable_81 mv_X12_54 (c_X12_isGood l b D cy Q1.1) (by decide) rfl rfl (Nat.le_of_ble_eq_true rfl) (by decide) (by decide) (fun r81 M81 q81 => ?_)
    obtain ⟨h81, e81⟩ := q81
    replace h81 := h81.symm
    subst h81
    refine x_if_eq (tgt := 101) hg dX12_timetable_84 (by decide) (by omega) (fun c84 => ?_) (fun c84 => ?_)
    · skip
      exact j101 M1 Q1 hr1
    · skip
      exfalso; omega
  have loop : ∀ (n1 : Nat) (M1 : xMm), QT M1 M → JM M1 → (0 ≤ M1 172 19 ∧ M1 172 19 ≤ 1) → 9 - M1 180 (M1 172 19).toNat < n1 → xW g 209 M1 (RS tt) 0 0 80 [(0, xr 172)] [] := by
    intro n1
    induction n1 with
    | zero => intro M1 Q1 hJ1 hr1 hn; exfalso; have := Q1.2.1.2.1 (M1 172 19).toNat (by omega); omega
    | succ n1 ih =>
      intro M1 Q1 hJ1 hr1 hn
      have h81 := hJ1.1.2.2.2.1
      refine x_aload_n hg dX12_timetable_80 rfl ?_
      refine x_cVi hg he [] [] dX12_timetable_81 mv_X12_54 (c_X12_isGood l b D cy Q1.1) (by decide) rfl rfl (Nat.le_of_ble_eq_true rfl) (by decide) (by decide) (fun r81 M81 q81 => ?_)
      obtain ⟨h81, e81⟩ := q81
      replace h81 := h81.symm
      subst h81
      refine x_if_eq (tgt := 101) hg dX12_timetable_84 (by decide) (by omega) (fun c84 => ?_) (fun c84 => ?_)
      · skip
        exact j101 M1 Q1 hr1
      · skip
        refine x_aload_n hg dX12_timetable_87 rfl ?_
        refine x_getI hg dX12_timetable_88 fl_X12_27 (by decide) rfl ?_
        refine x_if_eq (tgt := 101) hg dX12_timetable_91 (by decide) (by omega) (fun c91 => ?_) (fun c91 => ?_)
        · skip
          exact j101 M1 Q1 hr1
        · skip
          refine x_aload_n hg dX12_timetable_94 rfl ?_
          refine x_cVv hg he [] [] dX12_timetable_95 mv_X12_85 (c_X12_readTrain l b D cy hJ1 Q1.2.1 hr1) (by decide) rfl rfl (Nat.le_of_ble_eq_true rfl) (by decide) (by decide) (fun M95 q95 => ?_)
          obtain ⟨hJ95, hR95, hf95, hb95, hrb95, hg95⟩ := q95
          refine x_goto (tgt := 80) hg dX12_timetable_98 (by decide) ?_
          have Q2 : QT M95 M := ⟨hJ95.1, hR95, frX_tr hf95 Q1.2.2⟩
          by_cases hgd : M95 172 4 = 0
          · exact ih M95 Q2 hJ95 (by rw [hrb95]; exact hr1) (by rw [hrb95, (hg95 hgd).2]; omega)
          · exact j80x M95 Q2 (by rw [hrb95]; exact hr1) hgd
  have loopC : ∀ (n1 : Nat) (M1 : xMm) (i : Int), QT M1 M → 0 ≤ i → i ≤ M1 172 3 → M1 172 3 - i < n1 → xW g 209 M1 (RS tt) 0 0 20 [(0, xr 172), (1, xi i)] [] := by
    intro n1
    induction n1 with
    | zero => intro M1 i h h0 h1 h2; exfalso; omega
    | succ n1 ih =>
      intro M1 i Q1 hi0 hi1 hi2
      have hs1 := Q1.1.2.1
      have hb1 := Q1.2.1.1
      have htp := Q1.1.1.2.1
      refine x_iload_n hg dX12_timetable_20 rfl ?_
      refine x_aload_n hg dX12_timetable_21 rfl ?_
      refine x_getI hg dX12_timetable_22 fl_X12_1 (by decide) rfl ?_
      refine x_icmp_ge (tgt := 46) hg dX12_timetable_25 (by decide) (by omega) (by omega) (fun c25 => ?_) (fun c25 => ?_)
      · skip
        refine x_aload_n hg dX12_timetable_46 rfl ?_
        refine x_iconst hg dX12_timetable_47 ?_
        refine x_putI hg dX12_timetable_48 fl_X12_69 ft_12_2 (by decide) rfl ?_
        refine x_aload_n hg dX12_timetable_51 rfl ?_
        refine x_iconst hg dX12_timetable_52 ?_
        refine x_putI hg dX12_timetable_53 fl_X12_17 ft_12_7 (by decide) rfl ?_
        refine x_aload_n hg dX12_timetable_56 rfl ?_
        refine x_iconst hg dX12_timetable_57 ?_
        refine x_aload_n hg dX12_timetable_58 rfl ?_
        refine x_getI hg dX12_timetable_59 fl_X12_75 (by decide) rfl ?_
        try simp (disch := omega) only [mu_s, mu_nf, mu_nc]
        refine x_isub hg dX12_timetable_62 ?_
        refine x_putI hg dX12_timetable_63 fl_X12_78 ft_12_19 (by decide) rfl ?_
        refine x_aload_n hg dX12_timetable_66 rfl ?_
        refine x_getR (j9 := 180) hg dX12_timetable_67 fl_X12_81 (by decide) rfl rfl (by decide) ?_
        refine x_aload_n hg dX12_timetable_70 rfl ?_
        refine x_getI hg dX12_timetable_71 fl_X12_78 (by decide) rfl ?_
        try simp (disch := omega) only [mu_s, mu_nf, mu_nc]
        refine x_iconst hg dX12_timetable_74 ?_
        refine x_iastore (len := 2) hg dX12_timetable_75 (by decide) (by omega)  ?_
        have Qa := QT_ma (a := 180) (i := (1 - M1 172 18).toNat) (z := 0) (QT_f (f := 19) (z := 1 - M1 172 18) (QT_f (f := 7) (z := 0) (QT_f (f := 2) (z := 0) Q1 (by omega)) (by omega)) (by omega)) (Or.inl ⟨rfl, by omega⟩)
        have ha7 : 0 ≤ mu (mu (mu (mu M1 172 2 0) 172 7 0) 172 19 (1 - M1 172 18)) 180 (1 - M1 172 18).toNat 0 172 7 ∧ mu (mu (mu (mu M1 172 2 0) 172 7 0) 172 19 (1 - M1 172 18)) 180 (1 - M1 172 18).toNat 0 172 7 ≤ mu (mu (mu (mu M1 172 2 0) 172 7 0) 172 19 (1 - M1 172 18)) 180 (1 - M1 172 18).toNat 0 172 3 := by simp (disch := omega) only [mu_s, mu_nf, mu_nc]; omega
        refine x_aload_n hg dX12_timetable_76 rfl ?_
        refine x_cVv hg he [] [] dX12_timetable_77 mv_X12_58 (c_X12_next l b D cy Qa.1 ha7) (by decide) rfl rfl (Nat.le_of_ble_eq_true rfl) (by decide) (by decide) (fun M77 q77 => ?_)
        obtain ⟨hJ77, hk77⟩ := q77
        have hk19 : M77 172 19 = 1 - M1 172 18 := by rw [hk77.2 19 (by omega)]; simp (disch := omega) only [mu_s, mu_nf, mu_nc]
        refine x_canon (ls' := [(0, _)]) rfl ?_
        exact loop 10 M77 ⟨hJ77.1, MR_K (frK_lo hk77 (by decide)) Qa.2.1, frX_tr (frX_K hk77) Qa.2.2⟩ hJ77 (by omega) (by rw [hk19, hk77.1 180 (by decide), mu_s]; omega)
      · skip
        refine x_aload_n hg dX12_timetable_28 rfl ?_
        refine x_getR (j9 := 174) hg dX12_timetable_29 fl_X12_7 (by decide) rfl rfl (by decide) ?_
        refine x_iload_n hg dX12_timetable_32 rfl ?_
        refine x_aload_n hg dX12_timetable_33 rfl ?_
        refine x_getR (j9 := 173) hg dX12_timetable_34 fl_X12_72 (by decide) rfl rfl (by decide) ?_
        refine x_iload_n hg dX12_timetable_37 rfl ?_
        refine x_baload (len := 1020) hg dX12_timetable_38 (by decide) (by omega) ?_
        refine x_bastore (len := 1000) hg dX12_timetable_39 (by decide) (by omega) (by exact htp _) ?_
        refine x_iinc (ls' := [(0, _), (1, _)]) hg dX12_timetable_40 rfl (by decide) rfl ?_
        refine x_goto (tgt := 20) hg dX12_timetable_43 (by decide) ?_
        refine x_canon (ls' := [(0, _), (1, _)]) rfl ?_
        exact ih _ _ (QT_tx Q1 (htp _)) (by omega) (by rw [mu_nc (by decide)]; omega) (by rw [mu_nc (by decide)]; omega)
  have ht0 := hJ.1.1
  refine x_aload_n hg dX12_timetable_0 rfl ?_
  refine x_iconst hg dX12_timetable_1 ?_
  refine x_putI hg dX12_timetable_2 fl_X12_11 ft_12_4 (by decide) rfl ?_
  refine x_aload_n hg dX12_timetable_5 rfl ?_
  refine x_iconst hg dX12_timetable_6 ?_
  refine x_putI hg dX12_timetable_7 fl_X12_14 ft_12_5 (by decide) rfl ?_
  refine x_aload_n hg dX12_timetable_10 rfl ?_
  refine x_aload_n hg dX12_timetable_11 rfl ?_
  refine x_getI hg dX12_timetable_12 fl_X12_69 (by decide) rfl ?_
  try simp (disch := omega) only [mu_s, mu_nf, mu_nc]
  refine x_putI hg dX12_timetable_15 fl_X12_1 ft_12_3 (by decide) rfl ?_
  refine x_iconst hg dX12_timetable_18 ?_
  refine x_istore_n (ls' := [(0, _), (1, _)]) hg dX12_timetable_19 rfl (by decide) rfl ?_
  exact loopC 1001 _ 0 (QT_f (QT_f (QT_f ⟨hJ, hR, frX_rf M⟩ (by omega)) (by omega)) (by omega)) (by omega) (by simp (disch := omega) only [mu_s, mu_nf, mu_nc]; omega) (by simp (disch := omega) only [mu_s, mu_nf, mu_nc]; omega)
