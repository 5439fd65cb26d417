/-! ===== the reader's own cell ===== -/
section XQ
variable {g : xGT} {n : Nat} {M : xMm} {R : xRm} {k w pc : Nat} {ls : List (Nat × xV)} {st : List xV}
theorem x_wq {P : Int → Prop} {z : Int} (h1 : inR z → P z) (h2 : ¬ inR z → ∀ a, inR a → P a) (t : ∀ a, P a → xW g n M R k w pc ls (xi a :: st)) : xW g n M R k w pc ls (xi z :: st) := by
  by_cases h : inR z
  · exact t z (h1 h)
  · exact x_wrap (fun a ha => t a (h2 h a ha))
end XQ
/-- the reader, behind an advance -/
def JD (M : xMm) : Prop := IT M ∧ (0 ≤ M 4 1 ∧ M 4 1 ≤ M 2 1) ∧ (0 ≤ M 4 2 ∧ M 4 2 ≤ M 2 1) ∧ inR (M 4 3) ∧ inL (M 4 4) ∧ inR (M 4 5) ∧ (M 4 3 = 3 → 0 ≤ M 4 5 ∧ M 4 5 ≤ 9999)
/-- the reader, ahead of one -/
def JB (M : xMm) : Prop := IT M ∧ (0 ≤ M 4 1 ∧ M 4 1 ≤ M 2 1) ∧ inL (M 4 4) ∧ inR (M 4 5)
theorem JD_B {M : xMm} (h : JD M) : JB M := ⟨h.1, h.2.1, h.2.2.2.2.1, h.2.2.2.2.2.1⟩
theorem IT_congr {M M' : xMm} (h : IT M) (e2 : M' 2 = M 2) (e3 : M' 3 = M 3) : IT M' := by
  rw [IT, e2, e3]
  exact h
theorem JD_congr {M M' : xMm} (h : JD M) (e : ∀ a, a < 5 → M' a = M a) : JD M' := by
  obtain ⟨h1, h2⟩ := h
  refine ⟨IT_congr h1 (e 2 (by omega)) (e 3 (by omega)), ?_⟩
  rw [e 2 (by omega), e 4 (by omega)]
  exact h2
abbrev frD (M' M : xMm) : Prop := ∀ a, a ≠ 4 → M' a = M a
theorem frD_mu {M' M : xMm} (h : frD M' M) {k : Nat} {z : Int} : frD (mu M' 4 k z) M := fun c hc => by
  rw [← h c hc]
  funext j
  exact mu_nc hc
theorem frD_tr {M2 M1 M : xMm} (h1 : frD M2 M1) (h : frD M1 M) : frD M2 M := fun a ha => by rw [h1 a ha, h a ha]
theorem IT_D {M' M : xMm} (h : frD M' M) (hI : IT M) : IT M' := IT_congr hI (h 2 (by decide)) (h 3 (by decide))
theorem IR_D {M' M : xMm} (h : frD M' M) (hI : IR M) : IR M' := IR_congr hI (fun a h1 h2 => h a (by omega))
abbrev frT (M' M : xMm) : Prop := ∀ a, a < 4 ∨ 56 < a ∨ a = 5 ∨ a = 31 → M' a = M a
theorem frT_D {M' M : xMm} (h : frD M' M) : frT M' M := fun a ha => h a (by omega)
theorem frT_tr {M2 M1 M : xMm} (h1 : frT M2 M1) (h : frT M1 M) : frT M2 M := fun a ha => by rw [h1 a ha, h a ha]
theorem frT_mu {M' M : xMm} (h : frT M' M) {a k : Nat} {z : Int} (ha : 4 ≤ a ∧ a ≤ 56 ∧ a ≠ 5 ∧ a ≠ 31) : frT (mu M' a k z) M := fun c hc => by
  rw [← h c hc]
  funext j
  exact mu_nc (by omega)
theorem frT_rf (M : xMm) : frT M M := fun _ _ => rfl
abbrev frR (M' M : xMm) : Prop := ∀ a, a < 4 ∨ 56 < a → M' a = M a
theorem frR_mu {M' M : xMm} (h : frR M' M) {a k : Nat} {z : Int} (ha : 4 ≤ a ∧ a ≤ 56) : frR (mu M' a k z) M := fun c hc => by
  rw [← h c hc]
  funext j
  exact mu_nc (by omega)
theorem frR_T {M2 M1 M : xMm} (h1 : frT M2 M1) (h : frR M1 M) : frR M2 M := fun a ha => by rw [h1 a (by omega), h a ha]
/-- the reader between two readings -/
def JG (M : xMm) : Prop := IT M ∧ inL (M 4 4) ∧ inR (M 4 5)
theorem JD_G {M : xMm} (h : JD M) : JG M := ⟨h.1, h.2.2.2.2.1, h.2.2.2.2.2.1⟩
theorem RS_swap2 {tt : Nat} (h : xTt tt) : ru (ru (RS tt) 1 2 (36 - tt)) 1 3 tt = RS (36 - tt) := by
  rw [RS_swap]
  funext a c
  by_cases e : a = 1 ∧ c = 3
  · obtain ⟨rfl, rfl⟩ := e
    simp only [and_self, if_true]
    rcases h with rfl | rfl <;> rfl
  · rw [if_neg e]

theorem dX5_isBlank_0 : decode cX5_isBlank 0 = .ok (.iload_n 0, 1) := by decide +kernel
theorem dX5_isBlank_1 : decode cX5_isBlank 1 = .ok (.bipush 32, 2) := by decide +kernel
theorem dX5_isBlank_3 : decode cX5_isBlank 3 = .ok (.if_icmp .eq 9, 3) := by decide +kernel
theorem dX5_isBlank_6 : decode cX5_isBlank 6 = .ok (.iload_n 0, 1) := by decide +kernel
theorem dX5_isBlank_7 : decode cX5_isBlank 7 = .ok (.bipush 10, 2) := by decide +kernel
theorem dX5_isBlank_9 : decode cX5_isBlank 9 = .ok (.if_icmp .ne 7, 3) := by decide +kernel
theorem dX5_isBlank_12 : decode cX5_isBlank 12 = .ok (.iconst 1, 1) := by decide +kernel
theorem dX5_isBlank_13 : decode cX5_isBlank 13 = .ok (.goto 4, 3) := by decide +kernel
theorem dX5_isBlank_16 : decode cX5_isBlank 16 = .ok (.iconst 0, 1) := by decide +kernel
theorem dX5_isBlank_17 : decode cX5_isBlank 17 = .ok (.ireturn, 1) := by decide +kernel
set_option maxHeartbeats 4000000 in
set_option maxRecDepth 20000 in
theorem c_X5_isBlank (l : Launch) (b : Nat) (D : va_G) (cy : Nat → ClassId) {tt : Nat} {M : xMm} {z : Int} (hz : inR z) : xC l b D cy yX5_isBlank cX5_isBlank 1 (some .boolean) ({ frames := 0, cells := 0, slots := 0, locals := 0 }) [xi z] 209 M (RS tt) (xPi 209 (RS tt) (fun r M' => M' = M ∧ ((z = 32 ∨ z = 10) ∧ r = 1 ∨ ¬ (z = 32 ∨ z = 10) ∧ r = 0))) := by
  refine x_met (by decide) (Nat.le_of_ble_eq_true rfl) (fun g hg hr he => ?_)
  refine x_canon (ls' := [(0, _)]) rfl ?_
  refine x_iload_n hg dX5_isBlank_0 rfl ?_
  refine x_bipush hg dX5_isBlank_1 (by decide) ?_
  refine x_icmp_eq (tgt := 12) hg dX5_isBlank_3 (by decide) (by omega) (by omega) (fun c3 => ?_) (fun c3 => ?_)
  · skip
    refine x_iconst hg dX5_isBlank_12 ?_
    refine x_goto (tgt := 17) hg dX5_isBlank_13 (by decide) ?_
    refine x_iret hg hr (Or.inr ⟨rfl, by first | exact Or.inl rfl | exact Or.inr rfl | omega⟩) dX5_isBlank_17 (Nat.le_refl _) (Nat.le_refl _) ?_
    exact ⟨rfl, rfl, _, rfl, rfl, by omega⟩
  · skip
    refine x_iload_n hg dX5_isBlank_6 rfl ?_
    refine x_bipush hg dX5_isBlank_7 (by decide) ?_
    refine x_icmp_ne (tgt := 16) hg dX5_isBlank_9 (by decide) (by omega) (by omega) (fun c9 => ?_) (fun c9 => ?_)
    · skip
      refine x_iconst hg dX5_isBlank_16 ?_
      refine x_iret hg hr (Or.inr ⟨rfl, by first | exact Or.inl rfl | exact Or.inr rfl | omega⟩) dX5_isBlank_17 (Nat.le_refl _) (Nat.le_refl _) ?_
      exact ⟨rfl, rfl, _, rfl, rfl, by omega⟩
    · skip
      refine x_iconst hg dX5_isBlank_12 ?_
      refine x_goto (tgt := 17) hg dX5_isBlank_13 (by decide) ?_
      refine x_iret hg hr (Or.inr ⟨rfl, by first | exact Or.inl rfl | exact Or.inr rfl | omega⟩) dX5_isBlank_17 (Nat.le_refl _) (Nat.le_refl _) ?_
      exact ⟨rfl, rfl, _, rfl, rfl, by omega⟩

theorem dX5_isLetter_0 : decode cX5_isLetter 0 = .ok (.iload_n 0, 1) := by decide +kernel
theorem dX5_isLetter_1 : decode cX5_isLetter 1 = .ok (.bipush 97, 2) := by decide +kernel
theorem dX5_isLetter_3 : decode cX5_isLetter 3 = .ok (.if_icmp .lt 13, 3) := by decide +kernel
theorem dX5_isLetter_6 : decode cX5_isLetter 6 = .ok (.iload_n 0, 1) := by decide +kernel
theorem dX5_isLetter_7 : decode cX5_isLetter 7 = .ok (.bipush 122, 2) := by decide +kernel
theorem dX5_isLetter_9 : decode cX5_isLetter 9 = .ok (.if_icmp .gt 7, 3) := by decide +kernel
theorem dX5_isLetter_12 : decode cX5_isLetter 12 = .ok (.iconst 1, 1) := by decide +kernel
theorem dX5_isLetter_13 : decode cX5_isLetter 13 = .ok (.goto 4, 3) := by decide +kernel
theorem dX5_isLetter_16 : decode cX5_isLetter 16 = .ok (.iconst 0, 1) := by decide +kernel
theorem dX5_isLetter_17 : decode cX5_isLetter 17 = .ok (.ireturn, 1) := by decide +kernel
set_option maxHeartbeats 4000000 in
set_option maxRecDepth 20000 in
theorem c_X5_isLetter (l : Launch) (b : Nat) (D : va_G) (cy : Nat → ClassId) {tt : Nat} {M : xMm} {z : Int} (hz : inR z) : xC l b D cy yX5_isLetter cX5_isLetter 1 (some .boolean) ({ frames := 0, cells := 0, slots := 0, locals := 0 }) [xi z] 209 M (RS tt) (xPi 209 (RS tt) (fun r M' => M' = M ∧ ((97 ≤ z ∧ z ≤ 122) ∧ r = 1 ∨ ¬ (97 ≤ z ∧ z ≤ 122) ∧ r = 0))) := by
  refine x_met (by decide) (Nat.le_of_ble_eq_true rfl) (fun g hg hr he => ?_)
  refine x_canon (ls' := [(0, _)]) rfl ?_
  refine x_iload_n hg dX5_isLetter_0 rfl ?_
  refine x_bipush hg dX5_isLetter_1 (by decide) ?_
  refine x_icmp_lt (tgt := 16) hg dX5_isLetter_3 (by decide) (by omega) (by omega) (fun c3 => ?_) (fun c3 => ?_)
  · skip
    refine x_iconst hg dX5_isLetter_16 ?_
    refine x_iret hg hr (Or.inr ⟨rfl, by first | exact Or.inl rfl | exact Or.inr rfl | omega⟩) dX5_isLetter_17 (Nat.le_refl _) (Nat.le_refl _) ?_
    exact ⟨rfl, rfl, _, rfl, rfl, by omega⟩
  · skip
    refine x_iload_n hg dX5_isLetter_6 rfl ?_
    refine x_bipush hg dX5_isLetter_7 (by decide) ?_
    refine x_icmp_gt (tgt := 16) hg dX5_isLetter_9 (by decide) (by omega) (by omega) (fun c9 => ?_) (fun c9 => ?_)
    · skip
      refine x_iconst hg dX5_isLetter_16 ?_
      refine x_iret hg hr (Or.inr ⟨rfl, by first | exact Or.inl rfl | exact Or.inr rfl | omega⟩) dX5_isLetter_17 (Nat.le_refl _) (Nat.le_refl _) ?_
      exact ⟨rfl, rfl, _, rfl, rfl, by omega⟩
    · skip
      refine x_iconst hg dX5_isLetter_12 ?_
      refine x_goto (tgt := 17) hg dX5_isLetter_13 (by decide) ?_
      refine x_iret hg hr (Or.inr ⟨rfl, by first | exact Or.inl rfl | exact Or.inr rfl | omega⟩) dX5_isLetter_17 (Nat.le_refl _) (Nat.le_refl _) ?_
      exact ⟨rfl, rfl, _, rfl, rfl, by omega⟩

theorem dX5_isDigit_0 : decode cX5_isDigit 0 = .ok (.iload_n 0, 1) := by decide +kernel
theorem dX5_isDigit_1 : decode cX5_isDigit 1 = .ok (.bipush 48, 2) := by decide +kernel
theorem dX5_isDigit_3 : decode cX5_isDigit 3 = .ok (.if_icmp .lt 13, 3) := by decide +kernel
theorem dX5_isDigit_6 : decode cX5_isDigit 6 = .ok (.iload_n 0, 1) := by decide +kernel
theorem dX5_isDigit_7 : decode cX5_isDigit 7 = .ok (.bipush 57, 2) := by decide +kernel
theorem dX5_isDigit_9 : decode cX5_isDigit 9 = .ok (.if_icmp .gt 7, 3) := by decide +kernel
theorem dX5_isDigit_12 : decode cX5_isDigit 12 = .ok (.iconst 1, 1) := by decide +kernel
theorem dX5_isDigit_13 : decode cX5_isDigit 13 = .ok (.goto 4, 3) := by decide +kernel
theorem dX5_isDigit_16 : decode cX5_isDigit 16 = .ok (.iconst 0, 1) := by decide +kernel
theorem dX5_isDigit_17 : decode cX5_isDigit 17 = .ok (.ireturn, 1) := by decide +kernel
set_option maxHeartbeats 4000000 in
set_option maxRecDepth 20000 in
theorem c_X5_isDigit (l : Launch) (b : Nat) (D : va_G) (cy : Nat → ClassId) {tt : Nat} {M : xMm} {z : Int} (hz : inR z) : xC l b D cy yX5_isDigit cX5_isDigit 1 (some .boolean) ({ frames := 0, cells := 0, slots := 0, locals := 0 }) [xi z] 209 M (RS tt) (xPi 209 (RS tt) (fun r M' => M' = M ∧ ((48 ≤ z ∧ z ≤ 57) ∧ r = 1 ∨ ¬ (48 ≤ z ∧ z ≤ 57) ∧ r = 0))) := by
  refine x_met (by decide) (Nat.le_of_ble_eq_true rfl) (fun g hg hr he => ?_)
  refine x_canon (ls' := [(0, _)]) rfl ?_
  refine x_iload_n hg dX5_isDigit_0 rfl ?_
  refine x_bipush hg dX5_isDigit_1 (by decide) ?_
  refine x_icmp_lt (tgt := 16) hg dX5_isDigit_3 (by decide) (by omega) (by omega) (fun c3 => ?_) (fun c3 => ?_)
  · skip
    refine x_iconst hg dX5_isDigit_16 ?_
    refine x_iret hg hr (Or.inr ⟨rfl, by first | exact Or.inl rfl | exact Or.inr rfl | omega⟩) dX5_isDigit_17 (Nat.le_refl _) (Nat.le_refl _) ?_
    exact ⟨rfl, rfl, _, rfl, rfl, by omega⟩
  · skip
    refine x_iload_n hg dX5_isDigit_6 rfl ?_
    refine x_bipush hg dX5_isDigit_7 (by decide) ?_
    refine x_icmp_gt (tgt := 16) hg dX5_isDigit_9 (by decide) (by omega) (by omega) (fun c9 => ?_) (fun c9 => ?_)
    · skip
      refine x_iconst hg dX5_isDigit_16 ?_
      refine x_iret hg hr (Or.inr ⟨rfl, by first | exact Or.inl rfl | exact Or.inr rfl | omega⟩) dX5_isDigit_17 (Nat.le_refl _) (Nat.le_refl _) ?_
      exact ⟨rfl, rfl, _, rfl, rfl, by omega⟩
    · skip
      refine x_iconst hg dX5_isDigit_12 ?_
      refine x_goto (tgt := 17) hg dX5_isDigit_13 (by decide) ?_
      refine x_iret hg hr (Or.inr ⟨rfl, by first | exact Or.inl rfl | exact Or.inr rfl | omega⟩) dX5_isDigit_17 (Nat.le_refl _) (Nat.le_refl _) ?_
      exact ⟨rfl, rfl, _, rfl, rfl, by omega⟩

theorem dX5_scanWord_0 : decode cX5_scanWord 0 = .ok (.aload_n 0, 1) := by decide +kernel
theorem dX5_scanWord_1 : decode cX5_scanWord 1 = .ok (.lconst 0, 1) := by decide +kernel
theorem dX5_scanWord_2 : decode cX5_scanWord 2 = .ok (.putfield 79, 3) := by decide +kernel
theorem dX5_scanWord_5 : decode cX5_scanWord 5 = .ok (.aload_n 0, 1) := by decide +kernel
theorem dX5_scanWord_6 : decode cX5_scanWord 6 = .ok (.getfield 27, 3) := by decide +kernel
theorem dX5_scanWord_9 : decode cX5_scanWord 9 = .ok (.aload_n 0, 1) := by decide +kernel
theorem dX5_scanWord_10 : decode cX5_scanWord 10 = .ok (.getfield 9, 3) := by decide +kernel
theorem dX5_scanWord_13 : decode cX5_scanWord 13 = .ok (.getfield 118, 3) := by decide +kernel
theorem dX5_scanWord_16 : decode cX5_scanWord 16 = .ok (.if_icmp .ge 57, 3) := by decide +kernel
theorem dX5_scanWord_19 : decode cX5_scanWord 19 = .ok (.aload_n 0, 1) := by decide +kernel
theorem dX5_scanWord_20 : decode cX5_scanWord 20 = .ok (.getfield 9, 3) := by decide +kernel
theorem dX5_scanWord_23 : decode cX5_scanWord 23 = .ok (.aload_n 0, 1) := by decide +kernel
theorem dX5_scanWord_24 : decode cX5_scanWord 24 = .ok (.getfield 27, 3) := by decide +kernel
theorem dX5_scanWord_27 : decode cX5_scanWord 27 = .ok (.invokevirtual 123, 3) := by decide +kernel
theorem dX5_scanWord_30 : decode cX5_scanWord 30 = .ok (.invokestatic 129, 3) := by decide +kernel
theorem dX5_scanWord_33 : decode cX5_scanWord 33 = .ok (.ifCond .eq 40, 3) := by decide +kernel
theorem dX5_scanWord_36 : decode cX5_scanWord 36 = .ok (.aload_n 0, 1) := by decide +kernel
theorem dX5_scanWord_37 : decode cX5_scanWord 37 = .ok (.aload_n 0, 1) := by decide +kernel
theorem dX5_scanWord_38 : decode cX5_scanWord 38 = .ok (.getfield 79, 3) := by decide +kernel
theorem dX5_scanWord_41 : decode cX5_scanWord 41 = .ok (.bipush 8, 2) := by decide +kernel
theorem dX5_scanWord_43 : decode cX5_scanWord 43 = .ok (.lshl, 1) := by decide +kernel
theorem dX5_scanWord_44 : decode cX5_scanWord 44 = .ok (.aload_n 0, 1) := by decide +kernel
theorem dX5_scanWord_45 : decode cX5_scanWord 45 = .ok (.getfield 9, 3) := by decide +kernel
theorem dX5_scanWord_48 : decode cX5_scanWord 48 = .ok (.aload_n 0, 1) := by decide +kernel
theorem dX5_scanWord_49 : decode cX5_scanWord 49 = .ok (.getfield 27, 3) := by decide +kernel
theorem dX5_scanWord_52 : decode cX5_scanWord 52 = .ok (.invokevirtual 123, 3) := by decide +kernel
theorem dX5_scanWord_55 : decode cX5_scanWord 55 = .ok (.i2l, 1) := by decide +kernel
theorem dX5_scanWord_56 : decode cX5_scanWord 56 = .ok (.lor, 1) := by decide +kernel
theorem dX5_scanWord_57 : decode cX5_scanWord 57 = .ok (.putfield 79, 3) := by decide +kernel
theorem dX5_scanWord_60 : decode cX5_scanWord 60 = .ok (.aload_n 0, 1) := by decide +kernel
theorem dX5_scanWord_61 : decode cX5_scanWord 61 = .ok (.dup, 1) := by decide +kernel
theorem dX5_scanWord_62 : decode cX5_scanWord 62 = .ok (.getfield 27, 3) := by decide +kernel
theorem dX5_scanWord_65 : decode cX5_scanWord 65 = .ok (.iconst 1, 1) := by decide +kernel
theorem dX5_scanWord_66 : decode cX5_scanWord 66 = .ok (.iadd, 1) := by decide +kernel
theorem dX5_scanWord_67 : decode cX5_scanWord 67 = .ok (.putfield 27, 3) := by decide +kernel
theorem dX5_scanWord_70 : decode cX5_scanWord 70 = .ok (.goto (-65), 3) := by decide +kernel
theorem dX5_scanWord_73 : decode cX5_scanWord 73 = .ok (.aload_n 0, 1) := by decide +kernel
theorem dX5_scanWord_74 : decode cX5_scanWord 74 = .ok (.aload_n 0, 1) := by decide +kernel
theorem dX5_scanWord_75 : decode cX5_scanWord 75 = .ok (.getfield 27, 3) := by decide +kernel
theorem dX5_scanWord_78 : decode cX5_scanWord 78 = .ok (.aload_n 0, 1) := by decide +kernel
theorem dX5_scanWord_79 : decode cX5_scanWord 79 = .ok (.getfield 115, 3) := by decide +kernel
theorem dX5_scanWord_82 : decode cX5_scanWord 82 = .ok (.isub, 1) := by decide +kernel
theorem dX5_scanWord_83 : decode cX5_scanWord 83 = .ok (.bipush 8, 2) := by decide +kernel
theorem dX5_scanWord_85 : decode cX5_scanWord 85 = .ok (.if_icmp .gt 7, 3) := by decide +kernel
theorem dX5_scanWord_88 : decode cX5_scanWord 88 = .ok (.iconst 2, 1) := by decide +kernel
theorem dX5_scanWord_89 : decode cX5_scanWord 89 = .ok (.goto 4, 3) := by decide +kernel
theorem dX5_scanWord_92 : decode cX5_scanWord 92 = .ok (.iconst 1, 1) := by decide +kernel
theorem dX5_scanWord_93 : decode cX5_scanWord 93 = .ok (.putfield 33, 3) := by decide +kernel
theorem dX5_scanWord_96 : decode cX5_scanWord 96 = .ok (.return_, 1) := by decide +kernel
set_option maxHeartbeats 4000000 in
set_option maxRecDepth 20000 in
theorem c_X5_scanWord (l : Launch) (b : Nat) (D : va_G) (cy : Nat → ClassId) {tt : Nat} {M0 : xMm} (hIT0 : IT M0) (hb0 : 0 ≤ M0 4 1 ∧ M0 4 1 ≤ M0 2 1) (hp0 : 0 ≤ M0 4 2 ∧ M0 4 2 ≤ M0 2 1) (h50 : inR (M0 4 5)) : xC l b D cy yX5_scanWord cX5_scanWord 1 none ({ frames := 1, cells := 0, slots := 0, locals := 21 }) [xr 4] 209 M0 (RS tt) (xPv 209 (RS tt) (fun M' => JD M' ∧ frD M' M0)) := by
  refine x_met (by decide) (Nat.le_of_ble_eq_true rfl) (fun g hg hr he => ?_)
  refine x_canon (ls' := [(0, _)]) rfl ?_
  have loop : ∀ (n1 : Nat) (M : xMm), IT M → (0 ≤ M 4 1 ∧ M 4 1 ≤ M 2 1) → (0 ≤ M 4 2 ∧ M 4 2 ≤ M 2 1) → inL (M 4 4) → inR (M 4 5) → M 2 1 - M 4 1 < n1 → frD M M0 → xW g 209 M (RS tt) 0 0 5 [(0, xr 4)] [] := by
    intro n1
    induction n1 with
    | zero => intro M _ h1 h2 _ _ h3 _; exfalso; omega
    | succ n1 ih =>
      intro M hIT h1 h2 h4 h5 h3 hf
      have hlen := hIT.1
      refine x_aload_n hg dX5_scanWord_5 rfl ?_
      refine x_getI hg dX5_scanWord_6 fl_X5_27 (by decide) rfl ?_
      refine x_aload_n hg dX5_scanWord_9 rfl ?_
      refine x_getR (j9 := 2) hg dX5_scanWord_10 fl_X5_9 (by decide) rfl rfl (by decide) ?_
      refine x_getI hg dX5_scanWord_13 fl_X5_118 (by decide) rfl ?_
      refine x_icmp_ge (tgt := 73) hg dX5_scanWord_16 (by decide) (by omega) (by omega) (fun c16 => ?_) (fun c16 => ?_)
      · skip
        refine x_aload_n hg dX5_scanWord_73 rfl ?_
        refine x_aload_n hg dX5_scanWord_74 rfl ?_
        refine x_getI hg dX5_scanWord_75 fl_X5_27 (by decide) rfl ?_
        refine x_aload_n hg dX5_scanWord_78 rfl ?_
        refine x_getI hg dX5_scanWord_79 fl_X5_115 (by decide) rfl ?_
        refine x_isub hg dX5_scanWord_82 ?_
        refine x_bipush hg dX5_scanWord_83 (by decide) ?_
        refine x_icmp_gt (tgt := 92) hg dX5_scanWord_85 (by decide) (by omega) (by omega) (fun c85 => ?_) (fun c85 => ?_)
        · skip
          refine x_iconst hg dX5_scanWord_92 ?_
          refine x_putI hg dX5_scanWord_93 fl_X5_33 ft_5_3 (by decide) rfl ?_
          refine x_vret hg hr dX5_scanWord_96 (Nat.le_refl _) (Nat.le_refl _) ?_
          refine ⟨rfl, rfl, rfl, ⟨IT_D (frD_mu (fun a _ => rfl)) hIT, ?_⟩, frD_mu hf⟩
          simp (disch := omega) only [mu_s, mu_nf, mu_nc]
          exact ⟨by omega, by omega, by omega, h4, h5, by omega⟩
        · skip
          refine x_iconst hg dX5_scanWord_88 ?_
          refine x_goto (tgt := 93) hg dX5_scanWord_89 (by decide) ?_
          refine x_putI hg dX5_scanWord_93 fl_X5_33 ft_5_3 (by decide) rfl ?_
          refine x_vret hg hr dX5_scanWord_96 (Nat.le_refl _) (Nat.le_refl _) ?_
          refine ⟨rfl, rfl, rfl, ⟨IT_D (frD_mu (fun a _ => rfl)) hIT, ?_⟩, frD_mu hf⟩
          simp (disch := omega) only [mu_s, mu_nf, mu_nc]
          exact ⟨by omega, by omega, by omega, h4, h5, by omega⟩
      · skip
        refine x_aload_n hg dX5_scanWord_19 rfl ?_
        refine x_getR (j9 := 2) hg dX5_scanWord_20 fl_X5_9 (by decide) rfl rfl (by decide) ?_
        refine x_aload_n hg dX5_scanWord_23 rfl ?_
        refine x_getI hg dX5_scanWord_24 fl_X5_27 (by decide) rfl ?_
        refine x_cVi hg he [_] [] dX5_scanWord_27 mv_X5_123 (c_X7_byteAt l b D cy hIT (by omega)) (by decide) rfl rfl (Nat.le_of_ble_eq_true rfl) (by decide) (by decide) (fun r27 M27 q27 => ?_)
        obtain ⟨h27, e27⟩ := q27
        replace h27 := h27.symm
        subst h27
        have hby27 : inR r27 := by rcases e27 with ⟨-, e⟩ | ⟨-, e⟩; (have := hIT.2 (M 4 1).toNat; omega); omega
        refine x_cSi hg he [_] [] dX5_scanWord_30 ms_X5_129 (c_X5_isLetter l b D cy hby27) rfl rfl (Nat.le_of_ble_eq_true rfl) (by decide) (by decide) (fun r30 M30 q30 => ?_)
        obtain ⟨h30, e30⟩ := q30
        replace h30 := h30.symm
        subst h30
        refine x_if_eq (tgt := 73) hg dX5_scanWord_33 (by decide) (by omega) (fun c33 => ?_) (fun c33 => ?_)
        · skip
          refine x_aload_n hg dX5_scanWord_73 rfl ?_
          refine x_aload_n hg dX5_scanWord_74 rfl ?_
          refine x_getI hg dX5_scanWord_75 fl_X5_27 (by decide) rfl ?_
          refine x_aload_n hg dX5_scanWord_78 rfl ?_
          refine x_getI hg dX5_scanWord_79 fl_X5_115 (by decide) rfl ?_
          refine x_isub hg dX5_scanWord_82 ?_
          refine x_bipush hg dX5_scanWord_83 (by decide) ?_
          refine x_icmp_gt (tgt := 92) hg dX5_scanWord_85 (by decide) (by omega) (by omega) (fun c85 => ?_) (fun c85 => ?_)
          · skip
            refine x_iconst hg dX5_scanWord_92 ?_
            refine x_putI hg dX5_scanWord_93 fl_X5_33 ft_5_3 (by decide) rfl ?_
            refine x_vret hg hr dX5_scanWord_96 (Nat.le_refl _) (Nat.le_refl _) ?_
            refine ⟨rfl, rfl, rfl, ⟨IT_D (frD_mu (fun a _ => rfl)) hIT, ?_⟩, frD_mu hf⟩
            simp (disch := omega) only [mu_s, mu_nf, mu_nc]
            exact ⟨by omega, by omega, by omega, h4, h5, by omega⟩
          · skip
            refine x_iconst hg dX5_scanWord_88 ?_
            refine x_goto (tgt := 93) hg dX5_scanWord_89 (by decide) ?_
            refine x_putI hg dX5_scanWord_93 fl_X5_33 ft_5_3 (by decide) rfl ?_
            refine x_vret hg hr dX5_scanWord_96 (Nat.le_refl _) (Nat.le_refl _) ?_
            refine ⟨rfl, rfl, rfl, ⟨IT_D (frD_mu (fun a _ => rfl)) hIT, ?_⟩, frD_mu hf⟩
            simp (disch := omega) only [mu_s, mu_nf, mu_nc]
            exact ⟨by omega, by omega, by omega, h4, h5, by omega⟩
        · skip
          refine x_aload_n hg dX5_scanWord_36 rfl ?_
          refine x_aload_n hg dX5_scanWord_37 rfl ?_
          refine x_getL hg dX5_scanWord_38 fl_X5_79 (by decide) rfl ?_
          refine x_bipush hg dX5_scanWord_41 (by decide) ?_
          refine x_lshl hg dX5_scanWord_43 ?_
          refine x_aload_n hg dX5_scanWord_44 rfl ?_
          refine x_getR (j9 := 2) hg dX5_scanWord_45 fl_X5_9 (by decide) rfl rfl (by decide) ?_
          refine x_aload_n hg dX5_scanWord_48 rfl ?_
          refine x_getI hg dX5_scanWord_49 fl_X5_27 (by decide) rfl ?_
          refine x_cVi hg he [_] [_, _] dX5_scanWord_52 mv_X5_123 (c_X7_byteAt l b D cy hIT (by omega)) (by decide) rfl rfl (Nat.le_of_ble_eq_true rfl) (by decide) (by decide) (fun r52 M52 q52 => ?_)
          obtain ⟨h52, e52⟩ := q52
          replace h52 := h52.symm
          subst h52
          have hby52 : inR r52 := by rcases e52 with ⟨-, e⟩ | ⟨-, e⟩; (have := hIT.2 (M 4 1).toNat; omega); omega
          refine x_i2l hg dX5_scanWord_55 (by omega) ?_
          refine x_lor hg dX5_scanWord_56 ?_
          refine x_wrapl (fun a57 h57 => ?_)
          refine x_putL hg dX5_scanWord_57 fl_X5_79 ft_5_4 (by decide) rfl ?_
          refine x_aload_n hg dX5_scanWord_60 rfl ?_
          refine x_dup hg dX5_scanWord_61 rfl ?_
          refine x_getI hg dX5_scanWord_62 fl_X5_27 (by decide) rfl ?_
          try simp (disch := omega) only [mu_s, mu_nf, mu_nc]
          refine x_iconst hg dX5_scanWord_65 ?_
          refine x_iadd hg dX5_scanWord_66 ?_
          refine x_putI hg dX5_scanWord_67 fl_X5_27 ft_5_1 (by decide) rfl ?_
          refine x_goto (tgt := 5) hg dX5_scanWord_70 (by decide) ?_
          exact ih _ (IT_D (frD_mu (frD_mu (fun a _ => rfl))) hIT) (by simp (disch := omega) only [mu_s, mu_nf, mu_nc]; omega) (by simp (disch := omega) only [mu_s, mu_nf, mu_nc]; omega) (by simp (disch := omega) only [mu_s, mu_nf, mu_nc]; exact h57) (by simp (disch := omega) only [mu_s, mu_nf, mu_nc]; exact h5) (by simp (disch := omega) only [mu_s, mu_nf, mu_nc]; omega) (frD_mu (frD_mu hf))
  refine x_aload_n hg dX5_scanWord_0 rfl ?_
  refine x_lconst (z := 0) hg dX5_scanWord_1 rfl ?_
  refine x_putL hg dX5_scanWord_2 fl_X5_79 ft_5_4 (by decide) rfl ?_
  exact loop 1001 _ (IT_D (frD_mu (fun a _ => rfl)) hIT0) (by simp (disch := omega) only [mu_s, mu_nf, mu_nc]; omega) (by simp (disch := omega) only [mu_s, mu_nf, mu_nc]; omega) (by simp (disch := omega) only [mu_s, mu_nf, mu_nc]; decide) (by simp (disch := omega) only [mu_s, mu_nf, mu_nc]; omega) (by simp (disch := omega) only [mu_s, mu_nf, mu_nc]; have := hIT0.1; omega) (frD_mu (fun a _ => rfl))

theorem dX5_scanNumber_0 : decode cX5_scanNumber 0 = .ok (.aload_n 0, 1) := by decide +kernel
theorem dX5_scanNumber_1 : decode cX5_scanNumber 1 = .ok (.iconst 0, 1) := by decide +kernel
theorem dX5_scanNumber_2 : decode cX5_scanNumber 2 = .ok (.putfield 95, 3) := by decide +kernel
theorem dX5_scanNumber_5 : decode cX5_scanNumber 5 = .ok (.aload_n 0, 1) := by decide +kernel
theorem dX5_scanNumber_6 : decode cX5_scanNumber 6 = .ok (.getfield 27, 3) := by decide +kernel
theorem dX5_scanNumber_9 : decode cX5_scanNumber 9 = .ok (.aload_n 0, 1) := by decide +kernel
theorem dX5_scanNumber_10 : decode cX5_scanNumber 10 = .ok (.getfield 9, 3) := by decide +kernel
theorem dX5_scanNumber_13 : decode cX5_scanNumber 13 = .ok (.getfield 118, 3) := by decide +kernel
theorem dX5_scanNumber_16 : decode cX5_scanNumber 16 = .ok (.if_icmp .ge 59, 3) := by decide +kernel
theorem dX5_scanNumber_19 : decode cX5_scanNumber 19 = .ok (.aload_n 0, 1) := by decide +kernel
theorem dX5_scanNumber_20 : decode cX5_scanNumber 20 = .ok (.getfield 9, 3) := by decide +kernel
theorem dX5_scanNumber_23 : decode cX5_scanNumber 23 = .ok (.aload_n 0, 1) := by decide +kernel
theorem dX5_scanNumber_24 : decode cX5_scanNumber 24 = .ok (.getfield 27, 3) := by decide +kernel
theorem dX5_scanNumber_27 : decode cX5_scanNumber 27 = .ok (.invokevirtual 123, 3) := by decide +kernel
theorem dX5_scanNumber_30 : decode cX5_scanNumber 30 = .ok (.invokestatic 135, 3) := by decide +kernel
theorem dX5_scanNumber_33 : decode cX5_scanNumber 33 = .ok (.ifCond .eq 42, 3) := by decide +kernel
theorem dX5_scanNumber_36 : decode cX5_scanNumber 36 = .ok (.aload_n 0, 1) := by decide +kernel
theorem dX5_scanNumber_37 : decode cX5_scanNumber 37 = .ok (.aload_n 0, 1) := by decide +kernel
theorem dX5_scanNumber_38 : decode cX5_scanNumber 38 = .ok (.getfield 95, 3) := by decide +kernel
theorem dX5_scanNumber_41 : decode cX5_scanNumber 41 = .ok (.bipush 10, 2) := by decide +kernel
theorem dX5_scanNumber_43 : decode cX5_scanNumber 43 = .ok (.imul, 1) := by decide +kernel
theorem dX5_scanNumber_44 : decode cX5_scanNumber 44 = .ok (.aload_n 0, 1) := by decide +kernel
theorem dX5_scanNumber_45 : decode cX5_scanNumber 45 = .ok (.getfield 9, 3) := by decide +kernel
theorem dX5_scanNumber_48 : decode cX5_scanNumber 48 = .ok (.aload_n 0, 1) := by decide +kernel
theorem dX5_scanNumber_49 : decode cX5_scanNumber 49 = .ok (.getfield 27, 3) := by decide +kernel
theorem dX5_scanNumber_52 : decode cX5_scanNumber 52 = .ok (.invokevirtual 123, 3) := by decide +kernel
theorem dX5_scanNumber_55 : decode cX5_scanNumber 55 = .ok (.bipush 48, 2) := by decide +kernel
theorem dX5_scanNumber_57 : decode cX5_scanNumber 57 = .ok (.isub, 1) := by decide +kernel
theorem dX5_scanNumber_58 : decode cX5_scanNumber 58 = .ok (.iadd, 1) := by decide +kernel
theorem dX5_scanNumber_59 : decode cX5_scanNumber 59 = .ok (.putfield 95, 3) := by decide +kernel
theorem dX5_scanNumber_62 : decode cX5_scanNumber 62 = .ok (.aload_n 0, 1) := by decide +kernel
theorem dX5_scanNumber_63 : decode cX5_scanNumber 63 = .ok (.dup, 1) := by decide +kernel
theorem dX5_scanNumber_64 : decode cX5_scanNumber 64 = .ok (.getfield 27, 3) := by decide +kernel
theorem dX5_scanNumber_67 : decode cX5_scanNumber 67 = .ok (.iconst 1, 1) := by decide +kernel
theorem dX5_scanNumber_68 : decode cX5_scanNumber 68 = .ok (.iadd, 1) := by decide +kernel
theorem dX5_scanNumber_69 : decode cX5_scanNumber 69 = .ok (.putfield 27, 3) := by decide +kernel
theorem dX5_scanNumber_72 : decode cX5_scanNumber 72 = .ok (.goto (-67), 3) := by decide +kernel
theorem dX5_scanNumber_75 : decode cX5_scanNumber 75 = .ok (.aload_n 0, 1) := by decide +kernel
theorem dX5_scanNumber_76 : decode cX5_scanNumber 76 = .ok (.getfield 27, 3) := by decide +kernel
theorem dX5_scanNumber_79 : decode cX5_scanNumber 79 = .ok (.aload_n 0, 1) := by decide +kernel
theorem dX5_scanNumber_80 : decode cX5_scanNumber 80 = .ok (.getfield 115, 3) := by decide +kernel
theorem dX5_scanNumber_83 : decode cX5_scanNumber 83 = .ok (.isub, 1) := by decide +kernel
theorem dX5_scanNumber_84 : decode cX5_scanNumber 84 = .ok (.iconst 4, 1) := by decide +kernel
theorem dX5_scanNumber_85 : decode cX5_scanNumber 85 = .ok (.if_icmp .gt 24, 3) := by decide +kernel
theorem dX5_scanNumber_88 : decode cX5_scanNumber 88 = .ok (.aload_n 0, 1) := by decide +kernel
theorem dX5_scanNumber_89 : decode cX5_scanNumber 89 = .ok (.getfield 9, 3) := by decide +kernel
theorem dX5_scanNumber_92 : decode cX5_scanNumber 92 = .ok (.aload_n 0, 1) := by decide +kernel
theorem dX5_scanNumber_93 : decode cX5_scanNumber 93 = .ok (.getfield 27, 3) := by decide +kernel
theorem dX5_scanNumber_96 : decode cX5_scanNumber 96 = .ok (.invokevirtual 123, 3) := by decide +kernel
theorem dX5_scanNumber_99 : decode cX5_scanNumber 99 = .ok (.invokestatic 129, 3) := by decide +kernel
theorem dX5_scanNumber_102 : decode cX5_scanNumber 102 = .ok (.ifCond .ne 7, 3) := by decide +kernel
theorem dX5_scanNumber_105 : decode cX5_scanNumber 105 = .ok (.iconst 1, 1) := by decide +kernel
theorem dX5_scanNumber_106 : decode cX5_scanNumber 106 = .ok (.goto 4, 3) := by decide +kernel
theorem dX5_scanNumber_109 : decode cX5_scanNumber 109 = .ok (.iconst 0, 1) := by decide +kernel
theorem dX5_scanNumber_110 : decode cX5_scanNumber 110 = .ok (.istore_n 1, 1) := by decide +kernel
theorem dX5_scanNumber_111 : decode cX5_scanNumber 111 = .ok (.aload_n 0, 1) := by decide +kernel
theorem dX5_scanNumber_112 : decode cX5_scanNumber 112 = .ok (.iload_n 1, 1) := by decide +kernel
theorem dX5_scanNumber_113 : decode cX5_scanNumber 113 = .ok (.ifCond .eq 7, 3) := by decide +kernel
theorem dX5_scanNumber_116 : decode cX5_scanNumber 116 = .ok (.iconst 3, 1) := by decide +kernel
theorem dX5_scanNumber_117 : decode cX5_scanNumber 117 = .ok (.goto 4, 3) := by decide +kernel
theorem dX5_scanNumber_120 : decode cX5_scanNumber 120 = .ok (.iconst 1, 1) := by decide +kernel
theorem dX5_scanNumber_121 : decode cX5_scanNumber 121 = .ok (.putfield 33, 3) := by decide +kernel
theorem dX5_scanNumber_124 : decode cX5_scanNumber 124 = .ok (.return_, 1) := by decide +kernel
set_option maxHeartbeats 4000000 in
set_option maxRecDepth 20000 in
theorem c_X5_scanNumber (l : Launch) (b : Nat) (D : va_G) (cy : Nat → ClassId) {tt : Nat} {M0 : xMm} (hIT0 : IT M0) (hb0 : 0 ≤ M0 4 1 ∧ M0 4 1 ≤ M0 2 1) (hp0 : M0 4 2 = M0 4 1) (h40 : inL (M0 4 4)) : xC l b D cy yX5_scanNumber cX5_scanNumber 2 none ({ frames := 1, cells := 0, slots := 0, locals := 21 }) [xr 4] 209 M0 (RS tt) (xPv 209 (RS tt) (fun M' => JD M' ∧ frD M' M0)) := by
  refine x_met (by decide) (Nat.le_of_ble_eq_true rfl) (fun g hg hr he => ?_)
  refine x_canon (ls' := [(0, _)]) rfl ?_
  have loop : ∀ (n1 : Nat) (M : xMm), IT M → (0 ≤ M 4 1 ∧ M 4 1 ≤ M 2 1) → (0 ≤ M 4 2 ∧ M 4 2 ≤ M 4 1) → inL (M 4 4) → inR (M 4 5) → ((M 4 1 - M 4 2 = 0 → M 4 5 = 0) ∧ (M 4 1 - M 4 2 = 1 → 0 ≤ M 4 5 ∧ M 4 5 ≤ 9) ∧ (M 4 1 - M 4 2 = 2 → 0 ≤ M 4 5 ∧ M 4 5 ≤ 99) ∧ (M 4 1 - M 4 2 = 3 → 0 ≤ M 4 5 ∧ M 4 5 ≤ 999) ∧ (M 4 1 - M 4 2 = 4 → 0 ≤ M 4 5 ∧ M 4 5 ≤ 9999)) → M 2 1 - M 4 1 < n1 → frD M M0 → xW g 209 M (RS tt) 0 0 5 [(0, xr 4)] [] := by
    intro n1
    induction n1 with
    | zero => intro M _ h1 h2 _ _ _ h3 _; exfalso; omega
    | succ n1 ih =>
      intro M hIT h1 h2 h4 h5 hnb h3 hf
      have hlen := hIT.1
      have j110 : ∀ p : Int, (p = 0 ∨ p = 1) → (p = 1 → M 4 1 - M 4 2 ≤ 4) → xW g 209 M (RS tt) 0 0 110 [(0, xr 4)] [xi p] := by
        intro p hp hp4
        refine x_istore_n (ls' := [(0, _), (1, _)]) hg dX5_scanNumber_110 rfl (by decide) rfl ?_
        refine x_aload_n hg dX5_scanNumber_111 rfl ?_
        refine x_iload_n hg dX5_scanNumber_112 rfl ?_
        refine x_if_eq (tgt := 120) hg dX5_scanNumber_113 (by decide) (by omega) (fun c113 => ?_) (fun c113 => ?_)
        · skip
          refine x_iconst hg dX5_scanNumber_120 ?_
          refine x_putI hg dX5_scanNumber_121 fl_X5_33 ft_5_3 (by decide) rfl ?_
          refine x_vret hg hr dX5_scanNumber_124 (Nat.le_refl _) (Nat.le_refl _) ?_
          refine ⟨rfl, rfl, rfl, ⟨IT_D (frD_mu (fun a _ => rfl)) hIT, ?_⟩, frD_mu hf⟩
          simp (disch := omega) only [mu_s, mu_nf, mu_nc]
          exact ⟨by omega, by omega, by omega, h4, h5, by omega⟩
        · skip
          refine x_iconst hg dX5_scanNumber_116 ?_
          refine x_goto (tgt := 121) hg dX5_scanNumber_117 (by decide) ?_
          refine x_putI hg dX5_scanNumber_121 fl_X5_33 ft_5_3 (by decide) rfl ?_
          refine x_vret hg hr dX5_scanNumber_124 (Nat.le_refl _) (Nat.le_refl _) ?_
          refine ⟨rfl, rfl, rfl, ⟨IT_D (frD_mu (fun a _ => rfl)) hIT, ?_⟩, frD_mu hf⟩
          simp (disch := omega) only [mu_s, mu_nf, mu_nc]
          exact ⟨by omega, by omega, by omega, h4, h5, by omega⟩
      refine x_aload_n hg dX5_scanNumber_5 rfl ?_
      refine x_getI hg dX5_scanNumber_6 fl_X5_27 (by decide) rfl ?_
      refine x_aload_n hg dX5_scanNumber_9 rfl ?_
      refine x_getR (j9 := 2) hg dX5_scanNumber_10 fl_X5_9 (by decide) rfl rfl (by decide) ?_
      refine x_getI hg dX5_scanNumber_13 fl_X5_118 (by decide) rfl ?_
      refine x_icmp_ge (tgt := 75) hg dX5_scanNumber_16 (by decide) (by omega) (by omega) (fun c16 => ?_) (fun c16 => ?_)
      · skip
        refine x_aload_n hg dX5_scanNumber_75 rfl ?_
        refine x_getI hg dX5_scanNumber_76 fl_X5_27 (by decide) rfl ?_
        refine x_aload_n hg dX5_scanNumber_79 rfl ?_
        refine x_getI hg dX5_scanNumber_80 fl_X5_115 (by decide) rfl ?_
        refine x_isub hg dX5_scanNumber_83 ?_
        refine x_iconst hg dX5_scanNumber_84 ?_
        refine x_icmp_gt (tgt := 109) hg dX5_scanNumber_85 (by decide) (by omega) (by omega) (fun c85 => ?_) (fun c85 => ?_)
        · skip
          refine x_iconst hg dX5_scanNumber_109 ?_
          exact j110 _ (by omega) (by omega)
        · skip
          refine x_aload_n hg dX5_scanNumber_88 rfl ?_
          refine x_getR (j9 := 2) hg dX5_scanNumber_89 fl_X5_9 (by decide) rfl rfl (by decide) ?_
          refine x_aload_n hg dX5_scanNumber_92 rfl ?_
          refine x_getI hg dX5_scanNumber_93 fl_X5_27 (by decide) rfl ?_
          refine x_cVi hg he [_] [] dX5_scanNumber_96 mv_X5_123 (c_X7_byteAt l b D cy hIT (by omega)) (by decide) rfl rfl (Nat.le_of_ble_eq_true rfl) (by decide) (by decide) (fun r96 M96 q96 => ?_)
          obtain ⟨h96, e96⟩ := q96
          replace h96 := h96.symm
          subst h96
          have hby96 : inR r96 := by rcases e96 with ⟨-, e⟩ | ⟨-, e⟩; (have := hIT.2 (M 4 1).toNat; omega); omega
          refine x_cSi hg he [_] [] dX5_scanNumber_99 ms_X5_129 (c_X5_isLetter l b D cy hby96) rfl rfl (Nat.le_of_ble_eq_true rfl) (by decide) (by decide) (fun r99 M99 q99 => ?_)
          obtain ⟨h99, e99⟩ := q99
          replace h99 := h99.symm
          subst h99
          refine x_if_ne (tgt := 109) hg dX5_scanNumber_102 (by decide) (by omega) (fun c102 => ?_) (fun c102 => ?_)
          · skip
            refine x_iconst hg dX5_scanNumber_109 ?_
            exact j110 _ (by omega) (by omega)
          · skip
            refine x_iconst hg dX5_scanNumber_105 ?_
            refine x_goto (tgt := 110) hg dX5_scanNumber_106 (by decide) ?_
            exact j110 _ (by omega) (by omega)
      · skip
        refine x_aload_n hg dX5_scanNumber_19 rfl ?_
        refine x_getR (j9 := 2) hg dX5_scanNumber_20 fl_X5_9 (by decide) rfl rfl (by decide) ?_
        refine x_aload_n hg dX5_scanNumber_23 rfl ?_
        refine x_getI hg dX5_scanNumber_24 fl_X5_27 (by decide) rfl ?_
        refine x_cVi hg he [_] [] dX5_scanNumber_27 mv_X5_123 (c_X7_byteAt l b D cy hIT (by omega)) (by decide) rfl rfl (Nat.le_of_ble_eq_true rfl) (by decide) (by decide) (fun r27 M27 q27 => ?_)
        obtain ⟨h27, e27⟩ := q27
        replace h27 := h27.symm
        subst h27
        have hby27 : inR r27 := by rcases e27 with ⟨-, e⟩ | ⟨-, e⟩; (have := hIT.2 (M 4 1).toNat; omega); omega
        refine x_cSi hg he [_] [] dX5_scanNumber_30 ms_X5_135 (c_X5_isDigit l b D cy hby27) rfl rfl (Nat.le_of_ble_eq_true rfl) (by decide) (by decide) (fun r30 M30 q30 => ?_)
        obtain ⟨h30, e30⟩ := q30
        replace h30 := h30.symm
        subst h30
        refine x_if_eq (tgt := 75) hg dX5_scanNumber_33 (by decide) (by omega) (fun c33 => ?_) (fun c33 => ?_)
        · skip
          refine x_aload_n hg dX5_scanNumber_75 rfl ?_
          refine x_getI hg dX5_scanNumber_76 fl_X5_27 (by decide) rfl ?_
          refine x_aload_n hg dX5_scanNumber_79 rfl ?_
          refine x_getI hg dX5_scanNumber_80 fl_X5_115 (by decide) rfl ?_
          refine x_isub hg dX5_scanNumber_83 ?_
          refine x_iconst hg dX5_scanNumber_84 ?_
          refine x_icmp_gt (tgt := 109) hg dX5_scanNumber_85 (by decide) (by omega) (by omega) (fun c85 => ?_) (fun c85 => ?_)
          · skip
            refine x_iconst hg dX5_scanNumber_109 ?_
            exact j110 _ (by omega) (by omega)
          · skip
            refine x_aload_n hg dX5_scanNumber_88 rfl ?_
            refine x_getR (j9 := 2) hg dX5_scanNumber_89 fl_X5_9 (by decide) rfl rfl (by decide) ?_
            refine x_aload_n hg dX5_scanNumber_92 rfl ?_
            refine x_getI hg dX5_scanNumber_93 fl_X5_27 (by decide) rfl ?_
            refine x_cVi hg he [_] [] dX5_scanNumber_96 mv_X5_123 (c_X7_byteAt l b D cy hIT (by omega)) (by decide) rfl rfl (Nat.le_of_ble_eq_true rfl) (by decide) (by decide) (fun r96 M96 q96 => ?_)
            obtain ⟨h96, e96⟩ := q96
            replace h96 := h96.symm
            subst h96
            have hby96 : inR r96 := by rcases e96 with ⟨-, e⟩ | ⟨-, e⟩; (have := hIT.2 (M 4 1).toNat; omega); omega
            refine x_cSi hg he [_] [] dX5_scanNumber_99 ms_X5_129 (c_X5_isLetter l b D cy hby96) rfl rfl (Nat.le_of_ble_eq_true rfl) (by decide) (by decide) (fun r99 M99 q99 => ?_)
            obtain ⟨h99, e99⟩ := q99
            replace h99 := h99.symm
            subst h99
            refine x_if_ne (tgt := 109) hg dX5_scanNumber_102 (by decide) (by omega) (fun c102 => ?_) (fun c102 => ?_)
            · skip
              refine x_iconst hg dX5_scanNumber_109 ?_
              exact j110 _ (by omega) (by omega)
            · skip
              refine x_iconst hg dX5_scanNumber_105 ?_
              refine x_goto (tgt := 110) hg dX5_scanNumber_106 (by decide) ?_
              exact j110 _ (by omega) (by omega)
        · skip
          refine x_aload_n hg dX5_scanNumber_36 rfl ?_
          refine x_aload_n hg dX5_scanNumber_37 rfl ?_
          refine x_getI hg dX5_scanNumber_38 fl_X5_95 (by decide) rfl ?_
          refine x_bipush hg dX5_scanNumber_41 (by decide) ?_
          refine x_imul hg dX5_scanNumber_43 ?_
          refine x_aload_n hg dX5_scanNumber_44 rfl ?_
          refine x_getR (j9 := 2) hg dX5_scanNumber_45 fl_X5_9 (by decide) rfl rfl (by decide) ?_
          refine x_aload_n hg dX5_scanNumber_48 rfl ?_
          refine x_getI hg dX5_scanNumber_49 fl_X5_27 (by decide) rfl ?_
          refine x_cVi hg he [_] [_, _] dX5_scanNumber_52 mv_X5_123 (c_X7_byteAt l b D cy hIT (by omega)) (by decide) rfl rfl (Nat.le_of_ble_eq_true rfl) (by decide) (by decide) (fun r52 M52 q52 => ?_)
          obtain ⟨h52, e52⟩ := q52
          replace h52 := h52.symm
          subst h52
          have hby52 : inR r52 := by rcases e52 with ⟨-, e⟩ | ⟨-, e⟩; (have := hIT.2 (M 4 1).toNat; omega); omega
          have e52b : r52 = r27 := by omega
          refine x_bipush hg dX5_scanNumber_55 (by decide) ?_
          refine x_isub hg dX5_scanNumber_57 ?_
          refine x_iadd hg dX5_scanNumber_58 ?_
          refine x_wq (P := fun a => inR a ∧ (M 4 1 - M 4 2 = 0 → 0 ≤ a ∧ a ≤ 9) ∧ (M 4 1 - M 4 2 = 1 → 0 ≤ a ∧ a ≤ 99) ∧ (M 4 1 - M 4 2 = 2 → 0 ≤ a ∧ a ≤ 999) ∧ (M 4 1 - M 4 2 = 3 → 0 ≤ a ∧ a ≤ 9999)) (fun hz => by omega) (fun hz a ha => by omega) (fun a59 h59 => ?_)
          refine x_putI hg dX5_scanNumber_59 fl_X5_95 ft_5_5 (by decide) rfl ?_
          refine x_aload_n hg dX5_scanNumber_62 rfl ?_
          refine x_dup hg dX5_scanNumber_63 rfl ?_
          refine x_getI hg dX5_scanNumber_64 fl_X5_27 (by decide) rfl ?_
          try simp (disch := omega) only [mu_s, mu_nf, mu_nc]
          refine x_iconst hg dX5_scanNumber_67 ?_
          refine x_iadd hg dX5_scanNumber_68 ?_
          refine x_putI hg dX5_scanNumber_69 fl_X5_27 ft_5_1 (by decide) rfl ?_
          refine x_goto (tgt := 5) hg dX5_scanNumber_72 (by decide) ?_
          exact ih _ (IT_D (frD_mu (frD_mu (fun a _ => rfl))) hIT) (by simp (disch := omega) only [mu_s, mu_nf, mu_nc]; omega) (by simp (disch := omega) only [mu_s, mu_nf, mu_nc]; omega) (by simp (disch := omega) only [mu_s, mu_nf, mu_nc]; exact h4) (by simp (disch := omega) only [mu_s, mu_nf, mu_nc]; omega) (by simp (disch := omega) only [mu_s, mu_nf, mu_nc]; omega) (by simp (disch := omega) only [mu_s, mu_nf, mu_nc]; omega) (frD_mu (frD_mu hf))
  refine x_aload_n hg dX5_scanNumber_0 rfl ?_
  refine x_iconst hg dX5_scanNumber_1 ?_
  refine x_putI hg dX5_scanNumber_2 fl_X5_95 ft_5_5 (by decide) rfl ?_
  exact loop 1001 _ (IT_D (frD_mu (fun a _ => rfl)) hIT0) (by simp (disch := omega) only [mu_s, mu_nf, mu_nc]; omega) (by simp (disch := omega) only [mu_s, mu_nf, mu_nc]; omega) (by simp (disch := omega) only [mu_s, mu_nf, mu_nc]; exact h40) (by simp (disch := omega) only [mu_s, mu_nf, mu_nc]; decide) (by refine ⟨?_, ?_, ?_, ?_, ?_⟩ <;> intro _ <;> simp (disch := omega) only [mu_s, mu_nf, mu_nc] <;> (try omega)) (by simp (disch := omega) only [mu_s, mu_nf, mu_nc]; have := hIT0.1; omega) (frD_mu (fun a _ => rfl))

theorem dX5_advance_0 : decode cX5_advance 0 = .ok (.aload_n 0, 1) := by decide +kernel
theorem dX5_advance_1 : decode cX5_advance 1 = .ok (.aload_n 0, 1) := by decide +kernel
theorem dX5_advance_2 : decode cX5_advance 2 = .ok (.getfield 27, 3) := by decide +kernel
theorem dX5_advance_5 : decode cX5_advance 5 = .ok (.putfield 115, 3) := by decide +kernel
theorem dX5_advance_8 : decode cX5_advance 8 = .ok (.aload_n 0, 1) := by decide +kernel
theorem dX5_advance_9 : decode cX5_advance 9 = .ok (.getfield 115, 3) := by decide +kernel
theorem dX5_advance_12 : decode cX5_advance 12 = .ok (.aload_n 0, 1) := by decide +kernel
theorem dX5_advance_13 : decode cX5_advance 13 = .ok (.getfield 9, 3) := by decide +kernel
theorem dX5_advance_16 : decode cX5_advance 16 = .ok (.getfield 118, 3) := by decide +kernel
theorem dX5_advance_19 : decode cX5_advance 19 = .ok (.if_icmp .ge 33, 3) := by decide +kernel
theorem dX5_advance_22 : decode cX5_advance 22 = .ok (.aload_n 0, 1) := by decide +kernel
theorem dX5_advance_23 : decode cX5_advance 23 = .ok (.getfield 9, 3) := by decide +kernel
theorem dX5_advance_26 : decode cX5_advance 26 = .ok (.aload_n 0, 1) := by decide +kernel
theorem dX5_advance_27 : decode cX5_advance 27 = .ok (.getfield 115, 3) := by decide +kernel
theorem dX5_advance_30 : decode cX5_advance 30 = .ok (.invokevirtual 123, 3) := by decide +kernel
theorem dX5_advance_33 : decode cX5_advance 33 = .ok (.invokestatic 126, 3) := by decide +kernel
theorem dX5_advance_36 : decode cX5_advance 36 = .ok (.ifCond .eq 16, 3) := by decide +kernel
theorem dX5_advance_39 : decode cX5_advance 39 = .ok (.aload_n 0, 1) := by decide +kernel
theorem dX5_advance_40 : decode cX5_advance 40 = .ok (.dup, 1) := by decide +kernel
theorem dX5_advance_41 : decode cX5_advance 41 = .ok (.getfield 115, 3) := by decide +kernel
theorem dX5_advance_44 : decode cX5_advance 44 = .ok (.iconst 1, 1) := by decide +kernel
theorem dX5_advance_45 : decode cX5_advance 45 = .ok (.iadd, 1) := by decide +kernel
theorem dX5_advance_46 : decode cX5_advance 46 = .ok (.putfield 115, 3) := by decide +kernel
theorem dX5_advance_49 : decode cX5_advance 49 = .ok (.goto (-41), 3) := by decide +kernel
theorem dX5_advance_52 : decode cX5_advance 52 = .ok (.aload_n 0, 1) := by decide +kernel
theorem dX5_advance_53 : decode cX5_advance 53 = .ok (.aload_n 0, 1) := by decide +kernel
theorem dX5_advance_54 : decode cX5_advance 54 = .ok (.getfield 115, 3) := by decide +kernel
theorem dX5_advance_57 : decode cX5_advance 57 = .ok (.putfield 27, 3) := by decide +kernel
theorem dX5_advance_60 : decode cX5_advance 60 = .ok (.aload_n 0, 1) := by decide +kernel
theorem dX5_advance_61 : decode cX5_advance 61 = .ok (.getfield 9, 3) := by decide +kernel
theorem dX5_advance_64 : decode cX5_advance 64 = .ok (.aload_n 0, 1) := by decide +kernel
theorem dX5_advance_65 : decode cX5_advance 65 = .ok (.getfield 115, 3) := by decide +kernel
theorem dX5_advance_68 : decode cX5_advance 68 = .ok (.invokevirtual 123, 3) := by decide +kernel
theorem dX5_advance_71 : decode cX5_advance 71 = .ok (.istore_n 1, 1) := by decide +kernel
theorem dX5_advance_72 : decode cX5_advance 72 = .ok (.iload_n 1, 1) := by decide +kernel
theorem dX5_advance_73 : decode cX5_advance 73 = .ok (.iconst (-1), 1) := by decide +kernel
theorem dX5_advance_74 : decode cX5_advance 74 = .ok (.if_icmp .ne 11, 3) := by decide +kernel
theorem dX5_advance_77 : decode cX5_advance 77 = .ok (.aload_n 0, 1) := by decide +kernel
theorem dX5_advance_78 : decode cX5_advance 78 = .ok (.iconst 0, 1) := by decide +kernel
theorem dX5_advance_79 : decode cX5_advance 79 = .ok (.putfield 33, 3) := by decide +kernel
theorem dX5_advance_82 : decode cX5_advance 82 = .ok (.goto 68, 3) := by decide +kernel
theorem dX5_advance_85 : decode cX5_advance 85 = .ok (.iload_n 1, 1) := by decide +kernel
theorem dX5_advance_86 : decode cX5_advance 86 = .ok (.invokestatic 129, 3) := by decide +kernel
theorem dX5_advance_89 : decode cX5_advance 89 = .ok (.ifCond .eq 10, 3) := by decide +kernel
theorem dX5_advance_92 : decode cX5_advance 92 = .ok (.aload_n 0, 1) := by decide +kernel
theorem dX5_advance_93 : decode cX5_advance 93 = .ok (.invokevirtual 132, 3) := by decide +kernel
theorem dX5_advance_96 : decode cX5_advance 96 = .ok (.goto 54, 3) := by decide +kernel
theorem dX5_advance_99 : decode cX5_advance 99 = .ok (.iload_n 1, 1) := by decide +kernel
theorem dX5_advance_100 : decode cX5_advance 100 = .ok (.invokestatic 135, 3) := by decide +kernel
theorem dX5_advance_103 : decode cX5_advance 103 = .ok (.ifCond .eq 10, 3) := by decide +kernel
theorem dX5_advance_106 : decode cX5_advance 106 = .ok (.aload_n 0, 1) := by decide +kernel
theorem dX5_advance_107 : decode cX5_advance 107 = .ok (.invokevirtual 138, 3) := by decide +kernel
theorem dX5_advance_110 : decode cX5_advance 110 = .ok (.goto 40, 3) := by decide +kernel
theorem dX5_advance_113 : decode cX5_advance 113 = .ok (.aload_n 0, 1) := by decide +kernel
theorem dX5_advance_114 : decode cX5_advance 114 = .ok (.iload_n 1, 1) := by decide +kernel
theorem dX5_advance_115 : decode cX5_advance 115 = .ok (.bipush 58, 2) := by decide +kernel
theorem dX5_advance_117 : decode cX5_advance 117 = .ok (.if_icmp .eq 15, 3) := by decide +kernel
theorem dX5_advance_120 : decode cX5_advance 120 = .ok (.iload_n 1, 1) := by decide +kernel
theorem dX5_advance_121 : decode cX5_advance 121 = .ok (.bipush 44, 2) := by decide +kernel
theorem dX5_advance_123 : decode cX5_advance 123 = .ok (.if_icmp .eq 9, 3) := by decide +kernel
theorem dX5_advance_126 : decode cX5_advance 126 = .ok (.iload_n 1, 1) := by decide +kernel
theorem dX5_advance_127 : decode cX5_advance 127 = .ok (.bipush 59, 2) := by decide +kernel
theorem dX5_advance_129 : decode cX5_advance 129 = .ok (.if_icmp .ne 7, 3) := by decide +kernel
theorem dX5_advance_132 : decode cX5_advance 132 = .ok (.iload_n 1, 1) := by decide +kernel
theorem dX5_advance_133 : decode cX5_advance 133 = .ok (.goto 4, 3) := by decide +kernel
theorem dX5_advance_136 : decode cX5_advance 136 = .ok (.iconst 1, 1) := by decide +kernel
theorem dX5_advance_137 : decode cX5_advance 137 = .ok (.putfield 33, 3) := by decide +kernel
theorem dX5_advance_140 : decode cX5_advance 140 = .ok (.aload_n 0, 1) := by decide +kernel
theorem dX5_advance_141 : decode cX5_advance 141 = .ok (.dup, 1) := by decide +kernel
theorem dX5_advance_142 : decode cX5_advance 142 = .ok (.getfield 27, 3) := by decide +kernel
theorem dX5_advance_145 : decode cX5_advance 145 = .ok (.iconst 1, 1) := by decide +kernel
theorem dX5_advance_146 : decode cX5_advance 146 = .ok (.iadd, 1) := by decide +kernel
theorem dX5_advance_147 : decode cX5_advance 147 = .ok (.putfield 27, 3) := by decide +kernel
theorem dX5_advance_150 : decode cX5_advance 150 = .ok (.return_, 1) := by decide +kernel
set_option maxHeartbeats 4000000 in
set_option maxRecDepth 20000 in
theorem c_X5_advance (l : Launch) (b : Nat) (D : va_G) (cy : Nat → ClassId) {tt : Nat} {M0 : xMm} (hJ : JB M0) : xC l b D cy yX5_advance cX5_advance 2 none ({ frames := 2, cells := 0, slots := 0, locals := 42 }) [xr 4] 209 M0 (RS tt) (xPv 209 (RS tt) (fun M' => JD M' ∧ frD M' M0)) := by
  refine x_met (by decide) (Nat.le_of_ble_eq_true rfl) (fun g hg hr he => ?_)
  have hb0 := hJ.2.1
  refine x_canon (ls' := [(0, _)]) rfl ?_
  have loop : ∀ (n1 : Nat) (M : xMm), IT M → (0 ≤ M 4 2 ∧ M 4 2 ≤ M 2 1) → inL (M 4 4) → inR (M 4 5) → M 2 1 - M 4 2 < n1 → frD M M0 → xW g 209 M (RS tt) 0 0 8 [(0, xr 4)] [] := by
    intro n1
    induction n1 with
    | zero => intro M _ h1 _ _ h3 _; exfalso; omega
    | succ n1 ih =>
      intro M hIT h2 h4 h5 h3 hf
      have hlen := hIT.1
      have j52 : xW g 209 M (RS tt) 0 0 52 [(0, xr 4)] [] := by
        refine x_aload_n hg dX5_advance_52 rfl ?_
        refine x_aload_n hg dX5_advance_53 rfl ?_
        refine x_getI hg dX5_advance_54 fl_X5_115 (by decide) rfl ?_
        refine x_putI hg dX5_advance_57 fl_X5_27 ft_5_1 (by decide) rfl ?_
        refine x_aload_n hg dX5_advance_60 rfl ?_
        refine x_getR (j9 := 2) hg dX5_advance_61 fl_X5_9 (by decide) rfl rfl (by decide) ?_
        refine x_aload_n hg dX5_advance_64 rfl ?_
        refine x_getI hg dX5_advance_65 fl_X5_115 (by decide) rfl ?_
        try simp (disch := omega) only [mu_s, mu_nf, mu_nc]
        refine x_cVi hg he [_] [] dX5_advance_68 mv_X5_123 (c_X7_byteAt l b D cy (IT_D (frD_mu (fun a _ => rfl)) hIT) (by omega)) (by decide) rfl rfl (Nat.le_of_ble_eq_true rfl) (by decide) (by decide) (fun r68 M68 q68 => ?_)
        obtain ⟨h68, e68⟩ := q68
        replace h68 := h68.symm
        subst h68
        simp (disch := omega) only [mu_s, mu_nf, mu_nc] at e68
        have hby68 : -1 ≤ r68 ∧ r68 ≤ 255 := by rcases e68 with ⟨-, e⟩ | ⟨-, e⟩; (have := hIT.2 (M 4 2).toNat; omega); omega
        refine x_istore_n (ls' := [(0, _), (1, _)]) hg dX5_advance_71 rfl (by decide) rfl ?_
        refine x_iload_n hg dX5_advance_72 rfl ?_
        refine x_iconst hg dX5_advance_73 ?_
        refine x_icmp_ne (tgt := 85) hg dX5_advance_74 (by decide) (by omega) (by omega) (fun c74 => ?_) (fun c74 => ?_)
        · skip
          refine x_iload_n hg dX5_advance_85 rfl ?_
          refine x_cSi hg he [_] [] dX5_advance_86 ms_X5_129 (c_X5_isLetter l b D cy (by omega)) rfl rfl (Nat.le_of_ble_eq_true rfl) (by decide) (by decide) (fun r86 M86 q86 => ?_)
          obtain ⟨h86, e86⟩ := q86
          replace h86 := h86.symm
          subst h86
          refine x_if_eq (tgt := 99) hg dX5_advance_89 (by decide) (by omega) (fun c89 => ?_) (fun c89 => ?_)
          · skip
            refine x_iload_n hg dX5_advance_99 rfl ?_
            refine x_cSi hg he [_] [] dX5_advance_100 ms_X5_135 (c_X5_isDigit l b D cy (by omega)) rfl rfl (Nat.le_of_ble_eq_true rfl) (by decide) (by decide) (fun r100 M100 q100 => ?_)
            obtain ⟨h100, e100⟩ := q100
            replace h100 := h100.symm
            subst h100
            refine x_if_eq (tgt := 113) hg dX5_advance_103 (by decide) (by omega) (fun c103 => ?_) (fun c103 => ?_)
            · skip
              refine x_aload_n hg dX5_advance_113 rfl ?_
              refine x_iload_n hg dX5_advance_114 rfl ?_
              refine x_bipush hg dX5_advance_115 (by decide) ?_
              refine x_icmp_eq (tgt := 132) hg dX5_advance_117 (by decide) (by omega) (by omega) (fun c117 => ?_) (fun c117 => ?_)
              · skip
                refine x_iload_n hg dX5_advance_132 rfl ?_
                refine x_goto (tgt := 137) hg dX5_advance_133 (by decide) ?_
                refine x_putI hg dX5_advance_137 fl_X5_33 ft_5_3 (by decide) rfl ?_
                refine x_aload_n hg dX5_advance_140 rfl ?_
                refine x_dup hg dX5_advance_141 rfl ?_
                refine x_getI hg dX5_advance_142 fl_X5_27 (by decide) rfl ?_
                try simp (disch := omega) only [mu_s, mu_nf, mu_nc]
                refine x_iconst hg dX5_advance_145 ?_
                refine x_iadd hg dX5_advance_146 ?_
                refine x_putI hg dX5_advance_147 fl_X5_27 ft_5_1 (by decide) rfl ?_
                refine x_vret hg hr dX5_advance_150 (Nat.le_refl _) (Nat.le_refl _) ?_
                first
                  | exact ⟨rfl, rfl, rfl, hJ93, frD_tr hf93 (frD_mu hf)⟩
                  | exact ⟨rfl, rfl, rfl, hJ107, frD_tr hf107 (frD_mu hf)⟩
                  | (refine ⟨rfl, rfl, rfl, ⟨IT_D (frD_mu (frD_mu (fun a _ => rfl))) hIT, ?_⟩, frD_mu (frD_mu hf)⟩
                     simp (disch := omega) only [mu_s, mu_nf, mu_nc]
                     exact ⟨by omega, by omega, by omega, h4, h5, by omega⟩)
                  | (refine ⟨rfl, rfl, rfl, ⟨IT_D (frD_mu (frD_mu (frD_mu (fun a _ => rfl)))) hIT, ?_⟩, frD_mu (frD_mu (frD_mu hf))⟩
                     simp (disch := omega) only [mu_s, mu_nf, mu_nc]
                     exact ⟨by omega, by omega, by omega, h4, h5, by omega⟩)
              · skip
                refine x_iload_n hg dX5_advance_120 rfl ?_
                refine x_bipush hg dX5_advance_121 (by decide) ?_
                refine x_icmp_eq (tgt := 132) hg dX5_advance_123 (by decide) (by omega) (by omega) (fun c123 => ?_) (fun c123 => ?_)
                · skip
                  refine x_iload_n hg dX5_advance_132 rfl ?_
                  refine x_goto (tgt := 137) hg dX5_advance_133 (by decide) ?_
                  refine x_putI hg dX5_advance_137 fl_X5_33 ft_5_3 (by decide) rfl ?_
                  refine x_aload_n hg dX5_advance_140 rfl ?_
                  refine x_dup hg dX5_advance_141 rfl ?_
                  refine x_getI hg dX5_advance_142 fl_X5_27 (by decide) rfl ?_
                  try simp (disch := omega) only [mu_s, mu_nf, mu_nc]
                  refine x_iconst hg dX5_advance_145 ?_
                  refine x_iadd hg dX5_advance_146 ?_
                  refine x_putI hg dX5_advance_147 fl_X5_27 ft_5_1 (by decide) rfl ?_
                  refine x_vret hg hr dX5_advance_150 (Nat.le_refl _) (Nat.le_refl _) ?_
                  first
                    | exact ⟨rfl, rfl, rfl, hJ93, frD_tr hf93 (frD_mu hf)⟩
                    | exact ⟨rfl, rfl, rfl, hJ107, frD_tr hf107 (frD_mu hf)⟩
                    | (refine ⟨rfl, rfl, rfl, ⟨IT_D (frD_mu (frD_mu (fun a _ => rfl))) hIT, ?_⟩, frD_mu (frD_mu hf)⟩
                       simp (disch := omega) only [mu_s, mu_nf, mu_nc]
                       exact ⟨by omega, by omega, by omega, h4, h5, by omega⟩)
                    | (refine ⟨rfl, rfl, rfl, ⟨IT_D (frD_mu (frD_mu (frD_mu (fun a _ => rfl)))) hIT, ?_⟩, frD_mu (frD_mu (frD_mu hf))⟩
                       simp (disch := omega) only [mu_s, mu_nf, mu_nc]
                       exact ⟨by omega, by omega, by omega, h4, h5, by omega⟩)
                · skip
                  refine x_iload_n hg dX5_advance_126 rfl ?_
                  refine x_bipush hg dX5_advance_127 (by decide) ?_
                  refine x_icmp_ne (tgt := 136) hg dX5_advance_129 (by decide) (by omega) (by omega) (fun c129 => ?_) (fun c129 => ?_)
                  · skip
                    refine x_iconst hg dX5_advance_136 ?_
                    refine x_putI hg dX5_advance_137 fl_X5_33 ft_5_3 (by decide) rfl ?_
                    refine x_aload_n hg dX5_advance_140 rfl ?_
                    refine x_dup hg dX5_advance_141 rfl ?_
                    refine x_getI hg dX5_advance_142 fl_X5_27 (by decide) rfl ?_
                    try simp (disch := omega) only [mu_s, mu_nf, mu_nc]
                    refine x_iconst hg dX5_advance_145 ?_
                    refine x_iadd hg dX5_advance_146 ?_
                    refine x_putI hg dX5_advance_147 fl_X5_27 ft_5_1 (by decide) rfl ?_
                    refine x_vret hg hr dX5_advance_150 (Nat.le_refl _) (Nat.le_refl _) ?_
                    first
                      | exact ⟨rfl, rfl, rfl, hJ93, frD_tr hf93 (frD_mu hf)⟩
                      | exact ⟨rfl, rfl, rfl, hJ107, frD_tr hf107 (frD_mu hf)⟩
                      | (refine ⟨rfl, rfl, rfl, ⟨IT_D (frD_mu (frD_mu (fun a _ => rfl))) hIT, ?_⟩, frD_mu (frD_mu hf)⟩
                         simp (disch := omega) only [mu_s, mu_nf, mu_nc]
                         exact ⟨by omega, by omega, by omega, h4, h5, by omega⟩)
                      | (refine ⟨rfl, rfl, rfl, ⟨IT_D (frD_mu (frD_mu (frD_mu (fun a _ => rfl)))) hIT, ?_⟩, frD_mu (frD_mu (frD_mu hf))⟩
                         simp (disch := omega) only [mu_s, mu_nf, mu_nc]
                         exact ⟨by omega, by omega, by omega, h4, h5, by omega⟩)
                  · skip
                    refine x_iload_n hg dX5_advance_132 rfl ?_
                    refine x_goto (tgt := 137) hg dX5_advance_133 (by decide) ?_
                    refine x_putI hg dX5_advance_137 fl_X5_33 ft_5_3 (by decide) rfl ?_
                    refine x_aload_n hg dX5_advance_140 rfl ?_
                    refine x_dup hg dX5_advance_141 rfl ?_
                    refine x_getI hg dX5_advance_142 fl_X5_27 (by decide) rfl ?_
                    try simp (disch := omega) only [mu_s, mu_nf, mu_nc]
                    refine x_iconst hg dX5_advance_145 ?_
                    refine x_iadd hg dX5_advance_146 ?_
                    refine x_putI hg dX5_advance_147 fl_X5_27 ft_5_1 (by decide) rfl ?_
                    refine x_vret hg hr dX5_advance_150 (Nat.le_refl _) (Nat.le_refl _) ?_
                    first
                      | exact ⟨rfl, rfl, rfl, hJ93, frD_tr hf93 (frD_mu hf)⟩
                      | exact ⟨rfl, rfl, rfl, hJ107, frD_tr hf107 (frD_mu hf)⟩
                      | (refine ⟨rfl, rfl, rfl, ⟨IT_D (frD_mu (frD_mu (fun a _ => rfl))) hIT, ?_⟩, frD_mu (frD_mu hf)⟩
                         simp (disch := omega) only [mu_s, mu_nf, mu_nc]
                         exact ⟨by omega, by omega, by omega, h4, h5, by omega⟩)
                      | (refine ⟨rfl, rfl, rfl, ⟨IT_D (frD_mu (frD_mu (frD_mu (fun a _ => rfl)))) hIT, ?_⟩, frD_mu (frD_mu (frD_mu hf))⟩
                         simp (disch := omega) only [mu_s, mu_nf, mu_nc]
                         exact ⟨by omega, by omega, by omega, h4, h5, by omega⟩)
            · skip
              refine x_aload_n hg dX5_advance_106 rfl ?_
              refine x_cVv hg he [] [] dX5_advance_107 mv_X5_138 (c_X5_scanNumber l b D cy (IT_D (frD_mu (fun a _ => rfl)) hIT) (by simp (disch := omega) only [mu_s, mu_nf, mu_nc]; omega) (by simp (disch := omega) only [mu_s, mu_nf, mu_nc]) (by simp (disch := omega) only [mu_s, mu_nf, mu_nc]; exact h4)) (by decide) rfl rfl (Nat.le_of_ble_eq_true rfl) (by decide) (by decide) (fun M107 q107 => ?_)
              obtain ⟨hJ107, hf107⟩ := q107
              refine x_goto (tgt := 150) hg dX5_advance_110 (by decide) ?_
              refine x_vret hg hr dX5_advance_150 (Nat.le_refl _) (Nat.le_refl _) ?_
              first
                | exact ⟨rfl, rfl, rfl, hJ93, frD_tr hf93 (frD_mu hf)⟩
                | exact ⟨rfl, rfl, rfl, hJ107, frD_tr hf107 (frD_mu hf)⟩
                | (refine ⟨rfl, rfl, rfl, ⟨IT_D (frD_mu (frD_mu (fun a _ => rfl))) hIT, ?_⟩, frD_mu (frD_mu hf)⟩
                   simp (disch := omega) only [mu_s, mu_nf, mu_nc]
                   exact ⟨by omega, by omega, by omega, h4, h5, by omega⟩)
                | (refine ⟨rfl, rfl, rfl, ⟨IT_D (frD_mu (frD_mu (frD_mu (fun a _ => rfl)))) hIT, ?_⟩, frD_mu (frD_mu (frD_mu hf))⟩
                   simp (disch := omega) only [mu_s, mu_nf, mu_nc]
                   exact ⟨by omega, by omega, by omega, h4, h5, by omega⟩)
          · skip
            refine x_aload_n hg dX5_advance_92 rfl ?_
            refine x_cVv hg he [] [] dX5_advance_93 mv_X5_132 (c_X5_scanWord l b D cy (IT_D (frD_mu (fun a _ => rfl)) hIT) (by simp (disch := omega) only [mu_s, mu_nf, mu_nc]; omega) (by simp (disch := omega) only [mu_s, mu_nf, mu_nc]; omega) (by simp (disch := omega) only [mu_s, mu_nf, mu_nc]; exact h5)) (by decide) rfl rfl (Nat.le_of_ble_eq_true rfl) (by decide) (by decide) (fun M93 q93 => ?_)
            obtain ⟨hJ93, hf93⟩ := q93
            refine x_goto (tgt := 150) hg dX5_advance_96 (by decide) ?_
            refine x_vret hg hr dX5_advance_150 (Nat.le_refl _) (Nat.le_refl _) ?_
            first
              | exact ⟨rfl, rfl, rfl, hJ93, frD_tr hf93 (frD_mu hf)⟩
              | exact ⟨rfl, rfl, rfl, hJ107, frD_tr hf107 (frD_mu hf)⟩
              | (refine ⟨rfl, rfl, rfl, ⟨IT_D (frD_mu (frD_mu (fun a _ => rfl))) hIT, ?_⟩, frD_mu (frD_mu hf)⟩
                 simp (disch := omega) only [mu_s, mu_nf, mu_nc]
                 exact ⟨by omega, by omega, by omega, h4, h5, by omega⟩)
              | (refine ⟨rfl, rfl, rfl, ⟨IT_D (frD_mu (frD_mu (frD_mu (fun a _ => rfl)))) hIT, ?_⟩, frD_mu (frD_mu (frD_mu hf))⟩
                 simp (disch := omega) only [mu_s, mu_nf, mu_nc]
                 exact ⟨by omega, by omega, by omega, h4, h5, by omega⟩)
        · skip
          refine x_aload_n hg dX5_advance_77 rfl ?_
          refine x_iconst hg dX5_advance_78 ?_
          refine x_putI hg dX5_advance_79 fl_X5_33 ft_5_3 (by decide) rfl ?_
          refine x_goto (tgt := 150) hg dX5_advance_82 (by decide) ?_
          refine x_vret hg hr dX5_advance_150 (Nat.le_refl _) (Nat.le_refl _) ?_
          first
            | exact ⟨rfl, rfl, rfl, hJ93, frD_tr hf93 (frD_mu hf)⟩
            | exact ⟨rfl, rfl, rfl, hJ107, frD_tr hf107 (frD_mu hf)⟩
            | (refine ⟨rfl, rfl, rfl, ⟨IT_D (frD_mu (frD_mu (fun a _ => rfl))) hIT, ?_⟩, frD_mu (frD_mu hf)⟩
               simp (disch := omega) only [mu_s, mu_nf, mu_nc]
               exact ⟨by omega, by omega, by omega, h4, h5, by omega⟩)
            | (refine ⟨rfl, rfl, rfl, ⟨IT_D (frD_mu (frD_mu (frD_mu (fun a _ => rfl)))) hIT, ?_⟩, frD_mu (frD_mu (frD_mu hf))⟩
               simp (disch := omega) only [mu_s, mu_nf, mu_nc]
               exact ⟨by omega, by omega, by omega, h4, h5, by omega⟩)
      refine x_aload_n hg dX5_advance_8 rfl ?_
      refine x_getI hg dX5_advance_9 fl_X5_115 (by decide) rfl ?_
      refine x_aload_n hg dX5_advance_12 rfl ?_
      refine x_getR (j9 := 2) hg dX5_advance_13 fl_X5_9 (by decide) rfl rfl (by decide) ?_
      refine x_getI hg dX5_advance_16 fl_X5_118 (by decide) rfl ?_
      refine x_icmp_ge (tgt := 52) hg dX5_advance_19 (by decide) (by omega) (by omega) (fun c19 => ?_) (fun c19 => ?_)
      · skip
        exact j52
      · skip
        refine x_aload_n hg dX5_advance_22 rfl ?_
        refine x_getR (j9 := 2) hg dX5_advance_23 fl_X5_9 (by decide) rfl rfl (by decide) ?_
        refine x_aload_n hg dX5_advance_26 rfl ?_
        refine x_getI hg dX5_advance_27 fl_X5_115 (by decide) rfl ?_
        refine x_cVi hg he [_] [] dX5_advance_30 mv_X5_123 (c_X7_byteAt l b D cy hIT (by omega)) (by decide) rfl rfl (Nat.le_of_ble_eq_true rfl) (by decide) (by decide) (fun r30 M30 q30 => ?_)
        obtain ⟨h30, e30⟩ := q30
        replace h30 := h30.symm
        subst h30
        have hby30 : inR r30 := by rcases e30 with ⟨-, e⟩ | ⟨-, e⟩; (have := hIT.2 (M 4 2).toNat; omega); omega
        refine x_cSi hg he [_] [] dX5_advance_33 ms_X5_126 (c_X5_isBlank l b D cy hby30) rfl rfl (Nat.le_of_ble_eq_true rfl) (by decide) (by decide) (fun r33 M33 q33 => ?_)
        obtain ⟨h33, e33⟩ := q33
        replace h33 := h33.symm
        subst h33
        refine x_if_eq (tgt := 52) hg dX5_advance_36 (by decide) (by omega) (fun c36 => ?_) (fun c36 => ?_)
        · skip
          exact j52
        · skip
          refine x_aload_n hg dX5_advance_39 rfl ?_
          refine x_dup hg dX5_advance_40 rfl ?_
          refine x_getI hg dX5_advance_41 fl_X5_115 (by decide) rfl ?_
          refine x_iconst hg dX5_advance_44 ?_
          refine x_iadd hg dX5_advance_45 ?_
          refine x_putI hg dX5_advance_46 fl_X5_115 ft_5_2 (by decide) rfl ?_
          refine x_goto (tgt := 8) hg dX5_advance_49 (by decide) ?_
          exact ih _ (IT_D (frD_mu (fun a _ => rfl)) hIT) (by simp (disch := omega) only [mu_s, mu_nf, mu_nc]; omega) (by simp (disch := omega) only [mu_s, mu_nf, mu_nc]; exact h4) (by simp (disch := omega) only [mu_s, mu_nf, mu_nc]; exact h5) (by simp (disch := omega) only [mu_s, mu_nf, mu_nc]; omega) (frD_mu hf)
  refine x_aload_n hg dX5_advance_0 rfl ?_
  refine x_aload_n hg dX5_advance_1 rfl ?_
  refine x_getI hg dX5_advance_2 fl_X5_27 (by decide) rfl ?_
  refine x_putI hg dX5_advance_5 fl_X5_115 ft_5_2 (by decide) rfl ?_
  exact loop 1001 _ (IT_D (frD_mu (fun a _ => rfl)) hJ.1) (by simp (disch := omega) only [mu_s, mu_nf, mu_nc]; omega) (by simp (disch := omega) only [mu_s, mu_nf, mu_nc]; exact hJ.2.2.1) (by simp (disch := omega) only [mu_s, mu_nf, mu_nc]; exact hJ.2.2.2) (by simp (disch := omega) only [mu_s, mu_nf, mu_nc]; have := hJ.1.1; omega) (frD_mu (fun a _ => rfl))

theorem dX5_refuse_0 : decode cX5_refuse 0 = .ok (.aload_n 0, 1) := by decide +kernel
theorem dX5_refuse_1 : decode cX5_refuse 1 = .ok (.iload_n 1, 1) := by decide +kernel
theorem dX5_refuse_2 : decode cX5_refuse 2 = .ok (.putfield 24, 3) := by decide +kernel
theorem dX5_refuse_5 : decode cX5_refuse 5 = .ok (.aload_n 0, 1) := by decide +kernel
theorem dX5_refuse_6 : decode cX5_refuse 6 = .ok (.aload_n 0, 1) := by decide +kernel
theorem dX5_refuse_7 : decode cX5_refuse 7 = .ok (.getfield 115, 3) := by decide +kernel
theorem dX5_refuse_10 : decode cX5_refuse 10 = .ok (.putfield 15, 3) := by decide +kernel
theorem dX5_refuse_13 : decode cX5_refuse 13 = .ok (.iconst 0, 1) := by decide +kernel
theorem dX5_refuse_14 : decode cX5_refuse 14 = .ok (.ireturn, 1) := by decide +kernel
set_option maxHeartbeats 4000000 in
set_option maxRecDepth 20000 in
theorem c_X5_refuse (l : Launch) (b : Nat) (D : va_G) (cy : Nat → ClassId) {tt : Nat} {M : xMm} {z : Int} (hJ : JD M) (hz : inR z) : xC l b D cy yX5_refuse cX5_refuse 2 (some .boolean) ({ frames := 0, cells := 0, slots := 0, locals := 0 }) [xr 4, xi z] 209 M (RS tt) (xPi 209 (RS tt) (fun r M' => r = 0 ∧ JD M' ∧ frD M' M)) := by
  refine x_met (by decide) (Nat.le_of_ble_eq_true rfl) (fun g hg hr he => ?_)
  refine x_canon (ls' := [(0, _), (1, _)]) rfl ?_
  refine x_aload_n hg dX5_refuse_0 rfl ?_
  refine x_iload_n hg dX5_refuse_1 rfl ?_
  refine x_putI hg dX5_refuse_2 fl_X5_24 ft_5_6 (by decide) rfl ?_
  refine x_aload_n hg dX5_refuse_5 rfl ?_
  refine x_aload_n hg dX5_refuse_6 rfl ?_
  refine x_getI hg dX5_refuse_7 fl_X5_115 (by decide) rfl ?_
  try simp (disch := omega) only [mu_s, mu_nf, mu_nc]
  refine x_putI hg dX5_refuse_10 fl_X5_15 ft_5_7 (by decide) rfl ?_
  refine x_iconst hg dX5_refuse_13 ?_
  refine x_iret hg hr (Or.inr ⟨rfl, by first | exact Or.inl rfl | exact Or.inr rfl | omega⟩) dX5_refuse_14 (Nat.le_refl _) (Nat.le_refl _) ?_
  refine ⟨rfl, rfl, _, rfl, rfl, ⟨IT_D (frD_mu (frD_mu (fun a _ => rfl))) hJ.1, ?_⟩, frD_mu (frD_mu (fun a _ => rfl))⟩
  simp (disch := omega) only [mu_s, mu_nf, mu_nc]
  exact hJ.2

theorem dX5_refuseToken_0 : decode cX5_refuseToken 0 = .ok (.aload_n 0, 1) := by decide +kernel
theorem dX5_refuseToken_1 : decode cX5_refuseToken 1 = .ok (.aload_n 0, 1) := by decide +kernel
theorem dX5_refuseToken_2 : decode cX5_refuseToken 2 = .ok (.getfield 33, 3) := by decide +kernel
theorem dX5_refuseToken_5 : decode cX5_refuseToken 5 = .ok (.iconst 1, 1) := by decide +kernel
theorem dX5_refuseToken_6 : decode cX5_refuseToken 6 = .ok (.if_icmp .ne 7, 3) := by decide +kernel
theorem dX5_refuseToken_9 : decode cX5_refuseToken 9 = .ok (.iconst 1, 1) := by decide +kernel
theorem dX5_refuseToken_10 : decode cX5_refuseToken 10 = .ok (.goto 4, 3) := by decide +kernel
theorem dX5_refuseToken_13 : decode cX5_refuseToken 13 = .ok (.iconst 2, 1) := by decide +kernel
theorem dX5_refuseToken_14 : decode cX5_refuseToken 14 = .ok (.invokevirtual 86, 3) := by decide +kernel
theorem dX5_refuseToken_17 : decode cX5_refuseToken 17 = .ok (.ireturn, 1) := by decide +kernel
set_option maxHeartbeats 4000000 in
set_option maxRecDepth 20000 in
theorem c_X5_refuseToken (l : Launch) (b : Nat) (D : va_G) (cy : Nat → ClassId) {tt : Nat} {M : xMm}  (hJ : JD M) : xC l b D cy yX5_refuseToken cX5_refuseToken 1 (some .boolean) ({ frames := 1, cells := 0, slots := 0, locals := 21 }) [xr 4] 209 M (RS tt) (xPi 209 (RS tt) (fun r M' => r = 0 ∧ JD M' ∧ frD M' M)) := by
  refine x_met (by decide) (Nat.le_of_ble_eq_true rfl) (fun g hg hr he => ?_)
  have hk := hJ.2.2.2.1
  refine x_canon (ls' := [(0, _)]) rfl ?_
  refine x_aload_n hg dX5_refuseToken_0 rfl ?_
  refine x_aload_n hg dX5_refuseToken_1 rfl ?_
  refine x_getI hg dX5_refuseToken_2 fl_X5_33 (by decide) rfl ?_
  refine x_iconst hg dX5_refuseToken_5 ?_
  refine x_icmp_ne (tgt := 13) hg dX5_refuseToken_6 (by decide) (by omega) (by omega) (fun c6 => ?_) (fun c6 => ?_)
  · skip
    refine x_iconst hg dX5_refuseToken_13 ?_
    refine x_cVi hg he [_] [] dX5_refuseToken_14 mv_X5_86 (c_X5_refuse l b D cy hJ (by omega)) (by decide) rfl rfl (Nat.le_of_ble_eq_true rfl) (by decide) (by decide) (fun r14 M14 q14 => ?_)
    obtain ⟨hr14, hJ14, hf14⟩ := q14
    refine x_iret hg hr (Or.inr ⟨rfl, (by omega)⟩) dX5_refuseToken_17 (Nat.le_refl _) (Nat.le_refl _) ?_
    exact ⟨rfl, rfl, _, rfl, hr14, hJ14, hf14⟩
  · skip
    refine x_iconst hg dX5_refuseToken_9 ?_
    refine x_goto (tgt := 14) hg dX5_refuseToken_10 (by decide) ?_
    refine x_cVi hg he [_] [] dX5_refuseToken_14 mv_X5_86 (c_X5_refuse l b D cy hJ (by omega)) (by decide) rfl rfl (Nat.le_of_ble_eq_true rfl) (by decide) (by decide) (fun r14 M14 q14 => ?_)
    obtain ⟨hr14, hJ14, hf14⟩ := q14
    refine x_iret hg hr (Or.inr ⟨rfl, (by omega)⟩) dX5_refuseToken_17 (Nat.le_refl _) (Nat.le_refl _) ?_
    exact ⟨rfl, rfl, _, rfl, hr14, hJ14, hf14⟩

theorem dX5_takeWord_0 : decode cX5_takeWord 0 = .ok (.aload_n 0, 1) := by decide +kernel
theorem dX5_takeWord_1 : decode cX5_takeWord 1 = .ok (.getfield 33, 3) := by decide +kernel
theorem dX5_takeWord_4 : decode cX5_takeWord 4 = .ok (.iconst 2, 1) := by decide +kernel
theorem dX5_takeWord_5 : decode cX5_takeWord 5 = .ok (.if_icmp .ne 12, 3) := by decide +kernel
theorem dX5_takeWord_8 : decode cX5_takeWord 8 = .ok (.aload_n 0, 1) := by decide +kernel
theorem dX5_takeWord_9 : decode cX5_takeWord 9 = .ok (.getfield 79, 3) := by decide +kernel
theorem dX5_takeWord_12 : decode cX5_takeWord 12 = .ok (.lload_n 1, 1) := by decide +kernel
theorem dX5_takeWord_13 : decode cX5_takeWord 13 = .ok (.lcmp, 1) := by decide +kernel
theorem dX5_takeWord_14 : decode cX5_takeWord 14 = .ok (.ifCond .eq 8, 3) := by decide +kernel
theorem dX5_takeWord_17 : decode cX5_takeWord 17 = .ok (.aload_n 0, 1) := by decide +kernel
theorem dX5_takeWord_18 : decode cX5_takeWord 18 = .ok (.invokevirtual 48, 3) := by decide +kernel
theorem dX5_takeWord_21 : decode cX5_takeWord 21 = .ok (.ireturn, 1) := by decide +kernel
theorem dX5_takeWord_22 : decode cX5_takeWord 22 = .ok (.aload_n 0, 1) := by decide +kernel
theorem dX5_takeWord_23 : decode cX5_takeWord 23 = .ok (.invokevirtual 30, 3) := by decide +kernel
theorem dX5_takeWord_26 : decode cX5_takeWord 26 = .ok (.iconst 1, 1) := by decide +kernel
theorem dX5_takeWord_27 : decode cX5_takeWord 27 = .ok (.ireturn, 1) := by decide +kernel
set_option maxHeartbeats 4000000 in
set_option maxRecDepth 20000 in
theorem c_X5_takeWord (l : Launch) (b : Nat) (D : va_G) (cy : Nat → ClassId) {tt : Nat} {M : xMm} {z : Int} (hJ : JD M) (hI : IR M) (hz : inL z) : xC l b D cy yX5_takeWord cX5_takeWord 3 (some .boolean) ({ frames := 3, cells := 0, slots := 0, locals := 63 }) [xr 4, xl z] 209 M (RS tt) (xPi 209 (RS tt) (fun r M' => (r = 0 ∨ r = 1) ∧ JD M' ∧ IR M' ∧ frT M' M)) := by
  refine x_met (by decide) (Nat.le_of_ble_eq_true rfl) (fun g hg hr he => ?_)
  have hk := hJ.2.2.2.1
  have hw := hJ.2.2.2.2.1
  have hnu := hJ.2.2.2.2.2.1
  have hn3 := hJ.2.2.2.2.2.2
  refine x_canon (ls' := [(0, _), (1, _)]) rfl ?_
  refine x_aload_n hg dX5_takeWord_0 rfl ?_
  refine x_getI hg dX5_takeWord_1 fl_X5_33 (by decide) rfl ?_
  refine x_iconst hg dX5_takeWord_4 ?_
  refine x_icmp_ne (tgt := 17) hg dX5_takeWord_5 (by decide) (by omega) (by omega) (fun c5 => ?_) (fun c5 => ?_)
  · skip
    refine x_aload_n hg dX5_takeWord_17 rfl ?_
    refine x_cVi hg he [] [] dX5_takeWord_18 mv_X5_48 (c_X5_refuseToken l b D cy hJ) (by decide) rfl rfl (Nat.le_of_ble_eq_true rfl) (by decide) (by decide) (fun r18 M18 q18 => ?_)
    obtain ⟨hr18, hJ18, hf18⟩ := q18
    refine x_iret hg hr (Or.inr ⟨rfl, (by omega)⟩) dX5_takeWord_21 (Nat.le_refl _) (Nat.le_refl _) ?_
    first | exact ⟨rfl, rfl, _, rfl, by omega, hJ18, IR_D hf18 hI, frT_D hf18⟩ | exact ⟨rfl, rfl, _, rfl, by omega, hJ23, IR_D hf23 hI, frT_D hf23⟩
  · skip
    refine x_aload_n hg dX5_takeWord_8 rfl ?_
    refine x_getL hg dX5_takeWord_9 fl_X5_79 (by decide) rfl ?_
    refine x_lload_n hg dX5_takeWord_12 rfl ?_
    refine x_lcmp hg dX5_takeWord_13 (by exact hw) (by exact hz) ?_
    refine x_if_eq (tgt := 22) hg dX5_takeWord_14 (by decide) (by split <;> (try split) <;> omega) (fun c14 => ?_) (fun c14 => ?_)
    · skip
      refine x_aload_n hg dX5_takeWord_22 rfl ?_
      refine x_cVv hg he [] [] dX5_takeWord_23 mv_X5_30 (c_X5_advance l b D cy (JD_B hJ)) (by decide) rfl rfl (Nat.le_of_ble_eq_true rfl) (by decide) (by decide) (fun M23 q23 => ?_)
      obtain ⟨hJ23, hf23⟩ := q23
      refine x_iconst hg dX5_takeWord_26 ?_
      refine x_iret hg hr (Or.inr ⟨rfl, by first | exact Or.inl rfl | exact Or.inr rfl | omega⟩) dX5_takeWord_27 (Nat.le_refl _) (Nat.le_refl _) ?_
      first | exact ⟨rfl, rfl, _, rfl, by omega, hJ18, IR_D hf18 hI, frT_D hf18⟩ | exact ⟨rfl, rfl, _, rfl, by omega, hJ23, IR_D hf23 hI, frT_D hf23⟩
    · skip
      refine x_aload_n hg dX5_takeWord_17 rfl ?_
      refine x_cVi hg he [] [] dX5_takeWord_18 mv_X5_48 (c_X5_refuseToken l b D cy hJ) (by decide) rfl rfl (Nat.le_of_ble_eq_true rfl) (by decide) (by decide) (fun r18 M18 q18 => ?_)
      obtain ⟨hr18, hJ18, hf18⟩ := q18
      refine x_iret hg hr (Or.inr ⟨rfl, (by omega)⟩) dX5_takeWord_21 (Nat.le_refl _) (Nat.le_refl _) ?_
      first | exact ⟨rfl, rfl, _, rfl, by omega, hJ18, IR_D hf18 hI, frT_D hf18⟩ | exact ⟨rfl, rfl, _, rfl, by omega, hJ23, IR_D hf23 hI, frT_D hf23⟩

theorem dX5_takeSign_0 : decode cX5_takeSign 0 = .ok (.aload_n 0, 1) := by decide +kernel
theorem dX5_takeSign_1 : decode cX5_takeSign 1 = .ok (.getfield 33, 3) := by decide +kernel
theorem dX5_takeSign_4 : decode cX5_takeSign 4 = .ok (.iload_n 1, 1) := by decide +kernel
theorem dX5_takeSign_5 : decode cX5_takeSign 5 = .ok (.if_icmp .eq 8, 3) := by decide +kernel
theorem dX5_takeSign_8 : decode cX5_takeSign 8 = .ok (.aload_n 0, 1) := by decide +kernel
theorem dX5_takeSign_9 : decode cX5_takeSign 9 = .ok (.invokevirtual 48, 3) := by decide +kernel
theorem dX5_takeSign_12 : decode cX5_takeSign 12 = .ok (.ireturn, 1) := by decide +kernel
theorem dX5_takeSign_13 : decode cX5_takeSign 13 = .ok (.aload_n 0, 1) := by decide +kernel
theorem dX5_takeSign_14 : decode cX5_takeSign 14 = .ok (.invokevirtual 30, 3) := by decide +kernel
theorem dX5_takeSign_17 : decode cX5_takeSign 17 = .ok (.iconst 1, 1) := by decide +kernel
theorem dX5_takeSign_18 : decode cX5_takeSign 18 = .ok (.ireturn, 1) := by decide +kernel
set_option maxHeartbeats 4000000 in
set_option maxRecDepth 20000 in
theorem c_X5_takeSign (l : Launch) (b : Nat) (D : va_G) (cy : Nat → ClassId) {tt : Nat} {M : xMm} {z : Int} (hJ : JD M) (hI : IR M) (hz : inR z) : xC l b D cy yX5_takeSign cX5_takeSign 2 (some .boolean) ({ frames := 3, cells := 0, slots := 0, locals := 63 }) [xr 4, xi z] 209 M (RS tt) (xPi 209 (RS tt) (fun r M' => (r = 0 ∨ r = 1) ∧ JD M' ∧ IR M' ∧ frT M' M)) := by
  refine x_met (by decide) (Nat.le_of_ble_eq_true rfl) (fun g hg hr he => ?_)
  have hk := hJ.2.2.2.1
  have hw := hJ.2.2.2.2.1
  have hnu := hJ.2.2.2.2.2.1
  have hn3 := hJ.2.2.2.2.2.2
  refine x_canon (ls' := [(0, _), (1, _)]) rfl ?_
  refine x_aload_n hg dX5_takeSign_0 rfl ?_
  refine x_getI hg dX5_takeSign_1 fl_X5_33 (by decide) rfl ?_
  refine x_iload_n hg dX5_takeSign_4 rfl ?_
  refine x_icmp_eq (tgt := 13) hg dX5_takeSign_5 (by decide) (by omega) (by omega) (fun c5 => ?_) (fun c5 => ?_)
  · skip
    refine x_aload_n hg dX5_takeSign_13 rfl ?_
    refine x_cVv hg he [] [] dX5_takeSign_14 mv_X5_30 (c_X5_advance l b D cy (JD_B hJ)) (by decide) rfl rfl (Nat.le_of_ble_eq_true rfl) (by decide) (by decide) (fun M14 q14 => ?_)
    obtain ⟨hJ14, hf14⟩ := q14
    refine x_iconst hg dX5_takeSign_17 ?_
    refine x_iret hg hr (Or.inr ⟨rfl, by first | exact Or.inl rfl | exact Or.inr rfl | omega⟩) dX5_takeSign_18 (Nat.le_refl _) (Nat.le_refl _) ?_
    first | exact ⟨rfl, rfl, _, rfl, by omega, hJ9, IR_D hf9 hI, frT_D hf9⟩ | exact ⟨rfl, rfl, _, rfl, by omega, hJ14, IR_D hf14 hI, frT_D hf14⟩
  · skip
    refine x_aload_n hg dX5_takeSign_8 rfl ?_
    refine x_cVi hg he [] [] dX5_takeSign_9 mv_X5_48 (c_X5_refuseToken l b D cy hJ) (by decide) rfl rfl (Nat.le_of_ble_eq_true rfl) (by decide) (by decide) (fun r9 M9 q9 => ?_)
    obtain ⟨hr9, hJ9, hf9⟩ := q9
    refine x_iret hg hr (Or.inr ⟨rfl, (by omega)⟩) dX5_takeSign_12 (Nat.le_refl _) (Nat.le_refl _) ?_
    first | exact ⟨rfl, rfl, _, rfl, by omega, hJ9, IR_D hf9 hI, frT_D hf9⟩ | exact ⟨rfl, rfl, _, rfl, by omega, hJ14, IR_D hf14 hI, frT_D hf14⟩

theorem dX5_takeName_0 : decode cX5_takeName 0 = .ok (.aload_n 0, 1) := by decide +kernel
theorem dX5_takeName_1 : decode cX5_takeName 1 = .ok (.getfield 33, 3) := by decide +kernel
theorem dX5_takeName_4 : decode cX5_takeName 4 = .ok (.iconst 2, 1) := by decide +kernel
theorem dX5_takeName_5 : decode cX5_takeName 5 = .ok (.if_icmp .ne 36, 3) := by decide +kernel
theorem dX5_takeName_8 : decode cX5_takeName 8 = .ok (.aload_n 0, 1) := by decide +kernel
theorem dX5_takeName_9 : decode cX5_takeName 9 = .ok (.getfield 79, 3) := by decide +kernel
theorem dX5_takeName_12 : decode cX5_takeName 12 = .ok (.ldc2_w 52, 3) := by decide +kernel
theorem dX5_takeName_15 : decode cX5_takeName 15 = .ok (.lcmp, 1) := by decide +kernel
theorem dX5_takeName_16 : decode cX5_takeName 16 = .ok (.ifCond .eq 25, 3) := by decide +kernel
theorem dX5_takeName_19 : decode cX5_takeName 19 = .ok (.aload_n 0, 1) := by decide +kernel
theorem dX5_takeName_20 : decode cX5_takeName 20 = .ok (.getfield 79, 3) := by decide +kernel
theorem dX5_takeName_23 : decode cX5_takeName 23 = .ok (.ldc2_w 61, 3) := by decide +kernel
theorem dX5_takeName_26 : decode cX5_takeName 26 = .ok (.lcmp, 1) := by decide +kernel
theorem dX5_takeName_27 : decode cX5_takeName 27 = .ok (.ifCond .eq 14, 3) := by decide +kernel
theorem dX5_takeName_30 : decode cX5_takeName 30 = .ok (.aload_n 0, 1) := by decide +kernel
theorem dX5_takeName_31 : decode cX5_takeName 31 = .ok (.getfield 79, 3) := by decide +kernel
theorem dX5_takeName_34 : decode cX5_takeName 34 = .ok (.ldc2_w 74, 3) := by decide +kernel
theorem dX5_takeName_37 : decode cX5_takeName 37 = .ok (.lcmp, 1) := by decide +kernel
theorem dX5_takeName_38 : decode cX5_takeName 38 = .ok (.ifCond .ne 8, 3) := by decide +kernel
theorem dX5_takeName_41 : decode cX5_takeName 41 = .ok (.aload_n 0, 1) := by decide +kernel
theorem dX5_takeName_42 : decode cX5_takeName 42 = .ok (.invokevirtual 48, 3) := by decide +kernel
theorem dX5_takeName_45 : decode cX5_takeName 45 = .ok (.ireturn, 1) := by decide +kernel
theorem dX5_takeName_46 : decode cX5_takeName 46 = .ok (.aload_n 1, 1) := by decide +kernel
theorem dX5_takeName_47 : decode cX5_takeName 47 = .ok (.aload_n 0, 1) := by decide +kernel
theorem dX5_takeName_48 : decode cX5_takeName 48 = .ok (.getfield 79, 3) := by decide +kernel
theorem dX5_takeName_51 : decode cX5_takeName 51 = .ok (.invokevirtual 83, 3) := by decide +kernel
theorem dX5_takeName_54 : decode cX5_takeName 54 = .ok (.ifCond .eq 9, 3) := by decide +kernel
theorem dX5_takeName_57 : decode cX5_takeName 57 = .ok (.aload_n 0, 1) := by decide +kernel
theorem dX5_takeName_58 : decode cX5_takeName 58 = .ok (.iconst 3, 1) := by decide +kernel
theorem dX5_takeName_59 : decode cX5_takeName 59 = .ok (.invokevirtual 86, 3) := by decide +kernel
theorem dX5_takeName_62 : decode cX5_takeName 62 = .ok (.ireturn, 1) := by decide +kernel
theorem dX5_takeName_63 : decode cX5_takeName 63 = .ok (.aload_n 2, 1) := by decide +kernel
theorem dX5_takeName_64 : decode cX5_takeName 64 = .ok (.aload_n 0, 1) := by decide +kernel
theorem dX5_takeName_65 : decode cX5_takeName 65 = .ok (.getfield 79, 3) := by decide +kernel
theorem dX5_takeName_68 : decode cX5_takeName 68 = .ok (.invokevirtual 89, 3) := by decide +kernel
theorem dX5_takeName_71 : decode cX5_takeName 71 = .ok (.aload_n 0, 1) := by decide +kernel
theorem dX5_takeName_72 : decode cX5_takeName 72 = .ok (.invokevirtual 30, 3) := by decide +kernel
theorem dX5_takeName_75 : decode cX5_takeName 75 = .ok (.iconst 1, 1) := by decide +kernel
theorem dX5_takeName_76 : decode cX5_takeName 76 = .ok (.ireturn, 1) := by decide +kernel
set_option maxHeartbeats 4000000 in
set_option maxRecDepth 20000 in
theorem c_X5_takeName (l : Launch) (b : Nat) (D : va_G) (cy : Nat → ClassId) {tt : Nat} {M : xMm} {q i : Nat} (hJ : JD M) (hI : IR M) (hq : xTt q) (hi : xTr i) : xC l b D cy yX5_takeName cX5_takeName 3 (some .boolean) ({ frames := 3, cells := 0, slots := 0, locals := 63 }) [xr 4, xr q, xr i] 209 M (RS tt) (xPi 209 (RS tt) (fun r M' => (r = 0 ∨ r = 1) ∧ JD M' ∧ IR M' ∧ frT M' M)) := by
  refine x_met (by decide) (Nat.le_of_ble_eq_true rfl) (fun g hg hr he => ?_)
  have hk := hJ.2.2.2.1
  have hw := hJ.2.2.2.2.1
  have hnu := hJ.2.2.2.2.2.1
  have hn3 := hJ.2.2.2.2.2.2
  refine x_canon (ls' := [(0, _), (1, _), (2, _)]) rfl ?_
  refine x_aload_n hg dX5_takeName_0 rfl ?_
  refine x_getI hg dX5_takeName_1 fl_X5_33 (by decide) rfl ?_
  refine x_iconst hg dX5_takeName_4 ?_
  refine x_icmp_ne (tgt := 41) hg dX5_takeName_5 (by decide) (by omega) (by omega) (fun c5 => ?_) (fun c5 => ?_)
  · skip
    refine x_aload_n hg dX5_takeName_41 rfl ?_
    refine x_cVi hg he [] [] dX5_takeName_42 mv_X5_48 (c_X5_refuseToken l b D cy hJ) (by decide) rfl rfl (Nat.le_of_ble_eq_true rfl) (by decide) (by decide) (fun r42 M42 q42 => ?_)
    obtain ⟨hr42, hJ42, hf42⟩ := q42
    refine x_iret hg hr (Or.inr ⟨rfl, (by omega)⟩) dX5_takeName_45 (Nat.le_refl _) (Nat.le_refl _) ?_
    first | exact ⟨rfl, rfl, _, rfl, by omega, hJ42, IR_D hf42 hI, frT_D hf42⟩ | exact ⟨rfl, rfl, _, rfl, by omega, hJ59, IR_D hf59 hI, frT_D hf59⟩
  · skip
    refine x_aload_n hg dX5_takeName_8 rfl ?_
    refine x_getL hg dX5_takeName_9 fl_X5_79 (by decide) rfl ?_
    refine x_ldc2 hg 500135192942 dX5_takeName_12 (List.mem_of_getElem? (i := 499) (by decide +kernel)) ?_
    refine x_lcmp hg dX5_takeName_15 (by exact hw) (by decide) ?_
    refine x_if_eq (tgt := 41) hg dX5_takeName_16 (by decide) (by split <;> (try split) <;> omega) (fun c16 => ?_) (fun c16 => ?_)
    · skip
      refine x_aload_n hg dX5_takeName_41 rfl ?_
      refine x_cVi hg he [] [] dX5_takeName_42 mv_X5_48 (c_X5_refuseToken l b D cy hJ) (by decide) rfl rfl (Nat.le_of_ble_eq_true rfl) (by decide) (by decide) (fun r42 M42 q42 => ?_)
      obtain ⟨hr42, hJ42, hf42⟩ := q42
      refine x_iret hg hr (Or.inr ⟨rfl, (by omega)⟩) dX5_takeName_45 (Nat.le_refl _) (Nat.le_refl _) ?_
      first | exact ⟨rfl, rfl, _, rfl, by omega, hJ42, IR_D hf42 hI, frT_D hf42⟩ | exact ⟨rfl, rfl, _, rfl, by omega, hJ59, IR_D hf59 hI, frT_D hf59⟩
    · skip
      refine x_aload_n hg dX5_takeName_19 rfl ?_
      refine x_getL hg dX5_takeName_20 fl_X5_79 (by decide) rfl ?_
      refine x_ldc2 hg 27973166868030835 dX5_takeName_23 (List.mem_of_getElem? (i := 516) (by decide +kernel)) ?_
      refine x_lcmp hg dX5_takeName_26 (by exact hw) (by decide) ?_
      refine x_if_eq (tgt := 41) hg dX5_takeName_27 (by decide) (by split <;> (try split) <;> omega) (fun c27 => ?_) (fun c27 => ?_)
      · skip
        refine x_aload_n hg dX5_takeName_41 rfl ?_
        refine x_cVi hg he [] [] dX5_takeName_42 mv_X5_48 (c_X5_refuseToken l b D cy hJ) (by decide) rfl rfl (Nat.le_of_ble_eq_true rfl) (by decide) (by decide) (fun r42 M42 q42 => ?_)
        obtain ⟨hr42, hJ42, hf42⟩ := q42
        refine x_iret hg hr (Or.inr ⟨rfl, (by omega)⟩) dX5_takeName_45 (Nat.le_refl _) (Nat.le_refl _) ?_
        first | exact ⟨rfl, rfl, _, rfl, by omega, hJ42, IR_D hf42 hI, frT_D hf42⟩ | exact ⟨rfl, rfl, _, rfl, by omega, hJ59, IR_D hf59 hI, frT_D hf59⟩
      · skip
        refine x_aload_n hg dX5_takeName_30 rfl ?_
        refine x_getL hg dX5_takeName_31 fl_X5_79 (by decide) rfl ?_
        refine x_ldc2 hg 24948 dX5_takeName_34 (List.mem_of_getElem? (i := 517) (by decide +kernel)) ?_
        refine x_lcmp hg dX5_takeName_37 (by exact hw) (by decide) ?_
        refine x_if_ne (tgt := 46) hg dX5_takeName_38 (by decide) (by split <;> (try split) <;> omega) (fun c38 => ?_) (fun c38 => ?_)
        · skip
          refine x_aload_n hg dX5_takeName_46 rfl ?_
          refine x_aload_n hg dX5_takeName_47 rfl ?_
          refine x_getL hg dX5_takeName_48 fl_X5_79 (by decide) rfl ?_
          refine x_cVi hg he [_] [] dX5_takeName_51 mv_X5_83 (c_X8_hasName l b D cy hI hq hw) (oO_tt hq) rfl rfl (Nat.le_of_ble_eq_true rfl) (by decide) (by decide) (fun r51 M51 q51 => ?_)
          obtain ⟨h51, e51⟩ := q51
          replace h51 := h51.symm
          subst h51
          refine x_if_eq (tgt := 63) hg dX5_takeName_54 (by decide) (by omega) (fun c54 => ?_) (fun c54 => ?_)
          · skip
            refine x_aload_n hg dX5_takeName_63 rfl ?_
            refine x_aload_n hg dX5_takeName_64 rfl ?_
            refine x_getL hg dX5_takeName_65 fl_X5_79 (by decide) rfl ?_
            refine x_cVv hg he [_] [] dX5_takeName_68 mv_X5_89 (c_X9_begin l b D cy hi) (oO_train hi) rfl rfl (Nat.le_of_ble_eq_true rfl) (by decide) (by decide) (fun M68 q68 => ?_)
            subst q68
            refine x_aload_n hg dX5_takeName_71 rfl ?_
            refine x_cVv hg he [] [] dX5_takeName_72 mv_X5_30 (c_X5_advance l b D cy (JD_B (JD_congr hJ (fun a ha => by funext c; rw [mu_nc (by omega), mu_nc (by omega), mu_nc (by omega), mu_nc (by omega)])))) (by decide) rfl rfl (Nat.le_of_ble_eq_true rfl) (by decide) (by decide) (fun M72 q72 => ?_)
            obtain ⟨hJ72, hf72⟩ := q72
            refine x_iconst hg dX5_takeName_75 ?_
            refine x_iret hg hr (Or.inr ⟨rfl, by first | exact Or.inl rfl | exact Or.inr rfl | omega⟩) dX5_takeName_76 (Nat.le_refl _) (Nat.le_refl _) ?_
            refine ⟨rfl, rfl, _, rfl, by omega, hJ72, IR_D hf72 (IR_tr (IR_tr (IR_tr (IR_tr hI hi (Or.inr (Or.inr (Or.inr ⟨rfl, hw⟩)))) hi (Or.inl ⟨rfl, by decide, by decide⟩)) hi (Or.inr (Or.inl ⟨rfl, by decide, by decide⟩))) hi (Or.inr (Or.inr (Or.inl ⟨rfl, by decide, by decide⟩)))), frT_tr (frT_D hf72) (frT_mu (frT_mu (frT_mu (frT_mu (frT_rf M) (by omega)) (by omega)) (by omega)) (by omega))⟩
          · skip
            refine x_aload_n hg dX5_takeName_57 rfl ?_
            refine x_iconst hg dX5_takeName_58 ?_
            refine x_cVi hg he [_] [] dX5_takeName_59 mv_X5_86 (c_X5_refuse l b D cy hJ (by omega)) (by decide) rfl rfl (Nat.le_of_ble_eq_true rfl) (by decide) (by decide) (fun r59 M59 q59 => ?_)
            obtain ⟨hr59, hJ59, hf59⟩ := q59
            refine x_iret hg hr (Or.inr ⟨rfl, (by omega)⟩) dX5_takeName_62 (Nat.le_refl _) (Nat.le_refl _) ?_
            first | exact ⟨rfl, rfl, _, rfl, by omega, hJ42, IR_D hf42 hI, frT_D hf42⟩ | exact ⟨rfl, rfl, _, rfl, by omega, hJ59, IR_D hf59 hI, frT_D hf59⟩
        · skip
          refine x_aload_n hg dX5_takeName_41 rfl ?_
          refine x_cVi hg he [] [] dX5_takeName_42 mv_X5_48 (c_X5_refuseToken l b D cy hJ) (by decide) rfl rfl (Nat.le_of_ble_eq_true rfl) (by decide) (by decide) (fun r42 M42 q42 => ?_)
          obtain ⟨hr42, hJ42, hf42⟩ := q42
          refine x_iret hg hr (Or.inr ⟨rfl, (by omega)⟩) dX5_takeName_45 (Nat.le_refl _) (Nat.le_refl _) ?_
          first | exact ⟨rfl, rfl, _, rfl, by omega, hJ42, IR_D hf42 hI, frT_D hf42⟩ | exact ⟨rfl, rfl, _, rfl, by omega, hJ59, IR_D hf59 hI, frT_D hf59⟩

theorem dX5_takeCarries_0 : decode cX5_takeCarries 0 = .ok (.aload_n 0, 1) := by decide +kernel
theorem dX5_takeCarries_1 : decode cX5_takeCarries 1 = .ok (.getfield 33, 3) := by decide +kernel
theorem dX5_takeCarries_4 : decode cX5_takeCarries 4 = .ok (.iconst 3, 1) := by decide +kernel
theorem dX5_takeCarries_5 : decode cX5_takeCarries 5 = .ok (.if_icmp .eq 8, 3) := by decide +kernel
theorem dX5_takeCarries_8 : decode cX5_takeCarries 8 = .ok (.aload_n 0, 1) := by decide +kernel
theorem dX5_takeCarries_9 : decode cX5_takeCarries 9 = .ok (.invokevirtual 48, 3) := by decide +kernel
theorem dX5_takeCarries_12 : decode cX5_takeCarries 12 = .ok (.ireturn, 1) := by decide +kernel
theorem dX5_takeCarries_13 : decode cX5_takeCarries 13 = .ok (.aload_n 0, 1) := by decide +kernel
theorem dX5_takeCarries_14 : decode cX5_takeCarries 14 = .ok (.getfield 95, 3) := by decide +kernel
theorem dX5_takeCarries_17 : decode cX5_takeCarries 17 = .ok (.bipush 99, 2) := by decide +kernel
theorem dX5_takeCarries_19 : decode cX5_takeCarries 19 = .ok (.if_icmp .le 9, 3) := by decide +kernel
theorem dX5_takeCarries_22 : decode cX5_takeCarries 22 = .ok (.aload_n 0, 1) := by decide +kernel
theorem dX5_takeCarries_23 : decode cX5_takeCarries 23 = .ok (.iconst 4, 1) := by decide +kernel
theorem dX5_takeCarries_24 : decode cX5_takeCarries 24 = .ok (.invokevirtual 86, 3) := by decide +kernel
theorem dX5_takeCarries_27 : decode cX5_takeCarries 27 = .ok (.ireturn, 1) := by decide +kernel
theorem dX5_takeCarries_28 : decode cX5_takeCarries 28 = .ok (.aload_n 1, 1) := by decide +kernel
theorem dX5_takeCarries_29 : decode cX5_takeCarries 29 = .ok (.aload_n 0, 1) := by decide +kernel
theorem dX5_takeCarries_30 : decode cX5_takeCarries 30 = .ok (.getfield 95, 3) := by decide +kernel
theorem dX5_takeCarries_33 : decode cX5_takeCarries 33 = .ok (.putfield 98, 3) := by decide +kernel
theorem dX5_takeCarries_36 : decode cX5_takeCarries 36 = .ok (.aload_n 0, 1) := by decide +kernel
theorem dX5_takeCarries_37 : decode cX5_takeCarries 37 = .ok (.invokevirtual 30, 3) := by decide +kernel
theorem dX5_takeCarries_40 : decode cX5_takeCarries 40 = .ok (.iconst 1, 1) := by decide +kernel
theorem dX5_takeCarries_41 : decode cX5_takeCarries 41 = .ok (.ireturn, 1) := by decide +kernel
set_option maxHeartbeats 4000000 in
set_option maxRecDepth 20000 in
theorem c_X5_takeCarries (l : Launch) (b : Nat) (D : va_G) (cy : Nat → ClassId) {tt : Nat} {M : xMm} {i : Nat} (hJ : JD M) (hI : IR M) (hi : xTr i) : xC l b D cy yX5_takeCarries cX5_takeCarries 2 (some .boolean) ({ frames := 3, cells := 0, slots := 0, locals := 63 }) [xr 4, xr i] 209 M (RS tt) (xPi 209 (RS tt) (fun r M' => (r = 0 ∨ r = 1) ∧ JD M' ∧ IR M' ∧ frT M' M)) := by
  refine x_met (by decide) (Nat.le_of_ble_eq_true rfl) (fun g hg hr he => ?_)
  have hk := hJ.2.2.2.1
  have hw := hJ.2.2.2.2.1
  have hnu := hJ.2.2.2.2.2.1
  have hn3 := hJ.2.2.2.2.2.2
  refine x_canon (ls' := [(0, _), (1, _)]) rfl ?_
  refine x_aload_n hg dX5_takeCarries_0 rfl ?_
  refine x_getI hg dX5_takeCarries_1 fl_X5_33 (by decide) rfl ?_
  refine x_iconst hg dX5_takeCarries_4 ?_
  refine x_icmp_eq (tgt := 13) hg dX5_takeCarries_5 (by decide) (by omega) (by omega) (fun c5 => ?_) (fun c5 => ?_)
  · skip
    refine x_aload_n hg dX5_takeCarries_13 rfl ?_
    refine x_getI hg dX5_takeCarries_14 fl_X5_95 (by decide) rfl ?_
    refine x_bipush hg dX5_takeCarries_17 (by decide) ?_
    refine x_icmp_le (tgt := 28) hg dX5_takeCarries_19 (by decide) (by omega) (by omega) (fun c19 => ?_) (fun c19 => ?_)
    · skip
      refine x_aload_n hg dX5_takeCarries_28 rfl ?_
      refine x_aload_n hg dX5_takeCarries_29 rfl ?_
      refine x_getI hg dX5_takeCarries_30 fl_X5_95 (by decide) rfl ?_
      refine x_putI hg dX5_takeCarries_33 fl_X5_98 ft_9_1 (oO_train hi) rfl ?_
      refine x_aload_n hg dX5_takeCarries_36 rfl ?_
      refine x_cVv hg he [] [] dX5_takeCarries_37 mv_X5_30 (c_X5_advance l b D cy (JD_B (JD_congr hJ (fun a ha => by funext c; rw [mu_nc (by omega)])))) (by decide) rfl rfl (Nat.le_of_ble_eq_true rfl) (by decide) (by decide) (fun M37 q37 => ?_)
      obtain ⟨hJ37, hf37⟩ := q37
      refine x_iconst hg dX5_takeCarries_40 ?_
      refine x_iret hg hr (Or.inr ⟨rfl, by first | exact Or.inl rfl | exact Or.inr rfl | omega⟩) dX5_takeCarries_41 (Nat.le_refl _) (Nat.le_refl _) ?_
      exact ⟨rfl, rfl, _, rfl, by omega, hJ37, IR_D hf37 (IR_tr hI hi (Or.inl ⟨rfl, by omega⟩)), frT_tr (frT_D hf37) (frT_mu (frT_rf M) (by omega))⟩
    · skip
      refine x_aload_n hg dX5_takeCarries_22 rfl ?_
      refine x_iconst hg dX5_takeCarries_23 ?_
      refine x_cVi hg he [_] [] dX5_takeCarries_24 mv_X5_86 (c_X5_refuse l b D cy hJ (by omega)) (by decide) rfl rfl (Nat.le_of_ble_eq_true rfl) (by decide) (by decide) (fun r24 M24 q24 => ?_)
      obtain ⟨hr24, hJ24, hf24⟩ := q24
      refine x_iret hg hr (Or.inr ⟨rfl, (by omega)⟩) dX5_takeCarries_27 (Nat.le_refl _) (Nat.le_refl _) ?_
      first | exact ⟨rfl, rfl, _, rfl, by omega, hJ9, IR_D hf9 hI, frT_D hf9⟩ | exact ⟨rfl, rfl, _, rfl, by omega, hJ24, IR_D hf24 hI, frT_D hf24⟩
  · skip
    refine x_aload_n hg dX5_takeCarries_8 rfl ?_
    refine x_cVi hg he [] [] dX5_takeCarries_9 mv_X5_48 (c_X5_refuseToken l b D cy hJ) (by decide) rfl rfl (Nat.le_of_ble_eq_true rfl) (by decide) (by decide) (fun r9 M9 q9 => ?_)
    obtain ⟨hr9, hJ9, hf9⟩ := q9
    refine x_iret hg hr (Or.inr ⟨rfl, (by omega)⟩) dX5_takeCarries_12 (Nat.le_refl _) (Nat.le_refl _) ?_
    first | exact ⟨rfl, rfl, _, rfl, by omega, hJ9, IR_D hf9 hI, frT_D hf9⟩ | exact ⟨rfl, rfl, _, rfl, by omega, hJ24, IR_D hf24 hI, frT_D hf24⟩

theorem dX5_takeStation_0 : decode cX5_takeStation 0 = .ok (.aload_n 0, 1) := by decide +kernel
theorem dX5_takeStation_1 : decode cX5_takeStation 1 = .ok (.getfield 33, 3) := by decide +kernel
theorem dX5_takeStation_4 : decode cX5_takeStation 4 = .ok (.iconst 3, 1) := by decide +kernel
theorem dX5_takeStation_5 : decode cX5_takeStation 5 = .ok (.if_icmp .eq 8, 3) := by decide +kernel
theorem dX5_takeStation_8 : decode cX5_takeStation 8 = .ok (.aload_n 0, 1) := by decide +kernel
theorem dX5_takeStation_9 : decode cX5_takeStation 9 = .ok (.invokevirtual 48, 3) := by decide +kernel
theorem dX5_takeStation_12 : decode cX5_takeStation 12 = .ok (.ireturn, 1) := by decide +kernel
theorem dX5_takeStation_13 : decode cX5_takeStation 13 = .ok (.aload_n 1, 1) := by decide +kernel
theorem dX5_takeStation_14 : decode cX5_takeStation 14 = .ok (.aload_n 0, 1) := by decide +kernel
theorem dX5_takeStation_15 : decode cX5_takeStation 15 = .ok (.getfield 95, 3) := by decide +kernel
theorem dX5_takeStation_18 : decode cX5_takeStation 18 = .ok (.invokevirtual 101, 3) := by decide +kernel
theorem dX5_takeStation_21 : decode cX5_takeStation 21 = .ok (.iconst (-1), 1) := by decide +kernel
theorem dX5_takeStation_22 : decode cX5_takeStation 22 = .ok (.if_icmp .eq 9, 3) := by decide +kernel
theorem dX5_takeStation_25 : decode cX5_takeStation 25 = .ok (.aload_n 0, 1) := by decide +kernel
theorem dX5_takeStation_26 : decode cX5_takeStation 26 = .ok (.iconst 3, 1) := by decide +kernel
theorem dX5_takeStation_27 : decode cX5_takeStation 27 = .ok (.invokevirtual 86, 3) := by decide +kernel
theorem dX5_takeStation_30 : decode cX5_takeStation 30 = .ok (.ireturn, 1) := by decide +kernel
theorem dX5_takeStation_31 : decode cX5_takeStation 31 = .ok (.aload_n 0, 1) := by decide +kernel
theorem dX5_takeStation_32 : decode cX5_takeStation 32 = .ok (.getfield 95, 3) := by decide +kernel
theorem dX5_takeStation_35 : decode cX5_takeStation 35 = .ok (.bipush 10, 2) := by decide +kernel
theorem dX5_takeStation_37 : decode cX5_takeStation 37 = .ok (.if_icmp .lt 9, 3) := by decide +kernel
theorem dX5_takeStation_40 : decode cX5_takeStation 40 = .ok (.aload_n 0, 1) := by decide +kernel
theorem dX5_takeStation_41 : decode cX5_takeStation 41 = .ok (.iconst 4, 1) := by decide +kernel
theorem dX5_takeStation_42 : decode cX5_takeStation 42 = .ok (.invokevirtual 86, 3) := by decide +kernel
theorem dX5_takeStation_45 : decode cX5_takeStation 45 = .ok (.ireturn, 1) := by decide +kernel
theorem dX5_takeStation_46 : decode cX5_takeStation 46 = .ok (.aload_n 1, 1) := by decide +kernel
theorem dX5_takeStation_47 : decode cX5_takeStation 47 = .ok (.getfield 105, 3) := by decide +kernel
theorem dX5_takeStation_50 : decode cX5_takeStation 50 = .ok (.iload_n 2, 1) := by decide +kernel
theorem dX5_takeStation_51 : decode cX5_takeStation 51 = .ok (.aload_n 0, 1) := by decide +kernel
theorem dX5_takeStation_52 : decode cX5_takeStation 52 = .ok (.getfield 95, 3) := by decide +kernel
theorem dX5_takeStation_55 : decode cX5_takeStation 55 = .ok (.iastore, 1) := by decide +kernel
theorem dX5_takeStation_56 : decode cX5_takeStation 56 = .ok (.aload_n 0, 1) := by decide +kernel
theorem dX5_takeStation_57 : decode cX5_takeStation 57 = .ok (.invokevirtual 30, 3) := by decide +kernel
theorem dX5_takeStation_60 : decode cX5_takeStation 60 = .ok (.iconst 1, 1) := by decide +kernel
theorem dX5_takeStation_61 : decode cX5_takeStation 61 = .ok (.ireturn, 1) := by decide +kernel
set_option maxHeartbeats 4000000 in
set_option maxRecDepth 20000 in
theorem c_X5_takeStation (l : Launch) (b : Nat) (D : va_G) (cy : Nat → ClassId) {tt : Nat} {M : xMm} {i : Nat} {z : Int} (hJ : JD M) (hI : IR M) (hi : xTr i) (hz : 0 ≤ z ∧ z < 8) : xC l b D cy yX5_takeStation cX5_takeStation 3 (some .boolean) ({ frames := 3, cells := 0, slots := 0, locals := 63 }) [xr 4, xr i, xi z] 209 M (RS tt) (xPi 209 (RS tt) (fun r M' => (r = 0 ∨ r = 1) ∧ JD M' ∧ IR M' ∧ frT M' M)) := by
  refine x_met (by decide) (Nat.le_of_ble_eq_true rfl) (fun g hg hr he => ?_)
  have hk := hJ.2.2.2.1
  have hw := hJ.2.2.2.2.1
  have hnu := hJ.2.2.2.2.2.1
  have hn3 := hJ.2.2.2.2.2.2
  refine x_canon (ls' := [(0, _), (1, _), (2, _)]) rfl ?_
  refine x_aload_n hg dX5_takeStation_0 rfl ?_
  refine x_getI hg dX5_takeStation_1 fl_X5_33 (by decide) rfl ?_
  refine x_iconst hg dX5_takeStation_4 ?_
  refine x_icmp_eq (tgt := 13) hg dX5_takeStation_5 (by decide) (by omega) (by omega) (fun c5 => ?_) (fun c5 => ?_)
  · skip
    refine x_aload_n hg dX5_takeStation_13 rfl ?_
    refine x_aload_n hg dX5_takeStation_14 rfl ?_
    refine x_getI hg dX5_takeStation_15 fl_X5_95 (by decide) rfl ?_
    refine x_cVi hg he [_] [] dX5_takeStation_18 mv_X5_101 (c_X9_stopAt l b D cy hI hi (by omega)) (oO_train hi) rfl rfl (Nat.le_of_ble_eq_true rfl) (by decide) (by decide) (fun r18 M18 q18 => ?_)
    obtain ⟨h18, e18⟩ := q18
    replace h18 := h18.symm
    subst h18
    refine x_iconst hg dX5_takeStation_21 ?_
    refine x_icmp_eq (tgt := 31) hg dX5_takeStation_22 (by decide) (by omega) (by omega) (fun c22 => ?_) (fun c22 => ?_)
    · skip
      refine x_aload_n hg dX5_takeStation_31 rfl ?_
      refine x_getI hg dX5_takeStation_32 fl_X5_95 (by decide) rfl ?_
      refine x_bipush hg dX5_takeStation_35 (by decide) ?_
      refine x_icmp_lt (tgt := 46) hg dX5_takeStation_37 (by decide) (by omega) (by omega) (fun c37 => ?_) (fun c37 => ?_)
      · skip
        refine x_aload_n hg dX5_takeStation_46 rfl ?_
        refine x_getR hg dX5_takeStation_47 fl_X5_105 (oO_train hi) rfl (RS_tr hi).1 (by omega) ?_
        refine x_iload_n hg dX5_takeStation_50 rfl ?_
        refine x_aload_n hg dX5_takeStation_51 rfl ?_
        refine x_getI hg dX5_takeStation_52 fl_X5_95 (by decide) rfl ?_
        refine x_iastore (len := 8) hg dX5_takeStation_55 (oA_train1 hi) (by omega)  ?_
        refine x_aload_n hg dX5_takeStation_56 rfl ?_
        refine x_cVv hg he [] [] dX5_takeStation_57 mv_X5_30 (c_X5_advance l b D cy (JD_B (JD_congr hJ (fun a ha => by funext c; rw [mu_nc (by omega)])))) (by decide) rfl rfl (Nat.le_of_ble_eq_true rfl) (by decide) (by decide) (fun M57 q57 => ?_)
        obtain ⟨hJ57, hf57⟩ := q57
        refine x_iconst hg dX5_takeStation_60 ?_
        refine x_iret hg hr (Or.inr ⟨rfl, by first | exact Or.inl rfl | exact Or.inr rfl | omega⟩) dX5_takeStation_61 (Nat.le_refl _) (Nat.le_refl _) ?_
        exact ⟨rfl, rfl, _, rfl, by omega, hJ57, IR_D hf57 (IR_st hI hi (by omega)), frT_tr (frT_D hf57) (frT_mu (frT_rf M) (by omega))⟩
      · skip
        refine x_aload_n hg dX5_takeStation_40 rfl ?_
        refine x_iconst hg dX5_takeStation_41 ?_
        refine x_cVi hg he [_] [] dX5_takeStation_42 mv_X5_86 (c_X5_refuse l b D cy hJ (by omega)) (by decide) rfl rfl (Nat.le_of_ble_eq_true rfl) (by decide) (by decide) (fun r42 M42 q42 => ?_)
        obtain ⟨hr42, hJ42, hf42⟩ := q42
        refine x_iret hg hr (Or.inr ⟨rfl, (by omega)⟩) dX5_takeStation_45 (Nat.le_refl _) (Nat.le_refl _) ?_
        first | exact ⟨rfl, rfl, _, rfl, by omega, hJ9, IR_D hf9 hI, frT_D hf9⟩ | exact ⟨rfl, rfl, _, rfl, by omega, hJ27, IR_D hf27 hI, frT_D hf27⟩ | exact ⟨rfl, rfl, _, rfl, by omega, hJ42, IR_D hf42 hI, frT_D hf42⟩
    · skip
      refine x_aload_n hg dX5_takeStation_25 rfl ?_
      refine x_iconst hg dX5_takeStation_26 ?_
      refine x_cVi hg he [_] [] dX5_takeStation_27 mv_X5_86 (c_X5_refuse l b D cy hJ (by omega)) (by decide) rfl rfl (Nat.le_of_ble_eq_true rfl) (by decide) (by decide) (fun r27 M27 q27 => ?_)
      obtain ⟨hr27, hJ27, hf27⟩ := q27
      refine x_iret hg hr (Or.inr ⟨rfl, (by omega)⟩) dX5_takeStation_30 (Nat.le_refl _) (Nat.le_refl _) ?_
      first | exact ⟨rfl, rfl, _, rfl, by omega, hJ9, IR_D hf9 hI, frT_D hf9⟩ | exact ⟨rfl, rfl, _, rfl, by omega, hJ27, IR_D hf27 hI, frT_D hf27⟩ | exact ⟨rfl, rfl, _, rfl, by omega, hJ42, IR_D hf42 hI, frT_D hf42⟩
  · skip
    refine x_aload_n hg dX5_takeStation_8 rfl ?_
    refine x_cVi hg he [] [] dX5_takeStation_9 mv_X5_48 (c_X5_refuseToken l b D cy hJ) (by decide) rfl rfl (Nat.le_of_ble_eq_true rfl) (by decide) (by decide) (fun r9 M9 q9 => ?_)
    obtain ⟨hr9, hJ9, hf9⟩ := q9
    refine x_iret hg hr (Or.inr ⟨rfl, (by omega)⟩) dX5_takeStation_12 (Nat.le_refl _) (Nat.le_refl _) ?_
    first | exact ⟨rfl, rfl, _, rfl, by omega, hJ9, IR_D hf9 hI, frT_D hf9⟩ | exact ⟨rfl, rfl, _, rfl, by omega, hJ27, IR_D hf27 hI, frT_D hf27⟩ | exact ⟨rfl, rfl, _, rfl, by omega, hJ42, IR_D hf42 hI, frT_D hf42⟩

theorem dX5_takeMinute_0 : decode cX5_takeMinute 0 = .ok (.aload_n 0, 1) := by decide +kernel
theorem dX5_takeMinute_1 : decode cX5_takeMinute 1 = .ok (.getfield 33, 3) := by decide +kernel
theorem dX5_takeMinute_4 : decode cX5_takeMinute 4 = .ok (.iconst 3, 1) := by decide +kernel
theorem dX5_takeMinute_5 : decode cX5_takeMinute 5 = .ok (.if_icmp .eq 8, 3) := by decide +kernel
theorem dX5_takeMinute_8 : decode cX5_takeMinute 8 = .ok (.aload_n 0, 1) := by decide +kernel
theorem dX5_takeMinute_9 : decode cX5_takeMinute 9 = .ok (.invokevirtual 48, 3) := by decide +kernel
theorem dX5_takeMinute_12 : decode cX5_takeMinute 12 = .ok (.ireturn, 1) := by decide +kernel
theorem dX5_takeMinute_13 : decode cX5_takeMinute 13 = .ok (.iload_n 2, 1) := by decide +kernel
theorem dX5_takeMinute_14 : decode cX5_takeMinute 14 = .ok (.ifCond .le 14, 3) := by decide +kernel
theorem dX5_takeMinute_17 : decode cX5_takeMinute 17 = .ok (.aload_n 1, 1) := by decide +kernel
theorem dX5_takeMinute_18 : decode cX5_takeMinute 18 = .ok (.getfield 109, 3) := by decide +kernel
theorem dX5_takeMinute_21 : decode cX5_takeMinute 21 = .ok (.iload_n 2, 1) := by decide +kernel
theorem dX5_takeMinute_22 : decode cX5_takeMinute 22 = .ok (.iconst 1, 1) := by decide +kernel
theorem dX5_takeMinute_23 : decode cX5_takeMinute 23 = .ok (.isub, 1) := by decide +kernel
theorem dX5_takeMinute_24 : decode cX5_takeMinute 24 = .ok (.iaload, 1) := by decide +kernel
theorem dX5_takeMinute_25 : decode cX5_takeMinute 25 = .ok (.goto 4, 3) := by decide +kernel
theorem dX5_takeMinute_28 : decode cX5_takeMinute 28 = .ok (.iconst (-1), 1) := by decide +kernel
theorem dX5_takeMinute_29 : decode cX5_takeMinute 29 = .ok (.istore_n 3, 1) := by decide +kernel
theorem dX5_takeMinute_30 : decode cX5_takeMinute 30 = .ok (.aload_n 0, 1) := by decide +kernel
theorem dX5_takeMinute_31 : decode cX5_takeMinute 31 = .ok (.getfield 95, 3) := by decide +kernel
theorem dX5_takeMinute_34 : decode cX5_takeMinute 34 = .ok (.sipush 1439, 3) := by decide +kernel
theorem dX5_takeMinute_37 : decode cX5_takeMinute 37 = .ok (.if_icmp .gt 11, 3) := by decide +kernel
theorem dX5_takeMinute_40 : decode cX5_takeMinute 40 = .ok (.aload_n 0, 1) := by decide +kernel
theorem dX5_takeMinute_41 : decode cX5_takeMinute 41 = .ok (.getfield 95, 3) := by decide +kernel
theorem dX5_takeMinute_44 : decode cX5_takeMinute 44 = .ok (.iload_n 3, 1) := by decide +kernel
theorem dX5_takeMinute_45 : decode cX5_takeMinute 45 = .ok (.if_icmp .gt 9, 3) := by decide +kernel
theorem dX5_takeMinute_48 : decode cX5_takeMinute 48 = .ok (.aload_n 0, 1) := by decide +kernel
theorem dX5_takeMinute_49 : decode cX5_takeMinute 49 = .ok (.iconst 4, 1) := by decide +kernel
theorem dX5_takeMinute_50 : decode cX5_takeMinute 50 = .ok (.invokevirtual 86, 3) := by decide +kernel
theorem dX5_takeMinute_53 : decode cX5_takeMinute 53 = .ok (.ireturn, 1) := by decide +kernel
theorem dX5_takeMinute_54 : decode cX5_takeMinute 54 = .ok (.aload_n 1, 1) := by decide +kernel
theorem dX5_takeMinute_55 : decode cX5_takeMinute 55 = .ok (.getfield 109, 3) := by decide +kernel
theorem dX5_takeMinute_58 : decode cX5_takeMinute 58 = .ok (.iload_n 2, 1) := by decide +kernel
theorem dX5_takeMinute_59 : decode cX5_takeMinute 59 = .ok (.aload_n 0, 1) := by decide +kernel
theorem dX5_takeMinute_60 : decode cX5_takeMinute 60 = .ok (.getfield 95, 3) := by decide +kernel
theorem dX5_takeMinute_63 : decode cX5_takeMinute 63 = .ok (.iastore, 1) := by decide +kernel
theorem dX5_takeMinute_64 : decode cX5_takeMinute 64 = .ok (.aload_n 1, 1) := by decide +kernel
theorem dX5_takeMinute_65 : decode cX5_takeMinute 65 = .ok (.iload_n 2, 1) := by decide +kernel
theorem dX5_takeMinute_66 : decode cX5_takeMinute 66 = .ok (.iconst 1, 1) := by decide +kernel
theorem dX5_takeMinute_67 : decode cX5_takeMinute 67 = .ok (.iadd, 1) := by decide +kernel
theorem dX5_takeMinute_68 : decode cX5_takeMinute 68 = .ok (.putfield 112, 3) := by decide +kernel
theorem dX5_takeMinute_71 : decode cX5_takeMinute 71 = .ok (.aload_n 0, 1) := by decide +kernel
theorem dX5_takeMinute_72 : decode cX5_takeMinute 72 = .ok (.invokevirtual 30, 3) := by decide +kernel
theorem dX5_takeMinute_75 : decode cX5_takeMinute 75 = .ok (.iconst 1, 1) := by decide +kernel
theorem dX5_takeMinute_76 : decode cX5_takeMinute 76 = .ok (.ireturn, 1) := by decide +kernel
set_option maxHeartbeats 4000000 in
set_option maxRecDepth 20000 in
theorem c_X5_takeMinute (l : Launch) (b : Nat) (D : va_G) (cy : Nat → ClassId) {tt : Nat} {M : xMm} {i : Nat} {z : Int} (hJ : JD M) (hI : IR M) (hi : xTr i) (hz : 0 ≤ z ∧ z < 8) : xC l b D cy yX5_takeMinute cX5_takeMinute 4 (some .boolean) ({ frames := 3, cells := 0, slots := 0, locals := 63 }) [xr 4, xr i, xi z] 209 M (RS tt) (xPi 209 (RS tt) (fun r M' => (r = 0 ∨ r = 1) ∧ JD M' ∧ IR M' ∧ frT M' M)) := by
  refine x_met (by decide) (Nat.le_of_ble_eq_true rfl) (fun g hg hr he => ?_)
  have hk := hJ.2.2.2.1
  have hw := hJ.2.2.2.2.1
  have hnu := hJ.2.2.2.2.2.1
  have hn3 := hJ.2.2.2.2.2.2
  refine x_canon (ls' := [(0, _), (1, _), (2, _)]) rfl ?_
  have j29 : ∀ p : Int, inR p → M 4 3 = 3 → (-1 ≤ p) → xW g 209 M (RS tt) 0 0 29 [(0, xr 4), (1, xr i), (2, xi z)] [xi p] := by
    intro p hp h3 hp1
    refine x_istore_n (ls' := [(0, _), (1, _), (2, _), (3, _)]) hg dX5_takeMinute_29 rfl (by decide) rfl ?_
    refine x_aload_n hg dX5_takeMinute_30 rfl ?_
    refine x_getI hg dX5_takeMinute_31 fl_X5_95 (by decide) rfl ?_
    refine x_sipush hg dX5_takeMinute_34 (by decide) ?_
    refine x_icmp_gt (tgt := 48) hg dX5_takeMinute_37 (by decide) (by omega) (by omega) (fun c37 => ?_) (fun c37 => ?_)
    · skip
      refine x_aload_n hg dX5_takeMinute_48 rfl ?_
      refine x_iconst hg dX5_takeMinute_49 ?_
      refine x_cVi hg he [_] [] dX5_takeMinute_50 mv_X5_86 (c_X5_refuse l b D cy hJ (by omega)) (by decide) rfl rfl (Nat.le_of_ble_eq_true rfl) (by decide) (by decide) (fun r50 M50 q50 => ?_)
      obtain ⟨hr50, hJ50, hf50⟩ := q50
      refine x_iret hg hr (Or.inr ⟨rfl, (by omega)⟩) dX5_takeMinute_53 (Nat.le_refl _) (Nat.le_refl _) ?_
      first | exact ⟨rfl, rfl, _, rfl, by omega, hJ9, IR_D hf9 hI, frT_D hf9⟩ | exact ⟨rfl, rfl, _, rfl, by omega, hJ50, IR_D hf50 hI, frT_D hf50⟩
    · skip
      refine x_aload_n hg dX5_takeMinute_40 rfl ?_
      refine x_getI hg dX5_takeMinute_41 fl_X5_95 (by decide) rfl ?_
      refine x_iload_n hg dX5_takeMinute_44 rfl ?_
      refine x_icmp_gt (tgt := 54) hg dX5_takeMinute_45 (by decide) (by omega) (by omega) (fun c45 => ?_) (fun c45 => ?_)
      · skip
        refine x_aload_n hg dX5_takeMinute_54 rfl ?_
        refine x_getR hg dX5_takeMinute_55 fl_X5_109 (oO_train hi) rfl (RS_tr hi).2 (by omega) ?_
        refine x_iload_n hg dX5_takeMinute_58 rfl ?_
        refine x_aload_n hg dX5_takeMinute_59 rfl ?_
        refine x_getI hg dX5_takeMinute_60 fl_X5_95 (by decide) rfl ?_
        refine x_iastore (len := 8) hg dX5_takeMinute_63 (oA_train2 hi) (by omega)  ?_
        refine x_aload_n hg dX5_takeMinute_64 rfl ?_
        refine x_iload_n hg dX5_takeMinute_65 rfl ?_
        refine x_iconst hg dX5_takeMinute_66 ?_
        refine x_iadd hg dX5_takeMinute_67 ?_
        refine x_putI hg dX5_takeMinute_68 fl_X5_112 ft_9_3 (oO_train hi) rfl ?_
        refine x_aload_n hg dX5_takeMinute_71 rfl ?_
        refine x_cVv hg he [] [] dX5_takeMinute_72 mv_X5_30 (c_X5_advance l b D cy (JD_B (JD_congr hJ (fun a ha => by funext c; rw [mu_nc (by omega), mu_nc (by omega)])))) (by decide) rfl rfl (Nat.le_of_ble_eq_true rfl) (by decide) (by decide) (fun M72 q72 => ?_)
        obtain ⟨hJ72, hf72⟩ := q72
        refine x_iconst hg dX5_takeMinute_75 ?_
        refine x_iret hg hr (Or.inr ⟨rfl, by first | exact Or.inl rfl | exact Or.inr rfl | omega⟩) dX5_takeMinute_76 (Nat.le_refl _) (Nat.le_refl _) ?_
        exact ⟨rfl, rfl, _, rfl, by omega, hJ72, IR_D hf72 (IR_tr (IR_mi hI hi (by omega)) hi (Or.inr (Or.inr (Or.inl ⟨rfl, by omega⟩)))), frT_tr (frT_D hf72) (frT_mu (frT_mu (frT_rf M) (by omega)) (by omega))⟩
      · skip
        refine x_aload_n hg dX5_takeMinute_48 rfl ?_
        refine x_iconst hg dX5_takeMinute_49 ?_
        refine x_cVi hg he [_] [] dX5_takeMinute_50 mv_X5_86 (c_X5_refuse l b D cy hJ (by omega)) (by decide) rfl rfl (Nat.le_of_ble_eq_true rfl) (by decide) (by decide) (fun r50 M50 q50 => ?_)
        obtain ⟨hr50, hJ50, hf50⟩ := q50
        refine x_iret hg hr (Or.inr ⟨rfl, (by omega)⟩) dX5_takeMinute_53 (Nat.le_refl _) (Nat.le_refl _) ?_
        first | exact ⟨rfl, rfl, _, rfl, by omega, hJ9, IR_D hf9 hI, frT_D hf9⟩ | exact ⟨rfl, rfl, _, rfl, by omega, hJ50, IR_D hf50 hI, frT_D hf50⟩
  have hst := (hI.2 i hi).2
  refine x_aload_n hg dX5_takeMinute_0 rfl ?_
  refine x_getI hg dX5_takeMinute_1 fl_X5_33 (by decide) rfl ?_
  refine x_iconst hg dX5_takeMinute_4 ?_
  refine x_icmp_eq (tgt := 13) hg dX5_takeMinute_5 (by decide) (by omega) (by omega) (fun c5 => ?_) (fun c5 => ?_)
  · skip
    refine x_iload_n hg dX5_takeMinute_13 rfl ?_
    refine x_if_le (tgt := 28) hg dX5_takeMinute_14 (by decide) (by omega) (fun c14 => ?_) (fun c14 => ?_)
    · skip
      refine x_iconst hg dX5_takeMinute_28 ?_
      exact j29 _ (by first | omega | (have h1 := hst (z - 1).toNat (by omega); omega)) (by omega) (by first | omega | (have h1 := hst (z - 1).toNat (by omega); omega))
    · skip
      refine x_aload_n hg dX5_takeMinute_17 rfl ?_
      refine x_getR hg dX5_takeMinute_18 fl_X5_109 (oO_train hi) rfl (RS_tr hi).2 (by omega) ?_
      refine x_iload_n hg dX5_takeMinute_21 rfl ?_
      refine x_iconst hg dX5_takeMinute_22 ?_
      refine x_isub hg dX5_takeMinute_23 ?_
      refine x_iaload (len := 8) hg dX5_takeMinute_24 (oA_train2 hi) (by omega) ?_
      refine x_goto (tgt := 29) hg dX5_takeMinute_25 (by decide) ?_
      exact j29 _ (by first | omega | (have h1 := hst (z - 1).toNat (by omega); omega)) (by omega) (by first | omega | (have h1 := hst (z - 1).toNat (by omega); omega))
  · skip
    refine x_aload_n hg dX5_takeMinute_8 rfl ?_
    refine x_cVi hg he [] [] dX5_takeMinute_9 mv_X5_48 (c_X5_refuseToken l b D cy hJ) (by decide) rfl rfl (Nat.le_of_ble_eq_true rfl) (by decide) (by decide) (fun r9 M9 q9 => ?_)
    obtain ⟨hr9, hJ9, hf9⟩ := q9
    refine x_iret hg hr (Or.inr ⟨rfl, (by omega)⟩) dX5_takeMinute_12 (Nat.le_refl _) (Nat.le_refl _) ?_
    first | exact ⟨rfl, rfl, _, rfl, by omega, hJ9, IR_D hf9 hI, frT_D hf9⟩ | exact ⟨rfl, rfl, _, rfl, by omega, hJ50, IR_D hf50 hI, frT_D hf50⟩

theorem dX5_readHead_0 : decode cX5_readHead 0 = .ok (.aload_n 0, 1) := by decide +kernel
theorem dX5_readHead_1 : decode cX5_readHead 1 = .ok (.ldc2_w 52, 3) := by decide +kernel
theorem dX5_readHead_4 : decode cX5_readHead 4 = .ok (.invokevirtual 54, 3) := by decide +kernel
theorem dX5_readHead_7 : decode cX5_readHead 7 = .ok (.ifCond .eq 43, 3) := by decide +kernel
theorem dX5_readHead_10 : decode cX5_readHead 10 = .ok (.aload_n 0, 1) := by decide +kernel
theorem dX5_readHead_11 : decode cX5_readHead 11 = .ok (.aload_n 1, 1) := by decide +kernel
theorem dX5_readHead_12 : decode cX5_readHead 12 = .ok (.aload_n 2, 1) := by decide +kernel
theorem dX5_readHead_13 : decode cX5_readHead 13 = .ok (.invokevirtual 58, 3) := by decide +kernel
theorem dX5_readHead_16 : decode cX5_readHead 16 = .ok (.ifCond .eq 34, 3) := by decide +kernel
theorem dX5_readHead_19 : decode cX5_readHead 19 = .ok (.aload_n 0, 1) := by decide +kernel
theorem dX5_readHead_20 : decode cX5_readHead 20 = .ok (.ldc2_w 61, 3) := by decide +kernel
theorem dX5_readHead_23 : decode cX5_readHead 23 = .ok (.invokevirtual 54, 3) := by decide +kernel
theorem dX5_readHead_26 : decode cX5_readHead 26 = .ok (.ifCond .eq 24, 3) := by decide +kernel
theorem dX5_readHead_29 : decode cX5_readHead 29 = .ok (.aload_n 0, 1) := by decide +kernel
theorem dX5_readHead_30 : decode cX5_readHead 30 = .ok (.aload_n 2, 1) := by decide +kernel
theorem dX5_readHead_31 : decode cX5_readHead 31 = .ok (.invokevirtual 63, 3) := by decide +kernel
theorem dX5_readHead_34 : decode cX5_readHead 34 = .ok (.ifCond .eq 16, 3) := by decide +kernel
theorem dX5_readHead_37 : decode cX5_readHead 37 = .ok (.aload_n 0, 1) := by decide +kernel
theorem dX5_readHead_38 : decode cX5_readHead 38 = .ok (.bipush 58, 2) := by decide +kernel
theorem dX5_readHead_40 : decode cX5_readHead 40 = .ok (.invokevirtual 66, 3) := by decide +kernel
theorem dX5_readHead_43 : decode cX5_readHead 43 = .ok (.ifCond .eq 7, 3) := by decide +kernel
theorem dX5_readHead_46 : decode cX5_readHead 46 = .ok (.iconst 1, 1) := by decide +kernel
theorem dX5_readHead_47 : decode cX5_readHead 47 = .ok (.goto 4, 3) := by decide +kernel
theorem dX5_readHead_50 : decode cX5_readHead 50 = .ok (.iconst 0, 1) := by decide +kernel
theorem dX5_readHead_51 : decode cX5_readHead 51 = .ok (.ireturn, 1) := by decide +kernel
set_option maxHeartbeats 4000000 in
set_option maxRecDepth 20000 in
theorem c_X5_readHead (l : Launch) (b : Nat) (D : va_G) (cy : Nat → ClassId) {tt : Nat} {M : xMm} {q i : Nat} (hJ : JD M) (hI : IR M) (hq : xTt q) (hi : xTr i) : xC l b D cy yX5_readHead cX5_readHead 3 (some .boolean) ({ frames := 4, cells := 0, slots := 0, locals := 85 }) [xr 4, xr q, xr i] 209 M (RS tt) (xPi 209 (RS tt) (fun r M' => (r = 0 ∨ r = 1) ∧ JD M' ∧ IR M' ∧ frT M' M)) := by
  refine x_met (by decide) (Nat.le_of_ble_eq_true rfl) (fun g hg hr he => ?_)
  refine x_canon (ls' := [(0, _), (1, _), (2, _)]) rfl ?_
  refine x_aload_n hg dX5_readHead_0 rfl ?_
  refine x_ldc2 hg 500135192942 dX5_readHead_1 (List.mem_of_getElem? (i := 499) (by decide +kernel)) ?_
  refine x_cVi hg he [_] [] dX5_readHead_4 mv_X5_54 (c_X5_takeWord l b D cy hJ hI (by decide)) (by decide) rfl rfl (Nat.le_of_ble_eq_true rfl) (by decide) (by decide) (fun r4 M4 q4 => ?_)
  obtain ⟨hr4, hJ4, hI4, hf4⟩ := q4
  refine x_if_eq (tgt := 50) hg dX5_readHead_7 (by decide) (by omega) (fun c7 => ?_) (fun c7 => ?_)
  · skip
    refine x_iconst hg dX5_readHead_50 ?_
    refine x_iret hg hr (Or.inr ⟨rfl, by first | exact Or.inl rfl | exact Or.inr rfl | omega⟩) dX5_readHead_51 (Nat.le_refl _) (Nat.le_refl _) ?_
    first | exact ⟨rfl, rfl, _, rfl, by omega, hJ40, hI40, frT_tr hf40 (frT_tr hf31 (frT_tr hf23 (frT_tr hf13 hf4)))⟩ | exact ⟨rfl, rfl, _, rfl, by omega, hJ31, hI31, frT_tr hf31 (frT_tr hf23 (frT_tr hf13 hf4))⟩ | exact ⟨rfl, rfl, _, rfl, by omega, hJ23, hI23, frT_tr hf23 (frT_tr hf13 hf4)⟩ | exact ⟨rfl, rfl, _, rfl, by omega, hJ13, hI13, frT_tr hf13 hf4⟩ | exact ⟨rfl, rfl, _, rfl, by omega, hJ4, hI4, hf4⟩
  · skip
    refine x_aload_n hg dX5_readHead_10 rfl ?_
    refine x_aload_n hg dX5_readHead_11 rfl ?_
    refine x_aload_n hg dX5_readHead_12 rfl ?_
    refine x_cVi hg he [_, _] [] dX5_readHead_13 mv_X5_58 (c_X5_takeName l b D cy hJ4 hI4 hq hi) (by decide) rfl rfl (Nat.le_of_ble_eq_true rfl) (by decide) (by decide) (fun r13 M13 q13 => ?_)
    obtain ⟨hr13, hJ13, hI13, hf13⟩ := q13
    refine x_if_eq (tgt := 50) hg dX5_readHead_16 (by decide) (by omega) (fun c16 => ?_) (fun c16 => ?_)
    · skip
      refine x_iconst hg dX5_readHead_50 ?_
      refine x_iret hg hr (Or.inr ⟨rfl, by first | exact Or.inl rfl | exact Or.inr rfl | omega⟩) dX5_readHead_51 (Nat.le_refl _) (Nat.le_refl _) ?_
      first | exact ⟨rfl, rfl, _, rfl, by omega, hJ40, hI40, frT_tr hf40 (frT_tr hf31 (frT_tr hf23 (frT_tr hf13 hf4)))⟩ | exact ⟨rfl, rfl, _, rfl, by omega, hJ31, hI31, frT_tr hf31 (frT_tr hf23 (frT_tr hf13 hf4))⟩ | exact ⟨rfl, rfl, _, rfl, by omega, hJ23, hI23, frT_tr hf23 (frT_tr hf13 hf4)⟩ | exact ⟨rfl, rfl, _, rfl, by omega, hJ13, hI13, frT_tr hf13 hf4⟩ | exact ⟨rfl, rfl, _, rfl, by omega, hJ4, hI4, hf4⟩
    · skip
      refine x_aload_n hg dX5_readHead_19 rfl ?_
      refine x_ldc2 hg 27973166868030835 dX5_readHead_20 (List.mem_of_getElem? (i := 516) (by decide +kernel)) ?_
      refine x_cVi hg he [_] [] dX5_readHead_23 mv_X5_54 (c_X5_takeWord l b D cy hJ13 hI13 (by decide)) (by decide) rfl rfl (Nat.le_of_ble_eq_true rfl) (by decide) (by decide) (fun r23 M23 q23 => ?_)
      obtain ⟨hr23, hJ23, hI23, hf23⟩ := q23
      refine x_if_eq (tgt := 50) hg dX5_readHead_26 (by decide) (by omega) (fun c26 => ?_) (fun c26 => ?_)
      · skip
        refine x_iconst hg dX5_readHead_50 ?_
        refine x_iret hg hr (Or.inr ⟨rfl, by first | exact Or.inl rfl | exact Or.inr rfl | omega⟩) dX5_readHead_51 (Nat.le_refl _) (Nat.le_refl _) ?_
        first | exact ⟨rfl, rfl, _, rfl, by omega, hJ40, hI40, frT_tr hf40 (frT_tr hf31 (frT_tr hf23 (frT_tr hf13 hf4)))⟩ | exact ⟨rfl, rfl, _, rfl, by omega, hJ31, hI31, frT_tr hf31 (frT_tr hf23 (frT_tr hf13 hf4))⟩ | exact ⟨rfl, rfl, _, rfl, by omega, hJ23, hI23, frT_tr hf23 (frT_tr hf13 hf4)⟩ | exact ⟨rfl, rfl, _, rfl, by omega, hJ13, hI13, frT_tr hf13 hf4⟩ | exact ⟨rfl, rfl, _, rfl, by omega, hJ4, hI4, hf4⟩
      · skip
        refine x_aload_n hg dX5_readHead_29 rfl ?_
        refine x_aload_n hg dX5_readHead_30 rfl ?_
        refine x_cVi hg he [_] [] dX5_readHead_31 mv_X5_63 (c_X5_takeCarries l b D cy hJ23 hI23 hi) (by decide) rfl rfl (Nat.le_of_ble_eq_true rfl) (by decide) (by decide) (fun r31 M31 q31 => ?_)
        obtain ⟨hr31, hJ31, hI31, hf31⟩ := q31
        refine x_if_eq (tgt := 50) hg dX5_readHead_34 (by decide) (by omega) (fun c34 => ?_) (fun c34 => ?_)
        · skip
          refine x_iconst hg dX5_readHead_50 ?_
          refine x_iret hg hr (Or.inr ⟨rfl, by first | exact Or.inl rfl | exact Or.inr rfl | omega⟩) dX5_readHead_51 (Nat.le_refl _) (Nat.le_refl _) ?_
          first | exact ⟨rfl, rfl, _, rfl, by omega, hJ40, hI40, frT_tr hf40 (frT_tr hf31 (frT_tr hf23 (frT_tr hf13 hf4)))⟩ | exact ⟨rfl, rfl, _, rfl, by omega, hJ31, hI31, frT_tr hf31 (frT_tr hf23 (frT_tr hf13 hf4))⟩ | exact ⟨rfl, rfl, _, rfl, by omega, hJ23, hI23, frT_tr hf23 (frT_tr hf13 hf4)⟩ | exact ⟨rfl, rfl, _, rfl, by omega, hJ13, hI13, frT_tr hf13 hf4⟩ | exact ⟨rfl, rfl, _, rfl, by omega, hJ4, hI4, hf4⟩
        · skip
          refine x_aload_n hg dX5_readHead_37 rfl ?_
          refine x_bipush hg dX5_readHead_38 (by decide) ?_
          refine x_cVi hg he [_] [] dX5_readHead_40 mv_X5_66 (c_X5_takeSign l b D cy hJ31 hI31 (by decide)) (by decide) rfl rfl (Nat.le_of_ble_eq_true rfl) (by decide) (by decide) (fun r40 M40 q40 => ?_)
          obtain ⟨hr40, hJ40, hI40, hf40⟩ := q40
          refine x_if_eq (tgt := 50) hg dX5_readHead_43 (by decide) (by omega) (fun c43 => ?_) (fun c43 => ?_)
          · skip
            refine x_iconst hg dX5_readHead_50 ?_
            refine x_iret hg hr (Or.inr ⟨rfl, by first | exact Or.inl rfl | exact Or.inr rfl | omega⟩) dX5_readHead_51 (Nat.le_refl _) (Nat.le_refl _) ?_
            first | exact ⟨rfl, rfl, _, rfl, by omega, hJ40, hI40, frT_tr hf40 (frT_tr hf31 (frT_tr hf23 (frT_tr hf13 hf4)))⟩ | exact ⟨rfl, rfl, _, rfl, by omega, hJ31, hI31, frT_tr hf31 (frT_tr hf23 (frT_tr hf13 hf4))⟩ | exact ⟨rfl, rfl, _, rfl, by omega, hJ23, hI23, frT_tr hf23 (frT_tr hf13 hf4)⟩ | exact ⟨rfl, rfl, _, rfl, by omega, hJ13, hI13, frT_tr hf13 hf4⟩ | exact ⟨rfl, rfl, _, rfl, by omega, hJ4, hI4, hf4⟩
          · skip
            refine x_iconst hg dX5_readHead_46 ?_
            refine x_goto (tgt := 51) hg dX5_readHead_47 (by decide) ?_
            refine x_iret hg hr (Or.inr ⟨rfl, by first | exact Or.inl rfl | exact Or.inr rfl | omega⟩) dX5_readHead_51 (Nat.le_refl _) (Nat.le_refl _) ?_
            first | exact ⟨rfl, rfl, _, rfl, by omega, hJ40, hI40, frT_tr hf40 (frT_tr hf31 (frT_tr hf23 (frT_tr hf13 hf4)))⟩ | exact ⟨rfl, rfl, _, rfl, by omega, hJ31, hI31, frT_tr hf31 (frT_tr hf23 (frT_tr hf13 hf4))⟩ | exact ⟨rfl, rfl, _, rfl, by omega, hJ23, hI23, frT_tr hf23 (frT_tr hf13 hf4)⟩ | exact ⟨rfl, rfl, _, rfl, by omega, hJ13, hI13, frT_tr hf13 hf4⟩ | exact ⟨rfl, rfl, _, rfl, by omega, hJ4, hI4, hf4⟩

theorem dX5_readStops_0 : decode cX5_readStops 0 = .ok (.iconst 0, 1) := by decide +kernel
theorem dX5_readStops_1 : decode cX5_readStops 1 = .ok (.istore_n 2, 1) := by decide +kernel
theorem dX5_readStops_2 : decode cX5_readStops 2 = .ok (.iload_n 2, 1) := by decide +kernel
theorem dX5_readStops_3 : decode cX5_readStops 3 = .ok (.bipush 8, 2) := by decide +kernel
theorem dX5_readStops_5 : decode cX5_readStops 5 = .ok (.if_icmp .ge 69, 3) := by decide +kernel
theorem dX5_readStops_8 : decode cX5_readStops 8 = .ok (.aload_n 0, 1) := by decide +kernel
theorem dX5_readStops_9 : decode cX5_readStops 9 = .ok (.aload_n 1, 1) := by decide +kernel
theorem dX5_readStops_10 : decode cX5_readStops 10 = .ok (.iload_n 2, 1) := by decide +kernel
theorem dX5_readStops_11 : decode cX5_readStops 11 = .ok (.invokevirtual 70, 3) := by decide +kernel
theorem dX5_readStops_14 : decode cX5_readStops 14 = .ok (.ifCond .eq 22, 3) := by decide +kernel
theorem dX5_readStops_17 : decode cX5_readStops 17 = .ok (.aload_n 0, 1) := by decide +kernel
theorem dX5_readStops_18 : decode cX5_readStops 18 = .ok (.ldc2_w 74, 3) := by decide +kernel
theorem dX5_readStops_21 : decode cX5_readStops 21 = .ok (.invokevirtual 54, 3) := by decide +kernel
theorem dX5_readStops_24 : decode cX5_readStops 24 = .ok (.ifCond .eq 12, 3) := by decide +kernel
theorem dX5_readStops_27 : decode cX5_readStops 27 = .ok (.aload_n 0, 1) := by decide +kernel
theorem dX5_readStops_28 : decode cX5_readStops 28 = .ok (.aload_n 1, 1) := by decide +kernel
theorem dX5_readStops_29 : decode cX5_readStops 29 = .ok (.iload_n 2, 1) := by decide +kernel
theorem dX5_readStops_30 : decode cX5_readStops 30 = .ok (.invokevirtual 76, 3) := by decide +kernel
theorem dX5_readStops_33 : decode cX5_readStops 33 = .ok (.ifCond .ne 5, 3) := by decide +kernel
theorem dX5_readStops_36 : decode cX5_readStops 36 = .ok (.iconst 0, 1) := by decide +kernel
theorem dX5_readStops_37 : decode cX5_readStops 37 = .ok (.ireturn, 1) := by decide +kernel
theorem dX5_readStops_38 : decode cX5_readStops 38 = .ok (.iload_n 2, 1) := by decide +kernel
theorem dX5_readStops_39 : decode cX5_readStops 39 = .ok (.ifCond .le 18, 3) := by decide +kernel
theorem dX5_readStops_42 : decode cX5_readStops 42 = .ok (.aload_n 0, 1) := by decide +kernel
theorem dX5_readStops_43 : decode cX5_readStops 43 = .ok (.getfield 33, 3) := by decide +kernel
theorem dX5_readStops_46 : decode cX5_readStops 46 = .ok (.bipush 59, 2) := by decide +kernel
theorem dX5_readStops_48 : decode cX5_readStops 48 = .ok (.if_icmp .ne 9, 3) := by decide +kernel
theorem dX5_readStops_51 : decode cX5_readStops 51 = .ok (.aload_n 0, 1) := by decide +kernel
theorem dX5_readStops_52 : decode cX5_readStops 52 = .ok (.invokevirtual 30, 3) := by decide +kernel
theorem dX5_readStops_55 : decode cX5_readStops 55 = .ok (.iconst 1, 1) := by decide +kernel
theorem dX5_readStops_56 : decode cX5_readStops 56 = .ok (.ireturn, 1) := by decide +kernel
theorem dX5_readStops_57 : decode cX5_readStops 57 = .ok (.aload_n 0, 1) := by decide +kernel
theorem dX5_readStops_58 : decode cX5_readStops 58 = .ok (.bipush 44, 2) := by decide +kernel
theorem dX5_readStops_60 : decode cX5_readStops 60 = .ok (.invokevirtual 66, 3) := by decide +kernel
theorem dX5_readStops_63 : decode cX5_readStops 63 = .ok (.ifCond .ne 5, 3) := by decide +kernel
theorem dX5_readStops_66 : decode cX5_readStops 66 = .ok (.iconst 0, 1) := by decide +kernel
theorem dX5_readStops_67 : decode cX5_readStops 67 = .ok (.ireturn, 1) := by decide +kernel
theorem dX5_readStops_68 : decode cX5_readStops 68 = .ok (.iinc 2 1, 3) := by decide +kernel
theorem dX5_readStops_71 : decode cX5_readStops 71 = .ok (.goto (-69), 3) := by decide +kernel
theorem dX5_readStops_74 : decode cX5_readStops 74 = .ok (.aload_n 0, 1) := by decide +kernel
theorem dX5_readStops_75 : decode cX5_readStops 75 = .ok (.invokevirtual 48, 3) := by decide +kernel
theorem dX5_readStops_78 : decode cX5_readStops 78 = .ok (.ireturn, 1) := by decide +kernel
set_option maxHeartbeats 4000000 in
set_option maxRecDepth 20000 in
theorem c_X5_readStops (l : Launch) (b : Nat) (D : va_G) (cy : Nat → ClassId) {tt : Nat} {M0 : xMm} {i : Nat} (hJ : JD M0) (hI : IR M0) (hi : xTr i) : xC l b D cy yX5_readStops cX5_readStops 3 (some .boolean) ({ frames := 4, cells := 0, slots := 0, locals := 86 }) [xr 4, xr i] 209 M0 (RS tt) (xPi 209 (RS tt) (fun r M' => (r = 0 ∨ r = 1) ∧ JD M' ∧ IR M' ∧ frT M' M0)) := by
  refine x_met (by decide) (Nat.le_of_ble_eq_true rfl) (fun g hg hr he => ?_)
  refine x_canon (ls' := [(0, _), (1, _)]) rfl ?_
  have loop : ∀ (n1 : Nat) (M : xMm) (k : Int), 0 ≤ k → k ≤ 8 → 8 - k < n1 → JD M → IR M → frT M M0 → xW g 209 M (RS tt) 0 0 2 [(0, xr 4), (1, xr i), (2, xi k)] [] := by
    intro n1
    induction n1 with
    | zero => intro M k h1 h2 h3; exfalso; omega
    | succ n1 ih =>
      intro M k hk1 hk2 hk3 hJ hI hf
      refine x_iload_n hg dX5_readStops_2 rfl ?_
      refine x_bipush hg dX5_readStops_3 (by decide) ?_
      refine x_icmp_ge (tgt := 74) hg dX5_readStops_5 (by decide) (by omega) (by omega) (fun c5 => ?_) (fun c5 => ?_)
      · skip
        refine x_aload_n hg dX5_readStops_74 rfl ?_
        refine x_cVi hg he [] [] dX5_readStops_75 mv_X5_48 (c_X5_refuseToken l b D cy hJ) (by decide) rfl rfl (Nat.le_of_ble_eq_true rfl) (by decide) (by decide) (fun r75 M75 q75 => ?_)
        obtain ⟨hr75, hJ75, hf75⟩ := q75
        refine x_iret hg hr (Or.inr ⟨rfl, (by omega)⟩) dX5_readStops_78 (Nat.le_refl _) (Nat.le_refl _) ?_
        first | exact ⟨rfl, rfl, _, rfl, by omega, hJ52, IR_D hf52 hI30, frT_tr (frT_D hf52) (frT_tr hf30 (frT_tr hf21 (frT_tr hf11 hf)))⟩ | exact ⟨rfl, rfl, _, rfl, by omega, hJ60, hI60, frT_tr hf60 (frT_tr hf30 (frT_tr hf21 (frT_tr hf11 hf)))⟩ | exact ⟨rfl, rfl, _, rfl, by omega, hJ30, hI30, frT_tr hf30 (frT_tr hf21 (frT_tr hf11 hf))⟩ | exact ⟨rfl, rfl, _, rfl, by omega, hJ21, hI21, frT_tr hf21 (frT_tr hf11 hf)⟩ | exact ⟨rfl, rfl, _, rfl, by omega, hJ11, hI11, frT_tr hf11 hf⟩ | exact ⟨rfl, rfl, _, rfl, by omega, hJ75, IR_D hf75 hI, frT_tr (frT_D hf75) hf⟩
      · skip
        refine x_aload_n hg dX5_readStops_8 rfl ?_
        refine x_aload_n hg dX5_readStops_9 rfl ?_
        refine x_iload_n hg dX5_readStops_10 rfl ?_
        refine x_cVi hg he [_, _] [] dX5_readStops_11 mv_X5_70 (c_X5_takeStation l b D cy hJ hI hi (by omega)) (by decide) rfl rfl (Nat.le_of_ble_eq_true rfl) (by decide) (by decide) (fun r11 M11 q11 => ?_)
        obtain ⟨hr11, hJ11, hI11, hf11⟩ := q11
        refine x_if_eq (tgt := 36) hg dX5_readStops_14 (by decide) (by omega) (fun c14 => ?_) (fun c14 => ?_)
        · skip
          refine x_iconst hg dX5_readStops_36 ?_
          refine x_iret hg hr (Or.inr ⟨rfl, by first | exact Or.inl rfl | exact Or.inr rfl | omega⟩) dX5_readStops_37 (Nat.le_refl _) (Nat.le_refl _) ?_
          first | exact ⟨rfl, rfl, _, rfl, by omega, hJ52, IR_D hf52 hI30, frT_tr (frT_D hf52) (frT_tr hf30 (frT_tr hf21 (frT_tr hf11 hf)))⟩ | exact ⟨rfl, rfl, _, rfl, by omega, hJ60, hI60, frT_tr hf60 (frT_tr hf30 (frT_tr hf21 (frT_tr hf11 hf)))⟩ | exact ⟨rfl, rfl, _, rfl, by omega, hJ30, hI30, frT_tr hf30 (frT_tr hf21 (frT_tr hf11 hf))⟩ | exact ⟨rfl, rfl, _, rfl, by omega, hJ21, hI21, frT_tr hf21 (frT_tr hf11 hf)⟩ | exact ⟨rfl, rfl, _, rfl, by omega, hJ11, hI11, frT_tr hf11 hf⟩ | exact ⟨rfl, rfl, _, rfl, by omega, hJ75, IR_D hf75 hI, frT_tr (frT_D hf75) hf⟩
        · skip
          refine x_aload_n hg dX5_readStops_17 rfl ?_
          refine x_ldc2 hg 24948 dX5_readStops_18 (List.mem_of_getElem? (i := 517) (by decide +kernel)) ?_
          refine x_cVi hg he [_] [] dX5_readStops_21 mv_X5_54 (c_X5_takeWord l b D cy hJ11 hI11 (by decide)) (by decide) rfl rfl (Nat.le_of_ble_eq_true rfl) (by decide) (by decide) (fun r21 M21 q21 => ?_)
          obtain ⟨hr21, hJ21, hI21, hf21⟩ := q21
          refine x_if_eq (tgt := 36) hg dX5_readStops_24 (by decide) (by omega) (fun c24 => ?_) (fun c24 => ?_)
          · skip
            refine x_iconst hg dX5_readStops_36 ?_
            refine x_iret hg hr (Or.inr ⟨rfl, by first | exact Or.inl rfl | exact Or.inr rfl | omega⟩) dX5_readStops_37 (Nat.le_refl _) (Nat.le_refl _) ?_
            first | exact ⟨rfl, rfl, _, rfl, by omega, hJ52, IR_D hf52 hI30, frT_tr (frT_D hf52) (frT_tr hf30 (frT_tr hf21 (frT_tr hf11 hf)))⟩ | exact ⟨rfl, rfl, _, rfl, by omega, hJ60, hI60, frT_tr hf60 (frT_tr hf30 (frT_tr hf21 (frT_tr hf11 hf)))⟩ | exact ⟨rfl, rfl, _, rfl, by omega, hJ30, hI30, frT_tr hf30 (frT_tr hf21 (frT_tr hf11 hf))⟩ | exact ⟨rfl, rfl, _, rfl, by omega, hJ21, hI21, frT_tr hf21 (frT_tr hf11 hf)⟩ | exact ⟨rfl, rfl, _, rfl, by omega, hJ11, hI11, frT_tr hf11 hf⟩ | exact ⟨rfl, rfl, _, rfl, by omega, hJ75, IR_D hf75 hI, frT_tr (frT_D hf75) hf⟩
          · skip
            refine x_aload_n hg dX5_readStops_27 rfl ?_
            refine x_aload_n hg dX5_readStops_28 rfl ?_
            refine x_iload_n hg dX5_readStops_29 rfl ?_
            refine x_cVi hg he [_, _] [] dX5_readStops_30 mv_X5_76 (c_X5_takeMinute l b D cy hJ21 hI21 hi (by omega)) (by decide) rfl rfl (Nat.le_of_ble_eq_true rfl) (by decide) (by decide) (fun r30 M30 q30 => ?_)
            obtain ⟨hr30, hJ30, hI30, hf30⟩ := q30
            have hk30 := hJ30.2.2.2.1
            refine x_if_ne (tgt := 38) hg dX5_readStops_33 (by decide) (by omega) (fun c33 => ?_) (fun c33 => ?_)
            · skip
              refine x_iload_n hg dX5_readStops_38 rfl ?_
              refine x_if_le (tgt := 57) hg dX5_readStops_39 (by decide) (by omega) (fun c39 => ?_) (fun c39 => ?_)
              · skip
                refine x_aload_n hg dX5_readStops_57 rfl ?_
                refine x_bipush hg dX5_readStops_58 (by decide) ?_
                refine x_cVi hg he [_] [] dX5_readStops_60 mv_X5_66 (c_X5_takeSign l b D cy hJ30 hI30 (by decide)) (by decide) rfl rfl (Nat.le_of_ble_eq_true rfl) (by decide) (by decide) (fun r60 M60 q60 => ?_)
                obtain ⟨hr60, hJ60, hI60, hf60⟩ := q60
                refine x_if_ne (tgt := 68) hg dX5_readStops_63 (by decide) (by omega) (fun c63 => ?_) (fun c63 => ?_)
                · skip
                  refine x_iinc (ls' := [(0, _), (1, _), (2, _)]) hg dX5_readStops_68 rfl (by decide) rfl ?_
                  refine x_goto (tgt := 2) hg dX5_readStops_71 (by decide) ?_
                  exact ih _ _ (by omega) (by omega) (by omega) hJ60 hI60 (frT_tr hf60 (frT_tr hf30 (frT_tr hf21 (frT_tr hf11 hf))))
                · skip
                  refine x_iconst hg dX5_readStops_66 ?_
                  refine x_iret hg hr (Or.inr ⟨rfl, by first | exact Or.inl rfl | exact Or.inr rfl | omega⟩) dX5_readStops_67 (Nat.le_refl _) (Nat.le_refl _) ?_
                  first | exact ⟨rfl, rfl, _, rfl, by omega, hJ52, IR_D hf52 hI30, frT_tr (frT_D hf52) (frT_tr hf30 (frT_tr hf21 (frT_tr hf11 hf)))⟩ | exact ⟨rfl, rfl, _, rfl, by omega, hJ60, hI60, frT_tr hf60 (frT_tr hf30 (frT_tr hf21 (frT_tr hf11 hf)))⟩ | exact ⟨rfl, rfl, _, rfl, by omega, hJ30, hI30, frT_tr hf30 (frT_tr hf21 (frT_tr hf11 hf))⟩ | exact ⟨rfl, rfl, _, rfl, by omega, hJ21, hI21, frT_tr hf21 (frT_tr hf11 hf)⟩ | exact ⟨rfl, rfl, _, rfl, by omega, hJ11, hI11, frT_tr hf11 hf⟩ | exact ⟨rfl, rfl, _, rfl, by omega, hJ75, IR_D hf75 hI, frT_tr (frT_D hf75) hf⟩
              · skip
                refine x_aload_n hg dX5_readStops_42 rfl ?_
                refine x_getI hg dX5_readStops_43 fl_X5_33 (by decide) rfl ?_
                refine x_bipush hg dX5_readStops_46 (by decide) ?_
                refine x_icmp_ne (tgt := 57) hg dX5_readStops_48 (by decide) (by omega) (by omega) (fun c48 => ?_) (fun c48 => ?_)
                · skip
                  refine x_aload_n hg dX5_readStops_57 rfl ?_
                  refine x_bipush hg dX5_readStops_58 (by decide) ?_
                  refine x_cVi hg he [_] [] dX5_readStops_60 mv_X5_66 (c_X5_takeSign l b D cy hJ30 hI30 (by decide)) (by decide) rfl rfl (Nat.le_of_ble_eq_true rfl) (by decide) (by decide) (fun r60 M60 q60 => ?_)
                  obtain ⟨hr60, hJ60, hI60, hf60⟩ := q60
                  refine x_if_ne (tgt := 68) hg dX5_readStops_63 (by decide) (by omega) (fun c63 => ?_) (fun c63 => ?_)
                  · skip
                    refine x_iinc (ls' := [(0, _), (1, _), (2, _)]) hg dX5_readStops_68 rfl (by decide) rfl ?_
                    refine x_goto (tgt := 2) hg dX5_readStops_71 (by decide) ?_
                    exact ih _ _ (by omega) (by omega) (by omega) hJ60 hI60 (frT_tr hf60 (frT_tr hf30 (frT_tr hf21 (frT_tr hf11 hf))))
                  · skip
                    refine x_iconst hg dX5_readStops_66 ?_
                    refine x_iret hg hr (Or.inr ⟨rfl, by first | exact Or.inl rfl | exact Or.inr rfl | omega⟩) dX5_readStops_67 (Nat.le_refl _) (Nat.le_refl _) ?_
                    first | exact ⟨rfl, rfl, _, rfl, by omega, hJ52, IR_D hf52 hI30, frT_tr (frT_D hf52) (frT_tr hf30 (frT_tr hf21 (frT_tr hf11 hf)))⟩ | exact ⟨rfl, rfl, _, rfl, by omega, hJ60, hI60, frT_tr hf60 (frT_tr hf30 (frT_tr hf21 (frT_tr hf11 hf)))⟩ | exact ⟨rfl, rfl, _, rfl, by omega, hJ30, hI30, frT_tr hf30 (frT_tr hf21 (frT_tr hf11 hf))⟩ | exact ⟨rfl, rfl, _, rfl, by omega, hJ21, hI21, frT_tr hf21 (frT_tr hf11 hf)⟩ | exact ⟨rfl, rfl, _, rfl, by omega, hJ11, hI11, frT_tr hf11 hf⟩ | exact ⟨rfl, rfl, _, rfl, by omega, hJ75, IR_D hf75 hI, frT_tr (frT_D hf75) hf⟩
                · skip
                  refine x_aload_n hg dX5_readStops_51 rfl ?_
                  refine x_cVv hg he [] [] dX5_readStops_52 mv_X5_30 (c_X5_advance l b D cy (JD_B hJ30)) (by decide) rfl rfl (Nat.le_of_ble_eq_true rfl) (by decide) (by decide) (fun M52 q52 => ?_)
                  obtain ⟨hJ52, hf52⟩ := q52
                  refine x_iconst hg dX5_readStops_55 ?_
                  refine x_iret hg hr (Or.inr ⟨rfl, by first | exact Or.inl rfl | exact Or.inr rfl | omega⟩) dX5_readStops_56 (Nat.le_refl _) (Nat.le_refl _) ?_
                  first | exact ⟨rfl, rfl, _, rfl, by omega, hJ52, IR_D hf52 hI30, frT_tr (frT_D hf52) (frT_tr hf30 (frT_tr hf21 (frT_tr hf11 hf)))⟩ | exact ⟨rfl, rfl, _, rfl, by omega, hJ60, hI60, frT_tr hf60 (frT_tr hf30 (frT_tr hf21 (frT_tr hf11 hf)))⟩ | exact ⟨rfl, rfl, _, rfl, by omega, hJ30, hI30, frT_tr hf30 (frT_tr hf21 (frT_tr hf11 hf))⟩ | exact ⟨rfl, rfl, _, rfl, by omega, hJ21, hI21, frT_tr hf21 (frT_tr hf11 hf)⟩ | exact ⟨rfl, rfl, _, rfl, by omega, hJ11, hI11, frT_tr hf11 hf⟩ | exact ⟨rfl, rfl, _, rfl, by omega, hJ75, IR_D hf75 hI, frT_tr (frT_D hf75) hf⟩
            · skip
              refine x_iconst hg dX5_readStops_36 ?_
              refine x_iret hg hr (Or.inr ⟨rfl, by first | exact Or.inl rfl | exact Or.inr rfl | omega⟩) dX5_readStops_37 (Nat.le_refl _) (Nat.le_refl _) ?_
              first | exact ⟨rfl, rfl, _, rfl, by omega, hJ52, IR_D hf52 hI30, frT_tr (frT_D hf52) (frT_tr hf30 (frT_tr hf21 (frT_tr hf11 hf)))⟩ | exact ⟨rfl, rfl, _, rfl, by omega, hJ60, hI60, frT_tr hf60 (frT_tr hf30 (frT_tr hf21 (frT_tr hf11 hf)))⟩ | exact ⟨rfl, rfl, _, rfl, by omega, hJ30, hI30, frT_tr hf30 (frT_tr hf21 (frT_tr hf11 hf))⟩ | exact ⟨rfl, rfl, _, rfl, by omega, hJ21, hI21, frT_tr hf21 (frT_tr hf11 hf)⟩ | exact ⟨rfl, rfl, _, rfl, by omega, hJ11, hI11, frT_tr hf11 hf⟩ | exact ⟨rfl, rfl, _, rfl, by omega, hJ75, IR_D hf75 hI, frT_tr (frT_D hf75) hf⟩
  refine x_iconst hg dX5_readStops_0 ?_
  refine x_istore_n (ls' := [(0, _), (1, _), (2, _)]) hg dX5_readStops_1 rfl (by decide) rfl ?_
  exact loop 9 M0 0 (by omega) (by omega) (by omega) hJ hI (frT_rf M0)

theorem dX5_read_0 : decode cX5_read 0 = .ok (.aload_n 1, 1) := by decide +kernel
theorem dX5_read_1 : decode cX5_read 1 = .ok (.iconst 0, 1) := by decide +kernel
theorem dX5_read_2 : decode cX5_read 2 = .ok (.putfield 19, 3) := by decide +kernel
theorem dX5_read_5 : decode cX5_read 5 = .ok (.aload_n 0, 1) := by decide +kernel
theorem dX5_read_6 : decode cX5_read 6 = .ok (.iconst 0, 1) := by decide +kernel
theorem dX5_read_7 : decode cX5_read 7 = .ok (.putfield 24, 3) := by decide +kernel
theorem dX5_read_10 : decode cX5_read 10 = .ok (.aload_n 0, 1) := by decide +kernel
theorem dX5_read_11 : decode cX5_read 11 = .ok (.iconst (-1), 1) := by decide +kernel
theorem dX5_read_12 : decode cX5_read 12 = .ok (.putfield 15, 3) := by decide +kernel
theorem dX5_read_15 : decode cX5_read 15 = .ok (.aload_n 0, 1) := by decide +kernel
theorem dX5_read_16 : decode cX5_read 16 = .ok (.iconst 0, 1) := by decide +kernel
theorem dX5_read_17 : decode cX5_read 17 = .ok (.putfield 27, 3) := by decide +kernel
theorem dX5_read_20 : decode cX5_read 20 = .ok (.aload_n 0, 1) := by decide +kernel
theorem dX5_read_21 : decode cX5_read 21 = .ok (.invokevirtual 30, 3) := by decide +kernel
theorem dX5_read_24 : decode cX5_read 24 = .ok (.iconst 0, 1) := by decide +kernel
theorem dX5_read_25 : decode cX5_read 25 = .ok (.istore_n 2, 1) := by decide +kernel
theorem dX5_read_26 : decode cX5_read 26 = .ok (.iload_n 2, 1) := by decide +kernel
theorem dX5_read_27 : decode cX5_read 27 = .ok (.bipush 8, 2) := by decide +kernel
theorem dX5_read_29 : decode cX5_read 29 = .ok (.if_icmp .ge 55, 3) := by decide +kernel
theorem dX5_read_32 : decode cX5_read 32 = .ok (.aload_n 0, 1) := by decide +kernel
theorem dX5_read_33 : decode cX5_read 33 = .ok (.getfield 33, 3) := by decide +kernel
theorem dX5_read_36 : decode cX5_read 36 = .ok (.ifCond .eq 48, 3) := by decide +kernel
theorem dX5_read_39 : decode cX5_read 39 = .ok (.aload_n 0, 1) := by decide +kernel
theorem dX5_read_40 : decode cX5_read 40 = .ok (.aload_n 1, 1) := by decide +kernel
theorem dX5_read_41 : decode cX5_read 41 = .ok (.aload_n 1, 1) := by decide +kernel
theorem dX5_read_42 : decode cX5_read 42 = .ok (.getfield 36, 3) := by decide +kernel
theorem dX5_read_45 : decode cX5_read 45 = .ok (.iload_n 2, 1) := by decide +kernel
theorem dX5_read_46 : decode cX5_read 46 = .ok (.aaload, 1) := by decide +kernel
theorem dX5_read_47 : decode cX5_read 47 = .ok (.invokevirtual 40, 3) := by decide +kernel
theorem dX5_read_50 : decode cX5_read 50 = .ok (.ifCond .eq 16, 3) := by decide +kernel
theorem dX5_read_53 : decode cX5_read 53 = .ok (.aload_n 0, 1) := by decide +kernel
theorem dX5_read_54 : decode cX5_read 54 = .ok (.aload_n 1, 1) := by decide +kernel
theorem dX5_read_55 : decode cX5_read 55 = .ok (.getfield 36, 3) := by decide +kernel
theorem dX5_read_58 : decode cX5_read 58 = .ok (.iload_n 2, 1) := by decide +kernel
theorem dX5_read_59 : decode cX5_read 59 = .ok (.aaload, 1) := by decide +kernel
theorem dX5_read_60 : decode cX5_read 60 = .ok (.invokevirtual 44, 3) := by decide +kernel
theorem dX5_read_63 : decode cX5_read 63 = .ok (.ifCond .ne 5, 3) := by decide +kernel
theorem dX5_read_66 : decode cX5_read 66 = .ok (.iconst 0, 1) := by decide +kernel
theorem dX5_read_67 : decode cX5_read 67 = .ok (.ireturn, 1) := by decide +kernel
theorem dX5_read_68 : decode cX5_read 68 = .ok (.aload_n 1, 1) := by decide +kernel
theorem dX5_read_69 : decode cX5_read 69 = .ok (.dup, 1) := by decide +kernel
theorem dX5_read_70 : decode cX5_read 70 = .ok (.getfield 19, 3) := by decide +kernel
theorem dX5_read_73 : decode cX5_read 73 = .ok (.iconst 1, 1) := by decide +kernel
theorem dX5_read_74 : decode cX5_read 74 = .ok (.iadd, 1) := by decide +kernel
theorem dX5_read_75 : decode cX5_read 75 = .ok (.putfield 19, 3) := by decide +kernel
theorem dX5_read_78 : decode cX5_read 78 = .ok (.iinc 2 1, 3) := by decide +kernel
theorem dX5_read_81 : decode cX5_read 81 = .ok (.goto (-55), 3) := by decide +kernel
theorem dX5_read_84 : decode cX5_read 84 = .ok (.aload_n 0, 1) := by decide +kernel
theorem dX5_read_85 : decode cX5_read 85 = .ok (.getfield 33, 3) := by decide +kernel
theorem dX5_read_88 : decode cX5_read 88 = .ok (.ifCond .eq 10, 3) := by decide +kernel
theorem dX5_read_91 : decode cX5_read 91 = .ok (.aload_n 0, 1) := by decide +kernel
theorem dX5_read_92 : decode cX5_read 92 = .ok (.invokevirtual 48, 3) := by decide +kernel
theorem dX5_read_95 : decode cX5_read 95 = .ok (.ifCond .eq 7, 3) := by decide +kernel
theorem dX5_read_98 : decode cX5_read 98 = .ok (.iconst 1, 1) := by decide +kernel
theorem dX5_read_99 : decode cX5_read 99 = .ok (.goto 4, 3) := by decide +kernel
theorem dX5_read_102 : decode cX5_read 102 = .ok (.iconst 0, 1) := by decide +kernel
theorem dX5_read_103 : decode cX5_read 103 = .ok (.ireturn, 1) := by decide +kernel
set_option maxHeartbeats 4000000 in
set_option maxRecDepth 20000 in
theorem c_X5_read (l : Launch) (b : Nat) (D : va_G) (cy : Nat → ClassId) {tt : Nat} {M0 : xMm} {q : Nat} (hJ : JG M0) (hI : IR M0) (hq : xTt q) : xC l b D cy yX5_read cX5_read 3 (some .boolean) ({ frames := 5, cells := 0, slots := 0, locals := 108 }) [xr 4, xr q] 209 M0 (RS tt) (xPi 209 (RS tt) (fun r M' => (r = 0 ∨ r = 1) ∧ JD M' ∧ IR M' ∧ frR M' M0)) := by
  refine x_met (by decide) (Nat.le_of_ble_eq_true rfl) (fun g hg hr he => ?_)
  refine x_canon (ls' := [(0, _), (1, _)]) rfl ?_
  have loop : ∀ (n1 : Nat) (M : xMm) (k : Int), 0 ≤ k → k ≤ 8 → 8 - k < n1 → JD M → IR M → M q 1 ≤ k → frR M M0 → xW g 209 M (RS tt) 0 0 26 [(0, xr 4), (1, xr q), (2, xi k)] [] := by
    intro n1
    induction n1 with
    | zero => intro M k h1 h2 h3; exfalso; omega
    | succ n1 ih =>
      intro M k hk1 hk2 hk3 hJ hI hct hf
      have hk := hJ.2.2.2.1
      refine x_iload_n hg dX5_read_26 rfl ?_
      refine x_bipush hg dX5_read_27 (by decide) ?_
      refine x_icmp_ge (tgt := 84) hg dX5_read_29 (by decide) (by omega) (by omega) (fun c29 => ?_) (fun c29 => ?_)
      · skip
        refine x_aload_n hg dX5_read_84 rfl ?_
        refine x_getI hg dX5_read_85 fl_X5_33 (by decide) rfl ?_
        refine x_if_eq (tgt := 98) hg dX5_read_88 (by decide) (by omega) (fun c88 => ?_) (fun c88 => ?_)
        · skip
          refine x_iconst hg dX5_read_98 ?_
          refine x_goto (tgt := 103) hg dX5_read_99 (by decide) ?_
          refine x_iret hg hr (Or.inr ⟨rfl, by first | exact Or.inl rfl | exact Or.inr rfl | omega⟩) dX5_read_103 (Nat.le_refl _) (Nat.le_refl _) ?_
          first | exact ⟨rfl, rfl, _, rfl, by omega, hJ, hI, hf⟩ | exact ⟨rfl, rfl, _, rfl, by omega, hJ60, hI60, frR_T hf60 (frR_T hf47 hf)⟩ | exact ⟨rfl, rfl, _, rfl, by omega, hJ47, hI47, frR_T hf47 hf⟩ | exact ⟨rfl, rfl, _, rfl, by omega, hJ92, IR_D hf92 hI, frR_T (frT_D hf92) hf⟩
        · skip
          refine x_aload_n hg dX5_read_91 rfl ?_
          refine x_cVi hg he [] [] dX5_read_92 mv_X5_48 (c_X5_refuseToken l b D cy hJ) (by decide) rfl rfl (Nat.le_of_ble_eq_true rfl) (by decide) (by decide) (fun r92 M92 q92 => ?_)
          obtain ⟨hr92, hJ92, hf92⟩ := q92
          refine x_if_eq (tgt := 102) hg dX5_read_95 (by decide) (by omega) (fun c95 => ?_) (fun c95 => ?_)
          · skip
            refine x_iconst hg dX5_read_102 ?_
            refine x_iret hg hr (Or.inr ⟨rfl, by first | exact Or.inl rfl | exact Or.inr rfl | omega⟩) dX5_read_103 (Nat.le_refl _) (Nat.le_refl _) ?_
            first | exact ⟨rfl, rfl, _, rfl, by omega, hJ, hI, hf⟩ | exact ⟨rfl, rfl, _, rfl, by omega, hJ60, hI60, frR_T hf60 (frR_T hf47 hf)⟩ | exact ⟨rfl, rfl, _, rfl, by omega, hJ47, hI47, frR_T hf47 hf⟩ | exact ⟨rfl, rfl, _, rfl, by omega, hJ92, IR_D hf92 hI, frR_T (frT_D hf92) hf⟩
          · skip
            refine x_iconst hg dX5_read_98 ?_
            refine x_goto (tgt := 103) hg dX5_read_99 (by decide) ?_
            refine x_iret hg hr (Or.inr ⟨rfl, by first | exact Or.inl rfl | exact Or.inr rfl | omega⟩) dX5_read_103 (Nat.le_refl _) (Nat.le_refl _) ?_
            first | exact ⟨rfl, rfl, _, rfl, by omega, hJ, hI, hf⟩ | exact ⟨rfl, rfl, _, rfl, by omega, hJ60, hI60, frR_T hf60 (frR_T hf47 hf)⟩ | exact ⟨rfl, rfl, _, rfl, by omega, hJ47, hI47, frR_T hf47 hf⟩ | exact ⟨rfl, rfl, _, rfl, by omega, hJ92, IR_D hf92 hI, frR_T (frT_D hf92) hf⟩
      · skip
        refine x_aload_n hg dX5_read_32 rfl ?_
        refine x_getI hg dX5_read_33 fl_X5_33 (by decide) rfl ?_
        refine x_if_eq (tgt := 84) hg dX5_read_36 (by decide) (by omega) (fun c36 => ?_) (fun c36 => ?_)
        · skip
          refine x_aload_n hg dX5_read_84 rfl ?_
          refine x_getI hg dX5_read_85 fl_X5_33 (by decide) rfl ?_
          refine x_if_eq (tgt := 98) hg dX5_read_88 (by decide) (by omega) (fun c88 => ?_) (fun c88 => ?_)
          · skip
            refine x_iconst hg dX5_read_98 ?_
            refine x_goto (tgt := 103) hg dX5_read_99 (by decide) ?_
            refine x_iret hg hr (Or.inr ⟨rfl, by first | exact Or.inl rfl | exact Or.inr rfl | omega⟩) dX5_read_103 (Nat.le_refl _) (Nat.le_refl _) ?_
            first | exact ⟨rfl, rfl, _, rfl, by omega, hJ, hI, hf⟩ | exact ⟨rfl, rfl, _, rfl, by omega, hJ60, hI60, frR_T hf60 (frR_T hf47 hf)⟩ | exact ⟨rfl, rfl, _, rfl, by omega, hJ47, hI47, frR_T hf47 hf⟩ | exact ⟨rfl, rfl, _, rfl, by omega, hJ92, IR_D hf92 hI, frR_T (frT_D hf92) hf⟩
          · skip
            refine x_aload_n hg dX5_read_91 rfl ?_
            refine x_cVi hg he [] [] dX5_read_92 mv_X5_48 (c_X5_refuseToken l b D cy hJ) (by decide) rfl rfl (Nat.le_of_ble_eq_true rfl) (by decide) (by decide) (fun r92 M92 q92 => ?_)
            obtain ⟨hr92, hJ92, hf92⟩ := q92
            refine x_if_eq (tgt := 102) hg dX5_read_95 (by decide) (by omega) (fun c95 => ?_) (fun c95 => ?_)
            · skip
              refine x_iconst hg dX5_read_102 ?_
              refine x_iret hg hr (Or.inr ⟨rfl, by first | exact Or.inl rfl | exact Or.inr rfl | omega⟩) dX5_read_103 (Nat.le_refl _) (Nat.le_refl _) ?_
              first | exact ⟨rfl, rfl, _, rfl, by omega, hJ, hI, hf⟩ | exact ⟨rfl, rfl, _, rfl, by omega, hJ60, hI60, frR_T hf60 (frR_T hf47 hf)⟩ | exact ⟨rfl, rfl, _, rfl, by omega, hJ47, hI47, frR_T hf47 hf⟩ | exact ⟨rfl, rfl, _, rfl, by omega, hJ92, IR_D hf92 hI, frR_T (frT_D hf92) hf⟩
            · skip
              refine x_iconst hg dX5_read_98 ?_
              refine x_goto (tgt := 103) hg dX5_read_99 (by decide) ?_
              refine x_iret hg hr (Or.inr ⟨rfl, by first | exact Or.inl rfl | exact Or.inr rfl | omega⟩) dX5_read_103 (Nat.le_refl _) (Nat.le_refl _) ?_
              first | exact ⟨rfl, rfl, _, rfl, by omega, hJ, hI, hf⟩ | exact ⟨rfl, rfl, _, rfl, by omega, hJ60, hI60, frR_T hf60 (frR_T hf47 hf)⟩ | exact ⟨rfl, rfl, _, rfl, by omega, hJ47, hI47, frR_T hf47 hf⟩ | exact ⟨rfl, rfl, _, rfl, by omega, hJ92, IR_D hf92 hI, frR_T (frT_D hf92) hf⟩
        · skip
          refine x_aload_n hg dX5_read_39 rfl ?_
          refine x_aload_n hg dX5_read_40 rfl ?_
          refine x_aload_n hg dX5_read_41 rfl ?_
          refine x_getR hg dX5_read_42 fl_X5_36 (oO_tt hq) rfl (RS_tt hq) (by omega) ?_
          refine x_iload_n hg dX5_read_45 rfl ?_
          refine x_aaload (len := 8) (et := 4) hg dX5_read_46 (oA_tt hq) (by decide) (by omega) (RS_trn hq _) (by omega) ?_
          refine x_cVi hg he [_, _] [] dX5_read_47 mv_X5_40 (c_X5_readHead l b D cy hJ hI hq (xTr_of hq (by omega))) (by decide) rfl rfl (Nat.le_of_ble_eq_true rfl) (by decide) (by decide) (fun r47 M47 q47 => ?_)
          obtain ⟨hr47, hJ47, hI47, hf47⟩ := q47
          refine x_if_eq (tgt := 66) hg dX5_read_50 (by decide) (by omega) (fun c50 => ?_) (fun c50 => ?_)
          · skip
            refine x_iconst hg dX5_read_66 ?_
            refine x_iret hg hr (Or.inr ⟨rfl, by first | exact Or.inl rfl | exact Or.inr rfl | omega⟩) dX5_read_67 (Nat.le_refl _) (Nat.le_refl _) ?_
            first | exact ⟨rfl, rfl, _, rfl, by omega, hJ, hI, hf⟩ | exact ⟨rfl, rfl, _, rfl, by omega, hJ60, hI60, frR_T hf60 (frR_T hf47 hf)⟩ | exact ⟨rfl, rfl, _, rfl, by omega, hJ47, hI47, frR_T hf47 hf⟩ | exact ⟨rfl, rfl, _, rfl, by omega, hJ92, IR_D hf92 hI, frR_T (frT_D hf92) hf⟩
          · skip
            refine x_aload_n hg dX5_read_53 rfl ?_
            refine x_aload_n hg dX5_read_54 rfl ?_
            refine x_getR hg dX5_read_55 fl_X5_36 (oO_tt hq) rfl (RS_tt hq) (by omega) ?_
            refine x_iload_n hg dX5_read_58 rfl ?_
            refine x_aaload (len := 8) (et := 4) hg dX5_read_59 (oA_tt hq) (by decide) (by omega) (RS_trn hq _) (by omega) ?_
            refine x_cVi hg he [_] [] dX5_read_60 mv_X5_44 (c_X5_readStops l b D cy hJ47 hI47 (xTr_of hq (by omega))) (by decide) rfl rfl (Nat.le_of_ble_eq_true rfl) (by decide) (by decide) (fun r60 M60 q60 => ?_)
            obtain ⟨hr60, hJ60, hI60, hf60⟩ := q60
            refine x_if_ne (tgt := 68) hg dX5_read_63 (by decide) (by omega) (fun c63 => ?_) (fun c63 => ?_)
            · skip
              refine x_aload_n hg dX5_read_68 rfl ?_
              refine x_dup hg dX5_read_69 rfl ?_
              refine x_getI hg dX5_read_70 fl_X5_19 (oO_tt hq) rfl ?_
              refine x_iconst hg dX5_read_73 ?_
              refine x_iadd hg dX5_read_74 ?_
              refine x_putI hg dX5_read_75 fl_X5_19 ft_8_1 (oO_tt hq) rfl ?_
              refine x_iinc (ls' := [(0, _), (1, _), (2, _)]) hg dX5_read_78 rfl (by decide) rfl ?_
              refine x_goto (tgt := 26) hg dX5_read_81 (by decide) ?_
              have e1 : M60 q = M q := by rw [hf60 q (by omega), hf47 q (by omega)]
              have e2 : M60 q 1 = M q 1 := by rw [e1]
              have hq1 := hI.1 q hq
              exact ih _ _ (by omega) (by omega) (by omega) (JD_congr hJ60 (fun a ha => by funext c; exact mu_nc (by omega))) (IR_ct hI60 hq (by omega)) (by rw [mu_s]; omega) (frR_mu (frR_T hf60 (frR_T hf47 hf)) (by omega))
            · skip
              refine x_iconst hg dX5_read_66 ?_
              refine x_iret hg hr (Or.inr ⟨rfl, by first | exact Or.inl rfl | exact Or.inr rfl | omega⟩) dX5_read_67 (Nat.le_refl _) (Nat.le_refl _) ?_
              first | exact ⟨rfl, rfl, _, rfl, by omega, hJ, hI, hf⟩ | exact ⟨rfl, rfl, _, rfl, by omega, hJ60, hI60, frR_T hf60 (frR_T hf47 hf)⟩ | exact ⟨rfl, rfl, _, rfl, by omega, hJ47, hI47, frR_T hf47 hf⟩ | exact ⟨rfl, rfl, _, rfl, by omega, hJ92, IR_D hf92 hI, frR_T (frT_D hf92) hf⟩
  refine x_aload_n hg dX5_read_0 rfl ?_
  refine x_iconst hg dX5_read_1 ?_
  refine x_putI hg dX5_read_2 fl_X5_19 ft_8_1 (oO_tt hq) rfl ?_
  refine x_aload_n hg dX5_read_5 rfl ?_
  refine x_iconst hg dX5_read_6 ?_
  refine x_putI hg dX5_read_7 fl_X5_24 ft_5_6 (by decide) rfl ?_
  refine x_aload_n hg dX5_read_10 rfl ?_
  refine x_iconst hg dX5_read_11 ?_
  refine x_putI hg dX5_read_12 fl_X5_15 ft_5_7 (by decide) rfl ?_
  refine x_aload_n hg dX5_read_15 rfl ?_
  refine x_iconst hg dX5_read_16 ?_
  refine x_putI hg dX5_read_17 fl_X5_27 ft_5_1 (by decide) rfl ?_
  refine x_aload_n hg dX5_read_20 rfl ?_
  refine x_cVv hg he [] [] dX5_read_21 mv_X5_30 (c_X5_advance l b D cy ⟨IT_congr hJ.1 (by funext c; rw [mu_nc (by decide), mu_nc (by decide), mu_nc (by decide), mu_nc (by omega)]) (by funext c; rw [mu_nc (by decide), mu_nc (by decide), mu_nc (by decide), mu_nc (by omega)]), by simp (disch := omega) only [mu_s, mu_nf, mu_nc]; have := hJ.1.1; omega, by simp (disch := omega) only [mu_s, mu_nf, mu_nc]; exact hJ.2.1, by simp (disch := omega) only [mu_s, mu_nf, mu_nc]; exact hJ.2.2⟩) (by decide) rfl rfl (Nat.le_of_ble_eq_true rfl) (by decide) (by decide) (fun M21 q21 => ?_)
  obtain ⟨hJ21, hf21⟩ := q21
  have eq21 : M21 q 1 = 0 := by rw [hf21 q (by omega)]; simp (disch := omega) only [mu_s, mu_nf, mu_nc]
  refine x_iconst hg dX5_read_24 ?_
  refine x_istore_n (ls' := [(0, _), (1, _), (2, _)]) hg dX5_read_25 rfl (by decide) rfl ?_
  exact loop 9 _ 0 (by omega) (by omega) (by omega) hJ21 (IR_D hf21 (IR_D (frD_mu (frD_mu (frD_mu (fun a _ => rfl)))) (IR_ct hI hq (by decide)))) (by omega) (frR_T (frT_D hf21) (frR_mu (frR_mu (frR_mu (frR_mu (fun a _ => rfl) (by omega)) (by decide)) (by decide)) (by decide)))
