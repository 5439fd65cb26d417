/-! ===== what each call answers on the fresh object: the class, where it ends at once ===== -/
def feF (z : Int) : Int := if z = 0 then 0 else -1
def abF (z : Int) : Int := if z = 6 then 1000 else if 0 ≤ z ∧ z ≤ 5 then 0 else -1
theorem feF_r (z : Int) : inR (feF z) := by unfold feF; split <;> omega
theorem abF_r (z : Int) : inR (abF z) := by unfold abF; split <;> (try split) <;> omega
def FX (tt : Nat) (M : xMm) : Prop := (M 1 7 = 1 ∧ M 1 8 = 1000 ∧ M 1 10 = 0 ∧ M 1 13 = 0 ∧ M 1 15 = 0 ∧ M 1 16 = 0) ∧ M 2 1 = 0 ∧ (M 4 6 = 0 ∧ M 4 7 = -1) ∧ M tt 1 = 0
def FY (M : xMm) : Prop := (M 172 2 = 0 ∧ M 172 4 = 0 ∧ M 172 5 = -1 ∧ M 172 24 = 1000 ∧ M 172 30 = 0) ∧ (M 172 55 = 0 ∧ M 172 56 = 0 ∧ M 172 57 = 0) ∧ M 180 (M 172 18).toNat = 0
theorem FY_fr {M' M : xMm} (h : FY M) (e : ∀ a, 172 ≤ a → M' a = M a) : FY M' := by
  unfold FY
  rw [e 172 (by decide), e 180 (by decide)]
  exact h
set_option maxHeartbeats 4000000 in
set_option maxRecDepth 20000 in
theorem n_X11_fault (l : Launch) (b : Nat) (D : va_G) (cy : Nat → ClassId) {tt : Nat} {M : xMm} {z : Int} (hz : inR z) (h6 : M 4 6 = 0) (h7 : M 4 7 = -1) : xC l b D cy yX11_fault cX11_fault 2 (some .int) ({ frames := 0, cells := 0, slots := 0, locals := 0 }) [xr 1, xi z] 209 M (RS tt) (xPi 209 (RS tt) (fun r M' => r = feF z ∧ ∀ a, 172 ≤ a → M' a = M a)) := by
  refine x_met (by decide) (Nat.le_of_ble_eq_true rfl) (fun g hg hr he => ?_)
  refine x_canon (ls' := [(0, _), (1, _)]) rfl ?_
  refine x_iload_n hg dX11_fault_0 rfl ?_
  refine x_lk2 (fun e1 => ?_) (fun e1 => ?_) (fun e1 f1 => ?_)
  · refine x_lookup (off := 27) (tgt := 28) hg dX11_fault_1 (by omega) rfl (by rw [e1]; rfl) (by decide) ?_
    refine x_aload_n hg dX11_fault_28 rfl ?_
    refine x_getR (j9 := 4) hg dX11_fault_29 fl_X11_21 (by decide) rfl rfl (by decide) ?_
    refine x_getI hg dX11_fault_32 fl_X11_110 (by decide) rfl ?_
    refine x_iret hg hr (Or.inl rfl) dX11_fault_35 (Nat.le_refl _) (Nat.le_refl _) ?_
    exact ⟨rfl, rfl, _, rfl, by unfold feF; split <;> omega, fun a _ => rfl⟩
  · refine x_lookup (off := 35) (tgt := 36) hg dX11_fault_1 (by omega) rfl (by rw [e1]; rfl) (by decide) ?_
    refine x_aload_n hg dX11_fault_36 rfl ?_
    refine x_getR (j9 := 4) hg dX11_fault_37 fl_X11_21 (by decide) rfl rfl (by decide) ?_
    refine x_getI hg dX11_fault_40 fl_X11_113 (by decide) rfl ?_
    refine x_iret hg hr (Or.inl rfl) dX11_fault_43 (Nat.le_refl _) (Nat.le_refl _) ?_
    exact ⟨rfl, rfl, _, rfl, by unfold feF; split <;> omega, fun a _ => rfl⟩
  · refine x_lookup (off := 43) (tgt := 44) hg dX11_fault_1 (by omega) rfl (by simp [Op.lookupswitch.offset, e1, f1, Ne.symm e1, Ne.symm f1]) (by decide) ?_
    refine x_iconst hg dX11_fault_44 ?_
    refine x_iret hg hr (Or.inl rfl) dX11_fault_45 (Nat.le_refl _) (Nat.le_refl _) ?_
    exact ⟨rfl, rfl, _, rfl, by unfold feF; split <;> omega, fun a _ => rfl⟩
set_option maxHeartbeats 4000000 in
set_option maxRecDepth 20000 in
theorem n_X12_fault (l : Launch) (b : Nat) (D : va_G) (cy : Nat → ClassId) {tt : Nat} {M : xMm} {z : Int} (hz : inR z) (h4 : M 172 4 = 0) (h5 : M 172 5 = -1) : xC l b D cy yX12_fault cX12_fault 2 (some .int) ({ frames := 0, cells := 0, slots := 0, locals := 0 }) [xr 172, xi z] 209 M (RS tt) (xPi 209 (RS tt) (fun r M' => r = feF z)) := by
  refine x_met (by decide) (Nat.le_of_ble_eq_true rfl) (fun g hg hr he => ?_)
  refine x_canon (ls' := [(0, _), (1, _)]) rfl ?_
  refine x_iload_n hg dX12_fault_0 rfl ?_
  refine x_if_ne (tgt := 11) hg dX12_fault_1 (by decide) (by omega) (fun c1 => ?_) (fun c1 => ?_)
  · skip
    refine x_iload_n hg dX12_fault_11 rfl ?_
    refine x_iconst hg dX12_fault_12 ?_
    refine x_icmp_ne (tgt := 23) hg dX12_fault_13 (by decide) (by omega) (by omega) (fun c13 => ?_) (fun c13 => ?_)
    · skip
      refine x_iconst hg dX12_fault_23 ?_
      refine x_iret hg hr (Or.inl rfl) dX12_fault_24 (Nat.le_refl _) (Nat.le_refl _) ?_
      exact ⟨rfl, rfl, _, rfl, by unfold feF; split <;> omega⟩
    · skip
      refine x_aload_n hg dX12_fault_16 rfl ?_
      refine x_getI hg dX12_fault_17 fl_X12_14 (by decide) rfl ?_
      refine x_goto (tgt := 24) hg dX12_fault_20 (by decide) ?_
      refine x_iret hg hr (Or.inl rfl) dX12_fault_24 (Nat.le_refl _) (Nat.le_refl _) ?_
      exact ⟨rfl, rfl, _, rfl, by unfold feF; split <;> omega⟩
  · skip
    refine x_aload_n hg dX12_fault_4 rfl ?_
    refine x_getI hg dX12_fault_5 fl_X12_11 (by decide) rfl ?_
    refine x_goto (tgt := 24) hg dX12_fault_8 (by decide) ?_
    refine x_iret hg hr (Or.inl rfl) dX12_fault_24 (Nat.le_refl _) (Nat.le_refl _) ?_
    exact ⟨rfl, rfl, _, rfl, by unfold feF; split <;> omega⟩
set_option maxHeartbeats 4000000 in
set_option maxRecDepth 20000 in
theorem n_X11_about (l : Launch) (b : Nat) (D : va_G) (cy : Nat → ClassId) {tt : Nat} {M : xMm} {z : Int} (htt : xTt tt) (hz : inR z) (ha : (M 1 8 = 1000 ∧ M 1 10 = 0 ∧ M 1 13 = 0 ∧ M 1 15 = 0 ∧ M 1 16 = 0) ∧ M 2 1 = 0 ∧ M tt 1 = 0) : xC l b D cy yX11_about cX11_about 2 (some .int) ({ frames := 0, cells := 0, slots := 0, locals := 0 }) [xr 1, xi z] 209 M (RS tt) (xPi 209 (RS tt) (fun r M' => r = abF z ∧ ∀ a, 172 ≤ a → M' a = M a)) := by
  obtain ⟨⟨a8, a10, a13, a15, a16⟩, a2, at1⟩ := ha
  refine x_met (by decide) (Nat.le_of_ble_eq_true rfl) (fun g hg hr he => ?_)
  refine x_canon (ls' := [(0, _), (1, _)]) rfl ?_
  refine x_iload_n hg dX11_about_0 rfl ?_
  refine x_int_cases 0 6 (fun hsw1 => ?_) (fun h1sw1 h2sw1 => ?_)
  · refine x_tableOut (tgt := 85) hg dX11_about_1 (by omega) hsw1 (by decide) ?_
    refine x_iconst hg dX11_about_85 ?_
    refine x_iret hg hr (Or.inl rfl) dX11_about_86 (Nat.le_refl _) (Nat.le_refl _) ?_
    exact ⟨rfl, rfl, _, rfl, by unfold abF; split <;> (try split) <;> omega, fun a _ => rfl⟩
  · refine x_sw7 h1sw1 h2sw1 (fun e1 => ?_) (fun e1 => ?_) (fun e1 => ?_) (fun e1 => ?_) (fun e1 => ?_) (fun e1 => ?_) (fun e1 => ?_)
    · refine x_tableIn (off := 43) (tgt := 44) hg dX11_about_1 (by omega) h1sw1 h2sw1 (by rw [e1]; rfl) (by decide) ?_
      refine x_aload_n hg dX11_about_44 rfl ?_
      refine x_getI hg dX11_about_45 fl_X11_212 (by decide) rfl ?_
      refine x_iret hg hr (Or.inl rfl) dX11_about_48 (Nat.le_refl _) (Nat.le_refl _) ?_
      exact ⟨rfl, rfl, _, rfl, by unfold abF; split <;> (try split) <;> omega, fun a _ => rfl⟩
    · refine x_tableIn (off := 48) (tgt := 49) hg dX11_about_1 (by omega) h1sw1 h2sw1 (by rw [e1]; rfl) (by decide) ?_
      refine x_aload_n hg dX11_about_49 rfl ?_
      refine x_getR (j9 := tt) hg dX11_about_50 fl_X11_28 (by decide) rfl rfl (by omega) ?_
      refine x_getI hg dX11_about_53 fl_X11_107 (oO_tt htt) rfl ?_
      refine x_iret hg hr (Or.inl rfl) dX11_about_56 (Nat.le_refl _) (Nat.le_refl _) ?_
      exact ⟨rfl, rfl, _, rfl, by unfold abF; split <;> (try split) <;> omega, fun a _ => rfl⟩
    · refine x_tableIn (off := 56) (tgt := 57) hg dX11_about_1 (by omega) h1sw1 h2sw1 (by rw [e1]; rfl) (by decide) ?_
      refine x_aload_n hg dX11_about_57 rfl ?_
      refine x_getI hg dX11_about_58 fl_X11_162 (by decide) rfl ?_
      refine x_iret hg hr (Or.inl rfl) dX11_about_61 (Nat.le_refl _) (Nat.le_refl _) ?_
      exact ⟨rfl, rfl, _, rfl, by unfold abF; split <;> (try split) <;> omega, fun a _ => rfl⟩
    · refine x_tableIn (off := 61) (tgt := 62) hg dX11_about_1 (by omega) h1sw1 h2sw1 (by rw [e1]; rfl) (by decide) ?_
      refine x_aload_n hg dX11_about_62 rfl ?_
      refine x_getI hg dX11_about_63 fl_X11_234 (by decide) rfl ?_
      refine x_iret hg hr (Or.inl rfl) dX11_about_66 (Nat.le_refl _) (Nat.le_refl _) ?_
      exact ⟨rfl, rfl, _, rfl, by unfold abF; split <;> (try split) <;> omega, fun a _ => rfl⟩
    · refine x_tableIn (off := 66) (tgt := 67) hg dX11_about_1 (by omega) h1sw1 h2sw1 (by rw [e1]; rfl) (by decide) ?_
      refine x_aload_n hg dX11_about_67 rfl ?_
      refine x_getI hg dX11_about_68 fl_X11_245 (by decide) rfl ?_
      refine x_iret hg hr (Or.inl rfl) dX11_about_71 (Nat.le_refl _) (Nat.le_refl _) ?_
      exact ⟨rfl, rfl, _, rfl, by unfold abF; split <;> (try split) <;> omega, fun a _ => rfl⟩
    · refine x_tableIn (off := 71) (tgt := 72) hg dX11_about_1 (by omega) h1sw1 h2sw1 (by rw [e1]; rfl) (by decide) ?_
      refine x_aload_n hg dX11_about_72 rfl ?_
      refine x_getR (j9 := 2) hg dX11_about_73 fl_X11_12 (by decide) rfl rfl (by decide) ?_
      refine x_getI hg dX11_about_76 fl_X11_96 (by decide) rfl ?_
      refine x_iret hg hr (Or.inl rfl) dX11_about_79 (Nat.le_refl _) (Nat.le_refl _) ?_
      exact ⟨rfl, rfl, _, rfl, by unfold abF; split <;> (try split) <;> omega, fun a _ => rfl⟩
    · refine x_tableIn (off := 79) (tgt := 80) hg dX11_about_1 (by omega) h1sw1 h2sw1 (by rw [e1]; rfl) (by decide) ?_
      refine x_aload_n hg dX11_about_80 rfl ?_
      refine x_getI hg dX11_about_81 fl_X11_64 (by decide) rfl ?_
      refine x_iret hg hr (Or.inl rfl) dX11_about_84 (Nat.le_refl _) (Nat.le_refl _) ?_
      exact ⟨rfl, rfl, _, rfl, by unfold abF; split <;> (try split) <;> omega, fun a _ => rfl⟩
set_option maxHeartbeats 4000000 in
set_option maxRecDepth 20000 in
theorem n_X12_about (l : Launch) (b : Nat) (D : va_G) (cy : Nat → ClassId) {tt : Nat} {M : xMm} {z : Int} (hz : inR z) (hbk : 0 ≤ M 172 18 ∧ M 172 18 ≤ 1) (ha : (M 172 2 = 0 ∧ M 172 24 = 1000 ∧ M 172 30 = 0 ∧ M 172 55 = 0 ∧ M 172 56 = 0 ∧ M 172 57 = 0) ∧ M 180 (M 172 18).toNat = 0) : xC l b D cy yX12_about cX12_about 2 (some .int) ({ frames := 0, cells := 0, slots := 0, locals := 0 }) [xr 172, xi z] 209 M (RS tt) (xPi 209 (RS tt) (fun r M' => r = abF z)) := by
  obtain ⟨⟨a2, a24, a30, a55, a56, a57⟩, a180⟩ := ha
  refine x_met (by decide) (Nat.le_of_ble_eq_true rfl) (fun g hg hr he => ?_)
  refine x_canon (ls' := [(0, _), (1, _)]) rfl ?_
  refine x_iload_n hg dX12_about_0 rfl ?_
  refine x_int_cases 0 6 (fun hsw1 => ?_) (fun h1sw1 h2sw1 => ?_)
  · refine x_tableOut (tgt := 84) hg dX12_about_1 (by omega) hsw1 (by decide) ?_
    refine x_iconst hg dX12_about_84 ?_
    refine x_iret hg hr (Or.inl rfl) dX12_about_85 (Nat.le_refl _) (Nat.le_refl _) ?_
    exact ⟨rfl, rfl, _, rfl, by unfold abF; split <;> (try split) <;> omega⟩
  · refine x_sw7 h1sw1 h2sw1 (fun e1 => ?_) (fun e1 => ?_) (fun e1 => ?_) (fun e1 => ?_) (fun e1 => ?_) (fun e1 => ?_) (fun e1 => ?_)
    · refine x_tableIn (off := 43) (tgt := 44) hg dX12_about_1 (by omega) h1sw1 h2sw1 (by rw [e1]; rfl) (by decide) ?_
      refine x_aload_n hg dX12_about_44 rfl ?_
      refine x_getI hg dX12_about_45 fl_X12_314 (by decide) rfl ?_
      refine x_iret hg hr (Or.inl rfl) dX12_about_48 (Nat.le_refl _) (Nat.le_refl _) ?_
      exact ⟨rfl, rfl, _, rfl, by unfold abF; split <;> (try split) <;> omega⟩
    · refine x_tableIn (off := 48) (tgt := 49) hg dX12_about_1 (by omega) h1sw1 h2sw1 (by rw [e1]; rfl) (by decide) ?_
      refine x_aload_n hg dX12_about_49 rfl ?_
      refine x_getR (j9 := 180) hg dX12_about_50 fl_X12_81 (by decide) rfl rfl (by decide) ?_
      refine x_aload_n hg dX12_about_53 rfl ?_
      refine x_getI hg dX12_about_54 fl_X12_75 (by decide) rfl ?_
      refine x_iaload (len := 2) hg dX12_about_57 (by decide) (by omega) ?_
      refine x_iret hg hr (Or.inl rfl) dX12_about_58 (Nat.le_refl _) (Nat.le_refl _) ?_
      exact ⟨rfl, rfl, _, rfl, by unfold abF; split <;> (try split) <;> omega⟩
    · refine x_tableIn (off := 58) (tgt := 59) hg dX12_about_1 (by omega) h1sw1 h2sw1 (by rw [e1]; rfl) (by decide) ?_
      refine x_aload_n hg dX12_about_59 rfl ?_
      refine x_getI hg dX12_about_60 fl_X12_234 (by decide) rfl ?_
      refine x_iret hg hr (Or.inl rfl) dX12_about_63 (Nat.le_refl _) (Nat.le_refl _) ?_
      exact ⟨rfl, rfl, _, rfl, by unfold abF; split <;> (try split) <;> omega⟩
    · refine x_tableIn (off := 63) (tgt := 64) hg dX12_about_1 (by omega) h1sw1 h2sw1 (by rw [e1]; rfl) (by decide) ?_
      refine x_aload_n hg dX12_about_64 rfl ?_
      refine x_getI hg dX12_about_65 fl_X12_327 (by decide) rfl ?_
      refine x_iret hg hr (Or.inl rfl) dX12_about_68 (Nat.le_refl _) (Nat.le_refl _) ?_
      exact ⟨rfl, rfl, _, rfl, by unfold abF; split <;> (try split) <;> omega⟩
    · refine x_tableIn (off := 68) (tgt := 69) hg dX12_about_1 (by omega) h1sw1 h2sw1 (by rw [e1]; rfl) (by decide) ?_
      refine x_aload_n hg dX12_about_69 rfl ?_
      refine x_getI hg dX12_about_70 fl_X12_333 (by decide) rfl ?_
      refine x_iret hg hr (Or.inl rfl) dX12_about_73 (Nat.le_refl _) (Nat.le_refl _) ?_
      exact ⟨rfl, rfl, _, rfl, by unfold abF; split <;> (try split) <;> omega⟩
    · refine x_tableIn (off := 73) (tgt := 74) hg dX12_about_1 (by omega) h1sw1 h2sw1 (by rw [e1]; rfl) (by decide) ?_
      refine x_aload_n hg dX12_about_74 rfl ?_
      refine x_getI hg dX12_about_75 fl_X12_69 (by decide) rfl ?_
      refine x_iret hg hr (Or.inl rfl) dX12_about_78 (Nat.le_refl _) (Nat.le_refl _) ?_
      exact ⟨rfl, rfl, _, rfl, by unfold abF; split <;> (try split) <;> omega⟩
    · refine x_tableIn (off := 78) (tgt := 79) hg dX12_about_1 (by omega) h1sw1 h2sw1 (by rw [e1]; rfl) (by decide) ?_
      refine x_aload_n hg dX12_about_79 rfl ?_
      refine x_getI hg dX12_about_80 fl_X12_152 (by decide) rfl ?_
      refine x_iret hg hr (Or.inl rfl) dX12_about_83 (Nat.le_refl _) (Nat.le_refl _) ?_
      exact ⟨rfl, rfl, _, rfl, by unfold abF; split <;> (try split) <;> omega⟩
set_option maxHeartbeats 4000000 in
set_option maxRecDepth 20000 in
theorem n_X11_train (l : Launch) (b : Nat) (D : va_G) (cy : Nat → ClassId) {tt : Nat} {M : xMm} {z y : Int} (hI : IR M) (htt : xTt tt) (hz : inR z) (hy : inR y) (h0 : M tt 1 = 0) : xC l b D cy yX11_train cX11_train 4 (some .int) ({ frames := 2, cells := 0, slots := 0, locals := 42 }) [xr 1, xi z, xi y] 209 M (RS tt) (xPi 209 (RS tt) (fun r M' => r = -1 ∧ ∀ a, 172 ≤ a → M' a = M a)) := by
  refine x_met (by decide) (Nat.le_of_ble_eq_true rfl) (fun g hg hr he => ?_)
  have htt2 : xTt tt := htt
  have hc := hI.1 tt htt
  refine x_canon (ls' := [(0, _), (1, _), (2, _)]) rfl ?_
  refine x_aload_n hg dX11_train_0 rfl ?_
  refine x_getR (j9 := tt) hg dX11_train_1 fl_X11_28 (by decide) rfl rfl (by omega) ?_
  refine x_iload_n hg dX11_train_4 rfl ?_
  refine x_cVi hg he [_] [] dX11_train_5 mv_X11_116 (c_X8_has l b D cy hI htt (by omega)) (oO_tt htt) rfl rfl (Nat.le_of_ble_eq_true rfl) (by decide) (by decide) (fun r5 M5 q5 => ?_)
  obtain ⟨h5, e5⟩ := q5
  replace h5 := h5.symm
  subst h5
  refine x_if_ne (tgt := 13) hg dX11_train_8 (by decide) (by omega) (fun c8 => ?_) (fun c8 => ?_)
  · skip
    exfalso; omega
  · skip
    refine x_iconst hg dX11_train_11 ?_
    refine x_iret hg hr (Or.inl rfl) dX11_train_12 (Nat.le_refl _) (Nat.le_refl _) ?_
    exact ⟨rfl, rfl, _, rfl, rfl, fun a _ => rfl⟩
set_option maxHeartbeats 4000000 in
set_option maxRecDepth 20000 in
theorem n_X12_train (l : Launch) (b : Nat) (D : va_G) (cy : Nat → ClassId) {tt : Nat} {M : xMm} {z y : Int} (hR : MR M) (hz : inR z) (hy : inR y) (h0 : mMa M = 0) : xC l b D cy yX12_train cX12_train 3 (some .int) ({ frames := 1, cells := 0, slots := 0, locals := 22 }) [xr 172, xi z, xi y] 209 M (RS tt) (xPi 209 (RS tt) (fun r M' => r = -1)) := by
  refine x_met (by decide) (Nat.le_of_ble_eq_true rfl) (fun g hg hr he => ?_)
  obtain ⟨hb, hm⟩ := MR_many hR
  refine x_canon (ls' := [(0, _), (1, _), (2, _)]) rfl ?_
  refine x_aload_n hg dX12_train_0 rfl ?_
  refine x_iload_n hg dX12_train_1 rfl ?_
  refine x_cVi hg he [_] [] dX12_train_2 mv_X12_121 (c_X12_isTrain l b D cy hR (by omega)) (by decide) rfl rfl (Nat.le_of_ble_eq_true rfl) (by decide) (by decide) (fun r2 M2 q2 => ?_)
  obtain ⟨h2, e2⟩ := q2
  replace h2 := h2.symm
  subst h2
  refine x_if_ne (tgt := 10) hg dX12_train_5 (by decide) (by omega) (fun c5 => ?_) (fun c5 => ?_)
  · skip
    exfalso; omega
  · skip
    refine x_iconst hg dX12_train_8 ?_
    refine x_iret hg hr (Or.inl rfl) dX12_train_9 (Nat.le_refl _) (Nat.le_refl _) ?_
    exact ⟨rfl, rfl, _, rfl, rfl⟩
set_option maxHeartbeats 4000000 in
set_option maxRecDepth 20000 in
theorem n_X11_delay (l : Launch) (b : Nat) (D : va_G) (cy : Nat → ClassId) {tt : Nat} {M : xMm} {z y : Int} (hI : IR M) (htt : xTt tt) (hz : inR z) (hy : inR y) (h0 : M tt 1 = 0) : xC l b D cy yX11_delay cX11_delay 3 (some .boolean) ({ frames := 1, cells := 0, slots := 0, locals := 21 }) [xr 1, xi z, xi y] 209 M (RS tt) (xPi 209 (RS tt) (fun r M' => r = 0 ∧ ∀ a, 172 ≤ a → M' a = M a)) := by
  refine x_met (by decide) (Nat.le_of_ble_eq_true rfl) (fun g hg hr he => ?_)
  have htt2 : xTt tt := htt
  have hc := hI.1 tt htt
  refine x_canon (ls' := [(0, _), (1, _), (2, _)]) rfl ?_
  refine x_aload_n hg dX11_delay_0 rfl ?_
  refine x_getR (j9 := tt) hg dX11_delay_1 fl_X11_28 (by decide) rfl rfl (by omega) ?_
  refine x_iload_n hg dX11_delay_4 rfl ?_
  refine x_cVi hg he [_] [] dX11_delay_5 mv_X11_116 (c_X8_has l b D cy hI htt (by omega)) (oO_tt htt) rfl rfl (Nat.le_of_ble_eq_true rfl) (by decide) (by decide) (fun r5 M5 q5 => ?_)
  obtain ⟨h5, e5⟩ := q5
  replace h5 := h5.symm
  subst h5
  refine x_if_eq (tgt := 22) hg dX11_delay_8 (by decide) (by omega) (fun c8 => ?_) (fun c8 => ?_)
  · skip
    refine x_iconst hg dX11_delay_22 ?_
    refine x_iret hg hr (Or.inr ⟨rfl, Or.inl rfl⟩) dX11_delay_23 (Nat.le_refl _) (Nat.le_refl _) ?_
    exact ⟨rfl, rfl, _, rfl, rfl, fun a _ => rfl⟩
  · skip
    exfalso; omega
set_option maxHeartbeats 4000000 in
set_option maxRecDepth 20000 in
theorem n_X12_delay (l : Launch) (b : Nat) (D : va_G) (cy : Nat → ClassId) {tt : Nat} {M : xMm} {z y : Int} (hR : MR M) (hz : inR z) (hy : inR y) (h0 : mMa M = 0) : xC l b D cy yX12_delay cX12_delay 3 (some .boolean) ({ frames := 1, cells := 0, slots := 0, locals := 21 }) [xr 172, xi z, xi y] 209 M (RS tt) (xPi 209 (RS tt) (fun r M' => r = 0)) := by
  refine x_met (by decide) (Nat.le_of_ble_eq_true rfl) (fun g hg hr he => ?_)
  obtain ⟨hb, hm⟩ := MR_many hR
  refine x_canon (ls' := [(0, _), (1, _), (2, _)]) rfl ?_
  refine x_aload_n hg dX12_delay_0 rfl ?_
  refine x_iload_n hg dX12_delay_1 rfl ?_
  refine x_cVi hg he [_] [] dX12_delay_2 mv_X12_121 (c_X12_isTrain l b D cy hR (by omega)) (by decide) rfl rfl (Nat.le_of_ble_eq_true rfl) (by decide) (by decide) (fun r2 M2 q2 => ?_)
  obtain ⟨h2, e2⟩ := q2
  replace h2 := h2.symm
  subst h2
  refine x_if_eq (tgt := 19) hg dX12_delay_5 (by decide) (by omega) (fun c5 => ?_) (fun c5 => ?_)
  · skip
    refine x_iconst hg dX12_delay_19 ?_
    refine x_iret hg hr (Or.inr ⟨rfl, Or.inl rfl⟩) dX12_delay_20 (Nat.le_refl _) (Nat.le_refl _) ?_
    exact ⟨rfl, rfl, _, rfl, rfl⟩
  · skip
    exfalso; omega
set_option maxHeartbeats 4000000 in
set_option maxRecDepth 20000 in
theorem n_X11_alone (l : Launch) (b : Nat) (D : va_G) (cy : Nat → ClassId) {tt : Nat} {M : xMm} {z : Int} (hI : IO M) (hz : inR z) (h0 : M 1 10 = 0) : xC l b D cy yX11_alone cX11_alone 2 (some .int) ({ frames := 5, cells := 0, slots := 0, locals := 127 }) [xr 1, xi z] 209 M (RS tt) (xPi 209 (RS tt) (fun r M' => r = -1 ∧ ∀ a, 172 ≤ a → M' a = M a)) := by
  refine x_met (by decide) (Nat.le_of_ble_eq_true rfl) (fun g hg hr he => ?_)
  have hI0 := hI
  obtain ⟨hn10, hn13, hn15, hn16, hn8, hn7, hC, hT, hB, hF⟩ := hI
  refine x_canon (ls' := [(0, _), (1, _)]) rfl ?_
  refine x_aload_n hg dX11_alone_0 rfl ?_
  refine x_iload_n hg dX11_alone_1 rfl ?_
  refine x_cVi hg he [_] [] dX11_alone_2 mv_X11_177 (c_X11_isChurn l b D cy (by omega) (by omega)) (by decide) rfl rfl (Nat.le_of_ble_eq_true rfl) (by decide) (by decide) (fun r2 M2 q2 => ?_)
  obtain ⟨h2, e2⟩ := q2
  replace h2 := h2.symm
  subst h2
  refine x_if_ne (tgt := 10) hg dX11_alone_5 (by decide) (by omega) (fun c5 => ?_) (fun c5 => ?_)
  · skip
    exfalso; omega
  · skip
    refine x_iconst hg dX11_alone_8 ?_
    refine x_iret hg hr (Or.inl rfl) dX11_alone_9 (Nat.le_refl _) (Nat.le_refl _) ?_
    exact ⟨rfl, rfl, _, rfl, rfl, fun a _ => rfl⟩
set_option maxHeartbeats 4000000 in
set_option maxRecDepth 20000 in
theorem n_X12_alone (l : Launch) (b : Nat) (D : va_G) (cy : Nat → ClassId) {tt : Nat} {M : xMm} {z : Int} (hO : MO M) (hz : inR z) (h0 : M 172 30 = 0) : xC l b D cy yX12_alone cX12_alone 2 (some .int) ({ frames := 4, cells := 0, slots := 0, locals := 92 }) [xr 172, xi z] 209 M (RS tt) (xPi 209 (RS tt) (fun r M' => r = -1)) := by
  refine x_met (by decide) (Nat.le_of_ble_eq_true rfl) (fun g hg hr he => ?_)
  have hn := hO.1
  refine x_canon (ls' := [(0, _), (1, _)]) rfl ?_
  refine x_aload_n hg dX12_alone_0 rfl ?_
  refine x_iload_n hg dX12_alone_1 rfl ?_
  refine x_cVi hg he [_] [] dX12_alone_2 mv_X12_237 (c_X12_isChurn l b D cy (by omega) (by omega)) (by decide) rfl rfl (Nat.le_of_ble_eq_true rfl) (by decide) (by decide) (fun r2 M2 q2 => ?_)
  obtain ⟨h2, e2⟩ := q2
  replace h2 := h2.symm
  subst h2
  refine x_if_ne (tgt := 10) hg dX12_alone_5 (by decide) (by omega) (fun c5 => ?_) (fun c5 => ?_)
  · skip
    exfalso; omega
  · skip
    refine x_iconst hg dX12_alone_8 ?_
    refine x_iret hg hr (Or.inl rfl) dX12_alone_9 (Nat.le_refl _) (Nat.le_refl _) ?_
    exact ⟨rfl, rfl, _, rfl, rfl⟩
set_option maxHeartbeats 4000000 in
set_option maxRecDepth 20000 in
theorem n_X11_way (l : Launch) (b : Nat) (D : va_G) (cy : Nat → ClassId) {tt : Nat} {M : xMm} {z y : Int} (hI : IO M) (hz : inR z) (h0 : M 1 10 = 0) : xC l b D cy yX11_way cX11_way 3 (some .int) ({ frames := 5, cells := 0, slots := 0, locals := 127 }) [xr 1, xi z, xi y] 209 M (RS tt) (xPi 209 (RS tt) (fun r M' => r = -1 ∧ ∀ a, 172 ≤ a → M' a = M a)) := by
  refine x_met (by decide) (Nat.le_of_ble_eq_true rfl) (fun g hg hr he => ?_)
  have hI0 := hI
  obtain ⟨hn10, hn13, hn15, hn16, hn8, hn7, hC, hT, hB, hF⟩ := hI
  refine x_canon (ls' := [(0, _), (1, _), (2, _)]) rfl ?_
  refine x_aload_n hg dX11_way_0 rfl ?_
  refine x_iload_n hg dX11_way_1 rfl ?_
  refine x_cVi hg he [_] [] dX11_way_2 mv_X11_177 (c_X11_isChurn l b D cy (by omega) (by omega)) (by decide) rfl rfl (Nat.le_of_ble_eq_true rfl) (by decide) (by decide) (fun r2 M2 q2 => ?_)
  obtain ⟨h2, e2⟩ := q2
  replace h2 := h2.symm
  subst h2
  refine x_if_eq (tgt := 17) hg dX11_way_5 (by decide) (by omega) (fun c5 => ?_) (fun c5 => ?_)
  · skip
    refine x_iconst hg dX11_way_17 ?_
    refine x_iret hg hr (Or.inl rfl) dX11_way_18 (Nat.le_refl _) (Nat.le_refl _) ?_
    exact ⟨rfl, rfl, _, rfl, rfl, fun a _ => rfl⟩
  · skip
    exfalso; omega
set_option maxHeartbeats 4000000 in
set_option maxRecDepth 20000 in
theorem n_X12_way (l : Launch) (b : Nat) (D : va_G) (cy : Nat → ClassId) {tt : Nat} {M : xMm} {z y : Int} (hO : MO M) (hz : inR z) (h0 : M 172 30 = 0) : xC l b D cy yX12_way cX12_way 3 (some .int) ({ frames := 5, cells := 0, slots := 0, locals := 113 }) [xr 172, xi z, xi y] 209 M (RS tt) (xPi 209 (RS tt) (fun r M' => r = -1)) := by
  refine x_met (by decide) (Nat.le_of_ble_eq_true rfl) (fun g hg hr he => ?_)
  refine x_canon (ls' := [(0, _), (1, _), (2, _)]) rfl ?_
  refine x_aload_n hg dX12_way_0 rfl ?_
  refine x_iload_n hg dX12_way_1 rfl ?_
  refine x_cVi hg he [_] [] dX12_way_2 mv_X12_271 (n_X12_alone l b D cy hO hz h0) (by decide) rfl rfl (Nat.le_of_ble_eq_true rfl) (by decide) (by decide) (fun r2 M2 q2 => ?_)
  refine x_if_ge (tgt := 10) hg dX12_way_5 (by decide) (by omega) (fun c5 => ?_) (fun c5 => ?_)
  · skip
    exfalso; omega
  · skip
    refine x_iconst hg dX12_way_8 ?_
    refine x_iret hg hr (Or.inl rfl) dX12_way_9 (Nat.le_refl _) (Nat.le_refl _) ?_
    exact ⟨rfl, rfl, _, rfl, rfl⟩
set_option maxHeartbeats 4000000 in
set_option maxRecDepth 20000 in
theorem n_X11_by (l : Launch) (b : Nat) (D : va_G) (cy : Nat → ClassId) {tt : Nat} {M : xMm} {z y : Int} (hI : IO M) (hIR : IR M) (htt : xTt tt) (hz : inR z) (h0 : M 1 10 = 0) : xC l b D cy yX11_by cX11_by 3 (some .int) ({ frames := 3, cells := 0, slots := 0, locals := 73 }) [xr 1, xi z, xi y] 209 M (RS tt) (xPi 209 (RS tt) (fun r M' => r = -1 ∧ ∀ a, 172 ≤ a → M' a = M a)) := by
  refine x_met (by decide) (Nat.le_of_ble_eq_true rfl) (fun g hg hr he => ?_)
  have hI0 := hI
  obtain ⟨hn10, hn13, hn15, hn16, hn8, hn7, hC, hT, hB, hF⟩ := hI
  have htq := hIR.1 tt htt
  refine x_canon (ls' := [(0, _), (1, _), (2, _)]) rfl ?_
  refine x_aload_n hg dX11_by_0 rfl ?_
  refine x_iload_n hg dX11_by_1 rfl ?_
  refine x_cVi hg he [_] [] dX11_by_2 mv_X11_177 (c_X11_isChurn l b D cy (by omega) (by omega)) (by decide) rfl rfl (Nat.le_of_ble_eq_true rfl) (by decide) (by decide) (fun r2 M2 q2 => ?_)
  obtain ⟨h2, e2⟩ := q2
  replace h2 := h2.symm
  subst h2
  refine x_if_eq (tgt := 19) hg dX11_by_5 (by decide) (by omega) (fun c5 => ?_) (fun c5 => ?_)
  · skip
    refine x_iconst hg dX11_by_19 ?_
    refine x_iret hg hr (Or.inl rfl) dX11_by_20 (Nat.le_refl _) (Nat.le_refl _) ?_
    exact ⟨rfl, rfl, _, rfl, rfl, fun a _ => rfl⟩
  · skip
    exfalso; omega
set_option maxHeartbeats 4000000 in
set_option maxRecDepth 20000 in
theorem n_X12_by (l : Launch) (b : Nat) (D : va_G) (cy : Nat → ClassId) {tt : Nat} {M : xMm} {z y : Int} (hO : MO M) (hR : MR M) (hz : inR z) (h0 : M 172 30 = 0) : xC l b D cy yX12_by cX12_by 3 (some .int) ({ frames := 3, cells := 0, slots := 0, locals := 69 }) [xr 172, xi z, xi y] 209 M (RS tt) (xPi 209 (RS tt) (fun r M' => r = -1)) := by
  refine x_met (by decide) (Nat.le_of_ble_eq_true rfl) (fun g hg hr he => ?_)
  have hn := hO.1
  obtain ⟨hb, hm⟩ := MR_many hR
  refine x_canon (ls' := [(0, _), (1, _), (2, _)]) rfl ?_
  refine x_aload_n hg dX12_by_0 rfl ?_
  refine x_iload_n hg dX12_by_1 rfl ?_
  refine x_cVi hg he [_] [] dX12_by_2 mv_X12_237 (c_X12_isChurn l b D cy (by omega) (by omega)) (by decide) rfl rfl (Nat.le_of_ble_eq_true rfl) (by decide) (by decide) (fun r2 M2 q2 => ?_)
  obtain ⟨h2, e2⟩ := q2
  replace h2 := h2.symm
  subst h2
  refine x_if_eq (tgt := 16) hg dX12_by_5 (by decide) (by omega) (fun c5 => ?_) (fun c5 => ?_)
  · skip
    refine x_iconst hg dX12_by_16 ?_
    refine x_iret hg hr (Or.inl rfl) dX12_by_17 (Nat.le_refl _) (Nat.le_refl _) ?_
    exact ⟨rfl, rfl, _, rfl, rfl⟩
  · skip
    exfalso; omega
set_option maxHeartbeats 4000000 in
set_option maxRecDepth 20000 in
theorem n_X11_load (l : Launch) (b : Nat) (D : va_G) (cy : Nat → ClassId) {tt : Nat} {M : xMm} {z : Int} (hI : IO M) (hz : inR z) (h0 : M 1 10 = 0) : xC l b D cy yX11_load cX11_load 2 (some .int) ({ frames := 6, cells := 0, slots := 0, locals := 147 }) [xr 1, xi z] 209 M (RS tt) (xPi 209 (RS tt) (fun r M' => r = -1 ∧ ∀ a, 172 ≤ a → M' a = M a)) := by
  refine x_met (by decide) (Nat.le_of_ble_eq_true rfl) (fun g hg hr he => ?_)
  have hn10 := hI.1
  refine x_canon (ls' := [(0, _), (1, _)]) rfl ?_
  refine x_aload_n hg dX11_load_0 rfl ?_
  refine x_iload_n hg dX11_load_1 rfl ?_
  refine x_cVi hg he [_] [] dX11_load_2 mv_X11_177 (c_X11_isChurn l b D cy (by omega) (by omega)) (by decide) rfl rfl (Nat.le_of_ble_eq_true rfl) (by decide) (by decide) (fun r2 M2 q2 => ?_)
  obtain ⟨h2, e2⟩ := q2
  replace h2 := h2.symm
  subst h2
  refine x_if_ne (tgt := 10) hg dX11_load_5 (by decide) (by omega) (fun c5 => ?_) (fun c5 => ?_)
  · skip
    exfalso; omega
  · skip
    refine x_iconst hg dX11_load_8 ?_
    refine x_iret hg hr (Or.inl rfl) dX11_load_9 (Nat.le_refl _) (Nat.le_refl _) ?_
    exact ⟨rfl, rfl, _, rfl, rfl, fun a _ => rfl⟩
set_option maxHeartbeats 4000000 in
set_option maxRecDepth 20000 in
theorem n_X12_load (l : Launch) (b : Nat) (D : va_G) (cy : Nat → ClassId) {tt : Nat} {M : xMm} {z : Int} (hO : MO M) (hR : MR M) (hz : inR z) (h0 : M 172 30 = 0) : xC l b D cy yX12_load cX12_load 2 (some .int) ({ frames := 5, cells := 0, slots := 0, locals := 131 }) [xr 172, xi z] 209 M (RS tt) (xPi 209 (RS tt) (fun r M' => r = -1)) := by
  refine x_met (by decide) (Nat.le_of_ble_eq_true rfl) (fun g hg hr he => ?_)
  have em : M 180 (M 172 18).toNat = mMa M := rfl
  obtain ⟨hb, hm⟩ := MR_many hR
  have hN := hO.1
  refine x_canon (ls' := [(0, _), (1, _)]) rfl ?_
  refine x_aload_n hg dX12_load_0 rfl ?_
  refine x_iload_n hg dX12_load_1 rfl ?_
  refine x_cVi hg he [_] [] dX12_load_2 mv_X12_237 (c_X12_isChurn l b D cy (by omega) (by omega)) (by decide) rfl rfl (Nat.le_of_ble_eq_true rfl) (by decide) (by decide) (fun r2 M2 q2 => ?_)
  obtain ⟨h2, e2⟩ := q2
  replace h2 := h2.symm
  subst h2
  refine x_if_ne (tgt := 10) hg dX12_load_5 (by decide) (by omega) (fun c5 => ?_) (fun c5 => ?_)
  · skip
    exfalso; omega
  · skip
    refine x_iconst hg dX12_load_8 ?_
    refine x_iret hg hr (Or.inl rfl) dX12_load_9 (Nat.le_refl _) (Nat.le_refl _) ?_
    exact ⟨rfl, rfl, _, rfl, rfl⟩
set_option maxHeartbeats 4000000 in
set_option maxRecDepth 20000 in
theorem n_X11_end (l : Launch) (b : Nat) (D : va_G) (cy : Nat → ClassId) {tt : Nat} {M : xMm} {z : Int} (hz : inR z) (h0 : M 2 1 = 0) : xC l b D cy yX11_end cX11_end 2 (some .int) ({ frames := 0, cells := 0, slots := 0, locals := 0 }) [xr 1, xi z] 209 M (RS tt) (xPi 209 (RS tt) (fun r M' => r = feF z ∧ ∀ a, 172 ≤ a → M' a = M a)) := by
  refine x_met (by decide) (Nat.le_of_ble_eq_true rfl) (fun g hg hr he => ?_)
  refine x_canon (ls' := [(0, _), (1, _)]) rfl ?_
  refine x_iload_n hg dX11_end_0 rfl ?_
  refine x_if_lt (tgt := 15) hg dX11_end_1 (by decide) (by omega) (fun c1 => ?_) (fun c1 => ?_)
  · skip
    refine x_iconst hg dX11_end_15 ?_
    refine x_iret hg hr (Or.inl rfl) dX11_end_16 (Nat.le_refl _) (Nat.le_refl _) ?_
    exact ⟨rfl, rfl, _, rfl, by unfold feF; split <;> omega, fun a _ => rfl⟩
  · skip
    refine x_iload_n hg dX11_end_4 rfl ?_
    refine x_aload_n hg dX11_end_5 rfl ?_
    refine x_getR (j9 := 2) hg dX11_end_6 fl_X11_12 (by decide) rfl rfl (by decide) ?_
    refine x_getI hg dX11_end_9 fl_X11_96 (by decide) rfl ?_
    refine x_icmp_le (tgt := 17) hg dX11_end_12 (by decide) (by omega) (by omega) (fun c12 => ?_) (fun c12 => ?_)
    · skip
      refine x_aload_n hg dX11_end_17 rfl ?_
      refine x_getR (j9 := 2) hg dX11_end_18 fl_X11_12 (by decide) rfl rfl (by decide) ?_
      refine x_iload_n hg dX11_end_21 rfl ?_
      refine x_putI hg dX11_end_22 fl_X11_96 ft_7_1 (by decide) rfl ?_
      refine x_iload_n hg dX11_end_25 rfl ?_
      refine x_iret hg hr (Or.inl rfl) dX11_end_26 (Nat.le_refl _) (Nat.le_refl _) ?_
      exact ⟨rfl, rfl, _, rfl, by unfold feF; split <;> omega, fun a ha => by funext c; exact mu_nc (by omega)⟩
    · skip
      refine x_iconst hg dX11_end_15 ?_
      refine x_iret hg hr (Or.inl rfl) dX11_end_16 (Nat.le_refl _) (Nat.le_refl _) ?_
      exact ⟨rfl, rfl, _, rfl, by unfold feF; split <;> omega, fun a _ => rfl⟩
set_option maxHeartbeats 4000000 in
set_option maxRecDepth 20000 in
theorem n_X12_end (l : Launch) (b : Nat) (D : va_G) (cy : Nat → ClassId) {tt : Nat} {M : xMm} {z : Int} (hz : inR z) (h0 : M 172 2 = 0) : xC l b D cy yX12_end cX12_end 2 (some .int) ({ frames := 0, cells := 0, slots := 0, locals := 0 }) [xr 172, xi z] 209 M (RS tt) (xPi 209 (RS tt) (fun r M' => r = feF z)) := by
  refine x_met (by decide) (Nat.le_of_ble_eq_true rfl) (fun g hg hr he => ?_)
  refine x_canon (ls' := [(0, _), (1, _)]) rfl ?_
  refine x_iload_n hg dX12_end_0 rfl ?_
  refine x_if_lt (tgt := 12) hg dX12_end_1 (by decide) (by omega) (fun c1 => ?_) (fun c1 => ?_)
  · skip
    refine x_iconst hg dX12_end_12 ?_
    refine x_iret hg hr (Or.inl rfl) dX12_end_13 (Nat.le_refl _) (Nat.le_refl _) ?_
    exact ⟨rfl, rfl, _, rfl, by unfold feF; split <;> omega⟩
  · skip
    refine x_iload_n hg dX12_end_4 rfl ?_
    refine x_aload_n hg dX12_end_5 rfl ?_
    refine x_getI hg dX12_end_6 fl_X12_69 (by decide) rfl ?_
    refine x_icmp_le (tgt := 14) hg dX12_end_9 (by decide) (by omega) (by omega) (fun c9 => ?_) (fun c9 => ?_)
    · skip
      refine x_aload_n hg dX12_end_14 rfl ?_
      refine x_iload_n hg dX12_end_15 rfl ?_
      refine x_putI hg dX12_end_16 fl_X12_69 ft_12_2 (by decide) rfl ?_
      refine x_iload_n hg dX12_end_19 rfl ?_
      refine x_iret hg hr (Or.inl rfl) dX12_end_20 (Nat.le_refl _) (Nat.le_refl _) ?_
      exact ⟨rfl, rfl, _, rfl, by unfold feF; split <;> omega⟩
    · skip
      refine x_iconst hg dX12_end_12 ?_
      refine x_iret hg hr (Or.inl rfl) dX12_end_13 (Nat.le_refl _) (Nat.le_refl _) ?_
      exact ⟨rfl, rfl, _, rfl, by unfold feF; split <;> omega⟩
