theorem dX11_of_0 : decode cX11_of 0 = .ok (.aload_n 0, 1) := by decide +kernel
theorem dX11_of_1 : decode cX11_of 1 = .ok (.iload_n 1, 1) := by decide +kernel
theorem dX11_of_2 : decode cX11_of 2 = .ok (.invokevirtual 177, 3) := by decide +kernel
theorem dX11_of_5 : decode cX11_of 5 = .ok (.ifCond .ne 5, 3) := by decide +kernel
theorem dX11_of_8 : decode cX11_of 8 = .ok (.iconst (-1), 1) := by decide +kernel
theorem dX11_of_9 : decode cX11_of 9 = .ok (.ireturn, 1) := by decide +kernel
theorem dX11_of_10 : decode cX11_of 10 = .ok (.aload_n 0, 1) := by decide +kernel
theorem dX11_of_11 : decode cX11_of 11 = .ok (.getfield 70, 3) := by decide +kernel
theorem dX11_of_14 : decode cX11_of 14 = .ok (.iload_n 1, 1) := by decide +kernel
theorem dX11_of_15 : decode cX11_of 15 = .ok (.aaload, 1) := by decide +kernel
theorem dX11_of_16 : decode cX11_of 16 = .ok (.astore_n 3, 1) := by decide +kernel
theorem dX11_of_17 : decode cX11_of 17 = .ok (.iload_n 2, 1) := by decide +kernel
theorem dX11_of_18 : decode cX11_of 18 = .ok (.tableswitch 59 0 4 #[34, 39, 44, 49, 54], 34) := by decide +kernel
theorem dX11_of_52 : decode cX11_of 52 = .ok (.aload_n 3, 1) := by decide +kernel
theorem dX11_of_53 : decode cX11_of 53 = .ok (.getfield 165, 3) := by decide +kernel
theorem dX11_of_56 : decode cX11_of 56 = .ok (.ireturn, 1) := by decide +kernel
theorem dX11_of_57 : decode cX11_of 57 = .ok (.aload_n 3, 1) := by decide +kernel
theorem dX11_of_58 : decode cX11_of 58 = .ok (.getfield 168, 3) := by decide +kernel
theorem dX11_of_61 : decode cX11_of 61 = .ok (.ireturn, 1) := by decide +kernel
theorem dX11_of_62 : decode cX11_of 62 = .ok (.aload_n 3, 1) := by decide +kernel
theorem dX11_of_63 : decode cX11_of 63 = .ok (.getfield 171, 3) := by decide +kernel
theorem dX11_of_66 : decode cX11_of 66 = .ok (.ireturn, 1) := by decide +kernel
theorem dX11_of_67 : decode cX11_of 67 = .ok (.aload_n 3, 1) := by decide +kernel
theorem dX11_of_68 : decode cX11_of 68 = .ok (.getfield 174, 3) := by decide +kernel
theorem dX11_of_71 : decode cX11_of 71 = .ok (.ireturn, 1) := by decide +kernel
theorem dX11_of_72 : decode cX11_of 72 = .ok (.aload_n 3, 1) := by decide +kernel
theorem dX11_of_73 : decode cX11_of 73 = .ok (.getfield 180, 3) := by decide +kernel
theorem dX11_of_76 : decode cX11_of 76 = .ok (.ireturn, 1) := by decide +kernel
theorem dX11_of_77 : decode cX11_of 77 = .ok (.iconst (-1), 1) := by decide +kernel
theorem dX11_of_78 : decode cX11_of 78 = .ok (.ireturn, 1) := by decide +kernel
set_option maxHeartbeats 4000000 in
set_option maxRecDepth 20000 in
theorem c_X11_of (l : Launch) (b : Nat) (D : va_G) (cy : Nat → ClassId) {tt : Nat} {M : xMm} {z w : Int} (hI : IO M) (hz : inR z) (hw : inR w) : xC l b D cy yX11_of cX11_of 4 (some .int) ({ frames := 1, cells := 0, slots := 0, locals := 21 }) [xr 1, xi z, xi w] 209 M (RS tt) (xPi 209 (RS tt) (fun r M' => M' = M ∧ r = vOf M z w)) := by
  refine x_met (by decide) (Nat.le_of_ble_eq_true rfl) (fun g hg hr he => ?_)
  obtain ⟨hn10, hn13, hn15, hn16, hn8, hn7, hC, hT, hB, hF⟩ := hI
  refine x_canon (ls' := [(0, _), (1, _), (2, _)]) rfl ?_
  refine x_aload_n hg dX11_of_0 rfl ?_
  refine x_iload_n hg dX11_of_1 rfl ?_
  refine x_cVi hg he [_] [] dX11_of_2 mv_X11_177 (c_X11_isChurn l b D cy (by omega) (by omega)) (by decide) rfl rfl (Nat.le_of_ble_eq_true rfl) (by decide) (by decide) (fun r2 M2 q2 => ?_)
  obtain ⟨h2, e2⟩ := q2
  replace h2 := h2.symm
  subst h2
  refine x_if_ne (tgt := 10) hg dX11_of_5 (by decide) (by omega) (fun c5 => ?_) (fun c5 => ?_)
  · skip
    refine x_aload_n hg dX11_of_10 rfl ?_
    refine x_getR (j9 := 84) hg dX11_of_11 fl_X11_70 (by decide) rfl rfl (by decide) ?_
    refine x_iload_n hg dX11_of_14 rfl ?_
    refine x_aaload (len := 10) (et := 5) hg dX11_of_15 (by decide) (by decide) (by omega) (RS_churn _ _) (by omega) ?_
    refine x_astore_n (ls' := [(0, _), (1, _), (2, _), (3, _)]) hg dX11_of_16 rfl (by decide) rfl ?_
    refine x_iload_n hg dX11_of_17 rfl ?_
    refine x_int_cases 0 4 (fun hsw18 => ?_) (fun h1sw18 h2sw18 => ?_)
    · refine x_tableOut (tgt := 77) hg dX11_of_18 (by omega) hsw18 (by decide) ?_
      refine x_iconst hg dX11_of_77 ?_
      refine x_iret hg hr (Or.inl rfl) dX11_of_78 (Nat.le_refl _) (Nat.le_refl _) ?_
      refine ⟨rfl, rfl, _, rfl, rfl, ?_⟩
      unfold vOf
      repeat (first | rw [if_pos (by omega)] | rw [if_neg (by omega)])
    · refine x_sw5 h1sw18 h2sw18 (fun e18 => ?_) (fun e18 => ?_) (fun e18 => ?_) (fun e18 => ?_) (fun e18 => ?_)
      · refine x_tableIn (off := 34) (tgt := 52) hg dX11_of_18 (by omega) h1sw18 h2sw18 (by rw [e18]; rfl) (by decide) ?_
        refine x_aload_n hg dX11_of_52 rfl ?_
        refine x_getI hg dX11_of_53 fl_X11_165 (oO_churn (by omega)) rfl ?_
        refine x_iret hg hr (Or.inl rfl) dX11_of_56 (Nat.le_refl _) (Nat.le_refl _) ?_
        refine ⟨rfl, rfl, _, rfl, rfl, ?_⟩
        unfold vOf
        repeat (first | rw [if_pos (by omega)] | rw [if_neg (by omega)])
      · refine x_tableIn (off := 39) (tgt := 57) hg dX11_of_18 (by omega) h1sw18 h2sw18 (by rw [e18]; rfl) (by decide) ?_
        refine x_aload_n hg dX11_of_57 rfl ?_
        refine x_getI hg dX11_of_58 fl_X11_168 (oO_churn (by omega)) rfl ?_
        refine x_iret hg hr (Or.inl rfl) dX11_of_61 (Nat.le_refl _) (Nat.le_refl _) ?_
        refine ⟨rfl, rfl, _, rfl, rfl, ?_⟩
        unfold vOf
        repeat (first | rw [if_pos (by omega)] | rw [if_neg (by omega)])
      · refine x_tableIn (off := 44) (tgt := 62) hg dX11_of_18 (by omega) h1sw18 h2sw18 (by rw [e18]; rfl) (by decide) ?_
        refine x_aload_n hg dX11_of_62 rfl ?_
        refine x_getI hg dX11_of_63 fl_X11_171 (oO_churn (by omega)) rfl ?_
        refine x_iret hg hr (Or.inl rfl) dX11_of_66 (Nat.le_refl _) (Nat.le_refl _) ?_
        refine ⟨rfl, rfl, _, rfl, rfl, ?_⟩
        unfold vOf
        repeat (first | rw [if_pos (by omega)] | rw [if_neg (by omega)])
      · refine x_tableIn (off := 49) (tgt := 67) hg dX11_of_18 (by omega) h1sw18 h2sw18 (by rw [e18]; rfl) (by decide) ?_
        refine x_aload_n hg dX11_of_67 rfl ?_
        refine x_getI hg dX11_of_68 fl_X11_174 (oO_churn (by omega)) rfl ?_
        refine x_iret hg hr (Or.inl rfl) dX11_of_71 (Nat.le_refl _) (Nat.le_refl _) ?_
        refine ⟨rfl, rfl, _, rfl, rfl, ?_⟩
        unfold vOf
        repeat (first | rw [if_pos (by omega)] | rw [if_neg (by omega)])
      · refine x_tableIn (off := 54) (tgt := 72) hg dX11_of_18 (by omega) h1sw18 h2sw18 (by rw [e18]; rfl) (by decide) ?_
        refine x_aload_n hg dX11_of_72 rfl ?_
        refine x_getI hg dX11_of_73 fl_X11_180 (oO_churn (by omega)) rfl ?_
        refine x_iret hg hr (Or.inl rfl) dX11_of_76 (Nat.le_refl _) (Nat.le_refl _) ?_
        refine ⟨rfl, rfl, _, rfl, rfl, ?_⟩
        unfold vOf
        repeat (first | rw [if_pos (by omega)] | rw [if_neg (by omega)])
  · skip
    refine x_iconst hg dX11_of_8 ?_
    refine x_iret hg hr (Or.inl rfl) dX11_of_9 (Nat.le_refl _) (Nat.le_refl _) ?_
    refine ⟨rfl, rfl, _, rfl, rfl, ?_⟩
    unfold vOf
    repeat (first | rw [if_pos (by omega)] | rw [if_neg (by omega)])

theorem dX11_tank_0 : decode cX11_tank 0 = .ok (.iload_n 1, 1) := by decide +kernel
theorem dX11_tank_1 : decode cX11_tank 1 = .ok (.invokestatic 215, 3) := by decide +kernel
theorem dX11_tank_4 : decode cX11_tank 4 = .ok (.ifCond .ne 5, 3) := by decide +kernel
theorem dX11_tank_7 : decode cX11_tank 7 = .ok (.iconst (-1), 1) := by decide +kernel
theorem dX11_tank_8 : decode cX11_tank 8 = .ok (.ireturn, 1) := by decide +kernel
theorem dX11_tank_9 : decode cX11_tank 9 = .ok (.iload_n 2, 1) := by decide +kernel
theorem dX11_tank_10 : decode cX11_tank 10 = .ok (.lookupswitch 46 #[(0, 26), (1, 36)], 26) := by decide +kernel
theorem dX11_tank_36 : decode cX11_tank 36 = .ok (.aload_n 0, 1) := by decide +kernel
theorem dX11_tank_37 : decode cX11_tank 37 = .ok (.getfield 77, 3) := by decide +kernel
theorem dX11_tank_40 : decode cX11_tank 40 = .ok (.iload_n 1, 1) := by decide +kernel
theorem dX11_tank_41 : decode cX11_tank 41 = .ok (.aaload, 1) := by decide +kernel
theorem dX11_tank_42 : decode cX11_tank 42 = .ok (.getfield 224, 3) := by decide +kernel
theorem dX11_tank_45 : decode cX11_tank 45 = .ok (.ireturn, 1) := by decide +kernel
theorem dX11_tank_46 : decode cX11_tank 46 = .ok (.aload_n 0, 1) := by decide +kernel
theorem dX11_tank_47 : decode cX11_tank 47 = .ok (.getfield 77, 3) := by decide +kernel
theorem dX11_tank_50 : decode cX11_tank 50 = .ok (.iload_n 1, 1) := by decide +kernel
theorem dX11_tank_51 : decode cX11_tank 51 = .ok (.aaload, 1) := by decide +kernel
theorem dX11_tank_52 : decode cX11_tank 52 = .ok (.getfield 228, 3) := by decide +kernel
theorem dX11_tank_55 : decode cX11_tank 55 = .ok (.ireturn, 1) := by decide +kernel
theorem dX11_tank_56 : decode cX11_tank 56 = .ok (.iconst (-1), 1) := by decide +kernel
theorem dX11_tank_57 : decode cX11_tank 57 = .ok (.ireturn, 1) := by decide +kernel
set_option maxHeartbeats 4000000 in
set_option maxRecDepth 20000 in
theorem c_X11_tank (l : Launch) (b : Nat) (D : va_G) (cy : Nat → ClassId) {tt : Nat} {M : xMm} {z w : Int} (hI : IO M) (hz : inR z) (hw : inR w) : xC l b D cy yX11_tank cX11_tank 3 (some .int) ({ frames := 1, cells := 0, slots := 0, locals := 20 }) [xr 1, xi z, xi w] 209 M (RS tt) (xPi 209 (RS tt) (fun r M' => M' = M ∧ r = vTank M z w)) := by
  refine x_met (by decide) (Nat.le_of_ble_eq_true rfl) (fun g hg hr he => ?_)
  obtain ⟨hn10, hn13, hn15, hn16, hn8, hn7, hC, hT, hB, hF⟩ := hI
  refine x_canon (ls' := [(0, _), (1, _), (2, _)]) rfl ?_
  refine x_iload_n hg dX11_tank_0 rfl ?_
  refine x_cSi hg he [_] [] dX11_tank_1 ms_X11_215 (c_X11_isTank l b D cy (by omega)) rfl rfl (Nat.le_of_ble_eq_true rfl) (by decide) (by decide) (fun r1 M1 q1 => ?_)
  obtain ⟨h1, e1⟩ := q1
  replace h1 := h1.symm
  subst h1
  refine x_if_ne (tgt := 9) hg dX11_tank_4 (by decide) (by omega) (fun c4 => ?_) (fun c4 => ?_)
  · skip
    refine x_iload_n hg dX11_tank_9 rfl ?_
    refine x_lk2 (fun e10 => ?_) (fun e10 => ?_) (fun e10 f10 => ?_)
    · refine x_lookup (off := 26) (tgt := 36) hg dX11_tank_10 (by omega) rfl (by rw [e10]; rfl) (by decide) ?_
      refine x_aload_n hg dX11_tank_36 rfl ?_
      refine x_getR (j9 := 95) hg dX11_tank_37 fl_X11_77 (by decide) rfl rfl (by decide) ?_
      refine x_iload_n hg dX11_tank_40 rfl ?_
      refine x_aaload (len := 4) (et := 6) hg dX11_tank_41 (by decide) (by decide) (by omega) (RS_tank _ _) (by omega) ?_
      refine x_getI hg dX11_tank_42 fl_X11_224 (oO_tank (by omega)) rfl ?_
      refine x_iret hg hr (Or.inl rfl) dX11_tank_45 (Nat.le_refl _) (Nat.le_refl _) ?_
      refine ⟨rfl, rfl, _, rfl, rfl, ?_⟩
      unfold vTank
      repeat (first | rw [if_pos (by omega)] | rw [if_neg (by omega)])
    · refine x_lookup (off := 36) (tgt := 46) hg dX11_tank_10 (by omega) rfl (by rw [e10]; rfl) (by decide) ?_
      refine x_aload_n hg dX11_tank_46 rfl ?_
      refine x_getR (j9 := 95) hg dX11_tank_47 fl_X11_77 (by decide) rfl rfl (by decide) ?_
      refine x_iload_n hg dX11_tank_50 rfl ?_
      refine x_aaload (len := 4) (et := 6) hg dX11_tank_51 (by decide) (by decide) (by omega) (RS_tank _ _) (by omega) ?_
      refine x_getI hg dX11_tank_52 fl_X11_228 (oO_tank (by omega)) rfl ?_
      refine x_iret hg hr (Or.inl rfl) dX11_tank_55 (Nat.le_refl _) (Nat.le_refl _) ?_
      refine ⟨rfl, rfl, _, rfl, rfl, ?_⟩
      unfold vTank
      repeat (first | rw [if_pos (by omega)] | rw [if_neg (by omega)])
    · refine x_lookup (off := 46) (tgt := 56) hg dX11_tank_10 (by omega) rfl (by simp [Op.lookupswitch.offset, e10, f10, Ne.symm e10, Ne.symm f10]) (by decide) ?_
      refine x_iconst hg dX11_tank_56 ?_
      refine x_iret hg hr (Or.inl rfl) dX11_tank_57 (Nat.le_refl _) (Nat.le_refl _) ?_
      refine ⟨rfl, rfl, _, rfl, rfl, ?_⟩
      unfold vTank
      repeat (first | rw [if_pos (by omega)] | rw [if_neg (by omega)])
  · skip
    refine x_iconst hg dX11_tank_7 ?_
    refine x_iret hg hr (Or.inl rfl) dX11_tank_8 (Nat.le_refl _) (Nat.le_refl _) ?_
    refine ⟨rfl, rfl, _, rfl, rfl, ?_⟩
    unfold vTank
    repeat (first | rw [if_pos (by omega)] | rw [if_neg (by omega)])

theorem dX11_bottling_0 : decode cX11_bottling 0 = .ok (.aload_n 0, 1) := by decide +kernel
theorem dX11_bottling_1 : decode cX11_bottling 1 = .ok (.iload_n 1, 1) := by decide +kernel
theorem dX11_bottling_2 : decode cX11_bottling 2 = .ok (.invokevirtual 242, 3) := by decide +kernel
theorem dX11_bottling_5 : decode cX11_bottling 5 = .ok (.ifCond .ne 5, 3) := by decide +kernel
theorem dX11_bottling_8 : decode cX11_bottling 8 = .ok (.iconst (-1), 1) := by decide +kernel
theorem dX11_bottling_9 : decode cX11_bottling 9 = .ok (.ireturn, 1) := by decide +kernel
theorem dX11_bottling_10 : decode cX11_bottling 10 = .ok (.aload_n 0, 1) := by decide +kernel
theorem dX11_bottling_11 : decode cX11_bottling 11 = .ok (.getfield 84, 3) := by decide +kernel
theorem dX11_bottling_14 : decode cX11_bottling 14 = .ok (.iload_n 1, 1) := by decide +kernel
theorem dX11_bottling_15 : decode cX11_bottling 15 = .ok (.aaload, 1) := by decide +kernel
theorem dX11_bottling_16 : decode cX11_bottling 16 = .ok (.astore_n 3, 1) := by decide +kernel
theorem dX11_bottling_17 : decode cX11_bottling 17 = .ok (.iload_n 2, 1) := by decide +kernel
theorem dX11_bottling_18 : decode cX11_bottling 18 = .ok (.tableswitch 41 0 2 #[26, 31, 36], 26) := by decide +kernel
theorem dX11_bottling_44 : decode cX11_bottling 44 = .ok (.aload_n 3, 1) := by decide +kernel
theorem dX11_bottling_45 : decode cX11_bottling 45 = .ok (.getfield 237, 3) := by decide +kernel
theorem dX11_bottling_48 : decode cX11_bottling 48 = .ok (.ireturn, 1) := by decide +kernel
theorem dX11_bottling_49 : decode cX11_bottling 49 = .ok (.aload_n 3, 1) := by decide +kernel
theorem dX11_bottling_50 : decode cX11_bottling 50 = .ok (.getfield 238, 3) := by decide +kernel
theorem dX11_bottling_53 : decode cX11_bottling 53 = .ok (.ireturn, 1) := by decide +kernel
theorem dX11_bottling_54 : decode cX11_bottling 54 = .ok (.aload_n 3, 1) := by decide +kernel
theorem dX11_bottling_55 : decode cX11_bottling 55 = .ok (.getfield 239, 3) := by decide +kernel
theorem dX11_bottling_58 : decode cX11_bottling 58 = .ok (.ireturn, 1) := by decide +kernel
theorem dX11_bottling_59 : decode cX11_bottling 59 = .ok (.iconst (-1), 1) := by decide +kernel
theorem dX11_bottling_60 : decode cX11_bottling 60 = .ok (.ireturn, 1) := by decide +kernel
set_option maxHeartbeats 4000000 in
set_option maxRecDepth 20000 in
theorem c_X11_bottling (l : Launch) (b : Nat) (D : va_G) (cy : Nat → ClassId) {tt : Nat} {M : xMm} {z w : Int} (hI : IO M) (hz : inR z) (hw : inR w) : xC l b D cy yX11_bottling cX11_bottling 4 (some .int) ({ frames := 1, cells := 0, slots := 0, locals := 21 }) [xr 1, xi z, xi w] 209 M (RS tt) (xPi 209 (RS tt) (fun r M' => M' = M ∧ r = vBottling M z w)) := by
  refine x_met (by decide) (Nat.le_of_ble_eq_true rfl) (fun g hg hr he => ?_)
  obtain ⟨hn10, hn13, hn15, hn16, hn8, hn7, hC, hT, hB, hF⟩ := hI
  refine x_canon (ls' := [(0, _), (1, _), (2, _)]) rfl ?_
  refine x_aload_n hg dX11_bottling_0 rfl ?_
  refine x_iload_n hg dX11_bottling_1 rfl ?_
  refine x_cVi hg he [_] [] dX11_bottling_2 mv_X11_242 (c_X11_isBottling l b D cy (by omega) (by omega)) (by decide) rfl rfl (Nat.le_of_ble_eq_true rfl) (by decide) (by decide) (fun r2 M2 q2 => ?_)
  obtain ⟨h2, e2⟩ := q2
  replace h2 := h2.symm
  subst h2
  refine x_if_ne (tgt := 10) hg dX11_bottling_5 (by decide) (by omega) (fun c5 => ?_) (fun c5 => ?_)
  · skip
    refine x_aload_n hg dX11_bottling_10 rfl ?_
    refine x_getR (j9 := 100) hg dX11_bottling_11 fl_X11_84 (by decide) rfl rfl (by decide) ?_
    refine x_iload_n hg dX11_bottling_14 rfl ?_
    refine x_aaload (len := 40) (et := 7) hg dX11_bottling_15 (by decide) (by decide) (by omega) (RS_bottling _ _) (by omega) ?_
    refine x_astore_n (ls' := [(0, _), (1, _), (2, _), (3, _)]) hg dX11_bottling_16 rfl (by decide) rfl ?_
    refine x_iload_n hg dX11_bottling_17 rfl ?_
    refine x_int_cases 0 2 (fun hsw18 => ?_) (fun h1sw18 h2sw18 => ?_)
    · refine x_tableOut (tgt := 59) hg dX11_bottling_18 (by omega) hsw18 (by decide) ?_
      refine x_iconst hg dX11_bottling_59 ?_
      refine x_iret hg hr (Or.inl rfl) dX11_bottling_60 (Nat.le_refl _) (Nat.le_refl _) ?_
      refine ⟨rfl, rfl, _, rfl, rfl, ?_⟩
      unfold vBottling
      repeat (first | rw [if_pos (by omega)] | rw [if_neg (by omega)])
    · refine x_sw3 h1sw18 h2sw18 (fun e18 => ?_) (fun e18 => ?_) (fun e18 => ?_)
      · refine x_tableIn (off := 26) (tgt := 44) hg dX11_bottling_18 (by omega) h1sw18 h2sw18 (by rw [e18]; rfl) (by decide) ?_
        refine x_aload_n hg dX11_bottling_44 rfl ?_
        refine x_getI hg dX11_bottling_45 fl_X11_237 (oO_bottling (by omega)) rfl ?_
        refine x_iret hg hr (Or.inl rfl) dX11_bottling_48 (Nat.le_refl _) (Nat.le_refl _) ?_
        refine ⟨rfl, rfl, _, rfl, rfl, ?_⟩
        unfold vBottling
        repeat (first | rw [if_pos (by omega)] | rw [if_neg (by omega)])
      · refine x_tableIn (off := 31) (tgt := 49) hg dX11_bottling_18 (by omega) h1sw18 h2sw18 (by rw [e18]; rfl) (by decide) ?_
        refine x_aload_n hg dX11_bottling_49 rfl ?_
        refine x_getI hg dX11_bottling_50 fl_X11_238 (oO_bottling (by omega)) rfl ?_
        refine x_iret hg hr (Or.inl rfl) dX11_bottling_53 (Nat.le_refl _) (Nat.le_refl _) ?_
        refine ⟨rfl, rfl, _, rfl, rfl, ?_⟩
        unfold vBottling
        repeat (first | rw [if_pos (by omega)] | rw [if_neg (by omega)])
      · refine x_tableIn (off := 36) (tgt := 54) hg dX11_bottling_18 (by omega) h1sw18 h2sw18 (by rw [e18]; rfl) (by decide) ?_
        refine x_aload_n hg dX11_bottling_54 rfl ?_
        refine x_getI hg dX11_bottling_55 fl_X11_239 (oO_bottling (by omega)) rfl ?_
        refine x_iret hg hr (Or.inl rfl) dX11_bottling_58 (Nat.le_refl _) (Nat.le_refl _) ?_
        refine ⟨rfl, rfl, _, rfl, rfl, ?_⟩
        unfold vBottling
        repeat (first | rw [if_pos (by omega)] | rw [if_neg (by omega)])
  · skip
    refine x_iconst hg dX11_bottling_8 ?_
    refine x_iret hg hr (Or.inl rfl) dX11_bottling_9 (Nat.le_refl _) (Nat.le_refl _) ?_
    refine ⟨rfl, rfl, _, rfl, rfl, ?_⟩
    unfold vBottling
    repeat (first | rw [if_pos (by omega)] | rw [if_neg (by omega)])

theorem dX11_pour_0 : decode cX11_pour 0 = .ok (.aload_n 0, 1) := by decide +kernel
theorem dX11_pour_1 : decode cX11_pour 1 = .ok (.iload_n 1, 1) := by decide +kernel
theorem dX11_pour_2 : decode cX11_pour 2 = .ok (.invokevirtual 177, 3) := by decide +kernel
theorem dX11_pour_5 : decode cX11_pour 5 = .ok (.ifCond .eq 10, 3) := by decide +kernel
theorem dX11_pour_8 : decode cX11_pour 8 = .ok (.iload_n 2, 1) := by decide +kernel
theorem dX11_pour_9 : decode cX11_pour 9 = .ok (.invokestatic 215, 3) := by decide +kernel
theorem dX11_pour_12 : decode cX11_pour 12 = .ok (.ifCond .ne 5, 3) := by decide +kernel
theorem dX11_pour_15 : decode cX11_pour 15 = .ok (.iconst (-1), 1) := by decide +kernel
theorem dX11_pour_16 : decode cX11_pour 16 = .ok (.ireturn, 1) := by decide +kernel
theorem dX11_pour_17 : decode cX11_pour 17 = .ok (.aload_n 0, 1) := by decide +kernel
theorem dX11_pour_18 : decode cX11_pour 18 = .ok (.getfield 70, 3) := by decide +kernel
theorem dX11_pour_21 : decode cX11_pour 21 = .ok (.iload_n 1, 1) := by decide +kernel
theorem dX11_pour_22 : decode cX11_pour 22 = .ok (.aaload, 1) := by decide +kernel
theorem dX11_pour_23 : decode cX11_pour 23 = .ok (.astore_n 3, 1) := by decide +kernel
theorem dX11_pour_24 : decode cX11_pour 24 = .ok (.aload_n 3, 1) := by decide +kernel
theorem dX11_pour_25 : decode cX11_pour 25 = .ok (.getfield 180, 3) := by decide +kernel
theorem dX11_pour_28 : decode cX11_pour 28 = .ok (.iconst (-1), 1) := by decide +kernel
theorem dX11_pour_29 : decode cX11_pour 29 = .ok (.if_icmp .ne 19, 3) := by decide +kernel
theorem dX11_pour_32 : decode cX11_pour 32 = .ok (.aload_n 0, 1) := by decide +kernel
theorem dX11_pour_33 : decode cX11_pour 33 = .ok (.getfield 77, 3) := by decide +kernel
theorem dX11_pour_36 : decode cX11_pour 36 = .ok (.iload_n 2, 1) := by decide +kernel
theorem dX11_pour_37 : decode cX11_pour 37 = .ok (.aaload, 1) := by decide +kernel
theorem dX11_pour_38 : decode cX11_pour 38 = .ok (.aload_n 3, 1) := by decide +kernel
theorem dX11_pour_39 : decode cX11_pour 39 = .ok (.getfield 174, 3) := by decide +kernel
theorem dX11_pour_42 : decode cX11_pour 42 = .ok (.invokevirtual 218, 3) := by decide +kernel
theorem dX11_pour_45 : decode cX11_pour 45 = .ok (.ifCond .ne 5, 3) := by decide +kernel
theorem dX11_pour_48 : decode cX11_pour 48 = .ok (.iconst (-1), 1) := by decide +kernel
theorem dX11_pour_49 : decode cX11_pour 49 = .ok (.ireturn, 1) := by decide +kernel
theorem dX11_pour_50 : decode cX11_pour 50 = .ok (.aload_n 0, 1) := by decide +kernel
theorem dX11_pour_51 : decode cX11_pour 51 = .ok (.getfield 77, 3) := by decide +kernel
theorem dX11_pour_54 : decode cX11_pour 54 = .ok (.iload_n 2, 1) := by decide +kernel
theorem dX11_pour_55 : decode cX11_pour 55 = .ok (.aaload, 1) := by decide +kernel
theorem dX11_pour_56 : decode cX11_pour 56 = .ok (.aload_n 3, 1) := by decide +kernel
theorem dX11_pour_57 : decode cX11_pour 57 = .ok (.getfield 174, 3) := by decide +kernel
theorem dX11_pour_60 : decode cX11_pour 60 = .ok (.iconst 1, 1) := by decide +kernel
theorem dX11_pour_61 : decode cX11_pour 61 = .ok (.aload_n 3, 1) := by decide +kernel
theorem dX11_pour_62 : decode cX11_pour 62 = .ok (.getfield 165, 3) := by decide +kernel
theorem dX11_pour_65 : decode cX11_pour 65 = .ok (.ishl, 1) := by decide +kernel
theorem dX11_pour_66 : decode cX11_pour 66 = .ok (.invokevirtual 221, 3) := by decide +kernel
theorem dX11_pour_69 : decode cX11_pour 69 = .ok (.aload_n 3, 1) := by decide +kernel
theorem dX11_pour_70 : decode cX11_pour 70 = .ok (.iload_n 2, 1) := by decide +kernel
theorem dX11_pour_71 : decode cX11_pour 71 = .ok (.putfield 180, 3) := by decide +kernel
theorem dX11_pour_74 : decode cX11_pour 74 = .ok (.aload_n 0, 1) := by decide +kernel
theorem dX11_pour_75 : decode cX11_pour 75 = .ok (.getfield 77, 3) := by decide +kernel
theorem dX11_pour_78 : decode cX11_pour 78 = .ok (.iload_n 2, 1) := by decide +kernel
theorem dX11_pour_79 : decode cX11_pour 79 = .ok (.aaload, 1) := by decide +kernel
theorem dX11_pour_80 : decode cX11_pour 80 = .ok (.getfield 224, 3) := by decide +kernel
theorem dX11_pour_83 : decode cX11_pour 83 = .ok (.ireturn, 1) := by decide +kernel
set_option maxHeartbeats 4000000 in
set_option maxRecDepth 20000 in
theorem c_X11_pour (l : Launch) (b : Nat) (D : va_G) (cy : Nat → ClassId) {tt : Nat} {M : xMm} {z y : Int} (hI : IO M) (hz : inR z) (hy : inR y) : xC l b D cy yX11_pour cX11_pour 4 (some .int) ({ frames := 1, cells := 0, slots := 0, locals := 22 }) [xr 1, xi z, xi y] 209 M (RS tt) (xPi 209 (RS tt) (fun r M' => ((0 ≤ z ∧ z < M 1 10 ∧ 0 ≤ y ∧ y < 4 ∧ M (85 + z.toNat) 4 = -1 ∧ M (85 + z.toNat) 3 ≤ 1000 - M (96 + y.toNat) 0) ∧ r = M (96 + y.toNat) 0 + M (85 + z.toNat) 3 ∧ M' = mu (mu (mu M (96 + y.toNat) 0 (M (96 + y.toNat) 0 + M (85 + z.toNat) 3)) (96 + y.toNat) 1 (bOr (M (96 + y.toNat) 1) (bShl 1 (M (85 + z.toNat) 0)))) (85 + z.toNat) 4 y) ∨ (¬ (0 ≤ z ∧ z < M 1 10 ∧ 0 ≤ y ∧ y < 4 ∧ M (85 + z.toNat) 4 = -1 ∧ M (85 + z.toNat) 3 ≤ 1000 - M (96 + y.toNat) 0) ∧ r = -1 ∧ M' = M))) := by
  refine x_met (by decide) (Nat.le_of_ble_eq_true rfl) (fun g hg hr he => ?_)
  obtain ⟨hn10, hn13, hn15, hn16, hn8, hn7, hC, hT, hB, hF⟩ := hI
  refine x_canon (ls' := [(0, _), (1, _), (2, _)]) rfl ?_
  refine x_aload_n hg dX11_pour_0 rfl ?_
  refine x_iload_n hg dX11_pour_1 rfl ?_
  refine x_cVi hg he [_] [] dX11_pour_2 mv_X11_177 (c_X11_isChurn l b D cy (by omega) (by omega)) (by decide) rfl rfl (Nat.le_of_ble_eq_true rfl) (by decide) (by decide) (fun r2 M2 q2 => ?_)
  obtain ⟨h2, e2⟩ := q2
  replace h2 := h2.symm
  subst h2
  refine x_if_eq (tgt := 15) hg dX11_pour_5 (by decide) (by omega) (fun c5 => ?_) (fun c5 => ?_)
  · skip
    refine x_iconst hg dX11_pour_15 ?_
    refine x_iret hg hr (Or.inl rfl) dX11_pour_16 (Nat.le_refl _) (Nat.le_refl _) ?_
    refine ⟨rfl, rfl, _, rfl, ?_⟩
    first | exact Or.inr ⟨by omega, rfl, rfl⟩ | exact Or.inl ⟨by omega, rfl, rfl⟩
  · skip
    refine x_iload_n hg dX11_pour_8 rfl ?_
    refine x_cSi hg he [_] [] dX11_pour_9 ms_X11_215 (c_X11_isTank l b D cy (by omega)) rfl rfl (Nat.le_of_ble_eq_true rfl) (by decide) (by decide) (fun r9 M9 q9 => ?_)
    obtain ⟨h9, e9⟩ := q9
    replace h9 := h9.symm
    subst h9
    refine x_if_ne (tgt := 17) hg dX11_pour_12 (by decide) (by omega) (fun c12 => ?_) (fun c12 => ?_)
    · skip
      refine x_aload_n hg dX11_pour_17 rfl ?_
      refine x_getR (j9 := 84) hg dX11_pour_18 fl_X11_70 (by decide) rfl rfl (by decide) ?_
      refine x_iload_n hg dX11_pour_21 rfl ?_
      refine x_aaload (len := 10) (et := 5) hg dX11_pour_22 (by decide) (by decide) (by omega) (RS_churn _ _) (by omega) ?_
      refine x_astore_n (ls' := [(0, _), (1, _), (2, _), (3, _)]) hg dX11_pour_23 rfl (by decide) rfl ?_
      refine x_aload_n hg dX11_pour_24 rfl ?_
      refine x_getI hg dX11_pour_25 fl_X11_180 (oO_churn (by omega)) rfl ?_
      refine x_iconst hg dX11_pour_28 ?_
      refine x_icmp_ne (tgt := 48) hg dX11_pour_29 (by decide) (by have h1 := hT y.toNat (by omega); have h2 := hC z.toNat (by omega); omega) (by omega) (fun c29 => ?_) (fun c29 => ?_)
      · skip
        refine x_iconst hg dX11_pour_48 ?_
        refine x_iret hg hr (Or.inl rfl) dX11_pour_49 (Nat.le_refl _) (Nat.le_refl _) ?_
        refine ⟨rfl, rfl, _, rfl, ?_⟩
        first | exact Or.inr ⟨by omega, rfl, rfl⟩ | exact Or.inl ⟨by omega, rfl, rfl⟩
      · skip
        refine x_aload_n hg dX11_pour_32 rfl ?_
        refine x_getR (j9 := 95) hg dX11_pour_33 fl_X11_77 (by decide) rfl rfl (by decide) ?_
        refine x_iload_n hg dX11_pour_36 rfl ?_
        refine x_aaload (len := 4) (et := 6) hg dX11_pour_37 (by decide) (by decide) (by omega) (RS_tank _ _) (by omega) ?_
        refine x_aload_n hg dX11_pour_38 rfl ?_
        refine x_getI hg dX11_pour_39 fl_X11_174 (oO_churn (by omega)) rfl ?_
        refine x_cVi hg he [_] [] dX11_pour_42 mv_X11_218 (c_X6_hasRoomFor l b D cy (oO_tank (by omega)) (by have h1 := hT y.toNat (by omega); have h2 := hC z.toNat (by omega); omega) (by have h1 := hT y.toNat (by omega); have h2 := hC z.toNat (by omega); omega)) (oO_tank (by omega)) rfl rfl (Nat.le_of_ble_eq_true rfl) (by decide) (by decide) (fun r42 M42 q42 => ?_)
        obtain ⟨h42, e42⟩ := q42
        replace h42 := h42.symm
        subst h42
        refine x_if_ne (tgt := 50) hg dX11_pour_45 (by decide) (by omega) (fun c45 => ?_) (fun c45 => ?_)
        · skip
          refine x_aload_n hg dX11_pour_50 rfl ?_
          refine x_getR (j9 := 95) hg dX11_pour_51 fl_X11_77 (by decide) rfl rfl (by decide) ?_
          refine x_iload_n hg dX11_pour_54 rfl ?_
          refine x_aaload (len := 4) (et := 6) hg dX11_pour_55 (by decide) (by decide) (by omega) (RS_tank _ _) (by omega) ?_
          refine x_aload_n hg dX11_pour_56 rfl ?_
          refine x_getI hg dX11_pour_57 fl_X11_174 (oO_churn (by omega)) rfl ?_
          refine x_iconst hg dX11_pour_60 ?_
          refine x_aload_n hg dX11_pour_61 rfl ?_
          refine x_getI hg dX11_pour_62 fl_X11_165 (oO_churn (by omega)) rfl ?_
          refine x_ishl hg dX11_pour_65 ?_
          refine x_cVv hg he [_, _] [] dX11_pour_66 mv_X11_221 (c_X6_fill l b D cy (oO_tank (by omega))) (oO_tank (by omega)) rfl rfl (Nat.le_of_ble_eq_true rfl) (by decide) (by decide) (fun M66 q66 => ?_)
          subst q66
          refine x_aload_n hg dX11_pour_69 rfl ?_
          refine x_iload_n hg dX11_pour_70 rfl ?_
          refine x_putI hg dX11_pour_71 fl_X11_180 ft_1_4 (oO_churn (by omega)) rfl ?_
          refine x_aload_n hg dX11_pour_74 rfl ?_
          refine x_getR (j9 := 95) hg dX11_pour_75 fl_X11_77 (by decide) rfl rfl (by decide) ?_
          refine x_iload_n hg dX11_pour_78 rfl ?_
          refine x_aaload (len := 4) (et := 6) hg dX11_pour_79 (by decide) (by decide) (by omega) (RS_tank _ _) (by omega) ?_
          refine x_getI hg dX11_pour_80 fl_X11_224 (oO_tank (by omega)) rfl ?_
          try simp (disch := omega) only [mu_s, mu_nf, mu_nc]
          refine x_iret hg hr (Or.inl rfl) dX11_pour_83 (Nat.le_refl _) (Nat.le_refl _) ?_
          refine ⟨rfl, rfl, _, rfl, ?_⟩
          first | exact Or.inr ⟨by omega, rfl, rfl⟩ | exact Or.inl ⟨by omega, rfl, rfl⟩
        · skip
          refine x_iconst hg dX11_pour_48 ?_
          refine x_iret hg hr (Or.inl rfl) dX11_pour_49 (Nat.le_refl _) (Nat.le_refl _) ?_
          refine ⟨rfl, rfl, _, rfl, ?_⟩
          first | exact Or.inr ⟨by omega, rfl, rfl⟩ | exact Or.inl ⟨by omega, rfl, rfl⟩
    · skip
      refine x_iconst hg dX11_pour_15 ?_
      refine x_iret hg hr (Or.inl rfl) dX11_pour_16 (Nat.le_refl _) (Nat.le_refl _) ?_
      refine ⟨rfl, rfl, _, rfl, ?_⟩
      first | exact Or.inr ⟨by omega, rfl, rfl⟩ | exact Or.inl ⟨by omega, rfl, rfl⟩

theorem dX11_bottle_0 : decode cX11_bottle 0 = .ok (.iload_n 1, 1) := by decide +kernel
theorem dX11_bottle_1 : decode cX11_bottle 1 = .ok (.invokestatic 215, 3) := by decide +kernel
theorem dX11_bottle_4 : decode cX11_bottle 4 = .ok (.ifCond .eq 25, 3) := by decide +kernel
theorem dX11_bottle_7 : decode cX11_bottle 7 = .ok (.aload_n 0, 1) := by decide +kernel
theorem dX11_bottle_8 : decode cX11_bottle 8 = .ok (.getfield 77, 3) := by decide +kernel
theorem dX11_bottle_11 : decode cX11_bottle 11 = .ok (.iload_n 1, 1) := by decide +kernel
theorem dX11_bottle_12 : decode cX11_bottle 12 = .ok (.aaload, 1) := by decide +kernel
theorem dX11_bottle_13 : decode cX11_bottle 13 = .ok (.iload_n 2, 1) := by decide +kernel
theorem dX11_bottle_14 : decode cX11_bottle 14 = .ok (.invokevirtual 225, 3) := by decide +kernel
theorem dX11_bottle_17 : decode cX11_bottle 17 = .ok (.ifCond .eq 12, 3) := by decide +kernel
theorem dX11_bottle_20 : decode cX11_bottle 20 = .ok (.aload_n 0, 1) := by decide +kernel
theorem dX11_bottle_21 : decode cX11_bottle 21 = .ok (.getfield 234, 3) := by decide +kernel
theorem dX11_bottle_24 : decode cX11_bottle 24 = .ok (.bipush 40, 2) := by decide +kernel
theorem dX11_bottle_26 : decode cX11_bottle 26 = .ok (.if_icmp .lt 5, 3) := by decide +kernel
theorem dX11_bottle_29 : decode cX11_bottle 29 = .ok (.iconst (-1), 1) := by decide +kernel
theorem dX11_bottle_30 : decode cX11_bottle 30 = .ok (.ireturn, 1) := by decide +kernel
theorem dX11_bottle_31 : decode cX11_bottle 31 = .ok (.aload_n 0, 1) := by decide +kernel
theorem dX11_bottle_32 : decode cX11_bottle 32 = .ok (.getfield 84, 3) := by decide +kernel
theorem dX11_bottle_35 : decode cX11_bottle 35 = .ok (.aload_n 0, 1) := by decide +kernel
theorem dX11_bottle_36 : decode cX11_bottle 36 = .ok (.getfield 234, 3) := by decide +kernel
theorem dX11_bottle_39 : decode cX11_bottle 39 = .ok (.aaload, 1) := by decide +kernel
theorem dX11_bottle_40 : decode cX11_bottle 40 = .ok (.astore_n 3, 1) := by decide +kernel
theorem dX11_bottle_41 : decode cX11_bottle 41 = .ok (.aload_n 3, 1) := by decide +kernel
theorem dX11_bottle_42 : decode cX11_bottle 42 = .ok (.iload_n 2, 1) := by decide +kernel
theorem dX11_bottle_43 : decode cX11_bottle 43 = .ok (.putfield 237, 3) := by decide +kernel
theorem dX11_bottle_46 : decode cX11_bottle 46 = .ok (.aload_n 3, 1) := by decide +kernel
theorem dX11_bottle_47 : decode cX11_bottle 47 = .ok (.aload_n 0, 1) := by decide +kernel
theorem dX11_bottle_48 : decode cX11_bottle 48 = .ok (.getfield 77, 3) := by decide +kernel
theorem dX11_bottle_51 : decode cX11_bottle 51 = .ok (.iload_n 1, 1) := by decide +kernel
theorem dX11_bottle_52 : decode cX11_bottle 52 = .ok (.aaload, 1) := by decide +kernel
theorem dX11_bottle_53 : decode cX11_bottle 53 = .ok (.getfield 228, 3) := by decide +kernel
theorem dX11_bottle_56 : decode cX11_bottle 56 = .ok (.putfield 238, 3) := by decide +kernel
theorem dX11_bottle_59 : decode cX11_bottle 59 = .ok (.aload_n 3, 1) := by decide +kernel
theorem dX11_bottle_60 : decode cX11_bottle 60 = .ok (.aload_n 0, 1) := by decide +kernel
theorem dX11_bottle_61 : decode cX11_bottle 61 = .ok (.getfield 212, 3) := by decide +kernel
theorem dX11_bottle_64 : decode cX11_bottle 64 = .ok (.putfield 239, 3) := by decide +kernel
theorem dX11_bottle_67 : decode cX11_bottle 67 = .ok (.aload_n 0, 1) := by decide +kernel
theorem dX11_bottle_68 : decode cX11_bottle 68 = .ok (.getfield 77, 3) := by decide +kernel
theorem dX11_bottle_71 : decode cX11_bottle 71 = .ok (.iload_n 1, 1) := by decide +kernel
theorem dX11_bottle_72 : decode cX11_bottle 72 = .ok (.aaload, 1) := by decide +kernel
theorem dX11_bottle_73 : decode cX11_bottle 73 = .ok (.iload_n 2, 1) := by decide +kernel
theorem dX11_bottle_74 : decode cX11_bottle 74 = .ok (.invokevirtual 231, 3) := by decide +kernel
theorem dX11_bottle_77 : decode cX11_bottle 77 = .ok (.aload_n 0, 1) := by decide +kernel
theorem dX11_bottle_78 : decode cX11_bottle 78 = .ok (.dup, 1) := by decide +kernel
theorem dX11_bottle_79 : decode cX11_bottle 79 = .ok (.getfield 234, 3) := by decide +kernel
theorem dX11_bottle_82 : decode cX11_bottle 82 = .ok (.iconst 1, 1) := by decide +kernel
theorem dX11_bottle_83 : decode cX11_bottle 83 = .ok (.iadd, 1) := by decide +kernel
theorem dX11_bottle_84 : decode cX11_bottle 84 = .ok (.putfield 234, 3) := by decide +kernel
theorem dX11_bottle_87 : decode cX11_bottle 87 = .ok (.aload_n 0, 1) := by decide +kernel
theorem dX11_bottle_88 : decode cX11_bottle 88 = .ok (.getfield 234, 3) := by decide +kernel
theorem dX11_bottle_91 : decode cX11_bottle 91 = .ok (.iconst 1, 1) := by decide +kernel
theorem dX11_bottle_92 : decode cX11_bottle 92 = .ok (.isub, 1) := by decide +kernel
theorem dX11_bottle_93 : decode cX11_bottle 93 = .ok (.ireturn, 1) := by decide +kernel
set_option maxHeartbeats 4000000 in
set_option maxRecDepth 20000 in
theorem c_X11_bottle (l : Launch) (b : Nat) (D : va_G) (cy : Nat → ClassId) {tt : Nat} {M : xMm} {z y : Int} (hI : IO M) (hz : inR z) (hy : inR y) : xC l b D cy yX11_bottle cX11_bottle 4 (some .int) ({ frames := 1, cells := 0, slots := 0, locals := 21 }) [xr 1, xi z, xi y] 209 M (RS tt) (xPi 209 (RS tt) (fun r M' => ((0 ≤ z ∧ z < 4 ∧ 1 ≤ y ∧ y ≤ M (96 + z.toNat) 0 ∧ M 1 13 < 40) ∧ r = M 1 13 ∧ ∃ Mt, (Mt = if M (96 + z.toNat) 0 - y = 0 then mu (mu (mu (mu (mu M (101 + (M 1 13).toNat) 0 y) (101 + (M 1 13).toNat) 1 (M (96 + z.toNat) 1)) (101 + (M 1 13).toNat) 2 (M 1 16)) (96 + z.toNat) 0 (M (96 + z.toNat) 0 - y)) (96 + z.toNat) 1 0 else mu (mu (mu (mu M (101 + (M 1 13).toNat) 0 y) (101 + (M 1 13).toNat) 1 (M (96 + z.toNat) 1)) (101 + (M 1 13).toNat) 2 (M 1 16)) (96 + z.toNat) 0 (M (96 + z.toNat) 0 - y)) ∧ M' = mu Mt 1 13 (M 1 13 + 1)) ∨ (¬ (0 ≤ z ∧ z < 4 ∧ 1 ≤ y ∧ y ≤ M (96 + z.toNat) 0 ∧ M 1 13 < 40) ∧ r = -1 ∧ M' = M))) := by
  refine x_met (by decide) (Nat.le_of_ble_eq_true rfl) (fun g hg hr he => ?_)
  obtain ⟨hn10, hn13, hn15, hn16, hn8, hn7, hC, hT, hB, hF⟩ := hI
  refine x_canon (ls' := [(0, _), (1, _), (2, _)]) rfl ?_
  refine x_iload_n hg dX11_bottle_0 rfl ?_
  refine x_cSi hg he [_] [] dX11_bottle_1 ms_X11_215 (c_X11_isTank l b D cy (by omega)) rfl rfl (Nat.le_of_ble_eq_true rfl) (by decide) (by decide) (fun r1 M1 q1 => ?_)
  obtain ⟨h1, e1⟩ := q1
  replace h1 := h1.symm
  subst h1
  refine x_if_eq (tgt := 29) hg dX11_bottle_4 (by decide) (by omega) (fun c4 => ?_) (fun c4 => ?_)
  · skip
    refine x_iconst hg dX11_bottle_29 ?_
    refine x_iret hg hr (Or.inl rfl) dX11_bottle_30 (Nat.le_refl _) (Nat.le_refl _) ?_
    exact ⟨rfl, rfl, _, rfl, Or.inr ⟨by omega, rfl, rfl⟩⟩
  · skip
    refine x_aload_n hg dX11_bottle_7 rfl ?_
    refine x_getR (j9 := 95) hg dX11_bottle_8 fl_X11_77 (by decide) rfl rfl (by decide) ?_
    refine x_iload_n hg dX11_bottle_11 rfl ?_
    refine x_aaload (len := 4) (et := 6) hg dX11_bottle_12 (by decide) (by decide) (by omega) (RS_tank _ _) (by omega) ?_
    refine x_iload_n hg dX11_bottle_13 rfl ?_
    refine x_cVi hg he [_] [] dX11_bottle_14 mv_X11_225 (c_X6_canGive l b D cy (oO_tank (by omega)) (by omega) (by have h1 := hT z.toNat (by omega); omega)) (oO_tank (by omega)) rfl rfl (Nat.le_of_ble_eq_true rfl) (by decide) (by decide) (fun r14 M14 q14 => ?_)
    obtain ⟨h14, e14⟩ := q14
    replace h14 := h14.symm
    subst h14
    refine x_if_eq (tgt := 29) hg dX11_bottle_17 (by decide) (by omega) (fun c17 => ?_) (fun c17 => ?_)
    · skip
      refine x_iconst hg dX11_bottle_29 ?_
      refine x_iret hg hr (Or.inl rfl) dX11_bottle_30 (Nat.le_refl _) (Nat.le_refl _) ?_
      exact ⟨rfl, rfl, _, rfl, Or.inr ⟨by omega, rfl, rfl⟩⟩
    · skip
      refine x_aload_n hg dX11_bottle_20 rfl ?_
      refine x_getI hg dX11_bottle_21 fl_X11_234 (by decide) rfl ?_
      refine x_bipush hg dX11_bottle_24 (by decide) ?_
      refine x_icmp_lt (tgt := 31) hg dX11_bottle_26 (by decide) (by omega) (by omega) (fun c26 => ?_) (fun c26 => ?_)
      · skip
        refine x_aload_n hg dX11_bottle_31 rfl ?_
        refine x_getR (j9 := 100) hg dX11_bottle_32 fl_X11_84 (by decide) rfl rfl (by decide) ?_
        refine x_aload_n hg dX11_bottle_35 rfl ?_
        refine x_getI hg dX11_bottle_36 fl_X11_234 (by decide) rfl ?_
        refine x_aaload (len := 40) (et := 7) hg dX11_bottle_39 (by decide) (by decide) (by omega) (RS_bottling _ _) (by omega) ?_
        refine x_astore_n (ls' := [(0, _), (1, _), (2, _), (3, _)]) hg dX11_bottle_40 rfl (by decide) rfl ?_
        refine x_aload_n hg dX11_bottle_41 rfl ?_
        refine x_iload_n hg dX11_bottle_42 rfl ?_
        refine x_putI hg dX11_bottle_43 fl_X11_237 ft_0_0 (oO_bottling (by omega)) rfl ?_
        refine x_aload_n hg dX11_bottle_46 rfl ?_
        refine x_aload_n hg dX11_bottle_47 rfl ?_
        refine x_getR (j9 := 95) hg dX11_bottle_48 fl_X11_77 (by decide) rfl rfl (by decide) ?_
        refine x_iload_n hg dX11_bottle_51 rfl ?_
        refine x_aaload (len := 4) (et := 6) hg dX11_bottle_52 (by decide) (by decide) (by omega) (RS_tank _ _) (by omega) ?_
        refine x_getI hg dX11_bottle_53 fl_X11_228 (oO_tank (by omega)) rfl ?_
        try simp (disch := omega) only [mu_s, mu_nf, mu_nc]
        refine x_putI hg dX11_bottle_56 fl_X11_238 ft_0_1 (oO_bottling (by omega)) rfl ?_
        refine x_aload_n hg dX11_bottle_59 rfl ?_
        refine x_aload_n hg dX11_bottle_60 rfl ?_
        refine x_getI hg dX11_bottle_61 fl_X11_212 (by decide) rfl ?_
        try simp (disch := omega) only [mu_s, mu_nf, mu_nc]
        refine x_putI hg dX11_bottle_64 fl_X11_239 ft_0_2 (oO_bottling (by omega)) rfl ?_
        refine x_aload_n hg dX11_bottle_67 rfl ?_
        refine x_getR (j9 := 95) hg dX11_bottle_68 fl_X11_77 (by decide) rfl rfl (by decide) ?_
        refine x_iload_n hg dX11_bottle_71 rfl ?_
        refine x_aaload (len := 4) (et := 6) hg dX11_bottle_72 (by decide) (by decide) (by omega) (RS_tank _ _) (by omega) ?_
        refine x_iload_n hg dX11_bottle_73 rfl ?_
        refine x_cVv hg he [_] [] dX11_bottle_74 mv_X11_231 (c_X6_draw l b D cy (oO_tank (by omega)) (by simp (disch := omega) only [mu_s, mu_nf, mu_nc]; have h1 := hT z.toNat (by omega); omega) (by simp (disch := omega) only [mu_s, mu_nf, mu_nc]; have h1 := hT z.toNat (by omega); omega)) (oO_tank (by omega)) rfl rfl (Nat.le_of_ble_eq_true rfl) (by decide) (by decide) (fun M74 q74 => ?_)
        simp (disch := omega) only [mu_s, mu_nf, mu_nc] at q74
        have q74b : ∀ c, M74 1 c = M 1 c := by intro c; rw [q74]; split <;> simp (disch := omega) only [mu_nc]
        refine x_aload_n hg dX11_bottle_77 rfl ?_
        refine x_dup hg dX11_bottle_78 rfl ?_
        refine x_getI hg dX11_bottle_79 fl_X11_234 (by decide) rfl ?_
        try simp (disch := omega) only [mu_s, mu_nf, mu_nc]
        refine x_iconst hg dX11_bottle_82 ?_
        refine x_iadd hg dX11_bottle_83 ?_
        refine x_putI hg dX11_bottle_84 fl_X11_234 ft_11_13 (by decide) rfl ?_
        refine x_aload_n hg dX11_bottle_87 rfl ?_
        refine x_getI hg dX11_bottle_88 fl_X11_234 (by decide) rfl ?_
        try simp (disch := omega) only [mu_s, mu_nf, mu_nc]
        refine x_iconst hg dX11_bottle_91 ?_
        refine x_isub hg dX11_bottle_92 ?_
        refine x_iret hg hr (Or.inl rfl) dX11_bottle_93 (Nat.le_refl _) (Nat.le_refl _) ?_
        refine ⟨rfl, rfl, _, rfl, Or.inl ⟨by omega, by rw [q74b]; omega, M74, q74, by rw [q74b]⟩⟩
      · skip
        refine x_iconst hg dX11_bottle_29 ?_
        refine x_iret hg hr (Or.inl rfl) dX11_bottle_30 (Nat.le_refl _) (Nat.le_refl _) ?_
        exact ⟨rfl, rfl, _, rfl, Or.inr ⟨by omega, rfl, rfl⟩⟩

theorem dX11_find_0 : decode cX11_find 0 = .ok (.iload_n 1, 1) := by decide +kernel
theorem dX11_find_1 : decode cX11_find 1 = .ok (.invokestatic 159, 3) := by decide +kernel
theorem dX11_find_4 : decode cX11_find 4 = .ok (.ifCond .eq 22, 3) := by decide +kernel
theorem dX11_find_7 : decode cX11_find 7 = .ok (.iload_n 2, 1) := by decide +kernel
theorem dX11_find_8 : decode cX11_find 8 = .ok (.ifCond .lt 18, 3) := by decide +kernel
theorem dX11_find_11 : decode cX11_find 11 = .ok (.iload_n 2, 1) := by decide +kernel
theorem dX11_find_12 : decode cX11_find 12 = .ok (.ldc 158, 2) := by decide +kernel
theorem dX11_find_14 : decode cX11_find 14 = .ok (.if_icmp .gt 12, 3) := by decide +kernel
theorem dX11_find_17 : decode cX11_find 17 = .ok (.aload_n 0, 1) := by decide +kernel
theorem dX11_find_18 : decode cX11_find 18 = .ok (.getfield 245, 3) := by decide +kernel
theorem dX11_find_21 : decode cX11_find 21 = .ok (.bipush 30, 2) := by decide +kernel
theorem dX11_find_23 : decode cX11_find 23 = .ok (.if_icmp .lt 5, 3) := by decide +kernel
theorem dX11_find_26 : decode cX11_find 26 = .ok (.iconst (-1), 1) := by decide +kernel
theorem dX11_find_27 : decode cX11_find 27 = .ok (.ireturn, 1) := by decide +kernel
theorem dX11_find_28 : decode cX11_find 28 = .ok (.aload_n 0, 1) := by decide +kernel
theorem dX11_find_29 : decode cX11_find 29 = .ok (.getfield 91, 3) := by decide +kernel
theorem dX11_find_32 : decode cX11_find 32 = .ok (.aload_n 0, 1) := by decide +kernel
theorem dX11_find_33 : decode cX11_find 33 = .ok (.getfield 245, 3) := by decide +kernel
theorem dX11_find_36 : decode cX11_find 36 = .ok (.aaload, 1) := by decide +kernel
theorem dX11_find_37 : decode cX11_find 37 = .ok (.astore_n 3, 1) := by decide +kernel
theorem dX11_find_38 : decode cX11_find 38 = .ok (.aload_n 3, 1) := by decide +kernel
theorem dX11_find_39 : decode cX11_find 39 = .ok (.iload_n 1, 1) := by decide +kernel
theorem dX11_find_40 : decode cX11_find 40 = .ok (.putfield 248, 3) := by decide +kernel
theorem dX11_find_43 : decode cX11_find 43 = .ok (.aload_n 3, 1) := by decide +kernel
theorem dX11_find_44 : decode cX11_find 44 = .ok (.iload_n 2, 1) := by decide +kernel
theorem dX11_find_45 : decode cX11_find 45 = .ok (.putfield 249, 3) := by decide +kernel
theorem dX11_find_48 : decode cX11_find 48 = .ok (.aload_n 3, 1) := by decide +kernel
theorem dX11_find_49 : decode cX11_find 49 = .ok (.aload_n 0, 1) := by decide +kernel
theorem dX11_find_50 : decode cX11_find 50 = .ok (.getfield 212, 3) := by decide +kernel
theorem dX11_find_53 : decode cX11_find 53 = .ok (.putfield 252, 3) := by decide +kernel
theorem dX11_find_56 : decode cX11_find 56 = .ok (.aload_n 0, 1) := by decide +kernel
theorem dX11_find_57 : decode cX11_find 57 = .ok (.dup, 1) := by decide +kernel
theorem dX11_find_58 : decode cX11_find 58 = .ok (.getfield 245, 3) := by decide +kernel
theorem dX11_find_61 : decode cX11_find 61 = .ok (.iconst 1, 1) := by decide +kernel
theorem dX11_find_62 : decode cX11_find 62 = .ok (.iadd, 1) := by decide +kernel
theorem dX11_find_63 : decode cX11_find 63 = .ok (.putfield 245, 3) := by decide +kernel
theorem dX11_find_66 : decode cX11_find 66 = .ok (.aload_n 0, 1) := by decide +kernel
theorem dX11_find_67 : decode cX11_find 67 = .ok (.getfield 245, 3) := by decide +kernel
theorem dX11_find_70 : decode cX11_find 70 = .ok (.iconst 1, 1) := by decide +kernel
theorem dX11_find_71 : decode cX11_find 71 = .ok (.isub, 1) := by decide +kernel
theorem dX11_find_72 : decode cX11_find 72 = .ok (.ireturn, 1) := by decide +kernel
set_option maxHeartbeats 4000000 in
set_option maxRecDepth 20000 in
theorem c_X11_find (l : Launch) (b : Nat) (D : va_G) (cy : Nat → ClassId) {tt : Nat} {M : xMm} {z y : Int} (hI : IO M) (hz : inR z) (hy : inR y) : xC l b D cy yX11_find cX11_find 4 (some .int) ({ frames := 1, cells := 0, slots := 0, locals := 20 }) [xr 1, xi z, xi y] 209 M (RS tt) (xPi 209 (RS tt) (fun r M' => ((0 ≤ z ∧ z < 12 ∧ 0 ≤ y ∧ y ≤ 100000 ∧ M 1 15 < 30) ∧ r = M 1 15 ∧ M' = mu (mu (mu (mu M (142 + (M 1 15).toNat) 0 z) (142 + (M 1 15).toNat) 1 y) (142 + (M 1 15).toNat) 2 (M 1 16)) 1 15 (M 1 15 + 1)) ∨ (¬ (0 ≤ z ∧ z < 12 ∧ 0 ≤ y ∧ y ≤ 100000 ∧ M 1 15 < 30) ∧ r = -1 ∧ M' = M))) := by
  refine x_met (by decide) (Nat.le_of_ble_eq_true rfl) (fun g hg hr he => ?_)
  obtain ⟨hn10, hn13, hn15, hn16, hn8, hn7, hC, hT, hB, hF⟩ := hI
  refine x_canon (ls' := [(0, _), (1, _), (2, _)]) rfl ?_
  refine x_iload_n hg dX11_find_0 rfl ?_
  refine x_cSi hg he [_] [] dX11_find_1 ms_X11_159 (c_X11_isFarm l b D cy (by omega)) rfl rfl (Nat.le_of_ble_eq_true rfl) (by decide) (by decide) (fun r1 M1 q1 => ?_)
  obtain ⟨h1, e1⟩ := q1
  replace h1 := h1.symm
  subst h1
  refine x_if_eq (tgt := 26) hg dX11_find_4 (by decide) (by omega) (fun c4 => ?_) (fun c4 => ?_)
  · skip
    refine x_iconst hg dX11_find_26 ?_
    refine x_iret hg hr (Or.inl rfl) dX11_find_27 (Nat.le_refl _) (Nat.le_refl _) ?_
    refine ⟨rfl, rfl, _, rfl, ?_⟩
    first | exact Or.inr ⟨by omega, rfl, rfl⟩ | exact Or.inl ⟨by omega, by omega, rfl⟩
  · skip
    refine x_iload_n hg dX11_find_7 rfl ?_
    refine x_if_lt (tgt := 26) hg dX11_find_8 (by decide) (by omega) (fun c8 => ?_) (fun c8 => ?_)
    · skip
      refine x_iconst hg dX11_find_26 ?_
      refine x_iret hg hr (Or.inl rfl) dX11_find_27 (Nat.le_refl _) (Nat.le_refl _) ?_
      refine ⟨rfl, rfl, _, rfl, ?_⟩
      first | exact Or.inr ⟨by omega, rfl, rfl⟩ | exact Or.inl ⟨by omega, by omega, rfl⟩
    · skip
      refine x_iload_n hg dX11_find_11 rfl ?_
      refine x_ldc hg 100000 dX11_find_12 (List.mem_of_getElem? (i := 605) (by decide +kernel)) ?_
      refine x_icmp_gt (tgt := 26) hg dX11_find_14 (by decide) (by omega) (by omega) (fun c14 => ?_) (fun c14 => ?_)
      · skip
        refine x_iconst hg dX11_find_26 ?_
        refine x_iret hg hr (Or.inl rfl) dX11_find_27 (Nat.le_refl _) (Nat.le_refl _) ?_
        refine ⟨rfl, rfl, _, rfl, ?_⟩
        first | exact Or.inr ⟨by omega, rfl, rfl⟩ | exact Or.inl ⟨by omega, by omega, rfl⟩
      · skip
        refine x_aload_n hg dX11_find_17 rfl ?_
        refine x_getI hg dX11_find_18 fl_X11_245 (by decide) rfl ?_
        refine x_bipush hg dX11_find_21 (by decide) ?_
        refine x_icmp_lt (tgt := 28) hg dX11_find_23 (by decide) (by omega) (by omega) (fun c23 => ?_) (fun c23 => ?_)
        · skip
          refine x_aload_n hg dX11_find_28 rfl ?_
          refine x_getR (j9 := 141) hg dX11_find_29 fl_X11_91 (by decide) rfl rfl (by decide) ?_
          refine x_aload_n hg dX11_find_32 rfl ?_
          refine x_getI hg dX11_find_33 fl_X11_245 (by decide) rfl ?_
          refine x_aaload (len := 30) (et := 8) hg dX11_find_36 (by decide) (by decide) (by omega) (RS_find _ _) (by omega) ?_
          refine x_astore_n (ls' := [(0, _), (1, _), (2, _), (3, _)]) hg dX11_find_37 rfl (by decide) rfl ?_
          refine x_aload_n hg dX11_find_38 rfl ?_
          refine x_iload_n hg dX11_find_39 rfl ?_
          refine x_putI hg dX11_find_40 fl_X11_248 ft_3_0 (oO_find (by omega)) rfl ?_
          refine x_aload_n hg dX11_find_43 rfl ?_
          refine x_iload_n hg dX11_find_44 rfl ?_
          refine x_putI hg dX11_find_45 fl_X11_249 ft_3_1 (oO_find (by omega)) rfl ?_
          refine x_aload_n hg dX11_find_48 rfl ?_
          refine x_aload_n hg dX11_find_49 rfl ?_
          refine x_getI hg dX11_find_50 fl_X11_212 (by decide) rfl ?_
          try simp (disch := omega) only [mu_s, mu_nf, mu_nc]
          refine x_putI hg dX11_find_53 fl_X11_252 ft_3_2 (oO_find (by omega)) rfl ?_
          refine x_aload_n hg dX11_find_56 rfl ?_
          refine x_dup hg dX11_find_57 rfl ?_
          refine x_getI hg dX11_find_58 fl_X11_245 (by decide) rfl ?_
          try simp (disch := omega) only [mu_s, mu_nf, mu_nc]
          refine x_iconst hg dX11_find_61 ?_
          refine x_iadd hg dX11_find_62 ?_
          refine x_putI hg dX11_find_63 fl_X11_245 ft_11_15 (by decide) rfl ?_
          refine x_aload_n hg dX11_find_66 rfl ?_
          refine x_getI hg dX11_find_67 fl_X11_245 (by decide) rfl ?_
          try simp (disch := omega) only [mu_s, mu_nf, mu_nc]
          refine x_iconst hg dX11_find_70 ?_
          refine x_isub hg dX11_find_71 ?_
          refine x_iret hg hr (Or.inl rfl) dX11_find_72 (Nat.le_refl _) (Nat.le_refl _) ?_
          refine ⟨rfl, rfl, _, rfl, ?_⟩
          first | exact Or.inr ⟨by omega, rfl, rfl⟩ | exact Or.inl ⟨by omega, by omega, rfl⟩
        · skip
          refine x_iconst hg dX11_find_26 ?_
          refine x_iret hg hr (Or.inl rfl) dX11_find_27 (Nat.le_refl _) (Nat.le_refl _) ?_
          refine ⟨rfl, rfl, _, rfl, ?_⟩
          first | exact Or.inr ⟨by omega, rfl, rfl⟩ | exact Or.inl ⟨by omega, by omega, rfl⟩

theorem dX11_untell_0 : decode cX11_untell 0 = .ok (.iload_n 1, 1) := by decide +kernel
theorem dX11_untell_1 : decode cX11_untell 1 = .ok (.ifCond .lt 24, 3) := by decide +kernel
theorem dX11_untell_4 : decode cX11_untell 4 = .ok (.iload_n 1, 1) := by decide +kernel
theorem dX11_untell_5 : decode cX11_untell 5 = .ok (.aload_n 0, 1) := by decide +kernel
theorem dX11_untell_6 : decode cX11_untell 6 = .ok (.getfield 245, 3) := by decide +kernel
theorem dX11_untell_9 : decode cX11_untell 9 = .ok (.if_icmp .ge 16, 3) := by decide +kernel
theorem dX11_untell_12 : decode cX11_untell 12 = .ok (.aload_n 0, 1) := by decide +kernel
theorem dX11_untell_13 : decode cX11_untell 13 = .ok (.getfield 91, 3) := by decide +kernel
theorem dX11_untell_16 : decode cX11_untell 16 = .ok (.iload_n 1, 1) := by decide +kernel
theorem dX11_untell_17 : decode cX11_untell 17 = .ok (.aaload, 1) := by decide +kernel
theorem dX11_untell_18 : decode cX11_untell 18 = .ok (.getfield 255, 3) := by decide +kernel
theorem dX11_untell_21 : decode cX11_untell 21 = .ok (.iconst (-1), 1) := by decide +kernel
theorem dX11_untell_22 : decode cX11_untell 22 = .ok (.if_icmp .eq 5, 3) := by decide +kernel
theorem dX11_untell_25 : decode cX11_untell 25 = .ok (.iconst 0, 1) := by decide +kernel
theorem dX11_untell_26 : decode cX11_untell 26 = .ok (.ireturn, 1) := by decide +kernel
theorem dX11_untell_27 : decode cX11_untell 27 = .ok (.aload_n 0, 1) := by decide +kernel
theorem dX11_untell_28 : decode cX11_untell 28 = .ok (.getfield 91, 3) := by decide +kernel
theorem dX11_untell_31 : decode cX11_untell 31 = .ok (.iload_n 1, 1) := by decide +kernel
theorem dX11_untell_32 : decode cX11_untell 32 = .ok (.aaload, 1) := by decide +kernel
theorem dX11_untell_33 : decode cX11_untell 33 = .ok (.aload_n 0, 1) := by decide +kernel
theorem dX11_untell_34 : decode cX11_untell 34 = .ok (.getfield 212, 3) := by decide +kernel
theorem dX11_untell_37 : decode cX11_untell 37 = .ok (.putfield 255, 3) := by decide +kernel
theorem dX11_untell_40 : decode cX11_untell 40 = .ok (.iconst 1, 1) := by decide +kernel
theorem dX11_untell_41 : decode cX11_untell 41 = .ok (.ireturn, 1) := by decide +kernel
set_option maxHeartbeats 4000000 in
set_option maxRecDepth 20000 in
theorem c_X11_untell (l : Launch) (b : Nat) (D : va_G) (cy : Nat → ClassId) {tt : Nat} {M : xMm} {z : Int} (hI : IO M) (hz : inR z) : xC l b D cy yX11_untell cX11_untell 2 (some .boolean) ({ frames := 0, cells := 0, slots := 0, locals := 0 }) [xr 1, xi z] 209 M (RS tt) (xPi 209 (RS tt) (fun r M' => ((0 ≤ z ∧ z < M 1 15 ∧ M (142 + z.toNat) 3 = -1) ∧ r = 1 ∧ M' = mu M (142 + z.toNat) 3 (M 1 16)) ∨ (¬ (0 ≤ z ∧ z < M 1 15 ∧ M (142 + z.toNat) 3 = -1) ∧ r = 0 ∧ M' = M))) := by
  refine x_met (by decide) (Nat.le_of_ble_eq_true rfl) (fun g hg hr he => ?_)
  obtain ⟨hn10, hn13, hn15, hn16, hn8, hn7, hC, hT, hB, hF⟩ := hI
  refine x_canon (ls' := [(0, _), (1, _)]) rfl ?_
  refine x_iload_n hg dX11_untell_0 rfl ?_
  refine x_if_lt (tgt := 25) hg dX11_untell_1 (by decide) (by omega) (fun c1 => ?_) (fun c1 => ?_)
  · skip
    refine x_iconst hg dX11_untell_25 ?_
    refine x_iret hg hr (Or.inr ⟨rfl, by first | exact Or.inl rfl | exact Or.inr rfl | omega⟩) dX11_untell_26 (Nat.le_refl _) (Nat.le_refl _) ?_
    refine ⟨rfl, rfl, _, rfl, ?_⟩
    first | exact Or.inl ⟨by omega, rfl, rfl⟩ | exact Or.inr ⟨by omega, rfl, rfl⟩
  · skip
    refine x_iload_n hg dX11_untell_4 rfl ?_
    refine x_aload_n hg dX11_untell_5 rfl ?_
    refine x_getI hg dX11_untell_6 fl_X11_245 (by decide) rfl ?_
    refine x_icmp_ge (tgt := 25) hg dX11_untell_9 (by decide) (by omega) (by omega) (fun c9 => ?_) (fun c9 => ?_)
    · skip
      refine x_iconst hg dX11_untell_25 ?_
      refine x_iret hg hr (Or.inr ⟨rfl, by first | exact Or.inl rfl | exact Or.inr rfl | omega⟩) dX11_untell_26 (Nat.le_refl _) (Nat.le_refl _) ?_
      refine ⟨rfl, rfl, _, rfl, ?_⟩
      first | exact Or.inl ⟨by omega, rfl, rfl⟩ | exact Or.inr ⟨by omega, rfl, rfl⟩
    · skip
      refine x_aload_n hg dX11_untell_12 rfl ?_
      refine x_getR (j9 := 141) hg dX11_untell_13 fl_X11_91 (by decide) rfl rfl (by decide) ?_
      refine x_iload_n hg dX11_untell_16 rfl ?_
      refine x_aaload (len := 30) (et := 8) hg dX11_untell_17 (by decide) (by decide) (by omega) (RS_find _ _) (by omega) ?_
      refine x_getI hg dX11_untell_18 fl_X11_255 (oO_find (by omega)) rfl ?_
      refine x_iconst hg dX11_untell_21 ?_
      refine x_icmp_eq (tgt := 27) hg dX11_untell_22 (by decide) (by have h1 := hF z.toNat (by omega); omega) (by omega) (fun c22 => ?_) (fun c22 => ?_)
      · skip
        refine x_aload_n hg dX11_untell_27 rfl ?_
        refine x_getR (j9 := 141) hg dX11_untell_28 fl_X11_91 (by decide) rfl rfl (by decide) ?_
        refine x_iload_n hg dX11_untell_31 rfl ?_
        refine x_aaload (len := 30) (et := 8) hg dX11_untell_32 (by decide) (by decide) (by omega) (RS_find _ _) (by omega) ?_
        refine x_aload_n hg dX11_untell_33 rfl ?_
        refine x_getI hg dX11_untell_34 fl_X11_212 (by decide) rfl ?_
        refine x_putI hg dX11_untell_37 fl_X11_255 ft_3_3 (oO_find (by omega)) rfl ?_
        refine x_iconst hg dX11_untell_40 ?_
        refine x_iret hg hr (Or.inr ⟨rfl, by first | exact Or.inl rfl | exact Or.inr rfl | omega⟩) dX11_untell_41 (Nat.le_refl _) (Nat.le_refl _) ?_
        refine ⟨rfl, rfl, _, rfl, ?_⟩
        first | exact Or.inl ⟨by omega, rfl, rfl⟩ | exact Or.inr ⟨by omega, rfl, rfl⟩
      · skip
        refine x_iconst hg dX11_untell_25 ?_
        refine x_iret hg hr (Or.inr ⟨rfl, by first | exact Or.inl rfl | exact Or.inr rfl | omega⟩) dX11_untell_26 (Nat.le_refl _) (Nat.le_refl _) ?_
        refine ⟨rfl, rfl, _, rfl, ?_⟩
        first | exact Or.inl ⟨by omega, rfl, rfl⟩ | exact Or.inr ⟨by omega, rfl, rfl⟩
