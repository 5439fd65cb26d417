theorem dX10_boardingCost_0 : decode cX10_boardingCost 0 = .ok (.aload_n 0, 1) := by decide +kernel
theorem dX10_boardingCost_1 : decode cX10_boardingCost 1 = .ok (.getfield 15, 3) := by decide +kernel
theorem dX10_boardingCost_4 : decode cX10_boardingCost 4 = .ok (.iload_n 1, 1) := by decide +kernel
theorem dX10_boardingCost_5 : decode cX10_boardingCost 5 = .ok (.iaload, 1) := by decide +kernel
theorem dX10_boardingCost_6 : decode cX10_boardingCost 6 = .ok (.istore 4, 2) := by decide +kernel
theorem dX10_boardingCost_8 : decode cX10_boardingCost 8 = .ok (.aload_n 0, 1) := by decide +kernel
theorem dX10_boardingCost_9 : decode cX10_boardingCost 9 = .ok (.getfield 11, 3) := by decide +kernel
theorem dX10_boardingCost_12 : decode cX10_boardingCost 12 = .ok (.iload_n 1, 1) := by decide +kernel
theorem dX10_boardingCost_13 : decode cX10_boardingCost 13 = .ok (.iaload, 1) := by decide +kernel
theorem dX10_boardingCost_14 : decode cX10_boardingCost 14 = .ok (.istore 5, 2) := by decide +kernel
theorem dX10_boardingCost_16 : decode cX10_boardingCost 16 = .ok (.aload_n 0, 1) := by decide +kernel
theorem dX10_boardingCost_17 : decode cX10_boardingCost 17 = .ok (.getfield 18, 3) := by decide +kernel
theorem dX10_boardingCost_20 : decode cX10_boardingCost 20 = .ok (.iload_n 1, 1) := by decide +kernel
theorem dX10_boardingCost_21 : decode cX10_boardingCost 21 = .ok (.iaload, 1) := by decide +kernel
theorem dX10_boardingCost_22 : decode cX10_boardingCost 22 = .ok (.istore 6, 2) := by decide +kernel
theorem dX10_boardingCost_24 : decode cX10_boardingCost 24 = .ok (.iload 5, 2) := by decide +kernel
theorem dX10_boardingCost_26 : decode cX10_boardingCost 26 = .ok (.aload_n 3, 1) := by decide +kernel
theorem dX10_boardingCost_27 : decode cX10_boardingCost 27 = .ok (.getfield 28, 3) := by decide +kernel
theorem dX10_boardingCost_30 : decode cX10_boardingCost 30 = .ok (.if_icmp .ne 43, 3) := by decide +kernel
theorem dX10_boardingCost_33 : decode cX10_boardingCost 33 = .ok (.iload 4, 2) := by decide +kernel
theorem dX10_boardingCost_35 : decode cX10_boardingCost 35 = .ok (.aload_n 3, 1) := by decide +kernel
theorem dX10_boardingCost_36 : decode cX10_boardingCost 36 = .ok (.getfield 43, 3) := by decide +kernel
theorem dX10_boardingCost_39 : decode cX10_boardingCost 39 = .ok (.if_icmp .lt 34, 3) := by decide +kernel
theorem dX10_boardingCost_42 : decode cX10_boardingCost 42 = .ok (.aload_n 0, 1) := by decide +kernel
theorem dX10_boardingCost_43 : decode cX10_boardingCost 43 = .ok (.getfield 24, 3) := by decide +kernel
theorem dX10_boardingCost_46 : decode cX10_boardingCost 46 = .ok (.aload_n 3, 1) := by decide +kernel
theorem dX10_boardingCost_47 : decode cX10_boardingCost 47 = .ok (.getfield 43, 3) := by decide +kernel
theorem dX10_boardingCost_50 : decode cX10_boardingCost 50 = .ok (.iload 4, 2) := by decide +kernel
theorem dX10_boardingCost_52 : decode cX10_boardingCost 52 = .ok (.iload 5, 2) := by decide +kernel
theorem dX10_boardingCost_54 : decode cX10_boardingCost 54 = .ok (.invokevirtual 46, 3) := by decide +kernel
theorem dX10_boardingCost_57 : decode cX10_boardingCost 57 = .ok (.istore 7, 2) := by decide +kernel
theorem dX10_boardingCost_59 : decode cX10_boardingCost 59 = .ok (.iload 6, 2) := by decide +kernel
theorem dX10_boardingCost_61 : decode cX10_boardingCost 61 = .ok (.bipush 100, 2) := by decide +kernel
theorem dX10_boardingCost_63 : decode cX10_boardingCost 63 = .ok (.iload 7, 2) := by decide +kernel
theorem dX10_boardingCost_65 : decode cX10_boardingCost 65 = .ok (.imul, 1) := by decide +kernel
theorem dX10_boardingCost_66 : decode cX10_boardingCost 66 = .ok (.iconst 1, 1) := by decide +kernel
theorem dX10_boardingCost_67 : decode cX10_boardingCost 67 = .ok (.iadd, 1) := by decide +kernel
theorem dX10_boardingCost_68 : decode cX10_boardingCost 68 = .ok (.invokestatic 97, 3) := by decide +kernel
theorem dX10_boardingCost_71 : decode cX10_boardingCost 71 = .ok (.istore 6, 2) := by decide +kernel
theorem dX10_boardingCost_73 : decode cX10_boardingCost 73 = .ok (.iconst 0, 1) := by decide +kernel
theorem dX10_boardingCost_74 : decode cX10_boardingCost 74 = .ok (.istore 7, 2) := by decide +kernel
theorem dX10_boardingCost_76 : decode cX10_boardingCost 76 = .ok (.iload 7, 2) := by decide +kernel
theorem dX10_boardingCost_78 : decode cX10_boardingCost 78 = .ok (.iload_n 2, 1) := by decide +kernel
theorem dX10_boardingCost_79 : decode cX10_boardingCost 79 = .ok (.if_icmp .ge 108, 3) := by decide +kernel
theorem dX10_boardingCost_82 : decode cX10_boardingCost 82 = .ok (.aload_n 0, 1) := by decide +kernel
theorem dX10_boardingCost_83 : decode cX10_boardingCost 83 = .ok (.getfield 21, 3) := by decide +kernel
theorem dX10_boardingCost_86 : decode cX10_boardingCost 86 = .ok (.iload 7, 2) := by decide +kernel
theorem dX10_boardingCost_88 : decode cX10_boardingCost 88 = .ok (.iaload, 1) := by decide +kernel
theorem dX10_boardingCost_89 : decode cX10_boardingCost 89 = .ok (.istore 8, 2) := by decide +kernel
theorem dX10_boardingCost_91 : decode cX10_boardingCost 91 = .ok (.aload_n 0, 1) := by decide +kernel
theorem dX10_boardingCost_92 : decode cX10_boardingCost 92 = .ok (.getfield 11, 3) := by decide +kernel
theorem dX10_boardingCost_95 : decode cX10_boardingCost 95 = .ok (.iload 8, 2) := by decide +kernel
theorem dX10_boardingCost_97 : decode cX10_boardingCost 97 = .ok (.iaload, 1) := by decide +kernel
theorem dX10_boardingCost_98 : decode cX10_boardingCost 98 = .ok (.iload 5, 2) := by decide +kernel
theorem dX10_boardingCost_100 : decode cX10_boardingCost 100 = .ok (.if_icmp .ne 19, 3) := by decide +kernel
theorem dX10_boardingCost_103 : decode cX10_boardingCost 103 = .ok (.aload_n 0, 1) := by decide +kernel
theorem dX10_boardingCost_104 : decode cX10_boardingCost 104 = .ok (.getfield 15, 3) := by decide +kernel
theorem dX10_boardingCost_107 : decode cX10_boardingCost 107 = .ok (.iload 8, 2) := by decide +kernel
theorem dX10_boardingCost_109 : decode cX10_boardingCost 109 = .ok (.iaload, 1) := by decide +kernel
theorem dX10_boardingCost_110 : decode cX10_boardingCost 110 = .ok (.iload 4, 2) := by decide +kernel
theorem dX10_boardingCost_112 : decode cX10_boardingCost 112 = .ok (.if_icmp .gt 7, 3) := by decide +kernel
theorem dX10_boardingCost_115 : decode cX10_boardingCost 115 = .ok (.iconst 1, 1) := by decide +kernel
theorem dX10_boardingCost_116 : decode cX10_boardingCost 116 = .ok (.goto 4, 3) := by decide +kernel
theorem dX10_boardingCost_119 : decode cX10_boardingCost 119 = .ok (.iconst 0, 1) := by decide +kernel
theorem dX10_boardingCost_120 : decode cX10_boardingCost 120 = .ok (.istore 9, 2) := by decide +kernel
theorem dX10_boardingCost_122 : decode cX10_boardingCost 122 = .ok (.iload 9, 2) := by decide +kernel
theorem dX10_boardingCost_124 : decode cX10_boardingCost 124 = .ok (.ifCond .eq 57, 3) := by decide +kernel
theorem dX10_boardingCost_127 : decode cX10_boardingCost 127 = .ok (.aload_n 0, 1) := by decide +kernel
theorem dX10_boardingCost_128 : decode cX10_boardingCost 128 = .ok (.getfield 18, 3) := by decide +kernel
theorem dX10_boardingCost_131 : decode cX10_boardingCost 131 = .ok (.iload 8, 2) := by decide +kernel
theorem dX10_boardingCost_133 : decode cX10_boardingCost 133 = .ok (.iaload, 1) := by decide +kernel
theorem dX10_boardingCost_134 : decode cX10_boardingCost 134 = .ok (.ldc 72, 2) := by decide +kernel
theorem dX10_boardingCost_136 : decode cX10_boardingCost 136 = .ok (.if_icmp .eq 45, 3) := by decide +kernel
theorem dX10_boardingCost_139 : decode cX10_boardingCost 139 = .ok (.aload_n 0, 1) := by decide +kernel
theorem dX10_boardingCost_140 : decode cX10_boardingCost 140 = .ok (.getfield 24, 3) := by decide +kernel
theorem dX10_boardingCost_143 : decode cX10_boardingCost 143 = .ok (.aload_n 0, 1) := by decide +kernel
theorem dX10_boardingCost_144 : decode cX10_boardingCost 144 = .ok (.getfield 15, 3) := by decide +kernel
theorem dX10_boardingCost_147 : decode cX10_boardingCost 147 = .ok (.iload 8, 2) := by decide +kernel
theorem dX10_boardingCost_149 : decode cX10_boardingCost 149 = .ok (.iaload, 1) := by decide +kernel
theorem dX10_boardingCost_150 : decode cX10_boardingCost 150 = .ok (.iload 4, 2) := by decide +kernel
theorem dX10_boardingCost_152 : decode cX10_boardingCost 152 = .ok (.iload 5, 2) := by decide +kernel
theorem dX10_boardingCost_154 : decode cX10_boardingCost 154 = .ok (.invokevirtual 46, 3) := by decide +kernel
theorem dX10_boardingCost_157 : decode cX10_boardingCost 157 = .ok (.istore 10, 2) := by decide +kernel
theorem dX10_boardingCost_159 : decode cX10_boardingCost 159 = .ok (.iload 6, 2) := by decide +kernel
theorem dX10_boardingCost_161 : decode cX10_boardingCost 161 = .ok (.aload_n 0, 1) := by decide +kernel
theorem dX10_boardingCost_162 : decode cX10_boardingCost 162 = .ok (.getfield 18, 3) := by decide +kernel
theorem dX10_boardingCost_165 : decode cX10_boardingCost 165 = .ok (.iload 8, 2) := by decide +kernel
theorem dX10_boardingCost_167 : decode cX10_boardingCost 167 = .ok (.iaload, 1) := by decide +kernel
theorem dX10_boardingCost_168 : decode cX10_boardingCost 168 = .ok (.bipush 100, 2) := by decide +kernel
theorem dX10_boardingCost_170 : decode cX10_boardingCost 170 = .ok (.iload 10, 2) := by decide +kernel
theorem dX10_boardingCost_172 : decode cX10_boardingCost 172 = .ok (.imul, 1) := by decide +kernel
theorem dX10_boardingCost_173 : decode cX10_boardingCost 173 = .ok (.iadd, 1) := by decide +kernel
theorem dX10_boardingCost_174 : decode cX10_boardingCost 174 = .ok (.iconst 1, 1) := by decide +kernel
theorem dX10_boardingCost_175 : decode cX10_boardingCost 175 = .ok (.iadd, 1) := by decide +kernel
theorem dX10_boardingCost_176 : decode cX10_boardingCost 176 = .ok (.invokestatic 97, 3) := by decide +kernel
theorem dX10_boardingCost_179 : decode cX10_boardingCost 179 = .ok (.istore 6, 2) := by decide +kernel
theorem dX10_boardingCost_181 : decode cX10_boardingCost 181 = .ok (.iinc 7 1, 3) := by decide +kernel
theorem dX10_boardingCost_184 : decode cX10_boardingCost 184 = .ok (.goto (-108), 3) := by decide +kernel
theorem dX10_boardingCost_187 : decode cX10_boardingCost 187 = .ok (.iload 6, 2) := by decide +kernel
theorem dX10_boardingCost_189 : decode cX10_boardingCost 189 = .ok (.ireturn, 1) := by decide +kernel
set_option maxHeartbeats 4000000 in
set_option maxRecDepth 20000 in
theorem c_X10_boardingCost (l : Launch) (b : Nat) (D : va_G) (cy : Nat → ClassId) {tt : Nat} {M : xMm} {z y : Int} {c : Nat} (hW : IW M) (hC : IC M) (hc : pCh M c) (hz : 0 ≤ z ∧ z ≤ 63) (hy : 0 ≤ y ∧ y ≤ 64) : xC l b D cy yX10_boardingCost cX10_boardingCost 11 (some .int) ({ frames := 2, cells := 0, slots := 0, locals := 48 }) [xr 63, xi z, xi y, xr c] 209 M (RS tt) (xPi 209 (RS tt) (fun r M' => M' = M ∧ inR r)) := by
  refine x_met (by decide) (Nat.le_of_ble_eq_true rfl) (fun g hg hr he => ?_)
  obtain ⟨hw1, hw2⟩ := id hW
  obtain ⟨-, hc1, hc2⟩ := id hc
  refine x_canon (ls' := [(0, _), (1, _), (2, _), (3, _)]) rfl ?_
  have loop : ∀ (n1 : Nat) (i a mi sa : Int), 0 ≤ i → i ≤ y → y - i < n1 → inR a → (0 ≤ mi ∧ mi ≤ 1739) → (-1 ≤ sa ∧ sa ≤ 9) → xW g 209 M (RS tt) 0 0 76 [(0, xr 63), (1, xi z), (2, xi y), (3, xr c), (4, xi mi), (5, xi sa), (6, xi a), (7, xi i)] [] := by
    intro n1
    induction n1 with
    | zero => intro i a mi sa h1 h2 h3; exact absurd h3 (by omega)
    | succ n1 ih =>
      intro i a mi sa hi1 hi2 hi3 ha hmi hsa
      have next : i < y → ∀ a2 : Int, inR a2 → xW g 209 M (RS tt) 0 0 181 [(0, xr 63), (1, xi z), (2, xi y), (3, xr c), (4, xi mi), (5, xi sa), (6, xi a2), (7, xi i)] [] := by
        intro hiy a2 ha2
        refine x_iinc (ls' := [(0, _), (1, _), (2, _), (3, _), (4, _), (5, _), (6, _), (7, _)]) hg dX10_boardingCost_181 rfl (by decide) rfl ?_
        refine x_goto (tgt := 76) hg dX10_boardingCost_184 (by decide) ?_
        exact ih _ _ _ _ (by omega) (by omega) (by omega) ha2 hmi hsa
      have j120 : i < y → ∀ p : Int, inR p → xW g 209 M (RS tt) 0 0 120 [(0, xr 63), (1, xi z), (2, xi y), (3, xr c), (4, xi mi), (5, xi sa), (6, xi a), (7, xi i), (8, xi (M 67 i.toNat))] [xi p] := by
        intro hiy p hp
        have h67 := hw2 i.toNat (by omega)
        have ho := hw2 (M 67 i.toNat).toNat (by omega)
        refine x_istore (ls' := [(0, _), (1, _), (2, _), (3, _), (4, _), (5, _), (6, _), (7, _), (8, _), (9, _)]) hg dX10_boardingCost_120 (by decide) rfl ?_
        refine x_iload hg dX10_boardingCost_122 rfl ?_
        refine x_if_eq (tgt := 181) hg dX10_boardingCost_124 (by decide) (by omega) (fun c124 => ?_) (fun c124 => ?_)
        · skip
          refine x_canon (ls' := [(0, _), (1, _), (2, _), (3, _), (4, _), (5, _), (6, _), (7, _)]) rfl ?_
          exact next hiy _ (by omega)
        · skip
          refine x_aload_n hg dX10_boardingCost_127 rfl ?_
          refine x_getR (j9 := 66) hg dX10_boardingCost_128 fl_X10_18 (by decide) rfl rfl (by decide) ?_
          refine x_iload hg dX10_boardingCost_131 rfl ?_
          refine x_iaload (len := 64) hg dX10_boardingCost_133 (by decide) (by omega) ?_
          refine x_ldc hg 2147483647 dX10_boardingCost_134 (List.mem_of_getElem? (i := 643) (by decide +kernel)) ?_
          refine x_icmp_eq (tgt := 181) hg dX10_boardingCost_136 (by decide) (by omega) (by omega) (fun c136 => ?_) (fun c136 => ?_)
          · skip
            refine x_canon (ls' := [(0, _), (1, _), (2, _), (3, _), (4, _), (5, _), (6, _), (7, _)]) rfl ?_
            exact next hiy _ (by omega)
          · skip
            refine x_aload_n hg dX10_boardingCost_139 rfl ?_
            refine x_getR (j9 := 57) hg dX10_boardingCost_140 fl_X10_24 (by decide) rfl rfl (by decide) ?_
            refine x_aload_n hg dX10_boardingCost_143 rfl ?_
            refine x_getR (j9 := 65) hg dX10_boardingCost_144 fl_X10_15 (by decide) rfl rfl (by decide) ?_
            refine x_iload hg dX10_boardingCost_147 rfl ?_
            refine x_iaload (len := 64) hg dX10_boardingCost_149 (by decide) (by omega) ?_
            refine x_iload hg dX10_boardingCost_150 rfl ?_
            refine x_iload hg dX10_boardingCost_152 rfl ?_
            refine x_cVi hg he [_, _, _] [] dX10_boardingCost_154 mv_X10_46 (c_X2_between l b D cy hC (by omega) (by omega) (by omega)) (by decide) rfl rfl (Nat.le_of_ble_eq_true rfl) (by decide) (by decide) (fun r154 M154 q154 => ?_)
            obtain ⟨h154, e154⟩ := q154
            replace h154 := h154.symm
            subst h154
            refine x_istore (ls' := [(0, _), (1, _), (2, _), (3, _), (4, _), (5, _), (6, _), (7, _), (8, _), (9, _), (10, _)]) hg dX10_boardingCost_157 (by decide) rfl ?_
            refine x_iload hg dX10_boardingCost_159 rfl ?_
            refine x_aload_n hg dX10_boardingCost_161 rfl ?_
            refine x_getR (j9 := 66) hg dX10_boardingCost_162 fl_X10_18 (by decide) rfl rfl (by decide) ?_
            refine x_iload hg dX10_boardingCost_165 rfl ?_
            refine x_iaload (len := 64) hg dX10_boardingCost_167 (by decide) (by omega) ?_
            refine x_bipush hg dX10_boardingCost_168 (by decide) ?_
            refine x_iload hg dX10_boardingCost_170 rfl ?_
            refine x_imul hg dX10_boardingCost_172 ?_
            refine x_iadd hg dX10_boardingCost_173 ?_
            refine x_iconst hg dX10_boardingCost_174 ?_
            refine x_iadd hg dX10_boardingCost_175 ?_
            refine x_wrap (fun a175 h175 => ?_)
            refine x_min hg dX10_boardingCost_176 (List.mem_of_getElem? (i := 656) (by decide +kernel)) (by omega) (by omega) ⟨by decide, Nat.le_of_ble_eq_true rfl⟩ (by decide) ?_
            refine x_any (P := inR) (by split <;> omega) (fun a176 h176 => ?_)
            refine x_istore (ls' := [(0, _), (1, _), (2, _), (3, _), (4, _), (5, _), (6, _), (7, _), (8, _), (9, _), (10, _)]) hg dX10_boardingCost_179 (by decide) rfl ?_
            refine x_canon (ls' := [(0, _), (1, _), (2, _), (3, _), (4, _), (5, _), (6, _), (7, _)]) rfl ?_
            exact next hiy _ (by omega)
      by_cases hiy : i < y
      · have h67 := hw2 i.toNat (by omega)
        have ho := hw2 (M 67 i.toNat).toNat (by omega)
        refine x_iload hg dX10_boardingCost_76 rfl ?_
        refine x_iload_n hg dX10_boardingCost_78 rfl ?_
        refine x_icmp_ge (tgt := 187) hg dX10_boardingCost_79 (by decide) (by omega) (by omega) (fun c79 => ?_) (fun c79 => ?_)
        · skip
          exact absurd hiy (by omega)
        · skip
          refine x_aload_n hg dX10_boardingCost_82 rfl ?_
          refine x_getR (j9 := 67) hg dX10_boardingCost_83 fl_X10_21 (by decide) rfl rfl (by decide) ?_
          refine x_iload hg dX10_boardingCost_86 rfl ?_
          refine x_iaload (len := 64) hg dX10_boardingCost_88 (by decide) (by omega) ?_
          refine x_istore (ls' := [(0, _), (1, _), (2, _), (3, _), (4, _), (5, _), (6, _), (7, _), (8, _)]) hg dX10_boardingCost_89 (by decide) rfl ?_
          refine x_aload_n hg dX10_boardingCost_91 rfl ?_
          refine x_getR (j9 := 64) hg dX10_boardingCost_92 fl_X10_11 (by decide) rfl rfl (by decide) ?_
          refine x_iload hg dX10_boardingCost_95 rfl ?_
          refine x_iaload (len := 64) hg dX10_boardingCost_97 (by decide) (by omega) ?_
          refine x_iload hg dX10_boardingCost_98 rfl ?_
          refine x_icmp_ne (tgt := 119) hg dX10_boardingCost_100 (by decide) (by omega) (by omega) (fun c100 => ?_) (fun c100 => ?_)
          · skip
            refine x_iconst hg dX10_boardingCost_119 ?_
            exact j120 hiy _ (by omega)
          · skip
            refine x_aload_n hg dX10_boardingCost_103 rfl ?_
            refine x_getR (j9 := 65) hg dX10_boardingCost_104 fl_X10_15 (by decide) rfl rfl (by decide) ?_
            refine x_iload hg dX10_boardingCost_107 rfl ?_
            refine x_iaload (len := 64) hg dX10_boardingCost_109 (by decide) (by omega) ?_
            refine x_iload hg dX10_boardingCost_110 rfl ?_
            refine x_icmp_gt (tgt := 119) hg dX10_boardingCost_112 (by decide) (by omega) (by omega) (fun c112 => ?_) (fun c112 => ?_)
            · skip
              refine x_iconst hg dX10_boardingCost_119 ?_
              exact j120 hiy _ (by omega)
            · skip
              refine x_iconst hg dX10_boardingCost_115 ?_
              refine x_goto (tgt := 120) hg dX10_boardingCost_116 (by decide) ?_
              exact j120 hiy _ (by omega)
      · skip
        refine x_iload hg dX10_boardingCost_76 rfl ?_
        refine x_iload_n hg dX10_boardingCost_78 rfl ?_
        refine x_icmp_ge (tgt := 187) hg dX10_boardingCost_79 (by decide) (by omega) (by omega) (fun c79 => ?_) (fun c79 => ?_)
        · skip
          refine x_iload hg dX10_boardingCost_187 rfl ?_
          refine x_iret hg hr (Or.inl rfl) dX10_boardingCost_189 (Nat.le_refl _) (Nat.le_refl _) ?_
          exact ⟨rfl, rfl, _, rfl, rfl, by omega⟩
        · skip
          exact absurd hiy (by omega)
  have hz2 := hw2 z.toNat (by omega)
  have j73 : ∀ a : Int, inR a → xW g 209 M (RS tt) 0 0 73 [(0, xr 63), (1, xi z), (2, xi y), (3, xr c), (4, xi (M 65 z.toNat)), (5, xi (M 64 z.toNat)), (6, xi a)] [] := by
    intro a ha
    refine x_iconst hg dX10_boardingCost_73 ?_
    refine x_istore (ls' := [(0, _), (1, _), (2, _), (3, _), (4, _), (5, _), (6, _), (7, _)]) hg dX10_boardingCost_74 (by decide) rfl ?_
    exact loop 65 0 _ _ _ (by omega) (by omega) (by omega) ha (by omega) (by omega)
  refine x_aload_n hg dX10_boardingCost_0 rfl ?_
  refine x_getR (j9 := 65) hg dX10_boardingCost_1 fl_X10_15 (by decide) rfl rfl (by decide) ?_
  refine x_iload_n hg dX10_boardingCost_4 rfl ?_
  refine x_iaload (len := 64) hg dX10_boardingCost_5 (by decide) (by omega) ?_
  refine x_istore (ls' := [(0, _), (1, _), (2, _), (3, _), (4, _)]) hg dX10_boardingCost_6 (by decide) rfl ?_
  refine x_aload_n hg dX10_boardingCost_8 rfl ?_
  refine x_getR (j9 := 64) hg dX10_boardingCost_9 fl_X10_11 (by decide) rfl rfl (by decide) ?_
  refine x_iload_n hg dX10_boardingCost_12 rfl ?_
  refine x_iaload (len := 64) hg dX10_boardingCost_13 (by decide) (by omega) ?_
  refine x_istore (ls' := [(0, _), (1, _), (2, _), (3, _), (4, _), (5, _)]) hg dX10_boardingCost_14 (by decide) rfl ?_
  refine x_aload_n hg dX10_boardingCost_16 rfl ?_
  refine x_getR (j9 := 66) hg dX10_boardingCost_17 fl_X10_18 (by decide) rfl rfl (by decide) ?_
  refine x_iload_n hg dX10_boardingCost_20 rfl ?_
  refine x_iaload (len := 64) hg dX10_boardingCost_21 (by decide) (by omega) ?_
  refine x_istore (ls' := [(0, _), (1, _), (2, _), (3, _), (4, _), (5, _), (6, _)]) hg dX10_boardingCost_22 (by decide) rfl ?_
  refine x_iload hg dX10_boardingCost_24 rfl ?_
  refine x_aload_n hg dX10_boardingCost_26 rfl ?_
  refine x_getI hg dX10_boardingCost_27 fl_X10_28 hc.1 rfl ?_
  refine x_icmp_ne (tgt := 73) hg dX10_boardingCost_30 (by decide) (by omega) (by omega) (fun c30 => ?_) (fun c30 => ?_)
  · skip
    refine x_canon (ls' := [(0, _), (1, _), (2, _), (3, _), (4, _), (5, _), (6, _)]) rfl ?_
    exact j73 _ (by omega)
  · skip
    refine x_iload hg dX10_boardingCost_33 rfl ?_
    refine x_aload_n hg dX10_boardingCost_35 rfl ?_
    refine x_getI hg dX10_boardingCost_36 fl_X10_43 hc.1 rfl ?_
    refine x_icmp_lt (tgt := 73) hg dX10_boardingCost_39 (by decide) (by omega) (by omega) (fun c39 => ?_) (fun c39 => ?_)
    · skip
      refine x_canon (ls' := [(0, _), (1, _), (2, _), (3, _), (4, _), (5, _), (6, _)]) rfl ?_
      exact j73 _ (by omega)
    · skip
      refine x_aload_n hg dX10_boardingCost_42 rfl ?_
      refine x_getR (j9 := 57) hg dX10_boardingCost_43 fl_X10_24 (by decide) rfl rfl (by decide) ?_
      refine x_aload_n hg dX10_boardingCost_46 rfl ?_
      refine x_getI hg dX10_boardingCost_47 fl_X10_43 hc.1 rfl ?_
      refine x_iload hg dX10_boardingCost_50 rfl ?_
      refine x_iload hg dX10_boardingCost_52 rfl ?_
      refine x_cVi hg he [_, _, _] [] dX10_boardingCost_54 mv_X10_46 (c_X2_between l b D cy hC (by omega) (by omega) (by omega)) (by decide) rfl rfl (Nat.le_of_ble_eq_true rfl) (by decide) (by decide) (fun r54 M54 q54 => ?_)
      obtain ⟨h54, e54⟩ := q54
      replace h54 := h54.symm
      subst h54
      refine x_istore (ls' := [(0, _), (1, _), (2, _), (3, _), (4, _), (5, _), (6, _), (7, _)]) hg dX10_boardingCost_57 (by decide) rfl ?_
      refine x_iload hg dX10_boardingCost_59 rfl ?_
      refine x_bipush hg dX10_boardingCost_61 (by decide) ?_
      refine x_iload hg dX10_boardingCost_63 rfl ?_
      refine x_imul hg dX10_boardingCost_65 ?_
      refine x_iconst hg dX10_boardingCost_66 ?_
      refine x_iadd hg dX10_boardingCost_67 ?_
      refine x_min hg dX10_boardingCost_68 (List.mem_of_getElem? (i := 656) (by decide +kernel)) (by omega) (by omega) ⟨by decide, Nat.le_of_ble_eq_true rfl⟩ (by decide) ?_
      refine x_any (P := inR) (by split <;> omega) (fun a68 h68 => ?_)
      refine x_istore (ls' := [(0, _), (1, _), (2, _), (3, _), (4, _), (5, _), (6, _), (7, _)]) hg dX10_boardingCost_71 (by decide) rfl ?_
      refine x_canon (ls' := [(0, _), (1, _), (2, _), (3, _), (4, _), (5, _), (6, _)]) rfl ?_
      exact j73 _ (by omega)

theorem dX10_costAt_0 : decode cX10_costAt 0 = .ok (.iload_n 1, 1) := by decide +kernel
theorem dX10_costAt_1 : decode cX10_costAt 1 = .ok (.bipush 8, 2) := by decide +kernel
theorem dX10_costAt_3 : decode cX10_costAt 3 = .ok (.irem, 1) := by decide +kernel
theorem dX10_costAt_4 : decode cX10_costAt 4 = .ok (.ifCond .ne 6, 3) := by decide +kernel
theorem dX10_costAt_7 : decode cX10_costAt 7 = .ok (.ldc 72, 2) := by decide +kernel
theorem dX10_costAt_9 : decode cX10_costAt 9 = .ok (.ireturn, 1) := by decide +kernel
theorem dX10_costAt_10 : decode cX10_costAt 10 = .ok (.iload_n 1, 1) := by decide +kernel
theorem dX10_costAt_11 : decode cX10_costAt 11 = .ok (.iconst 1, 1) := by decide +kernel
theorem dX10_costAt_12 : decode cX10_costAt 12 = .ok (.isub, 1) := by decide +kernel
theorem dX10_costAt_13 : decode cX10_costAt 13 = .ok (.istore 4, 2) := by decide +kernel
theorem dX10_costAt_15 : decode cX10_costAt 15 = .ok (.aload_n 0, 1) := by decide +kernel
theorem dX10_costAt_16 : decode cX10_costAt 16 = .ok (.iload 4, 2) := by decide +kernel
theorem dX10_costAt_18 : decode cX10_costAt 18 = .ok (.iload_n 2, 1) := by decide +kernel
theorem dX10_costAt_19 : decode cX10_costAt 19 = .ok (.aload_n 3, 1) := by decide +kernel
theorem dX10_costAt_20 : decode cX10_costAt 20 = .ok (.invokevirtual 94, 3) := by decide +kernel
theorem dX10_costAt_23 : decode cX10_costAt 23 = .ok (.istore 5, 2) := by decide +kernel
theorem dX10_costAt_25 : decode cX10_costAt 25 = .ok (.iload 5, 2) := by decide +kernel
theorem dX10_costAt_27 : decode cX10_costAt 27 = .ok (.ldc 72, 2) := by decide +kernel
theorem dX10_costAt_29 : decode cX10_costAt 29 = .ok (.if_icmp .ne 6, 3) := by decide +kernel
theorem dX10_costAt_32 : decode cX10_costAt 32 = .ok (.ldc 72, 2) := by decide +kernel
theorem dX10_costAt_34 : decode cX10_costAt 34 = .ok (.ireturn, 1) := by decide +kernel
theorem dX10_costAt_35 : decode cX10_costAt 35 = .ok (.iload 5, 2) := by decide +kernel
theorem dX10_costAt_37 : decode cX10_costAt 37 = .ok (.bipush 100, 2) := by decide +kernel
theorem dX10_costAt_39 : decode cX10_costAt 39 = .ok (.aload_n 0, 1) := by decide +kernel
theorem dX10_costAt_40 : decode cX10_costAt 40 = .ok (.getfield 24, 3) := by decide +kernel
theorem dX10_costAt_43 : decode cX10_costAt 43 = .ok (.aload_n 0, 1) := by decide +kernel
theorem dX10_costAt_44 : decode cX10_costAt 44 = .ok (.getfield 15, 3) := by decide +kernel
theorem dX10_costAt_47 : decode cX10_costAt 47 = .ok (.iload 4, 2) := by decide +kernel
theorem dX10_costAt_49 : decode cX10_costAt 49 = .ok (.iaload, 1) := by decide +kernel
theorem dX10_costAt_50 : decode cX10_costAt 50 = .ok (.aload_n 0, 1) := by decide +kernel
theorem dX10_costAt_51 : decode cX10_costAt 51 = .ok (.getfield 15, 3) := by decide +kernel
theorem dX10_costAt_54 : decode cX10_costAt 54 = .ok (.iload_n 1, 1) := by decide +kernel
theorem dX10_costAt_55 : decode cX10_costAt 55 = .ok (.iaload, 1) := by decide +kernel
theorem dX10_costAt_56 : decode cX10_costAt 56 = .ok (.iconst (-1), 1) := by decide +kernel
theorem dX10_costAt_57 : decode cX10_costAt 57 = .ok (.invokevirtual 46, 3) := by decide +kernel
theorem dX10_costAt_60 : decode cX10_costAt 60 = .ok (.imul, 1) := by decide +kernel
theorem dX10_costAt_61 : decode cX10_costAt 61 = .ok (.iadd, 1) := by decide +kernel
theorem dX10_costAt_62 : decode cX10_costAt 62 = .ok (.ireturn, 1) := by decide +kernel
set_option maxHeartbeats 4000000 in
set_option maxRecDepth 20000 in
theorem c_X10_costAt (l : Launch) (b : Nat) (D : va_G) (cy : Nat → ClassId) {tt : Nat} {M : xMm} {z y : Int} {c : Nat} (hW : IW M) (hC : IC M) (hc : pCh M c) (hz : 0 ≤ z ∧ z ≤ 63) (hy : 0 ≤ y ∧ y ≤ 64) : xC l b D cy yX10_costAt cX10_costAt 6 (some .int) ({ frames := 3, cells := 0, slots := 0, locals := 78 }) [xr 63, xi z, xi y, xr c] 209 M (RS tt) (xPi 209 (RS tt) (fun r M' => M' = M ∧ inR r)) := by
  refine x_met (by decide) (Nat.le_of_ble_eq_true rfl) (fun g hg hr he => ?_)
  obtain ⟨hw1, hw2⟩ := id hW
  obtain ⟨-, hc1, hc2⟩ := id hc
  have hz2 := hw2 z.toNat (by omega)
  refine x_canon (ls' := [(0, _), (1, _), (2, _), (3, _)]) rfl ?_
  refine x_iload_n hg dX10_costAt_0 rfl ?_
  refine x_bipush hg dX10_costAt_1 (by decide) ?_
  refine x_irem hg dX10_costAt_3 (by omega) (by omega) ?_
  refine x_if_ne (tgt := 10) hg dX10_costAt_4 (by decide) (by omega) (fun c4 => ?_) (fun c4 => ?_)
  · skip
    refine x_iload_n hg dX10_costAt_10 rfl ?_
    refine x_iconst hg dX10_costAt_11 ?_
    refine x_isub hg dX10_costAt_12 ?_
    refine x_istore (ls' := [(0, _), (1, _), (2, _), (3, _), (4, _)]) hg dX10_costAt_13 (by decide) rfl ?_
    refine x_aload_n hg dX10_costAt_15 rfl ?_
    refine x_iload hg dX10_costAt_16 rfl ?_
    refine x_iload_n hg dX10_costAt_18 rfl ?_
    refine x_aload_n hg dX10_costAt_19 rfl ?_
    refine x_cVi hg he [_, _, _] [] dX10_costAt_20 mv_X10_94 (c_X10_boardingCost l b D cy hW hC hc (by omega) (by omega)) (by decide) rfl rfl (Nat.le_of_ble_eq_true rfl) (by decide) (by decide) (fun r20 M20 q20 => ?_)
    obtain ⟨h20, e20⟩ := q20
    replace h20 := h20.symm
    subst h20
    refine x_istore (ls' := [(0, _), (1, _), (2, _), (3, _), (4, _), (5, _)]) hg dX10_costAt_23 (by decide) rfl ?_
    refine x_iload hg dX10_costAt_25 rfl ?_
    refine x_ldc hg 2147483647 dX10_costAt_27 (List.mem_of_getElem? (i := 643) (by decide +kernel)) ?_
    refine x_icmp_ne (tgt := 35) hg dX10_costAt_29 (by decide) (by omega) (by omega) (fun c29 => ?_) (fun c29 => ?_)
    · skip
      refine x_iload hg dX10_costAt_35 rfl ?_
      refine x_bipush hg dX10_costAt_37 (by decide) ?_
      refine x_aload_n hg dX10_costAt_39 rfl ?_
      refine x_getR (j9 := 57) hg dX10_costAt_40 fl_X10_24 (by decide) rfl rfl (by decide) ?_
      refine x_aload_n hg dX10_costAt_43 rfl ?_
      refine x_getR (j9 := 65) hg dX10_costAt_44 fl_X10_15 (by decide) rfl rfl (by decide) ?_
      refine x_iload hg dX10_costAt_47 rfl ?_
      refine x_iaload (len := 64) hg dX10_costAt_49 (by decide) (by omega) ?_
      refine x_aload_n hg dX10_costAt_50 rfl ?_
      refine x_getR (j9 := 65) hg dX10_costAt_51 fl_X10_15 (by decide) rfl rfl (by decide) ?_
      refine x_iload_n hg dX10_costAt_54 rfl ?_
      refine x_iaload (len := 64) hg dX10_costAt_55 (by decide) (by omega) ?_
      refine x_iconst hg dX10_costAt_56 ?_
      refine x_cVi hg he [_, _, _] [_, _] dX10_costAt_57 mv_X10_46 (c_X2_between l b D cy hC (by have h1 := hw2 (z - 1).toNat (by omega); omega) (by omega) (by omega)) (by decide) rfl rfl (Nat.le_of_ble_eq_true rfl) (by decide) (by decide) (fun r57 M57 q57 => ?_)
      obtain ⟨h57, e57⟩ := q57
      replace h57 := h57.symm
      subst h57
      refine x_imul hg dX10_costAt_60 ?_
      refine x_iadd hg dX10_costAt_61 ?_
      refine x_wrap (fun a61 h61 => ?_)
      refine x_iret hg hr (Or.inl rfl) dX10_costAt_62 (Nat.le_refl _) (Nat.le_refl _) ?_
      exact ⟨rfl, rfl, _, rfl, rfl, by omega⟩
    · skip
      refine x_ldc hg 2147483647 dX10_costAt_32 (List.mem_of_getElem? (i := 643) (by decide +kernel)) ?_
      refine x_iret hg hr (Or.inl rfl) dX10_costAt_34 (Nat.le_refl _) (Nat.le_refl _) ?_
      exact ⟨rfl, rfl, _, rfl, rfl, by omega⟩
  · skip
    refine x_ldc hg 2147483647 dX10_costAt_7 (List.mem_of_getElem? (i := 643) (by decide +kernel)) ?_
    refine x_iret hg hr (Or.inl rfl) dX10_costAt_9 (Nat.le_refl _) (Nat.le_refl _) ?_
    exact ⟨rfl, rfl, _, rfl, rfl, by omega⟩

theorem dX10_keepBetter_0 : decode cX10_keepBetter 0 = .ok (.iload_n 1, 1) := by decide +kernel
theorem dX10_keepBetter_1 : decode cX10_keepBetter 1 = .ok (.bipush 100, 2) := by decide +kernel
theorem dX10_keepBetter_3 : decode cX10_keepBetter 3 = .ok (.idiv, 1) := by decide +kernel
theorem dX10_keepBetter_4 : decode cX10_keepBetter 4 = .ok (.istore_n 3, 1) := by decide +kernel
theorem dX10_keepBetter_5 : decode cX10_keepBetter 5 = .ok (.iload_n 1, 1) := by decide +kernel
theorem dX10_keepBetter_6 : decode cX10_keepBetter 6 = .ok (.bipush 100, 2) := by decide +kernel
theorem dX10_keepBetter_8 : decode cX10_keepBetter 8 = .ok (.irem, 1) := by decide +kernel
theorem dX10_keepBetter_9 : decode cX10_keepBetter 9 = .ok (.istore 4, 2) := by decide +kernel
theorem dX10_keepBetter_11 : decode cX10_keepBetter 11 = .ok (.aload_n 0, 1) := by decide +kernel
theorem dX10_keepBetter_12 : decode cX10_keepBetter 12 = .ok (.getfield 56, 3) := by decide +kernel
theorem dX10_keepBetter_15 : decode cX10_keepBetter 15 = .ok (.iconst (-1), 1) := by decide +kernel
theorem dX10_keepBetter_16 : decode cX10_keepBetter 16 = .ok (.if_icmp .eq 11, 3) := by decide +kernel
theorem dX10_keepBetter_19 : decode cX10_keepBetter 19 = .ok (.iload_n 3, 1) := by decide +kernel
theorem dX10_keepBetter_20 : decode cX10_keepBetter 20 = .ok (.aload_n 0, 1) := by decide +kernel
theorem dX10_keepBetter_21 : decode cX10_keepBetter 21 = .ok (.getfield 56, 3) := by decide +kernel
theorem dX10_keepBetter_24 : decode cX10_keepBetter 24 = .ok (.if_icmp .ge 7, 3) := by decide +kernel
theorem dX10_keepBetter_27 : decode cX10_keepBetter 27 = .ok (.iconst 1, 1) := by decide +kernel
theorem dX10_keepBetter_28 : decode cX10_keepBetter 28 = .ok (.goto 4, 3) := by decide +kernel
theorem dX10_keepBetter_31 : decode cX10_keepBetter 31 = .ok (.iconst 0, 1) := by decide +kernel
theorem dX10_keepBetter_32 : decode cX10_keepBetter 32 = .ok (.istore 5, 2) := by decide +kernel
theorem dX10_keepBetter_34 : decode cX10_keepBetter 34 = .ok (.iload 5, 2) := by decide +kernel
theorem dX10_keepBetter_36 : decode cX10_keepBetter 36 = .ok (.ifCond .ne 43, 3) := by decide +kernel
theorem dX10_keepBetter_39 : decode cX10_keepBetter 39 = .ok (.iload_n 3, 1) := by decide +kernel
theorem dX10_keepBetter_40 : decode cX10_keepBetter 40 = .ok (.aload_n 0, 1) := by decide +kernel
theorem dX10_keepBetter_41 : decode cX10_keepBetter 41 = .ok (.getfield 56, 3) := by decide +kernel
theorem dX10_keepBetter_44 : decode cX10_keepBetter 44 = .ok (.if_icmp .ne 35, 3) := by decide +kernel
theorem dX10_keepBetter_47 : decode cX10_keepBetter 47 = .ok (.iload_n 2, 1) := by decide +kernel
theorem dX10_keepBetter_48 : decode cX10_keepBetter 48 = .ok (.aload_n 0, 1) := by decide +kernel
theorem dX10_keepBetter_49 : decode cX10_keepBetter 49 = .ok (.getfield 59, 3) := by decide +kernel
theorem dX10_keepBetter_52 : decode cX10_keepBetter 52 = .ok (.if_icmp .lt 20, 3) := by decide +kernel
theorem dX10_keepBetter_55 : decode cX10_keepBetter 55 = .ok (.iload_n 2, 1) := by decide +kernel
theorem dX10_keepBetter_56 : decode cX10_keepBetter 56 = .ok (.aload_n 0, 1) := by decide +kernel
theorem dX10_keepBetter_57 : decode cX10_keepBetter 57 = .ok (.getfield 59, 3) := by decide +kernel
theorem dX10_keepBetter_60 : decode cX10_keepBetter 60 = .ok (.if_icmp .ne 16, 3) := by decide +kernel
theorem dX10_keepBetter_63 : decode cX10_keepBetter 63 = .ok (.iload 4, 2) := by decide +kernel
theorem dX10_keepBetter_65 : decode cX10_keepBetter 65 = .ok (.aload_n 0, 1) := by decide +kernel
theorem dX10_keepBetter_66 : decode cX10_keepBetter 66 = .ok (.getfield 62, 3) := by decide +kernel
theorem dX10_keepBetter_69 : decode cX10_keepBetter 69 = .ok (.if_icmp .ge 7, 3) := by decide +kernel
theorem dX10_keepBetter_72 : decode cX10_keepBetter 72 = .ok (.iconst 1, 1) := by decide +kernel
theorem dX10_keepBetter_73 : decode cX10_keepBetter 73 = .ok (.goto 4, 3) := by decide +kernel
theorem dX10_keepBetter_76 : decode cX10_keepBetter 76 = .ok (.iconst 0, 1) := by decide +kernel
theorem dX10_keepBetter_77 : decode cX10_keepBetter 77 = .ok (.istore 5, 2) := by decide +kernel
theorem dX10_keepBetter_79 : decode cX10_keepBetter 79 = .ok (.iload 5, 2) := by decide +kernel
theorem dX10_keepBetter_81 : decode cX10_keepBetter 81 = .ok (.ifCond .eq 19, 3) := by decide +kernel
theorem dX10_keepBetter_84 : decode cX10_keepBetter 84 = .ok (.aload_n 0, 1) := by decide +kernel
theorem dX10_keepBetter_85 : decode cX10_keepBetter 85 = .ok (.iload_n 3, 1) := by decide +kernel
theorem dX10_keepBetter_86 : decode cX10_keepBetter 86 = .ok (.putfield 56, 3) := by decide +kernel
theorem dX10_keepBetter_89 : decode cX10_keepBetter 89 = .ok (.aload_n 0, 1) := by decide +kernel
theorem dX10_keepBetter_90 : decode cX10_keepBetter 90 = .ok (.iload_n 2, 1) := by decide +kernel
theorem dX10_keepBetter_91 : decode cX10_keepBetter 91 = .ok (.putfield 59, 3) := by decide +kernel
theorem dX10_keepBetter_94 : decode cX10_keepBetter 94 = .ok (.aload_n 0, 1) := by decide +kernel
theorem dX10_keepBetter_95 : decode cX10_keepBetter 95 = .ok (.iload 4, 2) := by decide +kernel
theorem dX10_keepBetter_97 : decode cX10_keepBetter 97 = .ok (.putfield 62, 3) := by decide +kernel
theorem dX10_keepBetter_100 : decode cX10_keepBetter 100 = .ok (.return_, 1) := by decide +kernel
set_option maxHeartbeats 4000000 in
set_option maxRecDepth 20000 in
theorem c_X10_keepBetter (l : Launch) (b : Nat) (D : va_G) (cy : Nat → ClassId) {tt : Nat} {M : xMm} {x y : Int} (hW : IW M) (hx : inR x) (hy : inR y) : xC l b D cy yX10_keepBetter cX10_keepBetter 6 none ({ frames := 0, cells := 0, slots := 0, locals := 0 }) [xr 63, xi x, xi y] 209 M (RS tt) (xPv 209 (RS tt) (fun M' => IW M' ∧ frW M' M)) := by
  refine x_met (by decide) (Nat.le_of_ble_eq_true rfl) (fun g hg hr he => ?_)
  obtain ⟨hw1, hw2⟩ := id hW
  refine x_canon (ls' := [(0, _), (1, _), (2, _)]) rfl ?_
  have j79 : ∀ a c p : Int, inR a → inR c → inR p → xW g 209 M (RS tt) 0 0 79 [(0, xr 63), (1, xi x), (2, xi y), (3, xi a), (4, xi c), (5, xi p)] [] := by
    intro a c p ha hc hp
    refine x_iload hg dX10_keepBetter_79 rfl ?_
    refine x_if_eq (tgt := 100) hg dX10_keepBetter_81 (by decide) (by omega) (fun c81 => ?_) (fun c81 => ?_)
    · skip
      refine x_vret hg hr dX10_keepBetter_100 (Nat.le_refl _) (Nat.le_refl _) ?_
      first | exact ⟨rfl, rfl, rfl, hW, fun a _ => rfl⟩ | exact ⟨rfl, rfl, rfl, IW_f (IW_f (IW_f hW (Or.inr ⟨by omega, by omega⟩)) (Or.inr ⟨by omega, by omega⟩)) (Or.inr ⟨by omega, by omega⟩), frW_mu (frW_mu (frW_mu (fun a _ => rfl) (by decide)) (by decide)) (by decide)⟩
    · skip
      refine x_aload_n hg dX10_keepBetter_84 rfl ?_
      refine x_iload_n hg dX10_keepBetter_85 rfl ?_
      refine x_putI hg dX10_keepBetter_86 fl_X10_56 ft_10_6 (by decide) rfl ?_
      refine x_aload_n hg dX10_keepBetter_89 rfl ?_
      refine x_iload_n hg dX10_keepBetter_90 rfl ?_
      refine x_putI hg dX10_keepBetter_91 fl_X10_59 ft_10_7 (by decide) rfl ?_
      refine x_aload_n hg dX10_keepBetter_94 rfl ?_
      refine x_iload hg dX10_keepBetter_95 rfl ?_
      refine x_putI hg dX10_keepBetter_97 fl_X10_62 ft_10_8 (by decide) rfl ?_
      refine x_vret hg hr dX10_keepBetter_100 (Nat.le_refl _) (Nat.le_refl _) ?_
      first | exact ⟨rfl, rfl, rfl, hW, fun a _ => rfl⟩ | exact ⟨rfl, rfl, rfl, IW_f (IW_f (IW_f hW (Or.inr ⟨by omega, by omega⟩)) (Or.inr ⟨by omega, by omega⟩)) (Or.inr ⟨by omega, by omega⟩), frW_mu (frW_mu (frW_mu (fun a _ => rfl) (by decide)) (by decide)) (by decide)⟩
  have j77 : ∀ a c q p : Int, inR a → inR c → inR p → xW g 209 M (RS tt) 0 0 77 [(0, xr 63), (1, xi x), (2, xi y), (3, xi a), (4, xi c), (5, xi q)] [xi p] := by
    intro a c q p ha hc hp
    refine x_istore (ls' := [(0, _), (1, _), (2, _), (3, _), (4, _), (5, _)]) hg dX10_keepBetter_77 (by decide) rfl ?_
    exact j79 _ _ _ ha hc hp
  have j32 : ∀ a c p : Int, inR a → inR c → inR p → xW g 209 M (RS tt) 0 0 32 [(0, xr 63), (1, xi x), (2, xi y), (3, xi a), (4, xi c)] [xi p] := by
    intro a c p ha hc hp
    refine x_istore (ls' := [(0, _), (1, _), (2, _), (3, _), (4, _), (5, _)]) hg dX10_keepBetter_32 (by decide) rfl ?_
    refine x_iload hg dX10_keepBetter_34 rfl ?_
    refine x_if_ne (tgt := 79) hg dX10_keepBetter_36 (by decide) (by omega) (fun c36 => ?_) (fun c36 => ?_)
    · skip
      exact j79 _ _ _ ha hc hp
    · skip
      refine x_iload_n hg dX10_keepBetter_39 rfl ?_
      refine x_aload_n hg dX10_keepBetter_40 rfl ?_
      refine x_getI hg dX10_keepBetter_41 fl_X10_56 (by decide) rfl ?_
      refine x_icmp_ne (tgt := 79) hg dX10_keepBetter_44 (by decide) (by omega) (by omega) (fun c44 => ?_) (fun c44 => ?_)
      · skip
        exact j79 _ _ _ ha hc hp
      · skip
        refine x_iload_n hg dX10_keepBetter_47 rfl ?_
        refine x_aload_n hg dX10_keepBetter_48 rfl ?_
        refine x_getI hg dX10_keepBetter_49 fl_X10_59 (by decide) rfl ?_
        refine x_icmp_lt (tgt := 72) hg dX10_keepBetter_52 (by decide) (by omega) (by omega) (fun c52 => ?_) (fun c52 => ?_)
        · skip
          refine x_iconst hg dX10_keepBetter_72 ?_
          refine x_goto (tgt := 77) hg dX10_keepBetter_73 (by decide) ?_
          exact j77 _ _ _ _ ha hc (by omega)
        · skip
          refine x_iload_n hg dX10_keepBetter_55 rfl ?_
          refine x_aload_n hg dX10_keepBetter_56 rfl ?_
          refine x_getI hg dX10_keepBetter_57 fl_X10_59 (by decide) rfl ?_
          refine x_icmp_ne (tgt := 76) hg dX10_keepBetter_60 (by decide) (by omega) (by omega) (fun c60 => ?_) (fun c60 => ?_)
          · skip
            refine x_iconst hg dX10_keepBetter_76 ?_
            exact j77 _ _ _ _ ha hc (by omega)
          · skip
            refine x_iload hg dX10_keepBetter_63 rfl ?_
            refine x_aload_n hg dX10_keepBetter_65 rfl ?_
            refine x_getI hg dX10_keepBetter_66 fl_X10_62 (by decide) rfl ?_
            refine x_icmp_ge (tgt := 76) hg dX10_keepBetter_69 (by decide) (by omega) (by omega) (fun c69 => ?_) (fun c69 => ?_)
            · skip
              refine x_iconst hg dX10_keepBetter_76 ?_
              exact j77 _ _ _ _ ha hc (by omega)
            · skip
              refine x_iconst hg dX10_keepBetter_72 ?_
              refine x_goto (tgt := 77) hg dX10_keepBetter_73 (by decide) ?_
              exact j77 _ _ _ _ ha hc (by omega)
  refine x_iload_n hg dX10_keepBetter_0 rfl ?_
  refine x_bipush hg dX10_keepBetter_1 (by decide) ?_
  refine x_idivW hg dX10_keepBetter_3 (by omega) (fun a3 h3 => ?_)
  refine x_istore_n (ls' := [(0, _), (1, _), (2, _), (3, _)]) hg dX10_keepBetter_4 rfl (by decide) rfl ?_
  refine x_iload_n hg dX10_keepBetter_5 rfl ?_
  refine x_bipush hg dX10_keepBetter_6 (by decide) ?_
  refine x_iremW hg dX10_keepBetter_8 (by omega) (fun a8 h8 => ?_)
  refine x_istore (ls' := [(0, _), (1, _), (2, _), (3, _), (4, _)]) hg dX10_keepBetter_9 (by decide) rfl ?_
  refine x_aload_n hg dX10_keepBetter_11 rfl ?_
  refine x_getI hg dX10_keepBetter_12 fl_X10_56 (by decide) rfl ?_
  refine x_iconst hg dX10_keepBetter_15 ?_
  refine x_icmp_eq (tgt := 27) hg dX10_keepBetter_16 (by decide) (by omega) (by omega) (fun c16 => ?_) (fun c16 => ?_)
  · skip
    refine x_iconst hg dX10_keepBetter_27 ?_
    refine x_goto (tgt := 32) hg dX10_keepBetter_28 (by decide) ?_
    exact j32 _ _ _ (by omega) (by omega) (by omega)
  · skip
    refine x_iload_n hg dX10_keepBetter_19 rfl ?_
    refine x_aload_n hg dX10_keepBetter_20 rfl ?_
    refine x_getI hg dX10_keepBetter_21 fl_X10_56 (by decide) rfl ?_
    refine x_icmp_ge (tgt := 31) hg dX10_keepBetter_24 (by decide) (by omega) (by omega) (fun c24 => ?_) (fun c24 => ?_)
    · skip
      refine x_iconst hg dX10_keepBetter_31 ?_
      exact j32 _ _ _ (by omega) (by omega) (by omega)
    · skip
      refine x_iconst hg dX10_keepBetter_27 ?_
      refine x_goto (tgt := 32) hg dX10_keepBetter_28 (by decide) ?_
      exact j32 _ _ _ (by omega) (by omega) (by omega)

theorem dX10_seek_0 : decode cX10_seek 0 = .ok (.aload_n 0, 1) := by decide +kernel
theorem dX10_seek_1 : decode cX10_seek 1 = .ok (.aload_n 2, 1) := by decide +kernel
theorem dX10_seek_2 : decode cX10_seek 2 = .ok (.invokevirtual 52, 3) := by decide +kernel
theorem dX10_seek_5 : decode cX10_seek 5 = .ok (.aload_n 0, 1) := by decide +kernel
theorem dX10_seek_6 : decode cX10_seek 6 = .ok (.iconst (-1), 1) := by decide +kernel
theorem dX10_seek_7 : decode cX10_seek 7 = .ok (.putfield 56, 3) := by decide +kernel
theorem dX10_seek_10 : decode cX10_seek 10 = .ok (.aload_n 0, 1) := by decide +kernel
theorem dX10_seek_11 : decode cX10_seek 11 = .ok (.iconst (-1), 1) := by decide +kernel
theorem dX10_seek_12 : decode cX10_seek 12 = .ok (.putfield 59, 3) := by decide +kernel
theorem dX10_seek_15 : decode cX10_seek 15 = .ok (.aload_n 0, 1) := by decide +kernel
theorem dX10_seek_16 : decode cX10_seek 16 = .ok (.iconst (-1), 1) := by decide +kernel
theorem dX10_seek_17 : decode cX10_seek 17 = .ok (.putfield 62, 3) := by decide +kernel
theorem dX10_seek_20 : decode cX10_seek 20 = .ok (.iconst 0, 1) := by decide +kernel
theorem dX10_seek_21 : decode cX10_seek 21 = .ok (.istore_n 3, 1) := by decide +kernel
theorem dX10_seek_22 : decode cX10_seek 22 = .ok (.iload_n 3, 1) := by decide +kernel
theorem dX10_seek_23 : decode cX10_seek 23 = .ok (.aload_n 0, 1) := by decide +kernel
theorem dX10_seek_24 : decode cX10_seek 24 = .ok (.getfield 65, 3) := by decide +kernel
theorem dX10_seek_27 : decode cX10_seek 27 = .ok (.if_icmp .ge 72, 3) := by decide +kernel
theorem dX10_seek_30 : decode cX10_seek 30 = .ok (.aload_n 0, 1) := by decide +kernel
theorem dX10_seek_31 : decode cX10_seek 31 = .ok (.getfield 21, 3) := by decide +kernel
theorem dX10_seek_34 : decode cX10_seek 34 = .ok (.iload_n 3, 1) := by decide +kernel
theorem dX10_seek_35 : decode cX10_seek 35 = .ok (.iaload, 1) := by decide +kernel
theorem dX10_seek_36 : decode cX10_seek 36 = .ok (.istore 4, 2) := by decide +kernel
theorem dX10_seek_38 : decode cX10_seek 38 = .ok (.aload_n 0, 1) := by decide +kernel
theorem dX10_seek_39 : decode cX10_seek 39 = .ok (.getfield 18, 3) := by decide +kernel
theorem dX10_seek_42 : decode cX10_seek 42 = .ok (.iload 4, 2) := by decide +kernel
theorem dX10_seek_44 : decode cX10_seek 44 = .ok (.aload_n 0, 1) := by decide +kernel
theorem dX10_seek_45 : decode cX10_seek 45 = .ok (.iload 4, 2) := by decide +kernel
theorem dX10_seek_47 : decode cX10_seek 47 = .ok (.iload_n 3, 1) := by decide +kernel
theorem dX10_seek_48 : decode cX10_seek 48 = .ok (.aload_n 1, 1) := by decide +kernel
theorem dX10_seek_49 : decode cX10_seek 49 = .ok (.invokevirtual 68, 3) := by decide +kernel
theorem dX10_seek_52 : decode cX10_seek 52 = .ok (.iastore, 1) := by decide +kernel
theorem dX10_seek_53 : decode cX10_seek 53 = .ok (.aload_n 0, 1) := by decide +kernel
theorem dX10_seek_54 : decode cX10_seek 54 = .ok (.getfield 11, 3) := by decide +kernel
theorem dX10_seek_57 : decode cX10_seek 57 = .ok (.iload 4, 2) := by decide +kernel
theorem dX10_seek_59 : decode cX10_seek 59 = .ok (.iaload, 1) := by decide +kernel
theorem dX10_seek_60 : decode cX10_seek 60 = .ok (.ifCond .ne 33, 3) := by decide +kernel
theorem dX10_seek_63 : decode cX10_seek 63 = .ok (.aload_n 0, 1) := by decide +kernel
theorem dX10_seek_64 : decode cX10_seek 64 = .ok (.getfield 18, 3) := by decide +kernel
theorem dX10_seek_67 : decode cX10_seek 67 = .ok (.iload 4, 2) := by decide +kernel
theorem dX10_seek_69 : decode cX10_seek 69 = .ok (.iaload, 1) := by decide +kernel
theorem dX10_seek_70 : decode cX10_seek 70 = .ok (.ldc 72, 2) := by decide +kernel
theorem dX10_seek_72 : decode cX10_seek 72 = .ok (.if_icmp .eq 21, 3) := by decide +kernel
theorem dX10_seek_75 : decode cX10_seek 75 = .ok (.aload_n 0, 1) := by decide +kernel
theorem dX10_seek_76 : decode cX10_seek 76 = .ok (.aload_n 0, 1) := by decide +kernel
theorem dX10_seek_77 : decode cX10_seek 77 = .ok (.getfield 18, 3) := by decide +kernel
theorem dX10_seek_80 : decode cX10_seek 80 = .ok (.iload 4, 2) := by decide +kernel
theorem dX10_seek_82 : decode cX10_seek 82 = .ok (.iaload, 1) := by decide +kernel
theorem dX10_seek_83 : decode cX10_seek 83 = .ok (.aload_n 0, 1) := by decide +kernel
theorem dX10_seek_84 : decode cX10_seek 84 = .ok (.getfield 15, 3) := by decide +kernel
theorem dX10_seek_87 : decode cX10_seek 87 = .ok (.iload 4, 2) := by decide +kernel
theorem dX10_seek_89 : decode cX10_seek 89 = .ok (.iaload, 1) := by decide +kernel
theorem dX10_seek_90 : decode cX10_seek 90 = .ok (.invokevirtual 73, 3) := by decide +kernel
theorem dX10_seek_93 : decode cX10_seek 93 = .ok (.iinc 3 1, 3) := by decide +kernel
theorem dX10_seek_96 : decode cX10_seek 96 = .ok (.goto (-74), 3) := by decide +kernel
theorem dX10_seek_99 : decode cX10_seek 99 = .ok (.return_, 1) := by decide +kernel
set_option maxHeartbeats 4000000 in
set_option maxRecDepth 20000 in
theorem c_X10_seek (l : Launch) (b : Nat) (D : va_G) (cy : Nat → ClassId) {tt : Nat} {M0 : xMm} {c q : Nat} (hW : IW M0) (hC : IC M0) (hI : IR M0) (hc : pCh M0 c) (hcc : c < 63 ∨ 67 < c) (hq : xTt q) : xC l b D cy yX10_seek cX10_seek 5 none ({ frames := 4, cells := 0, slots := 0, locals := 103 }) [xr 63, xr c, xr q] 209 M0 (RS tt) (xPv 209 (RS tt) (fun M' => IW M' ∧ frW M' M0)) := by
  refine x_met (by decide) (Nat.le_of_ble_eq_true rfl) (fun g hg hr he => ?_)
  refine x_canon (ls' := [(0, _), (1, _), (2, _)]) rfl ?_
  have loop : ∀ (n1 : Nat) (M : xMm) (i : Int), 0 ≤ i → i ≤ 64 → 64 - i < n1 → IW M → frW M M0 → xW g 209 M (RS tt) 0 0 22 [(0, xr 63), (1, xr c), (2, xr q), (3, xi i)] [] := by
    intro n1
    induction n1 with
    | zero => intro M i h1 h2 h3; exact absurd h3 (by omega)
    | succ n1 ih =>
      intro M i hi1 hi2 hi3 hW hf
      obtain ⟨hw1, hw2⟩ := id hW
      have next : i < 64 → ∀ M1, IW M1 → frW M1 M0 → xW g 209 M1 (RS tt) 0 0 93 [(0, xr 63), (1, xr c), (2, xr q), (3, xi i)] [] := by
        intro hi6 M1 hW1 hf1
        refine x_iinc (ls' := [(0, _), (1, _), (2, _), (3, _)]) hg dX10_seek_93 rfl (by decide) rfl ?_
        refine x_goto (tgt := 22) hg dX10_seek_96 (by decide) ?_
        exact ih _ _ (by omega) (by omega) (by omega) hW1 hf1
      refine x_iload_n hg dX10_seek_22 rfl ?_
      refine x_aload_n hg dX10_seek_23 rfl ?_
      refine x_getI hg dX10_seek_24 fl_X10_65 (by decide) rfl ?_
      refine x_icmp_ge (tgt := 99) hg dX10_seek_27 (by decide) (by omega) (by omega) (fun c27 => ?_) (fun c27 => ?_)
      · skip
        refine x_vret hg hr dX10_seek_99 (Nat.le_refl _) (Nat.le_refl _) ?_
        exact ⟨rfl, rfl, rfl, hW, hf⟩
      · skip
        refine x_aload_n hg dX10_seek_30 rfl ?_
        refine x_getR (j9 := 67) hg dX10_seek_31 fl_X10_21 (by decide) rfl rfl (by decide) ?_
        refine x_iload_n hg dX10_seek_34 rfl ?_
        refine x_iaload (len := 64) hg dX10_seek_35 (by decide) (by omega) ?_
        refine x_istore (ls' := [(0, _), (1, _), (2, _), (3, _), (4, _)]) hg dX10_seek_36 (by decide) rfl ?_
        refine x_aload_n hg dX10_seek_38 rfl ?_
        refine x_getR (j9 := 66) hg dX10_seek_39 fl_X10_18 (by decide) rfl rfl (by decide) ?_
        refine x_iload hg dX10_seek_42 rfl ?_
        refine x_aload_n hg dX10_seek_44 rfl ?_
        refine x_iload hg dX10_seek_45 rfl ?_
        refine x_iload_n hg dX10_seek_47 rfl ?_
        refine x_aload_n hg dX10_seek_48 rfl ?_
        refine x_cVi hg he [_, _, _] [_, _] dX10_seek_49 mv_X10_68 (c_X10_costAt l b D cy hW (IC_W hf hC) (pCh_W hf hcc hc) (by have h1 := hw2 i.toNat (by omega); omega) (by omega)) (by decide) rfl rfl (Nat.le_of_ble_eq_true rfl) (by decide) (by decide) (fun r49 M49 q49 => ?_)
        obtain ⟨h49, e49⟩ := q49
        replace h49 := h49.symm
        subst h49
        refine x_iastore (len := 64) hg dX10_seek_52 (by decide) (by have h1 := hw2 i.toNat (by omega); omega)  ?_
        refine x_aload_n hg dX10_seek_53 rfl ?_
        refine x_getR (j9 := 64) hg dX10_seek_54 fl_X10_11 (by decide) rfl rfl (by decide) ?_
        refine x_iload hg dX10_seek_57 rfl ?_
        refine x_iaload (len := 64) hg dX10_seek_59 (by decide) (by have h1 := hw2 i.toNat (by omega); omega) ?_
        try simp (disch := omega) only [mu_s, mu_nf, mu_nc]
        refine x_if_ne (tgt := 93) hg dX10_seek_60 (by decide) (by have h1 := hw2 i.toNat (by omega); have h2 := hw2 (M 67 i.toNat).toNat (by omega); omega) (fun c60 => ?_) (fun c60 => ?_)
        · skip
          refine x_canon (ls' := [(0, _), (1, _), (2, _), (3, _)]) rfl ?_
          first | exact next (by omega) M90 hW90 (fun a ha => by rw [hf90 a ha]; exact frW_mu hf (by decide) a ha) | exact next (by omega) _ (IW_a hW (Or.inr (Or.inr (Or.inl ⟨rfl, e49⟩)))) (frW_mu hf (by decide))
        · skip
          refine x_aload_n hg dX10_seek_63 rfl ?_
          refine x_getR (j9 := 66) hg dX10_seek_64 fl_X10_18 (by decide) rfl rfl (by decide) ?_
          refine x_iload hg dX10_seek_67 rfl ?_
          refine x_iaload (len := 64) hg dX10_seek_69 (by decide) (by have h1 := hw2 i.toNat (by omega); omega) ?_
          try simp (disch := omega) only [mu_s, mu_nf, mu_nc]
          refine x_ldc hg 2147483647 dX10_seek_70 (List.mem_of_getElem? (i := 643) (by decide +kernel)) ?_
          refine x_icmp_eq (tgt := 93) hg dX10_seek_72 (by decide) (by omega) (by omega) (fun c72 => ?_) (fun c72 => ?_)
          · skip
            refine x_canon (ls' := [(0, _), (1, _), (2, _), (3, _)]) rfl ?_
            first | exact next (by omega) M90 hW90 (fun a ha => by rw [hf90 a ha]; exact frW_mu hf (by decide) a ha) | exact next (by omega) _ (IW_a hW (Or.inr (Or.inr (Or.inl ⟨rfl, e49⟩)))) (frW_mu hf (by decide))
          · skip
            refine x_aload_n hg dX10_seek_75 rfl ?_
            refine x_aload_n hg dX10_seek_76 rfl ?_
            refine x_getR (j9 := 66) hg dX10_seek_77 fl_X10_18 (by decide) rfl rfl (by decide) ?_
            refine x_iload hg dX10_seek_80 rfl ?_
            refine x_iaload (len := 64) hg dX10_seek_82 (by decide) (by have h1 := hw2 i.toNat (by omega); omega) ?_
            try simp (disch := omega) only [mu_s, mu_nf, mu_nc]
            refine x_aload_n hg dX10_seek_83 rfl ?_
            refine x_getR (j9 := 65) hg dX10_seek_84 fl_X10_15 (by decide) rfl rfl (by decide) ?_
            refine x_iload hg dX10_seek_87 rfl ?_
            refine x_iaload (len := 64) hg dX10_seek_89 (by decide) (by have h1 := hw2 i.toNat (by omega); omega) ?_
            try simp (disch := omega) only [mu_s, mu_nf, mu_nc]
            refine x_cVv hg he [_, _] [] dX10_seek_90 mv_X10_73 (c_X10_keepBetter l b D cy (IW_a hW (Or.inr (Or.inr (Or.inl ⟨rfl, e49⟩)))) (by omega) (by have h1 := hw2 i.toNat (by omega); have h2 := hw2 (M 67 i.toNat).toNat (by omega); omega)) (by decide) rfl rfl (Nat.le_of_ble_eq_true rfl) (by decide) (by decide) (fun M90 q90 => ?_)
            obtain ⟨hW90, hf90⟩ := q90
            refine x_canon (ls' := [(0, _), (1, _), (2, _), (3, _)]) rfl ?_
            first | exact next (by omega) M90 hW90 (fun a ha => by rw [hf90 a ha]; exact frW_mu hf (by decide) a ha) | exact next (by omega) _ (IW_a hW (Or.inr (Or.inr (Or.inl ⟨rfl, e49⟩)))) (frW_mu hf (by decide))
  refine x_aload_n hg dX10_seek_0 rfl ?_
  refine x_aload_n hg dX10_seek_1 rfl ?_
  refine x_cVv hg he [_] [] dX10_seek_2 mv_X10_52 (c_X10_gatherStops l b D cy hW hI hq) (by decide) rfl rfl (Nat.le_of_ble_eq_true rfl) (by decide) (by decide) (fun M2 q2 => ?_)
  obtain ⟨hW2, hf2⟩ := q2
  refine x_aload_n hg dX10_seek_5 rfl ?_
  refine x_iconst hg dX10_seek_6 ?_
  refine x_putI hg dX10_seek_7 fl_X10_56 ft_10_6 (by decide) rfl ?_
  refine x_aload_n hg dX10_seek_10 rfl ?_
  refine x_iconst hg dX10_seek_11 ?_
  refine x_putI hg dX10_seek_12 fl_X10_59 ft_10_7 (by decide) rfl ?_
  refine x_aload_n hg dX10_seek_15 rfl ?_
  refine x_iconst hg dX10_seek_16 ?_
  refine x_putI hg dX10_seek_17 fl_X10_62 ft_10_8 (by decide) rfl ?_
  refine x_iconst hg dX10_seek_20 ?_
  refine x_istore_n (ls' := [(0, _), (1, _), (2, _), (3, _)]) hg dX10_seek_21 rfl (by decide) rfl ?_
  exact loop 65 _ 0 (by omega) (by omega) (by omega) (IW_f (IW_f (IW_f hW2 (Or.inr ⟨by omega, by omega⟩)) (Or.inr ⟨by omega, by omega⟩)) (Or.inr ⟨by omega, by omega⟩)) (frW_mu (frW_mu (frW_mu hf2 (by decide)) (by decide)) (by decide))

theorem dX11_by_0 : decode cX11_by 0 = .ok (.aload_n 0, 1) := by decide +kernel
theorem dX11_by_1 : decode cX11_by 1 = .ok (.iload_n 1, 1) := by decide +kernel
theorem dX11_by_2 : decode cX11_by 2 = .ok (.invokevirtual 177, 3) := by decide +kernel
theorem dX11_by_5 : decode cX11_by 5 = .ok (.ifCond .eq 14, 3) := by decide +kernel
theorem dX11_by_8 : decode cX11_by 8 = .ok (.aload_n 0, 1) := by decide +kernel
theorem dX11_by_9 : decode cX11_by 9 = .ok (.getfield 28, 3) := by decide +kernel
theorem dX11_by_12 : decode cX11_by 12 = .ok (.iload_n 2, 1) := by decide +kernel
theorem dX11_by_13 : decode cX11_by 13 = .ok (.invokevirtual 116, 3) := by decide +kernel
theorem dX11_by_16 : decode cX11_by 16 = .ok (.ifCond .ne 5, 3) := by decide +kernel
theorem dX11_by_19 : decode cX11_by 19 = .ok (.iconst (-1), 1) := by decide +kernel
theorem dX11_by_20 : decode cX11_by 20 = .ok (.ireturn, 1) := by decide +kernel
theorem dX11_by_21 : decode cX11_by 21 = .ok (.aload_n 0, 1) := by decide +kernel
theorem dX11_by_22 : decode cX11_by 22 = .ok (.getfield 47, 3) := by decide +kernel
theorem dX11_by_25 : decode cX11_by 25 = .ok (.aload_n 0, 1) := by decide +kernel
theorem dX11_by_26 : decode cX11_by 26 = .ok (.getfield 70, 3) := by decide +kernel
theorem dX11_by_29 : decode cX11_by 29 = .ok (.iload_n 1, 1) := by decide +kernel
theorem dX11_by_30 : decode cX11_by 30 = .ok (.aaload, 1) := by decide +kernel
theorem dX11_by_31 : decode cX11_by 31 = .ok (.aload_n 0, 1) := by decide +kernel
theorem dX11_by_32 : decode cX11_by 32 = .ok (.getfield 28, 3) := by decide +kernel
theorem dX11_by_35 : decode cX11_by 35 = .ok (.getfield 120, 3) := by decide +kernel
theorem dX11_by_38 : decode cX11_by 38 = .ok (.iload_n 2, 1) := by decide +kernel
theorem dX11_by_39 : decode cX11_by 39 = .ok (.aaload, 1) := by decide +kernel
theorem dX11_by_40 : decode cX11_by 40 = .ok (.invokevirtual 196, 3) := by decide +kernel
theorem dX11_by_43 : decode cX11_by 43 = .ok (.ireturn, 1) := by decide +kernel
set_option maxHeartbeats 4000000 in
set_option maxRecDepth 20000 in
theorem c_X11_by (l : Launch) (b : Nat) (D : va_G) (cy : Nat → ClassId) {tt : Nat} {M : xMm} {z y : Int} (hI : IO M) (hIC : IC M) (hIR : IR M) (htt : xTt tt) (hz : inR z) (hy : inR y) : xC l b D cy yX11_by cX11_by 3 (some .int) ({ frames := 3, cells := 0, slots := 0, locals := 73 }) [xr 1, xi z, xi y] 209 M (RS tt) (xPi 209 (RS tt) (fun r M' => M' = M)) := by
  refine x_met (by decide) (Nat.le_of_ble_eq_true rfl) (fun g hg hr he => ?_)
  have hI0 := hI
  obtain ⟨hn10, hn13, hn15, hn16, hn8, hn7, hC, hT, hB, hF⟩ := hI
  have htq := hIR.1 tt htt
  refine x_canon (ls' := [(0, _), (1, _), (2, _)]) rfl ?_
  refine x_aload_n hg dX11_by_0 rfl ?_
  refine x_iload_n hg dX11_by_1 rfl ?_
  refine x_cVi hg he [_] [] dX11_by_2 mv_X11_177 (c_X11_isChurn l b D cy (by omega) (by omega)) (by decide) rfl rfl (Nat.le_of_ble_eq_true rfl) (by decide) (by decide) (fun r2 M2 q2 => ?_)
  obtain ⟨h2, e2⟩ := q2
  replace h2 := h2.symm
  subst h2
  refine x_if_eq (tgt := 19) hg dX11_by_5 (by decide) (by omega) (fun c5 => ?_) (fun c5 => ?_)
  · skip
    refine x_iconst hg dX11_by_19 ?_
    refine x_iret hg hr (Or.inl rfl) dX11_by_20 (Nat.le_refl _) (Nat.le_refl _) ?_
    exact ⟨rfl, rfl, _, rfl, rfl⟩
  · skip
    refine x_aload_n hg dX11_by_8 rfl ?_
    refine x_getR (j9 := tt) hg dX11_by_9 fl_X11_28 (by decide) rfl rfl (by omega) ?_
    refine x_iload_n hg dX11_by_12 rfl ?_
    refine x_cVi hg he [_] [] dX11_by_13 mv_X11_116 (c_X8_has l b D cy hIR htt (by omega)) (oO_tt htt) rfl rfl (Nat.le_of_ble_eq_true rfl) (by decide) (by decide) (fun r13 M13 q13 => ?_)
    obtain ⟨h13, e13⟩ := q13
    replace h13 := h13.symm
    subst h13
    refine x_if_ne (tgt := 21) hg dX11_by_16 (by decide) (by omega) (fun c16 => ?_) (fun c16 => ?_)
    · skip
      refine x_aload_n hg dX11_by_21 rfl ?_
      refine x_getR (j9 := 63) hg dX11_by_22 fl_X11_47 (by decide) rfl rfl (by decide) ?_
      refine x_aload_n hg dX11_by_25 rfl ?_
      refine x_getR (j9 := 84) hg dX11_by_26 fl_X11_70 (by decide) rfl rfl (by decide) ?_
      refine x_iload_n hg dX11_by_29 rfl ?_
      refine x_aaload (len := 10) (et := 5) hg dX11_by_30 (by decide) (by decide) (by omega) (RS_churn _ _) (by omega) ?_
      refine x_aload_n hg dX11_by_31 rfl ?_
      refine x_getR (j9 := tt) hg dX11_by_32 fl_X11_28 (by decide) rfl rfl (by omega) ?_
      refine x_getR hg dX11_by_35 fl_X11_120 (oO_tt htt) rfl (RS_tt htt) (by omega) ?_
      refine x_iload_n hg dX11_by_38 rfl ?_
      refine x_aaload (len := 8) (et := 4) hg dX11_by_39 (oA_tt htt) (by decide) (by omega) (RS_trn htt _) (by omega) ?_
      refine x_cVi hg he [_, _] [] dX11_by_40 mv_X11_196 (c_X10_direct l b D cy hIC hIR ⟨oO_churn (by omega), by have h1 := hC z.toNat (by omega); omega, by have h1 := hC z.toNat (by omega); omega⟩ (xTr_of htt (by omega))) (by decide) rfl rfl (Nat.le_of_ble_eq_true rfl) (by decide) (by decide) (fun r40 M40 q40 => ?_)
      obtain ⟨h40, e40⟩ := q40
      replace h40 := h40.symm
      subst h40
      refine x_iret hg hr (Or.inl rfl) dX11_by_43 (Nat.le_refl _) (Nat.le_refl _) ?_
      exact ⟨rfl, rfl, _, rfl, rfl⟩
    · skip
      refine x_iconst hg dX11_by_19 ?_
      refine x_iret hg hr (Or.inl rfl) dX11_by_20 (Nat.le_refl _) (Nat.le_refl _) ?_
      exact ⟨rfl, rfl, _, rfl, rfl⟩

theorem dX11_alone_0 : decode cX11_alone 0 = .ok (.aload_n 0, 1) := by decide +kernel
theorem dX11_alone_1 : decode cX11_alone 1 = .ok (.iload_n 1, 1) := by decide +kernel
theorem dX11_alone_2 : decode cX11_alone 2 = .ok (.invokevirtual 177, 3) := by decide +kernel
theorem dX11_alone_5 : decode cX11_alone 5 = .ok (.ifCond .ne 5, 3) := by decide +kernel
theorem dX11_alone_8 : decode cX11_alone 8 = .ok (.iconst (-1), 1) := by decide +kernel
theorem dX11_alone_9 : decode cX11_alone 9 = .ok (.ireturn, 1) := by decide +kernel
theorem dX11_alone_10 : decode cX11_alone 10 = .ok (.aload_n 0, 1) := by decide +kernel
theorem dX11_alone_11 : decode cX11_alone 11 = .ok (.getfield 47, 3) := by decide +kernel
theorem dX11_alone_14 : decode cX11_alone 14 = .ok (.aload_n 0, 1) := by decide +kernel
theorem dX11_alone_15 : decode cX11_alone 15 = .ok (.getfield 70, 3) := by decide +kernel
theorem dX11_alone_18 : decode cX11_alone 18 = .ok (.iload_n 1, 1) := by decide +kernel
theorem dX11_alone_19 : decode cX11_alone 19 = .ok (.aaload, 1) := by decide +kernel
theorem dX11_alone_20 : decode cX11_alone 20 = .ok (.aload_n 0, 1) := by decide +kernel
theorem dX11_alone_21 : decode cX11_alone 21 = .ok (.getfield 28, 3) := by decide +kernel
theorem dX11_alone_24 : decode cX11_alone 24 = .ok (.invokevirtual 183, 3) := by decide +kernel
theorem dX11_alone_27 : decode cX11_alone 27 = .ok (.aload_n 0, 1) := by decide +kernel
theorem dX11_alone_28 : decode cX11_alone 28 = .ok (.getfield 47, 3) := by decide +kernel
theorem dX11_alone_31 : decode cX11_alone 31 = .ok (.getfield 187, 3) := by decide +kernel
theorem dX11_alone_34 : decode cX11_alone 34 = .ok (.ireturn, 1) := by decide +kernel
set_option maxHeartbeats 4000000 in
set_option maxRecDepth 20000 in
theorem c_X11_alone (l : Launch) (b : Nat) (D : va_G) (cy : Nat → ClassId) {tt : Nat} {M : xMm} {z : Int} (hI : IO M) (hIC : IC M) (hIR : IR M) (hIW : IW M) (htt : xTt tt) (hz : inR z) : xC l b D cy yX11_alone cX11_alone 2 (some .int) ({ frames := 5, cells := 0, slots := 0, locals := 127 }) [xr 1, xi z] 209 M (RS tt) (xPi 209 (RS tt) (fun r M' => IW M' ∧ frW M' M)) := by
  refine x_met (by decide) (Nat.le_of_ble_eq_true rfl) (fun g hg hr he => ?_)
  have hI0 := hI
  obtain ⟨hn10, hn13, hn15, hn16, hn8, hn7, hC, hT, hB, hF⟩ := hI
  refine x_canon (ls' := [(0, _), (1, _)]) rfl ?_
  refine x_aload_n hg dX11_alone_0 rfl ?_
  refine x_iload_n hg dX11_alone_1 rfl ?_
  refine x_cVi hg he [_] [] dX11_alone_2 mv_X11_177 (c_X11_isChurn l b D cy (by omega) (by omega)) (by decide) rfl rfl (Nat.le_of_ble_eq_true rfl) (by decide) (by decide) (fun r2 M2 q2 => ?_)
  obtain ⟨h2, e2⟩ := q2
  replace h2 := h2.symm
  subst h2
  refine x_if_ne (tgt := 10) hg dX11_alone_5 (by decide) (by omega) (fun c5 => ?_) (fun c5 => ?_)
  · skip
    refine x_aload_n hg dX11_alone_10 rfl ?_
    refine x_getR (j9 := 63) hg dX11_alone_11 fl_X11_47 (by decide) rfl rfl (by decide) ?_
    refine x_aload_n hg dX11_alone_14 rfl ?_
    refine x_getR (j9 := 84) hg dX11_alone_15 fl_X11_70 (by decide) rfl rfl (by decide) ?_
    refine x_iload_n hg dX11_alone_18 rfl ?_
    refine x_aaload (len := 10) (et := 5) hg dX11_alone_19 (by decide) (by decide) (by omega) (RS_churn _ _) (by omega) ?_
    refine x_aload_n hg dX11_alone_20 rfl ?_
    refine x_getR (j9 := tt) hg dX11_alone_21 fl_X11_28 (by decide) rfl rfl (by omega) ?_
    refine x_cVv hg he [_, _] [] dX11_alone_24 mv_X11_183 (c_X10_seek l b D cy hIW hIC hIR ⟨oO_churn (by omega), by have h1 := hC z.toNat (by omega); omega, by have h1 := hC z.toNat (by omega); omega⟩ (by omega) htt) (by decide) rfl rfl (Nat.le_of_ble_eq_true rfl) (by decide) (by decide) (fun M24 q24 => ?_)
    obtain ⟨hW24, hf24⟩ := q24
    refine x_aload_n hg dX11_alone_27 rfl ?_
    refine x_getR (j9 := 63) hg dX11_alone_28 fl_X11_47 (by decide) rfl rfl (by decide) ?_
    refine x_getI hg dX11_alone_31 fl_X11_187 (by decide) rfl ?_
    refine x_iret hg hr (Or.inl rfl) dX11_alone_34 (Nat.le_refl _) (Nat.le_refl _) ?_
    first | exact ⟨rfl, rfl, _, rfl, hW24, hf24⟩ | exact ⟨rfl, rfl, _, rfl, hIW, fun a _ => rfl⟩
  · skip
    refine x_iconst hg dX11_alone_8 ?_
    refine x_iret hg hr (Or.inl rfl) dX11_alone_9 (Nat.le_refl _) (Nat.le_refl _) ?_
    first | exact ⟨rfl, rfl, _, rfl, hW24, hf24⟩ | exact ⟨rfl, rfl, _, rfl, hIW, fun a _ => rfl⟩

theorem dX11_way_0 : decode cX11_way 0 = .ok (.aload_n 0, 1) := by decide +kernel
theorem dX11_way_1 : decode cX11_way 1 = .ok (.iload_n 1, 1) := by decide +kernel
theorem dX11_way_2 : decode cX11_way 2 = .ok (.invokevirtual 177, 3) := by decide +kernel
theorem dX11_way_5 : decode cX11_way 5 = .ok (.ifCond .eq 12, 3) := by decide +kernel
theorem dX11_way_8 : decode cX11_way 8 = .ok (.iload_n 2, 1) := by decide +kernel
theorem dX11_way_9 : decode cX11_way 9 = .ok (.ifCond .lt 8, 3) := by decide +kernel
theorem dX11_way_12 : decode cX11_way 12 = .ok (.iload_n 2, 1) := by decide +kernel
theorem dX11_way_13 : decode cX11_way 13 = .ok (.iconst 1, 1) := by decide +kernel
theorem dX11_way_14 : decode cX11_way 14 = .ok (.if_icmp .le 5, 3) := by decide +kernel
theorem dX11_way_17 : decode cX11_way 17 = .ok (.iconst (-1), 1) := by decide +kernel
theorem dX11_way_18 : decode cX11_way 18 = .ok (.ireturn, 1) := by decide +kernel
theorem dX11_way_19 : decode cX11_way 19 = .ok (.aload_n 0, 1) := by decide +kernel
theorem dX11_way_20 : decode cX11_way 20 = .ok (.getfield 47, 3) := by decide +kernel
theorem dX11_way_23 : decode cX11_way 23 = .ok (.aload_n 0, 1) := by decide +kernel
theorem dX11_way_24 : decode cX11_way 24 = .ok (.getfield 70, 3) := by decide +kernel
theorem dX11_way_27 : decode cX11_way 27 = .ok (.iload_n 1, 1) := by decide +kernel
theorem dX11_way_28 : decode cX11_way 28 = .ok (.aaload, 1) := by decide +kernel
theorem dX11_way_29 : decode cX11_way 29 = .ok (.aload_n 0, 1) := by decide +kernel
theorem dX11_way_30 : decode cX11_way 30 = .ok (.getfield 28, 3) := by decide +kernel
theorem dX11_way_33 : decode cX11_way 33 = .ok (.invokevirtual 183, 3) := by decide +kernel
theorem dX11_way_36 : decode cX11_way 36 = .ok (.iload_n 2, 1) := by decide +kernel
theorem dX11_way_37 : decode cX11_way 37 = .ok (.ifCond .ne 13, 3) := by decide +kernel
theorem dX11_way_40 : decode cX11_way 40 = .ok (.aload_n 0, 1) := by decide +kernel
theorem dX11_way_41 : decode cX11_way 41 = .ok (.getfield 47, 3) := by decide +kernel
theorem dX11_way_44 : decode cX11_way 44 = .ok (.getfield 190, 3) := by decide +kernel
theorem dX11_way_47 : decode cX11_way 47 = .ok (.goto 10, 3) := by decide +kernel
theorem dX11_way_50 : decode cX11_way 50 = .ok (.aload_n 0, 1) := by decide +kernel
theorem dX11_way_51 : decode cX11_way 51 = .ok (.getfield 47, 3) := by decide +kernel
theorem dX11_way_54 : decode cX11_way 54 = .ok (.getfield 193, 3) := by decide +kernel
theorem dX11_way_57 : decode cX11_way 57 = .ok (.ireturn, 1) := by decide +kernel
set_option maxHeartbeats 4000000 in
set_option maxRecDepth 20000 in
theorem c_X11_way (l : Launch) (b : Nat) (D : va_G) (cy : Nat → ClassId) {tt : Nat} {M : xMm} {z y : Int} (hI : IO M) (hIC : IC M) (hIR : IR M) (hIW : IW M) (htt : xTt tt) (hz : inR z) (hy : inR y) : xC l b D cy yX11_way cX11_way 3 (some .int) ({ frames := 5, cells := 0, slots := 0, locals := 127 }) [xr 1, xi z, xi y] 209 M (RS tt) (xPi 209 (RS tt) (fun r M' => IW M' ∧ frW M' M)) := by
  refine x_met (by decide) (Nat.le_of_ble_eq_true rfl) (fun g hg hr he => ?_)
  have hI0 := hI
  obtain ⟨hn10, hn13, hn15, hn16, hn8, hn7, hC, hT, hB, hF⟩ := hI
  refine x_canon (ls' := [(0, _), (1, _), (2, _)]) rfl ?_
  refine x_aload_n hg dX11_way_0 rfl ?_
  refine x_iload_n hg dX11_way_1 rfl ?_
  refine x_cVi hg he [_] [] dX11_way_2 mv_X11_177 (c_X11_isChurn l b D cy (by omega) (by omega)) (by decide) rfl rfl (Nat.le_of_ble_eq_true rfl) (by decide) (by decide) (fun r2 M2 q2 => ?_)
  obtain ⟨h2, e2⟩ := q2
  replace h2 := h2.symm
  subst h2
  refine x_if_eq (tgt := 17) hg dX11_way_5 (by decide) (by omega) (fun c5 => ?_) (fun c5 => ?_)
  · skip
    refine x_iconst hg dX11_way_17 ?_
    refine x_iret hg hr (Or.inl rfl) dX11_way_18 (Nat.le_refl _) (Nat.le_refl _) ?_
    first | exact ⟨rfl, rfl, _, rfl, hW33, hf33⟩ | exact ⟨rfl, rfl, _, rfl, hIW, fun a _ => rfl⟩
  · skip
    refine x_iload_n hg dX11_way_8 rfl ?_
    refine x_if_lt (tgt := 17) hg dX11_way_9 (by decide) (by omega) (fun c9 => ?_) (fun c9 => ?_)
    · skip
      refine x_iconst hg dX11_way_17 ?_
      refine x_iret hg hr (Or.inl rfl) dX11_way_18 (Nat.le_refl _) (Nat.le_refl _) ?_
      first | exact ⟨rfl, rfl, _, rfl, hW33, hf33⟩ | exact ⟨rfl, rfl, _, rfl, hIW, fun a _ => rfl⟩
    · skip
      refine x_iload_n hg dX11_way_12 rfl ?_
      refine x_iconst hg dX11_way_13 ?_
      refine x_icmp_le (tgt := 19) hg dX11_way_14 (by decide) (by omega) (by omega) (fun c14 => ?_) (fun c14 => ?_)
      · skip
        refine x_aload_n hg dX11_way_19 rfl ?_
        refine x_getR (j9 := 63) hg dX11_way_20 fl_X11_47 (by decide) rfl rfl (by decide) ?_
        refine x_aload_n hg dX11_way_23 rfl ?_
        refine x_getR (j9 := 84) hg dX11_way_24 fl_X11_70 (by decide) rfl rfl (by decide) ?_
        refine x_iload_n hg dX11_way_27 rfl ?_
        refine x_aaload (len := 10) (et := 5) hg dX11_way_28 (by decide) (by decide) (by omega) (RS_churn _ _) (by omega) ?_
        refine x_aload_n hg dX11_way_29 rfl ?_
        refine x_getR (j9 := tt) hg dX11_way_30 fl_X11_28 (by decide) rfl rfl (by omega) ?_
        refine x_cVv hg he [_, _] [] dX11_way_33 mv_X11_183 (c_X10_seek l b D cy hIW hIC hIR ⟨oO_churn (by omega), by have h1 := hC z.toNat (by omega); omega, by have h1 := hC z.toNat (by omega); omega⟩ (by omega) htt) (by decide) rfl rfl (Nat.le_of_ble_eq_true rfl) (by decide) (by decide) (fun M33 q33 => ?_)
        obtain ⟨hW33, hf33⟩ := q33
        refine x_iload_n hg dX11_way_36 rfl ?_
        refine x_if_ne (tgt := 50) hg dX11_way_37 (by decide) (by omega) (fun c37 => ?_) (fun c37 => ?_)
        · skip
          refine x_aload_n hg dX11_way_50 rfl ?_
          refine x_getR (j9 := 63) hg dX11_way_51 fl_X11_47 (by decide) rfl rfl (by decide) ?_
          refine x_getI hg dX11_way_54 fl_X11_193 (by decide) rfl ?_
          refine x_iret hg hr (Or.inl rfl) dX11_way_57 (Nat.le_refl _) (Nat.le_refl _) ?_
          first | exact ⟨rfl, rfl, _, rfl, hW33, hf33⟩ | exact ⟨rfl, rfl, _, rfl, hIW, fun a _ => rfl⟩
        · skip
          refine x_aload_n hg dX11_way_40 rfl ?_
          refine x_getR (j9 := 63) hg dX11_way_41 fl_X11_47 (by decide) rfl rfl (by decide) ?_
          refine x_getI hg dX11_way_44 fl_X11_190 (by decide) rfl ?_
          refine x_goto (tgt := 57) hg dX11_way_47 (by decide) ?_
          refine x_iret hg hr (Or.inl rfl) dX11_way_57 (Nat.le_refl _) (Nat.le_refl _) ?_
          first | exact ⟨rfl, rfl, _, rfl, hW33, hf33⟩ | exact ⟨rfl, rfl, _, rfl, hIW, fun a _ => rfl⟩
      · skip
        refine x_iconst hg dX11_way_17 ?_
        refine x_iret hg hr (Or.inl rfl) dX11_way_18 (Nat.le_refl _) (Nat.le_refl _) ?_
        first | exact ⟨rfl, rfl, _, rfl, hW33, hf33⟩ | exact ⟨rfl, rfl, _, rfl, hIW, fun a _ => rfl⟩
