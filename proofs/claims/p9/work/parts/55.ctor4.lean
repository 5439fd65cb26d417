/-! ===== the office's constructor ===== -/
abbrev Rz : xRm := fun _ _ => 0
abbrev Mz : xMm := fun _ _ => 0
/-- cells 2 .. m are finished, and the fields below F of the office -/
def rG (m F : Nat) : xRm := fun a f => if a = 1 then (if f < F then RS 5 1 f else 0) else if 2 ≤ a ∧ a ≤ m then RS 5 a f else 0
theorem rG_z {m F a f : Nat} (h1 : 1 < a) (h2 : m < a) : rG m F a f = 0 := by
  unfold rG; rw [if_neg (by omega), if_neg (by omega)]
/-- the class's memory at the start, but for the climate's sums -/
def m0c : xMm := fun a f => if a = 1 then (if f = 7 then 1 else if f = 8 then 1000 else 0) else if a = 4 ∧ f = 7 then -1 else if a = 58 ∧ f < 24 then -1 else if 85 ≤ a ∧ a ≤ 94 ∧ f = 4 then -1 else if 142 ≤ a ∧ a ≤ 171 ∧ f = 3 then -1 else 0

theorem dX11_init_0 : decode cX11_init 0 = .ok (.aload_n 0, 1) := by decide +kernel
theorem dX11_init_1 : decode cX11_init 1 = .ok (.invokespecial 3, 3) := by decide +kernel
theorem dX11_init_4 : decode cX11_init 4 = .ok (.aload_n 0, 1) := by decide +kernel
theorem dX11_init_5 : decode cX11_init 5 = .ok (.new 9, 3) := by decide +kernel
theorem dX11_init_8 : decode cX11_init 8 = .ok (.dup, 1) := by decide +kernel
theorem dX11_init_9 : decode cX11_init 9 = .ok (.invokespecial 11, 3) := by decide +kernel
theorem dX11_init_12 : decode cX11_init 12 = .ok (.putfield 12, 3) := by decide +kernel
theorem dX11_init_15 : decode cX11_init 15 = .ok (.aload_n 0, 1) := by decide +kernel
theorem dX11_init_16 : decode cX11_init 16 = .ok (.new 16, 3) := by decide +kernel
theorem dX11_init_19 : decode cX11_init 19 = .ok (.dup, 1) := by decide +kernel
theorem dX11_init_20 : decode cX11_init 20 = .ok (.aload_n 0, 1) := by decide +kernel
theorem dX11_init_21 : decode cX11_init 21 = .ok (.getfield 12, 3) := by decide +kernel
theorem dX11_init_24 : decode cX11_init 24 = .ok (.invokespecial 18, 3) := by decide +kernel
theorem dX11_init_27 : decode cX11_init 27 = .ok (.putfield 21, 3) := by decide +kernel
theorem dX11_init_30 : decode cX11_init 30 = .ok (.aload_n 0, 1) := by decide +kernel
theorem dX11_init_31 : decode cX11_init 31 = .ok (.new 25, 3) := by decide +kernel
theorem dX11_init_34 : decode cX11_init 34 = .ok (.dup, 1) := by decide +kernel
theorem dX11_init_35 : decode cX11_init 35 = .ok (.invokespecial 27, 3) := by decide +kernel
theorem dX11_init_38 : decode cX11_init 38 = .ok (.putfield 28, 3) := by decide +kernel
theorem dX11_init_41 : decode cX11_init 41 = .ok (.aload_n 0, 1) := by decide +kernel
theorem dX11_init_42 : decode cX11_init 42 = .ok (.new 25, 3) := by decide +kernel
theorem dX11_init_45 : decode cX11_init 45 = .ok (.dup, 1) := by decide +kernel
theorem dX11_init_46 : decode cX11_init 46 = .ok (.invokespecial 27, 3) := by decide +kernel
theorem dX11_init_49 : decode cX11_init 49 = .ok (.putfield 32, 3) := by decide +kernel
theorem dX11_init_52 : decode cX11_init 52 = .ok (.aload_n 0, 1) := by decide +kernel
theorem dX11_init_53 : decode cX11_init 53 = .ok (.new 35, 3) := by decide +kernel
theorem dX11_init_56 : decode cX11_init 56 = .ok (.dup, 1) := by decide +kernel
theorem dX11_init_57 : decode cX11_init 57 = .ok (.invokespecial 37, 3) := by decide +kernel
theorem dX11_init_60 : decode cX11_init 60 = .ok (.putfield 38, 3) := by decide +kernel
theorem dX11_init_63 : decode cX11_init 63 = .ok (.aload_n 0, 1) := by decide +kernel
theorem dX11_init_64 : decode cX11_init 64 = .ok (.new 42, 3) := by decide +kernel
theorem dX11_init_67 : decode cX11_init 67 = .ok (.dup, 1) := by decide +kernel
theorem dX11_init_68 : decode cX11_init 68 = .ok (.aload_n 0, 1) := by decide +kernel
theorem dX11_init_69 : decode cX11_init 69 = .ok (.getfield 38, 3) := by decide +kernel
theorem dX11_init_72 : decode cX11_init 72 = .ok (.invokespecial 44, 3) := by decide +kernel
theorem dX11_init_75 : decode cX11_init 75 = .ok (.putfield 47, 3) := by decide +kernel
theorem dX11_init_78 : decode cX11_init 78 = .ok (.aload_n 0, 1) := by decide +kernel
theorem dX11_init_79 : decode cX11_init 79 = .ok (.new 51, 3) := by decide +kernel
theorem dX11_init_82 : decode cX11_init 82 = .ok (.dup, 1) := by decide +kernel
theorem dX11_init_83 : decode cX11_init 83 = .ok (.aload_n 0, 1) := by decide +kernel
theorem dX11_init_84 : decode cX11_init 84 = .ok (.getfield 47, 3) := by decide +kernel
theorem dX11_init_87 : decode cX11_init 87 = .ok (.invokespecial 53, 3) := by decide +kernel
theorem dX11_init_90 : decode cX11_init 90 = .ok (.putfield 56, 3) := by decide +kernel
theorem dX11_init_93 : decode cX11_init 93 = .ok (.aload_n 0, 1) := by decide +kernel
theorem dX11_init_94 : decode cX11_init 94 = .ok (.iconst 1, 1) := by decide +kernel
theorem dX11_init_95 : decode cX11_init 95 = .ok (.putfield 60, 3) := by decide +kernel
theorem dX11_init_98 : decode cX11_init 98 = .ok (.aload_n 0, 1) := by decide +kernel
theorem dX11_init_99 : decode cX11_init 99 = .ok (.sipush 1000, 3) := by decide +kernel
theorem dX11_init_102 : decode cX11_init 102 = .ok (.putfield 64, 3) := by decide +kernel
theorem dX11_init_105 : decode cX11_init 105 = .ok (.aload_n 0, 1) := by decide +kernel
theorem dX11_init_106 : decode cX11_init 106 = .ok (.bipush 10, 2) := by decide +kernel
theorem dX11_init_108 : decode cX11_init 108 = .ok (.anewarray 68, 3) := by decide +kernel
theorem dX11_init_111 : decode cX11_init 111 = .ok (.putfield 70, 3) := by decide +kernel
theorem dX11_init_114 : decode cX11_init 114 = .ok (.iconst 0, 1) := by decide +kernel
theorem dX11_init_115 : decode cX11_init 115 = .ok (.istore_n 1, 1) := by decide +kernel
theorem dX11_init_116 : decode cX11_init 116 = .ok (.iload_n 1, 1) := by decide +kernel
theorem dX11_init_117 : decode cX11_init 117 = .ok (.bipush 10, 2) := by decide +kernel
theorem dX11_init_119 : decode cX11_init 119 = .ok (.if_icmp .ge 22, 3) := by decide +kernel
theorem dX11_init_122 : decode cX11_init 122 = .ok (.aload_n 0, 1) := by decide +kernel
theorem dX11_init_123 : decode cX11_init 123 = .ok (.getfield 70, 3) := by decide +kernel
theorem dX11_init_126 : decode cX11_init 126 = .ok (.iload_n 1, 1) := by decide +kernel
theorem dX11_init_127 : decode cX11_init 127 = .ok (.new 68, 3) := by decide +kernel
theorem dX11_init_130 : decode cX11_init 130 = .ok (.dup, 1) := by decide +kernel
theorem dX11_init_131 : decode cX11_init 131 = .ok (.invokespecial 74, 3) := by decide +kernel
theorem dX11_init_134 : decode cX11_init 134 = .ok (.aastore, 1) := by decide +kernel
theorem dX11_init_135 : decode cX11_init 135 = .ok (.iinc 1 1, 3) := by decide +kernel
theorem dX11_init_138 : decode cX11_init 138 = .ok (.goto (-22), 3) := by decide +kernel
theorem dX11_init_141 : decode cX11_init 141 = .ok (.aload_n 0, 1) := by decide +kernel
theorem dX11_init_142 : decode cX11_init 142 = .ok (.iconst 4, 1) := by decide +kernel
theorem dX11_init_143 : decode cX11_init 143 = .ok (.anewarray 75, 3) := by decide +kernel
theorem dX11_init_146 : decode cX11_init 146 = .ok (.putfield 77, 3) := by decide +kernel
theorem dX11_init_149 : decode cX11_init 149 = .ok (.iconst 0, 1) := by decide +kernel
theorem dX11_init_150 : decode cX11_init 150 = .ok (.istore_n 1, 1) := by decide +kernel
theorem dX11_init_151 : decode cX11_init 151 = .ok (.iload_n 1, 1) := by decide +kernel
theorem dX11_init_152 : decode cX11_init 152 = .ok (.iconst 4, 1) := by decide +kernel
theorem dX11_init_153 : decode cX11_init 153 = .ok (.if_icmp .ge 22, 3) := by decide +kernel
theorem dX11_init_156 : decode cX11_init 156 = .ok (.aload_n 0, 1) := by decide +kernel
theorem dX11_init_157 : decode cX11_init 157 = .ok (.getfield 77, 3) := by decide +kernel
theorem dX11_init_160 : decode cX11_init 160 = .ok (.iload_n 1, 1) := by decide +kernel
theorem dX11_init_161 : decode cX11_init 161 = .ok (.new 75, 3) := by decide +kernel
theorem dX11_init_164 : decode cX11_init 164 = .ok (.dup, 1) := by decide +kernel
theorem dX11_init_165 : decode cX11_init 165 = .ok (.invokespecial 81, 3) := by decide +kernel
theorem dX11_init_168 : decode cX11_init 168 = .ok (.aastore, 1) := by decide +kernel
theorem dX11_init_169 : decode cX11_init 169 = .ok (.iinc 1 1, 3) := by decide +kernel
theorem dX11_init_172 : decode cX11_init 172 = .ok (.goto (-21), 3) := by decide +kernel
theorem dX11_init_175 : decode cX11_init 175 = .ok (.aload_n 0, 1) := by decide +kernel
theorem dX11_init_176 : decode cX11_init 176 = .ok (.bipush 40, 2) := by decide +kernel
theorem dX11_init_178 : decode cX11_init 178 = .ok (.anewarray 82, 3) := by decide +kernel
theorem dX11_init_181 : decode cX11_init 181 = .ok (.putfield 84, 3) := by decide +kernel
theorem dX11_init_184 : decode cX11_init 184 = .ok (.iconst 0, 1) := by decide +kernel
theorem dX11_init_185 : decode cX11_init 185 = .ok (.istore_n 1, 1) := by decide +kernel
theorem dX11_init_186 : decode cX11_init 186 = .ok (.iload_n 1, 1) := by decide +kernel
theorem dX11_init_187 : decode cX11_init 187 = .ok (.bipush 40, 2) := by decide +kernel
theorem dX11_init_189 : decode cX11_init 189 = .ok (.if_icmp .ge 22, 3) := by decide +kernel
theorem dX11_init_192 : decode cX11_init 192 = .ok (.aload_n 0, 1) := by decide +kernel
theorem dX11_init_193 : decode cX11_init 193 = .ok (.getfield 84, 3) := by decide +kernel
theorem dX11_init_196 : decode cX11_init 196 = .ok (.iload_n 1, 1) := by decide +kernel
theorem dX11_init_197 : decode cX11_init 197 = .ok (.new 82, 3) := by decide +kernel
theorem dX11_init_200 : decode cX11_init 200 = .ok (.dup, 1) := by decide +kernel
theorem dX11_init_201 : decode cX11_init 201 = .ok (.invokespecial 88, 3) := by decide +kernel
theorem dX11_init_204 : decode cX11_init 204 = .ok (.aastore, 1) := by decide +kernel
theorem dX11_init_205 : decode cX11_init 205 = .ok (.iinc 1 1, 3) := by decide +kernel
theorem dX11_init_208 : decode cX11_init 208 = .ok (.goto (-22), 3) := by decide +kernel
theorem dX11_init_211 : decode cX11_init 211 = .ok (.aload_n 0, 1) := by decide +kernel
theorem dX11_init_212 : decode cX11_init 212 = .ok (.bipush 30, 2) := by decide +kernel
theorem dX11_init_214 : decode cX11_init 214 = .ok (.anewarray 89, 3) := by decide +kernel
theorem dX11_init_217 : decode cX11_init 217 = .ok (.putfield 91, 3) := by decide +kernel
theorem dX11_init_220 : decode cX11_init 220 = .ok (.iconst 0, 1) := by decide +kernel
theorem dX11_init_221 : decode cX11_init 221 = .ok (.istore_n 1, 1) := by decide +kernel
theorem dX11_init_222 : decode cX11_init 222 = .ok (.iload_n 1, 1) := by decide +kernel
theorem dX11_init_223 : decode cX11_init 223 = .ok (.bipush 30, 2) := by decide +kernel
theorem dX11_init_225 : decode cX11_init 225 = .ok (.if_icmp .ge 22, 3) := by decide +kernel
theorem dX11_init_228 : decode cX11_init 228 = .ok (.aload_n 0, 1) := by decide +kernel
theorem dX11_init_229 : decode cX11_init 229 = .ok (.getfield 91, 3) := by decide +kernel
theorem dX11_init_232 : decode cX11_init 232 = .ok (.iload_n 1, 1) := by decide +kernel
theorem dX11_init_233 : decode cX11_init 233 = .ok (.new 89, 3) := by decide +kernel
theorem dX11_init_236 : decode cX11_init 236 = .ok (.dup, 1) := by decide +kernel
theorem dX11_init_237 : decode cX11_init 237 = .ok (.invokespecial 95, 3) := by decide +kernel
theorem dX11_init_240 : decode cX11_init 240 = .ok (.aastore, 1) := by decide +kernel
theorem dX11_init_241 : decode cX11_init 241 = .ok (.iinc 1 1, 3) := by decide +kernel
theorem dX11_init_244 : decode cX11_init 244 = .ok (.goto (-22), 3) := by decide +kernel
theorem dX11_init_247 : decode cX11_init 247 = .ok (.return_, 1) := by decide +kernel
set_option maxHeartbeats 4000000 in
set_option maxRecDepth 20000 in
theorem c_X11_init (l : Launch) (b : Nat) (D : va_G) (cy : Nat → ClassId)   : xCi l b D cy yX11_init cX11_init 2 ({ frames := 4, cells := 170, slots := 2301, locals := 90 }) [xr 1] 1 Mz Rz (xPc 171 (rF Rz 1 171) (fun M' => IC M' ∧ ∀ a, a ≠ 60 → a ≠ 61 → a ≠ 62 → M' a = m0c a)) := by
  refine x_metI (by decide) (Nat.le_of_ble_eq_true rfl) (fun g hg hr he ha => ?_)
  refine x_canon (ls' := [(0, _)]) rfl ?_
  have main : ∀ MA : xMm, (∀ a, 62 < a → ∀ f, MA a f = 0) → (fun M' => IC M' ∧ ∀ a, a ≠ 60 → a ≠ 61 → a ≠ 62 → M' a = m0c a) (cM (cM MA 85 4 10) 142 3 30) → xW g 83 MA (rG 83 7) 82 1919 105 [(0, xr 1)] [] := by
    intro MA hz hQ
    have loopF : ∀ (f i : Nat), i ≤ 30 → 30 < i + f → xW g (141 + i) (cM (cM MA 85 4 10) 142 3 i) (rA (rG 140 15) 141 i) (140 + i) (2181 + 4 * i) 222 [(0, xr 1), (1, xi (i : Int))] [] := by
      intro f
      induction f with
      | zero => intro i h1 h2; exfalso; omega
      | succ f ih =>
        intro i hi1 hi2
        refine x_iload_n hg dX11_init_222 rfl ?_
        refine x_bipush hg dX11_init_223 (by decide) ?_
        refine x_icmp_ge (tgt := 247) hg dX11_init_225 (by decide) (by omega) (by omega) (fun c225 => ?_) (fun c225 => ?_)
        · skip
          have hil : i = 30 := by omega
          subst hil
          refine x_sameR (R' := rG 171 15) (sameB_ok (by decide +kernel)) ?_
          refine x_sameR (R' := rF Rz 1 171) (sameB_ok (by decide +kernel)) ?_
          exact x_vret hg hr dX11_init_247 (by decide) (by decide) ⟨rfl, rfl, rfl, hQ⟩
        · skip
          refine x_aload_n hg dX11_init_228 rfl ?_
          refine x_getR (j9 := 141) hg dX11_init_229 fl_X11_91 ⟨by omega, by omega, by decide⟩ rfl rfl (by decide) ?_
          refine x_iload_n hg dX11_init_232 rfl ?_
          refine x_new hg dX11_init_233 nw_X11_89 (by rw [show 141 + i + 1 = 142 + i by omega]; exact lay_find i (by omega)) (fun f => by rw [cM_n (by omega), cM_n (by omega)]; exact hz _ (by omega) f) (fun f => by rw [rA_n (by omega)]; exact rG_z (by omega) (by omega)) (by show _ ≤ 170; omega) (by show _ ≤ 2301; omega) ?_
          refine x_dup hg dX11_init_236 rfl ?_
          refine x_cI hg ha [] [_, _, _] he dX11_init_237 mi_X11_95 (c_X3_init l b D cy (i := 141 + i + 1) ⟨by omega, by omega, by rw [show 141 + i + 1 = 142 + i by omega]; exact lay_find i (by omega)⟩) rfl rfl (Nat.le_of_ble_eq_true rfl) (by decide) (by show _ + 0 ≤ 170 ∧ _ + 0 ≤ 2301; omega) (fun M237 q237 => ?_)
          replace q237 := q237.symm
          subst q237
          refine x_aastore8 (len := 30) hg dX11_init_240 ⟨by omega, by omega, by decide, by decide⟩ (by omega) ⟨by omega, by omega, by rw [show 141 + i + 1 = 142 + i by omega]; exact lay_find i (by omega)⟩ ?_
          refine x_iinc (ls' := [(0, _), (1, _)]) hg dX11_init_241 rfl (by decide) rfl ?_
          refine x_goto (tgt := 222) hg dX11_init_244 (by decide) ?_
          rw [rA_s (by omega) (by omega), cM_s (by omega)]
          refine x_wide (k2 := 140 + (i + 1)) (w2 := 2181 + 4 * (i + 1)) (by show _ + 0 ≤ _; omega) (by show _ + 0 ≤ _; omega) ?_
          exact ih (i + 1) (by omega) (by omega)
    have loopB : ∀ (f i : Nat), i ≤ 40 → 40 < i + f → xW g (100 + i) ((cM MA 85 4 10)) (rA (rG 99 13) 100 i) (99 + i) (2031 + 3 * i) 186 [(0, xr 1), (1, xi (i : Int))] [] := by
      intro f
      induction f with
      | zero => intro i h1 h2; exfalso; omega
      | succ f ih =>
        intro i hi1 hi2
        refine x_iload_n hg dX11_init_186 rfl ?_
        refine x_bipush hg dX11_init_187 (by decide) ?_
        refine x_icmp_ge (tgt := 211) hg dX11_init_189 (by decide) (by omega) (by omega) (fun c189 => ?_) (fun c189 => ?_)
        · skip
          have hil : i = 40 := by omega
          subst hil
          refine x_sameR (R' := rG 140 13) (sameB_ok (by decide +kernel)) ?_
          refine x_aload_n hg dX11_init_211 rfl ?_
          refine x_bipush hg dX11_init_212 (by decide) ?_
          refine x_anew8 (len := 30) hg ha dX11_init_214 cl_X11_89 (by decide) rfl (by decide) (fun f => rfl) (by decide) (by decide) ?_
          refine x_putF hg hr rfl dX11_init_217 ff_X11_91 ⟨by omega, by omega, by decide⟩ rfl (by decide) ?_
          refine x_sameR (R' := rG 140 15) (sameB_ok (by decide +kernel)) ?_
          refine x_iconst hg dX11_init_220 ?_
          refine x_istore_n (ls' := [(0, _), (1, _)]) hg dX11_init_221 rfl (by decide) rfl ?_
          rw [← rA_0 (rG 140 15) 141, ← cM_0 (cM MA 85 4 10) 142 3]
          exact loopF 31 0 (by omega) (by omega)
        · skip
          refine x_aload_n hg dX11_init_192 rfl ?_
          refine x_getR (j9 := 100) hg dX11_init_193 fl_X11_84 ⟨by omega, by omega, by decide⟩ rfl rfl (by decide) ?_
          refine x_iload_n hg dX11_init_196 rfl ?_
          refine x_new hg dX11_init_197 nw_X11_82 (by rw [show 100 + i + 1 = 101 + i by omega]; exact lay_bottling i (by omega)) (fun f => by rw [cM_n (by omega)]; exact hz _ (by omega) f) (fun f => by rw [rA_n (by omega)]; exact rG_z (by omega) (by omega)) (by show _ ≤ 170; omega) (by show _ ≤ 2301; omega) ?_
          refine x_dup hg dX11_init_200 rfl ?_
          refine x_cI hg ha [] [_, _, _] he dX11_init_201 mi_X11_88 (c_X0_init l b D cy (i := 100 + i + 1) ⟨by omega, by omega, by rw [show 100 + i + 1 = 101 + i by omega]; exact lay_bottling i (by omega)⟩) rfl rfl (Nat.le_of_ble_eq_true rfl) (by decide) (by show _ + 0 ≤ 170 ∧ _ + 0 ≤ 2301; omega) (fun M201 q201 => ?_)
          replace q201 := q201.symm
          subst q201
          refine x_aastore7 (len := 40) hg dX11_init_204 ⟨by omega, by omega, by decide, by decide⟩ (by omega) ⟨by omega, by omega, by rw [show 100 + i + 1 = 101 + i by omega]; exact lay_bottling i (by omega)⟩ ?_
          refine x_iinc (ls' := [(0, _), (1, _)]) hg dX11_init_205 rfl (by decide) rfl ?_
          refine x_goto (tgt := 186) hg dX11_init_208 (by decide) ?_
          rw [rA_s (by omega) (by omega)]
          refine x_wide (k2 := 99 + (i + 1)) (w2 := 2031 + 3 * (i + 1)) (by show _ + 0 ≤ _; omega) (by show _ + 0 ≤ _; omega) ?_
          exact ih (i + 1) (by omega) (by omega)
    have loopT : ∀ (f i : Nat), i ≤ 4 → 4 < i + f → xW g (95 + i) ((cM MA 85 4 10)) (rA (rG 94 12) 95 i) (94 + i) (1983 + 2 * i) 151 [(0, xr 1), (1, xi (i : Int))] [] := by
      intro f
      induction f with
      | zero => intro i h1 h2; exfalso; omega
      | succ f ih =>
        intro i hi1 hi2
        refine x_iload_n hg dX11_init_151 rfl ?_
        refine x_iconst hg dX11_init_152 ?_
        refine x_icmp_ge (tgt := 175) hg dX11_init_153 (by decide) (by omega) (by omega) (fun c153 => ?_) (fun c153 => ?_)
        · skip
          have hil : i = 4 := by omega
          subst hil
          refine x_sameR (R' := rG 99 12) (sameB_ok (by decide +kernel)) ?_
          refine x_aload_n hg dX11_init_175 rfl ?_
          refine x_bipush hg dX11_init_176 (by decide) ?_
          refine x_anew7 (len := 40) hg ha dX11_init_178 cl_X11_82 (by decide) rfl (by decide) (fun f => rfl) (by decide) (by decide) ?_
          refine x_putF hg hr rfl dX11_init_181 ff_X11_84 ⟨by omega, by omega, by decide⟩ rfl (by decide) ?_
          refine x_sameR (R' := rG 99 13) (sameB_ok (by decide +kernel)) ?_
          refine x_iconst hg dX11_init_184 ?_
          refine x_istore_n (ls' := [(0, _), (1, _)]) hg dX11_init_185 rfl (by decide) rfl ?_
          rw [← rA_0 (rG 99 13) 100]
          exact loopB 41 0 (by omega) (by omega)
        · skip
          refine x_aload_n hg dX11_init_156 rfl ?_
          refine x_getR (j9 := 95) hg dX11_init_157 fl_X11_77 ⟨by omega, by omega, by decide⟩ rfl rfl (by decide) ?_
          refine x_iload_n hg dX11_init_160 rfl ?_
          refine x_new hg dX11_init_161 nw_X11_75 (by rw [show 95 + i + 1 = 96 + i by omega]; exact lay_tank i (by omega)) (fun f => by rw [cM_n (by omega)]; exact hz _ (by omega) f) (fun f => by rw [rA_n (by omega)]; exact rG_z (by omega) (by omega)) (by show _ ≤ 170; omega) (by show _ ≤ 2301; omega) ?_
          refine x_dup hg dX11_init_164 rfl ?_
          refine x_cI hg ha [] [_, _, _] he dX11_init_165 mi_X11_81 (c_X6_init l b D cy (i := 95 + i + 1) ⟨by omega, by omega, by rw [show 95 + i + 1 = 96 + i by omega]; exact lay_tank i (by omega)⟩) rfl rfl (Nat.le_of_ble_eq_true rfl) (by decide) (by show _ + 0 ≤ 170 ∧ _ + 0 ≤ 2301; omega) (fun M165 q165 => ?_)
          replace q165 := q165.symm
          subst q165
          refine x_aastore6 (len := 4) hg dX11_init_168 ⟨by omega, by omega, by decide, by decide⟩ (by omega) ⟨by omega, by omega, by rw [show 95 + i + 1 = 96 + i by omega]; exact lay_tank i (by omega)⟩ ?_
          refine x_iinc (ls' := [(0, _), (1, _)]) hg dX11_init_169 rfl (by decide) rfl ?_
          refine x_goto (tgt := 151) hg dX11_init_172 (by decide) ?_
          rw [rA_s (by omega) (by omega)]
          refine x_wide (k2 := 94 + (i + 1)) (w2 := 1983 + 2 * (i + 1)) (by show _ + 0 ≤ _; omega) (by show _ + 0 ≤ _; omega) ?_
          exact ih (i + 1) (by omega) (by omega)
    have loopC : ∀ (f i : Nat), i ≤ 10 → 10 < i + f → xW g (84 + i) (cM MA 85 4 i) (rA (rG 83 10) 84 i) (83 + i) (1929 + 5 * i) 116 [(0, xr 1), (1, xi (i : Int))] [] := by
      intro f
      induction f with
      | zero => intro i h1 h2; exfalso; omega
      | succ f ih =>
        intro i hi1 hi2
        refine x_iload_n hg dX11_init_116 rfl ?_
        refine x_bipush hg dX11_init_117 (by decide) ?_
        refine x_icmp_ge (tgt := 141) hg dX11_init_119 (by decide) (by omega) (by omega) (fun c119 => ?_) (fun c119 => ?_)
        · skip
          have hil : i = 10 := by omega
          subst hil
          refine x_sameR (R' := rG 94 10) (sameB_ok (by decide +kernel)) ?_
          refine x_aload_n hg dX11_init_141 rfl ?_
          refine x_iconst hg dX11_init_142 ?_
          refine x_anew6 (len := 4) hg ha dX11_init_143 cl_X11_75 (by decide) rfl (by decide) (fun f => rfl) (by decide) (by decide) ?_
          refine x_putF hg hr rfl dX11_init_146 ff_X11_77 ⟨by omega, by omega, by decide⟩ rfl (by decide) ?_
          refine x_sameR (R' := rG 94 12) (sameB_ok (by decide +kernel)) ?_
          refine x_iconst hg dX11_init_149 ?_
          refine x_istore_n (ls' := [(0, _), (1, _)]) hg dX11_init_150 rfl (by decide) rfl ?_
          rw [← rA_0 (rG 94 12) 95]
          exact loopT 5 0 (by omega) (by omega)
        · skip
          refine x_aload_n hg dX11_init_122 rfl ?_
          refine x_getR (j9 := 84) hg dX11_init_123 fl_X11_70 ⟨by omega, by omega, by decide⟩ rfl rfl (by decide) ?_
          refine x_iload_n hg dX11_init_126 rfl ?_
          refine x_new hg dX11_init_127 nw_X11_68 (by rw [show 84 + i + 1 = 85 + i by omega]; exact lay_churn i (by omega)) (fun f => by rw [cM_n (by omega)]; exact hz _ (by omega) f) (fun f => by rw [rA_n (by omega)]; exact rG_z (by omega) (by omega)) (by show _ ≤ 170; omega) (by show _ ≤ 2301; omega) ?_
          refine x_dup hg dX11_init_130 rfl ?_
          refine x_cI hg ha [] [_, _, _] he dX11_init_131 mi_X11_74 (c_X1_init l b D cy (i := 84 + i + 1) ⟨by omega, by omega, by rw [show 84 + i + 1 = 85 + i by omega]; exact lay_churn i (by omega)⟩) rfl rfl (Nat.le_of_ble_eq_true rfl) (by decide) (by show _ + 0 ≤ 170 ∧ _ + 0 ≤ 2301; omega) (fun M131 q131 => ?_)
          replace q131 := q131.symm
          subst q131
          refine x_aastore5 (len := 10) hg dX11_init_134 ⟨by omega, by omega, by decide, by decide⟩ (by omega) ⟨by omega, by omega, by rw [show 84 + i + 1 = 85 + i by omega]; exact lay_churn i (by omega)⟩ ?_
          refine x_iinc (ls' := [(0, _), (1, _)]) hg dX11_init_135 rfl (by decide) rfl ?_
          refine x_goto (tgt := 116) hg dX11_init_138 (by decide) ?_
          rw [rA_s (by omega) (by omega), cM_s (by omega)]
          refine x_wide (k2 := 83 + (i + 1)) (w2 := 1929 + 5 * (i + 1)) (by show _ + 0 ≤ _; omega) (by show _ + 0 ≤ _; omega) ?_
          exact ih (i + 1) (by omega) (by omega)
    refine x_aload_n hg dX11_init_105 rfl ?_
    refine x_bipush hg dX11_init_106 (by decide) ?_
    refine x_anew5 (len := 10) hg ha dX11_init_108 cl_X11_68 (by decide) rfl (by decide) (fun f => rfl) (by decide) (by decide) ?_
    refine x_putF hg hr rfl dX11_init_111 ff_X11_70 ⟨by omega, by omega, by decide⟩ rfl (by decide) ?_
    refine x_sameR (R' := rG 83 10) (sameB_ok (by decide +kernel)) ?_
    refine x_iconst hg dX11_init_114 ?_
    refine x_istore_n (ls' := [(0, _), (1, _)]) hg dX11_init_115 rfl (by decide) rfl ?_
    rw [← rA_0 (rG 83 10) 84, ← cM_0 MA 85 4]
    exact loopC 11 0 (by omega) (by omega)
  refine x_aload_n hg dX11_init_0 rfl ?_
  refine x_objInit hg dX11_init_1 oi_X11_3 ⟨by decide, Nat.le_of_ble_eq_true rfl⟩ ?_
  refine x_aload_n hg dX11_init_4 rfl ?_
  refine x_new hg dX11_init_5 nw_X11_9 (by decide) (fun f => rfl) (fun f => rfl) (by decide) (by decide) ?_
  refine x_dup hg dX11_init_8 rfl ?_
  refine x_cI hg ha [] [_, _] he dX11_init_9 mi_X11_11 (c_X7_init l b D cy (M := Mz) (R := Rz) (fun a h f => rfl) (fun a h f => rfl)) rfl rfl (Nat.le_of_ble_eq_true rfl) (by decide) (by decide) (fun M9 q9 => ?_)
  replace q9 := q9.symm
  subst q9
  refine x_putF hg hr rfl dX11_init_12 ff_X11_12 ⟨by omega, by omega, by decide⟩ rfl (by decide) ?_
  refine x_sameR (R' := rG 3 1) (sameB_ok (by decide +kernel)) ?_
  refine x_aload_n hg dX11_init_15 rfl ?_
  refine x_new hg dX11_init_16 nw_X11_16 (by decide) (fun f => rfl) (fun f => rfl) (by decide) (by decide) ?_
  refine x_dup hg dX11_init_19 rfl ?_
  refine x_aload_n hg dX11_init_20 rfl ?_
  refine x_getR (j9 := 2) hg dX11_init_21 fl_X11_12 ⟨by omega, by omega, by decide⟩ rfl rfl (by decide) ?_
  refine x_cI hg ha [_] [_, _] he dX11_init_24 mi_X11_18 (c_X5_init l b D cy (M := Mz) (R := rG 3 1) (fun a h f => rfl) (fun a h f => rG_z (by omega) (by omega))) rfl rfl (Nat.le_of_ble_eq_true rfl) (by decide) (by decide) (fun M24 q24 => ?_)
  subst q24
  refine x_putF hg hr rfl dX11_init_27 ff_X11_21 ⟨by omega, by omega, by decide⟩ rfl (by decide) ?_
  refine x_sameR (R' := rG 4 2) (sameB_ok (by decide +kernel)) ?_
  refine x_aload_n hg dX11_init_30 rfl ?_
  refine x_new hg dX11_init_31 nw_X11_25 (by decide) (fun f => rfl) (fun f => rfl) (by decide) (by decide) ?_
  refine x_dup hg dX11_init_34 rfl ?_
  refine x_cI hg ha [] [_, _] he dX11_init_35 mi_X11_27 (c_X8_init l b D cy (q := 5) (Or.inl rfl) (fun a h f => by rw [mu_nc (by omega)]) (fun a h f => rG_z (by omega) (by omega))) rfl rfl (Nat.le_of_ble_eq_true rfl) (by decide) (by decide) (fun M35 q35 => ?_)
  replace q35 := q35.symm
  subst q35
  refine x_putR hg dX11_init_38 fl_X11_28 ft_11_2 ⟨by omega, by omega, by decide⟩ rfl (by decide) ?_
  refine x_sameR (R' := rG 30 3) (sameB_ok (by decide +kernel)) ?_
  refine x_aload_n hg dX11_init_41 rfl ?_
  refine x_new hg dX11_init_42 nw_X11_25 (by decide) (fun f => rfl) (fun f => rfl) (by decide) (by decide) ?_
  refine x_dup hg dX11_init_45 rfl ?_
  refine x_cI hg ha [] [_, _] he dX11_init_46 mi_X11_27 (c_X8_init l b D cy (q := 31) (Or.inr rfl) (fun a h f => by rw [mu_nc (by omega)]) (fun a h f => rG_z (by omega) (by omega))) rfl rfl (Nat.le_of_ble_eq_true rfl) (by decide) (by decide) (fun M46 q46 => ?_)
  replace q46 := q46.symm
  subst q46
  refine x_putR hg dX11_init_49 fl_X11_32 ft_11_3 ⟨by omega, by omega, by decide⟩ rfl (by decide) ?_
  refine x_sameR (R' := rG 56 4) (sameB_ok (by decide +kernel)) ?_
  refine x_aload_n hg dX11_init_52 rfl ?_
  refine x_new hg dX11_init_53 nw_X11_35 (by decide) (fun f => rfl) (fun f => rfl) (by decide) (by decide) ?_
  refine x_dup hg dX11_init_56 rfl ?_
  refine x_cI hg ha [] [_, _] he dX11_init_57 mi_X11_37 (c_X2_init l b D cy (fun a h f => by rw [mu_nc (by omega)]) (fun a h f => rG_z (by omega) (by omega))) rfl rfl (Nat.le_of_ble_eq_true rfl) (by decide) (by decide) (fun M57 q57 => ?_)
  obtain ⟨hIC, hfr57, h58⟩ := q57
  have hz57 : ∀ a, 62 < a → ∀ f, M57 a f = 0 := fun a h f => by rw [hfr57 a (by omega) (by omega) (by omega) (by omega), mu_nc (by omega)]
  refine x_putF hg hr rfl dX11_init_60 ff_X11_38 ⟨by omega, by omega, by decide⟩ rfl (by decide) ?_
  refine x_sameR (R' := rG 62 5) (sameB_ok (by decide +kernel)) ?_
  refine x_aload_n hg dX11_init_63 rfl ?_
  refine x_new hg dX11_init_64 nw_X11_42 (by decide) (fun f => hz57 _ (by omega) f) (fun f => rfl) (by decide) (by decide) ?_
  refine x_dup hg dX11_init_67 rfl ?_
  refine x_aload_n hg dX11_init_68 rfl ?_
  refine x_getR (j9 := 57) hg dX11_init_69 fl_X11_38 ⟨by omega, by omega, by decide⟩ rfl rfl (by decide) ?_
  refine x_cI hg ha [_] [_, _] he dX11_init_72 mi_X11_44 (c_X10_init l b D cy (fun a h f => hz57 a (by omega) f) (fun a h f => rG_z (by omega) (by omega))) rfl rfl (Nat.le_of_ble_eq_true rfl) (by decide) (by decide) (fun M72 q72 => ?_)
  replace q72 := q72.symm
  subst q72
  refine x_putF hg hr rfl dX11_init_75 ff_X11_47 ⟨by omega, by omega, by decide⟩ rfl (by decide) ?_
  refine x_sameR (R' := rG 67 6) (sameB_ok (by decide +kernel)) ?_
  refine x_aload_n hg dX11_init_78 rfl ?_
  refine x_new hg dX11_init_79 nw_X11_51 (by decide) (fun f => hz57 _ (by omega) f) (fun f => rfl) (by decide) (by decide) ?_
  refine x_dup hg dX11_init_82 rfl ?_
  refine x_aload_n hg dX11_init_83 rfl ?_
  refine x_getR (j9 := 63) hg dX11_init_84 fl_X11_47 ⟨by omega, by omega, by decide⟩ rfl rfl (by decide) ?_
  refine x_cI hg ha [_] [_, _] he dX11_init_87 mi_X11_53 (c_X4_init l b D cy (fun a h f => hz57 a (by omega) f) (fun a h f => rG_z (by omega) (by omega))) rfl rfl (Nat.le_of_ble_eq_true rfl) (by decide) (by decide) (fun M87 q87 => ?_)
  replace q87 := q87.symm
  subst q87
  refine x_putF hg hr rfl dX11_init_90 ff_X11_56 ⟨by omega, by omega, by decide⟩ rfl (by decide) ?_
  refine x_sameR (R' := rG 83 7) (sameB_ok (by decide +kernel)) ?_
  refine x_aload_n hg dX11_init_93 rfl ?_
  refine x_iconst hg dX11_init_94 ?_
  refine x_putZ hg dX11_init_95 fl_X11_60 ft_11_7 ⟨by omega, by omega, by decide⟩ rfl (by first | exact Or.inl rfl | exact Or.inr rfl | omega) ?_
  refine x_aload_n hg dX11_init_98 rfl ?_
  refine x_sipush hg dX11_init_99 (by decide) ?_
  refine x_putI hg dX11_init_102 fl_X11_64 ft_11_8 ⟨by omega, by omega, by decide⟩ rfl ?_
  refine main _ (fun a h f => by rw [mu_nc (by omega), mu_nc (by omega)]; exact hz57 a h f) ⟨IC_congr hIC (fun a h1 h2 => ?_), fun a h0 h1 h2 => ?_⟩
  · funext f
    rw [cM_n (by omega), cM_n (by omega), mu_nc (by omega), mu_nc (by omega)]
  · funext f
    by_cases e1 : a = 1
    · subst e1
      rw [cM_n (by omega), cM_n (by omega)]
      unfold m0c
      rw [if_pos rfl]
      by_cases e8 : f = 8
      · subst e8; rw [mu_s]; rfl
      · rw [mu_nf e8]
        by_cases e7 : f = 7
        · subst e7; rw [mu_s]; rfl
        · rw [mu_nf e7, if_neg e7, if_neg e8, hfr57 1 (by decide) (by decide) (by decide) (by decide)]; rfl
    · have eM : mu (mu M57 1 7 1) 1 8 1000 a f = M57 a f := by rw [mu_nc e1, mu_nc e1]
      by_cases e58 : a = 58
      · subst e58
        rw [cM_n (by omega), cM_n (by omega), eM, h58 f]
        unfold m0c
        by_cases e24 : f < 24
        · rw [if_pos e24, if_neg (by omega), if_neg (by omega), if_pos (by omega)]
        · rw [if_neg e24, if_neg (by omega), if_neg (by omega), if_neg (by omega), if_neg (by omega), if_neg (by omega)]
      · have eM2 : M57 a f = if a = 4 ∧ f = 7 then -1 else 0 := by
          rw [hfr57 a e58 h0 h1 h2]; rfl
        unfold cM
        rw [eM, eM2]
        unfold m0c
        rw [if_neg e1]
        by_cases e4 : a = 4 ∧ f = 7
        · rw [if_pos e4, if_pos e4, if_neg (by omega), if_neg (by omega)]
        · rw [if_neg e4, if_neg e4, if_neg (show ¬ (a = 58 ∧ f < 24) from fun z => e58 z.1)]
          by_cases e9 : 85 ≤ a ∧ a ≤ 94 ∧ f = 4
          · rw [if_neg (by omega), if_pos (by omega), if_pos e9]
          · rw [if_neg e9]
            by_cases e10 : 142 ≤ a ∧ a ≤ 171 ∧ f = 3
            · rw [if_pos (by omega), if_pos e10]
            · rw [if_neg (by omega), if_neg (by omega), if_neg e10]
