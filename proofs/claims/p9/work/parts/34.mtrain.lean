/-! ===== the model reads trains ===== -/
/-- what holds while a train is read: from M on -/
def RT (M' M : xMm) : Prop := JM M' ∧ MR M' ∧ frX M' M ∧ M' 172 18 = M 172 18 ∧ M' 172 19 = M 172 19 ∧ M' 180 = M 180 ∧ (M' 172 4 = 0 → M 172 4 = 0)
theorem RT.J {M' M : xMm} (h : RT M' M) : JM M' := h.1
theorem RT.R {M' M : xMm} (h : RT M' M) : MR M' := h.2.1
theorem RT.X {M' M : xMm} (h : RT M' M) : frX M' M := h.2.2.1
theorem RT.bk {M' M : xMm} (h : RT M' M) : M' 172 18 = M 172 18 := h.2.2.2.1
theorem RT.rb {M' M : xMm} (h : RT M' M) : M' 172 19 = M 172 19 := h.2.2.2.2.1
theorem RT.ma {M' M : xMm} (h : RT M' M) : M' 180 = M 180 := h.2.2.2.2.2.1
theorem RT.gd {M' M : xMm} (h : RT M' M) : (M' 172 4 = 0 → M 172 4 = 0) := h.2.2.2.2.2.2
theorem RT_rf {M : xMm} (h : JM M) (hR : MR M) : RT M M := ⟨h, hR, frX_rf M, rfl, rfl, rfl, fun h => h⟩
theorem RT_K {lo : Nat} {M2 M1 M : xMm} (h : RT M1 M) (hlo : 4 ≤ lo) (hJ : JM M2) (hk : frK lo M2 M1) (hg : M2 172 4 = 0 → M1 172 4 = 0) : RT M2 M :=
  ⟨hJ, MR_K (frK_lo hk hlo) h.R, frX_tr (frX_K hk) h.X, by rw [hk.2 18 (by omega)]; exact h.bk, by rw [hk.2 19 (by omega)]; exact h.rb, by rw [hk.1 180 (by decide)]; exact h.ma, fun e => h.gd (hg e)⟩
theorem RT_mu {M1 M : xMm} (h : RT M1 M) {a i : Nat} {z : Int} (hz : a = 175 ∧ inL z ∨ a = 176 ∧ (0 ≤ z ∧ z ≤ 9999) ∨ a = 177 ∧ z = 0) : RT (mu M1 a i z) M :=
  ⟨JM_mu h.J (by omega), MR_mu h.R (by omega), frX_mu h.X (by omega), by rw [mu_nc (by omega)]; exact h.bk, by rw [mu_nc (by omega)]; exact h.rb, by rw [← h.ma]; funext c; exact mu_nc (by omega), fun e => h.gd (by rw [mu_nc (by omega)] at e; exact e)⟩
theorem JM_F {M2 M1 : xMm} (h : JM M1) (hJ : JN M2) (hk : frK 4 M2 M1) (hq : ∀ f, 5 < f → M2 172 f = M1 172 f) : JM M2 :=
  ⟨hJ, by rw [hq 6 (by omega), hk.2 3 (by omega)]; exact h.2.1, by rw [hq 7 (by omega), hk.2 3 (by omega)]; exact h.2.2⟩

theorem dX12_readTrain_0 : decode cX12_readTrain 0 = .ok (.aload_n 0, 1) := by decide +kernel
theorem dX12_readTrain_1 : decode cX12_readTrain 1 = .ok (.getfield 81, 3) := by decide +kernel
theorem dX12_readTrain_4 : decode cX12_readTrain 4 = .ok (.aload_n 0, 1) := by decide +kernel
theorem dX12_readTrain_5 : decode cX12_readTrain 5 = .ok (.getfield 78, 3) := by decide +kernel
theorem dX12_readTrain_8 : decode cX12_readTrain 8 = .ok (.iaload, 1) := by decide +kernel
theorem dX12_readTrain_9 : decode cX12_readTrain 9 = .ok (.bipush 8, 2) := by decide +kernel
theorem dX12_readTrain_11 : decode cX12_readTrain 11 = .ok (.if_icmp .ne 7, 3) := by decide +kernel
theorem dX12_readTrain_14 : decode cX12_readTrain 14 = .ok (.aload_n 0, 1) := by decide +kernel
theorem dX12_readTrain_15 : decode cX12_readTrain 15 = .ok (.invokevirtual 62, 3) := by decide +kernel
theorem dX12_readTrain_18 : decode cX12_readTrain 18 = .ok (.aload_n 0, 1) := by decide +kernel
theorem dX12_readTrain_19 : decode cX12_readTrain 19 = .ok (.ldc2_w 38, 3) := by decide +kernel
theorem dX12_readTrain_22 : decode cX12_readTrain 22 = .ok (.invokevirtual 91, 3) := by decide +kernel
theorem dX12_readTrain_25 : decode cX12_readTrain 25 = .ok (.aload_n 0, 1) := by decide +kernel
theorem dX12_readTrain_26 : decode cX12_readTrain 26 = .ok (.invokevirtual 54, 3) := by decide +kernel
theorem dX12_readTrain_29 : decode cX12_readTrain 29 = .ok (.ifCond .eq 15, 3) := by decide +kernel
theorem dX12_readTrain_32 : decode cX12_readTrain 32 = .ok (.aload_n 0, 1) := by decide +kernel
theorem dX12_readTrain_33 : decode cX12_readTrain 33 = .ok (.getfield 27, 3) := by decide +kernel
theorem dX12_readTrain_36 : decode cX12_readTrain 36 = .ok (.iconst 2, 1) := by decide +kernel
theorem dX12_readTrain_37 : decode cX12_readTrain 37 = .ok (.if_icmp .eq 7, 3) := by decide +kernel
theorem dX12_readTrain_40 : decode cX12_readTrain 40 = .ok (.aload_n 0, 1) := by decide +kernel
theorem dX12_readTrain_41 : decode cX12_readTrain 41 = .ok (.invokevirtual 62, 3) := by decide +kernel
theorem dX12_readTrain_44 : decode cX12_readTrain 44 = .ok (.aload_n 0, 1) := by decide +kernel
theorem dX12_readTrain_45 : decode cX12_readTrain 45 = .ok (.invokevirtual 54, 3) := by decide +kernel
theorem dX12_readTrain_48 : decode cX12_readTrain 48 = .ok (.ifCond .ne 4, 3) := by decide +kernel
theorem dX12_readTrain_51 : decode cX12_readTrain 51 = .ok (.return_, 1) := by decide +kernel
theorem dX12_readTrain_52 : decode cX12_readTrain 52 = .ok (.bipush 8, 2) := by decide +kernel
theorem dX12_readTrain_54 : decode cX12_readTrain 54 = .ok (.aload_n 0, 1) := by decide +kernel
theorem dX12_readTrain_55 : decode cX12_readTrain 55 = .ok (.getfield 78, 3) := by decide +kernel
theorem dX12_readTrain_58 : decode cX12_readTrain 58 = .ok (.imul, 1) := by decide +kernel
theorem dX12_readTrain_59 : decode cX12_readTrain 59 = .ok (.aload_n 0, 1) := by decide +kernel
theorem dX12_readTrain_60 : decode cX12_readTrain 60 = .ok (.getfield 81, 3) := by decide +kernel
theorem dX12_readTrain_63 : decode cX12_readTrain 63 = .ok (.aload_n 0, 1) := by decide +kernel
theorem dX12_readTrain_64 : decode cX12_readTrain 64 = .ok (.getfield 78, 3) := by decide +kernel
theorem dX12_readTrain_67 : decode cX12_readTrain 67 = .ok (.iaload, 1) := by decide +kernel
theorem dX12_readTrain_68 : decode cX12_readTrain 68 = .ok (.iadd, 1) := by decide +kernel
theorem dX12_readTrain_69 : decode cX12_readTrain 69 = .ok (.istore_n 1, 1) := by decide +kernel
theorem dX12_readTrain_70 : decode cX12_readTrain 70 = .ok (.bipush 8, 2) := by decide +kernel
theorem dX12_readTrain_72 : decode cX12_readTrain 72 = .ok (.aload_n 0, 1) := by decide +kernel
theorem dX12_readTrain_73 : decode cX12_readTrain 73 = .ok (.getfield 78, 3) := by decide +kernel
theorem dX12_readTrain_76 : decode cX12_readTrain 76 = .ok (.imul, 1) := by decide +kernel
theorem dX12_readTrain_77 : decode cX12_readTrain 77 = .ok (.istore_n 2, 1) := by decide +kernel
theorem dX12_readTrain_78 : decode cX12_readTrain 78 = .ok (.iload_n 2, 1) := by decide +kernel
theorem dX12_readTrain_79 : decode cX12_readTrain 79 = .ok (.iload_n 1, 1) := by decide +kernel
theorem dX12_readTrain_80 : decode cX12_readTrain 80 = .ok (.if_icmp .ge 32, 3) := by decide +kernel
theorem dX12_readTrain_83 : decode cX12_readTrain 83 = .ok (.aload_n 0, 1) := by decide +kernel
theorem dX12_readTrain_84 : decode cX12_readTrain 84 = .ok (.getfield 95, 3) := by decide +kernel
theorem dX12_readTrain_87 : decode cX12_readTrain 87 = .ok (.iload_n 2, 1) := by decide +kernel
theorem dX12_readTrain_88 : decode cX12_readTrain 88 = .ok (.laload, 1) := by decide +kernel
theorem dX12_readTrain_89 : decode cX12_readTrain 89 = .ok (.aload_n 0, 1) := by decide +kernel
theorem dX12_readTrain_90 : decode cX12_readTrain 90 = .ok (.getfield 34, 3) := by decide +kernel
theorem dX12_readTrain_93 : decode cX12_readTrain 93 = .ok (.lcmp, 1) := by decide +kernel
theorem dX12_readTrain_94 : decode cX12_readTrain 94 = .ok (.ifCond .ne 12, 3) := by decide +kernel
theorem dX12_readTrain_97 : decode cX12_readTrain 97 = .ok (.aload_n 0, 1) := by decide +kernel
theorem dX12_readTrain_98 : decode cX12_readTrain 98 = .ok (.iconst 3, 1) := by decide +kernel
theorem dX12_readTrain_99 : decode cX12_readTrain 99 = .ok (.aload_n 0, 1) := by decide +kernel
theorem dX12_readTrain_100 : decode cX12_readTrain 100 = .ok (.getfield 20, 3) := by decide +kernel
theorem dX12_readTrain_103 : decode cX12_readTrain 103 = .ok (.invokevirtual 50, 3) := by decide +kernel
theorem dX12_readTrain_106 : decode cX12_readTrain 106 = .ok (.iinc 2 1, 3) := by decide +kernel
theorem dX12_readTrain_109 : decode cX12_readTrain 109 = .ok (.goto (-31), 3) := by decide +kernel
theorem dX12_readTrain_112 : decode cX12_readTrain 112 = .ok (.aload_n 0, 1) := by decide +kernel
theorem dX12_readTrain_113 : decode cX12_readTrain 113 = .ok (.invokevirtual 54, 3) := by decide +kernel
theorem dX12_readTrain_116 : decode cX12_readTrain 116 = .ok (.ifCond .ne 4, 3) := by decide +kernel
theorem dX12_readTrain_119 : decode cX12_readTrain 119 = .ok (.return_, 1) := by decide +kernel
theorem dX12_readTrain_120 : decode cX12_readTrain 120 = .ok (.aload_n 0, 1) := by decide +kernel
theorem dX12_readTrain_121 : decode cX12_readTrain 121 = .ok (.getfield 95, 3) := by decide +kernel
theorem dX12_readTrain_124 : decode cX12_readTrain 124 = .ok (.iload_n 1, 1) := by decide +kernel
theorem dX12_readTrain_125 : decode cX12_readTrain 125 = .ok (.aload_n 0, 1) := by decide +kernel
theorem dX12_readTrain_126 : decode cX12_readTrain 126 = .ok (.getfield 34, 3) := by decide +kernel
theorem dX12_readTrain_129 : decode cX12_readTrain 129 = .ok (.lastore, 1) := by decide +kernel
theorem dX12_readTrain_130 : decode cX12_readTrain 130 = .ok (.aload_n 0, 1) := by decide +kernel
theorem dX12_readTrain_131 : decode cX12_readTrain 131 = .ok (.invokevirtual 58, 3) := by decide +kernel
theorem dX12_readTrain_134 : decode cX12_readTrain 134 = .ok (.aload_n 0, 1) := by decide +kernel
theorem dX12_readTrain_135 : decode cX12_readTrain 135 = .ok (.ldc2_w 40, 3) := by decide +kernel
theorem dX12_readTrain_138 : decode cX12_readTrain 138 = .ok (.invokevirtual 91, 3) := by decide +kernel
theorem dX12_readTrain_141 : decode cX12_readTrain 141 = .ok (.aload_n 0, 1) := by decide +kernel
theorem dX12_readTrain_142 : decode cX12_readTrain 142 = .ok (.getfield 99, 3) := by decide +kernel
theorem dX12_readTrain_145 : decode cX12_readTrain 145 = .ok (.iload_n 1, 1) := by decide +kernel
theorem dX12_readTrain_146 : decode cX12_readTrain 146 = .ok (.aload_n 0, 1) := by decide +kernel
theorem dX12_readTrain_147 : decode cX12_readTrain 147 = .ok (.bipush 99, 2) := by decide +kernel
theorem dX12_readTrain_149 : decode cX12_readTrain 149 = .ok (.invokevirtual 102, 3) := by decide +kernel
theorem dX12_readTrain_152 : decode cX12_readTrain 152 = .ok (.iastore, 1) := by decide +kernel
theorem dX12_readTrain_153 : decode cX12_readTrain 153 = .ok (.aload_n 0, 1) := by decide +kernel
theorem dX12_readTrain_154 : decode cX12_readTrain 154 = .ok (.aload_n 0, 1) := by decide +kernel
theorem dX12_readTrain_155 : decode cX12_readTrain 155 = .ok (.bipush 58, 2) := by decide +kernel
theorem dX12_readTrain_157 : decode cX12_readTrain 157 = .ok (.invokevirtual 105, 3) := by decide +kernel
theorem dX12_readTrain_160 : decode cX12_readTrain 160 = .ok (.invokevirtual 65, 3) := by decide +kernel
theorem dX12_readTrain_163 : decode cX12_readTrain 163 = .ok (.aload_n 0, 1) := by decide +kernel
theorem dX12_readTrain_164 : decode cX12_readTrain 164 = .ok (.getfield 108, 3) := by decide +kernel
theorem dX12_readTrain_167 : decode cX12_readTrain 167 = .ok (.iload_n 1, 1) := by decide +kernel
theorem dX12_readTrain_168 : decode cX12_readTrain 168 = .ok (.iconst 0, 1) := by decide +kernel
theorem dX12_readTrain_169 : decode cX12_readTrain 169 = .ok (.iastore, 1) := by decide +kernel
theorem dX12_readTrain_170 : decode cX12_readTrain 170 = .ok (.iconst 1, 1) := by decide +kernel
theorem dX12_readTrain_171 : decode cX12_readTrain 171 = .ok (.istore_n 2, 1) := by decide +kernel
theorem dX12_readTrain_172 : decode cX12_readTrain 172 = .ok (.iload_n 2, 1) := by decide +kernel
theorem dX12_readTrain_173 : decode cX12_readTrain 173 = .ok (.ifCond .eq 64, 3) := by decide +kernel
theorem dX12_readTrain_176 : decode cX12_readTrain 176 = .ok (.aload_n 0, 1) := by decide +kernel
theorem dX12_readTrain_177 : decode cX12_readTrain 177 = .ok (.invokevirtual 54, 3) := by decide +kernel
theorem dX12_readTrain_180 : decode cX12_readTrain 180 = .ok (.ifCond .eq 57, 3) := by decide +kernel
theorem dX12_readTrain_183 : decode cX12_readTrain 183 = .ok (.aload_n 0, 1) := by decide +kernel
theorem dX12_readTrain_184 : decode cX12_readTrain 184 = .ok (.iload_n 1, 1) := by decide +kernel
theorem dX12_readTrain_185 : decode cX12_readTrain 185 = .ok (.invokevirtual 111, 3) := by decide +kernel
theorem dX12_readTrain_188 : decode cX12_readTrain 188 = .ok (.aload_n 0, 1) := by decide +kernel
theorem dX12_readTrain_189 : decode cX12_readTrain 189 = .ok (.invokevirtual 54, 3) := by decide +kernel
theorem dX12_readTrain_192 : decode cX12_readTrain 192 = .ok (.ifCond .eq 26, 3) := by decide +kernel
theorem dX12_readTrain_195 : decode cX12_readTrain 195 = .ok (.aload_n 0, 1) := by decide +kernel
theorem dX12_readTrain_196 : decode cX12_readTrain 196 = .ok (.bipush 44, 2) := by decide +kernel
theorem dX12_readTrain_198 : decode cX12_readTrain 198 = .ok (.invokevirtual 105, 3) := by decide +kernel
theorem dX12_readTrain_201 : decode cX12_readTrain 201 = .ok (.ifCond .ne 13, 3) := by decide +kernel
theorem dX12_readTrain_204 : decode cX12_readTrain 204 = .ok (.aload_n 0, 1) := by decide +kernel
theorem dX12_readTrain_205 : decode cX12_readTrain 205 = .ok (.getfield 108, 3) := by decide +kernel
theorem dX12_readTrain_208 : decode cX12_readTrain 208 = .ok (.iload_n 1, 1) := by decide +kernel
theorem dX12_readTrain_209 : decode cX12_readTrain 209 = .ok (.iaload, 1) := by decide +kernel
theorem dX12_readTrain_210 : decode cX12_readTrain 210 = .ok (.iconst 2, 1) := by decide +kernel
theorem dX12_readTrain_211 : decode cX12_readTrain 211 = .ok (.if_icmp .ge 7, 3) := by decide +kernel
theorem dX12_readTrain_214 : decode cX12_readTrain 214 = .ok (.iconst 1, 1) := by decide +kernel
theorem dX12_readTrain_215 : decode cX12_readTrain 215 = .ok (.goto 4, 3) := by decide +kernel
theorem dX12_readTrain_218 : decode cX12_readTrain 218 = .ok (.iconst 0, 1) := by decide +kernel
theorem dX12_readTrain_219 : decode cX12_readTrain 219 = .ok (.istore_n 2, 1) := by decide +kernel
theorem dX12_readTrain_220 : decode cX12_readTrain 220 = .ok (.iload_n 2, 1) := by decide +kernel
theorem dX12_readTrain_221 : decode cX12_readTrain 221 = .ok (.ifCond .eq (-49), 3) := by decide +kernel
theorem dX12_readTrain_224 : decode cX12_readTrain 224 = .ok (.aload_n 0, 1) := by decide +kernel
theorem dX12_readTrain_225 : decode cX12_readTrain 225 = .ok (.aload_n 0, 1) := by decide +kernel
theorem dX12_readTrain_226 : decode cX12_readTrain 226 = .ok (.bipush 44, 2) := by decide +kernel
theorem dX12_readTrain_228 : decode cX12_readTrain 228 = .ok (.invokevirtual 105, 3) := by decide +kernel
theorem dX12_readTrain_231 : decode cX12_readTrain 231 = .ok (.invokevirtual 65, 3) := by decide +kernel
theorem dX12_readTrain_234 : decode cX12_readTrain 234 = .ok (.goto (-62), 3) := by decide +kernel
theorem dX12_readTrain_237 : decode cX12_readTrain 237 = .ok (.aload_n 0, 1) := by decide +kernel
theorem dX12_readTrain_238 : decode cX12_readTrain 238 = .ok (.aload_n 0, 1) := by decide +kernel
theorem dX12_readTrain_239 : decode cX12_readTrain 239 = .ok (.bipush 59, 2) := by decide +kernel
theorem dX12_readTrain_241 : decode cX12_readTrain 241 = .ok (.invokevirtual 105, 3) := by decide +kernel
theorem dX12_readTrain_244 : decode cX12_readTrain 244 = .ok (.invokevirtual 65, 3) := by decide +kernel
theorem dX12_readTrain_247 : decode cX12_readTrain 247 = .ok (.aload_n 0, 1) := by decide +kernel
theorem dX12_readTrain_248 : decode cX12_readTrain 248 = .ok (.getfield 81, 3) := by decide +kernel
theorem dX12_readTrain_251 : decode cX12_readTrain 251 = .ok (.aload_n 0, 1) := by decide +kernel
theorem dX12_readTrain_252 : decode cX12_readTrain 252 = .ok (.getfield 78, 3) := by decide +kernel
theorem dX12_readTrain_255 : decode cX12_readTrain 255 = .ok (.dup2, 1) := by decide +kernel
theorem dX12_readTrain_256 : decode cX12_readTrain 256 = .ok (.iaload, 1) := by decide +kernel
theorem dX12_readTrain_257 : decode cX12_readTrain 257 = .ok (.iconst 1, 1) := by decide +kernel
theorem dX12_readTrain_258 : decode cX12_readTrain 258 = .ok (.iadd, 1) := by decide +kernel
theorem dX12_readTrain_259 : decode cX12_readTrain 259 = .ok (.iastore, 1) := by decide +kernel
theorem dX12_readTrain_260 : decode cX12_readTrain 260 = .ok (.return_, 1) := by decide +kernel
set_option maxHeartbeats 4000000 in
set_option maxRecDepth 20000 in
theorem c_X12_readTrain (l : Launch) (b : Nat) (D : va_G) (cy : Nat → ClassId) {tt : Nat} {M : xMm}  (hJ : JM M) (hR : MR M) (hrb : 0 ≤ M 172 19 ∧ M 172 19 ≤ 1) : xC l b D cy yX12_readTrain cX12_readTrain 3 none ({ frames := 5, cells := 0, slots := 0, locals := 112 }) [xr 172] 209 M (RS tt) (xPv 209 (RS tt) (fun M' => JM M' ∧ MR M' ∧ frX M' M ∧ M' 172 18 = M 172 18 ∧ M' 172 19 = M 172 19 ∧ (M' 172 4 = 0 → M 172 4 = 0 ∧ M' 180 (M 172 19).toNat = M 180 (M 172 19).toNat + 1))) := by
  refine x_met (by decide) (Nat.le_of_ble_eq_true rfl) (fun g hg hr he => ?_)
  refine x_canon (ls' := [(0, _)]) rfl ?_
  have T0 := RT_rf hJ hR
  have hma := hR.2.1 (M 172 19).toNat (by omega)
  have j237 : ∀ (M1 : xMm) (t m : Int), RT M1 M → t = 8 * M 172 19 + M 180 (M 172 19).toNat → M 180 (M 172 19).toNat < 8 → xW g 209 M1 (RS tt) 0 0 237 [(0, xr 172), (1, xi t), (2, xi m)] [] := by
    intro M1 t m T1 et h8
    have hJ1 := T1.J
    refine x_aload_n hg dX12_readTrain_237 rfl ?_
    refine x_aload_n hg dX12_readTrain_238 rfl ?_
    refine x_bipush hg dX12_readTrain_239 (by decide) ?_
    refine x_cVi hg he [_] [_] dX12_readTrain_241 mv_X12_105 (c_X12_is l b D cy hJ1 (by decide)) (by decide) rfl rfl (Nat.le_of_ble_eq_true rfl) (by decide) (by decide) (fun r241 M241 q241 => ?_)
    obtain ⟨h241, e241⟩ := q241
    replace h241 := h241.symm
    subst h241
    refine x_cVv hg he [_] [] dX12_readTrain_244 mv_X12_65 (c_X12_must l b D cy hJ1 (by omega)) (by decide) rfl rfl (Nat.le_of_ble_eq_true rfl) (by decide) (by decide) (fun M244 q244 => ?_)
    obtain ⟨hJ244, hg244, hk244⟩ := q244
    have T2 := RT_K T1 (Nat.le_refl 4) hJ244 hk244 hg244
    have e19 := T2.rb
    have e180 := T2.ma
    refine x_aload_n hg dX12_readTrain_247 rfl ?_
    refine x_getR (j9 := 180) hg dX12_readTrain_248 fl_X12_81 (by decide) rfl rfl (by decide) ?_
    have he9 : 0 ≤ M244 172 19 ∧ M244 172 19 ≤ 1 := by omega
    refine x_aload_n hg dX12_readTrain_251 rfl ?_
    refine x_getI hg dX12_readTrain_252 fl_X12_78 (by decide) rfl ?_
    refine x_dup2 hg dX12_readTrain_255 rfl rfl ?_
    refine x_iaload (len := 2) hg dX12_readTrain_256 (by decide) (by omega) ?_
    refine x_iconst hg dX12_readTrain_257 ?_
    refine x_iadd hg dX12_readTrain_258 ?_
    refine x_iastore (len := 2) hg dX12_readTrain_259 (by decide) (by omega)  ?_
    refine x_vret hg hr dX12_readTrain_260 (Nat.le_refl _) (Nat.le_refl _) ?_
    simp only [e19, e180]
    refine ⟨rfl, rfl, rfl, JM_mu hJ244 (by decide), MR_mu T2.R (Or.inr (Or.inr (Or.inl ⟨rfl, by omega⟩))), frX_mu T2.X (by decide), by rw [mu_nc (by decide)]; exact T2.bk, by rw [mu_nc (by decide)]; exact T2.rb, fun h => ?_⟩
    rw [mu_nc (by decide)] at h
    exact ⟨T2.gd h, by rw [mu_s]⟩
  have j172x : ∀ (M1 : xMm) (t m : Int), RT M1 M → t = 8 * M 172 19 + M 180 (M 172 19).toNat → M 180 (M 172 19).toNat < 8 → (m = 0 ∨ m = 1) → (m = 0 ∨ ¬ M1 172 4 = 0) → xW g 209 M1 (RS tt) 0 0 172 [(0, xr 172), (1, xi t), (2, xi m)] [] := by
    intro M1 t m T1 et h8 hm hx
    have hJ1 := T1.J
    refine x_iload_n hg dX12_readTrain_172 rfl ?_
    refine x_if_eq (tgt := 237) hg dX12_readTrain_173 (by decide) (by omega) (fun c173 => ?_) (fun c173 => ?_)
    · skip
      exact j237 M1 t m T1 et h8
    · skip
      refine x_aload_n hg dX12_readTrain_176 rfl ?_
      refine x_cVi hg he [] [] dX12_readTrain_177 mv_X12_54 (c_X12_isGood l b D cy hJ1.1) (by decide) rfl rfl (Nat.le_of_ble_eq_true rfl) (by decide) (by decide) (fun r177 M177 q177 => ?_)
      obtain ⟨h177, e177⟩ := q177
      replace h177 := h177.symm
      subst h177
      refine x_if_eq (tgt := 237) hg dX12_readTrain_180 (by decide) (by omega) (fun c180 => ?_) (fun c180 => ?_)
      · skip
        exact j237 M1 t m T1 et h8
      · skip
        exfalso; omega
  have loop : ∀ (n1 : Nat) (M1 : xMm) (t m : Int), RT M1 M → t = 8 * M 172 19 + M 180 (M 172 19).toNat → M 180 (M 172 19).toNat < 8 → (m = 0 ∨ m = 1) → 9 - M1 177 t.toNat < n1 → xW g 209 M1 (RS tt) 0 0 172 [(0, xr 172), (1, xi t), (2, xi m)] [] := by
    intro n1
    induction n1 with
    | zero => intro M1 t m T1 et h8 hm hn; exfalso; have := (T1.R.2.2.2.1 t.toNat (by omega)).1; omega
    | succ n1 ih =>
      intro M1 t m T1 et h8 hm hn
      have hJ1 := T1.J
      have j219 : ∀ (M2 : xMm) (v : Int), RT M2 M → (M2 172 4 = 0 → 9 - M2 177 t.toNat < n1) → (v = 0 ∨ v = 1) → xW g 209 M2 (RS tt) 0 0 219 [(0, xr 172), (1, xi t), (2, xi m)] [xi v] := by
        intro M2 v T2 hn2 hv
        have hJ2 := T2.J
        refine x_istore_n (ls' := [(0, _), (1, _), (2, _)]) hg dX12_readTrain_219 rfl (by decide) rfl ?_
        refine x_iload_n hg dX12_readTrain_220 rfl ?_
        refine x_if_eq (tgt := 172) hg dX12_readTrain_221 (by decide) (by omega) (fun c221 => ?_) (fun c221 => ?_)
        · skip
          first
            | exact j172x M2 t v T2 et h8 hv (Or.inl (by omega))
            | (have T3 := RT_K T2 (Nat.le_refl 4) hJ231 hk231 hg231
               by_cases hgd : M231 172 4 = 0
               · exact ih M231 t v T3 et h8 hv (by rw [hk231.1 177 (by decide)]; exact hn2 (hg231 hgd))
               · exact j172x M231 t v T3 et h8 hv (Or.inr hgd))
        · skip
          refine x_aload_n hg dX12_readTrain_224 rfl ?_
          refine x_aload_n hg dX12_readTrain_225 rfl ?_
          refine x_bipush hg dX12_readTrain_226 (by decide) ?_
          refine x_cVi hg he [_] [_] dX12_readTrain_228 mv_X12_105 (c_X12_is l b D cy hJ2 (by decide)) (by decide) rfl rfl (Nat.le_of_ble_eq_true rfl) (by decide) (by decide) (fun r228 M228 q228 => ?_)
          obtain ⟨h228, e228⟩ := q228
          replace h228 := h228.symm
          subst h228
          refine x_cVv hg he [_] [] dX12_readTrain_231 mv_X12_65 (c_X12_must l b D cy hJ2 (by omega)) (by decide) rfl rfl (Nat.le_of_ble_eq_true rfl) (by decide) (by decide) (fun M231 q231 => ?_)
          obtain ⟨hJ231, hg231, hk231⟩ := q231
          refine x_goto (tgt := 172) hg dX12_readTrain_234 (by decide) ?_
          first
            | exact j172x M2 t v T2 et h8 hv (Or.inl (by omega))
            | (have T3 := RT_K T2 (Nat.le_refl 4) hJ231 hk231 hg231
               by_cases hgd : M231 172 4 = 0
               · exact ih M231 t v T3 et h8 hv (by rw [hk231.1 177 (by decide)]; exact hn2 (hg231 hgd))
               · exact j172x M231 t v T3 et h8 hv (Or.inr hgd))
      refine x_iload_n hg dX12_readTrain_172 rfl ?_
      refine x_if_eq (tgt := 237) hg dX12_readTrain_173 (by decide) (by omega) (fun c173 => ?_) (fun c173 => ?_)
      · skip
        exact j237 M1 t m T1 et h8
      · skip
        refine x_aload_n hg dX12_readTrain_176 rfl ?_
        refine x_cVi hg he [] [] dX12_readTrain_177 mv_X12_54 (c_X12_isGood l b D cy hJ1.1) (by decide) rfl rfl (Nat.le_of_ble_eq_true rfl) (by decide) (by decide) (fun r177 M177 q177 => ?_)
        obtain ⟨h177, e177⟩ := q177
        replace h177 := h177.symm
        subst h177
        refine x_if_eq (tgt := 237) hg dX12_readTrain_180 (by decide) (by omega) (fun c180 => ?_) (fun c180 => ?_)
        · skip
          exact j237 M1 t m T1 et h8
        · skip
          refine x_aload_n hg dX12_readTrain_183 rfl ?_
          refine x_iload_n hg dX12_readTrain_184 rfl ?_
          refine x_cVv hg he [_] [] dX12_readTrain_185 mv_X12_111 (c_X12_readStop l b D cy hJ1 T1.R (by omega)) (by decide) rfl rfl (Nat.le_of_ble_eq_true rfl) (by decide) (by decide) (fun M185 q185 => ?_)
          obtain ⟨hJ185, hR185, hg185, ht185, hf185, hb185, hrb185, hx185, hm185⟩ := q185
          have T4 : RT M185 M := ⟨hJ185, hR185, frX_tr hf185 T1.X, by rw [hb185]; exact T1.bk, by rw [hrb185]; exact T1.rb, by rw [hm185]; exact T1.ma, fun h => T1.gd (hg185 h)⟩
          have hst := (hR185.2.2.2.1 t.toNat (by omega)).1
          refine x_aload_n hg dX12_readTrain_188 rfl ?_
          refine x_cVi hg he [] [] dX12_readTrain_189 mv_X12_54 (c_X12_isGood l b D cy hJ185.1) (by decide) rfl rfl (Nat.le_of_ble_eq_true rfl) (by decide) (by decide) (fun r189 M189 q189 => ?_)
          obtain ⟨h189, e189⟩ := q189
          replace h189 := h189.symm
          subst h189
          refine x_if_eq (tgt := 218) hg dX12_readTrain_192 (by decide) (by omega) (fun c192 => ?_) (fun c192 => ?_)
          · skip
            refine x_iconst hg dX12_readTrain_218 ?_
            exact j219 M185 _ T4 (fun h => by rw [ht185 h]; omega) (by omega)
          · skip
            refine x_aload_n hg dX12_readTrain_195 rfl ?_
            refine x_bipush hg dX12_readTrain_196 (by decide) ?_
            refine x_cVi hg he [_] [] dX12_readTrain_198 mv_X12_105 (c_X12_is l b D cy hJ185 (by decide)) (by decide) rfl rfl (Nat.le_of_ble_eq_true rfl) (by decide) (by decide) (fun r198 M198 q198 => ?_)
            obtain ⟨h198, e198⟩ := q198
            replace h198 := h198.symm
            subst h198
            refine x_if_ne (tgt := 214) hg dX12_readTrain_201 (by decide) (by omega) (fun c201 => ?_) (fun c201 => ?_)
            · skip
              refine x_iconst hg dX12_readTrain_214 ?_
              refine x_goto (tgt := 219) hg dX12_readTrain_215 (by decide) ?_
              exact j219 M185 _ T4 (fun h => by rw [ht185 h]; omega) (by omega)
            · skip
              refine x_aload_n hg dX12_readTrain_204 rfl ?_
              refine x_getR (j9 := 177) hg dX12_readTrain_205 fl_X12_108 (by decide) rfl rfl (by decide) ?_
              refine x_iload_n hg dX12_readTrain_208 rfl ?_
              refine x_iaload (len := 16) hg dX12_readTrain_209 (by decide) (by omega) ?_
              refine x_iconst hg dX12_readTrain_210 ?_
              refine x_icmp_ge (tgt := 218) hg dX12_readTrain_211 (by decide) (by omega) (by omega) (fun c211 => ?_) (fun c211 => ?_)
              · skip
                refine x_iconst hg dX12_readTrain_218 ?_
                exact j219 M185 _ T4 (fun h => by rw [ht185 h]; omega) (by omega)
              · skip
                refine x_iconst hg dX12_readTrain_214 ?_
                refine x_goto (tgt := 219) hg dX12_readTrain_215 (by decide) ?_
                exact j219 M185 _ T4 (fun h => by rw [ht185 h]; omega) (by omega)
  have j112 : ∀ (M1 : xMm) (t k : Int), RT M1 M → t = 8 * M 172 19 + M 180 (M 172 19).toNat → M 180 (M 172 19).toNat < 8 → xW g 209 M1 (RS tt) 0 0 112 [(0, xr 172), (1, xi t), (2, xi k)] [] := by
    intro M1 t k T1 et h8
    have hJ1 := T1.J
    have hnm1 := hJ1.1.2.2.2.2.2
    refine x_aload_n hg dX12_readTrain_112 rfl ?_
    refine x_cVi hg he [] [] dX12_readTrain_113 mv_X12_54 (c_X12_isGood l b D cy hJ1.1) (by decide) rfl rfl (Nat.le_of_ble_eq_true rfl) (by decide) (by decide) (fun r113 M113 q113 => ?_)
    obtain ⟨h113, e113⟩ := q113
    replace h113 := h113.symm
    subst h113
    refine x_if_ne (tgt := 120) hg dX12_readTrain_116 (by decide) (by omega) (fun c116 => ?_) (fun c116 => ?_)
    · skip
      refine x_aload_n hg dX12_readTrain_120 rfl ?_
      refine x_getR (j9 := 175) hg dX12_readTrain_121 fl_X12_95 (by decide) rfl rfl (by decide) ?_
      refine x_iload_n hg dX12_readTrain_124 rfl ?_
      refine x_aload_n hg dX12_readTrain_125 rfl ?_
      refine x_getL hg dX12_readTrain_126 fl_X12_34 (by decide) rfl ?_
      refine x_lastore (len := 16) hg dX12_readTrain_129 (by decide) (by omega)  ?_
      have Ta := RT_mu (i := t.toNat) T1 (Or.inl ⟨rfl, hnm1⟩)
      refine x_aload_n hg dX12_readTrain_130 rfl ?_
      refine x_cVv hg he [] [] dX12_readTrain_131 mv_X12_58 (c_X12_next l b D cy Ta.J.1 Ta.J.2.2) (by decide) rfl rfl (Nat.le_of_ble_eq_true rfl) (by decide) (by decide) (fun M131 q131 => ?_)
      obtain ⟨hJ131, hk131⟩ := q131
      have Tb := RT_K Ta (by decide) hJ131 hk131 (fun h => by rw [hk131.2 4 (by omega)] at h; exact h)
      refine x_aload_n hg dX12_readTrain_134 rfl ?_
      refine x_ldc2 hg 27973166868030835 dX12_readTrain_135 (List.mem_of_getElem? (i := 830) (by decide +kernel)) ?_
      refine x_cVv hg he [_] [] dX12_readTrain_138 mv_X12_91 (c_X12_mustWord l b D cy hJ131 (by decide)) (by decide) rfl rfl (Nat.le_of_ble_eq_true rfl) (by decide) (by decide) (fun M138 q138 => ?_)
      obtain ⟨hJ138, hg138, hk138⟩ := q138
      have Tc := RT_K Tb (Nat.le_refl 4) hJ138 hk138 hg138
      refine x_aload_n hg dX12_readTrain_141 rfl ?_
      refine x_getR (j9 := 176) hg dX12_readTrain_142 fl_X12_99 (by decide) rfl rfl (by decide) ?_
      refine x_iload_n hg dX12_readTrain_145 rfl ?_
      refine x_aload_n hg dX12_readTrain_146 rfl ?_
      refine x_bipush hg dX12_readTrain_147 (by decide) ?_
      refine x_cVi hg he [_] [_, _] dX12_readTrain_149 mv_X12_102 (c_X12_numeral l b D cy hJ138 (by omega)) (by decide) rfl rfl (Nat.le_of_ble_eq_true rfl) (by decide) (by decide) (fun r149 M149 q149 => ?_)
      obtain ⟨hr149, hb149, hJ149, hg149, hk149⟩ := q149
      have Td := RT_K Tc (Nat.le_refl 4) hJ149 hk149 hg149
      refine x_iastore (len := 16) hg dX12_readTrain_152 (by decide) (by omega)  ?_
      have Te := RT_mu (i := t.toNat) Td (Or.inr (Or.inl ⟨rfl, hr149⟩))
      refine x_aload_n hg dX12_readTrain_153 rfl ?_
      refine x_aload_n hg dX12_readTrain_154 rfl ?_
      refine x_bipush hg dX12_readTrain_155 (by decide) ?_
      refine x_cVi hg he [_] [_] dX12_readTrain_157 mv_X12_105 (c_X12_is l b D cy Te.J (by decide)) (by decide) rfl rfl (Nat.le_of_ble_eq_true rfl) (by decide) (by decide) (fun r157 M157 q157 => ?_)
      obtain ⟨h157, e157⟩ := q157
      replace h157 := h157.symm
      subst h157
      refine x_cVv hg he [_] [] dX12_readTrain_160 mv_X12_65 (c_X12_must l b D cy Te.J (by omega)) (by decide) rfl rfl (Nat.le_of_ble_eq_true rfl) (by decide) (by decide) (fun M160 q160 => ?_)
      obtain ⟨hJ160, hg160, hk160⟩ := q160
      have Tf := RT_K Te (Nat.le_refl 4) hJ160 hk160 hg160
      refine x_aload_n hg dX12_readTrain_163 rfl ?_
      refine x_getR (j9 := 177) hg dX12_readTrain_164 fl_X12_108 (by decide) rfl rfl (by decide) ?_
      refine x_iload_n hg dX12_readTrain_167 rfl ?_
      refine x_iconst hg dX12_readTrain_168 ?_
      refine x_iastore (len := 16) hg dX12_readTrain_169 (by decide) (by omega)  ?_
      refine x_iconst hg dX12_readTrain_170 ?_
      refine x_istore_n (ls' := [(0, _), (1, _), (2, _)]) hg dX12_readTrain_171 rfl (by decide) rfl ?_
      refine x_canon (ls' := [(0, _), (1, _), (2, _)]) rfl ?_
      exact loop 10 _ t 1 (RT_mu (i := t.toNat) Tf (Or.inr (Or.inr ⟨rfl, rfl⟩))) et h8 (Or.inr rfl) (by rw [mu_s]; omega)
    · skip
      refine x_vret hg hr dX12_readTrain_119 (Nat.le_refl _) (Nat.le_refl _) ?_
      exact ⟨rfl, rfl, rfl, hJ1, T1.R, T1.X, T1.bk, T1.rb, fun h => absurd h (by omega)⟩
  have loop2 : ∀ (n1 : Nat) (M1 : xMm) (t k : Int), RT M1 M → t = 8 * M 172 19 + M 180 (M 172 19).toNat → M 180 (M 172 19).toNat < 8 → 0 ≤ k → k ≤ t → t - k < n1 → xW g 209 M1 (RS tt) 0 0 78 [(0, xr 172), (1, xi t), (2, xi k)] [] := by
    intro n1
    induction n1 with
    | zero => intro M1 t k T1 et h8 h0 h1 h2; exfalso; omega
    | succ n1 ih =>
      intro M1 t k T1 et h8 hk0 hk1 hk2
      have hJ1 := T1.J
      have hnm1 := hJ1.1.2.2.2.2.2
      refine x_iload_n hg dX12_readTrain_78 rfl ?_
      refine x_iload_n hg dX12_readTrain_79 rfl ?_
      refine x_icmp_ge (tgt := 112) hg dX12_readTrain_80 (by decide) (by omega) (by omega) (fun c80 => ?_) (fun c80 => ?_)
      · skip
        exact j112 M1 t k T1 et h8
      · skip
        refine x_aload_n hg dX12_readTrain_83 rfl ?_
        refine x_getR (j9 := 175) hg dX12_readTrain_84 fl_X12_95 (by decide) rfl rfl (by decide) ?_
        refine x_iload_n hg dX12_readTrain_87 rfl ?_
        refine x_laload (len := 16) hg dX12_readTrain_88 (by decide) (by omega) ?_
        refine x_aload_n hg dX12_readTrain_89 rfl ?_
        refine x_getL hg dX12_readTrain_90 fl_X12_34 (by decide) rfl ?_
        refine x_lcmp hg dX12_readTrain_93 (by exact (T1.R.2.2.2.1 k.toNat (by omega)).2.2) (by exact hnm1) ?_
        refine x_if_ne (tgt := 106) hg dX12_readTrain_94 (by decide) (by split <;> (try split) <;> omega) (fun c94 => ?_) (fun c94 => ?_)
        · skip
          refine x_iinc (ls' := [(0, _), (1, _), (2, _)]) hg dX12_readTrain_106 rfl (by decide) rfl ?_
          refine x_goto (tgt := 78) hg dX12_readTrain_109 (by decide) ?_
          first
            | exact ih M103 t _ (RT_K T1 (Nat.le_refl 4) (JM_F hJ1 hJ103 hk103 hq103) hk103 (fun h => absurd h (by omega))) et h8 (by omega) (by omega) (by omega)
            | exact ih M1 t _ T1 et h8 (by omega) (by omega) (by omega)
        · skip
          refine x_aload_n hg dX12_readTrain_97 rfl ?_
          refine x_iconst hg dX12_readTrain_98 ?_
          refine x_aload_n hg dX12_readTrain_99 rfl ?_
          refine x_getI hg dX12_readTrain_100 fl_X12_20 (by decide) rfl ?_
          refine x_cVv hg he [_, _] [] dX12_readTrain_103 mv_X12_50 (c_X12_fails l b D cy hJ1.1 (by omega)) (by decide) rfl rfl (Nat.le_of_ble_eq_true rfl) (by decide) (by decide) (fun M103 q103 => ?_)
          obtain ⟨hJ103, hg103, hk103, hq103⟩ := q103
          refine x_iinc (ls' := [(0, _), (1, _), (2, _)]) hg dX12_readTrain_106 rfl (by decide) rfl ?_
          refine x_goto (tgt := 78) hg dX12_readTrain_109 (by decide) ?_
          first
            | exact ih M103 t _ (RT_K T1 (Nat.le_refl 4) (JM_F hJ1 hJ103 hk103 hq103) hk103 (fun h => absurd h (by omega))) et h8 (by omega) (by omega) (by omega)
            | exact ih M1 t _ T1 et h8 (by omega) (by omega) (by omega)
  have j44 : ∀ (M1 : xMm), RT M1 M → (M1 172 4 = 0 → M 180 (M 172 19).toNat < 8) → xW g 209 M1 (RS tt) 0 0 44 [(0, xr 172)] [] := by
    intro M1 T1 h8
    have hJ1 := T1.J
    have e19 := T1.rb
    have e180 := T1.ma
    refine x_aload_n hg dX12_readTrain_44 rfl ?_
    refine x_cVi hg he [] [] dX12_readTrain_45 mv_X12_54 (c_X12_isGood l b D cy hJ1.1) (by decide) rfl rfl (Nat.le_of_ble_eq_true rfl) (by decide) (by decide) (fun r45 M45 q45 => ?_)
    obtain ⟨h45, e45⟩ := q45
    replace h45 := h45.symm
    subst h45
    refine x_if_ne (tgt := 52) hg dX12_readTrain_48 (by decide) (by omega) (fun c48 => ?_) (fun c48 => ?_)
    · skip
      have h8a := h8 (by omega)
      have he9 : 0 ≤ M1 172 19 ∧ M1 172 19 ≤ 1 := by omega
      refine x_bipush hg dX12_readTrain_52 (by decide) ?_
      refine x_aload_n hg dX12_readTrain_54 rfl ?_
      refine x_getI hg dX12_readTrain_55 fl_X12_78 (by decide) rfl ?_
      refine x_imul hg dX12_readTrain_58 ?_
      refine x_aload_n hg dX12_readTrain_59 rfl ?_
      refine x_getR (j9 := 180) hg dX12_readTrain_60 fl_X12_81 (by decide) rfl rfl (by decide) ?_
      refine x_aload_n hg dX12_readTrain_63 rfl ?_
      refine x_getI hg dX12_readTrain_64 fl_X12_78 (by decide) rfl ?_
      refine x_iaload (len := 2) hg dX12_readTrain_67 (by decide) (by omega) ?_
      refine x_iadd hg dX12_readTrain_68 ?_
      refine x_istore_n (ls' := [(0, _), (1, _)]) hg dX12_readTrain_69 rfl (by decide) rfl ?_
      refine x_bipush hg dX12_readTrain_70 (by decide) ?_
      refine x_aload_n hg dX12_readTrain_72 rfl ?_
      refine x_getI hg dX12_readTrain_73 fl_X12_78 (by decide) rfl ?_
      refine x_imul hg dX12_readTrain_76 ?_
      refine x_istore_n (ls' := [(0, _), (1, _), (2, _)]) hg dX12_readTrain_77 rfl (by decide) rfl ?_
      exact loop2 17 M1 _ _ T1 (by rw [e19, e180]) h8a (by omega) (by rw [e19, e180]; omega) (by rw [e19, e180]; omega)
    · skip
      refine x_vret hg hr dX12_readTrain_51 (Nat.le_refl _) (Nat.le_refl _) ?_
      exact ⟨rfl, rfl, rfl, hJ1, T1.R, T1.X, T1.bk, T1.rb, fun h => absurd h (by omega)⟩
  have j18 : ∀ (M1 : xMm), RT M1 M → (M1 172 4 = 0 → M 180 (M 172 19).toNat < 8) → xW g 209 M1 (RS tt) 0 0 18 [(0, xr 172)] [] := by
    intro M1 T1 h8
    have hJ1 := T1.J
    refine x_aload_n hg dX12_readTrain_18 rfl ?_
    refine x_ldc2 hg 500135192942 dX12_readTrain_19 (List.mem_of_getElem? (i := 829) (by decide +kernel)) ?_
    refine x_cVv hg he [_] [] dX12_readTrain_22 mv_X12_91 (c_X12_mustWord l b D cy hJ1 (by decide)) (by decide) rfl rfl (Nat.le_of_ble_eq_true rfl) (by decide) (by decide) (fun M22 q22 => ?_)
    obtain ⟨hJ22, hg22, hk22⟩ := q22
    have T2 := RT_K T1 (Nat.le_refl 4) hJ22 hk22 hg22
    have h822 := hJ22.1.2.2.2.1
    refine x_aload_n hg dX12_readTrain_25 rfl ?_
    refine x_cVi hg he [] [] dX12_readTrain_26 mv_X12_54 (c_X12_isGood l b D cy hJ22.1) (by decide) rfl rfl (Nat.le_of_ble_eq_true rfl) (by decide) (by decide) (fun r26 M26 q26 => ?_)
    obtain ⟨h26, e26⟩ := q26
    replace h26 := h26.symm
    subst h26
    refine x_if_eq (tgt := 44) hg dX12_readTrain_29 (by decide) (by omega) (fun c29 => ?_) (fun c29 => ?_)
    · skip
      first
        | exact j44 M22 T2 (fun h => h8 (hg22 h))
        | exact j44 M41 (RT_K T2 (Nat.le_refl 4) hJ41 hk41 (fun h => absurd h (by omega))) (fun h => absurd h (by omega))
    · skip
      refine x_aload_n hg dX12_readTrain_32 rfl ?_
      refine x_getI hg dX12_readTrain_33 fl_X12_27 (by decide) rfl ?_
      refine x_iconst hg dX12_readTrain_36 ?_
      refine x_icmp_eq (tgt := 44) hg dX12_readTrain_37 (by decide) (by omega) (by omega) (fun c37 => ?_) (fun c37 => ?_)
      · skip
        first
          | exact j44 M22 T2 (fun h => h8 (hg22 h))
          | exact j44 M41 (RT_K T2 (Nat.le_refl 4) hJ41 hk41 (fun h => absurd h (by omega))) (fun h => absurd h (by omega))
      · skip
        refine x_aload_n hg dX12_readTrain_40 rfl ?_
        refine x_cVv hg he [] [] dX12_readTrain_41 mv_X12_62 (c_X12_wrong l b D cy hJ22) (by decide) rfl rfl (Nat.le_of_ble_eq_true rfl) (by decide) (by decide) (fun M41 q41 => ?_)
        obtain ⟨hJ41, hg41, hk41⟩ := q41
        first
          | exact j44 M22 T2 (fun h => h8 (hg22 h))
          | exact j44 M41 (RT_K T2 (Nat.le_refl 4) hJ41 hk41 (fun h => absurd h (by omega))) (fun h => absurd h (by omega))
  refine x_aload_n hg dX12_readTrain_0 rfl ?_
  refine x_getR (j9 := 180) hg dX12_readTrain_1 fl_X12_81 (by decide) rfl rfl (by decide) ?_
  refine x_aload_n hg dX12_readTrain_4 rfl ?_
  refine x_getI hg dX12_readTrain_5 fl_X12_78 (by decide) rfl ?_
  refine x_iaload (len := 2) hg dX12_readTrain_8 (by decide) (by omega) ?_
  refine x_bipush hg dX12_readTrain_9 (by decide) ?_
  refine x_icmp_ne (tgt := 18) hg dX12_readTrain_11 (by decide) (by omega) (by omega) (fun c11 => ?_) (fun c11 => ?_)
  · skip
    first
      | exact j18 M T0 (fun h => by omega)
      | exact j18 M15 (RT_K T0 (Nat.le_refl 4) hJ15 hk15 (fun h => absurd h (by omega))) (fun h => absurd h (by omega))
  · skip
    refine x_aload_n hg dX12_readTrain_14 rfl ?_
    refine x_cVv hg he [] [] dX12_readTrain_15 mv_X12_62 (c_X12_wrong l b D cy hJ) (by decide) rfl rfl (Nat.le_of_ble_eq_true rfl) (by decide) (by decide) (fun M15 q15 => ?_)
    obtain ⟨hJ15, hg15, hk15⟩ := q15
    first
      | exact j18 M T0 (fun h => by omega)
      | exact j18 M15 (RT_K T0 (Nat.le_refl 4) hJ15 hk15 (fun h => absurd h (by omega))) (fun h => absurd h (by omega))
