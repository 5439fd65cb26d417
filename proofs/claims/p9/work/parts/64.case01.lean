/-! ===== the law, case by case (1) ===== -/
theorem dL_law_164 : decode cL_law 164 = .ok (.aload_n 1, 1) := by decide +kernel
theorem dL_law_165 : decode cL_law 165 = .ok (.aload_n 0, 1) := by decide +kernel
theorem dL_law_166 : decode cL_law 166 = .ok (.iload_n 3, 1) := by decide +kernel
theorem dL_law_167 : decode cL_law 167 = .ok (.iconst 1, 1) := by decide +kernel
theorem dL_law_168 : decode cL_law 168 = .ok (.iadd, 1) := by decide +kernel
theorem dL_law_169 : decode cL_law 169 = .ok (.iaload, 1) := by decide +kernel
theorem dL_law_170 : decode cL_law 170 = .ok (.aload_n 0, 1) := by decide +kernel
theorem dL_law_171 : decode cL_law 171 = .ok (.iload_n 3, 1) := by decide +kernel
theorem dL_law_172 : decode cL_law 172 = .ok (.iconst 2, 1) := by decide +kernel
theorem dL_law_173 : decode cL_law 173 = .ok (.iadd, 1) := by decide +kernel
theorem dL_law_174 : decode cL_law 174 = .ok (.iaload, 1) := by decide +kernel
theorem dL_law_175 : decode cL_law 175 = .ok (.aload_n 0, 1) := by decide +kernel
theorem dL_law_176 : decode cL_law 176 = .ok (.iload_n 3, 1) := by decide +kernel
theorem dL_law_177 : decode cL_law 177 = .ok (.iconst 3, 1) := by decide +kernel
theorem dL_law_178 : decode cL_law 178 = .ok (.iadd, 1) := by decide +kernel
theorem dL_law_179 : decode cL_law 179 = .ok (.iaload, 1) := by decide +kernel
theorem dL_law_180 : decode cL_law 180 = .ok (.aload_n 0, 1) := by decide +kernel
theorem dL_law_181 : decode cL_law 181 = .ok (.iload_n 3, 1) := by decide +kernel
theorem dL_law_182 : decode cL_law 182 = .ok (.iconst 4, 1) := by decide +kernel
theorem dL_law_183 : decode cL_law 183 = .ok (.iadd, 1) := by decide +kernel
theorem dL_law_184 : decode cL_law 184 = .ok (.iaload, 1) := by decide +kernel
theorem dL_law_185 : decode cL_law 185 = .ok (.aload_n 0, 1) := by decide +kernel
theorem dL_law_186 : decode cL_law 186 = .ok (.iload_n 3, 1) := by decide +kernel
theorem dL_law_187 : decode cL_law 187 = .ok (.iconst 5, 1) := by decide +kernel
theorem dL_law_188 : decode cL_law 188 = .ok (.iadd, 1) := by decide +kernel
theorem dL_law_189 : decode cL_law 189 = .ok (.iaload, 1) := by decide +kernel
theorem dL_law_190 : decode cL_law 190 = .ok (.invokevirtual 13, 3) := by decide +kernel
theorem dL_law_193 : decode cL_law 193 = .ok (.pop, 1) := by decide +kernel
theorem dL_law_194 : decode cL_law 194 = .ok (.aload_n 2, 1) := by decide +kernel
theorem dL_law_195 : decode cL_law 195 = .ok (.aload_n 0, 1) := by decide +kernel
theorem dL_law_196 : decode cL_law 196 = .ok (.iload_n 3, 1) := by decide +kernel
theorem dL_law_197 : decode cL_law 197 = .ok (.iconst 1, 1) := by decide +kernel
theorem dL_law_198 : decode cL_law 198 = .ok (.iadd, 1) := by decide +kernel
theorem dL_law_199 : decode cL_law 199 = .ok (.iaload, 1) := by decide +kernel
theorem dL_law_200 : decode cL_law 200 = .ok (.aload_n 0, 1) := by decide +kernel
theorem dL_law_201 : decode cL_law 201 = .ok (.iload_n 3, 1) := by decide +kernel
theorem dL_law_202 : decode cL_law 202 = .ok (.iconst 2, 1) := by decide +kernel
theorem dL_law_203 : decode cL_law 203 = .ok (.iadd, 1) := by decide +kernel
theorem dL_law_204 : decode cL_law 204 = .ok (.iaload, 1) := by decide +kernel
theorem dL_law_205 : decode cL_law 205 = .ok (.aload_n 0, 1) := by decide +kernel
theorem dL_law_206 : decode cL_law 206 = .ok (.iload_n 3, 1) := by decide +kernel
theorem dL_law_207 : decode cL_law 207 = .ok (.iconst 3, 1) := by decide +kernel
theorem dL_law_208 : decode cL_law 208 = .ok (.iadd, 1) := by decide +kernel
theorem dL_law_209 : decode cL_law 209 = .ok (.iaload, 1) := by decide +kernel
theorem dL_law_210 : decode cL_law 210 = .ok (.aload_n 0, 1) := by decide +kernel
theorem dL_law_211 : decode cL_law 211 = .ok (.iload_n 3, 1) := by decide +kernel
theorem dL_law_212 : decode cL_law 212 = .ok (.iconst 4, 1) := by decide +kernel
theorem dL_law_213 : decode cL_law 213 = .ok (.iadd, 1) := by decide +kernel
theorem dL_law_214 : decode cL_law 214 = .ok (.iaload, 1) := by decide +kernel
theorem dL_law_215 : decode cL_law 215 = .ok (.aload_n 0, 1) := by decide +kernel
theorem dL_law_216 : decode cL_law 216 = .ok (.iload_n 3, 1) := by decide +kernel
theorem dL_law_217 : decode cL_law 217 = .ok (.iconst 5, 1) := by decide +kernel
theorem dL_law_218 : decode cL_law 218 = .ok (.iadd, 1) := by decide +kernel
theorem dL_law_219 : decode cL_law 219 = .ok (.iaload, 1) := by decide +kernel
theorem dL_law_220 : decode cL_law 220 = .ok (.invokevirtual 17, 3) := by decide +kernel
theorem dL_law_223 : decode cL_law 223 = .ok (.pop, 1) := by decide +kernel
theorem dL_law_224 : decode cL_law 224 = .ok (.goto 823, 3) := by decide +kernel
set_option maxHeartbeats 4000000 in
set_option maxRecDepth 20000 in
theorem lk_feed {g : xGT} {l : Launch} {b : Nat} {D : va_G} {cy : Nat → ClassId} {a0 L : Nat} {xs : Nat → Int32} (hg : xG g cL_law RL rmL 4) (he : xE g l b D cy) (hX : yX g a0 L xs) (hL : L ≤ 3072) {i : Int} (hi : 0 ≤ i ∧ i + 6 ≤ (L : Int)) {tt : Nat} {M : xMm} (hz : IZ tt M) (K : ∀ (tt2 : Nat) (M2 : xMm), IZ tt2 M2 → yW g a0 209 M2 (RS tt2) 209 8807 1047 [(1, xr 1), (2, xr 172), (3, xi i)] []) : yW g a0 209 M (RS tt) 209 8807 164 [(1, xr 1), (2, xr 172), (3, xi i)] [] := by
  obtain ⟨hIO, hJG, hIC, hIR, hIW, hIL⟩ := id hz.2.1
  refine y_aload_n hg dL_law_164 rfl ?_
  refine y_arg hg hX dL_law_165 dL_law_166 dL_law_167 dL_law_168 dL_law_169 rfl (by omega) (by omega) ?_
  refine y_arg hg hX dL_law_170 dL_law_171 dL_law_172 dL_law_173 dL_law_174 rfl (by omega) (by omega) ?_
  refine y_arg hg hX dL_law_175 dL_law_176 dL_law_177 dL_law_178 dL_law_179 rfl (by omega) (by omega) ?_
  refine y_arg hg hX dL_law_180 dL_law_181 dL_law_182 dL_law_183 dL_law_184 rfl (by omega) (by omega) ?_
  refine y_arg hg hX dL_law_185 dL_law_186 dL_law_187 dL_law_188 dL_law_189 rfl (by omega) (by omega) ?_
  refine y_cVi hg he [_, _, _, _, _] [] dL_law_190 mv_L_13 (c_X11_feed l b D cy hJG.1) (by decide) rfl rfl (Nat.le_of_ble_eq_true rfl) (by decide) ⟨Nat.le_of_ble_eq_true rfl, Nat.le_of_ble_eq_true rfl⟩ (fun r1 M1 q1 => ?_)
  obtain ⟨hx1, hf1⟩ := sx_feed hz.2.1  q1
  have hy1 := IY_fr hz.2.2.1 hf1
  obtain ⟨hMO, hJN, hMR, hMC, hMW, hMK⟩ := id hy1
  refine y_pop hg dL_law_193 rfl ?_
  refine y_aload_n hg dL_law_194 rfl ?_
  refine y_arg hg hX dL_law_195 dL_law_196 dL_law_197 dL_law_198 dL_law_199 rfl (by omega) (by omega) ?_
  refine y_arg hg hX dL_law_200 dL_law_201 dL_law_202 dL_law_203 dL_law_204 rfl (by omega) (by omega) ?_
  refine y_arg hg hX dL_law_205 dL_law_206 dL_law_207 dL_law_208 dL_law_209 rfl (by omega) (by omega) ?_
  refine y_arg hg hX dL_law_210 dL_law_211 dL_law_212 dL_law_213 dL_law_214 rfl (by omega) (by omega) ?_
  refine y_arg hg hX dL_law_215 dL_law_216 dL_law_217 dL_law_218 dL_law_219 rfl (by omega) (by omega) ?_
  refine y_cVi hg he [_, _, _, _, _] [] dL_law_220 mv_L_17 (c_X12_feed l b D cy hJN.1) (by decide) rfl rfl (Nat.le_of_ble_eq_true rfl) (by decide) ⟨Nat.le_of_ble_eq_true rfl, Nat.le_of_ble_eq_true rfl⟩ (fun r2 M2 q2 => ?_)
  obtain ⟨hy2, hf2⟩ := sy_feed hy1  q2
  refine y_pop hg dL_law_223 rfl ?_
  refine y_goto (tgt := 1047) hg dL_law_224 (by decide) ?_
  exact K tt M2 ⟨hz.1, IX_fr hx1 hf2, hy2, rel_feed hz.2.1 hz.2.2.1 hz.2.2.2 hf1 q1 q2⟩
theorem dL_law_227 : decode cL_law 227 = .ok (.aload_n 1, 1) := by decide +kernel
theorem dL_law_228 : decode cL_law 228 = .ok (.aload_n 0, 1) := by decide +kernel
theorem dL_law_229 : decode cL_law 229 = .ok (.iload_n 3, 1) := by decide +kernel
theorem dL_law_230 : decode cL_law 230 = .ok (.iconst 1, 1) := by decide +kernel
theorem dL_law_231 : decode cL_law 231 = .ok (.iadd, 1) := by decide +kernel
theorem dL_law_232 : decode cL_law 232 = .ok (.iaload, 1) := by decide +kernel
theorem dL_law_233 : decode cL_law 233 = .ok (.invokevirtual 18, 3) := by decide +kernel
theorem dL_law_236 : decode cL_law 236 = .ok (.pop, 1) := by decide +kernel
theorem dL_law_237 : decode cL_law 237 = .ok (.aload_n 2, 1) := by decide +kernel
theorem dL_law_238 : decode cL_law 238 = .ok (.aload_n 0, 1) := by decide +kernel
theorem dL_law_239 : decode cL_law 239 = .ok (.iload_n 3, 1) := by decide +kernel
theorem dL_law_240 : decode cL_law 240 = .ok (.iconst 1, 1) := by decide +kernel
theorem dL_law_241 : decode cL_law 241 = .ok (.iadd, 1) := by decide +kernel
theorem dL_law_242 : decode cL_law 242 = .ok (.iaload, 1) := by decide +kernel
theorem dL_law_243 : decode cL_law 243 = .ok (.invokevirtual 22, 3) := by decide +kernel
theorem dL_law_246 : decode cL_law 246 = .ok (.pop, 1) := by decide +kernel
theorem dL_law_247 : decode cL_law 247 = .ok (.goto 800, 3) := by decide +kernel
set_option maxHeartbeats 4000000 in
set_option maxRecDepth 20000 in
theorem lk_end {g : xGT} {l : Launch} {b : Nat} {D : va_G} {cy : Nat → ClassId} {a0 L : Nat} {xs : Nat → Int32} (hg : xG g cL_law RL rmL 4) (he : xE g l b D cy) (hX : yX g a0 L xs) (hL : L ≤ 3072) {i : Int} (hi : 0 ≤ i ∧ i + 6 ≤ (L : Int)) {tt : Nat} {M : xMm} (hz : IZ tt M) (K : ∀ (tt2 : Nat) (M2 : xMm), IZ tt2 M2 → yW g a0 209 M2 (RS tt2) 209 8807 1047 [(1, xr 1), (2, xr 172), (3, xi i)] []) : yW g a0 209 M (RS tt) 209 8807 227 [(1, xr 1), (2, xr 172), (3, xi i)] [] := by
  obtain ⟨hIO, hJG, hIC, hIR, hIW, hIL⟩ := id hz.2.1
  refine y_aload_n hg dL_law_227 rfl ?_
  refine y_arg hg hX dL_law_228 dL_law_229 dL_law_230 dL_law_231 dL_law_232 rfl (by omega) (by omega) ?_
  refine y_cVi hg he [_] [] dL_law_233 mv_L_18 (c_X11_end l b D cy hJG.1 (xt_int _)) (by decide) rfl rfl (Nat.le_of_ble_eq_true rfl) (by decide) ⟨Nat.le_of_ble_eq_true rfl, Nat.le_of_ble_eq_true rfl⟩ (fun r1 M1 q1 => ?_)
  obtain ⟨hx1, hf1⟩ := sx_end hz.2.1  q1
  have hy1 := IY_fr hz.2.2.1 hf1
  obtain ⟨hMO, hJN, hMR, hMC, hMW, hMK⟩ := id hy1
  refine y_pop hg dL_law_236 rfl ?_
  refine y_aload_n hg dL_law_237 rfl ?_
  refine y_arg hg hX dL_law_238 dL_law_239 dL_law_240 dL_law_241 dL_law_242 rfl (by omega) (by omega) ?_
  refine y_cVi hg he [_] [] dL_law_243 mv_L_22 (c_X12_end l b D cy hJN.1 (xt_int _)) (by decide) rfl rfl (Nat.le_of_ble_eq_true rfl) (by decide) ⟨Nat.le_of_ble_eq_true rfl, Nat.le_of_ble_eq_true rfl⟩ (fun r2 M2 q2 => ?_)
  obtain ⟨hy2, hf2⟩ := sy_end hy1  q2
  refine y_pop hg dL_law_246 rfl ?_
  refine y_goto (tgt := 1047) hg dL_law_247 (by decide) ?_
  exact K tt M2 ⟨hz.1, IX_fr hx1 hf2, hy2, rel_end hz.2.1 hz.2.2.1 hz.2.2.2 hf1 q1 q2⟩
theorem dL_law_250 : decode cL_law 250 = .ok (.aload_n 1, 1) := by decide +kernel
theorem dL_law_251 : decode cL_law 251 = .ok (.invokevirtual 23, 3) := by decide +kernel
theorem dL_law_254 : decode cL_law 254 = .ok (.pop, 1) := by decide +kernel
theorem dL_law_255 : decode cL_law 255 = .ok (.aload_n 2, 1) := by decide +kernel
theorem dL_law_256 : decode cL_law 256 = .ok (.invokevirtual 27, 3) := by decide +kernel
theorem dL_law_259 : decode cL_law 259 = .ok (.pop, 1) := by decide +kernel
theorem dL_law_260 : decode cL_law 260 = .ok (.goto 787, 3) := by decide +kernel
set_option maxHeartbeats 4000000 in
set_option maxRecDepth 20000 in
theorem lk_timetable {g : xGT} {l : Launch} {b : Nat} {D : va_G} {cy : Nat → ClassId} {a0 L : Nat} {xs : Nat → Int32} (hg : xG g cL_law RL rmL 4) (he : xE g l b D cy) (hX : yX g a0 L xs) (hL : L ≤ 3072) {i : Int} (hi : 0 ≤ i ∧ i + 6 ≤ (L : Int)) {tt : Nat} {M : xMm} (hz : IZ tt M) (K : ∀ (tt2 : Nat) (M2 : xMm), IZ tt2 M2 → yW g a0 209 M2 (RS tt2) 209 8807 1047 [(1, xr 1), (2, xr 172), (3, xi i)] []) : yW g a0 209 M (RS tt) 209 8807 250 [(1, xr 1), (2, xr 172), (3, xi i)] [] := by
  obtain ⟨hIO, hJG, hIC, hIR, hIW, hIL⟩ := id hz.2.1
  refine y_aload_n hg dL_law_250 rfl ?_
  refine y_callV (As := []) (rest := []) hg he dL_law_251 mv_L_23 (c_X11_timetable l b D cy hJG hIR hz.1) (by decide) rfl rfl (Nat.le_of_ble_eq_true rfl) (by decide) ⟨Nat.le_of_ble_eq_true rfl, Nat.le_of_ble_eq_true rfl⟩ (fun v1 n1 M1 R1 q1 => ?_)
  obtain ⟨rfl, tt1, htt1, rfl, r1, rfl, q1⟩ := q1
  obtain ⟨hx1, hf1⟩ := sx_timetable hz.2.1  q1
  have hy1 := IY_fr hz.2.2.1 hf1
  obtain ⟨hMO, hJN, hMR, hMC, hMW, hMK⟩ := id hy1
  refine y_pop (v := xi r1) (st := []) hg dL_law_254 rfl ?_
  refine y_aload_n hg dL_law_255 rfl ?_
  refine y_cVi hg he [] [] dL_law_256 mv_L_27 (c_X12_timetable l b D cy hJN hMR) (by decide) rfl rfl (Nat.le_of_ble_eq_true rfl) (by decide) ⟨Nat.le_of_ble_eq_true rfl, Nat.le_of_ble_eq_true rfl⟩ (fun r2 M2 q2 => ?_)
  obtain ⟨hy2, hf2⟩ := sy_timetable hy1  q2
  refine y_pop hg dL_law_259 rfl ?_
  refine y_goto (tgt := 1047) hg dL_law_260 (by decide) ?_
  exact K tt1 M2 ⟨htt1, IX_fr hx1 hf2, hy2, rel_timetable hz.2.1 hz.2.2.1 hz.2.2.2 hf1 q1 q2⟩
