/-! ===== the model's comesIn ===== -/
/-- what comesIn may change -/
abbrev frM (M1 M : xMm) : Prop := ∀ a, a ≠ 193 → a ≠ 196 → a ≠ 197 → a ≠ 198 → a ≠ 199 → M1 a = M a
theorem frM_rf (M : xMm) : frM M M := fun _ _ _ _ _ _ => rfl
theorem frM_tr {M2 M1 M : xMm} (h1 : frM M2 M1) (h : frM M1 M) : frM M2 M := fun a e1 e2 e3 e4 e5 => by rw [h1 a e1 e2 e3 e4 e5, h a e1 e2 e3 e4 e5]
theorem frM_G {M1 M : xMm} (h : frG M1 M) : frM M1 M := fun a _ e2 e3 e4 _ => h a e2 e3 e4
theorem frM_mu {M1 M : xMm} (h : frM M1 M) {a k : Nat} {z : Int} (ha : a = 193 ∨ a = 199) : frM (mu M1 a k z) M := fun c e1 e2 e3 e4 e5 => by
  rw [← h c e1 e2 e3 e4 e5]; funext j; exact mu_nc (by omega)
theorem fm_ma {M1 M : xMm} (h : frM M1 M) : M1 180 (M1 172 18).toNat = mMa M := by unfold mMa; rw [h 172 (by decide) (by decide) (by decide) (by decide) (by decide), h 180 (by decide) (by decide) (by decide) (by decide) (by decide)]
theorem fm_R {M1 M : xMm} (h : frM M1 M) (hR : MR M) : MR M1 := MR_fr (fun a _ _ => h a (by omega) (by omega) (by omega) (by omega) (by omega)) (by rw [h 172 (by decide) (by decide) (by decide) (by decide) (by decide)]) hR
theorem fm_N {M1 M : xMm} (h : frM M1 M) : mN M1 = mN M := by
  have e : mMa M1 = mMa M := fm_ma h
  unfold mN; rw [e]
theorem fm_ro {M1 M : xMm} (h : frM M1 M) : mRo M1 = mRo M := by
  have e : mMa M1 = mMa M := fm_ma h
  unfold mRo; rw [e, h 172 (by decide) (by decide) (by decide) (by decide) (by decide), h 176 (by decide) (by decide) (by decide) (by decide) (by decide)]
/-- a pass over the churns -/
def zPa (n : Nat) (C nw p : Nat → Int) (c : Nat) (M M1 M2 : xMm) (v d : Int) : Prop := frG M2 M ∧ zIN n C p nw (M2 196) (M2 197) (M2 198) c ∧ ((v = 0 ∧ M2 = M1 ∧ ∀ e : Nat, (e : Int) < d → zCV n C nw (M1 196) e) ∨ (v = 1 ∧ zSt (fun x => M2 196 x + p x) n < zSt (fun x => M1 196 x + p x) n))
theorem zPa_v {n : Nat} {C nw p : Nat → Int} {c : Nat} {M M1 M2 : xMm} {v d : Int} (h : zPa n C nw p c M M1 M2 v d) : v = 0 ∨ v = 1 := by
  rcases h.2.2 with ⟨e, -⟩ | ⟨e, -⟩
  · exact Or.inl e
  · exact Or.inr e
theorem zPa_s {n : Nat} {C nw p : Nat → Int} {c : Nat} {M M1 M2 M3 : xMm} {v d r : Int} (h : zPa n C nw p c M M1 M2 v d) (h0 : 0 ≤ d) (q : (r = 0 ∧ M3 = M2 ∧ zCV n C nw (M2 196) d.toNat) ∨ (r = 1 ∧ frG M3 M2 ∧ zIN n C p nw (M3 196) (M3 197) (M3 198) c ∧ zSt (fun x => M3 196 x + p x) n < zSt (fun x => M2 196 x + p x) n)) : (r = 0 ∨ r = 1) ∧ (r = 0 → zPa n C nw p c M M1 M3 v (d + 1)) ∧ (r = 1 → zPa n C nw p c M M1 M3 1 (d + 1)) := by
  obtain ⟨h1, h2, h3⟩ := h
  rcases q with ⟨e, rfl, hk⟩ | ⟨e, q1, q2, q3⟩
  · refine ⟨Or.inl e, fun _ => ⟨h1, h2, ?_⟩, fun e2 => by omega⟩
    rcases h3 with ⟨e1, e2, e3⟩ | h3
    · refine Or.inl ⟨e1, e2, fun x hx => ?_⟩
      by_cases ex : x = d.toNat
      · subst ex; rw [← e2]; exact hk
      · exact e3 x (by omega)
    · exact Or.inr h3
  · refine ⟨Or.inr e, fun e2 => by omega, fun _ => ⟨frG_tr q1 h1, q2, Or.inr ⟨rfl, ?_⟩⟩⟩
    rcases h3 with ⟨e1, e2, e3⟩ | ⟨e1, e2⟩
    · rw [← e2]; exact q3
    · exact Int.lt_trans q3 e2
/-- the best train so far -/
def zBs (ro fa on : Nat → Int) (bs i : Int) : Prop := (bs = -1 ∧ ∀ x : Nat, (x : Int) < i → on x < ro x → ¬ fa x < 1000000000000000) ∨ ((0 ≤ bs ∧ bs < i) ∧ on bs.toNat < ro bs.toNat ∧ fa bs.toNat < 1000000000000000 ∧ ∀ x : Nat, (x : Int) < i → on x < ro x → fa x < 1000000000000000 → fa bs.toNat ≤ fa x)
theorem zBs_r {ro fa on : Nat → Int} {bs i : Int} (h : zBs ro fa on bs i) (hi : 0 ≤ i) : -1 ≤ bs ∧ bs < i := by
  rcases h with ⟨e, -⟩ | ⟨e, -⟩ <;> omega
theorem zBs_k {ro fa on : Nat → Int} {bs i : Int} (h : zBs ro fa on bs i) (hi : 0 ≤ i) (hk : on i.toNat < ro i.toNat → fa i.toNat < 1000000000000000 → 0 ≤ bs ∧ fa bs.toNat ≤ fa i.toNat) : zBs ro fa on bs (i + 1) := by
  rcases h with ⟨e, h⟩ | ⟨h1, h2, h3, h4⟩
  · refine Or.inl ⟨e, fun x hx ho hf => ?_⟩
    by_cases ex : x = i.toNat
    · subst ex; have := hk ho hf; omega
    · exact h x (by omega) ho hf
  · refine Or.inr ⟨by omega, h2, h3, fun x hx ho hf => ?_⟩
    by_cases ex : x = i.toNat
    · subst ex; exact (hk ho hf).2
    · exact h4 x (by omega) ho hf
theorem zBs_s {ro fa on : Nat → Int} {bs i : Int} (h : zBs ro fa on bs i) (hi : 0 ≤ i) (ho : on i.toNat < ro i.toNat) (hf : fa i.toNat < 1000000000000000) (hk : 0 ≤ bs → fa i.toNat < fa bs.toNat) : zBs ro fa on i (i + 1) := by
  refine Or.inr ⟨by omega, ho, hf, fun x hx ho2 hf2 => ?_⟩
  by_cases ex : x = i.toNat
  · subst ex; exact Int.le_refl _
  · rcases h with ⟨e, h⟩ | ⟨h1, h2, h3, h4⟩
    · exact absurd hf2 (h x (by omega) ho2)
    · have := h4 x (by omega) ho2 hf2
      have := hk h1.1
      omega

theorem dX12_comesIn_0 : decode cX12_comesIn 0 = .ok (.aload_n 0, 1) := by decide +kernel
theorem dX12_comesIn_1 : decode cX12_comesIn 1 = .ok (.getfield 81, 3) := by decide +kernel
theorem dX12_comesIn_4 : decode cX12_comesIn 4 = .ok (.aload_n 0, 1) := by decide +kernel
theorem dX12_comesIn_5 : decode cX12_comesIn 5 = .ok (.getfield 75, 3) := by decide +kernel
theorem dX12_comesIn_8 : decode cX12_comesIn 8 = .ok (.iaload, 1) := by decide +kernel
theorem dX12_comesIn_9 : decode cX12_comesIn 9 = .ok (.istore_n 2, 1) := by decide +kernel
theorem dX12_comesIn_10 : decode cX12_comesIn 10 = .ok (.iconst 0, 1) := by decide +kernel
theorem dX12_comesIn_11 : decode cX12_comesIn 11 = .ok (.istore_n 3, 1) := by decide +kernel
theorem dX12_comesIn_12 : decode cX12_comesIn 12 = .ok (.iload_n 3, 1) := by decide +kernel
theorem dX12_comesIn_13 : decode cX12_comesIn 13 = .ok (.iload_n 2, 1) := by decide +kernel
theorem dX12_comesIn_14 : decode cX12_comesIn 14 = .ok (.if_icmp .gt 40, 3) := by decide +kernel
theorem dX12_comesIn_17 : decode cX12_comesIn 17 = .ok (.aload_n 0, 1) := by decide +kernel
theorem dX12_comesIn_18 : decode cX12_comesIn 18 = .ok (.getfield 185, 3) := by decide +kernel
theorem dX12_comesIn_21 : decode cX12_comesIn 21 = .ok (.iload_n 3, 1) := by decide +kernel
theorem dX12_comesIn_22 : decode cX12_comesIn 22 = .ok (.aload_n 0, 1) := by decide +kernel
theorem dX12_comesIn_23 : decode cX12_comesIn 23 = .ok (.getfield 182, 3) := by decide +kernel
theorem dX12_comesIn_26 : decode cX12_comesIn 26 = .ok (.bipush 9, 2) := by decide +kernel
theorem dX12_comesIn_28 : decode cX12_comesIn 28 = .ok (.iload_n 1, 1) := by decide +kernel
theorem dX12_comesIn_29 : decode cX12_comesIn 29 = .ok (.imul, 1) := by decide +kernel
theorem dX12_comesIn_30 : decode cX12_comesIn 30 = .ok (.iload_n 3, 1) := by decide +kernel
theorem dX12_comesIn_31 : decode cX12_comesIn 31 = .ok (.iadd, 1) := by decide +kernel
theorem dX12_comesIn_32 : decode cX12_comesIn 32 = .ok (.laload, 1) := by decide +kernel
theorem dX12_comesIn_33 : decode cX12_comesIn 33 = .ok (.lastore, 1) := by decide +kernel
theorem dX12_comesIn_34 : decode cX12_comesIn 34 = .ok (.aload_n 0, 1) := by decide +kernel
theorem dX12_comesIn_35 : decode cX12_comesIn 35 = .ok (.getfield 188, 3) := by decide +kernel
theorem dX12_comesIn_38 : decode cX12_comesIn 38 = .ok (.iload_n 3, 1) := by decide +kernel
theorem dX12_comesIn_39 : decode cX12_comesIn 39 = .ok (.iload_n 1, 1) := by decide +kernel
theorem dX12_comesIn_40 : decode cX12_comesIn 40 = .ok (.iastore, 1) := by decide +kernel
theorem dX12_comesIn_41 : decode cX12_comesIn 41 = .ok (.aload_n 0, 1) := by decide +kernel
theorem dX12_comesIn_42 : decode cX12_comesIn 42 = .ok (.getfield 191, 3) := by decide +kernel
theorem dX12_comesIn_45 : decode cX12_comesIn 45 = .ok (.iload_n 3, 1) := by decide +kernel
theorem dX12_comesIn_46 : decode cX12_comesIn 46 = .ok (.iconst (-1), 1) := by decide +kernel
theorem dX12_comesIn_47 : decode cX12_comesIn 47 = .ok (.iastore, 1) := by decide +kernel
theorem dX12_comesIn_48 : decode cX12_comesIn 48 = .ok (.iinc 3 1, 3) := by decide +kernel
theorem dX12_comesIn_51 : decode cX12_comesIn 51 = .ok (.goto (-39), 3) := by decide +kernel
theorem dX12_comesIn_54 : decode cX12_comesIn 54 = .ok (.iconst 1, 1) := by decide +kernel
theorem dX12_comesIn_55 : decode cX12_comesIn 55 = .ok (.istore_n 3, 1) := by decide +kernel
theorem dX12_comesIn_56 : decode cX12_comesIn 56 = .ok (.iload_n 3, 1) := by decide +kernel
theorem dX12_comesIn_57 : decode cX12_comesIn 57 = .ok (.ifCond .eq 42, 3) := by decide +kernel
theorem dX12_comesIn_60 : decode cX12_comesIn 60 = .ok (.iconst 0, 1) := by decide +kernel
theorem dX12_comesIn_61 : decode cX12_comesIn 61 = .ok (.istore_n 3, 1) := by decide +kernel
theorem dX12_comesIn_62 : decode cX12_comesIn 62 = .ok (.iconst 0, 1) := by decide +kernel
theorem dX12_comesIn_63 : decode cX12_comesIn 63 = .ok (.istore 4, 2) := by decide +kernel
theorem dX12_comesIn_65 : decode cX12_comesIn 65 = .ok (.iload 4, 2) := by decide +kernel
theorem dX12_comesIn_67 : decode cX12_comesIn 67 = .ok (.iload_n 1, 1) := by decide +kernel
theorem dX12_comesIn_68 : decode cX12_comesIn 68 = .ok (.if_icmp .ge 28, 3) := by decide +kernel
theorem dX12_comesIn_71 : decode cX12_comesIn 71 = .ok (.aload_n 0, 1) := by decide +kernel
theorem dX12_comesIn_72 : decode cX12_comesIn 72 = .ok (.iload 4, 2) := by decide +kernel
theorem dX12_comesIn_74 : decode cX12_comesIn 74 = .ok (.invokevirtual 288, 3) := by decide +kernel
theorem dX12_comesIn_77 : decode cX12_comesIn 77 = .ok (.ifCond .ne 7, 3) := by decide +kernel
theorem dX12_comesIn_80 : decode cX12_comesIn 80 = .ok (.iload_n 3, 1) := by decide +kernel
theorem dX12_comesIn_81 : decode cX12_comesIn 81 = .ok (.ifCond .eq 7, 3) := by decide +kernel
theorem dX12_comesIn_84 : decode cX12_comesIn 84 = .ok (.iconst 1, 1) := by decide +kernel
theorem dX12_comesIn_85 : decode cX12_comesIn 85 = .ok (.goto 4, 3) := by decide +kernel
theorem dX12_comesIn_88 : decode cX12_comesIn 88 = .ok (.iconst 0, 1) := by decide +kernel
theorem dX12_comesIn_89 : decode cX12_comesIn 89 = .ok (.istore_n 3, 1) := by decide +kernel
theorem dX12_comesIn_90 : decode cX12_comesIn 90 = .ok (.iinc 4 1, 3) := by decide +kernel
theorem dX12_comesIn_93 : decode cX12_comesIn 93 = .ok (.goto (-28), 3) := by decide +kernel
theorem dX12_comesIn_96 : decode cX12_comesIn 96 = .ok (.goto (-40), 3) := by decide +kernel
theorem dX12_comesIn_99 : decode cX12_comesIn 99 = .ok (.iconst (-1), 1) := by decide +kernel
theorem dX12_comesIn_100 : decode cX12_comesIn 100 = .ok (.istore 4, 2) := by decide +kernel
theorem dX12_comesIn_102 : decode cX12_comesIn 102 = .ok (.iconst 0, 1) := by decide +kernel
theorem dX12_comesIn_103 : decode cX12_comesIn 103 = .ok (.istore 5, 2) := by decide +kernel
theorem dX12_comesIn_105 : decode cX12_comesIn 105 = .ok (.iload 5, 2) := by decide +kernel
theorem dX12_comesIn_107 : decode cX12_comesIn 107 = .ok (.iload_n 2, 1) := by decide +kernel
theorem dX12_comesIn_108 : decode cX12_comesIn 108 = .ok (.if_icmp .gt 66, 3) := by decide +kernel
theorem dX12_comesIn_111 : decode cX12_comesIn 111 = .ok (.aload_n 0, 1) := by decide +kernel
theorem dX12_comesIn_112 : decode cX12_comesIn 112 = .ok (.getfield 194, 3) := by decide +kernel
theorem dX12_comesIn_115 : decode cX12_comesIn 115 = .ok (.iload 5, 2) := by decide +kernel
theorem dX12_comesIn_117 : decode cX12_comesIn 117 = .ok (.iaload, 1) := by decide +kernel
theorem dX12_comesIn_118 : decode cX12_comesIn 118 = .ok (.aload_n 0, 1) := by decide +kernel
theorem dX12_comesIn_119 : decode cX12_comesIn 119 = .ok (.iload 5, 2) := by decide +kernel
theorem dX12_comesIn_121 : decode cX12_comesIn 121 = .ok (.invokevirtual 291, 3) := by decide +kernel
theorem dX12_comesIn_124 : decode cX12_comesIn 124 = .ok (.if_icmp .ge 44, 3) := by decide +kernel
theorem dX12_comesIn_127 : decode cX12_comesIn 127 = .ok (.aload_n 0, 1) := by decide +kernel
theorem dX12_comesIn_128 : decode cX12_comesIn 128 = .ok (.getfield 185, 3) := by decide +kernel
theorem dX12_comesIn_131 : decode cX12_comesIn 131 = .ok (.iload 5, 2) := by decide +kernel
theorem dX12_comesIn_133 : decode cX12_comesIn 133 = .ok (.laload, 1) := by decide +kernel
theorem dX12_comesIn_134 : decode cX12_comesIn 134 = .ok (.ldc2_w 280, 3) := by decide +kernel
theorem dX12_comesIn_137 : decode cX12_comesIn 137 = .ok (.lcmp, 1) := by decide +kernel
theorem dX12_comesIn_138 : decode cX12_comesIn 138 = .ok (.ifCond .ge 30, 3) := by decide +kernel
theorem dX12_comesIn_141 : decode cX12_comesIn 141 = .ok (.iload 4, 2) := by decide +kernel
theorem dX12_comesIn_143 : decode cX12_comesIn 143 = .ok (.ifCond .lt 21, 3) := by decide +kernel
theorem dX12_comesIn_146 : decode cX12_comesIn 146 = .ok (.aload_n 0, 1) := by decide +kernel
theorem dX12_comesIn_147 : decode cX12_comesIn 147 = .ok (.getfield 185, 3) := by decide +kernel
theorem dX12_comesIn_150 : decode cX12_comesIn 150 = .ok (.iload 5, 2) := by decide +kernel
theorem dX12_comesIn_152 : decode cX12_comesIn 152 = .ok (.laload, 1) := by decide +kernel
theorem dX12_comesIn_153 : decode cX12_comesIn 153 = .ok (.aload_n 0, 1) := by decide +kernel
theorem dX12_comesIn_154 : decode cX12_comesIn 154 = .ok (.getfield 185, 3) := by decide +kernel
theorem dX12_comesIn_157 : decode cX12_comesIn 157 = .ok (.iload 4, 2) := by decide +kernel
theorem dX12_comesIn_159 : decode cX12_comesIn 159 = .ok (.laload, 1) := by decide +kernel
theorem dX12_comesIn_160 : decode cX12_comesIn 160 = .ok (.lcmp, 1) := by decide +kernel
theorem dX12_comesIn_161 : decode cX12_comesIn 161 = .ok (.ifCond .ge 7, 3) := by decide +kernel
theorem dX12_comesIn_164 : decode cX12_comesIn 164 = .ok (.iload 5, 2) := by decide +kernel
theorem dX12_comesIn_166 : decode cX12_comesIn 166 = .ok (.istore 4, 2) := by decide +kernel
theorem dX12_comesIn_168 : decode cX12_comesIn 168 = .ok (.iinc 5 1, 3) := by decide +kernel
theorem dX12_comesIn_171 : decode cX12_comesIn 171 = .ok (.goto (-66), 3) := by decide +kernel
theorem dX12_comesIn_174 : decode cX12_comesIn 174 = .ok (.iload 4, 2) := by decide +kernel
theorem dX12_comesIn_176 : decode cX12_comesIn 176 = .ok (.ifCond .ge 7, 3) := by decide +kernel
theorem dX12_comesIn_179 : decode cX12_comesIn 179 = .ok (.ldc2_w 280, 3) := by decide +kernel
theorem dX12_comesIn_182 : decode cX12_comesIn 182 = .ok (.lreturn, 1) := by decide +kernel
theorem dX12_comesIn_183 : decode cX12_comesIn 183 = .ok (.aload_n 0, 1) := by decide +kernel
theorem dX12_comesIn_184 : decode cX12_comesIn 184 = .ok (.getfield 185, 3) := by decide +kernel
theorem dX12_comesIn_187 : decode cX12_comesIn 187 = .ok (.iload 4, 2) := by decide +kernel
theorem dX12_comesIn_189 : decode cX12_comesIn 189 = .ok (.laload, 1) := by decide +kernel
theorem dX12_comesIn_190 : decode cX12_comesIn 190 = .ok (.lstore 5, 2) := by decide +kernel
theorem dX12_comesIn_192 : decode cX12_comesIn 192 = .ok (.aload_n 0, 1) := by decide +kernel
theorem dX12_comesIn_193 : decode cX12_comesIn 193 = .ok (.getfield 194, 3) := by decide +kernel
theorem dX12_comesIn_196 : decode cX12_comesIn 196 = .ok (.iload 4, 2) := by decide +kernel
theorem dX12_comesIn_198 : decode cX12_comesIn 198 = .ok (.dup2, 1) := by decide +kernel
theorem dX12_comesIn_199 : decode cX12_comesIn 199 = .ok (.iaload, 1) := by decide +kernel
theorem dX12_comesIn_200 : decode cX12_comesIn 200 = .ok (.iconst 1, 1) := by decide +kernel
theorem dX12_comesIn_201 : decode cX12_comesIn 201 = .ok (.iadd, 1) := by decide +kernel
theorem dX12_comesIn_202 : decode cX12_comesIn 202 = .ok (.iastore, 1) := by decide +kernel
theorem dX12_comesIn_203 : decode cX12_comesIn 203 = .ok (.iload 4, 2) := by decide +kernel
theorem dX12_comesIn_205 : decode cX12_comesIn 205 = .ok (.istore 7, 2) := by decide +kernel
theorem dX12_comesIn_207 : decode cX12_comesIn 207 = .ok (.iload 7, 2) := by decide +kernel
theorem dX12_comesIn_209 : decode cX12_comesIn 209 = .ok (.ifCond .lt 33, 3) := by decide +kernel
theorem dX12_comesIn_212 : decode cX12_comesIn 212 = .ok (.aload_n 0, 1) := by decide +kernel
theorem dX12_comesIn_213 : decode cX12_comesIn 213 = .ok (.getfield 191, 3) := by decide +kernel
theorem dX12_comesIn_216 : decode cX12_comesIn 216 = .ok (.iload 7, 2) := by decide +kernel
theorem dX12_comesIn_218 : decode cX12_comesIn 218 = .ok (.iaload, 1) := by decide +kernel
theorem dX12_comesIn_219 : decode cX12_comesIn 219 = .ok (.istore 8, 2) := by decide +kernel
theorem dX12_comesIn_221 : decode cX12_comesIn 221 = .ok (.aload_n 0, 1) := by decide +kernel
theorem dX12_comesIn_222 : decode cX12_comesIn 222 = .ok (.getfield 176, 3) := by decide +kernel
theorem dX12_comesIn_225 : decode cX12_comesIn 225 = .ok (.aload_n 0, 1) := by decide +kernel
theorem dX12_comesIn_226 : decode cX12_comesIn 226 = .ok (.getfield 188, 3) := by decide +kernel
theorem dX12_comesIn_229 : decode cX12_comesIn 229 = .ok (.iload 7, 2) := by decide +kernel
theorem dX12_comesIn_231 : decode cX12_comesIn 231 = .ok (.iaload, 1) := by decide +kernel
theorem dX12_comesIn_232 : decode cX12_comesIn 232 = .ok (.iload 7, 2) := by decide +kernel
theorem dX12_comesIn_234 : decode cX12_comesIn 234 = .ok (.iastore, 1) := by decide +kernel
theorem dX12_comesIn_235 : decode cX12_comesIn 235 = .ok (.iload 8, 2) := by decide +kernel
theorem dX12_comesIn_237 : decode cX12_comesIn 237 = .ok (.istore 7, 2) := by decide +kernel
theorem dX12_comesIn_239 : decode cX12_comesIn 239 = .ok (.goto (-32), 3) := by decide +kernel
theorem dX12_comesIn_242 : decode cX12_comesIn 242 = .ok (.lload 5, 2) := by decide +kernel
theorem dX12_comesIn_244 : decode cX12_comesIn 244 = .ok (.lreturn, 1) := by decide +kernel
set_option maxHeartbeats 4000000 in
set_option maxRecDepth 20000 in
theorem c_X12_comesIn (l : Launch) (b : Nat) (D : va_G) (cy : Nat → ClassId) {tt : Nat} {M : xMm} {n : Nat} {C ro p nw on : Nat → Int} {c : Int} (hR : MR M) (eN : n = mN M) (eC : M 195 = C) (ew : M 193 = nw) (eo : M 199 = on) (er : mRo M = ro) (hC : zCk n C) (hc : 0 ≤ c ∧ c < 10) (hD : zDU n C ro p nw on c.toNat) : xC l b D cy yX12_comesIn cX12_comesIn 9 (some .long) ({ frames := 1, cells := 0, slots := 0, locals := 26 }) [xr 172, xi c] 209 M (RS tt) (xPl 209 (RS tt) (fun r M' => frM M' M ∧ ((r = 1000000000000000 ∧ ∀ a, ¬ zFA n C ro a (c.toNat + 1)) ∨ ((0 ≤ r ∧ r ≤ 9900000000) ∧ zTot C (M' 193) (c.toNat + 1) = zTot C nw c.toNat + r ∧ ∃ p2, zDU n C ro p2 (M' 193) (M' 199) (c.toNat + 1))))) := by
  refine x_met (by decide) (Nat.le_of_ble_eq_true rfl) (fun g hg hr he => ?_)
  have em : M 180 (M 172 18).toNat = mMa M := rfl
  obtain ⟨hb, hm⟩ := MR_many hR
  refine x_canon (ls' := [(0, _), (1, _)]) rfl ?_
  have en : (n : Int) = mMa M + 1 := by rw [eN]; unfold mN; omega
  have e193 : ∀ {M1 : xMm}, frG M1 M → M1 193 = nw := fun h => by rw [← ew]; exact h 193 (by decide) (by decide) (by decide)
  have e195 : ∀ {M1 : xMm}, frG M1 M → M1 195 = C := fun h => by rw [← eC]; exact h 195 (by decide) (by decide) (by decide)
  have e199 : ∀ {M1 : xMm}, frG M1 M → M1 199 = on := fun h => by rw [← eo]; exact h 199 (by decide) (by decide) (by decide)
  have hn9 : n ≤ 9 := by omega
  have hc9 : c.toNat < 10 := by omega
  have j207e : ∀ (M3 : xMm) (v3 bs vf y : Int), y < 0 → inR y → (frM M3 M ∧ (0 ≤ vf ∧ vf ≤ 9900000000) ∧ zTot C (M3 193) (c.toNat + 1) = zTot C nw c.toNat + vf ∧ ∃ p2, zDU n C ro p2 (M3 193) (M3 199) (c.toNat + 1)) → xW g 209 M3 (RS tt) 0 0 207 [(0, xr 172), (1, xi c), (2, xi (M 180 (M 172 18).toNat)), (3, xi v3), (4, xi bs), (5, xl vf), (7, xi y)] [] := by
    intro M3 v3 bs vf y hy hyr hfin
    refine x_iload hg dX12_comesIn_207 rfl ?_
    refine x_if_lt (tgt := 242) hg dX12_comesIn_209 (by decide) (by omega) (fun c209 => ?_) (fun c209 => ?_)
    · skip
      refine x_lload hg dX12_comesIn_242 rfl ?_
      refine x_lret hg hr dX12_comesIn_244 (Nat.le_refl _) (Nat.le_refl _) ?_
      exact ⟨rfl, rfl, _, rfl, hfin.1, Or.inr hfin.2⟩
    · skip
      exfalso; omega
  have walk : ∀ (M1 : xMm), frG M1 M → zIN n C p nw (M1 196) (M1 197) (M1 198) c.toNat → (∀ d, d < c.toNat → zCV n C nw (M1 196) d) → ∀ bs : Int, (0 ≤ bs ∧ bs < (n : Int)) → on bs.toNat < ro bs.toNat → M1 196 bs.toNat < 1000000000000000 → (∀ x : Nat, x < n → on x < ro x → M1 196 x < 1000000000000000 → M1 196 bs.toNat ≤ M1 196 x) → ∀ (k : Nat) (M2 : xMm) (v3 t : Int), 0 ≤ t → (∀ a, a ≠ 193 → a ≠ 199 → M2 a = M1 a) → (M2 199 bs.toNat = on bs.toNat + 1 ∧ ∀ x, x ≠ bs.toNat → M2 199 x = on x) → zWK n C p nw (M1 196) (M1 197) (M1 198) c.toNat bs.toNat (M2 193) t.toNat k → xW g 209 M2 (RS tt) 0 0 207 [(0, xr 172), (1, xi c), (2, xi (M 180 (M 172 18).toNat)), (3, xi v3), (4, xi bs), (5, xl (M1 196 bs.toNat)), (7, xi t)] [] := by
    intro M1 f1 hI1 hV1 bs hbs hro hfb hB1 k
    induction k with
    | zero =>
      intro M2 v3 t ht0 f2 ho2 hW
      have htn := hW.1
      have e196 : M2 196 = M1 196 := f2 196 (by decide) (by decide)
      have e197 : M2 197 = M1 197 := f2 197 (by decide) (by decide)
      have e198 : M2 198 = M1 198 := f2 198 (by decide) (by decide)
      have hlc : (M1 198 t.toNat = -1 ∨ 0 ≤ M1 198 t.toNat ∧ M1 198 t.toNat < (n : Int)) ∧ (0 ≤ M1 197 t.toNat ∧ M1 197 t.toNat < 10) := by
        rcases (hI1 t.toNat htn).2.1 with ⟨a1, a2, a3⟩ | ⟨a1, a2, a3⟩
        · exact ⟨Or.inl a1, by omega⟩
        · exact ⟨Or.inr a1, by omega⟩
      have fM : frM M2 M := fun a h1 h2 h3 h4 h5 => by rw [f2 a h1 h5, f1 a h2 h3 h4]
      refine x_iload hg dX12_comesIn_207 rfl ?_
      refine x_if_lt (tgt := 242) hg dX12_comesIn_209 (by decide) (by omega) (fun c209 => ?_) (fun c209 => ?_)
      · skip
        exfalso; omega
      · skip
        refine x_aload_n hg dX12_comesIn_212 rfl ?_
        refine x_getR (j9 := 198) hg dX12_comesIn_213 fl_X12_191 (by decide) rfl rfl (by decide) ?_
        refine x_iload hg dX12_comesIn_216 rfl ?_
        refine x_iaload (len := 9) hg dX12_comesIn_218 (by decide) (by omega) ?_
        rw [e198]
        refine x_istore (ls' := [(0, _), (1, _), (2, _), (3, _), (4, _), (5, _), (7, _), (8, _)]) hg dX12_comesIn_219 (by decide) rfl ?_
        refine x_aload_n hg dX12_comesIn_221 rfl ?_
        refine x_getR (j9 := 193) hg dX12_comesIn_222 fl_X12_176 (by decide) rfl rfl (by decide) ?_
        refine x_aload_n hg dX12_comesIn_225 rfl ?_
        refine x_getR (j9 := 197) hg dX12_comesIn_226 fl_X12_188 (by decide) rfl rfl (by decide) ?_
        refine x_iload hg dX12_comesIn_229 rfl ?_
        refine x_iaload (len := 9) hg dX12_comesIn_231 (by decide) (by omega) ?_
        rw [e197]
        refine x_iload hg dX12_comesIn_232 rfl ?_
        refine x_iastore (len := 10) hg dX12_comesIn_234 (by decide) (by omega)  ?_
        refine x_iload hg dX12_comesIn_235 rfl ?_
        refine x_istore (ls' := [(0, _), (1, _), (2, _), (3, _), (4, _), (5, _), (7, _), (8, _)]) hg dX12_comesIn_237 (by decide) rfl ?_
        refine x_goto (tgt := 207) hg dX12_comesIn_239 (by decide) ?_
        refine x_canon (ls' := [(0, _), (1, _), (2, _), (3, _), (4, _), (5, _), (7, _)]) rfl ?_
        have s1 : mu M2 193 (M1 197 t.toNat).toNat t 193 (M1 197 t.toNat).toNat = ((t.toNat : Nat) : Int) := by rw [mu_s]; omega
        have s2 : ∀ x, x ≠ (M1 197 t.toNat).toNat → mu M2 193 (M1 197 t.toNat).toNat t 193 x = M2 193 x := fun x hx => mu_nf hx
        have s3 : mu M2 193 (M1 197 t.toNat).toNat t 199 = M2 199 := by funext x; exact mu_nc (by decide)
        by_cases hl : M1 198 t.toNat = -1
        · have hf := zWK_e hn9 hD hI1 hV1 (by omega) hro hfb hB1 hW hl s1 s2 ho2.1 ho2.2
          exact j207e _ v3 bs _ _ (by omega) (by omega) ⟨frM_mu fM (Or.inl rfl), hf.2.2.1, hf.2.1, by rw [s3]; exact hf.2.2.2⟩
        · obtain ⟨k', hk', hw'⟩ := zWK_s hD hI1 hV1 hW (by omega) s1 s2
          omega
    | succ k ih =>
      intro M2 v3 t ht0 f2 ho2 hW
      have htn := hW.1
      have e196 : M2 196 = M1 196 := f2 196 (by decide) (by decide)
      have e197 : M2 197 = M1 197 := f2 197 (by decide) (by decide)
      have e198 : M2 198 = M1 198 := f2 198 (by decide) (by decide)
      have hlc : (M1 198 t.toNat = -1 ∨ 0 ≤ M1 198 t.toNat ∧ M1 198 t.toNat < (n : Int)) ∧ (0 ≤ M1 197 t.toNat ∧ M1 197 t.toNat < 10) := by
        rcases (hI1 t.toNat htn).2.1 with ⟨a1, a2, a3⟩ | ⟨a1, a2, a3⟩
        · exact ⟨Or.inl a1, by omega⟩
        · exact ⟨Or.inr a1, by omega⟩
      have fM : frM M2 M := fun a h1 h2 h3 h4 h5 => by rw [f2 a h1 h5, f1 a h2 h3 h4]
      refine x_iload hg dX12_comesIn_207 rfl ?_
      refine x_if_lt (tgt := 242) hg dX12_comesIn_209 (by decide) (by omega) (fun c209 => ?_) (fun c209 => ?_)
      · skip
        exfalso; omega
      · skip
        refine x_aload_n hg dX12_comesIn_212 rfl ?_
        refine x_getR (j9 := 198) hg dX12_comesIn_213 fl_X12_191 (by decide) rfl rfl (by decide) ?_
        refine x_iload hg dX12_comesIn_216 rfl ?_
        refine x_iaload (len := 9) hg dX12_comesIn_218 (by decide) (by omega) ?_
        rw [e198]
        refine x_istore (ls' := [(0, _), (1, _), (2, _), (3, _), (4, _), (5, _), (7, _), (8, _)]) hg dX12_comesIn_219 (by decide) rfl ?_
        refine x_aload_n hg dX12_comesIn_221 rfl ?_
        refine x_getR (j9 := 193) hg dX12_comesIn_222 fl_X12_176 (by decide) rfl rfl (by decide) ?_
        refine x_aload_n hg dX12_comesIn_225 rfl ?_
        refine x_getR (j9 := 197) hg dX12_comesIn_226 fl_X12_188 (by decide) rfl rfl (by decide) ?_
        refine x_iload hg dX12_comesIn_229 rfl ?_
        refine x_iaload (len := 9) hg dX12_comesIn_231 (by decide) (by omega) ?_
        rw [e197]
        refine x_iload hg dX12_comesIn_232 rfl ?_
        refine x_iastore (len := 10) hg dX12_comesIn_234 (by decide) (by omega)  ?_
        refine x_iload hg dX12_comesIn_235 rfl ?_
        refine x_istore (ls' := [(0, _), (1, _), (2, _), (3, _), (4, _), (5, _), (7, _), (8, _)]) hg dX12_comesIn_237 (by decide) rfl ?_
        refine x_goto (tgt := 207) hg dX12_comesIn_239 (by decide) ?_
        refine x_canon (ls' := [(0, _), (1, _), (2, _), (3, _), (4, _), (5, _), (7, _)]) rfl ?_
        have s1 : mu M2 193 (M1 197 t.toNat).toNat t 193 (M1 197 t.toNat).toNat = ((t.toNat : Nat) : Int) := by rw [mu_s]; omega
        have s2 : ∀ x, x ≠ (M1 197 t.toNat).toNat → mu M2 193 (M1 197 t.toNat).toNat t 193 x = M2 193 x := fun x hx => mu_nf hx
        have s3 : mu M2 193 (M1 197 t.toNat).toNat t 199 = M2 199 := by funext x; exact mu_nc (by decide)
        by_cases hl : M1 198 t.toNat = -1
        · have hf := zWK_e hn9 hD hI1 hV1 (by omega) hro hfb hB1 hW hl s1 s2 ho2.1 ho2.2
          exact j207e _ v3 bs _ _ (by omega) (by omega) ⟨frM_mu fM (Or.inl rfl), hf.2.2.1, hf.2.1, by rw [s3]; exact hf.2.2.2⟩
        · obtain ⟨k', hk', hw'⟩ := zWK_s hD hI1 hV1 hW (by omega) s1 s2
          have hk2 : k' = k := by omega
          subst hk2
          exact ih _ v3 _ (by omega) (fun a h1 h2 => by rw [← f2 a h1 h2]; funext x; exact mu_nc h1) (by rw [s3]; exact ho2) hw'
  have j99 : ∀ (M1 : xMm) (v : Int), frG M1 M → zIN n C p nw (M1 196) (M1 197) (M1 198) c.toNat → (∀ d, d < c.toNat → zCV n C nw (M1 196) d) → xW g 209 M1 (RS tt) 0 0 99 [(0, xr 172), (1, xi c), (2, xi (M 180 (M 172 18).toNat)), (3, xi v)] [] := by
    intro M1 v f1 hI1 hV1
    have o1 := e199 f1
    have hR1 := fg_R f1 hR
    have hN1 := fg_N f1
    have r1 : mRo M1 = ro := by rw [fg_ro f1]; exact er
    have loop105 : ∀ (n1 : Nat) (bs i : Int), zBs ro (M1 196) on bs i → 0 ≤ i → i ≤ (n : Int) → (n : Int) - i < n1 → xW g 209 M1 (RS tt) 0 0 105 [(0, xr 172), (1, xi c), (2, xi (M 180 (M 172 18).toNat)), (3, xi v), (4, xi bs), (5, xi i)] [] := by
      intro n1
      induction n1 with
      | zero => intro bs i hbs hi0 hi1 hi2; exfalso; omega
      | succ n1 ihn1 =>
        intro bs i hbs hi0 hi1 hi2
        have hbr := zBs_r hbs hi0
        refine x_iload hg dX12_comesIn_105 rfl ?_
        refine x_iload_n hg dX12_comesIn_107 rfl ?_
        refine x_icmp_gt (tgt := 174) hg dX12_comesIn_108 (by decide) (by omega) (by omega) (fun c108 => ?_) (fun c108 => ?_)
        · skip
          refine x_iload hg dX12_comesIn_174 rfl ?_
          refine x_if_ge (tgt := 183) hg dX12_comesIn_176 (by decide) (by omega) (fun c176 => ?_) (fun c176 => ?_)
          · skip
            refine x_aload_n hg dX12_comesIn_183 rfl ?_
            refine x_getR (j9 := 196) hg dX12_comesIn_184 fl_X12_185 (by decide) rfl rfl (by decide) ?_
            refine x_iload hg dX12_comesIn_187 rfl ?_
            refine x_laload (len := 9) hg dX12_comesIn_189 (by decide) (by omega) ?_
            refine x_lstore (ls' := [(0, _), (1, _), (2, _), (3, _), (4, _), (5, _)]) hg dX12_comesIn_190 (by decide) rfl ?_
            refine x_aload_n hg dX12_comesIn_192 rfl ?_
            refine x_getR (j9 := 199) hg dX12_comesIn_193 fl_X12_194 (by decide) rfl rfl (by decide) ?_
            refine x_iload hg dX12_comesIn_196 rfl ?_
            refine x_dup2 hg dX12_comesIn_198 rfl rfl ?_
            refine x_iaload (len := 9) hg dX12_comesIn_199 (by decide) (by omega) ?_
            refine x_iconst hg dX12_comesIn_200 ?_
            refine x_iadd hg dX12_comesIn_201 ?_
            refine x_iastore (len := 9) hg dX12_comesIn_202 (by decide) (by omega)  ?_
            refine x_iload hg dX12_comesIn_203 rfl ?_
            refine x_istore (ls' := [(0, _), (1, _), (2, _), (3, _), (4, _), (5, _), (7, _)]) hg dX12_comesIn_205 (by decide) rfl ?_
            have hbs2 : (0 ≤ bs ∧ bs < (n : Int)) ∧ on bs.toNat < ro bs.toNat ∧ M1 196 bs.toNat < 1000000000000000 ∧ ∀ x : Nat, x < n → on x < ro x → M1 196 x < 1000000000000000 → M1 196 bs.toNat ≤ M1 196 x := by
              rcases hbs with ⟨e, -⟩ | ⟨h1, h2, h3, h4⟩
              · omega
              · exact ⟨by omega, h2, h3, fun x hx => h4 x (by omega)⟩
            obtain ⟨b1, b2, b3, b4⟩ := hbs2
            obtain ⟨k, hk⟩ := zWK_0 hD hI1 (bs := bs.toNat) (by omega) b2 b3
            refine walk M1 f1 hI1 hV1 bs b1 b2 b3 b4 k _ v bs b1.1 (fun a h1 h2 => by funext x; exact mu_nc h2) ⟨by rw [mu_s, o1], fun x hx => by rw [mu_nf hx, o1]⟩ ?_
            rw [show mu M1 199 bs.toNat (M1 199 bs.toNat + 1) 193 = nw by rw [← e193 f1]; funext x; exact mu_nc (by decide)]
            exact hk
          · skip
            refine x_ldc2 hg 1000000000000000 dX12_comesIn_179 (List.mem_of_getElem? (i := 1175) (by decide +kernel)) ?_
            refine x_lret hg hr dX12_comesIn_182 (Nat.le_refl _) (Nat.le_refl _) ?_
            refine ⟨rfl, rfl, _, rfl, frM_G f1, Or.inl ⟨rfl, fun a ha => ?_⟩⟩
            rcases hbs with ⟨e, h⟩ | ⟨h1, h2, h3, h4⟩
            · exact zInf hn9 hC hc9 hD hI1 hV1 (fun x hx => h x (by omega)) ha
            · omega
        · skip
          refine x_aload_n hg dX12_comesIn_111 rfl ?_
          refine x_getR (j9 := 199) hg dX12_comesIn_112 fl_X12_194 (by decide) rfl rfl (by decide) ?_
          refine x_iload hg dX12_comesIn_115 rfl ?_
          refine x_iaload (len := 9) hg dX12_comesIn_117 (by decide) (by omega) ?_
          refine x_aload_n hg dX12_comesIn_118 rfl ?_
          refine x_iload hg dX12_comesIn_119 rfl ?_
          refine x_cVi hg he [_] [_] dX12_comesIn_121 mv_X12_291 (c_X12_roomOf l b D cy hR1 (by omega)) (by decide) rfl rfl (Nat.le_of_ble_eq_true rfl) (by decide) (by decide) (fun r121 M121 q121 => ?_)
          obtain ⟨h121, e121⟩ := q121
          replace h121 := h121.symm
          subst h121
          rw [r1] at e121
          have hrr := mRo_r hR1 (t := i.toNat) (by omega)
          rw [r1] at hrr
          have hon := hD.1 i.toNat (by omega)
          have hoc := zCnt_nn nw (i.toNat : Int) c.toNat
          have hfi := zIN_r hC hc9 hD hI1 (t := i.toNat) (by omega)
          rw [o1]
          refine x_icmp_ge (tgt := 168) hg dX12_comesIn_124 (by decide) (by omega) (by omega) (fun c124 => ?_) (fun c124 => ?_)
          · skip
            refine x_iinc (ls' := [(0, _), (1, _), (2, _), (3, _), (4, _), (5, _)]) hg dX12_comesIn_168 rfl (by decide) rfl ?_
            refine x_goto (tgt := 105) hg dX12_comesIn_171 (by decide) ?_
            refine x_canon (ls' := [(0, _), (1, _), (2, _), (3, _), (4, _), (5, _)]) rfl ?_
            first
              | exact ihn1 _ _ (zBs_k hbs hi0 (fun h1 h2 => by omega)) (by omega) (by omega) (by omega)
              | exact ihn1 _ _ (zBs_s hbs hi0 (by omega) (by omega) (fun h => by omega)) (by omega) (by omega) (by omega)
          · skip
            refine x_aload_n hg dX12_comesIn_127 rfl ?_
            refine x_getR (j9 := 196) hg dX12_comesIn_128 fl_X12_185 (by decide) rfl rfl (by decide) ?_
            refine x_iload hg dX12_comesIn_131 rfl ?_
            refine x_laload (len := 9) hg dX12_comesIn_133 (by decide) (by omega) ?_
            refine x_ldc2 hg 1000000000000000 dX12_comesIn_134 (List.mem_of_getElem? (i := 1175) (by decide +kernel)) ?_
            refine x_lcmp hg dX12_comesIn_137 (by omega) (by decide) ?_
            refine x_if_ge (tgt := 168) hg dX12_comesIn_138 (by decide) (by split <;> (try split) <;> omega) (fun c138 => ?_) (fun c138 => ?_)
            · skip
              refine x_iinc (ls' := [(0, _), (1, _), (2, _), (3, _), (4, _), (5, _)]) hg dX12_comesIn_168 rfl (by decide) rfl ?_
              refine x_goto (tgt := 105) hg dX12_comesIn_171 (by decide) ?_
              refine x_canon (ls' := [(0, _), (1, _), (2, _), (3, _), (4, _), (5, _)]) rfl ?_
              first
                | exact ihn1 _ _ (zBs_k hbs hi0 (fun h1 h2 => by omega)) (by omega) (by omega) (by omega)
                | exact ihn1 _ _ (zBs_s hbs hi0 (by omega) (by omega) (fun h => by omega)) (by omega) (by omega) (by omega)
            · skip
              refine x_iload hg dX12_comesIn_141 rfl ?_
              refine x_if_lt (tgt := 164) hg dX12_comesIn_143 (by decide) (by omega) (fun c143 => ?_) (fun c143 => ?_)
              · skip
                refine x_iload hg dX12_comesIn_164 rfl ?_
                refine x_istore (ls' := [(0, _), (1, _), (2, _), (3, _), (4, _), (5, _)]) hg dX12_comesIn_166 (by decide) rfl ?_
                refine x_iinc (ls' := [(0, _), (1, _), (2, _), (3, _), (4, _), (5, _)]) hg dX12_comesIn_168 rfl (by decide) rfl ?_
                refine x_goto (tgt := 105) hg dX12_comesIn_171 (by decide) ?_
                refine x_canon (ls' := [(0, _), (1, _), (2, _), (3, _), (4, _), (5, _)]) rfl ?_
                first
                  | exact ihn1 _ _ (zBs_k hbs hi0 (fun h1 h2 => by omega)) (by omega) (by omega) (by omega)
                  | exact ihn1 _ _ (zBs_s hbs hi0 (by omega) (by omega) (fun h => by omega)) (by omega) (by omega) (by omega)
              · skip
                refine x_aload_n hg dX12_comesIn_146 rfl ?_
                refine x_getR (j9 := 196) hg dX12_comesIn_147 fl_X12_185 (by decide) rfl rfl (by decide) ?_
                refine x_iload hg dX12_comesIn_150 rfl ?_
                refine x_laload (len := 9) hg dX12_comesIn_152 (by decide) (by omega) ?_
                refine x_aload_n hg dX12_comesIn_153 rfl ?_
                refine x_getR (j9 := 196) hg dX12_comesIn_154 fl_X12_185 (by decide) rfl rfl (by decide) ?_
                refine x_iload hg dX12_comesIn_157 rfl ?_
                refine x_laload (len := 9) hg dX12_comesIn_159 (by decide) (by omega) ?_
                have hfb := zIN_r hC hc9 hD hI1 (t := bs.toNat) (by omega)
                refine x_lcmp hg dX12_comesIn_160 (by omega) (by omega) ?_
                refine x_if_ge (tgt := 168) hg dX12_comesIn_161 (by decide) (by split <;> (try split) <;> omega) (fun c161 => ?_) (fun c161 => ?_)
                · skip
                  refine x_iinc (ls' := [(0, _), (1, _), (2, _), (3, _), (4, _), (5, _)]) hg dX12_comesIn_168 rfl (by decide) rfl ?_
                  refine x_goto (tgt := 105) hg dX12_comesIn_171 (by decide) ?_
                  refine x_canon (ls' := [(0, _), (1, _), (2, _), (3, _), (4, _), (5, _)]) rfl ?_
                  first
                    | exact ihn1 _ _ (zBs_k hbs hi0 (fun h1 h2 => by omega)) (by omega) (by omega) (by omega)
                    | exact ihn1 _ _ (zBs_s hbs hi0 (by omega) (by omega) (fun h => by omega)) (by omega) (by omega) (by omega)
                · skip
                  refine x_iload hg dX12_comesIn_164 rfl ?_
                  refine x_istore (ls' := [(0, _), (1, _), (2, _), (3, _), (4, _), (5, _)]) hg dX12_comesIn_166 (by decide) rfl ?_
                  refine x_iinc (ls' := [(0, _), (1, _), (2, _), (3, _), (4, _), (5, _)]) hg dX12_comesIn_168 rfl (by decide) rfl ?_
                  refine x_goto (tgt := 105) hg dX12_comesIn_171 (by decide) ?_
                  refine x_canon (ls' := [(0, _), (1, _), (2, _), (3, _), (4, _), (5, _)]) rfl ?_
                  first
                    | exact ihn1 _ _ (zBs_k hbs hi0 (fun h1 h2 => by omega)) (by omega) (by omega) (by omega)
                    | exact ihn1 _ _ (zBs_s hbs hi0 (by omega) (by omega) (fun h => by omega)) (by omega) (by omega) (by omega)
    refine x_iconst hg dX12_comesIn_99 ?_
    refine x_istore (ls' := [(0, _), (1, _), (2, _), (3, _), (4, _)]) hg dX12_comesIn_100 (by decide) rfl ?_
    refine x_iconst hg dX12_comesIn_102 ?_
    refine x_istore (ls' := [(0, _), (1, _), (2, _), (3, _), (4, _), (5, _)]) hg dX12_comesIn_103 (by decide) rfl ?_
    exact loop105 (n + 1) (-1) 0 (Or.inl ⟨rfl, fun x hx => absurd hx (by omega)⟩) (by omega) (by omega) (by omega)
  have j56x : ∀ (M1 : xMm) (v : Int), v = 0 → frG M1 M → zIN n C p nw (M1 196) (M1 197) (M1 198) c.toNat → (∀ d, d < c.toNat → zCV n C nw (M1 196) d) → xW g 209 M1 (RS tt) 0 0 56 [(0, xr 172), (1, xi c), (2, xi (M 180 (M 172 18).toNat)), (3, xi v)] [] := by
    intro M1 v hv f1 hI1 hV1
    refine x_iload_n hg dX12_comesIn_56 rfl ?_
    refine x_if_eq (tgt := 99) hg dX12_comesIn_57 (by decide) (by omega) (fun c57 => ?_) (fun c57 => ?_)
    · skip
      exact j99 M1 v f1 hI1 hV1
    · skip
      exfalso; omega
  have loop56 : ∀ (n1 : Nat) (M1 : xMm) (v : Int), v = 1 → frG M1 M → zIN n C p nw (M1 196) (M1 197) (M1 198) c.toNat → zSt (fun x => M1 196 x + p x) n < n1 → xW g 209 M1 (RS tt) 0 0 56 [(0, xr 172), (1, xi c), (2, xi (M 180 (M 172 18).toNat)), (3, xi v)] [] := by
    intro n1
    induction n1 with
    | zero => intro M1 v hv f1 hI1 hm1; exfalso; have := zSt_nn (h := fun x => M1 196 x + p x) n (fun t ht => (hI1 t ht).1.1); omega
    | succ n1 ihn1 =>
      intro M1 v hv f1 hI1 hm1
      have loop65 : ∀ (n2 : Nat) (M2 : xMm) (v2 d : Int), zPa n C nw p c.toNat M M1 M2 v2 d → 0 ≤ d → d ≤ c → c - d < n2 → xW g 209 M2 (RS tt) 0 0 65 [(0, xr 172), (1, xi c), (2, xi (M 180 (M 172 18).toNat)), (3, xi v2), (4, xi d)] [] := by
        intro n2
        induction n2 with
        | zero => intro M2 v2 d hP hd0 hd1 hd2; exfalso; omega
        | succ n2 ihn2 =>
          intro M2 v2 d hP hd0 hd1 hd2
          have hv2 := zPa_v hP
          have j89 : d < c → ∀ (M3 : xMm) (v3 : Int), zPa n C nw p c.toNat M M1 M3 v3 (d + 1) → xW g 209 M3 (RS tt) 0 0 89 [(0, xr 172), (1, xi c), (2, xi (M 180 (M 172 18).toNat)), (3, xi v2), (4, xi d)] [xi v3] := by
            intro hdc M3 v3 hP3
            refine x_istore_n (ls' := [(0, _), (1, _), (2, _), (3, _), (4, _)]) hg dX12_comesIn_89 rfl (by decide) rfl ?_
            refine x_iinc (ls' := [(0, _), (1, _), (2, _), (3, _), (4, _)]) hg dX12_comesIn_90 rfl (by decide) rfl ?_
            refine x_goto (tgt := 65) hg dX12_comesIn_93 (by decide) ?_
            exact ihn2 M3 v3 _ hP3 (by omega) (by omega) (by omega)
          refine x_iload hg dX12_comesIn_65 rfl ?_
          refine x_iload_n hg dX12_comesIn_67 rfl ?_
          refine x_icmp_ge (tgt := 96) hg dX12_comesIn_68 (by decide) (by omega) (by omega) (fun c68 => ?_) (fun c68 => ?_)
          · skip
            refine x_goto (tgt := 56) hg dX12_comesIn_96 (by decide) ?_
            refine x_canon (ls' := [(0, _), (1, _), (2, _), (3, _)]) rfl ?_
            rcases hP.2.2 with ⟨a1, a2, a3⟩ | ⟨a1, a2⟩
            · exact j56x M2 v2 a1 hP.1 hP.2.1 (fun e he => by rw [a2]; exact a3 e (by omega))
            · exact ihn1 M2 v2 a1 hP.1 hP.2.1 (by omega)
          · skip
            refine x_aload_n hg dX12_comesIn_71 rfl ?_
            refine x_iload hg dX12_comesIn_72 rfl ?_
            refine x_cVi hg he [_] [] dX12_comesIn_74 mv_X12_288 (c_X12_gives l b D cy (fg_R hP.1 hR) (by rw [fg_N hP.1]; exact eN) (e195 hP.1) (e193 hP.1) hC hc9 hD hP.2.1 (by omega)) (by decide) rfl rfl (Nat.le_of_ble_eq_true rfl) (by decide) (by decide) (fun r74 M74 q74 => ?_)
            obtain ⟨s1, s2, s3⟩ := zPa_s hP hd0 q74
            refine x_if_ne (tgt := 84) hg dX12_comesIn_77 (by decide) (by omega) (fun c77 => ?_) (fun c77 => ?_)
            · skip
              refine x_iconst hg dX12_comesIn_84 ?_
              refine x_goto (tgt := 89) hg dX12_comesIn_85 (by decide) ?_
              first
                | exact j89 (by omega) M74 1 (s3 (by omega))
                | (have hz := s2 (by omega); rw [show v2 = 0 by omega] at hz; exact j89 (by omega) M74 0 hz)
                | (have hz := s2 (by omega); rw [show v2 = 1 by omega] at hz; exact j89 (by omega) M74 1 hz)
            · skip
              refine x_iload_n hg dX12_comesIn_80 rfl ?_
              refine x_if_eq (tgt := 88) hg dX12_comesIn_81 (by decide) (by omega) (fun c81 => ?_) (fun c81 => ?_)
              · skip
                refine x_iconst hg dX12_comesIn_88 ?_
                first
                  | exact j89 (by omega) M74 1 (s3 (by omega))
                  | (have hz := s2 (by omega); rw [show v2 = 0 by omega] at hz; exact j89 (by omega) M74 0 hz)
                  | (have hz := s2 (by omega); rw [show v2 = 1 by omega] at hz; exact j89 (by omega) M74 1 hz)
              · skip
                refine x_iconst hg dX12_comesIn_84 ?_
                refine x_goto (tgt := 89) hg dX12_comesIn_85 (by decide) ?_
                first
                  | exact j89 (by omega) M74 1 (s3 (by omega))
                  | (have hz := s2 (by omega); rw [show v2 = 0 by omega] at hz; exact j89 (by omega) M74 0 hz)
                  | (have hz := s2 (by omega); rw [show v2 = 1 by omega] at hz; exact j89 (by omega) M74 1 hz)
      refine x_iload_n hg dX12_comesIn_56 rfl ?_
      refine x_if_eq (tgt := 99) hg dX12_comesIn_57 (by decide) (by omega) (fun c57 => ?_) (fun c57 => ?_)
      · skip
        exfalso; omega
      · skip
        refine x_iconst hg dX12_comesIn_60 ?_
        refine x_istore_n (ls' := [(0, _), (1, _), (2, _), (3, _)]) hg dX12_comesIn_61 rfl (by decide) rfl ?_
        refine x_iconst hg dX12_comesIn_62 ?_
        refine x_istore (ls' := [(0, _), (1, _), (2, _), (3, _), (4, _)]) hg dX12_comesIn_63 (by decide) rfl ?_
        exact loop65 (c.toNat + 1) M1 0 0 ⟨f1, hI1, Or.inl ⟨rfl, rfl, fun e he => absurd he (by omega)⟩⟩ (by omega) (by omega) (by omega)
  have loop12 : ∀ (n1 : Nat) (M1 : xMm) (i : Int), frG M1 M → 0 ≤ i → i ≤ (n : Int) → (n : Int) - i < n1 → (∀ x : Nat, (x : Int) < i → M1 196 x = C (9 * c.toNat + x) ∧ M1 197 x = c ∧ M1 198 x = -1) → xW g 209 M1 (RS tt) 0 0 12 [(0, xr 172), (1, xi c), (2, xi (M 180 (M 172 18).toNat)), (3, xi i)] [] := by
    intro n1
    induction n1 with
    | zero => intro M1 i f1 hi0 hi1 hi2 hx1; exfalso; omega
    | succ n1 ihn1 =>
      intro M1 i f1 hi0 hi1 hi2 hx1
      have ix : (9 * c + i).toNat = 9 * c.toNat + i.toNat := by omega
      refine x_iload_n hg dX12_comesIn_12 rfl ?_
      refine x_iload_n hg dX12_comesIn_13 rfl ?_
      refine x_icmp_gt (tgt := 54) hg dX12_comesIn_14 (by decide) (by omega) (by omega) (fun c14 => ?_) (fun c14 => ?_)
      · skip
        refine x_iconst hg dX12_comesIn_54 ?_
        refine x_istore_n (ls' := [(0, _), (1, _), (2, _), (3, _)]) hg dX12_comesIn_55 rfl (by decide) rfl ?_
        have hI0 := zIN_0 (p := p) (fa := M1 196) (co := M1 197) (lv := M1 198) hC hc9 hD (fun x hx => by have := hx1 x (by omega); rw [Int.toNat_of_nonneg hc.1]; exact this)
        exact loop56 ((zSt (fun x => M1 196 x + p x) n).toNat + 1) M1 1 rfl f1 hI0 (by omega)
      · skip
        refine x_aload_n hg dX12_comesIn_17 rfl ?_
        refine x_getR (j9 := 196) hg dX12_comesIn_18 fl_X12_185 (by decide) rfl rfl (by decide) ?_
        refine x_iload_n hg dX12_comesIn_21 rfl ?_
        refine x_aload_n hg dX12_comesIn_22 rfl ?_
        refine x_getR (j9 := 195) hg dX12_comesIn_23 fl_X12_182 (by decide) rfl rfl (by decide) ?_
        refine x_bipush hg dX12_comesIn_26 (by decide) ?_
        refine x_iload_n hg dX12_comesIn_28 rfl ?_
        refine x_imul hg dX12_comesIn_29 ?_
        refine x_iload_n hg dX12_comesIn_30 rfl ?_
        refine x_iadd hg dX12_comesIn_31 ?_
        refine x_laload (len := 90) hg dX12_comesIn_32 (by decide) (by omega) ?_
        rw [e195 f1, ix]
        refine x_lastore (len := 9) hg dX12_comesIn_33 (by decide) (by omega)  ?_
        refine x_aload_n hg dX12_comesIn_34 rfl ?_
        refine x_getR (j9 := 197) hg dX12_comesIn_35 fl_X12_188 (by decide) rfl rfl (by decide) ?_
        refine x_iload_n hg dX12_comesIn_38 rfl ?_
        refine x_iload_n hg dX12_comesIn_39 rfl ?_
        refine x_iastore (len := 9) hg dX12_comesIn_40 (by decide) (by omega)  ?_
        refine x_aload_n hg dX12_comesIn_41 rfl ?_
        refine x_getR (j9 := 198) hg dX12_comesIn_42 fl_X12_191 (by decide) rfl rfl (by decide) ?_
        refine x_iload_n hg dX12_comesIn_45 rfl ?_
        refine x_iconst hg dX12_comesIn_46 ?_
        refine x_iastore (len := 9) hg dX12_comesIn_47 (by decide) (by omega)  ?_
        refine x_iinc (ls' := [(0, _), (1, _), (2, _), (3, _)]) hg dX12_comesIn_48 rfl (by decide) rfl ?_
        refine x_goto (tgt := 12) hg dX12_comesIn_51 (by decide) ?_
        refine x_canon (ls' := [(0, _), (1, _), (2, _), (3, _)]) rfl ?_
        refine ihn1 _ _ (fun a h1 h2 h3 => by rw [← f1 a h1 h2 h3]; funext x; rw [mu_nc h3, mu_nc h2, mu_nc h1]) (by omega) (by omega) (by omega) (fun x hx => ?_)
        by_cases ex : x = i.toNat
        · subst ex
          simp only [mu_s, mu_nc (show (196 : Nat) ≠ 198 by decide), mu_nc (show (196 : Nat) ≠ 197 by decide), mu_nc (show (197 : Nat) ≠ 198 by decide)]
          exact ⟨trivial, trivial, trivial⟩
        · simp only [mu_nc (show (196 : Nat) ≠ 198 by decide), mu_nc (show (196 : Nat) ≠ 197 by decide), mu_nc (show (197 : Nat) ≠ 198 by decide), mu_nc (show (197 : Nat) ≠ 196 by decide), mu_nc (show (198 : Nat) ≠ 196 by decide), mu_nc (show (198 : Nat) ≠ 197 by decide), mu_nf ex]
          exact hx1 x (by omega)
  refine x_aload_n hg dX12_comesIn_0 rfl ?_
  refine x_getR (j9 := 180) hg dX12_comesIn_1 fl_X12_81 (by decide) rfl rfl (by decide) ?_
  refine x_aload_n hg dX12_comesIn_4 rfl ?_
  refine x_getI hg dX12_comesIn_5 fl_X12_75 (by decide) rfl ?_
  refine x_iaload (len := 2) hg dX12_comesIn_8 (by decide) (by omega) ?_
  refine x_istore_n (ls' := [(0, _), (1, _), (2, _)]) hg dX12_comesIn_9 rfl (by decide) rfl ?_
  refine x_iconst hg dX12_comesIn_10 ?_
  refine x_istore_n (ls' := [(0, _), (1, _), (2, _), (3, _)]) hg dX12_comesIn_11 rfl (by decide) rfl ?_
  exact loop12 (n + 1) M 0 (frG_rf M) (by omega) (by omega) (by omega) (fun x hx => absurd hx (by omega))
