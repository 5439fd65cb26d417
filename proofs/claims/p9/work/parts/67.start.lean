/-! ===== the law: its start ===== -/
theorem aoA {A : Array Value} {s : State} (h : (Cond.arrayOver (.array .long)).before A s = true) :
    ∃ (comp cA : ClassId) (kA : Class), s.vm.findClass (FieldType.array .long).toString = some comp ∧ s.vm.classes[cA]? = some kA ∧ kA.kind = .array comp (.array .long) ∧ s.vm.findClass ("[" ++ (FieldType.array .long).toString) = some cA := by
  unfold Cond.before at h
  simp only [Cond.holds, Cond.value, beq_iff_eq] at h
  cases hc : s.vm.findClass (FieldType.array .long).toString with
  | none => simp [hc] at h
  | some comp =>
    simp only [hc, Option.bind_some, Option.bind_eq_some_iff, Option.map_eq_some_iff] at h
    obtain ⟨cA, hi, kA, hk, hb⟩ := h
    obtain ⟨hlt, hp, -⟩ := Array.findIdx?_eq_some_iff_getElem.mp hi
    have hkk : s.vm.classes[cA] = kA := (Array.getElem?_eq_some_iff.mp hk).2
    rw [hkk] at hp
    cases hkind : kA.kind with
    | array component ty =>
      rw [hkind] at hb hp
      simp at hb hp
      exact ⟨comp, cA, kA, rfl, hk, by rw [hkind, hp, hb.1], hb.2⟩
    | _ => rw [hkind] at hb; simp at hb
theorem law_known {s : State} {b : Nat} (hts : ∀ w ∈ lw_tbl, w.before #[Value.ref b] s = true) : ∃ (D : va_G) (cy : Nat → ClassId), xK D cy s ∧ xAO cy s := by
  obtain ⟨c0, i0, h0⟩ := u_known (C := RX0) (T := TX0) (N := 3) (n := 3) hts (fun w hw => (inX0 w hw).1) (hts (.instantiable RX0 3) (List.mem_of_getElem? (i := 357) (by decide +kernel)))
  obtain ⟨c1, i1, h1⟩ := u_known (C := RX1) (T := TX1) (N := 5) (n := 5) hts (fun w hw => (inX1 w hw).1) (hts (.instantiable RX1 5) (List.mem_of_getElem? (i := 314) (by decide +kernel)))
  obtain ⟨c2, i2, h2⟩ := u_known (C := RX2) (T := TX2) (N := 5) (n := 5) hts (fun w hw => (inX2 w hw).1) (hts (.instantiable RX2 5) (List.mem_of_getElem? (i := 199) (by decide +kernel)))
  obtain ⟨c3, i3, h3⟩ := u_known (C := RX3) (T := TX3) (N := 4) (n := 4) hts (fun w hw => (inX3 w hw).1) (hts (.instantiable RX3 4) (List.mem_of_getElem? (i := 376) (by decide +kernel)))
  obtain ⟨c4, i4, h4⟩ := u_known (C := RX4) (T := TX4) (N := 9) (n := 9) hts (fun w hw => (inX4 w hw).1) (hts (.instantiable RX4 9) (List.mem_of_getElem? (i := 274) (by decide +kernel)))
  obtain ⟨c5, i5, h5⟩ := u_known (C := RX5) (T := TX5) (N := 8) (n := 8) hts (fun w hw => (inX5 w hw).1) (hts (.instantiable RX5 8) (List.mem_of_getElem? (i := 110) (by decide +kernel)))
  obtain ⟨c6, i6, h6⟩ := u_known (C := RX6) (T := TX6) (N := 2) (n := 2) hts (fun w hw => (inX6 w hw).1) (hts (.instantiable RX6 2) (List.mem_of_getElem? (i := 341) (by decide +kernel)))
  obtain ⟨c7, i7, h7⟩ := u_known (C := RX7) (T := TX7) (N := 2) (n := 2) hts (fun w hw => (inX7 w hw).1) (hts (.instantiable RX7 2) (List.mem_of_getElem? (i := 94) (by decide +kernel)))
  obtain ⟨c8, i8, h8⟩ := u_known (C := RX8) (T := TX8) (N := 2) (n := 2) hts (fun w hw => (inX8 w hw).1) (hts (.instantiable RX8 2) (List.mem_of_getElem? (i := 143) (by decide +kernel)))
  obtain ⟨c9, i9, h9⟩ := u_known (C := RX9) (T := TX9) (N := 6) (n := 6) hts (fun w hw => (inX9 w hw).1) (hts (.instantiable RX9 6) (List.mem_of_getElem? (i := 150) (by decide +kernel)))
  obtain ⟨c10, i10, h10⟩ := u_known (C := RX10) (T := TX10) (N := 9) (n := 9) hts (fun w hw => (inX10 w hw).1) (hts (.instantiable RX10 9) (List.mem_of_getElem? (i := 237) (by decide +kernel)))
  obtain ⟨c11, i11, h11⟩ := u_known (C := RX11) (T := TX11) (N := 17) (n := 17) hts (fun w hw => (inX11 w hw).1) (hts (.instantiable RX11 17) (List.mem_of_getElem? (i := 86) (by decide +kernel)))
  obtain ⟨c12, i12, h12⟩ := u_known (C := RX12) (T := TX12) (N := 58) (n := 58) hts (fun w hw => (inX12 w hw).1) (hts (.instantiable RX12 58) (List.mem_of_getElem? (i := 820) (by decide +kernel)))
  obtain ⟨a0, k0, m0, f0, g0, e0⟩ := Cond.arrayClass_spec (hts (.arrayClass .int) (List.mem_of_getElem? (i := 108) (by decide +kernel)))
  obtain ⟨a1, k1, m1, f1, g1, e1⟩ := Cond.arrayClass_spec (hts (.arrayClass .byte) (List.mem_of_getElem? (i := 1079) (by decide +kernel)))
  obtain ⟨a2, k2, m2, f2, g2, e2⟩ := Cond.arrayClass_spec (hts (.arrayClass .boolean) (List.mem_of_getElem? (i := 235) (by decide +kernel)))
  obtain ⟨a3, k3, m3, f3, g3, e3⟩ := Cond.arrayClass_spec (hts (.arrayClass .long) (List.mem_of_getElem? (i := 311) (by decide +kernel)))
  have o4 := hts (.arrayOver (.object "MilkTrain$Train")) (List.mem_of_getElem? (i := 149) (by decide +kernel))
  obtain ⟨m4, a4, k4, p4, -, g4, e4, f4⟩ := Cond.arrayOver_spec o4
  have o5 := hts (.arrayOver (.object "MilkTrain$Churn")) (List.mem_of_getElem? (i := 313) (by decide +kernel))
  obtain ⟨m5, a5, k5, p5, -, g5, e5, f5⟩ := Cond.arrayOver_spec o5
  have o6 := hts (.arrayOver (.object "MilkTrain$Tank")) (List.mem_of_getElem? (i := 340) (by decide +kernel))
  obtain ⟨m6, a6, k6, p6, -, g6, e6, f6⟩ := Cond.arrayOver_spec o6
  have o7 := hts (.arrayOver (.object "MilkTrain$Bottling")) (List.mem_of_getElem? (i := 356) (by decide +kernel))
  obtain ⟨m7, a7, k7, p7, -, g7, e7, f7⟩ := Cond.arrayOver_spec o7
  have o8 := hts (.arrayOver (.object "MilkTrain$Find")) (List.mem_of_getElem? (i := 375) (by decide +kernel))
  obtain ⟨m8, a8, k8, p8, -, g8, e8, f8⟩ := Cond.arrayOver_spec o8
  obtain ⟨m9, a9, k9, p9, g9, e9, f9⟩ := aoA (hts (.arrayOver (.array .long)) (List.mem_of_getElem? (i := 280) (by decide +kernel)))
  refine ⟨(fun k => match k with | 0 => c0 | 1 => c1 | 2 => c2 | 3 => c3 | 4 => c4 | 5 => c5 | 6 => c6 | 7 => c7 | 8 => c8 | 9 => c9 | 10 => c10 | 11 => c11 | _ => c12, fun k => match k with | 0 => i0 | 1 => i1 | 2 => i2 | 3 => i3 | 4 => i4 | 5 => i5 | 6 => i6 | 7 => i7 | 8 => i8 | 9 => i9 | 10 => i10 | 11 => i11 | _ => i12), fun k => match k with | 0 => a0 | 1 => a1 | 2 => a2 | 3 => a3 | 4 => a4 | 5 => a5 | 6 => a6 | 7 => a7 | 8 => a8 | _ => a9, ⟨⟨fun k q hq => ?_, fun k q hq => ?_⟩, fun w hw hn => ?_⟩, ⟨va_AO.of o4, va_AO.of o5, va_AO.of o6, va_AO.of o7, va_AO.of o8⟩, k9, m9, g9, e9, p9⟩
  · match k, hq with
    | 0, hq => cases hq; exact h0
    | 1, hq => cases hq; exact h1
    | 2, hq => cases hq; exact h2
    | 3, hq => cases hq; exact h3
    | 4, hq => cases hq; exact h4
    | 5, hq => cases hq; exact h5
    | 6, hq => cases hq; exact h6
    | 7, hq => cases hq; exact h7
    | 8, hq => cases hq; exact h8
    | 9, hq => cases hq; exact h9
    | 10, hq => cases hq; exact h10
    | 11, hq => cases hq; exact h11
    | 12, hq => cases hq; exact h12
    | k + 13, hq => simp [vwCl] at hq
  · match k, hq with
    | 0, hq => cases hq; exact ⟨fun n z => ⟨fun k h => (by cases h), k0, g0, m0, e0⟩, f0⟩
    | 1, hq => cases hq; exact ⟨fun n z => ⟨fun k h => (by cases h), k1, g1, m1, e1⟩, f1⟩
    | 2, hq => cases hq; exact ⟨fun n z => ⟨fun k h => (by cases h), k2, g2, m2, e2⟩, f2⟩
    | 3, hq => cases hq; exact ⟨fun n z => ⟨fun k h => (by cases h), k3, g3, m3, e3⟩, f3⟩
    | 4, hq => cases hq; exact ⟨fun n z => ⟨fun k h => (by cases h), k4, g4, m4, e4⟩, ⟨k4, m4, g4, e4, p4, f4⟩⟩
    | 5, hq => cases hq; exact ⟨fun n z => ⟨fun k h => (by cases h), k5, g5, m5, e5⟩, ⟨k5, m5, g5, e5, p5, f5⟩⟩
    | 6, hq => cases hq; exact ⟨fun n z => ⟨fun k h => (by cases h), k6, g6, m6, e6⟩, ⟨k6, m6, g6, e6, p6, f6⟩⟩
    | 7, hq => cases hq; exact ⟨fun n z => ⟨fun k h => (by cases h), k7, g7, m7, e7⟩, ⟨k7, m7, g7, e7, p7, f7⟩⟩
    | 8, hq => cases hq; exact ⟨fun n z => ⟨fun k h => (by cases h), k8, g8, m8, e8⟩, ⟨k8, m8, g8, e8, p8, f8⟩⟩
    | 9, hq => cases hq; exact ⟨fun n z => ⟨fun k h => (by cases h), k9, g9, m9, e9⟩, f9⟩
    | k + 10, hq => simp [xtys] at hq
  · have hb := hts w hw
    cases w <;> first | (simp [isNest] at hn; done) | exact va_Nw.of rfl hb
set_option maxHeartbeats 4000000 in
set_option maxRecDepth 20000 in
theorem whole_start {p : Program} {e : Env} {s : State} {m : MethodId} {below : List Frame} {meth : Method} {c : Code} (l : Launch) {b L : Nat} {xs : Nat → Int32} (hL : L ≤ 3072) (C0 : lw_At p s m meth c b L xs) : W p l e room_1 s m #[Value.ref b] below meth c s.heap [] 0 0 (lw_Z below #[Value.ref b] s) (entryFrame m ([Value.ref b] : List Value).toArray 4) := by
  obtain ⟨hx, hb, hr, hml, hown, hts, hX, hbl, hlocks, hgv⟩ := id C0
  obtain ⟨D, cy, hK, hAO⟩ := law_known hts
  obtain ⟨b1, hb1⟩ : ∃ b1, s.heap.size = b1 + 1 := ⟨s.heap.size - 1, by omega⟩
  have hg : xG (p, l, e, room_1, s, m, #[Value.ref b], below, meth, c, b1, D, cy, lw_Z below #[Value.ref b] s) cL_law RL rmL 4 := ⟨hx, hb, hown, fun w hw _ => hts w hw, hK, hlocks, by omega, rfl, hml⟩
  have ha : xGa (p, l, e, room_1, s, m, #[Value.ref b], below, meth, c, b1, D, cy, lw_Z below #[Value.ref b] s) := hAO
  have he : xE (p, l, e, room_1, s, m, #[Value.ref b], below, meth, c, b1, D, cy, lw_Z below #[Value.ref b] s) l b1 D cy := ⟨rfl, rfl, rfl, rfl⟩
  have hX2 : yX (p, l, e, room_1, s, m, #[Value.ref b], below, meth, c, b1, D, cy, lw_Z below #[Value.ref b] s) b L xs := ⟨hX, hbl, by omega⟩
  have hend : ∀ (tt : Nat) (M : xMm) (z : Int), yW (p, l, e, room_1, s, m, #[Value.ref b], below, meth, c, b1, D, cy, lw_Z below #[Value.ref b] s) b 209 M (RS tt) 209 8807 1053 [(1, xr 1), (2, xr 172), (3, xi z)] [] := by
    intro tt M z
    refine y_iconst hg dL_law_1053 ?_
    intro H locs lsA hW hS hv
    refine va_forget (fun q hq => by have := hS.2.2 q hq; omega) ?_
    refine W.widen (k := 600000) (n := 7302250) (Nat.le_of_ble_eq_true rfl) (Nat.le_of_ble_eq_true rfl) ?_
    exact lw_ret hx hb hr hlocks dL_law_1054
  have main : yW (p, l, e, room_1, s, m, #[Value.ref b], below, meth, c, b1, D, cy, lw_Z below #[Value.ref b] s) b 0 Mz Rz 0 0 0 [] [] := by
    refine y_new hg dL_law_0 nw_L_7 (by decide) (fun f => rfl) (fun f => rfl) (Nat.le_of_ble_eq_true rfl) (Nat.le_of_ble_eq_true rfl) ?_
    refine y_dup hg dL_law_3 rfl ?_
    refine y_cI hg ha [] [_] he dL_law_4 mi_L_9 (c_X11_init l b1 D cy) rfl rfl (Nat.le_of_ble_eq_true rfl) (by decide) ⟨Nat.le_of_ble_eq_true rfl, Nat.le_of_ble_eq_true rfl⟩ (fun M4 q4 => ?_)
    obtain ⟨q4, e4⟩ := q4
    have z4 : ∀ a, 172 ≤ a → ∀ f, M4 a f = 0 := fun a ha f => by
      rw [e4 a (by omega) (by omega) (by omega)]
      unfold m0c
      rw [if_neg (by omega), if_neg (by omega), if_neg (by omega), if_neg (by omega), if_neg (by omega)]
    have zR : ∀ a, 172 ≤ a → ∀ f, rF Rz 1 171 a f = 0 := fun a ha f => by unfold rF; rw [if_neg (by omega)]
    refine y_astore_n (ls' := [(1, _)]) hg dL_law_7 rfl (by decide) (by decide) rfl ?_
    refine y_new hg dL_law_8 nw_L_10 (by decide) (fun f => z4 _ (by omega) f) (fun f => zR _ (by omega) f) (Nat.le_of_ble_eq_true rfl) (Nat.le_of_ble_eq_true rfl) ?_
    refine y_dup hg dL_law_11 rfl ?_
    refine y_cI hg ha [] [_] he dL_law_12 mi_L_12 (c_X12_init l b1 D cy (fun a ha f => z4 a (by omega) f) zR) rfl rfl (Nat.le_of_ble_eq_true rfl) (by decide) ⟨Nat.le_of_ble_eq_true rfl, Nat.le_of_ble_eq_true rfl⟩ (fun M12 q12 => ?_)
    refine y_astore_n (ls' := [(1, _), (2, _)]) hg dL_law_15 rfl (by decide) (by decide) rfl ?_
    refine y_iconst hg dL_law_16 ?_
    refine y_istore_n (ls' := [(1, _), (2, _), (3, _)]) hg dL_law_17 rfl (by decide) (by decide) rfl ?_
    refine y_sameR (R' := RS 5) (sameB_ok (by decide +kernel)) ?_
    refine law_loop hg he hX2 hL hend (L + 7) 0 5 M12 (by omega) (by omega) ⟨Or.inl rfl, IX_fr (IX_start q4 (fun a x y z _ => e4 a x y z)) (fun a ha => ?_), IY_start z4 q12, REL_start e4 q12⟩
    funext f
    rw [q12, wM_n (by omega), mu_nc (by omega), mu_nc (by omega)]
  have hl := lv_entry ([.ref b]) (n := 4) (Nat.le_of_ble_eq_true rfl)
  rw [lg_entry_eq]
  generalize (lg_sl ([.ref b]) ++ List.replicate (4 - (lg_sl ([.ref b])).length) Slot.unset).toArray = lsE at hl ⊢
  refine main s.heap [] lsE ⟨by rw [hb1], fun k q h => ?_⟩ va_S.rf ?_
  · simp [xws] at h
  · rw [hml]; exact hl
