/-! ===== the law's own steps: slot 0 holds the script ===== -/
def yW : xGT → Nat → Nat → xMm → xRm → Nat → Nat → Nat → List (Nat × xV) → List xV → Prop
  | (p, l, e, Rm, s, m, args, below, meth, c, b, D, cy, Q), a0, n, M, R, k, w, pc, ls, st => ∀ (H : Heap) (locs : List Loc) (lsA : Array Slot), xWd D cy b n M R H → va_S (fun q => b < q) s.heap H locs → lv_has lsA c.maxLocals ((0, Value.ref a0) :: cvs b ls) → W p l e Rm s m args below meth c H locs k w Q (F0 m pc lsA (st.map (cv b)))
theorem yv {lsA : Array Slot} {nL a0 b : Nat} {ls : List (Nat × xV)} (h : lv_has lsA nL ((0, Value.ref a0) :: cvs b ls)) : lv_has lsA nL (cvs b ls) := ⟨h.1, h.2.1, fun q hq => h.2.2 q (List.mem_cons_of_mem _ hq)⟩
theorem yset {lsA : Array Slot} {nL a0 b q : Nat} {v : xV} {ls ls' : List (Nat × xV)} (hq : q ≠ 0) (h : lv_has lsA nL ((q, cv b v) :: ((0, Value.ref a0) :: cvs b ls).filter (fun e => !(e.1 == q) && !(e.1 + 1 == q && e.2.category == 2)))) (hl : ls'.map (fun e => xget (xset1 ls q v) e.1) = ls'.map (fun e => some e.2)) : lv_has lsA nL ((0, Value.ref a0) :: cvs b ls') := by
  have h2 : lv_has lsA nL (cvs b (xset1 ls q v)) := by
    rw [← xset1_ok]
    refine ⟨h.1, h.2.1, fun e he => h.2.2 e ?_⟩
    rcases List.mem_cons.mp he with he | he
    · rw [he]; exact List.mem_cons_self
    · obtain ⟨h3, h4⟩ := List.mem_filter.mp he
      exact List.mem_cons_of_mem _ (List.mem_filter.mpr ⟨List.mem_cons_of_mem _ h3, h4⟩)
  have h5 := xcanon h2 hl
  refine ⟨h.1, h.2.1, fun e he => ?_⟩
  rcases List.mem_cons.mp he with he | he
  · refine h.2.2 e ?_
    rw [he]
    refine List.mem_cons_of_mem _ (List.mem_filter.mpr ⟨List.mem_cons_self, ?_⟩)
    show (!((0 : Nat) == q) && !((0 : Nat) + 1 == q && (Value.ref a0).category == 2)) = true
    have e1 : ((0 : Nat) == q) = false := by simp [Ne.symm hq]
    rw [e1]
    simp [Value.category]
  · exact h5.2.2 e he
/-- what is known of the script, in a walk of the law -/
def yX : xGT → Nat → Nat → (Nat → Int32) → Prop
  | (_, _, _, _, s, _, _, _, _, _, b, _, _, _), a0, L, xs => va_X a0 L xs s s.heap ∧ a0 < s.heap.size ∧ a0 ≤ b
section YW
variable {g : xGT} {cc : ByteArray} {own : String} {rm : Room} {nL : Nat} {a0 n : Nat} {M : xMm} {R : xRm} {k w pc : Nat} {ls ls' : List (Nat × xV)} {st : List xV}
theorem y_aload_n (hg : xG g cc own rm nL) {q : Fin 4} {i : Nat} (d : decode cc pc = .ok (.aload_n q, 1)) (hl : xget ls (q : Nat) = some (xr i)) (t : yW g a0 n M R k w (pc + 1) ls (xr i :: st)) : yW g a0 n M R k w pc ls st := by
  obtain ⟨p, l, e, Rm, s, m, args, below, meth, c, b, D, cy, Q⟩ := g
  obtain ⟨hx, hb, hown, hts, hK, hlk, hbs, hrm, hml⟩ := hg
  intro H locs lsA hW hS hv
  exact lv_aload_n hx hb d rfl (xget_at (yv hv) hl) (t H locs lsA hW hS hv)

theorem y_iload_n (hg : xG g cc own rm nL) {q : Fin 4} {z : Int} (d : decode cc pc = .ok (.iload_n q, 1)) (hl : xget ls (q : Nat) = some (xi z)) (t : yW g a0 n M R k w (pc + 1) ls (xi z :: st)) : yW g a0 n M R k w pc ls st := by
  obtain ⟨p, l, e, Rm, s, m, args, below, meth, c, b, D, cy, Q⟩ := g
  obtain ⟨hx, hb, hown, hts, hK, hlk, hbs, hrm, hml⟩ := hg
  intro H locs lsA hW hS hv
  exact lv_iload_n hx hb d rfl (xget_at (yv hv) hl) (t H locs lsA hW hS hv)

theorem y_iconst (hg : xG g cc own rm nL) {z : Int} (d : decode cc pc = .ok (.iconst z, 1)) (t : yW g a0 n M R k w (pc + 1) ls (xi z :: st)) : yW g a0 n M R k w pc ls st := by
  obtain ⟨p, l, e, Rm, s, m, args, below, meth, c, b, D, cy, Q⟩ := g
  obtain ⟨hx, hb, hown, hts, hK, hlk, hbs, hrm, hml⟩ := hg
  intro H locs lsA hW hS hv
  exact lv_iconst hx hb d rfl (t H locs lsA hW hS hv)

theorem y_bipush (hg : xG g cc own rm nL) {z : Int} (d : decode cc pc = .ok (.bipush z, 2)) (hz : (Int8.ofInt z).toInt32 = Int32.ofInt z) (t : yW g a0 n M R k w (pc + 2) ls (xi z :: st)) : yW g a0 n M R k w pc ls st := by
  obtain ⟨p, l, e, Rm, s, m, args, below, meth, c, b, D, cy, Q⟩ := g
  obtain ⟨hx, hb, hown, hts, hK, hlk, hbs, hrm, hml⟩ := hg
  intro H locs lsA hW hS hv
  exact lv_bipush hx hb d hz (t H locs lsA hW hS hv)

theorem y_isub (hg : xG g cc own rm nL) {x y : Int} (d : decode cc pc = .ok (.isub, 1)) (t : yW g a0 n M R k w (pc + 1) ls (xi (x - y) :: st)) : yW g a0 n M R k w pc ls (xi y :: xi x :: st) := by
  obtain ⟨p, l, e, Rm, s, m, args, below, meth, c, b, D, cy, Q⟩ := g
  obtain ⟨hx, hb, hown, hts, hK, hlk, hbs, hrm, hml⟩ := hg
  intro H locs lsA hW hS hv
  refine lv_isub hx hb d ?_
  rw [← Int32.ofInt_sub]
  exact t H locs lsA hW hS hv

theorem y_iand (hg : xG g cc own rm nL) {x y : Int} (d : decode cc pc = .ok (.iand, 1)) (t : yW g a0 n M R k w (pc + 1) ls (xi (bAnd x y) :: st)) : yW g a0 n M R k w pc ls (xi y :: xi x :: st) := by
  obtain ⟨p, l, e, Rm, s, m, args, below, meth, c, b, D, cy, Q⟩ := g
  obtain ⟨hx, hb, hown, hts, hK, hlk, hbs, hrm, hml⟩ := hg
  intro H locs lsA hW hS hv
  refine lv_iand hx hb d ?_
  have t2 := t H locs lsA hW hS hv
  simp only [List.map_cons, cv, Int32.ofInt_toInt] at t2
  exact t2

theorem y_icmp_gt (hg : xG g cc own rm nL) {x y off : Int} {tgt : Nat} (d : decode cc pc = .ok (.if_icmp .gt off, 3)) (ht : (pc : Int) + off = (tgt : Int)) (h1 : inR x) (h2 : inR y) (kt : y < x → yW g a0 n M R k w tgt ls st) (kf : ¬ y < x → yW g a0 n M R k w (pc + 3) ls st) : yW g a0 n M R k w pc ls (xi y :: xi x :: st) := by
  obtain ⟨p, l, e, Rm, s, m, args, below, meth, c, b, D, cy, Q⟩ := g
  obtain ⟨hx, hb, hown, hts, hK, hlk, hbs, hrm, hml⟩ := hg
  intro H locs lsA hW hS hv
  have e1 := oi_lt h2 h1
  refine lv_icmp_gt hx hb d ht (fun q => kt ?_ H locs lsA hW hS hv) (fun q => kf ?_ H locs lsA hW hS hv) <;> (try simp only [ne_eq, ge_iff_le, gt_iff_lt] at q) <;> first | exact e1.mp q | exact (not_congr e1).mp q | exact fun z => q (fun z2 => z (e1.mp z2))

theorem y_icmp_eq (hg : xG g cc own rm nL) {x y off : Int} {tgt : Nat} (d : decode cc pc = .ok (.if_icmp .eq off, 3)) (ht : (pc : Int) + off = (tgt : Int)) (h1 : inR x) (h2 : inR y) (kt : x = y → yW g a0 n M R k w tgt ls st) (kf : ¬ x = y → yW g a0 n M R k w (pc + 3) ls st) : yW g a0 n M R k w pc ls (xi y :: xi x :: st) := by
  obtain ⟨p, l, e, Rm, s, m, args, below, meth, c, b, D, cy, Q⟩ := g
  obtain ⟨hx, hb, hown, hts, hK, hlk, hbs, hrm, hml⟩ := hg
  intro H locs lsA hW hS hv
  have e1 := oi_eq h1 h2
  refine lv_icmp_eq hx hb d ht (fun q => kt ?_ H locs lsA hW hS hv) (fun q => kf ?_ H locs lsA hW hS hv) <;> (try simp only [ne_eq, ge_iff_le, gt_iff_lt] at q) <;> first | exact e1.mp q | exact (not_congr e1).mp q | exact fun z => q (fun z2 => z (e1.mp z2))

theorem y_if_eq (hg : xG g cc own rm nL) {x off : Int} {tgt : Nat} (d : decode cc pc = .ok (.ifCond .eq off, 3)) (ht : (pc : Int) + off = (tgt : Int)) (h : inR x) (kt : x = 0 → yW g a0 n M R k w tgt ls st) (kf : ¬ x = 0 → yW g a0 n M R k w (pc + 3) ls st) : yW g a0 n M R k w pc ls (xi x :: st) := by
  obtain ⟨p, l, e, Rm, s, m, args, below, meth, c, b, D, cy, Q⟩ := g
  obtain ⟨hx, hb, hown, hts, hK, hlk, hbs, hrm, hml⟩ := hg
  intro H locs lsA hW hS hv
  have e1 : (Int32.ofInt x = 0 ↔ x = 0) := oi_eq (c := 0) h (by decide)
  have e2 : (Int32.ofInt x < 0 ↔ x < 0) := oi_lt (c := 0) h (by decide)
  have e3 : (0 < Int32.ofInt x ↔ 0 < x) := oi_lt (a := 0) (by decide) h
  have e4 : (Int32.ofInt x ≤ 0 ↔ x ≤ 0) := oi_le (c := 0) h (by decide)
  have e5 : (0 ≤ Int32.ofInt x ↔ 0 ≤ x) := oi_le (a := 0) (by decide) h
  refine lv_if_eq hx hb d ht (fun q => kt ?_ H locs lsA hW hS hv) (fun q => kf ?_ H locs lsA hW hS hv) <;> (try simp only [ne_eq, ge_iff_le, gt_iff_lt] at q) <;> first | exact e1.mp q | exact (not_congr e1).mp q | exact fun z => q (fun z2 => z (e1.mp z2))

theorem y_goto (hg : xG g cc own rm nL) {off : Int} {tgt : Nat} (d : decode cc pc = .ok (.goto off, 3)) (ht : (pc : Int) + off = (tgt : Int)) (t : yW g a0 n M R k w tgt ls st) : yW g a0 n M R k w pc ls st := by
  obtain ⟨p, l, e, Rm, s, m, args, below, meth, c, b, D, cy, Q⟩ := g
  obtain ⟨hx, hb, hown, hts, hK, hlk, hbs, hrm, hml⟩ := hg
  intro H locs lsA hW hS hv
  exact lv_goto hx hb d ht (t H locs lsA hW hS hv)

theorem y_pop (hg : xG g cc own rm nL) {v : xV} (d : decode cc pc = .ok (.pop, 1)) (hc : xcat v = 1) (t : yW g a0 n M R k w (pc + 1) ls st) : yW g a0 n M R k w pc ls (v :: st) := by
  obtain ⟨p, l, e, Rm, s, m, args, below, meth, c, b, D, cy, Q⟩ := g
  obtain ⟨hx, hb, hown, hts, hK, hlk, hbs, hrm, hml⟩ := hg
  intro H locs lsA hW hS hv
  exact lv_pop hx hb d (by rw [xcat_ok]; exact hc) (t H locs lsA hW hS hv)

theorem y_dup (hg : xG g cc own rm nL) {v : xV} (d : decode cc pc = .ok (.dup, 1)) (hc : xcat v = 1) (t : yW g a0 n M R k w (pc + 1) ls (v :: v :: st)) : yW g a0 n M R k w pc ls (v :: st) := by
  obtain ⟨p, l, e, Rm, s, m, args, below, meth, c, b, D, cy, Q⟩ := g
  obtain ⟨hx, hb, hown, hts, hK, hlk, hbs, hrm, hml⟩ := hg
  intro H locs lsA hW hS hv
  exact lv_dup hx hb d (by rw [xcat_ok]; exact hc) (t H locs lsA hW hS hv)

theorem y_tableIn (hg : xG g cc own rm nL) {x dflt lo hi off : Int} {offs : Array Int} {len tgt : Nat} (d : decode cc pc = .ok (.tableswitch dflt lo hi offs, len)) (h : inR x) (h1 : ¬ x < lo) (h2 : ¬ hi < x) (ho : offs[(x - lo).toNat]? = some off) (ht : (pc : Int) + off = (tgt : Int)) (t : yW g a0 n M R k w tgt ls st) : yW g a0 n M R k w pc ls (xi x :: st) := by
  obtain ⟨p, l, e, Rm, s, m, args, below, meth, c, b, D, cy, Q⟩ := g
  obtain ⟨hx, hb, hown, hts, hK, hlk, hbs, hrm, hml⟩ := hg
  intro H locs lsA hW hS hv
  exact lv_tableIn hx hb d (by rw [oi_t h]; exact h1) (by rw [oi_t h]; exact h2) (by rw [oi_t h]; exact ho) ht (t H locs lsA hW hS hv)

theorem y_tableOut (hg : xG g cc own rm nL) {x dflt lo hi : Int} {offs : Array Int} {len tgt : Nat} (d : decode cc pc = .ok (.tableswitch dflt lo hi offs, len)) (h : inR x) (ho : x < lo ∨ hi < x) (ht : (pc : Int) + dflt = (tgt : Int)) (t : yW g a0 n M R k w tgt ls st) : yW g a0 n M R k w pc ls (xi x :: st) := by
  obtain ⟨p, l, e, Rm, s, m, args, below, meth, c, b, D, cy, Q⟩ := g
  obtain ⟨hx, hb, hown, hts, hK, hlk, hbs, hrm, hml⟩ := hg
  intro H locs lsA hW hS hv
  exact lv_tableOut hx hb d (by rw [oi_t h]; exact ho) ht (t H locs lsA hW hS hv)

set_option maxHeartbeats 1000000 in
theorem y_callV (hg : xG g cc own rm nL) {l : Launch} {b : Nat} {D : va_G} {cy : Nat → ClassId} {idx ci i na : Nat} {y : MethodName} {code : ByteArray} {maxL : Nat} {ret : Option FieldType} {rmc : Room} {As rest : List xV} {Post : xPost}
    (he : g.2.1 = l ∧ g.2.2.2.2.2.2.2.2.2.2.1 = b ∧ g.2.2.2.2.2.2.2.2.2.2.2.1 = D ∧ g.2.2.2.2.2.2.2.2.2.2.2.2.1 = cy) (d : decode cc pc = .ok (.invokevirtual idx, 3)) (hM : xMV own idx ci y code maxL ret na) (hC : xC l b D cy y code maxL ret rmc (xr i :: As) n M R Post)
    (ho : xO n i ci) (hn : As.length = na) (hst : st = As.reverse ++ xr i :: rest) (hrest : (rest.map xcat).sum ≤ 8) (hroom : rmc.frames + 1 ≤ rm.frames ∧ 8 + (maxL + 11) + rmc.locals ≤ rm.locals) (hcells : k + rmc.cells ≤ rm.cells ∧ w + rmc.slots ≤ rm.slots)
    (t : ∀ v n' M' R', Post v n' M' R' → yW g a0 n' M' R' (k + rmc.cells) (w + rmc.slots) (pc + 3) ls (v.toList ++ rest)) : yW g a0 n M R k w pc ls st := by
  obtain ⟨p, l', e, Rm, s, m, args, below, meth, c, b', D', cy', Q⟩ := g
  obtain ⟨rfl, rfl, rfl, rfl⟩ := he
  dsimp only at *
  obtain ⟨hx, hb, hown, hts, hK, hlk, hbs, hrm, hml⟩ := hg
  intro H locs lsA hW hS hv
  subst hrm
  obtain ⟨⟨q, hq, hyq⟩, m1, m2, m3, m4, m5, m6, m7⟩ := hM
  have hts2 : ∀ v ∈ lw_tbl.filter goodWord, v.before args s = true := fun v hv => hts v (List.mem_filter.mp hv).1 (List.mem_filter.mp hv).2
  obtain ⟨h1, h2, hl⟩ := ho
  have hobj := xWd_obj (D := D') (cy := cy') (b := b') (M := M) (R := R) h1 h2 hl
  have hcw : CallW Rm s args own y.cls idx y code maxL ret (xwords y code maxL ret) rmc rmc.cells rmc.slots na := ⟨callB_of na hts2 (xgood m5 m6) rfl rfl rfl (hts _ m4 rfl) (hts _ m1 rfl) m7 hroom, hts _ m2 rfl, hts _ m3 rfl⟩
  refine xcallk (rest := rest) (va_runV (cc := cc) (nL := nL) (Ts := lw_tbl.filter goodWord) (As := As.map (cv b')) (b := b' + i) ⟨hx, hb, hml, hown, hts2⟩ hC hcw ⟨xblind (as := xr i :: As), ?_, fun U hU hWm => ⟨rfl, by rw [hU]; exact hW, xK_warm hK hWm⟩⟩ rfl (by rw [List.length_map]; exact hn) (hv.1.trans hml) (by rw [hst]; simp [cv]) (lv_room (xcats b' rest hrest)) d hcells) hS
    (fun v n' M' R' H1 locs1 hp hw1 hS1 => t v n' M' R' hp H1 locs1 lsA hw1 hS1 hv)
  have := va_recv (q := q) hK.1 hW.2 hq hobj
  rw [← hyq] at this
  exact this

theorem y_cVi {l : Launch} {b : Nat} {D : va_G} {cy : Nat → ClassId} {idx ci i na : Nat} {y : MethodName} {code : ByteArray} {maxL : Nat} {ret : Option FieldType} {rmc : Room} (hg : xG g cc own rm nL) (he : xE g l b D cy) {n2 : Nat} {R2 : xRm} {Q : Int → xMm → Prop} (As rest : List xV) (d : decode cc pc = .ok (.invokevirtual idx, 3)) (hM : xMV own idx ci y code maxL ret na) (hC : xC l b D cy y code maxL ret rmc (xr i :: As) n M R (xPi n2 R2 Q)) (ho : xO n i ci) (hn : As.length = na) (hst : st = As.reverse ++ xr i :: rest) (hrest : (rest.map xcat).sum ≤ 8) (hroom : rmc.frames + 1 ≤ rm.frames ∧ 8 + (maxL + 11) + rmc.locals ≤ rm.locals) (hcells : k + rmc.cells ≤ rm.cells ∧ w + rmc.slots ≤ rm.slots)
    (t : ∀ (r : Int) M', Q r M' → yW g a0 n2 M' R2 (k + rmc.cells) (w + rmc.slots) (pc + 3) ls (xi r :: rest)) : yW g a0 n M R k w pc ls st :=
  y_callV (rest := rest) hg he d hM hC ho hn hst hrest hroom hcells (fun v n' M' R' hp => by obtain ⟨rfl, rfl, r, rfl, hq⟩ := hp; exact t r M' hq)

set_option maxHeartbeats 1000000 in
theorem y_new (hg : xG g cc own rm nL) {idx ci N : Nat} (d : decode cc pc = .ok (.new idx, 3)) (hN : xNw own idx ci N) (hl : lay (n + 1) = .inl ci) (hM : ∀ f, M (n + 1) f = 0) (hR : ∀ f, R (n + 1) f = 0) (hk : k + 1 ≤ rm.cells) (hw : w + N ≤ rm.slots) (t : yW g a0 (n + 1) M R (k + 1) (w + N) (pc + 3) ls (xr (n + 1) :: st)) : yW g a0 n M R k w pc ls st := by
  obtain ⟨p, l, e, Rm, s, m, args, below, meth, c, b, D, cy, Q⟩ := g
  obtain ⟨hx, hb, hown, hts, hK, hlk, hbs, hrm, hml⟩ := hg
  intro H locs lsA hW hS hv
  subst hrm
  obtain ⟨⟨C, T, N'⟩, hc, hN2, w1, w2, w3⟩ := hN
  subst hN2
  have hts2 : ∀ v ∈ lw_tbl.filter goodWord, v.before args s = true := fun v hv => hts v (List.mem_filter.mp hv).1 (List.mem_filter.mp hv).2
  obtain ⟨hin, ty0, hty, hnm⟩ := xcl hc
  have hin2 : ∀ v ∈ u_ws C T N', v ∈ lw_tbl.filter goodWord := fun v hv => List.mem_filter.mpr (hin v hv)
  have hKn := hK.1.1 ci _ hc
  have hsz : H.size = b + (n + 1) := by rw [hW.1]; omega
  refine W.newcK hx hb hown (hts _ w1 rfl) (hts _ w2 rfl) (hts _ w3 rfl) rfl d hk hw hKn.2.1 hsz fun H1 kC hkC e1 z1 o1 => ?_
  have o2 : ∀ q, q < H.size → H1[q]? = H[q]? := fun q hq => o1 q (by rw [← hsz]; exact hq)
  refine t H1 locs lsA (xWd_push hW (by rw [z1, hsz]) o2 ?_) (xS_push hS (by rw [z1, hsz]) o2) hv
  simp only [xcell, hl]
  refine ⟨_, hc, (u_born ty0 hts2 hin2 hKn hkC e1 hty).to (fun j hj => ?_)⟩
  obtain ⟨t9, ht9, hx9, hd9⟩ := xdk_at hc hj
  rw [hty j hj] at hd9
  show defaultValue (ty0 j) = ((xfs b M R (n + 1) (xfk ci)).getD j .null)
  rw [List.getD_eq_getElem?_getD, xfs_at hx9, xdk_ok (ty0 j) (Option.some.inj hd9) ht9]
  simp only [Option.getD_some, xfv, hM, hR, xrf, if_true, va_rf]
  rfl

set_option maxHeartbeats 1000000 in
theorem y_callI (hg : xG g cc own rm nL) (ha : xGa g) {l : Launch} {b : Nat} {D : va_G} {cy : Nat → ClassId} {idx i na : Nat} {y : MethodName} {code : ByteArray} {maxL : Nat} {rmc : Room} {As rest : List xV} {Post : xPost}
    (he : xE g l b D cy) (d : decode cc pc = .ok (.invokespecial idx, 3)) (hM : xMI own idx y code maxL na) (hC : xCi l b D cy y code maxL rmc (xr i :: As) n M R Post)
    (hn : As.length = na) (hst : st = As.reverse ++ xr i :: rest) (hrest : (rest.map xcat).sum ≤ 8) (hroom : rmc.frames + 1 ≤ rm.frames ∧ 8 + (maxL + 11) + rmc.locals ≤ rm.locals) (hcells : k + rmc.cells ≤ rm.cells ∧ w + rmc.slots ≤ rm.slots)
    (t : ∀ v n' M' R', Post v n' M' R' → yW g a0 n' M' R' (k + rmc.cells) (w + rmc.slots) (pc + 3) ls (v.toList ++ rest)) : yW g a0 n M R k w pc ls st := by
  obtain ⟨p, l', e, Rm, s, m, args, below, meth, c, b', D', cy', Q⟩ := g
  obtain ⟨rfl, rfl, rfl, rfl⟩ := he
  dsimp only at *
  obtain ⟨hx, hb, hown, hts, hK, hlk, hbs, hrm, hml⟩ := hg
  intro H locs lsA hW hS hv
  subst hrm
  obtain ⟨m1, m2, m4, m5, m6, m8, m7⟩ := hM
  have hts2 : ∀ v ∈ lw_tbl.filter goodWord, v.before args s = true := fun v hv => hts v (List.mem_filter.mp hv).1 (List.mem_filter.mp hv).2
  have hao : xAO cy' s := ha
  have hpre : PreS s H (va_Pc ((xr i :: As).map (cv b')) (fun U => xWd D' cy' b' n M R U.heap ∧ xK D' cy' U ∧ xAO cy' U)) (.ref (b' + i) :: As.map (cv b')) := ⟨xblindI (as := xr i :: As), fun U hU hWm => ⟨rfl, by rw [hU]; exact hW, xK_warm hK hWm, xAO_moved hWm.alike hao⟩⟩
  rcases m1 with m1 | ⟨host, m1⟩
  · exact xcallk (rest := rest) (va_runI (cc := cc) (nL := nL) (Ts := lw_tbl.filter goodWord) (As := As.map (cv b')) (b := b' + i) ⟨hx, hb, hml, hown, hts2⟩ hC ⟨callB_of na hts2 (xgood m5 m6) rfl rfl rfl (hts _ m4 rfl) (hts _ m1 rfl) m7 hroom, m8, hts _ m2 rfl⟩ hpre rfl (by rw [List.length_map]; exact hn) (hv.1.trans hml) (by rw [hst]; simp [cv]) (lv_room (xcats b' rest hrest)) d hcells) hS
      (fun v n' M' R' H1 locs1 hp hw1 hS1 => t v n' M' R' hp H1 locs1 lsA hw1 hS1 hv)
  · exact xcallk (rest := rest) (va_runIN (cc := cc) (nL := nL) (Ts := lw_tbl.filter goodWord) (As := As.map (cv b')) (b := b' + i) ⟨hx, hb, hml, hown, hts2⟩ hC ⟨va_cnB na hts2 (xgood m5 m6) rfl rfl rfl (hK.2 _ m1 rfl) (hts _ m4 rfl) m7 hroom, m8, hts _ m2 rfl⟩ hpre rfl (by rw [List.length_map]; exact hn) (hv.1.trans hml) (by rw [hst]; simp [cv]) (lv_room (xcats b' rest hrest)) d hcells) hS
      (fun v n' M' R' H1 locs1 hp hw1 hS1 => t v n' M' R' hp H1 locs1 lsA hw1 hS1 hv)

theorem y_cI (hg : xG g cc own rm nL) (ha : xGa g) {l : Launch} {b : Nat} {D : va_G} {cy : Nat → ClassId} {idx i na n2 : Nat} {R2 : xRm} {Q2 : xMm → Prop} {y : MethodName} {code : ByteArray} {maxL : Nat} {rmc : Room} (As rest : List xV)
    (he : xE g l b D cy) (d : decode cc pc = .ok (.invokespecial idx, 3)) (hM : xMI own idx y code maxL na) (hC : xCi l b D cy y code maxL rmc (xr i :: As) n M R (xPc n2 R2 Q2))
    (hn : As.length = na) (hst : st = As.reverse ++ xr i :: rest) (hrest : (rest.map xcat).sum ≤ 8) (hroom : rmc.frames + 1 ≤ rm.frames ∧ 8 + (maxL + 11) + rmc.locals ≤ rm.locals) (hcells : k + rmc.cells ≤ rm.cells ∧ w + rmc.slots ≤ rm.slots)
    (t : ∀ M', Q2 M' → yW g a0 n2 M' R2 (k + rmc.cells) (w + rmc.slots) (pc + 3) ls rest) : yW g a0 n M R k w pc ls st :=
  y_callI (rest := rest) hg ha he d hM hC hn hst hrest hroom hcells (fun v n' M' R' hp => by obtain ⟨rfl, rfl, rfl, hq⟩ := hp; exact t M' hq)

theorem y_wide {k2 w2 : Nat} (h1 : k ≤ k2) (h2 : w ≤ w2) (t : yW g a0 n M R k2 w2 pc ls st) : yW g a0 n M R k w pc ls st := by
  obtain ⟨p, l, e, Rm, s, m, args, below, meth, c, b, D, cy, Q⟩ := g
  intro H locs lsA hW hS hv
  exact W.widen h1 h2 (t H locs lsA hW hS hv)

theorem y_sameR {R' : xRm} (h : sameR n R R') (t : yW g a0 n M R' k w pc ls st) : yW g a0 n M R k w pc ls st := by
  obtain ⟨p, l, e, Rm, s, m, args, below, meth, c, b, D, cy, Q⟩ := g
  intro H locs lsA hW hS hv
  exact t H locs lsA (xWd_same h hW) hS hv

theorem y_istore_n (hg : xG g cc own rm nL) {f : Fin 4} {q : Nat} {z : Int} (d : decode cc pc = .ok (.istore_n f, 1)) (hq : (f : Nat) = q) (h0 : q ≠ 0) (hn : q < nL) (hl : ls'.map (fun e => xget (xset1 ls q (xi z)) e.1) = ls'.map (fun e => some e.2)) (t : yW g a0 n M R k w (pc + 1) ls' st) : yW g a0 n M R k w pc ls (xi z :: st) := by
  obtain ⟨p, l, e, Rm, s, m, args, below, meth, c, b, D, cy, Q⟩ := g
  obtain ⟨hx, hb, hown, hts, hK, hlk, hbs, hrm, hml⟩ := hg
  intro H locs lsA hW hS hv
  subst hml
  exact lv_istore_n hx hb d hq hv hn rfl (fun lsA hv => t H locs lsA hW hS (yset (v := xi z) h0 hv hl))
theorem y_astore_n (hg : xG g cc own rm nL) {f : Fin 4} {q i : Nat} (d : decode cc pc = .ok (.astore_n f, 1)) (hq : (f : Nat) = q) (h0 : q ≠ 0) (hn : q < nL) (hl : ls'.map (fun e => xget (xset1 ls q (xr i)) e.1) = ls'.map (fun e => some e.2)) (t : yW g a0 n M R k w (pc + 1) ls' st) : yW g a0 n M R k w pc ls (xr i :: st) := by
  obtain ⟨p, l, e, Rm, s, m, args, below, meth, c, b, D, cy, Q⟩ := g
  obtain ⟨hx, hb, hown, hts, hK, hlk, hbs, hrm, hml⟩ := hg
  intro H locs lsA hW hS hv
  subst hml
  exact lv_astore_n hx hb d hq hv hn rfl (fun lsA hv => t H locs lsA hW hS (yset (v := xr i) h0 hv hl))
theorem y_iinc (hg : xG g cc own rm nL) {q : Nat} {z inc : Int} (d : decode cc pc = .ok (.iinc q inc, 3)) (hj : xget ls q = some (xi z)) (h0 : q ≠ 0) (hn : q < nL) (hl : ls'.map (fun e => xget (xset1 ls q (xi (z + inc))) e.1) = ls'.map (fun e => some e.2)) (t : yW g a0 n M R k w (pc + 3) ls' st) : yW g a0 n M R k w pc ls st := by
  obtain ⟨p, l, e, Rm, s, m, args, below, meth, c, b, D, cy, Q⟩ := g
  obtain ⟨hx, hb, hown, hts, hK, hlk, hbs, hrm, hml⟩ := hg
  intro H locs lsA hW hS hv
  subst hml
  obtain ⟨j, hj⟩ := xget_ix hj
  have hj2 : ((0, Value.ref a0) :: cvs b ls)[j + 1]? = some (q, .int (Int32.ofInt z)) := cvs_at hj
  exact lv_iinc hx hb d hv hj2 (v := Int32.ofInt (z + inc)) (by rw [← Int32.ofInt_add]) hn rfl (fun lsA hv => t H locs lsA hW hS (yset (v := xi (z + inc)) h0 hv hl))
/-- the script's length -/
theorem y_len (hg : xG g cc own rm nL) {L : Nat} {xs : Nat → Int32} (hX : yX g a0 L xs) (d0 : decode cc pc = .ok (.aload_n 0, 1)) (d1 : decode cc (pc + 1) = .ok (.arraylength, 1)) (t : yW g a0 n M R k w (pc + 1 + 1) ls (xi (L : Int) :: st)) : yW g a0 n M R k w pc ls st := by
  obtain ⟨p, l, e, Rm, s, m, args, below, meth, c, b, D, cy, Q⟩ := g
  obtain ⟨hx, hb, hown, hts, hK, hlk, hbs, hrm, hml⟩ := hg
  intro H locs lsA hW hS hv
  obtain ⟨hX1, hX2, hX3⟩ := hX
  refine lv_aload_n hx hb d0 rfl (lv_at hv 0 rfl) ?_
  refine va_slen hx hb hX1 hX2 (A := fun q => b < q) (by omega) hS d1 ?_
  exact t H locs lsA hW hS hv
/-- an int of the script -/
theorem y_arg (hg : xG g cc own rm nL) {L : Nat} {xs : Nat → Int32} (hX : yX g a0 L xs) {j i : Int} {f : Fin 4} (d0 : decode cc pc = .ok (.aload_n 0, 1)) (d1 : decode cc (pc + 1) = .ok (.iload_n f, 1)) (d2 : decode cc (pc + 1 + 1) = .ok (.iconst j, 1)) (d3 : decode cc (pc + 1 + 1 + 1) = .ok (.iadd, 1)) (d4 : decode cc (pc + 1 + 1 + 1 + 1) = .ok (.iaload, 1)) (hl : xget ls (f : Nat) = some (xi i)) (hi : 0 ≤ i + j ∧ i + j < (L : Int)) (hL : L ≤ 100000)
    (t : yW g a0 n M R k w (pc + 1 + 1 + 1 + 1 + 1) ls (xi (xs (i + j).toNat).toInt :: st)) : yW g a0 n M R k w pc ls st := by
  obtain ⟨p, l, e, Rm, s, m, args, below, meth, c, b, D, cy, Q⟩ := g
  obtain ⟨hx, hb, hown, hts, hK, hlk, hbs, hrm, hml⟩ := hg
  intro H locs lsA hW hS hv
  obtain ⟨hX1, hX2, hX3⟩ := hX
  refine lv_aload_n hx hb d0 rfl (lv_at hv 0 rfl) ?_
  refine lv_iload_n hx hb d1 rfl (xget_at (yv hv) hl) ?_
  refine lv_iconst hx hb d2 rfl ?_
  refine lv_iadd hx hb d3 ?_
  rw [← Int32.ofInt_add]
  refine va_sld hx hb hX1 hX2 (A := fun q => b < q) (by omega) hS (oi_in hi.1 hi.2 (by omega)) d4 ?_
  have t2 := t H locs lsA hW hS hv
  simp only [List.map_cons, cv, Int32.ofInt_toInt] at t2
  rw [oi_cl hi.1 (by omega)]
  exact t2
/-- the int where the walk stands -/
theorem y_arg0 (hg : xG g cc own rm nL) {L : Nat} {xs : Nat → Int32} (hX : yX g a0 L xs) {i : Int} {f : Fin 4} (d0 : decode cc pc = .ok (.aload_n 0, 1)) (d1 : decode cc (pc + 1) = .ok (.iload_n f, 1)) (d4 : decode cc (pc + 1 + 1) = .ok (.iaload, 1)) (hl : xget ls (f : Nat) = some (xi i)) (hi : 0 ≤ i ∧ i < (L : Int)) (hL : L ≤ 100000)
    (t : yW g a0 n M R k w (pc + 1 + 1 + 1) ls (xi (xs i.toNat).toInt :: st)) : yW g a0 n M R k w pc ls st := by
  obtain ⟨p, l, e, Rm, s, m, args, below, meth, c, b, D, cy, Q⟩ := g
  obtain ⟨hx, hb, hown, hts, hK, hlk, hbs, hrm, hml⟩ := hg
  intro H locs lsA hW hS hv
  obtain ⟨hX1, hX2, hX3⟩ := hX
  refine lv_aload_n hx hb d0 rfl (lv_at hv 0 rfl) ?_
  refine lv_iload_n hx hb d1 rfl (xget_at (yv hv) hl) ?_
  refine va_sld hx hb hX1 hX2 (A := fun q => b < q) (by omega) hS (oi_in hi.1 hi.2 (by omega)) d4 ?_
  have t2 := t H locs lsA hW hS hv
  simp only [List.map_cons, cv, Int32.ofInt_toInt] at t2
  rw [oi_cl hi.1 (by omega)]
  exact t2
end YW
