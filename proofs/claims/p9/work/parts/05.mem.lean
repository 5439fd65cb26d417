/-! ===== fields, arrays, calls, ends ===== -/
/-- the i-th cell is there, and an object of the class ci; an array of a kind and length -/
abbrev xO (n i ci : Nat) : Prop := 1 ≤ i ∧ i ≤ n ∧ lay i = .inl ci
abbrev xA (n i t len : Nat) : Prop := 1 ≤ i ∧ i ≤ n ∧ lay i = .inr (t, len) ∧ len ≤ 2147483647
theorem xWd_set {D : va_G} {cy : Nat → ClassId} {b n : Nat} {M M' : xMm} {R R' : xRm} {i : Nat} {e : va_E} {H H1 : Heap} (hW : xWd D cy b n M R H) (h1 : 1 ≤ i) (h2 : i ≤ n) (he : xcell cy b M' R' i = e) (hat : va_at D vwCl (b + i, e) H1) (hz : H1.size = H.size) (oq : ∀ q, q ≠ b + i → H1[q]? = H[q]?) (ho : ∀ j, j ≠ i → xcell cy b M' R' j = xcell cy b M R j) : xWd D cy b n M' R' H1 :=
  ⟨hz.trans hW.1, by rw [← xws_set h1 h2 he ho]; exact hW.2.set xws_D (xws_at h1 h2) hat oq⟩
theorem xnar_b {z : Int} (h : -128 ≤ z ∧ z ≤ 127) : narrow .byte (Value.int (Int32.ofInt z)) = Value.int (Int32.ofInt z) := by
  have e : (Int32.ofInt z).toInt8.toInt32 = Int32.ofInt z := by
    rw [← Int32.toInt_inj, Int8.toInt_toInt32, Int32.toInt_toInt8, oi_t ⟨by omega, by omega⟩]
    simp only [Int.bmod]
    omega
  show Value.int (Int32.ofInt z).toInt8.toInt32 = _
  rw [e]
section XM
variable {g : xGT} {cc : ByteArray} {own : String} {rm : Room} {nL : Nat} {n : Nat} {M : xMm} {R : xRm} {k w pc : Nat} {ls ls' : List (Nat × xV)} {st : List xV}

set_option maxHeartbeats 1000000 in
theorem x_getI (hg : xG g cc own rm nL) {idx ci f i : Nat} (d : decode cc pc = .ok (.getfield idx, 3)) (hf : xFl own idx ci f) (ho : xO n i ci) (ht : (xfk ci)[f]? = some 0) (t : xW g n M R k w (pc + 3) ls (xi (M i f) :: st)) : xW g n M R k w pc ls (xr i :: st) := by
  obtain ⟨p, l, e, Rm, s, m, args, below, meth, c, b, D, cy, Q⟩ := g
  obtain ⟨hx, hb, hown, hts, hK, hlk, hbs, hrm, hml⟩ := hg
  intro H locs lsA hW hS hv
  obtain ⟨h1, h2, hl⟩ := ho
  have hts2 : ∀ v ∈ lw_tbl.filter goodWord, v.before args s = true := fun v hv => hts v (List.mem_filter.mp hv).1 (List.mem_filter.mp hv).2
  obtain ⟨⟨C, T, N⟩, hc, hf1, hf2, hf3⟩ := hf
  obtain ⟨hin, ty0, hty, hnm⟩ := xcl hc
  have hin2 : ∀ v ∈ u_ws C T N, v ∈ lw_tbl.filter goodWord := fun v hv => List.mem_filter.mpr (hin v hv)
  have he := xWd_obj (D := D) (cy := cy) (b := b) (M := M) (R := R) h1 h2 hl
  have hfs : (xfs b M R i (xfk ci))[f]? = some (.int (Int32.ofInt (M i f))) := by
    rw [xfs_at ht]
    simp [xfv, xrf, va_rf]
  rcases hf3 with hf3 | ⟨host, hf3⟩
  · exact va_get (D := D) hx hb hts2 hin2 hown hK.1 hW.2 (i - 1) he hc f hf1 (hts _ hf3 rfl) (fun x hx2 => by rw [hf2] at hx2; exact hx2) hfs d (t H locs lsA hW hS hv)
  · exact va_getN (D := D) hx hb hts2 hin2 hown hK.1 hW.2 (i - 1) he hc f hf1 (va_Nw.use rfl (hK.2 _ hf3 rfl)) (fun x hx2 => by rw [hf2] at hx2; exact hx2) hfs d (t H locs lsA hW hS hv)
set_option maxHeartbeats 1000000 in
theorem x_getL (hg : xG g cc own rm nL) {idx ci f i : Nat} (d : decode cc pc = .ok (.getfield idx, 3)) (hf : xFl own idx ci f) (ho : xO n i ci) (ht : (xfk ci)[f]? = some 1) (t : xW g n M R k w (pc + 3) ls (xl (M i f) :: st)) : xW g n M R k w pc ls (xr i :: st) := by
  obtain ⟨p, l, e, Rm, s, m, args, below, meth, c, b, D, cy, Q⟩ := g
  obtain ⟨hx, hb, hown, hts, hK, hlk, hbs, hrm, hml⟩ := hg
  intro H locs lsA hW hS hv
  obtain ⟨h1, h2, hl⟩ := ho
  have hts2 : ∀ v ∈ lw_tbl.filter goodWord, v.before args s = true := fun v hv => hts v (List.mem_filter.mp hv).1 (List.mem_filter.mp hv).2
  obtain ⟨⟨C, T, N⟩, hc, hf1, hf2, hf3⟩ := hf
  obtain ⟨hin, ty0, hty, hnm⟩ := xcl hc
  have hin2 : ∀ v ∈ u_ws C T N, v ∈ lw_tbl.filter goodWord := fun v hv => List.mem_filter.mpr (hin v hv)
  have he := xWd_obj (D := D) (cy := cy) (b := b) (M := M) (R := R) h1 h2 hl
  have hfs : (xfs b M R i (xfk ci))[f]? = some (.long (Int64.ofInt (M i f))) := by
    rw [xfs_at ht]
    simp [xfv, xrf, va_rf]
  rcases hf3 with hf3 | ⟨host, hf3⟩
  · exact va_get (D := D) hx hb hts2 hin2 hown hK.1 hW.2 (i - 1) he hc f hf1 (hts _ hf3 rfl) (fun x hx2 => by rw [hf2] at hx2; exact hx2) hfs d (t H locs lsA hW hS hv)
  · exact va_getN (D := D) hx hb hts2 hin2 hown hK.1 hW.2 (i - 1) he hc f hf1 (va_Nw.use rfl (hK.2 _ hf3 rfl)) (fun x hx2 => by rw [hf2] at hx2; exact hx2) hfs d (t H locs lsA hW hS hv)
set_option maxHeartbeats 1000000 in
theorem x_getR (hg : xG g cc own rm nL) {idx ci f i j9 : Nat} (d : decode cc pc = .ok (.getfield idx, 3)) (hf : xFl own idx ci f) (ho : xO n i ci) (ht : (xfk ci)[f]? = some 2) (hR : R i f = j9) (h0 : j9 ≠ 0) (t : xW g n M R k w (pc + 3) ls (xr j9 :: st)) : xW g n M R k w pc ls (xr i :: st) := by
  obtain ⟨p, l, e, Rm, s, m, args, below, meth, c, b, D, cy, Q⟩ := g
  obtain ⟨hx, hb, hown, hts, hK, hlk, hbs, hrm, hml⟩ := hg
  intro H locs lsA hW hS hv
  obtain ⟨h1, h2, hl⟩ := ho
  have hts2 : ∀ v ∈ lw_tbl.filter goodWord, v.before args s = true := fun v hv => hts v (List.mem_filter.mp hv).1 (List.mem_filter.mp hv).2
  obtain ⟨⟨C, T, N⟩, hc, hf1, hf2, hf3⟩ := hf
  obtain ⟨hin, ty0, hty, hnm⟩ := xcl hc
  have hin2 : ∀ v ∈ u_ws C T N, v ∈ lw_tbl.filter goodWord := fun v hv => List.mem_filter.mpr (hin v hv)
  have he := xWd_obj (D := D) (cy := cy) (b := b) (M := M) (R := R) h1 h2 hl
  have hfs : (xfs b M R i (xfk ci))[f]? = some (.ref (b + j9)) := by
    rw [xfs_at ht]
    simp [xfv, xrf, va_rf, hR, h0]
  rcases hf3 with hf3 | ⟨host, hf3⟩
  · exact va_get (D := D) hx hb hts2 hin2 hown hK.1 hW.2 (i - 1) he hc f hf1 (hts _ hf3 rfl) (fun x hx2 => by rw [hf2] at hx2; exact hx2) hfs d (t H locs lsA hW hS hv)
  · exact va_getN (D := D) hx hb hts2 hin2 hown hK.1 hW.2 (i - 1) he hc f hf1 (va_Nw.use rfl (hK.2 _ hf3 rfl)) (fun x hx2 => by rw [hf2] at hx2; exact hx2) hfs d (t H locs lsA hW hS hv)
set_option maxHeartbeats 1000000 in
theorem x_putI (hg : xG g cc own rm nL) {idx ci f i : Nat} {z : Int} (d : decode cc pc = .ok (.putfield idx, 3)) (hf : xFl own idx ci f) (hft : xFt ci f .int) (ho : xO n i ci) (ht : (xfk ci)[f]? = some 0) (t : xW g n (mu M i f z) R k w (pc + 3) ls st) : xW g n M R k w pc ls (xi z :: xr i :: st) := by
  obtain ⟨p, l, e, Rm, s, m, args, below, meth, c, b, D, cy, Q⟩ := g
  obtain ⟨hx, hb, hown, hts, hK, hlk, hbs, hrm, hml⟩ := hg
  intro H locs lsA hW hS hv
  obtain ⟨h1, h2, hl⟩ := ho
  have hts2 : ∀ v ∈ lw_tbl.filter goodWord, v.before args s = true := fun v hv => hts v (List.mem_filter.mp hv).1 (List.mem_filter.mp hv).2
  obtain ⟨⟨C, T, N⟩, hc, hf1, hf2, hf3⟩ := hf
  obtain ⟨hin, ty0, hty, hnm⟩ := xcl hc
  have hin2 : ∀ v ∈ u_ws C T N, v ∈ lw_tbl.filter goodWord := fun v hv => List.mem_filter.mpr (hin v hv)
  have he := xWd_obj (D := D) (cy := cy) (b := b) (M := M) (R := R) h1 h2 hl
  obtain ⟨q9, hq9, hfin, hd⟩ := hft
  cases hc.symm.trans hq9
  have hlen : f < (xfs b M R i (xfk ci)).length := by rw [xfs_len]; exact (List.getElem?_eq_some_iff.mp ht).1
  have hset : (xfs b M R i (xfk ci)).set f (cv b (xi z)) = xfs b (mu M i f z) R i (xfk ci) := xfs_set ht (by simp [xfv, cv, mu_s, xrf, va_rf]) (fun c hc => ⟨mu_n (fun z => hc z.2), rfl⟩)
  have hnar : narrow .int (cv b (xi z)) = cv b (xi z) := rfl
  have hfit : fits .int (cv b (xi z)) = true := rfl
  have hap := va_apart (own := own) hts2 hin2 ty0 hty hnm hK.1 hc
  obtain ⟨r, hr1, cell, q1, q2, q3, q4⟩ := hW.2 (i - 1) _ he
  have hr : r = (C, T, N) := Option.some.inj (hr1.symm.trans hc)
  subst hr
  obtain ⟨hSl, hfc, kC, hkC, hkind⟩ := hK.1.1 ci _ hc
  obtain ⟨cf, kf, fi, fd, hi, hsl⟩ := hSl f hf1
  have hlay := hts2 _ (hin2 _ (u_in_lay hf1))
  unfold u_lay at hlay
  rw [if_neg (by rw [hfin]; decide)] at hlay
  have hst := (u_facts hfc hkC (u_lays hts2 hin2 hf1) hi).1
  have h6 := u_store hfc hkC hkind hlay hi hd hnar hfit
  have fin : ∀ (H1 : Heap) (locs1 : List Loc), H1[b + i]? = some (cell.setSlot (D.2 ci f) (cv b (xi z))) → H1.size = H.size → (∀ q, q ≠ b + i → H1[q]? = H[q]?) → va_S (fun q => b < q) s.heap H1 locs1 → W p l e Rm s m args below meth c H1 locs1 k w Q (F0 m (pc + 3) lsA (st.map (cv b))) := by
    intro H1 locs1 e1 e2 e3 hS1
    refine t H1 locs1 lsA (xWd_set (e := .inr (ci, (xfs b M R i (xfk ci)).set f (cv b (xi z)))) hW h1 h2 (by simp only [xcell, hl]; rw [← hset]) ⟨_, hc, t_OB.to (V := updV (vp_V (xfs b M R i (xfk ci))) f (cv b (xi z))) ⟨_, e1, q2, q3, t_set q4 hap hf1 _⟩ (fun j _ => vp_updV_set hlen _ j)⟩ e2 e3 (fun j hj => xcell_congr (fun c => mu_n (fun z => hj z.1)) (fun c => rfl))) hS1 hv
  rcases hf3 with hf3 | ⟨host, hf3⟩
  · refine W.putK hx hb (f := fd) ⟨hown, hts _ hf3 rfl, ⟨_, _, _, by rw [hf2] at hi; exact hi⟩, hst⟩ (by rw [q2]; exact h6) q1 q3 (by rw [hsl]; exact k2_hasslot (q4 f hf1)) rfl rfl d fun H' e1 e2 e3 => ?_
    rw [hsl] at e1
    exact fin H' _ e1 e2 e3 (hS.put e2 e3 (show b < b + i by omega))
  · refine va_WputK hx hb (f := fd) hown (va_Nw.use rfl (hK.2 _ hf3 rfl)) (by rw [hf2] at hi; exact hi) hst (by rw [q2]; exact h6) q1 q3 (by rw [hsl]; exact k2_hasslot (q4 f hf1)) rfl rfl d fun H' e1 e2 e3 => ?_
    rw [hsl] at e1
    exact fin H' _ e1 e2 e3 (hS.put e2 e3 (show b < b + i by omega))
set_option maxHeartbeats 1000000 in
theorem x_putZ (hg : xG g cc own rm nL) {idx ci f i : Nat} {z : Int} (d : decode cc pc = .ok (.putfield idx, 3)) (hf : xFl own idx ci f) (hft : xFt ci f .boolean) (ho : xO n i ci) (ht : (xfk ci)[f]? = some 0) (hz : z = 0 ∨ z = 1) (t : xW g n (mu M i f z) R k w (pc + 3) ls st) : xW g n M R k w pc ls (xi z :: xr i :: st) := by
  obtain ⟨p, l, e, Rm, s, m, args, below, meth, c, b, D, cy, Q⟩ := g
  obtain ⟨hx, hb, hown, hts, hK, hlk, hbs, hrm, hml⟩ := hg
  intro H locs lsA hW hS hv
  obtain ⟨h1, h2, hl⟩ := ho
  have hts2 : ∀ v ∈ lw_tbl.filter goodWord, v.before args s = true := fun v hv => hts v (List.mem_filter.mp hv).1 (List.mem_filter.mp hv).2
  obtain ⟨⟨C, T, N⟩, hc, hf1, hf2, hf3⟩ := hf
  obtain ⟨hin, ty0, hty, hnm⟩ := xcl hc
  have hin2 : ∀ v ∈ u_ws C T N, v ∈ lw_tbl.filter goodWord := fun v hv => List.mem_filter.mpr (hin v hv)
  have he := xWd_obj (D := D) (cy := cy) (b := b) (M := M) (R := R) h1 h2 hl
  obtain ⟨q9, hq9, hfin, hd⟩ := hft
  cases hc.symm.trans hq9
  have hlen : f < (xfs b M R i (xfk ci)).length := by rw [xfs_len]; exact (List.getElem?_eq_some_iff.mp ht).1
  have hset : (xfs b M R i (xfk ci)).set f (cv b (xi z)) = xfs b (mu M i f z) R i (xfk ci) := xfs_set ht (by simp [xfv, cv, mu_s, xrf, va_rf]) (fun c hc => ⟨mu_n (fun z => hc z.2), rfl⟩)
  have hnar : narrow .boolean (cv b (xi z)) = cv b (xi z) := by rcases hz with rfl | rfl <;> rfl
  have hfit : fits .boolean (cv b (xi z)) = true := by rcases hz with rfl | rfl <;> rfl
  have hap := va_apart (own := own) hts2 hin2 ty0 hty hnm hK.1 hc
  obtain ⟨r, hr1, cell, q1, q2, q3, q4⟩ := hW.2 (i - 1) _ he
  have hr : r = (C, T, N) := Option.some.inj (hr1.symm.trans hc)
  subst hr
  obtain ⟨hSl, hfc, kC, hkC, hkind⟩ := hK.1.1 ci _ hc
  obtain ⟨cf, kf, fi, fd, hi, hsl⟩ := hSl f hf1
  have hlay := hts2 _ (hin2 _ (u_in_lay hf1))
  unfold u_lay at hlay
  rw [if_neg (by rw [hfin]; decide)] at hlay
  have hst := (u_facts hfc hkC (u_lays hts2 hin2 hf1) hi).1
  have h6 := u_store hfc hkC hkind hlay hi hd hnar hfit
  have fin : ∀ (H1 : Heap) (locs1 : List Loc), H1[b + i]? = some (cell.setSlot (D.2 ci f) (cv b (xi z))) → H1.size = H.size → (∀ q, q ≠ b + i → H1[q]? = H[q]?) → va_S (fun q => b < q) s.heap H1 locs1 → W p l e Rm s m args below meth c H1 locs1 k w Q (F0 m (pc + 3) lsA (st.map (cv b))) := by
    intro H1 locs1 e1 e2 e3 hS1
    refine t H1 locs1 lsA (xWd_set (e := .inr (ci, (xfs b M R i (xfk ci)).set f (cv b (xi z)))) hW h1 h2 (by simp only [xcell, hl]; rw [← hset]) ⟨_, hc, t_OB.to (V := updV (vp_V (xfs b M R i (xfk ci))) f (cv b (xi z))) ⟨_, e1, q2, q3, t_set q4 hap hf1 _⟩ (fun j _ => vp_updV_set hlen _ j)⟩ e2 e3 (fun j hj => xcell_congr (fun c => mu_n (fun z => hj z.1)) (fun c => rfl))) hS1 hv
  rcases hf3 with hf3 | ⟨host, hf3⟩
  · refine W.putK hx hb (f := fd) ⟨hown, hts _ hf3 rfl, ⟨_, _, _, by rw [hf2] at hi; exact hi⟩, hst⟩ (by rw [q2]; exact h6) q1 q3 (by rw [hsl]; exact k2_hasslot (q4 f hf1)) rfl rfl d fun H' e1 e2 e3 => ?_
    rw [hsl] at e1
    exact fin H' _ e1 e2 e3 (hS.put e2 e3 (show b < b + i by omega))
  · refine va_WputK hx hb (f := fd) hown (va_Nw.use rfl (hK.2 _ hf3 rfl)) (by rw [hf2] at hi; exact hi) hst (by rw [q2]; exact h6) q1 q3 (by rw [hsl]; exact k2_hasslot (q4 f hf1)) rfl rfl d fun H' e1 e2 e3 => ?_
    rw [hsl] at e1
    exact fin H' _ e1 e2 e3 (hS.put e2 e3 (show b < b + i by omega))
set_option maxHeartbeats 1000000 in
theorem x_putL (hg : xG g cc own rm nL) {idx ci f i : Nat} {z : Int} (d : decode cc pc = .ok (.putfield idx, 3)) (hf : xFl own idx ci f) (hft : xFt ci f .long) (ho : xO n i ci) (ht : (xfk ci)[f]? = some 1) (t : xW g n (mu M i f z) R k w (pc + 3) ls st) : xW g n M R k w pc ls (xl z :: xr i :: st) := by
  obtain ⟨p, l, e, Rm, s, m, args, below, meth, c, b, D, cy, Q⟩ := g
  obtain ⟨hx, hb, hown, hts, hK, hlk, hbs, hrm, hml⟩ := hg
  intro H locs lsA hW hS hv
  obtain ⟨h1, h2, hl⟩ := ho
  have hts2 : ∀ v ∈ lw_tbl.filter goodWord, v.before args s = true := fun v hv => hts v (List.mem_filter.mp hv).1 (List.mem_filter.mp hv).2
  obtain ⟨⟨C, T, N⟩, hc, hf1, hf2, hf3⟩ := hf
  obtain ⟨hin, ty0, hty, hnm⟩ := xcl hc
  have hin2 : ∀ v ∈ u_ws C T N, v ∈ lw_tbl.filter goodWord := fun v hv => List.mem_filter.mpr (hin v hv)
  have he := xWd_obj (D := D) (cy := cy) (b := b) (M := M) (R := R) h1 h2 hl
  obtain ⟨q9, hq9, hfin, hd⟩ := hft
  cases hc.symm.trans hq9
  have hlen : f < (xfs b M R i (xfk ci)).length := by rw [xfs_len]; exact (List.getElem?_eq_some_iff.mp ht).1
  have hset : (xfs b M R i (xfk ci)).set f (cv b (xl z)) = xfs b (mu M i f z) R i (xfk ci) := xfs_set ht (by simp [xfv, cv, mu_s, xrf, va_rf]) (fun c hc => ⟨mu_n (fun z => hc z.2), rfl⟩)
  have hnar : narrow .long (cv b (xl z)) = cv b (xl z) := rfl
  have hfit : fits .long (cv b (xl z)) = true := rfl
  have hap := va_apart (own := own) hts2 hin2 ty0 hty hnm hK.1 hc
  obtain ⟨r, hr1, cell, q1, q2, q3, q4⟩ := hW.2 (i - 1) _ he
  have hr : r = (C, T, N) := Option.some.inj (hr1.symm.trans hc)
  subst hr
  obtain ⟨hSl, hfc, kC, hkC, hkind⟩ := hK.1.1 ci _ hc
  obtain ⟨cf, kf, fi, fd, hi, hsl⟩ := hSl f hf1
  have hlay := hts2 _ (hin2 _ (u_in_lay hf1))
  unfold u_lay at hlay
  rw [if_neg (by rw [hfin]; decide)] at hlay
  have hst := (u_facts hfc hkC (u_lays hts2 hin2 hf1) hi).1
  have h6 := u_store hfc hkC hkind hlay hi hd hnar hfit
  have fin : ∀ (H1 : Heap) (locs1 : List Loc), H1[b + i]? = some (cell.setSlot (D.2 ci f) (cv b (xl z))) → H1.size = H.size → (∀ q, q ≠ b + i → H1[q]? = H[q]?) → va_S (fun q => b < q) s.heap H1 locs1 → W p l e Rm s m args below meth c H1 locs1 k w Q (F0 m (pc + 3) lsA (st.map (cv b))) := by
    intro H1 locs1 e1 e2 e3 hS1
    refine t H1 locs1 lsA (xWd_set (e := .inr (ci, (xfs b M R i (xfk ci)).set f (cv b (xl z)))) hW h1 h2 (by simp only [xcell, hl]; rw [← hset]) ⟨_, hc, t_OB.to (V := updV (vp_V (xfs b M R i (xfk ci))) f (cv b (xl z))) ⟨_, e1, q2, q3, t_set q4 hap hf1 _⟩ (fun j _ => vp_updV_set hlen _ j)⟩ e2 e3 (fun j hj => xcell_congr (fun c => mu_n (fun z => hj z.1)) (fun c => rfl))) hS1 hv
  rcases hf3 with hf3 | ⟨host, hf3⟩
  · refine W.putK hx hb (f := fd) ⟨hown, hts _ hf3 rfl, ⟨_, _, _, by rw [hf2] at hi; exact hi⟩, hst⟩ (by rw [q2]; exact h6) q1 q3 (by rw [hsl]; exact k2_hasslot (q4 f hf1)) rfl rfl d fun H' e1 e2 e3 => ?_
    rw [hsl] at e1
    exact fin H' _ e1 e2 e3 (hS.put e2 e3 (show b < b + i by omega))
  · refine va_WputK hx hb (f := fd) hown (va_Nw.use rfl (hK.2 _ hf3 rfl)) (by rw [hf2] at hi; exact hi) hst (by rw [q2]; exact h6) q1 q3 (by rw [hsl]; exact k2_hasslot (q4 f hf1)) rfl rfl d fun H' e1 e2 e3 => ?_
    rw [hsl] at e1
    exact fin H' _ e1 e2 e3 (hS.put e2 e3 (show b < b + i by omega))
set_option maxHeartbeats 1000000 in
theorem x_putR (hg : xG g cc own rm nL) {idx ci f i : Nat} {j : Nat} {C9 : String} (d : decode cc pc = .ok (.putfield idx, 3)) (hf : xFl own idx ci f) (hft : xFt ci f (.object C9)) (ho : xO n i ci) (ht : (xfk ci)[f]? = some 2) (h0 : j ≠ 0) (t : xW g n M (ru R i f j) k w (pc + 3) ls st) : xW g n M R k w pc ls (xr j :: xr i :: st) := by
  obtain ⟨p, l, e, Rm, s, m, args, below, meth, c, b, D, cy, Q⟩ := g
  obtain ⟨hx, hb, hown, hts, hK, hlk, hbs, hrm, hml⟩ := hg
  intro H locs lsA hW hS hv
  obtain ⟨h1, h2, hl⟩ := ho
  have hts2 : ∀ v ∈ lw_tbl.filter goodWord, v.before args s = true := fun v hv => hts v (List.mem_filter.mp hv).1 (List.mem_filter.mp hv).2
  obtain ⟨⟨C, T, N⟩, hc, hf1, hf2, hf3⟩ := hf
  obtain ⟨hin, ty0, hty, hnm⟩ := xcl hc
  have hin2 : ∀ v ∈ u_ws C T N, v ∈ lw_tbl.filter goodWord := fun v hv => List.mem_filter.mpr (hin v hv)
  have he := xWd_obj (D := D) (cy := cy) (b := b) (M := M) (R := R) h1 h2 hl
  obtain ⟨q9, hq9, hfin, hd⟩ := hft
  cases hc.symm.trans hq9
  have hlen : f < (xfs b M R i (xfk ci)).length := by rw [xfs_len]; exact (List.getElem?_eq_some_iff.mp ht).1
  have hset : (xfs b M R i (xfk ci)).set f (cv b (xr j)) = xfs b M (ru R i f j) i (xfk ci) := xfs_set ht (by simp [xfv, cv, ru_s, xrf, va_rf, h0]) (fun c hc => ⟨rfl, ru_n (fun z => hc z.2)⟩)
  have hnar : narrow (.object C9) (cv b (xr j)) = cv b (xr j) := rfl
  have hfit : fits (.object C9) (cv b (xr j)) = true := rfl
  have hap := va_apart (own := own) hts2 hin2 ty0 hty hnm hK.1 hc
  obtain ⟨r, hr1, cell, q1, q2, q3, q4⟩ := hW.2 (i - 1) _ he
  have hr : r = (C, T, N) := Option.some.inj (hr1.symm.trans hc)
  subst hr
  obtain ⟨hSl, hfc, kC, hkC, hkind⟩ := hK.1.1 ci _ hc
  obtain ⟨cf, kf, fi, fd, hi, hsl⟩ := hSl f hf1
  have hlay := hts2 _ (hin2 _ (u_in_lay hf1))
  unfold u_lay at hlay
  rw [if_neg (by rw [hfin]; decide)] at hlay
  have hst := (u_facts hfc hkC (u_lays hts2 hin2 hf1) hi).1
  have h6 := u_store hfc hkC hkind hlay hi hd hnar hfit
  have fin : ∀ (H1 : Heap) (locs1 : List Loc), H1[b + i]? = some (cell.setSlot (D.2 ci f) (cv b (xr j))) → H1.size = H.size → (∀ q, q ≠ b + i → H1[q]? = H[q]?) → va_S (fun q => b < q) s.heap H1 locs1 → W p l e Rm s m args below meth c H1 locs1 k w Q (F0 m (pc + 3) lsA (st.map (cv b))) := by
    intro H1 locs1 e1 e2 e3 hS1
    refine t H1 locs1 lsA (xWd_set (e := .inr (ci, (xfs b M R i (xfk ci)).set f (cv b (xr j)))) hW h1 h2 (by simp only [xcell, hl]; rw [← hset]) ⟨_, hc, t_OB.to (V := updV (vp_V (xfs b M R i (xfk ci))) f (cv b (xr j))) ⟨_, e1, q2, q3, t_set q4 hap hf1 _⟩ (fun j _ => vp_updV_set hlen _ j)⟩ e2 e3 (fun j hj => xcell_congr (fun c => rfl) (fun c => ru_n (fun z => hj z.1)))) hS1 hv
  rcases hf3 with hf3 | ⟨host, hf3⟩
  · refine W.putK hx hb (f := fd) ⟨hown, hts _ hf3 rfl, ⟨_, _, _, by rw [hf2] at hi; exact hi⟩, hst⟩ (by rw [q2]; exact h6) q1 q3 (by rw [hsl]; exact k2_hasslot (q4 f hf1)) rfl rfl d fun H' e1 e2 e3 => ?_
    rw [hsl] at e1
    exact fin H' _ e1 e2 e3 (hS.put e2 e3 (show b < b + i by omega))
  · refine va_WputK hx hb (f := fd) hown (va_Nw.use rfl (hK.2 _ hf3 rfl)) (by rw [hf2] at hi; exact hi) hst (by rw [q2]; exact h6) q1 q3 (by rw [hsl]; exact k2_hasslot (q4 f hf1)) rfl rfl d fun H' e1 e2 e3 => ?_
    rw [hsl] at e1
    exact fin H' _ e1 e2 e3 (hS.put e2 e3 (show b < b + i by omega))
set_option maxHeartbeats 1000000 in
theorem x_iaload (hg : xG g cc own rm nL) {i len : Nat} {j : Int} (d : decode cc pc = .ok (.iaload, 1)) (ho : xA n i 0 len) (hj : 0 ≤ j ∧ j < len) (t : xW g n M R k w (pc + 1) ls (xi (M i j.toNat) :: st)) : xW g n M R k w pc ls (xi j :: xr i :: st) := by
  obtain ⟨p, l, e, Rm, s, m, args, below, meth, c, b, D, cy, Q⟩ := g
  obtain ⟨hx, hb, hown, hts, hK, hlk, hbs, hrm, hml⟩ := hg
  intro H locs lsA hW hS hv
  obtain ⟨h1, h2, hl, hlen⟩ := ho
  have hjr : j ≤ 2147483647 := by omega
  have hcl : (Int32.ofInt j).toNatClampNeg = j.toNat := oi_cl hj.1 hjr
  have hix : vp_in (Int32.ofInt j) len := oi_in hj.1 hj.2 hlen
  have he : (xws cy b n M R)[i - 1]? = some (b + i, .inl (cy 0, len, .inl (fun c => Int32.ofInt (M i c)))) := xWd_arr (D := D) h1 h2 hl
  refine va_iald (D := D) hx hb hK.1 hW.2 (i - 1) 0 he rfl hix d ?_
  rw [hcl]
  exact t H locs lsA hW hS hv
set_option maxHeartbeats 1000000 in
theorem x_baload (hg : xG g cc own rm nL) {i len : Nat} {j : Int} (d : decode cc pc = .ok (.baload, 1)) (ho : xA n i 1 len) (hj : 0 ≤ j ∧ j < len) (t : xW g n M R k w (pc + 1) ls (xi (M i j.toNat) :: st)) : xW g n M R k w pc ls (xi j :: xr i :: st) := by
  obtain ⟨p, l, e, Rm, s, m, args, below, meth, c, b, D, cy, Q⟩ := g
  obtain ⟨hx, hb, hown, hts, hK, hlk, hbs, hrm, hml⟩ := hg
  intro H locs lsA hW hS hv
  obtain ⟨h1, h2, hl, hlen⟩ := ho
  have hjr : j ≤ 2147483647 := by omega
  have hcl : (Int32.ofInt j).toNatClampNeg = j.toNat := oi_cl hj.1 hjr
  have hix : vp_in (Int32.ofInt j) len := oi_in hj.1 hj.2 hlen
  have he : (xws cy b n M R)[i - 1]? = some (b + i, .inl (cy 1, len, .inl (fun c => Int32.ofInt (M i c)))) := xWd_arr (D := D) h1 h2 hl
  refine va_bald (D := D) hx hb hK.1 hW.2 (i - 1) 1 he rfl hix d ?_
  rw [hcl]
  exact t H locs lsA hW hS hv
set_option maxHeartbeats 1000000 in
theorem x_zaload (hg : xG g cc own rm nL) {i len : Nat} {j : Int} (d : decode cc pc = .ok (.baload, 1)) (ho : xA n i 2 len) (hj : 0 ≤ j ∧ j < len) (t : xW g n M R k w (pc + 1) ls (xi (M i j.toNat) :: st)) : xW g n M R k w pc ls (xi j :: xr i :: st) := by
  obtain ⟨p, l, e, Rm, s, m, args, below, meth, c, b, D, cy, Q⟩ := g
  obtain ⟨hx, hb, hown, hts, hK, hlk, hbs, hrm, hml⟩ := hg
  intro H locs lsA hW hS hv
  obtain ⟨h1, h2, hl, hlen⟩ := ho
  have hjr : j ≤ 2147483647 := by omega
  have hcl : (Int32.ofInt j).toNatClampNeg = j.toNat := oi_cl hj.1 hjr
  have hix : vp_in (Int32.ofInt j) len := oi_in hj.1 hj.2 hlen
  have he : (xws cy b n M R)[i - 1]? = some (b + i, .inl (cy 2, len, .inl (fun c => Int32.ofInt (M i c)))) := xWd_arr (D := D) h1 h2 hl
  refine va_zald (D := D) hx hb hK.1 hW.2 (i - 1) 2 he rfl hix d ?_
  rw [hcl]
  exact t H locs lsA hW hS hv
set_option maxHeartbeats 1000000 in
theorem x_laload (hg : xG g cc own rm nL) {i len : Nat} {j : Int} (d : decode cc pc = .ok (.laload, 1)) (ho : xA n i 3 len) (hj : 0 ≤ j ∧ j < len) (t : xW g n M R k w (pc + 1) ls (xl (M i j.toNat) :: st)) : xW g n M R k w pc ls (xi j :: xr i :: st) := by
  obtain ⟨p, l, e, Rm, s, m, args, below, meth, c, b, D, cy, Q⟩ := g
  obtain ⟨hx, hb, hown, hts, hK, hlk, hbs, hrm, hml⟩ := hg
  intro H locs lsA hW hS hv
  obtain ⟨h1, h2, hl, hlen⟩ := ho
  have hjr : j ≤ 2147483647 := by omega
  have hcl : (Int32.ofInt j).toNatClampNeg = j.toNat := oi_cl hj.1 hjr
  have hix : vp_in (Int32.ofInt j) len := oi_in hj.1 hj.2 hlen
  have he : (xws cy b n M R)[i - 1]? = some (b + i, .inl (cy 3, len, .inr (.inl (fun c => Int64.ofInt (M i c))))) := xWd_arr (D := D) h1 h2 hl
  refine va_lald (D := D) hx hb hK.1 hW.2 (i - 1) 3 he rfl hix d ?_
  rw [hcl]
  exact t H locs lsA hW hS hv
set_option maxHeartbeats 1000000 in
theorem x_iastore (hg : xG g cc own rm nL) {i len : Nat} {j z : Int} (d : decode cc pc = .ok (.iastore, 1)) (ho : xA n i 0 len) (hj : 0 ≤ j ∧ j < len) (t : xW g n (mu M i j.toNat z) R k w (pc + 1) ls st) : xW g n M R k w pc ls (xi z :: xi j :: xr i :: st) := by
  obtain ⟨p, l, e, Rm, s, m, args, below, meth, c, b, D, cy, Q⟩ := g
  obtain ⟨hx, hb, hown, hts, hK, hlk, hbs, hrm, hml⟩ := hg
  intro H locs lsA hW hS hv
  obtain ⟨h1, h2, hl, hlen⟩ := ho
  have hjr : j ≤ 2147483647 := by omega
  have hcl : (Int32.ofInt j).toNatClampNeg = j.toNat := oi_cl hj.1 hjr
  have hix : vp_in (Int32.ofInt j) len := oi_in hj.1 hj.2 hlen
  have he : (xws cy b n M R)[i - 1]? = some (b + i, .inl (cy 0, len, .inl (fun c => Int32.ofInt (M i c)))) := xWd_arr (D := D) h1 h2 hl
  refine W.iast hx hb (hW.2 (i - 1) _ he) ((hK.1.2 0 _ rfl).1 len (fun c => .int (Int32.ofInt (M i c)))) (fun q => by cases q) (by show ¬ (_ ∨ (arrV _ _ _).slots.size ≤ _); rw [arrV_size]; exact hix) rfl rfl d fun H1 e1 e2 e3 => ?_
  refine t H1 _ lsA (xWd_set (e := .inl (cy 0, len, .inl (fun c => Int32.ofInt (mu M i j.toNat z i c)))) hW h1 h2 (by simp only [xcell, hl]; rfl) ?_ e2 e3 (fun a ha => xcell_congr (fun c => mu_n (fun q => ha q.1)) (fun c => rfl))) (hS.put e2 e3 (show b < b + i by omega)) hv
  have e1' : H1[b + i]? = some ((arrV (cy 0) len (fun c => .int (Int32.ofInt (M i c)))).setSlot (Int32.ofInt j).toNatClampNeg (.int (Int32.ofInt z))) := e1
  show H1[b + i]? = some (arrV (cy 0) len (fun c => .int (Int32.ofInt (mu M i j.toNat z i c))))
  rw [e1', hcl, arrV_store]
  have e9 : updV (fun c => .int (Int32.ofInt (M i c))) j.toNat (.int (Int32.ofInt z)) = (fun c => .int (Int32.ofInt (mu M i j.toNat z i c))) := by
    funext q
    by_cases hq : q = j.toNat
    · subst hq
      simp [updV, mu_s]
    · simp [updV, hq, mu_n (show ¬ (i = i ∧ q = j.toNat) from fun z => hq z.2)]
  rw [e9]
set_option maxHeartbeats 1000000 in
theorem x_lastore (hg : xG g cc own rm nL) {i len : Nat} {j z : Int} (d : decode cc pc = .ok (.lastore, 1)) (ho : xA n i 3 len) (hj : 0 ≤ j ∧ j < len) (t : xW g n (mu M i j.toNat z) R k w (pc + 1) ls st) : xW g n M R k w pc ls (xl z :: xi j :: xr i :: st) := by
  obtain ⟨p, l, e, Rm, s, m, args, below, meth, c, b, D, cy, Q⟩ := g
  obtain ⟨hx, hb, hown, hts, hK, hlk, hbs, hrm, hml⟩ := hg
  intro H locs lsA hW hS hv
  obtain ⟨h1, h2, hl, hlen⟩ := ho
  have hjr : j ≤ 2147483647 := by omega
  have hcl : (Int32.ofInt j).toNatClampNeg = j.toNat := oi_cl hj.1 hjr
  have hix : vp_in (Int32.ofInt j) len := oi_in hj.1 hj.2 hlen
  have he : (xws cy b n M R)[i - 1]? = some (b + i, .inl (cy 3, len, .inr (.inl (fun c => Int64.ofInt (M i c))))) := xWd_arr (D := D) h1 h2 hl
  refine W.last hx hb (hW.2 (i - 1) _ he) ((hK.1.2 3 _ rfl).1 len (fun c => .long (Int64.ofInt (M i c)))) (fun q => by cases q) (by show ¬ (_ ∨ (arrV _ _ _).slots.size ≤ _); rw [arrV_size]; exact hix) rfl rfl d fun H1 e1 e2 e3 => ?_
  refine t H1 _ lsA (xWd_set (e := .inl (cy 3, len, .inr (.inl (fun c => Int64.ofInt (mu M i j.toNat z i c))))) hW h1 h2 (by simp only [xcell, hl]; rfl) ?_ e2 e3 (fun a ha => xcell_congr (fun c => mu_n (fun q => ha q.1)) (fun c => rfl))) (hS.put e2 e3 (show b < b + i by omega)) hv
  have e1' : H1[b + i]? = some ((arrV (cy 3) len (fun c => .long (Int64.ofInt (M i c)))).setSlot (Int32.ofInt j).toNatClampNeg (.long (Int64.ofInt z))) := e1
  show H1[b + i]? = some (arrV (cy 3) len (fun c => .long (Int64.ofInt (mu M i j.toNat z i c))))
  rw [e1', hcl, arrV_store]
  have e9 : updV (fun c => .long (Int64.ofInt (M i c))) j.toNat (.long (Int64.ofInt z)) = (fun c => .long (Int64.ofInt (mu M i j.toNat z i c))) := by
    funext q
    by_cases hq : q = j.toNat
    · subst hq
      simp [updV, mu_s]
    · simp [updV, hq, mu_n (show ¬ (i = i ∧ q = j.toNat) from fun z => hq z.2)]
  rw [e9]
set_option maxHeartbeats 1000000 in
theorem x_bastore (hg : xG g cc own rm nL) {i len : Nat} {j z : Int} (d : decode cc pc = .ok (.bastore, 1)) (ho : xA n i 1 len) (hj : 0 ≤ j ∧ j < len) (hz : -128 ≤ z ∧ z ≤ 127) (t : xW g n (mu M i j.toNat z) R k w (pc + 1) ls st) : xW g n M R k w pc ls (xi z :: xi j :: xr i :: st) := by
  obtain ⟨p, l, e, Rm, s, m, args, below, meth, c, b, D, cy, Q⟩ := g
  obtain ⟨hx, hb, hown, hts, hK, hlk, hbs, hrm, hml⟩ := hg
  intro H locs lsA hW hS hv
  obtain ⟨h1, h2, hl, hlen⟩ := ho
  have hjr : j ≤ 2147483647 := by omega
  have hcl : (Int32.ofInt j).toNatClampNeg = j.toNat := oi_cl hj.1 hjr
  have hix : vp_in (Int32.ofInt j) len := oi_in hj.1 hj.2 hlen
  have he : (xws cy b n M R)[i - 1]? = some (b + i, .inl (cy 1, len, .inl (fun c => Int32.ofInt (M i c)))) := xWd_arr (D := D) h1 h2 hl
  refine W.bast hx hb (hW.2 (i - 1) _ he) ((hK.1.2 1 _ rfl).1 len (fun c => .int (Int32.ofInt (M i c)))) (fun q => by cases q) (by show ¬ (_ ∨ (arrV _ _ _).slots.size ≤ _); rw [arrV_size]; exact hix) rfl rfl d fun H1 e1 e2 e3 => ?_
  refine t H1 _ lsA (xWd_set (e := .inl (cy 1, len, .inl (fun c => Int32.ofInt (mu M i j.toNat z i c)))) hW h1 h2 (by simp only [xcell, hl]; rfl) ?_ e2 e3 (fun a ha => xcell_congr (fun c => mu_n (fun q => ha q.1)) (fun c => rfl))) (hS.put e2 e3 (show b < b + i by omega)) hv
  have e1' : H1[b + i]? = some ((arrV (cy 1) len (fun c => .int (Int32.ofInt (M i c)))).setSlot (Int32.ofInt j).toNatClampNeg (narrow .byte (Value.int (Int32.ofInt z)))) := e1
  show H1[b + i]? = some (arrV (cy 1) len (fun c => .int (Int32.ofInt (mu M i j.toNat z i c))))
  rw [e1', hcl, show narrow .byte (Value.int (Int32.ofInt z)) = Value.int (Int32.ofInt z) from xnar_b hz, arrV_store]
  have e9 : updV (fun c => .int (Int32.ofInt (M i c))) j.toNat (.int (Int32.ofInt z)) = (fun c => .int (Int32.ofInt (mu M i j.toNat z i c))) := by
    funext q
    by_cases hq : q = j.toNat
    · subst hq
      simp [updV, mu_s]
    · simp [updV, hq, mu_n (show ¬ (i = i ∧ q = j.toNat) from fun z => hq z.2)]
  rw [e9]
set_option maxHeartbeats 1000000 in
theorem x_zastore (hg : xG g cc own rm nL) {i len : Nat} {j z : Int} (d : decode cc pc = .ok (.bastore, 1)) (ho : xA n i 2 len) (hj : 0 ≤ j ∧ j < len) (hz : z = 0 ∨ z = 1) (t : xW g n (mu M i j.toNat z) R k w (pc + 1) ls st) : xW g n M R k w pc ls (xi z :: xi j :: xr i :: st) := by
  obtain ⟨p, l, e, Rm, s, m, args, below, meth, c, b, D, cy, Q⟩ := g
  obtain ⟨hx, hb, hown, hts, hK, hlk, hbs, hrm, hml⟩ := hg
  intro H locs lsA hW hS hv
  obtain ⟨h1, h2, hl, hlen⟩ := ho
  have hjr : j ≤ 2147483647 := by omega
  have hcl : (Int32.ofInt j).toNatClampNeg = j.toNat := oi_cl hj.1 hjr
  have hix : vp_in (Int32.ofInt j) len := oi_in hj.1 hj.2 hlen
  have he : (xws cy b n M R)[i - 1]? = some (b + i, .inl (cy 2, len, .inl (fun c => Int32.ofInt (M i c)))) := xWd_arr (D := D) h1 h2 hl
  refine W.zast hx hb (hW.2 (i - 1) _ he) ((hK.1.2 2 _ rfl).1 len (fun c => .int (Int32.ofInt (M i c)))) (fun q => by cases q) (by show ¬ (_ ∨ (arrV _ _ _).slots.size ≤ _); rw [arrV_size]; exact hix) rfl rfl d fun H1 e1 e2 e3 => ?_
  refine t H1 _ lsA (xWd_set (e := .inl (cy 2, len, .inl (fun c => Int32.ofInt (mu M i j.toNat z i c)))) hW h1 h2 (by simp only [xcell, hl]; rfl) ?_ e2 e3 (fun a ha => xcell_congr (fun c => mu_n (fun q => ha q.1)) (fun c => rfl))) (hS.put e2 e3 (show b < b + i by omega)) hv
  have e1' : H1[b + i]? = some ((arrV (cy 2) len (fun c => .int (Int32.ofInt (M i c)))).setSlot (Int32.ofInt j).toNatClampNeg (narrow .boolean (Value.int (Int32.ofInt z)))) := e1
  show H1[b + i]? = some (arrV (cy 2) len (fun c => .int (Int32.ofInt (mu M i j.toNat z i c))))
  rw [e1', hcl, show narrow .boolean (Value.int (Int32.ofInt z)) = Value.int (Int32.ofInt z) from by rcases hz with rfl | rfl <;> rfl, arrV_store]
  have e9 : updV (fun c => .int (Int32.ofInt (M i c))) j.toNat (.int (Int32.ofInt z)) = (fun c => .int (Int32.ofInt (mu M i j.toNat z i c))) := by
    funext q
    by_cases hq : q = j.toNat
    · subst hq
      simp [updV, mu_s]
    · simp [updV, hq, mu_n (show ¬ (i = i ∧ q = j.toNat) from fun z => hq z.2)]
  rw [e9]
set_option maxHeartbeats 1000000 in
theorem x_aaload (hg : xG g cc own rm nL) {i len et : Nat} {j : Int} (d : decode cc pc = .ok (.aaload, 1)) (ho : xA n i et len) (htt : 4 ≤ et ∧ et ≤ 9) (hj : 0 ≤ j ∧ j < len) {j9 : Nat} (hR : R i j.toNat = j9) (h0 : j9 ≠ 0) (t : xW g n M R k w (pc + 1) ls (xr j9 :: st)) : xW g n M R k w pc ls (xi j :: xr i :: st) := by
  obtain ⟨p, l, e, Rm, s, m, args, below, meth, c, b, D, cy, Q⟩ := g
  obtain ⟨hx, hb, hown, hts, hK, hlk, hbs, hrm, hml⟩ := hg
  intro H locs lsA hW hS hv
  obtain ⟨h1, h2, hl, hlen⟩ := ho
  have hjr : j ≤ 2147483647 := by omega
  have hcl : (Int32.ofInt j).toNatClampNeg = j.toNat := oi_cl hj.1 hjr
  have hix : vp_in (Int32.ofInt j) len := oi_in hj.1 hj.2 hlen
  have he : (xws cy b n M R)[i - 1]? = some (b + i, .inl (cy et, len, .inr (.inr (.inr (.inr (fun c => xrf b (R i c))))))) := by
    rw [xWd_arr (D := D) h1 h2 hl]
    simp [xarr, show ¬ et ≤ 2 by omega, show ¬ et = 3 by omega]
  obtain ⟨ty, htyr, hty⟩ : ∃ ty : FieldType, ty.isReference = true ∧ (xtys cy)[et]? = some (cy et, ty) := by
    obtain ⟨a, b'⟩ := htt
    rcases (show et = 4 ∨ et = 5 ∨ et = 6 ∨ et = 7 ∨ et = 8 ∨ et = 9 by omega) with rfl | rfl | rfl | rfl | rfl | rfl <;> exact ⟨_, rfl, rfl⟩
  have hlt : j.toNat < len := by omega
  refine W.aald (v := .ref (b + j9)) (ty := ty) hx hb (hW.2 (i - 1) _ he) ((hK.1.2 et _ hty).1 len (fun c => va_rf (xrf b (R i c)))) htyr (fun q => by cases q) (by show ¬ (_ ∨ (arrV _ _ _).slots.size ≤ _); rw [arrV_size]; exact hix) ?_ rfl rfl d (t H locs lsA hW hS hv)
  show (arrV _ _ _).slots[_]? = _
  rw [hcl, arrV_read _ _ hlt]
  simp [xrf, hR, h0, va_rf]
end XM
