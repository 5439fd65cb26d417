/-! ===== the machine's instructions over the world by numbers ===== -/
abbrev xGT : Type := Program × Launch × Env × Room × State × MethodId × Array Value × List Frame × Method × Code × Nat × va_G × (Nat → ClassId) × (State → Prop)
def xW : xGT → Nat → xMm → xRm → Nat → Nat → Nat → List (Nat × xV) → List xV → Prop
  | (p, l, e, Rm, s, m, args, below, meth, c, b, D, cy, Q), n, M, R, k, w, pc, ls, st => ∀ (H : Heap) (locs : List Loc) (lsA : Array Slot), xWd D cy b n M R H → va_S (fun q => b < q) s.heap H locs → lv_has lsA c.maxLocals (cvs b ls) → W p l e Rm s m args below meth c H locs k w Q (F0 m pc lsA (st.map (cv b)))
/-- what is known in a method's body: its code, its class, its room, its locals -/
def xG : xGT → ByteArray → String → Room → Nat → Prop
  | (p, _, _, Rm, s, m, args, _, meth, c, b, D, cy, _), cc, own, rm, nL => p.tables.exec = Jvm.exec ∧ c.code = cc ∧ s.vm.findClass own = some m.cls ∧ (∀ w ∈ lw_tbl, goodWord w = true → w.before args s = true) ∧ xK D cy s ∧ meth.locks = false ∧ b < s.heap.size ∧ Rm = rm ∧ c.maxLocals = nL
def xcat : xV → Nat
  | .inl _ => 1
  | .inr (.inl _) => 2
  | .inr (.inr _) => 1
theorem xcat_ok (b : Nat) (v : xV) : (cv b v).category = xcat v := by
  rcases v with z | z | i <;> rfl
theorem cvs_at {b : Nat} {ls : List (Nat × xV)} {j i : Nat} {v : xV} (h : ls[j]? = some (i, v)) : (cvs b ls)[j]? = some (i, cv b v) := by simp [cvs, h]
def xset1 (ls : List (Nat × xV)) (i : Nat) (v : xV) : List (Nat × xV) := (i, v) :: ls.filter (fun q => !(q.1 == i) && !(q.1 + 1 == i && xcat q.2 == 2))
def xset2 (ls : List (Nat × xV)) (i : Nat) (v : xV) : List (Nat × xV) := (i, v) :: ls.filter (fun q => !(q.1 == i) && (!(q.1 == i + 1) && !(q.1 + 1 == i && xcat q.2 == 2)))
theorem xset1_ok (b : Nat) (ls : List (Nat × xV)) (i : Nat) (v : xV) : (i, cv b v) :: (cvs b ls).filter (fun q => !(q.1 == i) && !(q.1 + 1 == i && q.2.category == 2)) = cvs b (xset1 ls i v) := by
  simp only [xset1, cvs, List.map_cons, List.filter_map, Function.comp_def, xcat_ok]
theorem xset2_ok (b : Nat) (ls : List (Nat × xV)) (i : Nat) (v : xV) : (i, cv b v) :: (cvs b ls).filter (fun q => !(q.1 == i) && (!(q.1 == i + 1) && !(q.1 + 1 == i && q.2.category == 2))) = cvs b (xset2 ls i v) := by
  simp only [xset2, cvs, List.map_cons, List.filter_map, Function.comp_def, xcat_ok]
def xget : List (Nat × xV) → Nat → Option xV
  | [], _ => none
  | e :: r, q => if e.1 = q then some e.2 else xget r q
theorem xget_mem : ∀ {ls : List (Nat × xV)} {q : Nat} {v : xV}, xget ls q = some v → (q, v) ∈ ls
  | [], q, v, h => by cases h
  | (i, u) :: r, q, v, h => by
    by_cases hi : i = q
    · simp only [xget, hi, if_true] at h
      cases h
      rw [hi]
      exact List.mem_cons_self
    · simp only [xget, hi, if_false] at h
      exact List.mem_cons_of_mem _ (xget_mem h)
theorem xget_ix {ls : List (Nat × xV)} {q : Nat} {v : xV} (h : xget ls q = some v) : ∃ j : Nat, ls[j]? = some (q, v) := List.getElem?_of_mem (xget_mem h)
theorem xget_at {lsA : Array Slot} {nL b : Nat} {ls : List (Nat × xV)} {q : Nat} {v : xV} (hv : lv_has lsA nL (cvs b ls)) (h : xget ls q = some v) : lsA[q]? = some (.val (cv b v)) := by
  obtain ⟨j, hj⟩ := xget_ix h
  exact lv_at hv j (cvs_at hj)
theorem xcanon {lsA : Array Slot} {nL b : Nat} {ls ls' : List (Nat × xV)} (hv : lv_has lsA nL (cvs b ls)) (hl : ls'.map (fun e => xget ls e.1) = ls'.map (fun e => some e.2)) : lv_has lsA nL (cvs b ls') := by
  refine ⟨hv.1, hv.2.1, fun q hq => ?_⟩
  obtain ⟨e, he, rfl⟩ := List.mem_map.mp hq
  obtain ⟨j, hj⟩ := List.getElem?_of_mem he
  have h2 : (ls'.map (fun e => xget ls e.1))[j]? = some (some e.2) := by rw [hl, List.getElem?_map, hj]; rfl
  rw [List.getElem?_map, hj] at h2
  exact xget_at hv (Option.some.inj h2)
section XR
variable {g : xGT} {cc : ByteArray} {own : String} {rm : Room} {nL : Nat} {n : Nat} {M : xMm} {R : xRm} {k w pc : Nat} {ls ls' : List (Nat × xV)} {st : List xV}

theorem x_iload_n (hg : xG g cc own rm nL) {q : Fin 4} {z : Int} (d : decode cc pc = .ok (.iload_n q, 1)) (hl : xget ls (q : Nat) = some (xi z)) (t : xW g n M R k w (pc + 1) ls (xi z :: st)) : xW g n M R k w pc ls st := by
  obtain ⟨p, l, e, Rm, s, m, args, below, meth, c, b, D, cy, Q⟩ := g
  obtain ⟨hx, hb, hown, hts, hK, hlk, hbs, hrm, hml⟩ := hg
  intro H locs lsA hW hS hv
  exact lv_iload_n hx hb d rfl (xget_at hv hl) (t H locs lsA hW hS hv)
theorem x_iload (hg : xG g cc own rm nL) {q : Nat} {z : Int} (d : decode cc pc = .ok (.iload q, 2)) (hl : xget ls q = some (xi z)) (t : xW g n M R k w (pc + 2) ls (xi z :: st)) : xW g n M R k w pc ls st := by
  obtain ⟨p, l, e, Rm, s, m, args, below, meth, c, b, D, cy, Q⟩ := g
  obtain ⟨hx, hb, hown, hts, hK, hlk, hbs, hrm, hml⟩ := hg
  intro H locs lsA hW hS hv
  exact lv_iload hx hb d (xget_at hv hl) (t H locs lsA hW hS hv)
theorem x_lload_n (hg : xG g cc own rm nL) {q : Fin 4} {z : Int} (d : decode cc pc = .ok (.lload_n q, 1)) (hl : xget ls (q : Nat) = some (xl z)) (t : xW g n M R k w (pc + 1) ls (xl z :: st)) : xW g n M R k w pc ls st := by
  obtain ⟨p, l, e, Rm, s, m, args, below, meth, c, b, D, cy, Q⟩ := g
  obtain ⟨hx, hb, hown, hts, hK, hlk, hbs, hrm, hml⟩ := hg
  intro H locs lsA hW hS hv
  exact lv_lload_n hx hb d rfl (xget_at hv hl) (t H locs lsA hW hS hv)
theorem x_lload (hg : xG g cc own rm nL) {q : Nat} {z : Int} (d : decode cc pc = .ok (.lload q, 2)) (hl : xget ls q = some (xl z)) (t : xW g n M R k w (pc + 2) ls (xl z :: st)) : xW g n M R k w pc ls st := by
  obtain ⟨p, l, e, Rm, s, m, args, below, meth, c, b, D, cy, Q⟩ := g
  obtain ⟨hx, hb, hown, hts, hK, hlk, hbs, hrm, hml⟩ := hg
  intro H locs lsA hW hS hv
  exact lv_lload hx hb d (xget_at hv hl) (t H locs lsA hW hS hv)
theorem x_aload_n (hg : xG g cc own rm nL) {q : Fin 4} {i : Nat} (d : decode cc pc = .ok (.aload_n q, 1)) (hl : xget ls (q : Nat) = some (xr i)) (t : xW g n M R k w (pc + 1) ls (xr i :: st)) : xW g n M R k w pc ls st := by
  obtain ⟨p, l, e, Rm, s, m, args, below, meth, c, b, D, cy, Q⟩ := g
  obtain ⟨hx, hb, hown, hts, hK, hlk, hbs, hrm, hml⟩ := hg
  intro H locs lsA hW hS hv
  exact lv_aload_n hx hb d rfl (xget_at hv hl) (t H locs lsA hW hS hv)
theorem x_aload (hg : xG g cc own rm nL) {q : Nat} {i : Nat} (d : decode cc pc = .ok (.aload q, 2)) (hl : xget ls q = some (xr i)) (t : xW g n M R k w (pc + 2) ls (xr i :: st)) : xW g n M R k w pc ls st := by
  obtain ⟨p, l, e, Rm, s, m, args, below, meth, c, b, D, cy, Q⟩ := g
  obtain ⟨hx, hb, hown, hts, hK, hlk, hbs, hrm, hml⟩ := hg
  intro H locs lsA hW hS hv
  exact lv_aload hx hb d (xget_at hv hl) (t H locs lsA hW hS hv)
theorem x_istore_n (hg : xG g cc own rm nL) {f : Fin 4} {q : Nat} {z : Int} (d : decode cc pc = .ok (.istore_n f, 1)) (hq : (f : Nat) = q) (hn : q < nL) (hl : ls'.map (fun e => xget (xset1 ls q (xi z)) e.1) = ls'.map (fun e => some e.2)) (t : xW g n M R k w (pc + 1) ls' st) : xW g n M R k w pc ls (xi z :: st) := by
  obtain ⟨p, l, e, Rm, s, m, args, below, meth, c, b, D, cy, Q⟩ := g
  obtain ⟨hx, hb, hown, hts, hK, hlk, hbs, hrm, hml⟩ := hg
  intro H locs lsA hW hS hv
  subst hml
  exact lv_istore_n (lv' := cvs b (xset1 ls q (xi z))) hx hb d hq hv hn (xset1_ok b ls q (xi z)) (fun lsA hv => t H locs lsA hW hS (xcanon hv hl))
theorem x_istore (hg : xG g cc own rm nL) {q : Nat} {z : Int} (d : decode cc pc = .ok (.istore q, 2)) (hn : q < nL) (hl : ls'.map (fun e => xget (xset1 ls q (xi z)) e.1) = ls'.map (fun e => some e.2)) (t : xW g n M R k w (pc + 2) ls' st) : xW g n M R k w pc ls (xi z :: st) := by
  obtain ⟨p, l, e, Rm, s, m, args, below, meth, c, b, D, cy, Q⟩ := g
  obtain ⟨hx, hb, hown, hts, hK, hlk, hbs, hrm, hml⟩ := hg
  intro H locs lsA hW hS hv
  subst hml
  exact lv_istore (lv' := cvs b (xset1 ls q (xi z))) hx hb d hv hn (xset1_ok b ls q (xi z)) (fun lsA hv => t H locs lsA hW hS (xcanon hv hl))
theorem x_lstore_n (hg : xG g cc own rm nL) {f : Fin 4} {q : Nat} {z : Int} (d : decode cc pc = .ok (.lstore_n f, 1)) (hq : (f : Nat) = q) (hn : q + 1 < nL) (hl : ls'.map (fun e => xget (xset2 ls q (xl z)) e.1) = ls'.map (fun e => some e.2)) (t : xW g n M R k w (pc + 1) ls' st) : xW g n M R k w pc ls (xl z :: st) := by
  obtain ⟨p, l, e, Rm, s, m, args, below, meth, c, b, D, cy, Q⟩ := g
  obtain ⟨hx, hb, hown, hts, hK, hlk, hbs, hrm, hml⟩ := hg
  intro H locs lsA hW hS hv
  subst hml
  exact lv_lstore_n (lv' := cvs b (xset2 ls q (xl z))) hx hb d hq hv hn (xset2_ok b ls q (xl z)) (fun lsA hv => t H locs lsA hW hS (xcanon hv hl))
theorem x_lstore (hg : xG g cc own rm nL) {q : Nat} {z : Int} (d : decode cc pc = .ok (.lstore q, 2)) (hn : q + 1 < nL) (hl : ls'.map (fun e => xget (xset2 ls q (xl z)) e.1) = ls'.map (fun e => some e.2)) (t : xW g n M R k w (pc + 2) ls' st) : xW g n M R k w pc ls (xl z :: st) := by
  obtain ⟨p, l, e, Rm, s, m, args, below, meth, c, b, D, cy, Q⟩ := g
  obtain ⟨hx, hb, hown, hts, hK, hlk, hbs, hrm, hml⟩ := hg
  intro H locs lsA hW hS hv
  subst hml
  exact lv_lstore (lv' := cvs b (xset2 ls q (xl z))) hx hb d hv hn (xset2_ok b ls q (xl z)) (fun lsA hv => t H locs lsA hW hS (xcanon hv hl))
theorem x_astore_n (hg : xG g cc own rm nL) {f : Fin 4} {q : Nat} {i : Nat} (d : decode cc pc = .ok (.astore_n f, 1)) (hq : (f : Nat) = q) (hn : q < nL) (hl : ls'.map (fun e => xget (xset1 ls q (xr i)) e.1) = ls'.map (fun e => some e.2)) (t : xW g n M R k w (pc + 1) ls' st) : xW g n M R k w pc ls (xr i :: st) := by
  obtain ⟨p, l, e, Rm, s, m, args, below, meth, c, b, D, cy, Q⟩ := g
  obtain ⟨hx, hb, hown, hts, hK, hlk, hbs, hrm, hml⟩ := hg
  intro H locs lsA hW hS hv
  subst hml
  exact lv_astore_n (lv' := cvs b (xset1 ls q (xr i))) hx hb d hq hv hn (xset1_ok b ls q (xr i)) (fun lsA hv => t H locs lsA hW hS (xcanon hv hl))
theorem x_astore (hg : xG g cc own rm nL) {q : Nat} {i : Nat} (d : decode cc pc = .ok (.astore q, 2)) (hn : q < nL) (hl : ls'.map (fun e => xget (xset1 ls q (xr i)) e.1) = ls'.map (fun e => some e.2)) (t : xW g n M R k w (pc + 2) ls' st) : xW g n M R k w pc ls (xr i :: st) := by
  obtain ⟨p, l, e, Rm, s, m, args, below, meth, c, b, D, cy, Q⟩ := g
  obtain ⟨hx, hb, hown, hts, hK, hlk, hbs, hrm, hml⟩ := hg
  intro H locs lsA hW hS hv
  subst hml
  exact lv_astore (lv' := cvs b (xset1 ls q (xr i))) hx hb d hv hn (xset1_ok b ls q (xr i)) (fun lsA hv => t H locs lsA hW hS (xcanon hv hl))
theorem x_iinc (hg : xG g cc own rm nL) {q : Nat} {z inc : Int} (d : decode cc pc = .ok (.iinc q inc, 3)) (hj : xget ls q = some (xi z)) (hn : q < nL) (hl : ls'.map (fun e => xget (xset1 ls q (xi (z + inc))) e.1) = ls'.map (fun e => some e.2)) (t : xW g n M R k w (pc + 3) ls' st) : xW g n M R k w pc ls st := by
  obtain ⟨p, l, e, Rm, s, m, args, below, meth, c, b, D, cy, Q⟩ := g
  obtain ⟨hx, hb, hown, hts, hK, hlk, hbs, hrm, hml⟩ := hg
  intro H locs lsA hW hS hv
  subst hml
  obtain ⟨j, hj⟩ := xget_ix hj
  exact lv_iinc (lv' := cvs b (xset1 ls q (xi (z + inc)))) hx hb d hv (cvs_at hj) (by rw [← Int32.ofInt_add]) hn (xset1_ok b ls q (xi (z + inc))) (fun lsA hv => t H locs lsA hW hS (xcanon hv hl))
theorem x_canon (hl : ls'.map (fun e => xget ls e.1) = ls'.map (fun e => some e.2)) (t : xW g n M R k w pc ls' st) : xW g n M R k w pc ls st := by
  obtain ⟨p, l, e, Rm, s, m, args, below, meth, c, b, D, cy, Q⟩ := g
  intro H locs lsA hW hS hv
  exact t H locs lsA hW hS (xcanon hv hl)
theorem x_sub (js : List Nat) (hl : js.filterMap (fun j => ls[j]?) = ls') (t : xW g n M R k w pc ls' st) : xW g n M R k w pc ls st := by
  obtain ⟨p, l, e, Rm, s, m, args, below, meth, c, b, D, cy, Q⟩ := g
  intro H locs lsA hW hS hv
  refine t H locs lsA hW hS ⟨hv.1, hv.2.1, fun q hq => ?_⟩
  subst hl
  obtain ⟨q', h1, rfl⟩ := List.mem_map.mp hq
  obtain ⟨j, -, hj⟩ := List.mem_filterMap.mp h1
  exact hv.2.2 _ (List.mem_of_getElem? (cvs_at hj))
theorem x_iconst (hg : xG g cc own rm nL) {z : Int} (d : decode cc pc = .ok (.iconst z, 1)) (t : xW g n M R k w (pc + 1) ls (xi z :: st)) : xW g n M R k w pc ls st := by
  obtain ⟨p, l, e, Rm, s, m, args, below, meth, c, b, D, cy, Q⟩ := g
  obtain ⟨hx, hb, hown, hts, hK, hlk, hbs, hrm, hml⟩ := hg
  intro H locs lsA hW hS hv
  exact lv_iconst hx hb d rfl (t H locs lsA hW hS hv)
theorem x_bipush (hg : xG g cc own rm nL) {z : Int} (d : decode cc pc = .ok (.bipush z, 2)) (hz : (Int8.ofInt z).toInt32 = Int32.ofInt z) (t : xW g n M R k w (pc + 2) ls (xi z :: st)) : xW g n M R k w pc ls st := by
  obtain ⟨p, l, e, Rm, s, m, args, below, meth, c, b, D, cy, Q⟩ := g
  obtain ⟨hx, hb, hown, hts, hK, hlk, hbs, hrm, hml⟩ := hg
  intro H locs lsA hW hS hv
  exact lv_bipush hx hb d hz (t H locs lsA hW hS hv)
theorem x_sipush (hg : xG g cc own rm nL) {z : Int} (d : decode cc pc = .ok (.sipush z, 3)) (hz : (Int16.ofInt z).toInt32 = Int32.ofInt z) (t : xW g n M R k w (pc + 3) ls (xi z :: st)) : xW g n M R k w pc ls st := by
  obtain ⟨p, l, e, Rm, s, m, args, below, meth, c, b, D, cy, Q⟩ := g
  obtain ⟨hx, hb, hown, hts, hK, hlk, hbs, hrm, hml⟩ := hg
  intro H locs lsA hW hS hv
  exact lv_sipush hx hb d hz (t H locs lsA hW hS hv)
theorem x_lconst (hg : xG g cc own rm nL) {q : Fin 2} {z : Int} (d : decode cc pc = .ok (.lconst q, 1)) (hz : ((q : Nat) : Int) = z) (t : xW g n M R k w (pc + 1) ls (xl z :: st)) : xW g n M R k w pc ls st := by
  obtain ⟨p, l, e, Rm, s, m, args, below, meth, c, b, D, cy, Q⟩ := g
  obtain ⟨hx, hb, hown, hts, hK, hlk, hbs, hrm, hml⟩ := hg
  intro H locs lsA hW hS hv
  subst hz
  exact lv_lconst hx hb d rfl (t H locs lsA hW hS hv)
theorem x_ldc (hg : xG g cc own rm nL) {idx : Nat} (z : Int) (d : decode cc pc = .ok (.ldc idx, 2)) (hw : Cond.constant own idx (Int32.ofInt z) ∈ lw_tbl) (t : xW g n M R k w (pc + 2) ls (xi z :: st)) : xW g n M R k w pc ls st := by
  obtain ⟨p, l, e, Rm, s, m, args, below, meth, c, b, D, cy, Q⟩ := g
  obtain ⟨hx, hb, hown, hts, hK, hlk, hbs, hrm, hml⟩ := hg
  intro H locs lsA hW hS hv
  exact lv_ldc hx hb hown (hts _ hw rfl) d (t H locs lsA hW hS hv)
theorem x_ldc2 (hg : xG g cc own rm nL) {idx : Nat} (z : Int) (d : decode cc pc = .ok (.ldc2_w idx, 3)) (hw : Cond.constantLong own idx (Int64.ofInt z) ∈ lw_tbl) (t : xW g n M R k w (pc + 3) ls (xl z :: st)) : xW g n M R k w pc ls st := by
  obtain ⟨p, l, e, Rm, s, m, args, below, meth, c, b, D, cy, Q⟩ := g
  obtain ⟨hx, hb, hown, hts, hK, hlk, hbs, hrm, hml⟩ := hg
  intro H locs lsA hW hS hv
  exact lv_ldc2 hx hb hown (hts _ hw rfl) d (t H locs lsA hW hS hv)
theorem x_iadd (hg : xG g cc own rm nL) {x y : Int} (d : decode cc pc = .ok (.iadd, 1)) (t : xW g n M R k w (pc + 1) ls (xi (x + y) :: st)) : xW g n M R k w pc ls (xi y :: xi x :: st) := by
  obtain ⟨p, l, e, Rm, s, m, args, below, meth, c, b, D, cy, Q⟩ := g
  obtain ⟨hx, hb, hown, hts, hK, hlk, hbs, hrm, hml⟩ := hg
  intro H locs lsA hW hS hv
  refine lv_iadd hx hb d ?_
  rw [← Int32.ofInt_add]
  exact t H locs lsA hW hS hv
theorem x_isub (hg : xG g cc own rm nL) {x y : Int} (d : decode cc pc = .ok (.isub, 1)) (t : xW g n M R k w (pc + 1) ls (xi (x - y) :: st)) : xW g n M R k w pc ls (xi y :: xi x :: st) := by
  obtain ⟨p, l, e, Rm, s, m, args, below, meth, c, b, D, cy, Q⟩ := g
  obtain ⟨hx, hb, hown, hts, hK, hlk, hbs, hrm, hml⟩ := hg
  intro H locs lsA hW hS hv
  refine lv_isub hx hb d ?_
  rw [← Int32.ofInt_sub]
  exact t H locs lsA hW hS hv
theorem x_imul (hg : xG g cc own rm nL) {x y : Int} (d : decode cc pc = .ok (.imul, 1)) (t : xW g n M R k w (pc + 1) ls (xi (x * y) :: st)) : xW g n M R k w pc ls (xi y :: xi x :: st) := by
  obtain ⟨p, l, e, Rm, s, m, args, below, meth, c, b, D, cy, Q⟩ := g
  obtain ⟨hx, hb, hown, hts, hK, hlk, hbs, hrm, hml⟩ := hg
  intro H locs lsA hW hS hv
  refine lv_imul hx hb d ?_
  rw [← Int32.ofInt_mul]
  exact t H locs lsA hW hS hv
theorem x_ladd (hg : xG g cc own rm nL) {x y : Int} (d : decode cc pc = .ok (.ladd, 1)) (t : xW g n M R k w (pc + 1) ls (xl (x + y) :: st)) : xW g n M R k w pc ls (xl y :: xl x :: st) := by
  obtain ⟨p, l, e, Rm, s, m, args, below, meth, c, b, D, cy, Q⟩ := g
  obtain ⟨hx, hb, hown, hts, hK, hlk, hbs, hrm, hml⟩ := hg
  intro H locs lsA hW hS hv
  refine lv_ladd hx hb d ?_
  rw [← Int64.ofInt_add]
  exact t H locs lsA hW hS hv
theorem x_lsub (hg : xG g cc own rm nL) {x y : Int} (d : decode cc pc = .ok (.lsub, 1)) (t : xW g n M R k w (pc + 1) ls (xl (x - y) :: st)) : xW g n M R k w pc ls (xl y :: xl x :: st) := by
  obtain ⟨p, l, e, Rm, s, m, args, below, meth, c, b, D, cy, Q⟩ := g
  obtain ⟨hx, hb, hown, hts, hK, hlk, hbs, hrm, hml⟩ := hg
  intro H locs lsA hW hS hv
  refine lv_lsub hx hb d ?_
  rw [← Int64.ofInt_sub]
  exact t H locs lsA hW hS hv
theorem x_lmul (hg : xG g cc own rm nL) {x y : Int} (d : decode cc pc = .ok (.lmul, 1)) (t : xW g n M R k w (pc + 1) ls (xl (x * y) :: st)) : xW g n M R k w pc ls (xl y :: xl x :: st) := by
  obtain ⟨p, l, e, Rm, s, m, args, below, meth, c, b, D, cy, Q⟩ := g
  obtain ⟨hx, hb, hown, hts, hK, hlk, hbs, hrm, hml⟩ := hg
  intro H locs lsA hW hS hv
  refine lv_lmul hx hb d ?_
  rw [← Int64.ofInt_mul]
  exact t H locs lsA hW hS hv
theorem x_idiv (hg : xG g cc own rm nL) {x y : Int} (d : decode cc pc = .ok (.idiv, 1)) (h0 : 0 ≤ x ∧ x ≤ 2147483647) (hy : 0 < y ∧ y ≤ 2147483647) (t : xW g n M R k w (pc + 1) ls (xi (x / y) :: st)) : xW g n M R k w pc ls (xi y :: xi x :: st) := by
  obtain ⟨p, l, e, Rm, s, m, args, below, meth, c, b, D, cy, Q⟩ := g
  obtain ⟨hx, hb, hown, hts, hK, hlk, hbs, hrm, hml⟩ := hg
  intro H locs lsA hW hS hv
  refine lv_idiv hx hb d (fun q => ?_) ?_
  · rw [oi_0, oi_eq ⟨by omega, by omega⟩ ⟨by omega, by omega⟩] at q
    omega
  · rw [show Int32.ofInt x / Int32.ofInt y = Int32.ofInt (x / y) from ?_]
    · exact t H locs lsA hW hS hv
    · obtain ⟨a, rfl⟩ : ∃ a : Nat, x = a := ⟨x.toNat, by omega⟩
      obtain ⟨c', rfl⟩ : ∃ c' : Nat, y = c' := ⟨y.toNat, by omega⟩
      exact pk_div (by omega) (by omega) (by omega)
theorem x_irem (hg : xG g cc own rm nL) {x y : Int} (d : decode cc pc = .ok (.irem, 1)) (h0 : 0 ≤ x ∧ x ≤ 2147483647) (hy : 0 < y ∧ y ≤ 2147483647) (t : xW g n M R k w (pc + 1) ls (xi (x % y) :: st)) : xW g n M R k w pc ls (xi y :: xi x :: st) := by
  obtain ⟨p, l, e, Rm, s, m, args, below, meth, c, b, D, cy, Q⟩ := g
  obtain ⟨hx, hb, hown, hts, hK, hlk, hbs, hrm, hml⟩ := hg
  intro H locs lsA hW hS hv
  refine lv_irem hx hb d (fun q => ?_) ?_
  · rw [oi_0, oi_eq ⟨by omega, by omega⟩ ⟨by omega, by omega⟩] at q
    omega
  · rw [show Int32.ofInt x - Int32.ofInt x / Int32.ofInt y * Int32.ofInt y = Int32.ofInt (x % y) from ?_]
    · exact t H locs lsA hW hS hv
    · obtain ⟨a, rfl⟩ : ∃ a : Nat, x = a := ⟨x.toNat, by omega⟩
      obtain ⟨c', rfl⟩ : ∃ c' : Nat, y = c' := ⟨y.toNat, by omega⟩
      exact pk_rem (by omega) (by omega) (by omega)
theorem x_ldiv (hg : xG g cc own rm nL) {x y : Int} (d : decode cc pc = .ok (.ldiv, 1)) (h0 : 0 ≤ x ∧ x ≤ 9223372036854775807) (hy : 0 < y ∧ y ≤ 9223372036854775807) (t : xW g n M R k w (pc + 1) ls (xl (x / y) :: st)) : xW g n M R k w pc ls (xl y :: xl x :: st) := by
  obtain ⟨p, l, e, Rm, s, m, args, below, meth, c, b, D, cy, Q⟩ := g
  obtain ⟨hx, hb, hown, hts, hK, hlk, hbs, hrm, hml⟩ := hg
  intro H locs lsA hW hS hv
  refine lv_ldiv hx hb d (fun q => ?_) ?_
  · rw [show (0 : Int64) = Int64.ofInt 0 from rfl, ol_eq ⟨by omega, by omega⟩ ⟨by omega, by omega⟩] at q
    omega
  · rw [show Int64.ofInt x / Int64.ofInt y = Int64.ofInt (x / y) from ?_]
    · exact t H locs lsA hW hS hv
    · obtain ⟨a, rfl⟩ : ∃ a : Nat, x = a := ⟨x.toNat, by omega⟩
      obtain ⟨c', rfl⟩ : ∃ c' : Nat, y = c' := ⟨y.toNat, by omega⟩
      exact pk_lDiv (by omega) (by omega) (by omega)
theorem x_lrem (hg : xG g cc own rm nL) {x y : Int} (d : decode cc pc = .ok (.lrem, 1)) (h0 : 0 ≤ x ∧ x ≤ 9223372036854775807) (hy : 0 < y ∧ y ≤ 9223372036854775807) (t : xW g n M R k w (pc + 1) ls (xl (x % y) :: st)) : xW g n M R k w pc ls (xl y :: xl x :: st) := by
  obtain ⟨p, l, e, Rm, s, m, args, below, meth, c, b, D, cy, Q⟩ := g
  obtain ⟨hx, hb, hown, hts, hK, hlk, hbs, hrm, hml⟩ := hg
  intro H locs lsA hW hS hv
  refine lv_lrem hx hb d (fun q => ?_) ?_
  · rw [show (0 : Int64) = Int64.ofInt 0 from rfl, ol_eq ⟨by omega, by omega⟩ ⟨by omega, by omega⟩] at q
    omega
  · rw [show Int64.ofInt x - Int64.ofInt x / Int64.ofInt y * Int64.ofInt y = Int64.ofInt (x % y) from ?_]
    · exact t H locs lsA hW hS hv
    · obtain ⟨a, rfl⟩ : ∃ a : Nat, x = a := ⟨x.toNat, by omega⟩
      obtain ⟨c', rfl⟩ : ∃ c' : Nat, y = c' := ⟨y.toNat, by omega⟩
      exact pk_lRem (by omega) (by omega) (by omega)
abbrev bAnd (x y : Int) : Int := (Int32.ofInt x &&& Int32.ofInt y).toInt
abbrev bOr (x y : Int) : Int := (Int32.ofInt x ||| Int32.ofInt y).toInt
abbrev bShl (x y : Int) : Int := (Int32.ofInt x <<< (Int32.ofInt y &&& 31)).toInt
abbrev bShr (x y : Int) : Int := (Int32.ofInt x >>> (Int32.ofInt y &&& 31)).toInt
abbrev bUshr (x y : Int) : Int := ((Int32.ofInt x).toUInt32 >>> ((Int32.ofInt y).toUInt32 &&& Int32.toUInt32 31)).toInt32.toInt
abbrev bByte (x : Int) : Int := (Int32.ofInt x).toInt8.toInt32.toInt
abbrev lOr (x y : Int) : Int := (Int64.ofInt x ||| Int64.ofInt y).toInt
abbrev lShl (x y : Int) : Int := (Int64.ofInt x <<< ((Int32.ofInt y).toInt64 &&& 63)).toInt
theorem x_iand (hg : xG g cc own rm nL) {x y : Int} (d : decode cc pc = .ok (.iand, 1)) (t : xW g n M R k w (pc + 1) ls (xi (bAnd x y) :: st)) : xW g n M R k w pc ls (xi y :: xi x :: st) := by
  obtain ⟨p, l, e, Rm, s, m, args, below, meth, c, b, D, cy, Q⟩ := g
  obtain ⟨hx, hb, hown, hts, hK, hlk, hbs, hrm, hml⟩ := hg
  intro H locs lsA hW hS hv
  refine lv_iand hx hb d ?_
  have t2 := t H locs lsA hW hS hv
  simp only [List.map_cons, cv, Int32.ofInt_toInt] at t2
  exact t2
theorem x_ior (hg : xG g cc own rm nL) {x y : Int} (d : decode cc pc = .ok (.ior, 1)) (t : xW g n M R k w (pc + 1) ls (xi (bOr x y) :: st)) : xW g n M R k w pc ls (xi y :: xi x :: st) := by
  obtain ⟨p, l, e, Rm, s, m, args, below, meth, c, b, D, cy, Q⟩ := g
  obtain ⟨hx, hb, hown, hts, hK, hlk, hbs, hrm, hml⟩ := hg
  intro H locs lsA hW hS hv
  refine lv_ior hx hb d ?_
  have t2 := t H locs lsA hW hS hv
  simp only [List.map_cons, cv, Int32.ofInt_toInt] at t2
  exact t2
theorem x_ishl (hg : xG g cc own rm nL) {x y : Int} (d : decode cc pc = .ok (.ishl, 1)) (t : xW g n M R k w (pc + 1) ls (xi (bShl x y) :: st)) : xW g n M R k w pc ls (xi y :: xi x :: st) := by
  obtain ⟨p, l, e, Rm, s, m, args, below, meth, c, b, D, cy, Q⟩ := g
  obtain ⟨hx, hb, hown, hts, hK, hlk, hbs, hrm, hml⟩ := hg
  intro H locs lsA hW hS hv
  refine lv_ishl hx hb d ?_
  have t2 := t H locs lsA hW hS hv
  simp only [List.map_cons, cv, Int32.ofInt_toInt] at t2
  exact t2
theorem x_ishr (hg : xG g cc own rm nL) {x y : Int} (d : decode cc pc = .ok (.ishr, 1)) (t : xW g n M R k w (pc + 1) ls (xi (bShr x y) :: st)) : xW g n M R k w pc ls (xi y :: xi x :: st) := by
  obtain ⟨p, l, e, Rm, s, m, args, below, meth, c, b, D, cy, Q⟩ := g
  obtain ⟨hx, hb, hown, hts, hK, hlk, hbs, hrm, hml⟩ := hg
  intro H locs lsA hW hS hv
  refine lv_ishr hx hb d ?_
  have t2 := t H locs lsA hW hS hv
  simp only [List.map_cons, cv, Int32.ofInt_toInt] at t2
  exact t2
theorem x_iushr (hg : xG g cc own rm nL) {x y : Int} (d : decode cc pc = .ok (.iushr, 1)) (t : xW g n M R k w (pc + 1) ls (xi (bUshr x y) :: st)) : xW g n M R k w pc ls (xi y :: xi x :: st) := by
  obtain ⟨p, l, e, Rm, s, m, args, below, meth, c, b, D, cy, Q⟩ := g
  obtain ⟨hx, hb, hown, hts, hK, hlk, hbs, hrm, hml⟩ := hg
  intro H locs lsA hW hS hv
  have t2 := t H locs lsA hW hS hv
  simp only [List.map_cons, cv, Int32.ofInt_toInt] at t2
  exact lv_iushr hx hb d rfl t2
theorem x_i2b (hg : xG g cc own rm nL) {x : Int} (d : decode cc pc = .ok (.i2b, 1)) (t : xW g n M R k w (pc + 1) ls (xi (bByte x) :: st)) : xW g n M R k w pc ls (xi x :: st) := by
  obtain ⟨p, l, e, Rm, s, m, args, below, meth, c, b, D, cy, Q⟩ := g
  obtain ⟨hx, hb, hown, hts, hK, hlk, hbs, hrm, hml⟩ := hg
  intro H locs lsA hW hS hv
  have t2 := t H locs lsA hW hS hv
  simp only [List.map_cons, cv, Int32.ofInt_toInt] at t2
  exact lv_i2b hx hb d rfl t2
theorem x_lor (hg : xG g cc own rm nL) {x y : Int} (d : decode cc pc = .ok (.lor, 1)) (t : xW g n M R k w (pc + 1) ls (xl (lOr x y) :: st)) : xW g n M R k w pc ls (xl y :: xl x :: st) := by
  obtain ⟨p, l, e, Rm, s, m, args, below, meth, c, b, D, cy, Q⟩ := g
  obtain ⟨hx, hb, hown, hts, hK, hlk, hbs, hrm, hml⟩ := hg
  intro H locs lsA hW hS hv
  have t2 := t H locs lsA hW hS hv
  simp only [List.map_cons, cv, Int64.ofInt_toInt] at t2
  exact lv_lor hx hb d t2
theorem x_lshl (hg : xG g cc own rm nL) {x y : Int} (d : decode cc pc = .ok (.lshl, 1)) (t : xW g n M R k w (pc + 1) ls (xl (lShl x y) :: st)) : xW g n M R k w pc ls (xi y :: xl x :: st) := by
  obtain ⟨p, l, e, Rm, s, m, args, below, meth, c, b, D, cy, Q⟩ := g
  obtain ⟨hx, hb, hown, hts, hK, hlk, hbs, hrm, hml⟩ := hg
  intro H locs lsA hW hS hv
  have t2 := t H locs lsA hW hS hv
  simp only [List.map_cons, cv, Int64.ofInt_toInt] at t2
  exact lv_lshl hx hb d rfl t2
theorem x_i2l (hg : xG g cc own rm nL) {x : Int} (d : decode cc pc = .ok (.i2l, 1)) (h : inR x) (t : xW g n M R k w (pc + 1) ls (xl x :: st)) : xW g n M R k w pc ls (xi x :: st) := by
  obtain ⟨p, l, e, Rm, s, m, args, below, meth, c, b, D, cy, Q⟩ := g
  obtain ⟨hx, hb, hown, hts, hK, hlk, hbs, hrm, hml⟩ := hg
  intro H locs lsA hW hS hv
  refine lv_i2l hx hb d ?_ (t H locs lsA hW hS hv)
  rw [← Int64.toInt_inj, Int32.toInt_toInt64, oi_t h, ol_t ⟨by omega, by omega⟩]
theorem x_l2i (hg : xG g cc own rm nL) {x : Int} (d : decode cc pc = .ok (.l2i, 1)) (h : inR x) (t : xW g n M R k w (pc + 1) ls (xi x :: st)) : xW g n M R k w pc ls (xl x :: st) := by
  obtain ⟨p, l, e, Rm, s, m, args, below, meth, c, b, D, cy, Q⟩ := g
  obtain ⟨hx, hb, hown, hts, hK, hlk, hbs, hrm, hml⟩ := hg
  intro H locs lsA hW hS hv
  refine lv_l2i hx hb d ?_ (t H locs lsA hW hS hv)
  rw [← Int32.toInt_inj, Int64.toInt_toInt32, ol_t ⟨by omega, by omega⟩, oi_t h]
  simp only [Int.bmod]
  omega
theorem x_lcmp (hg : xG g cc own rm nL) {x y : Int} (d : decode cc pc = .ok (.lcmp, 1)) (h1 : inL x) (h2 : inL y) (t : xW g n M R k w (pc + 1) ls (xi (if y < x then 1 else if x = y then 0 else -1) :: st)) : xW g n M R k w pc ls (xl y :: xl x :: st) := by
  obtain ⟨p, l, e, Rm, s, m, args, below, meth, c, b, D, cy, Q⟩ := g
  obtain ⟨hx, hb, hown, hts, hK, hlk, hbs, hrm, hml⟩ := hg
  intro H locs lsA hW hS hv
  refine W.lcmp hx hb d ?_
  have t2 := t H locs lsA hW hS hv
  rw [show lg_cmp (Int64.ofInt x) (Int64.ofInt y) = Int32.ofInt (if y < x then 1 else if x = y then 0 else -1) from ?_]
  · exact t2
  · unfold lg_cmp
    simp only [gt_iff_lt, ol_lt h1 h2, ol_lt h2 h1, ol_eq h1 h2]
    split <;> (try split) <;> (try split) <;> first | rfl | omega
theorem x_dup (hg : xG g cc own rm nL) {v : xV} (d : decode cc pc = .ok (.dup, 1)) (hc : xcat v = 1) (t : xW g n M R k w (pc + 1) ls (v :: v :: st)) : xW g n M R k w pc ls (v :: st) := by
  obtain ⟨p, l, e, Rm, s, m, args, below, meth, c, b, D, cy, Q⟩ := g
  obtain ⟨hx, hb, hown, hts, hK, hlk, hbs, hrm, hml⟩ := hg
  intro H locs lsA hW hS hv
  exact lv_dup hx hb d (by rw [xcat_ok]; exact hc) (t H locs lsA hW hS hv)
theorem x_pop (hg : xG g cc own rm nL) {v : xV} (d : decode cc pc = .ok (.pop, 1)) (hc : xcat v = 1) (t : xW g n M R k w (pc + 1) ls st) : xW g n M R k w pc ls (v :: st) := by
  obtain ⟨p, l, e, Rm, s, m, args, below, meth, c, b, D, cy, Q⟩ := g
  obtain ⟨hx, hb, hown, hts, hK, hlk, hbs, hrm, hml⟩ := hg
  intro H locs lsA hW hS hv
  exact lv_pop hx hb d (by rw [xcat_ok]; exact hc) (t H locs lsA hW hS hv)
theorem x_dup2 (hg : xG g cc own rm nL) {v u : xV} (d : decode cc pc = .ok (.dup2, 1)) (hc : xcat v = 1) (hu : xcat u = 1) (t : xW g n M R k w (pc + 1) ls (v :: u :: v :: u :: st)) : xW g n M R k w pc ls (v :: u :: st) := by
  obtain ⟨p, l, e, Rm, s, m, args, below, meth, c, b, D, cy, Q⟩ := g
  obtain ⟨hx, hb, hown, hts, hK, hlk, hbs, hrm, hml⟩ := hg
  intro H locs lsA hW hS hv
  exact lv_dup2_11 hx hb d (by rw [xcat_ok]; exact hc) (by rw [xcat_ok]; exact hu) (t H locs lsA hW hS hv)
theorem x_if_eq (hg : xG g cc own rm nL) {x off : Int} {tgt : Nat} (d : decode cc pc = .ok (.ifCond .eq off, 3)) (ht : (pc : Int) + off = (tgt : Int)) (h : inR x) (kt : x = 0 → xW g n M R k w tgt ls st) (kf : ¬ x = 0 → xW g n M R k w (pc + 3) ls st) : xW g n M R k w pc ls (xi x :: st) := by
  obtain ⟨p, l, e, Rm, s, m, args, below, meth, c, b, D, cy, Q⟩ := g
  obtain ⟨hx, hb, hown, hts, hK, hlk, hbs, hrm, hml⟩ := hg
  intro H locs lsA hW hS hv
  have e1 : (Int32.ofInt x = 0 ↔ x = 0) := oi_eq (c := 0) h (by decide)
  have e2 : (Int32.ofInt x < 0 ↔ x < 0) := oi_lt (c := 0) h (by decide)
  have e3 : (0 < Int32.ofInt x ↔ 0 < x) := oi_lt (a := 0) (by decide) h
  have e4 : (Int32.ofInt x ≤ 0 ↔ x ≤ 0) := oi_le (c := 0) h (by decide)
  have e5 : (0 ≤ Int32.ofInt x ↔ 0 ≤ x) := oi_le (a := 0) (by decide) h
  refine lv_if_eq hx hb d ht (fun q => kt ?_ H locs lsA hW hS hv) (fun q => kf ?_ H locs lsA hW hS hv) <;> (try simp only [ne_eq, ge_iff_le, gt_iff_lt] at q) <;> first | exact e1.mp q | exact (not_congr e1).mp q | exact fun z => q (fun z2 => z (e1.mp z2))
theorem x_icmp_eq (hg : xG g cc own rm nL) {x y off : Int} {tgt : Nat} (d : decode cc pc = .ok (.if_icmp .eq off, 3)) (ht : (pc : Int) + off = (tgt : Int)) (h1 : inR x) (h2 : inR y) (kt : x = y → xW g n M R k w tgt ls st) (kf : ¬ x = y → xW g n M R k w (pc + 3) ls st) : xW g n M R k w pc ls (xi y :: xi x :: st) := by
  obtain ⟨p, l, e, Rm, s, m, args, below, meth, c, b, D, cy, Q⟩ := g
  obtain ⟨hx, hb, hown, hts, hK, hlk, hbs, hrm, hml⟩ := hg
  intro H locs lsA hW hS hv
  have e1 := oi_eq h1 h2
  refine lv_icmp_eq hx hb d ht (fun q => kt ?_ H locs lsA hW hS hv) (fun q => kf ?_ H locs lsA hW hS hv) <;> (try simp only [ne_eq, ge_iff_le, gt_iff_lt] at q) <;> first | exact e1.mp q | exact (not_congr e1).mp q | exact fun z => q (fun z2 => z (e1.mp z2))
theorem x_if_ne (hg : xG g cc own rm nL) {x off : Int} {tgt : Nat} (d : decode cc pc = .ok (.ifCond .ne off, 3)) (ht : (pc : Int) + off = (tgt : Int)) (h : inR x) (kt : ¬ x = 0 → xW g n M R k w tgt ls st) (kf : x = 0 → xW g n M R k w (pc + 3) ls st) : xW g n M R k w pc ls (xi x :: st) := by
  obtain ⟨p, l, e, Rm, s, m, args, below, meth, c, b, D, cy, Q⟩ := g
  obtain ⟨hx, hb, hown, hts, hK, hlk, hbs, hrm, hml⟩ := hg
  intro H locs lsA hW hS hv
  have e1 : (Int32.ofInt x = 0 ↔ x = 0) := oi_eq (c := 0) h (by decide)
  have e2 : (Int32.ofInt x < 0 ↔ x < 0) := oi_lt (c := 0) h (by decide)
  have e3 : (0 < Int32.ofInt x ↔ 0 < x) := oi_lt (a := 0) (by decide) h
  have e4 : (Int32.ofInt x ≤ 0 ↔ x ≤ 0) := oi_le (c := 0) h (by decide)
  have e5 : (0 ≤ Int32.ofInt x ↔ 0 ≤ x) := oi_le (a := 0) (by decide) h
  refine lv_if_ne hx hb d ht (fun q => kt ?_ H locs lsA hW hS hv) (fun q => kf ?_ H locs lsA hW hS hv) <;> (try simp only [ne_eq, ge_iff_le, gt_iff_lt] at q) <;> first | exact e1.mp q | exact (not_congr e1).mp q | exact fun z => q (fun z2 => z (e1.mp z2))
theorem x_icmp_ne (hg : xG g cc own rm nL) {x y off : Int} {tgt : Nat} (d : decode cc pc = .ok (.if_icmp .ne off, 3)) (ht : (pc : Int) + off = (tgt : Int)) (h1 : inR x) (h2 : inR y) (kt : ¬ x = y → xW g n M R k w tgt ls st) (kf : x = y → xW g n M R k w (pc + 3) ls st) : xW g n M R k w pc ls (xi y :: xi x :: st) := by
  obtain ⟨p, l, e, Rm, s, m, args, below, meth, c, b, D, cy, Q⟩ := g
  obtain ⟨hx, hb, hown, hts, hK, hlk, hbs, hrm, hml⟩ := hg
  intro H locs lsA hW hS hv
  have e1 := oi_eq h1 h2
  refine lv_icmp_ne hx hb d ht (fun q => kt ?_ H locs lsA hW hS hv) (fun q => kf ?_ H locs lsA hW hS hv) <;> (try simp only [ne_eq, ge_iff_le, gt_iff_lt] at q) <;> first | exact e1.mp q | exact (not_congr e1).mp q | exact fun z => q (fun z2 => z (e1.mp z2))
theorem x_if_lt (hg : xG g cc own rm nL) {x off : Int} {tgt : Nat} (d : decode cc pc = .ok (.ifCond .lt off, 3)) (ht : (pc : Int) + off = (tgt : Int)) (h : inR x) (kt : x < 0 → xW g n M R k w tgt ls st) (kf : ¬ x < 0 → xW g n M R k w (pc + 3) ls st) : xW g n M R k w pc ls (xi x :: st) := by
  obtain ⟨p, l, e, Rm, s, m, args, below, meth, c, b, D, cy, Q⟩ := g
  obtain ⟨hx, hb, hown, hts, hK, hlk, hbs, hrm, hml⟩ := hg
  intro H locs lsA hW hS hv
  have e1 : (Int32.ofInt x = 0 ↔ x = 0) := oi_eq (c := 0) h (by decide)
  have e2 : (Int32.ofInt x < 0 ↔ x < 0) := oi_lt (c := 0) h (by decide)
  have e3 : (0 < Int32.ofInt x ↔ 0 < x) := oi_lt (a := 0) (by decide) h
  have e4 : (Int32.ofInt x ≤ 0 ↔ x ≤ 0) := oi_le (c := 0) h (by decide)
  have e5 : (0 ≤ Int32.ofInt x ↔ 0 ≤ x) := oi_le (a := 0) (by decide) h
  refine lv_if_lt hx hb d ht (fun q => kt ?_ H locs lsA hW hS hv) (fun q => kf ?_ H locs lsA hW hS hv) <;> (try simp only [ne_eq, ge_iff_le, gt_iff_lt] at q) <;> first | exact e2.mp q | exact (not_congr e2).mp q | exact fun z => q (fun z2 => z (e1.mp z2))
theorem x_icmp_lt (hg : xG g cc own rm nL) {x y off : Int} {tgt : Nat} (d : decode cc pc = .ok (.if_icmp .lt off, 3)) (ht : (pc : Int) + off = (tgt : Int)) (h1 : inR x) (h2 : inR y) (kt : x < y → xW g n M R k w tgt ls st) (kf : ¬ x < y → xW g n M R k w (pc + 3) ls st) : xW g n M R k w pc ls (xi y :: xi x :: st) := by
  obtain ⟨p, l, e, Rm, s, m, args, below, meth, c, b, D, cy, Q⟩ := g
  obtain ⟨hx, hb, hown, hts, hK, hlk, hbs, hrm, hml⟩ := hg
  intro H locs lsA hW hS hv
  have e1 := oi_lt h1 h2
  refine lv_icmp_lt hx hb d ht (fun q => kt ?_ H locs lsA hW hS hv) (fun q => kf ?_ H locs lsA hW hS hv) <;> (try simp only [ne_eq, ge_iff_le, gt_iff_lt] at q) <;> first | exact e1.mp q | exact (not_congr e1).mp q | exact fun z => q (fun z2 => z (e1.mp z2))
theorem x_if_ge (hg : xG g cc own rm nL) {x off : Int} {tgt : Nat} (d : decode cc pc = .ok (.ifCond .ge off, 3)) (ht : (pc : Int) + off = (tgt : Int)) (h : inR x) (kt : 0 ≤ x → xW g n M R k w tgt ls st) (kf : ¬ 0 ≤ x → xW g n M R k w (pc + 3) ls st) : xW g n M R k w pc ls (xi x :: st) := by
  obtain ⟨p, l, e, Rm, s, m, args, below, meth, c, b, D, cy, Q⟩ := g
  obtain ⟨hx, hb, hown, hts, hK, hlk, hbs, hrm, hml⟩ := hg
  intro H locs lsA hW hS hv
  have e1 : (Int32.ofInt x = 0 ↔ x = 0) := oi_eq (c := 0) h (by decide)
  have e2 : (Int32.ofInt x < 0 ↔ x < 0) := oi_lt (c := 0) h (by decide)
  have e3 : (0 < Int32.ofInt x ↔ 0 < x) := oi_lt (a := 0) (by decide) h
  have e4 : (Int32.ofInt x ≤ 0 ↔ x ≤ 0) := oi_le (c := 0) h (by decide)
  have e5 : (0 ≤ Int32.ofInt x ↔ 0 ≤ x) := oi_le (a := 0) (by decide) h
  refine lv_if_ge hx hb d ht (fun q => kt ?_ H locs lsA hW hS hv) (fun q => kf ?_ H locs lsA hW hS hv) <;> (try simp only [ne_eq, ge_iff_le, gt_iff_lt] at q) <;> first | exact e5.mp q | exact (not_congr e5).mp q | exact fun z => q (fun z2 => z (e1.mp z2))
theorem x_icmp_ge (hg : xG g cc own rm nL) {x y off : Int} {tgt : Nat} (d : decode cc pc = .ok (.if_icmp .ge off, 3)) (ht : (pc : Int) + off = (tgt : Int)) (h1 : inR x) (h2 : inR y) (kt : y ≤ x → xW g n M R k w tgt ls st) (kf : ¬ y ≤ x → xW g n M R k w (pc + 3) ls st) : xW g n M R k w pc ls (xi y :: xi x :: st) := by
  obtain ⟨p, l, e, Rm, s, m, args, below, meth, c, b, D, cy, Q⟩ := g
  obtain ⟨hx, hb, hown, hts, hK, hlk, hbs, hrm, hml⟩ := hg
  intro H locs lsA hW hS hv
  have e1 := oi_le h2 h1
  refine lv_icmp_ge hx hb d ht (fun q => kt ?_ H locs lsA hW hS hv) (fun q => kf ?_ H locs lsA hW hS hv) <;> (try simp only [ne_eq, ge_iff_le, gt_iff_lt] at q) <;> first | exact e1.mp q | exact (not_congr e1).mp q | exact fun z => q (fun z2 => z (e1.mp z2))
theorem x_if_gt (hg : xG g cc own rm nL) {x off : Int} {tgt : Nat} (d : decode cc pc = .ok (.ifCond .gt off, 3)) (ht : (pc : Int) + off = (tgt : Int)) (h : inR x) (kt : 0 < x → xW g n M R k w tgt ls st) (kf : ¬ 0 < x → xW g n M R k w (pc + 3) ls st) : xW g n M R k w pc ls (xi x :: st) := by
  obtain ⟨p, l, e, Rm, s, m, args, below, meth, c, b, D, cy, Q⟩ := g
  obtain ⟨hx, hb, hown, hts, hK, hlk, hbs, hrm, hml⟩ := hg
  intro H locs lsA hW hS hv
  have e1 : (Int32.ofInt x = 0 ↔ x = 0) := oi_eq (c := 0) h (by decide)
  have e2 : (Int32.ofInt x < 0 ↔ x < 0) := oi_lt (c := 0) h (by decide)
  have e3 : (0 < Int32.ofInt x ↔ 0 < x) := oi_lt (a := 0) (by decide) h
  have e4 : (Int32.ofInt x ≤ 0 ↔ x ≤ 0) := oi_le (c := 0) h (by decide)
  have e5 : (0 ≤ Int32.ofInt x ↔ 0 ≤ x) := oi_le (a := 0) (by decide) h
  refine lv_if_gt hx hb d ht (fun q => kt ?_ H locs lsA hW hS hv) (fun q => kf ?_ H locs lsA hW hS hv) <;> (try simp only [ne_eq, ge_iff_le, gt_iff_lt] at q) <;> first | exact e3.mp q | exact (not_congr e3).mp q | exact fun z => q (fun z2 => z (e1.mp z2))
theorem x_icmp_gt (hg : xG g cc own rm nL) {x y off : Int} {tgt : Nat} (d : decode cc pc = .ok (.if_icmp .gt off, 3)) (ht : (pc : Int) + off = (tgt : Int)) (h1 : inR x) (h2 : inR y) (kt : y < x → xW g n M R k w tgt ls st) (kf : ¬ y < x → xW g n M R k w (pc + 3) ls st) : xW g n M R k w pc ls (xi y :: xi x :: st) := by
  obtain ⟨p, l, e, Rm, s, m, args, below, meth, c, b, D, cy, Q⟩ := g
  obtain ⟨hx, hb, hown, hts, hK, hlk, hbs, hrm, hml⟩ := hg
  intro H locs lsA hW hS hv
  have e1 := oi_lt h2 h1
  refine lv_icmp_gt hx hb d ht (fun q => kt ?_ H locs lsA hW hS hv) (fun q => kf ?_ H locs lsA hW hS hv) <;> (try simp only [ne_eq, ge_iff_le, gt_iff_lt] at q) <;> first | exact e1.mp q | exact (not_congr e1).mp q | exact fun z => q (fun z2 => z (e1.mp z2))
theorem x_if_le (hg : xG g cc own rm nL) {x off : Int} {tgt : Nat} (d : decode cc pc = .ok (.ifCond .le off, 3)) (ht : (pc : Int) + off = (tgt : Int)) (h : inR x) (kt : x ≤ 0 → xW g n M R k w tgt ls st) (kf : ¬ x ≤ 0 → xW g n M R k w (pc + 3) ls st) : xW g n M R k w pc ls (xi x :: st) := by
  obtain ⟨p, l, e, Rm, s, m, args, below, meth, c, b, D, cy, Q⟩ := g
  obtain ⟨hx, hb, hown, hts, hK, hlk, hbs, hrm, hml⟩ := hg
  intro H locs lsA hW hS hv
  have e1 : (Int32.ofInt x = 0 ↔ x = 0) := oi_eq (c := 0) h (by decide)
  have e2 : (Int32.ofInt x < 0 ↔ x < 0) := oi_lt (c := 0) h (by decide)
  have e3 : (0 < Int32.ofInt x ↔ 0 < x) := oi_lt (a := 0) (by decide) h
  have e4 : (Int32.ofInt x ≤ 0 ↔ x ≤ 0) := oi_le (c := 0) h (by decide)
  have e5 : (0 ≤ Int32.ofInt x ↔ 0 ≤ x) := oi_le (a := 0) (by decide) h
  refine lv_if_le hx hb d ht (fun q => kt ?_ H locs lsA hW hS hv) (fun q => kf ?_ H locs lsA hW hS hv) <;> (try simp only [ne_eq, ge_iff_le, gt_iff_lt] at q) <;> first | exact e4.mp q | exact (not_congr e4).mp q | exact fun z => q (fun z2 => z (e1.mp z2))
theorem x_icmp_le (hg : xG g cc own rm nL) {x y off : Int} {tgt : Nat} (d : decode cc pc = .ok (.if_icmp .le off, 3)) (ht : (pc : Int) + off = (tgt : Int)) (h1 : inR x) (h2 : inR y) (kt : x ≤ y → xW g n M R k w tgt ls st) (kf : ¬ x ≤ y → xW g n M R k w (pc + 3) ls st) : xW g n M R k w pc ls (xi y :: xi x :: st) := by
  obtain ⟨p, l, e, Rm, s, m, args, below, meth, c, b, D, cy, Q⟩ := g
  obtain ⟨hx, hb, hown, hts, hK, hlk, hbs, hrm, hml⟩ := hg
  intro H locs lsA hW hS hv
  have e1 := oi_le h1 h2
  refine lv_icmp_le hx hb d ht (fun q => kt ?_ H locs lsA hW hS hv) (fun q => kf ?_ H locs lsA hW hS hv) <;> (try simp only [ne_eq, ge_iff_le, gt_iff_lt] at q) <;> first | exact e1.mp q | exact (not_congr e1).mp q | exact fun z => q (fun z2 => z (e1.mp z2))
theorem x_goto (hg : xG g cc own rm nL) {off : Int} {tgt : Nat} (d : decode cc pc = .ok (.goto off, 3)) (ht : (pc : Int) + off = (tgt : Int)) (t : xW g n M R k w tgt ls st) : xW g n M R k w pc ls st := by
  obtain ⟨p, l, e, Rm, s, m, args, below, meth, c, b, D, cy, Q⟩ := g
  obtain ⟨hx, hb, hown, hts, hK, hlk, hbs, hrm, hml⟩ := hg
  intro H locs lsA hW hS hv
  exact lv_goto hx hb d ht (t H locs lsA hW hS hv)
theorem x_tableOut (hg : xG g cc own rm nL) {x dflt lo hi : Int} {offs : Array Int} {len tgt : Nat} (d : decode cc pc = .ok (.tableswitch dflt lo hi offs, len)) (h : inR x) (ho : x < lo ∨ hi < x) (ht : (pc : Int) + dflt = (tgt : Int)) (t : xW g n M R k w tgt ls st) : xW g n M R k w pc ls (xi x :: st) := by
  obtain ⟨p, l, e, Rm, s, m, args, below, meth, c, b, D, cy, Q⟩ := g
  obtain ⟨hx, hb, hown, hts, hK, hlk, hbs, hrm, hml⟩ := hg
  intro H locs lsA hW hS hv
  exact lv_tableOut hx hb d (by rw [oi_t h]; exact ho) ht (t H locs lsA hW hS hv)
theorem x_tableIn (hg : xG g cc own rm nL) {x dflt lo hi off : Int} {offs : Array Int} {len tgt : Nat} (d : decode cc pc = .ok (.tableswitch dflt lo hi offs, len)) (h : inR x) (h1 : ¬ x < lo) (h2 : ¬ hi < x) (ho : offs[(x - lo).toNat]? = some off) (ht : (pc : Int) + off = (tgt : Int)) (t : xW g n M R k w tgt ls st) : xW g n M R k w pc ls (xi x :: st) := by
  obtain ⟨p, l, e, Rm, s, m, args, below, meth, c, b, D, cy, Q⟩ := g
  obtain ⟨hx, hb, hown, hts, hK, hlk, hbs, hrm, hml⟩ := hg
  intro H locs lsA hW hS hv
  exact lv_tableIn hx hb d (by rw [oi_t h]; exact h1) (by rw [oi_t h]; exact h2) (by rw [oi_t h]; exact ho) ht (t H locs lsA hW hS hv)
theorem x_lookup (hg : xG g cc own rm nL) {x dflt off : Int} {ps : Array (Int × Int)} {len tgt : Nat} (d : decode cc pc = .ok (.lookupswitch dflt ps, len)) (h : inR x) (hp : (ps.toList.zip (ps.toList.drop 1)).all (fun (a, next) => a.1 < next.1) = true) (ho : Op.lookupswitch.offset ps.toList dflt x = off) (ht : (pc : Int) + off = (tgt : Int)) (t : xW g n M R k w tgt ls st) : xW g n M R k w pc ls (xi x :: st) := by
  obtain ⟨p, l, e, Rm, s, m, args, below, meth, c, b, D, cy, Q⟩ := g
  obtain ⟨hx, hb, hown, hts, hK, hlk, hbs, hrm, hml⟩ := hg
  intro H locs lsA hW hS hv
  exact lv_lookup hx hb d hp (by rw [oi_t h]; exact ho) ht (t H locs lsA hW hS hv)
end XR
