/-! ===== making: new objects and rows ===== -/
theorem xWd_push {D : va_G} {cy : Nat → ClassId} {b n : Nat} {M : xMm} {R : xRm} {H H1 : Heap} (hW : xWd D cy b n M R H) (hz : H1.size = H.size + 1) (o1 : ∀ q, q < H.size → H1[q]? = H[q]?) (hat : va_at D vwCl (b + (n + 1), xcell cy b M R (n + 1)) H1) : xWd D cy b (n + 1) M R H1 := by
  refine ⟨by rw [hz, hW.1]; omega, fun k q hk => ?_⟩
  obtain ⟨h1, rfl⟩ := xws_get hk
  by_cases e : k = n
  · subst e; exact hat
  · have hP : va_P D vwCl (xws cy b n M R) H1 := hW.2.kept (fun k x hx => o1 x.1 ((hW.2 k x hx).lt))
    have h9 := xws_at (cy := cy) (b := b) (M := M) (R := R) (n := n) (i := k + 1) (by omega) (by omega)
    exact hP k _ h9
theorem xS_push {b : Nat} {H0 H H1 : Heap} {locs : List Loc} (hS : va_S (fun q => b < q) H0 H locs) (hz : H1.size = H.size + 1) (o1 : ∀ q, q < H.size → H1[q]? = H[q]?) : va_S (fun q => b < q) H0 H1 locs :=
  ⟨Nat.le_trans hS.1 (by omega), fun x h1 h2 => (o1 x (Nat.lt_of_lt_of_le h1 hS.1)).trans (hS.2.1 x h1 h2), hS.2.2⟩
theorem arrV_congr {cA : ClassId} {N : Nat} {f f' : Nat → Value} (h : ∀ j, j < N → f j = f' j) : arrV cA N f = arrV cA N f' := by
  have e : (fun j : Fin N => f j.val) = (fun j : Fin N => f' j.val) := funext (fun j => h j.1 j.2)
  unfold arrV
  rw [e]
/-- the same references, where they count -/
def sameR (n : Nat) (R R' : xRm) : Prop := ∀ i, 1 ≤ i → i ≤ n → (∀ ci, lay i = .inl ci → ∀ j, j < (xfk ci).length → 2 ≤ (xfk ci).getD j 0 → R i j = R' i j) ∧ (∀ t len, lay i = .inr (t, len) → 4 ≤ t → ∀ j, j < len → R i j = R' i j)
theorem xWd_same {D : va_G} {cy : Nat → ClassId} {b n : Nat} {M : xMm} {R R' : xRm} {H : Heap} (h : sameR n R R') (hW : xWd D cy b n M R H) : xWd D cy b n M R' H := by
  refine ⟨hW.1, fun k q hk => ?_⟩
  obtain ⟨h1, rfl⟩ := xws_get hk
  have ho := hW.2 k _ (xws_at (cy := cy) (b := b) (M := M) (R := R) (n := n) (i := k + 1) (by omega) (by omega))
  obtain ⟨s1, s2⟩ := h (k + 1) (by omega) (by omega)
  cases hl : lay (k + 1) with
  | inl ci =>
    have e : xfs b M R' (k + 1) (xfk ci) = xfs b M R (k + 1) (xfk ci) := by
      unfold xfs
      refine List.map_congr_left (fun j hj => ?_)
      have hj2 : j < (xfk ci).length := List.mem_range.mp hj
      unfold xfv
      by_cases e0 : (xfk ci).getD j 0 = 0
      · rw [if_pos e0, if_pos e0]
      · by_cases e1 : (xfk ci).getD j 0 = 1
        · rw [if_neg e0, if_neg e0, if_pos e1, if_pos e1]
        · rw [if_neg e0, if_neg e0, if_neg e1, if_neg e1, s1 ci hl j hj2 (by omega)]
    simp only [xcell, hl] at ho ⊢
    rw [e]
    exact ho
  | inr q =>
    obtain ⟨t, len⟩ := q
    simp only [xcell, hl] at ho ⊢
    by_cases ht : 4 ≤ t
    · have s3 := s2 t len hl ht
      have ho2 : H[b + (k + 1)]? = some (vp_cell (cy t) (len, xarr b M R (k + 1) t)) := ho
      show H[b + (k + 1)]? = some (vp_cell (cy t) (len, xarr b M R' (k + 1) t))
      rw [ho2]
      simp only [xarr, show ¬ t ≤ 2 by omega, show ¬ t = 3 by omega, if_false]
      rw [vp_cell_q, vp_cell_q]
      exact congrArg some (arrV_congr (fun j hj => by rw [s3 j hj]))
    · have e : xarr b M R' (k + 1) t = xarr b M R (k + 1) t := by
        unfold xarr
        by_cases e2 : t ≤ 2
        · rw [if_pos e2, if_pos e2]
        · rw [if_neg e2, if_neg e2, if_pos (by omega), if_pos (by omega)]
      rw [e]
      exact ho
def xdk : FieldType → Nat
  | .long => 1
  | .object _ => 2
  | .array _ => 2
  | .float => 9
  | .double => 9
  | _ => 0
theorem xdk_ok (ty : FieldType) {t : Nat} (h : xdk ty = t) (ht : t ≤ 2) : defaultValue ty = if t = 0 then .int 0 else if t = 1 then .long 0 else .null := by
  subst h
  cases ty <;> first | rfl | (exact absurd ht (by decide))
theorem xdk_all : (List.range 13).all (fun ci => match vwCl[ci]? with
  | some q => (List.range q.2.2).all (fun j => decide ((parseFieldDescriptor (q.2.1 j).2.2.1).map xdk = some ((xfk ci).getD j 9)) && decide ((xfk ci).getD j 9 ≤ 2) && decide (j < (xfk ci).length))
  | none => false) = true := by decide +kernel
theorem xdk_at {ci : Nat} {q : vw_C} (hc : vwCl[ci]? = some q) {j : Nat} (hj : j < q.2.2) : ∃ t, t ≤ 2 ∧ (xfk ci)[j]? = some t ∧ (parseFieldDescriptor (q.2.1 j).2.2.1).map xdk = some t := by
  have hlt : ci < 13 := (List.getElem?_eq_some_iff.mp hc).1
  have h1 := List.all_eq_true.mp xdk_all ci (List.mem_range.mpr hlt)
  rw [hc] at h1
  have h2 := List.all_eq_true.mp h1 j (List.mem_range.mpr hj)
  simp only [Bool.and_eq_true, decide_eq_true_eq] at h2
  obtain ⟨⟨a1, a2⟩, a3⟩ := h2
  refine ⟨_, a2, ?_, a1⟩
  rw [List.getD_eq_getElem?_getD, List.getElem?_eq_getElem a3]
  rfl
/-- what the tables say of arrays of references, in a state -/
def xAO (cy : Nat → ClassId) (U : State) : Prop := (va_AO "MilkTrain$Train" U ∧ va_AO "MilkTrain$Churn" U ∧ va_AO "MilkTrain$Tank" U ∧ va_AO "MilkTrain$Bottling" U ∧ va_AO "MilkTrain$Find" U) ∧ ∃ (kA : Class) (comp : ClassId), U.vm.classes[cy 9]? = some kA ∧ kA.kind = .array comp (.array .long) ∧ U.vm.findClass (FieldType.array .long).toString = some comp
theorem xAO_moved {cy : Nat → ClassId} {u U : State} (hvm : u.vm.Alike U.vm) (h : xAO cy u) : xAO cy U := by
  obtain ⟨⟨h1, h2, h3, h4, h5⟩, kA, comp, g1, g2, g3⟩ := h
  obtain ⟨k', hk', he⟩ := hvm.2.2 _ _ g1
  exact ⟨⟨va_AO.moved hvm h1, va_AO.moved hvm h2, va_AO.moved hvm h3, va_AO.moved hvm h4, va_AO.moved hvm h5⟩, k', comp, hk', by rw [he]; exact g2, by rw [hvm.findClass]; exact g3⟩
theorem xAO_same {cy : Nat → ClassId} {s U : State} (h : xAO cy s) (e : s.vm = U.vm) : xAO cy U := xAO_moved (by rw [e]; exact Vm.Alike.refl U.vm) h
def xGa : xGT → Prop
  | (_, _, _, _, s, _, _, _, _, _, _, _, cy, _) => xAO cy s
/-- a constructor's contract -/
def xCi (l : Launch) (b : Nat) (D : va_G) (cy : Nat → ClassId) (y : MethodName) (code : ByteArray) (maxL : Nat) (rm : Room) (as : List xV) (n : Nat) (M : xMm) (R : xRm) (Post : xPost) : Prop :=
  Met l y (xwords y code maxL none) rm (va_Pc (as.map (cv b)) (fun U => xWd D cy b n M R U.heap ∧ xK D cy U ∧ xAO cy U)) (xQc b D cy Post) rm.cells rm.slots (fun q => b < q)
theorem x_metI {l : Launch} {b : Nat} {D : va_G} {cy : Nat → ClassId} {y : MethodName} {code : ByteArray} {maxL : Nat} {rm : Room} {as : List xV} {n : Nat} {M : xMm} {R : xRm} {Post : xPost} (hy : plainName y.cls = true) (hsl : (lg_sl (as.map (cv b))).length ≤ maxL)
    (body : ∀ g : xGT, xG g code y.cls rm maxL → xRet g none Post rm.cells rm.slots y.name → xE g l b D cy → xGa g → xW g n M R 0 0 0 (xargs 0 as) []) : xCi l b D cy y code maxL rm as n M R Post := by
  refine Met.ofW (cc := code) (maxL := maxL) (ret := none) hy rfl ?_
  intro p e s m args below meth c s₁ B hml hv
  obtain ⟨rfl, hW, hK, hao⟩ := hv
  have hts := atoms_spec (ws := xwords y code maxL none) B.pre
  have hown : s.vm.findClass y.cls = some m.cls := findClass_of_methodNamed B.named
  have h := body (p, l, e, rm, s, m, (as.map (cv b)).toArray, below, meth, c, b, D, cy, MQ below (xQc b D cy Post) (as.map (cv b)).toArray s rm.cells rm.slots (fun q => b < q))
    ⟨B.exec, B.bytes, hown, fun w hw hg => hts w (List.mem_cons_of_mem _ (List.mem_filter.mpr ⟨hw, hg⟩)), hK, B.notSynchronized, by have := hW.1; omega, rfl, hml⟩ ⟨B.returns, rfl, (name_of_methodNamed B.named B.method).1⟩ ⟨rfl, rfl, rfl, rfl⟩ hao
  have hl := lv_entry (as.map (cv b)) (n := maxL) hsl
  rw [← xargs_ok b 0 as] at hl
  rw [lg_entry_eq]
  rw [← hml] at hl
  exact h s.heap [] _ hW va_S.rf (by rw [← hml]; exact hl)
theorem xblindI {b n : Nat} {D : va_G} {cy : Nat → ClassId} {as : List xV} {M : xMm} {R : xRm} : FrameBlind (va_Pc (as.map (cv b)) (fun U => xWd D cy b n M R U.heap ∧ xK D cy U ∧ xAO cy U)) := fun a U g mk q => by
  obtain ⟨q0, q1, q2, q3⟩ := q
  exact ⟨q0, q1, xK_same q2 rfl, xAO_same q3 rfl⟩
/-- what a call of a constructor stands on -/
def xMI (own : String) (idx : Nat) (y : MethodName) (code : ByteArray) (maxL : Nat) (na : Nat) : Prop :=
  (Cond.methodLink own idx y ∈ lw_tbl ∨ ∃ host, Cond.methodLinkNest own idx y host ∈ lw_tbl) ∧ Cond.instanceMethod y ∈ lw_tbl ∧ Cond.initialized y.cls ∈ lw_tbl ∧ Cond.code y code maxL none ∈ lw_tbl ∧ goodWord (Cond.code y code maxL none) = true ∧ y.name = "<init>" ∧ (y.cls ≠ "java/lang/invoke/MethodHandle" ∧ y.cls ≠ "java/lang/invoke/VarHandle" ∧ (parseMethodDescriptor y.desc).map (fun d => d.parameters.length) = some na)
/-- a final field of the class itself -/
def xFf (own : String) (idx ci f : Nat) (ty : FieldType) : Prop := ∃ q : vw_C, vwCl[ci]? = some q ∧ f < q.2.2 ∧ (q.2.1 f).1 = q.1 ∧ q.1 = own ∧ (q.2.1 f).2.2.2 = true ∧ parseFieldDescriptor (q.2.1 f).2.2.1 = some ty ∧ ty.isReference = true ∧ Cond.fieldLink own idx q.1 (q.2.1 f).2.1 (q.2.1 f).2.2.1 ∈ lw_tbl
/-- what a new object of a class stands on -/
def xNw (own : String) (idx ci N : Nat) : Prop := ∃ q : vw_C, vwCl[ci]? = some q ∧ q.2.2 = N ∧ Cond.classLink own idx q.1 ∈ lw_tbl ∧ Cond.instantiable q.1 q.2.2 ∈ lw_tbl ∧ Cond.initialized q.1 ∈ lw_tbl
abbrev xPc (n : Nat) (R : xRm) (Q : xMm → Prop) : xPost := fun v n' M' R' => v = none ∧ n' = n ∧ R' = R ∧ Q M'
section XN
variable {g : xGT} {cc : ByteArray} {own : String} {rm : Room} {nL : Nat} {n : Nat} {M : xMm} {R : xRm} {k w pc : Nat} {ls ls' : List (Nat × xV)} {st : List xV}
theorem x_wide {k2 w2 : Nat} (h1 : k ≤ k2) (h2 : w ≤ w2) (t : xW g n M R k2 w2 pc ls st) : xW g n M R k w pc ls st := by
  obtain ⟨p, l, e, Rm, s, m, args, below, meth, c, b, D, cy, Q⟩ := g
  intro H locs lsA hW hS hv
  exact W.widen h1 h2 (t H locs lsA hW hS hv)
theorem x_sameR {R' : xRm} (h : sameR n R R') (t : xW g n M R' k w pc ls st) : xW g n M R k w pc ls st := by
  obtain ⟨p, l, e, Rm, s, m, args, below, meth, c, b, D, cy, Q⟩ := g
  intro H locs lsA hW hS hv
  exact t H locs lsA (xWd_same h hW) hS hv
set_option maxHeartbeats 1000000 in
theorem x_new (hg : xG g cc own rm nL) {idx ci N : Nat} (d : decode cc pc = .ok (.new idx, 3)) (hN : xNw own idx ci N) (hl : lay (n + 1) = .inl ci) (hM : ∀ f, M (n + 1) f = 0) (hR : ∀ f, R (n + 1) f = 0) (hk : k + 1 ≤ rm.cells) (hw : w + N ≤ rm.slots) (t : xW g (n + 1) M R (k + 1) (w + N) (pc + 3) ls (xr (n + 1) :: st)) : xW g n M R k w pc ls st := by
  obtain ⟨p, l, e, Rm, s, m, args, below, meth, c, b, D, cy, Q⟩ := g
  obtain ⟨hx, hb, hown, hts, hK, hlk, hbs, hrm, hml⟩ := hg
  intro H locs lsA hW hS hv
  subst hrm
  obtain ⟨⟨C, T, N'⟩, hc, hN2, w1, w2, w3⟩ := hN
  subst hN2
  have hts2 : ∀ v ∈ lw_tbl.filter goodWord, v.before args s = true := fun v hv => hts v (List.mem_filter.mp hv).1 (List.mem_filter.mp hv).2
  obtain ⟨hin, ty0, hty, hnm⟩ := xcl hc
  have hin2 : ∀ v ∈ u_ws C T N', v ∈ lw_tbl.filter goodWord := fun v hv => List.mem_filter.mpr (hin v hv)
  have hKn := hK.1.1 ci _ hc
  have hsz : H.size = b + (n + 1) := by rw [hW.1]; omega
  refine W.newcK hx hb hown (hts _ w1 rfl) (hts _ w2 rfl) (hts _ w3 rfl) rfl d hk hw hKn.2.1 hsz fun H1 kC hkC e1 z1 o1 => ?_
  have o2 : ∀ q, q < H.size → H1[q]? = H[q]? := fun q hq => o1 q (by rw [← hsz]; exact hq)
  refine t H1 locs lsA (xWd_push hW (by rw [z1, hsz]) o2 ?_) (xS_push hS (by rw [z1, hsz]) o2) hv
  simp only [xcell, hl]
  refine ⟨_, hc, (u_born ty0 hts2 hin2 hKn hkC e1 hty).to (fun j hj => ?_)⟩
  obtain ⟨t9, ht9, hx9, hd9⟩ := xdk_at hc hj
  rw [hty j hj] at hd9
  show defaultValue (ty0 j) = ((xfs b M R (n + 1) (xfk ci)).getD j .null)
  rw [List.getD_eq_getElem?_getD, xfs_at hx9, xdk_ok (ty0 j) (Option.some.inj hd9) ht9]
  simp only [Option.getD_some, xfv, hM, hR, xrf, if_true, va_rf]
  rfl
set_option maxHeartbeats 1000000 in
theorem x_newa0 (hg : xG g cc own rm nL) {len : Nat} {z : Int} (d : decode cc pc = .ok (.newarray .int, 2)) (hl : lay (n + 1) = .inr (0, len)) (hz : z = (len : Int)) (hlen : len ≤ 2000) (hM : ∀ j, M (n + 1) j = 0) (hk : k + 1 ≤ rm.cells) (hw : w + len ≤ rm.slots) (t : xW g (n + 1) M R (k + 1) (w + len) (pc + 2) ls (xr (n + 1) :: st)) : xW g n M R k w pc ls (xi z :: st) := by
  obtain ⟨p, l, e, Rm, s, m, args, below, meth, c, b, D, cy, Q⟩ := g
  obtain ⟨hx, hb, hown, hts, hK, hlk, hbs, hrm, hml⟩ := hg
  intro H locs lsA hW hS hv
  subst hrm
  subst hz
  have hsz : H.size = b + (n + 1) := by rw [hW.1]; omega
  refine va_newaK (atype := .int) (n := Int32.ofInt (len : Int)) (N := len) hx hb (hts _ (List.mem_of_getElem? (i := 108) (by decide +kernel)) rfl) rfl d rfl ?_ ?_ (Nat.le_trans (Nat.mul_le_mul hlen (show componentBytes (newarray.typeOf .int) ≤ 8 by decide)) (by decide)) hk hw hsz (fun H1 cA e1 z1 o1 hAr hNm => ?_)
  · rw [oi_nat (by omega) (by omega)]
    exact nI_pos (by omega)
  · rw [oi_cl (by omega) (by omega)]
    exact Int.toNat_natCast len
  · have hcy : cA = cy 0 := Option.some.inj (hNm.symm.trans (hK.1.2 0 _ rfl).2)
    subst hcy
    have o2 : ∀ q, q < H.size → H1[q]? = H[q]? := fun q hq => o1 q (by rw [← hsz]; exact hq)
    refine t H1 locs lsA (xWd_push hW (by rw [z1, hsz]) o2 ?_) (xS_push hS (by rw [z1, hsz]) o2) hv
    simp only [xcell, hl]
    show H1[b + (n + 1)]? = some (arrV (cy 0) len (fun j => .int (Int32.ofInt (M (n + 1) j))))
    rw [e1]
    exact congrArg some (arrV_congr (fun j _ => by rw [hM]; rfl))
set_option maxHeartbeats 1000000 in
theorem x_newa1 (hg : xG g cc own rm nL) {len : Nat} {z : Int} (d : decode cc pc = .ok (.newarray .byte, 2)) (hl : lay (n + 1) = .inr (1, len)) (hz : z = (len : Int)) (hlen : len ≤ 2000) (hM : ∀ j, M (n + 1) j = 0) (hk : k + 1 ≤ rm.cells) (hw : w + len ≤ rm.slots) (t : xW g (n + 1) M R (k + 1) (w + len) (pc + 2) ls (xr (n + 1) :: st)) : xW g n M R k w pc ls (xi z :: st) := by
  obtain ⟨p, l, e, Rm, s, m, args, below, meth, c, b, D, cy, Q⟩ := g
  obtain ⟨hx, hb, hown, hts, hK, hlk, hbs, hrm, hml⟩ := hg
  intro H locs lsA hW hS hv
  subst hrm
  subst hz
  have hsz : H.size = b + (n + 1) := by rw [hW.1]; omega
  refine va_newaK (atype := .byte) (n := Int32.ofInt (len : Int)) (N := len) hx hb (hts _ (List.mem_of_getElem? (i := 1079) (by decide +kernel)) rfl) rfl d rfl ?_ ?_ (Nat.le_trans (Nat.mul_le_mul hlen (show componentBytes (newarray.typeOf .byte) ≤ 8 by decide)) (by decide)) hk hw hsz (fun H1 cA e1 z1 o1 hAr hNm => ?_)
  · rw [oi_nat (by omega) (by omega)]
    exact nI_pos (by omega)
  · rw [oi_cl (by omega) (by omega)]
    exact Int.toNat_natCast len
  · have hcy : cA = cy 1 := Option.some.inj (hNm.symm.trans (hK.1.2 1 _ rfl).2)
    subst hcy
    have o2 : ∀ q, q < H.size → H1[q]? = H[q]? := fun q hq => o1 q (by rw [← hsz]; exact hq)
    refine t H1 locs lsA (xWd_push hW (by rw [z1, hsz]) o2 ?_) (xS_push hS (by rw [z1, hsz]) o2) hv
    simp only [xcell, hl]
    show H1[b + (n + 1)]? = some (arrV (cy 1) len (fun j => .int (Int32.ofInt (M (n + 1) j))))
    rw [e1]
    exact congrArg some (arrV_congr (fun j _ => by rw [hM]; rfl))
set_option maxHeartbeats 1000000 in
theorem x_newa2 (hg : xG g cc own rm nL) {len : Nat} {z : Int} (d : decode cc pc = .ok (.newarray .boolean, 2)) (hl : lay (n + 1) = .inr (2, len)) (hz : z = (len : Int)) (hlen : len ≤ 2000) (hM : ∀ j, M (n + 1) j = 0) (hk : k + 1 ≤ rm.cells) (hw : w + len ≤ rm.slots) (t : xW g (n + 1) M R (k + 1) (w + len) (pc + 2) ls (xr (n + 1) :: st)) : xW g n M R k w pc ls (xi z :: st) := by
  obtain ⟨p, l, e, Rm, s, m, args, below, meth, c, b, D, cy, Q⟩ := g
  obtain ⟨hx, hb, hown, hts, hK, hlk, hbs, hrm, hml⟩ := hg
  intro H locs lsA hW hS hv
  subst hrm
  subst hz
  have hsz : H.size = b + (n + 1) := by rw [hW.1]; omega
  refine va_newaK (atype := .boolean) (n := Int32.ofInt (len : Int)) (N := len) hx hb (hts _ (List.mem_of_getElem? (i := 235) (by decide +kernel)) rfl) rfl d rfl ?_ ?_ (Nat.le_trans (Nat.mul_le_mul hlen (show componentBytes (newarray.typeOf .boolean) ≤ 8 by decide)) (by decide)) hk hw hsz (fun H1 cA e1 z1 o1 hAr hNm => ?_)
  · rw [oi_nat (by omega) (by omega)]
    exact nI_pos (by omega)
  · rw [oi_cl (by omega) (by omega)]
    exact Int.toNat_natCast len
  · have hcy : cA = cy 2 := Option.some.inj (hNm.symm.trans (hK.1.2 2 _ rfl).2)
    subst hcy
    have o2 : ∀ q, q < H.size → H1[q]? = H[q]? := fun q hq => o1 q (by rw [← hsz]; exact hq)
    refine t H1 locs lsA (xWd_push hW (by rw [z1, hsz]) o2 ?_) (xS_push hS (by rw [z1, hsz]) o2) hv
    simp only [xcell, hl]
    show H1[b + (n + 1)]? = some (arrV (cy 2) len (fun j => .int (Int32.ofInt (M (n + 1) j))))
    rw [e1]
    exact congrArg some (arrV_congr (fun j _ => by rw [hM]; rfl))
set_option maxHeartbeats 1000000 in
theorem x_newa3 (hg : xG g cc own rm nL) {len : Nat} {z : Int} (d : decode cc pc = .ok (.newarray .long, 2)) (hl : lay (n + 1) = .inr (3, len)) (hz : z = (len : Int)) (hlen : len ≤ 2000) (hM : ∀ j, M (n + 1) j = 0) (hk : k + 1 ≤ rm.cells) (hw : w + len ≤ rm.slots) (t : xW g (n + 1) M R (k + 1) (w + len) (pc + 2) ls (xr (n + 1) :: st)) : xW g n M R k w pc ls (xi z :: st) := by
  obtain ⟨p, l, e, Rm, s, m, args, below, meth, c, b, D, cy, Q⟩ := g
  obtain ⟨hx, hb, hown, hts, hK, hlk, hbs, hrm, hml⟩ := hg
  intro H locs lsA hW hS hv
  subst hrm
  subst hz
  have hsz : H.size = b + (n + 1) := by rw [hW.1]; omega
  refine va_newaK (atype := .long) (n := Int32.ofInt (len : Int)) (N := len) hx hb (hts _ (List.mem_of_getElem? (i := 311) (by decide +kernel)) rfl) rfl d rfl ?_ ?_ (Nat.le_trans (Nat.mul_le_mul hlen (show componentBytes (newarray.typeOf .long) ≤ 8 by decide)) (by decide)) hk hw hsz (fun H1 cA e1 z1 o1 hAr hNm => ?_)
  · rw [oi_nat (by omega) (by omega)]
    exact nI_pos (by omega)
  · rw [oi_cl (by omega) (by omega)]
    exact Int.toNat_natCast len
  · have hcy : cA = cy 3 := Option.some.inj (hNm.symm.trans (hK.1.2 3 _ rfl).2)
    subst hcy
    have o2 : ∀ q, q < H.size → H1[q]? = H[q]? := fun q hq => o1 q (by rw [← hsz]; exact hq)
    refine t H1 locs lsA (xWd_push hW (by rw [z1, hsz]) o2 ?_) (xS_push hS (by rw [z1, hsz]) o2) hv
    simp only [xcell, hl]
    show H1[b + (n + 1)]? = some (arrV (cy 3) len (fun j => .long (Int64.ofInt (M (n + 1) j))))
    rw [e1]
    exact congrArg some (arrV_congr (fun j _ => by rw [hM]; rfl))

set_option maxHeartbeats 1000000 in
theorem x_anew4 (hg : xG g cc own rm nL) (ha : xGa g) {idx len : Nat} {z : Int} (d : decode cc pc = .ok (.anewarray idx, 3)) (w1 : Cond.classLink own idx "MilkTrain$Train" ∈ lw_tbl) (hl : lay (n + 1) = .inr (4, len)) (hz : z = (len : Int)) (hlen : len ≤ 2000) (hR : ∀ j, R (n + 1) j = 0) (hk : k + 1 ≤ rm.cells) (hw : w + len ≤ rm.slots) (t : xW g (n + 1) M R (k + 1) (w + len) (pc + 3) ls (xr (n + 1) :: st)) : xW g n M R k w pc ls (xi z :: st) := by
  obtain ⟨p, l, e, Rm, s, m, args, below, meth, c, b, D, cy, Q⟩ := g
  obtain ⟨hx, hb, hown, hts, hK, hlk, hbs, hrm, hml⟩ := hg
  intro H locs lsA hW hS hv
  subst hrm
  subst hz
  have hao : xAO cy s := ha
  have hsz : H.size = b + (n + 1) := by rw [hW.1]; omega
  have hcl : (Int32.ofInt (len : Int)).toNatClampNeg = len := by rw [oi_cl (by omega) (by omega)]; exact Int.toNat_natCast len
  refine W.anew (n := Int32.ofInt (len : Int)) hx hb hown (hts _ w1 rfl) (va_AO.use hao.1.1) rfl d rfl (by rw [oi_nat (by omega) (by omega)]; exact nI_pos (by omega)) (by rw [hcl]; omega) hk (by rw [hcl]; exact hw) fun cA kA comp f1 f2 f3 f4 => ?_
  have hcy : cA = cy 4 := by
    obtain ⟨kA2, comp2, g1, g2, g3, g4⟩ := (hK.1.2 4 _ rfl).2
    exact Option.some.inj (f1.symm.trans g4)
  subst hcy
  rw [hcl]
  generalize hH1 : H.push ({ cls := cy 4, slots := Array.replicate len .null, vm := .none } : Cell) = H1
  have z1 : H1.size = H.size + 1 := by rw [← hH1, Array.size_push]
  have e1 : H1[H.size]? = some (arrV (cy 4) len (fun _ => .null)) := by rw [← hH1, Array.getElem?_push_size, ← arrV_new]
  have o1 : ∀ q : Nat, q < H.size → H1[q]? = H[q]? := fun q hq => by rw [← hH1, Array.getElem?_push, if_neg (Nat.ne_of_lt hq)]
  rw [hsz] at e1 ⊢
  refine t H1 locs lsA (xWd_push hW z1 o1 ?_) (xS_push hS z1 o1) hv
  simp only [xcell, hl]
  show H1[b + (n + 1)]? = some (arrV (cy 4) len (fun j => va_rf (xrf b (R (n + 1) j))))
  rw [e1]
  exact congrArg some (arrV_congr (fun j _ => by simp only [hR, xrf, if_true, va_rf]))
set_option maxHeartbeats 1000000 in
theorem x_anew5 (hg : xG g cc own rm nL) (ha : xGa g) {idx len : Nat} {z : Int} (d : decode cc pc = .ok (.anewarray idx, 3)) (w1 : Cond.classLink own idx "MilkTrain$Churn" ∈ lw_tbl) (hl : lay (n + 1) = .inr (5, len)) (hz : z = (len : Int)) (hlen : len ≤ 2000) (hR : ∀ j, R (n + 1) j = 0) (hk : k + 1 ≤ rm.cells) (hw : w + len ≤ rm.slots) (t : xW g (n + 1) M R (k + 1) (w + len) (pc + 3) ls (xr (n + 1) :: st)) : xW g n M R k w pc ls (xi z :: st) := by
  obtain ⟨p, l, e, Rm, s, m, args, below, meth, c, b, D, cy, Q⟩ := g
  obtain ⟨hx, hb, hown, hts, hK, hlk, hbs, hrm, hml⟩ := hg
  intro H locs lsA hW hS hv
  subst hrm
  subst hz
  have hao : xAO cy s := ha
  have hsz : H.size = b + (n + 1) := by rw [hW.1]; omega
  have hcl : (Int32.ofInt (len : Int)).toNatClampNeg = len := by rw [oi_cl (by omega) (by omega)]; exact Int.toNat_natCast len
  refine W.anew (n := Int32.ofInt (len : Int)) hx hb hown (hts _ w1 rfl) (va_AO.use hao.1.2.1) rfl d rfl (by rw [oi_nat (by omega) (by omega)]; exact nI_pos (by omega)) (by rw [hcl]; omega) hk (by rw [hcl]; exact hw) fun cA kA comp f1 f2 f3 f4 => ?_
  have hcy : cA = cy 5 := by
    obtain ⟨kA2, comp2, g1, g2, g3, g4⟩ := (hK.1.2 5 _ rfl).2
    exact Option.some.inj (f1.symm.trans g4)
  subst hcy
  rw [hcl]
  generalize hH1 : H.push ({ cls := cy 5, slots := Array.replicate len .null, vm := .none } : Cell) = H1
  have z1 : H1.size = H.size + 1 := by rw [← hH1, Array.size_push]
  have e1 : H1[H.size]? = some (arrV (cy 5) len (fun _ => .null)) := by rw [← hH1, Array.getElem?_push_size, ← arrV_new]
  have o1 : ∀ q : Nat, q < H.size → H1[q]? = H[q]? := fun q hq => by rw [← hH1, Array.getElem?_push, if_neg (Nat.ne_of_lt hq)]
  rw [hsz] at e1 ⊢
  refine t H1 locs lsA (xWd_push hW z1 o1 ?_) (xS_push hS z1 o1) hv
  simp only [xcell, hl]
  show H1[b + (n + 1)]? = some (arrV (cy 5) len (fun j => va_rf (xrf b (R (n + 1) j))))
  rw [e1]
  exact congrArg some (arrV_congr (fun j _ => by simp only [hR, xrf, if_true, va_rf]))
set_option maxHeartbeats 1000000 in
theorem x_anew6 (hg : xG g cc own rm nL) (ha : xGa g) {idx len : Nat} {z : Int} (d : decode cc pc = .ok (.anewarray idx, 3)) (w1 : Cond.classLink own idx "MilkTrain$Tank" ∈ lw_tbl) (hl : lay (n + 1) = .inr (6, len)) (hz : z = (len : Int)) (hlen : len ≤ 2000) (hR : ∀ j, R (n + 1) j = 0) (hk : k + 1 ≤ rm.cells) (hw : w + len ≤ rm.slots) (t : xW g (n + 1) M R (k + 1) (w + len) (pc + 3) ls (xr (n + 1) :: st)) : xW g n M R k w pc ls (xi z :: st) := by
  obtain ⟨p, l, e, Rm, s, m, args, below, meth, c, b, D, cy, Q⟩ := g
  obtain ⟨hx, hb, hown, hts, hK, hlk, hbs, hrm, hml⟩ := hg
  intro H locs lsA hW hS hv
  subst hrm
  subst hz
  have hao : xAO cy s := ha
  have hsz : H.size = b + (n + 1) := by rw [hW.1]; omega
  have hcl : (Int32.ofInt (len : Int)).toNatClampNeg = len := by rw [oi_cl (by omega) (by omega)]; exact Int.toNat_natCast len
  refine W.anew (n := Int32.ofInt (len : Int)) hx hb hown (hts _ w1 rfl) (va_AO.use hao.1.2.2.1) rfl d rfl (by rw [oi_nat (by omega) (by omega)]; exact nI_pos (by omega)) (by rw [hcl]; omega) hk (by rw [hcl]; exact hw) fun cA kA comp f1 f2 f3 f4 => ?_
  have hcy : cA = cy 6 := by
    obtain ⟨kA2, comp2, g1, g2, g3, g4⟩ := (hK.1.2 6 _ rfl).2
    exact Option.some.inj (f1.symm.trans g4)
  subst hcy
  rw [hcl]
  generalize hH1 : H.push ({ cls := cy 6, slots := Array.replicate len .null, vm := .none } : Cell) = H1
  have z1 : H1.size = H.size + 1 := by rw [← hH1, Array.size_push]
  have e1 : H1[H.size]? = some (arrV (cy 6) len (fun _ => .null)) := by rw [← hH1, Array.getElem?_push_size, ← arrV_new]
  have o1 : ∀ q : Nat, q < H.size → H1[q]? = H[q]? := fun q hq => by rw [← hH1, Array.getElem?_push, if_neg (Nat.ne_of_lt hq)]
  rw [hsz] at e1 ⊢
  refine t H1 locs lsA (xWd_push hW z1 o1 ?_) (xS_push hS z1 o1) hv
  simp only [xcell, hl]
  show H1[b + (n + 1)]? = some (arrV (cy 6) len (fun j => va_rf (xrf b (R (n + 1) j))))
  rw [e1]
  exact congrArg some (arrV_congr (fun j _ => by simp only [hR, xrf, if_true, va_rf]))
set_option maxHeartbeats 1000000 in
theorem x_anew7 (hg : xG g cc own rm nL) (ha : xGa g) {idx len : Nat} {z : Int} (d : decode cc pc = .ok (.anewarray idx, 3)) (w1 : Cond.classLink own idx "MilkTrain$Bottling" ∈ lw_tbl) (hl : lay (n + 1) = .inr (7, len)) (hz : z = (len : Int)) (hlen : len ≤ 2000) (hR : ∀ j, R (n + 1) j = 0) (hk : k + 1 ≤ rm.cells) (hw : w + len ≤ rm.slots) (t : xW g (n + 1) M R (k + 1) (w + len) (pc + 3) ls (xr (n + 1) :: st)) : xW g n M R k w pc ls (xi z :: st) := by
  obtain ⟨p, l, e, Rm, s, m, args, below, meth, c, b, D, cy, Q⟩ := g
  obtain ⟨hx, hb, hown, hts, hK, hlk, hbs, hrm, hml⟩ := hg
  intro H locs lsA hW hS hv
  subst hrm
  subst hz
  have hao : xAO cy s := ha
  have hsz : H.size = b + (n + 1) := by rw [hW.1]; omega
  have hcl : (Int32.ofInt (len : Int)).toNatClampNeg = len := by rw [oi_cl (by omega) (by omega)]; exact Int.toNat_natCast len
  refine W.anew (n := Int32.ofInt (len : Int)) hx hb hown (hts _ w1 rfl) (va_AO.use hao.1.2.2.2.1) rfl d rfl (by rw [oi_nat (by omega) (by omega)]; exact nI_pos (by omega)) (by rw [hcl]; omega) hk (by rw [hcl]; exact hw) fun cA kA comp f1 f2 f3 f4 => ?_
  have hcy : cA = cy 7 := by
    obtain ⟨kA2, comp2, g1, g2, g3, g4⟩ := (hK.1.2 7 _ rfl).2
    exact Option.some.inj (f1.symm.trans g4)
  subst hcy
  rw [hcl]
  generalize hH1 : H.push ({ cls := cy 7, slots := Array.replicate len .null, vm := .none } : Cell) = H1
  have z1 : H1.size = H.size + 1 := by rw [← hH1, Array.size_push]
  have e1 : H1[H.size]? = some (arrV (cy 7) len (fun _ => .null)) := by rw [← hH1, Array.getElem?_push_size, ← arrV_new]
  have o1 : ∀ q : Nat, q < H.size → H1[q]? = H[q]? := fun q hq => by rw [← hH1, Array.getElem?_push, if_neg (Nat.ne_of_lt hq)]
  rw [hsz] at e1 ⊢
  refine t H1 locs lsA (xWd_push hW z1 o1 ?_) (xS_push hS z1 o1) hv
  simp only [xcell, hl]
  show H1[b + (n + 1)]? = some (arrV (cy 7) len (fun j => va_rf (xrf b (R (n + 1) j))))
  rw [e1]
  exact congrArg some (arrV_congr (fun j _ => by simp only [hR, xrf, if_true, va_rf]))
set_option maxHeartbeats 1000000 in
theorem x_anew8 (hg : xG g cc own rm nL) (ha : xGa g) {idx len : Nat} {z : Int} (d : decode cc pc = .ok (.anewarray idx, 3)) (w1 : Cond.classLink own idx "MilkTrain$Find" ∈ lw_tbl) (hl : lay (n + 1) = .inr (8, len)) (hz : z = (len : Int)) (hlen : len ≤ 2000) (hR : ∀ j, R (n + 1) j = 0) (hk : k + 1 ≤ rm.cells) (hw : w + len ≤ rm.slots) (t : xW g (n + 1) M R (k + 1) (w + len) (pc + 3) ls (xr (n + 1) :: st)) : xW g n M R k w pc ls (xi z :: st) := by
  obtain ⟨p, l, e, Rm, s, m, args, below, meth, c, b, D, cy, Q⟩ := g
  obtain ⟨hx, hb, hown, hts, hK, hlk, hbs, hrm, hml⟩ := hg
  intro H locs lsA hW hS hv
  subst hrm
  subst hz
  have hao : xAO cy s := ha
  have hsz : H.size = b + (n + 1) := by rw [hW.1]; omega
  have hcl : (Int32.ofInt (len : Int)).toNatClampNeg = len := by rw [oi_cl (by omega) (by omega)]; exact Int.toNat_natCast len
  refine W.anew (n := Int32.ofInt (len : Int)) hx hb hown (hts _ w1 rfl) (va_AO.use hao.1.2.2.2.2) rfl d rfl (by rw [oi_nat (by omega) (by omega)]; exact nI_pos (by omega)) (by rw [hcl]; omega) hk (by rw [hcl]; exact hw) fun cA kA comp f1 f2 f3 f4 => ?_
  have hcy : cA = cy 8 := by
    obtain ⟨kA2, comp2, g1, g2, g3, g4⟩ := (hK.1.2 8 _ rfl).2
    exact Option.some.inj (f1.symm.trans g4)
  subst hcy
  rw [hcl]
  generalize hH1 : H.push ({ cls := cy 8, slots := Array.replicate len .null, vm := .none } : Cell) = H1
  have z1 : H1.size = H.size + 1 := by rw [← hH1, Array.size_push]
  have e1 : H1[H.size]? = some (arrV (cy 8) len (fun _ => .null)) := by rw [← hH1, Array.getElem?_push_size, ← arrV_new]
  have o1 : ∀ q : Nat, q < H.size → H1[q]? = H[q]? := fun q hq => by rw [← hH1, Array.getElem?_push, if_neg (Nat.ne_of_lt hq)]
  rw [hsz] at e1 ⊢
  refine t H1 locs lsA (xWd_push hW z1 o1 ?_) (xS_push hS z1 o1) hv
  simp only [xcell, hl]
  show H1[b + (n + 1)]? = some (arrV (cy 8) len (fun j => va_rf (xrf b (R (n + 1) j))))
  rw [e1]
  exact congrArg some (arrV_congr (fun j _ => by simp only [hR, xrf, if_true, va_rf]))

set_option maxHeartbeats 1000000 in
theorem x_aastore4 (hg : xG g cc own rm nL) {i len v : Nat} {j : Int} (d : decode cc pc = .ok (.aastore, 1)) (ho : xA n i 4 len) (hj : 0 ≤ j ∧ j < len) (hv0 : xO n v 9) (t : xW g n M (ru R i j.toNat v) k w (pc + 1) ls st) : xW g n M R k w pc ls (xr v :: xi j :: xr i :: st) := by
  obtain ⟨p, l, e, Rm, s, m, args, below, meth, c, b, D, cy, Q⟩ := g
  obtain ⟨hx, hb, hown, hts, hK, hlk, hbs, hrm, hml⟩ := hg
  intro H locs lsA hW hS hv
  obtain ⟨h1, h2, hl, hlen⟩ := ho
  have hcl : (Int32.ofInt j).toNatClampNeg = j.toNat := oi_cl hj.1 (by omega)
  have hix : vp_in (Int32.ofInt j) len := oi_in hj.1 hj.2 hlen
  obtain ⟨v1, v2, vl⟩ := hv0
  have hev := xWd_obj (D := D) (cy := cy) (b := b) (M := M) (R := R) v1 v2 vl
  have he : (xws cy b n M R)[i - 1]? = some (b + i, .inl (cy 4, len, .inr (.inr (.inr (.inr (fun c => xrf b (R i c))))))) := xWd_arr (D := D) h1 h2 hl
  obtain ⟨r', hr', cellV, g1, g2, g3, -⟩ := hW.2 (v - 1) _ hev
  have hcls := (hK.1.1 9 _ rfl).2
  obtain ⟨kA, comp, k1, k2, k3, -⟩ := (hK.1.2 4 _ rfl).2
  have hcomp : comp = D.1 9 := Option.some.inj (k3.symm.trans hcls.1)
  subst hcomp
  obtain ⟨kC, hkC, -⟩ := hcls.2
  refine W.aast hx hb (hW.2 (i - 1) _ he) (fun q h => by cases h) (fun h => by cases h) k1 k2 rfl hkC ⟨fun q => hix (Or.inl q), by show _ < (arrV _ _ _).slots.size; rw [arrV_size]; exact Nat.not_le.mp fun q => hix (Or.inr q)⟩ g1 (fun q h => by rw [g3] at h; cases h) (by rw [g2]; exact hkC) (by rw [g2]; exact va_assign hcls) rfl rfl d fun H1 e1 e2 e3 => ?_
  refine t H1 _ lsA (xWd_set (e := .inl (cy 4, len, .inr (.inr (.inr (.inr (fun c => xrf b (ru R i j.toNat v i c))))))) hW h1 h2 (by simp only [xcell, hl]; rfl) ?_ e2 e3 (fun a ha => xcell_congr (fun c => rfl) (fun c => ru_n (fun q => ha q.1)))) (hS.put e2 e3 (show b < b + i by omega)) hv
  have e1' : H1[b + i]? = some ((arrV (cy 4) len (fun c => va_rf (xrf b (R i c)))).setSlot (Int32.ofInt j).toNatClampNeg (.ref (b + v))) := e1
  show H1[b + i]? = some (arrV (cy 4) len (fun c => va_rf (xrf b (ru R i j.toNat v i c))))
  rw [e1', hcl, arrV_store]
  refine congrArg some (arrV_congr (fun q _ => ?_))
  by_cases hq : q = j.toNat
  · subst hq
    have hv9 : v ≠ 0 := by omega
    simp [updV, ru_s, xrf, va_rf, hv9]
  · simp [updV, hq, ru_n (show ¬ (i = i ∧ q = j.toNat) from fun z => hq z.2)]
set_option maxHeartbeats 1000000 in
theorem x_aastore5 (hg : xG g cc own rm nL) {i len v : Nat} {j : Int} (d : decode cc pc = .ok (.aastore, 1)) (ho : xA n i 5 len) (hj : 0 ≤ j ∧ j < len) (hv0 : xO n v 1) (t : xW g n M (ru R i j.toNat v) k w (pc + 1) ls st) : xW g n M R k w pc ls (xr v :: xi j :: xr i :: st) := by
  obtain ⟨p, l, e, Rm, s, m, args, below, meth, c, b, D, cy, Q⟩ := g
  obtain ⟨hx, hb, hown, hts, hK, hlk, hbs, hrm, hml⟩ := hg
  intro H locs lsA hW hS hv
  obtain ⟨h1, h2, hl, hlen⟩ := ho
  have hcl : (Int32.ofInt j).toNatClampNeg = j.toNat := oi_cl hj.1 (by omega)
  have hix : vp_in (Int32.ofInt j) len := oi_in hj.1 hj.2 hlen
  obtain ⟨v1, v2, vl⟩ := hv0
  have hev := xWd_obj (D := D) (cy := cy) (b := b) (M := M) (R := R) v1 v2 vl
  have he : (xws cy b n M R)[i - 1]? = some (b + i, .inl (cy 5, len, .inr (.inr (.inr (.inr (fun c => xrf b (R i c))))))) := xWd_arr (D := D) h1 h2 hl
  obtain ⟨r', hr', cellV, g1, g2, g3, -⟩ := hW.2 (v - 1) _ hev
  have hcls := (hK.1.1 1 _ rfl).2
  obtain ⟨kA, comp, k1, k2, k3, -⟩ := (hK.1.2 5 _ rfl).2
  have hcomp : comp = D.1 1 := Option.some.inj (k3.symm.trans hcls.1)
  subst hcomp
  obtain ⟨kC, hkC, -⟩ := hcls.2
  refine W.aast hx hb (hW.2 (i - 1) _ he) (fun q h => by cases h) (fun h => by cases h) k1 k2 rfl hkC ⟨fun q => hix (Or.inl q), by show _ < (arrV _ _ _).slots.size; rw [arrV_size]; exact Nat.not_le.mp fun q => hix (Or.inr q)⟩ g1 (fun q h => by rw [g3] at h; cases h) (by rw [g2]; exact hkC) (by rw [g2]; exact va_assign hcls) rfl rfl d fun H1 e1 e2 e3 => ?_
  refine t H1 _ lsA (xWd_set (e := .inl (cy 5, len, .inr (.inr (.inr (.inr (fun c => xrf b (ru R i j.toNat v i c))))))) hW h1 h2 (by simp only [xcell, hl]; rfl) ?_ e2 e3 (fun a ha => xcell_congr (fun c => rfl) (fun c => ru_n (fun q => ha q.1)))) (hS.put e2 e3 (show b < b + i by omega)) hv
  have e1' : H1[b + i]? = some ((arrV (cy 5) len (fun c => va_rf (xrf b (R i c)))).setSlot (Int32.ofInt j).toNatClampNeg (.ref (b + v))) := e1
  show H1[b + i]? = some (arrV (cy 5) len (fun c => va_rf (xrf b (ru R i j.toNat v i c))))
  rw [e1', hcl, arrV_store]
  refine congrArg some (arrV_congr (fun q _ => ?_))
  by_cases hq : q = j.toNat
  · subst hq
    have hv9 : v ≠ 0 := by omega
    simp [updV, ru_s, xrf, va_rf, hv9]
  · simp [updV, hq, ru_n (show ¬ (i = i ∧ q = j.toNat) from fun z => hq z.2)]
set_option maxHeartbeats 1000000 in
theorem x_aastore6 (hg : xG g cc own rm nL) {i len v : Nat} {j : Int} (d : decode cc pc = .ok (.aastore, 1)) (ho : xA n i 6 len) (hj : 0 ≤ j ∧ j < len) (hv0 : xO n v 6) (t : xW g n M (ru R i j.toNat v) k w (pc + 1) ls st) : xW g n M R k w pc ls (xr v :: xi j :: xr i :: st) := by
  obtain ⟨p, l, e, Rm, s, m, args, below, meth, c, b, D, cy, Q⟩ := g
  obtain ⟨hx, hb, hown, hts, hK, hlk, hbs, hrm, hml⟩ := hg
  intro H locs lsA hW hS hv
  obtain ⟨h1, h2, hl, hlen⟩ := ho
  have hcl : (Int32.ofInt j).toNatClampNeg = j.toNat := oi_cl hj.1 (by omega)
  have hix : vp_in (Int32.ofInt j) len := oi_in hj.1 hj.2 hlen
  obtain ⟨v1, v2, vl⟩ := hv0
  have hev := xWd_obj (D := D) (cy := cy) (b := b) (M := M) (R := R) v1 v2 vl
  have he : (xws cy b n M R)[i - 1]? = some (b + i, .inl (cy 6, len, .inr (.inr (.inr (.inr (fun c => xrf b (R i c))))))) := xWd_arr (D := D) h1 h2 hl
  obtain ⟨r', hr', cellV, g1, g2, g3, -⟩ := hW.2 (v - 1) _ hev
  have hcls := (hK.1.1 6 _ rfl).2
  obtain ⟨kA, comp, k1, k2, k3, -⟩ := (hK.1.2 6 _ rfl).2
  have hcomp : comp = D.1 6 := Option.some.inj (k3.symm.trans hcls.1)
  subst hcomp
  obtain ⟨kC, hkC, -⟩ := hcls.2
  refine W.aast hx hb (hW.2 (i - 1) _ he) (fun q h => by cases h) (fun h => by cases h) k1 k2 rfl hkC ⟨fun q => hix (Or.inl q), by show _ < (arrV _ _ _).slots.size; rw [arrV_size]; exact Nat.not_le.mp fun q => hix (Or.inr q)⟩ g1 (fun q h => by rw [g3] at h; cases h) (by rw [g2]; exact hkC) (by rw [g2]; exact va_assign hcls) rfl rfl d fun H1 e1 e2 e3 => ?_
  refine t H1 _ lsA (xWd_set (e := .inl (cy 6, len, .inr (.inr (.inr (.inr (fun c => xrf b (ru R i j.toNat v i c))))))) hW h1 h2 (by simp only [xcell, hl]; rfl) ?_ e2 e3 (fun a ha => xcell_congr (fun c => rfl) (fun c => ru_n (fun q => ha q.1)))) (hS.put e2 e3 (show b < b + i by omega)) hv
  have e1' : H1[b + i]? = some ((arrV (cy 6) len (fun c => va_rf (xrf b (R i c)))).setSlot (Int32.ofInt j).toNatClampNeg (.ref (b + v))) := e1
  show H1[b + i]? = some (arrV (cy 6) len (fun c => va_rf (xrf b (ru R i j.toNat v i c))))
  rw [e1', hcl, arrV_store]
  refine congrArg some (arrV_congr (fun q _ => ?_))
  by_cases hq : q = j.toNat
  · subst hq
    have hv9 : v ≠ 0 := by omega
    simp [updV, ru_s, xrf, va_rf, hv9]
  · simp [updV, hq, ru_n (show ¬ (i = i ∧ q = j.toNat) from fun z => hq z.2)]
set_option maxHeartbeats 1000000 in
theorem x_aastore7 (hg : xG g cc own rm nL) {i len v : Nat} {j : Int} (d : decode cc pc = .ok (.aastore, 1)) (ho : xA n i 7 len) (hj : 0 ≤ j ∧ j < len) (hv0 : xO n v 0) (t : xW g n M (ru R i j.toNat v) k w (pc + 1) ls st) : xW g n M R k w pc ls (xr v :: xi j :: xr i :: st) := by
  obtain ⟨p, l, e, Rm, s, m, args, below, meth, c, b, D, cy, Q⟩ := g
  obtain ⟨hx, hb, hown, hts, hK, hlk, hbs, hrm, hml⟩ := hg
  intro H locs lsA hW hS hv
  obtain ⟨h1, h2, hl, hlen⟩ := ho
  have hcl : (Int32.ofInt j).toNatClampNeg = j.toNat := oi_cl hj.1 (by omega)
  have hix : vp_in (Int32.ofInt j) len := oi_in hj.1 hj.2 hlen
  obtain ⟨v1, v2, vl⟩ := hv0
  have hev := xWd_obj (D := D) (cy := cy) (b := b) (M := M) (R := R) v1 v2 vl
  have he : (xws cy b n M R)[i - 1]? = some (b + i, .inl (cy 7, len, .inr (.inr (.inr (.inr (fun c => xrf b (R i c))))))) := xWd_arr (D := D) h1 h2 hl
  obtain ⟨r', hr', cellV, g1, g2, g3, -⟩ := hW.2 (v - 1) _ hev
  have hcls := (hK.1.1 0 _ rfl).2
  obtain ⟨kA, comp, k1, k2, k3, -⟩ := (hK.1.2 7 _ rfl).2
  have hcomp : comp = D.1 0 := Option.some.inj (k3.symm.trans hcls.1)
  subst hcomp
  obtain ⟨kC, hkC, -⟩ := hcls.2
  refine W.aast hx hb (hW.2 (i - 1) _ he) (fun q h => by cases h) (fun h => by cases h) k1 k2 rfl hkC ⟨fun q => hix (Or.inl q), by show _ < (arrV _ _ _).slots.size; rw [arrV_size]; exact Nat.not_le.mp fun q => hix (Or.inr q)⟩ g1 (fun q h => by rw [g3] at h; cases h) (by rw [g2]; exact hkC) (by rw [g2]; exact va_assign hcls) rfl rfl d fun H1 e1 e2 e3 => ?_
  refine t H1 _ lsA (xWd_set (e := .inl (cy 7, len, .inr (.inr (.inr (.inr (fun c => xrf b (ru R i j.toNat v i c))))))) hW h1 h2 (by simp only [xcell, hl]; rfl) ?_ e2 e3 (fun a ha => xcell_congr (fun c => rfl) (fun c => ru_n (fun q => ha q.1)))) (hS.put e2 e3 (show b < b + i by omega)) hv
  have e1' : H1[b + i]? = some ((arrV (cy 7) len (fun c => va_rf (xrf b (R i c)))).setSlot (Int32.ofInt j).toNatClampNeg (.ref (b + v))) := e1
  show H1[b + i]? = some (arrV (cy 7) len (fun c => va_rf (xrf b (ru R i j.toNat v i c))))
  rw [e1', hcl, arrV_store]
  refine congrArg some (arrV_congr (fun q _ => ?_))
  by_cases hq : q = j.toNat
  · subst hq
    have hv9 : v ≠ 0 := by omega
    simp [updV, ru_s, xrf, va_rf, hv9]
  · simp [updV, hq, ru_n (show ¬ (i = i ∧ q = j.toNat) from fun z => hq z.2)]
set_option maxHeartbeats 1000000 in
theorem x_aastore8 (hg : xG g cc own rm nL) {i len v : Nat} {j : Int} (d : decode cc pc = .ok (.aastore, 1)) (ho : xA n i 8 len) (hj : 0 ≤ j ∧ j < len) (hv0 : xO n v 3) (t : xW g n M (ru R i j.toNat v) k w (pc + 1) ls st) : xW g n M R k w pc ls (xr v :: xi j :: xr i :: st) := by
  obtain ⟨p, l, e, Rm, s, m, args, below, meth, c, b, D, cy, Q⟩ := g
  obtain ⟨hx, hb, hown, hts, hK, hlk, hbs, hrm, hml⟩ := hg
  intro H locs lsA hW hS hv
  obtain ⟨h1, h2, hl, hlen⟩ := ho
  have hcl : (Int32.ofInt j).toNatClampNeg = j.toNat := oi_cl hj.1 (by omega)
  have hix : vp_in (Int32.ofInt j) len := oi_in hj.1 hj.2 hlen
  obtain ⟨v1, v2, vl⟩ := hv0
  have hev := xWd_obj (D := D) (cy := cy) (b := b) (M := M) (R := R) v1 v2 vl
  have he : (xws cy b n M R)[i - 1]? = some (b + i, .inl (cy 8, len, .inr (.inr (.inr (.inr (fun c => xrf b (R i c))))))) := xWd_arr (D := D) h1 h2 hl
  obtain ⟨r', hr', cellV, g1, g2, g3, -⟩ := hW.2 (v - 1) _ hev
  have hcls := (hK.1.1 3 _ rfl).2
  obtain ⟨kA, comp, k1, k2, k3, -⟩ := (hK.1.2 8 _ rfl).2
  have hcomp : comp = D.1 3 := Option.some.inj (k3.symm.trans hcls.1)
  subst hcomp
  obtain ⟨kC, hkC, -⟩ := hcls.2
  refine W.aast hx hb (hW.2 (i - 1) _ he) (fun q h => by cases h) (fun h => by cases h) k1 k2 rfl hkC ⟨fun q => hix (Or.inl q), by show _ < (arrV _ _ _).slots.size; rw [arrV_size]; exact Nat.not_le.mp fun q => hix (Or.inr q)⟩ g1 (fun q h => by rw [g3] at h; cases h) (by rw [g2]; exact hkC) (by rw [g2]; exact va_assign hcls) rfl rfl d fun H1 e1 e2 e3 => ?_
  refine t H1 _ lsA (xWd_set (e := .inl (cy 8, len, .inr (.inr (.inr (.inr (fun c => xrf b (ru R i j.toNat v i c))))))) hW h1 h2 (by simp only [xcell, hl]; rfl) ?_ e2 e3 (fun a ha => xcell_congr (fun c => rfl) (fun c => ru_n (fun q => ha q.1)))) (hS.put e2 e3 (show b < b + i by omega)) hv
  have e1' : H1[b + i]? = some ((arrV (cy 8) len (fun c => va_rf (xrf b (R i c)))).setSlot (Int32.ofInt j).toNatClampNeg (.ref (b + v))) := e1
  show H1[b + i]? = some (arrV (cy 8) len (fun c => va_rf (xrf b (ru R i j.toNat v i c))))
  rw [e1', hcl, arrV_store]
  refine congrArg some (arrV_congr (fun q _ => ?_))
  by_cases hq : q = j.toNat
  · subst hq
    have hv9 : v ≠ 0 := by omega
    simp [updV, ru_s, xrf, va_rf, hv9]
  · simp [updV, hq, ru_n (show ¬ (i = i ∧ q = j.toNat) from fun z => hq z.2)]

set_option maxHeartbeats 1000000 in
theorem x_objInit (hg : xG g cc own rm nL) {idx i : Nat} (d : decode cc pc = .ok (.invokespecial idx, 3)) (w1 : Cond.methodLink own idx Lib.objectInit ∈ lw_tbl) (hr : 1 ≤ rm.frames ∧ (st.map xcat).sum + 12 ≤ rm.locals) (t : xW g n M R k w (pc + 3) ls st) : xW g n M R k w pc ls (xr i :: st) := by
  obtain ⟨p, l, e, Rm, s, m, args, below, meth, c, b, D, cy, Q⟩ := g
  obtain ⟨hx, hb, hown, hts, hK, hlk, hbs, hrm, hml⟩ := hg
  intro H locs lsA hW hS hv
  subst hrm
  have e1 : (st.map (cv b)).map (fun v => v.category) = st.map xcat := by simp [Function.comp_def, xcat_ok]
  refine W.objInit hx hb hown (hts _ w1 rfl) (hts _ (List.mem_of_getElem? (i := 91) (by decide +kernel)) rfl) (hts _ (List.mem_of_getElem? (i := 92) (by decide +kernel)) (by decide +kernel)) rfl hv.1 rfl d hr.1 ?_ (t H locs lsA hW hS hv)
  show 2 * 0 + _ + 12 ≤ _
  rw [e1]
  have := hr.2
  omega
set_option maxHeartbeats 1000000 in
theorem x_putF (hg : xG g cc own rm nL) {ret : Option FieldType} {Post : xPost} {mc ms : Nat} {nm : String} (hr : xRet g ret Post mc ms nm) (hnm : nm = "<init>") {idx ci f i j : Nat} {ty : FieldType} (d : decode cc pc = .ok (.putfield idx, 3)) (hft : xFf own idx ci f ty) (ho : xO n i ci) (ht : (xfk ci)[f]? = some 2) (h0 : j ≠ 0) (t : xW g n M (ru R i f j) k w (pc + 3) ls st) : xW g n M R k w pc ls (xr j :: xr i :: st) := by
  obtain ⟨p, l, e, Rm, s, m, args, below, meth, c, b, D, cy, Q⟩ := g
  obtain ⟨hx, hb, hown, hts, hK, hlk, hbs, hrm, hml⟩ := hg
  intro H locs lsA hW hS hv
  obtain ⟨hrt, hQ, hmn⟩ := hr
  obtain ⟨h1, h2, hl⟩ := ho
  have hts2 : ∀ v ∈ lw_tbl.filter goodWord, v.before args s = true := fun v hv => hts v (List.mem_filter.mp hv).1 (List.mem_filter.mp hv).2
  obtain ⟨⟨C, T, N⟩, hc, hf1, hf2, hown9, hfin, hd, href, hf3⟩ := hft
  have hdecl : (T f).1 = own := hf2.trans hown9
  obtain ⟨hin, ty0, hty, hnmn⟩ := xcl hc
  have hin2 : ∀ v ∈ u_ws C T N, v ∈ lw_tbl.filter goodWord := fun v hv => List.mem_filter.mpr (hin v hv)
  have he := xWd_obj (D := D) (cy := cy) (b := b) (M := M) (R := R) h1 h2 hl
  have hlen : f < (xfs b M R i (xfk ci)).length := by rw [xfs_len]; exact (List.getElem?_eq_some_iff.mp ht).1
  have hset : (xfs b M R i (xfk ci)).set f (cv b (xr j)) = xfs b M (ru R i f j) i (xfk ci) := xfs_set ht (by simp [xfv, cv, ru_s, xrf, va_rf, h0]) (fun c hc => ⟨rfl, ru_n (fun z => hc z.2)⟩)
  have hnar : narrow ty (cv b (xr j)) = cv b (xr j) := by cases ty <;> first | rfl | (exact absurd href (by decide))
  have hfit : fits ty (cv b (xr j)) = true := by cases ty <;> first | rfl | (exact absurd href (by decide))
  have hap := va_apart (own := own) hts2 hin2 ty0 hty hnmn hK.1 hc
  obtain ⟨r, hr1, cell, q1, q2, q3, q4⟩ := hW.2 (i - 1) _ he
  have hr : r = (C, T, N) := Option.some.inj (hr1.symm.trans hc)
  subst hr
  obtain ⟨hSl, hfc, kC, hkC, hkind⟩ := hK.1.1 ci _ hc
  obtain ⟨cf, kf, fi, fd, hi, hsl⟩ := hSl f hf1
  have hlay := hts2 _ (hin2 _ (u_in_lay hf1))
  unfold u_lay at hlay
  rw [if_pos hfin] at hlay
  have hst := (u_facts hfc hkC (u_lays hts2 hin2 hf1) hi).1
  have hcf : m.cls = cf := by
    obtain ⟨_, _, c', _, _, _, -, -, hf', -, -, -, hown2, -⟩ := Cond.laysFinal_spec hlay
    have e1 : c' = cf := by have := hi.symm.trans hf'; simp at this; exact this.1.symm
    rw [hdecl] at hown2
    rw [← e1]; exact Option.some.inj (hown.symm.trans hown2)
  have h6 := u_fits hfc hkC hkind (Or.inr hlay) hi hd hnar hfit
  refine W.putFinK hx hb hown (hts _ hf3 rfl) (by have hi2 := hi; rw [hf2] at hi2; exact hi2) hst hcf (hmn.trans hnm) (by rw [q2]; exact h6) q1 q3 (by rw [hsl]; exact k2_hasslot (q4 f hf1)) rfl rfl d fun H1 e1 e2 e3 => ?_
  rw [hsl] at e1
  exact t H1 _ lsA (xWd_set (e := .inr (ci, (xfs b M R i (xfk ci)).set f (cv b (xr j)))) hW h1 h2 (by simp only [xcell, hl]; rw [← hset]) ⟨_, hc, t_OB.to (V := updV (vp_V (xfs b M R i (xfk ci))) f (cv b (xr j))) ⟨_, e1, q2, q3, t_set q4 hap hf1 _⟩ (fun j _ => vp_updV_set hlen _ j)⟩ e2 e3 (fun j hj => xcell_congr (fun c => rfl) (fun c => ru_n (fun z => hj z.1)))) (hS.put e2 e3 (show b < b + i by omega)) hv
set_option maxHeartbeats 1000000 in
theorem x_callI (hg : xG g cc own rm nL) (ha : xGa g) {l : Launch} {b : Nat} {D : va_G} {cy : Nat → ClassId} {idx i na : Nat} {y : MethodName} {code : ByteArray} {maxL : Nat} {rmc : Room} {As rest : List xV} {Post : xPost}
    (he : xE g l b D cy) (d : decode cc pc = .ok (.invokespecial idx, 3)) (hM : xMI own idx y code maxL na) (hC : xCi l b D cy y code maxL rmc (xr i :: As) n M R Post)
    (hn : As.length = na) (hst : st = As.reverse ++ xr i :: rest) (hrest : (rest.map xcat).sum ≤ 8) (hroom : rmc.frames + 1 ≤ rm.frames ∧ 8 + (maxL + 11) + rmc.locals ≤ rm.locals) (hcells : k + rmc.cells ≤ rm.cells ∧ w + rmc.slots ≤ rm.slots)
    (t : ∀ v n' M' R', Post v n' M' R' → xW g n' M' R' (k + rmc.cells) (w + rmc.slots) (pc + 3) ls (v.toList ++ rest)) : xW g n M R k w pc ls st := by
  obtain ⟨p, l', e, Rm, s, m, args, below, meth, c, b', D', cy', Q⟩ := g
  obtain ⟨rfl, rfl, rfl, rfl⟩ := he
  dsimp only at *
  obtain ⟨hx, hb, hown, hts, hK, hlk, hbs, hrm, hml⟩ := hg
  intro H locs lsA hW hS hv
  subst hrm
  obtain ⟨m1, m2, m4, m5, m6, m8, m7⟩ := hM
  have hts2 : ∀ v ∈ lw_tbl.filter goodWord, v.before args s = true := fun v hv => hts v (List.mem_filter.mp hv).1 (List.mem_filter.mp hv).2
  have hao : xAO cy' s := ha
  have hpre : PreS s H (va_Pc ((xr i :: As).map (cv b')) (fun U => xWd D' cy' b' n M R U.heap ∧ xK D' cy' U ∧ xAO cy' U)) (.ref (b' + i) :: As.map (cv b')) := ⟨xblindI (as := xr i :: As), fun U hU hWm => ⟨rfl, by rw [hU]; exact hW, xK_warm hK hWm, xAO_moved hWm.alike hao⟩⟩
  rcases m1 with m1 | ⟨host, m1⟩
  · exact xcallk (rest := rest) (va_runI (cc := cc) (nL := nL) (Ts := lw_tbl.filter goodWord) (As := As.map (cv b')) (b := b' + i) ⟨hx, hb, hml, hown, hts2⟩ hC ⟨callB_of na hts2 (xgood m5 m6) rfl rfl rfl (hts _ m4 rfl) (hts _ m1 rfl) m7 hroom, m8, hts _ m2 rfl⟩ hpre rfl (by rw [List.length_map]; exact hn) (hv.1.trans hml) (by rw [hst]; simp [cv]) (lv_room (xcats b' rest hrest)) d hcells) hS
      (fun v n' M' R' H1 locs1 hp hw1 hS1 => t v n' M' R' hp H1 locs1 lsA hw1 hS1 hv)
  · exact xcallk (rest := rest) (va_runIN (cc := cc) (nL := nL) (Ts := lw_tbl.filter goodWord) (As := As.map (cv b')) (b := b' + i) ⟨hx, hb, hml, hown, hts2⟩ hC ⟨va_cnB na hts2 (xgood m5 m6) rfl rfl rfl (hK.2 _ m1 rfl) (hts _ m4 rfl) m7 hroom, m8, hts _ m2 rfl⟩ hpre rfl (by rw [List.length_map]; exact hn) (hv.1.trans hml) (by rw [hst]; simp [cv]) (lv_room (xcats b' rest hrest)) d hcells) hS
      (fun v n' M' R' H1 locs1 hp hw1 hS1 => t v n' M' R' hp H1 locs1 lsA hw1 hS1 hv)
theorem x_cI (hg : xG g cc own rm nL) (ha : xGa g) {l : Launch} {b : Nat} {D : va_G} {cy : Nat → ClassId} {idx i na n2 : Nat} {R2 : xRm} {Q2 : xMm → Prop} {y : MethodName} {code : ByteArray} {maxL : Nat} {rmc : Room} (As rest : List xV)
    (he : xE g l b D cy) (d : decode cc pc = .ok (.invokespecial idx, 3)) (hM : xMI own idx y code maxL na) (hC : xCi l b D cy y code maxL rmc (xr i :: As) n M R (xPc n2 R2 Q2))
    (hn : As.length = na) (hst : st = As.reverse ++ xr i :: rest) (hrest : (rest.map xcat).sum ≤ 8) (hroom : rmc.frames + 1 ≤ rm.frames ∧ 8 + (maxL + 11) + rmc.locals ≤ rm.locals) (hcells : k + rmc.cells ≤ rm.cells ∧ w + rmc.slots ≤ rm.slots)
    (t : ∀ M', Q2 M' → xW g n2 M' R2 (k + rmc.cells) (w + rmc.slots) (pc + 3) ls rest) : xW g n M R k w pc ls st :=
  x_callI (rest := rest) hg ha he d hM hC hn hst hrest hroom hcells (fun v n' M' R' hp => by obtain ⟨rfl, rfl, rfl, hq⟩ := hp; exact t M' hq)
end XN
