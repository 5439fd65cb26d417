/-! ===== a row of rows: multianewarray ===== -/
/-- the outer row when the first i inner ones stand -/
def mgO (cA : ClassId) (h i : Nat) : Cell := arrV cA 10 (fun j => if j < i then .ref (h + 1 + j) else .null)
def mgN (comp : ClassId) : Cell := arrV comp 9 (fun _ => .long 0)
/-- the states of the making, from T on: i inner rows stand -/
def mgS (T : State) (cA comp : ClassId) : Nat → State → Prop
  | 0, U => U = T.pushCell (mgO cA T.heap.size 0)
  | i + 1, U => ∃ V : State, mgS T cA comp i V ∧ U = (V.pushCell (mgN comp)).setCell T.heap.size (mgO cA T.heap.size (i + 1))
theorem mgO_step (cA : ClassId) (h i : Nat) : (mgO cA h i).setSlot i (.ref (h + 1 + i)) = mgO cA h (i + 1) := by
  unfold mgO
  rw [arrV_store]
  refine arrV_congr (fun j _ => ?_)
  by_cases e : j = i
  · subst e; simp [updV]
  · simp only [updV, e, if_false]
    by_cases e2 : j < i
    · rw [if_pos e2, if_pos (by omega)]
    · rw [if_neg e2, if_neg (by omega)]
theorem mgS_size {T : State} {cA comp : ClassId} : ∀ (i : Nat) (U : State), mgS T cA comp i U → U.heap.size = T.heap.size + 1 + i ∧ U.vm = T.vm ∧ U.slotsUsed = T.slotsUsed + 10 + i * 9
  | 0, U, h => by
    cases h
    refine ⟨by simp [State.pushCell], rfl, ?_⟩
    rw [State.slotsUsed_pushCell]
    show _ + (arrV _ _ _).slots.size = _
    rw [arrV_size]
  | i + 1, U, h => by
    obtain ⟨V, hV, rfl⟩ := h
    obtain ⟨a, b, c⟩ := mgS_size i V hV
    refine ⟨by simp [State.setCell, State.pushCell, a]; omega, b, ?_⟩
    rw [State.slotsUsed_setCell, State.slotsUsed_pushCell, c]
    show _ + (arrV _ _ _).slots.size = _
    rw [arrV_size]
    omega
theorem mgS_cells {T : State} {cA comp : ClassId} : ∀ (i : Nat) (U : State), mgS T cA comp i U → U.heap[T.heap.size]? = some (mgO cA T.heap.size i) ∧ (∀ j, j < i → U.heap[T.heap.size + 1 + j]? = some (mgN comp)) ∧ ∀ q, q < T.heap.size → U.heap[q]? = T.heap[q]?
  | 0, U, h => by
    cases h
    exact ⟨State.heap_pushCell_size _ _, fun j hj => absurd hj (by omega), fun q hq => State.heap_pushCell_of_lt _ _ hq⟩
  | i + 1, U, h => by
    obtain ⟨V, hV, rfl⟩ := h
    obtain ⟨a, b, c⟩ := mgS_cells i V hV
    obtain ⟨z, -, -⟩ := mgS_size i V hV
    refine ⟨heapAt_setCell_self _ (by show _ < (V.pushCell _).heap.size; simp [State.pushCell]; omega), fun j hj => ?_, fun q hq => ?_⟩
    · rw [heapAt_setCell_ne _ (show T.heap.size ≠ T.heap.size + 1 + j by omega)]
      by_cases e : j = i
      · subst e
        rw [← z]
        exact State.heap_pushCell_size _ _
      · rw [State.heap_pushCell_of_lt (h := show T.heap.size + 1 + j < V.heap.size by omega)]
        exact b j (by omega)
    · rw [heapAt_setCell_ne _ (show T.heap.size ≠ q by omega), State.heap_pushCell_of_lt (h := show q < V.heap.size by omega)]
      exact c q hq
theorem mgS_top {T : State} {f : JFrame} {cA comp : ClassId} : ∀ (i : Nat) (U : State), mgS (T.setTop f) cA comp i U → ∃ U', mgS T cA comp i U' ∧ U = U'.setTop f
  | 0, U, h => ⟨_, rfl, by cases h; rfl⟩
  | i + 1, U, h => by
    obtain ⟨V, hV, rfl⟩ := h
    obtain ⟨V', hV', rfl⟩ := mgS_top i V hV
    exact ⟨_, ⟨V', hV', rfl⟩, rfl⟩
theorem mgS_stand {p : Program} {l : Launch} {e : Env} {R : Room} {s : State} {m : MethodId} {args : Array Value} {below : List Frame} {meth : Method} {c : Code} {T : State} {locs : List Loc} {cells slots : Nat} {cA comp : ClassId} (X : Stand p l e R s m args below meth c T locs cells slots) :
    ∀ (i : Nat) (U : State), mgS T cA comp i U → ∃ L : List Loc, (∀ q ∈ L, q.base = T.heap.size) ∧ Stand p l e R s m args below meth c U (locs ++ L) (cells + 1 + i) (slots + 10 + i * 9)
  | 0, U, h => by
    cases h
    have h1 := X.pushed (mgO cA T.heap.size 0)
    have e1 : (mgO cA T.heap.size 0).slots.size = 10 := by unfold mgO; rw [arrV_size]
    rw [e1] at h1
    exact ⟨[], fun q h => absurd h List.not_mem_nil, by rw [List.append_nil]; simpa using h1⟩
  | i + 1, U, h => by
    obtain ⟨V, hV, rfl⟩ := h
    obtain ⟨L, hL, X1⟩ := mgS_stand X i V hV
    obtain ⟨a, -, -⟩ := mgS_cells i V hV
    obtain ⟨z, -, -⟩ := mgS_size i V hV
    have h1 := (X1.pushed (mgN comp)).stored (a := T.heap.size) (by rw [State.heap_pushCell_of_lt (h := show T.heap.size < V.heap.size by omega)]; exact a) i (.ref (T.heap.size + 1 + i))
    have e1 : (mgN comp).slots.size = 9 := by unfold mgN; rw [arrV_size]
    rw [e1, mgO_step] at h1
    refine ⟨L ++ [⟨T.heap.size, i⟩], fun q hq => ?_, ?_⟩
    · rcases List.mem_append.mp hq with hq | hq
      · exact hL q hq
      · rw [List.mem_singleton.mp hq]
    · rw [← List.append_assoc, show slots + 10 + (i + 1) * 9 = slots + 10 + i * 9 + 9 by omega]
      exact h1
section MG
variable {E : CtlPost} {e : Env} {d : Bool} {acts : List Action} {T : State}
/-- one inner row -/
theorem mg_inner {V : State} {comp c0 : ClassId} {kC : Class} {z : Int32} (hk : V.vm.classes[comp]? = some kC) (hkind : kC.kind = .array c0 .long) (hz : ¬ z < 0) (hz9 : z.toNatClampNeg = 9) (hl : ¬ 9 > e.platform.arrayLengthLimit) (hh : ¬ 9 * componentBytes .long > e.platform.maxHeapBytes) (h1 : V.heap.size < e.platform.maxCells) (h2 : V.slotsUsed + 9 ≤ e.platform.maxSlots)
    {Q : Addr → Pre} (hq : ∀ acts', Q V.heap.size d acts' (V.pushCell (mgN comp))) : wp (multianewarray.make comp [z]) Q E e d acts V := by
  rw [multianewarray.make]
  simp only [wp_bind', W.ite, hz, if_false, wp_pure', W.theClass, hk, hkind, Option.some.injEq, exists_eq_left', hz9]
  refine W.newArray_of hk hkind hl hh h1 h2 rfl (fun acts' => ?_)
  have e1 : ({ cls := comp, slots := Array.replicate 9 (defaultValue .long) } : Cell) = mgN comp := arrV_new comp 9 (.long 0)
  rw [e1]
  exact hq acts'
theorem mg_outer {cA comp c0 : ClassId} {kA kC : Class} {y z : Int32} (hkA : T.vm.classes[cA]? = some kA) (hkindA : kA.kind = .array comp (.array .long)) (hk : T.vm.classes[comp]? = some kC) (hkind : kC.kind = .array c0 .long) (hy : ¬ y < 0) (hy10 : y.toNatClampNeg = 10) (hz : ¬ z < 0) (hz9 : z.toNatClampNeg = 9)
    (hl : 10 ≤ e.platform.arrayLengthLimit) (hh : 72 ≤ e.platform.maxHeapBytes) (h1 : T.heap.size + 11 ≤ e.platform.maxCells) (h2 : T.slotsUsed + 100 ≤ e.platform.maxSlots)
    {Q : Addr → Pre} (hq : ∀ d' acts' U, mgS T cA comp 10 U → Q T.heap.size d' acts' U) : wp (multianewarray.make cA [y, z]) Q E e d acts T := by
  have hfind : ([z].find? (· < 0)) = none := by simp [hz]
  rw [multianewarray.make]
  simp only [wp_bind', W.ite, hy, if_false, wp_pure', W.theClass, hkA, hkindA, Option.some.injEq, exists_eq_left', hy10]
  refine W.newArray_of hkA hkindA (by omega) (by show ¬ 10 * 4 > _; omega) (by omega) (by omega) rfl (fun acts' => ?_)
  have e1 : ({ cls := cA, slots := Array.replicate 10 .null } : Cell) = mgO cA T.heap.size 0 := (arrV_new cA 10 .null).trans (arrV_congr (fun j _ => by rw [if_neg (by omega)]))
  rw [e1]
  simp only [hfind]
  rw [ite_self, wp_bind', Std.Legacy.Range.forIn_eq_forIn_range']
  show wp (forIn (List.range' 0 10 1) PUnit.unit _) _ E e d acts' _
  refine wp_forIn_inv (fun rest U => ∃ i, i ≤ 10 ∧ rest = List.range' i (10 - i) ∧ mgS T cA comp i U) _ _ ⟨0, by omega, rfl, rfl⟩ ?_ ?_
  · rintro x rest V d' acts2 Q' ⟨i, hi, hl2, hV⟩ hnext
    have hlt : i < 10 := by
      rcases Nat.lt_or_ge i 10 with h | h
      · exact h
      · rw [show 10 - i = 0 by omega] at hl2; cases hl2
    rw [show 10 - i = (10 - (i + 1)) + 1 by omega, List.range'_succ] at hl2
    obtain ⟨rfl, hrest⟩ := List.cons.inj hl2
    obtain ⟨z1, z2, z3⟩ := mgS_size x V hV
    obtain ⟨c1, c2, c3⟩ := mgS_cells x V hV
    simp only [wp_bind']
    refine mg_inner (by rw [z2]; exact hk) hkind hz hz9 (by omega) (by show ¬ 9 * 8 > _; omega) (by omega) (by omega) (fun acts3 => ?_)
    simp only [wp_bind', W.writeLoc, wp_pure']
    refine ⟨mgO cA T.heap.size x, by rw [State.heap_pushCell_of_lt (h := show T.heap.size < V.heap.size by omega)]; exact c1, by unfold mgO arrV; simp, by unfold mgO; rw [arrV_size]; exact hlt, ?_, hnext _ _ _ ⟨x + 1, hlt, hrest, V, hV, ?_⟩⟩
    · show ((V.pushCell (mgN comp)).fitsSlot cA .none x (.ref V.heap.size)) = true
      simp [State.fitsSlot, State.slotType?, z2, hkA, hkindA, fits]
    · rw [z1, mgO_step]
  · rintro V d' acts2 ⟨i, hi, hl2, hV⟩
    have e10 : i = 10 := by
      rcases Nat.lt_or_ge i 10 with h | h
      · rw [show 10 - i = (10 - (i + 1)) + 1 by omega, List.range'_succ] at hl2; cases hl2
      · omega
    subst e10
    simp only [wp_pure']
    exact hq _ _ _ hV
end MG
theorem mgS_ex (T : State) (cA comp : ClassId) : ∀ i : Nat, ∃ U, mgS T cA comp i U
  | 0 => ⟨_, rfl⟩
  | i + 1 => by
    obtain ⟨V, hV⟩ := mgS_ex T cA comp i
    exact ⟨_, V, hV, rfl⟩
theorem mgS_un {T : State} {cA comp : ClassId} : ∀ (i : Nat) (U U' : State), mgS T cA comp i U → mgS T cA comp i U' → U = U'
  | 0, U, U', h, h' => by cases h; cases h'; rfl
  | i + 1, U, U', h, h' => by
    obtain ⟨V, hV, rfl⟩ := h
    obtain ⟨V', hV', rfl⟩ := h'
    rw [mgS_un i V V' hV hV']
theorem W_multi {p : Program} {l : Launch} {e : Env} {R : Room} {s : State} {m : MethodId} {args : Array Value} {below : List Frame} {meth : Method} {c : Code} {H : Heap} {locs : List Loc} {cells slots : Nat} {Q : State → Prop} {cc : ByteArray} (hexec : p.tables.exec = Jvm.exec) (hb : c.code = cc) {own : String} {idx : Nat} (hown : s.vm.findClass own = some m.cls) (hclink : (Cond.classLink own idx "[[J").before args s = true)
    {cA comp c0 : ClassId} {kA kC : Class} (hnm : s.vm.findClass "[[J" = some cA) (hkA : s.vm.classes[cA]? = some kA) (hkindA : kA.kind = .array comp (.array .long)) (hkC : s.vm.classes[comp]? = some kC) (hkindC : kC.kind = .array c0 .long)
    {g : JFrame} (hg : g.method = m) (hdg : decode cc g.pc = .ok (.multianewarray idx 2, 4)) {y z : Int32} {rest : List Value} (hstack : g.stack = .int z :: .int y :: rest) (hy : ¬ y < 0) (hy10 : y.toNatClampNeg = 10) (hz : ¬ z < 0) (hz9 : z.toNatClampNeg = 9) (hcells : cells + 11 ≤ R.cells) (hslots : slots + 100 ≤ R.slots)
    (kk : ∀ (H1 : Heap) (L : List Loc), (∀ q ∈ L, q.base = H.size) → H1.size = H.size + 11 → H1[H.size]? = some (mgO cA H.size 10) → (∀ j, j < 10 → H1[H.size + 1 + j]? = some (mgN comp)) → (∀ q, q < H.size → H1[q]? = H[q]?) → W p l e R s m args below meth c H1 (locs ++ L) (cells + 11) (slots + 100) Q { g with pc := g.pc + 4, stack := .ref H.size :: rest }) : W p l e R s m args below meth c H locs cells slots Q g := by
  intro T hT X
  subst hT; subst hb; subst hg
  have hpl : e.platform.magicAccessors = ({} : Platform).magicAccessors := by rw [X.admits.platform]
  obtain ⟨cc', hfcc, hcl⟩ := Cond.classLink_spec hown hclink e.platform hpl
  cases hnm.symm.trans hfcc
  obtain ⟨hg₁, hwarm₁, hready₁⟩ := State.classEntry (e := e) X.warmed hcl
  generalize T.vm.noted g.method.cls idx (.cls cA) = vm₁ at hg₁ hwarm₁ hready₁
  have hal : s.vm.Alike vm₁ := hwarm₁.alike
  obtain ⟨kA₁, hkA₁, heA⟩ := hal.2.2 _ _ hkA
  obtain ⟨kC₁, hkC₁, heC⟩ := hal.2.2 _ _ hkC
  have X₁ := X.noted hwarm₁
  obtain ⟨hr1, hr2⟩ := X.roomAbove hcells hslots
  obtain ⟨U, hU⟩ := mgS_ex (T.setVm vm₁) cA comp 10
  obtain ⟨L, hL, XU⟩ := mgS_stand X₁ 10 U hU
  obtain ⟨u1, u2, u3⟩ := mgS_cells 10 U hU
  have u4 := (mgS_size 10 U hU).1
  obtain ⟨t', a1, b1⟩ := kk U.heap L hL (by rw [u4]; rfl) u1 u2 u3 U rfl XU
  refine ⟨t', ?_, b1⟩
  have hl1 : 10 ≤ e.platform.arrayLengthLimit := by rw [Launch.admits_arrayLengthLimit X.admits]; decide
  have hh1 : 72 ≤ e.platform.maxHeapBytes := by rw [Launch.admits_maxHeapBytes X.admits]; decide
  jvm_step X.here [hexec, hdg]
  simp only [multianewarray.sem, wp_bind', W.resolveClassAt_links (State.method?_setTop g X.here.top) hg₁]
  rw [W.popN, if_neg (by decide)]
  refine ⟨g, State.topJava?_setTop' (s := T.setVm vm₁) g X.here.top, [.int y, .int z], rest, rfl, hstack, ?_⟩
  simp only [List.mapM_cons, List.mapM_nil, wp_bind', wp_pure']
  refine mg_outer (kA := kA₁) (kC := kC₁) (comp := comp) (c0 := c0) hkA₁ (by rw [heA]; exact hkindA) hkC₁ (by rw [heC]; exact hkindC) hy hy10 hz hz9 hl1 hh1 (by show T.heap.size + 11 ≤ _; omega) (by show T.slotsUsed + 100 ≤ _; omega) (fun d' acts' U2 hU2 => ?_)
  have eS : ((T.setTop g).setVm vm₁).setTop { g with stack := rest } = (T.setVm vm₁).setTop { g with stack := rest } := by
    show ((T.setVm vm₁).setTop g).setTop _ = _
    rw [State.setTop_setTop]
  rw [eS] at hU2 ⊢
  obtain ⟨U3, hU3, rfl⟩ := mgS_top 10 U2 hU2
  cases mgS_un 10 U U3 hU hU3
  simp only [wp_bind', W.mark, W.pushRef, State.topJava?_setTop' _ XU.here.top, Option.some.injEq, exists_eq_left', State.setTop_setTop, State.heap_setTop]
  intro acts
  simp [jvm, XU.here.top]
  exact a1
theorem xWd_rows {D : va_G} {cy : Nat → ClassId} {b n : Nat} {M : xMm} {R R' : xRm} {H H1 : Heap} (hW : xWd D cy b n M R H) (hR : ∀ a, a ≤ n → R' a = R a) (hl : lay (n + 1) = .inr (9, 10)) (hls : ∀ j, j < 10 → lay (n + 2 + j) = .inr (3, 9)) (hM : ∀ a, n < a → ∀ f, M a f = 0) (hR2 : ∀ j, j < 10 → R' (n + 1) j = n + 2 + j) (hz : H1.size = H.size + 11) (e1 : H1[H.size]? = some (mgO (cy 9) H.size 10)) (e2 : ∀ j, j < 10 → H1[H.size + 1 + j]? = some (mgN (cy 3))) (o1 : ∀ q, q < H.size → H1[q]? = H[q]?) : xWd D cy b (n + 11) M R' H1 := by
  have hsz : H.size = b + (n + 1) := by rw [hW.1]; omega
  refine ⟨by rw [hz, hW.1]; omega, fun k q hk => ?_⟩
  obtain ⟨h1, rfl⟩ := xws_get hk
  by_cases e : k < n
  · have hP : va_P D vwCl (xws cy b n M R) H1 := hW.2.kept (fun k x hx => o1 x.1 ((hW.2 k x hx).lt))
    have h9 := hP k _ (xws_at (cy := cy) (b := b) (M := M) (R := R) (n := n) (i := k + 1) (by omega) (by omega))
    rw [xcell_congr (M' := M) (R' := R') (M := M) (R := R) (fun c => rfl) (fun c => by rw [hR (k + 1) (by omega)])]
    exact h9
  · by_cases ek : k = n
    · subst ek
      simp only [xcell, hl]
      show H1[b + (k + 1)]? = some (arrV (cy 9) 10 (fun j => va_rf (xrf b (R' (k + 1) j))))
      rw [← hsz, e1]
      unfold mgO
      refine congrArg some (arrV_congr (fun j hj => ?_))
      rw [if_pos hj, hR2 j hj, hsz]
      simp only [xrf, show ¬ k + 2 + j = 0 by omega, if_false, va_rf]
      rw [show b + (k + 1) + 1 + j = b + (k + 2 + j) by omega]
    · obtain ⟨j, rfl⟩ : ∃ j, k = n + 1 + j := ⟨k - n - 1, by omega⟩
      have hl2 := hls j (by omega)
      simp only [xcell, show n + 1 + j + 1 = n + 2 + j by omega, hl2]
      show H1[b + (n + 2 + j)]? = some (arrV (cy 3) 9 (fun c => .long (Int64.ofInt (M (n + 2 + j) c))))
      rw [show b + (n + 2 + j) = H.size + 1 + j by omega, e2 j (by omega)]
      exact congrArg some (arrV_congr (fun c _ => by rw [hM _ (by omega)]; rfl))
set_option maxHeartbeats 1000000 in
theorem x_multi {g : xGT} {cc : ByteArray} {own : String} {rm : Room} {nL : Nat} {n : Nat} {M : xMm} {R R' : xRm} {k w pc : Nat} {ls : List (Nat × xV)} {st : List xV} (hg : xG g cc own rm nL) (ha : xGa g) {idx : Nat} (d : decode cc pc = .ok (.multianewarray idx 2, 4)) (w1 : Cond.classLink own idx "[[J" ∈ lw_tbl) (hR : ∀ a, a ≤ n → R' a = R a) (hl : lay (n + 1) = .inr (9, 10)) (hls : ∀ j, j < 10 → lay (n + 2 + j) = .inr (3, 9)) (hM : ∀ a, n < a → ∀ f, M a f = 0) (hR2 : ∀ j, j < 10 → R' (n + 1) j = n + 2 + j) (hk : k + 11 ≤ rm.cells) (hw : w + 100 ≤ rm.slots) (t : xW g (n + 11) M R' (k + 11) (w + 100) (pc + 4) ls (xr (n + 1) :: st)) : xW g n M R k w pc ls (xi 9 :: xi 10 :: st) := by
  obtain ⟨p, l, e, Rm, s, m, args, below, meth, c, b, D, cy, Q⟩ := g
  obtain ⟨hx, hb, hown, hts, hK, hlk, hbs, hrm, hml⟩ := hg
  intro H locs lsA hW hS hv
  subst hrm
  have hao : xAO cy s := ha
  obtain ⟨-, kA, comp, g1, g2, g3⟩ := hao
  have h3 := hK.1.2 3 _ rfl
  have h9 := hK.1.2 9 _ rfl
  have hcomp : comp = cy 3 := Option.some.inj (g3.symm.trans h3.2)
  subst hcomp
  obtain ⟨-, kC, hkC, c0, hkindC⟩ := h3.1 0 (fun _ => .null)
  have hsz : H.size = b + (n + 1) := by rw [hW.1]; omega
  refine W_multi (y := Int32.ofInt 10) (z := Int32.ofInt 9) hx hb hown (hts _ w1 rfl) h9.2 g1 g2 hkC hkindC rfl d rfl (by decide) (by decide) (by decide) (by decide) hk hw (fun H1 L hL z1 e1 e2 o1 => ?_)
  have t2 := t H1 (locs ++ L) lsA (xWd_rows hW hR hl hls hM hR2 z1 e1 e2 o1) ⟨Nat.le_trans hS.1 (by omega), fun x h1 h2 => (o1 x (Nat.lt_of_lt_of_le h1 hS.1)).trans (hS.2.1 x h1 h2), fun q hq => by
    rcases List.mem_append.mp hq with h | h
    · exact hS.2.2 q h
    · show b < q.base; rw [hL q h]; omega⟩ hv
  rw [hsz]
  exact t2
