/-! ===== contracts, calls, ends ===== -/
abbrev xPost : Type := Option xV → Nat → xMm → xRm → Prop
def xQc (b : Nat) (D : va_G) (cy : Nat → ClassId) (Post : xPost) : Array Value → State → Outcome → State → Prop := fun _ st oc t => (∃ v n' M' R', oc = .returned (v.map (cv b)) ∧ Post v n' M' R' ∧ xWd D cy b n' M' R' t.heap) ∧ va_F (fun q => b < q) st t
abbrev xwords (y : MethodName) (code : ByteArray) (maxL : Nat) (ret : Option FieldType) : List Cond := Cond.code y code maxL ret :: lw_tbl.filter goodWord
/-- a method's contract over the world by numbers -/
def xC (l : Launch) (b : Nat) (D : va_G) (cy : Nat → ClassId) (y : MethodName) (code : ByteArray) (maxL : Nat) (ret : Option FieldType) (rm : Room) (as : List xV) (n : Nat) (M : xMm) (R : xRm) (Post : xPost) : Prop :=
  Met l y (xwords y code maxL ret) rm (va_Pc (as.map (cv b)) (fun U => xWd D cy b n M R U.heap ∧ xK D cy U)) (xQc b D cy Post) rm.cells rm.slots (fun q => b < q)
/-- what is known of a method's end -/
def xRet : xGT → Option FieldType → xPost → Nat → Nat → String → Prop
  | (_, _, _, _, s, _, args, below, meth, _, b, D, cy, Q), ret, Post, mc, ms, nm => meth.sig.returnType = ret ∧ Q = MQ below (xQc b D cy Post) args s mc ms (fun q => b < q) ∧ meth.name = nm
def xargs : Nat → List xV → List (Nat × xV)
  | _, [] => []
  | j, v :: vs => (j, v) :: xargs (j + xcat v) vs
theorem xargs_ok (b : Nat) : ∀ (j : Nat) (vs : List xV), cvs b (xargs j vs) = lv_args j (vs.map (cv b))
  | _, [] => rfl
  | j, v :: vs => by
    have ih := xargs_ok b (j + xcat v) vs
    simp only [cvs] at ih
    simp only [xargs, cvs, List.map_cons, lv_args, xcat_ok]
    rw [ih]
    rcases v with z | z | i <;> rfl
/-- a contract out of a walk of the body -/
theorem x_met {l : Launch} {b : Nat} {D : va_G} {cy : Nat → ClassId} {y : MethodName} {code : ByteArray} {maxL : Nat} {ret : Option FieldType} {rm : Room} {as : List xV} {n : Nat} {M : xMm} {R : xRm} {Post : xPost} (hy : plainName y.cls = true) (hsl : (lg_sl (as.map (cv b))).length ≤ maxL)
    (body : ∀ g : xGT, xG g code y.cls rm maxL → xRet g ret Post rm.cells rm.slots y.name → g.2.1 = l ∧ g.2.2.2.2.2.2.2.2.2.2.1 = b ∧ g.2.2.2.2.2.2.2.2.2.2.2.1 = D ∧ g.2.2.2.2.2.2.2.2.2.2.2.2.1 = cy → xW g n M R 0 0 0 (xargs 0 as) []) : xC l b D cy y code maxL ret rm as n M R Post := by
  refine Met.ofW (cc := code) (maxL := maxL) (ret := ret) hy rfl ?_
  intro p e s m args below meth c s₁ B hml hv
  obtain ⟨rfl, hW, hK⟩ := hv
  have hts := atoms_spec (ws := xwords y code maxL ret) B.pre
  have hown : s.vm.findClass y.cls = some m.cls := findClass_of_methodNamed B.named
  have h := body (p, l, e, rm, s, m, (as.map (cv b)).toArray, below, meth, c, b, D, cy, MQ below (xQc b D cy Post) (as.map (cv b)).toArray s rm.cells rm.slots (fun q => b < q))
    ⟨B.exec, B.bytes, hown, fun w hw hg => hts w (List.mem_cons_of_mem _ (List.mem_filter.mpr ⟨hw, hg⟩)), hK, B.notSynchronized, by have := hW.1; omega, rfl, hml⟩ ⟨B.returns, rfl, (name_of_methodNamed B.named B.method).1⟩ ⟨rfl, rfl, rfl, rfl⟩
  have hl := lv_entry (as.map (cv b)) (n := maxL) hsl
  rw [← xargs_ok b 0 as] at hl
  rw [lg_entry_eq]
  rw [← hml] at hl
  exact h s.heap [] _ hW va_S.rf (by rw [← hml]; exact hl)
theorem xblind {b n : Nat} {D : va_G} {cy : Nat → ClassId} {as : List xV} {M : xMm} {R : xRm} : FrameBlind (va_Pc (as.map (cv b)) (fun U => xWd D cy b n M R U.heap ∧ xK D cy U)) := fun a U g mk q => by
  obtain ⟨q0, q1, q2⟩ := q
  exact ⟨q0, q1, xK_same q2 rfl⟩
theorem xgood {y : MethodName} {code : ByteArray} {maxL : Nat} {ret : Option FieldType} (hc : Cond.code y code maxL ret ∈ lw_tbl) (hk : goodWord (Cond.code y code maxL ret) = true) : GoodIn (lw_tbl.filter goodWord) (xwords y code maxL ret) := by
  intro w hw
  rcases List.mem_cons.mp hw with rfl | h
  · exact ⟨List.mem_filter.mpr ⟨hc, hk⟩, good_of_word hk⟩
  · exact ⟨h, good_of_word (List.mem_filter.mp h).2⟩
section XC
variable {g : xGT} {cc : ByteArray} {own : String} {rm : Room} {nL : Nat} {n : Nat} {M : xMm} {R : xRm} {k w pc : Nat} {ls ls' : List (Nat × xV)} {st : List xV}
/-- behind a call -/
theorem xcallk {p : Program} {l : Launch} {e : Env} {Rm : Room} {s : State} {m : MethodId} {args : Array Value} {below : List Frame} {meth : Method} {c : Code} {b : Nat} {D : va_G} {cy : Nat → ClassId} {Q : State → Prop} {H : Heap} {locs : List Loc} {mc ms : Nat} {lsA : Array Slot} {st0 : List Value} {rest : List xV} {Post : xPost} {a : Array Value}
    (hr : va_Run p l e Rm s m args below meth c H locs k w mc ms (F0 m pc lsA st0) (rest.map (cv b)) (xQc b D cy Post a) (fun q => b < q)) (hS : va_S (fun q => b < q) s.heap H locs)
    (kk : ∀ v n' M' R' (H1 : Heap) (locs1 : List Loc), Post v n' M' R' → xWd D cy b n' M' R' H1 → va_S (fun q => b < q) s.heap H1 locs1 → W p l e Rm s m args below meth c H1 locs1 (k + mc) (w + ms) Q (F0 m (pc + 3) lsA ((v.toList ++ rest).map (cv b)))) : W p l e Rm s m args below meth c H locs k w Q (F0 m pc lsA st0) := by
  intro T hT X
  obtain ⟨v, st₀, t, T', L, h0, X', hL, e1, e2, ⟨⟨v2, n', M', R', hv, hp, hb⟩, hz, hk⟩, stp⟩ := hr T hT X
  rw [h0] at hz hk
  have hv' : v = v2.map (cv b) := by
    have := congrArg (fun o => match o with | Outcome.returned x => x | _ => none) hv
    exact this
  subst hv'
  obtain ⟨t2, a1, b1⟩ := kk v2 n' M' R' T'.heap (locs ++ L) hp (by rw [e1]; exact hb)
    ⟨Nat.le_trans hS.1 (by rw [e1]; exact hz), fun q h1 h2 => by rw [e1, hk q (Nat.lt_of_lt_of_le h1 hS.1) h2]; exact hS.2.1 q h1 h2, fun q hq => by
      rcases List.mem_append.mp hq with h | h
      · exact hS.2.2 q h
      · exact hL q h⟩ T' rfl X'
  refine ⟨t2, stp t2 ?_, b1⟩
  have e3 : (v2.toList ++ rest).map (cv b) = (v2.map (cv b)).toList ++ rest.map (cv b) := by cases v2 <;> simp
  rw [e3] at a1
  exact a1
theorem xcats (b : Nat) (rest : List xV) (h : (rest.map xcat).sum ≤ 8) : ((rest.map (cv b)).map fun v => v.category).sum ≤ 8 := by
  have : (rest.map (cv b)).map (fun v => v.category) = rest.map xcat := by simp [Function.comp_def, xcat_ok]
  rw [this]
  exact h
set_option maxHeartbeats 1000000 in
theorem x_callV (hg : xG g cc own rm nL) {l : Launch} {b : Nat} {D : va_G} {cy : Nat → ClassId} {idx ci i na : Nat} {y : MethodName} {code : ByteArray} {maxL : Nat} {ret : Option FieldType} {rmc : Room} {As rest : List xV} {Post : xPost}
    (he : g.2.1 = l ∧ g.2.2.2.2.2.2.2.2.2.2.1 = b ∧ g.2.2.2.2.2.2.2.2.2.2.2.1 = D ∧ g.2.2.2.2.2.2.2.2.2.2.2.2.1 = cy) (d : decode cc pc = .ok (.invokevirtual idx, 3)) (hM : xMV own idx ci y code maxL ret na) (hC : xC l b D cy y code maxL ret rmc (xr i :: As) n M R Post)
    (ho : xO n i ci) (hn : As.length = na) (hst : st = As.reverse ++ xr i :: rest) (hrest : (rest.map xcat).sum ≤ 8) (hroom : rmc.frames + 1 ≤ rm.frames ∧ 8 + (maxL + 11) + rmc.locals ≤ rm.locals) (hcells : k + rmc.cells ≤ rm.cells ∧ w + rmc.slots ≤ rm.slots)
    (t : ∀ v n' M' R', Post v n' M' R' → xW g n' M' R' (k + rmc.cells) (w + rmc.slots) (pc + 3) ls (v.toList ++ rest)) : xW g n M R k w pc ls st := by
  obtain ⟨p, l', e, Rm, s, m, args, below, meth, c, b', D', cy', Q⟩ := g
  obtain ⟨rfl, rfl, rfl, rfl⟩ := he
  dsimp only at *
  obtain ⟨hx, hb, hown, hts, hK, hlk, hbs, hrm, hml⟩ := hg
  intro H locs lsA hW hS hv
  subst hrm
  obtain ⟨⟨q, hq, hyq⟩, m1, m2, m3, m4, m5, m6, m7⟩ := hM
  have hts2 : ∀ v ∈ lw_tbl.filter goodWord, v.before args s = true := fun v hv => hts v (List.mem_filter.mp hv).1 (List.mem_filter.mp hv).2
  obtain ⟨h1, h2, hl⟩ := ho
  have hobj := xWd_obj (D := D') (cy := cy') (b := b') (M := M) (R := R) h1 h2 hl
  have hcw : CallW Rm s args own y.cls idx y code maxL ret (xwords y code maxL ret) rmc rmc.cells rmc.slots na := ⟨callB_of na hts2 (xgood m5 m6) rfl rfl rfl (hts _ m4 rfl) (hts _ m1 rfl) m7 hroom, hts _ m2 rfl, hts _ m3 rfl⟩
  refine xcallk (rest := rest) (va_runV (cc := cc) (nL := nL) (Ts := lw_tbl.filter goodWord) (As := As.map (cv b')) (b := b' + i) ⟨hx, hb, hml, hown, hts2⟩ hC hcw ⟨xblind (as := xr i :: As), ?_, fun U hU hWm => ⟨rfl, by rw [hU]; exact hW, xK_warm hK hWm⟩⟩ rfl (by rw [List.length_map]; exact hn) (hv.1.trans hml) (by rw [hst]; simp [cv]) (lv_room (xcats b' rest hrest)) d hcells) hS
    (fun v n' M' R' H1 locs1 hp hw1 hS1 => t v n' M' R' hp H1 locs1 lsA hw1 hS1 hv)
  have := va_recv (q := q) hK.1 hW.2 hq hobj
  rw [← hyq] at this
  exact this
set_option maxHeartbeats 1000000 in
theorem x_callS (hg : xG g cc own rm nL) {l : Launch} {b : Nat} {D : va_G} {cy : Nat → ClassId} {idx na : Nat} {y : MethodName} {code : ByteArray} {maxL : Nat} {ret : Option FieldType} {rmc : Room} {As rest : List xV} {Post : xPost}
    (he : g.2.1 = l ∧ g.2.2.2.2.2.2.2.2.2.2.1 = b ∧ g.2.2.2.2.2.2.2.2.2.2.2.1 = D ∧ g.2.2.2.2.2.2.2.2.2.2.2.2.1 = cy) (d : decode cc pc = .ok (.invokestatic idx, 3)) (hM : xMS own idx y code maxL ret na) (hC : xC l b D cy y code maxL ret rmc As n M R Post)
    (hn : As.length = na) (hst : st = As.reverse ++ rest) (hrest : (rest.map xcat).sum ≤ 8) (hroom : rmc.frames + 1 ≤ rm.frames ∧ 8 + (maxL + 11) + rmc.locals ≤ rm.locals) (hcells : k + rmc.cells ≤ rm.cells ∧ w + rmc.slots ≤ rm.slots)
    (t : ∀ v n' M' R', Post v n' M' R' → xW g n' M' R' (k + rmc.cells) (w + rmc.slots) (pc + 3) ls (v.toList ++ rest)) : xW g n M R k w pc ls st := by
  obtain ⟨p, l', e, Rm, s, m, args, below, meth, c, b', D', cy', Q⟩ := g
  obtain ⟨rfl, rfl, rfl, rfl⟩ := he
  dsimp only at *
  obtain ⟨hx, hb, hown, hts, hK, hlk, hbs, hrm, hml⟩ := hg
  intro H locs lsA hW hS hv
  subst hrm
  obtain ⟨m1, m2, m4, m5, m6, m7⟩ := hM
  have hts2 : ∀ v ∈ lw_tbl.filter goodWord, v.before args s = true := fun v hv => hts v (List.mem_filter.mp hv).1 (List.mem_filter.mp hv).2
  have hcw : CallB Rm s args own idx y code maxL ret (xwords y code maxL ret) rmc rmc.cells rmc.slots na ∧ (Cond.static y).before args s = true := ⟨callB_of na hts2 (xgood m5 m6) rfl rfl rfl (hts _ m4 rfl) (hts _ m1 rfl) m7 hroom, hts _ m2 rfl⟩
  exact xcallk (rest := rest) (va_runS (cc := cc) (nL := nL) (Ts := lw_tbl.filter goodWord) (As := As.map (cv b')) ⟨hx, hb, hml, hown, hts2⟩ hC hcw ⟨xblind (as := As), fun U hU hWm => ⟨rfl, by rw [hU]; exact hW, xK_warm hK hWm⟩⟩ rfl (by rw [List.length_map]; exact hn) (hv.1.trans hml) (by rw [hst]; simp) (lv_room (xcats b' rest hrest)) d hcells) hS
    (fun v n' M' R' H1 locs1 hp hw1 hS1 => t v n' M' R' hp H1 locs1 lsA hw1 hS1 hv)
theorem x_iret (hg : xG g cc own rm nL) {ret : Option FieldType} {Post : xPost} {mc ms : Nat} {nm : String} {z : Int} (hr : xRet g ret Post mc ms nm) (hret : ret = some .int ∨ (ret = some .boolean ∧ (z = 0 ∨ z = 1))) (d : decode cc pc = .ok (.ireturn, 1)) (hk : k ≤ mc) (hw : w ≤ ms) (hp : Post (some (xi z)) n M R) : xW g n M R k w pc ls [xi z] := by
  obtain ⟨p, l, e, Rm, s, m, args, below, meth, c, b, D, cy, Q⟩ := g
  obtain ⟨hx, hb, hown, hts, hK, hlk, hbs, hrm, hml⟩ := hg
  obtain ⟨hr, hQ, hnm⟩ := hr
  intro H locs lsA hW hS hv
  subst hQ
  refine W.widen (k := mc) (n := ms) hk hw ?_
  obtain ⟨ty, hty, hnar⟩ : ∃ ty, ret = some ty ∧ narrow ty (.int (Int32.ofInt z)) = .int (Int32.ofInt z) := by
    rcases hret with rfl | ⟨rfl, rfl | rfl⟩
    · exact ⟨_, rfl, rfl⟩
    · exact ⟨_, rfl, rfl⟩
    · exact ⟨_, rfl, rfl⟩
  subst hty
  exact W.zret (v := Int32.ofInt z) hx hb hr hnar (fun t ht hWm => ⟨⟨some (xi z), n, M, R, rfl, hp, by rw [ht]; exact hW⟩, hS.F ht⟩) hS.2.2 d hlk
theorem x_lret (hg : xG g cc own rm nL) {Post : xPost} {mc ms : Nat} {nm : String} {z : Int} (hr : xRet g (some .long) Post mc ms nm) (d : decode cc pc = .ok (.lreturn, 1)) (hk : k ≤ mc) (hw : w ≤ ms) (hp : Post (some (xl z)) n M R) : xW g n M R k w pc ls [xl z] := by
  obtain ⟨p, l, e, Rm, s, m, args, below, meth, c, b, D, cy, Q⟩ := g
  obtain ⟨hx, hb, hown, hts, hK, hlk, hbs, hrm, hml⟩ := hg
  obtain ⟨hr, hQ, hnm⟩ := hr
  intro H locs lsA hW hS hv
  subst hQ
  refine W.widen (k := mc) (n := ms) hk hw ?_
  exact W.lret (v := Int64.ofInt z) hx hb hr (fun t ht hWm => ⟨⟨some (xl z), n, M, R, rfl, hp, by rw [ht]; exact hW⟩, hS.F ht⟩) hS.2.2 d hlk
theorem x_vret (hg : xG g cc own rm nL) {Post : xPost} {mc ms : Nat} {nm : String} (hr : xRet g none Post mc ms nm) (d : decode cc pc = .ok (.return_, 1)) (hk : k ≤ mc) (hw : w ≤ ms) (hp : Post none n M R) : xW g n M R k w pc ls [] := by
  obtain ⟨p, l, e, Rm, s, m, args, below, meth, c, b, D, cy, Q⟩ := g
  obtain ⟨hx, hb, hown, hts, hK, hlk, hbs, hrm, hml⟩ := hg
  obtain ⟨hr, hQ, hnm⟩ := hr
  intro H locs lsA hW hS hv
  subst hQ
  refine W.widen (k := mc) (n := ms) hk hw ?_
  exact W.vret hx hb hr (fun t ht hWm => ⟨⟨none, n, M, R, rfl, hp, by rw [ht]; exact hW⟩, hS.F ht⟩) hS.2.2 d hlk
/-- Math.max and Math.min -/
theorem x_max (hg : xG g cc own rm nL) {x y : Int} {idx : Nat} (d : decode cc pc = .ok (.invokestatic idx, 3)) (hl : Cond.methodLink own idx Lib.Math.max.name ∈ lw_tbl) (h1 : inR x) (h2 : inR y) (hroom : 1 ≤ rm.frames ∧ (st.map xcat).sum + 13 ≤ rm.locals) (hcells : k ≤ rm.cells ∧ w ≤ rm.slots) (t : xW g n M R k w (pc + 3) ls (xi (if x < y then y else x) :: st)) : xW g n M R k w pc ls (xi y :: xi x :: st) := by
  obtain ⟨p, l, e, Rm, s, m, args, below, meth, c, b, D, cy, Q⟩ := g
  obtain ⟨hx, hb, hown, hts, hK, hlk, hbs, hrm, hml⟩ := hg
  intro H locs lsA hW hS hv
  subst hrm
  have e1 : (st.map (cv b)).map (fun v => v.category) = st.map xcat := by simp [Function.comp_def, xcat_ok]
  refine va_mmax hx hb hv.1.symm hown (hts _ hl rfl) (hts _ (by decide +kernel) rfl) (hts _ (by decide +kernel) rfl) (hts _ (by decide +kernel) (by decide +kernel)) hroom.1 (by rw [e1]; exact hroom.2) hcells.1 hcells.2 d ?_
  have t2 := t H locs lsA hW hS hv
  rw [show (if Int32.ofInt x < Int32.ofInt y then Int32.ofInt y else Int32.ofInt x) = Int32.ofInt (if x < y then y else x) from ?_]
  · exact t2
  · by_cases h : x < y
    · rw [if_pos h, if_pos ((oi_lt h1 h2).mpr h)]
    · rw [if_neg h, if_neg (fun q => h ((oi_lt h1 h2).mp q))]
theorem x_min (hg : xG g cc own rm nL) {x y : Int} {idx : Nat} (d : decode cc pc = .ok (.invokestatic idx, 3)) (hl : Cond.methodLink own idx Lib.Math.min.name ∈ lw_tbl) (h1 : inR x) (h2 : inR y) (hroom : 1 ≤ rm.frames ∧ (st.map xcat).sum + 13 ≤ rm.locals) (hcells : k ≤ rm.cells ∧ w ≤ rm.slots) (t : xW g n M R k w (pc + 3) ls (xi (if y < x then y else x) :: st)) : xW g n M R k w pc ls (xi y :: xi x :: st) := by
  obtain ⟨p, l, e, Rm, s, m, args, below, meth, c, b, D, cy, Q⟩ := g
  obtain ⟨hx, hb, hown, hts, hK, hlk, hbs, hrm, hml⟩ := hg
  intro H locs lsA hW hS hv
  subst hrm
  have e1 : (st.map (cv b)).map (fun v => v.category) = st.map xcat := by simp [Function.comp_def, xcat_ok]
  refine va_mmin hx hb hv.1.symm hown (hts _ hl rfl) (hts _ (by decide +kernel) rfl) (hts _ (by decide +kernel) rfl) (hts _ (by decide +kernel) (by decide +kernel)) hroom.1 (by rw [e1]; exact hroom.2) hcells.1 hcells.2 d ?_
  have t2 := t H locs lsA hW hS hv
  rw [show (if Int32.ofInt y < Int32.ofInt x then Int32.ofInt y else Int32.ofInt x) = Int32.ofInt (if y < x then y else x) from ?_]
  · exact t2
  · by_cases h : y < x
    · rw [if_pos h, if_pos ((oi_lt h2 h1).mpr h)]
    · rw [if_neg h, if_neg (fun q => h ((oi_lt h2 h1).mp q))]
end XC
