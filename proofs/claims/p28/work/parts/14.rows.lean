/-! more rows: what the lists' own code needs; pure calls; words of call sites in one -/
section RO
variable {L : Launch} {rm r2 : Room} {G : GT} {A A1 : Nat → Prop} {H0 : Heap} {n0 : Nat} {cc bytes : ByteArray} {own : String} {E : WE} {H : Heap} {k n pc maxL nA idx : Nat} {lv lv' : List (Nat × Value)} {st rest As : List Value} {ret ret2 : Option FieldType} {nm : String} {Post Post2 : Heap → Option Value → Heap → Prop} {PX PX2 : Heap → String → Heap → Prop} {Pre : Heap → Prop} {y : MethodName}
theorem x_alenE (F : fx L rm G A H0 n0 cc own E) (hd : decode cc pc = .ok (.arraylength, 1)) (kk : wx E H k n (pc + 1) lv (.int 0 :: st)) : wx E H k n pc lv (.ref G.2.2.1.1 :: st) := by
  obtain ⟨p, l, e, R, s, m, args, below, meth, c, A1, nL, Q⟩ := E
  obtain ⟨⟨hx, hb, hml, hown, hts⟩, hL, hR, hAA, hH0, hnL, hKt, hKh, hfr, hlk⟩ := F
  subst hAA hH0
  intro locs ls hS hl2
  exact va_tlen hx hb hKh.2.2.2.1 hS rfl hd (kk locs ls hS hl2)
theorem x_dup_x1 (F : fx L rm G A H0 n0 cc own E) {va vb : Value} (hd : decode cc pc = .ok (.dup_x1, 1)) (h1 : va.category = 1) (h2 : vb.category = 1) (kk : wx E H k n (pc + 1) lv (va :: vb :: va :: st)) : wx E H k n pc lv (va :: vb :: st) := by
  obtain ⟨p, l, e, R, s, m, args, below, meth, c, A1, nL, Q⟩ := E
  obtain ⟨⟨hx, hb, hml, hown, hts⟩, hL, hR, hAA, hH0, hnL, hKt, hKh, hfr, hlk⟩ := F
  intro locs ls hS hl2
  exact lv_dup_x1 hx hb hd h1 h2 (kk locs ls hS hl2)
theorem x_dup2_11 (F : fx L rm G A H0 n0 cc own E) {va vb : Value} (hd : decode cc pc = .ok (.dup2, 1)) (h1 : va.category = 1) (h2 : vb.category = 1) (kk : wx E H k n (pc + 1) lv (va :: vb :: va :: vb :: st)) : wx E H k n pc lv (va :: vb :: st) := by
  obtain ⟨p, l, e, R, s, m, args, below, meth, c, A1, nL, Q⟩ := E
  obtain ⟨⟨hx, hb, hml, hown, hts⟩, hL, hR, hAA, hH0, hnL, hKt, hKh, hfr, hlk⟩ := F
  intro locs ls hS hl2
  exact lv_dup2_11 hx hb hd h1 h2 (kk locs ls hS hl2)
theorem x_ishr (F : fx L rm G A H0 n0 cc own E) {x z : Int32} (hd : decode cc pc = .ok (.ishr, 1)) (kk : wx E H k n (pc + 1) lv (.int (x >>> (z &&& 31)) :: st)) : wx E H k n pc lv (.int z :: .int x :: st) := by
  obtain ⟨p, l, e, R, s, m, args, below, meth, c, A1, nL, Q⟩ := E
  obtain ⟨⟨hx, hb, hml, hown, hts⟩, hL, hR, hAA, hH0, hnL, hKt, hKh, hfr, hlk⟩ := F
  intro locs ls hS hl2
  exact lv_ishr hx hb hd (kk locs ls hS hl2)
theorem x_ldcM (F : fx L rm G A H0 n0 cc own E) (hl : Cond.classLink own idx "[Ljava/lang/Object;" ∈ WALL) (hd : decode cc pc = .ok (.ldc idx, 2)) (kk : wx E H k n (pc + 2) lv (.ref G.2.2.1.2 :: st)) : wx E H k n pc lv st := by
  obtain ⟨p, l, e, R, s, m, args, below, meth, c, A1, nL, Q⟩ := E
  obtain ⟨⟨hx, hb, hml, hown, hts⟩, hL, hR, hAA, hH0, hnL, hKt, hKh, hfr, hlk⟩ := F
  intro locs ls hS hl2
  exact va_ldcM hx hb hown (hts _ hl) hKt.2.2.2.2 hd (kk locs ls hS hl2)
theorem x_getC (F : fx L rm G A H0 n0 cc own E) {a N : Nat} {f : Nat → Option Nat} (hv : vt G a (.inl (G.2.1.2.2.1, N, .inr (.inr (.inr (.inr f))))) H) (hl : Cond.methodLink own idx ⟨"java/lang/Object", "getClass", "()Ljava/lang/Class;"⟩ ∈ WALL) (hde : Cond.declares ⟨"java/lang/Object", "getClass", "()Ljava/lang/Class;"⟩ ∈ nestW) (hse : Cond.selects "[Ljava/lang/Object;" ⟨"java/lang/Object", "getClass", "()Ljava/lang/Class;"⟩ ⟨"java/lang/Object", "getClass", "()Ljava/lang/Class;"⟩ ∈ WALL) (hi : Cond.instanceMethod ⟨"java/lang/Object", "getClass", "()Ljava/lang/Class;"⟩ ∈ WALL) (hna : Cond.native ⟨"java/lang/Object", "getClass", "()Ljava/lang/Class;"⟩ ∈ WALL) (hf : 1 ≤ rm.frames) (hlo : (st.map fun v => v.category).sum + 14 ≤ rm.locals) (hd : decode cc pc = .ok (.invokevirtual idx, 3)) (kk : wx E H k n (pc + 3) lv (.ref G.2.2.1.2 :: st)) : wx E H k n pc lv (.ref a :: st) := by
  obtain ⟨p, l, e, R, s, m, args, below, meth, c, A1, nL, Q⟩ := E
  obtain ⟨⟨hx, hb, hml, hown, hts⟩, hL, hR, hAA, hH0, hnL, hKt, hKh, hfr, hlk⟩ := F
  subst hR
  intro locs ls hS hl2
  exact va_getC hx hb (hml.trans hl2.1.symm) hown (hts _ hl) (va_Nw.use rfl (hKt.2.1 _ hde)) (hts _ hse) (hts _ hi) (hts _ hna) hKt.2.2.2.2 ⟨_, hv, rfl, (hKt.1.2 2 _ rfl).2.choose_spec.choose_spec.2.2.2⟩ hf hlo hd (kk locs ls hS hl2)
theorem x_newq (F : fx L rm G A H0 n0 cc own E) (hl : Cond.classLink own idx "java/lang/Object" ∈ WALL) {z : Int32} {N' : Nat} (hn0 : ¬ z < 0) (hN : z.toNatClampNeg = N') (hby : N' * 4 ≤ 536870912) (hk : k + 1 ≤ rm.cells) (hns : n + N' ≤ rm.slots) (hd : decode cc pc = .ok (.anewarray idx, 3))
    (kk : ∀ H1 : Heap, vt G H.size (.inl (G.2.1.2.2.1, N', .inr (.inr (.inr (.inr (fun _ => none)))))) H1 → hnew H H1 → wx E H1 (k + 1) (n + N') (pc + 3) lv (.ref H.size :: st)) : wx E H k n pc lv (.int z :: st) := by
  obtain ⟨p, l, e, R, s, m, args, below, meth, c, A1, nL, Q⟩ := E
  obtain ⟨⟨hx, hb, hml, hown, hts⟩, hL, hR, hAA, hH0, hnL, hKt, hKh, hfr, hlk⟩ := F
  subst hR hN
  intro locs ls hS hl2
  refine W.anew hx hb hown (hts _ hl) (va_AO.use hKt.2.2.2.1) rfl hd rfl hn0 hby hk hns fun cA kA comp f1 f2 f3 f4 => ?_
  have e1 : cA = G.2.1.2.2.1 := by
    obtain ⟨kA2, comp2, -, -, -, h5⟩ := (hKt.1.2 2 _ rfl).2
    exact Option.some.inj (f1.symm.trans h5)
  subst e1
  have hn1 : hnew H (H.push ({ cls := G.2.1.2.2.1, slots := Array.replicate z.toNatClampNeg .null, vm := .none } : Cell)) := ⟨Array.size_push .., fun q hq => by rw [Array.getElem?_push, if_neg (Nat.ne_of_lt hq)]⟩
  refine kk _ ?_ hn1 locs ls (va_S.new hS hn1) hl2
  show (H.push _)[H.size]? = some (vp_cell _ _)
  rw [vp_cell_q, Array.getElem?_push_size, ← arrV_new]
  rfl
theorem x_copyq (F : fx L rm G A H0 n0 cc own E) (hl : Cond.methodLink own idx arraycopyName ∈ WALL) (hna : Cond.native arraycopyName ∈ WALL) (hst : Cond.static arraycopyName ∈ WALL) (hini : Cond.initialized "java/lang/System" ∈ WALL) {ws : va_W} (hP : va_P G.1 vwCl ws H) (hD : va_D A ws) (q0 q1 : Nat) {a0 a n1 n2 : Nat} {f g : Nat → Option Nat} (ha0 : ws[q0]? = some (a0, .inl (G.2.1.2.2.1, n1, .inr (.inr (.inr (.inr f)))))) (ha1 : ws[q1]? = some (a, .inl (G.2.1.2.2.1, n2, .inr (.inr (.inr (.inr g)))))) {sp dp z : Int32} (h1 : ¬ sp < 0) (h2 : ¬ dp < 0) (h3 : ¬ z < 0) (h4 : sp.toNatClampNeg + z.toNatClampNeg ≤ n1) (h5 : dp.toNatClampNeg + z.toNatClampNeg ≤ n2) (hel : ∀ s : State, Kt G s → ∀ i : Nat, i < z.toNatClampNeg → ∀ y : Nat, f (sp.toNatClampNeg + i) = some y → va_Any "java/lang/Object" s H y)
    (hf : 1 ≤ rm.frames) (hlo : (st.map fun v => v.category).sum + (nativeFrameWords "java/lang/System" "arraycopy" 5 + 11) ≤ rm.locals) (hd : decode cc pc = .ok (.invokestatic idx, 3))
    (kk : ∀ H1 : Heap, va_P G.1 vwCl (ws.set q1 (a, .inl (G.2.1.2.2.1, n2, .inr (.inr (.inr (.inr (va_cpy f g sp.toNatClampNeg dp.toNatClampNeg z.toNatClampNeg))))))) H1 → va_D A (ws.set q1 (a, .inl (G.2.1.2.2.1, n2, .inr (.inr (.inr (.inr (va_cpy f g sp.toNatClampNeg dp.toNatClampNeg z.toNatClampNeg))))))) → wx E H1 k n (pc + 3) lv st) : wx E H k n pc lv (.int z :: .int dp :: .ref a :: .int sp :: .ref a0 :: st) := by
  obtain ⟨p, l, e, R, s, m, args, below, meth, c, A1, nL, Q⟩ := E
  obtain ⟨⟨hx, hb, hml, hown, hts⟩, hL, hR, hAA, hH0, hnL, hKt, hKh, hfr, hlk⟩ := F
  subst hR hAA hH0
  intro locs ls hS hl2
  exact va_copyM hx hb (hml.trans hl2.1.symm) hown (hts _ hl) (hts _ hna) (hts _ hst) (hts _ hini) hKt.1 hP hD hS q0 q1 2 2 ha0 ha1 rfl rfl h1 h2 h3 h4 h5 (hel s hKt) hf hlo hd (fun H1 locs1 hP1 hD1 hS1 => kk H1 hP1 hD1 locs1 ls hS1 hl2)
theorem x_objInit (F : fx L rm G A H0 n0 cc own E) {a : Nat} (hl : Cond.methodLink own idx Lib.objectInit ∈ WALL) (hi : Cond.instanceMethod Lib.objectInit ∈ WALL) (hc : Cond.code Lib.objectInit ⟨#[0xb1]⟩ 1 none ∈ WALL) (hd : decode cc pc = .ok (.invokespecial idx, 3)) (hf : 1 ≤ rm.frames) (hlo : (st.map fun v => v.category).sum + 12 ≤ rm.locals) (kk : wx E H k n (pc + 3) lv st) : wx E H k n pc lv (.ref a :: st) := by
  obtain ⟨p, l, e, R, s, m, args, below, meth, c, A1, nL, Q⟩ := E
  obtain ⟨⟨hx, hb, hml, hown, hts⟩, hL, hR, hAA, hH0, hnL, hKt, hKh, hfr, hlk⟩ := F
  subst hR
  intro locs ls hS hl2
  refine W.objInit hx hb hown (hts _ hl) (hts _ hi) (hts _ hc) rfl (hl2.1.trans hml.symm) rfl hd hf (by show 0 + _ + 12 ≤ _; omega) ?_
  exact kk locs ls hS hl2
/-- the words of a call site -/
def cwS_ (own : String) (idx : Nat) (y : MethodName) (bytes : ByteArray) (maxL : Nat) (ret : Option FieldType) (nA : Nat) : Prop := Cond.methodLink own idx y ∈ WALL ∧ Cond.static y ∈ WALL ∧ Cond.initialized y.cls ∈ WALL ∧ Cond.code y bytes maxL ret ∈ WALL ∧ mhd y nA
def cwV_ (own : String) (idx : Nat) (C : String) (y : MethodName) (bytes : ByteArray) (maxL : Nat) (ret : Option FieldType) (nA : Nat) : Prop := Cond.methodLink own idx y ∈ WALL ∧ Cond.instanceMethod y ∈ WALL ∧ Cond.selects C y y ∈ WALL ∧ Cond.initialized y.cls ∈ WALL ∧ Cond.code y bytes maxL ret ∈ WALL ∧ mhd y nA
/-- a method that gives v and changes nothing -/
def Pu (v : Value) : Heap → Option Value → Heap → Prop := fun H r H1 => r = some v ∧ H1 = H
def rfr (rm r2 : Room) (maxL : Nat) : Prop := r2.frames + 1 ≤ rm.frames ∧ 8 + (maxL + 11) + r2.locals ≤ rm.locals ∧ r2.cells = 0 ∧ r2.slots = 0
theorem fr_of (F : fx L rm G A H0 n0 cc own E) (h : ∀ (_ : ∀ q, H.size ≤ q → A q), wx E H k n pc lv st) : wx E H k n pc lv st := by
  obtain ⟨p, l, e, R, s, m, args, below, meth, c, A1, nL, Q⟩ := E
  obtain ⟨-, hL, hR, hAA, hH0, hnL, hKt, hKh, hfr, hlk⟩ := F
  subst hAA hH0
  intro locs ls hS hl2
  exact h (fun q hq => hfr q (Nat.le_trans hS.1 hq)) locs ls hS hl2
theorem x_callSp (F : fx L rm G A H0 n0 cc own E) {v : Value} (hC : Ct L y bytes maxL ret2 r2 G A As Pre (Pu v)) (cw : cwS_ own idx y bytes maxL ret2 nA) (hR : rfr rm r2 maxL) (hk : k ≤ rm.cells) (hn : n ≤ rm.slots) (hd : decode cc pc = .ok (.invokestatic idx, 3)) (hnA : As.length = nA) (hst : st = As.reverse ++ rest) (hcat : (rest.map fun v => v.category).sum ≤ 8) (hpre : Pre H) (kk : wx E H k n (pc + 3) lv (v :: rest)) : wx E H k n pc lv st := by
  refine fr_of F fun hfr => x_callS F hC cw.1 cw.2.1 cw.2.2.1 cw.2.2.2.1 cw.2.2.2.2 ⟨⟨hR.1, hR.2.1⟩, by rw [hR.2.2.1]; exact hk, by rw [hR.2.2.2]; exact hn⟩ hd hnA hst hcat (fun _ h => h) hfr hpre ?_
  rintro r H1 ⟨rfl, rfl⟩ - -
  rw [hR.2.2.1, hR.2.2.2]
  exact kk
theorem x_callVp (F : fx L rm G A H0 n0 cc own E) {b ci : Nat} {fs : List Value} {r : vw_C} {v : Value} (hv : vt G b (.inr (ci, fs)) H) (hcl : vwCl[ci]? = some r) (hC : Ct L y bytes maxL ret2 r2 G A (.ref b :: As) Pre (Pu v)) (cw : cwV_ own idx r.1 y bytes maxL ret2 nA) (hR : rfr rm r2 maxL) (hk : k ≤ rm.cells) (hn : n ≤ rm.slots) (hd : decode cc pc = .ok (.invokevirtual idx, 3)) (hnA : As.length = nA) (hst : st = As.reverse ++ .ref b :: rest) (hcat : (rest.map fun v => v.category).sum ≤ 8) (hpre : Pre H) (kk : wx E H k n (pc + 3) lv (v :: rest)) : wx E H k n pc lv st := by
  refine fr_of F fun hfr => x_callV F hv hcl hC cw.1 cw.2.1 cw.2.2.1 cw.2.2.2.1 cw.2.2.2.2.1 cw.2.2.2.2.2 ⟨⟨hR.1, hR.2.1⟩, by rw [hR.2.2.1]; exact hk, by rw [hR.2.2.2]; exact hn⟩ hd hnA hst hcat (fun _ h => h) hfr hpre ?_
  rintro r H1 ⟨rfl, rfl⟩ - -
  rw [hR.2.2.1, hR.2.2.2]
  exact kk
/-- calls that may change the world; the same A -/
theorem x_callSs (F : fx L rm G A H0 n0 cc own E) (hC : Ct L y bytes maxL ret2 r2 G A As Pre Post2) (cw : cwS_ own idx y bytes maxL ret2 nA) (hR : rok rm r2 maxL k n) (hd : decode cc pc = .ok (.invokestatic idx, 3)) (hnA : As.length = nA) (hst : st = As.reverse ++ rest) (hcat : (rest.map fun v => v.category).sum ≤ 8) (hpre : Pre H) (kk : kRet E H A Post2 (k + r2.cells) (n + r2.slots) (pc + 3) lv rest) : wx E H k n pc lv st :=
  fr_of F fun hfr => x_callS F hC cw.1 cw.2.1 cw.2.2.1 cw.2.2.2.1 cw.2.2.2.2 hR hd hnA hst hcat (fun _ h => h) hfr hpre kk
theorem x_callVs (F : fx L rm G A H0 n0 cc own E) {b ci : Nat} {fs : List Value} {r : vw_C} (hv : vt G b (.inr (ci, fs)) H) (hcl : vwCl[ci]? = some r) (hC : Ct L y bytes maxL ret2 r2 G A (.ref b :: As) Pre Post2) (cw : cwV_ own idx r.1 y bytes maxL ret2 nA) (hR : rok rm r2 maxL k n) (hd : decode cc pc = .ok (.invokevirtual idx, 3)) (hnA : As.length = nA) (hst : st = As.reverse ++ .ref b :: rest) (hcat : (rest.map fun v => v.category).sum ≤ 8) (hpre : Pre H) (kk : kRet E H A Post2 (k + r2.cells) (n + r2.slots) (pc + 3) lv rest) : wx E H k n pc lv st :=
  fr_of F fun hfr => x_callV F hv hcl hC cw.1 cw.2.1 cw.2.2.1 cw.2.2.2.1 cw.2.2.2.2.1 cw.2.2.2.2.2 hR hd hnA hst hcat (fun _ h => h) hfr hpre kk
theorem x_aload_nN (F : fx L rm G A H0 n0 cc own E) {q : Fin 4} {i : Nat} (hd : decode cc pc = .ok (.aload_n q, 1)) (j : Nat) (hj : lv[j]? = some (i, .null)) (hi : (q : Nat) = i) (kk : wx E H k n (pc + 1) lv (.null :: st)) : wx E H k n pc lv st := by
  obtain ⟨p, l, e, R, s, m, args, below, meth, c, A1, nL, Q⟩ := E
  obtain ⟨⟨hx, hb, hml, hown, hts⟩, hL, hR, hAA, hH0, hnL, hKt, hKh, hfr, hlk⟩ := F
  intro locs ls hS hl
  exact lv_aload_nN hx hb hd hi (lv_at hl j hj) (kk locs ls hS hl)
theorem x_aloadN (F : fx L rm G A H0 n0 cc own E) {i : Nat} (hd : decode cc pc = .ok (.aload i, 2)) (j : Nat) (hj : lv[j]? = some (i, .null)) (kk : wx E H k n (pc + 2) lv (.null :: st)) : wx E H k n pc lv st := by
  obtain ⟨p, l, e, R, s, m, args, below, meth, c, A1, nL, Q⟩ := E
  obtain ⟨⟨hx, hb, hml, hown, hts⟩, hL, hR, hAA, hH0, hnL, hKt, hKh, hfr, hlk⟩ := F
  intro locs ls hS hl
  exact lv_aloadN hx hb hd (lv_at hl j hj) (kk locs ls hS hl)
theorem x_astore_nN (F : fx L rm G A H0 n0 cc own E) {q : Fin 4} {i : Nat} (hd : decode cc pc = .ok (.astore_n q, 1)) (hi : (q : Nat) = i) (hn : i < n0) (hl2 : (i, Value.null) :: lv.filter (fun q => !(q.1 == i) && !(q.1 + 1 == i && q.2.category == 2)) = lv') (kk : wx E H k n (pc + 1) lv' st) : wx E H k n pc lv (.null :: st) := by
  obtain ⟨p, l, e, R, s, m, args, below, meth, c, A1, nL, Q⟩ := E
  obtain ⟨⟨hx, hb, hml, hown, hts⟩, hL, hR, hAA, hH0, hnL, hKt, hKh, hfr, hlk⟩ := F
  intro locs ls hS hl
  exact lv_astore_nN hx hb hd hi hl (by rw [hnL]; exact hn) hl2 (fun ls2 hl3 => kk locs ls2 hS hl3)
theorem x_astoreN (F : fx L rm G A H0 n0 cc own E) {i : Nat} (hd : decode cc pc = .ok (.astore i, 2)) (hn : i < n0) (hl2 : (i, Value.null) :: lv.filter (fun q => !(q.1 == i) && !(q.1 + 1 == i && q.2.category == 2)) = lv') (kk : wx E H k n (pc + 2) lv' st) : wx E H k n pc lv (.null :: st) := by
  obtain ⟨p, l, e, R, s, m, args, below, meth, c, A1, nL, Q⟩ := E
  obtain ⟨⟨hx, hb, hml, hown, hts⟩, hL, hR, hAA, hH0, hnL, hKt, hKh, hfr, hlk⟩ := F
  intro locs ls hS hl
  exact lv_astoreN hx hb hd hl (by rw [hnL]; exact hn) hl2 (fun ls2 hl3 => kk locs ls2 hS hl3)
theorem x_mmax (F : fx L rm G A H0 n0 cc own E) (hl : Cond.methodLink own idx Lib.Math.max.name ∈ WALL) (hs : Cond.static Lib.Math.max.name ∈ WALL) (hi : Cond.initialized "java/lang/Math" ∈ WALL) (hc : Cond.code Lib.Math.max.name Lib.Math.max.code 2 (some .int) ∈ WALL) (hf : 1 ≤ rm.frames) (hlo : (st.map fun v => v.category).sum + 13 ≤ rm.locals) (hk : k ≤ rm.cells) (hn : n ≤ rm.slots) {x y : Int32} (hd : decode cc pc = .ok (.invokestatic idx, 3)) (kk : wx E H k n (pc + 3) lv (.int (if x < y then y else x) :: st)) : wx E H k n pc lv (.int y :: .int x :: st) := by
  obtain ⟨p, l, e, R, s, m, args, below, meth, c, A1, nL, Q⟩ := E
  obtain ⟨⟨hx, hb, hml, hown, hts⟩, hL, hR, hAA, hH0, hnL, hKt, hKh, hfr, hlk⟩ := F
  subst hR
  intro locs ls hS hlv
  exact va_mmax hx hb (hml.trans hlv.1.symm) hown (hts _ hl) (hts _ hs) (hts _ hi) (hts _ hc) hf hlo hk hn hd (kk locs ls hS hlv)
theorem x_mmin (F : fx L rm G A H0 n0 cc own E) (hl : Cond.methodLink own idx Lib.Math.min.name ∈ WALL) (hs : Cond.static Lib.Math.min.name ∈ WALL) (hi : Cond.initialized "java/lang/Math" ∈ WALL) (hc : Cond.code Lib.Math.min.name Lib.Math.min.code 2 (some .int) ∈ WALL) (hf : 1 ≤ rm.frames) (hlo : (st.map fun v => v.category).sum + 13 ≤ rm.locals) (hk : k ≤ rm.cells) (hn : n ≤ rm.slots) {x y : Int32} (hd : decode cc pc = .ok (.invokestatic idx, 3)) (kk : wx E H k n (pc + 3) lv (.int (if y < x then y else x) :: st)) : wx E H k n pc lv (.int y :: .int x :: st) := by
  obtain ⟨p, l, e, R, s, m, args, below, meth, c, A1, nL, Q⟩ := E
  obtain ⟨⟨hx, hb, hml, hown, hts⟩, hL, hR, hAA, hH0, hnL, hKt, hKh, hfr, hlk⟩ := F
  subst hR
  intro locs ls hS hlv
  exact va_mmin hx hb (hml.trans hlv.1.symm) hown (hts _ hl) (hts _ hs) (hts _ hi) (hts _ hc) hf hlo hk hn hd (kk locs ls hS hlv)
theorem x_aastN (F : fx L rm G A H0 n0 cc own E) {a N : Nat} {f : Nat → Option Nat} (hv : vt G a (.inl (G.2.1.2.2.1, N, .inr (.inr (.inr (.inr f))))) H) (hAa : A a) {i : Int32} (hin : vp_in i N) (hd : decode cc pc = .ok (.aastore, 1)) (kk : ∀ H1 : Heap, vt G a (.inl (G.2.1.2.2.1, N, .inr (.inr (.inr (.inr (va_up f i.toNatClampNeg none)))))) H1 → hset H a H1 → wx E H1 k n (pc + 1) lv st) : wx E H k n pc lv (.null :: .int i :: .ref a :: st) := by
  obtain ⟨p, l, e, R, s, m, args, below, meth, c, A1, nL, Q⟩ := E
  obtain ⟨⟨hx, hb, hml, hown, hts⟩, hL, hR, hAA, hH0, hnL, hKt, hKh, hfr, hlk⟩ := F
  subst hAA
  intro locs ls hS hl2
  refine va_WaastN (C := "java/lang/Object") hx hb hv ((hKt.1.2 2 _ rfl).1 N (fun j => va_rf (f j))) (fun h => by cases h) (by show ¬ (i < 0 ∨ (arrV _ _ _).slots.size ≤ _); rw [arrV_size]; exact hin) rfl rfl hd fun H1 e1 z oq => ?_
  refine kk H1 ?_ ⟨z, oq⟩ _ ls (hS.put z oq hAa) hl2
  show H1[a]? = some (vp_cell _ _)
  rw [e1]
  show some ((vp_cell _ _).setSlot _ _) = _
  rw [vp_cell_q, vp_cell_q, arrV_store]
  congr 2
  funext q
  by_cases hq : q = i.toNatClampNeg
  · subst hq
    simp [updV, va_up, va_rf]
  · simp [updV, va_up, hq]
theorem x_castS (F : fx L rm G A H0 n0 cc own E) {a ci N : Nat} {C : String} {T : u_T} {fs : List Value} (hv : vt G a (.inr (ci, fs)) H) (hc : vwCl[ci]? = some (C, T, N)) (hl : Cond.classLink own idx C ∈ WALL) (hd : decode cc pc = .ok (.checkcast idx, 3)) (kk : wx E H k n (pc + 3) lv (.ref a :: st)) : wx E H k n pc lv (.ref a :: st) := by
  obtain ⟨p, l, e, R, s, m, args, below, meth, c, A1, nL, Q⟩ := E
  obtain ⟨⟨hx, hb, hml, hown, hts⟩, hL, hR, hAA, hH0, hnL, hKt, hKh, hfr, hlk⟩ := F
  intro locs ls hS hl2
  obtain ⟨r, h1, cell, q1, q2, q3, q4⟩ := hv
  obtain rfl : r = (C, T, N) := Option.some.inj (h1.symm.trans hc)
  exact va_castS hx hb hown (hts _ hl) (hKt.1.1 ci _ hc).2 ⟨cell, q1, by rw [q3]; rfl, by rw [q2]; exact (hKt.1.1 ci _ hc).2.1⟩ hd (kk locs ls hS hl2)
theorem loop_dn {N : Nat} {P : Nat → Prop} (hend : P N) (hstep : ∀ i, i < N → P (i + 1) → P i) : ∀ i, i ≤ N → P i := by
  intro i hi
  obtain ⟨j, rfl⟩ : ∃ j, N = i + j := ⟨N - i, by omega⟩
  clear hi
  induction j generalizing i with
  | zero => exact hend
  | succ j ih => exact hstep i (by omega) (ih (i + 1) (by rw [Nat.add_right_comm, Nat.add_assoc]; exact hend) (fun a ha hp => hstep a (by omega) hp))
def bI (P : Prop) [Decidable P] : Int32 := if P then 1 else 0
theorem bI_t {P : Prop} [Decidable P] (h : P) : bI P = 1 := if_pos h
theorem bI_f {P : Prop} [Decidable P] (h : ¬ P) : bI P = 0 := if_neg h
theorem bI_0 {P : Prop} [Decidable P] : bI P = 0 ↔ ¬ P := by
  by_cases h : P
  · rw [bI_t h]; exact ⟨fun q => absurd q (by decide), fun q => absurd h q⟩
  · rw [bI_f h]; exact ⟨fun _ => h, fun _ => rfl⟩
theorem bI_ne {P : Prop} [Decidable P] : ¬ bI P = 0 ↔ P := by
  rw [bI_0]; exact Decidable.not_not
theorem bI_nar {P : Prop} [Decidable P] : narrow .boolean (.int (bI P)) = .int (bI P) := by
  by_cases h : P
  · rw [bI_t h]; rfl
  · rw [bI_f h]; rfl
end RO
