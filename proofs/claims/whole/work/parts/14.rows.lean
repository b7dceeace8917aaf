/-! more rows: what the lists' own code needs; pure calls; words of call sites in one -/
section RO
variable {L : Launch} {rm r2 : Room} {G : GT} {A A1 : Nat → Prop} {H0 : Heap} {n0 : Nat} {cc bytes : ByteArray} {own : String} {E : WE} {H : Heap} {k n pc maxL nA idx : Nat} {lv lv' : List (Nat × Value)} {st rest As : List Value} {ret ret2 : Option FieldType} {nm : String} {Post Post2 : Heap → Option Value → Heap → Prop} {PX PX2 : Heap → String → Heap → Prop} {Pre : Heap → Prop} {y : MethodName}
theorem x_alenE (F : fx L rm G A H0 n0 cc own E) (hd : decode cc pc = .ok (.arraylength, 1)) (kk : wx E H k n (pc + 1) lv (.int 0 :: st)) : wx E H k n pc lv (.ref G.2.2.1.1 :: st) := by
  obtain ⟨p, l, e, R, s, m, args, below, meth, c, A1, nL, Q⟩ := E
  obtain ⟨⟨hx, hb, hml, hown, hts⟩, hL, hR, hAA, hH0, hnL, hKt, hKh, hfr, hlk⟩ := F
  subst hAA hH0
  intro locs ls hS hl2
  exact va_tlen hx hb hKh.2.2.2 hS rfl hd (kk locs ls hS hl2)
theorem x_dup_x1 (F : fx L rm G A H0 n0 cc own E) {va vb : Value} (hd : decode cc pc = .ok (.dup_x1, 1)) (h1 : va.category = 1) (h2 : vb.category = 1) (kk : wx E H k n (pc + 1) lv (va :: vb :: va :: st)) : wx E H k n pc lv (va :: vb :: st) := by
  obtain ⟨p, l, e, R, s, m, args, below, meth, c, A1, nL, Q⟩ := E
  obtain ⟨⟨hx, hb, hml, hown, hts⟩, hL, hR, hAA, hH0, hnL, hKt, hKh, hfr, hlk⟩ := F
  intro locs ls hS hl2
  exact lv_dup_x1 hx hb hd h1 h2 (kk locs ls hS hl2)
theorem x_dup2_11 (F : fx L rm G A H0 n0 cc own E) {va vb : Value} (hd : decode cc pc = .ok (.dup2, 1)) (h1 : va.category = 1) (h2 : vb.category = 1) (kk : wx E H k n (pc + 1) lv (va :: vb :: va :: vb :: st)) : wx E H k n pc lv (va :: vb :: st) := by
  obtain ⟨p, l, e, R, s, m, args, below, meth, c, A1, nL, Q⟩ := E
  obtain ⟨⟨hx, hb, hml, hown, hts⟩, hL, hR, hAA, hH0, hnL, hKt, hKh, hfr, hlk⟩ := F
  intro locs ls hS hl2
  exact lv_dup2_11 hx hb hd h1 h2 (kk locs ls hS hl2)
theorem x_ishr (F : fx L rm G A H0 n0 cc own E) {x z : Int32} (hd : decode cc pc = .ok (.ishr, 1)) (kk : wx E H k n (pc + 1) lv (.int (x >>> (z &&& 31)) :: st)) : wx E H k n pc lv (.int z :: .int x :: st) := by
  obtain ⟨p, l, e, R, s, m, args, below, meth, c, A1, nL, Q⟩ := E
  obtain ⟨⟨hx, hb, hml, hown, hts⟩, hL, hR, hAA, hH0, hnL, hKt, hKh, hfr, hlk⟩ := F
  intro locs ls hS hl2
  exact lv_ishr hx hb hd (kk locs ls hS hl2)
theorem x_ldcM (F : fx L rm G A H0 n0 cc own E) (hl : Cond.classLink own idx "[Ljava/lang/Object;" ∈ WALL) (hd : decode cc pc = .ok (.ldc idx, 2)) (kk : wx E H k n (pc + 2) lv (.ref G.2.2.1.2 :: st)) : wx E H k n pc lv st := by
  obtain ⟨p, l, e, R, s, m, args, below, meth, c, A1, nL, Q⟩ := E
  obtain ⟨⟨hx, hb, hml, hown, hts⟩, hL, hR, hAA, hH0, hnL, hKt, hKh, hfr, hlk⟩ := F
  intro locs ls hS hl2
  exact va_ldcM hx hb hown (hts _ hl) hKt.2.2.2.2.1 hd (kk locs ls hS hl2)
theorem x_getC (F : fx L rm G A H0 n0 cc own E) {a N : Nat} {f : Nat → Option Nat} (hv : vt G a (.inl (G.2.1.2.2.1, N, .inr (.inr (.inr (.inr f))))) H) (hl : Cond.methodLink own idx ⟨"java/lang/Object", "getClass", "()Ljava/lang/Class;"⟩ ∈ WALL) (hde : Cond.declares ⟨"java/lang/Object", "getClass", "()Ljava/lang/Class;"⟩ ∈ nestW) (hse : Cond.selects "[Ljava/lang/Object;" ⟨"java/lang/Object", "getClass", "()Ljava/lang/Class;"⟩ ⟨"java/lang/Object", "getClass", "()Ljava/lang/Class;"⟩ ∈ WALL) (hi : Cond.instanceMethod ⟨"java/lang/Object", "getClass", "()Ljava/lang/Class;"⟩ ∈ WALL) (hna : Cond.native ⟨"java/lang/Object", "getClass", "()Ljava/lang/Class;"⟩ ∈ WALL) (hf : 1 ≤ rm.frames) (hlo : (st.map fun v => v.category).sum + 14 ≤ rm.locals) (hd : decode cc pc = .ok (.invokevirtual idx, 3)) (kk : wx E H k n (pc + 3) lv (.ref G.2.2.1.2 :: st)) : wx E H k n pc lv (.ref a :: st) := by
  obtain ⟨p, l, e, R, s, m, args, below, meth, c, A1, nL, Q⟩ := E
  obtain ⟨⟨hx, hb, hml, hown, hts⟩, hL, hR, hAA, hH0, hnL, hKt, hKh, hfr, hlk⟩ := F
  subst hR
  intro locs ls hS hl2
  exact va_getC hx hb (hml.trans hl2.1.symm) hown (hts _ hl) (va_Nw.use rfl (hKt.2.1 _ hde)) (hts _ hse) (hts _ hi) (hts _ hna) hKt.2.2.2.2.1 ⟨_, hv, rfl, (hKt.1.2 2 _ rfl).2.choose_spec.choose_spec.2.2.2⟩ hf hlo hd (kk locs ls hS hl2)
theorem x_newq (F : fx L rm G A H0 n0 cc own E) (hl : Cond.classLink own idx "java/lang/Object" ∈ WALL) {ws : va_W} (hP : va_P G.1 vwCl ws H) (hD : va_D A ws) {z : Int32} {N' : Nat} (hn0 : ¬ z < 0) (hN : z.toNatClampNeg = N') (hby : N' * 4 ≤ 536870912) (hk : k + 1 ≤ rm.cells) (hns : n + N' ≤ rm.slots) (hd : decode cc pc = .ok (.anewarray idx, 3))
    (kk : ∀ (q : Nat) (H1 : Heap), va_P G.1 vwCl (ws ++ [(q, .inl (G.2.1.2.2.1, N', .inr (.inr (.inr (.inr (fun _ => none))))))]) H1 → va_D A (ws ++ [(q, .inl (G.2.1.2.2.1, N', .inr (.inr (.inr (.inr (fun _ => none))))))]) → wx E H1 (k + 1) (n + N') (pc + 3) lv (.ref q :: st)) : wx E H k n pc lv (.int z :: st) := by
  obtain ⟨p, l, e, R, s, m, args, below, meth, c, A1, nL, Q⟩ := E
  obtain ⟨⟨hx, hb, hml, hown, hts⟩, hL, hR, hAA, hH0, hnL, hKt, hKh, hfr, hlk⟩ := F
  subst hR hAA hH0
  intro locs ls hS hl2
  refine va_newq hx hb hown (hts _ hl) hKt.2.2.2.1 hKt.1 hP hD hS hfr hn0 hN hby hk hns hd (fun q cA H1 hK1 hP1 hD1 hS1 => ?_)
  have e1 : cA = G.2.1.2.2.1 := by
    obtain ⟨kA, comp, -, -, -, h4⟩ := (hK1.2 4 _ rfl).2
    obtain ⟨kA2, comp2, -, -, -, h5⟩ := (hKt.1.2 2 _ rfl).2
    exact Option.some.inj (h4.symm.trans h5)
  subst e1
  exact kk q H1 hP1 hD1 locs ls hS1 hl2
theorem x_copyq (F : fx L rm G A H0 n0 cc own E) (hl : Cond.methodLink own idx arraycopyName ∈ WALL) (hna : Cond.native arraycopyName ∈ WALL) (hst : Cond.static arraycopyName ∈ WALL) (hini : Cond.initialized "java/lang/System" ∈ WALL) {ws : va_W} (hP : va_P G.1 vwCl ws H) (hD : va_D A ws) (q0 q1 : Nat) {a0 a n1 n2 : Nat} {f g : Nat → Option Nat} (ha0 : ws[q0]? = some (a0, .inl (G.2.1.2.2.1, n1, .inr (.inr (.inr (.inr f)))))) (ha1 : ws[q1]? = some (a, .inl (G.2.1.2.2.1, n2, .inr (.inr (.inr (.inr g)))))) {sp dp z : Int32} (h1 : ¬ sp < 0) (h2 : ¬ dp < 0) (h3 : ¬ z < 0) (h4 : sp.toNatClampNeg + z.toNatClampNeg ≤ n1) (h5 : dp.toNatClampNeg + z.toNatClampNeg ≤ n2) (hel : ∀ s : State, Kt G s → ∀ i : Nat, i < z.toNatClampNeg → ∀ y : Nat, f (sp.toNatClampNeg + i) = some y → va_Any "java/lang/Object" s H y)
    (hf : 1 ≤ rm.frames) (hlo : (st.map fun v => v.category).sum + (nativeFrameWords "java/lang/System" "arraycopy" 5 + 11) ≤ rm.locals) (hd : decode cc pc = .ok (.invokestatic idx, 3))
    (kk : ∀ H1 : Heap, va_P G.1 vwCl (ws.set q1 (a, .inl (G.2.1.2.2.1, n2, .inr (.inr (.inr (.inr (va_cpy f g sp.toNatClampNeg dp.toNatClampNeg z.toNatClampNeg))))))) H1 → va_D A (ws.set q1 (a, .inl (G.2.1.2.2.1, n2, .inr (.inr (.inr (.inr (va_cpy f g sp.toNatClampNeg dp.toNatClampNeg z.toNatClampNeg))))))) → wx E H1 k n (pc + 3) lv st) : wx E H k n pc lv (.int z :: .int dp :: .ref a :: .int sp :: .ref a0 :: st) := by
  obtain ⟨p, l, e, R, s, m, args, below, meth, c, A1, nL, Q⟩ := E
  obtain ⟨⟨hx, hb, hml, hown, hts⟩, hL, hR, hAA, hH0, hnL, hKt, hKh, hfr, hlk⟩ := F
  subst hR hAA hH0
  intro locs ls hS hl2
  exact va_copyM hx hb (hml.trans hl2.1.symm) hown (hts _ hl) (hts _ hna) (hts _ hst) (hts _ hini) hKt.1 hP hD hS q0 q1 2 2 ha0 ha1 rfl rfl h1 h2 h3 h4 h5 (hel s hKt) hf hlo hd (fun H1 locs1 hP1 hD1 hS1 => kk H1 hP1 hD1 locs1 ls hS1 hl2)
theorem x_objInit (F : fx L rm G A H0 n0 cc own E) {a : Nat} (hl : Cond.methodLink own idx Lib.objectInit ∈ WALL) (hi : Cond.instanceMethod Lib.objectInit ∈ WALL) (hc : Cond.code Lib.objectInit ⟨#[0xb1]⟩ 1 none ∈ WALL) (hd : decode cc pc = .ok (.invokespecial idx, 3)) (hf : 1 ≤ rm.frames) (hlo : (st.map fun v => v.category).sum + 12 ≤ rm.locals) (kk : wx E H k n (pc + 3) lv st) : wx E H k n pc lv (.ref a :: st) := by
  obtain ⟨p, l, e, R, s, m, args, below, meth, c, A1, nL, Q⟩ := E
  obtain ⟨⟨hx, hb, hml, hown, hts⟩, hL, hR, hAA, hH0, hnL, hKt, hKh, hfr, hlk⟩ := F
  subst hR
  intro locs ls hS hl2
  refine W.objInit hx hb hown (hts _ hl) (hts _ hi) (hts _ hc) rfl (hl2.1.trans hml.symm) rfl hd hf (by show 0 + _ + 12 ≤ _; omega) ?_
  exact kk locs ls hS hl2
/-- the words of a call site -/
def cwS_ (own : String) (idx : Nat) (y : MethodName) (bytes : ByteArray) (maxL : Nat) (ret : Option FieldType) (nA : Nat) : Prop := Cond.methodLink own idx y ∈ WALL ∧ Cond.static y ∈ WALL ∧ Cond.initialized y.cls ∈ WALL ∧ Cond.code y bytes maxL ret ∈ WALL ∧ mhd y nA
def cwV_ (own : String) (idx : Nat) (C : String) (y : MethodName) (bytes : ByteArray) (maxL : Nat) (ret : Option FieldType) (nA : Nat) : Prop := Cond.methodLink own idx y ∈ WALL ∧ Cond.instanceMethod y ∈ WALL ∧ Cond.selects C y y ∈ WALL ∧ Cond.initialized y.cls ∈ WALL ∧ Cond.code y bytes maxL ret ∈ WALL ∧ mhd y nA
/-- a method that gives v and changes nothing -/
def Pu (v : Value) : Heap → Option Value → Heap → Prop := fun H r H1 => r = some v ∧ H1 = H
def rfr (rm r2 : Room) (maxL : Nat) : Prop := r2.frames + 1 ≤ rm.frames ∧ 8 + (maxL + 11) + r2.locals ≤ rm.locals ∧ r2.cells = 0 ∧ r2.slots = 0
theorem fr_of (F : fx L rm G A H0 n0 cc own E) (h : ∀ (_ : ∀ q, H.size ≤ q → A q), wx E H k n pc lv st) : wx E H k n pc lv st := by
  obtain ⟨p, l, e, R, s, m, args, below, meth, c, A1, nL, Q⟩ := E
  obtain ⟨-, hL, hR, hAA, hH0, hnL, hKt, hKh, hfr, hlk⟩ := F
  subst hAA hH0
  intro locs ls hS hl2
  exact h (fun q hq => hfr q (Nat.le_trans hS.1 hq)) locs ls hS hl2
theorem x_callSp (F : fx L rm G A H0 n0 cc own E) {v : Value} (hC : Ct L y bytes maxL ret2 r2 G A As Pre (Pu v)) (cw : cwS_ own idx y bytes maxL ret2 nA) (hR : rfr rm r2 maxL) (hk : k ≤ rm.cells) (hn : n ≤ rm.slots) (hd : decode cc pc = .ok (.invokestatic idx, 3)) (hnA : As.length = nA) (hst : st = As.reverse ++ rest) (hcat : (rest.map fun v => v.category).sum ≤ 8) (hpre : Pre H) (kk : wx E H k n (pc + 3) lv (v :: rest)) : wx E H k n pc lv st := by
  refine fr_of F fun hfr => x_callS F hC cw.1 cw.2.1 cw.2.2.1 cw.2.2.2.1 cw.2.2.2.2 ⟨⟨hR.1, hR.2.1⟩, by rw [hR.2.2.1]; exact hk, by rw [hR.2.2.2]; exact hn⟩ hd hnA hst hcat (fun _ h => h) hfr hpre ?_
  rintro r H1 ⟨rfl, rfl⟩ - -
  rw [hR.2.2.1, hR.2.2.2]
  exact kk
theorem x_callVp (F : fx L rm G A H0 n0 cc own E) {b ci : Nat} {fs : List Value} {r : vw_C} {v : Value} (hv : vt G b (.inr (ci, fs)) H) (hcl : vwCl[ci]? = some r) (hC : Ct L y bytes maxL ret2 r2 G A (.ref b :: As) Pre (Pu v)) (cw : cwV_ own idx r.1 y bytes maxL ret2 nA) (hR : rfr rm r2 maxL) (hk : k ≤ rm.cells) (hn : n ≤ rm.slots) (hd : decode cc pc = .ok (.invokevirtual idx, 3)) (hnA : As.length = nA) (hst : st = As.reverse ++ .ref b :: rest) (hcat : (rest.map fun v => v.category).sum ≤ 8) (hpre : Pre H) (kk : wx E H k n (pc + 3) lv (v :: rest)) : wx E H k n pc lv st := by
  refine fr_of F fun hfr => x_callV F hv hcl hC cw.1 cw.2.1 cw.2.2.1 cw.2.2.2.1 cw.2.2.2.2.1 cw.2.2.2.2.2 ⟨⟨hR.1, hR.2.1⟩, by rw [hR.2.2.1]; exact hk, by rw [hR.2.2.2]; exact hn⟩ hd hnA hst hcat (fun _ h => h) hfr hpre ?_
  rintro r H1 ⟨rfl, rfl⟩ - -
  rw [hR.2.2.1, hR.2.2.2]
  exact kk
/-- calls that may change the world; the same A -/
theorem x_callSs (F : fx L rm G A H0 n0 cc own E) (hC : Ct L y bytes maxL ret2 r2 G A As Pre Post2) (cw : cwS_ own idx y bytes maxL ret2 nA) (hR : rok rm r2 maxL k n) (hd : decode cc pc = .ok (.invokestatic idx, 3)) (hnA : As.length = nA) (hst : st = As.reverse ++ rest) (hcat : (rest.map fun v => v.category).sum ≤ 8) (hpre : Pre H) (kk : kRet E H A Post2 (k + r2.cells) (n + r2.slots) (pc + 3) lv rest) : wx E H k n pc lv st :=
  fr_of F fun hfr => x_callS F hC cw.1 cw.2.1 cw.2.2.1 cw.2.2.2.1 cw.2.2.2.2 hR hd hnA hst hcat (fun _ h => h) hfr hpre kk
theorem x_callVs (F : fx L rm G A H0 n0 cc own E) {b ci : Nat} {fs : List Value} {r : vw_C} (hv : vt G b (.inr (ci, fs)) H) (hcl : vwCl[ci]? = some r) (hC : Ct L y bytes maxL ret2 r2 G A (.ref b :: As) Pre Post2) (cw : cwV_ own idx r.1 y bytes maxL ret2 nA) (hR : rok rm r2 maxL k n) (hd : decode cc pc = .ok (.invokevirtual idx, 3)) (hnA : As.length = nA) (hst : st = As.reverse ++ .ref b :: rest) (hcat : (rest.map fun v => v.category).sum ≤ 8) (hpre : Pre H) (kk : kRet E H A Post2 (k + r2.cells) (n + r2.slots) (pc + 3) lv rest) : wx E H k n pc lv st :=
  fr_of F fun hfr => x_callV F hv hcl hC cw.1 cw.2.1 cw.2.2.1 cw.2.2.2.1 cw.2.2.2.2.1 cw.2.2.2.2.2 hR hd hnA hst hcat (fun _ h => h) hfr hpre kk
end RO
