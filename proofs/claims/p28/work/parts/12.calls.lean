/-! calls, throws, catches, over wx -/
section CA
variable {L : Launch} {rm r2 : Room} {G : GT} {A A1 : Nat → Prop} {H0 : Heap} {n0 : Nat} {cc bytes : ByteArray} {own : String} {E : WE} {H : Heap} {k n pc maxL nA idx : Nat} {lv lv' : List (Nat × Value)} {st rest As : List Value} {ret ret2 : Option FieldType} {nm : String} {Post Post2 : Heap → Option Value → Heap → Prop} {PX PX2 : Heap → String → Heap → Prop} {Pre : Heap → Prop} {y : MethodName}
/-- an exception of class Ex lies at q -/
def exAt : WE → Heap → Nat → String → Prop
  | (_, _, _, _, s, _, _, _, _, _, _, _, _), H, q, Ex => ∃ ce : Cell, H[q]? = some ce ∧ ce.vm = .none ∧ s.vm.findClass Ex = some ce.cls
def mhd (y : MethodName) (nA : Nat) : Prop := y.cls ≠ "java/lang/invoke/MethodHandle" ∧ y.cls ≠ "java/lang/invoke/VarHandle" ∧ (parseMethodDescriptor y.desc).map (fun d => d.parameters.length) = some nA
/-- rooms: the callee's within the caller's, at this place -/
def rok (rm r2 : Room) (maxL k n : Nat) : Prop := (r2.frames + 1 ≤ rm.frames ∧ 8 + (maxL + 11) + r2.locals ≤ rm.locals) ∧ k + r2.cells ≤ rm.cells ∧ n + r2.slots ≤ rm.slots
/-- what a return gives the caller -/
def kRet (E : WE) (H : Heap) (A1 : Nat → Prop) (Post2 : Heap → Option Value → Heap → Prop) (k n pc : Nat) (lv : List (Nat × Value)) (rest : List Value) : Prop :=
  ∀ (v : Option Value) (H1 : Heap), Post2 H v H1 → H.size ≤ H1.size → (∀ q : Nat, q < H.size → ¬ A1 q → H1[q]? = H[q]?) → wx E H1 k n pc lv (v.toList ++ rest)
def kThr (E : WE) (H : Heap) (A1 : Nat → Prop) (PX2 : Heap → String → Heap → Prop) (k n pc : Nat) (lv : List (Nat × Value)) : Prop :=
  ∀ (q : Nat) (Ex : String) (H1 : Heap), PX2 H Ex H1 → exAt E H1 q Ex → H.size ≤ H1.size → (∀ q : Nat, q < H.size → ¬ A1 q → H1[q]? = H[q]?) → wt E H1 k n pc lv q
theorem codeB {ws : List Cond} {s : State} {args : Array Value} (hts : ∀ w ∈ WALL, w.before args s = true) (hc : Cond.code y bytes maxL ret2 ∈ WALL) (hws : ws = Cond.code y bytes maxL ret2 :: WALL) : ∀ w ∈ ws, ∀ (a' : Array Value) (U : State), s.WarmedH U.vm → w.before a' U = true := by
  subst hws
  intro w hw a' U hW
  have h2 : w ∈ WALL := by
    rcases List.mem_cons.mp hw with rfl | h
    · exact hc
    · exact h
  exact word_at hW (good_of_word (WALL_good w h2)) (hts w h2)
theorem callB_ {s : State} {args : Array Value} (hts : ∀ w ∈ WALL, w.before args s = true) (hl : Cond.methodLink own idx y ∈ WALL) (hi : Cond.initialized y.cls ∈ WALL) (hc : Cond.code y bytes maxL ret2 ∈ WALL) (hy : mhd y nA) (hR : rok rm r2 maxL k n) :
    CallB rm s args own idx y bytes maxL ret2 (Cond.code y bytes maxL ret2 :: WALL) r2 r2.cells r2.slots nA := by
  refine ⟨rfl, rfl, hR.1.1, hR.1.2, codeB hts hc rfl, List.mem_cons_self, hts _ hc, hts _ hi, ⟨hy.1, hy.2.1⟩, fun sig h => ?_, hts _ hl⟩
  have h2 := hy.2.2
  rw [h] at h2
  exact (Option.some.inj h2).symm
theorem preS_ {s : State} {locs : List Loc} (hKt : Kt G s) (hKh : Kh G A s s.heap) (hS : va_S A s.heap H locs) (hA1 : ∀ q, A1 q → A q) (hfr : ∀ q, H.size ≤ q → A1 q) (hpre : Pre H) : PreS s H (ctP G A1 As Pre) As :=
  ⟨ctP_blind, fun U hU hW => ⟨rfl, hKt.warm hW, by rw [hU]; exact ((hKh.kept hS.2.1).narrow hA1).moved hW.alike, by rw [hU]; exact hfr, by rw [hU]; exact hpre⟩⟩
section Aft
variable {p : Program} {l : Launch} {e : Env} {R : Room} {s : State} {m : MethodId} {args : Array Value} {below : List Frame} {meth : Method} {c : Code} {locs : List Loc} {ls : Array Slot} {Q : State → Prop} {a : Array Value} {mc ms nL : Nat}
theorem w_after (hr : va_Run p l e R s m args below meth c H locs k n mc ms (F0 m pc ls st) rest (ctQ A1 Post2 a) A1) (hS : va_S A s.heap H locs) (hl : lv_has ls nL lv) (hA1 : ∀ q, A1 q → A q)
    (kk : kRet (p, l, e, R, s, m, args, below, meth, c, A, nL, Q) H A1 Post2 (k + mc) (n + ms) (pc + 3) lv rest) : W p l e R s m args below meth c H locs k n Q (F0 m pc ls st) := by
  intro T hT X
  obtain ⟨v, st₀, t, T', L9, h0, X', hL9, e1, e2, ⟨v2, hv, hp, hz, hk⟩, st9⟩ := hr T hT X
  cases hv
  rw [h0] at hz hk hp
  obtain ⟨t2, a1, b1⟩ := kk v T'.heap (by rw [e1]; exact hp) (by rw [e1]; exact hz) (fun q h1 h2 => by rw [e1]; exact hk q h1 h2) (locs ++ L9) ls
    ⟨Nat.le_trans hS.1 (by rw [e1]; exact hz), fun q h1 h2 => by rw [e1, hk q (Nat.lt_of_lt_of_le h1 hS.1) (fun z => h2 (hA1 q z))]; exact hS.2.1 q h1 h2, fun q hq => by
      rcases List.mem_append.mp hq with h | h
      · exact hS.2.2 q h
      · exact hA1 _ (hL9 q h)⟩ hl T' rfl X'
  exact ⟨t2, st9 t2 a1, b1⟩
theorem w_afterX (hr : vx_Run p l e R s m args below meth c H locs k n mc ms (F0 m pc ls st) rest (ctQ A1 Post2 a) (ctX A1 PX2) A1) (hS : va_S A s.heap H locs) (hl : lv_has ls nL lv) (hA1 : ∀ q, A1 q → A q)
    (kk : kRet (p, l, e, R, s, m, args, below, meth, c, A, nL, Q) H A1 Post2 (k + mc) (n + ms) (pc + 3) lv rest)
    (kx : kThr (p, l, e, R, s, m, args, below, meth, c, A, nL, Q) H A1 PX2 (k + mc) (n + ms) pc lv) : W p l e R s m args below meth c H locs k n Q (F0 m pc ls st) := by
  intro T hT X
  rcases hr T hT X with ⟨v, st₀, t, T', L9, h0, X', hL9, e1, e2, ⟨v2, hv, hp, hz, hk⟩, st9⟩ | ⟨q, st₀, t, T', L9, Ex, ce, h0, X', hL9, e1, e2, ⟨hp, hz, hk⟩, hce, hcv, hcl, st9⟩
  · cases hv
    rw [h0] at hz hk hp
    obtain ⟨t2, a1, b1⟩ := kk v T'.heap (by rw [e1]; exact hp) (by rw [e1]; exact hz) (fun q h1 h2 => by rw [e1]; exact hk q h1 h2) (locs ++ L9) ls
      ⟨Nat.le_trans hS.1 (by rw [e1]; exact hz), fun q h1 h2 => by rw [e1, hk q (Nat.lt_of_lt_of_le h1 hS.1) (fun z => h2 (hA1 q z))]; exact hS.2.1 q h1 h2, fun q hq => by
        rcases List.mem_append.mp hq with h | h
        · exact hS.2.2 q h
        · exact hA1 _ (hL9 q h)⟩ hl T' rfl X'
    exact ⟨t2, st9 t2 a1, b1⟩
  · rw [h0] at hz hk hp
    obtain ⟨t2, a1, b1⟩ := kx q Ex T'.heap (by rw [e1]; exact hp) ⟨ce, by rw [e1]; exact hce, hcv, hcl⟩ (by rw [e1]; exact hz) (fun q h1 h2 => by rw [e1]; exact hk q h1 h2) (locs ++ L9) ls rest
      ⟨Nat.le_trans hS.1 (by rw [e1]; exact hz), fun q h1 h2 => by rw [e1, hk q (Nat.lt_of_lt_of_le h1 hS.1) (fun z => h2 (hA1 q z))]; exact hS.2.1 q h1 h2, fun q hq => by
        rcases List.mem_append.mp hq with h | h
        · exact hS.2.2 q h
        · exact hA1 _ (hL9 q h)⟩ hl T' rfl X'
    exact ⟨t2, st9.trans a1, b1⟩
end Aft
theorem x_callS (F : fx L rm G A H0 n0 cc own E) (hC : Ct L y bytes maxL ret2 r2 G A1 As Pre Post2) (hl : Cond.methodLink own idx y ∈ WALL) (hs : Cond.static y ∈ WALL) (hi : Cond.initialized y.cls ∈ WALL) (hc : Cond.code y bytes maxL ret2 ∈ WALL) (hy : mhd y nA) (hR : rok rm r2 maxL k n) (hd : decode cc pc = .ok (.invokestatic idx, 3)) (hn : As.length = nA) (hst : st = As.reverse ++ rest) (hcat : (rest.map fun v => v.category).sum ≤ 8) (hA1 : ∀ q, A1 q → A q) (hfr : ∀ q, H.size ≤ q → A1 q) (hpre : Pre H)
    (kk : kRet E H A1 Post2 (k + r2.cells) (n + r2.slots) (pc + 3) lv rest) : wx E H k n pc lv st := by
  obtain ⟨p, l, e, R, s, m, args, below, meth, c, A9, nL, Q⟩ := E
  obtain ⟨⟨hx, hb, hml, hown, hts⟩, hL, hRR, hAA, hH0, hnL, hKt, hKh, hfr9, hlk⟩ := F
  subst hL hRR hAA hH0
  intro locs ls hS hlv
  exact w_after (va_runS ⟨hx, hb, hml, hown, hts⟩ hC ⟨callB_ hts hl hi hc hy hR, hts _ hs⟩ (preS_ hKt hKh hS hA1 hfr hpre) rfl hn hlv.1 hst (lv_room hcat) hd hR.2) hS hlv hA1 kk
theorem x_callV (F : fx L rm G A H0 n0 cc own E) {b ci : Nat} {fs : List Value} {r : vw_C} (hv : vt G b (.inr (ci, fs)) H) (hcl : vwCl[ci]? = some r) (hC : Ct L y bytes maxL ret2 r2 G A1 (.ref b :: As) Pre Post2) (hl : Cond.methodLink own idx y ∈ WALL) (hs : Cond.instanceMethod y ∈ WALL) (hse : Cond.selects r.1 y y ∈ WALL) (hi : Cond.initialized y.cls ∈ WALL) (hc : Cond.code y bytes maxL ret2 ∈ WALL) (hy : mhd y nA) (hR : rok rm r2 maxL k n) (hd : decode cc pc = .ok (.invokevirtual idx, 3)) (hn : As.length = nA) (hst : st = As.reverse ++ .ref b :: rest) (hcat : (rest.map fun v => v.category).sum ≤ 8) (hA1 : ∀ q, A1 q → A q) (hfr : ∀ q, H.size ≤ q → A1 q) (hpre : Pre H)
    (kk : kRet E H A1 Post2 (k + r2.cells) (n + r2.slots) (pc + 3) lv rest) : wx E H k n pc lv st := by
  obtain ⟨p, l, e, R, s, m, args, below, meth, c, A9, nL, Q⟩ := E
  obtain ⟨⟨hx, hb, hml, hown, hts⟩, hL, hRR, hAA, hH0, hnL, hKt, hKh, hfr9, hlk⟩ := F
  subst hL hRR hAA hH0
  intro locs ls hS hlv
  have hp := preS_ (As := .ref b :: As) hKt hKh hS hA1 hfr hpre
  exact w_after (va_runV ⟨hx, hb, hml, hown, hts⟩ hC ⟨callB_ hts hl hi hc hy hR, hts _ hs, hts _ hse⟩ ⟨hp.1, va_recv hKt.1 hv.P hcl (q0 := 0) rfl, hp.2⟩ rfl hn hlv.1 hst (lv_room hcat) hd hR.2) hS hlv hA1 kk
theorem x_callI (F : fx L rm G A H0 n0 cc own E) {b : Nat} (hC : Ct L y bytes maxL none r2 G A1 (.ref b :: As) Pre Post2) (hl : Cond.methodLink own idx y ∈ WALL) (hs : Cond.instanceMethod y ∈ WALL) (hi : Cond.initialized y.cls ∈ WALL) (hc : Cond.code y bytes maxL none ∈ WALL) (hyn : y.name = "<init>") (hy : mhd y nA) (hR : rok rm r2 maxL k n) (hd : decode cc pc = .ok (.invokespecial idx, 3)) (hn : As.length = nA) (hst : st = As.reverse ++ .ref b :: rest) (hcat : (rest.map fun v => v.category).sum ≤ 8) (hA1 : ∀ q, A1 q → A q) (hfr : ∀ q, H.size ≤ q → A1 q) (hpre : Pre H)
    (kk : kRet E H A1 Post2 (k + r2.cells) (n + r2.slots) (pc + 3) lv rest) : wx E H k n pc lv st := by
  obtain ⟨p, l, e, R, s, m, args, below, meth, c, A9, nL, Q⟩ := E
  obtain ⟨⟨hx, hb, hml, hown, hts⟩, hL, hRR, hAA, hH0, hnL, hKt, hKh, hfr9, hlk⟩ := F
  subst hL hRR hAA hH0
  intro locs ls hS hlv
  exact w_after (va_runI ⟨hx, hb, hml, hown, hts⟩ hC ⟨callB_ hts hl hi hc hy hR, hyn, hts _ hs⟩ (preS_ hKt hKh hS hA1 hfr hpre) rfl hn hlv.1 hst (lv_room hcat) hd hR.2) hS hlv hA1 kk
theorem cn_ {s : State} {args : Array Value} {host : String} (hts : ∀ w ∈ WALL, w.before args s = true) (hl : va_Nw (.methodLinkNest own idx y host) s) (hi : Cond.initialized y.cls ∈ WALL) (hc : Cond.code y bytes maxL ret2 ∈ WALL) (hy : mhd y nA) (hR : rok rm r2 maxL k n) :
    va_CN rm s args own idx y host bytes maxL ret2 (Cond.code y bytes maxL ret2 :: WALL) r2 r2.cells r2.slots nA := by
  refine va_cnB nA hts (fun w hw => ?_) rfl rfl rfl hl (hts _ hi) hy hR.1
  have h2 : w ∈ WALL := by
    rcases List.mem_cons.mp hw with rfl | h
    · exact hc
    · exact h
  exact ⟨h2, good_of_word (WALL_good w h2)⟩
theorem x_callIN (F : fx L rm G A H0 n0 cc own E) {b : Nat} {host : String} (hC : Ct L y bytes maxL none r2 G A1 (.ref b :: As) Pre Post2) (hl : Cond.methodLinkNest own idx y host ∈ nestW) (hs : Cond.instanceMethod y ∈ WALL) (hi : Cond.initialized y.cls ∈ WALL) (hc : Cond.code y bytes maxL none ∈ WALL) (hyn : y.name = "<init>") (hy : mhd y nA) (hR : rok rm r2 maxL k n) (hd : decode cc pc = .ok (.invokespecial idx, 3)) (hn : As.length = nA) (hst : st = As.reverse ++ .ref b :: rest) (hcat : (rest.map fun v => v.category).sum ≤ 8) (hA1 : ∀ q, A1 q → A q) (hfr : ∀ q, H.size ≤ q → A1 q) (hpre : Pre H)
    (kk : kRet E H A1 Post2 (k + r2.cells) (n + r2.slots) (pc + 3) lv rest) : wx E H k n pc lv st := by
  obtain ⟨p, l, e, R, s, m, args, below, meth, c, A9, nL, Q⟩ := E
  obtain ⟨⟨hx, hb, hml, hown, hts⟩, hL, hRR, hAA, hH0, hnL, hKt, hKh, hfr9, hlk⟩ := F
  subst hL hRR hAA hH0
  intro locs ls hS hlv
  exact w_after (va_runIN ⟨hx, hb, hml, hown, hts⟩ hC ⟨cn_ hts (hKt.2.1 _ hl) hi hc hy hR, hyn, hts _ hs⟩ (preS_ hKt hKh hS hA1 hfr hpre) rfl hn hlv.1 hst (lv_room hcat) hd hR.2) hS hlv hA1 kk
/-- calls of methods that may throw -/
theorem x_callVX (F : fx L rm G A H0 n0 cc own E) {b ci : Nat} {fs : List Value} {r : vw_C} (hv : vt G b (.inr (ci, fs)) H) (hcl : vwCl[ci]? = some r) (hC : Cx L y bytes maxL ret2 r2 G A1 (.ref b :: As) Pre Post2 PX2) (hl : Cond.methodLink own idx y ∈ WALL) (hs : Cond.instanceMethod y ∈ WALL) (hse : Cond.selects r.1 y y ∈ WALL) (hi : Cond.initialized y.cls ∈ WALL) (hc : Cond.code y bytes maxL ret2 ∈ WALL) (hy : mhd y nA) (hR : rok rm r2 maxL k n) (hd : decode cc pc = .ok (.invokevirtual idx, 3)) (hn : As.length = nA) (hst : st = As.reverse ++ .ref b :: rest) (hcat : (rest.map fun v => v.category).sum ≤ 8) (hA1 : ∀ q, A1 q → A q) (hfr : ∀ q, H.size ≤ q → A1 q) (hpre : Pre H)
    (kk : kRet E H A1 Post2 (k + r2.cells) (n + r2.slots) (pc + 3) lv rest) (kx : kThr E H A1 PX2 (k + r2.cells) (n + r2.slots) pc lv) : wx E H k n pc lv st := by
  obtain ⟨p, l, e, R, s, m, args, below, meth, c, A9, nL, Q⟩ := E
  obtain ⟨⟨hx, hb, hml, hown, hts⟩, hL, hRR, hAA, hH0, hnL, hKt, hKh, hfr9, hlk⟩ := F
  subst hL hRR hAA hH0
  intro locs ls hS hlv
  have hp := preS_ (As := .ref b :: As) hKt hKh hS hA1 hfr hpre
  exact w_afterX (vx_runV ⟨hx, hb, hml, hown, hts⟩ hC ⟨callB_ hts hl hi hc hy hR, hts _ hs, hts _ hse⟩ ⟨hp.1, va_recv hKt.1 hv.P hcl (q0 := 0) rfl, hp.2⟩ rfl hn hlv.1 hst (lv_room hcat) hd hR.2) hS hlv hA1 kk kx
/-- not caught: the caller's own exception -/
theorem x_out (F : fx L rm G A H0 n0 cc own E) (hX : fX rm A Post PX E) {q : Nat} {Ex : String} (hq : exAt E H q Ex) (hp : PX H0 Ex H) (hk : k ≤ rm.cells) (hn : n ≤ rm.slots) : wt E H k n pc lv q := by
  obtain ⟨p, l, e, R, s, m, args, below, meth, c, A9, nL, Q⟩ := E
  obtain ⟨⟨hx, hb, hml, hown, hts⟩, hL, hRR, hAA, hH0, hnL, hKt, hKh, hfr9, hlk⟩ := F
  obtain ⟨ce, h1, h2, h3⟩ := hq
  obtain ⟨hQ, hex⟩ := hX
  subst hAA hH0 hQ
  intro locs ls st hS hlv
  exact vx_out (fun x hx => absurd (hex x hx) id) hlk h1 h2 h3 (fun t ht hA => ⟨by rw [ht]; exact hp, hS.F ht⟩) hS.2.2 hk hn
theorem hat_of {s : State} {args : Array Value} {X : List Cond} (hKt : Kt G s) (hts : ∀ w ∈ WALL, w.before args s = true) (h1 : ∀ w ∈ X.filter goodWord, w ∈ WALL) (h2 : ∀ w ∈ X.filter (fun w => !goodWord w), w ∈ nestW) (h3 : ∀ w ∈ nestW, w.onTables = true) : ∀ w ∈ X, w.before args s = true :=
  vx_hat (B := nestW) (fun w hw => hts w (h1 w hw)) h2 (fun w hw => va_Nw.use (h3 w hw) (hKt.2.1 w hw))
end CA
