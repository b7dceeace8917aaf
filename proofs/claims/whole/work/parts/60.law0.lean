/-! methods with handlers: their contracts, calls, catches; longs in an array -/
section LW0
/-- a contract of a method with handlers: it returns -/
def Cw (l : Launch) (y : MethodName) (cc : ByteArray) (maxL : Nat) (ret : Option FieldType) (hh : List (Nat × Nat × Nat × Nat)) (rm : Room) (G : GT) (A : Nat → Prop) (av : List Value) (Pre : Heap → Prop) (Post : Heap → Option Value → Heap → Prop) : Prop :=
  Met l y (.codeWith y cc maxL ret hh :: WALL) rm (ctP G A av Pre) (ctQ A Post) rm.cells rm.slots A
/-- the body's table -/
def fT (hh : List (Nat × Nat × Nat × Nat)) : WE → Prop
  | (_, _, _, _, _, _, _, _, _, c, _, _, _) => c.exceptionTable.toList = tableOf hh
set_option maxHeartbeats 1000000 in
theorem cw_of {l : Launch} {y : MethodName} {cc : ByteArray} {maxL : Nat} {ret : Option FieldType} {hh : List (Nat × Nat × Nat × Nat)} {rm : Room} {G : GT} {A : Nat → Prop} {av : List Value} {Pre : Heap → Prop} {Post : Heap → Option Value → Heap → Prop} {own : String} (hy : plainName y.cls = true) (hyo : y.cls = own) (hlen : (lg_sl av).length ≤ maxL)
    (body : ∀ (E : WE) (H0 : Heap), fx l rm G A H0 maxL cc own E → fe rm A Post ret y.name E → fT hh E → Pre H0 → wx E H0 0 0 0 (lv_args 0 av) []) : Cw l y cc maxL ret hh rm G A av Pre Post := by
  refine va_MetW (cc := cc) (maxL := maxL) (ret := ret) (hh := hh) hy rfl ?_
  intro p e s m args below meth c s₁ B hml hv
  obtain ⟨rfl, hKt, hKh, hfr, hpre⟩ := hv
  have hts := atoms_spec (ws := .codeWith y cc maxL ret hh :: WALL) B.pre
  have hown : s.vm.findClass own = some m.cls := by rw [← hyo]; exact findClass_of_methodNamed B.named
  have K := body (p, l, e, rm, s, m, av.toArray, below, meth, c, A, maxL, MQ below (ctQ A Post) av.toArray s rm.cells rm.slots A) s.heap ⟨⟨B.exec, B.bytes, hml, hown, fun w h => hts w (List.mem_cons_of_mem _ h)⟩, rfl, rfl, rfl, rfl, rfl, hKt, hKh, hfr, B.notSynchronized⟩ ⟨Or.inl rfl, B.returns, (name_of_methodNamed B.named B.method).1⟩ (vx_table (x := y) B (hts _ List.mem_cons_self)) hpre
  have hl := lv_entry av (n := maxL) hlen
  rw [lg_entry_eq]
  exact K [] _ va_S.rf hl
variable {L : Launch} {rm r2 : Room} {G : GT} {A A1 : Nat → Prop} {H0 : Heap} {n0 : Nat} {cc bytes : ByteArray} {own : String} {E : WE} {H H1 : Heap} {k n pc maxL nA idx : Nat} {lv lv' : List (Nat × Value)} {st rest As : List Value} {ret ret2 : Option FieldType} {hh : List (Nat × Nat × Nat × Nat)} {nm_ : String} {Post Post2 : Heap → Option Value → Heap → Prop} {PX PX2 : Heap → String → Heap → Prop} {Pre : Heap → Prop} {y : MethodName} {c : CS} {m : MS}
theorem x_callSW (F : fx L rm G A H0 n0 cc own E) (hC : Cw L y bytes maxL ret2 hh r2 G A1 As Pre Post2) (hl : Cond.methodLink own idx y ∈ WALL) (hs : Cond.static y ∈ WALL) (hi : Cond.initialized y.cls ∈ WALL) (hc : Cond.codeWith y bytes maxL ret2 hh ∈ WALL) (hy : mhd y nA) (hR : rok rm r2 maxL k n) (hd : decode cc pc = .ok (.invokestatic idx, 3)) (hn : As.length = nA) (hst : st = As.reverse ++ rest) (hcat : (rest.map fun v => v.category).sum ≤ 8) (hA1 : ∀ q, A1 q → A q) (hfr : ∀ q, H.size ≤ q → A1 q) (hpre : Pre H)
    (kk : kRet E H A1 Post2 (k + r2.cells) (n + r2.slots) (pc + 3) lv rest) : wx E H k n pc lv st := by
  obtain ⟨p, l, e, R, s, m, args, below, meth, c, A9, nL, Q⟩ := E
  obtain ⟨⟨hx, hb, hml, hown, hts⟩, hL, hRR, hAA, hH0, hnL, hKt, hKh, hfr9, hlk⟩ := F
  subst hL hRR hAA hH0
  intro locs ls hS hlv
  have hws : ∀ w ∈ Cond.codeWith y bytes maxL ret2 hh :: WALL, ∀ (a' : Array Value) (U : State), s.WarmedH U.vm → w.before a' U = true := by
    intro w hw a' U hW
    have h2 : w ∈ WALL := by
      rcases List.mem_cons.mp hw with rfl | h
      · exact hc
      · exact h
    exact word_at hW (good_of_word (WALL_good w h2)) (hts w h2)
  have cw : vx_CSW R s args own idx y bytes maxL ret2 hh (Cond.codeWith y bytes maxL ret2 hh :: WALL) r2 r2.cells r2.slots nA := by
    refine ⟨⟨rfl, rfl, hR.1.1, hR.1.2, hws, List.mem_cons_self⟩, hts _ hc, hts _ hi, ⟨hy.1, hy.2.1⟩, fun sig h => ?_, hts _ hl, hts _ hs⟩
    have h2 := hy.2.2
    rw [h] at h2
    exact (Option.some.inj h2).symm
  exact w_after (vx_runSW ⟨hx, hb, hml, hown, hts⟩ hC cw (preS_ hKt hKh hS hA1 hfr hpre) rfl hn hlv.1 hst (lv_room hcat) hd hR.2) hS hlv hA1 kk
/-- of two exceptions' classes: an exception of the one is none of the other -/
def notof (X Y : String) : Prop := (X = "java/lang/IllegalStateException" ∧ (Y = "java/lang/IllegalArgumentException" ∨ Y = "java/lang/IndexOutOfBoundsException")) ∨ (X = "java/lang/IllegalArgumentException" ∧ Y = "java/lang/IndexOutOfBoundsException")
theorem nc_of {s : State} (h : Kt G s) {X Y : String} (q : notof X Y) : va_Nc X Y s := by
  obtain ⟨-, -, -, -, -, h6, h7, h8⟩ := h
  rcases q with ⟨rfl, rfl | rfl⟩ | ⟨rfl, rfl⟩
  · exact h6
  · exact h7
  · exact h8
theorem x_caught (F : fx L rm G A H0 n0 cc own E) (hT : fT hh E) {q : Nat} {X : String} (hq : exAt E H q X) (pre : List ExceptionTableEntry) (x : ExceptionTableEntry) (suf : List ExceptionTableEntry) (hsp : tableOf hh = pre ++ x :: suf) (hpass : ∀ z ∈ pre, z.catchType ≠ 0 ∧ ∃ Y : String, Cond.classLink own z.catchType Y ∈ WALL ∧ notof X Y) (hx : covers x pc = true) (h0 : x.catchType ≠ 0) (hl : Cond.classLink own x.catchType X ∈ WALL) (hc : Cond.castable X X ∈ nestW) (kk : wx E H k n x.handlerPc lv [.ref q]) : wt E H k n pc lv q := by
  obtain ⟨p, l, e, R, s, m, args, below, meth, c, A9, nL, Q⟩ := E
  obtain ⟨⟨hx9, hb, hml, hown, hts⟩, hL, hRR, hAA, hH0, hnL, hKt, hKh, hfr9, hlk⟩ := F
  obtain ⟨ce, h1, h2, h3⟩ := hq
  intro locs ls st hS hlv
  exact vx_catch hown pre x suf (hT.trans hsp) (fun z hz => Or.inr ⟨(hpass z hz).1, (hpass z hz).2.imp (fun Y hY => ⟨hts _ hY.1, nc_of hKt hY.2⟩)⟩) hx h0 (hts _ hl) (va_Nw.use (nest_tab _ hc) (hKt.2.1 _ hc)) h1 h2 h3 (kk locs ls hS hlv)
theorem x_newaL (F : fx L rm G A H0 n0 cc own E) {z : Int32} {N' : Nat} (hn0 : ¬ z < 0) (hN : z.toNatClampNeg = N') (hby : N' * 8 ≤ 536870912) (hk : k + 1 ≤ rm.cells) (hns : n + N' ≤ rm.slots) (hd : decode cc pc = .ok (.newarray .long, 2))
    (kk : ∀ H1 : Heap, vt G H.size (.inl (G.2.1.2.2.2, N', .inr (.inl (fun _ => 0)))) H1 → hnew H H1 → wx E H1 (k + 1) (n + N') (pc + 2) lv (.ref H.size :: st)) : wx E H k n pc lv (.int z :: st) := by
  obtain ⟨p, l, e, R, s, m, args, below, meth, c, A1, nL, Q⟩ := E
  obtain ⟨⟨hx, hb, hml, hown, hts⟩, hL, hR, hAA, hH0, hnL, hKt, hKh, hfr, hlk⟩ := F
  subst hR
  intro locs ls hS hl2
  refine va_newaK (atype := .long) hx hb (hts _ mw_1093) rfl hd rfl hn0 hN (Nat.le_trans (Nat.mul_le_mul_left _ (by decide)) hby) hk hns rfl (fun H' cA g1 g2 g3 g4 g5 => ?_)
  obtain rfl : cA = G.2.1.2.2.2 := Option.some.inj (g5.symm.trans (hKt.1.2 3 _ rfl).2)
  have hn1 : hnew H H' := ⟨g2, g3⟩
  exact kk H' g1 hn1 locs ls (va_S.new hS hn1) hl2
theorem x_callVXo (F : fx L rm G A H0 n0 cc own E) {b ci : Nat} {fs : List Value} {r : vw_C} (hv : vt G b (.inr (ci, fs)) H) (hcl : vwCl[ci]? = some r) (hC : Cx L y bytes maxL ret2 r2 G A1 (.ref b :: As) Pre Post2 PX2) (cw : cwV_ own idx r.1 y bytes maxL ret2 nA) (hR : rok rm r2 maxL k n) (hd : decode cc pc = .ok (.invokevirtual idx, 3)) (hnA : As.length = nA) (hst : st = As.reverse ++ .ref b :: rest) (hcat : (rest.map fun v => v.category).sum ≤ 8) (hA1 : ∀ q, A1 q → A q) (hfr : ∀ q, H.size ≤ q → A1 q) (hpre : Pre H) (kx : kThr E H A1 PX2 (k + r2.cells) (n + r2.slots) pc lv) (kk : kRet E H A1 Post2 (k + r2.cells) (n + r2.slots) (pc + 3) lv rest) : wx E H k n pc lv st :=
  x_callVX F hv hcl hC cw.1 cw.2.1 cw.2.2.1 cw.2.2.2.1 cw.2.2.2.2.1 cw.2.2.2.2.2 hR hd hnA hst hcat hA1 hfr hpre kk kx
theorem x_callVo (F : fx L rm G A H0 n0 cc own E) {b ci : Nat} {fs : List Value} {r : vw_C} (hv : vt G b (.inr (ci, fs)) H) (hcl : vwCl[ci]? = some r) (hC : Ct L y bytes maxL ret2 r2 G A1 (.ref b :: As) Pre Post2) (cw : cwV_ own idx r.1 y bytes maxL ret2 nA) (hR : rok rm r2 maxL k n) (hd : decode cc pc = .ok (.invokevirtual idx, 3)) (hnA : As.length = nA) (hst : st = As.reverse ++ .ref b :: rest) (hcat : (rest.map fun v => v.category).sum ≤ 8) (hA1 : ∀ q, A1 q → A q) (hfr : ∀ q, H.size ≤ q → A1 q) (hpre : Pre H) (kk : kRet E H A1 Post2 (k + r2.cells) (n + r2.slots) (pc + 3) lv rest) : wx E H k n pc lv st :=
  x_callV F hv hcl hC cw.1 cw.2.1 cw.2.2.1 cw.2.2.2.1 cw.2.2.2.2.1 cw.2.2.2.2.2 hR hd hnA hst hcat hA1 hfr hpre kk
theorem RepM.reg {B : Nat → Prop} (h : RepM G A m H) (hB : ∀ q, (q = ma m 30 ∨ ∃ j, j ∈ mar ∧ q = ma m j) → B q) : RepM G B m H :=
  ⟨⟨hB _ (Or.inl rfl), fun j hj => hB _ (Or.inr ⟨j, hj, rfl⟩)⟩, h.2⟩
/-- the day, and the array that the answers go to -/
def RepO (G : GT) (A : Nat → Prop) (c : CS) (ob : Nat) (f : Nat → Int64) (H : Heap) : Prop := Rep G (fun q => A q ∧ q ≠ ob) c H ∧ vt G ob (.inl (G.2.1.2.2.2, 1, .inr (.inl f))) H ∧ A ob
/-- what a wrapper gives: the code of what was thrown, the answer -/
def Pw (G : GT) (A : Nat → Prop) (ob : Nat) (o : Nat × Int32 × CS) (w : Nat → Int32) (r : Option Value) (H1 : Heap) : Prop := ∃ f, r = some (.int (w o.1)) ∧ RepO G A o.2.2 ob f H1 ∧ (o.1 = 0 → f 0 = o.2.1.toInt64)
theorem RepO.put {f' : Nat → Int64} {ob : Nat} (h : Rep G (fun q => A q ∧ q ≠ ob) c H) (hA : A ob) (hs : hset H ob H1) (hv : vt G ob (.inl (G.2.1.2.2.2, 1, .inr (.inl f'))) H1) : RepO G A c ob f' H1 :=
  ⟨h.kept (Nat.le_of_eq hs.1.symm) (fun q hq _ _ => hs.2 q hq.2), hv, hA⟩
set_option maxHeartbeats 4000000 in
set_option maxRecDepth 100000 in
theorem c_X3_tickN (l : Launch) (G : GT) (A : Nat → Prop) (c : CS) (x : Int32) (hN : ¬ ((1 ≤ x ∧ x ≤ 300) ∧ cD c 9 + x ≤ 1500)) (hL0 : l.stackTraces = false) : Cx l yX3_tick cX3_tick 4 (some .int) ({ frames := 9, cells := 2, slots := 312, locals := 213 } : Room) G A [.ref (ad c 0 0), .int x] (fun H => Rep G A c H) (fun H r H1 => (o_tick c x).1 = 0 ∧ r = some (.int (o_tick c x).2.1) ∧ Rep G A (o_tick c x).2.2 H1) (fun H X H1 => X = xN (o_tick c x).1 ∧ (o_tick c x).1 ≠ 0 ∧ Rep G A c H1) := by
  refine cx_of (own := "GliderDay") (by decide +kernel) rfl (Nat.le_of_ble_eq_true rfl) (fun E H0 F hE hX hR => ?_)
  show wx E H0 0 0 0 [(0, .ref (ad c 0 0)), (1, .int x)] []
  refine x_iload_n F dX3_tick_0 1 rfl rfl ?_
  refine x_iconst (v := 1) F rfl dX3_tick_1 ?_
  refine x_sipush (v := 300) F rfl dX3_tick_2 ?_
  refine x_callSp (rest := []) F (c_X3_isWithin l G A x 1 300) k_X3_54 ⟨(Nat.le_of_ble_eq_true rfl), (Nat.le_of_ble_eq_true rfl), rfl, rfl⟩ (Nat.le_of_ble_eq_true rfl) (Nat.le_of_ble_eq_true rfl) dX3_tick_5 rfl rfl (Nat.le_of_ble_eq_true rfl) trivial ?_
  refine x_if_eq F dX3_tick_8 (tgt := 23) (by decide) (fun h1 => ?_) (fun h1 => ?_)
  · replace h1 := bI_0.mp h1
    refine x_throw F hX hL0 thr_1 st_207 dX3_tick_23 dX3_tick_26 dX3_tick_27 dX3_tick_29 dX3_tick_32 (Nat.le_of_ble_eq_true rfl) (Nat.le_of_ble_eq_true rfl) (Nat.le_of_ble_eq_true rfl) (Nat.le_of_ble_eq_true rfl) (fun H9 hz9 ho9 => ?_)
    have ho : (o_tick c x).1 = 1 := by unfold o_tick; rw [if_neg hN]
    exact ⟨(congrArg xN ho).symm, by rw [ho]; decide, hR.ext hz9 ho9⟩
  · replace h1 := bI_ne.mp h1
    refine x_aload_n F dX3_tick_11 0 rfl rfl ?_
    refine y_getD (c := c) (j := 9) (v := .int (cD c 9)) F hR mw_118 rfl (by decide) rfl dX3_tick_12 ?_
    refine x_iload_n F dX3_tick_15 1 rfl rfl ?_
    refine x_iadd F dX3_tick_16 ?_
    refine x_sipush (v := 1500) F rfl dX3_tick_17 ?_
    refine x_icmp_le F dX3_tick_20 (tgt := 33) (by decide) (fun h2 => ?_) (fun h2 => ?_)
    · have h2' := Int32.not_lt.mpr h2
      refine x_iconst (v := 0) F rfl dX3_tick_33 ?_
      exact absurd ⟨h1, h2⟩ hN
    · have h2' := Int32.not_le.mp h2
      refine x_throw F hX hL0 thr_1 st_207 dX3_tick_23 dX3_tick_26 dX3_tick_27 dX3_tick_29 dX3_tick_32 (Nat.le_of_ble_eq_true rfl) (Nat.le_of_ble_eq_true rfl) (Nat.le_of_ble_eq_true rfl) (Nat.le_of_ble_eq_true rfl) (fun H9 hz9 ho9 => ?_)
      have ho : (o_tick c x).1 = 1 := by unfold o_tick; rw [if_neg hN]
      exact ⟨(congrArg xN ho).symm, by rw [ho]; decide, hR.ext hz9 ho9⟩
set_option maxHeartbeats 4000000 in
set_option maxRecDepth 100000 in
theorem c_X4_tickN (l : Launch) (G : GT) (A : Nat → Prop) (m : MS) (hW : WfM m) (x : Int32) (hN : ¬ ((1 ≤ x ∧ x ≤ 300) ∧ mY (sY m 0 0) 1 + x ≤ 1500)) : Ct l yX4_tick cX4_tick 4 (some .int) ({ frames := 4, cells := 0, slots := 0, locals := 91 } : Room) G A [.ref (ma m 30), .int x] (fun H => RepM G A m H) (fun H r H1 => r = some (.int (q_tick (sY m 0 0) x).1) ∧ RepM G A ((q_tick (sY m 0 0) x).2) H1) := by
  refine ct_of (own := "GliderDayModel") (by decide +kernel) rfl (Nat.le_of_ble_eq_true rfl) (fun E H0 F hE hR => ?_)
  show wx E H0 0 0 0 [(0, .ref (ma m 30)), (1, .int x)] []
  refine x_aload_n F dX4_tick_0 0 rfl rfl ?_
  refine x_iconst (v := 0) F rfl dX4_tick_1 ?_
  refine z_put (m := m) (j := 0) (v := 0) F hR mw_799 rfl (by decide) rfl rfl rfl dX4_tick_2 (fun H1 hR2 => ?_)
  obtain ⟨z, hz⟩ : ∃ z, z = sY m 0 0 := ⟨_, rfl⟩
  have hW : WfM z := by rw [hz]; exact Same.wf (Same.Y (by decide)) hW
  rw [← hz] at hR2
  refine wx_lv (lv' := [(0, .ref (ma z 30)), (1, .int x)]) (by rw [hz]; rfl) ?_
  rw [← hz] at hN
  refine x_iload_n F dX4_tick_5 1 rfl rfl ?_
  refine x_iconst (v := 1) F rfl dX4_tick_6 ?_
  refine x_sipush (v := 300) F rfl dX4_tick_7 ?_
  refine x_callSp (rest := []) F (c_X4_isIn l G A x 1 300) k_X4_84 ⟨(Nat.le_of_ble_eq_true rfl), (Nat.le_of_ble_eq_true rfl), rfl, rfl⟩ (Nat.le_of_ble_eq_true rfl) (Nat.le_of_ble_eq_true rfl) dX4_tick_10 rfl rfl (Nat.le_of_ble_eq_true rfl) trivial ?_
  refine x_if_eq F dX4_tick_13 (tgt := 28) (by decide) (fun h3 => ?_) (fun h3 => ?_)
  · replace h3 := bI_0.mp h3
    refine x_aload_n F dX4_tick_28 0 rfl rfl ?_
    refine x_iconst (v := 1) F rfl dX4_tick_29 ?_
    refine x_callVs (rest := []) F hR2.2.2.1 rfl (c_X4_no l G A z 1) k_X4_94 ⟨⟨(Nat.le_of_ble_eq_true rfl), (Nat.le_of_ble_eq_true rfl)⟩, (Nat.le_of_ble_eq_true rfl), (Nat.le_of_ble_eq_true rfl)⟩ dX4_tick_30 rfl rfl (Nat.le_of_ble_eq_true rfl) hR2 ?_
    rintro _ H4 ⟨rfl, hR5⟩ - -
    have ho : q_tick z x = (0, sY z 0 1) := by unfold q_tick; rw [if_neg hN]
    exact x_iret F hE dX4_tick_33 (Nat.le_of_ble_eq_true rfl) (Nat.le_of_ble_eq_true rfl) (⟨by rw [← hz, ho], by rw [← hz, ho]; exact hR5⟩)
  · replace h3 := bI_ne.mp h3
    refine x_aload_n F dX4_tick_16 0 rfl rfl ?_
    refine z_get (m := z) (j := 1) (v := .int (mY z 1)) F hR2 mw_800 rfl (by decide) rfl dX4_tick_17 ?_
    refine x_iload_n F dX4_tick_20 1 rfl rfl ?_
    refine x_iadd F dX4_tick_21 ?_
    refine x_sipush (v := 1500) F rfl dX4_tick_22 ?_
    refine x_icmp_le F dX4_tick_25 (tgt := 34) (by decide) (fun h6 => ?_) (fun h6 => ?_)
    · have h6' := Int32.not_lt.mpr h6
      exact absurd ⟨h3, h6⟩ hN
    · have h6' := Int32.not_le.mp h6
      refine x_aload_n F dX4_tick_28 0 rfl rfl ?_
      refine x_iconst (v := 1) F rfl dX4_tick_29 ?_
      refine x_callVs (rest := []) F hR2.2.2.1 rfl (c_X4_no l G A z 1) k_X4_94 ⟨⟨(Nat.le_of_ble_eq_true rfl), (Nat.le_of_ble_eq_true rfl)⟩, (Nat.le_of_ble_eq_true rfl), (Nat.le_of_ble_eq_true rfl)⟩ dX4_tick_30 rfl rfl (Nat.le_of_ble_eq_true rfl) hR2 ?_
      rintro _ H7 ⟨rfl, hR8⟩ - -
      have ho : q_tick z x = (0, sY z 0 1) := by unfold q_tick; rw [if_neg hN]
      exact x_iret F hE dX4_tick_33 (Nat.le_of_ble_eq_true rfl) (Nat.le_of_ble_eq_true rfl) (⟨by rw [← hz, ho], by rw [← hz, ho]; exact hR8⟩)
theorem c_X3_tickB (l : Launch) (G : GT) (A : Nat → Prop) (c : CS) (x : Int32) (hlen : (1 ≤ x ∧ x ≤ 300) ∧ cD c 9 + x ≤ 1500 → ∀ i, i < tN x → ∀ g, g < ng c → (wtg (u_wN (u_tgs (u_cab (sD (u_tick i c).2 9 (cD (u_tick i c).2 9 + 1)))) g)).length < 10) (hL0 : l.stackTraces = false) : Cx l yX3_tick cX3_tick 4 (some .int) ({ frames := 9, cells := 2, slots := 312, locals := 213 } : Room) G A [.ref (ad c 0 0), .int x] (fun H => Rep G A c H) (fun H r H1 => (o_tick c x).1 = 0 ∧ r = some (.int (o_tick c x).2.1) ∧ Rep G A (o_tick c x).2.2 H1) (fun H X H1 => X = xN (o_tick c x).1 ∧ (o_tick c x).1 ≠ 0 ∧ Rep G A c H1) := by
  by_cases h : (1 ≤ x ∧ x ≤ 300) ∧ cD c 9 + x ≤ 1500
  · exact c_X3_tick l G A c x (hlen h) hL0
  · exact c_X3_tickN l G A c x h hL0
theorem c_X4_tickB (l : Launch) (G : GT) (A : Nat → Prop) (m : MS) (hW : WfM m) (x : Int32) (hq : (1 ≤ x ∧ x ≤ 300) ∧ mY (sY m 0 0) 1 + x ≤ 1500 → ∀ i, i < tN x → ∀ g, g < mg (n_tick i (sY m 0 0)).2 → 0 < mZ (n_wN (n_m2 (n_tick i (sY m 0 0)).2) (mg (n_tick i (sY m 0 0)).2)) 18 g → ¬ m_fo (n_wN (n_m2 (n_tick i (sY m 0 0)).2) (mg (n_tick i (sY m 0 0)).2)) (nI g) = -1) : Ct l yX4_tick cX4_tick 4 (some .int) ({ frames := 4, cells := 0, slots := 0, locals := 91 } : Room) G A [.ref (ma m 30), .int x] (fun H => RepM G A m H) (fun H r H1 => r = some (.int (q_tick (sY m 0 0) x).1) ∧ RepM G A ((q_tick (sY m 0 0) x).2) H1) := by
  by_cases h : (1 ≤ x ∧ x ≤ 300) ∧ mY (sY m 0 0) 1 + x ≤ 1500
  · exact c_X4_tick l G A m hW x (hq h)
  · exact c_X4_tickN l G A m hW x h
end LW0
