/-! the day's own methods: those that may throw -/
section CL5
def tN (x : Int32) : Nat := x.toNatClampNeg
theorem tN_ok {x : Int32} {n : Nat} (h0 : 0 ≤ x) (h1 : x < nI n) (hn : n < 2 ^ 31) : tN x < n ∧ nI (tN x) = x := by
  obtain ⟨p, hp, rfl⟩ := nI_of (Int32.not_lt.mpr h0)
  have e : tN (nI p) = p := nI_clamp hp
  rw [e]
  exact ⟨Nat.lt_of_not_le (fun q => Int32.not_le.mpr h1 (nI_le q hp)), rfl⟩
/-- what is thrown, by number -/
def xN : Nat → String
  | 1 => "java/lang/IllegalArgumentException"
  | 2 => "java/lang/IllegalStateException"
  | _ => "java/lang/IndexOutOfBoundsException"
theorem nb_ {v : Int32} (h : v = 0 ∨ v = 1) : narrow .boolean (.int v) = .int v := by rcases h with rfl | rfl <;> rfl
theorem fb_ {v : Int32} (h : v = 0 ∨ v = 1) : fits .boolean (.int v) = true := by rcases h with rfl | rfl <;> rfl
theorem thr_1 : thr 58 62 "java/lang/IllegalArgumentException" := ⟨by decide +kernel, mw_129, mw_35, at62g, at62n, at62o⟩
theorem thr_2 : thr 69 73 "java/lang/IllegalStateException" := ⟨by decide +kernel, mw_206, mw_36, at73g, at73n, at73o⟩
theorem thr_3 : thr 135 139 "java/lang/IndexOutOfBoundsException" := ⟨by decide +kernel, mw_238, mw_43, at139g, at139n, at139o⟩
theorem st_60 : (60, "no such level") ∈ strW := by decide +kernel
theorem st_71 : (71, "too many members") ∈ strW := by decide +kernel
theorem st_83 : (83, "no such glider can be") ∈ strW := by decide +kernel
theorem st_85 : (85, "too many gliders") ∈ strW := by decide +kernel
theorem st_92 : (92, "no such wind") ∈ strW := by decide +kernel
theorem st_96 : (96, "no such number of tugs") ∈ strW := by decide +kernel
theorem st_101 : (101, "more tugs are taken") ∈ strW := by decide +kernel
theorem st_258 : (258, "no such glider") ∈ strW := by decide +kernel
theorem st_256 : (256, "no such member") ∈ strW := by decide +kernel
theorem st_137 : (137, "no such fact") ∈ strW := by decide +kernel
theorem st_152 : (152, "no such flight can be") ∈ strW := by decide +kernel
theorem st_154 : (154, "too many flights") ∈ strW := by decide +kernel
theorem st_260 : (260, "no such flight") ∈ strW := by decide +kernel
theorem st_207 : (207, "no such minutes") ∈ strW := by decide +kernel
theorem st_220 : (220, "no such count") ∈ strW := by decide +kernel
section
variable {L : Launch} {rm r2 : Room} {G : GT} {A A1 : Nat → Prop} {H0 : Heap} {n0 : Nat} {cc bytes : ByteArray} {own : String} {E : WE} {H : Heap} {k n pc maxL nA idx : Nat} {lv lv' : List (Nat × Value)} {st rest As : List Value} {ret ret2 : Option FieldType} {nm : String} {Post Post2 : Heap → Option Value → Heap → Prop} {PX PX2 : Heap → String → Heap → Prop} {Pre : Heap → Prop} {y : MethodName}
theorem x_throwW (F : fx L rm G A H0 n0 cc "GliderDay" E) (hX : fX rm A Post PX E) (hL0 : L.stackTraces = false) {ik ic is : Nat} {X text : String} (hT : thr ik ic X) (hst : (is, text) ∈ strW)
    (d0 : decode cc pc = .ok (.new ik, 3)) (d3 : decode cc (pc + 3) = .ok (.dup, 1)) (d4 : decode cc (pc + 4) = .ok (.ldc_w is, 3)) (d7 : decode cc (pc + 7) = .ok (.invokespecial ic, 3)) (d10 : decode cc (pc + 10) = .ok (.athrow, 1))
    (hf : 5 < rm.frames) (hlo : (rest.map fun v => v.category).sum + 82 ≤ rm.locals) (hk : k + 1 ≤ rm.cells) (hn : n + 6 ≤ rm.slots) (hp : ∀ H1 : Heap, H.size ≤ H1.size → (∀ q : Nat, q < H.size → H1[q]? = H[q]?) → PX H0 X H1) : wx E H k n pc lv rest := by
  obtain ⟨p, l, e, R, s, m, args, below, meth, c, A9, nL, Q⟩ := E
  obtain ⟨⟨hx, hb, hml, hown, hts⟩, hL, hRR, hAA, hH0, hnL, hKt, hKh, hfr9, hlk⟩ := F
  obtain ⟨hQ, hex⟩ := hX
  subst hL hRR hAA hH0 hQ
  intro locs ls hS hlv
  exact vx_throwSW hx hb hL0 (names := nE) hown hT.1 (by decide +kernel) (hts _ hT.2.1) (hts _ hT.2.2.1) (hKt.2.2.1 _ hst)
    (hat_of hKt hts (fun w hw => List.mem_filter.mpr ⟨hT.2.2.2.1 w hw, (List.mem_filter.mp hw).2⟩) hT.2.2.2.2.1 nest_tab) hT.2.2.2.2.2 hKh.1 hKh.2.1 hS (hlv.1.trans hml.symm) d0 d3 d4 d7 d10 (fun x hx => absurd (hex x hx) id) hf hlo hk hn hlk
    (fun t hA hz ho => ⟨hp _ hz ho, Nat.le_trans hS.1 hz, fun q h1 h2 => (ho q (Nat.lt_of_lt_of_le h1 hS.1)).trans (hS.2.1 q h1 h2)⟩) hS.2.2 hk hn
theorem x_callVXs (F : fx L rm G A H0 n0 cc own E) {b ci : Nat} {fs : List Value} {r : vw_C} (hv : vt G b (.inr (ci, fs)) H) (hcl : vwCl[ci]? = some r) (hC : Cx L y bytes maxL ret2 r2 G A (.ref b :: As) Pre Post2 PX2) (cw : cwV_ own idx r.1 y bytes maxL ret2 nA) (hR : rok rm r2 maxL k n) (hd : decode cc pc = .ok (.invokevirtual idx, 3)) (hnA : As.length = nA) (hst : st = As.reverse ++ .ref b :: rest) (hcat : (rest.map fun v => v.category).sum ≤ 8) (hpre : Pre H) (kx : kThr E H A PX2 (k + r2.cells) (n + r2.slots) pc lv) (kk : kRet E H A Post2 (k + r2.cells) (n + r2.slots) (pc + 3) lv rest) : wx E H k n pc lv st :=
  fr_of F fun hfr => x_callVX F hv hcl hC cw.1 cw.2.1 cw.2.2.1 cw.2.2.2.1 cw.2.2.2.2.1 cw.2.2.2.2.2 hR hd hnA hst hcat (fun _ h => h) hfr hpre kk kx
end
def o_bill (c : CS) (x : Int32) : Nat × Int32 × CS := if 0 ≤ x ∧ x < nI (nm c) then (0, cM c (tN x) 7, c) else (3, 0, c)
def o_pay (c : CS) (x a : Int32) : Nat × Int32 × CS := if 0 ≤ x ∧ x < nI (nm c) then (if 1 ≤ a ∧ a ≤ 100000 then (0, cM c (tN x) 7 - a, sM c (tN x) 7 (cM c (tN x) 7 - a)) else (1, 0, c)) else (3, 0, c)
def o_member (c : CS) (x w : Int32) : Nat × Int32 × CS := if 0 ≤ x ∧ x < nI (nm c) then (if 0 ≤ w ∧ w ≤ 5 then (0, s_mem c (tN x) w, c) else (3, 0, c)) else (3, 0, c)
def o_glider (c : CS) (x w : Int32) : Nat × Int32 × CS := if 0 ≤ x ∧ x < nI (ng c) then (if 0 ≤ w ∧ w ≤ 4 then (0, s_gli c (tN x) w, c) else (3, 0, c)) else (3, 0, c)
def o_flight (c : CS) (x w : Int32) : Nat × Int32 × CS := if 0 ≤ x ∧ x < nI (nf c) then (if 0 ≤ w ∧ w ≤ 7 then (0, s_fli c (tN x) w, c) else (3, 0, c)) else (3, 0, c)
def o_count (c : CS) (w : Int32) : Nat × Int32 × CS := if 0 ≤ w ∧ w ≤ 7 then (0, s_cnt c w, c) else (3, 0, c)
def o_setWind (c : CS) (x : Int32) : Nat × Int32 × CS := if 0 ≤ x ∧ x ≤ 40 then (0, cD c 10, sD c 10 x) else (1, 0, c)
def o_setSunset (c : CS) (x : Int32) : Nat × Int32 × CS := if 0 ≤ x ∧ x ≤ 1500 then (0, cD c 11, sD c 11 x) else (1, 0, c)
def o_setTugs (c : CS) (x : Int32) : Nat × Int32 × CS := if 0 ≤ x ∧ x ≤ 2 then (if x < s_tk c then (2, 0, c) else (0, s_ft (sD c 6 x), sD c 6 x)) else (1, 0, c)
def o_promote (c : CS) (x : Int32) : Nat × Int32 × CS := if 0 ≤ x ∧ x < nI (nm c) then (if cM c (tN x) 2 = 0 ∧ ((cM c (tN x) 1 = 0 ∧ 3 ≤ cM c (tN x) 5) ∨ (cM c (tN x) 1 = 1 ∧ 5 ≤ cM c (tN x) 6)) then (0, cM c (tN x) 1 + 1, sM c (tN x) 1 (cM c (tN x) 1 + 1)) else (2, 0, c)) else (3, 0, c)
def o_bar (c : CS) (x b : Int32) : Nat × Int32 × CS := if 0 ≤ x ∧ x < nI (ng c) then (if cG c (tN x) 4 = 0 then (0, cG c (tN x) 5, sG c (tN x) 5 b) else (2, 0, c)) else (3, 0, c)
def o_call (c : CS) (x : Int32) : Nat × Int32 × CS := if 0 ≤ x ∧ x < nI (ng c) then (match cgF c (tN x) with
  | none => (2, 0, c)
  | some f => (0, cD c 9 - cF c f 8, sG c (tN x) 6 1)) else (3, 0, c)
def o_list (c : CS) (x : Int32) : Nat × Int32 × CS := if x < 0 then (3, 0, c) else if nI (lst c).length ≤ x then (0, -1, c) else (0, nI ((lst c)[tN x]?.getD 0), c)
def o_reason (c : CS) (x : Int32) : Nat × Int32 × CS := if 0 ≤ x ∧ x < nI (nf c) then (if cF c (tN x) 6 = 0 then (0, s_rea c (tN x), c) else (2, 0, c)) else (3, 0, c)
def o_drop (c : CS) (x : Int32) : Nat × Int32 × CS := if 0 ≤ x ∧ x < nI (nf c) then (if cF c (tN x) 6 = 0 then (0, s_plc (tN x) (lst c) 0, sF (u_off c (s_plc (tN x) (lst c) 0)) (tN x) 6 3) else (2, 0, c)) else (3, 0, c)
def k_lf (c : CS) (x : Int32) : Nat := if 0 ≤ x ∧ x < nI (nf c) then (if cF c (tN x) 6 = 0 then 0 else 2) else 3
theorem drop_k (c : CS) (x : Int32) : (o_drop c x).1 = k_lf c x := by
  unfold o_drop k_lf
  split
  · split <;> rfl
  · rfl
theorem reason_k (c : CS) (x : Int32) : (o_reason c x).1 = k_lf c x := by
  unfold o_reason k_lf
  split
  · split <;> rfl
  · rfl
theorem kap_add {a b d : Bool} (h0 : a = true → b = true) (h1 : b = true → d = true) : kap a b + kap b d = kap a d := by
  cases a <;> cases b <;> cases d <;> first | rfl | exact absurd (h0 rfl) (by decide) | exact absurd (h1 rfl) (by decide)
theorem kap_1 (a b : Bool) : kap a b ≤ 1 := by cases a <;> cases b <;> decide
theorem ad_sf (c : CS) : ad (u_sf c).2 = ad c ∧ nm (u_sf c).2 = nm c ∧ ng (u_sf c).2 = ng c ∧ nf (u_sf c).2 = nf c ∧ cR (u_sf c).2 = cR c ∧ ow (u_sf c).2 = ow c := by
  unfold u_sf
  cases s_can c 0 (lst c) with
  | none => exact ⟨rfl, rfl, rfl, rfl, rfl, rfl⟩
  | some q => exact ⟨rfl, rfl, rfl, rfl, rfl, rfl⟩
theorem ad_min (c : CS) : ad (u_min c).2 = ad c ∧ nm (u_min c).2 = nm c ∧ ng (u_min c).2 = ng c ∧ nf (u_min c).2 = nf c ∧ cR (u_min c).2 = cR c ∧ ow (u_min c).2 = ow (u_m1 c) := by
  have h1 := ad_wN (u_tgs (u_cab (sD c 9 (cD c 9 + 1)))) (ng c)
  have h2 : ad (u_m2 (u_m1 c)) = ad c ∧ nm (u_m2 (u_m1 c)) = nm c ∧ ng (u_m2 (u_m1 c)) = ng c ∧ nf (u_m2 (u_m1 c)) = nf c ∧ cR (u_m2 (u_m1 c)) = cR c ∧ ow (u_m2 (u_m1 c)) = ow (u_m1 c) := by
    have g : ad (u_m1 c) = ad c ∧ nm (u_m1 c) = nm c ∧ ng (u_m1 c) = ng c ∧ nf (u_m1 c) = nf c ∧ cR (u_m1 c) = cR c := ⟨h1.1, h1.2.1, h1.2.2.1, h1.2.2.2.1, h1.2.2.2.2.1⟩
    unfold u_m2
    split
    · exact ⟨g.1, g.2.1, g.2.2.1, g.2.2.2.1, g.2.2.2.2, rfl⟩
    · have h3 := ad_lfw (u_m1 c)
      exact ⟨h3.1.trans g.1, h3.2.1.trans g.2.1, h3.2.2.1.trans g.2.2.1, h3.2.2.2.1.trans g.2.2.2.1, h3.2.2.2.2.1.trans g.2.2.2.2, h3.2.2.2.2.2.2⟩
  unfold u_min
  simp only []
  split
  · exact h2
  · have h3 := ad_sf (u_m2 (u_m1 c))
    exact ⟨h3.1.trans h2.1, h3.2.1.trans h2.2.1, h3.2.2.1.trans h2.2.2.1, h3.2.2.2.1.trans h2.2.2.2.1, h3.2.2.2.2.1.trans h2.2.2.2.2.1, h3.2.2.2.2.2.trans h2.2.2.2.2.2⟩
theorem ad_tick (c : CS) (n : Nat) : ad (u_tick n c).2 = ad c ∧ nm (u_tick n c).2 = nm c ∧ ng (u_tick n c).2 = ng c ∧ nf (u_tick n c).2 = nf c ∧ cR (u_tick n c).2 = cR c := by
  induction n with
  | zero => exact ⟨rfl, rfl, rfl, rfl, rfl⟩
  | succ n ih =>
    have h := ad_min (u_tick n c).2
    exact ⟨h.1.trans ih.1, h.2.1.trans ih.2.1, h.2.2.1.trans ih.2.2.1, h.2.2.2.1.trans ih.2.2.2.1, h.2.2.2.2.1.trans ih.2.2.2.2⟩
theorem ow_m1 (c : CS) (h : ow c = true) : ow (u_m1 c) = true := ow_wN (u_tgs (u_cab (sD c 9 (cD c 9 + 1)))) 0 (ng c) (Nat.zero_le _) h
theorem ow_tick (c : CS) (n : Nat) (h : ow c = true) : ow (u_tick n c).2 = true := by
  induction n with
  | zero => exact h
  | succ n ih => exact ((ad_min (u_tick n c).2).2.2.2.2.2).trans (ow_m1 _ ih)
theorem min_01 (c : CS) : (u_min c).1 = 0 ∨ (u_min c).1 = 1 := by
  unfold u_min
  simp only []
  split
  · exact Or.inl rfl
  · exact u_sf01 _
def o_tick (c : CS) (x : Int32) : Nat × Int32 × CS := if (1 ≤ x ∧ x ≤ 300) ∧ cD c 9 + x ≤ 1500 then (0, (u_tick (tN x) c).1, (u_tick (tN x) c).2) else (1, 0, c)
theorem k_X3_119 : cwV_ "GliderDay" 119 "GliderDay" yX3_memberAt cX3_memberAt 2 (some (.object "GliderDay$Member")) 1 := ⟨mw_230, mw_232, mw_3, mw_28, mw_233, ⟨by decide +kernel, by decide +kernel, by decide +kernel⟩⟩
theorem k_X3_106 : cwV_ "GliderDay" 106 "GliderDay" yX3_gliderAt cX3_gliderAt 2 (some (.object "GliderDay$Glider")) 1 := ⟨mw_277, mw_279, mw_4, mw_28, mw_280, ⟨by decide +kernel, by decide +kernel, by decide +kernel⟩⟩
theorem k_X3_213 : cwV_ "GliderDay" 213 "GliderDay" yX3_flightAt cX3_flightAt 2 (some (.object "GliderDay$Flight")) 1 := ⟨mw_505, mw_507, mw_24, mw_28, mw_508, ⟨by decide +kernel, by decide +kernel, by decide +kernel⟩⟩
theorem k_X3_209 : cwV_ "GliderDay" 209 "GliderDay" yX3_passMinute cX3_passMinute 1 (some .boolean) 0 := ⟨mw_402, mw_404, mw_8, mw_28, mw_405, ⟨by decide +kernel, by decide +kernel, by decide +kernel⟩⟩
set_option maxHeartbeats 4000000 in
set_option maxRecDepth 100000 in
theorem c_X3_memberAt (l : Launch) (G : GT) (A : Nat → Prop) (c : CS) (x : Int32) (hL0 : l.stackTraces = false) : Cx l yX3_memberAt cX3_memberAt 2 (some (.object "GliderDay$Member")) ({ frames := 6, cells := 1, slots := 6, locals := 82 } : Room) G A [.ref (ad c 0 0), .int x] (fun H => Rep G A c H) (fun H r H1 => r = some (.ref (ad c 3 (tN x))) ∧ H1 = H ∧ (0 ≤ x ∧ x < nI (nm c)) ∧ tN x < nm c ∧ nI (tN x) = x) (fun H X H1 => X = xN 3 ∧ ¬(0 ≤ x ∧ x < nI (nm c)) ∧ Rep G A c H1) := by
  refine cx_of (own := "GliderDay") (by decide +kernel) rfl (Nat.le_of_ble_eq_true rfl) (fun E H0 F hE hX hR => ?_)
  show wx E H0 0 0 0 [(0, .ref (ad c 0 0)), (1, .int x)] []
  refine x_iload_n F dX3_memberAt_0 1 rfl rfl ?_
  refine x_if_lt F dX3_memberAt_1 (tgt := 15) (by decide) (fun h1 => ?_) (fun h1 => ?_)
  · have h1' := Int32.not_le.mpr h1
    refine x_throwW F hX hL0 thr_3 st_256 dX3_memberAt_15 dX3_memberAt_18 dX3_memberAt_19 dX3_memberAt_22 dX3_memberAt_25 (Nat.le_of_ble_eq_true rfl) (Nat.le_of_ble_eq_true rfl) (Nat.le_of_ble_eq_true rfl) (Nat.le_of_ble_eq_true rfl) (fun H9 hz9 ho9 => ?_)
    exact ⟨rfl, by rintro ⟨q1, q2⟩; exact absurd h1 (Int32.not_lt.mpr q1), hR.ext hz9 ho9⟩
  · have h1' := Int32.not_lt.mp h1
    refine x_iload_n F dX3_memberAt_4 1 rfl rfl ?_
    refine x_aload_n F dX3_memberAt_5 0 rfl rfl ?_
    refine y_getD (c := c) (j := 0) (v := .ref (ad c 1 0)) F hR mw_81 rfl (by decide) rfl dX3_memberAt_6 ?_
    refine y_lsize (c := c) (k5 := 0) F hR (by decide) k_X3_65 ⟨(Nat.le_of_ble_eq_true rfl), (Nat.le_of_ble_eq_true rfl)⟩ (Nat.le_of_ble_eq_true rfl) (Nat.le_of_ble_eq_true rfl) dX3_memberAt_9 (Nat.le_of_ble_eq_true rfl) ?_
    refine wx_i (y := nI (nm c)) (congrArg nI (els_0 _)) ?_
    refine x_icmp_lt F dX3_memberAt_12 (tgt := 26) (by decide) (fun h2 => ?_) (fun h2 => ?_)
    · have h2' := Int32.not_le.mpr h2
      refine x_aload_n F dX3_memberAt_26 0 rfl rfl ?_
      refine y_getD (c := c) (j := 0) (v := .ref (ad c 1 0)) F hR mw_81 rfl (by decide) rfl dX3_memberAt_27 ?_
      refine x_iload_n F dX3_memberAt_30 1 rfl rfl ?_
      obtain ⟨hi, hx⟩ := tN_ok (Int32.not_lt.mp h1) h2 (bnd hR.wf).1
      refine wx_i (y := nI (tN x)) hx.symm ?_
      refine y_lget (c := c) (k5 := 0) (i := (tN x)) (e := ad c 3 (tN x)) F hR (by decide) (elg_0 hi) k_X3_188 ⟨(Nat.le_of_ble_eq_true rfl), (Nat.le_of_ble_eq_true rfl)⟩ (Nat.le_of_ble_eq_true rfl) (Nat.le_of_ble_eq_true rfl) dX3_memberAt_31 (Nat.le_of_ble_eq_true rfl) ?_
      refine x_castS (C := "GliderDay$Member") (T := TX2) (N := 8) F (hR.mem hi) rfl mw_268 dX3_memberAt_34 ?_
      exact x_aret F (Or.inl ⟨_, rfl⟩) (Or.inr ⟨_, rfl⟩) hE dX3_memberAt_37 (Nat.le_of_ble_eq_true rfl) (Nat.le_of_ble_eq_true rfl) (⟨rfl, rfl, ⟨Int32.not_lt.mp h1, h2⟩, hi, hx⟩)
    · have h2' := Int32.not_lt.mp h2
      refine x_throwW F hX hL0 thr_3 st_256 dX3_memberAt_15 dX3_memberAt_18 dX3_memberAt_19 dX3_memberAt_22 dX3_memberAt_25 (Nat.le_of_ble_eq_true rfl) (Nat.le_of_ble_eq_true rfl) (Nat.le_of_ble_eq_true rfl) (Nat.le_of_ble_eq_true rfl) (fun H9 hz9 ho9 => ?_)
      exact ⟨rfl, by rintro ⟨q1, q2⟩; exact absurd q2 h2, hR.ext hz9 ho9⟩
set_option maxHeartbeats 4000000 in
set_option maxRecDepth 100000 in
theorem c_X3_gliderAt (l : Launch) (G : GT) (A : Nat → Prop) (c : CS) (x : Int32) (hL0 : l.stackTraces = false) : Cx l yX3_gliderAt cX3_gliderAt 2 (some (.object "GliderDay$Glider")) ({ frames := 6, cells := 1, slots := 6, locals := 82 } : Room) G A [.ref (ad c 0 0), .int x] (fun H => Rep G A c H) (fun H r H1 => r = some (.ref (ad c 4 (tN x))) ∧ H1 = H ∧ (0 ≤ x ∧ x < nI (ng c)) ∧ tN x < ng c ∧ nI (tN x) = x) (fun H X H1 => X = xN 3 ∧ ¬(0 ≤ x ∧ x < nI (ng c)) ∧ Rep G A c H1) := by
  refine cx_of (own := "GliderDay") (by decide +kernel) rfl (Nat.le_of_ble_eq_true rfl) (fun E H0 F hE hX hR => ?_)
  show wx E H0 0 0 0 [(0, .ref (ad c 0 0)), (1, .int x)] []
  refine x_iload_n F dX3_gliderAt_0 1 rfl rfl ?_
  refine x_if_lt F dX3_gliderAt_1 (tgt := 15) (by decide) (fun h1 => ?_) (fun h1 => ?_)
  · have h1' := Int32.not_le.mpr h1
    refine x_throwW F hX hL0 thr_3 st_258 dX3_gliderAt_15 dX3_gliderAt_18 dX3_gliderAt_19 dX3_gliderAt_22 dX3_gliderAt_25 (Nat.le_of_ble_eq_true rfl) (Nat.le_of_ble_eq_true rfl) (Nat.le_of_ble_eq_true rfl) (Nat.le_of_ble_eq_true rfl) (fun H9 hz9 ho9 => ?_)
    exact ⟨rfl, by rintro ⟨q1, q2⟩; exact absurd h1 (Int32.not_lt.mpr q1), hR.ext hz9 ho9⟩
  · have h1' := Int32.not_lt.mp h1
    refine x_iload_n F dX3_gliderAt_4 1 rfl rfl ?_
    refine x_aload_n F dX3_gliderAt_5 0 rfl rfl ?_
    refine y_getD (c := c) (j := 1) (v := .ref (ad c 1 1)) F hR mw_82 rfl (by decide) rfl dX3_gliderAt_6 ?_
    refine y_lsize (c := c) (k5 := 1) F hR (by decide) k_X3_65 ⟨(Nat.le_of_ble_eq_true rfl), (Nat.le_of_ble_eq_true rfl)⟩ (Nat.le_of_ble_eq_true rfl) (Nat.le_of_ble_eq_true rfl) dX3_gliderAt_9 (Nat.le_of_ble_eq_true rfl) ?_
    refine wx_i (y := nI (ng c)) (congrArg nI (els_1 _)) ?_
    refine x_icmp_lt F dX3_gliderAt_12 (tgt := 26) (by decide) (fun h2 => ?_) (fun h2 => ?_)
    · have h2' := Int32.not_le.mpr h2
      refine x_aload_n F dX3_gliderAt_26 0 rfl rfl ?_
      refine y_getD (c := c) (j := 1) (v := .ref (ad c 1 1)) F hR mw_82 rfl (by decide) rfl dX3_gliderAt_27 ?_
      refine x_iload_n F dX3_gliderAt_30 1 rfl rfl ?_
      obtain ⟨hi, hx⟩ := tN_ok (Int32.not_lt.mp h1) h2 (bnd hR.wf).2.1
      refine wx_i (y := nI (tN x)) hx.symm ?_
      refine y_lget (c := c) (k5 := 1) (i := (tN x)) (e := ad c 4 (tN x)) F hR (by decide) (elg_1 hi) k_X3_188 ⟨(Nat.le_of_ble_eq_true rfl), (Nat.le_of_ble_eq_true rfl)⟩ (Nat.le_of_ble_eq_true rfl) (Nat.le_of_ble_eq_true rfl) dX3_gliderAt_31 (Nat.le_of_ble_eq_true rfl) ?_
      refine x_castS (C := "GliderDay$Glider") (T := TX1) (N := 10) F (hR.gli hi) rfl mw_282 dX3_gliderAt_34 ?_
      exact x_aret F (Or.inl ⟨_, rfl⟩) (Or.inr ⟨_, rfl⟩) hE dX3_gliderAt_37 (Nat.le_of_ble_eq_true rfl) (Nat.le_of_ble_eq_true rfl) (⟨rfl, rfl, ⟨Int32.not_lt.mp h1, h2⟩, hi, hx⟩)
    · have h2' := Int32.not_lt.mp h2
      refine x_throwW F hX hL0 thr_3 st_258 dX3_gliderAt_15 dX3_gliderAt_18 dX3_gliderAt_19 dX3_gliderAt_22 dX3_gliderAt_25 (Nat.le_of_ble_eq_true rfl) (Nat.le_of_ble_eq_true rfl) (Nat.le_of_ble_eq_true rfl) (Nat.le_of_ble_eq_true rfl) (fun H9 hz9 ho9 => ?_)
      exact ⟨rfl, by rintro ⟨q1, q2⟩; exact absurd q2 h2, hR.ext hz9 ho9⟩
set_option maxHeartbeats 4000000 in
set_option maxRecDepth 100000 in
theorem c_X3_flightAt (l : Launch) (G : GT) (A : Nat → Prop) (c : CS) (x : Int32) (hL0 : l.stackTraces = false) : Cx l yX3_flightAt cX3_flightAt 2 (some (.object "GliderDay$Flight")) ({ frames := 6, cells := 1, slots := 6, locals := 82 } : Room) G A [.ref (ad c 0 0), .int x] (fun H => Rep G A c H) (fun H r H1 => r = some (.ref (ad c 5 (tN x))) ∧ H1 = H ∧ (0 ≤ x ∧ x < nI (nf c)) ∧ tN x < nf c ∧ nI (tN x) = x) (fun H X H1 => X = xN 3 ∧ ¬(0 ≤ x ∧ x < nI (nf c)) ∧ Rep G A c H1) := by
  refine cx_of (own := "GliderDay") (by decide +kernel) rfl (Nat.le_of_ble_eq_true rfl) (fun E H0 F hE hX hR => ?_)
  show wx E H0 0 0 0 [(0, .ref (ad c 0 0)), (1, .int x)] []
  refine x_iload_n F dX3_flightAt_0 1 rfl rfl ?_
  refine x_if_lt F dX3_flightAt_1 (tgt := 15) (by decide) (fun h1 => ?_) (fun h1 => ?_)
  · have h1' := Int32.not_le.mpr h1
    refine x_throwW F hX hL0 thr_3 st_260 dX3_flightAt_15 dX3_flightAt_18 dX3_flightAt_19 dX3_flightAt_22 dX3_flightAt_25 (Nat.le_of_ble_eq_true rfl) (Nat.le_of_ble_eq_true rfl) (Nat.le_of_ble_eq_true rfl) (Nat.le_of_ble_eq_true rfl) (fun H9 hz9 ho9 => ?_)
    exact ⟨rfl, by rintro ⟨q1, q2⟩; exact absurd h1 (Int32.not_lt.mpr q1), hR.ext hz9 ho9⟩
  · have h1' := Int32.not_lt.mp h1
    refine x_iload_n F dX3_flightAt_4 1 rfl rfl ?_
    refine x_aload_n F dX3_flightAt_5 0 rfl rfl ?_
    refine y_getD (c := c) (j := 2) (v := .ref (ad c 1 2)) F hR mw_83 rfl (by decide) rfl dX3_flightAt_6 ?_
    refine y_lsize (c := c) (k5 := 2) F hR (by decide) k_X3_65 ⟨(Nat.le_of_ble_eq_true rfl), (Nat.le_of_ble_eq_true rfl)⟩ (Nat.le_of_ble_eq_true rfl) (Nat.le_of_ble_eq_true rfl) dX3_flightAt_9 (Nat.le_of_ble_eq_true rfl) ?_
    refine wx_i (y := nI (nf c)) (congrArg nI (els_2 _)) ?_
    refine x_icmp_lt F dX3_flightAt_12 (tgt := 26) (by decide) (fun h2 => ?_) (fun h2 => ?_)
    · have h2' := Int32.not_le.mpr h2
      refine x_aload_n F dX3_flightAt_26 0 rfl rfl ?_
      refine y_getD (c := c) (j := 2) (v := .ref (ad c 1 2)) F hR mw_83 rfl (by decide) rfl dX3_flightAt_27 ?_
      refine x_iload_n F dX3_flightAt_30 1 rfl rfl ?_
      obtain ⟨hi, hx⟩ := tN_ok (Int32.not_lt.mp h1) h2 (bnd hR.wf).2.2.1
      refine wx_i (y := nI (tN x)) hx.symm ?_
      refine y_lget (c := c) (k5 := 2) (i := (tN x)) (e := ad c 5 (tN x)) F hR (by decide) (elg_2 hi) k_X3_188 ⟨(Nat.le_of_ble_eq_true rfl), (Nat.le_of_ble_eq_true rfl)⟩ (Nat.le_of_ble_eq_true rfl) (Nat.le_of_ble_eq_true rfl) dX3_flightAt_31 (Nat.le_of_ble_eq_true rfl) ?_
      refine x_castS (C := "GliderDay$Flight") (T := TX0) (N := 11) F (hR.fli hi) rfl mw_295 dX3_flightAt_34 ?_
      exact x_aret F (Or.inl ⟨_, rfl⟩) (Or.inr ⟨_, rfl⟩) hE dX3_flightAt_37 (Nat.le_of_ble_eq_true rfl) (Nat.le_of_ble_eq_true rfl) (⟨rfl, rfl, ⟨Int32.not_lt.mp h1, h2⟩, hi, hx⟩)
    · have h2' := Int32.not_lt.mp h2
      refine x_throwW F hX hL0 thr_3 st_260 dX3_flightAt_15 dX3_flightAt_18 dX3_flightAt_19 dX3_flightAt_22 dX3_flightAt_25 (Nat.le_of_ble_eq_true rfl) (Nat.le_of_ble_eq_true rfl) (Nat.le_of_ble_eq_true rfl) (Nat.le_of_ble_eq_true rfl) (fun H9 hz9 ho9 => ?_)
      exact ⟨rfl, by rintro ⟨q1, q2⟩; exact absurd q2 h2, hR.ext hz9 ho9⟩
set_option maxHeartbeats 4000000 in
set_option maxRecDepth 100000 in
theorem c_X3_bill (l : Launch) (G : GT) (A : Nat → Prop) (c : CS) (x : Int32) (hL0 : l.stackTraces = false) : Cx l yX3_bill cX3_bill 2 (some .int) ({ frames := 7, cells := 1, slots := 6, locals := 103 } : Room) G A [.ref (ad c 0 0), .int x] (fun H => Rep G A c H) (fun H r H1 => (o_bill c x).1 = 0 ∧ r = some (.int (o_bill c x).2.1) ∧ Rep G A (o_bill c x).2.2 H1) (fun H X H1 => X = xN (o_bill c x).1 ∧ (o_bill c x).1 ≠ 0 ∧ Rep G A c H1) := by
  refine cx_of (own := "GliderDay") (by decide +kernel) rfl (Nat.le_of_ble_eq_true rfl) (fun E H0 F hE hX hR => ?_)
  show wx E H0 0 0 0 [(0, .ref (ad c 0 0)), (1, .int x)] []
  refine x_aload_n F dX3_bill_0 0 rfl rfl ?_
  refine x_iload_n F dX3_bill_1 1 rfl rfl ?_
  refine x_callVXs (rest := []) F hR.day rfl (c_X3_memberAt l G A c x hL0) k_X3_119 ⟨⟨(Nat.le_of_ble_eq_true rfl), (Nat.le_of_ble_eq_true rfl)⟩, (Nat.le_of_ble_eq_true rfl), (Nat.le_of_ble_eq_true rfl)⟩ dX3_bill_2 rfl rfl (Nat.le_of_ble_eq_true rfl) hR ?_ ?_
  · rintro q Ex H9 ⟨rfl, hn1, hR2⟩ hq - -
    refine x_out F hX hq ?_ (Nat.le_of_ble_eq_true rfl) (Nat.le_of_ble_eq_true rfl)
    have ho : (o_bill c x).1 = 3 := by simp [o_bill, hn1]
    exact ⟨(congrArg xN ho).symm, by rw [ho]; decide, hR2⟩
  rintro _ Hx ⟨rfl, hHx, hb3, hi4, hx5⟩ - -
  rw [hHx]
  refine y_getM (c := c) (i := (tN x)) (j := 7) (v := .int (cM c (tN x) 7)) F hR hi4 nw_226 rfl (by decide) rfl dX3_bill_5 ?_
  have ho : o_bill c x = (0, cM c (tN x) 7, c) := by simp [o_bill, hb3]
  exact x_iret F hE dX3_bill_8 (Nat.le_of_ble_eq_true rfl) (Nat.le_of_ble_eq_true rfl) (⟨by rw [ho], by rw [ho], by rw [ho]; exact hR⟩)
set_option maxHeartbeats 4000000 in
set_option maxRecDepth 100000 in
theorem c_X3_member (l : Launch) (G : GT) (A : Nat → Prop) (c : CS) (x w : Int32) (hL0 : l.stackTraces = false) : Cx l yX3_member cX3_member 4 (some .int) ({ frames := 7, cells := 2, slots := 12, locals := 103 } : Room) G A [.ref (ad c 0 0), .int x, .int w] (fun H => Rep G A c H) (fun H r H1 => (o_member c x w).1 = 0 ∧ r = some (.int (o_member c x w).2.1) ∧ Rep G A (o_member c x w).2.2 H1) (fun H X H1 => X = xN (o_member c x w).1 ∧ (o_member c x w).1 ≠ 0 ∧ Rep G A c H1) := by
  refine cx_of (own := "GliderDay") (by decide +kernel) rfl (Nat.le_of_ble_eq_true rfl) (fun E H0 F hE hX hR => ?_)
  show wx E H0 0 0 0 [(0, .ref (ad c 0 0)), (1, .int x), (2, .int w)] []
  refine x_aload_n F dX3_member_0 0 rfl rfl ?_
  refine x_iload_n F dX3_member_1 1 rfl rfl ?_
  refine x_callVXs (rest := []) F hR.day rfl (c_X3_memberAt l G A c x hL0) k_X3_119 ⟨⟨(Nat.le_of_ble_eq_true rfl), (Nat.le_of_ble_eq_true rfl)⟩, (Nat.le_of_ble_eq_true rfl), (Nat.le_of_ble_eq_true rfl)⟩ dX3_member_2 rfl rfl (Nat.le_of_ble_eq_true rfl) hR ?_ ?_
  · rintro q Ex H9 ⟨rfl, hn1, hR2⟩ hq - -
    refine x_out F hX hq ?_ (Nat.le_of_ble_eq_true rfl) (Nat.le_of_ble_eq_true rfl)
    have ho : (o_member c x w).1 = 3 := by simp [o_member, hn1]
    exact ⟨(congrArg xN ho).symm, by rw [ho]; decide, hR2⟩
  rintro _ Hx ⟨rfl, hHx, hb3, hi4, hx5⟩ - -
  rw [hHx]
  refine x_astore_n (lv' := [(3, .ref (ad c 3 (tN x))), (0, .ref (ad c 0 0)), (1, .int x), (2, .int w)]) F dX3_member_5 rfl (by decide) rfl ?_
  refine x_iload_n F dX3_member_6 3 rfl rfl ?_
  refine x_iconst (v := 0) F rfl dX3_member_7 ?_
  refine x_iconst (v := 5) F rfl dX3_member_8 ?_
  refine x_callSp (rest := []) F (c_X3_isWithin l G A w 0 5) k_X3_54 ⟨(Nat.le_of_ble_eq_true rfl), (Nat.le_of_ble_eq_true rfl), rfl, rfl⟩ (Nat.le_of_ble_eq_true rfl) (Nat.le_of_ble_eq_true rfl) dX3_member_9 rfl rfl (Nat.le_of_ble_eq_true rfl) trivial ?_
  refine x_if_ne F dX3_member_12 (tgt := 25) (by decide) (fun h6 => ?_) (fun h6 => ?_)
  · replace h6 := bI_ne.mp h6
    refine x_aload_n F dX3_member_25 0 rfl rfl ?_
    refine x_iload_n F dX3_member_26 3 rfl rfl ?_
    refine x_callSp (rest := []) F (c_X3_memberFact l G A c (tN x) hi4 w) k_X3_140 ⟨(Nat.le_of_ble_eq_true rfl), (Nat.le_of_ble_eq_true rfl), rfl, rfl⟩ (Nat.le_of_ble_eq_true rfl) (Nat.le_of_ble_eq_true rfl) dX3_member_27 rfl rfl (Nat.le_of_ble_eq_true rfl) hR ?_
    have ho : o_member c x w = (0, s_mem c (tN x) w, c) := by simp [o_member, hb3, h6]
    exact x_iret F hE dX3_member_30 (Nat.le_of_ble_eq_true rfl) (Nat.le_of_ble_eq_true rfl) (⟨by rw [ho], by rw [ho], by rw [ho]; exact hR⟩)
  · replace h6 := bI_0.mp h6
    refine x_throw F hX hL0 thr_3 st_137 dX3_member_15 dX3_member_18 dX3_member_19 dX3_member_21 dX3_member_24 (Nat.le_of_ble_eq_true rfl) (Nat.le_of_ble_eq_true rfl) (Nat.le_of_ble_eq_true rfl) (Nat.le_of_ble_eq_true rfl) (fun H9 hz9 ho9 => ?_)
    have ho : (o_member c x w).1 = 3 := by simp [o_member, hb3, h6]
    exact ⟨(congrArg xN ho).symm, by rw [ho]; decide, hR.ext hz9 ho9⟩
set_option maxHeartbeats 4000000 in
set_option maxRecDepth 100000 in
theorem c_X3_glider (l : Launch) (G : GT) (A : Nat → Prop) (c : CS) (x w : Int32) (hL0 : l.stackTraces = false) : Cx l yX3_glider cX3_glider 4 (some .int) ({ frames := 7, cells := 2, slots := 12, locals := 103 } : Room) G A [.ref (ad c 0 0), .int x, .int w] (fun H => Rep G A c H) (fun H r H1 => (o_glider c x w).1 = 0 ∧ r = some (.int (o_glider c x w).2.1) ∧ Rep G A (o_glider c x w).2.2 H1) (fun H X H1 => X = xN (o_glider c x w).1 ∧ (o_glider c x w).1 ≠ 0 ∧ Rep G A c H1) := by
  refine cx_of (own := "GliderDay") (by decide +kernel) rfl (Nat.le_of_ble_eq_true rfl) (fun E H0 F hE hX hR => ?_)
  show wx E H0 0 0 0 [(0, .ref (ad c 0 0)), (1, .int x), (2, .int w)] []
  refine x_aload_n F dX3_glider_0 0 rfl rfl ?_
  refine x_iload_n F dX3_glider_1 1 rfl rfl ?_
  refine x_callVXs (rest := []) F hR.day rfl (c_X3_gliderAt l G A c x hL0) k_X3_106 ⟨⟨(Nat.le_of_ble_eq_true rfl), (Nat.le_of_ble_eq_true rfl)⟩, (Nat.le_of_ble_eq_true rfl), (Nat.le_of_ble_eq_true rfl)⟩ dX3_glider_2 rfl rfl (Nat.le_of_ble_eq_true rfl) hR ?_ ?_
  · rintro q Ex H9 ⟨rfl, hn1, hR2⟩ hq - -
    refine x_out F hX hq ?_ (Nat.le_of_ble_eq_true rfl) (Nat.le_of_ble_eq_true rfl)
    have ho : (o_glider c x w).1 = 3 := by simp [o_glider, hn1]
    exact ⟨(congrArg xN ho).symm, by rw [ho]; decide, hR2⟩
  rintro _ Hx ⟨rfl, hHx, hb3, hi4, hx5⟩ - -
  rw [hHx]
  refine x_astore_n (lv' := [(3, .ref (ad c 4 (tN x))), (0, .ref (ad c 0 0)), (1, .int x), (2, .int w)]) F dX3_glider_5 rfl (by decide) rfl ?_
  refine x_iload_n F dX3_glider_6 3 rfl rfl ?_
  refine x_iconst (v := 0) F rfl dX3_glider_7 ?_
  refine x_iconst (v := 4) F rfl dX3_glider_8 ?_
  refine x_callSp (rest := []) F (c_X3_isWithin l G A w 0 4) k_X3_54 ⟨(Nat.le_of_ble_eq_true rfl), (Nat.le_of_ble_eq_true rfl), rfl, rfl⟩ (Nat.le_of_ble_eq_true rfl) (Nat.le_of_ble_eq_true rfl) dX3_glider_9 rfl rfl (Nat.le_of_ble_eq_true rfl) trivial ?_
  refine x_if_ne F dX3_glider_12 (tgt := 25) (by decide) (fun h6 => ?_) (fun h6 => ?_)
  · replace h6 := bI_ne.mp h6
    refine x_aload_n F dX3_glider_25 0 rfl rfl ?_
    refine x_iload_n F dX3_glider_26 3 rfl rfl ?_
    refine x_callSp (rest := []) F (c_X3_gliderFact l G A c (tN x) hi4 w) k_X3_144 ⟨(Nat.le_of_ble_eq_true rfl), (Nat.le_of_ble_eq_true rfl), rfl, rfl⟩ (Nat.le_of_ble_eq_true rfl) (Nat.le_of_ble_eq_true rfl) dX3_glider_27 rfl rfl (Nat.le_of_ble_eq_true rfl) hR ?_
    have ho : o_glider c x w = (0, s_gli c (tN x) w, c) := by simp [o_glider, hb3, h6]
    exact x_iret F hE dX3_glider_30 (Nat.le_of_ble_eq_true rfl) (Nat.le_of_ble_eq_true rfl) (⟨by rw [ho], by rw [ho], by rw [ho]; exact hR⟩)
  · replace h6 := bI_0.mp h6
    refine x_throw F hX hL0 thr_3 st_137 dX3_glider_15 dX3_glider_18 dX3_glider_19 dX3_glider_21 dX3_glider_24 (Nat.le_of_ble_eq_true rfl) (Nat.le_of_ble_eq_true rfl) (Nat.le_of_ble_eq_true rfl) (Nat.le_of_ble_eq_true rfl) (fun H9 hz9 ho9 => ?_)
    have ho : (o_glider c x w).1 = 3 := by simp [o_glider, hb3, h6]
    exact ⟨(congrArg xN ho).symm, by rw [ho]; decide, hR.ext hz9 ho9⟩
set_option maxHeartbeats 4000000 in
set_option maxRecDepth 100000 in
theorem c_X3_flight (l : Launch) (G : GT) (A : Nat → Prop) (c : CS) (x w : Int32) (hL0 : l.stackTraces = false) : Cx l yX3_flight cX3_flight 4 (some .int) ({ frames := 7, cells := 2, slots := 12, locals := 103 } : Room) G A [.ref (ad c 0 0), .int x, .int w] (fun H => Rep G A c H) (fun H r H1 => (o_flight c x w).1 = 0 ∧ r = some (.int (o_flight c x w).2.1) ∧ Rep G A (o_flight c x w).2.2 H1) (fun H X H1 => X = xN (o_flight c x w).1 ∧ (o_flight c x w).1 ≠ 0 ∧ Rep G A c H1) := by
  refine cx_of (own := "GliderDay") (by decide +kernel) rfl (Nat.le_of_ble_eq_true rfl) (fun E H0 F hE hX hR => ?_)
  show wx E H0 0 0 0 [(0, .ref (ad c 0 0)), (1, .int x), (2, .int w)] []
  refine x_aload_n F dX3_flight_0 0 rfl rfl ?_
  refine x_iload_n F dX3_flight_1 1 rfl rfl ?_
  refine x_callVXs (rest := []) F hR.day rfl (c_X3_flightAt l G A c x hL0) k_X3_213 ⟨⟨(Nat.le_of_ble_eq_true rfl), (Nat.le_of_ble_eq_true rfl)⟩, (Nat.le_of_ble_eq_true rfl), (Nat.le_of_ble_eq_true rfl)⟩ dX3_flight_2 rfl rfl (Nat.le_of_ble_eq_true rfl) hR ?_ ?_
  · rintro q Ex H9 ⟨rfl, hn1, hR2⟩ hq - -
    refine x_out F hX hq ?_ (Nat.le_of_ble_eq_true rfl) (Nat.le_of_ble_eq_true rfl)
    have ho : (o_flight c x w).1 = 3 := by simp [o_flight, hn1]
    exact ⟨(congrArg xN ho).symm, by rw [ho]; decide, hR2⟩
  rintro _ Hx ⟨rfl, hHx, hb3, hi4, hx5⟩ - -
  rw [hHx]
  refine x_astore_n (lv' := [(3, .ref (ad c 5 (tN x))), (0, .ref (ad c 0 0)), (1, .int x), (2, .int w)]) F dX3_flight_5 rfl (by decide) rfl ?_
  refine x_iload_n F dX3_flight_6 3 rfl rfl ?_
  refine x_iconst (v := 0) F rfl dX3_flight_7 ?_
  refine x_bipush (v := 7) F rfl dX3_flight_8 ?_
  refine x_callSp (rest := []) F (c_X3_isWithin l G A w 0 7) k_X3_54 ⟨(Nat.le_of_ble_eq_true rfl), (Nat.le_of_ble_eq_true rfl), rfl, rfl⟩ (Nat.le_of_ble_eq_true rfl) (Nat.le_of_ble_eq_true rfl) dX3_flight_10 rfl rfl (Nat.le_of_ble_eq_true rfl) trivial ?_
  refine x_if_ne F dX3_flight_13 (tgt := 26) (by decide) (fun h6 => ?_) (fun h6 => ?_)
  · replace h6 := bI_ne.mp h6
    refine x_aload_n F dX3_flight_26 0 rfl rfl ?_
    refine x_iload_n F dX3_flight_27 3 rfl rfl ?_
    refine x_callSp (rest := []) F (c_X3_flightFact l G A c (tN x) hi4 w) k_X3_216 ⟨(Nat.le_of_ble_eq_true rfl), (Nat.le_of_ble_eq_true rfl), rfl, rfl⟩ (Nat.le_of_ble_eq_true rfl) (Nat.le_of_ble_eq_true rfl) dX3_flight_28 rfl rfl (Nat.le_of_ble_eq_true rfl) hR ?_
    have ho : o_flight c x w = (0, s_fli c (tN x) w, c) := by simp [o_flight, hb3, h6]
    exact x_iret F hE dX3_flight_31 (Nat.le_of_ble_eq_true rfl) (Nat.le_of_ble_eq_true rfl) (⟨by rw [ho], by rw [ho], by rw [ho]; exact hR⟩)
  · replace h6 := bI_0.mp h6
    refine x_throw F hX hL0 thr_3 st_137 dX3_flight_16 dX3_flight_19 dX3_flight_20 dX3_flight_22 dX3_flight_25 (Nat.le_of_ble_eq_true rfl) (Nat.le_of_ble_eq_true rfl) (Nat.le_of_ble_eq_true rfl) (Nat.le_of_ble_eq_true rfl) (fun H9 hz9 ho9 => ?_)
    have ho : (o_flight c x w).1 = 3 := by simp [o_flight, hb3, h6]
    exact ⟨(congrArg xN ho).symm, by rw [ho]; decide, hR.ext hz9 ho9⟩
set_option maxHeartbeats 4000000 in
set_option maxRecDepth 100000 in
theorem c_X3_count (l : Launch) (G : GT) (A : Nat → Prop) (c : CS) (w : Int32) (hL0 : l.stackTraces = false) : Cx l yX3_count cX3_count 2 (some .int) ({ frames := 6, cells := 1, slots := 6, locals := 107 } : Room) G A [.ref (ad c 0 0), .int w] (fun H => Rep G A c H) (fun H r H1 => (o_count c w).1 = 0 ∧ r = some (.int (o_count c w).2.1) ∧ Rep G A (o_count c w).2.2 H1) (fun H X H1 => X = xN (o_count c w).1 ∧ (o_count c w).1 ≠ 0 ∧ Rep G A c H1) := by
  refine cx_of (own := "GliderDay") (by decide +kernel) rfl (Nat.le_of_ble_eq_true rfl) (fun E H0 F hE hX hR => ?_)
  show wx E H0 0 0 0 [(0, .ref (ad c 0 0)), (1, .int w)] []
  refine x_iload_n F dX3_count_0 1 rfl rfl ?_
  refine x_iconst (v := 0) F rfl dX3_count_1 ?_
  refine x_bipush (v := 7) F rfl dX3_count_2 ?_
  refine x_callSp (rest := []) F (c_X3_isWithin l G A w 0 7) k_X3_54 ⟨(Nat.le_of_ble_eq_true rfl), (Nat.le_of_ble_eq_true rfl), rfl, rfl⟩ (Nat.le_of_ble_eq_true rfl) (Nat.le_of_ble_eq_true rfl) dX3_count_4 rfl rfl (Nat.le_of_ble_eq_true rfl) trivial ?_
  refine x_if_ne F dX3_count_7 (tgt := 20) (by decide) (fun h1 => ?_) (fun h1 => ?_)
  · replace h1 := bI_ne.mp h1
    refine x_aload_n F dX3_count_20 0 rfl rfl ?_
    refine x_iload_n F dX3_count_21 1 rfl rfl ?_
    refine x_callVp (rest := []) F hR.day rfl (c_X3_countOf l G A c w) k_X3_222 ⟨(Nat.le_of_ble_eq_true rfl), (Nat.le_of_ble_eq_true rfl), rfl, rfl⟩ (Nat.le_of_ble_eq_true rfl) (Nat.le_of_ble_eq_true rfl) dX3_count_22 rfl rfl (Nat.le_of_ble_eq_true rfl) hR ?_
    have ho : o_count c w = (0, s_cnt c w, c) := by simp [o_count, h1]
    exact x_iret F hE dX3_count_25 (Nat.le_of_ble_eq_true rfl) (Nat.le_of_ble_eq_true rfl) (⟨by rw [ho], by rw [ho], by rw [ho]; exact hR⟩)
  · replace h1 := bI_0.mp h1
    refine x_throw F hX hL0 thr_3 st_220 dX3_count_10 dX3_count_13 dX3_count_14 dX3_count_16 dX3_count_19 (Nat.le_of_ble_eq_true rfl) (Nat.le_of_ble_eq_true rfl) (Nat.le_of_ble_eq_true rfl) (Nat.le_of_ble_eq_true rfl) (fun H9 hz9 ho9 => ?_)
    have ho : (o_count c w).1 = 3 := by simp [o_count, h1]
    exact ⟨(congrArg xN ho).symm, by rw [ho]; decide, hR.ext hz9 ho9⟩
set_option maxHeartbeats 4000000 in
set_option maxRecDepth 100000 in
theorem c_X3_setWind (l : Launch) (G : GT) (A : Nat → Prop) (c : CS) (x : Int32) (hL0 : l.stackTraces = false) : Cx l yX3_setWind cX3_setWind 3 (some .int) ({ frames := 6, cells := 1, slots := 6, locals := 82 } : Room) G A [.ref (ad c 0 0), .int x] (fun H => Rep G A c H) (fun H r H1 => (o_setWind c x).1 = 0 ∧ r = some (.int (o_setWind c x).2.1) ∧ Rep G A (o_setWind c x).2.2 H1) (fun H X H1 => X = xN (o_setWind c x).1 ∧ (o_setWind c x).1 ≠ 0 ∧ Rep G A c H1) := by
  refine cx_of (own := "GliderDay") (by decide +kernel) rfl (Nat.le_of_ble_eq_true rfl) (fun E H0 F hE hX hR => ?_)
  show wx E H0 0 0 0 [(0, .ref (ad c 0 0)), (1, .int x)] []
  refine x_iload_n F dX3_setWind_0 1 rfl rfl ?_
  refine x_iconst (v := 0) F rfl dX3_setWind_1 ?_
  refine x_bipush (v := 40) F rfl dX3_setWind_2 ?_
  refine x_callSp (rest := []) F (c_X3_isWithin l G A x 0 40) k_X3_54 ⟨(Nat.le_of_ble_eq_true rfl), (Nat.le_of_ble_eq_true rfl), rfl, rfl⟩ (Nat.le_of_ble_eq_true rfl) (Nat.le_of_ble_eq_true rfl) dX3_setWind_4 rfl rfl (Nat.le_of_ble_eq_true rfl) trivial ?_
  refine x_if_ne F dX3_setWind_7 (tgt := 20) (by decide) (fun h1 => ?_) (fun h1 => ?_)
  · replace h1 := bI_ne.mp h1
    refine x_aload_n F dX3_setWind_20 0 rfl rfl ?_
    refine y_getD (c := c) (j := 10) (v := .int (cD c 10)) F hR mw_91 rfl (by decide) rfl dX3_setWind_21 ?_
    refine x_istore_n (lv' := [(2, .int (cD c 10)), (0, .ref (ad c 0 0)), (1, .int x)]) F dX3_setWind_24 rfl (by decide) rfl ?_
    refine x_aload_n F dX3_setWind_25 1 rfl rfl ?_
    refine x_iload_n F dX3_setWind_26 2 rfl rfl ?_
    refine y_putD (c := c) (j := 10) (v := x) F hR mw_91 rfl (by decide) rfl rfl rfl dX3_setWind_27 (fun H2 hR3 => ?_)
    refine x_iload_n F dX3_setWind_30 0 rfl rfl ?_
    have ho : o_setWind c x = (0, cD c 10, sD c 10 x) := by simp [o_setWind, h1]
    exact x_iret F hE dX3_setWind_31 (Nat.le_of_ble_eq_true rfl) (Nat.le_of_ble_eq_true rfl) (⟨by rw [ho], by rw [ho], by rw [ho]; exact hR3⟩)
  · replace h1 := bI_0.mp h1
    refine x_throw F hX hL0 thr_1 st_92 dX3_setWind_10 dX3_setWind_13 dX3_setWind_14 dX3_setWind_16 dX3_setWind_19 (Nat.le_of_ble_eq_true rfl) (Nat.le_of_ble_eq_true rfl) (Nat.le_of_ble_eq_true rfl) (Nat.le_of_ble_eq_true rfl) (fun H9 hz9 ho9 => ?_)
    have ho : (o_setWind c x).1 = 1 := by simp [o_setWind, h1]
    exact ⟨(congrArg xN ho).symm, by rw [ho]; decide, hR.ext hz9 ho9⟩
set_option maxHeartbeats 4000000 in
set_option maxRecDepth 100000 in
theorem c_X3_setTugs (l : Launch) (G : GT) (A : Nat → Prop) (c : CS) (x : Int32) (hL0 : l.stackTraces = false) : Cx l yX3_setTugs cX3_setTugs 2 (some .int) ({ frames := 6, cells := 1, slots := 6, locals := 82 } : Room) G A [.ref (ad c 0 0), .int x] (fun H => Rep G A c H) (fun H r H1 => (o_setTugs c x).1 = 0 ∧ r = some (.int (o_setTugs c x).2.1) ∧ Rep G A (o_setTugs c x).2.2 H1) (fun H X H1 => X = xN (o_setTugs c x).1 ∧ (o_setTugs c x).1 ≠ 0 ∧ Rep G A c H1) := by
  refine cx_of (own := "GliderDay") (by decide +kernel) rfl (Nat.le_of_ble_eq_true rfl) (fun E H0 F hE hX hR => ?_)
  show wx E H0 0 0 0 [(0, .ref (ad c 0 0)), (1, .int x)] []
  refine x_iload_n F dX3_setTugs_0 1 rfl rfl ?_
  refine x_iconst (v := 0) F rfl dX3_setTugs_1 ?_
  refine x_iconst (v := 2) F rfl dX3_setTugs_2 ?_
  refine x_callSp (rest := []) F (c_X3_isWithin l G A x 0 2) k_X3_54 ⟨(Nat.le_of_ble_eq_true rfl), (Nat.le_of_ble_eq_true rfl), rfl, rfl⟩ (Nat.le_of_ble_eq_true rfl) (Nat.le_of_ble_eq_true rfl) dX3_setTugs_3 rfl rfl (Nat.le_of_ble_eq_true rfl) trivial ?_
  refine x_if_ne F dX3_setTugs_6 (tgt := 19) (by decide) (fun h1 => ?_) (fun h1 => ?_)
  · replace h1 := bI_ne.mp h1
    refine x_aload_n F dX3_setTugs_19 0 rfl rfl ?_
    refine x_callVp (rest := []) F hR.day rfl (c_X3_tugsTaken l G A c ) k_X3_98 ⟨(Nat.le_of_ble_eq_true rfl), (Nat.le_of_ble_eq_true rfl), rfl, rfl⟩ (Nat.le_of_ble_eq_true rfl) (Nat.le_of_ble_eq_true rfl) dX3_setTugs_20 rfl rfl (Nat.le_of_ble_eq_true rfl) hR ?_
    refine x_iload_n F dX3_setTugs_23 1 rfl rfl ?_
    refine x_icmp_le F dX3_setTugs_24 (tgt := 37) (by decide) (fun h2 => ?_) (fun h2 => ?_)
    · have h2' := Int32.not_lt.mpr h2
      refine x_aload_n F dX3_setTugs_37 0 rfl rfl ?_
      refine x_iload_n F dX3_setTugs_38 1 rfl rfl ?_
      refine y_putD (c := c) (j := 6) (v := x) F hR mw_87 rfl (by decide) rfl rfl rfl dX3_setTugs_39 (fun H3 hR4 => ?_)
      refine x_aload_n F dX3_setTugs_42 0 rfl rfl ?_
      refine x_callVp (rest := []) F hR4.day rfl (c_X3_freeTugs l G A (sD c 6 x) ) k_X3_103 ⟨(Nat.le_of_ble_eq_true rfl), (Nat.le_of_ble_eq_true rfl), rfl, rfl⟩ (Nat.le_of_ble_eq_true rfl) (Nat.le_of_ble_eq_true rfl) dX3_setTugs_43 rfl rfl (Nat.le_of_ble_eq_true rfl) hR4 ?_
      have ho : o_setTugs c x = (0, s_ft (sD c 6 x), sD c 6 x) := by simp [o_setTugs, h1, h2, h2']
      exact x_iret F hE dX3_setTugs_46 (Nat.le_of_ble_eq_true rfl) (Nat.le_of_ble_eq_true rfl) (⟨by rw [ho], by rw [ho], by rw [ho]; exact hR4⟩)
    · have h2' := Int32.not_le.mp h2
      refine x_throw F hX hL0 thr_2 st_101 dX3_setTugs_27 dX3_setTugs_30 dX3_setTugs_31 dX3_setTugs_33 dX3_setTugs_36 (Nat.le_of_ble_eq_true rfl) (Nat.le_of_ble_eq_true rfl) (Nat.le_of_ble_eq_true rfl) (Nat.le_of_ble_eq_true rfl) (fun H9 hz9 ho9 => ?_)
      have ho : (o_setTugs c x).1 = 2 := by simp [o_setTugs, h1, h2, h2']
      exact ⟨(congrArg xN ho).symm, by rw [ho]; decide, hR.ext hz9 ho9⟩
  · replace h1 := bI_0.mp h1
    refine x_throw F hX hL0 thr_1 st_96 dX3_setTugs_9 dX3_setTugs_12 dX3_setTugs_13 dX3_setTugs_15 dX3_setTugs_18 (Nat.le_of_ble_eq_true rfl) (Nat.le_of_ble_eq_true rfl) (Nat.le_of_ble_eq_true rfl) (Nat.le_of_ble_eq_true rfl) (fun H9 hz9 ho9 => ?_)
    have ho : (o_setTugs c x).1 = 1 := by simp [o_setTugs, h1]
    exact ⟨(congrArg xN ho).symm, by rw [ho]; decide, hR.ext hz9 ho9⟩
set_option maxHeartbeats 4000000 in
set_option maxRecDepth 100000 in
theorem c_X3_tick (l : Launch) (G : GT) (A : Nat → Prop) (c : CS) (x : Int32) (hlen : ∀ i, i < tN x → ∀ g, g < ng c → (wtg (u_wN (u_tgs (u_cab (sD (u_tick i c).2 9 (cD (u_tick i c).2 9 + 1)))) g)).length < 10) (hL0 : l.stackTraces = false) : Cx l yX3_tick cX3_tick 4 (some .int) ({ frames := 9, cells := 2, slots := 312, locals := 213 } : Room) G A [.ref (ad c 0 0), .int x] (fun H => Rep G A c H) (fun H r H1 => (o_tick c x).1 = 0 ∧ r = some (.int (o_tick c x).2.1) ∧ Rep G A (o_tick c x).2.2 H1) (fun H X H1 => X = xN (o_tick c x).1 ∧ (o_tick c x).1 ≠ 0 ∧ Rep G A c H1) := by
  refine cx_of (own := "GliderDay") (by decide +kernel) rfl (Nat.le_of_ble_eq_true rfl) (fun E H0 F hE hX hR => ?_)
  show wx E H0 0 0 0 [(0, .ref (ad c 0 0)), (1, .int x)] []
  refine x_iload_n F dX3_tick_0 1 rfl rfl ?_
  refine x_iconst (v := 1) F rfl dX3_tick_1 ?_
  refine x_sipush (v := 300) F rfl dX3_tick_2 ?_
  refine x_callSp (rest := []) F (c_X3_isWithin l G A x 1 300) k_X3_54 ⟨(Nat.le_of_ble_eq_true rfl), (Nat.le_of_ble_eq_true rfl), rfl, rfl⟩ (Nat.le_of_ble_eq_true rfl) (Nat.le_of_ble_eq_true rfl) dX3_tick_5 rfl rfl (Nat.le_of_ble_eq_true rfl) trivial ?_
  refine x_if_eq F dX3_tick_8 (tgt := 23) (by decide) (fun h1 => ?_) (fun h1 => ?_)
  · replace h1 := bI_0.mp h1
    refine x_throw F hX hL0 thr_1 st_207 dX3_tick_23 dX3_tick_26 dX3_tick_27 dX3_tick_29 dX3_tick_32 (Nat.le_of_ble_eq_true rfl) (Nat.le_of_ble_eq_true rfl) (Nat.le_of_ble_eq_true rfl) (Nat.le_of_ble_eq_true rfl) (fun H9 hz9 ho9 => ?_)
    have ho : (o_tick c x).1 = 1 := by simp [o_tick, h1]
    exact ⟨(congrArg xN ho).symm, by rw [ho]; decide, hR.ext hz9 ho9⟩
  · replace h1 := bI_ne.mp h1
    refine x_aload_n F dX3_tick_11 0 rfl rfl ?_
    refine y_getD (c := c) (j := 9) (v := .int (cD c 9)) F hR mw_90 rfl (by decide) rfl dX3_tick_12 ?_
    refine x_iload_n F dX3_tick_15 1 rfl rfl ?_
    refine x_iadd F dX3_tick_16 ?_
    refine x_sipush (v := 1500) F rfl dX3_tick_17 ?_
    refine x_icmp_le F dX3_tick_20 (tgt := 33) (by decide) (fun h2 => ?_) (fun h2 => ?_)
    · have h2' := Int32.not_lt.mpr h2
      refine x_iconst (v := 0) F rfl dX3_tick_33 ?_
      refine x_istore_n (lv' := [(2, .int 0), (0, .ref (ad c 0 0)), (1, .int x)]) F dX3_tick_34 rfl (by decide) rfl ?_
      refine x_iconst (v := 0) F rfl dX3_tick_35 ?_
      refine x_istore_n (lv' := [(3, .int 0), (2, .int 0), (0, .ref (ad c 0 0)), (1, .int x)]) F dX3_tick_36 rfl (by decide) rfl ?_
      obtain ⟨hxn, hx⟩ := tN_ok (x := x) (n := 301) (by have := h1.1; exact Int32.le_trans (by decide) this) (Int32.lt_of_le_of_lt h1.2 (by decide)) (by decide)
      refine wx_sub (lv' := [(0, .ref (ad c 0 0)), (1, .int x), (2, .int 0), (3, .int 0)]) [2, 3, 1, 0] rfl ?_
      refine wx_kn (k2 := kap (ow c) (ow (u_tick 0 c).2)) (n2 := 300 * kap (ow c) (ow (u_tick 0 c).2)) (kap_0 (ow c)).symm (by rw [show kap (ow c) (ow (u_tick 0 c).2) = 0 from kap_0 (ow c)]) ?_
      refine (loop_dn (N := tN x) (P := fun i => ∀ H : Heap, Rep G A (u_tick i c).2 H → wx E H (kap (ow c) (ow (u_tick i c).2)) (300 * kap (ow c) (ow (u_tick i c).2)) 37 [(0, .ref (ad (u_tick i c).2 0 0)), (1, .int x), (2, .int (u_tick i c).1), (3, .int (nI i))] []) ?_ ?_) 0 (Nat.zero_le _) H0 hR
      · intro H hR
        refine x_iload_n F dX3_tick_37 3 rfl rfl ?_
        refine x_iload_n F dX3_tick_38 1 rfl rfl ?_
        refine x_icmp_ge F dX3_tick_39 (tgt := 58) (by decide) (fun _ => ?_) (fun h3 => absurd (by rw [hx]; exact Int32.le_refl _) h3)
        refine x_iload_n F dX3_tick_58 2 rfl rfl ?_
        have ho : o_tick c x = (0, (u_tick (tN x) c).1, (u_tick (tN x) c).2) := if_pos ⟨h1, h2⟩
        exact x_iret F hE dX3_tick_59 (by have h9 := kap_1 (ow c) (ow (u_tick (tN x) c).2); show kap (ow c) (ow (u_tick (tN x) c).2) ≤ 2; omega) (by have h9 := kap_1 (ow c) (ow (u_tick (tN x) c).2); show 300 * kap (ow c) (ow (u_tick (tN x) c).2) ≤ 312; omega) (⟨by rw [ho], by rw [ho], by rw [ho]; exact hR⟩)
      · intro i hi ih H hR
        have hk1 := kap_1 (ow c) (ow (u_tick i c).2)
        have hk2 : kap (ow c) (ow (u_tick i c).2) + kap (ow (u_tick i c).2) (ow (u_m1 (u_tick i c).2)) ≤ 1 := by rw [kap_add (ow_tick c i) (ow_m1 _)]; exact kap_1 _ _
        refine x_iload_n F dX3_tick_37 3 rfl rfl ?_
        refine x_iload_n F dX3_tick_38 1 rfl rfl ?_
        refine x_icmp_ge F dX3_tick_39 (tgt := 58) (by decide) (fun h4 => absurd h4 (by rw [← hx]; exact nI_ge hi (by omega))) (fun _ => ?_)
        refine x_aload_n F dX3_tick_42 0 rfl rfl ?_
        refine x_callVs (rest := []) F hR.day rfl (c_X3_passMinute l G A (u_tick i c).2 (fun g hg => hlen i hi g (by rw [(ad_tick c i).2.2.1] at hg; exact hg))) k_X3_209 ⟨⟨(Nat.le_of_ble_eq_true rfl), (Nat.le_of_ble_eq_true rfl)⟩, (by show kap (ow c) (ow (u_tick i c).2) + kap _ _ ≤ 2; omega), (by show 300 * kap (ow c) (ow (u_tick i c).2) + 300 * kap _ _ ≤ 312; omega)⟩ dX3_tick_43 rfl rfl (Nat.le_of_ble_eq_true rfl) hR ?_
        rintro _ H2 ⟨rfl, hR2⟩ - -
        replace hR2 : Rep G A (u_tick (i + 1) c).2 H2 := hR2
        have hka : kap (ow c) (ow (u_tick i c).2) + kap (ow (u_tick i c).2) (ow (u_m1 (u_tick i c).2)) = kap (ow c) (ow (u_tick (i + 1) c).2) := by
          rw [kap_add (ow_tick c i) (ow_m1 _)]; exact congrArg (kap (ow c)) ((ad_min (u_tick i c).2).2.2.2.2.2).symm
        refine wx_kn (k2 := kap (ow c) (ow (u_tick (i + 1) c).2)) (n2 := 300 * kap (ow c) (ow (u_tick (i + 1) c).2)) hka (by rw [← hka, Nat.mul_add]) ?_
        have had : ad (u_tick (i + 1) c).2 = ad (u_tick i c).2 := (ad_min (u_tick i c).2).1
        refine wx_lv (lv' := [(0, .ref (ad (u_tick (i + 1) c).2 0 0)), (1, .int x), (2, .int (u_tick i c).1), (3, .int (nI i))]) (by rw [had]) ?_
        have ih2 := ih H2 hR2
        rcases min_01 (u_tick i c).2 with h01 | h01
        · show wx E H2 _ _ 46 _ [.int (u_min (u_tick i c).2).1]
          rw [h01]
          have hs1 : (u_tick (i + 1) c).1 = (u_tick i c).1 + 0 := by show (u_tick i c).1 + (u_min (u_tick i c).2).1 = _; rw [h01]
          refine x_if_eq F dX3_tick_46 (tgt := 52) (by decide) (fun _ => ?_) (fun h5 => absurd (by decide) h5)
          refine x_iinc (j := 3) (v := nI (i + 1)) (lv' := [(3, .int (nI (i + 1))), (0, .ref (ad (u_tick (i + 1) c).2 0 0)), (1, .int x), (2, .int ((u_tick i c).1))]) F dX3_tick_52 rfl (nI_1 _) (by decide) rfl ?_
          refine x_goto F dX3_tick_55 (tgt := 37) (by decide) ?_
          refine wx_sub (lv' := [(0, .ref (ad (u_tick (i + 1) c).2 0 0)), (1, .int x), (2, .int ((u_tick i c).1)), (3, .int (nI (i + 1)))]) [1, 2, 3, 0] rfl ?_
          rw [hs1, Int32.add_zero] at ih2
          exact ih2
        · show wx E H2 _ _ 46 _ [.int (u_min (u_tick i c).2).1]
          rw [h01]
          have hs1 : (u_tick (i + 1) c).1 = (u_tick i c).1 + 1 := by show (u_tick i c).1 + (u_min (u_tick i c).2).1 = _; rw [h01]
          refine x_if_eq F dX3_tick_46 (tgt := 52) (by decide) (fun h6 => absurd h6 (by decide)) (fun _ => ?_)
          refine x_iinc (j := 2) (v := ((u_tick i c).1) + 1) (lv' := [(2, .int (((u_tick i c).1) + 1)), (0, .ref (ad (u_tick (i + 1) c).2 0 0)), (1, .int x), (3, .int (nI i))]) F dX3_tick_49 rfl rfl (by decide) rfl ?_
          refine x_iinc (j := 3) (v := nI (i + 1)) (lv' := [(3, .int (nI (i + 1))), (2, .int (((u_tick i c).1) + 1)), (0, .ref (ad (u_tick (i + 1) c).2 0 0)), (1, .int x)]) F dX3_tick_52 rfl (nI_1 _) (by decide) rfl ?_
          refine x_goto F dX3_tick_55 (tgt := 37) (by decide) ?_
          refine wx_sub (lv' := [(0, .ref (ad (u_tick (i + 1) c).2 0 0)), (1, .int x), (2, .int (((u_tick i c).1) + 1)), (3, .int (nI (i + 1)))]) [2, 3, 1, 0] rfl ?_
          rw [hs1] at ih2
          exact ih2
    · have h2' := Int32.not_le.mp h2
      refine x_throw F hX hL0 thr_1 st_207 dX3_tick_23 dX3_tick_26 dX3_tick_27 dX3_tick_29 dX3_tick_32 (Nat.le_of_ble_eq_true rfl) (Nat.le_of_ble_eq_true rfl) (Nat.le_of_ble_eq_true rfl) (Nat.le_of_ble_eq_true rfl) (fun H9 hz9 ho9 => ?_)
      have ho : (o_tick c x).1 = 1 := by simp [o_tick, h1, h2, h2']
      exact ⟨(congrArg xN ho).symm, by rw [ho]; decide, hR.ext hz9 ho9⟩
end CL5
