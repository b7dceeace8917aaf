/-! the day's public reads as pure calls (nothing is thrown), the law's own helpers -/
section P32
theorem nIs {n : Nat} (h : n < 2 ^ 31) : tN (nI n) = n := nI_clamp h
section
variable {L : Launch} {rm r2 : Room} {G : GT} {A A1 : Nat → Prop} {H0 : Heap} {n0 : Nat} {cc bytes : ByteArray} {own : String} {E : WE} {H H1 : Heap} {k n pc maxL nA idx : Nat} {lv lv' : List (Nat × Value)} {st rest As : List Value} {ret ret2 : Option FieldType} {nm_ : String} {Post Post2 : Heap → Option Value → Heap → Prop}
theorem x_irem (F : fx L rm G A H0 n0 cc own E) {x y : Int32} (hd : decode cc pc = .ok (.irem, 1)) (hne : ¬ y = 0) (kk : wx E H k n (pc + 1) lv (.int (x - x / y * y) :: st)) : wx E H k n pc lv (.int y :: .int x :: st) := by
  obtain ⟨p, l, e, R, s, m, args, below, meth, c, A1, nL, Q⟩ := E
  obtain ⟨⟨hx, hb, hml, hown, hts⟩, hL, hR, hAA, hH0, hnL, hKt, hKh, hfr, hlk⟩ := F
  intro locs ls hS hl
  exact lv_irem hx hb hd hne (kk locs ls hS hl)
theorem x_ixor (F : fx L rm G A H0 n0 cc own E) {x y : Int32} (hd : decode cc pc = .ok (.ixor, 1)) (kk : wx E H k n (pc + 1) lv (.int (x ^^^ y) :: st)) : wx E H k n pc lv (.int y :: .int x :: st) := by
  obtain ⟨p, l, e, R, s, m, args, below, meth, c, A1, nL, Q⟩ := E
  obtain ⟨⟨hx, hb, hml, hown, hts⟩, hL, hR, hAA, hH0, hnL, hKt, hKh, hfr, hlk⟩ := F
  intro locs ls hS hl
  exact lv_ixor hx hb hd (kk locs ls hS hl)
theorem x_dconst1 (F : fx L rm G A H0 n0 cc own E) (hd : decode cc pc = .ok (.dconst 1, 1)) (kk : wx E H k n (pc + 1) lv (.double FP.dconst1 :: st)) : wx E H k n pc lv st := by
  obtain ⟨p, l, e, R, s, m, args, below, meth, c, A1, nL, Q⟩ := E
  obtain ⟨⟨hx, hb, hml, hown, hts⟩, hL, hR, hAA, hH0, hnL, hKt, hKh, hfr, hlk⟩ := F
  intro locs ls hS hl
  exact lv_dconst1 hx hb hd (kk locs ls hS hl)
theorem x_mabs (F : fx L rm G A H0 n0 cc own E) (hl : Cond.methodLink own idx Lib.Math.abs.name ∈ WALL) (hs : Cond.static Lib.Math.abs.name ∈ WALL) (hi : Cond.initialized "java/lang/Math" ∈ WALL) (hc : Cond.code Lib.Math.abs.name Lib.Math.abs.code 1 (some .int) ∈ WALL) (hf : 1 ≤ rm.frames) (hlo : (st.map fun v => v.category).sum + 13 ≤ rm.locals) (hk : k ≤ rm.cells) (hn : n ≤ rm.slots) {x : Int32} (hd : decode cc pc = .ok (.invokestatic idx, 3)) (kk : wx E H k n (pc + 3) lv (.int (if 0 ≤ x then x else 0 - x) :: st)) : wx E H k n pc lv (.int x :: st) := by
  obtain ⟨p, l, e, R, s, m, args, below, meth, c, A1, nL, Q⟩ := E
  obtain ⟨⟨hx, hb, hml, hown, hts⟩, hL, hR, hAA, hH0, hnL, hKt, hKh, hfr, hlk⟩ := F
  subst hR
  intro locs ls hS hl2
  exact va_mabs hx hb (hml.trans hl2.1.symm) hown (hts _ hl) (hts _ hs) (hts _ hi) (hts _ hc) hf hlo hk hn hd (kk locs ls hS hl2)
/-- the script's length, an element of it -/
theorem x_scr (F : fx L rm G A H0 n0 cc own E) : ∃ (N : Nat) (xs : Nat → Int32), N ≤ 260 ∧ (∀ {H : Heap} {k n pc : Nat} {lv : List (Nat × Value)} {st : List Value}, decode cc pc = .ok (.arraylength, 1) → wx E H k n (pc + 1) lv (.int (nI N) :: st) → wx E H k n pc lv (.ref (G.2.2.2 0) :: st)) ∧
    ∀ {H : Heap} {k n pc : Nat} {lv : List (Nat × Value)} {st : List Value} {i : Nat}, i < N → decode cc pc = .ok (.iaload, 1) → wx E H k n (pc + 1) lv (.int (xs i) :: st) → wx E H k n pc lv (.int (nI i) :: .ref (G.2.2.2 0) :: st) := by
  obtain ⟨p, l, e, R, s, m, args, below, meth, c, A1, nL, Q⟩ := E
  obtain ⟨⟨hx, hb, hml, hown, hts⟩, hL, hR, hAA, hH0, hnL, hKt, hKh, hfr, hlk⟩ := F
  subst hAA hH0
  obtain ⟨N, xs, hN, hT⟩ := hKh.2.2.2.2
  refine ⟨N, xs, hN, fun hd kk locs ls hS hl2 => va_tlen hx hb hT hS rfl hd (kk locs ls hS hl2), fun {H k n pc lv st i} hi hd kk locs ls hS hl2 => ?_⟩
  obtain ⟨cell, h1, h2, h3, h4, h5, h6, h7⟩ := hT
  have hlt := (Array.getElem?_eq_some_iff.mp h1).1
  have e0 : (nI i).toNatClampNeg = i := nI_clamp (by omega)
  refine W.iald (v := .int (xs i)) hx hb (by rw [hS.2.1 _ hlt h7]; exact h1) h2 h3 ?_ (by rw [e0]; exact h6 i hi) rfl rfl hd (kk locs ls hS hl2)
  rintro (q | q)
  · exact absurd q (nI_pos (by omega))
  · rw [e0] at q; omega
end
theorem nIm {i n : Nat} (hi : i < n) (hn : n < 2 ^ 31) : ¬ nI i < 0 ∧ nI i < nI n := ⟨nI_pos (by omega), nI_lt hi hn⟩
def bl (x n : Int32) : Int32 := (x &&& 2147483647) - (x &&& 2147483647) / n * n
theorem nat_lt {i n : Nat} (h : nI i < nI n) (hi : i < 2 ^ 31) : i < n := Nat.lt_of_not_le (fun q => Int32.not_le.mpr h (nI_le q hi))
set_option maxHeartbeats 4000000 in
set_option maxRecDepth 100000 in
theorem p_X3_memberAt (l : Launch) (G : GT) (A : Nat → Prop) (c : CS) (i : Nat) (hi : i < nm c) : Ct l yX3_memberAt cX3_memberAt 2 (some (.object "GliderDay$Member")) ({ frames := 3, cells := 0, slots := 0, locals := 64 } : Room) G A [.ref (ad c 0 0), .int (nI i)] (fun H => Rep G A c H) (Pu (.ref (ad c 3 i))) := by
  refine ct_of (own := "GliderDay") (by decide +kernel) rfl (Nat.le_of_ble_eq_true rfl) (fun E H0 F hE hR => ?_)
  show wx E H0 0 0 0 [(0, .ref (ad c 0 0)), (1, .int (nI i))] []
  refine x_iload_n F dX3_memberAt_0 1 rfl rfl ?_
  refine x_if_lt F dX3_memberAt_1 (tgt := 15) (by decide) (fun h1 => absurd h1 ((nIm hi (bnd hR.wf).1).1)) (fun _ => ?_)
  refine x_iload_n F dX3_memberAt_4 1 rfl rfl ?_
  refine x_aload_n F dX3_memberAt_5 0 rfl rfl ?_
  refine y_getD (c := c) (j := 0) (v := .ref (ad c 1 0)) F hR mw_81 rfl (by decide) rfl dX3_memberAt_6 ?_
  refine y_lsize (c := c) (k5 := 0) F hR (by decide) k_X3_65 ⟨(Nat.le_of_ble_eq_true rfl), (Nat.le_of_ble_eq_true rfl)⟩ (Nat.le_of_ble_eq_true rfl) (Nat.le_of_ble_eq_true rfl) dX3_memberAt_9 (Nat.le_of_ble_eq_true rfl) ?_
  refine wx_i (y := nI (nm c)) (congrArg nI (els_0 _)) ?_
  refine x_icmp_lt F dX3_memberAt_12 (tgt := 26) (by decide) (fun _ => ?_) (fun h2 => absurd ((nIm hi (bnd hR.wf).1).2) h2)
  refine x_aload_n F dX3_memberAt_26 0 rfl rfl ?_
  refine y_getD (c := c) (j := 0) (v := .ref (ad c 1 0)) F hR mw_81 rfl (by decide) rfl dX3_memberAt_27 ?_
  refine x_iload_n F dX3_memberAt_30 1 rfl rfl ?_
  refine y_lget (c := c) (k5 := 0) (i := i) (e := ad c 3 i) F hR (by decide) (elg_0 hi) k_X3_188 ⟨(Nat.le_of_ble_eq_true rfl), (Nat.le_of_ble_eq_true rfl)⟩ (Nat.le_of_ble_eq_true rfl) (Nat.le_of_ble_eq_true rfl) dX3_memberAt_31 (Nat.le_of_ble_eq_true rfl) ?_
  refine x_castS (C := "GliderDay$Member") (T := TX2) (N := 8) F (hR.mem hi) rfl mw_268 dX3_memberAt_34 ?_
  exact x_aret F (Or.inl ⟨_, rfl⟩) (Or.inr ⟨_, rfl⟩) hE dX3_memberAt_37 (Nat.le_of_ble_eq_true rfl) (Nat.le_of_ble_eq_true rfl) (⟨rfl, rfl⟩)
set_option maxHeartbeats 4000000 in
set_option maxRecDepth 100000 in
theorem p_X3_gliderAt (l : Launch) (G : GT) (A : Nat → Prop) (c : CS) (i : Nat) (hi : i < ng c) : Ct l yX3_gliderAt cX3_gliderAt 2 (some (.object "GliderDay$Glider")) ({ frames := 3, cells := 0, slots := 0, locals := 64 } : Room) G A [.ref (ad c 0 0), .int (nI i)] (fun H => Rep G A c H) (Pu (.ref (ad c 4 i))) := by
  refine ct_of (own := "GliderDay") (by decide +kernel) rfl (Nat.le_of_ble_eq_true rfl) (fun E H0 F hE hR => ?_)
  show wx E H0 0 0 0 [(0, .ref (ad c 0 0)), (1, .int (nI i))] []
  refine x_iload_n F dX3_gliderAt_0 1 rfl rfl ?_
  refine x_if_lt F dX3_gliderAt_1 (tgt := 15) (by decide) (fun h1 => absurd h1 ((nIm hi (bnd hR.wf).2.1).1)) (fun _ => ?_)
  refine x_iload_n F dX3_gliderAt_4 1 rfl rfl ?_
  refine x_aload_n F dX3_gliderAt_5 0 rfl rfl ?_
  refine y_getD (c := c) (j := 1) (v := .ref (ad c 1 1)) F hR mw_82 rfl (by decide) rfl dX3_gliderAt_6 ?_
  refine y_lsize (c := c) (k5 := 1) F hR (by decide) k_X3_65 ⟨(Nat.le_of_ble_eq_true rfl), (Nat.le_of_ble_eq_true rfl)⟩ (Nat.le_of_ble_eq_true rfl) (Nat.le_of_ble_eq_true rfl) dX3_gliderAt_9 (Nat.le_of_ble_eq_true rfl) ?_
  refine wx_i (y := nI (ng c)) (congrArg nI (els_1 _)) ?_
  refine x_icmp_lt F dX3_gliderAt_12 (tgt := 26) (by decide) (fun _ => ?_) (fun h2 => absurd ((nIm hi (bnd hR.wf).2.1).2) h2)
  refine x_aload_n F dX3_gliderAt_26 0 rfl rfl ?_
  refine y_getD (c := c) (j := 1) (v := .ref (ad c 1 1)) F hR mw_82 rfl (by decide) rfl dX3_gliderAt_27 ?_
  refine x_iload_n F dX3_gliderAt_30 1 rfl rfl ?_
  refine y_lget (c := c) (k5 := 1) (i := i) (e := ad c 4 i) F hR (by decide) (elg_1 hi) k_X3_188 ⟨(Nat.le_of_ble_eq_true rfl), (Nat.le_of_ble_eq_true rfl)⟩ (Nat.le_of_ble_eq_true rfl) (Nat.le_of_ble_eq_true rfl) dX3_gliderAt_31 (Nat.le_of_ble_eq_true rfl) ?_
  refine x_castS (C := "GliderDay$Glider") (T := TX1) (N := 10) F (hR.gli hi) rfl mw_282 dX3_gliderAt_34 ?_
  exact x_aret F (Or.inl ⟨_, rfl⟩) (Or.inr ⟨_, rfl⟩) hE dX3_gliderAt_37 (Nat.le_of_ble_eq_true rfl) (Nat.le_of_ble_eq_true rfl) (⟨rfl, rfl⟩)
set_option maxHeartbeats 4000000 in
set_option maxRecDepth 100000 in
theorem p_X3_flightAt (l : Launch) (G : GT) (A : Nat → Prop) (c : CS) (i : Nat) (hi : i < nf c) : Ct l yX3_flightAt cX3_flightAt 2 (some (.object "GliderDay$Flight")) ({ frames := 3, cells := 0, slots := 0, locals := 64 } : Room) G A [.ref (ad c 0 0), .int (nI i)] (fun H => Rep G A c H) (Pu (.ref (ad c 5 i))) := by
  refine ct_of (own := "GliderDay") (by decide +kernel) rfl (Nat.le_of_ble_eq_true rfl) (fun E H0 F hE hR => ?_)
  show wx E H0 0 0 0 [(0, .ref (ad c 0 0)), (1, .int (nI i))] []
  refine x_iload_n F dX3_flightAt_0 1 rfl rfl ?_
  refine x_if_lt F dX3_flightAt_1 (tgt := 15) (by decide) (fun h1 => absurd h1 ((nIm hi (bnd hR.wf).2.2.1).1)) (fun _ => ?_)
  refine x_iload_n F dX3_flightAt_4 1 rfl rfl ?_
  refine x_aload_n F dX3_flightAt_5 0 rfl rfl ?_
  refine y_getD (c := c) (j := 2) (v := .ref (ad c 1 2)) F hR mw_83 rfl (by decide) rfl dX3_flightAt_6 ?_
  refine y_lsize (c := c) (k5 := 2) F hR (by decide) k_X3_65 ⟨(Nat.le_of_ble_eq_true rfl), (Nat.le_of_ble_eq_true rfl)⟩ (Nat.le_of_ble_eq_true rfl) (Nat.le_of_ble_eq_true rfl) dX3_flightAt_9 (Nat.le_of_ble_eq_true rfl) ?_
  refine wx_i (y := nI (nf c)) (congrArg nI (els_2 _)) ?_
  refine x_icmp_lt F dX3_flightAt_12 (tgt := 26) (by decide) (fun _ => ?_) (fun h2 => absurd ((nIm hi (bnd hR.wf).2.2.1).2) h2)
  refine x_aload_n F dX3_flightAt_26 0 rfl rfl ?_
  refine y_getD (c := c) (j := 2) (v := .ref (ad c 1 2)) F hR mw_83 rfl (by decide) rfl dX3_flightAt_27 ?_
  refine x_iload_n F dX3_flightAt_30 1 rfl rfl ?_
  refine y_lget (c := c) (k5 := 2) (i := i) (e := ad c 5 i) F hR (by decide) (elg_2 hi) k_X3_188 ⟨(Nat.le_of_ble_eq_true rfl), (Nat.le_of_ble_eq_true rfl)⟩ (Nat.le_of_ble_eq_true rfl) (Nat.le_of_ble_eq_true rfl) dX3_flightAt_31 (Nat.le_of_ble_eq_true rfl) ?_
  refine x_castS (C := "GliderDay$Flight") (T := TX0) (N := 11) F (hR.fli hi) rfl mw_295 dX3_flightAt_34 ?_
  exact x_aret F (Or.inl ⟨_, rfl⟩) (Or.inr ⟨_, rfl⟩) hE dX3_flightAt_37 (Nat.le_of_ble_eq_true rfl) (Nat.le_of_ble_eq_true rfl) (⟨rfl, rfl⟩)
set_option maxHeartbeats 4000000 in
set_option maxRecDepth 100000 in
theorem p_X3_flight (l : Launch) (G : GT) (A : Nat → Prop) (c : CS) (i : Nat) (hi : i < nf c) (w : Int32) (hw : 0 ≤ w ∧ w ≤ 7) : Ct l yX3_flight cX3_flight 4 (some .int) ({ frames := 4, cells := 0, slots := 0, locals := 85 } : Room) G A [.ref (ad c 0 0), .int (nI i), .int w] (fun H => Rep G A c H) (Pu (.int (s_fli c i w))) := by
  refine ct_of (own := "GliderDay") (by decide +kernel) rfl (Nat.le_of_ble_eq_true rfl) (fun E H0 F hE hR => ?_)
  show wx E H0 0 0 0 [(0, .ref (ad c 0 0)), (1, .int (nI i)), (2, .int w)] []
  refine x_aload_n F dX3_flight_0 0 rfl rfl ?_
  refine x_iload_n F dX3_flight_1 1 rfl rfl ?_
  refine x_callVp (rest := []) F hR.day rfl (p_X3_flightAt l G A c i hi) k_X3_213 ⟨(Nat.le_of_ble_eq_true rfl), (Nat.le_of_ble_eq_true rfl), rfl, rfl⟩ (Nat.le_of_ble_eq_true rfl) (Nat.le_of_ble_eq_true rfl) dX3_flight_2 rfl rfl (Nat.le_of_ble_eq_true rfl) hR ?_
  refine x_astore_n (lv' := [(3, .ref (ad c 5 i)), (0, .ref (ad c 0 0)), (1, .int (nI i)), (2, .int w)]) F dX3_flight_5 rfl (by decide) rfl ?_
  refine x_iload_n F dX3_flight_6 3 rfl rfl ?_
  refine x_iconst (v := 0) F rfl dX3_flight_7 ?_
  refine x_bipush (v := 7) F rfl dX3_flight_8 ?_
  refine x_callSp (rest := []) F (c_X3_isWithin l G A w 0 7) k_X3_54 ⟨(Nat.le_of_ble_eq_true rfl), (Nat.le_of_ble_eq_true rfl), rfl, rfl⟩ (Nat.le_of_ble_eq_true rfl) (Nat.le_of_ble_eq_true rfl) dX3_flight_10 rfl rfl (Nat.le_of_ble_eq_true rfl) trivial ?_
  refine x_if_ne F dX3_flight_13 (tgt := 26) (by decide) (fun _ => ?_) (fun h1 => absurd h1 (bI_ne.mpr hw))
  refine x_aload_n F dX3_flight_26 0 rfl rfl ?_
  refine x_iload_n F dX3_flight_27 3 rfl rfl ?_
  refine x_callSp (rest := []) F (c_X3_flightFact l G A c i hi w) k_X3_216 ⟨(Nat.le_of_ble_eq_true rfl), (Nat.le_of_ble_eq_true rfl), rfl, rfl⟩ (Nat.le_of_ble_eq_true rfl) (Nat.le_of_ble_eq_true rfl) dX3_flight_28 rfl rfl (Nat.le_of_ble_eq_true rfl) hR ?_
  exact x_iret F hE dX3_flight_31 (Nat.le_of_ble_eq_true rfl) (Nat.le_of_ble_eq_true rfl) (⟨rfl, rfl⟩)
set_option maxHeartbeats 4000000 in
set_option maxRecDepth 100000 in
theorem p_X3_member (l : Launch) (G : GT) (A : Nat → Prop) (c : CS) (i : Nat) (hi : i < nm c) (w : Int32) (hw : 0 ≤ w ∧ w ≤ 5) : Ct l yX3_member cX3_member 4 (some .int) ({ frames := 4, cells := 0, slots := 0, locals := 85 } : Room) G A [.ref (ad c 0 0), .int (nI i), .int w] (fun H => Rep G A c H) (Pu (.int (s_mem c i w))) := by
  refine ct_of (own := "GliderDay") (by decide +kernel) rfl (Nat.le_of_ble_eq_true rfl) (fun E H0 F hE hR => ?_)
  show wx E H0 0 0 0 [(0, .ref (ad c 0 0)), (1, .int (nI i)), (2, .int w)] []
  refine x_aload_n F dX3_member_0 0 rfl rfl ?_
  refine x_iload_n F dX3_member_1 1 rfl rfl ?_
  refine x_callVp (rest := []) F hR.day rfl (p_X3_memberAt l G A c i hi) k_X3_119 ⟨(Nat.le_of_ble_eq_true rfl), (Nat.le_of_ble_eq_true rfl), rfl, rfl⟩ (Nat.le_of_ble_eq_true rfl) (Nat.le_of_ble_eq_true rfl) dX3_member_2 rfl rfl (Nat.le_of_ble_eq_true rfl) hR ?_
  refine x_astore_n (lv' := [(3, .ref (ad c 3 i)), (0, .ref (ad c 0 0)), (1, .int (nI i)), (2, .int w)]) F dX3_member_5 rfl (by decide) rfl ?_
  refine x_iload_n F dX3_member_6 3 rfl rfl ?_
  refine x_iconst (v := 0) F rfl dX3_member_7 ?_
  refine x_iconst (v := 5) F rfl dX3_member_8 ?_
  refine x_callSp (rest := []) F (c_X3_isWithin l G A w 0 5) k_X3_54 ⟨(Nat.le_of_ble_eq_true rfl), (Nat.le_of_ble_eq_true rfl), rfl, rfl⟩ (Nat.le_of_ble_eq_true rfl) (Nat.le_of_ble_eq_true rfl) dX3_member_9 rfl rfl (Nat.le_of_ble_eq_true rfl) trivial ?_
  refine x_if_ne F dX3_member_12 (tgt := 25) (by decide) (fun _ => ?_) (fun h1 => absurd h1 (bI_ne.mpr hw))
  refine x_aload_n F dX3_member_25 0 rfl rfl ?_
  refine x_iload_n F dX3_member_26 3 rfl rfl ?_
  refine x_callSp (rest := []) F (c_X3_memberFact l G A c i hi w) k_X3_140 ⟨(Nat.le_of_ble_eq_true rfl), (Nat.le_of_ble_eq_true rfl), rfl, rfl⟩ (Nat.le_of_ble_eq_true rfl) (Nat.le_of_ble_eq_true rfl) dX3_member_27 rfl rfl (Nat.le_of_ble_eq_true rfl) hR ?_
  exact x_iret F hE dX3_member_30 (Nat.le_of_ble_eq_true rfl) (Nat.le_of_ble_eq_true rfl) (⟨rfl, rfl⟩)
set_option maxHeartbeats 4000000 in
set_option maxRecDepth 100000 in
theorem p_X3_glider (l : Launch) (G : GT) (A : Nat → Prop) (c : CS) (i : Nat) (hi : i < ng c) (w : Int32) (hw : 0 ≤ w ∧ w ≤ 4) : Ct l yX3_glider cX3_glider 4 (some .int) ({ frames := 4, cells := 0, slots := 0, locals := 85 } : Room) G A [.ref (ad c 0 0), .int (nI i), .int w] (fun H => Rep G A c H) (Pu (.int (s_gli c i w))) := by
  refine ct_of (own := "GliderDay") (by decide +kernel) rfl (Nat.le_of_ble_eq_true rfl) (fun E H0 F hE hR => ?_)
  show wx E H0 0 0 0 [(0, .ref (ad c 0 0)), (1, .int (nI i)), (2, .int w)] []
  refine x_aload_n F dX3_glider_0 0 rfl rfl ?_
  refine x_iload_n F dX3_glider_1 1 rfl rfl ?_
  refine x_callVp (rest := []) F hR.day rfl (p_X3_gliderAt l G A c i hi) k_X3_106 ⟨(Nat.le_of_ble_eq_true rfl), (Nat.le_of_ble_eq_true rfl), rfl, rfl⟩ (Nat.le_of_ble_eq_true rfl) (Nat.le_of_ble_eq_true rfl) dX3_glider_2 rfl rfl (Nat.le_of_ble_eq_true rfl) hR ?_
  refine x_astore_n (lv' := [(3, .ref (ad c 4 i)), (0, .ref (ad c 0 0)), (1, .int (nI i)), (2, .int w)]) F dX3_glider_5 rfl (by decide) rfl ?_
  refine x_iload_n F dX3_glider_6 3 rfl rfl ?_
  refine x_iconst (v := 0) F rfl dX3_glider_7 ?_
  refine x_iconst (v := 4) F rfl dX3_glider_8 ?_
  refine x_callSp (rest := []) F (c_X3_isWithin l G A w 0 4) k_X3_54 ⟨(Nat.le_of_ble_eq_true rfl), (Nat.le_of_ble_eq_true rfl), rfl, rfl⟩ (Nat.le_of_ble_eq_true rfl) (Nat.le_of_ble_eq_true rfl) dX3_glider_9 rfl rfl (Nat.le_of_ble_eq_true rfl) trivial ?_
  refine x_if_ne F dX3_glider_12 (tgt := 25) (by decide) (fun _ => ?_) (fun h1 => absurd h1 (bI_ne.mpr hw))
  refine x_aload_n F dX3_glider_25 0 rfl rfl ?_
  refine x_iload_n F dX3_glider_26 3 rfl rfl ?_
  refine x_callSp (rest := []) F (c_X3_gliderFact l G A c i hi w) k_X3_144 ⟨(Nat.le_of_ble_eq_true rfl), (Nat.le_of_ble_eq_true rfl), rfl, rfl⟩ (Nat.le_of_ble_eq_true rfl) (Nat.le_of_ble_eq_true rfl) dX3_glider_27 rfl rfl (Nat.le_of_ble_eq_true rfl) hR ?_
  exact x_iret F hE dX3_glider_30 (Nat.le_of_ble_eq_true rfl) (Nat.le_of_ble_eq_true rfl) (⟨rfl, rfl⟩)
set_option maxHeartbeats 4000000 in
set_option maxRecDepth 100000 in
theorem p_X3_count (l : Launch) (G : GT) (A : Nat → Prop) (c : CS) (w : Int32) (hw : 0 ≤ w ∧ w ≤ 7) : Ct l yX3_count cX3_count 2 (some .int) ({ frames := 5, cells := 0, slots := 0, locals := 107 } : Room) G A [.ref (ad c 0 0), .int w] (fun H => Rep G A c H) (Pu (.int (s_cnt c w))) := by
  refine ct_of (own := "GliderDay") (by decide +kernel) rfl (Nat.le_of_ble_eq_true rfl) (fun E H0 F hE hR => ?_)
  show wx E H0 0 0 0 [(0, .ref (ad c 0 0)), (1, .int w)] []
  refine x_iload_n F dX3_count_0 1 rfl rfl ?_
  refine x_iconst (v := 0) F rfl dX3_count_1 ?_
  refine x_bipush (v := 7) F rfl dX3_count_2 ?_
  refine x_callSp (rest := []) F (c_X3_isWithin l G A w 0 7) k_X3_54 ⟨(Nat.le_of_ble_eq_true rfl), (Nat.le_of_ble_eq_true rfl), rfl, rfl⟩ (Nat.le_of_ble_eq_true rfl) (Nat.le_of_ble_eq_true rfl) dX3_count_4 rfl rfl (Nat.le_of_ble_eq_true rfl) trivial ?_
  refine x_if_ne F dX3_count_7 (tgt := 20) (by decide) (fun _ => ?_) (fun h1 => absurd h1 (bI_ne.mpr hw))
  refine x_aload_n F dX3_count_20 0 rfl rfl ?_
  refine x_iload_n F dX3_count_21 1 rfl rfl ?_
  refine x_callVp (rest := []) F hR.day rfl (c_X3_countOf l G A c w) k_X3_222 ⟨(Nat.le_of_ble_eq_true rfl), (Nat.le_of_ble_eq_true rfl), rfl, rfl⟩ (Nat.le_of_ble_eq_true rfl) (Nat.le_of_ble_eq_true rfl) dX3_count_22 rfl rfl (Nat.le_of_ble_eq_true rfl) hR ?_
  exact x_iret F hE dX3_count_25 (Nat.le_of_ble_eq_true rfl) (Nat.le_of_ble_eq_true rfl) (⟨rfl, rfl⟩)
set_option maxHeartbeats 4000000 in
set_option maxRecDepth 100000 in
theorem p_X3_bill (l : Launch) (G : GT) (A : Nat → Prop) (c : CS) (i : Nat) (hi : i < nm c) : Ct l yX3_bill cX3_bill 2 (some .int) ({ frames := 4, cells := 0, slots := 0, locals := 85 } : Room) G A [.ref (ad c 0 0), .int (nI i)] (fun H => Rep G A c H) (Pu (.int (cM c i 7))) := by
  refine ct_of (own := "GliderDay") (by decide +kernel) rfl (Nat.le_of_ble_eq_true rfl) (fun E H0 F hE hR => ?_)
  show wx E H0 0 0 0 [(0, .ref (ad c 0 0)), (1, .int (nI i))] []
  refine x_aload_n F dX3_bill_0 0 rfl rfl ?_
  refine x_iload_n F dX3_bill_1 1 rfl rfl ?_
  refine x_callVp (rest := []) F hR.day rfl (p_X3_memberAt l G A c i hi) k_X3_119 ⟨(Nat.le_of_ble_eq_true rfl), (Nat.le_of_ble_eq_true rfl), rfl, rfl⟩ (Nat.le_of_ble_eq_true rfl) (Nat.le_of_ble_eq_true rfl) dX3_bill_2 rfl rfl (Nat.le_of_ble_eq_true rfl) hR ?_
  refine y_getM (c := c) (i := i) (j := 7) (v := .int (cM c i 7)) F hR hi nw_226 rfl (by decide) rfl dX3_bill_5 ?_
  exact x_iret F hE dX3_bill_8 (Nat.le_of_ble_eq_true rfl) (Nat.le_of_ble_eq_true rfl) (⟨rfl, rfl⟩)
set_option maxHeartbeats 4000000 in
set_option maxRecDepth 100000 in
theorem c_L_below (l : Launch) (G : GT) (A : Nat → Prop) (x n : Int32) (hn : ¬ n = 0) : Ct l yL_below cL_below 2 (some .int) ({ frames := 0, cells := 0, slots := 0, locals := 0 } : Room) G A [.int x, .int n] (fun H => True) (Pu (.int (bl x n))) := by
  refine ct_of (own := "GliderDayLaw") (by decide +kernel) rfl (Nat.le_of_ble_eq_true rfl) (fun E H0 F hE _ => ?_)
  show wx E H0 0 0 0 [(0, .int x), (1, .int n)] []
  refine x_iload_n F dL_below_0 0 rfl rfl ?_
  refine x_ldc F mw_541 dL_below_1 ?_
  refine x_iand F dL_below_3 ?_
  refine x_iload_n F dL_below_4 1 rfl rfl ?_
  refine x_irem F dL_below_5 hn ?_
  exact x_iret F hE dL_below_6 (Nat.le_of_ble_eq_true rfl) (Nat.le_of_ble_eq_true rfl) (⟨rfl, rfl⟩)
set_option maxHeartbeats 4000000 in
set_option maxRecDepth 100000 in
theorem c_L_cell (l : Launch) (G : GT) (A : Nat → Prop) (i : Nat) (hi : i < 1000) : Ct l yL_cell cL_cell 2 (some .int) ({ frames := 0, cells := 0, slots := 0, locals := 0 } : Room) G A [.ref (G.2.2.2 0), .int (nI i)] (fun H => True) (fun H r H1 => ∃ v, r = some (.int v) ∧ H1 = H) := by
  refine ct_of (own := "GliderDayLaw") (by decide +kernel) rfl (Nat.le_of_ble_eq_true rfl) (fun E H0 F hE _ => ?_)
  obtain ⟨N, xs, hN, hlen, hget⟩ := x_scr F
  show wx E H0 0 0 0 [(0, .ref (G.2.2.2 0)), (1, .int (nI i))] []
  refine x_iload_n F dL_cell_0 1 rfl rfl ?_
  refine x_aload_n F dL_cell_1 0 rfl rfl ?_
  refine hlen dL_cell_2 ?_
  refine x_icmp_ge F dL_cell_3 (tgt := 12) (by decide) (fun h1 => ?_) (fun h1 => ?_)
  · refine x_ldc F mw_545 dL_cell_12 ?_
    refine x_iload_n F dL_cell_14 1 rfl rfl ?_
    refine x_iconst (v := 3) F rfl dL_cell_15 ?_
    refine x_iadd F dL_cell_16 ?_
    refine x_imul F dL_cell_17 ?_
    exact x_iret F hE dL_cell_18 (Nat.le_of_ble_eq_true rfl) (Nat.le_of_ble_eq_true rfl) (⟨_, rfl, rfl⟩)
  · refine x_aload_n F dL_cell_6 0 rfl rfl ?_
    refine x_iload_n F dL_cell_7 1 rfl rfl ?_
    refine hget (nat_lt (Int32.not_le.mp h1) (by omega)) dL_cell_8 ?_
    refine x_goto F dL_cell_9 (tgt := 18) (by decide) ?_
    exact x_iret F hE dL_cell_18 (Nat.le_of_ble_eq_true rfl) (Nat.le_of_ble_eq_true rfl) (⟨_, rfl, rfl⟩)
end P32
