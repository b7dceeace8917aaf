/-! the start -/
section LS_
theorem nest_in : ∀ w ∈ nestW, w ∈ lw_tbl := by decide +kernel
theorem str_in : ∀ q ∈ strW, Cond.stringRef RX3 q.1 q.2 ∈ lw_tbl := by decide +kernel
theorem str_ex : ∀ q ∈ strW, Cond.exactly (Term.string RX3 q.1) "java/lang/String" ∈ flatC (Jvm.Cond.and given_1 narrow_1) := by decide +kernel
theorem str_n0 : ∀ q ∈ strW, q.1 ≠ 0 := by decide +kernel
set_option maxHeartbeats 4000000 in
theorem G_start {s : State} {args : Array Value} (hts : ∀ w ∈ lw_tbl, w.before args s = true) (hgv : (Jvm.Cond.and given_1 narrow_1).before args s = true) {b L : Nat} {xs : Nat → Int32} (hL : L ≤ 260) (hX : va_X b L xs s s.heap) (hbl : b < s.heap.size) : ∃ G : GT, G.2.2.2 0 = b ∧ Kt G s ∧ ∀ A : Nat → Prop, (∀ a : Nat, a < s.heap.size → ¬ A a) → Kh G A s s.heap := by
  have hs := flat_of_before _ hgv
  have hW : ∀ w ∈ WALL, w.before args s = true := fun w h => hts w (List.mem_filter.mp h).1
  obtain ⟨c0, i0, k0⟩ := u_known (C := RJx4a65c) (T := TJx4a65c) (N := 3) (n := 3) hW inAL (hW _ mw_56)
  obtain ⟨c1, i1, k1⟩ := u_known (C := RX0) (T := TX0) (N := 11) (n := 11) hW inX0 (hW _ mw_296)
  obtain ⟨c2, i2, k2⟩ := u_known (C := RX1) (T := TX1) (N := 10) (n := 10) hW inX1 (hW _ mw_593)
  obtain ⟨c3, i3, k3⟩ := u_known (C := RX2) (T := TX2) (N := 8) (n := 8) hW inX2 (hW _ mw_555)
  obtain ⟨c4, i4, k4⟩ := u_known (C := RX3) (T := TX3) (N := 13) (n := 13) hW inX3 (hW _ mw_48)
  obtain ⟨cI, kI, pI, a1, a2, a3⟩ := Cond.arrayClass_spec (hW _ mw_121)
  have hAO : (Cond.arrayOver (.object "java/lang/Object")).before args s = true := hts _ (by decide +kernel)
  obtain ⟨pO, cO, kO, e1, e2, e3, e4, e5⟩ := Cond.arrayOver_spec hAO
  obtain ⟨mi, hmi⟩ := va_Mi.of (C := "[Ljava/lang/Object;") (hs _ (by decide +kernel))
  have hlen : (Term.length (.static "java/util/ArrayList" "DEFAULTCAPACITY_EMPTY_ELEMENTDATA" "[Ljava/lang/Object;")).eval args s none [] s = some (.int (Int32.ofNat 0)) := Cond.eq_int (b := Term.int 0) (hs _ (by decide +kernel)) rfl
  have hTof := fun (A : Nat → Prop) (hA : ∀ a : Nat, a < s.heap.size → ¬ A a) => va_Tof (N := 0) (f := fun _ => Value.null) (A := A) (tm := .static "java/util/ArrayList" "DEFAULTCAPACITY_EMPTY_ELEMENTDATA" "[Ljava/lang/Object;") (ty := .object "java/lang/Object") (by decide) (hs _ (by decide +kernel)) hlen (fun j hj => absurd hj (Nat.not_lt_zero j)) hA
  obtain ⟨t0, ht0, -⟩ := hTof (fun _ => False) (fun _ _ h => h)
  have hst : ∃ sa : Nat → Nat, sa 0 = b ∧ ∀ q ∈ strW, vk_R RX3 q.1 q.2 (sa q.1) s := by
    refine ⟨fun k => if k = 0 then b else match (Term.string RX3 k).eval args s none [] s with | some (.ref a) => a | _ => 0, if_pos rfl, fun q hq => ?_⟩
    obtain ⟨a, c9, cl9, k9, h1, -⟩ := Cond.exactly_spec (hs _ (str_ex q hq))
    have e9 : (match (Term.string RX3 q.1).eval args s none [] s with | some (.ref a) => a | _ => 0) = a := by rw [h1]
    show vk_R RX3 q.1 q.2 (if q.1 = 0 then b else match (Term.string RX3 q.1).eval args s none [] s with | some (.ref a) => a | _ => 0) s
    rw [if_neg (str_n0 q hq), e9]
    exact vk_R.of (A := args) (hts _ (str_in q hq)) (by
      first
        | exact h1
        | (rw [Term.string_eval_of_vm (args := args) rfl] at h1 ⊢; exact h1))
  obtain ⟨sa, hs0, hsa⟩ := hst
  refine ⟨((fun k => match k with | 0 => c0 | 1 => c1 | 2 => c2 | 3 => c3 | _ => c4, fun k => match k with | 0 => i0 | 1 => i1 | 2 => i2 | 3 => i3 | _ => i4), (cI, cI, cO, cI), (t0, mi), sa), hs0, ⟨⟨fun k q hq => ?_, fun k q hq => ?_⟩, fun w hw => va_Nw.of (nest_tab w hw) (hts w (nest_in w hw)), hsa, va_AO.moved (Vm.Alike.refl s.vm) (u := s) (U := s) ?_, hmi⟩, fun A hA => ⟨vx_Zqof (hts _ (by decide +kernel)) (hW _ mw_32) (hs _ (by decide +kernel)) hA, vx_Zqof (hts _ (by decide +kernel)) (hW _ mw_32) (hs _ (by decide +kernel)) hA, va_Zof (hts _ (by decide +kernel)) (hW _ mw_31) ht0 hA, ?_, ?_⟩⟩
  · match k, hq with
    | 0, hq => cases hq; exact k0
    | 1, hq => cases hq; exact k1
    | 2, hq => cases hq; exact k2
    | 3, hq => cases hq; exact k3
    | 4, hq => cases hq; exact k4
    | k + 5, hq => simp [vwCl] at hq
  · match k, hq with
    | 0, hq => cases hq; exact ⟨fun n z => ⟨(fun k h => by cases h), kI, a2, pI, a3⟩, a1⟩
    | 1, hq => cases hq; exact ⟨fun n z => ⟨(fun k h => by cases h), kI, a2, pI, a3⟩, a1⟩
    | 2, hq => cases hq; exact ⟨fun n z => ⟨(fun k h => by cases h), kO, e3, pO, e4⟩, kO, pO, e3, e4, e1, e5⟩
    | k + 3, hq => simp at hq
  · exact va_AO.of hAO
  · obtain ⟨t1, ht1, hT1⟩ := hTof A hA
    obtain rfl : t1 = t0 := by rw [ht0] at ht1; cases ht1; rfl
    exact hT1
  · obtain ⟨scr, q1, q2, q3, q4, q5⟩ := hX
    refine ⟨L, xs, hL, ?_⟩
    show va_T .int (sa 0) L _ A s s.heap
    rw [hs0]
    exact ⟨scr, q1, q2, q3, Nat.le_of_eq q4.symm, by rw [q4], q5, hA b hbl⟩
section
variable {L : Launch} {rm r2 : Room} {G : GT} {A A1 : Nat → Prop} {H0 : Heap} {n0 : Nat} {cc bytes : ByteArray} {own : String} {E : WE} {H H1 : Heap} {k n pc maxL nA idx : Nat} {lv lv' : List (Nat × Value)} {st rest As : List Value}
theorem y_newDay (F : fx L rm G A H0 n0 cc own E) (hcl : Cond.classLink own idx "GliderDay" ∈ WALL) (hk : k + 1 ≤ rm.cells) (hn : n + 13 ≤ rm.slots) (hd : decode cc pc = .ok (.new idx, 3)) (kk : ∀ H1 : Heap, vt G H.size (.inr (4, [.null, .null, .null, .null, .null, .null, .int 0, .int 0, .int 0, .int 0, .int 0, .int 0, .int 0])) H1 → hnew H H1 → wx E H1 (k + 1) (n + 13) (pc + 3) lv (.ref H.size :: st)) : wx E H k n pc lv st :=
  x_new (C := "GliderDay") (T := TX3) (N := 13) F rfl inX3 tyX3 tyX3_ok hcl mw_48 mw_28 (fun j hj => match j, hj with | 0, _ => rfl | 1, _ => rfl | 2, _ => rfl | 3, _ => rfl | 4, _ => rfl | 5, _ => rfl | 6, _ => rfl | 7, _ => rfl | 8, _ => rfl | 9, _ => rfl | 10, _ => rfl | 11, _ => rfl | 12, _ => rfl | j + 13, hj => absurd hj (by omega)) hk hn hd kk
end
theorem WP.tugs {G : GT} {z xa la sa ra li N1 N2 : Nat} {c c1 : CS} {H H1 : Heap} (h : WP G z xa la sa ra li N1 N2 c H) (hR : Rep G (Bx z [la, sa, ra, li]) c1 H1) (hk : ∀ q : Nat, q < H.size → ¬ Bx z [la, sa, ra, li] q → H1[q]? = H[q]?) (hJ : JJ c1) (had : ad c1 0 0 = ad c 0 0) (n1 : nm c = N1) (n2 : ng c = N2) (b1 : 1 ≤ N1) (b2 : 1 ≤ N2) (e1 : nm c1 = nm c) (e2 : ng c1 = ng c) (e3 : ∀ i, cM c1 i 1 = cM c i 1) (e4 : ∀ g, cG c1 g 1 = cG c g 1) : WL G z xa la sa c1 H1 := by
  obtain ⟨h1, ⟨f, h2, h3⟩, ⟨g, h4, h5⟩, -, -, -, h8, -⟩ := h
  refine ⟨hR.reg (fun q hq => ⟨hq.1, fun x => hq.2 (by simp only [List.mem_cons, List.not_mem_nil, or_false] at x ⊢; omega)⟩), ⟨f, ?_, fun i hi => ?_⟩, ⟨g, ?_, fun i hi => ?_⟩, hJ, had.trans h8, ?_⟩
  · rw [e1, n1]; exact h2.oth (by simp) hk
  · rw [e3]; exact h3 i (by rw [← e1]; exact hi)
  · rw [e2, n2]; exact h4.oth (by simp) hk
  · rw [e4]; exact h5 i (by rw [← e2]; exact hi)
  · rw [e1, e2, n1, n2]; exact ⟨b1, b2⟩
theorem k_L_30 : cwS_ "GliderDayLaw" 30 yL_people cL_people 8 none 6 := ⟨mw_546, mw_547, mw_27, mw_548, ⟨by decide +kernel, by decide +kernel, by decide +kernel⟩⟩
theorem k_L_34 : cwV_ "GliderDayLaw" 34 "GliderDay" yX3_setTugs cX3_setTugs 2 (some .int) 1 := ⟨mw_197, mw_198, mw_199, mw_28, mw_200, ⟨by decide +kernel, by decide +kernel, by decide +kernel⟩⟩
set_option maxHeartbeats 4000000 in
set_option maxRecDepth 100000 in
theorem law_start (l : Launch) (hL0 : l.stackTraces = false) (G : GT) (E : WE) (S0 : Heap) (F : fx l room_1 G (fun q => S0.size ≤ q) S0 15 cL_law "GliderDayLaw" E) (hEnd : ∀ (H : Heap) (k n : Nat) (lv : List (Nat × Value)), k ≤ 600086 → n ≤ 7301442 → wx E H k n 881 lv [.int 1]) : wx E S0 0 0 0 [(0, .ref (G.2.2.2 0))] [] := by
  refine y_newDay F mw_47 (Nat.le_of_ble_eq_true rfl) (Nat.le_of_ble_eq_true rfl) dL_law_0 (fun H1 v1 hn1 => ?_)
  refine x_dup F dL_law_3 rfl ?_
  refine x_callIs (nA := 0) (rest := [.ref S0.size]) F (c_newDay l G (fun q => S0.size ≤ q) S0.size) mw_49 mw_50 mw_28 mw_51 rfl ⟨by decide +kernel, by decide +kernel, by decide +kernel⟩ ⟨⟨(Nat.le_of_ble_eq_true rfl), (Nat.le_of_ble_eq_true rfl)⟩, (Nat.le_of_ble_eq_true rfl), (Nat.le_of_ble_eq_true rfl)⟩ dL_law_4 rfl rfl (Nat.le_of_ble_eq_true rfl) ⟨v1, Nat.le_refl _⟩ ?_
  rintro _ H2 ⟨rfl, f, hf, hR2⟩ hz2 hk2
  have hz12 : S0.size < H2.size := by have := hn1.1; omega
  refine wx_wd (k2 := 10) (n2 := 40) (Nat.le_of_ble_eq_true rfl) (Nat.le_of_ble_eq_true rfl) ?_
  refine x_astore_n (lv' := [(1, .ref S0.size), (0, .ref (G.2.2.2 0))]) F dL_law_7 rfl (by decide) rfl ?_
  refine x_iconst (v := 4) F rfl dL_law_8 ?_
  refine x_aload_n F dL_law_9 1 rfl rfl ?_
  refine x_iconst (v := 0) F rfl dL_law_10 ?_
  refine wx_st (st' := [.int (nI 0), .ref (G.2.2.2 0), .int 4]) (by rfl) ?_
  refine x_callSs (rest := [.int 4]) F (c_L_cell l G _ 0 (by omega)) k_L_9 ⟨⟨(Nat.le_of_ble_eq_true rfl), (Nat.le_of_ble_eq_true rfl)⟩, (Nat.le_of_ble_eq_true rfl), (Nat.le_of_ble_eq_true rfl)⟩ dL_law_11 rfl rfl (Nat.le_of_ble_eq_true rfl) trivial ?_
  rintro _ Hx ⟨v1, rfl, hHx⟩ - -
  rw [hHx]
  refine wx_kn (k2 := 10) (n2 := 40) rfl rfl ?_
  refine x_iconst (v := 5) F rfl dL_law_14 ?_
  refine x_callSp (rest := [.int 4]) F (c_L_below l G _ v1 5 (nI_nz (b := 5) (show (5 : Int32) = nI 5 by decide) (by omega) (by omega))) k_L_15 ⟨(Nat.le_of_ble_eq_true rfl), (Nat.le_of_ble_eq_true rfl), rfl, rfl⟩ (Nat.le_of_ble_eq_true rfl) (Nat.le_of_ble_eq_true rfl) dL_law_15 rfl rfl (Nat.le_of_ble_eq_true rfl) trivial ?_
  obtain ⟨r2, hr3, he4⟩ := bl_in v1 (b := 5) (show (5 : Int32) = nI 5 by decide) (by omega) (by omega)
  refine wx_i (y := nI r2) he4 ?_
  refine x_iadd F dL_law_18 ?_
  refine wx_i (y := nI (4 + r2)) (nI_add 4 _) ?_
  refine x_newaI (N' := (4 + r2)) F (nI_pos (by omega)) (nIs (by omega)) (by omega) (by show 10 + 1 ≤ 600086; omega) (by show 40 + (4 + r2) ≤ 7301442; omega) dL_law_19 (fun H3 va0 hna0 => ?_)
  refine wx_wd (k2 := 11) (n2 := 50) (by show 10 + 1 ≤ 11; omega) (by show 40 + (4 + r2) ≤ 50; omega) ?_
  have sz0 := hna0.1
  refine x_astore_n (lv' := [(2, .ref H2.size), (1, .ref S0.size), (0, .ref (G.2.2.2 0))]) F dL_law_21 rfl (by decide) rfl ?_
  refine x_iconst (v := 1) F rfl dL_law_22 ?_
  refine x_aload_n F dL_law_23 2 rfl rfl ?_
  refine x_iconst (v := 1) F rfl dL_law_24 ?_
  refine wx_st (st' := [.int (nI 1), .ref (G.2.2.2 0), .int 1]) (by rfl) ?_
  refine x_callSs (rest := [.int 1]) F (c_L_cell l G _ 1 (by omega)) k_L_9 ⟨⟨(Nat.le_of_ble_eq_true rfl), (Nat.le_of_ble_eq_true rfl)⟩, (Nat.le_of_ble_eq_true rfl), (Nat.le_of_ble_eq_true rfl)⟩ dL_law_25 rfl rfl (Nat.le_of_ble_eq_true rfl) trivial ?_
  rintro _ Hx ⟨v5, rfl, hHx⟩ - -
  rw [hHx]
  refine wx_kn (k2 := 11) (n2 := 50) rfl rfl ?_
  refine x_iconst (v := 4) F rfl dL_law_28 ?_
  refine x_callSp (rest := [.int 1]) F (c_L_below l G _ v5 4 (nI_nz (b := 4) (show (4 : Int32) = nI 4 by decide) (by omega) (by omega))) k_L_15 ⟨(Nat.le_of_ble_eq_true rfl), (Nat.le_of_ble_eq_true rfl), rfl, rfl⟩ (Nat.le_of_ble_eq_true rfl) (Nat.le_of_ble_eq_true rfl) dL_law_29 rfl rfl (Nat.le_of_ble_eq_true rfl) trivial ?_
  obtain ⟨r6, hr7, he8⟩ := bl_in v5 (b := 4) (show (4 : Int32) = nI 4 by decide) (by omega) (by omega)
  refine wx_i (y := nI r6) he8 ?_
  refine x_iadd F dL_law_32 ?_
  refine wx_i (y := nI (1 + r6)) (nI_add 1 _) ?_
  refine x_newaI (N' := (1 + r6)) F (nI_pos (by omega)) (nIs (by omega)) (by omega) (by show 11 + 1 ≤ 600086; omega) (by show 50 + (1 + r6) ≤ 7301442; omega) dL_law_33 (fun H4 va1 hna1 => ?_)
  refine wx_wd (k2 := 12) (n2 := 60) (by show 11 + 1 ≤ 12; omega) (by show 50 + (1 + r6) ≤ 60; omega) ?_
  have sz1 := hna1.1
  have va0_1 := va0.new hna1
  refine x_astore_n (lv' := [(3, .ref H3.size), (2, .ref H2.size), (1, .ref S0.size), (0, .ref (G.2.2.2 0))]) F dL_law_35 rfl (by decide) rfl ?_
  refine x_aload_n F dL_law_36 0 rfl rfl ?_
  refine x_len F va1 dL_law_37 ?_
  refine x_newaI (N' := (1 + r6)) F (nI_pos (by omega)) (nIs (by omega)) (by omega) (by show 12 + 1 ≤ 600086; omega) (by show 60 + (1 + r6) ≤ 7301442; omega) dL_law_38 (fun H5 va2 hna2 => ?_)
  refine wx_wd (k2 := 13) (n2 := 70) (by show 12 + 1 ≤ 13; omega) (by show 60 + (1 + r6) ≤ 70; omega) ?_
  have sz2 := hna2.1
  have va0_2 := va0_1.new hna2
  have va1_2 := va1.new hna2
  refine x_astore (lv' := [(4, .ref H4.size), (3, .ref H3.size), (2, .ref H2.size), (1, .ref S0.size), (0, .ref (G.2.2.2 0))]) F dL_law_40 (by decide) rfl ?_
  refine x_aload_n F dL_law_42 1 rfl rfl ?_
  refine x_len F va1_2 dL_law_43 ?_
  refine x_newaI (N' := (1 + r6)) F (nI_pos (by omega)) (nIs (by omega)) (by omega) (by show 13 + 1 ≤ 600086; omega) (by show 70 + (1 + r6) ≤ 7301442; omega) dL_law_44 (fun H6 va3 hna3 => ?_)
  refine wx_wd (k2 := 14) (n2 := 80) (by show 13 + 1 ≤ 14; omega) (by show 70 + (1 + r6) ≤ 80; omega) ?_
  have sz3 := hna3.1
  have va0_3 := va0_2.new hna3
  have va1_3 := va1_2.new hna3
  have va2_3 := va2.new hna3
  refine x_astore (lv' := [(5, .ref H5.size), (4, .ref H4.size), (3, .ref H3.size), (2, .ref H2.size), (1, .ref S0.size), (0, .ref (G.2.2.2 0))]) F dL_law_46 (by decide) rfl ?_
  refine x_aload_n F dL_law_48 4 rfl rfl ?_
  refine x_aload_n F dL_law_49 5 rfl rfl ?_
  refine x_aload_n F dL_law_50 3 rfl rfl ?_
  refine x_aload_n F dL_law_51 2 rfl rfl ?_
  refine x_aload F dL_law_52 1 rfl ?_
  refine x_aload F dL_law_54 0 rfl ?_
  have hd : WPd S0.size (H2.size) (H3.size) (H4.size) (H5.size) := ⟨⟨by omega, by omega, by omega, by omega, by omega, by omega⟩, by omega, by omega, by omega, by omega⟩
  have hRy := (((hR2.cut.new hna0).new hna1).new hna2).new hna3
  have hRx : Rep G (Bx S0.size [H2.size, H3.size, H4.size, H5.size]) (c00 f) H6 := hRy.reg (fun q hq => ⟨hq.1, fun x => by
    have h9 := hq.2
    simp only [List.mem_cons, List.not_mem_nil, or_false] at x
    omega⟩)
  have hWP : WP G S0.size S0.size (H2.size) (H3.size) (H4.size) (H5.size) (4 + r2) (1 + r6) (c00 f) H6 := ⟨hRx, ⟨_, va0_3, fun i hi => absurd hi (Nat.not_lt_zero i)⟩, ⟨_, va1_3, fun i hi => absurd hi (Nat.not_lt_zero i)⟩, ⟨_, va2_3⟩, ⟨_, va3⟩, JJ_00 f, hf, rfl, (show tkb 0 + tkb 0 = 0 by rw [tkb_0]; decide), rfl⟩
  refine x_callSs (rest := []) F (c_L_people l hL0 G S0.size hd (N1 := (4 + r2)) (N2 := (1 + r6)) (by omega) (by omega) (c00 f) rfl rfl) k_L_30 ⟨⟨(Nat.le_of_ble_eq_true rfl), (Nat.le_of_ble_eq_true rfl)⟩, (Nat.le_of_ble_eq_true rfl), (Nat.le_of_ble_eq_true rfl)⟩ dL_law_56 rfl rfl (Nat.le_of_ble_eq_true rfl) hWP ?_
  rintro _ H7 ⟨rfl, c1, hW1, hm1, hg1⟩ hz7 -
  refine wx_wd (k2 := 80) (n2 := 9000) (Nat.le_of_ble_eq_true rfl) (Nat.le_of_ble_eq_true rfl) ?_
  obtain ⟨hRb, -, -, -, -, hJ, had, hnf, htk, htm⟩ := id hW1
  have hR := hRb.all
  have hb := hJ.2.1.2.1.1
  refine x_aload_n F dL_law_59 4 rfl rfl ?_
  refine x_aload_n F dL_law_60 5 rfl rfl ?_
  refine x_iconst (v := 2) F rfl dL_law_61 ?_
  refine wx_st (st' := [.int (nI 2), .ref (G.2.2.2 0), .ref S0.size]) (by rfl) ?_
  refine x_callSs (rest := [.ref S0.size]) F (c_L_cell l G _ 2 (by omega)) k_L_9 ⟨⟨(Nat.le_of_ble_eq_true rfl), (Nat.le_of_ble_eq_true rfl)⟩, (Nat.le_of_ble_eq_true rfl), (Nat.le_of_ble_eq_true rfl)⟩ dL_law_62 rfl rfl (Nat.le_of_ble_eq_true rfl) trivial ?_
  rintro _ Hx ⟨v9, rfl, hHx⟩ - -
  rw [hHx]
  refine wx_kn (k2 := 80) (n2 := 9000) rfl rfl ?_
  refine x_iconst (v := 3) F rfl dL_law_65 ?_
  refine x_callSp (rest := [.ref S0.size]) F (c_L_below l G _ v9 3 (nI_nz (b := 3) (show (3 : Int32) = nI 3 by decide) (by omega) (by omega))) k_L_15 ⟨(Nat.le_of_ble_eq_true rfl), (Nat.le_of_ble_eq_true rfl), rfl, rfl⟩ (Nat.le_of_ble_eq_true rfl) (Nat.le_of_ble_eq_true rfl) dL_law_66 rfl rfl (Nat.le_of_ble_eq_true rfl) trivial ?_
  obtain ⟨r10, hr11, he12⟩ := bl_in v9 (b := 3) (show (3 : Int32) = nI 3 by decide) (by omega) (by omega)
  refine wx_i (y := nI r10) he12 ?_
  obtain ⟨ho, hJ2⟩ := JJ_tugs hJ (x := nI r10) ⟨nI_pos' (by omega), (nI_leI (b := 2) (by omega) (by decide)).mpr (by omega)⟩ htk
  refine wx_st (st' := [.int (nI r10), .ref (ad c1 0 0)]) (by rw [had]) ?_
  refine x_callVXo (A1 := Bx S0.size [H2.size, H3.size, H4.size, H5.size]) (As := [.int (nI r10)]) (rest := []) F hR.day rfl (c_X3_setTugs l G (Bx S0.size [H2.size, H3.size, H4.size, H5.size]) c1 (nI r10) hL0) k_L_34 ⟨⟨(Nat.le_of_ble_eq_true rfl), (Nat.le_of_ble_eq_true rfl)⟩, (Nat.le_of_ble_eq_true rfl), (Nat.le_of_ble_eq_true rfl)⟩ dL_law_69 rfl rfl (Nat.le_of_ble_eq_true rfl) (fun q hq => hq.1) hW1.fr hRb (fun H1 X1 h => h.2.1 (by rw [ho])) ?_
  rintro _ H8 ⟨-, rfl, hR8⟩ hz8 hk8
  rw [ho] at hR8
  have hW8 := hW1.tugs hR8 hk8 hJ2 rfl hm1 hg1 (by omega) (by omega) rfl rfl (fun _ => rfl) (fun _ => rfl)
  refine x_pop F dL_law_72 rfl ?_
  refine x_iconst (v := 0) F rfl dL_law_73 ?_
  refine x_istore (lv' := [(6, .int 0), (5, .ref H5.size), (4, .ref H4.size), (3, .ref H3.size), (2, .ref H2.size), (1, .ref S0.size), (0, .ref (G.2.2.2 0))]) F dL_law_74 (by decide) rfl ?_
  refine wx_sub (lv' := [(0, .ref (G.2.2.2 0)), (1, .ref S0.size), (2, .ref H2.size), (3, .ref H3.size), (6, .int 0)]) [6, 5, 4, 3, 0] rfl ?_
  refine wx_lv (lv' := [(0, .ref (G.2.2.2 0)), (1, .ref S0.size), (2, .ref H2.size), (3, .ref H3.size), (6, .int (nI 0))]) (by rfl) ?_
  refine wx_wd (k2 := 100 + 30 * 0) (n2 := 10000 + 1700 * 0) (Nat.le_of_ble_eq_true rfl) (Nat.le_of_ble_eq_true rfl) ?_
  exact la_loop l hL0 G E S0 F hEnd 50 0 _ H8 hW8 (Nat.le_of_eq hnf) (by show tN (cD c1 9) ≤ 0; rw [htm]; decide) (by omega)
end LS_
