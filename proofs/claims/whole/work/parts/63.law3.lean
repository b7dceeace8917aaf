/-! the start, the loop -/
section LW3
theorem nest_in : ∀ w ∈ nestW, w ∈ lw_tbl := by decide +kernel
theorem str_in : ∀ q ∈ strW, Cond.stringRef RX3 q.1 q.2 ∈ lw_tbl := by decide +kernel
theorem str_ex : ∀ q ∈ strW, Cond.exactly (Term.string RX3 q.1) "java/lang/String" ∈ flatC (Jvm.Cond.and given_1 narrow_1) := by decide +kernel
set_option maxHeartbeats 4000000 in
theorem G_start {s : State} {args : Array Value} (hts : ∀ w ∈ lw_tbl, w.before args s = true) (hgv : (Jvm.Cond.and given_1 narrow_1).before args s = true) : ∃ G : GT, Kt G s ∧ ∀ A : Nat → Prop, (∀ a : Nat, a < s.heap.size → ¬ A a) → Kh G A s s.heap := by
  have hs := flat_of_before _ hgv
  have hW : ∀ w ∈ WALL, w.before args s = true := fun w h => hts w (List.mem_filter.mp h).1
  obtain ⟨c0, i0, k0⟩ := u_known (C := RJx4a65c) (T := TJx4a65c) (N := 3) (n := 3) hW inAL (hW _ mw_84)
  obtain ⟨c1, i1, k1⟩ := u_known (C := RX0) (T := TX0) (N := 11) (n := 11) hW inX0 (hW _ mw_568)
  obtain ⟨c2, i2, k2⟩ := u_known (C := RX1) (T := TX1) (N := 10) (n := 10) hW inX1 (hW _ mw_430)
  obtain ⟨c3, i3, k3⟩ := u_known (C := RX2) (T := TX2) (N := 8) (n := 8) hW inX2 (hW _ mw_333)
  obtain ⟨c4, i4, k4⟩ := u_known (C := RX3) (T := TX3) (N := 13) (n := 13) hW inX3 (hW _ mw_76)
  obtain ⟨c5, i5, k5⟩ := u_known (C := RX4) (T := TX4) (N := 30) (n := 30) hW inX4 (hW _ mw_794)
  obtain ⟨cI, kI, pI, a1, a2, a3⟩ := Cond.arrayClass_spec (hW _ mw_149)
  obtain ⟨cZ, kZ, pZ, b1, b2, b3⟩ := Cond.arrayClass_spec (hW _ mw_890)
  obtain ⟨cL, kL, pL, d1, d2, d3⟩ := Cond.arrayClass_spec (hW _ mw_1093)
  have hAO : (Cond.arrayOver (.object "java/lang/Object")).before args s = true := hts _ (by decide +kernel)
  obtain ⟨pO, cO, kO, e1, e2, e3, e4, e5⟩ := Cond.arrayOver_spec hAO
  obtain ⟨mi, hmi⟩ := va_Mi.of (C := "[Ljava/lang/Object;") (hs _ (by decide +kernel))
  have hlen : (Term.length (.static "java/util/ArrayList" "DEFAULTCAPACITY_EMPTY_ELEMENTDATA" "[Ljava/lang/Object;")).eval args s none [] s = some (.int (Int32.ofNat 0)) := Cond.eq_int (b := Term.int 0) (hs _ (by decide +kernel)) rfl
  have hTof := fun (A : Nat → Prop) (hA : ∀ a : Nat, a < s.heap.size → ¬ A a) => va_Tof (N := 0) (f := fun _ => Value.null) (A := A) (tm := .static "java/util/ArrayList" "DEFAULTCAPACITY_EMPTY_ELEMENTDATA" "[Ljava/lang/Object;") (ty := .object "java/lang/Object") (by decide) (hs _ (by decide +kernel)) hlen (fun j hj => absurd hj (Nat.not_lt_zero j)) hA
  obtain ⟨t0, ht0, -⟩ := hTof (fun _ => False) (fun _ _ h => h)
  have hst : ∃ sa : Nat → Nat, ∀ q ∈ strW, vk_R RX3 q.1 q.2 (sa q.1) s := by
    refine ⟨fun k => match (Term.string RX3 k).eval args s none [] s with | some (.ref a) => a | _ => 0, fun q hq => ?_⟩
    obtain ⟨a, c9, cl9, k9, h1, -⟩ := Cond.exactly_spec (hs _ (str_ex q hq))
    have e9 : (match (Term.string RX3 q.1).eval args s none [] s with | some (.ref a) => a | _ => 0) = a := by rw [h1]
    show vk_R RX3 q.1 q.2 (match (Term.string RX3 q.1).eval args s none [] s with | some (.ref a) => a | _ => 0) s
    rw [e9]
    exact vk_R.of (A := args) (hts _ (str_in q hq)) (by
      first
        | exact h1
        | (rw [Term.string_eval_of_vm (args := args) rfl] at h1 ⊢; exact h1))
  obtain ⟨sa, hsa⟩ := hst
  refine ⟨((fun k => match k with | 0 => c0 | 1 => c1 | 2 => c2 | 3 => c3 | 4 => c4 | _ => c5, fun k => match k with | 0 => i0 | 1 => i1 | 2 => i2 | 3 => i3 | 4 => i4 | _ => i5), (cI, cZ, cO, cL), (t0, mi), sa), ⟨⟨fun k q hq => ?_, fun k q hq => ?_⟩, fun w hw => va_Nw.of (nest_tab w hw) (hts w (nest_in w hw)), hsa, va_AO.moved (Vm.Alike.refl s.vm) (u := s) (U := s) ?_, hmi, va_Nc.of (hs _ (by decide +kernel)), va_Nc.of (hs _ (by decide +kernel)), va_Nc.of (hs _ (by decide +kernel))⟩, fun A hA => ⟨vx_Zqof (hts _ (by decide +kernel)) (hW _ mw_60) (hs _ (by decide +kernel)) hA, vx_Zqof (hts _ (by decide +kernel)) (hW _ mw_60) (hs _ (by decide +kernel)) hA, va_Zof (hts _ (by decide +kernel)) (hW _ mw_58) ht0 hA, ?_⟩⟩
  · match k, hq with
    | 0, hq => cases hq; exact k0
    | 1, hq => cases hq; exact k1
    | 2, hq => cases hq; exact k2
    | 3, hq => cases hq; exact k3
    | 4, hq => cases hq; exact k4
    | 5, hq => cases hq; exact k5
    | k + 6, hq => simp [vwCl] at hq
  · match k, hq with
    | 0, hq => cases hq; exact ⟨fun n z => ⟨(fun k h => by cases h), kI, a2, pI, a3⟩, a1⟩
    | 1, hq => cases hq; exact ⟨fun n z => ⟨(fun k h => by cases h), kZ, b2, pZ, b3⟩, b1⟩
    | 2, hq => cases hq; exact ⟨fun n z => ⟨(fun k h => by cases h), kO, e3, pO, e4⟩, kO, pO, e3, e4, e1, e5⟩
    | 3, hq => cases hq; exact ⟨fun n z => ⟨(fun k h => by cases h), kL, d2, pL, d3⟩, d1⟩
    | k + 4, hq => simp at hq
  · exact va_AO.of hAO
  · obtain ⟨t1, ht1, hT1⟩ := hTof A hA
    obtain rfl : t1 = t0 := by rw [ht0] at ht1; cases ht1; rfl
    exact hT1
variable {L : Launch} {rm r2 : Room} {G : GT} {A A1 : Nat → Prop} {H0 : Heap} {n0 : Nat} {cc bytes : ByteArray} {own : String} {E : WE} {H H1 : Heap} {k n pc maxL nA idx : Nat} {lv lv' : List (Nat × Value)} {st rest As : List Value}
theorem six_in {i N : Nat} (h : i + 6 ≤ N) (hN : N ≤ 3072) : ¬ nI N - 6 < nI i := by
  have e : nI N - 6 = nI (N - 6) := by
    have h2 := nI_add (N - 6) 6
    rw [show N - 6 + 6 = N by omega] at h2
    rw [← h2, show nI 6 = 6 by decide]
    grind
  rw [e]
  exact nI_nlt (by omega) (by omega)
theorem six_out {i N : Nat} (h : ¬ i + 6 ≤ N) (hi : i ≤ N) (hN : N ≤ 3072) : nI N - 6 < nI i := by
  by_cases h6 : 6 ≤ N
  · have e : nI N - 6 = nI (N - 6) := by
      have h2 := nI_add (N - 6) 6
      rw [show N - 6 + 6 = N by omega] at h2
      rw [← h2, show nI 6 = 6 by decide]
      grind
    rw [e]
    exact nI_lt (by omega) (by omega)
  · refine Int32.lt_of_lt_of_le ?_ (nI_pos' (by omega))
    rcases (show N = 0 ∨ N = 1 ∨ N = 2 ∨ N = 3 ∨ N = 4 ∨ N = 5 by omega) with rfl | rfl | rfl | rfl | rfl | rfl <;> decide
theorem Rep.cut {c : CS} (h : Rep G A c H) : Rep G (fun q => A q ∧ q < H.size) c H := by
  obtain ⟨T, bA, cp, mo, h1, h2⟩ := h
  exact ⟨T, bA, cp, mo, fun a ha => ⟨h1 a ha, (h1 a ha).2⟩, h2⟩
theorem y_newDay (F : fx L rm G A H0 n0 cc own E) (hcl : Cond.classLink own idx "GliderDay" ∈ WALL) (hk : k + 1 ≤ rm.cells) (hn : n + 13 ≤ rm.slots) (hd : decode cc pc = .ok (.new idx, 3)) (kk : ∀ H1 : Heap, vt G H.size (.inr (4, [.null, .null, .null, .null, .null, .null, .int 0, .int 0, .int 0, .int 0, .int 0, .int 0, .int 0])) H1 → hnew H H1 → wx E H1 (k + 1) (n + 13) (pc + 3) lv (.ref H.size :: st)) : wx E H k n pc lv st :=
  x_new (C := "GliderDay") (T := TX3) (N := 13) F rfl inX3 tyX3 tyX3_ok hcl mw_76 mw_55 (fun j hj => match j, hj with | 0, _ => rfl | 1, _ => rfl | 2, _ => rfl | 3, _ => rfl | 4, _ => rfl | 5, _ => rfl | 6, _ => rfl | 7, _ => rfl | 8, _ => rfl | 9, _ => rfl | 10, _ => rfl | 11, _ => rfl | 12, _ => rfl | j + 13, hj => absurd hj (by omega)) hk hn hd kk
theorem y_newMod (F : fx L rm G A H0 n0 cc own E) (hcl : Cond.classLink own idx "GliderDayModel" ∈ WALL) (hk : k + 1 ≤ rm.cells) (hn : n + 30 ≤ rm.slots) (hd : decode cc pc = .ok (.new idx, 3)) (kk : ∀ H1 : Heap, vt G H.size (.inr (5, [.int 0, .int 0, .int 0, .int 0, .int 0, .int 0, .int 0, .int 0, .null, .int 0, .null, .null, .int 0, .null, .null, .null, .null, .null, .null, .int 0, .int 0, .null, .null, .null, .null, .null, .null, .null, .null, .null])) H1 → hnew H H1 → wx E H1 (k + 1) (n + 30) (pc + 3) lv (.ref H.size :: st)) : wx E H k n pc lv st :=
  x_new (C := "GliderDayModel") (T := TX4) (N := 30) F rfl inX4 tyX4 tyX4_ok hcl mw_794 mw_59 (fun j hj => match j, hj with | 0, _ => rfl | 1, _ => rfl | 2, _ => rfl | 3, _ => rfl | 4, _ => rfl | 5, _ => rfl | 6, _ => rfl | 7, _ => rfl | 8, _ => rfl | 9, _ => rfl | 10, _ => rfl | 11, _ => rfl | 12, _ => rfl | 13, _ => rfl | 14, _ => rfl | 15, _ => rfl | 16, _ => rfl | 17, _ => rfl | 18, _ => rfl | 19, _ => rfl | 20, _ => rfl | 21, _ => rfl | 22, _ => rfl | 23, _ => rfl | 24, _ => rfl | 25, _ => rfl | 26, _ => rfl | 27, _ => rfl | 28, _ => rfl | 29, _ => rfl | j + 30, hj => absurd hj (by omega)) hk hn hd kk
set_option maxHeartbeats 4000000 in
set_option maxRecDepth 100000 in
theorem law_loop (l : Launch) (hL0 : l.stackTraces = false) (G : GT) (E : WE) (S0 : Heap) (F : fx l room_1 G (fun q => S0.size ≤ q) S0 9 cL_law "GliderDayLaw" E) {b N : Nat} {xs : Nat → Int32} (hX : sX b N xs E) (hbA : ¬ S0.size ≤ b) (hN : N ≤ 3072) {xa ob : Nat} {fa : Nat → Nat} (hfa : ∀ q, Am fa q → S0.size ≤ q) (hEnd : ∀ (H : Heap) (k n : Nat) (lv : List (Nat × Value)), k ≤ 601024 → n ≤ 7293034 → wx E H k n 1489 lv [.int 1]) : ∀ (r j : Nat) (H : Heap), LI G S0.size xa ob fa H → 6 * j ≤ N → N + 1 ≤ 6 * j + 6 * r → wx E H (27 + 800 * j) (1043 + 6400 * j) 23 (lvL b xa fa ob (6 * j)) []
  | 0, j, H, _, h1, h2 => absurd h2 (by omega)
  | r + 1, j, H, hI, hj, hr => by
    have ih := law_loop (xa := xa) (ob := ob) l hL0 G E S0 F hX hbA hN hfa hEnd r (j + 1)
    show wx E H (27 + 800 * j) (1043 + 6400 * j) 23 [(0, .ref b), (1, .ref xa), (2, .ref (fa 30)), (3, .ref ob), (4, .int (nI (6 * j)))] []
    refine x_iload F dL_law_23 4 rfl ?_
    refine x_aload_n F dL_law_25 0 rfl rfl ?_
    refine x_slen F hX hbA dL_law_26 ?_
    refine wx_i (y := nI N) rfl ?_
    refine x_bipush (v := 6) F rfl dL_law_27 ?_
    refine x_isub F dL_law_29 ?_
    by_cases hi : 6 * j + 6 ≤ N
    · refine x_icmp_gt F dL_law_30 (tgt := 1488) (by decide) (fun h => absurd h (six_in hi hN)) (fun _ => ?_)
      have hk : 27 + 800 * j + 800 ≤ 601024 := by omega
      have hn : 1043 + 6400 * j + 6400 ≤ 7293034 := by omega
      have J : ∀ H1 : Heap, LI G S0.size xa ob fa H1 → wx E H1 (27 + 800 * j + 800) (1043 + 6400 * j + 6400) 1482 (lvL b xa fa ob (6 * j)) [] := fun H1 hI1 => by
        show wx E H1 _ _ 1482 [(0, .ref b), (1, .ref xa), (2, .ref (fa 30)), (3, .ref ob), (4, .int (nI (6 * j)))] []
        refine x_iinc (j := 4) (v := nI (6 * (j + 1))) (lv' := [(4, .int (nI (6 * (j + 1)))), (0, .ref b), (1, .ref xa), (2, .ref (fa 30)), (3, .ref ob)]) F dL_law_1482 rfl (by rw [show Int32.ofInt 6 = nI 6 by decide, nI_add]; rfl) (by decide) rfl ?_
        refine x_goto F dL_law_1485 (tgt := 23) (by decide) ?_
        refine wx_sub (lv' := lvL b xa fa ob (6 * (j + 1))) [1, 2, 3, 4, 0] rfl ?_
        exact wx_wd (by omega) (by omega) (ih H1 hI1 (by omega) (by omega))
      refine x_aload_n F dL_law_33 0 rfl rfl ?_
      refine x_iload F dL_law_34 4 rfl ?_
      refine x_sld F hX hbA (v := xs (nI (6 * j)).toNatClampNeg) (vp_in_nI (n := 6 * j) (by omega) (by omega)) rfl dL_law_36 ?_
      refine x_bipush (v := 31) F rfl dL_law_37 ?_
      refine x_iand F dL_law_39 ?_
      obtain ⟨z, hz⟩ : ∃ z, xs (nI (6 * j)).toNatClampNeg &&& 31 = z := ⟨_, rfl⟩
      refine wx_i (y := z) hz ?_
      by_cases hw0 : z = 0
      · rw [hw0]
        refine x_tableIn (off := 116) (tgt := 156) F dL_law_40 (by decide) (by decide) rfl (by decide) ?_
        exact la_addMember l hL0 G E S0 F hX hbA hN hfa hI hi hk hn J
      by_cases hw1 : z = 1
      · rw [hw1]
        refine x_tableIn (off := 172) (tgt := 212) F dL_law_40 (by decide) (by decide) rfl (by decide) ?_
        exact la_addGlider l hL0 G E S0 F hX hbA hN hfa hI hi hk hn J
      by_cases hw2 : z = 2
      · rw [hw2]
        refine x_tableIn (off := 252) (tgt := 292) F dL_law_40 (by decide) (by decide) rfl (by decide) ?_
        exact la_setWind l hL0 G E S0 F hX hbA hN hfa hI hi hk hn J
      by_cases hw3 : z = 3
      · rw [hw3]
        refine x_tableIn (off := 308) (tgt := 348) F dL_law_40 (by decide) (by decide) rfl (by decide) ?_
        exact la_setSunset l hL0 G E S0 F hX hbA hN hfa hI hi hk hn J
      by_cases hw4 : z = 4
      · rw [hw4]
        refine x_tableIn (off := 364) (tgt := 404) F dL_law_40 (by decide) (by decide) rfl (by decide) ?_
        exact la_setTugs l hL0 G E S0 F hX hbA hN hfa hI hi hk hn J
      by_cases hw5 : z = 5
      · rw [hw5]
        refine x_tableIn (off := 420) (tgt := 460) F dL_law_40 (by decide) (by decide) rfl (by decide) ?_
        exact la_bar l hL0 G E S0 F hX hbA hN hfa hI hi hk hn J
      by_cases hw6 : z = 6
      · rw [hw6]
        refine x_tableIn (off := 511) (tgt := 551) F dL_law_40 (by decide) (by decide) rfl (by decide) ?_
        exact la_promote l hL0 G E S0 F hX hbA hN hfa hI hi hk hn J
      by_cases hw7 : z = 7
      · rw [hw7]
        refine x_tableIn (off := 567) (tgt := 607) F dL_law_40 (by decide) (by decide) rfl (by decide) ?_
        exact la_member l hL0 G E S0 F hX hbA hN hfa hI hi hk hn J
      by_cases hw8 : z = 8
      · rw [hw8]
        refine x_tableIn (off := 635) (tgt := 675) F dL_law_40 (by decide) (by decide) rfl (by decide) ?_
        exact la_glider l hL0 G E S0 F hX hbA hN hfa hI hi hk hn J
      by_cases hw9 : z = 9
      · rw [hw9]
        refine x_tableIn (off := 703) (tgt := 743) F dL_law_40 (by decide) (by decide) rfl (by decide) ?_
        exact la_ask l hL0 G E S0 F hX hbA hN hfa hI hi hk hn J
      by_cases hw10 : z = 10
      · rw [hw10]
        refine x_tableIn (off := 807) (tgt := 847) F dL_law_40 (by decide) (by decide) rfl (by decide) ?_
        exact la_drop l hL0 G E S0 F hX hbA hN hfa hI hi hk hn J
      by_cases hw11 : z = 11
      · rw [hw11]
        refine x_tableIn (off := 863) (tgt := 903) F dL_law_40 (by decide) (by decide) rfl (by decide) ?_
        exact la_list l hL0 G E S0 F hX hbA hN hfa hI hi hk hn J
      by_cases hw12 : z = 12
      · rw [hw12]
        refine x_tableIn (off := 919) (tgt := 959) F dL_law_40 (by decide) (by decide) rfl (by decide) ?_
        exact la_reason l hL0 G E S0 F hX hbA hN hfa hI hi hk hn J
      by_cases hw13 : z = 13
      · rw [hw13]
        refine x_tableIn (off := 975) (tgt := 1015) F dL_law_40 (by decide) (by decide) rfl (by decide) ?_
        exact la_call l hL0 G E S0 F hX hbA hN hfa hI hi hk hn J
      by_cases hw14 : z = 14
      · rw [hw14]
        refine x_tableIn (off := 1031) (tgt := 1071) F dL_law_40 (by decide) (by decide) rfl (by decide) ?_
        exact la_tick l hL0 G E S0 F hX hbA hN hfa hI hi hk hn J
      by_cases hw15 : z = 15
      · rw [hw15]
        refine x_tableIn (off := 1087) (tgt := 1127) F dL_law_40 (by decide) (by decide) rfl (by decide) ?_
        exact la_now l hL0 G E S0 F hX hbA hN hfa hI hi hk hn J
      by_cases hw16 : z = 16
      · rw [hw16]
        refine x_tableIn (off := 1100) (tgt := 1140) F dL_law_40 (by decide) (by decide) rfl (by decide) ?_
        exact la_flight l hL0 G E S0 F hX hbA hN hfa hI hi hk hn J
      by_cases hw17 : z = 17
      · rw [hw17]
        refine x_tableIn (off := 1168) (tgt := 1208) F dL_law_40 (by decide) (by decide) rfl (by decide) ?_
        exact la_count l hL0 G E S0 F hX hbA hN hfa hI hi hk hn J
      by_cases hw18 : z = 18
      · rw [hw18]
        refine x_tableIn (off := 1224) (tgt := 1264) F dL_law_40 (by decide) (by decide) rfl (by decide) ?_
        exact la_isBusy l hL0 G E S0 F hX hbA hN hfa hI hi hk hn J
      by_cases hw19 : z = 19
      · rw [hw19]
        refine x_tableIn (off := 1237) (tgt := 1277) F dL_law_40 (by decide) (by decide) rfl (by decide) ?_
        exact la_bill l hL0 G E S0 F hX hbA hN hfa hI hi hk hn J
      by_cases hw20 : z = 20
      · rw [hw20]
        refine x_tableIn (off := 1293) (tgt := 1333) F dL_law_40 (by decide) (by decide) rfl (by decide) ?_
        exact la_pay l hL0 G E S0 F hX hbA hN hfa hI hi hk hn J
      by_cases hw21 : z = 21
      · rw [hw21]
        refine x_tableIn (off := 1361) (tgt := 1401) F dL_law_40 (by decide) (by decide) rfl (by decide) ?_
        exact la_income l hL0 G E S0 F hX hbA hN hfa hI hi hk hn J
      by_cases hw22 : z = 22
      · rw [hw22]
        refine x_tableIn (off := 1374) (tgt := 1414) F dL_law_40 (by decide) (by decide) rfl (by decide) ?_
        exact la_longest l hL0 G E S0 F hX hbA hN hfa hI hi hk hn J
      by_cases hw23 : z = 23
      · rw [hw23]
        refine x_tableIn (off := 1387) (tgt := 1427) F dL_law_40 (by decide) (by decide) rfl (by decide) ?_
        exact la_waited l hL0 G E S0 F hX hbA hN hfa hI hi hk hn J
      by_cases hw24 : z = 24
      · rw [hw24]
        refine x_tableIn (off := 1428) (tgt := 1468) F dL_law_40 (by decide) (by decide) rfl (by decide) ?_
        exact la_digest l hL0 G E S0 F hX hbA hN hfa hI hi hk hn J
      refine x_tableOut (tgt := 1482) F dL_law_40 (tsw (n := 24) (fun j hj => match j, hj with | 0, _ => hw0 | 1, _ => hw1 | 2, _ => hw2 | 3, _ => hw3 | 4, _ => hw4 | 5, _ => hw5 | 6, _ => hw6 | 7, _ => hw7 | 8, _ => hw8 | 9, _ => hw9 | 10, _ => hw10 | 11, _ => hw11 | 12, _ => hw12 | 13, _ => hw13 | 14, _ => hw14 | 15, _ => hw15 | 16, _ => hw16 | 17, _ => hw17 | 18, _ => hw18 | 19, _ => hw19 | 20, _ => hw20 | 21, _ => hw21 | 22, _ => hw22 | 23, _ => hw23 | 24, _ => hw24 | j + 25, hj => absurd hj (by omega))) (by decide) ?_
      exact wx_wd (Nat.le_add_right _ _) (Nat.le_add_right _ _) (J H hI)
    · refine x_icmp_gt F dL_law_30 (tgt := 1488) (by decide) (fun _ => ?_) (fun h => absurd (six_out hi hj hN) h)
      refine x_iconst (v := 1) F rfl dL_law_1488 ?_
      exact hEnd H _ _ _ (by omega) (by omega)
set_option maxHeartbeats 4000000 in
set_option maxRecDepth 100000 in
theorem law_start (l : Launch) (hL0 : l.stackTraces = false) (G : GT) (E : WE) (S0 : Heap) (F : fx l room_1 G (fun q => S0.size ≤ q) S0 9 cL_law "GliderDayLaw" E) {b N : Nat} {xs : Nat → Int32} (hX : sX b N xs E) (hbA : ¬ S0.size ≤ b) (hN : N ≤ 3072) (hEnd : ∀ (H : Heap) (k n : Nat) (lv : List (Nat × Value)), k ≤ 601024 → n ≤ 7293034 → wx E H k n 1489 lv [.int 1]) : wx E S0 0 0 0 [(0, .ref b)] [] := by
  refine y_newDay F mw_75 (Nat.le_of_ble_eq_true rfl) (Nat.le_of_ble_eq_true rfl) dL_law_0 (fun H1 v1 hn1 => ?_)
  refine x_dup F dL_law_3 rfl ?_
  refine x_callIs (nA := 0) (rest := [.ref S0.size]) F (c_newDay l G (fun q => S0.size ≤ q) S0.size) mw_77 mw_78 mw_55 mw_79 rfl ⟨by decide +kernel, by decide +kernel, by decide +kernel⟩ ⟨⟨(Nat.le_of_ble_eq_true rfl), (Nat.le_of_ble_eq_true rfl)⟩, (Nat.le_of_ble_eq_true rfl), (Nat.le_of_ble_eq_true rfl)⟩ dL_law_4 rfl rfl (Nat.le_of_ble_eq_true rfl) ⟨v1, Nat.le_refl _⟩ ?_
  rintro _ H2 ⟨rfl, f, hf, hR2⟩ hz2 hk2
  have hz12 : S0.size < H2.size := by have := hn1.1; omega
  have hRc := hR2.cut
  refine x_astore_n (lv' := [(1, .ref S0.size), (0, .ref b)]) F dL_law_7 rfl (by decide) rfl ?_
  refine y_newMod F mw_793 (Nat.le_of_ble_eq_true rfl) (Nat.le_of_ble_eq_true rfl) dL_law_8 (fun H3 v3 hn3 => ?_)
  replace hRc := hRc.new hn3
  refine x_dup F dL_law_11 rfl ?_
  have hz3 : H3.size = H2.size + 1 := hn3.1
  refine x_callI (A1 := fun q => H2.size ≤ q) (nA := 0) (As := []) (b := H2.size) (rest := [.ref H2.size]) F (c_newModel l G (fun q => H2.size ≤ q) H2.size) mw_795 mw_796 mw_59 mw_797 rfl ⟨by decide +kernel, by decide +kernel, by decide +kernel⟩ ⟨⟨(Nat.le_of_ble_eq_true rfl), (Nat.le_of_ble_eq_true rfl)⟩, (Nat.le_of_ble_eq_true rfl), (Nat.le_of_ble_eq_true rfl)⟩ dL_law_12 rfl rfl (Nat.le_of_ble_eq_true rfl) (fun q h => Nat.le_trans (Nat.le_of_lt hz12) h) (fun q h => by omega) ⟨v3, Nat.le_refl _⟩ ?_
  rintro _ H4 ⟨rfl, fa, hfa, hM4⟩ hz4 hk4
  have hRd := hRc.kept hz4 (fun q hq hq2 _ => hk4 q hq2 (fun x => absurd hq.2 (Nat.not_lt.mpr x)))
  refine x_astore_n (lv' := [(2, .ref H2.size), (1, .ref S0.size), (0, .ref b)]) F dL_law_15 rfl (by decide) rfl ?_
  refine x_iconst (v := 1) F rfl dL_law_16 ?_
  refine x_newaL (N' := 1) F (by decide) rfl (by decide) (Nat.le_of_ble_eq_true rfl) (Nat.le_of_ble_eq_true rfl) dL_law_17 (fun H5 v5 hn5 => ?_)
  refine x_astore_n (lv' := [(3, .ref H4.size), (2, .ref H2.size), (1, .ref S0.size), (0, .ref b)]) F dL_law_19 rfl (by decide) rfl ?_
  refine x_iconst (v := 0) F rfl dL_law_20 ?_
  refine x_istore (lv' := [(4, .int 0), (3, .ref H4.size), (2, .ref H2.size), (1, .ref S0.size), (0, .ref b)]) F dL_law_21 (by decide) rfl ?_
  refine wx_sub (lv' := [(0, .ref b), (1, .ref S0.size), (2, .ref H2.size), (3, .ref H4.size), (4, .int 0)]) [4, 3, 2, 1, 0] rfl ?_
  have hAm : ∀ q, Am fa q → H2.size ≤ q := fun q hq => by
    rcases hq with rfl | ⟨j, hj, rfl⟩
    · exact hM4.1.1
    · exact hM4.1.2 j hj
  have hAl : ∀ q, Am fa q → q < H4.size := hM4.belA rfl
  refine wx_lv (lv' := lvL b S0.size fa H4.size (6 * 0)) (by unfold lvL; rw [hfa]; rfl) ?_
  refine wx_wd (k2 := 27 + 800 * 0) (n2 := 1043 + 6400 * 0) (Nat.le_of_ble_eq_true rfl) (Nat.le_of_ble_eq_true rfl) ?_
  refine law_loop l hL0 G E S0 F hX hbA hN (fun q hq => Nat.le_trans (Nat.le_of_lt hz12) (hAm q hq)) hEnd (N + 1) 0 H5 ⟨c00 f, m00 fa, fun _ => 0, ⟨(hRd.new hn5).reg (fun q hq => ⟨⟨hq.1, fun x => absurd hq.2 (Nat.not_lt.mpr (hAm q x))⟩, fun x => by have h9 := hq.2; omega⟩), v5, ⟨by omega, fun x => absurd (hAl _ x) (Nat.lt_irrefl _)⟩⟩, (hM4.ext hn5.2).reg (fun q hq => hq), IC00 f, Rl00 f fa, rfl, hf⟩ (Nat.zero_le _) (by omega)
end LW3
