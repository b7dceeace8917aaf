/-! the day's own methods: loops that change nothing; the digest -/
section CL2
theorem bnd {c : CS} (h : Wf c) : nm c < 2 ^ 31 ∧ ng c < 2 ^ 31 ∧ nf c < 2 ^ 31 ∧ (lst c).length < 2 ^ 31 ∧ (wtg c).length < 2 ^ 31 := by
  obtain ⟨⟨h1, h2, h3⟩, -, -, ⟨-, h4⟩, ⟨-, h5⟩⟩ := h
  omega
theorem fo_snoc (l : List Nat) (i f : Nat) (d : Int64) (h : l[i]? = some f) : (l.take (i + 1)).foldl (fun d f => mixL d (nI f)) d = mixL ((l.take i).foldl (fun d f => mixL d (nI f)) d) (nI f) := by
  have hi : i < l.length := (List.getElem?_eq_some_iff.mp h).1
  have he : l[i] = f := (List.getElem?_eq_some_iff.mp h).2
  rw [List.take_succ_eq_append_getElem hi, List.foldl_append, he]
  rfl
theorem fo_all (l : List Nat) (d : Int64) : (l.take l.length).foldl (fun d f => mixL d (nI f)) d = l.foldl (fun d f => mixL d (nI f)) d := by
  rw [List.take_length]
theorem Rep.injF {G : GT} {A : Nat → Prop} {c : CS} {H : Heap} (h : Rep G A c H) {i j : Nat} (hi : i < nf c) (hj : j < nf c) : ad c 5 i = ad c 5 j ↔ i = j := by
  obtain ⟨T, bA, cp, mo, hX⟩ := h
  exact ⟨fun e => (hX.apart.2.2.1 j hj).2.2 i hi e, fun e => by rw [e]⟩
def s_plc (f0 : Nat) : List Nat → Nat → Int32
  | [], _ => -1
  | f :: l, p => if f = f0 then nI p else s_plc f0 l (p + 1)
theorem drop_at {l : List Nat} {i f : Nat} (h : l[i]? = some f) : l.drop i = f :: l.drop (i + 1) := by
  have hi : i < l.length := (List.getElem?_eq_some_iff.mp h).1
  have he : l[i] = f := (List.getElem?_eq_some_iff.mp h).2
  rw [List.drop_eq_getElem_cons hi, he]
def s_wai (c : CS) : UInt64 := if s_wb c (nf c) = 0 then FP.dconst0 else FP.ddiv (FP.i2d (s_ws c (nf c))) (FP.i2d (s_wb c (nf c)))
theorem k_X3_65 : cwV_ "GliderDay" 65 "java/util/ArrayList" yJx4a65c_size_8abf5 cJx4a65c_size_8abf5 1 (some .int) 0 := ⟨mw_234, mw_235, mw_236, mw_31, mw_237, ⟨by decide +kernel, by decide +kernel, by decide +kernel⟩⟩
theorem k_X3_188 : cwV_ "GliderDay" 188 "java/util/ArrayList" yJx4a65c_get_915e3 cJx4a65c_get_915e3 2 (some (.object "java/lang/Object")) 1 := ⟨mw_254, mw_255, mw_256, mw_31, mw_257, ⟨by decide +kernel, by decide +kernel, by decide +kernel⟩⟩
theorem k_X3_292 : cwV_ "GliderDay" 292 "GliderDay" yX3_glidersInTheAir cX3_glidersInTheAir 3 (some .int) 0 := ⟨mw_522, mw_524, mw_26, mw_28, mw_525, ⟨by decide +kernel, by decide +kernel, by decide +kernel⟩⟩
theorem k_X3_140 : cwS_ "GliderDay" 140 yX3_memberFact cX3_memberFact 2 (some .int) 2 := ⟨mw_270, mw_271, mw_28, mw_272, ⟨by decide +kernel, by decide +kernel, by decide +kernel⟩⟩
theorem k_X3_144 : cwS_ "GliderDay" 144 yX3_gliderFact cX3_gliderFact 2 (some .int) 2 := ⟨mw_283, mw_284, mw_28, mw_285, ⟨by decide +kernel, by decide +kernel, by decide +kernel⟩⟩
theorem k_X3_216 : cwS_ "GliderDay" 216 yX3_flightFact cX3_flightFact 2 (some .int) 2 := ⟨mw_510, mw_511, mw_28, mw_512, ⟨by decide +kernel, by decide +kernel, by decide +kernel⟩⟩
theorem k_X3_222 : cwV_ "GliderDay" 222 "GliderDay" yX3_countOf cX3_countOf 2 (some .int) 1 := ⟨mw_518, mw_520, mw_25, mw_28, mw_521, ⟨by decide +kernel, by decide +kernel, by decide +kernel⟩⟩
set_option maxHeartbeats 4000000 in
set_option maxRecDepth 100000 in
theorem c_X3_glidersInTheAir (l : Launch) (G : GT) (A : Nat → Prop) (c : CS)  : Ct l yX3_glidersInTheAir cX3_glidersInTheAir 3 (some .int) ({ frames := 3, cells := 0, slots := 0, locals := 64 } : Room) G A [.ref (ad c 0 0)] (fun H => Rep G A c H) (Pu (.int (s_air c))) := by
  refine ct_of (own := "GliderDay") (by decide +kernel) rfl (Nat.le_of_ble_eq_true rfl) (fun E H0 F hE hR => ?_)
  show wx E H0 0 0 0 [(0, .ref (ad c 0 0))] []
  refine x_iconst (v := 0) F rfl dX3_glidersInTheAir_0 ?_
  refine x_istore_n (lv' := [(1, .int 0), (0, .ref (ad c 0 0))]) F dX3_glidersInTheAir_1 rfl (by decide) rfl ?_
  refine x_iconst (v := 0) F rfl dX3_glidersInTheAir_2 ?_
  refine x_istore_n (lv' := [(2, .int 0), (1, .int 0), (0, .ref (ad c 0 0))]) F dX3_glidersInTheAir_3 rfl (by decide) rfl ?_
  refine wx_sub (lv' := [(0, .ref (ad c 0 0)), (1, .int 0), (2, .int 0)]) [2, 1, 0] rfl ?_
  refine (loop_dn (N := (ng c)) (P := fun i => wx E H0 0 0 4 [(0, .ref (ad c 0 0)), (1, .int (sumN i (fun g => if cG c g 4 = 0 then 0 else 1))), (2, .int (nI i))] []) ?_ ?_) 0 (Nat.zero_le _)
  · refine x_iload_n F dX3_glidersInTheAir_4 2 rfl rfl ?_
    refine x_aload_n F dX3_glidersInTheAir_5 0 rfl rfl ?_
    refine y_getD (c := c) (j := 1) (v := .ref (ad c 1 1)) F hR mw_82 rfl (by decide) rfl dX3_glidersInTheAir_6 ?_
    refine y_lsize (c := c) (k5 := 1) F hR (by decide) k_X3_65 ⟨(Nat.le_of_ble_eq_true rfl), (Nat.le_of_ble_eq_true rfl)⟩ (Nat.le_of_ble_eq_true rfl) (Nat.le_of_ble_eq_true rfl) dX3_glidersInTheAir_9 (Nat.le_of_ble_eq_true rfl) ?_
    refine wx_i (y := nI (ng c)) (congrArg nI (els_1 _)) ?_
    refine x_icmp_ge F dX3_glidersInTheAir_12 (tgt := 41) (by decide) (fun _ => ?_) (fun h1 => absurd (Int32.le_refl _) h1)
    refine x_iload_n F dX3_glidersInTheAir_41 1 rfl rfl ?_
    exact x_iret F hE dX3_glidersInTheAir_42 (Nat.le_of_ble_eq_true rfl) (Nat.le_of_ble_eq_true rfl) (⟨rfl, rfl⟩)
  · intro i hi ih4
    refine x_iload_n F dX3_glidersInTheAir_4 2 rfl rfl ?_
    refine x_aload_n F dX3_glidersInTheAir_5 0 rfl rfl ?_
    refine y_getD (c := c) (j := 1) (v := .ref (ad c 1 1)) F hR mw_82 rfl (by decide) rfl dX3_glidersInTheAir_6 ?_
    refine y_lsize (c := c) (k5 := 1) F hR (by decide) k_X3_65 ⟨(Nat.le_of_ble_eq_true rfl), (Nat.le_of_ble_eq_true rfl)⟩ (Nat.le_of_ble_eq_true rfl) (Nat.le_of_ble_eq_true rfl) dX3_glidersInTheAir_9 (Nat.le_of_ble_eq_true rfl) ?_
    refine wx_i (y := nI (ng c)) (congrArg nI (els_1 _)) ?_
    refine x_icmp_ge F dX3_glidersInTheAir_12 (tgt := 41) (by decide) (fun h2 => absurd h2 (nI_ge hi ((bnd hR.wf).2.1))) (fun _ => ?_)
    refine x_aload_n F dX3_glidersInTheAir_15 0 rfl rfl ?_
    refine y_getD (c := c) (j := 1) (v := .ref (ad c 1 1)) F hR mw_82 rfl (by decide) rfl dX3_glidersInTheAir_16 ?_
    refine x_iload_n F dX3_glidersInTheAir_19 2 rfl rfl ?_
    refine y_lget (c := c) (k5 := 1) (i := i) (e := ad c 4 i) F hR (by decide) (elg_1 hi) k_X3_188 ⟨(Nat.le_of_ble_eq_true rfl), (Nat.le_of_ble_eq_true rfl)⟩ (Nat.le_of_ble_eq_true rfl) (Nat.le_of_ble_eq_true rfl) dX3_glidersInTheAir_20 (Nat.le_of_ble_eq_true rfl) ?_
    refine x_castS (C := "GliderDay$Glider") (T := TX1) (N := 10) F (hR.gli hi) rfl mw_282 dX3_glidersInTheAir_23 ?_
    refine y_getG (c := c) (i := i) (j := 4) (v := .int (cG c i 4)) F hR hi nw_110 rfl (by decide) rfl dX3_glidersInTheAir_26 ?_
    refine x_if_eq F dX3_glidersInTheAir_29 (tgt := 35) (by decide) (fun h3 => ?_) (fun h3 => ?_)
    · refine x_iinc (j := 2) (v := nI (i + 1)) (lv' := [(2, .int (nI (i + 1))), (0, .ref (ad c 0 0)), (1, .int (sumN i (fun g => if cG c g 4 = 0 then 0 else 1)))]) F dX3_glidersInTheAir_35 rfl (nI_1 _) (by decide) rfl ?_
      refine x_goto F dX3_glidersInTheAir_38 (tgt := 4) (by decide) ?_
      refine wx_sub (lv' := [(0, .ref (ad c 0 0)), (1, .int (sumN i (fun g => if cG c g 4 = 0 then 0 else 1))), (2, .int (nI (i + 1)))]) [1, 2, 0] rfl ?_
      refine wx_lv (lv' := [(0, .ref (ad c 0 0)), (1, .int (sumN (i + 1) (fun g => if cG c g 4 = 0 then 0 else 1))), (2, .int (nI (i + 1)))]) (by simp [sumN, h3]) ?_
      exact ih4
    · refine x_iinc (j := 1) (v := (sumN i (fun g => if cG c g 4 = 0 then 0 else 1)) + 1) (lv' := [(1, .int ((sumN i (fun g => if cG c g 4 = 0 then 0 else 1)) + 1)), (0, .ref (ad c 0 0)), (2, .int (nI i))]) F dX3_glidersInTheAir_32 rfl rfl (by decide) rfl ?_
      refine x_iinc (j := 2) (v := nI (i + 1)) (lv' := [(2, .int (nI (i + 1))), (1, .int ((sumN i (fun g => if cG c g 4 = 0 then 0 else 1)) + 1)), (0, .ref (ad c 0 0))]) F dX3_glidersInTheAir_35 rfl (nI_1 _) (by decide) rfl ?_
      refine x_goto F dX3_glidersInTheAir_38 (tgt := 4) (by decide) ?_
      refine wx_sub (lv' := [(0, .ref (ad c 0 0)), (1, .int ((sumN i (fun g => if cG c g 4 = 0 then 0 else 1)) + 1)), (2, .int (nI (i + 1)))]) [2, 1, 0] rfl ?_
      refine wx_lv (lv' := [(0, .ref (ad c 0 0)), (1, .int (sumN (i + 1) (fun g => if cG c g 4 = 0 then 0 else 1))), (2, .int (nI (i + 1)))]) (by simp [sumN, h3]) ?_
      exact ih4
set_option maxHeartbeats 4000000 in
set_option maxRecDepth 100000 in
theorem c_X3_countOf (l : Launch) (G : GT) (A : Nat → Prop) (c : CS) (w : Int32) : Ct l yX3_countOf cX3_countOf 2 (some .int) ({ frames := 4, cells := 0, slots := 0, locals := 86 } : Room) G A [.ref (ad c 0 0), .int w] (fun H => Rep G A c H) (Pu (.int (s_cnt c w))) := by
  refine ct_of (own := "GliderDay") (by decide +kernel) rfl (Nat.le_of_ble_eq_true rfl) (fun E H0 F hE hR => ?_)
  show wx E H0 0 0 0 [(0, .ref (ad c 0 0)), (1, .int w)] []
  refine x_iload_n F dX3_countOf_0 1 rfl rfl ?_
  by_cases hw1 : w = 0
  · rw [hw1]
    refine x_tableIn (off := 43) (tgt := 44) F dX3_countOf_1 (by decide) (by decide) rfl (by decide) ?_
    refine x_aload_n F dX3_countOf_44 0 rfl rfl ?_
    refine y_getD (c := c) (j := 0) (v := .ref (ad c 1 0)) F hR mw_81 rfl (by decide) rfl dX3_countOf_45 ?_
    refine y_lsize (c := c) (k5 := 0) F hR (by decide) k_X3_65 ⟨(Nat.le_of_ble_eq_true rfl), (Nat.le_of_ble_eq_true rfl)⟩ (Nat.le_of_ble_eq_true rfl) (Nat.le_of_ble_eq_true rfl) dX3_countOf_48 (Nat.le_of_ble_eq_true rfl) ?_
    refine wx_i (y := nI (nm c)) (congrArg nI (els_0 _)) ?_
    exact x_iret F hE dX3_countOf_51 (Nat.le_of_ble_eq_true rfl) (Nat.le_of_ble_eq_true rfl) (⟨by simp [s_cnt, hw1], rfl⟩)
  by_cases hw2 : w = 1
  · rw [hw2]
    refine x_tableIn (off := 51) (tgt := 52) F dX3_countOf_1 (by decide) (by decide) rfl (by decide) ?_
    refine x_aload_n F dX3_countOf_52 0 rfl rfl ?_
    refine y_getD (c := c) (j := 1) (v := .ref (ad c 1 1)) F hR mw_82 rfl (by decide) rfl dX3_countOf_53 ?_
    refine y_lsize (c := c) (k5 := 1) F hR (by decide) k_X3_65 ⟨(Nat.le_of_ble_eq_true rfl), (Nat.le_of_ble_eq_true rfl)⟩ (Nat.le_of_ble_eq_true rfl) (Nat.le_of_ble_eq_true rfl) dX3_countOf_56 (Nat.le_of_ble_eq_true rfl) ?_
    refine wx_i (y := nI (ng c)) (congrArg nI (els_1 _)) ?_
    exact x_iret F hE dX3_countOf_59 (Nat.le_of_ble_eq_true rfl) (Nat.le_of_ble_eq_true rfl) (⟨by simp [s_cnt, hw1, hw2], rfl⟩)
  by_cases hw3 : w = 2
  · rw [hw3]
    refine x_tableIn (off := 59) (tgt := 60) F dX3_countOf_1 (by decide) (by decide) rfl (by decide) ?_
    refine x_aload_n F dX3_countOf_60 0 rfl rfl ?_
    refine y_getD (c := c) (j := 2) (v := .ref (ad c 1 2)) F hR mw_83 rfl (by decide) rfl dX3_countOf_61 ?_
    refine y_lsize (c := c) (k5 := 2) F hR (by decide) k_X3_65 ⟨(Nat.le_of_ble_eq_true rfl), (Nat.le_of_ble_eq_true rfl)⟩ (Nat.le_of_ble_eq_true rfl) (Nat.le_of_ble_eq_true rfl) dX3_countOf_64 (Nat.le_of_ble_eq_true rfl) ?_
    refine wx_i (y := nI (nf c)) (congrArg nI (els_2 _)) ?_
    exact x_iret F hE dX3_countOf_67 (Nat.le_of_ble_eq_true rfl) (Nat.le_of_ble_eq_true rfl) (⟨by simp [s_cnt, hw1, hw2, hw3], rfl⟩)
  by_cases hw4 : w = 3
  · rw [hw4]
    refine x_tableIn (off := 67) (tgt := 68) F dX3_countOf_1 (by decide) (by decide) rfl (by decide) ?_
    refine x_aload_n F dX3_countOf_68 0 rfl rfl ?_
    refine y_getD (c := c) (j := 3) (v := .ref (ad c 1 3)) F hR mw_84 rfl (by decide) rfl dX3_countOf_69 ?_
    refine y_lsize (c := c) (k5 := 3) F hR (by decide) k_X3_65 ⟨(Nat.le_of_ble_eq_true rfl), (Nat.le_of_ble_eq_true rfl)⟩ (Nat.le_of_ble_eq_true rfl) (Nat.le_of_ble_eq_true rfl) dX3_countOf_72 (Nat.le_of_ble_eq_true rfl) ?_
    refine wx_i (y := nI (lst c).length) (congrArg nI (els_3 _)) ?_
    exact x_iret F hE dX3_countOf_75 (Nat.le_of_ble_eq_true rfl) (Nat.le_of_ble_eq_true rfl) (⟨by simp [s_cnt, hw1, hw2, hw3, hw4], rfl⟩)
  by_cases hw5 : w = 4
  · rw [hw5]
    refine x_tableIn (off := 75) (tgt := 76) F dX3_countOf_1 (by decide) (by decide) rfl (by decide) ?_
    refine x_aload_n F dX3_countOf_76 0 rfl rfl ?_
    refine x_callVp (rest := []) F hR.day rfl (c_X3_glidersInTheAir l G A c ) k_X3_292 ⟨(Nat.le_of_ble_eq_true rfl), (Nat.le_of_ble_eq_true rfl), rfl, rfl⟩ (Nat.le_of_ble_eq_true rfl) (Nat.le_of_ble_eq_true rfl) dX3_countOf_77 rfl rfl (Nat.le_of_ble_eq_true rfl) hR ?_
    exact x_iret F hE dX3_countOf_80 (Nat.le_of_ble_eq_true rfl) (Nat.le_of_ble_eq_true rfl) (⟨by simp [s_cnt, hw1, hw2, hw3, hw4, hw5], rfl⟩)
  by_cases hw6 : w = 5
  · rw [hw6]
    refine x_tableIn (off := 80) (tgt := 81) F dX3_countOf_1 (by decide) (by decide) rfl (by decide) ?_
    refine x_aload_n F dX3_countOf_81 0 rfl rfl ?_
    refine y_getD (c := c) (j := 4) (v := .ref (ad c 1 4)) F hR mw_85 rfl (by decide) rfl dX3_countOf_82 ?_
    refine y_lsize (c := c) (k5 := 4) F hR (by decide) k_X3_65 ⟨(Nat.le_of_ble_eq_true rfl), (Nat.le_of_ble_eq_true rfl)⟩ (Nat.le_of_ble_eq_true rfl) (Nat.le_of_ble_eq_true rfl) dX3_countOf_85 (Nat.le_of_ble_eq_true rfl) ?_
    refine wx_i (y := nI (wtg c).length) (congrArg nI (els_4 _)) ?_
    exact x_iret F hE dX3_countOf_88 (Nat.le_of_ble_eq_true rfl) (Nat.le_of_ble_eq_true rfl) (⟨by simp [s_cnt, hw1, hw2, hw3, hw4, hw5, hw6], rfl⟩)
  by_cases hw7 : w = 6
  · rw [hw7]
    refine x_tableIn (off := 88) (tgt := 89) F dX3_countOf_1 (by decide) (by decide) rfl (by decide) ?_
    refine x_iconst (v := 2) F rfl dX3_countOf_89 ?_
    refine x_aload_n F dX3_countOf_90 0 rfl rfl ?_
    refine y_getD (c := c) (j := 7) (v := .int (cD c 7)) F hR mw_88 rfl (by decide) rfl dX3_countOf_91 ?_
    refine x_isub F dX3_countOf_94 ?_
    exact x_iret F hE dX3_countOf_95 (Nat.le_of_ble_eq_true rfl) (Nat.le_of_ble_eq_true rfl) (⟨by simp [s_cnt, hw1, hw2, hw3, hw4, hw5, hw6, hw7], rfl⟩)
  refine x_tableOut (tgt := 96) F dX3_countOf_1 (tsw (n := 6) (fun j hj => match j, hj with | 0, _ => hw1 | 1, _ => hw2 | 2, _ => hw3 | 3, _ => hw4 | 4, _ => hw5 | 5, _ => hw6 | 6, _ => hw7 | j + 7, hj => absurd hj (by omega))) (by decide) ?_
  refine x_aload_n F dX3_countOf_96 0 rfl rfl ?_
  refine x_callVp (rest := []) F hR.day rfl (c_X3_freeTugs l G A c ) k_X3_103 ⟨(Nat.le_of_ble_eq_true rfl), (Nat.le_of_ble_eq_true rfl), rfl, rfl⟩ (Nat.le_of_ble_eq_true rfl) (Nat.le_of_ble_eq_true rfl) dX3_countOf_97 rfl rfl (Nat.le_of_ble_eq_true rfl) hR ?_
  exact x_iret F hE dX3_countOf_100 (Nat.le_of_ble_eq_true rfl) (Nat.le_of_ble_eq_true rfl) (⟨by simp [s_cnt, hw1, hw2, hw3, hw4, hw5, hw6, hw7], rfl⟩)
set_option maxHeartbeats 4000000 in
set_option maxRecDepth 100000 in
theorem c_X3_income (l : Launch) (G : GT) (A : Nat → Prop) (c : CS)  : Ct l yX3_income cX3_income 3 (some .int) ({ frames := 3, cells := 0, slots := 0, locals := 64 } : Room) G A [.ref (ad c 0 0)] (fun H => Rep G A c H) (Pu (.int (s_inc c))) := by
  refine ct_of (own := "GliderDay") (by decide +kernel) rfl (Nat.le_of_ble_eq_true rfl) (fun E H0 F hE hR => ?_)
  show wx E H0 0 0 0 [(0, .ref (ad c 0 0))] []
  refine x_iconst (v := 0) F rfl dX3_income_0 ?_
  refine x_istore_n (lv' := [(1, .int 0), (0, .ref (ad c 0 0))]) F dX3_income_1 rfl (by decide) rfl ?_
  refine x_iconst (v := 0) F rfl dX3_income_2 ?_
  refine x_istore_n (lv' := [(2, .int 0), (1, .int 0), (0, .ref (ad c 0 0))]) F dX3_income_3 rfl (by decide) rfl ?_
  refine wx_sub (lv' := [(0, .ref (ad c 0 0)), (1, .int 0), (2, .int 0)]) [2, 1, 0] rfl ?_
  refine (loop_dn (N := (nf c)) (P := fun i => wx E H0 0 0 4 [(0, .ref (ad c 0 0)), (1, .int (sumN i (fun f => cF c f 10))), (2, .int (nI i))] []) ?_ ?_) 0 (Nat.zero_le _)
  · refine x_iload_n F dX3_income_4 2 rfl rfl ?_
    refine x_aload_n F dX3_income_5 0 rfl rfl ?_
    refine y_getD (c := c) (j := 2) (v := .ref (ad c 1 2)) F hR mw_83 rfl (by decide) rfl dX3_income_6 ?_
    refine y_lsize (c := c) (k5 := 2) F hR (by decide) k_X3_65 ⟨(Nat.le_of_ble_eq_true rfl), (Nat.le_of_ble_eq_true rfl)⟩ (Nat.le_of_ble_eq_true rfl) (Nat.le_of_ble_eq_true rfl) dX3_income_9 (Nat.le_of_ble_eq_true rfl) ?_
    refine wx_i (y := nI (nf c)) (congrArg nI (els_2 _)) ?_
    refine x_icmp_ge F dX3_income_12 (tgt := 38) (by decide) (fun _ => ?_) (fun h1 => absurd (Int32.le_refl _) h1)
    refine x_iload_n F dX3_income_38 1 rfl rfl ?_
    exact x_iret F hE dX3_income_39 (Nat.le_of_ble_eq_true rfl) (Nat.le_of_ble_eq_true rfl) (⟨rfl, rfl⟩)
  · intro i hi ih4
    refine x_iload_n F dX3_income_4 2 rfl rfl ?_
    refine x_aload_n F dX3_income_5 0 rfl rfl ?_
    refine y_getD (c := c) (j := 2) (v := .ref (ad c 1 2)) F hR mw_83 rfl (by decide) rfl dX3_income_6 ?_
    refine y_lsize (c := c) (k5 := 2) F hR (by decide) k_X3_65 ⟨(Nat.le_of_ble_eq_true rfl), (Nat.le_of_ble_eq_true rfl)⟩ (Nat.le_of_ble_eq_true rfl) (Nat.le_of_ble_eq_true rfl) dX3_income_9 (Nat.le_of_ble_eq_true rfl) ?_
    refine wx_i (y := nI (nf c)) (congrArg nI (els_2 _)) ?_
    refine x_icmp_ge F dX3_income_12 (tgt := 38) (by decide) (fun h2 => absurd h2 (nI_ge hi ((bnd hR.wf).2.2.1))) (fun _ => ?_)
    refine x_iload_n F dX3_income_15 1 rfl rfl ?_
    refine x_aload_n F dX3_income_16 0 rfl rfl ?_
    refine y_getD (c := c) (j := 2) (v := .ref (ad c 1 2)) F hR mw_83 rfl (by decide) rfl dX3_income_17 ?_
    refine x_iload_n F dX3_income_20 2 rfl rfl ?_
    refine y_lget (c := c) (k5 := 2) (i := i) (e := ad c 5 i) F hR (by decide) (elg_2 hi) k_X3_188 ⟨(Nat.le_of_ble_eq_true rfl), (Nat.le_of_ble_eq_true rfl)⟩ (Nat.le_of_ble_eq_true rfl) (Nat.le_of_ble_eq_true rfl) dX3_income_21 (Nat.le_of_ble_eq_true rfl) ?_
    refine x_castS (C := "GliderDay$Flight") (T := TX0) (N := 11) F (hR.fli hi) rfl mw_295 dX3_income_24 ?_
    refine y_getF (c := c) (i := i) (j := 10) (v := .int (cF c i 10)) F hR hi nw_232 rfl (by decide) rfl dX3_income_27 ?_
    refine x_iadd F dX3_income_30 ?_
    refine x_istore_n (lv' := [(1, .int ((sumN i (fun f => cF c f 10)) + (cF c i 10))), (0, .ref (ad c 0 0)), (2, .int (nI i))]) F dX3_income_31 rfl (by decide) rfl ?_
    refine x_iinc (j := 2) (v := nI (i + 1)) (lv' := [(2, .int (nI (i + 1))), (1, .int ((sumN i (fun f => cF c f 10)) + (cF c i 10))), (0, .ref (ad c 0 0))]) F dX3_income_32 rfl (nI_1 _) (by decide) rfl ?_
    refine x_goto F dX3_income_35 (tgt := 4) (by decide) ?_
    refine wx_sub (lv' := [(0, .ref (ad c 0 0)), (1, .int ((sumN i (fun f => cF c f 10)) + (cF c i 10))), (2, .int (nI (i + 1)))]) [2, 1, 0] rfl ?_
    refine wx_lv (lv' := [(0, .ref (ad c 0 0)), (1, .int (sumN (i + 1) (fun f => cF c f 10))), (2, .int (nI (i + 1)))]) (rfl) ?_
    exact ih4
set_option maxHeartbeats 4000000 in
set_option maxRecDepth 100000 in
theorem c_X3_waited (l : Launch) (G : GT) (A : Nat → Prop) (c : CS) : Ct l yX3_waited cX3_waited 5 (some .double) ({ frames := 3, cells := 0, slots := 0, locals := 64 } : Room) G A [.ref (ad c 0 0)] (fun H => Rep G A c H) (Pu (.double (s_wai c))) := by
  refine ct_of (own := "GliderDay") (by decide +kernel) rfl (Nat.le_of_ble_eq_true rfl) (fun E H0 F hE hR => ?_)
  show wx E H0 0 0 0 [(0, .ref (ad c 0 0))] []
  refine x_iconst (v := 0) F rfl dX3_waited_0 ?_
  refine x_istore_n (lv' := [(1, .int 0), (0, .ref (ad c 0 0))]) F dX3_waited_1 rfl (by decide) rfl ?_
  refine x_iconst (v := 0) F rfl dX3_waited_2 ?_
  refine x_istore_n (lv' := [(2, .int 0), (1, .int 0), (0, .ref (ad c 0 0))]) F dX3_waited_3 rfl (by decide) rfl ?_
  refine x_iconst (v := 0) F rfl dX3_waited_4 ?_
  refine x_istore_n (lv' := [(3, .int 0), (2, .int 0), (1, .int 0), (0, .ref (ad c 0 0))]) F dX3_waited_5 rfl (by decide) rfl ?_
  refine wx_sub (lv' := [(0, .ref (ad c 0 0)), (1, .int 0), (2, .int 0), (3, .int 0)]) [3, 2, 1, 0] rfl ?_
  refine (loop_dn (N := (nf c)) (P := fun i => wx E H0 0 0 6 [(0, .ref (ad c 0 0)), (1, .int (s_wb c i)), (2, .int (s_ws c i)), (3, .int (nI i))] []) ?_ ?_) 0 (Nat.zero_le _)
  · refine x_iload_n F dX3_waited_6 3 rfl rfl ?_
    refine x_aload_n F dX3_waited_7 0 rfl rfl ?_
    refine y_getD (c := c) (j := 2) (v := .ref (ad c 1 2)) F hR mw_83 rfl (by decide) rfl dX3_waited_8 ?_
    refine y_lsize (c := c) (k5 := 2) F hR (by decide) k_X3_65 ⟨(Nat.le_of_ble_eq_true rfl), (Nat.le_of_ble_eq_true rfl)⟩ (Nat.le_of_ble_eq_true rfl) (Nat.le_of_ble_eq_true rfl) dX3_waited_11 (Nat.le_of_ble_eq_true rfl) ?_
    refine wx_i (y := nI (nf c)) (congrArg nI (els_2 _)) ?_
    refine x_icmp_ge F dX3_waited_14 (tgt := 62) (by decide) (fun _ => ?_) (fun h1 => absurd (Int32.le_refl _) h1)
    refine x_iload_n F dX3_waited_62 1 rfl rfl ?_
    refine x_if_ne F dX3_waited_63 (tgt := 70) (by decide) (fun h2 => ?_) (fun h2 => ?_)
    · refine x_iload_n F dX3_waited_70 2 rfl rfl ?_
      refine x_i2d F dX3_waited_71 ?_
      refine x_iload_n F dX3_waited_72 1 rfl rfl ?_
      refine x_i2d F dX3_waited_73 ?_
      refine x_ddiv F (h2) dX3_waited_74 ?_
      exact x_dret F hE dX3_waited_75 (Nat.le_of_ble_eq_true rfl) (Nat.le_of_ble_eq_true rfl) ⟨by simp [s_wai, h2], rfl⟩
    · refine x_dconst0 F dX3_waited_66 ?_
      refine x_goto F dX3_waited_67 (tgt := 75) (by decide) ?_
      exact x_dret F hE dX3_waited_75 (Nat.le_of_ble_eq_true rfl) (Nat.le_of_ble_eq_true rfl) ⟨by simp [s_wai, h2], rfl⟩
  · intro i hi ih6
    refine x_iload_n F dX3_waited_6 3 rfl rfl ?_
    refine x_aload_n F dX3_waited_7 0 rfl rfl ?_
    refine y_getD (c := c) (j := 2) (v := .ref (ad c 1 2)) F hR mw_83 rfl (by decide) rfl dX3_waited_8 ?_
    refine y_lsize (c := c) (k5 := 2) F hR (by decide) k_X3_65 ⟨(Nat.le_of_ble_eq_true rfl), (Nat.le_of_ble_eq_true rfl)⟩ (Nat.le_of_ble_eq_true rfl) (Nat.le_of_ble_eq_true rfl) dX3_waited_11 (Nat.le_of_ble_eq_true rfl) ?_
    refine wx_i (y := nI (nf c)) (congrArg nI (els_2 _)) ?_
    refine x_icmp_ge F dX3_waited_14 (tgt := 62) (by decide) (fun h3 => absurd h3 (nI_ge hi ((bnd hR.wf).2.2.1))) (fun _ => ?_)
    refine x_aload_n F dX3_waited_17 0 rfl rfl ?_
    refine y_getD (c := c) (j := 2) (v := .ref (ad c 1 2)) F hR mw_83 rfl (by decide) rfl dX3_waited_18 ?_
    refine x_iload_n F dX3_waited_21 3 rfl rfl ?_
    refine y_lget (c := c) (k5 := 2) (i := i) (e := ad c 5 i) F hR (by decide) (elg_2 hi) k_X3_188 ⟨(Nat.le_of_ble_eq_true rfl), (Nat.le_of_ble_eq_true rfl)⟩ (Nat.le_of_ble_eq_true rfl) (Nat.le_of_ble_eq_true rfl) dX3_waited_22 (Nat.le_of_ble_eq_true rfl) ?_
    refine x_castS (C := "GliderDay$Flight") (T := TX0) (N := 11) F (hR.fli hi) rfl mw_295 dX3_waited_25 ?_
    refine x_astore (lv' := [(4, .ref (ad c 5 i)), (0, .ref (ad c 0 0)), (1, .int (s_wb c i)), (2, .int (s_ws c i)), (3, .int (nI i))]) F dX3_waited_28 (by decide) rfl ?_
    refine x_aload F dX3_waited_30 0 rfl ?_
    refine y_getF (c := c) (i := i) (j := 8) (v := .int (cF c i 8)) F hR hi nw_204 rfl (by decide) rfl dX3_waited_32 ?_
    refine x_iconst (v := (-1)) F rfl dX3_waited_35 ?_
    refine x_icmp_eq F dX3_waited_36 (tgt := 56) (by decide) (fun h4 => ?_) (fun h4 => ?_)
    · refine x_iinc (j := 4) (v := nI (i + 1)) (lv' := [(3, .int (nI (i + 1))), (4, .ref (ad c 5 i)), (0, .ref (ad c 0 0)), (1, .int (s_wb c i)), (2, .int (s_ws c i))]) F dX3_waited_56 rfl (nI_1 _) (by decide) rfl ?_
      refine x_goto F dX3_waited_59 (tgt := 6) (by decide) ?_
      refine wx_sub (lv' := [(0, .ref (ad c 0 0)), (1, .int (s_wb c i)), (2, .int (s_ws c i)), (3, .int (nI (i + 1)))]) [2, 3, 4, 0] rfl ?_
      refine wx_lv (lv' := [(0, .ref (ad c 0 0)), (1, .int (s_wb c (i + 1))), (2, .int (s_ws c (i + 1))), (3, .int (nI (i + 1)))]) (by simp [s_wb, s_ws, sumN, h4]) ?_
      exact ih6
    · refine x_iinc (j := 2) (v := (s_wb c i) + 1) (lv' := [(1, .int ((s_wb c i) + 1)), (4, .ref (ad c 5 i)), (0, .ref (ad c 0 0)), (2, .int (s_ws c i)), (3, .int (nI i))]) F dX3_waited_39 rfl rfl (by decide) rfl ?_
      refine x_iload_n F dX3_waited_42 3 rfl rfl ?_
      refine x_aload F dX3_waited_43 1 rfl ?_
      refine y_getF (c := c) (i := i) (j := 8) (v := .int (cF c i 8)) F hR hi nw_204 rfl (by decide) rfl dX3_waited_45 ?_
      refine x_aload F dX3_waited_48 1 rfl ?_
      refine y_getF (c := c) (i := i) (j := 7) (v := .int (cF c i 7)) F hR hi nw_167 rfl (by decide) rfl dX3_waited_50 ?_
      refine x_isub F dX3_waited_53 ?_
      refine x_iadd F dX3_waited_54 ?_
      refine x_istore_n (lv' := [(2, .int ((s_ws c i) + ((cF c i 8) - (cF c i 7)))), (1, .int ((s_wb c i) + 1)), (4, .ref (ad c 5 i)), (0, .ref (ad c 0 0)), (3, .int (nI i))]) F dX3_waited_55 rfl (by decide) rfl ?_
      refine x_iinc (j := 4) (v := nI (i + 1)) (lv' := [(3, .int (nI (i + 1))), (2, .int ((s_ws c i) + ((cF c i 8) - (cF c i 7)))), (1, .int ((s_wb c i) + 1)), (4, .ref (ad c 5 i)), (0, .ref (ad c 0 0))]) F dX3_waited_56 rfl (nI_1 _) (by decide) rfl ?_
      refine x_goto F dX3_waited_59 (tgt := 6) (by decide) ?_
      refine wx_sub (lv' := [(0, .ref (ad c 0 0)), (1, .int ((s_wb c i) + 1)), (2, .int ((s_ws c i) + ((cF c i 8) - (cF c i 7)))), (3, .int (nI (i + 1)))]) [4, 2, 1, 0] rfl ?_
      refine wx_lv (lv' := [(0, .ref (ad c 0 0)), (1, .int (s_wb c (i + 1))), (2, .int (s_ws c (i + 1))), (3, .int (nI (i + 1)))]) (by simp [s_wb, s_ws, sumN, h4]) ?_
      exact ih6
end CL2
