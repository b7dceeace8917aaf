/-! the day's own methods: loops that change nothing; the digest -/
section CL2
theorem bnd {c : CS} (h : Wf c) : nm c < 2 ^ 31 ∧ ng c < 2 ^ 31 ∧ nf c < 2 ^ 31 ∧ (lst c).length < 2 ^ 31 ∧ (wtg c).length < 2 ^ 31 := by
  obtain ⟨⟨h1, h2, h3⟩, -, -, ⟨-, h4⟩, ⟨-, h5⟩⟩ := h
  omega
theorem fo_snoc (l : List Nat) (i f : Nat) (d : Int64) (h : l[i]? = some f) : (l.take (i + 1)).foldl (fun d f => mixL d (nI f)) d = mixL ((l.take i).foldl (fun d f => mixL d (nI f)) d) (nI f) := by
  have hi : i < l.length := (List.getElem?_eq_some_iff.mp h).1
  have he : l[i] = f := (List.getElem?_eq_some_iff.mp h).2
  rw [List.take_succ_eq_append_getElem hi, List.foldl_append, he]
  rfl
theorem fo_all (l : List Nat) (d : Int64) : (l.take l.length).foldl (fun d f => mixL d (nI f)) d = l.foldl (fun d f => mixL d (nI f)) d := by
  rw [List.take_length]
theorem Rep.injF {G : GT} {A : Nat → Prop} {c : CS} {H : Heap} (h : Rep G A c H) {i j : Nat} (hi : i < nf c) (hj : j < nf c) : ad c 5 i = ad c 5 j ↔ i = j := by
  obtain ⟨T, bA, cp, mo, hX⟩ := h
  exact ⟨fun e => (hX.apart.2.2.1 j hj).2.2 i hi e, fun e => by rw [e]⟩
def s_plc (f0 : Nat) : List Nat → Nat → Int32
  | [], _ => -1
  | f :: l, p => if f = f0 then nI p else s_plc f0 l (p + 1)
theorem drop_at {l : List Nat} {i f : Nat} (h : l[i]? = some f) : l.drop i = f :: l.drop (i + 1) := by
  have hi : i < l.length := (List.getElem?_eq_some_iff.mp h).1
  have he : l[i] = f := (List.getElem?_eq_some_iff.mp h).2
  rw [List.drop_eq_getElem_cons hi, he]
def s_wai (c : CS) : UInt64 := if s_wb c (nf c) = 0 then FP.dconst0 else FP.ddiv (FP.i2d (s_ws c (nf c))) (FP.i2d (s_wb c (nf c)))
theorem k_X3_65 : cwV_ "GliderDay" 65 "java/util/ArrayList" yJx4a65c_size_8abf5 cJx4a65c_size_8abf5 1 (some .int) 0 := ⟨mw_162, mw_163, mw_164, mw_58, mw_165, ⟨by decide +kernel, by decide +kernel, by decide +kernel⟩⟩
theorem k_X3_188 : cwV_ "GliderDay" 188 "java/util/ArrayList" yJx4a65c_get_915e3 cJx4a65c_get_915e3 2 (some (.object "java/lang/Object")) 1 := ⟨mw_166, mw_167, mw_168, mw_58, mw_169, ⟨by decide +kernel, by decide +kernel, by decide +kernel⟩⟩
theorem k_X3_292 : cwV_ "GliderDay" 292 "GliderDay" yX3_glidersInTheAir cX3_glidersInTheAir 3 (some .int) 0 := ⟨mw_202, mw_204, mw_1, mw_55, mw_205, ⟨by decide +kernel, by decide +kernel, by decide +kernel⟩⟩
theorem k_X3_240 : cwS_ "GliderDay" 240 yX3_mixed cX3_mixed 3 (some .long) 2 := ⟨mw_194, mw_195, mw_55, mw_196, ⟨by decide +kernel, by decide +kernel, by decide +kernel⟩⟩
theorem k_X3_140 : cwS_ "GliderDay" 140 yX3_memberFact cX3_memberFact 2 (some .int) 2 := ⟨mw_220, mw_221, mw_55, mw_222, ⟨by decide +kernel, by decide +kernel, by decide +kernel⟩⟩
theorem k_X3_144 : cwS_ "GliderDay" 144 yX3_gliderFact cX3_gliderFact 2 (some .int) 2 := ⟨mw_227, mw_228, mw_55, mw_229, ⟨by decide +kernel, by decide +kernel, by decide +kernel⟩⟩
theorem k_X3_216 : cwS_ "GliderDay" 216 yX3_flightFact cX3_flightFact 2 (some .int) 2 := ⟨mw_234, mw_235, mw_55, mw_236, ⟨by decide +kernel, by decide +kernel, by decide +kernel⟩⟩
theorem k_X3_244 : cwV_ "GliderDay" 244 "GliderDay" yX3_mixedMembers cX3_mixedMembers 8 (some .long) 1 := ⟨mw_215, mw_217, mw_4, mw_55, mw_218, ⟨by decide +kernel, by decide +kernel, by decide +kernel⟩⟩
theorem k_X3_248 : cwV_ "GliderDay" 248 "GliderDay" yX3_mixedGliders cX3_mixedGliders 7 (some .long) 1 := ⟨mw_223, mw_225, mw_5, mw_55, mw_226, ⟨by decide +kernel, by decide +kernel, by decide +kernel⟩⟩
theorem k_X3_251 : cwV_ "GliderDay" 251 "GliderDay" yX3_mixedFlights cX3_mixedFlights 7 (some .long) 1 := ⟨mw_230, mw_232, mw_6, mw_55, mw_233, ⟨by decide +kernel, by decide +kernel, by decide +kernel⟩⟩
theorem k_X3_222 : cwV_ "GliderDay" 222 "GliderDay" yX3_countOf cX3_countOf 2 (some .int) 1 := ⟨mw_198, mw_200, mw_0, mw_55, mw_201, ⟨by decide +kernel, by decide +kernel, by decide +kernel⟩⟩
set_option maxHeartbeats 4000000 in
set_option maxRecDepth 100000 in
theorem c_X3_glidersInTheAir (l : Launch) (G : GT) (A : Nat → Prop) (c : CS)  : Ct l yX3_glidersInTheAir cX3_glidersInTheAir 3 (some .int) ({ frames := 3, cells := 0, slots := 0, locals := 64 } : Room) G A [.ref (ad c 0 0)] (fun H => Rep G A c H) (Pu (.int (s_air c))) := by
  refine ct_of (own := "GliderDay") (by decide +kernel) rfl (Nat.le_of_ble_eq_true rfl) (fun E H0 F hE hR => ?_)
  show wx E H0 0 0 0 [(0, .ref (ad c 0 0))] []
  refine x_iconst (v := 0) F rfl dX3_glidersInTheAir_0 ?_
  refine x_istore_n (lv' := [(1, .int 0), (0, .ref (ad c 0 0))]) F dX3_glidersInTheAir_1 rfl (by decide) rfl ?_
  refine x_iconst (v := 0) F rfl dX3_glidersInTheAir_2 ?_
  refine x_istore_n (lv' := [(2, .int 0), (1, .int 0), (0, .ref (ad c 0 0))]) F dX3_glidersInTheAir_3 rfl (by decide) rfl ?_
  refine wx_sub (lv' := [(0, .ref (ad c 0 0)), (1, .int 0), (2, .int 0)]) [2, 1, 0] rfl ?_
  refine (loop_dn (N := (ng c)) (P := fun i => wx E H0 0 0 4 [(0, .ref (ad c 0 0)), (1, .int (sumN i (fun g => if cG c g 4 = 0 then 0 else 1))), (2, .int (nI i))] []) ?_ ?_) 0 (Nat.zero_le _)
  · refine x_iload_n F dX3_glidersInTheAir_4 2 rfl rfl ?_
    refine x_aload_n F dX3_glidersInTheAir_5 0 rfl rfl ?_
    refine y_getD (c := c) (j := 1) (v := .ref (ad c 1 1)) F hR mw_110 rfl (by decide) rfl dX3_glidersInTheAir_6 ?_
    refine y_lsize (c := c) (k5 := 1) F hR (by decide) k_X3_65 ⟨(Nat.le_of_ble_eq_true rfl), (Nat.le_of_ble_eq_true rfl)⟩ (Nat.le_of_ble_eq_true rfl) (Nat.le_of_ble_eq_true rfl) dX3_glidersInTheAir_9 (Nat.le_of_ble_eq_true rfl) ?_
    refine wx_i (y := nI (ng c)) (congrArg nI (els_1 _)) ?_
    refine x_icmp_ge F dX3_glidersInTheAir_12 (tgt := 41) (by decide) (fun _ => ?_) (fun h1 => absurd (Int32.le_refl _) h1)
    refine x_iload_n F dX3_glidersInTheAir_41 1 rfl rfl ?_
    exact x_iret F hE dX3_glidersInTheAir_42 (Nat.le_of_ble_eq_true rfl) (Nat.le_of_ble_eq_true rfl) (⟨rfl, rfl⟩)
  · intro i hi ih4
    refine x_iload_n F dX3_glidersInTheAir_4 2 rfl rfl ?_
    refine x_aload_n F dX3_glidersInTheAir_5 0 rfl rfl ?_
    refine y_getD (c := c) (j := 1) (v := .ref (ad c 1 1)) F hR mw_110 rfl (by decide) rfl dX3_glidersInTheAir_6 ?_
    refine y_lsize (c := c) (k5 := 1) F hR (by decide) k_X3_65 ⟨(Nat.le_of_ble_eq_true rfl), (Nat.le_of_ble_eq_true rfl)⟩ (Nat.le_of_ble_eq_true rfl) (Nat.le_of_ble_eq_true rfl) dX3_glidersInTheAir_9 (Nat.le_of_ble_eq_true rfl) ?_
    refine wx_i (y := nI (ng c)) (congrArg nI (els_1 _)) ?_
    refine x_icmp_ge F dX3_glidersInTheAir_12 (tgt := 41) (by decide) (fun h2 => absurd h2 (nI_ge hi ((bnd hR.wf).2.1))) (fun _ => ?_)
    refine x_aload_n F dX3_glidersInTheAir_15 0 rfl rfl ?_
    refine y_getD (c := c) (j := 1) (v := .ref (ad c 1 1)) F hR mw_110 rfl (by decide) rfl dX3_glidersInTheAir_16 ?_
    refine x_iload_n F dX3_glidersInTheAir_19 2 rfl rfl ?_
    refine y_lget (c := c) (k5 := 1) (i := i) (e := ad c 4 i) F hR (by decide) (elg_1 hi) k_X3_188 ⟨(Nat.le_of_ble_eq_true rfl), (Nat.le_of_ble_eq_true rfl)⟩ (Nat.le_of_ble_eq_true rfl) (Nat.le_of_ble_eq_true rfl) dX3_glidersInTheAir_20 (Nat.le_of_ble_eq_true rfl) ?_
    refine x_castS (C := "GliderDay$Glider") (T := TX1) (N := 10) F (hR.gli hi) rfl mw_206 dX3_glidersInTheAir_23 ?_
    refine y_getG (c := c) (i := i) (j := 4) (v := .int (cG c i 4)) F hR hi nw_110 rfl (by decide) rfl dX3_glidersInTheAir_26 ?_
    refine x_if_eq F dX3_glidersInTheAir_29 (tgt := 35) (by decide) (fun h3 => ?_) (fun h3 => ?_)
    · refine x_iinc (j := 2) (v := nI (i + 1)) (lv' := [(2, .int (nI (i + 1))), (0, .ref (ad c 0 0)), (1, .int (sumN i (fun g => if cG c g 4 = 0 then 0 else 1)))]) F dX3_glidersInTheAir_35 rfl (nI_1 _) (by decide) rfl ?_
      refine x_goto F dX3_glidersInTheAir_38 (tgt := 4) (by decide) ?_
      refine wx_sub (lv' := [(0, .ref (ad c 0 0)), (1, .int (sumN i (fun g => if cG c g 4 = 0 then 0 else 1))), (2, .int (nI (i + 1)))]) [1, 2, 0] rfl ?_
      refine wx_lv (lv' := [(0, .ref (ad c 0 0)), (1, .int (sumN (i + 1) (fun g => if cG c g 4 = 0 then 0 else 1))), (2, .int (nI (i + 1)))]) (by simp [sumN, h3]) ?_
      exact ih4
    · refine x_iinc (j := 1) (v := (sumN i (fun g => if cG c g 4 = 0 then 0 else 1)) + 1) (lv' := [(1, .int ((sumN i (fun g => if cG c g 4 = 0 then 0 else 1)) + 1)), (0, .ref (ad c 0 0)), (2, .int (nI i))]) F dX3_glidersInTheAir_32 rfl rfl (by decide) rfl ?_
      refine x_iinc (j := 2) (v := nI (i + 1)) (lv' := [(2, .int (nI (i + 1))), (1, .int ((sumN i (fun g => if cG c g 4 = 0 then 0 else 1)) + 1)), (0, .ref (ad c 0 0))]) F dX3_glidersInTheAir_35 rfl (nI_1 _) (by decide) rfl ?_
      refine x_goto F dX3_glidersInTheAir_38 (tgt := 4) (by decide) ?_
      refine wx_sub (lv' := [(0, .ref (ad c 0 0)), (1, .int ((sumN i (fun g => if cG c g 4 = 0 then 0 else 1)) + 1)), (2, .int (nI (i + 1)))]) [2, 1, 0] rfl ?_
      refine wx_lv (lv' := [(0, .ref (ad c 0 0)), (1, .int (sumN (i + 1) (fun g => if cG c g 4 = 0 then 0 else 1))), (2, .int (nI (i + 1)))]) (by simp [sumN, h3]) ?_
      exact ih4
set_option maxHeartbeats 4000000 in
set_option maxRecDepth 100000 in
theorem c_X3_countOf (l : Launch) (G : GT) (A : Nat → Prop) (c : CS) (w : Int32) : Ct l yX3_countOf cX3_countOf 2 (some .int) ({ frames := 4, cells := 0, slots := 0, locals := 86 } : Room) G A [.ref (ad c 0 0), .int w] (fun H => Rep G A c H) (Pu (.int (s_cnt c w))) := by
  refine ct_of (own := "GliderDay") (by decide +kernel) rfl (Nat.le_of_ble_eq_true rfl) (fun E H0 F hE hR => ?_)
  show wx E H0 0 0 0 [(0, .ref (ad c 0 0)), (1, .int w)] []
  refine x_iload_n F dX3_countOf_0 1 rfl rfl ?_
  by_cases hw1 : w = 0
  · rw [hw1]
    refine x_tableIn (off := 43) (tgt := 44) F dX3_countOf_1 (by decide) (by decide) rfl (by decide) ?_
    refine x_aload_n F dX3_countOf_44 0 rfl rfl ?_
    refine y_getD (c := c) (j := 0) (v := .ref (ad c 1 0)) F hR mw_109 rfl (by decide) rfl dX3_countOf_45 ?_
    refine y_lsize (c := c) (k5 := 0) F hR (by decide) k_X3_65 ⟨(Nat.le_of_ble_eq_true rfl), (Nat.le_of_ble_eq_true rfl)⟩ (Nat.le_of_ble_eq_true rfl) (Nat.le_of_ble_eq_true rfl) dX3_countOf_48 (Nat.le_of_ble_eq_true rfl) ?_
    refine wx_i (y := nI (nm c)) (congrArg nI (els_0 _)) ?_
    exact x_iret F hE dX3_countOf_51 (Nat.le_of_ble_eq_true rfl) (Nat.le_of_ble_eq_true rfl) (⟨by simp [s_cnt, hw1], rfl⟩)
  by_cases hw2 : w = 1
  · rw [hw2]
    refine x_tableIn (off := 51) (tgt := 52) F dX3_countOf_1 (by decide) (by decide) rfl (by decide) ?_
    refine x_aload_n F dX3_countOf_52 0 rfl rfl ?_
    refine y_getD (c := c) (j := 1) (v := .ref (ad c 1 1)) F hR mw_110 rfl (by decide) rfl dX3_countOf_53 ?_
    refine y_lsize (c := c) (k5 := 1) F hR (by decide) k_X3_65 ⟨(Nat.le_of_ble_eq_true rfl), (Nat.le_of_ble_eq_true rfl)⟩ (Nat.le_of_ble_eq_true rfl) (Nat.le_of_ble_eq_true rfl) dX3_countOf_56 (Nat.le_of_ble_eq_true rfl) ?_
    refine wx_i (y := nI (ng c)) (congrArg nI (els_1 _)) ?_
    exact x_iret F hE dX3_countOf_59 (Nat.le_of_ble_eq_true rfl) (Nat.le_of_ble_eq_true rfl) (⟨by simp [s_cnt, hw1, hw2], rfl⟩)
  by_cases hw3 : w = 2
  · rw [hw3]
    refine x_tableIn (off := 59) (tgt := 60) F dX3_countOf_1 (by decide) (by decide) rfl (by decide) ?_
    refine x_aload_n F dX3_countOf_60 0 rfl rfl ?_
    refine y_getD (c := c) (j := 2) (v := .ref (ad c 1 2)) F hR mw_111 rfl (by decide) rfl dX3_countOf_61 ?_
    refine y_lsize (c := c) (k5 := 2) F hR (by decide) k_X3_65 ⟨(Nat.le_of_ble_eq_true rfl), (Nat.le_of_ble_eq_true rfl)⟩ (Nat.le_of_ble_eq_true rfl) (Nat.le_of_ble_eq_true rfl) dX3_countOf_64 (Nat.le_of_ble_eq_true rfl) ?_
    refine wx_i (y := nI (nf c)) (congrArg nI (els_2 _)) ?_
    exact x_iret F hE dX3_countOf_67 (Nat.le_of_ble_eq_true rfl) (Nat.le_of_ble_eq_true rfl) (⟨by simp [s_cnt, hw1, hw2, hw3], rfl⟩)
  by_cases hw4 : w = 3
  · rw [hw4]
    refine x_tableIn (off := 67) (tgt := 68) F dX3_countOf_1 (by decide) (by decide) rfl (by decide) ?_
    refine x_aload_n F dX3_countOf_68 0 rfl rfl ?_
    refine y_getD (c := c) (j := 3) (v := .ref (ad c 1 3)) F hR mw_112 rfl (by decide) rfl dX3_countOf_69 ?_
    refine y_lsize (c := c) (k5 := 3) F hR (by decide) k_X3_65 ⟨(Nat.le_of_ble_eq_true rfl), (Nat.le_of_ble_eq_true rfl)⟩ (Nat.le_of_ble_eq_true rfl) (Nat.le_of_ble_eq_true rfl) dX3_countOf_72 (Nat.le_of_ble_eq_true rfl) ?_
    refine wx_i (y := nI (lst c).length) (congrArg nI (els_3 _)) ?_
    exact x_iret F hE dX3_countOf_75 (Nat.le_of_ble_eq_true rfl) (Nat.le_of_ble_eq_true rfl) (⟨by simp [s_cnt, hw1, hw2, hw3, hw4], rfl⟩)
  by_cases hw5 : w = 4
  · rw [hw5]
    refine x_tableIn (off := 75) (tgt := 76) F dX3_countOf_1 (by decide) (by decide) rfl (by decide) ?_
    refine x_aload_n F dX3_countOf_76 0 rfl rfl ?_
    refine x_callVp (rest := []) F hR.day rfl (c_X3_glidersInTheAir l G A c ) k_X3_292 ⟨(Nat.le_of_ble_eq_true rfl), (Nat.le_of_ble_eq_true rfl), rfl, rfl⟩ (Nat.le_of_ble_eq_true rfl) (Nat.le_of_ble_eq_true rfl) dX3_countOf_77 rfl rfl (Nat.le_of_ble_eq_true rfl) hR ?_
    exact x_iret F hE dX3_countOf_80 (Nat.le_of_ble_eq_true rfl) (Nat.le_of_ble_eq_true rfl) (⟨by simp [s_cnt, hw1, hw2, hw3, hw4, hw5], rfl⟩)
  by_cases hw6 : w = 5
  · rw [hw6]
    refine x_tableIn (off := 80) (tgt := 81) F dX3_countOf_1 (by decide) (by decide) rfl (by decide) ?_
    refine x_aload_n F dX3_countOf_81 0 rfl rfl ?_
    refine y_getD (c := c) (j := 4) (v := .ref (ad c 1 4)) F hR mw_113 rfl (by decide) rfl dX3_countOf_82 ?_
    refine y_lsize (c := c) (k5 := 4) F hR (by decide) k_X3_65 ⟨(Nat.le_of_ble_eq_true rfl), (Nat.le_of_ble_eq_true rfl)⟩ (Nat.le_of_ble_eq_true rfl) (Nat.le_of_ble_eq_true rfl) dX3_countOf_85 (Nat.le_of_ble_eq_true rfl) ?_
    refine wx_i (y := nI (wtg c).length) (congrArg nI (els_4 _)) ?_
    exact x_iret F hE dX3_countOf_88 (Nat.le_of_ble_eq_true rfl) (Nat.le_of_ble_eq_true rfl) (⟨by simp [s_cnt, hw1, hw2, hw3, hw4, hw5, hw6], rfl⟩)
  by_cases hw7 : w = 6
  · rw [hw7]
    refine x_tableIn (off := 88) (tgt := 89) F dX3_countOf_1 (by decide) (by decide) rfl (by decide) ?_
    refine x_iconst (v := 2) F rfl dX3_countOf_89 ?_
    refine x_aload_n F dX3_countOf_90 0 rfl rfl ?_
    refine y_getD (c := c) (j := 7) (v := .int (cD c 7)) F hR mw_116 rfl (by decide) rfl dX3_countOf_91 ?_
    refine x_isub F dX3_countOf_94 ?_
    exact x_iret F hE dX3_countOf_95 (Nat.le_of_ble_eq_true rfl) (Nat.le_of_ble_eq_true rfl) (⟨by simp [s_cnt, hw1, hw2, hw3, hw4, hw5, hw6, hw7], rfl⟩)
  refine x_tableOut (tgt := 96) F dX3_countOf_1 (tsw (n := 6) (fun j hj => match j, hj with | 0, _ => hw1 | 1, _ => hw2 | 2, _ => hw3 | 3, _ => hw4 | 4, _ => hw5 | 5, _ => hw6 | 6, _ => hw7 | j + 7, hj => absurd hj (by omega))) (by decide) ?_
  refine x_aload_n F dX3_countOf_96 0 rfl rfl ?_
  refine x_callVp (rest := []) F hR.day rfl (c_X3_freeTugs l G A c ) k_X3_103 ⟨(Nat.le_of_ble_eq_true rfl), (Nat.le_of_ble_eq_true rfl), rfl, rfl⟩ (Nat.le_of_ble_eq_true rfl) (Nat.le_of_ble_eq_true rfl) dX3_countOf_97 rfl rfl (Nat.le_of_ble_eq_true rfl) hR ?_
  exact x_iret F hE dX3_countOf_100 (Nat.le_of_ble_eq_true rfl) (Nat.le_of_ble_eq_true rfl) (⟨by simp [s_cnt, hw1, hw2, hw3, hw4, hw5, hw6, hw7], rfl⟩)
set_option maxHeartbeats 4000000 in
set_option maxRecDepth 100000 in
theorem c_X3_income (l : Launch) (G : GT) (A : Nat → Prop) (c : CS)  : Ct l yX3_income cX3_income 3 (some .int) ({ frames := 3, cells := 0, slots := 0, locals := 64 } : Room) G A [.ref (ad c 0 0)] (fun H => Rep G A c H) (Pu (.int (s_inc c))) := by
  refine ct_of (own := "GliderDay") (by decide +kernel) rfl (Nat.le_of_ble_eq_true rfl) (fun E H0 F hE hR => ?_)
  show wx E H0 0 0 0 [(0, .ref (ad c 0 0))] []
  refine x_iconst (v := 0) F rfl dX3_income_0 ?_
  refine x_istore_n (lv' := [(1, .int 0), (0, .ref (ad c 0 0))]) F dX3_income_1 rfl (by decide) rfl ?_
  refine x_iconst (v := 0) F rfl dX3_income_2 ?_
  refine x_istore_n (lv' := [(2, .int 0), (1, .int 0), (0, .ref (ad c 0 0))]) F dX3_income_3 rfl (by decide) rfl ?_
  refine wx_sub (lv' := [(0, .ref (ad c 0 0)), (1, .int 0), (2, .int 0)]) [2, 1, 0] rfl ?_
  refine (loop_dn (N := (nf c)) (P := fun i => wx E H0 0 0 4 [(0, .ref (ad c 0 0)), (1, .int (sumN i (fun f => cF c f 10))), (2, .int (nI i))] []) ?_ ?_) 0 (Nat.zero_le _)
  · refine x_iload_n F dX3_income_4 2 rfl rfl ?_
    refine x_aload_n F dX3_income_5 0 rfl rfl ?_
    refine y_getD (c := c) (j := 2) (v := .ref (ad c 1 2)) F hR mw_111 rfl (by decide) rfl dX3_income_6 ?_
    refine y_lsize (c := c) (k5 := 2) F hR (by decide) k_X3_65 ⟨(Nat.le_of_ble_eq_true rfl), (Nat.le_of_ble_eq_true rfl)⟩ (Nat.le_of_ble_eq_true rfl) (Nat.le_of_ble_eq_true rfl) dX3_income_9 (Nat.le_of_ble_eq_true rfl) ?_
    refine wx_i (y := nI (nf c)) (congrArg nI (els_2 _)) ?_
    refine x_icmp_ge F dX3_income_12 (tgt := 38) (by decide) (fun _ => ?_) (fun h1 => absurd (Int32.le_refl _) h1)
    refine x_iload_n F dX3_income_38 1 rfl rfl ?_
    exact x_iret F hE dX3_income_39 (Nat.le_of_ble_eq_true rfl) (Nat.le_of_ble_eq_true rfl) (⟨rfl, rfl⟩)
  · intro i hi ih4
    refine x_iload_n F dX3_income_4 2 rfl rfl ?_
    refine x_aload_n F dX3_income_5 0 rfl rfl ?_
    refine y_getD (c := c) (j := 2) (v := .ref (ad c 1 2)) F hR mw_111 rfl (by decide) rfl dX3_income_6 ?_
    refine y_lsize (c := c) (k5 := 2) F hR (by decide) k_X3_65 ⟨(Nat.le_of_ble_eq_true rfl), (Nat.le_of_ble_eq_true rfl)⟩ (Nat.le_of_ble_eq_true rfl) (Nat.le_of_ble_eq_true rfl) dX3_income_9 (Nat.le_of_ble_eq_true rfl) ?_
    refine wx_i (y := nI (nf c)) (congrArg nI (els_2 _)) ?_
    refine x_icmp_ge F dX3_income_12 (tgt := 38) (by decide) (fun h2 => absurd h2 (nI_ge hi ((bnd hR.wf).2.2.1))) (fun _ => ?_)
    refine x_iload_n F dX3_income_15 1 rfl rfl ?_
    refine x_aload_n F dX3_income_16 0 rfl rfl ?_
    refine y_getD (c := c) (j := 2) (v := .ref (ad c 1 2)) F hR mw_111 rfl (by decide) rfl dX3_income_17 ?_
    refine x_iload_n F dX3_income_20 2 rfl rfl ?_
    refine y_lget (c := c) (k5 := 2) (i := i) (e := ad c 5 i) F hR (by decide) (elg_2 hi) k_X3_188 ⟨(Nat.le_of_ble_eq_true rfl), (Nat.le_of_ble_eq_true rfl)⟩ (Nat.le_of_ble_eq_true rfl) (Nat.le_of_ble_eq_true rfl) dX3_income_21 (Nat.le_of_ble_eq_true rfl) ?_
    refine x_castS (C := "GliderDay$Flight") (T := TX0) (N := 11) F (hR.fli hi) rfl mw_180 dX3_income_24 ?_
    refine y_getF (c := c) (i := i) (j := 10) (v := .int (cF c i 10)) F hR hi nw_232 rfl (by decide) rfl dX3_income_27 ?_
    refine x_iadd F dX3_income_30 ?_
    refine x_istore_n (lv' := [(1, .int ((sumN i (fun f => cF c f 10)) + (cF c i 10))), (0, .ref (ad c 0 0)), (2, .int (nI i))]) F dX3_income_31 rfl (by decide) rfl ?_
    refine x_iinc (j := 2) (v := nI (i + 1)) (lv' := [(2, .int (nI (i + 1))), (1, .int ((sumN i (fun f => cF c f 10)) + (cF c i 10))), (0, .ref (ad c 0 0))]) F dX3_income_32 rfl (nI_1 _) (by decide) rfl ?_
    refine x_goto F dX3_income_35 (tgt := 4) (by decide) ?_
    refine wx_sub (lv' := [(0, .ref (ad c 0 0)), (1, .int ((sumN i (fun f => cF c f 10)) + (cF c i 10))), (2, .int (nI (i + 1)))]) [2, 1, 0] rfl ?_
    refine wx_lv (lv' := [(0, .ref (ad c 0 0)), (1, .int (sumN (i + 1) (fun f => cF c f 10))), (2, .int (nI (i + 1)))]) (rfl) ?_
    exact ih4
set_option maxHeartbeats 4000000 in
set_option maxRecDepth 100000 in
theorem c_X3_longest (l : Launch) (G : GT) (A : Nat → Prop) (c : CS)  : Ct l yX3_longest cX3_longest 5 (some .int) ({ frames := 3, cells := 0, slots := 0, locals := 64 } : Room) G A [.ref (ad c 0 0)] (fun H => Rep G A c H) (Pu (.int (s_lng c (nf c)).1)) := by
  refine ct_of (own := "GliderDay") (by decide +kernel) rfl (Nat.le_of_ble_eq_true rfl) (fun E H0 F hE hR => ?_)
  show wx E H0 0 0 0 [(0, .ref (ad c 0 0))] []
  refine x_iconst (v := (-1)) F rfl dX3_longest_0 ?_
  refine x_istore_n (lv' := [(1, .int (-1)), (0, .ref (ad c 0 0))]) F dX3_longest_1 rfl (by decide) rfl ?_
  refine x_iconst (v := 0) F rfl dX3_longest_2 ?_
  refine x_istore_n (lv' := [(2, .int 0), (1, .int (-1)), (0, .ref (ad c 0 0))]) F dX3_longest_3 rfl (by decide) rfl ?_
  refine x_iconst (v := 0) F rfl dX3_longest_4 ?_
  refine x_istore_n (lv' := [(3, .int 0), (2, .int 0), (1, .int (-1)), (0, .ref (ad c 0 0))]) F dX3_longest_5 rfl (by decide) rfl ?_
  refine wx_sub (lv' := [(0, .ref (ad c 0 0)), (1, .int (-1)), (2, .int 0), (3, .int 0)]) [3, 2, 1, 0] rfl ?_
  refine (loop_dn (N := (nf c)) (P := fun i => wx E H0 0 0 6 [(0, .ref (ad c 0 0)), (1, .int ((s_lng c i).1)), (2, .int ((s_lng c i).2)), (3, .int (nI i))] []) ?_ ?_) 0 (Nat.zero_le _)
  · refine x_iload_n F dX3_longest_6 3 rfl rfl ?_
    refine x_aload_n F dX3_longest_7 0 rfl rfl ?_
    refine y_getD (c := c) (j := 2) (v := .ref (ad c 1 2)) F hR mw_111 rfl (by decide) rfl dX3_longest_8 ?_
    refine y_lsize (c := c) (k5 := 2) F hR (by decide) k_X3_65 ⟨(Nat.le_of_ble_eq_true rfl), (Nat.le_of_ble_eq_true rfl)⟩ (Nat.le_of_ble_eq_true rfl) (Nat.le_of_ble_eq_true rfl) dX3_longest_11 (Nat.le_of_ble_eq_true rfl) ?_
    refine wx_i (y := nI (nf c)) (congrArg nI (els_2 _)) ?_
    refine x_icmp_ge F dX3_longest_14 (tgt := 83) (by decide) (fun _ => ?_) (fun h1 => absurd (Int32.le_refl _) h1)
    refine x_iload_n F dX3_longest_83 1 rfl rfl ?_
    exact x_iret F hE dX3_longest_84 (Nat.le_of_ble_eq_true rfl) (Nat.le_of_ble_eq_true rfl) (⟨rfl, rfl⟩)
  · intro i hi ih6
    refine x_iload_n F dX3_longest_6 3 rfl rfl ?_
    refine x_aload_n F dX3_longest_7 0 rfl rfl ?_
    refine y_getD (c := c) (j := 2) (v := .ref (ad c 1 2)) F hR mw_111 rfl (by decide) rfl dX3_longest_8 ?_
    refine y_lsize (c := c) (k5 := 2) F hR (by decide) k_X3_65 ⟨(Nat.le_of_ble_eq_true rfl), (Nat.le_of_ble_eq_true rfl)⟩ (Nat.le_of_ble_eq_true rfl) (Nat.le_of_ble_eq_true rfl) dX3_longest_11 (Nat.le_of_ble_eq_true rfl) ?_
    refine wx_i (y := nI (nf c)) (congrArg nI (els_2 _)) ?_
    refine x_icmp_ge F dX3_longest_14 (tgt := 83) (by decide) (fun h2 => absurd h2 (nI_ge hi ((bnd hR.wf).2.2.1))) (fun _ => ?_)
    refine x_aload_n F dX3_longest_17 0 rfl rfl ?_
    refine y_getD (c := c) (j := 2) (v := .ref (ad c 1 2)) F hR mw_111 rfl (by decide) rfl dX3_longest_18 ?_
    refine x_iload_n F dX3_longest_21 3 rfl rfl ?_
    refine y_lget (c := c) (k5 := 2) (i := i) (e := ad c 5 i) F hR (by decide) (elg_2 hi) k_X3_188 ⟨(Nat.le_of_ble_eq_true rfl), (Nat.le_of_ble_eq_true rfl)⟩ (Nat.le_of_ble_eq_true rfl) (Nat.le_of_ble_eq_true rfl) dX3_longest_22 (Nat.le_of_ble_eq_true rfl) ?_
    refine x_castS (C := "GliderDay$Flight") (T := TX0) (N := 11) F (hR.fli hi) rfl mw_180 dX3_longest_25 ?_
    refine x_astore (lv' := [(4, .ref (ad c 5 i)), (0, .ref (ad c 0 0)), (1, .int ((s_lng c i).1)), (2, .int ((s_lng c i).2)), (3, .int (nI i))]) F dX3_longest_28 (by decide) rfl ?_
    refine x_aload F dX3_longest_30 0 rfl ?_
    refine y_getF (c := c) (i := i) (j := 6) (v := .int (cF c i 6)) F hR hi nw_185 rfl (by decide) rfl dX3_longest_32 ?_
    refine x_iconst (v := 2) F rfl dX3_longest_35 ?_
    refine x_icmp_ne F dX3_longest_36 (tgt := 77) (by decide) (fun h3 => ?_) (fun h3 => ?_)
    · refine x_iinc (j := 4) (v := nI (i + 1)) (lv' := [(3, .int (nI (i + 1))), (4, .ref (ad c 5 i)), (0, .ref (ad c 0 0)), (1, .int ((s_lng c i).1)), (2, .int ((s_lng c i).2))]) F dX3_longest_77 rfl (nI_1 _) (by decide) rfl ?_
      refine x_goto F dX3_longest_80 (tgt := 6) (by decide) ?_
      refine wx_sub (lv' := [(0, .ref (ad c 0 0)), (1, .int ((s_lng c i).1)), (2, .int ((s_lng c i).2)), (3, .int (nI (i + 1)))]) [2, 3, 4, 0] rfl ?_
      refine wx_lv (lv' := [(0, .ref (ad c 0 0)), (1, .int ((s_lng c (i + 1)).1)), (2, .int ((s_lng c (i + 1)).2)), (3, .int (nI (i + 1)))]) (by simp [s_lng, h3]) ?_
      exact ih6
    · refine x_iload_n F dX3_longest_39 2 rfl rfl ?_
      refine x_iconst (v := (-1)) F rfl dX3_longest_40 ?_
      refine x_icmp_eq F dX3_longest_41 (tgt := 59) (by decide) (fun h4 => ?_) (fun h4 => ?_)
      · refine x_aload F dX3_longest_59 0 rfl ?_
        refine y_getF (c := c) (i := i) (j := 0) (v := .int (nI i)) F hR hi nw_170 rfl (by decide) rfl dX3_longest_61 ?_
        refine x_istore_n (lv' := [(1, .int (nI i)), (4, .ref (ad c 5 i)), (0, .ref (ad c 0 0)), (2, .int ((s_lng c i).2)), (3, .int (nI i))]) F dX3_longest_64 rfl (by decide) rfl ?_
        refine x_aload F dX3_longest_65 1 rfl ?_
        refine y_getF (c := c) (i := i) (j := 9) (v := .int (cF c i 9)) F hR hi nw_235 rfl (by decide) rfl dX3_longest_67 ?_
        refine x_aload F dX3_longest_70 1 rfl ?_
        refine y_getF (c := c) (i := i) (j := 8) (v := .int (cF c i 8)) F hR hi nw_204 rfl (by decide) rfl dX3_longest_72 ?_
        refine x_isub F dX3_longest_75 ?_
        refine x_istore_n (lv' := [(2, .int ((cF c i 9) - (cF c i 8))), (1, .int (nI i)), (4, .ref (ad c 5 i)), (0, .ref (ad c 0 0)), (3, .int (nI i))]) F dX3_longest_76 rfl (by decide) rfl ?_
        refine x_iinc (j := 4) (v := nI (i + 1)) (lv' := [(3, .int (nI (i + 1))), (2, .int ((cF c i 9) - (cF c i 8))), (1, .int (nI i)), (4, .ref (ad c 5 i)), (0, .ref (ad c 0 0))]) F dX3_longest_77 rfl (nI_1 _) (by decide) rfl ?_
        refine x_goto F dX3_longest_80 (tgt := 6) (by decide) ?_
        refine wx_sub (lv' := [(0, .ref (ad c 0 0)), (1, .int (nI i)), (2, .int ((cF c i 9) - (cF c i 8))), (3, .int (nI (i + 1)))]) [4, 2, 1, 0] rfl ?_
        refine wx_lv (lv' := [(0, .ref (ad c 0 0)), (1, .int ((s_lng c (i + 1)).1)), (2, .int ((s_lng c (i + 1)).2)), (3, .int (nI (i + 1)))]) (by simp [s_lng, h3, h4]) ?_
        exact ih6
      · refine x_aload F dX3_longest_44 0 rfl ?_
        refine y_getF (c := c) (i := i) (j := 9) (v := .int (cF c i 9)) F hR hi nw_235 rfl (by decide) rfl dX3_longest_46 ?_
        refine x_aload F dX3_longest_49 0 rfl ?_
        refine y_getF (c := c) (i := i) (j := 8) (v := .int (cF c i 8)) F hR hi nw_204 rfl (by decide) rfl dX3_longest_51 ?_
        refine x_isub F dX3_longest_54 ?_
        refine x_iload_n F dX3_longest_55 3 rfl rfl ?_
        refine x_icmp_le F dX3_longest_56 (tgt := 77) (by decide) (fun h5 => ?_) (fun h5 => ?_)
        · have h5' := Int32.not_lt.mpr h5
          refine x_iinc (j := 4) (v := nI (i + 1)) (lv' := [(3, .int (nI (i + 1))), (4, .ref (ad c 5 i)), (0, .ref (ad c 0 0)), (1, .int ((s_lng c i).1)), (2, .int ((s_lng c i).2))]) F dX3_longest_77 rfl (nI_1 _) (by decide) rfl ?_
          refine x_goto F dX3_longest_80 (tgt := 6) (by decide) ?_
          refine wx_sub (lv' := [(0, .ref (ad c 0 0)), (1, .int ((s_lng c i).1)), (2, .int ((s_lng c i).2)), (3, .int (nI (i + 1)))]) [2, 3, 4, 0] rfl ?_
          refine wx_lv (lv' := [(0, .ref (ad c 0 0)), (1, .int ((s_lng c (i + 1)).1)), (2, .int ((s_lng c (i + 1)).2)), (3, .int (nI (i + 1)))]) (by simp [s_lng, h3, h4, h5, h5']) ?_
          exact ih6
        · have h5' := Int32.not_le.mp h5
          refine x_aload F dX3_longest_59 0 rfl ?_
          refine y_getF (c := c) (i := i) (j := 0) (v := .int (nI i)) F hR hi nw_170 rfl (by decide) rfl dX3_longest_61 ?_
          refine x_istore_n (lv' := [(1, .int (nI i)), (4, .ref (ad c 5 i)), (0, .ref (ad c 0 0)), (2, .int ((s_lng c i).2)), (3, .int (nI i))]) F dX3_longest_64 rfl (by decide) rfl ?_
          refine x_aload F dX3_longest_65 1 rfl ?_
          refine y_getF (c := c) (i := i) (j := 9) (v := .int (cF c i 9)) F hR hi nw_235 rfl (by decide) rfl dX3_longest_67 ?_
          refine x_aload F dX3_longest_70 1 rfl ?_
          refine y_getF (c := c) (i := i) (j := 8) (v := .int (cF c i 8)) F hR hi nw_204 rfl (by decide) rfl dX3_longest_72 ?_
          refine x_isub F dX3_longest_75 ?_
          refine x_istore_n (lv' := [(2, .int ((cF c i 9) - (cF c i 8))), (1, .int (nI i)), (4, .ref (ad c 5 i)), (0, .ref (ad c 0 0)), (3, .int (nI i))]) F dX3_longest_76 rfl (by decide) rfl ?_
          refine x_iinc (j := 4) (v := nI (i + 1)) (lv' := [(3, .int (nI (i + 1))), (2, .int ((cF c i 9) - (cF c i 8))), (1, .int (nI i)), (4, .ref (ad c 5 i)), (0, .ref (ad c 0 0))]) F dX3_longest_77 rfl (nI_1 _) (by decide) rfl ?_
          refine x_goto F dX3_longest_80 (tgt := 6) (by decide) ?_
          refine wx_sub (lv' := [(0, .ref (ad c 0 0)), (1, .int (nI i)), (2, .int ((cF c i 9) - (cF c i 8))), (3, .int (nI (i + 1)))]) [4, 2, 1, 0] rfl ?_
          refine wx_lv (lv' := [(0, .ref (ad c 0 0)), (1, .int ((s_lng c (i + 1)).1)), (2, .int ((s_lng c (i + 1)).2)), (3, .int (nI (i + 1)))]) (by simp [s_lng, h3, h4, h5, h5']) ?_
          exact ih6
set_option maxHeartbeats 4000000 in
set_option maxRecDepth 100000 in
theorem c_X3_mixed (l : Launch) (G : GT) (A : Nat → Prop) (d : Int64) (x : Int32) : Ct l yX3_mixed cX3_mixed 3 (some .long) ({ frames := 0, cells := 0, slots := 0, locals := 0 } : Room) G A [.long d, .int x] (fun H => True) (Pu (.long (mixL d x))) := by
  refine ct_of (own := "GliderDay") (by decide +kernel) rfl (Nat.le_of_ble_eq_true rfl) (fun E H0 F hE _ => ?_)
  show wx E H0 0 0 0 [(0, .long d), (2, .int x)] []
  refine x_lload_n F dX3_mixed_0 0 rfl rfl ?_
  refine x_ldc2 F mw_197 dX3_mixed_1 ?_
  refine x_lmul F dX3_mixed_4 ?_
  refine x_iload_n F dX3_mixed_5 1 rfl rfl ?_
  refine x_i2l F dX3_mixed_6 ?_
  refine x_ladd F dX3_mixed_7 ?_
  exact x_lret F hE dX3_mixed_8 (Nat.le_of_ble_eq_true rfl) (Nat.le_of_ble_eq_true rfl) (⟨rfl, rfl⟩)
set_option maxHeartbeats 4000000 in
set_option maxRecDepth 100000 in
theorem c_X3_mixedMembers (l : Launch) (G : GT) (A : Nat → Prop) (c : CS) (d : Int64) : Ct l yX3_mixedMembers cX3_mixedMembers 8 (some .long) ({ frames := 3, cells := 0, slots := 0, locals := 64 } : Room) G A [.ref (ad c 0 0), .long d] (fun H => Rep G A c H) (Pu (.long (foldL (s_dm c) (nm c) d))) := by
  refine ct_of (own := "GliderDay") (by decide +kernel) rfl (Nat.le_of_ble_eq_true rfl) (fun E H0 F hE hR => ?_)
  show wx E H0 0 0 0 [(0, .ref (ad c 0 0)), (1, .long d)] []
  refine x_lload_n F dX3_mixedMembers_0 1 rfl rfl ?_
  refine x_lstore_n (lv' := [(3, .long d), (0, .ref (ad c 0 0)), (1, .long d)]) F dX3_mixedMembers_1 rfl (by decide) rfl ?_
  refine x_iconst (v := 0) F rfl dX3_mixedMembers_2 ?_
  refine x_istore (lv' := [(5, .int 0), (3, .long d), (0, .ref (ad c 0 0)), (1, .long d)]) F dX3_mixedMembers_3 (by decide) rfl ?_
  refine wx_sub (lv' := [(0, .ref (ad c 0 0)), (3, .long d), (5, .int 0)]) [2, 1, 0] rfl ?_
  refine (loop_dn (N := (nm c)) (P := fun i => wx E H0 0 0 5 [(0, .ref (ad c 0 0)), (3, .long (foldL (s_dm c) i d)), (5, .int (nI i))] []) ?_ ?_) 0 (Nat.zero_le _)
  · refine x_iload F dX3_mixedMembers_5 2 rfl ?_
    refine x_aload_n F dX3_mixedMembers_7 0 rfl rfl ?_
    refine y_getD (c := c) (j := 0) (v := .ref (ad c 1 0)) F hR mw_109 rfl (by decide) rfl dX3_mixedMembers_8 ?_
    refine y_lsize (c := c) (k5 := 0) F hR (by decide) k_X3_65 ⟨(Nat.le_of_ble_eq_true rfl), (Nat.le_of_ble_eq_true rfl)⟩ (Nat.le_of_ble_eq_true rfl) (Nat.le_of_ble_eq_true rfl) dX3_mixedMembers_11 (Nat.le_of_ble_eq_true rfl) ?_
    refine wx_i (y := nI (nm c)) (congrArg nI (els_0 _)) ?_
    refine x_icmp_ge F dX3_mixedMembers_14 (tgt := 75) (by decide) (fun _ => ?_) (fun h1 => absurd (Int32.le_refl _) h1)
    refine x_lload_n F dX3_mixedMembers_75 1 rfl rfl ?_
    exact x_lret F hE dX3_mixedMembers_76 (Nat.le_of_ble_eq_true rfl) (Nat.le_of_ble_eq_true rfl) (⟨rfl, rfl⟩)
  · intro i hi ih5
    refine x_iload F dX3_mixedMembers_5 2 rfl ?_
    refine x_aload_n F dX3_mixedMembers_7 0 rfl rfl ?_
    refine y_getD (c := c) (j := 0) (v := .ref (ad c 1 0)) F hR mw_109 rfl (by decide) rfl dX3_mixedMembers_8 ?_
    refine y_lsize (c := c) (k5 := 0) F hR (by decide) k_X3_65 ⟨(Nat.le_of_ble_eq_true rfl), (Nat.le_of_ble_eq_true rfl)⟩ (Nat.le_of_ble_eq_true rfl) (Nat.le_of_ble_eq_true rfl) dX3_mixedMembers_11 (Nat.le_of_ble_eq_true rfl) ?_
    refine wx_i (y := nI (nm c)) (congrArg nI (els_0 _)) ?_
    refine x_icmp_ge F dX3_mixedMembers_14 (tgt := 75) (by decide) (fun h2 => absurd h2 (nI_ge hi ((bnd hR.wf).1))) (fun _ => ?_)
    refine x_aload_n F dX3_mixedMembers_17 0 rfl rfl ?_
    refine y_getD (c := c) (j := 0) (v := .ref (ad c 1 0)) F hR mw_109 rfl (by decide) rfl dX3_mixedMembers_18 ?_
    refine x_iload F dX3_mixedMembers_21 2 rfl ?_
    refine y_lget (c := c) (k5 := 0) (i := i) (e := ad c 3 i) F hR (by decide) (elg_0 hi) k_X3_188 ⟨(Nat.le_of_ble_eq_true rfl), (Nat.le_of_ble_eq_true rfl)⟩ (Nat.le_of_ble_eq_true rfl) (Nat.le_of_ble_eq_true rfl) dX3_mixedMembers_23 (Nat.le_of_ble_eq_true rfl) ?_
    refine x_castS (C := "GliderDay$Member") (T := TX2) (N := 8) F (hR.mem hi) rfl mw_219 dX3_mixedMembers_26 ?_
    refine x_astore (lv' := [(6, .ref (ad c 3 i)), (0, .ref (ad c 0 0)), (3, .long (foldL (s_dm c) i d)), (5, .int (nI i))]) F dX3_mixedMembers_29 (by decide) rfl ?_
    refine x_iconst (v := 0) F rfl dX3_mixedMembers_31 ?_
    refine x_istore (lv' := [(7, .int 0), (6, .ref (ad c 3 i)), (0, .ref (ad c 0 0)), (3, .long (foldL (s_dm c) i d)), (5, .int (nI i))]) F dX3_mixedMembers_32 (by decide) rfl ?_
    refine wx_sub (lv' := [(0, .ref (ad c 0 0)), (3, .long (foldL (s_dm c) i d)), (5, .int (nI i)), (6, .ref (ad c 3 i)), (7, .int 0)]) [2, 3, 4, 1, 0] rfl ?_
    refine (loop_dn (N := 6) (P := fun v => wx E H0 0 0 34 [(0, .ref (ad c 0 0)), (3, .long (foldL (fun w d => mixL d (s_mem c i (nI w))) v (foldL (s_dm c) i d))), (5, .int (nI i)), (6, .ref (ad c 3 i)), (7, .int (nI v))] []) ?_ ?_) 0 (Nat.zero_le _)
    · refine x_iload F dX3_mixedMembers_34 4 rfl ?_
      refine x_bipush (v := 6) F rfl dX3_mixedMembers_36 ?_
      refine x_icmp_ge F dX3_mixedMembers_38 (tgt := 59) (by decide) (fun _ => ?_) (fun h3 => absurd (Int32.le_refl _) h3)
      refine x_lload_n F dX3_mixedMembers_59 1 rfl rfl ?_
      refine x_aload F dX3_mixedMembers_60 3 rfl ?_
      refine y_getM (c := c) (i := i) (j := 7) (v := .int (cM c i 7)) F hR hi nw_226 rfl (by decide) rfl dX3_mixedMembers_62 ?_
      refine x_callSp (rest := []) F (c_X3_mixed l G A (foldL (fun w d => mixL d (s_mem c i (nI w))) 6 (foldL (s_dm c) i d)) (cM c i 7)) k_X3_240 ⟨(Nat.le_of_ble_eq_true rfl), (Nat.le_of_ble_eq_true rfl), rfl, rfl⟩ (Nat.le_of_ble_eq_true rfl) (Nat.le_of_ble_eq_true rfl) dX3_mixedMembers_65 rfl rfl (Nat.le_of_ble_eq_true rfl) trivial ?_
      refine x_lstore_n (lv' := [(3, .long (mixL (foldL (fun w d => mixL d (s_mem c i (nI w))) 6 (foldL (s_dm c) i d)) (cM c i 7))), (0, .ref (ad c 0 0)), (5, .int (nI i)), (6, .ref (ad c 3 i)), (7, .int (nI 6))]) F dX3_mixedMembers_68 rfl (by decide) rfl ?_
      refine x_iinc (j := 2) (v := nI (i + 1)) (lv' := [(5, .int (nI (i + 1))), (3, .long (mixL (foldL (fun w d => mixL d (s_mem c i (nI w))) 6 (foldL (s_dm c) i d)) (cM c i 7))), (0, .ref (ad c 0 0)), (6, .ref (ad c 3 i)), (7, .int (nI 6))]) F dX3_mixedMembers_69 rfl (nI_1 _) (by decide) rfl ?_
      refine x_goto F dX3_mixedMembers_72 (tgt := 5) (by decide) ?_
      refine wx_sub (lv' := [(0, .ref (ad c 0 0)), (3, .long (mixL (foldL (fun w d => mixL d (s_mem c i (nI w))) 6 (foldL (s_dm c) i d)) (cM c i 7))), (5, .int (nI (i + 1)))]) [2, 1, 0] rfl ?_
      refine wx_lv (lv' := [(0, .ref (ad c 0 0)), (3, .long (foldL (s_dm c) (i + 1) d)), (5, .int (nI (i + 1)))]) (rfl) ?_
      exact ih5
    · intro v hv ih34
      refine x_iload F dX3_mixedMembers_34 4 rfl ?_
      refine x_bipush (v := 6) F rfl dX3_mixedMembers_36 ?_
      refine x_icmp_ge F dX3_mixedMembers_38 (tgt := 59) (by decide) (fun h4 => absurd h4 (nI_ge hv (by decide))) (fun _ => ?_)
      refine x_lload_n F dX3_mixedMembers_41 1 rfl rfl ?_
      refine x_aload F dX3_mixedMembers_42 3 rfl ?_
      refine x_iload F dX3_mixedMembers_44 4 rfl ?_
      refine x_callSp (rest := [.long (foldL (fun w d => mixL d (s_mem c i (nI w))) v (foldL (s_dm c) i d))]) F (c_X3_memberFact l G A c i hi (nI v)) k_X3_140 ⟨(Nat.le_of_ble_eq_true rfl), (Nat.le_of_ble_eq_true rfl), rfl, rfl⟩ (Nat.le_of_ble_eq_true rfl) (Nat.le_of_ble_eq_true rfl) dX3_mixedMembers_46 rfl rfl (Nat.le_of_ble_eq_true rfl) hR ?_
      refine x_callSp (rest := []) F (c_X3_mixed l G A (foldL (fun w d => mixL d (s_mem c i (nI w))) v (foldL (s_dm c) i d)) (s_mem c i (nI v))) k_X3_240 ⟨(Nat.le_of_ble_eq_true rfl), (Nat.le_of_ble_eq_true rfl), rfl, rfl⟩ (Nat.le_of_ble_eq_true rfl) (Nat.le_of_ble_eq_true rfl) dX3_mixedMembers_49 rfl rfl (Nat.le_of_ble_eq_true rfl) trivial ?_
      refine x_lstore_n (lv' := [(3, .long (mixL (foldL (fun w d => mixL d (s_mem c i (nI w))) v (foldL (s_dm c) i d)) (s_mem c i (nI v)))), (0, .ref (ad c 0 0)), (5, .int (nI i)), (6, .ref (ad c 3 i)), (7, .int (nI v))]) F dX3_mixedMembers_52 rfl (by decide) rfl ?_
      refine x_iinc (j := 4) (v := nI (v + 1)) (lv' := [(7, .int (nI (v + 1))), (3, .long (mixL (foldL (fun w d => mixL d (s_mem c i (nI w))) v (foldL (s_dm c) i d)) (s_mem c i (nI v)))), (0, .ref (ad c 0 0)), (5, .int (nI i)), (6, .ref (ad c 3 i))]) F dX3_mixedMembers_53 rfl (nI_1 _) (by decide) rfl ?_
      refine x_goto F dX3_mixedMembers_56 (tgt := 34) (by decide) ?_
      refine wx_sub (lv' := [(0, .ref (ad c 0 0)), (3, .long (mixL (foldL (fun w d => mixL d (s_mem c i (nI w))) v (foldL (s_dm c) i d)) (s_mem c i (nI v)))), (5, .int (nI i)), (6, .ref (ad c 3 i)), (7, .int (nI (v + 1)))]) [2, 1, 3, 4, 0] rfl ?_
      refine wx_lv (lv' := [(0, .ref (ad c 0 0)), (3, .long (foldL (fun w d => mixL d (s_mem c i (nI w))) (v + 1) (foldL (s_dm c) i d))), (5, .int (nI i)), (6, .ref (ad c 3 i)), (7, .int (nI (v + 1)))]) (rfl) ?_
      exact ih34
set_option maxHeartbeats 4000000 in
set_option maxRecDepth 100000 in
theorem c_X3_mixedGliders (l : Launch) (G : GT) (A : Nat → Prop) (c : CS) (d : Int64) : Ct l yX3_mixedGliders cX3_mixedGliders 7 (some .long) ({ frames := 3, cells := 0, slots := 0, locals := 64 } : Room) G A [.ref (ad c 0 0), .long d] (fun H => Rep G A c H) (Pu (.long (foldL (s_dg c) (ng c) d))) := by
  refine ct_of (own := "GliderDay") (by decide +kernel) rfl (Nat.le_of_ble_eq_true rfl) (fun E H0 F hE hR => ?_)
  show wx E H0 0 0 0 [(0, .ref (ad c 0 0)), (1, .long d)] []
  refine x_lload_n F dX3_mixedGliders_0 1 rfl rfl ?_
  refine x_lstore_n (lv' := [(3, .long d), (0, .ref (ad c 0 0)), (1, .long d)]) F dX3_mixedGliders_1 rfl (by decide) rfl ?_
  refine x_iconst (v := 0) F rfl dX3_mixedGliders_2 ?_
  refine x_istore (lv' := [(5, .int 0), (3, .long d), (0, .ref (ad c 0 0)), (1, .long d)]) F dX3_mixedGliders_3 (by decide) rfl ?_
  refine wx_sub (lv' := [(0, .ref (ad c 0 0)), (3, .long d), (5, .int 0)]) [2, 1, 0] rfl ?_
  refine (loop_dn (N := (ng c)) (P := fun i => wx E H0 0 0 5 [(0, .ref (ad c 0 0)), (3, .long (foldL (s_dg c) i d)), (5, .int (nI i))] []) ?_ ?_) 0 (Nat.zero_le _)
  · refine x_iload F dX3_mixedGliders_5 2 rfl ?_
    refine x_aload_n F dX3_mixedGliders_7 0 rfl rfl ?_
    refine y_getD (c := c) (j := 1) (v := .ref (ad c 1 1)) F hR mw_110 rfl (by decide) rfl dX3_mixedGliders_8 ?_
    refine y_lsize (c := c) (k5 := 1) F hR (by decide) k_X3_65 ⟨(Nat.le_of_ble_eq_true rfl), (Nat.le_of_ble_eq_true rfl)⟩ (Nat.le_of_ble_eq_true rfl) (Nat.le_of_ble_eq_true rfl) dX3_mixedGliders_11 (Nat.le_of_ble_eq_true rfl) ?_
    refine wx_i (y := nI (ng c)) (congrArg nI (els_1 _)) ?_
    refine x_icmp_ge F dX3_mixedGliders_14 (tgt := 60) (by decide) (fun _ => ?_) (fun h1 => absurd (Int32.le_refl _) h1)
    refine x_lload_n F dX3_mixedGliders_60 1 rfl rfl ?_
    exact x_lret F hE dX3_mixedGliders_61 (Nat.le_of_ble_eq_true rfl) (Nat.le_of_ble_eq_true rfl) (⟨rfl, rfl⟩)
  · intro i hi ih5
    refine x_iload F dX3_mixedGliders_5 2 rfl ?_
    refine x_aload_n F dX3_mixedGliders_7 0 rfl rfl ?_
    refine y_getD (c := c) (j := 1) (v := .ref (ad c 1 1)) F hR mw_110 rfl (by decide) rfl dX3_mixedGliders_8 ?_
    refine y_lsize (c := c) (k5 := 1) F hR (by decide) k_X3_65 ⟨(Nat.le_of_ble_eq_true rfl), (Nat.le_of_ble_eq_true rfl)⟩ (Nat.le_of_ble_eq_true rfl) (Nat.le_of_ble_eq_true rfl) dX3_mixedGliders_11 (Nat.le_of_ble_eq_true rfl) ?_
    refine wx_i (y := nI (ng c)) (congrArg nI (els_1 _)) ?_
    refine x_icmp_ge F dX3_mixedGliders_14 (tgt := 60) (by decide) (fun h2 => absurd h2 (nI_ge hi ((bnd hR.wf).2.1))) (fun _ => ?_)
    refine x_iconst (v := 0) F rfl dX3_mixedGliders_17 ?_
    refine x_istore (lv' := [(6, .int 0), (0, .ref (ad c 0 0)), (3, .long (foldL (s_dg c) i d)), (5, .int (nI i))]) F dX3_mixedGliders_18 (by decide) rfl ?_
    refine wx_sub (lv' := [(0, .ref (ad c 0 0)), (3, .long (foldL (s_dg c) i d)), (5, .int (nI i)), (6, .int 0)]) [1, 2, 3, 0] rfl ?_
    refine (loop_dn (N := 5) (P := fun v => wx E H0 0 0 20 [(0, .ref (ad c 0 0)), (3, .long (foldL (fun w d => mixL d (s_gli c i (nI w))) v (foldL (s_dg c) i d))), (5, .int (nI i)), (6, .int (nI v))] []) ?_ ?_) 0 (Nat.zero_le _)
    · refine x_iload F dX3_mixedGliders_20 3 rfl ?_
      refine x_iconst (v := 5) F rfl dX3_mixedGliders_22 ?_
      refine x_icmp_ge F dX3_mixedGliders_23 (tgt := 54) (by decide) (fun _ => ?_) (fun h3 => absurd (Int32.le_refl _) h3)
      refine x_iinc (j := 2) (v := nI (i + 1)) (lv' := [(5, .int (nI (i + 1))), (0, .ref (ad c 0 0)), (3, .long (foldL (fun w d => mixL d (s_gli c i (nI w))) 5 (foldL (s_dg c) i d))), (6, .int (nI 5))]) F dX3_mixedGliders_54 rfl (nI_1 _) (by decide) rfl ?_
      refine x_goto F dX3_mixedGliders_57 (tgt := 5) (by decide) ?_
      refine wx_sub (lv' := [(0, .ref (ad c 0 0)), (3, .long (foldL (fun w d => mixL d (s_gli c i (nI w))) 5 (foldL (s_dg c) i d))), (5, .int (nI (i + 1)))]) [1, 2, 0] rfl ?_
      refine wx_lv (lv' := [(0, .ref (ad c 0 0)), (3, .long (foldL (s_dg c) (i + 1) d)), (5, .int (nI (i + 1)))]) (rfl) ?_
      exact ih5
    · intro v hv ih20
      refine x_iload F dX3_mixedGliders_20 3 rfl ?_
      refine x_iconst (v := 5) F rfl dX3_mixedGliders_22 ?_
      refine x_icmp_ge F dX3_mixedGliders_23 (tgt := 54) (by decide) (fun h4 => absurd h4 (nI_ge hv (by decide))) (fun _ => ?_)
      refine x_lload_n F dX3_mixedGliders_26 1 rfl rfl ?_
      refine x_aload_n F dX3_mixedGliders_27 0 rfl rfl ?_
      refine y_getD (c := c) (j := 1) (v := .ref (ad c 1 1)) F hR mw_110 rfl (by decide) rfl dX3_mixedGliders_28 ?_
      refine x_iload F dX3_mixedGliders_31 2 rfl ?_
      refine y_lget (c := c) (k5 := 1) (i := i) (e := ad c 4 i) F hR (by decide) (elg_1 hi) k_X3_188 ⟨(Nat.le_of_ble_eq_true rfl), (Nat.le_of_ble_eq_true rfl)⟩ (Nat.le_of_ble_eq_true rfl) (Nat.le_of_ble_eq_true rfl) dX3_mixedGliders_33 (Nat.le_of_ble_eq_true rfl) ?_
      refine x_castS (C := "GliderDay$Glider") (T := TX1) (N := 10) F (hR.gli hi) rfl mw_206 dX3_mixedGliders_36 ?_
      refine x_iload F dX3_mixedGliders_39 3 rfl ?_
      refine x_callSp (rest := [.long (foldL (fun w d => mixL d (s_gli c i (nI w))) v (foldL (s_dg c) i d))]) F (c_X3_gliderFact l G A c i hi (nI v)) k_X3_144 ⟨(Nat.le_of_ble_eq_true rfl), (Nat.le_of_ble_eq_true rfl), rfl, rfl⟩ (Nat.le_of_ble_eq_true rfl) (Nat.le_of_ble_eq_true rfl) dX3_mixedGliders_41 rfl rfl (Nat.le_of_ble_eq_true rfl) hR ?_
      refine x_callSp (rest := []) F (c_X3_mixed l G A (foldL (fun w d => mixL d (s_gli c i (nI w))) v (foldL (s_dg c) i d)) (s_gli c i (nI v))) k_X3_240 ⟨(Nat.le_of_ble_eq_true rfl), (Nat.le_of_ble_eq_true rfl), rfl, rfl⟩ (Nat.le_of_ble_eq_true rfl) (Nat.le_of_ble_eq_true rfl) dX3_mixedGliders_44 rfl rfl (Nat.le_of_ble_eq_true rfl) trivial ?_
      refine x_lstore_n (lv' := [(3, .long (mixL (foldL (fun w d => mixL d (s_gli c i (nI w))) v (foldL (s_dg c) i d)) (s_gli c i (nI v)))), (0, .ref (ad c 0 0)), (5, .int (nI i)), (6, .int (nI v))]) F dX3_mixedGliders_47 rfl (by decide) rfl ?_
      refine x_iinc (j := 3) (v := nI (v + 1)) (lv' := [(6, .int (nI (v + 1))), (3, .long (mixL (foldL (fun w d => mixL d (s_gli c i (nI w))) v (foldL (s_dg c) i d)) (s_gli c i (nI v)))), (0, .ref (ad c 0 0)), (5, .int (nI i))]) F dX3_mixedGliders_48 rfl (nI_1 _) (by decide) rfl ?_
      refine x_goto F dX3_mixedGliders_51 (tgt := 20) (by decide) ?_
      refine wx_sub (lv' := [(0, .ref (ad c 0 0)), (3, .long (mixL (foldL (fun w d => mixL d (s_gli c i (nI w))) v (foldL (s_dg c) i d)) (s_gli c i (nI v)))), (5, .int (nI i)), (6, .int (nI (v + 1)))]) [2, 1, 3, 0] rfl ?_
      refine wx_lv (lv' := [(0, .ref (ad c 0 0)), (3, .long (foldL (fun w d => mixL d (s_gli c i (nI w))) (v + 1) (foldL (s_dg c) i d))), (5, .int (nI i)), (6, .int (nI (v + 1)))]) (rfl) ?_
      exact ih20
set_option maxHeartbeats 4000000 in
set_option maxRecDepth 100000 in
theorem c_X3_mixedFlights (l : Launch) (G : GT) (A : Nat → Prop) (c : CS) (d : Int64) : Ct l yX3_mixedFlights cX3_mixedFlights 7 (some .long) ({ frames := 3, cells := 0, slots := 0, locals := 64 } : Room) G A [.ref (ad c 0 0), .long d] (fun H => Rep G A c H) (Pu (.long (foldL (s_df c) (nf c) d))) := by
  refine ct_of (own := "GliderDay") (by decide +kernel) rfl (Nat.le_of_ble_eq_true rfl) (fun E H0 F hE hR => ?_)
  show wx E H0 0 0 0 [(0, .ref (ad c 0 0)), (1, .long d)] []
  refine x_lload_n F dX3_mixedFlights_0 1 rfl rfl ?_
  refine x_lstore_n (lv' := [(3, .long d), (0, .ref (ad c 0 0)), (1, .long d)]) F dX3_mixedFlights_1 rfl (by decide) rfl ?_
  refine x_iconst (v := 0) F rfl dX3_mixedFlights_2 ?_
  refine x_istore (lv' := [(5, .int 0), (3, .long d), (0, .ref (ad c 0 0)), (1, .long d)]) F dX3_mixedFlights_3 (by decide) rfl ?_
  refine wx_sub (lv' := [(0, .ref (ad c 0 0)), (3, .long d), (5, .int 0)]) [2, 1, 0] rfl ?_
  refine (loop_dn (N := (nf c)) (P := fun i => wx E H0 0 0 5 [(0, .ref (ad c 0 0)), (3, .long (foldL (s_df c) i d)), (5, .int (nI i))] []) ?_ ?_) 0 (Nat.zero_le _)
  · refine x_iload F dX3_mixedFlights_5 2 rfl ?_
    refine x_aload_n F dX3_mixedFlights_7 0 rfl rfl ?_
    refine y_getD (c := c) (j := 2) (v := .ref (ad c 1 2)) F hR mw_111 rfl (by decide) rfl dX3_mixedFlights_8 ?_
    refine y_lsize (c := c) (k5 := 2) F hR (by decide) k_X3_65 ⟨(Nat.le_of_ble_eq_true rfl), (Nat.le_of_ble_eq_true rfl)⟩ (Nat.le_of_ble_eq_true rfl) (Nat.le_of_ble_eq_true rfl) dX3_mixedFlights_11 (Nat.le_of_ble_eq_true rfl) ?_
    refine wx_i (y := nI (nf c)) (congrArg nI (els_2 _)) ?_
    refine x_icmp_ge F dX3_mixedFlights_14 (tgt := 61) (by decide) (fun _ => ?_) (fun h1 => absurd (Int32.le_refl _) h1)
    refine x_lload_n F dX3_mixedFlights_61 1 rfl rfl ?_
    exact x_lret F hE dX3_mixedFlights_62 (Nat.le_of_ble_eq_true rfl) (Nat.le_of_ble_eq_true rfl) (⟨rfl, rfl⟩)
  · intro i hi ih5
    refine x_iload F dX3_mixedFlights_5 2 rfl ?_
    refine x_aload_n F dX3_mixedFlights_7 0 rfl rfl ?_
    refine y_getD (c := c) (j := 2) (v := .ref (ad c 1 2)) F hR mw_111 rfl (by decide) rfl dX3_mixedFlights_8 ?_
    refine y_lsize (c := c) (k5 := 2) F hR (by decide) k_X3_65 ⟨(Nat.le_of_ble_eq_true rfl), (Nat.le_of_ble_eq_true rfl)⟩ (Nat.le_of_ble_eq_true rfl) (Nat.le_of_ble_eq_true rfl) dX3_mixedFlights_11 (Nat.le_of_ble_eq_true rfl) ?_
    refine wx_i (y := nI (nf c)) (congrArg nI (els_2 _)) ?_
    refine x_icmp_ge F dX3_mixedFlights_14 (tgt := 61) (by decide) (fun h2 => absurd h2 (nI_ge hi ((bnd hR.wf).2.2.1))) (fun _ => ?_)
    refine x_iconst (v := 0) F rfl dX3_mixedFlights_17 ?_
    refine x_istore (lv' := [(6, .int 0), (0, .ref (ad c 0 0)), (3, .long (foldL (s_df c) i d)), (5, .int (nI i))]) F dX3_mixedFlights_18 (by decide) rfl ?_
    refine wx_sub (lv' := [(0, .ref (ad c 0 0)), (3, .long (foldL (s_df c) i d)), (5, .int (nI i)), (6, .int 0)]) [1, 2, 3, 0] rfl ?_
    refine (loop_dn (N := 8) (P := fun v => wx E H0 0 0 20 [(0, .ref (ad c 0 0)), (3, .long (foldL (fun w d => mixL d (s_fli c i (nI w))) v (foldL (s_df c) i d))), (5, .int (nI i)), (6, .int (nI v))] []) ?_ ?_) 0 (Nat.zero_le _)
    · refine x_iload F dX3_mixedFlights_20 3 rfl ?_
      refine x_bipush (v := 8) F rfl dX3_mixedFlights_22 ?_
      refine x_icmp_ge F dX3_mixedFlights_24 (tgt := 55) (by decide) (fun _ => ?_) (fun h3 => absurd (Int32.le_refl _) h3)
      refine x_iinc (j := 2) (v := nI (i + 1)) (lv' := [(5, .int (nI (i + 1))), (0, .ref (ad c 0 0)), (3, .long (foldL (fun w d => mixL d (s_fli c i (nI w))) 8 (foldL (s_df c) i d))), (6, .int (nI 8))]) F dX3_mixedFlights_55 rfl (nI_1 _) (by decide) rfl ?_
      refine x_goto F dX3_mixedFlights_58 (tgt := 5) (by decide) ?_
      refine wx_sub (lv' := [(0, .ref (ad c 0 0)), (3, .long (foldL (fun w d => mixL d (s_fli c i (nI w))) 8 (foldL (s_df c) i d))), (5, .int (nI (i + 1)))]) [1, 2, 0] rfl ?_
      refine wx_lv (lv' := [(0, .ref (ad c 0 0)), (3, .long (foldL (s_df c) (i + 1) d)), (5, .int (nI (i + 1)))]) (rfl) ?_
      exact ih5
    · intro v hv ih20
      refine x_iload F dX3_mixedFlights_20 3 rfl ?_
      refine x_bipush (v := 8) F rfl dX3_mixedFlights_22 ?_
      refine x_icmp_ge F dX3_mixedFlights_24 (tgt := 55) (by decide) (fun h4 => absurd h4 (nI_ge hv (by decide))) (fun _ => ?_)
      refine x_lload_n F dX3_mixedFlights_27 1 rfl rfl ?_
      refine x_aload_n F dX3_mixedFlights_28 0 rfl rfl ?_
      refine y_getD (c := c) (j := 2) (v := .ref (ad c 1 2)) F hR mw_111 rfl (by decide) rfl dX3_mixedFlights_29 ?_
      refine x_iload F dX3_mixedFlights_32 2 rfl ?_
      refine y_lget (c := c) (k5 := 2) (i := i) (e := ad c 5 i) F hR (by decide) (elg_2 hi) k_X3_188 ⟨(Nat.le_of_ble_eq_true rfl), (Nat.le_of_ble_eq_true rfl)⟩ (Nat.le_of_ble_eq_true rfl) (Nat.le_of_ble_eq_true rfl) dX3_mixedFlights_34 (Nat.le_of_ble_eq_true rfl) ?_
      refine x_castS (C := "GliderDay$Flight") (T := TX0) (N := 11) F (hR.fli hi) rfl mw_180 dX3_mixedFlights_37 ?_
      refine x_iload F dX3_mixedFlights_40 3 rfl ?_
      refine x_callSp (rest := [.long (foldL (fun w d => mixL d (s_fli c i (nI w))) v (foldL (s_df c) i d))]) F (c_X3_flightFact l G A c i hi (nI v)) k_X3_216 ⟨(Nat.le_of_ble_eq_true rfl), (Nat.le_of_ble_eq_true rfl), rfl, rfl⟩ (Nat.le_of_ble_eq_true rfl) (Nat.le_of_ble_eq_true rfl) dX3_mixedFlights_42 rfl rfl (Nat.le_of_ble_eq_true rfl) hR ?_
      refine x_callSp (rest := []) F (c_X3_mixed l G A (foldL (fun w d => mixL d (s_fli c i (nI w))) v (foldL (s_df c) i d)) (s_fli c i (nI v))) k_X3_240 ⟨(Nat.le_of_ble_eq_true rfl), (Nat.le_of_ble_eq_true rfl), rfl, rfl⟩ (Nat.le_of_ble_eq_true rfl) (Nat.le_of_ble_eq_true rfl) dX3_mixedFlights_45 rfl rfl (Nat.le_of_ble_eq_true rfl) trivial ?_
      refine x_lstore_n (lv' := [(3, .long (mixL (foldL (fun w d => mixL d (s_fli c i (nI w))) v (foldL (s_df c) i d)) (s_fli c i (nI v)))), (0, .ref (ad c 0 0)), (5, .int (nI i)), (6, .int (nI v))]) F dX3_mixedFlights_48 rfl (by decide) rfl ?_
      refine x_iinc (j := 3) (v := nI (v + 1)) (lv' := [(6, .int (nI (v + 1))), (3, .long (mixL (foldL (fun w d => mixL d (s_fli c i (nI w))) v (foldL (s_df c) i d)) (s_fli c i (nI v)))), (0, .ref (ad c 0 0)), (5, .int (nI i))]) F dX3_mixedFlights_49 rfl (nI_1 _) (by decide) rfl ?_
      refine x_goto F dX3_mixedFlights_52 (tgt := 20) (by decide) ?_
      refine wx_sub (lv' := [(0, .ref (ad c 0 0)), (3, .long (mixL (foldL (fun w d => mixL d (s_fli c i (nI w))) v (foldL (s_df c) i d)) (s_fli c i (nI v)))), (5, .int (nI i)), (6, .int (nI (v + 1)))]) [2, 1, 3, 0] rfl ?_
      refine wx_lv (lv' := [(0, .ref (ad c 0 0)), (3, .long (foldL (fun w d => mixL d (s_fli c i (nI w))) (v + 1) (foldL (s_df c) i d))), (5, .int (nI i)), (6, .int (nI (v + 1)))]) (rfl) ?_
      exact ih20
set_option maxHeartbeats 4000000 in
set_option maxRecDepth 100000 in
theorem c_X3_digest (l : Launch) (G : GT) (A : Nat → Prop) (c : CS)  : Ct l yX3_digest cX3_digest 4 (some .long) ({ frames := 5, cells := 0, slots := 0, locals := 107 } : Room) G A [.ref (ad c 0 0)] (fun H => Rep G A c H) (Pu (.long (s_dig c))) := by
  refine ct_of (own := "GliderDay") (by decide +kernel) rfl (Nat.le_of_ble_eq_true rfl) (fun E H0 F hE hR => ?_)
  show wx E H0 0 0 0 [(0, .ref (ad c 0 0))] []
  refine x_ldc2 F mw_193 dX3_digest_0 ?_
  refine x_aload_n F dX3_digest_3 0 rfl rfl ?_
  refine y_getD (c := c) (j := 9) (v := .int (cD c 9)) F hR mw_118 rfl (by decide) rfl dX3_digest_4 ?_
  refine x_callSp (rest := []) F (c_X3_mixed l G A 317 (cD c 9)) k_X3_240 ⟨(Nat.le_of_ble_eq_true rfl), (Nat.le_of_ble_eq_true rfl), rfl, rfl⟩ (Nat.le_of_ble_eq_true rfl) (Nat.le_of_ble_eq_true rfl) dX3_digest_7 rfl rfl (Nat.le_of_ble_eq_true rfl) trivial ?_
  refine x_lstore_n (lv' := [(1, .long (mixL 317 (cD c 9))), (0, .ref (ad c 0 0))]) F dX3_digest_10 rfl (by decide) rfl ?_
  refine x_iconst (v := 0) F rfl dX3_digest_11 ?_
  refine x_istore_n (lv' := [(3, .int 0), (1, .long (mixL 317 (cD c 9))), (0, .ref (ad c 0 0))]) F dX3_digest_12 rfl (by decide) rfl ?_
  refine wx_sub (lv' := [(0, .ref (ad c 0 0)), (1, .long (mixL 317 (cD c 9))), (3, .int 0)]) [2, 1, 0] rfl ?_
  refine (loop_dn (N := 8) (P := fun v => wx E H0 0 0 13 [(0, .ref (ad c 0 0)), (1, .long (foldL (fun w d => mixL d (s_cnt c (nI w))) v (mixL 317 (cD c 9)))), (3, .int (nI v))] []) ?_ ?_) 0 (Nat.zero_le _)
  · refine x_iload_n F dX3_digest_13 2 rfl rfl ?_
    refine x_bipush (v := 8) F rfl dX3_digest_14 ?_
    refine x_icmp_ge F dX3_digest_16 (tgt := 35) (by decide) (fun _ => ?_) (fun h1 => absurd (Int32.le_refl _) h1)
    refine x_aload_n F dX3_digest_35 0 rfl rfl ?_
    refine x_lload_n F dX3_digest_36 1 rfl rfl ?_
    refine x_callVp (rest := []) F hR.day rfl (c_X3_mixedMembers l G A c (foldL (fun w d => mixL d (s_cnt c (nI w))) 8 (mixL 317 (cD c 9)))) k_X3_244 ⟨(Nat.le_of_ble_eq_true rfl), (Nat.le_of_ble_eq_true rfl), rfl, rfl⟩ (Nat.le_of_ble_eq_true rfl) (Nat.le_of_ble_eq_true rfl) dX3_digest_37 rfl rfl (Nat.le_of_ble_eq_true rfl) hR ?_
    refine x_lstore_n (lv' := [(1, .long (foldL (s_dm c) (nm c) (foldL (fun w d => mixL d (s_cnt c (nI w))) 8 (mixL 317 (cD c 9))))), (0, .ref (ad c 0 0)), (3, .int (nI 8))]) F dX3_digest_40 rfl (by decide) rfl ?_
    refine x_aload_n F dX3_digest_41 1 rfl rfl ?_
    refine x_lload_n F dX3_digest_42 0 rfl rfl ?_
    refine x_callVp (rest := []) F hR.day rfl (c_X3_mixedGliders l G A c (foldL (s_dm c) (nm c) (foldL (fun w d => mixL d (s_cnt c (nI w))) 8 (mixL 317 (cD c 9))))) k_X3_248 ⟨(Nat.le_of_ble_eq_true rfl), (Nat.le_of_ble_eq_true rfl), rfl, rfl⟩ (Nat.le_of_ble_eq_true rfl) (Nat.le_of_ble_eq_true rfl) dX3_digest_43 rfl rfl (Nat.le_of_ble_eq_true rfl) hR ?_
    refine x_lstore_n (lv' := [(1, .long (foldL (s_dg c) (ng c) (foldL (s_dm c) (nm c) (foldL (fun w d => mixL d (s_cnt c (nI w))) 8 (mixL 317 (cD c 9)))))), (0, .ref (ad c 0 0)), (3, .int (nI 8))]) F dX3_digest_46 rfl (by decide) rfl ?_
    refine x_aload_n F dX3_digest_47 1 rfl rfl ?_
    refine x_lload_n F dX3_digest_48 0 rfl rfl ?_
    refine x_callVp (rest := []) F hR.day rfl (c_X3_mixedFlights l G A c (foldL (s_dg c) (ng c) (foldL (s_dm c) (nm c) (foldL (fun w d => mixL d (s_cnt c (nI w))) 8 (mixL 317 (cD c 9)))))) k_X3_251 ⟨(Nat.le_of_ble_eq_true rfl), (Nat.le_of_ble_eq_true rfl), rfl, rfl⟩ (Nat.le_of_ble_eq_true rfl) (Nat.le_of_ble_eq_true rfl) dX3_digest_49 rfl rfl (Nat.le_of_ble_eq_true rfl) hR ?_
    refine x_lstore_n (lv' := [(1, .long (foldL (s_df c) (nf c) (foldL (s_dg c) (ng c) (foldL (s_dm c) (nm c) (foldL (fun w d => mixL d (s_cnt c (nI w))) 8 (mixL 317 (cD c 9))))))), (0, .ref (ad c 0 0)), (3, .int (nI 8))]) F dX3_digest_52 rfl (by decide) rfl ?_
    refine x_iconst (v := 0) F rfl dX3_digest_53 ?_
    refine x_istore_n (lv' := [(3, .int 0), (1, .long (foldL (s_df c) (nf c) (foldL (s_dg c) (ng c) (foldL (s_dm c) (nm c) (foldL (fun w d => mixL d (s_cnt c (nI w))) 8 (mixL 317 (cD c 9))))))), (0, .ref (ad c 0 0))]) F dX3_digest_54 rfl (by decide) rfl ?_
    refine wx_sub (lv' := [(0, .ref (ad c 0 0)), (1, .long (foldL (s_df c) (nf c) (foldL (s_dg c) (ng c) (foldL (s_dm c) (nm c) (foldL (fun w d => mixL d (s_cnt c (nI w))) 8 (mixL 317 (cD c 9))))))), (3, .int 0)]) [2, 1, 0] rfl ?_
    refine (loop_dn (N := (lst c).length) (P := fun i => wx E H0 0 0 55 [(0, .ref (ad c 0 0)), (1, .long (((lst c).take i).foldl (fun d f => mixL d (nI f)) (foldL (s_df c) (nf c) (foldL (s_dg c) (ng c) (foldL (s_dm c) (nm c) (foldL (fun w d => mixL d (s_cnt c (nI w))) 8 (mixL 317 (cD c 9)))))))), (3, .int (nI i))] []) ?_ ?_) 0 (Nat.zero_le _)
    · refine x_iload_n F dX3_digest_55 2 rfl rfl ?_
      refine x_aload_n F dX3_digest_56 0 rfl rfl ?_
      refine y_getD (c := c) (j := 3) (v := .ref (ad c 1 3)) F hR mw_112 rfl (by decide) rfl dX3_digest_57 ?_
      refine y_lsize (c := c) (k5 := 3) F hR (by decide) k_X3_65 ⟨(Nat.le_of_ble_eq_true rfl), (Nat.le_of_ble_eq_true rfl)⟩ (Nat.le_of_ble_eq_true rfl) (Nat.le_of_ble_eq_true rfl) dX3_digest_60 (Nat.le_of_ble_eq_true rfl) ?_
      refine wx_i (y := nI (lst c).length) (congrArg nI (els_3 _)) ?_
      refine x_icmp_ge F dX3_digest_63 (tgt := 91) (by decide) (fun _ => ?_) (fun h2 => absurd (Int32.le_refl _) h2)
      refine wx_lv (lv' := [(0, .ref (ad c 0 0)), (1, .long (s_dig c)), (3, .int (nI (lst c).length))]) (by rw [fo_all]; rfl) ?_
      refine x_lload_n F dX3_digest_91 1 rfl rfl ?_
      exact x_lret F hE dX3_digest_92 (Nat.le_of_ble_eq_true rfl) (Nat.le_of_ble_eq_true rfl) (⟨rfl, rfl⟩)
    · intro i hi ih55
      obtain ⟨f, hf0⟩ : ∃ f, (lst c)[i]? = some f := ⟨_, List.getElem?_eq_getElem hi⟩
      have hff : f < nf c := hR.wf.2.2.2.1.1 f (List.mem_of_getElem? hf0)
      refine x_iload_n F dX3_digest_55 2 rfl rfl ?_
      refine x_aload_n F dX3_digest_56 0 rfl rfl ?_
      refine y_getD (c := c) (j := 3) (v := .ref (ad c 1 3)) F hR mw_112 rfl (by decide) rfl dX3_digest_57 ?_
      refine y_lsize (c := c) (k5 := 3) F hR (by decide) k_X3_65 ⟨(Nat.le_of_ble_eq_true rfl), (Nat.le_of_ble_eq_true rfl)⟩ (Nat.le_of_ble_eq_true rfl) (Nat.le_of_ble_eq_true rfl) dX3_digest_60 (Nat.le_of_ble_eq_true rfl) ?_
      refine wx_i (y := nI (lst c).length) (congrArg nI (els_3 _)) ?_
      refine x_icmp_ge F dX3_digest_63 (tgt := 91) (by decide) (fun h3 => absurd h3 (nI_ge hi ((bnd hR.wf).2.2.2.1))) (fun _ => ?_)
      refine x_lload_n F dX3_digest_66 1 rfl rfl ?_
      refine x_aload_n F dX3_digest_67 0 rfl rfl ?_
      refine y_getD (c := c) (j := 3) (v := .ref (ad c 1 3)) F hR mw_112 rfl (by decide) rfl dX3_digest_68 ?_
      refine x_iload_n F dX3_digest_71 2 rfl rfl ?_
      refine y_lget (c := c) (k5 := 3) (i := i) (e := ad c 5 f) F hR (by decide) (elg_3 hf0) k_X3_188 ⟨(Nat.le_of_ble_eq_true rfl), (Nat.le_of_ble_eq_true rfl)⟩ (Nat.le_of_ble_eq_true rfl) (Nat.le_of_ble_eq_true rfl) dX3_digest_72 (Nat.le_of_ble_eq_true rfl) ?_
      refine x_castS (C := "GliderDay$Flight") (T := TX0) (N := 11) F (hR.fli hff) rfl mw_180 dX3_digest_75 ?_
      refine y_getF (c := c) (i := f) (j := 0) (v := .int (nI f)) F hR hff nw_170 rfl (by decide) rfl dX3_digest_78 ?_
      refine x_callSp (rest := []) F (c_X3_mixed l G A (((lst c).take i).foldl (fun d f => mixL d (nI f)) (foldL (s_df c) (nf c) (foldL (s_dg c) (ng c) (foldL (s_dm c) (nm c) (foldL (fun w d => mixL d (s_cnt c (nI w))) 8 (mixL 317 (cD c 9))))))) (nI f)) k_X3_240 ⟨(Nat.le_of_ble_eq_true rfl), (Nat.le_of_ble_eq_true rfl), rfl, rfl⟩ (Nat.le_of_ble_eq_true rfl) (Nat.le_of_ble_eq_true rfl) dX3_digest_81 rfl rfl (Nat.le_of_ble_eq_true rfl) trivial ?_
      refine x_lstore_n (lv' := [(1, .long (mixL (((lst c).take i).foldl (fun d f => mixL d (nI f)) (foldL (s_df c) (nf c) (foldL (s_dg c) (ng c) (foldL (s_dm c) (nm c) (foldL (fun w d => mixL d (s_cnt c (nI w))) 8 (mixL 317 (cD c 9))))))) (nI f))), (0, .ref (ad c 0 0)), (3, .int (nI i))]) F dX3_digest_84 rfl (by decide) rfl ?_
      refine x_iinc (j := 2) (v := nI (i + 1)) (lv' := [(3, .int (nI (i + 1))), (1, .long (mixL (((lst c).take i).foldl (fun d f => mixL d (nI f)) (foldL (s_df c) (nf c) (foldL (s_dg c) (ng c) (foldL (s_dm c) (nm c) (foldL (fun w d => mixL d (s_cnt c (nI w))) 8 (mixL 317 (cD c 9))))))) (nI f))), (0, .ref (ad c 0 0))]) F dX3_digest_85 rfl (nI_1 _) (by decide) rfl ?_
      refine x_goto F dX3_digest_88 (tgt := 55) (by decide) ?_
      refine wx_sub (lv' := [(0, .ref (ad c 0 0)), (1, .long (mixL (((lst c).take i).foldl (fun d f => mixL d (nI f)) (foldL (s_df c) (nf c) (foldL (s_dg c) (ng c) (foldL (s_dm c) (nm c) (foldL (fun w d => mixL d (s_cnt c (nI w))) 8 (mixL 317 (cD c 9))))))) (nI f))), (3, .int (nI (i + 1)))]) [2, 1, 0] rfl ?_
      refine wx_lv (lv' := [(0, .ref (ad c 0 0)), (1, .long (((lst c).take (i + 1)).foldl (fun d f => mixL d (nI f)) (foldL (s_df c) (nf c) (foldL (s_dg c) (ng c) (foldL (s_dm c) (nm c) (foldL (fun w d => mixL d (s_cnt c (nI w))) 8 (mixL 317 (cD c 9)))))))), (3, .int (nI (i + 1)))]) (by rw [fo_snoc _ _ _ _ hf0]) ?_
      exact ih55
  · intro v hv ih13
    refine x_iload_n F dX3_digest_13 2 rfl rfl ?_
    refine x_bipush (v := 8) F rfl dX3_digest_14 ?_
    refine x_icmp_ge F dX3_digest_16 (tgt := 35) (by decide) (fun h4 => absurd h4 (nI_ge hv (by decide))) (fun _ => ?_)
    refine x_lload_n F dX3_digest_19 1 rfl rfl ?_
    refine x_aload_n F dX3_digest_20 0 rfl rfl ?_
    refine x_iload_n F dX3_digest_21 2 rfl rfl ?_
    refine x_callVp (rest := [.long (foldL (fun w d => mixL d (s_cnt c (nI w))) v (mixL 317 (cD c 9)))]) F hR.day rfl (c_X3_countOf l G A c (nI v)) k_X3_222 ⟨(Nat.le_of_ble_eq_true rfl), (Nat.le_of_ble_eq_true rfl), rfl, rfl⟩ (Nat.le_of_ble_eq_true rfl) (Nat.le_of_ble_eq_true rfl) dX3_digest_22 rfl rfl (Nat.le_of_ble_eq_true rfl) hR ?_
    refine x_callSp (rest := []) F (c_X3_mixed l G A (foldL (fun w d => mixL d (s_cnt c (nI w))) v (mixL 317 (cD c 9))) (s_cnt c (nI v))) k_X3_240 ⟨(Nat.le_of_ble_eq_true rfl), (Nat.le_of_ble_eq_true rfl), rfl, rfl⟩ (Nat.le_of_ble_eq_true rfl) (Nat.le_of_ble_eq_true rfl) dX3_digest_25 rfl rfl (Nat.le_of_ble_eq_true rfl) trivial ?_
    refine x_lstore_n (lv' := [(1, .long (mixL (foldL (fun w d => mixL d (s_cnt c (nI w))) v (mixL 317 (cD c 9))) (s_cnt c (nI v)))), (0, .ref (ad c 0 0)), (3, .int (nI v))]) F dX3_digest_28 rfl (by decide) rfl ?_
    refine x_iinc (j := 2) (v := nI (v + 1)) (lv' := [(3, .int (nI (v + 1))), (1, .long (mixL (foldL (fun w d => mixL d (s_cnt c (nI w))) v (mixL 317 (cD c 9))) (s_cnt c (nI v)))), (0, .ref (ad c 0 0))]) F dX3_digest_29 rfl (nI_1 _) (by decide) rfl ?_
    refine x_goto F dX3_digest_32 (tgt := 13) (by decide) ?_
    refine wx_sub (lv' := [(0, .ref (ad c 0 0)), (1, .long (mixL (foldL (fun w d => mixL d (s_cnt c (nI w))) v (mixL 317 (cD c 9))) (s_cnt c (nI v)))), (3, .int (nI (v + 1)))]) [2, 1, 0] rfl ?_
    refine wx_lv (lv' := [(0, .ref (ad c 0 0)), (1, .long (foldL (fun w d => mixL d (s_cnt c (nI w))) (v + 1) (mixL 317 (cD c 9)))), (3, .int (nI (v + 1)))]) (rfl) ?_
    exact ih13
set_option maxHeartbeats 4000000 in
set_option maxRecDepth 100000 in
theorem c_X3_placeOf (l : Launch) (G : GT) (A : Nat → Prop) (c : CS) (j : Nat) (hj : j < nf c) : Ct l yX3_placeOf cX3_placeOf 3 (some .int) ({ frames := 3, cells := 0, slots := 0, locals := 64 } : Room) G A [.ref (ad c 0 0), .ref (ad c 5 j)] (fun H => Rep G A c H) (Pu (.int (s_plc j (lst c) 0))) := by
  refine ct_of (own := "GliderDay") (by decide +kernel) rfl (Nat.le_of_ble_eq_true rfl) (fun E H0 F hE hR => ?_)
  show wx E H0 0 0 0 [(0, .ref (ad c 0 0)), (1, .ref (ad c 5 j))] []
  refine x_iconst (v := 0) F rfl dX3_placeOf_0 ?_
  refine x_istore_n (lv' := [(2, .int 0), (0, .ref (ad c 0 0)), (1, .ref (ad c 5 j))]) F dX3_placeOf_1 rfl (by decide) rfl ?_
  refine wx_sub (lv' := [(0, .ref (ad c 0 0)), (1, .ref (ad c 5 j)), (2, .int 0)]) [1, 2, 0] rfl ?_
  refine (loop_dn (N := (lst c).length) (P := fun i => (s_plc j ((lst c).drop i) i = s_plc j (lst c) 0) → wx E H0 0 0 2 [(0, .ref (ad c 0 0)), (1, .ref (ad c 5 j)), (2, .int (nI i))] []) ?_ ?_) 0 (Nat.zero_le _) (rfl)
  · intro hL2
    refine x_iload_n F dX3_placeOf_2 2 rfl rfl ?_
    refine x_aload_n F dX3_placeOf_3 0 rfl rfl ?_
    refine y_getD (c := c) (j := 3) (v := .ref (ad c 1 3)) F hR mw_112 rfl (by decide) rfl dX3_placeOf_4 ?_
    refine y_lsize (c := c) (k5 := 3) F hR (by decide) k_X3_65 ⟨(Nat.le_of_ble_eq_true rfl), (Nat.le_of_ble_eq_true rfl)⟩ (Nat.le_of_ble_eq_true rfl) (Nat.le_of_ble_eq_true rfl) dX3_placeOf_7 (Nat.le_of_ble_eq_true rfl) ?_
    refine wx_i (y := nI (lst c).length) (congrArg nI (els_3 _)) ?_
    refine x_icmp_ge F dX3_placeOf_10 (tgt := 33) (by decide) (fun _ => ?_) (fun h1 => absurd (Int32.le_refl _) h1)
    refine x_iconst (v := (-1)) F rfl dX3_placeOf_33 ?_
    exact x_iret F hE dX3_placeOf_34 (Nat.le_of_ble_eq_true rfl) (Nat.le_of_ble_eq_true rfl) (⟨by rw [← hL2, List.drop_length]; rfl, rfl⟩)
  · intro i hi ih2 hL2
    obtain ⟨f, hf0⟩ : ∃ f, (lst c)[i]? = some f := ⟨_, List.getElem?_eq_getElem hi⟩
    have hff : f < nf c := hR.wf.2.2.2.1.1 f (List.mem_of_getElem? hf0)
    refine x_iload_n F dX3_placeOf_2 2 rfl rfl ?_
    refine x_aload_n F dX3_placeOf_3 0 rfl rfl ?_
    refine y_getD (c := c) (j := 3) (v := .ref (ad c 1 3)) F hR mw_112 rfl (by decide) rfl dX3_placeOf_4 ?_
    refine y_lsize (c := c) (k5 := 3) F hR (by decide) k_X3_65 ⟨(Nat.le_of_ble_eq_true rfl), (Nat.le_of_ble_eq_true rfl)⟩ (Nat.le_of_ble_eq_true rfl) (Nat.le_of_ble_eq_true rfl) dX3_placeOf_7 (Nat.le_of_ble_eq_true rfl) ?_
    refine wx_i (y := nI (lst c).length) (congrArg nI (els_3 _)) ?_
    refine x_icmp_ge F dX3_placeOf_10 (tgt := 33) (by decide) (fun h2 => absurd h2 (nI_ge hi ((bnd hR.wf).2.2.2.1))) (fun _ => ?_)
    refine x_aload_n F dX3_placeOf_13 0 rfl rfl ?_
    refine y_getD (c := c) (j := 3) (v := .ref (ad c 1 3)) F hR mw_112 rfl (by decide) rfl dX3_placeOf_14 ?_
    refine x_iload_n F dX3_placeOf_17 2 rfl rfl ?_
    refine y_lget (c := c) (k5 := 3) (i := i) (e := ad c 5 f) F hR (by decide) (elg_3 hf0) k_X3_188 ⟨(Nat.le_of_ble_eq_true rfl), (Nat.le_of_ble_eq_true rfl)⟩ (Nat.le_of_ble_eq_true rfl) (Nat.le_of_ble_eq_true rfl) dX3_placeOf_18 (Nat.le_of_ble_eq_true rfl) ?_
    refine x_aload_n F dX3_placeOf_21 1 rfl rfl ?_
    refine x_acmp_ne (rx := some (ad c 5 f)) (ry := some (ad c 5 j)) F dX3_placeOf_22 (tgt := 27) (by decide) (fun hq => ?_) (fun hq => ?_)
    · have hne : ¬ f = j := fun e => hq (by rw [e])
      refine x_iinc (j := 2) (v := nI (i + 1)) (lv' := [(2, .int (nI (i + 1))), (0, .ref (ad c 0 0)), (1, .ref (ad c 5 j))]) F dX3_placeOf_27 rfl (nI_1 _) (by decide) rfl ?_
      refine x_goto F dX3_placeOf_30 (tgt := 2) (by decide) ?_
      refine wx_sub (lv' := [(0, .ref (ad c 0 0)), (1, .ref (ad c 5 j)), (2, .int (nI (i + 1)))]) [1, 2, 0] rfl ?_
      exact ih2 (by rw [← hL2, drop_at hf0]; simp [s_plc, hne])
    · have heq : f = j := (hR.injF hff hj).mp (Option.some.inj hq)
      refine x_iload_n F dX3_placeOf_25 2 rfl rfl ?_
      exact x_iret F hE dX3_placeOf_26 (Nat.le_of_ble_eq_true rfl) (Nat.le_of_ble_eq_true rfl) (⟨by rw [← hL2, drop_at hf0]; simp [s_plc, heq], rfl⟩)
set_option maxHeartbeats 4000000 in
set_option maxRecDepth 100000 in
theorem c_X3_waited (l : Launch) (G : GT) (A : Nat → Prop) (c : CS) : Ct l yX3_waited cX3_waited 5 (some .double) ({ frames := 3, cells := 0, slots := 0, locals := 64 } : Room) G A [.ref (ad c 0 0)] (fun H => Rep G A c H) (Pu (.double (s_wai c))) := by
  refine ct_of (own := "GliderDay") (by decide +kernel) rfl (Nat.le_of_ble_eq_true rfl) (fun E H0 F hE hR => ?_)
  show wx E H0 0 0 0 [(0, .ref (ad c 0 0))] []
  refine x_iconst (v := 0) F rfl dX3_waited_0 ?_
  refine x_istore_n (lv' := [(1, .int 0), (0, .ref (ad c 0 0))]) F dX3_waited_1 rfl (by decide) rfl ?_
  refine x_iconst (v := 0) F rfl dX3_waited_2 ?_
  refine x_istore_n (lv' := [(2, .int 0), (1, .int 0), (0, .ref (ad c 0 0))]) F dX3_waited_3 rfl (by decide) rfl ?_
  refine x_iconst (v := 0) F rfl dX3_waited_4 ?_
  refine x_istore_n (lv' := [(3, .int 0), (2, .int 0), (1, .int 0), (0, .ref (ad c 0 0))]) F dX3_waited_5 rfl (by decide) rfl ?_
  refine wx_sub (lv' := [(0, .ref (ad c 0 0)), (1, .int 0), (2, .int 0), (3, .int 0)]) [3, 2, 1, 0] rfl ?_
  refine (loop_dn (N := (nf c)) (P := fun i => wx E H0 0 0 6 [(0, .ref (ad c 0 0)), (1, .int (s_wb c i)), (2, .int (s_ws c i)), (3, .int (nI i))] []) ?_ ?_) 0 (Nat.zero_le _)
  · refine x_iload_n F dX3_waited_6 3 rfl rfl ?_
    refine x_aload_n F dX3_waited_7 0 rfl rfl ?_
    refine y_getD (c := c) (j := 2) (v := .ref (ad c 1 2)) F hR mw_111 rfl (by decide) rfl dX3_waited_8 ?_
    refine y_lsize (c := c) (k5 := 2) F hR (by decide) k_X3_65 ⟨(Nat.le_of_ble_eq_true rfl), (Nat.le_of_ble_eq_true rfl)⟩ (Nat.le_of_ble_eq_true rfl) (Nat.le_of_ble_eq_true rfl) dX3_waited_11 (Nat.le_of_ble_eq_true rfl) ?_
    refine wx_i (y := nI (nf c)) (congrArg nI (els_2 _)) ?_
    refine x_icmp_ge F dX3_waited_14 (tgt := 62) (by decide) (fun _ => ?_) (fun h1 => absurd (Int32.le_refl _) h1)
    refine x_iload_n F dX3_waited_62 1 rfl rfl ?_
    refine x_if_ne F dX3_waited_63 (tgt := 70) (by decide) (fun h2 => ?_) (fun h2 => ?_)
    · refine x_iload_n F dX3_waited_70 2 rfl rfl ?_
      refine x_i2d F dX3_waited_71 ?_
      refine x_iload_n F dX3_waited_72 1 rfl rfl ?_
      refine x_i2d F dX3_waited_73 ?_
      refine x_ddiv F (h2) dX3_waited_74 ?_
      exact x_dret F hE dX3_waited_75 (Nat.le_of_ble_eq_true rfl) (Nat.le_of_ble_eq_true rfl) ⟨by simp [s_wai, h2], rfl⟩
    · refine x_dconst0 F dX3_waited_66 ?_
      refine x_goto F dX3_waited_67 (tgt := 75) (by decide) ?_
      exact x_dret F hE dX3_waited_75 (Nat.le_of_ble_eq_true rfl) (Nat.le_of_ble_eq_true rfl) ⟨by simp [s_wai, h2], rfl⟩
  · intro i hi ih6
    refine x_iload_n F dX3_waited_6 3 rfl rfl ?_
    refine x_aload_n F dX3_waited_7 0 rfl rfl ?_
    refine y_getD (c := c) (j := 2) (v := .ref (ad c 1 2)) F hR mw_111 rfl (by decide) rfl dX3_waited_8 ?_
    refine y_lsize (c := c) (k5 := 2) F hR (by decide) k_X3_65 ⟨(Nat.le_of_ble_eq_true rfl), (Nat.le_of_ble_eq_true rfl)⟩ (Nat.le_of_ble_eq_true rfl) (Nat.le_of_ble_eq_true rfl) dX3_waited_11 (Nat.le_of_ble_eq_true rfl) ?_
    refine wx_i (y := nI (nf c)) (congrArg nI (els_2 _)) ?_
    refine x_icmp_ge F dX3_waited_14 (tgt := 62) (by decide) (fun h3 => absurd h3 (nI_ge hi ((bnd hR.wf).2.2.1))) (fun _ => ?_)
    refine x_aload_n F dX3_waited_17 0 rfl rfl ?_
    refine y_getD (c := c) (j := 2) (v := .ref (ad c 1 2)) F hR mw_111 rfl (by decide) rfl dX3_waited_18 ?_
    refine x_iload_n F dX3_waited_21 3 rfl rfl ?_
    refine y_lget (c := c) (k5 := 2) (i := i) (e := ad c 5 i) F hR (by decide) (elg_2 hi) k_X3_188 ⟨(Nat.le_of_ble_eq_true rfl), (Nat.le_of_ble_eq_true rfl)⟩ (Nat.le_of_ble_eq_true rfl) (Nat.le_of_ble_eq_true rfl) dX3_waited_22 (Nat.le_of_ble_eq_true rfl) ?_
    refine x_castS (C := "GliderDay$Flight") (T := TX0) (N := 11) F (hR.fli hi) rfl mw_180 dX3_waited_25 ?_
    refine x_astore (lv' := [(4, .ref (ad c 5 i)), (0, .ref (ad c 0 0)), (1, .int (s_wb c i)), (2, .int (s_ws c i)), (3, .int (nI i))]) F dX3_waited_28 (by decide) rfl ?_
    refine x_aload F dX3_waited_30 0 rfl ?_
    refine y_getF (c := c) (i := i) (j := 8) (v := .int (cF c i 8)) F hR hi nw_204 rfl (by decide) rfl dX3_waited_32 ?_
    refine x_iconst (v := (-1)) F rfl dX3_waited_35 ?_
    refine x_icmp_eq F dX3_waited_36 (tgt := 56) (by decide) (fun h4 => ?_) (fun h4 => ?_)
    · refine x_iinc (j := 4) (v := nI (i + 1)) (lv' := [(3, .int (nI (i + 1))), (4, .ref (ad c 5 i)), (0, .ref (ad c 0 0)), (1, .int (s_wb c i)), (2, .int (s_ws c i))]) F dX3_waited_56 rfl (nI_1 _) (by decide) rfl ?_
      refine x_goto F dX3_waited_59 (tgt := 6) (by decide) ?_
      refine wx_sub (lv' := [(0, .ref (ad c 0 0)), (1, .int (s_wb c i)), (2, .int (s_ws c i)), (3, .int (nI (i + 1)))]) [2, 3, 4, 0] rfl ?_
      refine wx_lv (lv' := [(0, .ref (ad c 0 0)), (1, .int (s_wb c (i + 1))), (2, .int (s_ws c (i + 1))), (3, .int (nI (i + 1)))]) (by simp [s_wb, s_ws, sumN, h4]) ?_
      exact ih6
    · refine x_iinc (j := 2) (v := (s_wb c i) + 1) (lv' := [(1, .int ((s_wb c i) + 1)), (4, .ref (ad c 5 i)), (0, .ref (ad c 0 0)), (2, .int (s_ws c i)), (3, .int (nI i))]) F dX3_waited_39 rfl rfl (by decide) rfl ?_
      refine x_iload_n F dX3_waited_42 3 rfl rfl ?_
      refine x_aload F dX3_waited_43 1 rfl ?_
      refine y_getF (c := c) (i := i) (j := 8) (v := .int (cF c i 8)) F hR hi nw_204 rfl (by decide) rfl dX3_waited_45 ?_
      refine x_aload F dX3_waited_48 1 rfl ?_
      refine y_getF (c := c) (i := i) (j := 7) (v := .int (cF c i 7)) F hR hi nw_167 rfl (by decide) rfl dX3_waited_50 ?_
      refine x_isub F dX3_waited_53 ?_
      refine x_iadd F dX3_waited_54 ?_
      refine x_istore_n (lv' := [(2, .int ((s_ws c i) + ((cF c i 8) - (cF c i 7)))), (1, .int ((s_wb c i) + 1)), (4, .ref (ad c 5 i)), (0, .ref (ad c 0 0)), (3, .int (nI i))]) F dX3_waited_55 rfl (by decide) rfl ?_
      refine x_iinc (j := 4) (v := nI (i + 1)) (lv' := [(3, .int (nI (i + 1))), (2, .int ((s_ws c i) + ((cF c i 8) - (cF c i 7)))), (1, .int ((s_wb c i) + 1)), (4, .ref (ad c 5 i)), (0, .ref (ad c 0 0))]) F dX3_waited_56 rfl (nI_1 _) (by decide) rfl ?_
      refine x_goto F dX3_waited_59 (tgt := 6) (by decide) ?_
      refine wx_sub (lv' := [(0, .ref (ad c 0 0)), (1, .int ((s_wb c i) + 1)), (2, .int ((s_ws c i) + ((cF c i 8) - (cF c i 7)))), (3, .int (nI (i + 1)))]) [4, 2, 1, 0] rfl ?_
      refine wx_lv (lv' := [(0, .ref (ad c 0 0)), (1, .int (s_wb c (i + 1))), (2, .int (s_ws c (i + 1))), (3, .int (nI (i + 1)))]) (by simp [s_wb, s_ws, sumN, h4]) ?_
      exact ih6
end CL2
