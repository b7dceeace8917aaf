/-! the day's own methods: those that change nothing -/
section CL
theorem up2_eq {f : Nat → Nat → Int32} {i j : Nat} {v : Int32} : up2 f i j v i j = v := if_pos ⟨rfl, rfl⟩
theorem els_0 (c : CS) : (els c 0).length = nm c := by show ((List.range (nm c)).map _).length = _; rw [List.length_map, List.length_range]
theorem els_1 (c : CS) : (els c 1).length = ng c := by show ((List.range (ng c)).map _).length = _; rw [List.length_map, List.length_range]
theorem els_2 (c : CS) : (els c 2).length = nf c := by show ((List.range (nf c)).map _).length = _; rw [List.length_map, List.length_range]
theorem els_3 (c : CS) : (els c 3).length = (lst c).length := List.length_map _
theorem els_4 (c : CS) : (els c 4).length = (wtg c).length := List.length_map _
theorem elg_0 {c : CS} {i : Nat} (h : i < nm c) : (els c 0)[i]? = some (ad c 3 i) := by show ((List.range (nm c)).map _)[i]? = _; rw [List.getElem?_map, List.getElem?_range h]; rfl
theorem elg_1 {c : CS} {i : Nat} (h : i < ng c) : (els c 1)[i]? = some (ad c 4 i) := by show ((List.range (ng c)).map _)[i]? = _; rw [List.getElem?_map, List.getElem?_range h]; rfl
theorem elg_2 {c : CS} {i : Nat} (h : i < nf c) : (els c 2)[i]? = some (ad c 5 i) := by show ((List.range (nf c)).map _)[i]? = _; rw [List.getElem?_map, List.getElem?_range h]; rfl
theorem elg_3 {c : CS} {i f : Nat} (h : (lst c)[i]? = some f) : (els c 3)[i]? = some (ad c 5 f) := by show ((lst c).map _)[i]? = _; rw [List.getElem?_map, h]; rfl
theorem elg_4 {c : CS} {i f : Nat} (h : (wtg c)[i]? = some f) : (els c 4)[i]? = some (ad c 4 f) := by show ((wtg c).map _)[i]? = _; rw [List.getElem?_map, h]; rfl
theorem pvM_1 (c : CS) (i : Nat) (v : Int32) : (memV c i).set 1 (.int v) = memV (sM c i 1 v) i := by
  have e : cM (sM c i 1 v) i 1 = v := if_pos ⟨rfl, rfl⟩
  unfold memV
  rw [e]
  rfl
theorem pvM_2 (c : CS) (i : Nat) (v : Int32) : (memV c i).set 2 (.int v) = memV (sM c i 2 v) i := by
  have e : cM (sM c i 2 v) i 2 = v := if_pos ⟨rfl, rfl⟩
  unfold memV
  rw [e]
  rfl
theorem pvM_3 (c : CS) (i : Nat) (v : Int32) : (memV c i).set 3 (.int v) = memV (sM c i 3 v) i := by
  have e : cM (sM c i 3 v) i 3 = v := if_pos ⟨rfl, rfl⟩
  unfold memV
  rw [e]
  rfl
theorem pvM_4 (c : CS) (i : Nat) (v : Int32) : (memV c i).set 4 (.int v) = memV (sM c i 4 v) i := by
  have e : cM (sM c i 4 v) i 4 = v := if_pos ⟨rfl, rfl⟩
  unfold memV
  rw [e]
  rfl
theorem pvM_5 (c : CS) (i : Nat) (v : Int32) : (memV c i).set 5 (.int v) = memV (sM c i 5 v) i := by
  have e : cM (sM c i 5 v) i 5 = v := if_pos ⟨rfl, rfl⟩
  unfold memV
  rw [e]
  rfl
theorem pvM_6 (c : CS) (i : Nat) (v : Int32) : (memV c i).set 6 (.int v) = memV (sM c i 6 v) i := by
  have e : cM (sM c i 6 v) i 6 = v := if_pos ⟨rfl, rfl⟩
  unfold memV
  rw [e]
  rfl
theorem pvM_7 (c : CS) (i : Nat) (v : Int32) : (memV c i).set 7 (.int v) = memV (sM c i 7 v) i := by
  have e : cM (sM c i 7 v) i 7 = v := if_pos ⟨rfl, rfl⟩
  unfold memV
  rw [e]
  rfl
theorem pvG_1 (c : CS) (i : Nat) (v : Int32) : (gliV c i).set 1 (.int v) = gliV (sG c i 1 v) i := by
  have e : cG (sG c i 1 v) i 1 = v := if_pos ⟨rfl, rfl⟩
  unfold gliV
  rw [e]
  rfl
theorem pvG_2 (c : CS) (i : Nat) (v : Int32) : (gliV c i).set 2 (.int v) = gliV (sG c i 2 v) i := by
  have e : cG (sG c i 2 v) i 2 = v := if_pos ⟨rfl, rfl⟩
  unfold gliV
  rw [e]
  rfl
theorem pvG_3 (c : CS) (i : Nat) (v : Int32) : (gliV c i).set 3 (.int v) = gliV (sG c i 3 v) i := by
  have e : cG (sG c i 3 v) i 3 = v := if_pos ⟨rfl, rfl⟩
  unfold gliV
  rw [e]
  rfl
theorem pvG_4 (c : CS) (i : Nat) (v : Int32) : (gliV c i).set 4 (.int v) = gliV (sG c i 4 v) i := by
  have e : cG (sG c i 4 v) i 4 = v := if_pos ⟨rfl, rfl⟩
  unfold gliV
  rw [e]
  rfl
theorem pvG_5 (c : CS) (i : Nat) (v : Int32) : (gliV c i).set 5 (.int v) = gliV (sG c i 5 v) i := by
  have e : cG (sG c i 5 v) i 5 = v := if_pos ⟨rfl, rfl⟩
  unfold gliV
  rw [e]
  rfl
theorem pvG_6 (c : CS) (i : Nat) (v : Int32) : (gliV c i).set 6 (.int v) = gliV (sG c i 6 v) i := by
  have e : cG (sG c i 6 v) i 6 = v := if_pos ⟨rfl, rfl⟩
  unfold gliV
  rw [e]
  rfl
theorem pvG_7 (c : CS) (i : Nat) (v : Int32) : (gliV c i).set 7 (.int v) = gliV (sG c i 7 v) i := by
  have e : cG (sG c i 7 v) i 7 = v := if_pos ⟨rfl, rfl⟩
  unfold gliV
  rw [e]
  rfl
theorem pvG_8 (c : CS) (i : Nat) (v : Int32) : (gliV c i).set 8 (.int v) = gliV (sG c i 8 v) i := by
  have e : cG (sG c i 8 v) i 8 = v := if_pos ⟨rfl, rfl⟩
  unfold gliV
  rw [e]
  rfl
theorem pvF_4 (c : CS) (i : Nat) (v : Int32) : (fliV c i).set 4 (.int v) = fliV (sF c i 4 v) i := by
  have e : cF (sF c i 4 v) i 4 = v := if_pos ⟨rfl, rfl⟩
  unfold fliV
  rw [e]
  rfl
theorem pvF_5 (c : CS) (i : Nat) (v : Int32) : (fliV c i).set 5 (.int v) = fliV (sF c i 5 v) i := by
  have e : cF (sF c i 5 v) i 5 = v := if_pos ⟨rfl, rfl⟩
  unfold fliV
  rw [e]
  rfl
theorem pvF_6 (c : CS) (i : Nat) (v : Int32) : (fliV c i).set 6 (.int v) = fliV (sF c i 6 v) i := by
  have e : cF (sF c i 6 v) i 6 = v := if_pos ⟨rfl, rfl⟩
  unfold fliV
  rw [e]
  rfl
theorem pvF_7 (c : CS) (i : Nat) (v : Int32) : (fliV c i).set 7 (.int v) = fliV (sF c i 7 v) i := by
  have e : cF (sF c i 7 v) i 7 = v := if_pos ⟨rfl, rfl⟩
  unfold fliV
  rw [e]
  rfl
theorem pvF_8 (c : CS) (i : Nat) (v : Int32) : (fliV c i).set 8 (.int v) = fliV (sF c i 8 v) i := by
  have e : cF (sF c i 8 v) i 8 = v := if_pos ⟨rfl, rfl⟩
  unfold fliV
  rw [e]
  rfl
theorem pvF_9 (c : CS) (i : Nat) (v : Int32) : (fliV c i).set 9 (.int v) = fliV (sF c i 9 v) i := by
  have e : cF (sF c i 9 v) i 9 = v := if_pos ⟨rfl, rfl⟩
  unfold fliV
  rw [e]
  rfl
theorem pvF_10 (c : CS) (i : Nat) (v : Int32) : (fliV c i).set 10 (.int v) = fliV (sF c i 10 v) i := by
  have e : cF (sF c i 10 v) i 10 = v := if_pos ⟨rfl, rfl⟩
  unfold fliV
  rw [e]
  rfl
theorem tsw {w : Int32} {n : Nat} (h : ∀ j, j ≤ n → ¬ w = nI j) (hn : n < 1000 := by decide) : w.toInt < 0 ∨ (n : Int) < w.toInt := by
  by_cases h0 : w.toInt < 0
  · exact Or.inl h0
  · refine Or.inr ?_
    by_cases h1 : (n : Int) < w.toInt
    · exact h1
    · obtain ⟨j, hj, e⟩ := vp_in_of (x := w) (n := n + 1) (vp_in_iff.mpr ⟨by omega, by omega⟩) (by omega)
      exact absurd e (h j (by omega))
theorem k_X3_54 : cwS_ "GliderDay" 54 yX3_isWithin cX3_isWithin 3 (some .boolean) 3 := ⟨mw_126, mw_127, mw_28, mw_128, ⟨by decide +kernel, by decide +kernel, by decide +kernel⟩⟩
theorem k_X3_98 : cwV_ "GliderDay" 98 "GliderDay" yX3_tugsTaken cX3_tugsTaken 3 (some .int) 0 := ⟨mw_202, mw_204, mw_1, mw_28, mw_205, ⟨by decide +kernel, by decide +kernel, by decide +kernel⟩⟩
theorem k_X3_295 : cwS_ "GliderDay" 295 yX3_hasTeacher cX3_hasTeacher 1 (some .boolean) 1 := ⟨mw_471, mw_472, mw_28, mw_473, ⟨by decide +kernel, by decide +kernel, by decide +kernel⟩⟩
theorem k_X3_302 : cwS_ "GliderDay" 302 yX3_windLimitOf cX3_windLimitOf 1 (some .int) 1 := ⟨mw_478, mw_479, mw_28, mw_480, ⟨by decide +kernel, by decide +kernel, by decide +kernel⟩⟩
theorem k_X3_103 : cwV_ "GliderDay" 103 "GliderDay" yX3_freeTugs cX3_freeTugs 1 (some .int) 0 := ⟨mw_222, mw_224, mw_2, mw_28, mw_225, ⟨by decide +kernel, by decide +kernel, by decide +kernel⟩⟩
theorem k_X3_305 : cwS_ "GliderDay" 305 yX3_hasFlyingMember cX3_hasFlyingMember 1 (some .boolean) 1 := ⟨mw_465, mw_466, mw_28, mw_467, ⟨by decide +kernel, by decide +kernel, by decide +kernel⟩⟩
theorem k_X3_311 : cwS_ "GliderDay" 311 yX3_needsTeacher cX3_needsTeacher 1 (some .boolean) 1 := ⟨mw_468, mw_469, mw_28, mw_470, ⟨by decide +kernel, by decide +kernel, by decide +kernel⟩⟩
theorem k_X3_314 : cwV_ "GliderDay" 314 "GliderDay" yX3_isTooWindyFor cX3_isTooWindyFor 3 (some .boolean) 1 := ⟨mw_474, mw_476, mw_18, mw_28, mw_477, ⟨by decide +kernel, by decide +kernel, by decide +kernel⟩⟩
theorem k_X3_317 : cwV_ "GliderDay" 317 "GliderDay" yX3_hasNothingToLaunch cX3_hasNothingToLaunch 2 (some .boolean) 1 := ⟨mw_481, mw_483, mw_19, mw_28, mw_484, ⟨by decide +kernel, by decide +kernel, by decide +kernel⟩⟩
theorem k_X3_320 : cwV_ "GliderDay" 320 "GliderDay" yX3_isBusy cX3_isBusy 1 (some .boolean) 0 := ⟨mw_422, mw_423, mw_424, mw_28, mw_425, ⟨by decide +kernel, by decide +kernel, by decide +kernel⟩⟩
set_option maxHeartbeats 4000000 in
set_option maxRecDepth 100000 in
theorem c_X3_isWithin (l : Launch) (G : GT) (A : Nat → Prop) (x a b : Int32) : Ct l yX3_isWithin cX3_isWithin 3 (some .boolean) ({ frames := 0, cells := 0, slots := 0, locals := 0 } : Room) G A [.int x, .int a, .int b] (fun H => True) (Pu (.int (bI (a ≤ x ∧ x ≤ b)))) := by
  refine ct_of (own := "GliderDay") (by decide +kernel) rfl (Nat.le_of_ble_eq_true rfl) (fun E H0 F hE _ => ?_)
  show wx E H0 0 0 0 [(0, .int x), (1, .int a), (2, .int b)] []
  refine x_iload_n F dX3_isWithin_0 0 rfl rfl ?_
  refine x_iload_n F dX3_isWithin_1 1 rfl rfl ?_
  refine x_icmp_lt F dX3_isWithin_2 (tgt := 14) (by decide) (fun h1 => ?_) (fun h1 => ?_)
  · have h1' := Int32.not_le.mpr h1
    refine x_iconst (v := 0) F rfl dX3_isWithin_14 ?_
    exact x_zret F rfl hE dX3_isWithin_15 (Nat.le_of_ble_eq_true rfl) (Nat.le_of_ble_eq_true rfl) (⟨by rw [bI_f (by simp [h1, h1'])], rfl⟩)
  · have h1' := Int32.not_lt.mp h1
    refine x_iload_n F dX3_isWithin_5 0 rfl rfl ?_
    refine x_iload_n F dX3_isWithin_6 2 rfl rfl ?_
    refine x_icmp_gt F dX3_isWithin_7 (tgt := 14) (by decide) (fun h2 => ?_) (fun h2 => ?_)
    · have h2' := Int32.not_le.mpr h2
      refine x_iconst (v := 0) F rfl dX3_isWithin_14 ?_
      exact x_zret F rfl hE dX3_isWithin_15 (Nat.le_of_ble_eq_true rfl) (Nat.le_of_ble_eq_true rfl) (⟨by rw [bI_f (by simp [h1, h1', h2, h2'])], rfl⟩)
    · have h2' := Int32.not_lt.mp h2
      refine x_iconst (v := 1) F rfl dX3_isWithin_10 ?_
      refine x_goto F dX3_isWithin_11 (tgt := 15) (by decide) ?_
      exact x_zret F rfl hE dX3_isWithin_15 (Nat.le_of_ble_eq_true rfl) (Nat.le_of_ble_eq_true rfl) (⟨by rw [bI_t (by simp [h1, h1', h2, h2'])], rfl⟩)
set_option maxHeartbeats 4000000 in
set_option maxRecDepth 100000 in
theorem c_X3_isHeight (l : Launch) (G : GT) (A : Nat → Prop) (x : Int32) : Ct l yX3_isHeight cX3_isHeight 1 (some .boolean) ({ frames := 1, cells := 0, slots := 0, locals := 22 } : Room) G A [.int x] (fun H => True) (Pu (.int (bI (x = 0 ∨ (200 ≤ x ∧ x ≤ 1500))))) := by
  refine ct_of (own := "GliderDay") (by decide +kernel) rfl (Nat.le_of_ble_eq_true rfl) (fun E H0 F hE _ => ?_)
  show wx E H0 0 0 0 [(0, .int x)] []
  refine x_iload_n F dX3_isHeight_0 0 rfl rfl ?_
  refine x_if_eq F dX3_isHeight_1 (tgt := 17) (by decide) (fun h1 => ?_) (fun h1 => ?_)
  · refine x_iconst (v := 1) F rfl dX3_isHeight_17 ?_
    refine x_goto F dX3_isHeight_18 (tgt := 22) (by decide) ?_
    exact x_zret F rfl hE dX3_isHeight_22 (Nat.le_of_ble_eq_true rfl) (Nat.le_of_ble_eq_true rfl) (⟨by rw [bI_t (by simp [h1])], rfl⟩)
  · refine x_iload_n F dX3_isHeight_4 0 rfl rfl ?_
    refine x_sipush (v := 200) F rfl dX3_isHeight_5 ?_
    refine x_sipush (v := 1500) F rfl dX3_isHeight_8 ?_
    refine x_callSp (rest := []) F (c_X3_isWithin l G A x 200 1500) k_X3_54 ⟨(Nat.le_of_ble_eq_true rfl), (Nat.le_of_ble_eq_true rfl), rfl, rfl⟩ (Nat.le_of_ble_eq_true rfl) (Nat.le_of_ble_eq_true rfl) dX3_isHeight_11 rfl rfl (Nat.le_of_ble_eq_true rfl) trivial ?_
    refine x_if_eq F dX3_isHeight_14 (tgt := 21) (by decide) (fun h2 => ?_) (fun h2 => ?_)
    · replace h2 := bI_0.mp h2
      refine x_iconst (v := 0) F rfl dX3_isHeight_21 ?_
      exact x_zret F rfl hE dX3_isHeight_22 (Nat.le_of_ble_eq_true rfl) (Nat.le_of_ble_eq_true rfl) (⟨by rw [bI_f (by simp [h1, h2])], rfl⟩)
    · replace h2 := bI_ne.mp h2
      refine x_iconst (v := 1) F rfl dX3_isHeight_17 ?_
      refine x_goto F dX3_isHeight_18 (tgt := 22) (by decide) ?_
      exact x_zret F rfl hE dX3_isHeight_22 (Nat.le_of_ble_eq_true rfl) (Nat.le_of_ble_eq_true rfl) (⟨by rw [bI_t (by simp [h1, h2])], rfl⟩)
set_option maxHeartbeats 4000000 in
set_option maxRecDepth 100000 in
theorem c_X3_tugsTaken (l : Launch) (G : GT) (A : Nat → Prop) (c : CS)  : Ct l yX3_tugsTaken cX3_tugsTaken 3 (some .int) ({ frames := 0, cells := 0, slots := 0, locals := 0 } : Room) G A [.ref (ad c 0 0)] (fun H => Rep G A c H) (Pu (.int (s_tk c))) := by
  refine ct_of (own := "GliderDay") (by decide +kernel) rfl (Nat.le_of_ble_eq_true rfl) (fun E H0 F hE hR => ?_)
  show wx E H0 0 0 0 [(0, .ref (ad c 0 0))] []
  refine x_iconst (v := 0) F rfl dX3_tugsTaken_0 ?_
  refine x_istore_n (lv' := [(1, .int 0), (0, .ref (ad c 0 0))]) F dX3_tugsTaken_1 rfl (by decide) rfl ?_
  refine x_iconst (v := 0) F rfl dX3_tugsTaken_2 ?_
  refine x_istore_n (lv' := [(2, .int 0), (1, .int 0), (0, .ref (ad c 0 0))]) F dX3_tugsTaken_3 rfl (by decide) rfl ?_
  refine x_iload_n F dX3_tugsTaken_4 0 rfl rfl ?_
  refine x_aload_n F dX3_tugsTaken_5 2 rfl rfl ?_
  refine y_getD (c := c) (j := 5) (v := .ref (ad c 2 0)) F hR mw_86 rfl (by decide) rfl dX3_tugsTaken_6 ?_
  refine y_lenT (c := c) F hR dX3_tugsTaken_9 ?_
  refine x_icmp_ge F dX3_tugsTaken_10 (tgt := 31) (by decide) (fun h1 => absurd h1 (by decide)) (fun _ => ?_)
  refine x_aload_n F dX3_tugsTaken_13 2 rfl rfl ?_
  refine y_getD (c := c) (j := 5) (v := .ref (ad c 2 0)) F hR mw_86 rfl (by decide) rfl dX3_tugsTaken_14 ?_
  refine x_iload_n F dX3_tugsTaken_17 0 rfl rfl ?_
  refine y_ildT (c := c) (i := 0) (v := cD c 13) F hR (by decide) dX3_tugsTaken_18 rfl ?_
  refine x_if_eq F dX3_tugsTaken_19 (tgt := 25) (by decide) (fun h2 => ?_) (fun h2 => ?_)
  · refine x_iinc (j := 0) (v := 1) (lv' := [(2, .int 1), (1, .int 0), (0, .ref (ad c 0 0))]) F dX3_tugsTaken_25 rfl (by decide) (by decide) rfl ?_
    refine x_goto F dX3_tugsTaken_28 (tgt := 4) (by decide) ?_
    refine x_iload_n F dX3_tugsTaken_4 0 rfl rfl ?_
    refine x_aload_n F dX3_tugsTaken_5 2 rfl rfl ?_
    refine y_getD (c := c) (j := 5) (v := .ref (ad c 2 0)) F hR mw_86 rfl (by decide) rfl dX3_tugsTaken_6 ?_
    refine y_lenT (c := c) F hR dX3_tugsTaken_9 ?_
    refine x_icmp_ge F dX3_tugsTaken_10 (tgt := 31) (by decide) (fun h3 => absurd h3 (by decide)) (fun _ => ?_)
    refine x_aload_n F dX3_tugsTaken_13 2 rfl rfl ?_
    refine y_getD (c := c) (j := 5) (v := .ref (ad c 2 0)) F hR mw_86 rfl (by decide) rfl dX3_tugsTaken_14 ?_
    refine x_iload_n F dX3_tugsTaken_17 0 rfl rfl ?_
    refine y_ildT (c := c) (i := 1) (v := cD c 14) F hR (by decide) dX3_tugsTaken_18 rfl ?_
    refine x_if_eq F dX3_tugsTaken_19 (tgt := 25) (by decide) (fun h4 => ?_) (fun h4 => ?_)
    · refine x_iinc (j := 0) (v := 2) (lv' := [(2, .int 2), (1, .int 0), (0, .ref (ad c 0 0))]) F dX3_tugsTaken_25 rfl (by decide) (by decide) rfl ?_
      refine x_goto F dX3_tugsTaken_28 (tgt := 4) (by decide) ?_
      refine x_iload_n F dX3_tugsTaken_4 0 rfl rfl ?_
      refine x_aload_n F dX3_tugsTaken_5 2 rfl rfl ?_
      refine y_getD (c := c) (j := 5) (v := .ref (ad c 2 0)) F hR mw_86 rfl (by decide) rfl dX3_tugsTaken_6 ?_
      refine y_lenT (c := c) F hR dX3_tugsTaken_9 ?_
      refine x_icmp_ge F dX3_tugsTaken_10 (tgt := 31) (by decide) (fun _ => ?_) (fun h5 => absurd (by decide) h5)
      refine x_iload_n F dX3_tugsTaken_31 1 rfl rfl ?_
      exact x_iret F hE dX3_tugsTaken_32 (Nat.le_of_ble_eq_true rfl) (Nat.le_of_ble_eq_true rfl) (⟨by simp [s_tk, h2, h4], rfl⟩)
    · refine x_iinc (j := 1) (v := 1) (lv' := [(1, .int 1), (2, .int 1), (0, .ref (ad c 0 0))]) F dX3_tugsTaken_22 rfl (by decide) (by decide) rfl ?_
      refine x_iinc (j := 1) (v := 2) (lv' := [(2, .int 2), (1, .int 1), (0, .ref (ad c 0 0))]) F dX3_tugsTaken_25 rfl (by decide) (by decide) rfl ?_
      refine x_goto F dX3_tugsTaken_28 (tgt := 4) (by decide) ?_
      refine x_iload_n F dX3_tugsTaken_4 0 rfl rfl ?_
      refine x_aload_n F dX3_tugsTaken_5 2 rfl rfl ?_
      refine y_getD (c := c) (j := 5) (v := .ref (ad c 2 0)) F hR mw_86 rfl (by decide) rfl dX3_tugsTaken_6 ?_
      refine y_lenT (c := c) F hR dX3_tugsTaken_9 ?_
      refine x_icmp_ge F dX3_tugsTaken_10 (tgt := 31) (by decide) (fun _ => ?_) (fun h6 => absurd (by decide) h6)
      refine x_iload_n F dX3_tugsTaken_31 1 rfl rfl ?_
      exact x_iret F hE dX3_tugsTaken_32 (Nat.le_of_ble_eq_true rfl) (Nat.le_of_ble_eq_true rfl) (⟨by simp [s_tk, h2, h4], rfl⟩)
  · refine x_iinc (j := 1) (v := 1) (lv' := [(1, .int 1), (2, .int 0), (0, .ref (ad c 0 0))]) F dX3_tugsTaken_22 rfl (by decide) (by decide) rfl ?_
    refine x_iinc (j := 1) (v := 1) (lv' := [(2, .int 1), (1, .int 1), (0, .ref (ad c 0 0))]) F dX3_tugsTaken_25 rfl (by decide) (by decide) rfl ?_
    refine x_goto F dX3_tugsTaken_28 (tgt := 4) (by decide) ?_
    refine x_iload_n F dX3_tugsTaken_4 0 rfl rfl ?_
    refine x_aload_n F dX3_tugsTaken_5 2 rfl rfl ?_
    refine y_getD (c := c) (j := 5) (v := .ref (ad c 2 0)) F hR mw_86 rfl (by decide) rfl dX3_tugsTaken_6 ?_
    refine y_lenT (c := c) F hR dX3_tugsTaken_9 ?_
    refine x_icmp_ge F dX3_tugsTaken_10 (tgt := 31) (by decide) (fun h7 => absurd h7 (by decide)) (fun _ => ?_)
    refine x_aload_n F dX3_tugsTaken_13 2 rfl rfl ?_
    refine y_getD (c := c) (j := 5) (v := .ref (ad c 2 0)) F hR mw_86 rfl (by decide) rfl dX3_tugsTaken_14 ?_
    refine x_iload_n F dX3_tugsTaken_17 0 rfl rfl ?_
    refine y_ildT (c := c) (i := 1) (v := cD c 14) F hR (by decide) dX3_tugsTaken_18 rfl ?_
    refine x_if_eq F dX3_tugsTaken_19 (tgt := 25) (by decide) (fun h8 => ?_) (fun h8 => ?_)
    · refine x_iinc (j := 0) (v := 2) (lv' := [(2, .int 2), (1, .int 1), (0, .ref (ad c 0 0))]) F dX3_tugsTaken_25 rfl (by decide) (by decide) rfl ?_
      refine x_goto F dX3_tugsTaken_28 (tgt := 4) (by decide) ?_
      refine x_iload_n F dX3_tugsTaken_4 0 rfl rfl ?_
      refine x_aload_n F dX3_tugsTaken_5 2 rfl rfl ?_
      refine y_getD (c := c) (j := 5) (v := .ref (ad c 2 0)) F hR mw_86 rfl (by decide) rfl dX3_tugsTaken_6 ?_
      refine y_lenT (c := c) F hR dX3_tugsTaken_9 ?_
      refine x_icmp_ge F dX3_tugsTaken_10 (tgt := 31) (by decide) (fun _ => ?_) (fun h9 => absurd (by decide) h9)
      refine x_iload_n F dX3_tugsTaken_31 1 rfl rfl ?_
      exact x_iret F hE dX3_tugsTaken_32 (Nat.le_of_ble_eq_true rfl) (Nat.le_of_ble_eq_true rfl) (⟨by simp [s_tk, h2, h8], rfl⟩)
    · refine x_iinc (j := 1) (v := 2) (lv' := [(1, .int 2), (2, .int 1), (0, .ref (ad c 0 0))]) F dX3_tugsTaken_22 rfl (by decide) (by decide) rfl ?_
      refine x_iinc (j := 1) (v := 2) (lv' := [(2, .int 2), (1, .int 2), (0, .ref (ad c 0 0))]) F dX3_tugsTaken_25 rfl (by decide) (by decide) rfl ?_
      refine x_goto F dX3_tugsTaken_28 (tgt := 4) (by decide) ?_
      refine x_iload_n F dX3_tugsTaken_4 0 rfl rfl ?_
      refine x_aload_n F dX3_tugsTaken_5 2 rfl rfl ?_
      refine y_getD (c := c) (j := 5) (v := .ref (ad c 2 0)) F hR mw_86 rfl (by decide) rfl dX3_tugsTaken_6 ?_
      refine y_lenT (c := c) F hR dX3_tugsTaken_9 ?_
      refine x_icmp_ge F dX3_tugsTaken_10 (tgt := 31) (by decide) (fun _ => ?_) (fun h10 => absurd (by decide) h10)
      refine x_iload_n F dX3_tugsTaken_31 1 rfl rfl ?_
      exact x_iret F hE dX3_tugsTaken_32 (Nat.le_of_ble_eq_true rfl) (Nat.le_of_ble_eq_true rfl) (⟨by simp [s_tk, h2, h8], rfl⟩)
set_option maxHeartbeats 4000000 in
set_option maxRecDepth 100000 in
theorem c_X3_freeTugs (l : Launch) (G : GT) (A : Nat → Prop) (c : CS)  : Ct l yX3_freeTugs cX3_freeTugs 1 (some .int) ({ frames := 1, cells := 0, slots := 0, locals := 22 } : Room) G A [.ref (ad c 0 0)] (fun H => Rep G A c H) (Pu (.int (s_ft c))) := by
  refine ct_of (own := "GliderDay") (by decide +kernel) rfl (Nat.le_of_ble_eq_true rfl) (fun E H0 F hE hR => ?_)
  show wx E H0 0 0 0 [(0, .ref (ad c 0 0))] []
  refine x_aload_n F dX3_freeTugs_0 0 rfl rfl ?_
  refine y_getD (c := c) (j := 6) (v := .int (cD c 6)) F hR mw_87 rfl (by decide) rfl dX3_freeTugs_1 ?_
  refine x_aload_n F dX3_freeTugs_4 0 rfl rfl ?_
  refine x_callVp (rest := [.int (cD c 6)]) F hR.day rfl (c_X3_tugsTaken l G A c ) k_X3_98 ⟨(Nat.le_of_ble_eq_true rfl), (Nat.le_of_ble_eq_true rfl), rfl, rfl⟩ (Nat.le_of_ble_eq_true rfl) (Nat.le_of_ble_eq_true rfl) dX3_freeTugs_5 rfl rfl (Nat.le_of_ble_eq_true rfl) hR ?_
  refine x_isub F dX3_freeTugs_8 ?_
  exact x_iret F hE dX3_freeTugs_9 (Nat.le_of_ble_eq_true rfl) (Nat.le_of_ble_eq_true rfl) (⟨rfl, rfl⟩)
set_option maxHeartbeats 4000000 in
set_option maxRecDepth 100000 in
theorem c_X3_isBusy (l : Launch) (G : GT) (A : Nat → Prop) (c : CS)  : Ct l yX3_isBusy cX3_isBusy 1 (some .boolean) ({ frames := 0, cells := 0, slots := 0, locals := 0 } : Room) G A [.ref (ad c 0 0)] (fun H => Rep G A c H) (Pu (.int (bI (cD c 9 < cD c 12)))) := by
  refine ct_of (own := "GliderDay") (by decide +kernel) rfl (Nat.le_of_ble_eq_true rfl) (fun E H0 F hE hR => ?_)
  show wx E H0 0 0 0 [(0, .ref (ad c 0 0))] []
  refine x_aload_n F dX3_isBusy_0 0 rfl rfl ?_
  refine y_getD (c := c) (j := 9) (v := .int (cD c 9)) F hR mw_90 rfl (by decide) rfl dX3_isBusy_1 ?_
  refine x_aload_n F dX3_isBusy_4 0 rfl rfl ?_
  refine y_getD (c := c) (j := 12) (v := .int (cD c 12)) F hR mw_93 rfl (by decide) rfl dX3_isBusy_5 ?_
  refine x_icmp_ge F dX3_isBusy_8 (tgt := 15) (by decide) (fun h1 => ?_) (fun h1 => ?_)
  · have h1' := Int32.not_lt.mpr h1
    refine x_iconst (v := 0) F rfl dX3_isBusy_15 ?_
    exact x_zret F rfl hE dX3_isBusy_16 (Nat.le_of_ble_eq_true rfl) (Nat.le_of_ble_eq_true rfl) (⟨by rw [bI_f (by first | (simp [h1, h1']; done) | (exfalso; simp_all; done))], rfl⟩)
  · have h1' := Int32.not_le.mp h1
    refine x_iconst (v := 1) F rfl dX3_isBusy_11 ?_
    refine x_goto F dX3_isBusy_12 (tgt := 16) (by decide) ?_
    exact x_zret F rfl hE dX3_isBusy_16 (Nat.le_of_ble_eq_true rfl) (Nat.le_of_ble_eq_true rfl) (⟨by rw [bI_t (by first | (simp [h1, h1']; done) | (exfalso; simp_all; done))], rfl⟩)
set_option maxHeartbeats 4000000 in
set_option maxRecDepth 100000 in
theorem c_X3_memberFact (l : Launch) (G : GT) (A : Nat → Prop) (c : CS) (i : Nat) (hi : i < nm c) (w : Int32) : Ct l yX3_memberFact cX3_memberFact 2 (some .int) ({ frames := 0, cells := 0, slots := 0, locals := 0 } : Room) G A [.ref (ad c 3 i), .int w] (fun H => Rep G A c H) (Pu (.int (s_mem c i w))) := by
  refine ct_of (own := "GliderDay") (by decide +kernel) rfl (Nat.le_of_ble_eq_true rfl) (fun E H0 F hE hR => ?_)
  show wx E H0 0 0 0 [(0, .ref (ad c 3 i)), (1, .int w)] []
  refine x_iload_n F dX3_memberFact_0 1 rfl rfl ?_
  by_cases hw1 : w = 0
  · rw [hw1]
    refine x_tableIn (off := 35) (tgt := 36) F dX3_memberFact_1 (by decide) (by decide) rfl (by decide) ?_
    refine x_aload_n F dX3_memberFact_36 0 rfl rfl ?_
    refine y_getM (c := c) (i := i) (j := 1) (v := .int (cM c i 1)) F hR hi nw_132 rfl (by decide) rfl dX3_memberFact_37 ?_
    exact x_iret F hE dX3_memberFact_40 (Nat.le_of_ble_eq_true rfl) (Nat.le_of_ble_eq_true rfl) (⟨by simp [s_mem, hw1], rfl⟩)
  by_cases hw2 : w = 1
  · rw [hw2]
    refine x_tableIn (off := 40) (tgt := 41) F dX3_memberFact_1 (by decide) (by decide) rfl (by decide) ?_
    refine x_aload_n F dX3_memberFact_41 0 rfl rfl ?_
    refine y_getM (c := c) (i := i) (j := 2) (v := .int (cM c i 2)) F hR hi nw_123 rfl (by decide) rfl dX3_memberFact_42 ?_
    refine x_if_eq F dX3_memberFact_45 (tgt := 52) (by decide) (fun h3 => ?_) (fun h3 => ?_)
    · refine x_iconst (v := 0) F rfl dX3_memberFact_52 ?_
      exact x_iret F hE dX3_memberFact_53 (Nat.le_of_ble_eq_true rfl) (Nat.le_of_ble_eq_true rfl) (⟨by simp [s_mem, hw1, hw2, h3], rfl⟩)
    · refine x_iconst (v := 1) F rfl dX3_memberFact_48 ?_
      refine x_goto F dX3_memberFact_49 (tgt := 53) (by decide) ?_
      exact x_iret F hE dX3_memberFact_53 (Nat.le_of_ble_eq_true rfl) (Nat.le_of_ble_eq_true rfl) (⟨by simp [s_mem, hw1, hw2, h3], rfl⟩)
  by_cases hw4 : w = 2
  · rw [hw4]
    refine x_tableIn (off := 53) (tgt := 54) F dX3_memberFact_1 (by decide) (by decide) rfl (by decide) ?_
    refine x_aload_n F dX3_memberFact_54 0 rfl rfl ?_
    refine y_getM (c := c) (i := i) (j := 3) (v := .int (cM c i 3)) F hR hi nw_267 rfl (by decide) rfl dX3_memberFact_55 ?_
    exact x_iret F hE dX3_memberFact_58 (Nat.le_of_ble_eq_true rfl) (Nat.le_of_ble_eq_true rfl) (⟨by simp [s_mem, hw1, hw2, hw4], rfl⟩)
  by_cases hw5 : w = 3
  · rw [hw5]
    refine x_tableIn (off := 58) (tgt := 59) F dX3_memberFact_1 (by decide) (by decide) rfl (by decide) ?_
    refine x_aload_n F dX3_memberFact_59 0 rfl rfl ?_
    refine y_getM (c := c) (i := i) (j := 4) (v := .int (cM c i 4)) F hR hi nw_270 rfl (by decide) rfl dX3_memberFact_60 ?_
    exact x_iret F hE dX3_memberFact_63 (Nat.le_of_ble_eq_true rfl) (Nat.le_of_ble_eq_true rfl) (⟨by simp [s_mem, hw1, hw2, hw4, hw5], rfl⟩)
  by_cases hw6 : w = 4
  · rw [hw6]
    refine x_tableIn (off := 63) (tgt := 64) F dX3_memberFact_1 (by decide) (by decide) rfl (by decide) ?_
    refine x_aload_n F dX3_memberFact_64 0 rfl rfl ?_
    refine y_getM (c := c) (i := i) (j := 5) (v := .int (cM c i 5)) F hR hi nw_271 rfl (by decide) rfl dX3_memberFact_65 ?_
    exact x_iret F hE dX3_memberFact_68 (Nat.le_of_ble_eq_true rfl) (Nat.le_of_ble_eq_true rfl) (⟨by simp [s_mem, hw1, hw2, hw4, hw5, hw6], rfl⟩)
  refine x_tableOut (tgt := 69) F dX3_memberFact_1 (tsw (n := 4) (fun j hj => match j, hj with | 0, _ => hw1 | 1, _ => hw2 | 2, _ => hw4 | 3, _ => hw5 | 4, _ => hw6 | j + 5, hj => absurd hj (by omega))) (by decide) ?_
  refine x_aload_n F dX3_memberFact_69 0 rfl rfl ?_
  refine y_getM (c := c) (i := i) (j := 6) (v := .int (cM c i 6)) F hR hi nw_274 rfl (by decide) rfl dX3_memberFact_70 ?_
  exact x_iret F hE dX3_memberFact_73 (Nat.le_of_ble_eq_true rfl) (Nat.le_of_ble_eq_true rfl) (⟨by simp [s_mem, hw1, hw2, hw4, hw5, hw6], rfl⟩)
set_option maxHeartbeats 4000000 in
set_option maxRecDepth 100000 in
theorem c_X3_gliderFact (l : Launch) (G : GT) (A : Nat → Prop) (c : CS) (i : Nat) (hi : i < ng c) (w : Int32) : Ct l yX3_gliderFact cX3_gliderFact 2 (some .int) ({ frames := 0, cells := 0, slots := 0, locals := 0 } : Room) G A [.ref (ad c 4 i), .int w] (fun H => Rep G A c H) (Pu (.int (s_gli c i w))) := by
  refine ct_of (own := "GliderDay") (by decide +kernel) rfl (Nat.le_of_ble_eq_true rfl) (fun E H0 F hE hR => ?_)
  show wx E H0 0 0 0 [(0, .ref (ad c 4 i)), (1, .int w)] []
  refine x_iload_n F dX3_gliderFact_0 1 rfl rfl ?_
  by_cases hw1 : w = 0
  · rw [hw1]
    refine x_tableIn (off := 31) (tgt := 32) F dX3_gliderFact_1 (by decide) (by decide) rfl (by decide) ?_
    refine x_aload_n F dX3_gliderFact_32 0 rfl rfl ?_
    refine y_getG (c := c) (i := i) (j := 4) (v := .int (cG c i 4)) F hR hi nw_110 rfl (by decide) rfl dX3_gliderFact_33 ?_
    exact x_iret F hE dX3_gliderFact_36 (Nat.le_of_ble_eq_true rfl) (Nat.le_of_ble_eq_true rfl) (⟨by simp [s_gli, hw1], rfl⟩)
  by_cases hw2 : w = 1
  · rw [hw2]
    refine x_tableIn (off := 36) (tgt := 37) F dX3_gliderFact_1 (by decide) (by decide) rfl (by decide) ?_
    refine x_aload_n F dX3_gliderFact_37 0 rfl rfl ?_
    refine y_getG (c := c) (i := i) (j := 5) (v := .int (cG c i 5)) F hR hi nw_115 rfl (by decide) rfl dX3_gliderFact_38 ?_
    refine x_if_eq F dX3_gliderFact_41 (tgt := 48) (by decide) (fun h3 => ?_) (fun h3 => ?_)
    · refine x_iconst (v := 0) F rfl dX3_gliderFact_48 ?_
      exact x_iret F hE dX3_gliderFact_49 (Nat.le_of_ble_eq_true rfl) (Nat.le_of_ble_eq_true rfl) (⟨by simp [s_gli, hw1, hw2, h3], rfl⟩)
    · refine x_iconst (v := 1) F rfl dX3_gliderFact_44 ?_
      refine x_goto F dX3_gliderFact_45 (tgt := 49) (by decide) ?_
      exact x_iret F hE dX3_gliderFact_49 (Nat.le_of_ble_eq_true rfl) (Nat.le_of_ble_eq_true rfl) (⟨by simp [s_gli, hw1, hw2, h3], rfl⟩)
  by_cases hw4 : w = 2
  · rw [hw4]
    refine x_tableIn (off := 49) (tgt := 50) F dX3_gliderFact_1 (by decide) (by decide) rfl (by decide) ?_
    refine x_aload_n F dX3_gliderFact_50 0 rfl rfl ?_
    refine y_getG (c := c) (i := i) (j := 7) (v := .int (cG c i 7)) F hR hi nw_277 rfl (by decide) rfl dX3_gliderFact_51 ?_
    exact x_iret F hE dX3_gliderFact_54 (Nat.le_of_ble_eq_true rfl) (Nat.le_of_ble_eq_true rfl) (⟨by simp [s_gli, hw1, hw2, hw4], rfl⟩)
  by_cases hw5 : w = 3
  · rw [hw5]
    refine x_tableIn (off := 54) (tgt := 55) F dX3_gliderFact_1 (by decide) (by decide) rfl (by decide) ?_
    refine x_aload_n F dX3_gliderFact_55 0 rfl rfl ?_
    refine y_getG (c := c) (i := i) (j := 8) (v := .int (cG c i 8)) F hR hi nw_278 rfl (by decide) rfl dX3_gliderFact_56 ?_
    exact x_iret F hE dX3_gliderFact_59 (Nat.le_of_ble_eq_true rfl) (Nat.le_of_ble_eq_true rfl) (⟨by simp [s_gli, hw1, hw2, hw4, hw5], rfl⟩)
  refine x_tableOut (tgt := 60) F dX3_gliderFact_1 (tsw (n := 3) (fun j hj => match j, hj with | 0, _ => hw1 | 1, _ => hw2 | 2, _ => hw4 | 3, _ => hw5 | j + 4, hj => absurd hj (by omega))) (by decide) ?_
  refine x_aload_n F dX3_gliderFact_60 0 rfl rfl ?_
  rcases hq6 : cgF c i with _ | s7
  · refine y_getG (c := c) (i := i) (j := 9) (v := .null) F hR hi nw_195 (by show some (va_rf (Option.map _ (cgF c i))) = _; rw [hq6]; rfl) (by decide) rfl dX3_gliderFact_61 ?_
    refine x_ifnonnullN F dX3_gliderFact_64 ?_
    refine x_iconst (v := (-1)) F rfl dX3_gliderFact_67 ?_
    refine x_goto F dX3_gliderFact_68 (tgt := 78) (by decide) ?_
    exact x_iret F hE dX3_gliderFact_78 (Nat.le_of_ble_eq_true rfl) (Nat.le_of_ble_eq_true rfl) (⟨by simp [s_gli, hw1, hw2, hw4, hw5, hq6], rfl⟩)
  · refine y_getG (c := c) (i := i) (j := 9) (v := .ref (ad c 5 s7)) F hR hi nw_195 (by show some (va_rf (Option.map _ (cgF c i))) = _; rw [hq6]; rfl) (by decide) rfl dX3_gliderFact_61 ?_
    refine x_ifnonnull F dX3_gliderFact_64 (tgt := 71) (by decide) ?_
    refine x_aload_n F dX3_gliderFact_71 0 rfl rfl ?_
    refine y_getG (c := c) (i := i) (j := 9) (v := .ref (ad c 5 s7)) F hR hi nw_195 (by show some (va_rf (Option.map _ (cgF c i))) = _; rw [hq6]; rfl) (by decide) rfl dX3_gliderFact_72 ?_
    refine y_getF (c := c) (i := s7) (j := 0) (v := .int (nI s7)) F hR (hR.wf.2.2.1 _ hi _ hq6) nw_170 rfl (by decide) rfl dX3_gliderFact_75 ?_
    exact x_iret F hE dX3_gliderFact_78 (Nat.le_of_ble_eq_true rfl) (Nat.le_of_ble_eq_true rfl) (⟨by simp [s_gli, hw1, hw2, hw4, hw5, hq6], rfl⟩)
set_option maxHeartbeats 4000000 in
set_option maxRecDepth 100000 in
theorem c_X3_flightFact (l : Launch) (G : GT) (A : Nat → Prop) (c : CS) (i : Nat) (hi : i < nf c) (w : Int32) : Ct l yX3_flightFact cX3_flightFact 2 (some .int) ({ frames := 0, cells := 0, slots := 0, locals := 0 } : Room) G A [.ref (ad c 5 i), .int w] (fun H => Rep G A c H) (Pu (.int (s_fli c i w))) := by
  refine ct_of (own := "GliderDay") (by decide +kernel) rfl (Nat.le_of_ble_eq_true rfl) (fun E H0 F hE hR => ?_)
  show wx E H0 0 0 0 [(0, .ref (ad c 5 i)), (1, .int w)] []
  refine x_iload_n F dX3_flightFact_0 1 rfl rfl ?_
  by_cases hw1 : w = 0
  · rw [hw1]
    refine x_tableIn (off := 43) (tgt := 44) F dX3_flightFact_1 (by decide) (by decide) rfl (by decide) ?_
    refine x_aload_n F dX3_flightFact_44 0 rfl rfl ?_
    refine y_getF (c := c) (i := i) (j := 6) (v := .int (cF c i 6)) F hR hi nw_185 rfl (by decide) rfl dX3_flightFact_45 ?_
    exact x_iret F hE dX3_flightFact_48 (Nat.le_of_ble_eq_true rfl) (Nat.le_of_ble_eq_true rfl) (⟨by simp [s_fli, hw1], rfl⟩)
  by_cases hw2 : w = 1
  · rw [hw2]
    refine x_tableIn (off := 48) (tgt := 49) F dX3_flightFact_1 (by decide) (by decide) rfl (by decide) ?_
    refine x_aload_n F dX3_flightFact_49 0 rfl rfl ?_
    refine y_getF (c := c) (i := i) (j := 1) (v := .ref (ad c 3 (cR c i).1)) F hR hi nw_279 rfl (by decide) rfl dX3_flightFact_50 ?_
    refine y_getM (c := c) (i := (cR c i).1) (j := 0) (v := .int (nI ((cR c i).1))) F hR (hR.wf.2.1 _ hi).1 nw_283 rfl (by decide) rfl dX3_flightFact_53 ?_
    exact x_iret F hE dX3_flightFact_56 (Nat.le_of_ble_eq_true rfl) (Nat.le_of_ble_eq_true rfl) (⟨by simp [s_fli, hw1, hw2], rfl⟩)
  by_cases hw3 : w = 2
  · rw [hw3]
    refine x_tableIn (off := 56) (tgt := 57) F dX3_flightFact_1 (by decide) (by decide) rfl (by decide) ?_
    refine x_aload_n F dX3_flightFact_57 0 rfl rfl ?_
    rcases hq4 : (cR c i).2.1 with _ | s5
    · refine y_getF (c := c) (i := i) (j := 2) (v := .null) F hR hi nw_284 (by show some (va_rf (Option.map _ ((cR c i).2.1))) = _; rw [hq4]; rfl) (by decide) rfl dX3_flightFact_58 ?_
      refine x_ifnonnullN F dX3_flightFact_61 ?_
      refine x_iconst (v := (-1)) F rfl dX3_flightFact_64 ?_
      refine x_goto F dX3_flightFact_65 (tgt := 75) (by decide) ?_
      exact x_iret F hE dX3_flightFact_75 (Nat.le_of_ble_eq_true rfl) (Nat.le_of_ble_eq_true rfl) (⟨by simp [s_fli, hw1, hw2, hw3, hq4], rfl⟩)
    · refine y_getF (c := c) (i := i) (j := 2) (v := .ref (ad c 3 s5)) F hR hi nw_284 (by show some (va_rf (Option.map _ ((cR c i).2.1))) = _; rw [hq4]; rfl) (by decide) rfl dX3_flightFact_58 ?_
      refine x_ifnonnull F dX3_flightFact_61 (tgt := 68) (by decide) ?_
      refine x_aload_n F dX3_flightFact_68 0 rfl rfl ?_
      refine y_getF (c := c) (i := i) (j := 2) (v := .ref (ad c 3 s5)) F hR hi nw_284 (by show some (va_rf (Option.map _ ((cR c i).2.1))) = _; rw [hq4]; rfl) (by decide) rfl dX3_flightFact_69 ?_
      refine y_getM (c := c) (i := s5) (j := 0) (v := .int (nI s5)) F hR ((hR.wf.2.1 _ hi).2.2 _ hq4) nw_283 rfl (by decide) rfl dX3_flightFact_72 ?_
      exact x_iret F hE dX3_flightFact_75 (Nat.le_of_ble_eq_true rfl) (Nat.le_of_ble_eq_true rfl) (⟨by simp [s_fli, hw1, hw2, hw3, hq4], rfl⟩)
  by_cases hw6 : w = 3
  · rw [hw6]
    refine x_tableIn (off := 75) (tgt := 76) F dX3_flightFact_1 (by decide) (by decide) rfl (by decide) ?_
    refine x_aload_n F dX3_flightFact_76 0 rfl rfl ?_
    refine y_getF (c := c) (i := i) (j := 3) (v := .ref (ad c 4 (cR c i).2.2)) F hR hi nw_287 rfl (by decide) rfl dX3_flightFact_77 ?_
    refine y_getG (c := c) (i := (cR c i).2.2) (j := 0) (v := .int (nI ((cR c i).2.2))) F hR (hR.wf.2.1 _ hi).2.1 nw_291 rfl (by decide) rfl dX3_flightFact_80 ?_
    exact x_iret F hE dX3_flightFact_83 (Nat.le_of_ble_eq_true rfl) (Nat.le_of_ble_eq_true rfl) (⟨by simp [s_fli, hw1, hw2, hw3, hw6], rfl⟩)
  by_cases hw7 : w = 4
  · rw [hw7]
    refine x_tableIn (off := 83) (tgt := 84) F dX3_flightFact_1 (by decide) (by decide) rfl (by decide) ?_
    refine x_aload_n F dX3_flightFact_84 0 rfl rfl ?_
    refine y_getF (c := c) (i := i) (j := 4) (v := .int (cF c i 4)) F hR hi nw_161 rfl (by decide) rfl dX3_flightFact_85 ?_
    exact x_iret F hE dX3_flightFact_88 (Nat.le_of_ble_eq_true rfl) (Nat.le_of_ble_eq_true rfl) (⟨by simp [s_fli, hw1, hw2, hw3, hw6, hw7], rfl⟩)
  by_cases hw8 : w = 5
  · rw [hw8]
    refine x_tableIn (off := 88) (tgt := 89) F dX3_flightFact_1 (by decide) (by decide) rfl (by decide) ?_
    refine x_aload_n F dX3_flightFact_89 0 rfl rfl ?_
    refine y_getF (c := c) (i := i) (j := 8) (v := .int (cF c i 8)) F hR hi nw_204 rfl (by decide) rfl dX3_flightFact_90 ?_
    exact x_iret F hE dX3_flightFact_93 (Nat.le_of_ble_eq_true rfl) (Nat.le_of_ble_eq_true rfl) (⟨by simp [s_fli, hw1, hw2, hw3, hw6, hw7, hw8], rfl⟩)
  by_cases hw9 : w = 6
  · rw [hw9]
    refine x_tableIn (off := 93) (tgt := 94) F dX3_flightFact_1 (by decide) (by decide) rfl (by decide) ?_
    refine x_aload_n F dX3_flightFact_94 0 rfl rfl ?_
    refine y_getF (c := c) (i := i) (j := 9) (v := .int (cF c i 9)) F hR hi nw_235 rfl (by decide) rfl dX3_flightFact_95 ?_
    exact x_iret F hE dX3_flightFact_98 (Nat.le_of_ble_eq_true rfl) (Nat.le_of_ble_eq_true rfl) (⟨by simp [s_fli, hw1, hw2, hw3, hw6, hw7, hw8, hw9], rfl⟩)
  refine x_tableOut (tgt := 99) F dX3_flightFact_1 (tsw (n := 6) (fun j hj => match j, hj with | 0, _ => hw1 | 1, _ => hw2 | 2, _ => hw3 | 3, _ => hw6 | 4, _ => hw7 | 5, _ => hw8 | 6, _ => hw9 | j + 7, hj => absurd hj (by omega))) (by decide) ?_
  refine x_aload_n F dX3_flightFact_99 0 rfl rfl ?_
  refine y_getF (c := c) (i := i) (j := 10) (v := .int (cF c i 10)) F hR hi nw_232 rfl (by decide) rfl dX3_flightFact_100 ?_
  exact x_iret F hE dX3_flightFact_103 (Nat.le_of_ble_eq_true rfl) (Nat.le_of_ble_eq_true rfl) (⟨by simp [s_fli, hw1, hw2, hw3, hw6, hw7, hw8, hw9], rfl⟩)
set_option maxHeartbeats 4000000 in
set_option maxRecDepth 100000 in
theorem c_X3_hasTeacher (l : Launch) (G : GT) (A : Nat → Prop) (c : CS) (i : Nat) (hi : i < nf c) : Ct l yX3_hasTeacher cX3_hasTeacher 1 (some .boolean) ({ frames := 0, cells := 0, slots := 0, locals := 0 } : Room) G A [.ref (ad c 5 i)] (fun H => Rep G A c H) (Pu (.int (bI (s_hasT c i = true)))) := by
  refine ct_of (own := "GliderDay") (by decide +kernel) rfl (Nat.le_of_ble_eq_true rfl) (fun E H0 F hE hR => ?_)
  show wx E H0 0 0 0 [(0, .ref (ad c 5 i))] []
  refine x_aload_n F dX3_hasTeacher_0 0 rfl rfl ?_
  rcases hq1 : (cR c i).2.1 with _ | s2
  · refine y_getF (c := c) (i := i) (j := 2) (v := .null) F hR hi nw_284 (by show some (va_rf (Option.map _ ((cR c i).2.1))) = _; rw [hq1]; rfl) (by decide) rfl dX3_hasTeacher_1 ?_
    refine x_ifnullN F dX3_hasTeacher_4 (tgt := 22) (by decide) ?_
    refine x_iconst (v := 0) F rfl dX3_hasTeacher_22 ?_
    exact x_zret F rfl hE dX3_hasTeacher_23 (Nat.le_of_ble_eq_true rfl) (Nat.le_of_ble_eq_true rfl) (⟨by rw [bI_f (by first | (simp [s_hasT, hq1]; done) | (exfalso; simp_all; done))], rfl⟩)
  · refine y_getF (c := c) (i := i) (j := 2) (v := .ref (ad c 3 s2)) F hR hi nw_284 (by show some (va_rf (Option.map _ ((cR c i).2.1))) = _; rw [hq1]; rfl) (by decide) rfl dX3_hasTeacher_1 ?_
    refine x_ifnull F dX3_hasTeacher_4 ?_
    refine x_aload_n F dX3_hasTeacher_7 0 rfl rfl ?_
    refine y_getF (c := c) (i := i) (j := 2) (v := .ref (ad c 3 s2)) F hR hi nw_284 (by show some (va_rf (Option.map _ ((cR c i).2.1))) = _; rw [hq1]; rfl) (by decide) rfl dX3_hasTeacher_8 ?_
    refine y_getM (c := c) (i := s2) (j := 1) (v := .int (cM c s2 1)) F hR ((hR.wf.2.1 _ hi).2.2 _ hq1) nw_132 rfl (by decide) rfl dX3_hasTeacher_11 ?_
    refine x_iconst (v := 3) F rfl dX3_hasTeacher_14 ?_
    refine x_icmp_ne F dX3_hasTeacher_15 (tgt := 22) (by decide) (fun h3 => ?_) (fun h3 => ?_)
    · refine x_iconst (v := 0) F rfl dX3_hasTeacher_22 ?_
      exact x_zret F rfl hE dX3_hasTeacher_23 (Nat.le_of_ble_eq_true rfl) (Nat.le_of_ble_eq_true rfl) (⟨by rw [bI_f (by first | (simp [s_hasT, hq1, h3]; done) | (exfalso; simp_all; done))], rfl⟩)
    · refine x_iconst (v := 1) F rfl dX3_hasTeacher_18 ?_
      refine x_goto F dX3_hasTeacher_19 (tgt := 23) (by decide) ?_
      exact x_zret F rfl hE dX3_hasTeacher_23 (Nat.le_of_ble_eq_true rfl) (Nat.le_of_ble_eq_true rfl) (⟨by rw [bI_t (by first | (simp [s_hasT, hq1, h3]; done) | (exfalso; simp_all; done))], rfl⟩)
set_option maxHeartbeats 4000000 in
set_option maxRecDepth 100000 in
theorem c_X3_needsTeacher (l : Launch) (G : GT) (A : Nat → Prop) (c : CS) (i : Nat) (hi : i < nm c) : Ct l yX3_needsTeacher cX3_needsTeacher 1 (some .boolean) ({ frames := 0, cells := 0, slots := 0, locals := 0 } : Room) G A [.ref (ad c 3 i)] (fun H => Rep G A c H) (Pu (.int (bI (cM c i 1 = 0 ∨ (cM c i 1 = 1 ∧ cM c i 5 = 0))))) := by
  refine ct_of (own := "GliderDay") (by decide +kernel) rfl (Nat.le_of_ble_eq_true rfl) (fun E H0 F hE hR => ?_)
  show wx E H0 0 0 0 [(0, .ref (ad c 3 i))] []
  refine x_aload_n F dX3_needsTeacher_0 0 rfl rfl ?_
  refine y_getM (c := c) (i := i) (j := 1) (v := .int (cM c i 1)) F hR hi nw_132 rfl (by decide) rfl dX3_needsTeacher_1 ?_
  refine x_if_eq F dX3_needsTeacher_4 (tgt := 22) (by decide) (fun h1 => ?_) (fun h1 => ?_)
  · refine x_iconst (v := 1) F rfl dX3_needsTeacher_22 ?_
    refine x_goto F dX3_needsTeacher_23 (tgt := 27) (by decide) ?_
    exact x_zret F rfl hE dX3_needsTeacher_27 (Nat.le_of_ble_eq_true rfl) (Nat.le_of_ble_eq_true rfl) (⟨by rw [bI_t (by first | (simp [h1]; done) | (exfalso; simp_all; done))], rfl⟩)
  · refine x_aload_n F dX3_needsTeacher_7 0 rfl rfl ?_
    refine y_getM (c := c) (i := i) (j := 1) (v := .int (cM c i 1)) F hR hi nw_132 rfl (by decide) rfl dX3_needsTeacher_8 ?_
    refine x_iconst (v := 1) F rfl dX3_needsTeacher_11 ?_
    refine x_icmp_ne F dX3_needsTeacher_12 (tgt := 26) (by decide) (fun h2 => ?_) (fun h2 => ?_)
    · refine x_iconst (v := 0) F rfl dX3_needsTeacher_26 ?_
      exact x_zret F rfl hE dX3_needsTeacher_27 (Nat.le_of_ble_eq_true rfl) (Nat.le_of_ble_eq_true rfl) (⟨by rw [bI_f (by first | (simp [h1, h2]; done) | (exfalso; simp_all; done))], rfl⟩)
    · refine x_aload_n F dX3_needsTeacher_15 0 rfl rfl ?_
      refine y_getM (c := c) (i := i) (j := 5) (v := .int (cM c i 5)) F hR hi nw_271 rfl (by decide) rfl dX3_needsTeacher_16 ?_
      refine x_if_ne F dX3_needsTeacher_19 (tgt := 26) (by decide) (fun h3 => ?_) (fun h3 => ?_)
      · refine x_iconst (v := 0) F rfl dX3_needsTeacher_26 ?_
        exact x_zret F rfl hE dX3_needsTeacher_27 (Nat.le_of_ble_eq_true rfl) (Nat.le_of_ble_eq_true rfl) (⟨by rw [bI_f (by first | (simp [h1, h2, h3]; done) | (exfalso; simp_all; done))], rfl⟩)
      · refine x_iconst (v := 1) F rfl dX3_needsTeacher_22 ?_
        refine x_goto F dX3_needsTeacher_23 (tgt := 27) (by decide) ?_
        exact x_zret F rfl hE dX3_needsTeacher_27 (Nat.le_of_ble_eq_true rfl) (Nat.le_of_ble_eq_true rfl) (⟨by rw [bI_t (by first | (simp [h1, h2, h3]; done) | (exfalso; simp_all; done))], rfl⟩)
set_option maxHeartbeats 4000000 in
set_option maxRecDepth 100000 in
theorem c_X3_windLimitOf (l : Launch) (G : GT) (A : Nat → Prop) (x : Int32) : Ct l yX3_windLimitOf cX3_windLimitOf 1 (some .int) ({ frames := 0, cells := 0, slots := 0, locals := 0 } : Room) G A [.int x] (fun H => True) (Pu (.int (s_wind x))) := by
  refine ct_of (own := "GliderDay") (by decide +kernel) rfl (Nat.le_of_ble_eq_true rfl) (fun E H0 F hE _ => ?_)
  show wx E H0 0 0 0 [(0, .int x)] []
  refine x_iload_n F dX3_windLimitOf_0 0 rfl rfl ?_
  by_cases hw1 : x = 0
  · rw [hw1]
    refine x_tableIn (off := 27) (tgt := 28) F dX3_windLimitOf_1 (by decide) (by decide) rfl (by decide) ?_
    refine x_iconst (v := 0) F rfl dX3_windLimitOf_28 ?_
    exact x_iret F hE dX3_windLimitOf_29 (Nat.le_of_ble_eq_true rfl) (Nat.le_of_ble_eq_true rfl) (⟨by simp [s_wind, hw1], rfl⟩)
  by_cases hw2 : x = 1
  · rw [hw2]
    refine x_tableIn (off := 29) (tgt := 30) F dX3_windLimitOf_1 (by decide) (by decide) rfl (by decide) ?_
    refine x_bipush (v := 12) F rfl dX3_windLimitOf_30 ?_
    exact x_iret F hE dX3_windLimitOf_32 (Nat.le_of_ble_eq_true rfl) (Nat.le_of_ble_eq_true rfl) (⟨by simp [s_wind, hw1, hw2], rfl⟩)
  by_cases hw3 : x = 2
  · rw [hw3]
    refine x_tableIn (off := 32) (tgt := 33) F dX3_windLimitOf_1 (by decide) (by decide) rfl (by decide) ?_
    refine x_bipush (v := 25) F rfl dX3_windLimitOf_33 ?_
    exact x_iret F hE dX3_windLimitOf_35 (Nat.le_of_ble_eq_true rfl) (Nat.le_of_ble_eq_true rfl) (⟨by simp [s_wind, hw1, hw2, hw3], rfl⟩)
  refine x_tableOut (tgt := 36) F dX3_windLimitOf_1 (tsw (n := 2) (fun j hj => match j, hj with | 0, _ => hw1 | 1, _ => hw2 | 2, _ => hw3 | j + 3, hj => absurd hj (by omega))) (by decide) ?_
  refine x_bipush (v := 30) F rfl dX3_windLimitOf_36 ?_
  exact x_iret F hE dX3_windLimitOf_38 (Nat.le_of_ble_eq_true rfl) (Nat.le_of_ble_eq_true rfl) (⟨by simp [s_wind, hw1, hw2, hw3], rfl⟩)
set_option maxHeartbeats 4000000 in
set_option maxRecDepth 100000 in
theorem c_X3_hasFlyingMember (l : Launch) (G : GT) (A : Nat → Prop) (c : CS) (i : Nat) (hi : i < nf c) : Ct l yX3_hasFlyingMember cX3_hasFlyingMember 1 (some .boolean) ({ frames := 0, cells := 0, slots := 0, locals := 0 } : Room) G A [.ref (ad c 5 i)] (fun H => Rep G A c H) (Pu (.int (bI (s_flyM c i = true)))) := by
  refine ct_of (own := "GliderDay") (by decide +kernel) rfl (Nat.le_of_ble_eq_true rfl) (fun E H0 F hE hR => ?_)
  show wx E H0 0 0 0 [(0, .ref (ad c 5 i))] []
  refine x_aload_n F dX3_hasFlyingMember_0 0 rfl rfl ?_
  refine y_getF (c := c) (i := i) (j := 1) (v := .ref (ad c 3 (cR c i).1)) F hR hi nw_279 rfl (by decide) rfl dX3_hasFlyingMember_1 ?_
  refine y_getM (c := c) (i := (cR c i).1) (j := 2) (v := .int (cM c ((cR c i).1) 2)) F hR (hR.wf.2.1 _ hi).1 nw_123 rfl (by decide) rfl dX3_hasFlyingMember_4 ?_
  refine x_if_ne F dX3_hasFlyingMember_7 (tgt := 27) (by decide) (fun h1 => ?_) (fun h1 => ?_)
  · refine x_iconst (v := 1) F rfl dX3_hasFlyingMember_27 ?_
    refine x_goto F dX3_hasFlyingMember_28 (tgt := 32) (by decide) ?_
    exact x_zret F rfl hE dX3_hasFlyingMember_32 (Nat.le_of_ble_eq_true rfl) (Nat.le_of_ble_eq_true rfl) (⟨by rw [bI_t (by first | (simp [s_flyM, h1]; done) | (exfalso; simp_all; done))], rfl⟩)
  · refine x_aload_n F dX3_hasFlyingMember_10 0 rfl rfl ?_
    rcases hq2 : (cR c i).2.1 with _ | s3
    · refine y_getF (c := c) (i := i) (j := 2) (v := .null) F hR hi nw_284 (by show some (va_rf (Option.map _ ((cR c i).2.1))) = _; rw [hq2]; rfl) (by decide) rfl dX3_hasFlyingMember_11 ?_
      refine x_ifnullN F dX3_hasFlyingMember_14 (tgt := 31) (by decide) ?_
      refine x_iconst (v := 0) F rfl dX3_hasFlyingMember_31 ?_
      exact x_zret F rfl hE dX3_hasFlyingMember_32 (Nat.le_of_ble_eq_true rfl) (Nat.le_of_ble_eq_true rfl) (⟨by rw [bI_f (by first | (simp [s_flyM, h1, hq2]; done) | (exfalso; simp_all; done))], rfl⟩)
    · refine y_getF (c := c) (i := i) (j := 2) (v := .ref (ad c 3 s3)) F hR hi nw_284 (by show some (va_rf (Option.map _ ((cR c i).2.1))) = _; rw [hq2]; rfl) (by decide) rfl dX3_hasFlyingMember_11 ?_
      refine x_ifnull F dX3_hasFlyingMember_14 ?_
      refine x_aload_n F dX3_hasFlyingMember_17 0 rfl rfl ?_
      refine y_getF (c := c) (i := i) (j := 2) (v := .ref (ad c 3 s3)) F hR hi nw_284 (by show some (va_rf (Option.map _ ((cR c i).2.1))) = _; rw [hq2]; rfl) (by decide) rfl dX3_hasFlyingMember_18 ?_
      refine y_getM (c := c) (i := s3) (j := 2) (v := .int (cM c s3 2)) F hR ((hR.wf.2.1 _ hi).2.2 _ hq2) nw_123 rfl (by decide) rfl dX3_hasFlyingMember_21 ?_
      refine x_if_eq F dX3_hasFlyingMember_24 (tgt := 31) (by decide) (fun h4 => ?_) (fun h4 => ?_)
      · refine x_iconst (v := 0) F rfl dX3_hasFlyingMember_31 ?_
        exact x_zret F rfl hE dX3_hasFlyingMember_32 (Nat.le_of_ble_eq_true rfl) (Nat.le_of_ble_eq_true rfl) (⟨by rw [bI_f (by first | (simp [s_flyM, h1, hq2, h4]; done) | (exfalso; simp_all; done))], rfl⟩)
      · refine x_iconst (v := 1) F rfl dX3_hasFlyingMember_27 ?_
        refine x_goto F dX3_hasFlyingMember_28 (tgt := 32) (by decide) ?_
        exact x_zret F rfl hE dX3_hasFlyingMember_32 (Nat.le_of_ble_eq_true rfl) (Nat.le_of_ble_eq_true rfl) (⟨by rw [bI_t (by first | (simp [s_flyM, h1, hq2, h4]; done) | (exfalso; simp_all; done))], rfl⟩)
set_option maxHeartbeats 4000000 in
set_option maxRecDepth 100000 in
theorem c_X3_isTooWindyFor (l : Launch) (G : GT) (A : Nat → Prop) (c : CS) (i : Nat) (hi : i < nf c) : Ct l yX3_isTooWindyFor cX3_isTooWindyFor 3 (some .boolean) ({ frames := 1, cells := 0, slots := 0, locals := 20 } : Room) G A [.ref (ad c 0 0), .ref (ad c 5 i)] (fun H => Rep G A c H) (Pu (.int (bI (cG c (cR c i).2.2 3 < cD c 10 ∨ s_wind (if s_hasT c i = true then 3 else cM c (cR c i).1 1) < cD c 10)))) := by
  refine ct_of (own := "GliderDay") (by decide +kernel) rfl (Nat.le_of_ble_eq_true rfl) (fun E H0 F hE hR => ?_)
  show wx E H0 0 0 0 [(0, .ref (ad c 0 0)), (1, .ref (ad c 5 i))] []
  refine x_aload_n F dX3_isTooWindyFor_0 1 rfl rfl ?_
  refine x_callSp (rest := []) F (c_X3_hasTeacher l G A c i hi) k_X3_295 ⟨(Nat.le_of_ble_eq_true rfl), (Nat.le_of_ble_eq_true rfl), rfl, rfl⟩ (Nat.le_of_ble_eq_true rfl) (Nat.le_of_ble_eq_true rfl) dX3_isTooWindyFor_1 rfl rfl (Nat.le_of_ble_eq_true rfl) hR ?_
  refine x_if_eq F dX3_isTooWindyFor_4 (tgt := 11) (by decide) (fun h1 => ?_) (fun h1 => ?_)
  · replace h1 := bI_0.mp h1
    refine x_aload_n F dX3_isTooWindyFor_11 1 rfl rfl ?_
    refine y_getF (c := c) (i := i) (j := 1) (v := .ref (ad c 3 (cR c i).1)) F hR hi nw_279 rfl (by decide) rfl dX3_isTooWindyFor_12 ?_
    refine y_getM (c := c) (i := (cR c i).1) (j := 1) (v := .int (cM c ((cR c i).1) 1)) F hR (hR.wf.2.1 _ hi).1 nw_132 rfl (by decide) rfl dX3_isTooWindyFor_15 ?_
    refine x_istore_n (lv' := [(2, .int (cM c ((cR c i).1) 1)), (0, .ref (ad c 0 0)), (1, .ref (ad c 5 i))]) F dX3_isTooWindyFor_18 rfl (by decide) rfl ?_
    refine x_aload_n F dX3_isTooWindyFor_19 1 rfl rfl ?_
    refine y_getD (c := c) (j := 10) (v := .int (cD c 10)) F hR mw_91 rfl (by decide) rfl dX3_isTooWindyFor_20 ?_
    refine x_aload_n F dX3_isTooWindyFor_23 2 rfl rfl ?_
    refine y_getF (c := c) (i := i) (j := 3) (v := .ref (ad c 4 (cR c i).2.2)) F hR hi nw_287 rfl (by decide) rfl dX3_isTooWindyFor_24 ?_
    refine y_getG (c := c) (i := (cR c i).2.2) (j := 3) (v := .int (cG c ((cR c i).2.2) 3)) F hR (hR.wf.2.1 _ hi).2.1 nw_299 rfl (by decide) rfl dX3_isTooWindyFor_27 ?_
    refine x_icmp_gt F dX3_isTooWindyFor_30 (tgt := 44) (by decide) (fun h2 => ?_) (fun h2 => ?_)
    · have h2' := Int32.not_le.mpr h2
      refine x_iconst (v := 1) F rfl dX3_isTooWindyFor_44 ?_
      refine x_goto F dX3_isTooWindyFor_45 (tgt := 49) (by decide) ?_
      exact x_zret F rfl hE dX3_isTooWindyFor_49 (Nat.le_of_ble_eq_true rfl) (Nat.le_of_ble_eq_true rfl) (⟨by rw [bI_t (by first | (simp [h1, h2, h2']; done) | (exfalso; simp_all; done))], rfl⟩)
    · have h2' := Int32.not_lt.mp h2
      refine x_aload_n F dX3_isTooWindyFor_33 1 rfl rfl ?_
      refine y_getD (c := c) (j := 10) (v := .int (cD c 10)) F hR mw_91 rfl (by decide) rfl dX3_isTooWindyFor_34 ?_
      refine x_iload_n F dX3_isTooWindyFor_37 0 rfl rfl ?_
      refine x_callSp (rest := [.int (cD c 10)]) F (c_X3_windLimitOf l G A (cM c ((cR c i).1) 1)) k_X3_302 ⟨(Nat.le_of_ble_eq_true rfl), (Nat.le_of_ble_eq_true rfl), rfl, rfl⟩ (Nat.le_of_ble_eq_true rfl) (Nat.le_of_ble_eq_true rfl) dX3_isTooWindyFor_38 rfl rfl (Nat.le_of_ble_eq_true rfl) trivial ?_
      refine x_icmp_le F dX3_isTooWindyFor_41 (tgt := 48) (by decide) (fun h3 => ?_) (fun h3 => ?_)
      · have h3' := Int32.not_lt.mpr h3
        refine x_iconst (v := 0) F rfl dX3_isTooWindyFor_48 ?_
        exact x_zret F rfl hE dX3_isTooWindyFor_49 (Nat.le_of_ble_eq_true rfl) (Nat.le_of_ble_eq_true rfl) (⟨by rw [bI_f (by first | (simp [h1, h2, h2', h3, h3']; done) | (exfalso; simp_all; done))], rfl⟩)
      · have h3' := Int32.not_le.mp h3
        refine x_iconst (v := 1) F rfl dX3_isTooWindyFor_44 ?_
        refine x_goto F dX3_isTooWindyFor_45 (tgt := 49) (by decide) ?_
        exact x_zret F rfl hE dX3_isTooWindyFor_49 (Nat.le_of_ble_eq_true rfl) (Nat.le_of_ble_eq_true rfl) (⟨by rw [bI_t (by first | (simp [h1, h2, h2', h3, h3']; done) | (exfalso; simp_all; done))], rfl⟩)
  · replace h1 := bI_ne.mp h1
    refine x_iconst (v := 3) F rfl dX3_isTooWindyFor_7 ?_
    refine x_goto F dX3_isTooWindyFor_8 (tgt := 18) (by decide) ?_
    refine x_istore_n (lv' := [(2, .int 3), (0, .ref (ad c 0 0)), (1, .ref (ad c 5 i))]) F dX3_isTooWindyFor_18 rfl (by decide) rfl ?_
    refine x_aload_n F dX3_isTooWindyFor_19 1 rfl rfl ?_
    refine y_getD (c := c) (j := 10) (v := .int (cD c 10)) F hR mw_91 rfl (by decide) rfl dX3_isTooWindyFor_20 ?_
    refine x_aload_n F dX3_isTooWindyFor_23 2 rfl rfl ?_
    refine y_getF (c := c) (i := i) (j := 3) (v := .ref (ad c 4 (cR c i).2.2)) F hR hi nw_287 rfl (by decide) rfl dX3_isTooWindyFor_24 ?_
    refine y_getG (c := c) (i := (cR c i).2.2) (j := 3) (v := .int (cG c ((cR c i).2.2) 3)) F hR (hR.wf.2.1 _ hi).2.1 nw_299 rfl (by decide) rfl dX3_isTooWindyFor_27 ?_
    refine x_icmp_gt F dX3_isTooWindyFor_30 (tgt := 44) (by decide) (fun h4 => ?_) (fun h4 => ?_)
    · have h4' := Int32.not_le.mpr h4
      refine x_iconst (v := 1) F rfl dX3_isTooWindyFor_44 ?_
      refine x_goto F dX3_isTooWindyFor_45 (tgt := 49) (by decide) ?_
      exact x_zret F rfl hE dX3_isTooWindyFor_49 (Nat.le_of_ble_eq_true rfl) (Nat.le_of_ble_eq_true rfl) (⟨by rw [bI_t (by first | (simp [h1, h4, h4']; done) | (exfalso; simp_all; done))], rfl⟩)
    · have h4' := Int32.not_lt.mp h4
      refine x_aload_n F dX3_isTooWindyFor_33 1 rfl rfl ?_
      refine y_getD (c := c) (j := 10) (v := .int (cD c 10)) F hR mw_91 rfl (by decide) rfl dX3_isTooWindyFor_34 ?_
      refine x_iload_n F dX3_isTooWindyFor_37 0 rfl rfl ?_
      refine x_callSp (rest := [.int (cD c 10)]) F (c_X3_windLimitOf l G A 3) k_X3_302 ⟨(Nat.le_of_ble_eq_true rfl), (Nat.le_of_ble_eq_true rfl), rfl, rfl⟩ (Nat.le_of_ble_eq_true rfl) (Nat.le_of_ble_eq_true rfl) dX3_isTooWindyFor_38 rfl rfl (Nat.le_of_ble_eq_true rfl) trivial ?_
      refine x_icmp_le F dX3_isTooWindyFor_41 (tgt := 48) (by decide) (fun h5 => ?_) (fun h5 => ?_)
      · have h5' := Int32.not_lt.mpr h5
        refine x_iconst (v := 0) F rfl dX3_isTooWindyFor_48 ?_
        exact x_zret F rfl hE dX3_isTooWindyFor_49 (Nat.le_of_ble_eq_true rfl) (Nat.le_of_ble_eq_true rfl) (⟨by rw [bI_f (by first | (simp [h1, h4, h4', h5, h5']; done) | (exfalso; simp_all; done))], rfl⟩)
      · have h5' := Int32.not_le.mp h5
        refine x_iconst (v := 1) F rfl dX3_isTooWindyFor_44 ?_
        refine x_goto F dX3_isTooWindyFor_45 (tgt := 49) (by decide) ?_
        exact x_zret F rfl hE dX3_isTooWindyFor_49 (Nat.le_of_ble_eq_true rfl) (Nat.le_of_ble_eq_true rfl) (⟨by rw [bI_t (by first | (simp [h1, h4, h4', h5, h5']; done) | (exfalso; simp_all; done))], rfl⟩)
set_option maxHeartbeats 4000000 in
set_option maxRecDepth 100000 in
theorem c_X3_hasNothingToLaunch (l : Launch) (G : GT) (A : Nat → Prop) (c : CS) (i : Nat) (hi : i < nf c) : Ct l yX3_hasNothingToLaunch cX3_hasNothingToLaunch 2 (some .boolean) ({ frames := 2, cells := 0, slots := 0, locals := 42 } : Room) G A [.ref (ad c 0 0), .ref (ad c 5 i)] (fun H => Rep G A c H) (Pu (.int (bI ((cF c i 4 = 0 ∧ 2 ≤ cD c 7) ∨ (¬ cF c i 4 = 0 ∧ s_ft c ≤ 0))))) := by
  refine ct_of (own := "GliderDay") (by decide +kernel) rfl (Nat.le_of_ble_eq_true rfl) (fun E H0 F hE hR => ?_)
  show wx E H0 0 0 0 [(0, .ref (ad c 0 0)), (1, .ref (ad c 5 i))] []
  refine x_aload_n F dX3_hasNothingToLaunch_0 1 rfl rfl ?_
  refine y_getF (c := c) (i := i) (j := 4) (v := .int (cF c i 4)) F hR hi nw_161 rfl (by decide) rfl dX3_hasNothingToLaunch_1 ?_
  refine x_if_ne F dX3_hasNothingToLaunch_4 (tgt := 23) (by decide) (fun h1 => ?_) (fun h1 => ?_)
  · refine x_aload_n F dX3_hasNothingToLaunch_23 0 rfl rfl ?_
    refine x_callVp (rest := []) F hR.day rfl (c_X3_freeTugs l G A c ) k_X3_103 ⟨(Nat.le_of_ble_eq_true rfl), (Nat.le_of_ble_eq_true rfl), rfl, rfl⟩ (Nat.le_of_ble_eq_true rfl) (Nat.le_of_ble_eq_true rfl) dX3_hasNothingToLaunch_24 rfl rfl (Nat.le_of_ble_eq_true rfl) hR ?_
    refine x_if_gt F dX3_hasNothingToLaunch_27 (tgt := 34) (by decide) (fun h2 => ?_) (fun h2 => ?_)
    · have h2' := Int32.not_le.mpr h2
      refine x_iconst (v := 0) F rfl dX3_hasNothingToLaunch_34 ?_
      exact x_zret F rfl hE dX3_hasNothingToLaunch_35 (Nat.le_of_ble_eq_true rfl) (Nat.le_of_ble_eq_true rfl) (⟨by rw [bI_f (by first | (simp [h1, h2, h2']; done) | (exfalso; simp_all; done))], rfl⟩)
    · have h2' := Int32.not_lt.mp h2
      refine x_iconst (v := 1) F rfl dX3_hasNothingToLaunch_30 ?_
      refine x_goto F dX3_hasNothingToLaunch_31 (tgt := 35) (by decide) ?_
      exact x_zret F rfl hE dX3_hasNothingToLaunch_35 (Nat.le_of_ble_eq_true rfl) (Nat.le_of_ble_eq_true rfl) (⟨by rw [bI_t (by first | (simp [h1, h2, h2']; done) | (exfalso; simp_all; done))], rfl⟩)
  · refine x_aload_n F dX3_hasNothingToLaunch_7 0 rfl rfl ?_
    refine y_getD (c := c) (j := 7) (v := .int (cD c 7)) F hR mw_88 rfl (by decide) rfl dX3_hasNothingToLaunch_8 ?_
    refine x_iconst (v := 2) F rfl dX3_hasNothingToLaunch_11 ?_
    refine x_icmp_lt F dX3_hasNothingToLaunch_12 (tgt := 19) (by decide) (fun h3 => ?_) (fun h3 => ?_)
    · have h3' := Int32.not_le.mpr h3
      refine x_iconst (v := 0) F rfl dX3_hasNothingToLaunch_19 ?_
      refine x_goto F dX3_hasNothingToLaunch_20 (tgt := 35) (by decide) ?_
      exact x_zret F rfl hE dX3_hasNothingToLaunch_35 (Nat.le_of_ble_eq_true rfl) (Nat.le_of_ble_eq_true rfl) (⟨by rw [bI_f (by first | (simp [h1, h3, h3']; done) | (exfalso; simp_all; done))], rfl⟩)
    · have h3' := Int32.not_lt.mp h3
      refine x_iconst (v := 1) F rfl dX3_hasNothingToLaunch_15 ?_
      refine x_goto F dX3_hasNothingToLaunch_16 (tgt := 35) (by decide) ?_
      exact x_zret F rfl hE dX3_hasNothingToLaunch_35 (Nat.le_of_ble_eq_true rfl) (Nat.le_of_ble_eq_true rfl) (⟨by rw [bI_t (by first | (simp [h1, h3, h3']; done) | (exfalso; simp_all; done))], rfl⟩)
set_option maxHeartbeats 4000000 in
set_option maxRecDepth 100000 in
theorem c_X3_reasonAgainst (l : Launch) (G : GT) (A : Nat → Prop) (c : CS) (i : Nat) (hi : i < nf c) : Ct l yX3_reasonAgainst cX3_reasonAgainst 3 (some .int) ({ frames := 3, cells := 0, slots := 0, locals := 63 } : Room) G A [.ref (ad c 0 0), .ref (ad c 5 i)] (fun H => Rep G A c H) (Pu (.int (s_rea c i))) := by
  refine ct_of (own := "GliderDay") (by decide +kernel) rfl (Nat.le_of_ble_eq_true rfl) (fun E H0 F hE hR => ?_)
  show wx E H0 0 0 0 [(0, .ref (ad c 0 0)), (1, .ref (ad c 5 i))] []
  refine x_aload_n F dX3_reasonAgainst_0 1 rfl rfl ?_
  refine y_getF (c := c) (i := i) (j := 3) (v := .ref (ad c 4 (cR c i).2.2)) F hR hi nw_287 rfl (by decide) rfl dX3_reasonAgainst_1 ?_
  refine x_astore_n (lv' := [(2, .ref (ad c 4 (cR c i).2.2)), (0, .ref (ad c 0 0)), (1, .ref (ad c 5 i))]) F dX3_reasonAgainst_4 rfl (by decide) rfl ?_
  refine x_aload_n F dX3_reasonAgainst_5 2 rfl rfl ?_
  refine x_callSp (rest := []) F (c_X3_hasFlyingMember l G A c i hi) k_X3_305 ⟨(Nat.le_of_ble_eq_true rfl), (Nat.le_of_ble_eq_true rfl), rfl, rfl⟩ (Nat.le_of_ble_eq_true rfl) (Nat.le_of_ble_eq_true rfl) dX3_reasonAgainst_6 rfl rfl (Nat.le_of_ble_eq_true rfl) hR ?_
  refine x_if_eq F dX3_reasonAgainst_9 (tgt := 14) (by decide) (fun h1 => ?_) (fun h1 => ?_)
  · replace h1 := bI_0.mp h1
    refine x_aload_n F dX3_reasonAgainst_14 0 rfl rfl ?_
    refine y_getG (c := c) (i := (cR c i).2.2) (j := 4) (v := .int (cG c ((cR c i).2.2) 4)) F hR (hR.wf.2.1 _ hi).2.1 nw_110 rfl (by decide) rfl dX3_reasonAgainst_15 ?_
    refine x_if_ne F dX3_reasonAgainst_18 (tgt := 28) (by decide) (fun h2 => ?_) (fun h2 => ?_)
    · refine x_iconst (v := 2) F rfl dX3_reasonAgainst_28 ?_
      exact x_iret F hE dX3_reasonAgainst_29 (Nat.le_of_ble_eq_true rfl) (Nat.le_of_ble_eq_true rfl) (⟨by rw [s_rea, if_neg (h1), if_pos (Or.inl h2)], rfl⟩)
    · refine x_aload_n F dX3_reasonAgainst_21 0 rfl rfl ?_
      refine y_getG (c := c) (i := (cR c i).2.2) (j := 5) (v := .int (cG c ((cR c i).2.2) 5)) F hR (hR.wf.2.1 _ hi).2.1 nw_115 rfl (by decide) rfl dX3_reasonAgainst_22 ?_
      refine x_if_eq F dX3_reasonAgainst_25 (tgt := 30) (by decide) (fun h3 => ?_) (fun h3 => ?_)
      · refine x_aload_n F dX3_reasonAgainst_30 2 rfl rfl ?_
        rcases hq4 : (cR c i).2.1 with _ | s5
        · refine y_getF (c := c) (i := i) (j := 2) (v := .null) F hR hi nw_284 (by show some (va_rf (Option.map _ ((cR c i).2.1))) = _; rw [hq4]; rfl) (by decide) rfl dX3_reasonAgainst_31 ?_
          refine x_ifnullN F dX3_reasonAgainst_34 (tgt := 47) (by decide) ?_
          refine x_aload_n F dX3_reasonAgainst_47 2 rfl rfl ?_
          refine y_getF (c := c) (i := i) (j := 1) (v := .ref (ad c 3 (cR c i).1)) F hR hi nw_279 rfl (by decide) rfl dX3_reasonAgainst_48 ?_
          refine x_callSp (rest := []) F (c_X3_needsTeacher l G A c ((cR c i).1) ((hR.wf.2.1 _ hi).1)) k_X3_311 ⟨(Nat.le_of_ble_eq_true rfl), (Nat.le_of_ble_eq_true rfl), rfl, rfl⟩ (Nat.le_of_ble_eq_true rfl) (Nat.le_of_ble_eq_true rfl) dX3_reasonAgainst_51 rfl rfl (Nat.le_of_ble_eq_true rfl) hR ?_
          refine x_if_eq F dX3_reasonAgainst_54 (tgt := 66) (by decide) (fun h6 => ?_) (fun h6 => ?_)
          · replace h6 := bI_0.mp h6
            refine x_aload_n F dX3_reasonAgainst_66 1 rfl rfl ?_
            refine x_aload_n F dX3_reasonAgainst_67 2 rfl rfl ?_
            refine x_callVp (rest := []) F hR.day rfl (c_X3_isTooWindyFor l G A c i hi) k_X3_314 ⟨(Nat.le_of_ble_eq_true rfl), (Nat.le_of_ble_eq_true rfl), rfl, rfl⟩ (Nat.le_of_ble_eq_true rfl) (Nat.le_of_ble_eq_true rfl) dX3_reasonAgainst_68 rfl rfl (Nat.le_of_ble_eq_true rfl) hR ?_
            refine x_if_eq F dX3_reasonAgainst_71 (tgt := 76) (by decide) (fun h7 => ?_) (fun h7 => ?_)
            · replace h7 := bI_0.mp h7
              refine x_aload_n F dX3_reasonAgainst_76 1 rfl rfl ?_
              refine y_getD (c := c) (j := 11) (v := .int (cD c 11)) F hR mw_92 rfl (by decide) rfl dX3_reasonAgainst_77 ?_
              refine x_aload_n F dX3_reasonAgainst_80 1 rfl rfl ?_
              refine y_getD (c := c) (j := 9) (v := .int (cD c 9)) F hR mw_90 rfl (by decide) rfl dX3_reasonAgainst_81 ?_
              refine x_isub F dX3_reasonAgainst_84 ?_
              refine x_bipush (v := 10) F rfl dX3_reasonAgainst_85 ?_
              refine x_icmp_ge F dX3_reasonAgainst_87 (tgt := 93) (by decide) (fun h8 => ?_) (fun h8 => ?_)
              · have h8' := Int32.not_lt.mpr h8
                refine x_aload_n F dX3_reasonAgainst_93 1 rfl rfl ?_
                refine x_aload_n F dX3_reasonAgainst_94 2 rfl rfl ?_
                refine x_callVp (rest := []) F hR.day rfl (c_X3_hasNothingToLaunch l G A c i hi) k_X3_317 ⟨(Nat.le_of_ble_eq_true rfl), (Nat.le_of_ble_eq_true rfl), rfl, rfl⟩ (Nat.le_of_ble_eq_true rfl) (Nat.le_of_ble_eq_true rfl) dX3_reasonAgainst_95 rfl rfl (Nat.le_of_ble_eq_true rfl) hR ?_
                refine x_if_eq F dX3_reasonAgainst_98 (tgt := 104) (by decide) (fun h9 => ?_) (fun h9 => ?_)
                · replace h9 := bI_0.mp h9
                  refine x_aload_n F dX3_reasonAgainst_104 1 rfl rfl ?_
                  refine x_callVp (rest := []) F hR.day rfl (c_X3_isBusy l G A c ) k_X3_320 ⟨(Nat.le_of_ble_eq_true rfl), (Nat.le_of_ble_eq_true rfl), rfl, rfl⟩ (Nat.le_of_ble_eq_true rfl) (Nat.le_of_ble_eq_true rfl) dX3_reasonAgainst_105 rfl rfl (Nat.le_of_ble_eq_true rfl) hR ?_
                  refine x_if_eq F dX3_reasonAgainst_108 (tgt := 116) (by decide) (fun h10 => ?_) (fun h10 => ?_)
                  · replace h10 := bI_0.mp h10
                    refine x_iconst (v := 0) F rfl dX3_reasonAgainst_116 ?_
                    exact x_iret F hE dX3_reasonAgainst_117 (Nat.le_of_ble_eq_true rfl) (Nat.le_of_ble_eq_true rfl) (⟨by rw [s_rea, if_neg (h1), if_neg (fun q => q.elim (fun z => z h2) (fun z => z h3)), if_neg (fun q => q.1 hq4), if_neg (fun q => h6 q.1), if_neg (h7), if_neg (Int32.not_lt.mpr h8), if_neg (h9), if_neg (h10)], rfl⟩)
                  · replace h10 := bI_ne.mp h10
                    refine x_bipush (v := 8) F rfl dX3_reasonAgainst_111 ?_
                    refine x_goto F dX3_reasonAgainst_113 (tgt := 117) (by decide) ?_
                    exact x_iret F hE dX3_reasonAgainst_117 (Nat.le_of_ble_eq_true rfl) (Nat.le_of_ble_eq_true rfl) (⟨by rw [s_rea, if_neg (h1), if_neg (fun q => q.elim (fun z => z h2) (fun z => z h3)), if_neg (fun q => q.1 hq4), if_neg (fun q => h6 q.1), if_neg (h7), if_neg (Int32.not_lt.mpr h8), if_neg (h9), if_pos (h10)], rfl⟩)
                · replace h9 := bI_ne.mp h9
                  refine x_bipush (v := 7) F rfl dX3_reasonAgainst_101 ?_
                  exact x_iret F hE dX3_reasonAgainst_103 (Nat.le_of_ble_eq_true rfl) (Nat.le_of_ble_eq_true rfl) (⟨by rw [s_rea, if_neg (h1), if_neg (fun q => q.elim (fun z => z h2) (fun z => z h3)), if_neg (fun q => q.1 hq4), if_neg (fun q => h6 q.1), if_neg (h7), if_neg (Int32.not_lt.mpr h8), if_pos (h9)], rfl⟩)
              · have h8' := Int32.not_le.mp h8
                refine x_bipush (v := 6) F rfl dX3_reasonAgainst_90 ?_
                exact x_iret F hE dX3_reasonAgainst_92 (Nat.le_of_ble_eq_true rfl) (Nat.le_of_ble_eq_true rfl) (⟨by rw [s_rea, if_neg (h1), if_neg (fun q => q.elim (fun z => z h2) (fun z => z h3)), if_neg (fun q => q.1 hq4), if_neg (fun q => h6 q.1), if_neg (h7), if_pos (Int32.not_le.mp h8)], rfl⟩)
            · replace h7 := bI_ne.mp h7
              refine x_iconst (v := 5) F rfl dX3_reasonAgainst_74 ?_
              exact x_iret F hE dX3_reasonAgainst_75 (Nat.le_of_ble_eq_true rfl) (Nat.le_of_ble_eq_true rfl) (⟨by rw [s_rea, if_neg (h1), if_neg (fun q => q.elim (fun z => z h2) (fun z => z h3)), if_neg (fun q => q.1 hq4), if_neg (fun q => h6 q.1), if_pos (h7)], rfl⟩)
          · replace h6 := bI_ne.mp h6
            refine x_aload_n F dX3_reasonAgainst_57 2 rfl rfl ?_
            refine x_callSp (rest := []) F (c_X3_hasTeacher l G A c i hi) k_X3_295 ⟨(Nat.le_of_ble_eq_true rfl), (Nat.le_of_ble_eq_true rfl), rfl, rfl⟩ (Nat.le_of_ble_eq_true rfl) (Nat.le_of_ble_eq_true rfl) dX3_reasonAgainst_58 rfl rfl (Nat.le_of_ble_eq_true rfl) hR ?_
            refine x_if_ne F dX3_reasonAgainst_61 (tgt := 66) (by decide) (fun h11 => ?_) (fun h11 => ?_)
            · replace h11 := bI_ne.mp h11
              refine x_aload_n F dX3_reasonAgainst_66 1 rfl rfl ?_
              refine x_aload_n F dX3_reasonAgainst_67 2 rfl rfl ?_
              refine x_callVp (rest := []) F hR.day rfl (c_X3_isTooWindyFor l G A c i hi) k_X3_314 ⟨(Nat.le_of_ble_eq_true rfl), (Nat.le_of_ble_eq_true rfl), rfl, rfl⟩ (Nat.le_of_ble_eq_true rfl) (Nat.le_of_ble_eq_true rfl) dX3_reasonAgainst_68 rfl rfl (Nat.le_of_ble_eq_true rfl) hR ?_
              refine x_if_eq F dX3_reasonAgainst_71 (tgt := 76) (by decide) (fun h12 => ?_) (fun h12 => ?_)
              · replace h12 := bI_0.mp h12
                refine x_aload_n F dX3_reasonAgainst_76 1 rfl rfl ?_
                refine y_getD (c := c) (j := 11) (v := .int (cD c 11)) F hR mw_92 rfl (by decide) rfl dX3_reasonAgainst_77 ?_
                refine x_aload_n F dX3_reasonAgainst_80 1 rfl rfl ?_
                refine y_getD (c := c) (j := 9) (v := .int (cD c 9)) F hR mw_90 rfl (by decide) rfl dX3_reasonAgainst_81 ?_
                refine x_isub F dX3_reasonAgainst_84 ?_
                refine x_bipush (v := 10) F rfl dX3_reasonAgainst_85 ?_
                refine x_icmp_ge F dX3_reasonAgainst_87 (tgt := 93) (by decide) (fun h13 => ?_) (fun h13 => ?_)
                · have h13' := Int32.not_lt.mpr h13
                  refine x_aload_n F dX3_reasonAgainst_93 1 rfl rfl ?_
                  refine x_aload_n F dX3_reasonAgainst_94 2 rfl rfl ?_
                  refine x_callVp (rest := []) F hR.day rfl (c_X3_hasNothingToLaunch l G A c i hi) k_X3_317 ⟨(Nat.le_of_ble_eq_true rfl), (Nat.le_of_ble_eq_true rfl), rfl, rfl⟩ (Nat.le_of_ble_eq_true rfl) (Nat.le_of_ble_eq_true rfl) dX3_reasonAgainst_95 rfl rfl (Nat.le_of_ble_eq_true rfl) hR ?_
                  refine x_if_eq F dX3_reasonAgainst_98 (tgt := 104) (by decide) (fun h14 => ?_) (fun h14 => ?_)
                  · replace h14 := bI_0.mp h14
                    refine x_aload_n F dX3_reasonAgainst_104 1 rfl rfl ?_
                    refine x_callVp (rest := []) F hR.day rfl (c_X3_isBusy l G A c ) k_X3_320 ⟨(Nat.le_of_ble_eq_true rfl), (Nat.le_of_ble_eq_true rfl), rfl, rfl⟩ (Nat.le_of_ble_eq_true rfl) (Nat.le_of_ble_eq_true rfl) dX3_reasonAgainst_105 rfl rfl (Nat.le_of_ble_eq_true rfl) hR ?_
                    refine x_if_eq F dX3_reasonAgainst_108 (tgt := 116) (by decide) (fun h15 => ?_) (fun h15 => ?_)
                    · replace h15 := bI_0.mp h15
                      refine x_iconst (v := 0) F rfl dX3_reasonAgainst_116 ?_
                      exact x_iret F hE dX3_reasonAgainst_117 (Nat.le_of_ble_eq_true rfl) (Nat.le_of_ble_eq_true rfl) (⟨by rw [s_rea, if_neg (h1), if_neg (fun q => q.elim (fun z => z h2) (fun z => z h3)), if_neg (fun q => q.1 hq4), if_neg (fun q => q.2 h11), if_neg (h12), if_neg (Int32.not_lt.mpr h13), if_neg (h14), if_neg (h15)], rfl⟩)
                    · replace h15 := bI_ne.mp h15
                      refine x_bipush (v := 8) F rfl dX3_reasonAgainst_111 ?_
                      refine x_goto F dX3_reasonAgainst_113 (tgt := 117) (by decide) ?_
                      exact x_iret F hE dX3_reasonAgainst_117 (Nat.le_of_ble_eq_true rfl) (Nat.le_of_ble_eq_true rfl) (⟨by rw [s_rea, if_neg (h1), if_neg (fun q => q.elim (fun z => z h2) (fun z => z h3)), if_neg (fun q => q.1 hq4), if_neg (fun q => q.2 h11), if_neg (h12), if_neg (Int32.not_lt.mpr h13), if_neg (h14), if_pos (h15)], rfl⟩)
                  · replace h14 := bI_ne.mp h14
                    refine x_bipush (v := 7) F rfl dX3_reasonAgainst_101 ?_
                    exact x_iret F hE dX3_reasonAgainst_103 (Nat.le_of_ble_eq_true rfl) (Nat.le_of_ble_eq_true rfl) (⟨by rw [s_rea, if_neg (h1), if_neg (fun q => q.elim (fun z => z h2) (fun z => z h3)), if_neg (fun q => q.1 hq4), if_neg (fun q => q.2 h11), if_neg (h12), if_neg (Int32.not_lt.mpr h13), if_pos (h14)], rfl⟩)
                · have h13' := Int32.not_le.mp h13
                  refine x_bipush (v := 6) F rfl dX3_reasonAgainst_90 ?_
                  exact x_iret F hE dX3_reasonAgainst_92 (Nat.le_of_ble_eq_true rfl) (Nat.le_of_ble_eq_true rfl) (⟨by rw [s_rea, if_neg (h1), if_neg (fun q => q.elim (fun z => z h2) (fun z => z h3)), if_neg (fun q => q.1 hq4), if_neg (fun q => q.2 h11), if_neg (h12), if_pos (Int32.not_le.mp h13)], rfl⟩)
              · replace h12 := bI_ne.mp h12
                refine x_iconst (v := 5) F rfl dX3_reasonAgainst_74 ?_
                exact x_iret F hE dX3_reasonAgainst_75 (Nat.le_of_ble_eq_true rfl) (Nat.le_of_ble_eq_true rfl) (⟨by rw [s_rea, if_neg (h1), if_neg (fun q => q.elim (fun z => z h2) (fun z => z h3)), if_neg (fun q => q.1 hq4), if_neg (fun q => q.2 h11), if_pos (h12)], rfl⟩)
            · replace h11 := bI_0.mp h11
              refine x_iconst (v := 4) F rfl dX3_reasonAgainst_64 ?_
              exact x_iret F hE dX3_reasonAgainst_65 (Nat.le_of_ble_eq_true rfl) (Nat.le_of_ble_eq_true rfl) (⟨by rw [s_rea, if_neg (h1), if_neg (fun q => q.elim (fun z => z h2) (fun z => z h3)), if_neg (fun q => q.1 hq4), if_pos (⟨h6, fun q => h11 q⟩)], rfl⟩)
        · refine y_getF (c := c) (i := i) (j := 2) (v := .ref (ad c 3 s5)) F hR hi nw_284 (by show some (va_rf (Option.map _ ((cR c i).2.1))) = _; rw [hq4]; rfl) (by decide) rfl dX3_reasonAgainst_31 ?_
          refine x_ifnull F dX3_reasonAgainst_34 ?_
          refine x_aload_n F dX3_reasonAgainst_37 0 rfl rfl ?_
          refine y_getG (c := c) (i := (cR c i).2.2) (j := 1) (v := .int (cG c ((cR c i).2.2) 1)) F hR (hR.wf.2.1 _ hi).2.1 nw_308 rfl (by decide) rfl dX3_reasonAgainst_38 ?_
          refine x_iconst (v := 1) F rfl dX3_reasonAgainst_41 ?_
          refine x_icmp_ne F dX3_reasonAgainst_42 (tgt := 47) (by decide) (fun h16 => ?_) (fun h16 => ?_)
          · refine x_aload_n F dX3_reasonAgainst_47 2 rfl rfl ?_
            refine y_getF (c := c) (i := i) (j := 1) (v := .ref (ad c 3 (cR c i).1)) F hR hi nw_279 rfl (by decide) rfl dX3_reasonAgainst_48 ?_
            refine x_callSp (rest := []) F (c_X3_needsTeacher l G A c ((cR c i).1) ((hR.wf.2.1 _ hi).1)) k_X3_311 ⟨(Nat.le_of_ble_eq_true rfl), (Nat.le_of_ble_eq_true rfl), rfl, rfl⟩ (Nat.le_of_ble_eq_true rfl) (Nat.le_of_ble_eq_true rfl) dX3_reasonAgainst_51 rfl rfl (Nat.le_of_ble_eq_true rfl) hR ?_
            refine x_if_eq F dX3_reasonAgainst_54 (tgt := 66) (by decide) (fun h17 => ?_) (fun h17 => ?_)
            · replace h17 := bI_0.mp h17
              refine x_aload_n F dX3_reasonAgainst_66 1 rfl rfl ?_
              refine x_aload_n F dX3_reasonAgainst_67 2 rfl rfl ?_
              refine x_callVp (rest := []) F hR.day rfl (c_X3_isTooWindyFor l G A c i hi) k_X3_314 ⟨(Nat.le_of_ble_eq_true rfl), (Nat.le_of_ble_eq_true rfl), rfl, rfl⟩ (Nat.le_of_ble_eq_true rfl) (Nat.le_of_ble_eq_true rfl) dX3_reasonAgainst_68 rfl rfl (Nat.le_of_ble_eq_true rfl) hR ?_
              refine x_if_eq F dX3_reasonAgainst_71 (tgt := 76) (by decide) (fun h18 => ?_) (fun h18 => ?_)
              · replace h18 := bI_0.mp h18
                refine x_aload_n F dX3_reasonAgainst_76 1 rfl rfl ?_
                refine y_getD (c := c) (j := 11) (v := .int (cD c 11)) F hR mw_92 rfl (by decide) rfl dX3_reasonAgainst_77 ?_
                refine x_aload_n F dX3_reasonAgainst_80 1 rfl rfl ?_
                refine y_getD (c := c) (j := 9) (v := .int (cD c 9)) F hR mw_90 rfl (by decide) rfl dX3_reasonAgainst_81 ?_
                refine x_isub F dX3_reasonAgainst_84 ?_
                refine x_bipush (v := 10) F rfl dX3_reasonAgainst_85 ?_
                refine x_icmp_ge F dX3_reasonAgainst_87 (tgt := 93) (by decide) (fun h19 => ?_) (fun h19 => ?_)
                · have h19' := Int32.not_lt.mpr h19
                  refine x_aload_n F dX3_reasonAgainst_93 1 rfl rfl ?_
                  refine x_aload_n F dX3_reasonAgainst_94 2 rfl rfl ?_
                  refine x_callVp (rest := []) F hR.day rfl (c_X3_hasNothingToLaunch l G A c i hi) k_X3_317 ⟨(Nat.le_of_ble_eq_true rfl), (Nat.le_of_ble_eq_true rfl), rfl, rfl⟩ (Nat.le_of_ble_eq_true rfl) (Nat.le_of_ble_eq_true rfl) dX3_reasonAgainst_95 rfl rfl (Nat.le_of_ble_eq_true rfl) hR ?_
                  refine x_if_eq F dX3_reasonAgainst_98 (tgt := 104) (by decide) (fun h20 => ?_) (fun h20 => ?_)
                  · replace h20 := bI_0.mp h20
                    refine x_aload_n F dX3_reasonAgainst_104 1 rfl rfl ?_
                    refine x_callVp (rest := []) F hR.day rfl (c_X3_isBusy l G A c ) k_X3_320 ⟨(Nat.le_of_ble_eq_true rfl), (Nat.le_of_ble_eq_true rfl), rfl, rfl⟩ (Nat.le_of_ble_eq_true rfl) (Nat.le_of_ble_eq_true rfl) dX3_reasonAgainst_105 rfl rfl (Nat.le_of_ble_eq_true rfl) hR ?_
                    refine x_if_eq F dX3_reasonAgainst_108 (tgt := 116) (by decide) (fun h21 => ?_) (fun h21 => ?_)
                    · replace h21 := bI_0.mp h21
                      refine x_iconst (v := 0) F rfl dX3_reasonAgainst_116 ?_
                      exact x_iret F hE dX3_reasonAgainst_117 (Nat.le_of_ble_eq_true rfl) (Nat.le_of_ble_eq_true rfl) (⟨by rw [s_rea, if_neg (h1), if_neg (fun q => q.elim (fun z => z h2) (fun z => z h3)), if_neg (fun q => h16 q.2), if_neg (fun q => h17 q.1), if_neg (h18), if_neg (Int32.not_lt.mpr h19), if_neg (h20), if_neg (h21)], rfl⟩)
                    · replace h21 := bI_ne.mp h21
                      refine x_bipush (v := 8) F rfl dX3_reasonAgainst_111 ?_
                      refine x_goto F dX3_reasonAgainst_113 (tgt := 117) (by decide) ?_
                      exact x_iret F hE dX3_reasonAgainst_117 (Nat.le_of_ble_eq_true rfl) (Nat.le_of_ble_eq_true rfl) (⟨by rw [s_rea, if_neg (h1), if_neg (fun q => q.elim (fun z => z h2) (fun z => z h3)), if_neg (fun q => h16 q.2), if_neg (fun q => h17 q.1), if_neg (h18), if_neg (Int32.not_lt.mpr h19), if_neg (h20), if_pos (h21)], rfl⟩)
                  · replace h20 := bI_ne.mp h20
                    refine x_bipush (v := 7) F rfl dX3_reasonAgainst_101 ?_
                    exact x_iret F hE dX3_reasonAgainst_103 (Nat.le_of_ble_eq_true rfl) (Nat.le_of_ble_eq_true rfl) (⟨by rw [s_rea, if_neg (h1), if_neg (fun q => q.elim (fun z => z h2) (fun z => z h3)), if_neg (fun q => h16 q.2), if_neg (fun q => h17 q.1), if_neg (h18), if_neg (Int32.not_lt.mpr h19), if_pos (h20)], rfl⟩)
                · have h19' := Int32.not_le.mp h19
                  refine x_bipush (v := 6) F rfl dX3_reasonAgainst_90 ?_
                  exact x_iret F hE dX3_reasonAgainst_92 (Nat.le_of_ble_eq_true rfl) (Nat.le_of_ble_eq_true rfl) (⟨by rw [s_rea, if_neg (h1), if_neg (fun q => q.elim (fun z => z h2) (fun z => z h3)), if_neg (fun q => h16 q.2), if_neg (fun q => h17 q.1), if_neg (h18), if_pos (Int32.not_le.mp h19)], rfl⟩)
              · replace h18 := bI_ne.mp h18
                refine x_iconst (v := 5) F rfl dX3_reasonAgainst_74 ?_
                exact x_iret F hE dX3_reasonAgainst_75 (Nat.le_of_ble_eq_true rfl) (Nat.le_of_ble_eq_true rfl) (⟨by rw [s_rea, if_neg (h1), if_neg (fun q => q.elim (fun z => z h2) (fun z => z h3)), if_neg (fun q => h16 q.2), if_neg (fun q => h17 q.1), if_pos (h18)], rfl⟩)
            · replace h17 := bI_ne.mp h17
              refine x_aload_n F dX3_reasonAgainst_57 2 rfl rfl ?_
              refine x_callSp (rest := []) F (c_X3_hasTeacher l G A c i hi) k_X3_295 ⟨(Nat.le_of_ble_eq_true rfl), (Nat.le_of_ble_eq_true rfl), rfl, rfl⟩ (Nat.le_of_ble_eq_true rfl) (Nat.le_of_ble_eq_true rfl) dX3_reasonAgainst_58 rfl rfl (Nat.le_of_ble_eq_true rfl) hR ?_
              refine x_if_ne F dX3_reasonAgainst_61 (tgt := 66) (by decide) (fun h22 => ?_) (fun h22 => ?_)
              · replace h22 := bI_ne.mp h22
                refine x_aload_n F dX3_reasonAgainst_66 1 rfl rfl ?_
                refine x_aload_n F dX3_reasonAgainst_67 2 rfl rfl ?_
                refine x_callVp (rest := []) F hR.day rfl (c_X3_isTooWindyFor l G A c i hi) k_X3_314 ⟨(Nat.le_of_ble_eq_true rfl), (Nat.le_of_ble_eq_true rfl), rfl, rfl⟩ (Nat.le_of_ble_eq_true rfl) (Nat.le_of_ble_eq_true rfl) dX3_reasonAgainst_68 rfl rfl (Nat.le_of_ble_eq_true rfl) hR ?_
                refine x_if_eq F dX3_reasonAgainst_71 (tgt := 76) (by decide) (fun h23 => ?_) (fun h23 => ?_)
                · replace h23 := bI_0.mp h23
                  refine x_aload_n F dX3_reasonAgainst_76 1 rfl rfl ?_
                  refine y_getD (c := c) (j := 11) (v := .int (cD c 11)) F hR mw_92 rfl (by decide) rfl dX3_reasonAgainst_77 ?_
                  refine x_aload_n F dX3_reasonAgainst_80 1 rfl rfl ?_
                  refine y_getD (c := c) (j := 9) (v := .int (cD c 9)) F hR mw_90 rfl (by decide) rfl dX3_reasonAgainst_81 ?_
                  refine x_isub F dX3_reasonAgainst_84 ?_
                  refine x_bipush (v := 10) F rfl dX3_reasonAgainst_85 ?_
                  refine x_icmp_ge F dX3_reasonAgainst_87 (tgt := 93) (by decide) (fun h24 => ?_) (fun h24 => ?_)
                  · have h24' := Int32.not_lt.mpr h24
                    refine x_aload_n F dX3_reasonAgainst_93 1 rfl rfl ?_
                    refine x_aload_n F dX3_reasonAgainst_94 2 rfl rfl ?_
                    refine x_callVp (rest := []) F hR.day rfl (c_X3_hasNothingToLaunch l G A c i hi) k_X3_317 ⟨(Nat.le_of_ble_eq_true rfl), (Nat.le_of_ble_eq_true rfl), rfl, rfl⟩ (Nat.le_of_ble_eq_true rfl) (Nat.le_of_ble_eq_true rfl) dX3_reasonAgainst_95 rfl rfl (Nat.le_of_ble_eq_true rfl) hR ?_
                    refine x_if_eq F dX3_reasonAgainst_98 (tgt := 104) (by decide) (fun h25 => ?_) (fun h25 => ?_)
                    · replace h25 := bI_0.mp h25
                      refine x_aload_n F dX3_reasonAgainst_104 1 rfl rfl ?_
                      refine x_callVp (rest := []) F hR.day rfl (c_X3_isBusy l G A c ) k_X3_320 ⟨(Nat.le_of_ble_eq_true rfl), (Nat.le_of_ble_eq_true rfl), rfl, rfl⟩ (Nat.le_of_ble_eq_true rfl) (Nat.le_of_ble_eq_true rfl) dX3_reasonAgainst_105 rfl rfl (Nat.le_of_ble_eq_true rfl) hR ?_
                      refine x_if_eq F dX3_reasonAgainst_108 (tgt := 116) (by decide) (fun h26 => ?_) (fun h26 => ?_)
                      · replace h26 := bI_0.mp h26
                        refine x_iconst (v := 0) F rfl dX3_reasonAgainst_116 ?_
                        exact x_iret F hE dX3_reasonAgainst_117 (Nat.le_of_ble_eq_true rfl) (Nat.le_of_ble_eq_true rfl) (⟨by rw [s_rea, if_neg (h1), if_neg (fun q => q.elim (fun z => z h2) (fun z => z h3)), if_neg (fun q => h16 q.2), if_neg (fun q => q.2 h22), if_neg (h23), if_neg (Int32.not_lt.mpr h24), if_neg (h25), if_neg (h26)], rfl⟩)
                      · replace h26 := bI_ne.mp h26
                        refine x_bipush (v := 8) F rfl dX3_reasonAgainst_111 ?_
                        refine x_goto F dX3_reasonAgainst_113 (tgt := 117) (by decide) ?_
                        exact x_iret F hE dX3_reasonAgainst_117 (Nat.le_of_ble_eq_true rfl) (Nat.le_of_ble_eq_true rfl) (⟨by rw [s_rea, if_neg (h1), if_neg (fun q => q.elim (fun z => z h2) (fun z => z h3)), if_neg (fun q => h16 q.2), if_neg (fun q => q.2 h22), if_neg (h23), if_neg (Int32.not_lt.mpr h24), if_neg (h25), if_pos (h26)], rfl⟩)
                    · replace h25 := bI_ne.mp h25
                      refine x_bipush (v := 7) F rfl dX3_reasonAgainst_101 ?_
                      exact x_iret F hE dX3_reasonAgainst_103 (Nat.le_of_ble_eq_true rfl) (Nat.le_of_ble_eq_true rfl) (⟨by rw [s_rea, if_neg (h1), if_neg (fun q => q.elim (fun z => z h2) (fun z => z h3)), if_neg (fun q => h16 q.2), if_neg (fun q => q.2 h22), if_neg (h23), if_neg (Int32.not_lt.mpr h24), if_pos (h25)], rfl⟩)
                  · have h24' := Int32.not_le.mp h24
                    refine x_bipush (v := 6) F rfl dX3_reasonAgainst_90 ?_
                    exact x_iret F hE dX3_reasonAgainst_92 (Nat.le_of_ble_eq_true rfl) (Nat.le_of_ble_eq_true rfl) (⟨by rw [s_rea, if_neg (h1), if_neg (fun q => q.elim (fun z => z h2) (fun z => z h3)), if_neg (fun q => h16 q.2), if_neg (fun q => q.2 h22), if_neg (h23), if_pos (Int32.not_le.mp h24)], rfl⟩)
                · replace h23 := bI_ne.mp h23
                  refine x_iconst (v := 5) F rfl dX3_reasonAgainst_74 ?_
                  exact x_iret F hE dX3_reasonAgainst_75 (Nat.le_of_ble_eq_true rfl) (Nat.le_of_ble_eq_true rfl) (⟨by rw [s_rea, if_neg (h1), if_neg (fun q => q.elim (fun z => z h2) (fun z => z h3)), if_neg (fun q => h16 q.2), if_neg (fun q => q.2 h22), if_pos (h23)], rfl⟩)
              · replace h22 := bI_0.mp h22
                refine x_iconst (v := 4) F rfl dX3_reasonAgainst_64 ?_
                exact x_iret F hE dX3_reasonAgainst_65 (Nat.le_of_ble_eq_true rfl) (Nat.le_of_ble_eq_true rfl) (⟨by rw [s_rea, if_neg (h1), if_neg (fun q => q.elim (fun z => z h2) (fun z => z h3)), if_neg (fun q => h16 q.2), if_pos (⟨h17, fun q => h22 q⟩)], rfl⟩)
          · refine x_iconst (v := 3) F rfl dX3_reasonAgainst_45 ?_
            exact x_iret F hE dX3_reasonAgainst_46 (Nat.le_of_ble_eq_true rfl) (Nat.le_of_ble_eq_true rfl) (⟨by rw [s_rea, if_neg (h1), if_neg (fun q => q.elim (fun z => z h2) (fun z => z h3)), if_pos (⟨fun z => (by rw [hq4] at z; cases z), h16⟩)], rfl⟩)
      · refine x_iconst (v := 2) F rfl dX3_reasonAgainst_28 ?_
        exact x_iret F hE dX3_reasonAgainst_29 (Nat.le_of_ble_eq_true rfl) (Nat.le_of_ble_eq_true rfl) (⟨by rw [s_rea, if_neg (h1), if_pos (Or.inr h3)], rfl⟩)
  · replace h1 := bI_ne.mp h1
    refine x_iconst (v := 1) F rfl dX3_reasonAgainst_12 ?_
    exact x_iret F hE dX3_reasonAgainst_13 (Nat.le_of_ble_eq_true rfl) (Nat.le_of_ble_eq_true rfl) (⟨by rw [s_rea, if_pos (h1)], rfl⟩)
set_option maxHeartbeats 4000000 in
set_option maxRecDepth 100000 in
theorem c_X3_mustLand (l : Launch) (G : GT) (A : Nat → Prop) (c : CS) (i : Nat) (hi : i < ng c) : Ct l yX3_mustLand cX3_mustLand 3 (some .boolean) ({ frames := 0, cells := 0, slots := 0, locals := 0 } : Room) G A [.ref (ad c 0 0), .ref (ad c 4 i)] (fun H => Rep G A c H) (Pu (.int (bI (s_must c i = true)))) := by
  refine ct_of (own := "GliderDay") (by decide +kernel) rfl (Nat.le_of_ble_eq_true rfl) (fun E H0 F hE hR => ?_)
  show wx E H0 0 0 0 [(0, .ref (ad c 0 0)), (1, .ref (ad c 4 i))] []
  refine x_aload_n F dX3_mustLand_0 1 rfl rfl ?_
  rcases hq1 : cgF c i with _ | s2
  · refine y_getG (c := c) (i := i) (j := 9) (v := .null) F hR hi nw_195 (by show some (va_rf (Option.map _ (cgF c i))) = _; rw [hq1]; rfl) (by decide) rfl dX3_mustLand_1 ?_
    refine x_astore_nN (lv' := [(2, .null), (0, .ref (ad c 0 0)), (1, .ref (ad c 4 i))]) F dX3_mustLand_4 rfl (by decide) rfl ?_
    refine x_aload_nN F dX3_mustLand_5 0 rfl rfl ?_
    refine x_ifnullN F dX3_mustLand_6 (tgt := 47) (by decide) ?_
    refine x_iconst (v := 0) F rfl dX3_mustLand_47 ?_
    exact x_zret F rfl hE dX3_mustLand_48 (Nat.le_of_ble_eq_true rfl) (Nat.le_of_ble_eq_true rfl) (⟨by rw [bI_f (by first | (simp [s_must, hq1]; done) | (exfalso; simp_all; done))], rfl⟩)
  · refine y_getG (c := c) (i := i) (j := 9) (v := .ref (ad c 5 s2)) F hR hi nw_195 (by show some (va_rf (Option.map _ (cgF c i))) = _; rw [hq1]; rfl) (by decide) rfl dX3_mustLand_1 ?_
    refine x_astore_n (lv' := [(2, .ref (ad c 5 s2)), (0, .ref (ad c 0 0)), (1, .ref (ad c 4 i))]) F dX3_mustLand_4 rfl (by decide) rfl ?_
    refine x_aload_n F dX3_mustLand_5 0 rfl rfl ?_
    refine x_ifnull F dX3_mustLand_6 ?_
    refine x_aload_n F dX3_mustLand_9 2 rfl rfl ?_
    refine y_getG (c := c) (i := i) (j := 6) (v := .int (cG c i 6)) F hR hi nw_201 rfl (by decide) rfl dX3_mustLand_10 ?_
    refine x_if_ne F dX3_mustLand_13 (tgt := 43) (by decide) (fun h3 => ?_) (fun h3 => ?_)
    · refine x_iconst (v := 1) F rfl dX3_mustLand_43 ?_
      refine x_goto F dX3_mustLand_44 (tgt := 48) (by decide) ?_
      exact x_zret F rfl hE dX3_mustLand_48 (Nat.le_of_ble_eq_true rfl) (Nat.le_of_ble_eq_true rfl) (⟨by rw [bI_t (by first | (simp [s_must, hq1, h3]; done) | (exfalso; simp_all; done))], rfl⟩)
    · refine x_aload_n F dX3_mustLand_16 1 rfl rfl ?_
      refine y_getD (c := c) (j := 9) (v := .int (cD c 9)) F hR mw_90 rfl (by decide) rfl dX3_mustLand_17 ?_
      refine x_aload_n F dX3_mustLand_20 1 rfl rfl ?_
      refine y_getD (c := c) (j := 11) (v := .int (cD c 11)) F hR mw_92 rfl (by decide) rfl dX3_mustLand_21 ?_
      refine x_icmp_ge F dX3_mustLand_24 (tgt := 43) (by decide) (fun h4 => ?_) (fun h4 => ?_)
      · have h4' := Int32.not_lt.mpr h4
        refine x_iconst (v := 1) F rfl dX3_mustLand_43 ?_
        refine x_goto F dX3_mustLand_44 (tgt := 48) (by decide) ?_
        exact x_zret F rfl hE dX3_mustLand_48 (Nat.le_of_ble_eq_true rfl) (Nat.le_of_ble_eq_true rfl) (⟨by rw [bI_t (by first | (simp [s_must, hq1, h3, h4, h4']; done) | (exfalso; simp_all; done))], rfl⟩)
      · have h4' := Int32.not_le.mp h4
        refine x_aload_n F dX3_mustLand_27 1 rfl rfl ?_
        refine y_getD (c := c) (j := 9) (v := .int (cD c 9)) F hR mw_90 rfl (by decide) rfl dX3_mustLand_28 ?_
        refine x_aload_n F dX3_mustLand_31 0 rfl rfl ?_
        refine y_getF (c := c) (i := s2) (j := 8) (v := .int (cF c s2 8)) F hR (hR.wf.2.2.1 _ hi _ hq1) nw_204 rfl (by decide) rfl dX3_mustLand_32 ?_
        refine x_isub F dX3_mustLand_35 ?_
        refine x_aload_n F dX3_mustLand_36 0 rfl rfl ?_
        refine y_getF (c := c) (i := s2) (j := 5) (v := .int (cF c s2 5)) F hR (hR.wf.2.2.1 _ hi _ hq1) nw_164 rfl (by decide) rfl dX3_mustLand_37 ?_
        refine x_icmp_lt F dX3_mustLand_40 (tgt := 47) (by decide) (fun h5 => ?_) (fun h5 => ?_)
        · have h5' := Int32.not_le.mpr h5
          refine x_iconst (v := 0) F rfl dX3_mustLand_47 ?_
          exact x_zret F rfl hE dX3_mustLand_48 (Nat.le_of_ble_eq_true rfl) (Nat.le_of_ble_eq_true rfl) (⟨by rw [bI_f (by first | (simp [s_must, hq1, h3, h4, h4', h5, h5']; done) | (exfalso; simp_all; done))], rfl⟩)
        · have h5' := Int32.not_lt.mp h5
          refine x_iconst (v := 1) F rfl dX3_mustLand_43 ?_
          refine x_goto F dX3_mustLand_44 (tgt := 48) (by decide) ?_
          exact x_zret F rfl hE dX3_mustLand_48 (Nat.le_of_ble_eq_true rfl) (Nat.le_of_ble_eq_true rfl) (⟨by rw [bI_t (by first | (simp [s_must, hq1, h3, h4, h4', h5, h5']; done) | (exfalso; simp_all; done))], rfl⟩)
set_option maxHeartbeats 4000000 in
set_option maxRecDepth 100000 in
theorem c_X3_launchPrice (l : Launch) (G : GT) (A : Nat → Prop) (x : Int32) : Ct l yX3_launchPrice cX3_launchPrice 1 (some .int) ({ frames := 0, cells := 0, slots := 0, locals := 0 } : Room) G A [.int x] (fun H => True) (Pu (.int (s_price x))) := by
  refine ct_of (own := "GliderDay") (by decide +kernel) rfl (Nat.le_of_ble_eq_true rfl) (fun E H0 F hE _ => ?_)
  show wx E H0 0 0 0 [(0, .int x)] []
  refine x_iload_n F dX3_launchPrice_0 0 rfl rfl ?_
  refine x_if_ne F dX3_launchPrice_1 (tgt := 9) (by decide) (fun h1 => ?_) (fun h1 => ?_)
  · refine x_iload_n F dX3_launchPrice_9 0 rfl rfl ?_
    refine x_bipush (v := 20) F rfl dX3_launchPrice_10 ?_
    refine x_idiv F dX3_launchPrice_12 (by decide) ?_
    exact x_iret F hE dX3_launchPrice_13 (Nat.le_of_ble_eq_true rfl) (Nat.le_of_ble_eq_true rfl) (⟨by simp [s_price, h1], rfl⟩)
  · refine x_bipush (v := 8) F rfl dX3_launchPrice_4 ?_
    refine x_goto F dX3_launchPrice_6 (tgt := 13) (by decide) ?_
    exact x_iret F hE dX3_launchPrice_13 (Nat.le_of_ble_eq_true rfl) (Nat.le_of_ble_eq_true rfl) (⟨by simp [s_price, h1], rfl⟩)
end CL
