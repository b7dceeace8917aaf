/-! the reference's public methods -/
section MD7
def m_wc (m : MS) (n : Nat) : Int32 := sumN n (fun g => if 0 < mZ m 18 g then 1 else 0)
def m_cnt (m : MS) (w : Int32) : Int32 := if w = 0 then mY m 9 else if w = 1 then mY m 12 else if w = 2 then mY m 20 else if w = 3 then sumN (mf m) (fun f => if mZ m 29 f = 0 then 1 else 0) else if w = 4 then sumN (mf m) (fun f => if mZ m 29 f = 1 then 1 else 0) else if w = 6 then mY m 5 else if w = 7 then mY m 7 - m_tk m else m_wc m 8
theorem is_ok {x : Int32} {n : Nat} (h : 0 ≤ x ∧ x ≤ nI n - 1) (hn : n ≤ 1000) : tN x < n ∧ nI (tN x) = x := by
  rcases n with _ | n
  · exact absurd (Int32.le_trans h.1 h.2) (by decide)
  · have e : nI (n + 1) - 1 = nI n := nI_sub1 n
    rw [e] at h
    exact tN_ok h.1 (Int32.lt_of_le_of_lt h.2 (nI_lt (Nat.lt_succ_self n) (by omega))) (by omega)
/-! what they give and leave; m has thrown = 0 already -/
def q_setWind (m : MS) (x : Int32) : Int32 × MS := if 0 ≤ x ∧ x ≤ 40 then (mY m 2, sY m 2 x) else (0, sY m 0 1)
def q_setSunset (m : MS) (x : Int32) : Int32 × MS := if 0 ≤ x ∧ x ≤ 1500 then (mY m 3, sY m 3 x) else (0, sY m 0 1)
def q_setTugs (m : MS) (x : Int32) : Int32 × MS := if 0 ≤ x ∧ x ≤ 2 then (if x < m_tk m then (0, sY m 0 2) else (x - m_tk m, sY m 7 x)) else (0, sY m 0 1)
def q_bill (m : MS) (x : Int32) : Int32 × MS := if 0 ≤ x ∧ x ≤ mY m 9 - 1 then (m_bill m (tN x), m) else (0, sY m 0 1)
def q_addMember (m : MS) (v : Int32) : Int32 × MS := if 0 ≤ v ∧ v ≤ 3 then (if mY m 9 = 16 then (0, sY m 0 2) else (mY m 9 + 1 - 1, sY (sZ m 10 (mm m) v) 9 (mY m 9 + 1))) else (0, sY m 0 1)
theorem k_X4_94 : cwV_ "GliderDayModel" 94 "GliderDayModel" yX4_no cX4_no 2 (some .int) 1 := ⟨mw_902, mw_904, mw_32, mw_59, mw_905, ⟨by decide +kernel, by decide +kernel, by decide +kernel⟩⟩
theorem k_X4_112 : cwV_ "GliderDayModel" 112 "GliderDayModel" yX4_isMember cX4_isMember 2 (some .boolean) 1 := ⟨mw_942, mw_944, mw_36, mw_59, mw_945, ⟨by decide +kernel, by decide +kernel, by decide +kernel⟩⟩
theorem k_X4_183 : cwV_ "GliderDayModel" 183 "GliderDayModel" yX4_billOf cX4_billOf 4 (some .int) 1 := ⟨mw_1066, mw_1068, mw_53, mw_59, mw_1069, ⟨by decide +kernel, by decide +kernel, by decide +kernel⟩⟩
set_option maxHeartbeats 4000000 in
set_option maxRecDepth 100000 in
theorem c_X4_setWind (l : Launch) (G : GT) (A : Nat → Prop) (m : MS) (hW : WfM m) (x : Int32) : Ct l yX4_setWind cX4_setWind 3 (some .int) ({ frames := 1, cells := 0, slots := 0, locals := 22 } : Room) G A [.ref (ma m 30), .int x] (fun H => RepM G A m H) (fun H r H1 => r = some (.int (q_setWind (sY m 0 0) x).1) ∧ RepM G A ((q_setWind (sY m 0 0) x).2) H1) := by
  refine ct_of (own := "GliderDayModel") (by decide +kernel) rfl (Nat.le_of_ble_eq_true rfl) (fun E H0 F hE hR => ?_)
  show wx E H0 0 0 0 [(0, .ref (ma m 30)), (1, .int x)] []
  refine x_aload_n F dX4_setWind_0 0 rfl rfl ?_
  refine x_iconst (v := 0) F rfl dX4_setWind_1 ?_
  refine z_put (m := m) (j := 0) (v := 0) F hR mw_799 rfl (by decide) rfl rfl rfl dX4_setWind_2 (fun H1 hR2 => ?_)
  obtain ⟨z, hz⟩ : ∃ z, z = sY m 0 0 := ⟨_, rfl⟩
  have hW : WfM z := by rw [hz]; exact Same.wf (Same.Y (by decide)) hW
  rw [← hz] at hR2
  refine wx_lv (lv' := [(0, .ref (ma z 30)), (1, .int x)]) (by rw [hz]; rfl) ?_
  refine x_iload_n F dX4_setWind_5 1 rfl rfl ?_
  refine x_iconst (v := 0) F rfl dX4_setWind_6 ?_
  refine x_bipush (v := 40) F rfl dX4_setWind_7 ?_
  refine x_callSp (rest := []) F (c_X4_isIn l G A x 0 40) k_X4_84 ⟨(Nat.le_of_ble_eq_true rfl), (Nat.le_of_ble_eq_true rfl), rfl, rfl⟩ (Nat.le_of_ble_eq_true rfl) (Nat.le_of_ble_eq_true rfl) dX4_setWind_9 rfl rfl (Nat.le_of_ble_eq_true rfl) trivial ?_
  refine x_if_ne F dX4_setWind_12 (tgt := 21) (by decide) (fun h3 => ?_) (fun h3 => ?_)
  · replace h3 := bI_ne.mp h3
    refine x_aload_n F dX4_setWind_21 0 rfl rfl ?_
    refine z_get (m := z) (j := 2) (v := .int (mY z 2)) F hR2 mw_801 rfl (by decide) rfl dX4_setWind_22 ?_
    refine x_istore_n (lv' := [(2, .int (mY z 2)), (0, .ref (ma z 30)), (1, .int x)]) F dX4_setWind_25 rfl (by decide) rfl ?_
    refine x_aload_n F dX4_setWind_26 1 rfl rfl ?_
    refine x_iload_n F dX4_setWind_27 2 rfl rfl ?_
    refine z_put (m := z) (j := 2) (v := x) F hR2 mw_801 rfl (by decide) rfl rfl rfl dX4_setWind_28 (fun H4 hR5 => ?_)
    refine x_iload_n F dX4_setWind_31 0 rfl rfl ?_
    have ho : q_setWind z x = (mY z 2, sY z 2 x) := by first | (simp [q_setWind, h3]; done) | (simp [q_setWind, h3]; rfl)
    exact x_iret F hE dX4_setWind_32 (Nat.le_of_ble_eq_true rfl) (Nat.le_of_ble_eq_true rfl) (⟨by rw [← hz, ho], by rw [← hz, ho]; exact hR5⟩)
  · replace h3 := bI_0.mp h3
    refine x_aload_n F dX4_setWind_15 0 rfl rfl ?_
    refine x_iconst (v := 1) F rfl dX4_setWind_16 ?_
    refine x_callVs (rest := []) F hR2.2.2.1 rfl (c_X4_no l G A z 1) k_X4_94 ⟨⟨(Nat.le_of_ble_eq_true rfl), (Nat.le_of_ble_eq_true rfl)⟩, (Nat.le_of_ble_eq_true rfl), (Nat.le_of_ble_eq_true rfl)⟩ dX4_setWind_17 rfl rfl (Nat.le_of_ble_eq_true rfl) hR2 ?_
    rintro _ H6 ⟨rfl, hR7⟩ - -
    have ho : q_setWind z x = (0, sY z 0 1) := by first | (simp [q_setWind, h3]; done) | (simp [q_setWind, h3]; rfl)
    exact x_iret F hE dX4_setWind_20 (Nat.le_of_ble_eq_true rfl) (Nat.le_of_ble_eq_true rfl) (⟨by rw [← hz, ho], by rw [← hz, ho]; exact hR7⟩)
set_option maxHeartbeats 4000000 in
set_option maxRecDepth 100000 in
theorem c_X4_setSunset (l : Launch) (G : GT) (A : Nat → Prop) (m : MS) (hW : WfM m) (x : Int32) : Ct l yX4_setSunset cX4_setSunset 3 (some .int) ({ frames := 1, cells := 0, slots := 0, locals := 22 } : Room) G A [.ref (ma m 30), .int x] (fun H => RepM G A m H) (fun H r H1 => r = some (.int (q_setSunset (sY m 0 0) x).1) ∧ RepM G A ((q_setSunset (sY m 0 0) x).2) H1) := by
  refine ct_of (own := "GliderDayModel") (by decide +kernel) rfl (Nat.le_of_ble_eq_true rfl) (fun E H0 F hE hR => ?_)
  show wx E H0 0 0 0 [(0, .ref (ma m 30)), (1, .int x)] []
  refine x_aload_n F dX4_setSunset_0 0 rfl rfl ?_
  refine x_iconst (v := 0) F rfl dX4_setSunset_1 ?_
  refine z_put (m := m) (j := 0) (v := 0) F hR mw_799 rfl (by decide) rfl rfl rfl dX4_setSunset_2 (fun H1 hR2 => ?_)
  obtain ⟨z, hz⟩ : ∃ z, z = sY m 0 0 := ⟨_, rfl⟩
  have hW : WfM z := by rw [hz]; exact Same.wf (Same.Y (by decide)) hW
  rw [← hz] at hR2
  refine wx_lv (lv' := [(0, .ref (ma z 30)), (1, .int x)]) (by rw [hz]; rfl) ?_
  refine x_iload_n F dX4_setSunset_5 1 rfl rfl ?_
  refine x_iconst (v := 0) F rfl dX4_setSunset_6 ?_
  refine x_sipush (v := 1500) F rfl dX4_setSunset_7 ?_
  refine x_callSp (rest := []) F (c_X4_isIn l G A x 0 1500) k_X4_84 ⟨(Nat.le_of_ble_eq_true rfl), (Nat.le_of_ble_eq_true rfl), rfl, rfl⟩ (Nat.le_of_ble_eq_true rfl) (Nat.le_of_ble_eq_true rfl) dX4_setSunset_10 rfl rfl (Nat.le_of_ble_eq_true rfl) trivial ?_
  refine x_if_ne F dX4_setSunset_13 (tgt := 22) (by decide) (fun h3 => ?_) (fun h3 => ?_)
  · replace h3 := bI_ne.mp h3
    refine x_aload_n F dX4_setSunset_22 0 rfl rfl ?_
    refine z_get (m := z) (j := 3) (v := .int (mY z 3)) F hR2 mw_802 rfl (by decide) rfl dX4_setSunset_23 ?_
    refine x_istore_n (lv' := [(2, .int (mY z 3)), (0, .ref (ma z 30)), (1, .int x)]) F dX4_setSunset_26 rfl (by decide) rfl ?_
    refine x_aload_n F dX4_setSunset_27 1 rfl rfl ?_
    refine x_iload_n F dX4_setSunset_28 2 rfl rfl ?_
    refine z_put (m := z) (j := 3) (v := x) F hR2 mw_802 rfl (by decide) rfl rfl rfl dX4_setSunset_29 (fun H4 hR5 => ?_)
    refine x_iload_n F dX4_setSunset_32 0 rfl rfl ?_
    have ho : q_setSunset z x = (mY z 3, sY z 3 x) := by first | (simp [q_setSunset, h3]; done) | (simp [q_setSunset, h3]; rfl)
    exact x_iret F hE dX4_setSunset_33 (Nat.le_of_ble_eq_true rfl) (Nat.le_of_ble_eq_true rfl) (⟨by rw [← hz, ho], by rw [← hz, ho]; exact hR5⟩)
  · replace h3 := bI_0.mp h3
    refine x_aload_n F dX4_setSunset_16 0 rfl rfl ?_
    refine x_iconst (v := 1) F rfl dX4_setSunset_17 ?_
    refine x_callVs (rest := []) F hR2.2.2.1 rfl (c_X4_no l G A z 1) k_X4_94 ⟨⟨(Nat.le_of_ble_eq_true rfl), (Nat.le_of_ble_eq_true rfl)⟩, (Nat.le_of_ble_eq_true rfl), (Nat.le_of_ble_eq_true rfl)⟩ dX4_setSunset_18 rfl rfl (Nat.le_of_ble_eq_true rfl) hR2 ?_
    rintro _ H6 ⟨rfl, hR7⟩ - -
    have ho : q_setSunset z x = (0, sY z 0 1) := by first | (simp [q_setSunset, h3]; done) | (simp [q_setSunset, h3]; rfl)
    exact x_iret F hE dX4_setSunset_21 (Nat.le_of_ble_eq_true rfl) (Nat.le_of_ble_eq_true rfl) (⟨by rw [← hz, ho], by rw [← hz, ho]; exact hR7⟩)
set_option maxHeartbeats 4000000 in
set_option maxRecDepth 100000 in
theorem c_X4_setTugs (l : Launch) (G : GT) (A : Nat → Prop) (m : MS) (hW : WfM m) (x : Int32) : Ct l yX4_setTugs cX4_setTugs 2 (some .int) ({ frames := 1, cells := 0, slots := 0, locals := 22 } : Room) G A [.ref (ma m 30), .int x] (fun H => RepM G A m H) (fun H r H1 => r = some (.int (q_setTugs (sY m 0 0) x).1) ∧ RepM G A ((q_setTugs (sY m 0 0) x).2) H1) := by
  refine ct_of (own := "GliderDayModel") (by decide +kernel) rfl (Nat.le_of_ble_eq_true rfl) (fun E H0 F hE hR => ?_)
  show wx E H0 0 0 0 [(0, .ref (ma m 30)), (1, .int x)] []
  refine x_aload_n F dX4_setTugs_0 0 rfl rfl ?_
  refine x_iconst (v := 0) F rfl dX4_setTugs_1 ?_
  refine z_put (m := m) (j := 0) (v := 0) F hR mw_799 rfl (by decide) rfl rfl rfl dX4_setTugs_2 (fun H1 hR2 => ?_)
  obtain ⟨z, hz⟩ : ∃ z, z = sY m 0 0 := ⟨_, rfl⟩
  have hW : WfM z := by rw [hz]; exact Same.wf (Same.Y (by decide)) hW
  rw [← hz] at hR2
  refine wx_lv (lv' := [(0, .ref (ma z 30)), (1, .int x)]) (by rw [hz]; rfl) ?_
  refine x_iload_n F dX4_setTugs_5 1 rfl rfl ?_
  refine x_iconst (v := 0) F rfl dX4_setTugs_6 ?_
  refine x_iconst (v := 2) F rfl dX4_setTugs_7 ?_
  refine x_callSp (rest := []) F (c_X4_isIn l G A x 0 2) k_X4_84 ⟨(Nat.le_of_ble_eq_true rfl), (Nat.le_of_ble_eq_true rfl), rfl, rfl⟩ (Nat.le_of_ble_eq_true rfl) (Nat.le_of_ble_eq_true rfl) dX4_setTugs_8 rfl rfl (Nat.le_of_ble_eq_true rfl) trivial ?_
  refine x_if_ne F dX4_setTugs_11 (tgt := 20) (by decide) (fun h3 => ?_) (fun h3 => ?_)
  · replace h3 := bI_ne.mp h3
    refine x_aload_n F dX4_setTugs_20 0 rfl rfl ?_
    refine x_callVp (rest := []) F hR2.2.2.1 rfl (c_X4_takenTugs l G A z ) k_X4_98 ⟨(Nat.le_of_ble_eq_true rfl), (Nat.le_of_ble_eq_true rfl), rfl, rfl⟩ (Nat.le_of_ble_eq_true rfl) (Nat.le_of_ble_eq_true rfl) dX4_setTugs_21 rfl rfl (Nat.le_of_ble_eq_true rfl) hR2 ?_
    refine x_iload_n F dX4_setTugs_24 1 rfl rfl ?_
    refine x_icmp_le F dX4_setTugs_25 (tgt := 34) (by decide) (fun h4 => ?_) (fun h4 => ?_)
    · have h4' := Int32.not_lt.mpr h4
      refine x_aload_n F dX4_setTugs_34 0 rfl rfl ?_
      refine x_iload_n F dX4_setTugs_35 1 rfl rfl ?_
      refine z_put (m := z) (j := 7) (v := x) F hR2 mw_806 rfl (by decide) rfl rfl rfl dX4_setTugs_36 (fun H5 hR6 => ?_)
      refine x_iload_n F dX4_setTugs_39 1 rfl rfl ?_
      refine x_aload_n F dX4_setTugs_40 0 rfl rfl ?_
      refine x_callVp (rest := [.int x]) F hR6.2.2.1 rfl (c_X4_takenTugs l G A (sY z 7 x) ) k_X4_98 ⟨(Nat.le_of_ble_eq_true rfl), (Nat.le_of_ble_eq_true rfl), rfl, rfl⟩ (Nat.le_of_ble_eq_true rfl) (Nat.le_of_ble_eq_true rfl) dX4_setTugs_41 rfl rfl (Nat.le_of_ble_eq_true rfl) hR6 ?_
      refine x_isub F dX4_setTugs_44 ?_
      have ho : q_setTugs z x = (x - (m_tk (sY z 7 x)), sY z 7 x) := by first | (simp [q_setTugs, h3, h4, h4']; done) | (simp [q_setTugs, h3, h4, h4']; rfl)
      exact x_iret F hE dX4_setTugs_45 (Nat.le_of_ble_eq_true rfl) (Nat.le_of_ble_eq_true rfl) (⟨by rw [← hz, ho], by rw [← hz, ho]; exact hR6⟩)
    · have h4' := Int32.not_le.mp h4
      refine x_aload_n F dX4_setTugs_28 0 rfl rfl ?_
      refine x_iconst (v := 2) F rfl dX4_setTugs_29 ?_
      refine x_callVs (rest := []) F hR2.2.2.1 rfl (c_X4_no l G A z 2) k_X4_94 ⟨⟨(Nat.le_of_ble_eq_true rfl), (Nat.le_of_ble_eq_true rfl)⟩, (Nat.le_of_ble_eq_true rfl), (Nat.le_of_ble_eq_true rfl)⟩ dX4_setTugs_30 rfl rfl (Nat.le_of_ble_eq_true rfl) hR2 ?_
      rintro _ H7 ⟨rfl, hR8⟩ - -
      have ho : q_setTugs z x = (0, sY z 0 2) := by first | (simp [q_setTugs, h3, h4, h4']; done) | (simp [q_setTugs, h3, h4, h4']; rfl)
      exact x_iret F hE dX4_setTugs_33 (Nat.le_of_ble_eq_true rfl) (Nat.le_of_ble_eq_true rfl) (⟨by rw [← hz, ho], by rw [← hz, ho]; exact hR8⟩)
  · replace h3 := bI_0.mp h3
    refine x_aload_n F dX4_setTugs_14 0 rfl rfl ?_
    refine x_iconst (v := 1) F rfl dX4_setTugs_15 ?_
    refine x_callVs (rest := []) F hR2.2.2.1 rfl (c_X4_no l G A z 1) k_X4_94 ⟨⟨(Nat.le_of_ble_eq_true rfl), (Nat.le_of_ble_eq_true rfl)⟩, (Nat.le_of_ble_eq_true rfl), (Nat.le_of_ble_eq_true rfl)⟩ dX4_setTugs_16 rfl rfl (Nat.le_of_ble_eq_true rfl) hR2 ?_
    rintro _ H9 ⟨rfl, hR10⟩ - -
    have ho : q_setTugs z x = (0, sY z 0 1) := by first | (simp [q_setTugs, h3]; done) | (simp [q_setTugs, h3]; rfl)
    exact x_iret F hE dX4_setTugs_19 (Nat.le_of_ble_eq_true rfl) (Nat.le_of_ble_eq_true rfl) (⟨by rw [← hz, ho], by rw [← hz, ho]; exact hR10⟩)
set_option maxHeartbeats 4000000 in
set_option maxRecDepth 100000 in
theorem c_X4_bill (l : Launch) (G : GT) (A : Nat → Prop) (m : MS) (hW : WfM m) (x : Int32) : Ct l yX4_bill cX4_bill 2 (some .int) ({ frames := 3, cells := 0, slots := 0, locals := 59 } : Room) G A [.ref (ma m 30), .int x] (fun H => RepM G A m H) (fun H r H1 => r = some (.int (q_bill (sY m 0 0) x).1) ∧ RepM G A ((q_bill (sY m 0 0) x).2) H1) := by
  refine ct_of (own := "GliderDayModel") (by decide +kernel) rfl (Nat.le_of_ble_eq_true rfl) (fun E H0 F hE hR => ?_)
  show wx E H0 0 0 0 [(0, .ref (ma m 30)), (1, .int x)] []
  refine x_aload_n F dX4_bill_0 0 rfl rfl ?_
  refine x_iconst (v := 0) F rfl dX4_bill_1 ?_
  refine z_put (m := m) (j := 0) (v := 0) F hR mw_799 rfl (by decide) rfl rfl rfl dX4_bill_2 (fun H1 hR2 => ?_)
  obtain ⟨z, hz⟩ : ∃ z, z = sY m 0 0 := ⟨_, rfl⟩
  have hW : WfM z := by rw [hz]; exact Same.wf (Same.Y (by decide)) hW
  rw [← hz] at hR2
  refine wx_lv (lv' := [(0, .ref (ma z 30)), (1, .int x)]) (by rw [hz]; rfl) ?_
  refine x_aload_n F dX4_bill_5 0 rfl rfl ?_
  refine x_iload_n F dX4_bill_6 1 rfl rfl ?_
  refine x_callVp (rest := []) F hR2.2.2.1 rfl (c_X4_isMember l G A z x) k_X4_112 ⟨(Nat.le_of_ble_eq_true rfl), (Nat.le_of_ble_eq_true rfl), rfl, rfl⟩ (Nat.le_of_ble_eq_true rfl) (Nat.le_of_ble_eq_true rfl) dX4_bill_7 rfl rfl (Nat.le_of_ble_eq_true rfl) hR2 ?_
  refine x_if_eq F dX4_bill_10 (tgt := 21) (by decide) (fun h3 => ?_) (fun h3 => ?_)
  · replace h3 := bI_0.mp h3
    refine x_aload_n F dX4_bill_21 0 rfl rfl ?_
    refine x_iconst (v := 1) F rfl dX4_bill_22 ?_
    refine x_callVs (rest := []) F hR2.2.2.1 rfl (c_X4_no l G A z 1) k_X4_94 ⟨⟨(Nat.le_of_ble_eq_true rfl), (Nat.le_of_ble_eq_true rfl)⟩, (Nat.le_of_ble_eq_true rfl), (Nat.le_of_ble_eq_true rfl)⟩ dX4_bill_23 rfl rfl (Nat.le_of_ble_eq_true rfl) hR2 ?_
    rintro _ H4 ⟨rfl, hR5⟩ - -
    have ho : q_bill z x = (0, sY z 0 1) := by first | (simp [q_bill, h3]; done) | (simp [q_bill, h3]; rfl)
    exact x_iret F hE dX4_bill_26 (Nat.le_of_ble_eq_true rfl) (Nat.le_of_ble_eq_true rfl) (⟨by rw [← hz, ho], by rw [← hz, ho]; exact hR5⟩)
  · replace h3 := bI_ne.mp h3
    obtain ⟨hxi, hx⟩ := is_ok (by rw [← hW.1.1]; exact h3) (Nat.le_trans hW.1.2 (by decide))
    refine wx_lv (lv' := [(0, .ref (ma z 30)), (1, .int (nI (tN x)))]) (by rw [hx]) ?_
    refine x_aload_n F dX4_bill_13 0 rfl rfl ?_
    refine x_iload_n F dX4_bill_14 1 rfl rfl ?_
    refine x_callVp (rest := []) F hR2.2.2.1 rfl (c_X4_billOf l G A z (tN x) hxi hW) k_X4_183 ⟨(Nat.le_of_ble_eq_true rfl), (Nat.le_of_ble_eq_true rfl), rfl, rfl⟩ (Nat.le_of_ble_eq_true rfl) (Nat.le_of_ble_eq_true rfl) dX4_bill_15 rfl rfl (Nat.le_of_ble_eq_true rfl) hR2 ?_
    refine x_goto F dX4_bill_18 (tgt := 26) (by decide) ?_
    have ho : q_bill z x = (m_bill z (tN x), z) := by first | (simp [q_bill, h3, hx]; done) | (simp [q_bill, h3, hx]; rfl)
    exact x_iret F hE dX4_bill_26 (Nat.le_of_ble_eq_true rfl) (Nat.le_of_ble_eq_true rfl) (⟨by rw [← hz, ho], by rw [← hz, ho]; exact hR2⟩)
end MD7
