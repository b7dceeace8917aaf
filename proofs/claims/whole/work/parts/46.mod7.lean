/-! the reference's public methods -/
section MD7
def m_wc (m : MS) (n : Nat) : Int32 := sumN n (fun g => if 0 < mZ m 18 g then 1 else 0)
def m_cnt (m : MS) (w : Int32) : Int32 := if w = 0 then mY m 9 else if w = 1 then mY m 12 else if w = 2 then mY m 20 else if w = 3 then sumN (mf m) (fun f => if mZ m 29 f = 0 then 1 else 0) else if w = 4 then sumN (mf m) (fun f => if mZ m 29 f = 1 then 1 else 0) else if w = 6 then mY m 5 else if w = 7 then mY m 7 - m_tk m else m_wc m 8
theorem is_ok {x : Int32} {n : Nat} (h : 0 ≤ x ∧ x ≤ nI n - 1) (hn : n ≤ 1000) : tN x < n ∧ nI (tN x) = x := by
  rcases n with _ | n
  · exact absurd (Int32.le_trans h.1 h.2) (by decide)
  · have e : nI (n + 1) - 1 = nI n := nI_sub1 n
    rw [e] at h
    exact tN_ok h.1 (Int32.lt_of_le_of_lt h.2 (nI_lt (Nat.lt_succ_self n) (by omega))) (by omega)
/-! what they give and leave; m has thrown = 0 already -/
def q_setWind (m : MS) (x : Int32) : Int32 × MS := if 0 ≤ x ∧ x ≤ 40 then (mY m 2, sY m 2 x) else (0, sY m 0 1)
def q_setSunset (m : MS) (x : Int32) : Int32 × MS := if 0 ≤ x ∧ x ≤ 1500 then (mY m 3, sY m 3 x) else (0, sY m 0 1)
def q_setTugs (m : MS) (x : Int32) : Int32 × MS := if 0 ≤ x ∧ x ≤ 2 then (if x < m_tk m then (0, sY m 0 2) else (x - m_tk m, sY m 7 x)) else (0, sY m 0 1)
def q_bill (m : MS) (x : Int32) : Int32 × MS := if 0 ≤ x ∧ x ≤ mY m 9 - 1 then (m_bill m (tN x), m) else (0, sY m 0 1)
def q_addMember (m : MS) (v : Int32) : Int32 × MS := if 0 ≤ v ∧ v ≤ 3 then (if mY m 9 = 16 then (0, sY m 0 2) else (mY m 9 + 1 - 1, sY (sZ m 10 (mm m) v) 9 (mY m 9 + 1))) else (0, sY m 0 1)
theorem mZ_at (m : MS) (j i : Nat) (v : Int32) : mZ (sZ m j i v) j i = v := if_pos ⟨rfl, rfl⟩
theorem cap_lt {y : Int32} {n N : Nat} (h : y = nI n ∧ n ≤ N) (hne : ¬ y = nI N) : n < N := Nat.lt_of_le_of_ne h.2 (fun e => hne (by rw [h.1, e]))
def q_addGlider (m : MS) (s1 r1 l1 : Int32) : Int32 × MS := if (1 ≤ s1 ∧ s1 ≤ 2) ∧ (1 ≤ r1 ∧ r1 ≤ 50) ∧ (5 ≤ l1 ∧ l1 ≤ 40) then (if mY m 12 = 8 then (0, sY m 0 2) else (mY m 12 + 1 - 1, sY (sZ (sZ (sZ m 13 (mg m) s1) 14 (mg m) r1) 15 (mg m) l1) 12 (mY m 12 + 1))) else (0, sY m 0 1)
def q_bar (m : MS) (x b : Int32) : Int32 × MS := if 0 ≤ x ∧ x ≤ mY m 12 - 1 then (if m_fo m x = -1 then (mZ m 16 (tN x), sZ (sY m 0 0) 16 (tN x) b) else (0, sY m 0 2)) else (0, sY m 0 1)
def q_promote (m : MS) (x : Int32) : Int32 × MS := if 0 ≤ x ∧ x ≤ mY m 9 - 1 then (if m_fl m x = false ∧ ((mZ m 10 (tN x) = 0 ∧ 3 ≤ m_ld m x 4) ∨ (mZ m 10 (tN x) = 1 ∧ 5 ≤ m_ld m x 5)) then (mZ m 10 (tN x) + 1, sZ m 10 (tN x) (mZ m 10 (tN x) + 1)) else (0, sY m 0 2)) else (0, sY m 0 1)
def q_member (m : MS) (x w : Int32) : Int32 × MS := if (0 ≤ x ∧ x ≤ mY m 9 - 1) ∧ (0 ≤ w ∧ w ≤ 5) then (m_tm m (tN x) w, m) else (0, sY m 0 1)
def q_glider (m : MS) (x w : Int32) : Int32 × MS := if (0 ≤ x ∧ x ≤ mY m 12 - 1) ∧ (0 ≤ w ∧ w ≤ 4) then (m_tg m (tN x) w, m) else (0, sY m 0 1)
def q_drop (m : MS) (x : Int32) : Int32 × MS := if 0 ≤ x ∧ x ≤ mY m 20 - 1 then (if mZ m 29 (tN x) = 0 then (sumN (tN x) (fun f => if mZ (sZ m 29 (tN x) 3) 29 f = 0 then 1 else 0), sZ m 29 (tN x) 3) else (0, sY m 0 2)) else (0, sY m 0 1)
def q_reason (m : MS) (x : Int32) : Int32 × MS := if 0 ≤ x ∧ x ≤ mY m 20 - 1 then (if mZ m 29 (tN x) = 0 then (m_rea m (tN x), m) else (0, sY m 0 2)) else (0, sY m 0 1)
def q_call (m : MS) (x : Int32) : Int32 × MS := if 0 ≤ x ∧ x ≤ mY m 12 - 1 then (if m_fo m x = -1 then (0, sY m 0 2) else (mY m 1 - mZ m 27 (tN (m_fo m x)), sZ m 17 (tN x) 1)) else (0, sY m 0 1)
def q_pay (m : MS) (x a : Int32) : Int32 × MS := if 0 ≤ x ∧ x ≤ mY m 9 - 1 then (if 1 ≤ a ∧ a ≤ 100000 then (m_bill (sZ m 11 (tN x) (mZ m 11 (tN x) + a)) (tN x), sZ m 11 (tN x) (mZ m 11 (tN x) + a)) else (0, sY m 0 2)) else (0, sY m 0 1)
theorem k_X4_94 : cwV_ "GliderDayModel" 94 "GliderDayModel" yX4_no cX4_no 2 (some .int) 1 := ⟨mw_902, mw_904, mw_32, mw_59, mw_905, ⟨by decide +kernel, by decide +kernel, by decide +kernel⟩⟩
theorem k_X4_112 : cwV_ "GliderDayModel" 112 "GliderDayModel" yX4_isMember cX4_isMember 2 (some .boolean) 1 := ⟨mw_942, mw_944, mw_36, mw_59, mw_945, ⟨by decide +kernel, by decide +kernel, by decide +kernel⟩⟩
theorem k_X4_183 : cwV_ "GliderDayModel" 183 "GliderDayModel" yX4_billOf cX4_billOf 4 (some .int) 1 := ⟨mw_1066, mw_1068, mw_53, mw_59, mw_1069, ⟨by decide +kernel, by decide +kernel, by decide +kernel⟩⟩
theorem k_X4_122 : cwV_ "GliderDayModel" 122 "GliderDayModel" yX4_toldOfMember cX4_toldOfMember 3 (some .int) 2 := ⟨mw_962, mw_964, mw_40, mw_59, mw_965, ⟨by decide +kernel, by decide +kernel, by decide +kernel⟩⟩
theorem k_X4_102 : cwV_ "GliderDayModel" 102 "GliderDayModel" yX4_isGlider cX4_isGlider 2 (some .boolean) 1 := ⟨mw_930, mw_932, mw_34, mw_59, mw_933, ⟨by decide +kernel, by decide +kernel, by decide +kernel⟩⟩
theorem k_X4_125 : cwV_ "GliderDayModel" 125 "GliderDayModel" yX4_toldOfGlider cX4_toldOfGlider 5 (some .int) 2 := ⟨mw_970, mw_972, mw_41, mw_59, mw_973, ⟨by decide +kernel, by decide +kernel, by decide +kernel⟩⟩
theorem k_X4_134 : cwV_ "GliderDayModel" 134 "GliderDayModel" yX4_isFlight cX4_isFlight 2 (some .boolean) 1 := ⟨mw_986, mw_988, mw_43, mw_59, mw_989, ⟨by decide +kernel, by decide +kernel, by decide +kernel⟩⟩
theorem k_X4_137 : cwV_ "GliderDayModel" 137 "GliderDayModel" yX4_place cX4_place 4 (some .int) 1 := ⟨mw_990, mw_992, mw_44, mw_59, mw_993, ⟨by decide +kernel, by decide +kernel, by decide +kernel⟩⟩
set_option maxHeartbeats 4000000 in
set_option maxRecDepth 100000 in
theorem c_X4_setWind (l : Launch) (G : GT) (A : Nat → Prop) (m : MS) (hW : WfM m) (x : Int32) : Ct l yX4_setWind cX4_setWind 3 (some .int) ({ frames := 1, cells := 0, slots := 0, locals := 22 } : Room) G A [.ref (ma m 30), .int x] (fun H => RepM G A m H) (fun H r H1 => r = some (.int (q_setWind (sY m 0 0) x).1) ∧ RepM G A ((q_setWind (sY m 0 0) x).2) H1) := by
  refine ct_of (own := "GliderDayModel") (by decide +kernel) rfl (Nat.le_of_ble_eq_true rfl) (fun E H0 F hE hR => ?_)
  show wx E H0 0 0 0 [(0, .ref (ma m 30)), (1, .int x)] []
  refine x_aload_n F dX4_setWind_0 0 rfl rfl ?_
  refine x_iconst (v := 0) F rfl dX4_setWind_1 ?_
  refine z_put (m := m) (j := 0) (v := 0) F hR mw_799 rfl (by decide) rfl rfl rfl dX4_setWind_2 (fun H1 hR2 => ?_)
  obtain ⟨z, hz⟩ : ∃ z, z = sY m 0 0 := ⟨_, rfl⟩
  have hW : WfM z := by rw [hz]; exact Same.wf (Same.Y (by decide)) hW
  rw [← hz] at hR2
  refine wx_lv (lv' := [(0, .ref (ma z 30)), (1, .int x)]) (by rw [hz]; rfl) ?_
  refine x_iload_n F dX4_setWind_5 1 rfl rfl ?_
  refine x_iconst (v := 0) F rfl dX4_setWind_6 ?_
  refine x_bipush (v := 40) F rfl dX4_setWind_7 ?_
  refine x_callSp (rest := []) F (c_X4_isIn l G A x 0 40) k_X4_84 ⟨(Nat.le_of_ble_eq_true rfl), (Nat.le_of_ble_eq_true rfl), rfl, rfl⟩ (Nat.le_of_ble_eq_true rfl) (Nat.le_of_ble_eq_true rfl) dX4_setWind_9 rfl rfl (Nat.le_of_ble_eq_true rfl) trivial ?_
  refine x_if_ne F dX4_setWind_12 (tgt := 21) (by decide) (fun h3 => ?_) (fun h3 => ?_)
  · replace h3 := bI_ne.mp h3
    refine x_aload_n F dX4_setWind_21 0 rfl rfl ?_
    refine z_get (m := z) (j := 2) (v := .int (mY z 2)) F hR2 mw_801 rfl (by decide) rfl dX4_setWind_22 ?_
    refine x_istore_n (lv' := [(2, .int (mY z 2)), (0, .ref (ma z 30)), (1, .int x)]) F dX4_setWind_25 rfl (by decide) rfl ?_
    refine x_aload_n F dX4_setWind_26 1 rfl rfl ?_
    refine x_iload_n F dX4_setWind_27 2 rfl rfl ?_
    refine z_put (m := z) (j := 2) (v := x) F hR2 mw_801 rfl (by decide) rfl rfl rfl dX4_setWind_28 (fun H4 hR5 => ?_)
    refine x_iload_n F dX4_setWind_31 0 rfl rfl ?_
    have ho : q_setWind z x = (mY z 2, sY z 2 x) := by first | (simp [q_setWind, h3]; done) | (simp [q_setWind, h3]; rfl) | (exfalso; simp_all; done)
    exact x_iret F hE dX4_setWind_32 (Nat.le_of_ble_eq_true rfl) (Nat.le_of_ble_eq_true rfl) (⟨by rw [← hz, ho], by rw [← hz, ho]; exact hR5⟩)
  · replace h3 := bI_0.mp h3
    refine x_aload_n F dX4_setWind_15 0 rfl rfl ?_
    refine x_iconst (v := 1) F rfl dX4_setWind_16 ?_
    refine x_callVs (rest := []) F hR2.2.2.1 rfl (c_X4_no l G A z 1) k_X4_94 ⟨⟨(Nat.le_of_ble_eq_true rfl), (Nat.le_of_ble_eq_true rfl)⟩, (Nat.le_of_ble_eq_true rfl), (Nat.le_of_ble_eq_true rfl)⟩ dX4_setWind_17 rfl rfl (Nat.le_of_ble_eq_true rfl) hR2 ?_
    rintro _ H6 ⟨rfl, hR7⟩ - -
    have ho : q_setWind z x = (0, sY z 0 1) := by first | (simp [q_setWind, h3]; done) | (simp [q_setWind, h3]; rfl) | (exfalso; simp_all; done)
    exact x_iret F hE dX4_setWind_20 (Nat.le_of_ble_eq_true rfl) (Nat.le_of_ble_eq_true rfl) (⟨by rw [← hz, ho], by rw [← hz, ho]; exact hR7⟩)
set_option maxHeartbeats 4000000 in
set_option maxRecDepth 100000 in
theorem c_X4_setSunset (l : Launch) (G : GT) (A : Nat → Prop) (m : MS) (hW : WfM m) (x : Int32) : Ct l yX4_setSunset cX4_setSunset 3 (some .int) ({ frames := 1, cells := 0, slots := 0, locals := 22 } : Room) G A [.ref (ma m 30), .int x] (fun H => RepM G A m H) (fun H r H1 => r = some (.int (q_setSunset (sY m 0 0) x).1) ∧ RepM G A ((q_setSunset (sY m 0 0) x).2) H1) := by
  refine ct_of (own := "GliderDayModel") (by decide +kernel) rfl (Nat.le_of_ble_eq_true rfl) (fun E H0 F hE hR => ?_)
  show wx E H0 0 0 0 [(0, .ref (ma m 30)), (1, .int x)] []
  refine x_aload_n F dX4_setSunset_0 0 rfl rfl ?_
  refine x_iconst (v := 0) F rfl dX4_setSunset_1 ?_
  refine z_put (m := m) (j := 0) (v := 0) F hR mw_799 rfl (by decide) rfl rfl rfl dX4_setSunset_2 (fun H1 hR2 => ?_)
  obtain ⟨z, hz⟩ : ∃ z, z = sY m 0 0 := ⟨_, rfl⟩
  have hW : WfM z := by rw [hz]; exact Same.wf (Same.Y (by decide)) hW
  rw [← hz] at hR2
  refine wx_lv (lv' := [(0, .ref (ma z 30)), (1, .int x)]) (by rw [hz]; rfl) ?_
  refine x_iload_n F dX4_setSunset_5 1 rfl rfl ?_
  refine x_iconst (v := 0) F rfl dX4_setSunset_6 ?_
  refine x_sipush (v := 1500) F rfl dX4_setSunset_7 ?_
  refine x_callSp (rest := []) F (c_X4_isIn l G A x 0 1500) k_X4_84 ⟨(Nat.le_of_ble_eq_true rfl), (Nat.le_of_ble_eq_true rfl), rfl, rfl⟩ (Nat.le_of_ble_eq_true rfl) (Nat.le_of_ble_eq_true rfl) dX4_setSunset_10 rfl rfl (Nat.le_of_ble_eq_true rfl) trivial ?_
  refine x_if_ne F dX4_setSunset_13 (tgt := 22) (by decide) (fun h3 => ?_) (fun h3 => ?_)
  · replace h3 := bI_ne.mp h3
    refine x_aload_n F dX4_setSunset_22 0 rfl rfl ?_
    refine z_get (m := z) (j := 3) (v := .int (mY z 3)) F hR2 mw_802 rfl (by decide) rfl dX4_setSunset_23 ?_
    refine x_istore_n (lv' := [(2, .int (mY z 3)), (0, .ref (ma z 30)), (1, .int x)]) F dX4_setSunset_26 rfl (by decide) rfl ?_
    refine x_aload_n F dX4_setSunset_27 1 rfl rfl ?_
    refine x_iload_n F dX4_setSunset_28 2 rfl rfl ?_
    refine z_put (m := z) (j := 3) (v := x) F hR2 mw_802 rfl (by decide) rfl rfl rfl dX4_setSunset_29 (fun H4 hR5 => ?_)
    refine x_iload_n F dX4_setSunset_32 0 rfl rfl ?_
    have ho : q_setSunset z x = (mY z 3, sY z 3 x) := by first | (simp [q_setSunset, h3]; done) | (simp [q_setSunset, h3]; rfl) | (exfalso; simp_all; done)
    exact x_iret F hE dX4_setSunset_33 (Nat.le_of_ble_eq_true rfl) (Nat.le_of_ble_eq_true rfl) (⟨by rw [← hz, ho], by rw [← hz, ho]; exact hR5⟩)
  · replace h3 := bI_0.mp h3
    refine x_aload_n F dX4_setSunset_16 0 rfl rfl ?_
    refine x_iconst (v := 1) F rfl dX4_setSunset_17 ?_
    refine x_callVs (rest := []) F hR2.2.2.1 rfl (c_X4_no l G A z 1) k_X4_94 ⟨⟨(Nat.le_of_ble_eq_true rfl), (Nat.le_of_ble_eq_true rfl)⟩, (Nat.le_of_ble_eq_true rfl), (Nat.le_of_ble_eq_true rfl)⟩ dX4_setSunset_18 rfl rfl (Nat.le_of_ble_eq_true rfl) hR2 ?_
    rintro _ H6 ⟨rfl, hR7⟩ - -
    have ho : q_setSunset z x = (0, sY z 0 1) := by first | (simp [q_setSunset, h3]; done) | (simp [q_setSunset, h3]; rfl) | (exfalso; simp_all; done)
    exact x_iret F hE dX4_setSunset_21 (Nat.le_of_ble_eq_true rfl) (Nat.le_of_ble_eq_true rfl) (⟨by rw [← hz, ho], by rw [← hz, ho]; exact hR7⟩)
set_option maxHeartbeats 4000000 in
set_option maxRecDepth 100000 in
theorem c_X4_setTugs (l : Launch) (G : GT) (A : Nat → Prop) (m : MS) (hW : WfM m) (x : Int32) : Ct l yX4_setTugs cX4_setTugs 2 (some .int) ({ frames := 1, cells := 0, slots := 0, locals := 22 } : Room) G A [.ref (ma m 30), .int x] (fun H => RepM G A m H) (fun H r H1 => r = some (.int (q_setTugs (sY m 0 0) x).1) ∧ RepM G A ((q_setTugs (sY m 0 0) x).2) H1) := by
  refine ct_of (own := "GliderDayModel") (by decide +kernel) rfl (Nat.le_of_ble_eq_true rfl) (fun E H0 F hE hR => ?_)
  show wx E H0 0 0 0 [(0, .ref (ma m 30)), (1, .int x)] []
  refine x_aload_n F dX4_setTugs_0 0 rfl rfl ?_
  refine x_iconst (v := 0) F rfl dX4_setTugs_1 ?_
  refine z_put (m := m) (j := 0) (v := 0) F hR mw_799 rfl (by decide) rfl rfl rfl dX4_setTugs_2 (fun H1 hR2 => ?_)
  obtain ⟨z, hz⟩ : ∃ z, z = sY m 0 0 := ⟨_, rfl⟩
  have hW : WfM z := by rw [hz]; exact Same.wf (Same.Y (by decide)) hW
  rw [← hz] at hR2
  refine wx_lv (lv' := [(0, .ref (ma z 30)), (1, .int x)]) (by rw [hz]; rfl) ?_
  refine x_iload_n F dX4_setTugs_5 1 rfl rfl ?_
  refine x_iconst (v := 0) F rfl dX4_setTugs_6 ?_
  refine x_iconst (v := 2) F rfl dX4_setTugs_7 ?_
  refine x_callSp (rest := []) F (c_X4_isIn l G A x 0 2) k_X4_84 ⟨(Nat.le_of_ble_eq_true rfl), (Nat.le_of_ble_eq_true rfl), rfl, rfl⟩ (Nat.le_of_ble_eq_true rfl) (Nat.le_of_ble_eq_true rfl) dX4_setTugs_8 rfl rfl (Nat.le_of_ble_eq_true rfl) trivial ?_
  refine x_if_ne F dX4_setTugs_11 (tgt := 20) (by decide) (fun h3 => ?_) (fun h3 => ?_)
  · replace h3 := bI_ne.mp h3
    refine x_aload_n F dX4_setTugs_20 0 rfl rfl ?_
    refine x_callVp (rest := []) F hR2.2.2.1 rfl (c_X4_takenTugs l G A z ) k_X4_98 ⟨(Nat.le_of_ble_eq_true rfl), (Nat.le_of_ble_eq_true rfl), rfl, rfl⟩ (Nat.le_of_ble_eq_true rfl) (Nat.le_of_ble_eq_true rfl) dX4_setTugs_21 rfl rfl (Nat.le_of_ble_eq_true rfl) hR2 ?_
    refine x_iload_n F dX4_setTugs_24 1 rfl rfl ?_
    refine x_icmp_le F dX4_setTugs_25 (tgt := 34) (by decide) (fun h4 => ?_) (fun h4 => ?_)
    · have h4' := Int32.not_lt.mpr h4
      refine x_aload_n F dX4_setTugs_34 0 rfl rfl ?_
      refine x_iload_n F dX4_setTugs_35 1 rfl rfl ?_
      refine z_put (m := z) (j := 7) (v := x) F hR2 mw_806 rfl (by decide) rfl rfl rfl dX4_setTugs_36 (fun H5 hR6 => ?_)
      refine x_iload_n F dX4_setTugs_39 1 rfl rfl ?_
      refine x_aload_n F dX4_setTugs_40 0 rfl rfl ?_
      refine x_callVp (rest := [.int x]) F hR6.2.2.1 rfl (c_X4_takenTugs l G A (sY z 7 x) ) k_X4_98 ⟨(Nat.le_of_ble_eq_true rfl), (Nat.le_of_ble_eq_true rfl), rfl, rfl⟩ (Nat.le_of_ble_eq_true rfl) (Nat.le_of_ble_eq_true rfl) dX4_setTugs_41 rfl rfl (Nat.le_of_ble_eq_true rfl) hR6 ?_
      refine x_isub F dX4_setTugs_44 ?_
      have ho : q_setTugs z x = (x - (m_tk (sY z 7 x)), sY z 7 x) := by first | (simp [q_setTugs, h3, h4, h4']; done) | (simp [q_setTugs, h3, h4, h4']; rfl) | (exfalso; simp_all; done)
      exact x_iret F hE dX4_setTugs_45 (Nat.le_of_ble_eq_true rfl) (Nat.le_of_ble_eq_true rfl) (⟨by rw [← hz, ho], by rw [← hz, ho]; exact hR6⟩)
    · have h4' := Int32.not_le.mp h4
      refine x_aload_n F dX4_setTugs_28 0 rfl rfl ?_
      refine x_iconst (v := 2) F rfl dX4_setTugs_29 ?_
      refine x_callVs (rest := []) F hR2.2.2.1 rfl (c_X4_no l G A z 2) k_X4_94 ⟨⟨(Nat.le_of_ble_eq_true rfl), (Nat.le_of_ble_eq_true rfl)⟩, (Nat.le_of_ble_eq_true rfl), (Nat.le_of_ble_eq_true rfl)⟩ dX4_setTugs_30 rfl rfl (Nat.le_of_ble_eq_true rfl) hR2 ?_
      rintro _ H7 ⟨rfl, hR8⟩ - -
      have ho : q_setTugs z x = (0, sY z 0 2) := by first | (simp [q_setTugs, h3, h4, h4']; done) | (simp [q_setTugs, h3, h4, h4']; rfl) | (exfalso; simp_all; done)
      exact x_iret F hE dX4_setTugs_33 (Nat.le_of_ble_eq_true rfl) (Nat.le_of_ble_eq_true rfl) (⟨by rw [← hz, ho], by rw [← hz, ho]; exact hR8⟩)
  · replace h3 := bI_0.mp h3
    refine x_aload_n F dX4_setTugs_14 0 rfl rfl ?_
    refine x_iconst (v := 1) F rfl dX4_setTugs_15 ?_
    refine x_callVs (rest := []) F hR2.2.2.1 rfl (c_X4_no l G A z 1) k_X4_94 ⟨⟨(Nat.le_of_ble_eq_true rfl), (Nat.le_of_ble_eq_true rfl)⟩, (Nat.le_of_ble_eq_true rfl), (Nat.le_of_ble_eq_true rfl)⟩ dX4_setTugs_16 rfl rfl (Nat.le_of_ble_eq_true rfl) hR2 ?_
    rintro _ H9 ⟨rfl, hR10⟩ - -
    have ho : q_setTugs z x = (0, sY z 0 1) := by first | (simp [q_setTugs, h3]; done) | (simp [q_setTugs, h3]; rfl) | (exfalso; simp_all; done)
    exact x_iret F hE dX4_setTugs_19 (Nat.le_of_ble_eq_true rfl) (Nat.le_of_ble_eq_true rfl) (⟨by rw [← hz, ho], by rw [← hz, ho]; exact hR10⟩)
set_option maxHeartbeats 4000000 in
set_option maxRecDepth 100000 in
theorem c_X4_bill (l : Launch) (G : GT) (A : Nat → Prop) (m : MS) (hW : WfM m) (x : Int32) : Ct l yX4_bill cX4_bill 2 (some .int) ({ frames := 3, cells := 0, slots := 0, locals := 59 } : Room) G A [.ref (ma m 30), .int x] (fun H => RepM G A m H) (fun H r H1 => r = some (.int (q_bill (sY m 0 0) x).1) ∧ RepM G A ((q_bill (sY m 0 0) x).2) H1) := by
  refine ct_of (own := "GliderDayModel") (by decide +kernel) rfl (Nat.le_of_ble_eq_true rfl) (fun E H0 F hE hR => ?_)
  show wx E H0 0 0 0 [(0, .ref (ma m 30)), (1, .int x)] []
  refine x_aload_n F dX4_bill_0 0 rfl rfl ?_
  refine x_iconst (v := 0) F rfl dX4_bill_1 ?_
  refine z_put (m := m) (j := 0) (v := 0) F hR mw_799 rfl (by decide) rfl rfl rfl dX4_bill_2 (fun H1 hR2 => ?_)
  obtain ⟨z, hz⟩ : ∃ z, z = sY m 0 0 := ⟨_, rfl⟩
  have hW : WfM z := by rw [hz]; exact Same.wf (Same.Y (by decide)) hW
  rw [← hz] at hR2
  refine wx_lv (lv' := [(0, .ref (ma z 30)), (1, .int x)]) (by rw [hz]; rfl) ?_
  refine x_aload_n F dX4_bill_5 0 rfl rfl ?_
  refine x_iload_n F dX4_bill_6 1 rfl rfl ?_
  refine x_callVp (rest := []) F hR2.2.2.1 rfl (c_X4_isMember l G A z x) k_X4_112 ⟨(Nat.le_of_ble_eq_true rfl), (Nat.le_of_ble_eq_true rfl), rfl, rfl⟩ (Nat.le_of_ble_eq_true rfl) (Nat.le_of_ble_eq_true rfl) dX4_bill_7 rfl rfl (Nat.le_of_ble_eq_true rfl) hR2 ?_
  refine x_if_eq F dX4_bill_10 (tgt := 21) (by decide) (fun h3 => ?_) (fun h3 => ?_)
  · replace h3 := bI_0.mp h3
    refine x_aload_n F dX4_bill_21 0 rfl rfl ?_
    refine x_iconst (v := 1) F rfl dX4_bill_22 ?_
    refine x_callVs (rest := []) F hR2.2.2.1 rfl (c_X4_no l G A z 1) k_X4_94 ⟨⟨(Nat.le_of_ble_eq_true rfl), (Nat.le_of_ble_eq_true rfl)⟩, (Nat.le_of_ble_eq_true rfl), (Nat.le_of_ble_eq_true rfl)⟩ dX4_bill_23 rfl rfl (Nat.le_of_ble_eq_true rfl) hR2 ?_
    rintro _ H4 ⟨rfl, hR5⟩ - -
    have ho : q_bill z x = (0, sY z 0 1) := by first | (simp [q_bill, h3]; done) | (simp [q_bill, h3]; rfl) | (exfalso; simp_all; done)
    exact x_iret F hE dX4_bill_26 (Nat.le_of_ble_eq_true rfl) (Nat.le_of_ble_eq_true rfl) (⟨by rw [← hz, ho], by rw [← hz, ho]; exact hR5⟩)
  · replace h3 := bI_ne.mp h3
    obtain ⟨hxi, hx⟩ := is_ok (by rw [← hW.1.1]; exact h3) (Nat.le_trans hW.1.2 (by decide))
    refine wx_lv (lv' := [(0, .ref (ma z 30)), (1, .int (nI (tN x)))]) (by rw [hx]) ?_
    refine x_aload_n F dX4_bill_13 0 rfl rfl ?_
    refine x_iload_n F dX4_bill_14 1 rfl rfl ?_
    refine x_callVp (rest := []) F hR2.2.2.1 rfl (c_X4_billOf l G A z (tN x) hxi hW) k_X4_183 ⟨(Nat.le_of_ble_eq_true rfl), (Nat.le_of_ble_eq_true rfl), rfl, rfl⟩ (Nat.le_of_ble_eq_true rfl) (Nat.le_of_ble_eq_true rfl) dX4_bill_15 rfl rfl (Nat.le_of_ble_eq_true rfl) hR2 ?_
    refine x_goto F dX4_bill_18 (tgt := 26) (by decide) ?_
    have ho : q_bill z x = (m_bill z (tN x), z) := by (try simp only [hx] at h3); first | (simp [q_bill, h3, hx]; done) | (simp [q_bill, h3, hx]; rfl) | (exfalso; simp_all; done)
    exact x_iret F hE dX4_bill_26 (Nat.le_of_ble_eq_true rfl) (Nat.le_of_ble_eq_true rfl) (⟨by rw [← hz, ho], by rw [← hz, ho]; exact hR2⟩)
set_option maxHeartbeats 4000000 in
set_option maxRecDepth 100000 in
theorem c_X4_addMember (l : Launch) (G : GT) (A : Nat → Prop) (m : MS) (hW : WfM m) (v : Int32) : Ct l yX4_addMember cX4_addMember 2 (some .int) ({ frames := 1, cells := 0, slots := 0, locals := 22 } : Room) G A [.ref (ma m 30), .int v] (fun H => RepM G A m H) (fun H r H1 => r = some (.int (q_addMember (sY m 0 0) v).1) ∧ RepM G A ((q_addMember (sY m 0 0) v).2) H1) := by
  refine ct_of (own := "GliderDayModel") (by decide +kernel) rfl (Nat.le_of_ble_eq_true rfl) (fun E H0 F hE hR => ?_)
  show wx E H0 0 0 0 [(0, .ref (ma m 30)), (1, .int v)] []
  refine x_aload_n F dX4_addMember_0 0 rfl rfl ?_
  refine x_iconst (v := 0) F rfl dX4_addMember_1 ?_
  refine z_put (m := m) (j := 0) (v := 0) F hR mw_799 rfl (by decide) rfl rfl rfl dX4_addMember_2 (fun H1 hR2 => ?_)
  obtain ⟨z, hz⟩ : ∃ z, z = sY m 0 0 := ⟨_, rfl⟩
  have hW : WfM z := by rw [hz]; exact Same.wf (Same.Y (by decide)) hW
  rw [← hz] at hR2
  refine wx_lv (lv' := [(0, .ref (ma z 30)), (1, .int v)]) (by rw [hz]; rfl) ?_
  refine x_iload_n F dX4_addMember_5 1 rfl rfl ?_
  refine x_iconst (v := 0) F rfl dX4_addMember_6 ?_
  refine x_iconst (v := 3) F rfl dX4_addMember_7 ?_
  refine x_callSp (rest := []) F (c_X4_isIn l G A v 0 3) k_X4_84 ⟨(Nat.le_of_ble_eq_true rfl), (Nat.le_of_ble_eq_true rfl), rfl, rfl⟩ (Nat.le_of_ble_eq_true rfl) (Nat.le_of_ble_eq_true rfl) dX4_addMember_8 rfl rfl (Nat.le_of_ble_eq_true rfl) trivial ?_
  refine x_if_ne F dX4_addMember_11 (tgt := 20) (by decide) (fun h3 => ?_) (fun h3 => ?_)
  · replace h3 := bI_ne.mp h3
    refine x_aload_n F dX4_addMember_20 0 rfl rfl ?_
    refine z_get (m := z) (j := 9) (v := .int (mY z 9)) F hR2 mw_808 rfl (by decide) rfl dX4_addMember_21 ?_
    refine x_bipush (v := 16) F rfl dX4_addMember_24 ?_
    refine x_icmp_ne F dX4_addMember_26 (tgt := 35) (by decide) (fun h4 => ?_) (fun h4 => ?_)
    · have hlt : mm z < 16 := cap_lt hW.1 (show ¬ mY z 9 = nI 16 from h4)
      refine x_aload_n F dX4_addMember_35 0 rfl rfl ?_
      refine z_get (m := z) (j := 10) (v := .ref (ma z 10)) F hR2 mw_809 rfl (by decide) rfl dX4_addMember_36 ?_
      refine x_aload_n F dX4_addMember_39 0 rfl rfl ?_
      refine z_get (m := z) (j := 9) (v := .int (mY z 9)) F hR2 mw_808 rfl (by decide) rfl dX4_addMember_40 ?_
      refine x_iload_n F dX4_addMember_43 1 rfl rfl ?_
      refine wx_st (y := nI (mm z)) (hW.1.1) ?_
      refine z_istN (m := z) (j := 10) (i := (mm z)) (v := v) F hR2 (by decide) rfl rfl (hlt) (by decide) dX4_addMember_44 (fun H5 hR6 => ?_)
      refine x_aload_n F dX4_addMember_45 0 rfl rfl ?_
      refine x_dup F dX4_addMember_46 rfl ?_
      refine z_get (m := (sZ z 10 (mm z) v)) (j := 9) (v := .int (mY z 9)) F hR6 mw_808 rfl (by decide) rfl dX4_addMember_47 ?_
      refine x_iconst (v := 1) F rfl dX4_addMember_50 ?_
      refine x_iadd F dX4_addMember_51 ?_
      refine z_put (m := (sZ z 10 (mm z) v)) (j := 9) (v := (mY z 9) + 1) F hR6 mw_808 rfl (by decide) rfl rfl rfl dX4_addMember_52 (fun H7 hR8 => ?_)
      refine x_aload_n F dX4_addMember_55 0 rfl rfl ?_
      refine z_get (m := (sY (sZ z 10 (mm z) v) 9 ((mY z 9) + 1))) (j := 9) (v := .int ((mY z 9) + 1)) F hR8 mw_808 rfl (by decide) rfl dX4_addMember_56 ?_
      refine x_iconst (v := 1) F rfl dX4_addMember_59 ?_
      refine x_isub F dX4_addMember_60 ?_
      have ho : q_addMember z v = (((mY z 9) + 1) - 1, sY (sZ z 10 (mm z) v) 9 ((mY z 9) + 1)) := by first | (simp [q_addMember, h3, h4]; done) | (simp [q_addMember, h3, h4]; rfl) | (exfalso; simp_all; done)
      exact x_iret F hE dX4_addMember_61 (Nat.le_of_ble_eq_true rfl) (Nat.le_of_ble_eq_true rfl) (⟨by rw [← hz, ho], by rw [← hz, ho]; exact hR8⟩)
    · refine x_aload_n F dX4_addMember_29 0 rfl rfl ?_
      refine x_iconst (v := 2) F rfl dX4_addMember_30 ?_
      refine x_callVs (rest := []) F hR2.2.2.1 rfl (c_X4_no l G A z 2) k_X4_94 ⟨⟨(Nat.le_of_ble_eq_true rfl), (Nat.le_of_ble_eq_true rfl)⟩, (Nat.le_of_ble_eq_true rfl), (Nat.le_of_ble_eq_true rfl)⟩ dX4_addMember_31 rfl rfl (Nat.le_of_ble_eq_true rfl) hR2 ?_
      rintro _ H9 ⟨rfl, hR10⟩ - -
      have ho : q_addMember z v = (0, sY z 0 2) := by first | (simp [q_addMember, h3, h4]; done) | (simp [q_addMember, h3, h4]; rfl) | (exfalso; simp_all; done)
      exact x_iret F hE dX4_addMember_34 (Nat.le_of_ble_eq_true rfl) (Nat.le_of_ble_eq_true rfl) (⟨by rw [← hz, ho], by rw [← hz, ho]; exact hR10⟩)
  · replace h3 := bI_0.mp h3
    refine x_aload_n F dX4_addMember_14 0 rfl rfl ?_
    refine x_iconst (v := 1) F rfl dX4_addMember_15 ?_
    refine x_callVs (rest := []) F hR2.2.2.1 rfl (c_X4_no l G A z 1) k_X4_94 ⟨⟨(Nat.le_of_ble_eq_true rfl), (Nat.le_of_ble_eq_true rfl)⟩, (Nat.le_of_ble_eq_true rfl), (Nat.le_of_ble_eq_true rfl)⟩ dX4_addMember_16 rfl rfl (Nat.le_of_ble_eq_true rfl) hR2 ?_
    rintro _ H11 ⟨rfl, hR12⟩ - -
    have ho : q_addMember z v = (0, sY z 0 1) := by first | (simp [q_addMember, h3]; done) | (simp [q_addMember, h3]; rfl) | (exfalso; simp_all; done)
    exact x_iret F hE dX4_addMember_19 (Nat.le_of_ble_eq_true rfl) (Nat.le_of_ble_eq_true rfl) (⟨by rw [← hz, ho], by rw [← hz, ho]; exact hR12⟩)
set_option maxHeartbeats 4000000 in
set_option maxRecDepth 100000 in
theorem c_X4_addGlider (l : Launch) (G : GT) (A : Nat → Prop) (m : MS) (hW : WfM m) (s1 r1 l1 : Int32) : Ct l yX4_addGlider cX4_addGlider 4 (some .int) ({ frames := 1, cells := 0, slots := 0, locals := 22 } : Room) G A [.ref (ma m 30), .int s1, .int r1, .int l1] (fun H => RepM G A m H) (fun H r H1 => r = some (.int (q_addGlider (sY m 0 0) s1 r1 l1).1) ∧ RepM G A ((q_addGlider (sY m 0 0) s1 r1 l1).2) H1) := by
  refine ct_of (own := "GliderDayModel") (by decide +kernel) rfl (Nat.le_of_ble_eq_true rfl) (fun E H0 F hE hR => ?_)
  show wx E H0 0 0 0 [(0, .ref (ma m 30)), (1, .int s1), (2, .int r1), (3, .int l1)] []
  refine x_aload_n F dX4_addGlider_0 0 rfl rfl ?_
  refine x_iconst (v := 0) F rfl dX4_addGlider_1 ?_
  refine z_put (m := m) (j := 0) (v := 0) F hR mw_799 rfl (by decide) rfl rfl rfl dX4_addGlider_2 (fun H1 hR2 => ?_)
  obtain ⟨z, hz⟩ : ∃ z, z = sY m 0 0 := ⟨_, rfl⟩
  have hW : WfM z := by rw [hz]; exact Same.wf (Same.Y (by decide)) hW
  rw [← hz] at hR2
  refine wx_lv (lv' := [(0, .ref (ma z 30)), (1, .int s1), (2, .int r1), (3, .int l1)]) (by rw [hz]; rfl) ?_
  refine x_iload_n F dX4_addGlider_5 1 rfl rfl ?_
  refine x_iconst (v := 1) F rfl dX4_addGlider_6 ?_
  refine x_iconst (v := 2) F rfl dX4_addGlider_7 ?_
  refine x_callSp (rest := []) F (c_X4_isIn l G A s1 1 2) k_X4_84 ⟨(Nat.le_of_ble_eq_true rfl), (Nat.le_of_ble_eq_true rfl), rfl, rfl⟩ (Nat.le_of_ble_eq_true rfl) (Nat.le_of_ble_eq_true rfl) dX4_addGlider_8 rfl rfl (Nat.le_of_ble_eq_true rfl) trivial ?_
  refine x_if_eq F dX4_addGlider_11 (tgt := 34) (by decide) (fun h3 => ?_) (fun h3 => ?_)
  · replace h3 := bI_0.mp h3
    refine x_aload_n F dX4_addGlider_34 0 rfl rfl ?_
    refine x_iconst (v := 1) F rfl dX4_addGlider_35 ?_
    refine x_callVs (rest := []) F hR2.2.2.1 rfl (c_X4_no l G A z 1) k_X4_94 ⟨⟨(Nat.le_of_ble_eq_true rfl), (Nat.le_of_ble_eq_true rfl)⟩, (Nat.le_of_ble_eq_true rfl), (Nat.le_of_ble_eq_true rfl)⟩ dX4_addGlider_36 rfl rfl (Nat.le_of_ble_eq_true rfl) hR2 ?_
    rintro _ H4 ⟨rfl, hR5⟩ - -
    have ho : q_addGlider z s1 r1 l1 = (0, sY z 0 1) := by first | (simp [q_addGlider, h3]; done) | (simp [q_addGlider, h3]; rfl) | (exfalso; simp_all; done)
    exact x_iret F hE dX4_addGlider_39 (Nat.le_of_ble_eq_true rfl) (Nat.le_of_ble_eq_true rfl) (⟨by rw [← hz, ho], by rw [← hz, ho]; exact hR5⟩)
  · replace h3 := bI_ne.mp h3
    refine x_iload_n F dX4_addGlider_14 2 rfl rfl ?_
    refine x_iconst (v := 1) F rfl dX4_addGlider_15 ?_
    refine x_bipush (v := 50) F rfl dX4_addGlider_16 ?_
    refine x_callSp (rest := []) F (c_X4_isIn l G A r1 1 50) k_X4_84 ⟨(Nat.le_of_ble_eq_true rfl), (Nat.le_of_ble_eq_true rfl), rfl, rfl⟩ (Nat.le_of_ble_eq_true rfl) (Nat.le_of_ble_eq_true rfl) dX4_addGlider_18 rfl rfl (Nat.le_of_ble_eq_true rfl) trivial ?_
    refine x_if_eq F dX4_addGlider_21 (tgt := 34) (by decide) (fun h6 => ?_) (fun h6 => ?_)
    · replace h6 := bI_0.mp h6
      refine x_aload_n F dX4_addGlider_34 0 rfl rfl ?_
      refine x_iconst (v := 1) F rfl dX4_addGlider_35 ?_
      refine x_callVs (rest := []) F hR2.2.2.1 rfl (c_X4_no l G A z 1) k_X4_94 ⟨⟨(Nat.le_of_ble_eq_true rfl), (Nat.le_of_ble_eq_true rfl)⟩, (Nat.le_of_ble_eq_true rfl), (Nat.le_of_ble_eq_true rfl)⟩ dX4_addGlider_36 rfl rfl (Nat.le_of_ble_eq_true rfl) hR2 ?_
      rintro _ H7 ⟨rfl, hR8⟩ - -
      have ho : q_addGlider z s1 r1 l1 = (0, sY z 0 1) := by first | (simp [q_addGlider, h3, h6]; done) | (simp [q_addGlider, h3, h6]; rfl) | (exfalso; simp_all; done)
      exact x_iret F hE dX4_addGlider_39 (Nat.le_of_ble_eq_true rfl) (Nat.le_of_ble_eq_true rfl) (⟨by rw [← hz, ho], by rw [← hz, ho]; exact hR8⟩)
    · replace h6 := bI_ne.mp h6
      refine x_iload_n F dX4_addGlider_24 3 rfl rfl ?_
      refine x_iconst (v := 5) F rfl dX4_addGlider_25 ?_
      refine x_bipush (v := 40) F rfl dX4_addGlider_26 ?_
      refine x_callSp (rest := []) F (c_X4_isIn l G A l1 5 40) k_X4_84 ⟨(Nat.le_of_ble_eq_true rfl), (Nat.le_of_ble_eq_true rfl), rfl, rfl⟩ (Nat.le_of_ble_eq_true rfl) (Nat.le_of_ble_eq_true rfl) dX4_addGlider_28 rfl rfl (Nat.le_of_ble_eq_true rfl) trivial ?_
      refine x_if_ne F dX4_addGlider_31 (tgt := 40) (by decide) (fun h9 => ?_) (fun h9 => ?_)
      · replace h9 := bI_ne.mp h9
        refine x_aload_n F dX4_addGlider_40 0 rfl rfl ?_
        refine z_get (m := z) (j := 12) (v := .int (mY z 12)) F hR2 mw_811 rfl (by decide) rfl dX4_addGlider_41 ?_
        refine x_bipush (v := 8) F rfl dX4_addGlider_44 ?_
        refine x_icmp_ne F dX4_addGlider_46 (tgt := 55) (by decide) (fun h10 => ?_) (fun h10 => ?_)
        · have hlt : mg z < 8 := cap_lt hW.2.1 (show ¬ mY z 12 = nI 8 from h10)
          refine x_aload_n F dX4_addGlider_55 0 rfl rfl ?_
          refine z_get (m := z) (j := 13) (v := .ref (ma z 13)) F hR2 mw_812 rfl (by decide) rfl dX4_addGlider_56 ?_
          refine x_aload_n F dX4_addGlider_59 0 rfl rfl ?_
          refine z_get (m := z) (j := 12) (v := .int (mY z 12)) F hR2 mw_811 rfl (by decide) rfl dX4_addGlider_60 ?_
          refine x_iload_n F dX4_addGlider_63 1 rfl rfl ?_
          refine wx_st (y := nI (mg z)) (hW.2.1.1) ?_
          refine z_istN (m := z) (j := 13) (i := (mg z)) (v := s1) F hR2 (by decide) rfl rfl (hlt) (by decide) dX4_addGlider_64 (fun H11 hR12 => ?_)
          refine x_aload_n F dX4_addGlider_65 0 rfl rfl ?_
          refine z_get (m := (sZ z 13 (mg z) s1)) (j := 14) (v := .ref (ma z 14)) F hR12 mw_813 rfl (by decide) rfl dX4_addGlider_66 ?_
          refine x_aload_n F dX4_addGlider_69 0 rfl rfl ?_
          refine z_get (m := (sZ z 13 (mg z) s1)) (j := 12) (v := .int (mY z 12)) F hR12 mw_811 rfl (by decide) rfl dX4_addGlider_70 ?_
          refine x_iload_n F dX4_addGlider_73 2 rfl rfl ?_
          refine wx_st (y := nI (mg z)) (hW.2.1.1) ?_
          refine z_istN (m := (sZ z 13 (mg z) s1)) (j := 14) (i := (mg z)) (v := r1) F hR12 (by decide) rfl rfl (hlt) (by decide) dX4_addGlider_74 (fun H13 hR14 => ?_)
          refine x_aload_n F dX4_addGlider_75 0 rfl rfl ?_
          refine z_get (m := (sZ (sZ z 13 (mg z) s1) 14 (mg z) r1)) (j := 15) (v := .ref (ma z 15)) F hR14 mw_814 rfl (by decide) rfl dX4_addGlider_76 ?_
          refine x_aload_n F dX4_addGlider_79 0 rfl rfl ?_
          refine z_get (m := (sZ (sZ z 13 (mg z) s1) 14 (mg z) r1)) (j := 12) (v := .int (mY z 12)) F hR14 mw_811 rfl (by decide) rfl dX4_addGlider_80 ?_
          refine x_iload_n F dX4_addGlider_83 3 rfl rfl ?_
          refine wx_st (y := nI (mg z)) (hW.2.1.1) ?_
          refine z_istN (m := (sZ (sZ z 13 (mg z) s1) 14 (mg z) r1)) (j := 15) (i := (mg z)) (v := l1) F hR14 (by decide) rfl rfl (hlt) (by decide) dX4_addGlider_84 (fun H15 hR16 => ?_)
          refine x_aload_n F dX4_addGlider_85 0 rfl rfl ?_
          refine x_dup F dX4_addGlider_86 rfl ?_
          refine z_get (m := (sZ (sZ (sZ z 13 (mg z) s1) 14 (mg z) r1) 15 (mg z) l1)) (j := 12) (v := .int (mY z 12)) F hR16 mw_811 rfl (by decide) rfl dX4_addGlider_87 ?_
          refine x_iconst (v := 1) F rfl dX4_addGlider_90 ?_
          refine x_iadd F dX4_addGlider_91 ?_
          refine z_put (m := (sZ (sZ (sZ z 13 (mg z) s1) 14 (mg z) r1) 15 (mg z) l1)) (j := 12) (v := (mY z 12) + 1) F hR16 mw_811 rfl (by decide) rfl rfl rfl dX4_addGlider_92 (fun H17 hR18 => ?_)
          refine x_aload_n F dX4_addGlider_95 0 rfl rfl ?_
          refine z_get (m := (sY (sZ (sZ (sZ z 13 (mg z) s1) 14 (mg z) r1) 15 (mg z) l1) 12 ((mY z 12) + 1))) (j := 12) (v := .int ((mY z 12) + 1)) F hR18 mw_811 rfl (by decide) rfl dX4_addGlider_96 ?_
          refine x_iconst (v := 1) F rfl dX4_addGlider_99 ?_
          refine x_isub F dX4_addGlider_100 ?_
          have ho : q_addGlider z s1 r1 l1 = (((mY z 12) + 1) - 1, sY (sZ (sZ (sZ z 13 (mg z) s1) 14 (mg z) r1) 15 (mg z) l1) 12 ((mY z 12) + 1)) := by first | (simp [q_addGlider, h3, h6, h9, h10]; done) | (simp [q_addGlider, h3, h6, h9, h10]; rfl) | (exfalso; simp_all; done)
          exact x_iret F hE dX4_addGlider_101 (Nat.le_of_ble_eq_true rfl) (Nat.le_of_ble_eq_true rfl) (⟨by rw [← hz, ho], by rw [← hz, ho]; exact hR18⟩)
        · refine x_aload_n F dX4_addGlider_49 0 rfl rfl ?_
          refine x_iconst (v := 2) F rfl dX4_addGlider_50 ?_
          refine x_callVs (rest := []) F hR2.2.2.1 rfl (c_X4_no l G A z 2) k_X4_94 ⟨⟨(Nat.le_of_ble_eq_true rfl), (Nat.le_of_ble_eq_true rfl)⟩, (Nat.le_of_ble_eq_true rfl), (Nat.le_of_ble_eq_true rfl)⟩ dX4_addGlider_51 rfl rfl (Nat.le_of_ble_eq_true rfl) hR2 ?_
          rintro _ H19 ⟨rfl, hR20⟩ - -
          have ho : q_addGlider z s1 r1 l1 = (0, sY z 0 2) := by first | (simp [q_addGlider, h3, h6, h9, h10]; done) | (simp [q_addGlider, h3, h6, h9, h10]; rfl) | (exfalso; simp_all; done)
          exact x_iret F hE dX4_addGlider_54 (Nat.le_of_ble_eq_true rfl) (Nat.le_of_ble_eq_true rfl) (⟨by rw [← hz, ho], by rw [← hz, ho]; exact hR20⟩)
      · replace h9 := bI_0.mp h9
        refine x_aload_n F dX4_addGlider_34 0 rfl rfl ?_
        refine x_iconst (v := 1) F rfl dX4_addGlider_35 ?_
        refine x_callVs (rest := []) F hR2.2.2.1 rfl (c_X4_no l G A z 1) k_X4_94 ⟨⟨(Nat.le_of_ble_eq_true rfl), (Nat.le_of_ble_eq_true rfl)⟩, (Nat.le_of_ble_eq_true rfl), (Nat.le_of_ble_eq_true rfl)⟩ dX4_addGlider_36 rfl rfl (Nat.le_of_ble_eq_true rfl) hR2 ?_
        rintro _ H21 ⟨rfl, hR22⟩ - -
        have ho : q_addGlider z s1 r1 l1 = (0, sY z 0 1) := by first | (simp [q_addGlider, h3, h6, h9]; done) | (simp [q_addGlider, h3, h6, h9]; rfl) | (exfalso; simp_all; done)
        exact x_iret F hE dX4_addGlider_39 (Nat.le_of_ble_eq_true rfl) (Nat.le_of_ble_eq_true rfl) (⟨by rw [← hz, ho], by rw [← hz, ho]; exact hR22⟩)
set_option maxHeartbeats 4000000 in
set_option maxRecDepth 100000 in
theorem c_X4_promote (l : Launch) (G : GT) (A : Nat → Prop) (m : MS) (hW : WfM m) (x : Int32) : Ct l yX4_promote cX4_promote 3 (some .int) ({ frames := 2, cells := 0, slots := 0, locals := 46 } : Room) G A [.ref (ma m 30), .int x] (fun H => RepM G A m H) (fun H r H1 => r = some (.int (q_promote (sY m 0 0) x).1) ∧ RepM G A ((q_promote (sY m 0 0) x).2) H1) := by
  refine ct_of (own := "GliderDayModel") (by decide +kernel) rfl (Nat.le_of_ble_eq_true rfl) (fun E H0 F hE hR => ?_)
  show wx E H0 0 0 0 [(0, .ref (ma m 30)), (1, .int x)] []
  refine x_aload_n F dX4_promote_0 0 rfl rfl ?_
  refine x_iconst (v := 0) F rfl dX4_promote_1 ?_
  refine z_put (m := m) (j := 0) (v := 0) F hR mw_799 rfl (by decide) rfl rfl rfl dX4_promote_2 (fun H1 hR2 => ?_)
  obtain ⟨z, hz⟩ : ∃ z, z = sY m 0 0 := ⟨_, rfl⟩
  have hW : WfM z := by rw [hz]; exact Same.wf (Same.Y (by decide)) hW
  rw [← hz] at hR2
  refine wx_lv (lv' := [(0, .ref (ma z 30)), (1, .int x)]) (by rw [hz]; rfl) ?_
  refine x_aload_n F dX4_promote_5 0 rfl rfl ?_
  refine x_iload_n F dX4_promote_6 1 rfl rfl ?_
  refine x_callVp (rest := []) F hR2.2.2.1 rfl (c_X4_isMember l G A z x) k_X4_112 ⟨(Nat.le_of_ble_eq_true rfl), (Nat.le_of_ble_eq_true rfl), rfl, rfl⟩ (Nat.le_of_ble_eq_true rfl) (Nat.le_of_ble_eq_true rfl) dX4_promote_7 rfl rfl (Nat.le_of_ble_eq_true rfl) hR2 ?_
  refine x_if_ne F dX4_promote_10 (tgt := 19) (by decide) (fun h3 => ?_) (fun h3 => ?_)
  · replace h3 := bI_ne.mp h3
    obtain ⟨hxi, hx⟩ := is_ok (by rw [← hW.1.1]; exact h3) (Nat.le_trans hW.1.2 (by decide))
    refine wx_lv (lv' := [(0, .ref (ma z 30)), (1, .int (nI (tN x)))]) (by rw [hx]) ?_
    refine x_aload_n F dX4_promote_19 0 rfl rfl ?_
    refine z_get (m := z) (j := 10) (v := .ref (ma z 10)) F hR2 mw_809 rfl (by decide) rfl dX4_promote_20 ?_
    refine x_iload_n F dX4_promote_23 1 rfl rfl ?_
    refine z_ildN (m := z) (j := 10) (i := (tN x)) F hR2 (by decide) rfl rfl (Nat.lt_of_lt_of_le hxi hW.1.2) (by decide) dX4_promote_24 ?_
    refine x_if_ne F dX4_promote_25 (tgt := 38) (by decide) (fun h4 => ?_) (fun h4 => ?_)
    · refine x_aload_n F dX4_promote_38 0 rfl rfl ?_
      refine z_get (m := z) (j := 10) (v := .ref (ma z 10)) F hR2 mw_809 rfl (by decide) rfl dX4_promote_39 ?_
      refine x_iload_n F dX4_promote_42 1 rfl rfl ?_
      refine z_ildN (m := z) (j := 10) (i := (tN x)) F hR2 (by decide) rfl rfl (Nat.lt_of_lt_of_le hxi hW.1.2) (by decide) dX4_promote_43 ?_
      refine x_iconst (v := 1) F rfl dX4_promote_44 ?_
      refine x_icmp_ne F dX4_promote_45 (tgt := 62) (by decide) (fun h5 => ?_) (fun h5 => ?_)
      · refine x_iconst (v := 0) F rfl dX4_promote_62 ?_
        refine x_istore_n (lv' := [(2, .int 0), (0, .ref (ma z 30)), (1, .int (nI (tN x)))]) F dX4_promote_63 rfl (by decide) rfl ?_
        refine x_aload_n F dX4_promote_64 1 rfl rfl ?_
        refine x_iload_n F dX4_promote_65 2 rfl rfl ?_
        refine x_callVp (rest := []) F hR2.2.2.1 rfl (c_X4_flies l G A z (nI (tN x)) hW) k_X4_119 ⟨(Nat.le_of_ble_eq_true rfl), (Nat.le_of_ble_eq_true rfl), rfl, rfl⟩ (Nat.le_of_ble_eq_true rfl) (Nat.le_of_ble_eq_true rfl) dX4_promote_66 rfl rfl (Nat.le_of_ble_eq_true rfl) hR2 ?_
        refine x_if_ne F dX4_promote_69 (tgt := 76) (by decide) (fun h6 => ?_) (fun h6 => ?_)
        · replace h6 := bI_ne.mp h6
          refine x_aload_n F dX4_promote_76 1 rfl rfl ?_
          refine x_iconst (v := 2) F rfl dX4_promote_77 ?_
          refine x_callVs (rest := []) F hR2.2.2.1 rfl (c_X4_no l G A z 2) k_X4_94 ⟨⟨(Nat.le_of_ble_eq_true rfl), (Nat.le_of_ble_eq_true rfl)⟩, (Nat.le_of_ble_eq_true rfl), (Nat.le_of_ble_eq_true rfl)⟩ dX4_promote_78 rfl rfl (Nat.le_of_ble_eq_true rfl) hR2 ?_
          rintro _ H7 ⟨rfl, hR8⟩ - -
          have ho : q_promote z x = (0, sY z 0 2) := by (try simp only [hx] at h3 h4 h5 h6); first | (simp [q_promote, mZ_at, h3, h4, h5, h6, hx]; done) | (simp [q_promote, mZ_at, h3, h4, h5, h6, hx]; rfl) | (exfalso; simp_all; done)
          exact x_iret F hE dX4_promote_81 (Nat.le_of_ble_eq_true rfl) (Nat.le_of_ble_eq_true rfl) (⟨by rw [← hz, ho], by rw [← hz, ho]; exact hR8⟩)
        · replace h6 := bI_0.mp h6
          refine x_iload_n F dX4_promote_72 0 rfl rfl ?_
          refine x_if_ne F dX4_promote_73 (tgt := 82) (by decide) (fun h9 => absurd (by decide) h9) (fun _ => ?_)
          refine x_aload_n F dX4_promote_76 1 rfl rfl ?_
          refine x_iconst (v := 2) F rfl dX4_promote_77 ?_
          refine x_callVs (rest := []) F hR2.2.2.1 rfl (c_X4_no l G A z 2) k_X4_94 ⟨⟨(Nat.le_of_ble_eq_true rfl), (Nat.le_of_ble_eq_true rfl)⟩, (Nat.le_of_ble_eq_true rfl), (Nat.le_of_ble_eq_true rfl)⟩ dX4_promote_78 rfl rfl (Nat.le_of_ble_eq_true rfl) hR2 ?_
          rintro _ H10 ⟨rfl, hR11⟩ - -
          have ho : q_promote z x = (0, sY z 0 2) := by (try simp only [hx] at h3 h4 h5 h6); first | (simp [q_promote, mZ_at, h3, h4, h5, h6, hx]; done) | (simp [q_promote, mZ_at, h3, h4, h5, h6, hx]; rfl) | (exfalso; simp_all; done)
          exact x_iret F hE dX4_promote_81 (Nat.le_of_ble_eq_true rfl) (Nat.le_of_ble_eq_true rfl) (⟨by rw [← hz, ho], by rw [← hz, ho]; exact hR11⟩)
      · refine x_aload_n F dX4_promote_48 0 rfl rfl ?_
        refine x_iload_n F dX4_promote_49 1 rfl rfl ?_
        refine x_iconst (v := 5) F rfl dX4_promote_50 ?_
        refine x_callVp (rest := []) F hR2.2.2.1 rfl (c_X4_landed l G A z (nI (tN x)) 5 hW) k_X4_115 ⟨(Nat.le_of_ble_eq_true rfl), (Nat.le_of_ble_eq_true rfl), rfl, rfl⟩ (Nat.le_of_ble_eq_true rfl) (Nat.le_of_ble_eq_true rfl) dX4_promote_51 rfl rfl (Nat.le_of_ble_eq_true rfl) hR2 ?_
        refine x_iconst (v := 5) F rfl dX4_promote_54 ?_
        refine x_icmp_lt F dX4_promote_55 (tgt := 62) (by decide) (fun h12 => ?_) (fun h12 => ?_)
        · have h12' := Int32.not_le.mpr h12
          refine x_iconst (v := 0) F rfl dX4_promote_62 ?_
          refine x_istore_n (lv' := [(2, .int 0), (0, .ref (ma z 30)), (1, .int (nI (tN x)))]) F dX4_promote_63 rfl (by decide) rfl ?_
          refine x_aload_n F dX4_promote_64 1 rfl rfl ?_
          refine x_iload_n F dX4_promote_65 2 rfl rfl ?_
          refine x_callVp (rest := []) F hR2.2.2.1 rfl (c_X4_flies l G A z (nI (tN x)) hW) k_X4_119 ⟨(Nat.le_of_ble_eq_true rfl), (Nat.le_of_ble_eq_true rfl), rfl, rfl⟩ (Nat.le_of_ble_eq_true rfl) (Nat.le_of_ble_eq_true rfl) dX4_promote_66 rfl rfl (Nat.le_of_ble_eq_true rfl) hR2 ?_
          refine x_if_ne F dX4_promote_69 (tgt := 76) (by decide) (fun h13 => ?_) (fun h13 => ?_)
          · replace h13 := bI_ne.mp h13
            refine x_aload_n F dX4_promote_76 1 rfl rfl ?_
            refine x_iconst (v := 2) F rfl dX4_promote_77 ?_
            refine x_callVs (rest := []) F hR2.2.2.1 rfl (c_X4_no l G A z 2) k_X4_94 ⟨⟨(Nat.le_of_ble_eq_true rfl), (Nat.le_of_ble_eq_true rfl)⟩, (Nat.le_of_ble_eq_true rfl), (Nat.le_of_ble_eq_true rfl)⟩ dX4_promote_78 rfl rfl (Nat.le_of_ble_eq_true rfl) hR2 ?_
            rintro _ H14 ⟨rfl, hR15⟩ - -
            have ho : q_promote z x = (0, sY z 0 2) := by (try simp only [hx] at h3 h4 h5 h12 h12' h13); first | (simp [q_promote, mZ_at, h3, h4, h5, h12, h12', h13, hx]; done) | (simp [q_promote, mZ_at, h3, h4, h5, h12, h12', h13, hx]; rfl) | (exfalso; simp_all; done)
            exact x_iret F hE dX4_promote_81 (Nat.le_of_ble_eq_true rfl) (Nat.le_of_ble_eq_true rfl) (⟨by rw [← hz, ho], by rw [← hz, ho]; exact hR15⟩)
          · replace h13 := bI_0.mp h13
            refine x_iload_n F dX4_promote_72 0 rfl rfl ?_
            refine x_if_ne F dX4_promote_73 (tgt := 82) (by decide) (fun h16 => absurd (by decide) h16) (fun _ => ?_)
            refine x_aload_n F dX4_promote_76 1 rfl rfl ?_
            refine x_iconst (v := 2) F rfl dX4_promote_77 ?_
            refine x_callVs (rest := []) F hR2.2.2.1 rfl (c_X4_no l G A z 2) k_X4_94 ⟨⟨(Nat.le_of_ble_eq_true rfl), (Nat.le_of_ble_eq_true rfl)⟩, (Nat.le_of_ble_eq_true rfl), (Nat.le_of_ble_eq_true rfl)⟩ dX4_promote_78 rfl rfl (Nat.le_of_ble_eq_true rfl) hR2 ?_
            rintro _ H17 ⟨rfl, hR18⟩ - -
            have ho : q_promote z x = (0, sY z 0 2) := by (try simp only [hx] at h3 h4 h5 h12 h12' h13); first | (simp [q_promote, mZ_at, h3, h4, h5, h12, h12', h13, hx]; done) | (simp [q_promote, mZ_at, h3, h4, h5, h12, h12', h13, hx]; rfl) | (exfalso; simp_all; done)
            exact x_iret F hE dX4_promote_81 (Nat.le_of_ble_eq_true rfl) (Nat.le_of_ble_eq_true rfl) (⟨by rw [← hz, ho], by rw [← hz, ho]; exact hR18⟩)
        · have h12' := Int32.not_lt.mp h12
          refine x_iconst (v := 1) F rfl dX4_promote_58 ?_
          refine x_goto F dX4_promote_59 (tgt := 63) (by decide) ?_
          refine x_istore_n (lv' := [(2, .int 1), (0, .ref (ma z 30)), (1, .int (nI (tN x)))]) F dX4_promote_63 rfl (by decide) rfl ?_
          refine x_aload_n F dX4_promote_64 1 rfl rfl ?_
          refine x_iload_n F dX4_promote_65 2 rfl rfl ?_
          refine x_callVp (rest := []) F hR2.2.2.1 rfl (c_X4_flies l G A z (nI (tN x)) hW) k_X4_119 ⟨(Nat.le_of_ble_eq_true rfl), (Nat.le_of_ble_eq_true rfl), rfl, rfl⟩ (Nat.le_of_ble_eq_true rfl) (Nat.le_of_ble_eq_true rfl) dX4_promote_66 rfl rfl (Nat.le_of_ble_eq_true rfl) hR2 ?_
          refine x_if_ne F dX4_promote_69 (tgt := 76) (by decide) (fun h19 => ?_) (fun h19 => ?_)
          · replace h19 := bI_ne.mp h19
            refine x_aload_n F dX4_promote_76 1 rfl rfl ?_
            refine x_iconst (v := 2) F rfl dX4_promote_77 ?_
            refine x_callVs (rest := []) F hR2.2.2.1 rfl (c_X4_no l G A z 2) k_X4_94 ⟨⟨(Nat.le_of_ble_eq_true rfl), (Nat.le_of_ble_eq_true rfl)⟩, (Nat.le_of_ble_eq_true rfl), (Nat.le_of_ble_eq_true rfl)⟩ dX4_promote_78 rfl rfl (Nat.le_of_ble_eq_true rfl) hR2 ?_
            rintro _ H20 ⟨rfl, hR21⟩ - -
            have ho : q_promote z x = (0, sY z 0 2) := by (try simp only [hx] at h3 h4 h5 h12 h12' h19); first | (simp [q_promote, mZ_at, h3, h4, h5, h12, h12', h19, hx]; done) | (simp [q_promote, mZ_at, h3, h4, h5, h12, h12', h19, hx]; rfl) | (exfalso; simp_all; done)
            exact x_iret F hE dX4_promote_81 (Nat.le_of_ble_eq_true rfl) (Nat.le_of_ble_eq_true rfl) (⟨by rw [← hz, ho], by rw [← hz, ho]; exact hR21⟩)
          · replace h19 := bI_0.mp h19
            refine x_iload_n F dX4_promote_72 0 rfl rfl ?_
            refine x_if_ne F dX4_promote_73 (tgt := 82) (by decide) (fun _ => ?_) (fun h22 => absurd h22 (by decide))
            refine x_aload_n F dX4_promote_82 1 rfl rfl ?_
            refine z_get (m := z) (j := 10) (v := .ref (ma z 10)) F hR2 mw_809 rfl (by decide) rfl dX4_promote_83 ?_
            refine x_iload_n F dX4_promote_86 2 rfl rfl ?_
            refine x_dup2_11 F dX4_promote_87 rfl rfl ?_
            refine z_ildN (m := z) (j := 10) (i := (tN x)) F hR2 (by decide) rfl rfl (Nat.lt_of_lt_of_le hxi hW.1.2) (by decide) dX4_promote_88 ?_
            refine x_iconst (v := 1) F rfl dX4_promote_89 ?_
            refine x_iadd F dX4_promote_90 ?_
            refine z_istN (m := z) (j := 10) (i := (tN x)) (v := (mZ z 10 (tN x)) + 1) F hR2 (by decide) rfl rfl (Nat.lt_of_lt_of_le hxi hW.1.2) (by decide) dX4_promote_91 (fun H23 hR24 => ?_)
            refine x_aload_n F dX4_promote_92 1 rfl rfl ?_
            refine z_get (m := (sZ z 10 (tN x) ((mZ z 10 (tN x)) + 1))) (j := 10) (v := .ref (ma z 10)) F hR24 mw_809 rfl (by decide) rfl dX4_promote_93 ?_
            refine x_iload_n F dX4_promote_96 2 rfl rfl ?_
            refine z_ildN (m := (sZ z 10 (tN x) ((mZ z 10 (tN x)) + 1))) (j := 10) (i := (tN x)) F hR24 (by decide) rfl rfl (Nat.lt_of_lt_of_le hxi hW.1.2) (by decide) dX4_promote_97 ?_
            have ho : q_promote z x = (mZ (sZ z 10 (tN x) ((mZ z 10 (tN x)) + 1)) 10 (tN x), sZ z 10 (tN x) ((mZ z 10 (tN x)) + 1)) := by (try simp only [hx] at h3 h4 h5 h12 h12' h19); first | (simp [q_promote, mZ_at, h3, h4, h5, h12, h12', h19, hx]; done) | (simp [q_promote, mZ_at, h3, h4, h5, h12, h12', h19, hx]; rfl) | (exfalso; simp_all; done)
            exact x_iret F hE dX4_promote_98 (Nat.le_of_ble_eq_true rfl) (Nat.le_of_ble_eq_true rfl) (⟨by rw [← hz, ho], by rw [← hz, ho]; exact hR24⟩)
    · refine x_aload_n F dX4_promote_28 0 rfl rfl ?_
      refine x_iload_n F dX4_promote_29 1 rfl rfl ?_
      refine x_iconst (v := 4) F rfl dX4_promote_30 ?_
      refine x_callVp (rest := []) F hR2.2.2.1 rfl (c_X4_landed l G A z (nI (tN x)) 4 hW) k_X4_115 ⟨(Nat.le_of_ble_eq_true rfl), (Nat.le_of_ble_eq_true rfl), rfl, rfl⟩ (Nat.le_of_ble_eq_true rfl) (Nat.le_of_ble_eq_true rfl) dX4_promote_31 rfl rfl (Nat.le_of_ble_eq_true rfl) hR2 ?_
      refine x_iconst (v := 3) F rfl dX4_promote_34 ?_
      refine x_icmp_ge F dX4_promote_35 (tgt := 58) (by decide) (fun h25 => ?_) (fun h25 => ?_)
      · have h25' := Int32.not_lt.mpr h25
        refine x_iconst (v := 1) F rfl dX4_promote_58 ?_
        refine x_goto F dX4_promote_59 (tgt := 63) (by decide) ?_
        refine x_istore_n (lv' := [(2, .int 1), (0, .ref (ma z 30)), (1, .int (nI (tN x)))]) F dX4_promote_63 rfl (by decide) rfl ?_
        refine x_aload_n F dX4_promote_64 1 rfl rfl ?_
        refine x_iload_n F dX4_promote_65 2 rfl rfl ?_
        refine x_callVp (rest := []) F hR2.2.2.1 rfl (c_X4_flies l G A z (nI (tN x)) hW) k_X4_119 ⟨(Nat.le_of_ble_eq_true rfl), (Nat.le_of_ble_eq_true rfl), rfl, rfl⟩ (Nat.le_of_ble_eq_true rfl) (Nat.le_of_ble_eq_true rfl) dX4_promote_66 rfl rfl (Nat.le_of_ble_eq_true rfl) hR2 ?_
        refine x_if_ne F dX4_promote_69 (tgt := 76) (by decide) (fun h26 => ?_) (fun h26 => ?_)
        · replace h26 := bI_ne.mp h26
          refine x_aload_n F dX4_promote_76 1 rfl rfl ?_
          refine x_iconst (v := 2) F rfl dX4_promote_77 ?_
          refine x_callVs (rest := []) F hR2.2.2.1 rfl (c_X4_no l G A z 2) k_X4_94 ⟨⟨(Nat.le_of_ble_eq_true rfl), (Nat.le_of_ble_eq_true rfl)⟩, (Nat.le_of_ble_eq_true rfl), (Nat.le_of_ble_eq_true rfl)⟩ dX4_promote_78 rfl rfl (Nat.le_of_ble_eq_true rfl) hR2 ?_
          rintro _ H27 ⟨rfl, hR28⟩ - -
          have ho : q_promote z x = (0, sY z 0 2) := by (try simp only [hx] at h3 h4 h25 h25' h26); first | (simp [q_promote, mZ_at, h3, h4, h25, h25', h26, hx]; done) | (simp [q_promote, mZ_at, h3, h4, h25, h25', h26, hx]; rfl) | (exfalso; simp_all; done)
          exact x_iret F hE dX4_promote_81 (Nat.le_of_ble_eq_true rfl) (Nat.le_of_ble_eq_true rfl) (⟨by rw [← hz, ho], by rw [← hz, ho]; exact hR28⟩)
        · replace h26 := bI_0.mp h26
          refine x_iload_n F dX4_promote_72 0 rfl rfl ?_
          refine x_if_ne F dX4_promote_73 (tgt := 82) (by decide) (fun _ => ?_) (fun h29 => absurd h29 (by decide))
          refine x_aload_n F dX4_promote_82 1 rfl rfl ?_
          refine z_get (m := z) (j := 10) (v := .ref (ma z 10)) F hR2 mw_809 rfl (by decide) rfl dX4_promote_83 ?_
          refine x_iload_n F dX4_promote_86 2 rfl rfl ?_
          refine x_dup2_11 F dX4_promote_87 rfl rfl ?_
          refine z_ildN (m := z) (j := 10) (i := (tN x)) F hR2 (by decide) rfl rfl (Nat.lt_of_lt_of_le hxi hW.1.2) (by decide) dX4_promote_88 ?_
          refine x_iconst (v := 1) F rfl dX4_promote_89 ?_
          refine x_iadd F dX4_promote_90 ?_
          refine z_istN (m := z) (j := 10) (i := (tN x)) (v := (mZ z 10 (tN x)) + 1) F hR2 (by decide) rfl rfl (Nat.lt_of_lt_of_le hxi hW.1.2) (by decide) dX4_promote_91 (fun H30 hR31 => ?_)
          refine x_aload_n F dX4_promote_92 1 rfl rfl ?_
          refine z_get (m := (sZ z 10 (tN x) ((mZ z 10 (tN x)) + 1))) (j := 10) (v := .ref (ma z 10)) F hR31 mw_809 rfl (by decide) rfl dX4_promote_93 ?_
          refine x_iload_n F dX4_promote_96 2 rfl rfl ?_
          refine z_ildN (m := (sZ z 10 (tN x) ((mZ z 10 (tN x)) + 1))) (j := 10) (i := (tN x)) F hR31 (by decide) rfl rfl (Nat.lt_of_lt_of_le hxi hW.1.2) (by decide) dX4_promote_97 ?_
          have ho : q_promote z x = (mZ (sZ z 10 (tN x) ((mZ z 10 (tN x)) + 1)) 10 (tN x), sZ z 10 (tN x) ((mZ z 10 (tN x)) + 1)) := by (try simp only [hx] at h3 h4 h25 h25' h26); first | (simp [q_promote, mZ_at, h3, h4, h25, h25', h26, hx]; done) | (simp [q_promote, mZ_at, h3, h4, h25, h25', h26, hx]; rfl) | (exfalso; simp_all; done)
          exact x_iret F hE dX4_promote_98 (Nat.le_of_ble_eq_true rfl) (Nat.le_of_ble_eq_true rfl) (⟨by rw [← hz, ho], by rw [← hz, ho]; exact hR31⟩)
      · have h25' := Int32.not_le.mp h25
        refine x_aload_n F dX4_promote_38 0 rfl rfl ?_
        refine z_get (m := z) (j := 10) (v := .ref (ma z 10)) F hR2 mw_809 rfl (by decide) rfl dX4_promote_39 ?_
        refine x_iload_n F dX4_promote_42 1 rfl rfl ?_
        refine z_ildN (m := z) (j := 10) (i := (tN x)) F hR2 (by decide) rfl rfl (Nat.lt_of_lt_of_le hxi hW.1.2) (by decide) dX4_promote_43 ?_
        refine x_iconst (v := 1) F rfl dX4_promote_44 ?_
        refine x_icmp_ne F dX4_promote_45 (tgt := 62) (by decide) (fun h32 => ?_) (fun h32 => ?_)
        · refine x_iconst (v := 0) F rfl dX4_promote_62 ?_
          refine x_istore_n (lv' := [(2, .int 0), (0, .ref (ma z 30)), (1, .int (nI (tN x)))]) F dX4_promote_63 rfl (by decide) rfl ?_
          refine x_aload_n F dX4_promote_64 1 rfl rfl ?_
          refine x_iload_n F dX4_promote_65 2 rfl rfl ?_
          refine x_callVp (rest := []) F hR2.2.2.1 rfl (c_X4_flies l G A z (nI (tN x)) hW) k_X4_119 ⟨(Nat.le_of_ble_eq_true rfl), (Nat.le_of_ble_eq_true rfl), rfl, rfl⟩ (Nat.le_of_ble_eq_true rfl) (Nat.le_of_ble_eq_true rfl) dX4_promote_66 rfl rfl (Nat.le_of_ble_eq_true rfl) hR2 ?_
          refine x_if_ne F dX4_promote_69 (tgt := 76) (by decide) (fun h33 => ?_) (fun h33 => ?_)
          · replace h33 := bI_ne.mp h33
            refine x_aload_n F dX4_promote_76 1 rfl rfl ?_
            refine x_iconst (v := 2) F rfl dX4_promote_77 ?_
            refine x_callVs (rest := []) F hR2.2.2.1 rfl (c_X4_no l G A z 2) k_X4_94 ⟨⟨(Nat.le_of_ble_eq_true rfl), (Nat.le_of_ble_eq_true rfl)⟩, (Nat.le_of_ble_eq_true rfl), (Nat.le_of_ble_eq_true rfl)⟩ dX4_promote_78 rfl rfl (Nat.le_of_ble_eq_true rfl) hR2 ?_
            rintro _ H34 ⟨rfl, hR35⟩ - -
            have ho : q_promote z x = (0, sY z 0 2) := by (try simp only [hx] at h3 h4 h25 h25' h32 h33); first | (simp [q_promote, mZ_at, h3, h4, h25, h25', h32, h33, hx]; done) | (simp [q_promote, mZ_at, h3, h4, h25, h25', h32, h33, hx]; rfl) | (exfalso; simp_all; done)
            exact x_iret F hE dX4_promote_81 (Nat.le_of_ble_eq_true rfl) (Nat.le_of_ble_eq_true rfl) (⟨by rw [← hz, ho], by rw [← hz, ho]; exact hR35⟩)
          · replace h33 := bI_0.mp h33
            refine x_iload_n F dX4_promote_72 0 rfl rfl ?_
            refine x_if_ne F dX4_promote_73 (tgt := 82) (by decide) (fun h36 => absurd (by decide) h36) (fun _ => ?_)
            refine x_aload_n F dX4_promote_76 1 rfl rfl ?_
            refine x_iconst (v := 2) F rfl dX4_promote_77 ?_
            refine x_callVs (rest := []) F hR2.2.2.1 rfl (c_X4_no l G A z 2) k_X4_94 ⟨⟨(Nat.le_of_ble_eq_true rfl), (Nat.le_of_ble_eq_true rfl)⟩, (Nat.le_of_ble_eq_true rfl), (Nat.le_of_ble_eq_true rfl)⟩ dX4_promote_78 rfl rfl (Nat.le_of_ble_eq_true rfl) hR2 ?_
            rintro _ H37 ⟨rfl, hR38⟩ - -
            have ho : q_promote z x = (0, sY z 0 2) := by (try simp only [hx] at h3 h4 h25 h25' h32 h33); first | (simp [q_promote, mZ_at, h3, h4, h25, h25', h32, h33, hx]; done) | (simp [q_promote, mZ_at, h3, h4, h25, h25', h32, h33, hx]; rfl) | (exfalso; simp_all; done)
            exact x_iret F hE dX4_promote_81 (Nat.le_of_ble_eq_true rfl) (Nat.le_of_ble_eq_true rfl) (⟨by rw [← hz, ho], by rw [← hz, ho]; exact hR38⟩)
        · refine x_aload_n F dX4_promote_48 0 rfl rfl ?_
          refine x_iload_n F dX4_promote_49 1 rfl rfl ?_
          refine x_iconst (v := 5) F rfl dX4_promote_50 ?_
          refine x_callVp (rest := []) F hR2.2.2.1 rfl (c_X4_landed l G A z (nI (tN x)) 5 hW) k_X4_115 ⟨(Nat.le_of_ble_eq_true rfl), (Nat.le_of_ble_eq_true rfl), rfl, rfl⟩ (Nat.le_of_ble_eq_true rfl) (Nat.le_of_ble_eq_true rfl) dX4_promote_51 rfl rfl (Nat.le_of_ble_eq_true rfl) hR2 ?_
          refine x_iconst (v := 5) F rfl dX4_promote_54 ?_
          refine x_icmp_lt F dX4_promote_55 (tgt := 62) (by decide) (fun h39 => ?_) (fun h39 => ?_)
          · have h39' := Int32.not_le.mpr h39
            refine x_iconst (v := 0) F rfl dX4_promote_62 ?_
            refine x_istore_n (lv' := [(2, .int 0), (0, .ref (ma z 30)), (1, .int (nI (tN x)))]) F dX4_promote_63 rfl (by decide) rfl ?_
            refine x_aload_n F dX4_promote_64 1 rfl rfl ?_
            refine x_iload_n F dX4_promote_65 2 rfl rfl ?_
            refine x_callVp (rest := []) F hR2.2.2.1 rfl (c_X4_flies l G A z (nI (tN x)) hW) k_X4_119 ⟨(Nat.le_of_ble_eq_true rfl), (Nat.le_of_ble_eq_true rfl), rfl, rfl⟩ (Nat.le_of_ble_eq_true rfl) (Nat.le_of_ble_eq_true rfl) dX4_promote_66 rfl rfl (Nat.le_of_ble_eq_true rfl) hR2 ?_
            refine x_if_ne F dX4_promote_69 (tgt := 76) (by decide) (fun h40 => ?_) (fun h40 => ?_)
            · replace h40 := bI_ne.mp h40
              refine x_aload_n F dX4_promote_76 1 rfl rfl ?_
              refine x_iconst (v := 2) F rfl dX4_promote_77 ?_
              refine x_callVs (rest := []) F hR2.2.2.1 rfl (c_X4_no l G A z 2) k_X4_94 ⟨⟨(Nat.le_of_ble_eq_true rfl), (Nat.le_of_ble_eq_true rfl)⟩, (Nat.le_of_ble_eq_true rfl), (Nat.le_of_ble_eq_true rfl)⟩ dX4_promote_78 rfl rfl (Nat.le_of_ble_eq_true rfl) hR2 ?_
              rintro _ H41 ⟨rfl, hR42⟩ - -
              have ho : q_promote z x = (0, sY z 0 2) := by (try simp only [hx] at h3 h4 h25 h25' h32 h39 h39' h40); first | (simp [q_promote, mZ_at, h3, h4, h25, h25', h32, h39, h39', h40, hx]; done) | (simp [q_promote, mZ_at, h3, h4, h25, h25', h32, h39, h39', h40, hx]; rfl) | (exfalso; simp_all; done)
              exact x_iret F hE dX4_promote_81 (Nat.le_of_ble_eq_true rfl) (Nat.le_of_ble_eq_true rfl) (⟨by rw [← hz, ho], by rw [← hz, ho]; exact hR42⟩)
            · replace h40 := bI_0.mp h40
              refine x_iload_n F dX4_promote_72 0 rfl rfl ?_
              refine x_if_ne F dX4_promote_73 (tgt := 82) (by decide) (fun h43 => absurd (by decide) h43) (fun _ => ?_)
              refine x_aload_n F dX4_promote_76 1 rfl rfl ?_
              refine x_iconst (v := 2) F rfl dX4_promote_77 ?_
              refine x_callVs (rest := []) F hR2.2.2.1 rfl (c_X4_no l G A z 2) k_X4_94 ⟨⟨(Nat.le_of_ble_eq_true rfl), (Nat.le_of_ble_eq_true rfl)⟩, (Nat.le_of_ble_eq_true rfl), (Nat.le_of_ble_eq_true rfl)⟩ dX4_promote_78 rfl rfl (Nat.le_of_ble_eq_true rfl) hR2 ?_
              rintro _ H44 ⟨rfl, hR45⟩ - -
              have ho : q_promote z x = (0, sY z 0 2) := by (try simp only [hx] at h3 h4 h25 h25' h32 h39 h39' h40); first | (simp [q_promote, mZ_at, h3, h4, h25, h25', h32, h39, h39', h40, hx]; done) | (simp [q_promote, mZ_at, h3, h4, h25, h25', h32, h39, h39', h40, hx]; rfl) | (exfalso; simp_all; done)
              exact x_iret F hE dX4_promote_81 (Nat.le_of_ble_eq_true rfl) (Nat.le_of_ble_eq_true rfl) (⟨by rw [← hz, ho], by rw [← hz, ho]; exact hR45⟩)
          · have h39' := Int32.not_lt.mp h39
            refine x_iconst (v := 1) F rfl dX4_promote_58 ?_
            refine x_goto F dX4_promote_59 (tgt := 63) (by decide) ?_
            refine x_istore_n (lv' := [(2, .int 1), (0, .ref (ma z 30)), (1, .int (nI (tN x)))]) F dX4_promote_63 rfl (by decide) rfl ?_
            refine x_aload_n F dX4_promote_64 1 rfl rfl ?_
            refine x_iload_n F dX4_promote_65 2 rfl rfl ?_
            refine x_callVp (rest := []) F hR2.2.2.1 rfl (c_X4_flies l G A z (nI (tN x)) hW) k_X4_119 ⟨(Nat.le_of_ble_eq_true rfl), (Nat.le_of_ble_eq_true rfl), rfl, rfl⟩ (Nat.le_of_ble_eq_true rfl) (Nat.le_of_ble_eq_true rfl) dX4_promote_66 rfl rfl (Nat.le_of_ble_eq_true rfl) hR2 ?_
            refine x_if_ne F dX4_promote_69 (tgt := 76) (by decide) (fun h46 => ?_) (fun h46 => ?_)
            · replace h46 := bI_ne.mp h46
              refine x_aload_n F dX4_promote_76 1 rfl rfl ?_
              refine x_iconst (v := 2) F rfl dX4_promote_77 ?_
              refine x_callVs (rest := []) F hR2.2.2.1 rfl (c_X4_no l G A z 2) k_X4_94 ⟨⟨(Nat.le_of_ble_eq_true rfl), (Nat.le_of_ble_eq_true rfl)⟩, (Nat.le_of_ble_eq_true rfl), (Nat.le_of_ble_eq_true rfl)⟩ dX4_promote_78 rfl rfl (Nat.le_of_ble_eq_true rfl) hR2 ?_
              rintro _ H47 ⟨rfl, hR48⟩ - -
              have ho : q_promote z x = (0, sY z 0 2) := by (try simp only [hx] at h3 h4 h25 h25' h32 h39 h39' h46); first | (simp [q_promote, mZ_at, h3, h4, h25, h25', h32, h39, h39', h46, hx]; done) | (simp [q_promote, mZ_at, h3, h4, h25, h25', h32, h39, h39', h46, hx]; rfl) | (exfalso; simp_all; done)
              exact x_iret F hE dX4_promote_81 (Nat.le_of_ble_eq_true rfl) (Nat.le_of_ble_eq_true rfl) (⟨by rw [← hz, ho], by rw [← hz, ho]; exact hR48⟩)
            · replace h46 := bI_0.mp h46
              refine x_iload_n F dX4_promote_72 0 rfl rfl ?_
              refine x_if_ne F dX4_promote_73 (tgt := 82) (by decide) (fun _ => ?_) (fun h49 => absurd h49 (by decide))
              refine x_aload_n F dX4_promote_82 1 rfl rfl ?_
              refine z_get (m := z) (j := 10) (v := .ref (ma z 10)) F hR2 mw_809 rfl (by decide) rfl dX4_promote_83 ?_
              refine x_iload_n F dX4_promote_86 2 rfl rfl ?_
              refine x_dup2_11 F dX4_promote_87 rfl rfl ?_
              refine z_ildN (m := z) (j := 10) (i := (tN x)) F hR2 (by decide) rfl rfl (Nat.lt_of_lt_of_le hxi hW.1.2) (by decide) dX4_promote_88 ?_
              refine x_iconst (v := 1) F rfl dX4_promote_89 ?_
              refine x_iadd F dX4_promote_90 ?_
              refine z_istN (m := z) (j := 10) (i := (tN x)) (v := (mZ z 10 (tN x)) + 1) F hR2 (by decide) rfl rfl (Nat.lt_of_lt_of_le hxi hW.1.2) (by decide) dX4_promote_91 (fun H50 hR51 => ?_)
              refine x_aload_n F dX4_promote_92 1 rfl rfl ?_
              refine z_get (m := (sZ z 10 (tN x) ((mZ z 10 (tN x)) + 1))) (j := 10) (v := .ref (ma z 10)) F hR51 mw_809 rfl (by decide) rfl dX4_promote_93 ?_
              refine x_iload_n F dX4_promote_96 2 rfl rfl ?_
              refine z_ildN (m := (sZ z 10 (tN x) ((mZ z 10 (tN x)) + 1))) (j := 10) (i := (tN x)) F hR51 (by decide) rfl rfl (Nat.lt_of_lt_of_le hxi hW.1.2) (by decide) dX4_promote_97 ?_
              have ho : q_promote z x = (mZ (sZ z 10 (tN x) ((mZ z 10 (tN x)) + 1)) 10 (tN x), sZ z 10 (tN x) ((mZ z 10 (tN x)) + 1)) := by (try simp only [hx] at h3 h4 h25 h25' h32 h39 h39' h46); first | (simp [q_promote, mZ_at, h3, h4, h25, h25', h32, h39, h39', h46, hx]; done) | (simp [q_promote, mZ_at, h3, h4, h25, h25', h32, h39, h39', h46, hx]; rfl) | (exfalso; simp_all; done)
              exact x_iret F hE dX4_promote_98 (Nat.le_of_ble_eq_true rfl) (Nat.le_of_ble_eq_true rfl) (⟨by rw [← hz, ho], by rw [← hz, ho]; exact hR51⟩)
  · replace h3 := bI_0.mp h3
    refine x_aload_n F dX4_promote_13 0 rfl rfl ?_
    refine x_iconst (v := 1) F rfl dX4_promote_14 ?_
    refine x_callVs (rest := []) F hR2.2.2.1 rfl (c_X4_no l G A z 1) k_X4_94 ⟨⟨(Nat.le_of_ble_eq_true rfl), (Nat.le_of_ble_eq_true rfl)⟩, (Nat.le_of_ble_eq_true rfl), (Nat.le_of_ble_eq_true rfl)⟩ dX4_promote_15 rfl rfl (Nat.le_of_ble_eq_true rfl) hR2 ?_
    rintro _ H52 ⟨rfl, hR53⟩ - -
    have ho : q_promote z x = (0, sY z 0 1) := by first | (simp [q_promote, mZ_at, h3]; done) | (simp [q_promote, mZ_at, h3]; rfl) | (exfalso; simp_all; done)
    exact x_iret F hE dX4_promote_18 (Nat.le_of_ble_eq_true rfl) (Nat.le_of_ble_eq_true rfl) (⟨by rw [← hz, ho], by rw [← hz, ho]; exact hR53⟩)
set_option maxHeartbeats 4000000 in
set_option maxRecDepth 100000 in
theorem c_X4_member (l : Launch) (G : GT) (A : Nat → Prop) (m : MS) (hW : WfM m) (x w : Int32) : Ct l yX4_member cX4_member 3 (some .int) ({ frames := 3, cells := 0, slots := 0, locals := 68 } : Room) G A [.ref (ma m 30), .int x, .int w] (fun H => RepM G A m H) (fun H r H1 => r = some (.int (q_member (sY m 0 0) x w).1) ∧ RepM G A ((q_member (sY m 0 0) x w).2) H1) := by
  refine ct_of (own := "GliderDayModel") (by decide +kernel) rfl (Nat.le_of_ble_eq_true rfl) (fun E H0 F hE hR => ?_)
  show wx E H0 0 0 0 [(0, .ref (ma m 30)), (1, .int x), (2, .int w)] []
  refine x_aload_n F dX4_member_0 0 rfl rfl ?_
  refine x_iconst (v := 0) F rfl dX4_member_1 ?_
  refine z_put (m := m) (j := 0) (v := 0) F hR mw_799 rfl (by decide) rfl rfl rfl dX4_member_2 (fun H1 hR2 => ?_)
  obtain ⟨z, hz⟩ : ∃ z, z = sY m 0 0 := ⟨_, rfl⟩
  have hW : WfM z := by rw [hz]; exact Same.wf (Same.Y (by decide)) hW
  rw [← hz] at hR2
  refine wx_lv (lv' := [(0, .ref (ma z 30)), (1, .int x), (2, .int w)]) (by rw [hz]; rfl) ?_
  refine x_aload_n F dX4_member_5 0 rfl rfl ?_
  refine x_iload_n F dX4_member_6 1 rfl rfl ?_
  refine x_callVp (rest := []) F hR2.2.2.1 rfl (c_X4_isMember l G A z x) k_X4_112 ⟨(Nat.le_of_ble_eq_true rfl), (Nat.le_of_ble_eq_true rfl), rfl, rfl⟩ (Nat.le_of_ble_eq_true rfl) (Nat.le_of_ble_eq_true rfl) dX4_member_7 rfl rfl (Nat.le_of_ble_eq_true rfl) hR2 ?_
  refine x_if_eq F dX4_member_10 (tgt := 31) (by decide) (fun h3 => ?_) (fun h3 => ?_)
  · replace h3 := bI_0.mp h3
    refine x_aload_n F dX4_member_31 0 rfl rfl ?_
    refine x_iconst (v := 1) F rfl dX4_member_32 ?_
    refine x_callVs (rest := []) F hR2.2.2.1 rfl (c_X4_no l G A z 1) k_X4_94 ⟨⟨(Nat.le_of_ble_eq_true rfl), (Nat.le_of_ble_eq_true rfl)⟩, (Nat.le_of_ble_eq_true rfl), (Nat.le_of_ble_eq_true rfl)⟩ dX4_member_33 rfl rfl (Nat.le_of_ble_eq_true rfl) hR2 ?_
    rintro _ H4 ⟨rfl, hR5⟩ - -
    have ho : q_member z x w = (0, sY z 0 1) := by first | (simp [q_member, h3]; done) | (simp [q_member, h3]; rfl) | (exfalso; simp_all; done)
    exact x_iret F hE dX4_member_36 (Nat.le_of_ble_eq_true rfl) (Nat.le_of_ble_eq_true rfl) (⟨by rw [← hz, ho], by rw [← hz, ho]; exact hR5⟩)
  · replace h3 := bI_ne.mp h3
    obtain ⟨hxi, hx⟩ := is_ok (by rw [← hW.1.1]; exact h3) (Nat.le_trans hW.1.2 (by decide))
    refine wx_lv (lv' := [(0, .ref (ma z 30)), (1, .int (nI (tN x))), (2, .int w)]) (by rw [hx]) ?_
    refine x_iload_n F dX4_member_13 2 rfl rfl ?_
    refine x_iconst (v := 0) F rfl dX4_member_14 ?_
    refine x_iconst (v := 5) F rfl dX4_member_15 ?_
    refine x_callSp (rest := []) F (c_X4_isIn l G A w 0 5) k_X4_84 ⟨(Nat.le_of_ble_eq_true rfl), (Nat.le_of_ble_eq_true rfl), rfl, rfl⟩ (Nat.le_of_ble_eq_true rfl) (Nat.le_of_ble_eq_true rfl) dX4_member_16 rfl rfl (Nat.le_of_ble_eq_true rfl) trivial ?_
    refine x_if_eq F dX4_member_19 (tgt := 31) (by decide) (fun h6 => ?_) (fun h6 => ?_)
    · replace h6 := bI_0.mp h6
      refine x_aload_n F dX4_member_31 0 rfl rfl ?_
      refine x_iconst (v := 1) F rfl dX4_member_32 ?_
      refine x_callVs (rest := []) F hR2.2.2.1 rfl (c_X4_no l G A z 1) k_X4_94 ⟨⟨(Nat.le_of_ble_eq_true rfl), (Nat.le_of_ble_eq_true rfl)⟩, (Nat.le_of_ble_eq_true rfl), (Nat.le_of_ble_eq_true rfl)⟩ dX4_member_33 rfl rfl (Nat.le_of_ble_eq_true rfl) hR2 ?_
      rintro _ H7 ⟨rfl, hR8⟩ - -
      have ho : q_member z x w = (0, sY z 0 1) := by (try simp only [hx] at h3 h6); first | (simp [q_member, h3, h6, hx]; done) | (simp [q_member, h3, h6, hx]; rfl) | (exfalso; simp_all; done)
      exact x_iret F hE dX4_member_36 (Nat.le_of_ble_eq_true rfl) (Nat.le_of_ble_eq_true rfl) (⟨by rw [← hz, ho], by rw [← hz, ho]; exact hR8⟩)
    · replace h6 := bI_ne.mp h6
      refine x_aload_n F dX4_member_22 0 rfl rfl ?_
      refine x_iload_n F dX4_member_23 1 rfl rfl ?_
      refine x_iload_n F dX4_member_24 2 rfl rfl ?_
      refine x_callVp (rest := []) F hR2.2.2.1 rfl (c_X4_toldOfMember l G A z (tN x) hxi w hW) k_X4_122 ⟨(Nat.le_of_ble_eq_true rfl), (Nat.le_of_ble_eq_true rfl), rfl, rfl⟩ (Nat.le_of_ble_eq_true rfl) (Nat.le_of_ble_eq_true rfl) dX4_member_25 rfl rfl (Nat.le_of_ble_eq_true rfl) hR2 ?_
      refine x_goto F dX4_member_28 (tgt := 36) (by decide) ?_
      have ho : q_member z x w = (m_tm z (tN x) w, z) := by (try simp only [hx] at h3 h6); first | (simp [q_member, h3, h6, hx]; done) | (simp [q_member, h3, h6, hx]; rfl) | (exfalso; simp_all; done)
      exact x_iret F hE dX4_member_36 (Nat.le_of_ble_eq_true rfl) (Nat.le_of_ble_eq_true rfl) (⟨by rw [← hz, ho], by rw [← hz, ho]; exact hR2⟩)
set_option maxHeartbeats 4000000 in
set_option maxRecDepth 100000 in
theorem c_X4_glider (l : Launch) (G : GT) (A : Nat → Prop) (m : MS) (hW : WfM m) (x w : Int32) : Ct l yX4_glider cX4_glider 3 (some .int) ({ frames := 2, cells := 0, slots := 0, locals := 46 } : Room) G A [.ref (ma m 30), .int x, .int w] (fun H => RepM G A m H) (fun H r H1 => r = some (.int (q_glider (sY m 0 0) x w).1) ∧ RepM G A ((q_glider (sY m 0 0) x w).2) H1) := by
  refine ct_of (own := "GliderDayModel") (by decide +kernel) rfl (Nat.le_of_ble_eq_true rfl) (fun E H0 F hE hR => ?_)
  show wx E H0 0 0 0 [(0, .ref (ma m 30)), (1, .int x), (2, .int w)] []
  refine x_aload_n F dX4_glider_0 0 rfl rfl ?_
  refine x_iconst (v := 0) F rfl dX4_glider_1 ?_
  refine z_put (m := m) (j := 0) (v := 0) F hR mw_799 rfl (by decide) rfl rfl rfl dX4_glider_2 (fun H1 hR2 => ?_)
  obtain ⟨z, hz⟩ : ∃ z, z = sY m 0 0 := ⟨_, rfl⟩
  have hW : WfM z := by rw [hz]; exact Same.wf (Same.Y (by decide)) hW
  rw [← hz] at hR2
  refine wx_lv (lv' := [(0, .ref (ma z 30)), (1, .int x), (2, .int w)]) (by rw [hz]; rfl) ?_
  refine x_aload_n F dX4_glider_5 0 rfl rfl ?_
  refine x_iload_n F dX4_glider_6 1 rfl rfl ?_
  refine x_callVp (rest := []) F hR2.2.2.1 rfl (c_X4_isGlider l G A z x) k_X4_102 ⟨(Nat.le_of_ble_eq_true rfl), (Nat.le_of_ble_eq_true rfl), rfl, rfl⟩ (Nat.le_of_ble_eq_true rfl) (Nat.le_of_ble_eq_true rfl) dX4_glider_7 rfl rfl (Nat.le_of_ble_eq_true rfl) hR2 ?_
  refine x_if_eq F dX4_glider_10 (tgt := 31) (by decide) (fun h3 => ?_) (fun h3 => ?_)
  · replace h3 := bI_0.mp h3
    refine x_aload_n F dX4_glider_31 0 rfl rfl ?_
    refine x_iconst (v := 1) F rfl dX4_glider_32 ?_
    refine x_callVs (rest := []) F hR2.2.2.1 rfl (c_X4_no l G A z 1) k_X4_94 ⟨⟨(Nat.le_of_ble_eq_true rfl), (Nat.le_of_ble_eq_true rfl)⟩, (Nat.le_of_ble_eq_true rfl), (Nat.le_of_ble_eq_true rfl)⟩ dX4_glider_33 rfl rfl (Nat.le_of_ble_eq_true rfl) hR2 ?_
    rintro _ H4 ⟨rfl, hR5⟩ - -
    have ho : q_glider z x w = (0, sY z 0 1) := by first | (simp [q_glider, h3]; done) | (simp [q_glider, h3]; rfl) | (exfalso; simp_all; done)
    exact x_iret F hE dX4_glider_36 (Nat.le_of_ble_eq_true rfl) (Nat.le_of_ble_eq_true rfl) (⟨by rw [← hz, ho], by rw [← hz, ho]; exact hR5⟩)
  · replace h3 := bI_ne.mp h3
    obtain ⟨hxi, hx⟩ := is_ok (by rw [← hW.2.1.1]; exact h3) (Nat.le_trans hW.2.1.2 (by decide))
    refine wx_lv (lv' := [(0, .ref (ma z 30)), (1, .int (nI (tN x))), (2, .int w)]) (by rw [hx]) ?_
    refine x_iload_n F dX4_glider_13 2 rfl rfl ?_
    refine x_iconst (v := 0) F rfl dX4_glider_14 ?_
    refine x_iconst (v := 4) F rfl dX4_glider_15 ?_
    refine x_callSp (rest := []) F (c_X4_isIn l G A w 0 4) k_X4_84 ⟨(Nat.le_of_ble_eq_true rfl), (Nat.le_of_ble_eq_true rfl), rfl, rfl⟩ (Nat.le_of_ble_eq_true rfl) (Nat.le_of_ble_eq_true rfl) dX4_glider_16 rfl rfl (Nat.le_of_ble_eq_true rfl) trivial ?_
    refine x_if_eq F dX4_glider_19 (tgt := 31) (by decide) (fun h6 => ?_) (fun h6 => ?_)
    · replace h6 := bI_0.mp h6
      refine x_aload_n F dX4_glider_31 0 rfl rfl ?_
      refine x_iconst (v := 1) F rfl dX4_glider_32 ?_
      refine x_callVs (rest := []) F hR2.2.2.1 rfl (c_X4_no l G A z 1) k_X4_94 ⟨⟨(Nat.le_of_ble_eq_true rfl), (Nat.le_of_ble_eq_true rfl)⟩, (Nat.le_of_ble_eq_true rfl), (Nat.le_of_ble_eq_true rfl)⟩ dX4_glider_33 rfl rfl (Nat.le_of_ble_eq_true rfl) hR2 ?_
      rintro _ H7 ⟨rfl, hR8⟩ - -
      have ho : q_glider z x w = (0, sY z 0 1) := by (try simp only [hx] at h3 h6); first | (simp [q_glider, h3, h6, hx]; done) | (simp [q_glider, h3, h6, hx]; rfl) | (exfalso; simp_all; done)
      exact x_iret F hE dX4_glider_36 (Nat.le_of_ble_eq_true rfl) (Nat.le_of_ble_eq_true rfl) (⟨by rw [← hz, ho], by rw [← hz, ho]; exact hR8⟩)
    · replace h6 := bI_ne.mp h6
      refine x_aload_n F dX4_glider_22 0 rfl rfl ?_
      refine x_iload_n F dX4_glider_23 1 rfl rfl ?_
      refine x_iload_n F dX4_glider_24 2 rfl rfl ?_
      refine x_callVp (rest := []) F hR2.2.2.1 rfl (c_X4_toldOfGlider l G A z (tN x) hxi w hW) k_X4_125 ⟨(Nat.le_of_ble_eq_true rfl), (Nat.le_of_ble_eq_true rfl), rfl, rfl⟩ (Nat.le_of_ble_eq_true rfl) (Nat.le_of_ble_eq_true rfl) dX4_glider_25 rfl rfl (Nat.le_of_ble_eq_true rfl) hR2 ?_
      refine x_goto F dX4_glider_28 (tgt := 36) (by decide) ?_
      have ho : q_glider z x w = (m_tg z (tN x) w, z) := by (try simp only [hx] at h3 h6); first | (simp [q_glider, h3, h6, hx]; done) | (simp [q_glider, h3, h6, hx]; rfl) | (exfalso; simp_all; done)
      exact x_iret F hE dX4_glider_36 (Nat.le_of_ble_eq_true rfl) (Nat.le_of_ble_eq_true rfl) (⟨by rw [← hz, ho], by rw [← hz, ho]; exact hR2⟩)
set_option maxHeartbeats 4000000 in
set_option maxRecDepth 100000 in
theorem c_X4_drop (l : Launch) (G : GT) (A : Nat → Prop) (m : MS) (hW : WfM m) (x : Int32) : Ct l yX4_drop cX4_drop 2 (some .int) ({ frames := 2, cells := 0, slots := 0, locals := 43 } : Room) G A [.ref (ma m 30), .int x] (fun H => RepM G A m H) (fun H r H1 => r = some (.int (q_drop (sY m 0 0) x).1) ∧ RepM G A ((q_drop (sY m 0 0) x).2) H1) := by
  refine ct_of (own := "GliderDayModel") (by decide +kernel) rfl (Nat.le_of_ble_eq_true rfl) (fun E H0 F hE hR => ?_)
  show wx E H0 0 0 0 [(0, .ref (ma m 30)), (1, .int x)] []
  refine x_aload_n F dX4_drop_0 0 rfl rfl ?_
  refine x_iconst (v := 0) F rfl dX4_drop_1 ?_
  refine z_put (m := m) (j := 0) (v := 0) F hR mw_799 rfl (by decide) rfl rfl rfl dX4_drop_2 (fun H1 hR2 => ?_)
  obtain ⟨z, hz⟩ : ∃ z, z = sY m 0 0 := ⟨_, rfl⟩
  have hW : WfM z := by rw [hz]; exact Same.wf (Same.Y (by decide)) hW
  rw [← hz] at hR2
  refine wx_lv (lv' := [(0, .ref (ma z 30)), (1, .int x)]) (by rw [hz]; rfl) ?_
  refine x_aload_n F dX4_drop_5 0 rfl rfl ?_
  refine x_iload_n F dX4_drop_6 1 rfl rfl ?_
  refine x_callVp (rest := []) F hR2.2.2.1 rfl (c_X4_isFlight l G A z x) k_X4_134 ⟨(Nat.le_of_ble_eq_true rfl), (Nat.le_of_ble_eq_true rfl), rfl, rfl⟩ (Nat.le_of_ble_eq_true rfl) (Nat.le_of_ble_eq_true rfl) dX4_drop_7 rfl rfl (Nat.le_of_ble_eq_true rfl) hR2 ?_
  refine x_if_ne F dX4_drop_10 (tgt := 19) (by decide) (fun h3 => ?_) (fun h3 => ?_)
  · replace h3 := bI_ne.mp h3
    obtain ⟨hxi, hx⟩ := is_ok (by rw [← hW.2.2.1.1]; exact h3) (Nat.le_trans hW.2.2.1.2 (by decide))
    refine wx_lv (lv' := [(0, .ref (ma z 30)), (1, .int (nI (tN x)))]) (by rw [hx]) ?_
    refine x_aload_n F dX4_drop_19 0 rfl rfl ?_
    refine z_get (m := z) (j := 29) (v := .ref (ma z 29)) F hR2 mw_828 rfl (by decide) rfl dX4_drop_20 ?_
    refine x_iload_n F dX4_drop_23 1 rfl rfl ?_
    refine z_ildN (m := z) (j := 29) (i := (tN x)) F hR2 (by decide) rfl rfl (Nat.lt_of_lt_of_le hxi hW.2.2.1.2) (by decide) dX4_drop_24 ?_
    refine x_if_eq F dX4_drop_25 (tgt := 34) (by decide) (fun h4 => ?_) (fun h4 => ?_)
    · refine x_aload_n F dX4_drop_34 0 rfl rfl ?_
      refine z_get (m := z) (j := 29) (v := .ref (ma z 29)) F hR2 mw_828 rfl (by decide) rfl dX4_drop_35 ?_
      refine x_iload_n F dX4_drop_38 1 rfl rfl ?_
      refine x_iconst (v := 3) F rfl dX4_drop_39 ?_
      refine z_istN (m := z) (j := 29) (i := (tN x)) (v := 3) F hR2 (by decide) rfl rfl (Nat.lt_of_lt_of_le hxi hW.2.2.1.2) (by decide) dX4_drop_40 (fun H5 hR6 => ?_)
      refine x_aload_n F dX4_drop_41 0 rfl rfl ?_
      refine x_iload_n F dX4_drop_42 1 rfl rfl ?_
      refine x_callVp (rest := []) F hR6.2.2.1 rfl (c_X4_place l G A (sZ z 29 (tN x) 3) (tN x) hxi hW) k_X4_137 ⟨(Nat.le_of_ble_eq_true rfl), (Nat.le_of_ble_eq_true rfl), rfl, rfl⟩ (Nat.le_of_ble_eq_true rfl) (Nat.le_of_ble_eq_true rfl) dX4_drop_43 rfl rfl (Nat.le_of_ble_eq_true rfl) hR6 ?_
      have ho : q_drop z x = (sumN (tN x) (fun f => if mZ (sZ z 29 (tN x) 3) 29 f = 0 then 1 else 0), sZ z 29 (tN x) 3) := by (try simp only [hx] at h3 h4); first | (simp [q_drop, h3, h4, hx]; done) | (simp [q_drop, h3, h4, hx]; rfl) | (exfalso; simp_all; done)
      exact x_iret F hE dX4_drop_46 (Nat.le_of_ble_eq_true rfl) (Nat.le_of_ble_eq_true rfl) (⟨by rw [← hz, ho], by rw [← hz, ho]; exact hR6⟩)
    · refine x_aload_n F dX4_drop_28 0 rfl rfl ?_
      refine x_iconst (v := 2) F rfl dX4_drop_29 ?_
      refine x_callVs (rest := []) F hR2.2.2.1 rfl (c_X4_no l G A z 2) k_X4_94 ⟨⟨(Nat.le_of_ble_eq_true rfl), (Nat.le_of_ble_eq_true rfl)⟩, (Nat.le_of_ble_eq_true rfl), (Nat.le_of_ble_eq_true rfl)⟩ dX4_drop_30 rfl rfl (Nat.le_of_ble_eq_true rfl) hR2 ?_
      rintro _ H7 ⟨rfl, hR8⟩ - -
      have ho : q_drop z x = (0, sY z 0 2) := by (try simp only [hx] at h3 h4); first | (simp [q_drop, h3, h4, hx]; done) | (simp [q_drop, h3, h4, hx]; rfl) | (exfalso; simp_all; done)
      exact x_iret F hE dX4_drop_33 (Nat.le_of_ble_eq_true rfl) (Nat.le_of_ble_eq_true rfl) (⟨by rw [← hz, ho], by rw [← hz, ho]; exact hR8⟩)
  · replace h3 := bI_0.mp h3
    refine x_aload_n F dX4_drop_13 0 rfl rfl ?_
    refine x_iconst (v := 1) F rfl dX4_drop_14 ?_
    refine x_callVs (rest := []) F hR2.2.2.1 rfl (c_X4_no l G A z 1) k_X4_94 ⟨⟨(Nat.le_of_ble_eq_true rfl), (Nat.le_of_ble_eq_true rfl)⟩, (Nat.le_of_ble_eq_true rfl), (Nat.le_of_ble_eq_true rfl)⟩ dX4_drop_15 rfl rfl (Nat.le_of_ble_eq_true rfl) hR2 ?_
    rintro _ H9 ⟨rfl, hR10⟩ - -
    have ho : q_drop z x = (0, sY z 0 1) := by first | (simp [q_drop, h3]; done) | (simp [q_drop, h3]; rfl) | (exfalso; simp_all; done)
    exact x_iret F hE dX4_drop_18 (Nat.le_of_ble_eq_true rfl) (Nat.le_of_ble_eq_true rfl) (⟨by rw [← hz, ho], by rw [← hz, ho]; exact hR10⟩)
set_option maxHeartbeats 4000000 in
set_option maxRecDepth 100000 in
theorem c_X4_reason (l : Launch) (G : GT) (A : Nat → Prop) (m : MS) (hW : WfM m) (x : Int32) : Ct l yX4_reason cX4_reason 2 (some .int) ({ frames := 3, cells := 0, slots := 0, locals := 69 } : Room) G A [.ref (ma m 30), .int x] (fun H => RepM G A m H) (fun H r H1 => r = some (.int (q_reason (sY m 0 0) x).1) ∧ RepM G A ((q_reason (sY m 0 0) x).2) H1) := by
  refine ct_of (own := "GliderDayModel") (by decide +kernel) rfl (Nat.le_of_ble_eq_true rfl) (fun E H0 F hE hR => ?_)
  show wx E H0 0 0 0 [(0, .ref (ma m 30)), (1, .int x)] []
  refine x_aload_n F dX4_reason_0 0 rfl rfl ?_
  refine x_iconst (v := 0) F rfl dX4_reason_1 ?_
  refine z_put (m := m) (j := 0) (v := 0) F hR mw_799 rfl (by decide) rfl rfl rfl dX4_reason_2 (fun H1 hR2 => ?_)
  obtain ⟨z, hz⟩ : ∃ z, z = sY m 0 0 := ⟨_, rfl⟩
  have hW : WfM z := by rw [hz]; exact Same.wf (Same.Y (by decide)) hW
  rw [← hz] at hR2
  refine wx_lv (lv' := [(0, .ref (ma z 30)), (1, .int x)]) (by rw [hz]; rfl) ?_
  refine x_aload_n F dX4_reason_5 0 rfl rfl ?_
  refine x_iload_n F dX4_reason_6 1 rfl rfl ?_
  refine x_callVp (rest := []) F hR2.2.2.1 rfl (c_X4_isFlight l G A z x) k_X4_134 ⟨(Nat.le_of_ble_eq_true rfl), (Nat.le_of_ble_eq_true rfl), rfl, rfl⟩ (Nat.le_of_ble_eq_true rfl) (Nat.le_of_ble_eq_true rfl) dX4_reason_7 rfl rfl (Nat.le_of_ble_eq_true rfl) hR2 ?_
  refine x_if_ne F dX4_reason_10 (tgt := 19) (by decide) (fun h3 => ?_) (fun h3 => ?_)
  · replace h3 := bI_ne.mp h3
    obtain ⟨hxi, hx⟩ := is_ok (by rw [← hW.2.2.1.1]; exact h3) (Nat.le_trans hW.2.2.1.2 (by decide))
    refine wx_lv (lv' := [(0, .ref (ma z 30)), (1, .int (nI (tN x)))]) (by rw [hx]) ?_
    refine x_aload_n F dX4_reason_19 0 rfl rfl ?_
    refine z_get (m := z) (j := 29) (v := .ref (ma z 29)) F hR2 mw_828 rfl (by decide) rfl dX4_reason_20 ?_
    refine x_iload_n F dX4_reason_23 1 rfl rfl ?_
    refine z_ildN (m := z) (j := 29) (i := (tN x)) F hR2 (by decide) rfl rfl (Nat.lt_of_lt_of_le hxi hW.2.2.1.2) (by decide) dX4_reason_24 ?_
    refine x_if_ne F dX4_reason_25 (tgt := 36) (by decide) (fun h4 => ?_) (fun h4 => ?_)
    · refine x_aload_n F dX4_reason_36 0 rfl rfl ?_
      refine x_iconst (v := 2) F rfl dX4_reason_37 ?_
      refine x_callVs (rest := []) F hR2.2.2.1 rfl (c_X4_no l G A z 2) k_X4_94 ⟨⟨(Nat.le_of_ble_eq_true rfl), (Nat.le_of_ble_eq_true rfl)⟩, (Nat.le_of_ble_eq_true rfl), (Nat.le_of_ble_eq_true rfl)⟩ dX4_reason_38 rfl rfl (Nat.le_of_ble_eq_true rfl) hR2 ?_
      rintro _ H5 ⟨rfl, hR6⟩ - -
      have ho : q_reason z x = (0, sY z 0 2) := by (try simp only [hx] at h3 h4); first | (simp [q_reason, h3, h4, hx]; done) | (simp [q_reason, h3, h4, hx]; rfl) | (exfalso; simp_all; done)
      exact x_iret F hE dX4_reason_41 (Nat.le_of_ble_eq_true rfl) (Nat.le_of_ble_eq_true rfl) (⟨by rw [← hz, ho], by rw [← hz, ho]; exact hR6⟩)
    · refine x_aload_n F dX4_reason_28 0 rfl rfl ?_
      refine x_iload_n F dX4_reason_29 1 rfl rfl ?_
      refine x_callVp (rest := []) F hR2.2.2.1 rfl (c_X4_reasonOf l G A z (tN x) hxi hW) k_X4_150 ⟨(Nat.le_of_ble_eq_true rfl), (Nat.le_of_ble_eq_true rfl), rfl, rfl⟩ (Nat.le_of_ble_eq_true rfl) (Nat.le_of_ble_eq_true rfl) dX4_reason_30 rfl rfl (Nat.le_of_ble_eq_true rfl) hR2 ?_
      refine x_goto F dX4_reason_33 (tgt := 41) (by decide) ?_
      have ho : q_reason z x = (m_rea z (tN x), z) := by (try simp only [hx] at h3 h4); first | (simp [q_reason, h3, h4, hx]; done) | (simp [q_reason, h3, h4, hx]; rfl) | (exfalso; simp_all; done)
      exact x_iret F hE dX4_reason_41 (Nat.le_of_ble_eq_true rfl) (Nat.le_of_ble_eq_true rfl) (⟨by rw [← hz, ho], by rw [← hz, ho]; exact hR2⟩)
  · replace h3 := bI_0.mp h3
    refine x_aload_n F dX4_reason_13 0 rfl rfl ?_
    refine x_iconst (v := 1) F rfl dX4_reason_14 ?_
    refine x_callVs (rest := []) F hR2.2.2.1 rfl (c_X4_no l G A z 1) k_X4_94 ⟨⟨(Nat.le_of_ble_eq_true rfl), (Nat.le_of_ble_eq_true rfl)⟩, (Nat.le_of_ble_eq_true rfl), (Nat.le_of_ble_eq_true rfl)⟩ dX4_reason_15 rfl rfl (Nat.le_of_ble_eq_true rfl) hR2 ?_
    rintro _ H7 ⟨rfl, hR8⟩ - -
    have ho : q_reason z x = (0, sY z 0 1) := by first | (simp [q_reason, h3]; done) | (simp [q_reason, h3]; rfl) | (exfalso; simp_all; done)
    exact x_iret F hE dX4_reason_18 (Nat.le_of_ble_eq_true rfl) (Nat.le_of_ble_eq_true rfl) (⟨by rw [← hz, ho], by rw [← hz, ho]; exact hR8⟩)
set_option maxHeartbeats 4000000 in
set_option maxRecDepth 100000 in
theorem c_X4_call (l : Launch) (G : GT) (A : Nat → Prop) (m : MS) (hW : WfM m) (x : Int32) : Ct l yX4_call cX4_call 3 (some .int) ({ frames := 2, cells := 0, slots := 0, locals := 43 } : Room) G A [.ref (ma m 30), .int x] (fun H => RepM G A m H) (fun H r H1 => r = some (.int (q_call (sY m 0 0) x).1) ∧ RepM G A ((q_call (sY m 0 0) x).2) H1) := by
  refine ct_of (own := "GliderDayModel") (by decide +kernel) rfl (Nat.le_of_ble_eq_true rfl) (fun E H0 F hE hR => ?_)
  show wx E H0 0 0 0 [(0, .ref (ma m 30)), (1, .int x)] []
  refine x_aload_n F dX4_call_0 0 rfl rfl ?_
  refine x_iconst (v := 0) F rfl dX4_call_1 ?_
  refine z_put (m := m) (j := 0) (v := 0) F hR mw_799 rfl (by decide) rfl rfl rfl dX4_call_2 (fun H1 hR2 => ?_)
  obtain ⟨z, hz⟩ : ∃ z, z = sY m 0 0 := ⟨_, rfl⟩
  have hW : WfM z := by rw [hz]; exact Same.wf (Same.Y (by decide)) hW
  rw [← hz] at hR2
  refine wx_lv (lv' := [(0, .ref (ma z 30)), (1, .int x)]) (by rw [hz]; rfl) ?_
  refine x_aload_n F dX4_call_5 0 rfl rfl ?_
  refine x_iload_n F dX4_call_6 1 rfl rfl ?_
  refine x_callVp (rest := []) F hR2.2.2.1 rfl (c_X4_isGlider l G A z x) k_X4_102 ⟨(Nat.le_of_ble_eq_true rfl), (Nat.le_of_ble_eq_true rfl), rfl, rfl⟩ (Nat.le_of_ble_eq_true rfl) (Nat.le_of_ble_eq_true rfl) dX4_call_7 rfl rfl (Nat.le_of_ble_eq_true rfl) hR2 ?_
  refine x_if_ne F dX4_call_10 (tgt := 19) (by decide) (fun h3 => ?_) (fun h3 => ?_)
  · replace h3 := bI_ne.mp h3
    obtain ⟨hxi, hx⟩ := is_ok (by rw [← hW.2.1.1]; exact h3) (Nat.le_trans hW.2.1.2 (by decide))
    refine wx_lv (lv' := [(0, .ref (ma z 30)), (1, .int (nI (tN x)))]) (by rw [hx]) ?_
    refine x_aload_n F dX4_call_19 0 rfl rfl ?_
    refine x_iload_n F dX4_call_20 1 rfl rfl ?_
    refine x_callVp (rest := []) F hR2.2.2.1 rfl (c_X4_flightOf l G A z (nI (tN x)) hW) k_X4_106 ⟨(Nat.le_of_ble_eq_true rfl), (Nat.le_of_ble_eq_true rfl), rfl, rfl⟩ (Nat.le_of_ble_eq_true rfl) (Nat.le_of_ble_eq_true rfl) dX4_call_21 rfl rfl (Nat.le_of_ble_eq_true rfl) hR2 ?_
    refine x_istore_n (lv' := [(2, .int (m_fo z (nI (tN x)))), (0, .ref (ma z 30)), (1, .int (nI (tN x)))]) F dX4_call_24 rfl (by decide) rfl ?_
    refine x_iload_n F dX4_call_25 0 rfl rfl ?_
    refine x_iconst (v := (-1)) F rfl dX4_call_26 ?_
    refine x_icmp_ne F dX4_call_27 (tgt := 36) (by decide) (fun h4 => ?_) (fun h4 => ?_)
    · obtain ⟨hfe, hff, hfp⟩ := fo_ok hW h4
      refine x_aload_n F dX4_call_36 1 rfl rfl ?_
      refine z_get (m := z) (j := 17) (v := .ref (ma z 17)) F hR2 mw_816 rfl (by decide) rfl dX4_call_37 ?_
      refine x_iload_n F dX4_call_40 2 rfl rfl ?_
      refine x_iconst (v := 1) F rfl dX4_call_41 ?_
      refine z_zstN (m := z) (j := 17) (i := (tN x)) (v := 1) F hR2 (by decide) rfl rfl (Nat.lt_of_lt_of_le hxi hW.2.1.2) (by decide) (by decide) dX4_call_42 (fun H5 hR6 => ?_)
      refine x_aload_n F dX4_call_43 1 rfl rfl ?_
      refine z_get (m := (sZ z 17 (tN x) 1)) (j := 1) (v := .int (mY z 1)) F hR6 mw_800 rfl (by decide) rfl dX4_call_44 ?_
      refine x_aload_n F dX4_call_47 1 rfl rfl ?_
      refine z_get (m := (sZ z 17 (tN x) 1)) (j := 27) (v := .ref (ma z 27)) F hR6 mw_826 rfl (by decide) rfl dX4_call_48 ?_
      refine x_iload_n F dX4_call_51 0 rfl rfl ?_
      refine wx_i (y := nI (tN (m_fo z (nI (tN x))))) (hfe) ?_
      refine z_ildN (m := (sZ z 17 (tN x) 1)) (j := 27) (i := (tN (m_fo z (nI (tN x))))) F hR6 (by decide) rfl rfl (Nat.lt_of_lt_of_le hff hW.2.2.1.2) (by decide) dX4_call_52 ?_
      refine wx_i (y := mZ z 27 (tN (m_fo z (nI (tN x))))) rfl ?_
      refine x_isub F dX4_call_53 ?_
      have ho : q_call z x = ((mY z 1) - (mZ z 27 (tN (m_fo z (nI (tN x))))), sZ z 17 (tN x) 1) := by (try simp only [hx] at h3 h4); first | (simp [q_call, h3, h4, hx]; done) | (simp [q_call, h3, h4, hx]; rfl) | (exfalso; simp_all; done)
      exact x_iret F hE dX4_call_54 (Nat.le_of_ble_eq_true rfl) (Nat.le_of_ble_eq_true rfl) (⟨by rw [← hz, ho], by rw [← hz, ho]; exact hR6⟩)
    · refine x_aload_n F dX4_call_30 1 rfl rfl ?_
      refine x_iconst (v := 2) F rfl dX4_call_31 ?_
      refine x_callVs (rest := []) F hR2.2.2.1 rfl (c_X4_no l G A z 2) k_X4_94 ⟨⟨(Nat.le_of_ble_eq_true rfl), (Nat.le_of_ble_eq_true rfl)⟩, (Nat.le_of_ble_eq_true rfl), (Nat.le_of_ble_eq_true rfl)⟩ dX4_call_32 rfl rfl (Nat.le_of_ble_eq_true rfl) hR2 ?_
      rintro _ H7 ⟨rfl, hR8⟩ - -
      have ho : q_call z x = (0, sY z 0 2) := by (try simp only [hx] at h3 h4); first | (simp [q_call, h3, h4, hx]; done) | (simp [q_call, h3, h4, hx]; rfl) | (exfalso; simp_all; done)
      exact x_iret F hE dX4_call_35 (Nat.le_of_ble_eq_true rfl) (Nat.le_of_ble_eq_true rfl) (⟨by rw [← hz, ho], by rw [← hz, ho]; exact hR8⟩)
  · replace h3 := bI_0.mp h3
    refine x_aload_n F dX4_call_13 0 rfl rfl ?_
    refine x_iconst (v := 1) F rfl dX4_call_14 ?_
    refine x_callVs (rest := []) F hR2.2.2.1 rfl (c_X4_no l G A z 1) k_X4_94 ⟨⟨(Nat.le_of_ble_eq_true rfl), (Nat.le_of_ble_eq_true rfl)⟩, (Nat.le_of_ble_eq_true rfl), (Nat.le_of_ble_eq_true rfl)⟩ dX4_call_15 rfl rfl (Nat.le_of_ble_eq_true rfl) hR2 ?_
    rintro _ H9 ⟨rfl, hR10⟩ - -
    have ho : q_call z x = (0, sY z 0 1) := by first | (simp [q_call, h3]; done) | (simp [q_call, h3]; rfl) | (exfalso; simp_all; done)
    exact x_iret F hE dX4_call_18 (Nat.le_of_ble_eq_true rfl) (Nat.le_of_ble_eq_true rfl) (⟨by rw [← hz, ho], by rw [← hz, ho]; exact hR10⟩)
set_option maxHeartbeats 4000000 in
set_option maxRecDepth 100000 in
theorem c_X4_pay (l : Launch) (G : GT) (A : Nat → Prop) (m : MS) (hW : WfM m) (x a : Int32) : Ct l yX4_pay cX4_pay 3 (some .int) ({ frames := 3, cells := 0, slots := 0, locals := 59 } : Room) G A [.ref (ma m 30), .int x, .int a] (fun H => RepM G A m H) (fun H r H1 => r = some (.int (q_pay (sY m 0 0) x a).1) ∧ RepM G A ((q_pay (sY m 0 0) x a).2) H1) := by
  refine ct_of (own := "GliderDayModel") (by decide +kernel) rfl (Nat.le_of_ble_eq_true rfl) (fun E H0 F hE hR => ?_)
  show wx E H0 0 0 0 [(0, .ref (ma m 30)), (1, .int x), (2, .int a)] []
  refine x_aload_n F dX4_pay_0 0 rfl rfl ?_
  refine x_iconst (v := 0) F rfl dX4_pay_1 ?_
  refine z_put (m := m) (j := 0) (v := 0) F hR mw_799 rfl (by decide) rfl rfl rfl dX4_pay_2 (fun H1 hR2 => ?_)
  obtain ⟨z, hz⟩ : ∃ z, z = sY m 0 0 := ⟨_, rfl⟩
  have hW : WfM z := by rw [hz]; exact Same.wf (Same.Y (by decide)) hW
  rw [← hz] at hR2
  refine wx_lv (lv' := [(0, .ref (ma z 30)), (1, .int x), (2, .int a)]) (by rw [hz]; rfl) ?_
  refine x_aload_n F dX4_pay_5 0 rfl rfl ?_
  refine x_iload_n F dX4_pay_6 1 rfl rfl ?_
  refine x_callVp (rest := []) F hR2.2.2.1 rfl (c_X4_isMember l G A z x) k_X4_112 ⟨(Nat.le_of_ble_eq_true rfl), (Nat.le_of_ble_eq_true rfl), rfl, rfl⟩ (Nat.le_of_ble_eq_true rfl) (Nat.le_of_ble_eq_true rfl) dX4_pay_7 rfl rfl (Nat.le_of_ble_eq_true rfl) hR2 ?_
  refine x_if_ne F dX4_pay_10 (tgt := 19) (by decide) (fun h3 => ?_) (fun h3 => ?_)
  · replace h3 := bI_ne.mp h3
    obtain ⟨hxi, hx⟩ := is_ok (by rw [← hW.1.1]; exact h3) (Nat.le_trans hW.1.2 (by decide))
    refine wx_lv (lv' := [(0, .ref (ma z 30)), (1, .int (nI (tN x))), (2, .int a)]) (by rw [hx]) ?_
    refine x_iload_n F dX4_pay_19 2 rfl rfl ?_
    refine x_iconst (v := 1) F rfl dX4_pay_20 ?_
    refine x_ldc F mw_1074 dX4_pay_21 ?_
    refine x_callSp (rest := []) F (c_X4_isIn l G A a 1 100000) k_X4_84 ⟨(Nat.le_of_ble_eq_true rfl), (Nat.le_of_ble_eq_true rfl), rfl, rfl⟩ (Nat.le_of_ble_eq_true rfl) (Nat.le_of_ble_eq_true rfl) dX4_pay_23 rfl rfl (Nat.le_of_ble_eq_true rfl) trivial ?_
    refine x_if_ne F dX4_pay_26 (tgt := 35) (by decide) (fun h4 => ?_) (fun h4 => ?_)
    · replace h4 := bI_ne.mp h4
      refine x_aload_n F dX4_pay_35 0 rfl rfl ?_
      refine z_get (m := z) (j := 11) (v := .ref (ma z 11)) F hR2 mw_810 rfl (by decide) rfl dX4_pay_36 ?_
      refine x_iload_n F dX4_pay_39 1 rfl rfl ?_
      refine x_dup2_11 F dX4_pay_40 rfl rfl ?_
      refine z_ildN (m := z) (j := 11) (i := (tN x)) F hR2 (by decide) rfl rfl (Nat.lt_of_lt_of_le hxi hW.1.2) (by decide) dX4_pay_41 ?_
      refine x_iload_n F dX4_pay_42 2 rfl rfl ?_
      refine x_iadd F dX4_pay_43 ?_
      refine z_istN (m := z) (j := 11) (i := (tN x)) (v := (mZ z 11 (tN x)) + a) F hR2 (by decide) rfl rfl (Nat.lt_of_lt_of_le hxi hW.1.2) (by decide) dX4_pay_44 (fun H5 hR6 => ?_)
      refine x_aload_n F dX4_pay_45 0 rfl rfl ?_
      refine x_iload_n F dX4_pay_46 1 rfl rfl ?_
      refine x_callVp (rest := []) F hR6.2.2.1 rfl (c_X4_billOf l G A (sZ z 11 (tN x) ((mZ z 11 (tN x)) + a)) (tN x) hxi hW) k_X4_183 ⟨(Nat.le_of_ble_eq_true rfl), (Nat.le_of_ble_eq_true rfl), rfl, rfl⟩ (Nat.le_of_ble_eq_true rfl) (Nat.le_of_ble_eq_true rfl) dX4_pay_47 rfl rfl (Nat.le_of_ble_eq_true rfl) hR6 ?_
      have ho : q_pay z x a = (m_bill (sZ z 11 (tN x) ((mZ z 11 (tN x)) + a)) (tN x), sZ z 11 (tN x) ((mZ z 11 (tN x)) + a)) := by (try simp only [hx] at h3 h4); first | (simp [q_pay, h3, h4, hx]; done) | (simp [q_pay, h3, h4, hx]; rfl) | (exfalso; simp_all; done)
      exact x_iret F hE dX4_pay_50 (Nat.le_of_ble_eq_true rfl) (Nat.le_of_ble_eq_true rfl) (⟨by rw [← hz, ho], by rw [← hz, ho]; exact hR6⟩)
    · replace h4 := bI_0.mp h4
      refine x_aload_n F dX4_pay_29 0 rfl rfl ?_
      refine x_iconst (v := 2) F rfl dX4_pay_30 ?_
      refine x_callVs (rest := []) F hR2.2.2.1 rfl (c_X4_no l G A z 2) k_X4_94 ⟨⟨(Nat.le_of_ble_eq_true rfl), (Nat.le_of_ble_eq_true rfl)⟩, (Nat.le_of_ble_eq_true rfl), (Nat.le_of_ble_eq_true rfl)⟩ dX4_pay_31 rfl rfl (Nat.le_of_ble_eq_true rfl) hR2 ?_
      rintro _ H7 ⟨rfl, hR8⟩ - -
      have ho : q_pay z x a = (0, sY z 0 2) := by (try simp only [hx] at h3 h4); first | (simp [q_pay, h3, h4, hx]; done) | (simp [q_pay, h3, h4, hx]; rfl) | (exfalso; simp_all; done)
      exact x_iret F hE dX4_pay_34 (Nat.le_of_ble_eq_true rfl) (Nat.le_of_ble_eq_true rfl) (⟨by rw [← hz, ho], by rw [← hz, ho]; exact hR8⟩)
  · replace h3 := bI_0.mp h3
    refine x_aload_n F dX4_pay_13 0 rfl rfl ?_
    refine x_iconst (v := 1) F rfl dX4_pay_14 ?_
    refine x_callVs (rest := []) F hR2.2.2.1 rfl (c_X4_no l G A z 1) k_X4_94 ⟨⟨(Nat.le_of_ble_eq_true rfl), (Nat.le_of_ble_eq_true rfl)⟩, (Nat.le_of_ble_eq_true rfl), (Nat.le_of_ble_eq_true rfl)⟩ dX4_pay_15 rfl rfl (Nat.le_of_ble_eq_true rfl) hR2 ?_
    rintro _ H9 ⟨rfl, hR10⟩ - -
    have ho : q_pay z x a = (0, sY z 0 1) := by first | (simp [q_pay, h3]; done) | (simp [q_pay, h3]; rfl) | (exfalso; simp_all; done)
    exact x_iret F hE dX4_pay_18 (Nat.le_of_ble_eq_true rfl) (Nat.le_of_ble_eq_true rfl) (⟨by rw [← hz, ho], by rw [← hz, ho]; exact hR10⟩)
end MD7
