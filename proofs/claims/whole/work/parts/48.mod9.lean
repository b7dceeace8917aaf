/-! the reference's public methods: flights, time, the digest -/
section MD9
theorem w8_ok {w : Int32} (h : 0 ≤ w ∧ w ≤ 7) : tN w < 8 ∧ nI (tN w) = w := tN_ok h.1 (Int32.lt_of_le_of_lt h.2 (by decide)) (by decide)
def m_wb (m : MS) (n : Nat) : Int32 := sumN n (fun f => if mZ m 27 f = -1 then 0 else 1)
def m_ws (m : MS) (n : Nat) : Int32 := sumN n (fun f => if mZ m 27 f = -1 then 0 else mZ m 27 f - mZ m 26 f)
def m_wai (m : MS) : UInt64 := if m_wb m (mf m) = 0 then FP.dconst0 else FP.ddiv (FP.i2d (m_ws m (mf m))) (FP.i2d (m_wb m (mf m)))
theorem nmin_01 (m : MS) : (n_min m).1 = 0 ∨ (n_min m).1 = 1 := by
  unfold n_min n_go
  split
  · exact Or.inl rfl
  · split
    · exact Or.inl rfl
    · exact Or.inr rfl
def q_tick (m : MS) (x : Int32) : Int32 × MS := if (1 ≤ x ∧ x ≤ 300) ∧ mY m 1 + x ≤ 1500 then n_tick (tN x) m else (0, sY m 0 1)
theorem k_X4_177 : cwV_ "GliderDayModel" 177 "GliderDayModel" yX4_toldOf cX4_toldOf 4 (some .int) 2 := ⟨mw_1041, mw_1043, mw_50, mw_59, mw_1044, ⟨by decide +kernel, by decide +kernel, by decide +kernel⟩⟩
theorem k_X4_166 : cwV_ "GliderDayModel" 166 "GliderDayModel" yX4_minute cX4_minute 3 (some .boolean) 0 := ⟨mw_1021, mw_1023, mw_47, mw_59, mw_1024, ⟨by decide +kernel, by decide +kernel, by decide +kernel⟩⟩
set_option maxHeartbeats 4000000 in
set_option maxRecDepth 100000 in
theorem c_X4_toldOf (l : Launch) (G : GT) (A : Nat → Prop) (m : MS) (i : Nat) (hi : i < mf m) (j : Nat) (hj : j < 8) (hW : WfM m) : Ct l yX4_toldOf cX4_toldOf 4 (some .int) ({ frames := 2, cells := 1, slots := 8, locals := 36 } : Room) G A [.ref (ma m 30), .int (nI i), .int (nI j)] (fun H => RepM G A m H) (fun H r H1 => r = some (.int (m_tf m i j)) ∧ RepM G A (m) H1) := by
  refine ct_of (own := "GliderDayModel") (by decide +kernel) rfl (Nat.le_of_ble_eq_true rfl) (fun E H0 F hE hR => ?_)
  show wx E H0 0 0 0 [(0, .ref (ma m 30)), (1, .int (nI i)), (2, .int (nI j))] []
  refine x_bipush (v := 8) F rfl dX4_toldOf_0 ?_
  refine fr_of F fun hfr => ?_
  have hbel := hR.bel
  generalize hz0 : H0.size = z at hfr hbel
  refine x_newaI (N' := 8) F (by decide) rfl (by decide) (Nat.le_of_ble_eq_true rfl) (Nat.le_of_ble_eq_true rfl) dX4_toldOf_2 (fun H1 v0 hn => ?_)
  rw [hz0] at v0 ⊢
  replace hR := hR.ext hn.2
  have hAz : A z := hfr z (Nat.le_refl _)
  refine x_dup F dX4_toldOf_4 rfl ?_
  refine x_iconst (v := 0) F rfl dX4_toldOf_5 ?_
  refine x_aload_n F dX4_toldOf_6 0 rfl rfl ?_
  refine z_get (m := m) (j := 29) (v := .ref (ma m 29)) F hR mw_828 rfl (by decide) rfl dX4_toldOf_7 ?_
  refine x_iload_n F dX4_toldOf_10 1 rfl rfl ?_
  refine z_ildN (m := m) (j := 29) (i := i) F hR (by decide) rfl rfl (Nat.lt_of_lt_of_le hi hW.2.2.1.2) (by decide) dX4_toldOf_11 ?_
  refine x_iast (i := 0) (x := mZ m 29 i) F v0 hAz (vp_in_nI (n := 0) (by decide) (by decide)) dX4_toldOf_12 (fun H2 v1 hs1 => ?_)
  replace hR := hR.oth hbel hs1
  refine x_dup F dX4_toldOf_13 rfl ?_
  refine x_iconst (v := 1) F rfl dX4_toldOf_14 ?_
  refine x_aload_n F dX4_toldOf_15 0 rfl rfl ?_
  refine z_get (m := m) (j := 21) (v := .ref (ma m 21)) F hR mw_820 rfl (by decide) rfl dX4_toldOf_16 ?_
  refine x_iload_n F dX4_toldOf_19 1 rfl rfl ?_
  refine z_ildN (m := m) (j := 21) (i := i) F hR (by decide) rfl rfl (Nat.lt_of_lt_of_le hi hW.2.2.1.2) (by decide) dX4_toldOf_20 ?_
  refine x_iast (i := 1) (x := mZ m 21 i) F v1 hAz (vp_in_nI (n := 1) (by decide) (by decide)) dX4_toldOf_21 (fun H3 v2 hs2 => ?_)
  replace hR := hR.oth hbel hs2
  refine x_dup F dX4_toldOf_22 rfl ?_
  refine x_iconst (v := 2) F rfl dX4_toldOf_23 ?_
  refine x_aload_n F dX4_toldOf_24 0 rfl rfl ?_
  refine z_get (m := m) (j := 22) (v := .ref (ma m 22)) F hR mw_821 rfl (by decide) rfl dX4_toldOf_25 ?_
  refine x_iload_n F dX4_toldOf_28 1 rfl rfl ?_
  refine z_ildN (m := m) (j := 22) (i := i) F hR (by decide) rfl rfl (Nat.lt_of_lt_of_le hi hW.2.2.1.2) (by decide) dX4_toldOf_29 ?_
  refine x_iast (i := 2) (x := mZ m 22 i) F v2 hAz (vp_in_nI (n := 2) (by decide) (by decide)) dX4_toldOf_30 (fun H4 v3 hs3 => ?_)
  replace hR := hR.oth hbel hs3
  refine x_dup F dX4_toldOf_31 rfl ?_
  refine x_iconst (v := 3) F rfl dX4_toldOf_32 ?_
  refine x_aload_n F dX4_toldOf_33 0 rfl rfl ?_
  refine z_get (m := m) (j := 23) (v := .ref (ma m 23)) F hR mw_822 rfl (by decide) rfl dX4_toldOf_34 ?_
  refine x_iload_n F dX4_toldOf_37 1 rfl rfl ?_
  refine z_ildN (m := m) (j := 23) (i := i) F hR (by decide) rfl rfl (Nat.lt_of_lt_of_le hi hW.2.2.1.2) (by decide) dX4_toldOf_38 ?_
  refine x_iast (i := 3) (x := mZ m 23 i) F v3 hAz (vp_in_nI (n := 3) (by decide) (by decide)) dX4_toldOf_39 (fun H5 v4 hs4 => ?_)
  replace hR := hR.oth hbel hs4
  refine x_dup F dX4_toldOf_40 rfl ?_
  refine x_iconst (v := 4) F rfl dX4_toldOf_41 ?_
  refine x_aload_n F dX4_toldOf_42 0 rfl rfl ?_
  refine z_get (m := m) (j := 24) (v := .ref (ma m 24)) F hR mw_823 rfl (by decide) rfl dX4_toldOf_43 ?_
  refine x_iload_n F dX4_toldOf_46 1 rfl rfl ?_
  refine z_ildN (m := m) (j := 24) (i := i) F hR (by decide) rfl rfl (Nat.lt_of_lt_of_le hi hW.2.2.1.2) (by decide) dX4_toldOf_47 ?_
  refine x_iast (i := 4) (x := mZ m 24 i) F v4 hAz (vp_in_nI (n := 4) (by decide) (by decide)) dX4_toldOf_48 (fun H6 v5 hs5 => ?_)
  replace hR := hR.oth hbel hs5
  refine x_dup F dX4_toldOf_49 rfl ?_
  refine x_iconst (v := 5) F rfl dX4_toldOf_50 ?_
  refine x_aload_n F dX4_toldOf_51 0 rfl rfl ?_
  refine z_get (m := m) (j := 27) (v := .ref (ma m 27)) F hR mw_826 rfl (by decide) rfl dX4_toldOf_52 ?_
  refine x_iload_n F dX4_toldOf_55 1 rfl rfl ?_
  refine z_ildN (m := m) (j := 27) (i := i) F hR (by decide) rfl rfl (Nat.lt_of_lt_of_le hi hW.2.2.1.2) (by decide) dX4_toldOf_56 ?_
  refine x_iast (i := 5) (x := mZ m 27 i) F v5 hAz (vp_in_nI (n := 5) (by decide) (by decide)) dX4_toldOf_57 (fun H7 v6 hs6 => ?_)
  replace hR := hR.oth hbel hs6
  refine x_dup F dX4_toldOf_58 rfl ?_
  refine x_bipush (v := 6) F rfl dX4_toldOf_59 ?_
  refine x_aload_n F dX4_toldOf_61 0 rfl rfl ?_
  refine z_get (m := m) (j := 28) (v := .ref (ma m 28)) F hR mw_827 rfl (by decide) rfl dX4_toldOf_62 ?_
  refine x_iload_n F dX4_toldOf_65 1 rfl rfl ?_
  refine z_ildN (m := m) (j := 28) (i := i) F hR (by decide) rfl rfl (Nat.lt_of_lt_of_le hi hW.2.2.1.2) (by decide) dX4_toldOf_66 ?_
  refine x_iast (i := 6) (x := mZ m 28 i) F v6 hAz (vp_in_nI (n := 6) (by decide) (by decide)) dX4_toldOf_67 (fun H8 v7 hs7 => ?_)
  replace hR := hR.oth hbel hs7
  refine x_dup F dX4_toldOf_68 rfl ?_
  refine x_bipush (v := 7) F rfl dX4_toldOf_69 ?_
  refine x_aload_n F dX4_toldOf_71 0 rfl rfl ?_
  refine x_iload_n F dX4_toldOf_72 1 rfl rfl ?_
  refine x_callVp (rest := [.int 7, .ref z, .ref z]) F hR.2.2.1 rfl (c_X4_costOf l G A m i hi hW) k_X4_174 ⟨(Nat.le_of_ble_eq_true rfl), (Nat.le_of_ble_eq_true rfl), rfl, rfl⟩ (Nat.le_of_ble_eq_true rfl) (Nat.le_of_ble_eq_true rfl) dX4_toldOf_73 rfl rfl (Nat.le_of_ble_eq_true rfl) hR ?_
  refine x_iast (i := 7) (x := m_cost m i) F v7 hAz (vp_in_nI (n := 7) (by decide) (by decide)) dX4_toldOf_76 (fun H9 v8 hs8 => ?_)
  replace hR := hR.oth hbel hs8
  refine x_astore_n (lv' := [(3, .ref z), (0, .ref (ma m 30)), (1, .int (nI i)), (2, .int (nI j))]) F dX4_toldOf_77 rfl (by decide) rfl ?_
  refine x_aload_n F dX4_toldOf_78 0 rfl rfl ?_
  refine x_iload_n F dX4_toldOf_79 3 rfl rfl ?_
  refine x_iald F v8 (vp_in_nI hj (by decide)) dX4_toldOf_80 ?_
  refine wx_i (y := m_tf m i j) ?_ ?_
  · rw [show (nI j).toNatClampNeg = j from nI_clamp (by omega)]
    rcases (show j = 0 ∨ j = 1 ∨ j = 2 ∨ j = 3 ∨ j = 4 ∨ j = 5 ∨ j = 6 ∨ j = 7 by omega) with rfl | rfl | rfl | rfl | rfl | rfl | rfl | rfl <;> rfl
  exact x_iret F hE dX4_toldOf_81 (Nat.le_of_ble_eq_true rfl) (Nat.le_of_ble_eq_true rfl) (⟨rfl, hR⟩)
set_option maxHeartbeats 4000000 in
set_option maxRecDepth 100000 in
theorem c_X4_flight (l : Launch) (G : GT) (A : Nat → Prop) (m : MS) (hW : WfM m) (x w : Int32) : Ct l yX4_flight cX4_flight 3 (some .int) ({ frames := 3, cells := 1, slots := 8, locals := 59 } : Room) G A [.ref (ma m 30), .int x, .int w] (fun H => RepM G A m H) (fun H r H1 => r = some (.int (q_flight (sY m 0 0) x w).1) ∧ RepM G A ((q_flight (sY m 0 0) x w).2) H1) := by
  refine ct_of (own := "GliderDayModel") (by decide +kernel) rfl (Nat.le_of_ble_eq_true rfl) (fun E H0 F hE hR => ?_)
  show wx E H0 0 0 0 [(0, .ref (ma m 30)), (1, .int x), (2, .int w)] []
  refine x_aload_n F dX4_flight_0 0 rfl rfl ?_
  refine x_iconst (v := 0) F rfl dX4_flight_1 ?_
  refine z_put (m := m) (j := 0) (v := 0) F hR mw_799 rfl (by decide) rfl rfl rfl dX4_flight_2 (fun H1 hR2 => ?_)
  obtain ⟨z, hz⟩ : ∃ z, z = sY m 0 0 := ⟨_, rfl⟩
  have hW : WfM z := by rw [hz]; exact Same.wf (Same.Y (by decide)) hW
  rw [← hz] at hR2
  refine wx_lv (lv' := [(0, .ref (ma z 30)), (1, .int x), (2, .int w)]) (by rw [hz]; rfl) ?_
  refine x_aload_n F dX4_flight_5 0 rfl rfl ?_
  refine x_iload_n F dX4_flight_6 1 rfl rfl ?_
  refine x_callVp (rest := []) F hR2.2.2.1 rfl (c_X4_isFlight l G A z x) k_X4_134 ⟨(Nat.le_of_ble_eq_true rfl), (Nat.le_of_ble_eq_true rfl), rfl, rfl⟩ (Nat.le_of_ble_eq_true rfl) (Nat.le_of_ble_eq_true rfl) dX4_flight_7 rfl rfl (Nat.le_of_ble_eq_true rfl) hR2 ?_
  refine x_if_eq F dX4_flight_10 (tgt := 32) (by decide) (fun h3 => ?_) (fun h3 => ?_)
  · replace h3 := bI_0.mp h3
    refine x_aload_n F dX4_flight_32 0 rfl rfl ?_
    refine x_iconst (v := 1) F rfl dX4_flight_33 ?_
    refine x_callVs (rest := []) F hR2.2.2.1 rfl (c_X4_no l G A z 1) k_X4_94 ⟨⟨(Nat.le_of_ble_eq_true rfl), (Nat.le_of_ble_eq_true rfl)⟩, (Nat.le_of_ble_eq_true rfl), (Nat.le_of_ble_eq_true rfl)⟩ dX4_flight_34 rfl rfl (Nat.le_of_ble_eq_true rfl) hR2 ?_
    rintro _ H4 ⟨rfl, hR5⟩ - -
    have ho : q_flight z x w = (0, sY z 0 1) := by first | (simp [q_flight, h3]; done) | (simp [q_flight, h3]; rfl) | (exfalso; simp_all; done)
    exact x_iret F hE dX4_flight_37 (Nat.le_of_ble_eq_true rfl) (Nat.le_of_ble_eq_true rfl) (⟨by rw [← hz, ho], by rw [← hz, ho]; exact hR5⟩)
  · replace h3 := bI_ne.mp h3
    obtain ⟨hxi, hx⟩ := is_ok (by rw [← hW.2.2.1.1]; exact h3) (Nat.le_trans hW.2.2.1.2 (by decide))
    refine wx_lv (lv' := [(0, .ref (ma z 30)), (1, .int (nI (tN x))), (2, .int w)]) (by rw [hx]) ?_
    refine x_iload_n F dX4_flight_13 2 rfl rfl ?_
    refine x_iconst (v := 0) F rfl dX4_flight_14 ?_
    refine x_bipush (v := 7) F rfl dX4_flight_15 ?_
    refine x_callSp (rest := []) F (c_X4_isIn l G A w 0 7) k_X4_84 ⟨(Nat.le_of_ble_eq_true rfl), (Nat.le_of_ble_eq_true rfl), rfl, rfl⟩ (Nat.le_of_ble_eq_true rfl) (Nat.le_of_ble_eq_true rfl) dX4_flight_17 rfl rfl (Nat.le_of_ble_eq_true rfl) trivial ?_
    refine x_if_eq F dX4_flight_20 (tgt := 32) (by decide) (fun h6 => ?_) (fun h6 => ?_)
    · replace h6 := bI_0.mp h6
      refine x_aload_n F dX4_flight_32 0 rfl rfl ?_
      refine x_iconst (v := 1) F rfl dX4_flight_33 ?_
      refine x_callVs (rest := []) F hR2.2.2.1 rfl (c_X4_no l G A z 1) k_X4_94 ⟨⟨(Nat.le_of_ble_eq_true rfl), (Nat.le_of_ble_eq_true rfl)⟩, (Nat.le_of_ble_eq_true rfl), (Nat.le_of_ble_eq_true rfl)⟩ dX4_flight_34 rfl rfl (Nat.le_of_ble_eq_true rfl) hR2 ?_
      rintro _ H7 ⟨rfl, hR8⟩ - -
      have ho : q_flight z x w = (0, sY z 0 1) := by (try simp only [hx] at h3 h6); first | (simp [q_flight, h3, h6, hx]; done) | (simp [q_flight, h3, h6, hx]; rfl) | (exfalso; simp_all; done)
      exact x_iret F hE dX4_flight_37 (Nat.le_of_ble_eq_true rfl) (Nat.le_of_ble_eq_true rfl) (⟨by rw [← hz, ho], by rw [← hz, ho]; exact hR8⟩)
    · replace h6 := bI_ne.mp h6
      obtain ⟨hw8, hwe⟩ := w8_ok h6
      refine wx_lv (lv' := [(0, .ref (ma z 30)), (1, .int (nI (tN x))), (2, .int (nI (tN w)))]) (by rw [hwe]) ?_
      refine x_aload_n F dX4_flight_23 0 rfl rfl ?_
      refine x_iload_n F dX4_flight_24 1 rfl rfl ?_
      refine x_iload_n F dX4_flight_25 2 rfl rfl ?_
      refine x_callVs (rest := []) F hR2.2.2.1 rfl (c_X4_toldOf l G A z (tN x) hxi (tN w) hw8 hW) k_X4_177 ⟨⟨(Nat.le_of_ble_eq_true rfl), (Nat.le_of_ble_eq_true rfl)⟩, (Nat.le_of_ble_eq_true rfl), (Nat.le_of_ble_eq_true rfl)⟩ dX4_flight_26 rfl rfl (Nat.le_of_ble_eq_true rfl) hR2 ?_
      rintro _ H9 ⟨rfl, hR10⟩ - -
      refine x_goto F dX4_flight_29 (tgt := 37) (by decide) ?_
      have ho : q_flight z x w = (m_tf z (tN x) (tN w), z) := by (try simp only [hx] at h3 h6); first | (simp [q_flight, h3, h6, hx]; done) | (simp [q_flight, h3, h6, hx]; rfl) | (exfalso; simp_all; done)
      exact x_iret F hE dX4_flight_37 (Nat.le_of_ble_eq_true rfl) (Nat.le_of_ble_eq_true rfl) (⟨by rw [← hz, ho], by rw [← hz, ho]; exact hR10⟩)
set_option maxHeartbeats 4000000 in
set_option maxRecDepth 100000 in
theorem c_X4_waited (l : Launch) (G : GT) (A : Nat → Prop) (m : MS) (hW : WfM m) : Ct l yX4_waited cX4_waited 4 (some .double) ({ frames := 0, cells := 0, slots := 0, locals := 0 } : Room) G A [.ref (ma m 30)] (fun H => RepM G A m H) (fun H r H1 => r = some (.double (m_wai (sY m 0 0))) ∧ RepM G A (sY m 0 0) H1) := by
  refine ct_of (own := "GliderDayModel") (by decide +kernel) rfl (Nat.le_of_ble_eq_true rfl) (fun E H0 F hE hR => ?_)
  show wx E H0 0 0 0 [(0, .ref (ma m 30))] []
  refine x_aload_n F dX4_waited_0 0 rfl rfl ?_
  refine x_iconst (v := 0) F rfl dX4_waited_1 ?_
  refine z_put (m := m) (j := 0) (v := 0) F hR mw_799 rfl (by decide) rfl rfl rfl dX4_waited_2 (fun H1 hR2 => ?_)
  obtain ⟨z, hz⟩ : ∃ z, z = sY m 0 0 := ⟨_, rfl⟩
  have hW : WfM z := by rw [hz]; exact Same.wf (Same.Y (by decide)) hW
  rw [← hz] at hR2
  refine wx_lv (lv' := [(0, .ref (ma z 30))]) (by rw [hz]; rfl) ?_
  refine x_iconst (v := 0) F rfl dX4_waited_5 ?_
  refine x_istore_n (lv' := [(1, .int 0), (0, .ref (ma z 30))]) F dX4_waited_6 rfl (by decide) rfl ?_
  refine x_iconst (v := 0) F rfl dX4_waited_7 ?_
  refine x_istore_n (lv' := [(2, .int 0), (1, .int 0), (0, .ref (ma z 30))]) F dX4_waited_8 rfl (by decide) rfl ?_
  refine x_iconst (v := 0) F rfl dX4_waited_9 ?_
  refine x_istore_n (lv' := [(3, .int 0), (2, .int 0), (1, .int 0), (0, .ref (ma z 30))]) F dX4_waited_10 rfl (by decide) rfl ?_
  refine wx_sub (lv' := [(0, .ref (ma z 30)), (1, .int 0), (2, .int 0), (3, .int 0)]) [3, 2, 1, 0] rfl ?_
  refine (loop_dn (N := (mf z)) (P := fun i => wx E H1 0 0 11 [(0, .ref (ma z 30)), (1, .int (m_ws z i)), (2, .int (m_wb z i)), (3, .int (nI i))] []) ?_ ?_) 0 (Nat.zero_le _)
  · refine x_iload_n F dX4_waited_11 3 rfl rfl ?_
    refine x_aload_n F dX4_waited_12 0 rfl rfl ?_
    refine z_get (m := z) (j := 20) (v := .int (mY z 20)) F hR2 mw_819 rfl (by decide) rfl dX4_waited_13 ?_
    refine wx_i (y := nI (mf z)) hW.2.2.1.1 ?_
    refine x_icmp_ge F dX4_waited_16 (tgt := 57) (by decide) (fun _ => ?_) (fun h3 => absurd (Int32.le_refl _) h3)
    refine x_iload_n F dX4_waited_57 2 rfl rfl ?_
    refine x_if_ne F dX4_waited_58 (tgt := 65) (by decide) (fun h4 => ?_) (fun h4 => ?_)
    · refine x_iload_n F dX4_waited_65 1 rfl rfl ?_
      refine x_i2d F dX4_waited_66 ?_
      refine x_iload_n F dX4_waited_67 2 rfl rfl ?_
      refine x_i2d F dX4_waited_68 ?_
      refine x_ddiv F (h4) dX4_waited_69 ?_
      exact x_dret F hE dX4_waited_70 (Nat.le_of_ble_eq_true rfl) (Nat.le_of_ble_eq_true rfl) ⟨by rw [← hz]; simp [m_wai, h4], by rw [← hz]; exact hR2⟩
    · refine x_dconst0 F dX4_waited_61 ?_
      refine x_goto F dX4_waited_62 (tgt := 70) (by decide) ?_
      exact x_dret F hE dX4_waited_70 (Nat.le_of_ble_eq_true rfl) (Nat.le_of_ble_eq_true rfl) ⟨by rw [← hz]; simp [m_wai, h4], by rw [← hz]; exact hR2⟩
  · intro i hi ih11
    refine x_iload_n F dX4_waited_11 3 rfl rfl ?_
    refine x_aload_n F dX4_waited_12 0 rfl rfl ?_
    refine z_get (m := z) (j := 20) (v := .int (mY z 20)) F hR2 mw_819 rfl (by decide) rfl dX4_waited_13 ?_
    refine wx_i (y := nI (mf z)) hW.2.2.1.1 ?_
    refine x_icmp_ge F dX4_waited_16 (tgt := 57) (by decide) (fun h5 => absurd h5 (nI_ge hi ((Nat.lt_of_le_of_lt hW.2.2.1.2 (by decide))))) (fun _ => ?_)
    refine x_aload_n F dX4_waited_19 0 rfl rfl ?_
    refine z_get (m := z) (j := 27) (v := .ref (ma z 27)) F hR2 mw_826 rfl (by decide) rfl dX4_waited_20 ?_
    refine x_iload_n F dX4_waited_23 3 rfl rfl ?_
    refine z_ildN (m := z) (j := 27) (i := i) F hR2 (by decide) rfl rfl (Nat.lt_of_lt_of_le hi hW.2.2.1.2) (by decide) dX4_waited_24 ?_
    refine x_iconst (v := (-1)) F rfl dX4_waited_25 ?_
    refine x_icmp_ne F dX4_waited_26 (tgt := 32) (by decide) (fun h6 => ?_) (fun h6 => ?_)
    · refine x_iload_n F dX4_waited_32 1 rfl rfl ?_
      refine x_aload_n F dX4_waited_33 0 rfl rfl ?_
      refine z_get (m := z) (j := 27) (v := .ref (ma z 27)) F hR2 mw_826 rfl (by decide) rfl dX4_waited_34 ?_
      refine x_iload_n F dX4_waited_37 3 rfl rfl ?_
      refine z_ildN (m := z) (j := 27) (i := i) F hR2 (by decide) rfl rfl (Nat.lt_of_lt_of_le hi hW.2.2.1.2) (by decide) dX4_waited_38 ?_
      refine x_aload_n F dX4_waited_39 0 rfl rfl ?_
      refine z_get (m := z) (j := 26) (v := .ref (ma z 26)) F hR2 mw_825 rfl (by decide) rfl dX4_waited_40 ?_
      refine x_iload_n F dX4_waited_43 3 rfl rfl ?_
      refine z_ildN (m := z) (j := 26) (i := i) F hR2 (by decide) rfl rfl (Nat.lt_of_lt_of_le hi hW.2.2.1.2) (by decide) dX4_waited_44 ?_
      refine x_isub F dX4_waited_45 ?_
      refine x_iadd F dX4_waited_46 ?_
      refine x_istore_n (lv' := [(1, .int ((m_ws z i) + ((mZ z 27 i) - (mZ z 26 i)))), (0, .ref (ma z 30)), (2, .int (m_wb z i)), (3, .int (nI i))]) F dX4_waited_47 rfl (by decide) rfl ?_
      refine x_iinc (j := 2) (v := (m_wb z i) + 1) (lv' := [(2, .int ((m_wb z i) + 1)), (1, .int ((m_ws z i) + ((mZ z 27 i) - (mZ z 26 i)))), (0, .ref (ma z 30)), (3, .int (nI i))]) F dX4_waited_48 rfl rfl (by decide) rfl ?_
      refine x_iinc (j := 3) (v := nI (i + 1)) (lv' := [(3, .int (nI (i + 1))), (2, .int ((m_wb z i) + 1)), (1, .int ((m_ws z i) + ((mZ z 27 i) - (mZ z 26 i)))), (0, .ref (ma z 30))]) F dX4_waited_51 rfl (nI_1 _) (by decide) rfl ?_
      refine x_goto F dX4_waited_54 (tgt := 11) (by decide) ?_
      refine wx_sub (lv' := [(0, .ref (ma z 30)), (1, .int ((m_ws z i) + ((mZ z 27 i) - (mZ z 26 i)))), (2, .int ((m_wb z i) + 1)), (3, .int (nI (i + 1)))]) [3, 2, 1, 0] rfl ?_
      refine wx_lv (lv' := [(0, .ref (ma z 30)), (1, .int (m_ws z (i + 1))), (2, .int (m_wb z (i + 1))), (3, .int (nI (i + 1)))]) (by simp [m_wb, m_ws, sumN, h6]) ?_
      exact ih11
    · refine x_goto F dX4_waited_29 (tgt := 51) (by decide) ?_
      refine x_iinc (j := 3) (v := nI (i + 1)) (lv' := [(3, .int (nI (i + 1))), (0, .ref (ma z 30)), (1, .int (m_ws z i)), (2, .int (m_wb z i))]) F dX4_waited_51 rfl (nI_1 _) (by decide) rfl ?_
      refine x_goto F dX4_waited_54 (tgt := 11) (by decide) ?_
      refine wx_sub (lv' := [(0, .ref (ma z 30)), (1, .int (m_ws z i)), (2, .int (m_wb z i)), (3, .int (nI (i + 1)))]) [1, 2, 3, 0] rfl ?_
      refine wx_lv (lv' := [(0, .ref (ma z 30)), (1, .int (m_ws z (i + 1))), (2, .int (m_wb z (i + 1))), (3, .int (nI (i + 1)))]) (by simp [m_wb, m_ws, sumN, h6]) ?_
      exact ih11
set_option maxHeartbeats 4000000 in
set_option maxRecDepth 100000 in
theorem c_X4_tick (l : Launch) (G : GT) (A : Nat → Prop) (m : MS) (hW : WfM m) (x : Int32) (hq : ∀ i, i < tN x → ∀ g, g < mg (n_tick i (sY m 0 0)).2 → 0 < mZ (n_wN (n_m2 (n_tick i (sY m 0 0)).2) (mg (n_tick i (sY m 0 0)).2)) 18 g → ¬ m_fo (n_wN (n_m2 (n_tick i (sY m 0 0)).2) (mg (n_tick i (sY m 0 0)).2)) (nI g) = -1) : Ct l yX4_tick cX4_tick 4 (some .int) ({ frames := 4, cells := 0, slots := 0, locals := 91 } : Room) G A [.ref (ma m 30), .int x] (fun H => RepM G A m H) (fun H r H1 => r = some (.int (q_tick (sY m 0 0) x).1) ∧ RepM G A ((q_tick (sY m 0 0) x).2) H1) := by
  refine ct_of (own := "GliderDayModel") (by decide +kernel) rfl (Nat.le_of_ble_eq_true rfl) (fun E H0 F hE hR => ?_)
  show wx E H0 0 0 0 [(0, .ref (ma m 30)), (1, .int x)] []
  refine x_aload_n F dX4_tick_0 0 rfl rfl ?_
  refine x_iconst (v := 0) F rfl dX4_tick_1 ?_
  refine z_put (m := m) (j := 0) (v := 0) F hR mw_799 rfl (by decide) rfl rfl rfl dX4_tick_2 (fun H1 hR2 => ?_)
  obtain ⟨z, hz⟩ : ∃ z, z = sY m 0 0 := ⟨_, rfl⟩
  have hW : WfM z := by rw [hz]; exact Same.wf (Same.Y (by decide)) hW
  rw [← hz] at hR2
  refine wx_lv (lv' := [(0, .ref (ma z 30)), (1, .int x)]) (by rw [hz]; rfl) ?_
  rw [← hz] at hq
  refine x_iload_n F dX4_tick_5 1 rfl rfl ?_
  refine x_iconst (v := 1) F rfl dX4_tick_6 ?_
  refine x_sipush (v := 300) F rfl dX4_tick_7 ?_
  refine x_callSp (rest := []) F (c_X4_isIn l G A x 1 300) k_X4_84 ⟨(Nat.le_of_ble_eq_true rfl), (Nat.le_of_ble_eq_true rfl), rfl, rfl⟩ (Nat.le_of_ble_eq_true rfl) (Nat.le_of_ble_eq_true rfl) dX4_tick_10 rfl rfl (Nat.le_of_ble_eq_true rfl) trivial ?_
  refine x_if_eq F dX4_tick_13 (tgt := 28) (by decide) (fun h3 => ?_) (fun h3 => ?_)
  · replace h3 := bI_0.mp h3
    refine x_aload_n F dX4_tick_28 0 rfl rfl ?_
    refine x_iconst (v := 1) F rfl dX4_tick_29 ?_
    refine x_callVs (rest := []) F hR2.2.2.1 rfl (c_X4_no l G A z 1) k_X4_94 ⟨⟨(Nat.le_of_ble_eq_true rfl), (Nat.le_of_ble_eq_true rfl)⟩, (Nat.le_of_ble_eq_true rfl), (Nat.le_of_ble_eq_true rfl)⟩ dX4_tick_30 rfl rfl (Nat.le_of_ble_eq_true rfl) hR2 ?_
    rintro _ H4 ⟨rfl, hR5⟩ - -
    have ho : q_tick z x = (0, sY z 0 1) := by first | (simp [q_tick, h3]; done) | (simp [q_tick, h3]; rfl) | (exfalso; simp_all; done)
    exact x_iret F hE dX4_tick_33 (Nat.le_of_ble_eq_true rfl) (Nat.le_of_ble_eq_true rfl) (⟨by rw [← hz, ho], by rw [← hz, ho]; exact hR5⟩)
  · replace h3 := bI_ne.mp h3
    refine x_aload_n F dX4_tick_16 0 rfl rfl ?_
    refine z_get (m := z) (j := 1) (v := .int (mY z 1)) F hR2 mw_800 rfl (by decide) rfl dX4_tick_17 ?_
    refine x_iload_n F dX4_tick_20 1 rfl rfl ?_
    refine x_iadd F dX4_tick_21 ?_
    refine x_sipush (v := 1500) F rfl dX4_tick_22 ?_
    refine x_icmp_le F dX4_tick_25 (tgt := 34) (by decide) (fun h6 => ?_) (fun h6 => ?_)
    · have h6' := Int32.not_lt.mpr h6
      refine x_iconst (v := 0) F rfl dX4_tick_34 ?_
      refine x_istore_n (lv' := [(2, .int 0), (0, .ref (ma z 30)), (1, .int x)]) F dX4_tick_35 rfl (by decide) rfl ?_
      refine x_iconst (v := 0) F rfl dX4_tick_36 ?_
      refine x_istore_n (lv' := [(3, .int 0), (2, .int 0), (0, .ref (ma z 30)), (1, .int x)]) F dX4_tick_37 rfl (by decide) rfl ?_
      have hx31 := tN_ok (n := 301) (Int32.le_trans (by decide) h3.1) (Int32.lt_of_le_of_lt h3.2 (by decide)) (by decide)
      have hx : nI (tN x) = x := hx31.2
      have hx1 : tN x < 2 ^ 31 := Nat.lt_trans hx31.1 (by decide)
      refine wx_sub (lv' := [(0, .ref (ma z 30)), (1, .int x), (2, .int 0), (3, .int 0)]) [2, 3, 1, 0] rfl ?_
      have hmN : ∀ i, ma (n_tick i z).2 = ma z := fun i => (same_tick z i).1
      refine (loop_dn (N := tN x) (P := fun i => ∀ H : Heap, RepM G A (n_tick i z).2 H → wx E H 0 0 38 [(0, .ref (ma z 30)), (1, .int x), (2, .int (n_tick i z).1), (3, .int (nI i))] []) ?_ ?_) 0 (Nat.zero_le _) H1 hR2
      · intro H hR
        rw [← hmN (tN x)]
        refine x_iload_n F dX4_tick_38 3 rfl rfl ?_
        refine x_iload_n F dX4_tick_39 1 rfl rfl ?_
        refine x_icmp_ge F dX4_tick_40 (tgt := 64) (by decide) (fun _ => ?_) (fun h7 => absurd (by rw [hx]; exact Int32.le_refl _) h7)
        refine x_iload_n F dX4_tick_64 2 rfl rfl ?_
        have ho : q_tick z x = ((n_tick (tN x) z).1, (n_tick (tN x) z).2) := if_pos ⟨h3, h6⟩
        exact x_iret F hE dX4_tick_65 (Nat.le_of_ble_eq_true rfl) (Nat.le_of_ble_eq_true rfl) (⟨by rw [← hz, ho], by rw [← hz, ho]; exact hR⟩)
      · intro i hi ih H hR
        rw [← hmN i]
        refine x_iload_n F dX4_tick_38 3 rfl rfl ?_
        refine x_iload_n F dX4_tick_39 1 rfl rfl ?_
        refine x_icmp_ge F dX4_tick_40 (tgt := 64) (by decide) (fun h8 => absurd h8 (by rw [← hx]; exact nI_ge hi hx1)) (fun _ => ?_)
        refine x_iload_n F dX4_tick_43 2 rfl rfl ?_
        refine x_aload_n F dX4_tick_44 0 rfl rfl ?_
        refine x_callVs (rest := [.int (n_tick i z).1]) F hR.2.2.1 rfl (c_X4_minute l G A (n_tick i z).2 ((same_tick z i).wf hW) (hq i hi)) k_X4_166 ⟨⟨(Nat.le_of_ble_eq_true rfl), (Nat.le_of_ble_eq_true rfl)⟩, (Nat.le_of_ble_eq_true rfl), (Nat.le_of_ble_eq_true rfl)⟩ dX4_tick_45 rfl rfl (Nat.le_of_ble_eq_true rfl) hR ?_
        rintro _ H2 ⟨rfl, hR2⟩ - -
        replace hR2 : RepM G A (n_tick (i + 1) z).2 H2 := hR2
        have ih2 := ih H2 hR2
        rw [hmN i]
        rcases nmin_01 (n_tick i z).2 with h01 | h01
        · show wx E H2 _ _ 48 _ [.int (n_min (n_tick i z).2).1, _]
          rw [h01]
          have hs1 : (n_tick (i + 1) z).1 = (n_tick i z).1 + 0 := by show (n_tick i z).1 + (n_min (n_tick i z).2).1 = _; rw [h01]
          refine x_if_eq F dX4_tick_48 (tgt := 55) (by decide) (fun _ => ?_) (fun h9 => absurd (by decide) h9)
          refine x_iconst (v := 0) F rfl dX4_tick_55 ?_
          refine x_iadd F dX4_tick_56 ?_
          refine x_istore_n (lv' := [(2, .int (((n_tick i z).1) + 0)), (0, .ref (ma z 30)), (1, .int x), (3, .int (nI i))]) F dX4_tick_57 rfl (by decide) rfl ?_
          refine x_iinc (j := 3) (v := nI (i + 1)) (lv' := [(3, .int (nI (i + 1))), (2, .int (((n_tick i z).1) + 0)), (0, .ref (ma z 30)), (1, .int x)]) F dX4_tick_58 rfl (nI_1 _) (by decide) rfl ?_
          refine x_goto F dX4_tick_61 (tgt := 38) (by decide) ?_
          refine wx_sub (lv' := [(0, .ref (ma z 30)), (1, .int x), (2, .int (((n_tick i z).1) + 0)), (3, .int (nI (i + 1)))]) [2, 3, 1, 0] rfl ?_
          rw [hs1] at ih2
          exact ih2
        · show wx E H2 _ _ 48 _ [.int (n_min (n_tick i z).2).1, _]
          rw [h01]
          have hs1 : (n_tick (i + 1) z).1 = (n_tick i z).1 + 1 := by show (n_tick i z).1 + (n_min (n_tick i z).2).1 = _; rw [h01]
          refine x_if_eq F dX4_tick_48 (tgt := 55) (by decide) (fun h10 => absurd h10 (by decide)) (fun _ => ?_)
          refine x_iconst (v := 1) F rfl dX4_tick_51 ?_
          refine x_goto F dX4_tick_52 (tgt := 56) (by decide) ?_
          refine x_iadd F dX4_tick_56 ?_
          refine x_istore_n (lv' := [(2, .int (((n_tick i z).1) + 1)), (0, .ref (ma z 30)), (1, .int x), (3, .int (nI i))]) F dX4_tick_57 rfl (by decide) rfl ?_
          refine x_iinc (j := 3) (v := nI (i + 1)) (lv' := [(3, .int (nI (i + 1))), (2, .int (((n_tick i z).1) + 1)), (0, .ref (ma z 30)), (1, .int x)]) F dX4_tick_58 rfl (nI_1 _) (by decide) rfl ?_
          refine x_goto F dX4_tick_61 (tgt := 38) (by decide) ?_
          refine wx_sub (lv' := [(0, .ref (ma z 30)), (1, .int x), (2, .int (((n_tick i z).1) + 1)), (3, .int (nI (i + 1)))]) [2, 3, 1, 0] rfl ?_
          rw [hs1] at ih2
          exact ih2
    · have h6' := Int32.not_le.mp h6
      refine x_aload_n F dX4_tick_28 0 rfl rfl ?_
      refine x_iconst (v := 1) F rfl dX4_tick_29 ?_
      refine x_callVs (rest := []) F hR2.2.2.1 rfl (c_X4_no l G A z 1) k_X4_94 ⟨⟨(Nat.le_of_ble_eq_true rfl), (Nat.le_of_ble_eq_true rfl)⟩, (Nat.le_of_ble_eq_true rfl), (Nat.le_of_ble_eq_true rfl)⟩ dX4_tick_30 rfl rfl (Nat.le_of_ble_eq_true rfl) hR2 ?_
      rintro _ H11 ⟨rfl, hR12⟩ - -
      have ho : q_tick z x = (0, sY z 0 1) := by first | (simp [q_tick, h3, h6, h6']; done) | (simp [q_tick, h3, h6, h6']; rfl) | (exfalso; simp_all; done)
      exact x_iret F hE dX4_tick_33 (Nat.le_of_ble_eq_true rfl) (Nat.le_of_ble_eq_true rfl) (⟨by rw [← hz, ho], by rw [← hz, ho]; exact hR12⟩)
end MD9
