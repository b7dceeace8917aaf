/-! the reference's own methods: a minute -/
section MD4
theorem wx_join {P Q : Prop} (hj : P) (hb : P → Q) : Q := hb hj
def n_b3 (m : MS) (f : Nat) : MS := sZ (sZ (sZ m 29 f 1) 27 f (mY m 1)) 17 (tN (mZ m 23 f)) 0
/-- flight f begins -/
def n_begin (m : MS) (f : Nat) : MS := if 0 < mZ m 24 f then sY (sZ (n_b3 m f) 8 (if mZ m 8 0 = 0 then 0 else 1) (mY m 1 + 4 + mZ m 24 f / 100)) 4 (mY m 1 + 3) else sY (sY (sY (n_b3 m f) 5 (mY m 5 - 1)) 6 (mY m 1 + 10)) 4 (mY m 1 + 2)
/-- glider g lands -/
def n_land (m : MS) (g : Nat) : MS := sY (sZ (sZ (sZ m 29 (tN (m_fo m (nI g))) 2) 28 (tN (m_fo m (nI g))) (mY m 1)) 18 g 0) 4 (mY m 1 + 2)
set_option maxHeartbeats 4000000 in
set_option maxRecDepth 100000 in
theorem c_X4_begin (l : Launch) (G : GT) (A : Nat → Prop) (m : MS) (i : Nat) (hi : i < mf m) (hW : WfM m) : Ct l yX4_begin cX4_begin 3 none ({ frames := 0, cells := 0, slots := 0, locals := 0 } : Room) G A [.ref (ma m 30), .int (nI i)] (fun H => RepM G A m H) (fun H r H1 => r = none ∧ RepM G A (n_begin m i) H1) := by
  refine ct_of (own := "GliderDayModel") (by decide +kernel) rfl (Nat.le_of_ble_eq_true rfl) (fun E H0 F hE hR => ?_)
  show wx E H0 0 0 0 [(0, .ref (ma m 30)), (1, .int (nI i))] []
  refine x_aload_n F dX4_begin_0 0 rfl rfl ?_
  refine z_get (m := m) (j := 29) (v := .ref (ma m 29)) F hR mw_828 rfl (by decide) rfl dX4_begin_1 ?_
  refine x_iload_n F dX4_begin_4 1 rfl rfl ?_
  refine x_iconst (v := 1) F rfl dX4_begin_5 ?_
  refine z_istN (m := m) (j := 29) (i := i) (v := 1) F hR (by decide) rfl rfl (Nat.lt_of_lt_of_le hi hW.2.2.1.2) (by decide) dX4_begin_6 (fun H1 hR2 => ?_)
  refine x_aload_n F dX4_begin_7 0 rfl rfl ?_
  refine z_get (m := (sZ m 29 i 1)) (j := 27) (v := .ref (ma m 27)) F hR2 mw_826 rfl (by decide) rfl dX4_begin_8 ?_
  refine x_iload_n F dX4_begin_11 1 rfl rfl ?_
  refine x_aload_n F dX4_begin_12 0 rfl rfl ?_
  refine z_get (m := (sZ m 29 i 1)) (j := 1) (v := .int (mY m 1)) F hR2 mw_800 rfl (by decide) rfl dX4_begin_13 ?_
  refine z_istN (m := (sZ m 29 i 1)) (j := 27) (i := i) (v := mY m 1) F hR2 (by decide) rfl rfl (Nat.lt_of_lt_of_le hi hW.2.2.1.2) (by decide) dX4_begin_16 (fun H3 hR4 => ?_)
  refine x_aload_n F dX4_begin_17 0 rfl rfl ?_
  refine z_get (m := (sZ (sZ m 29 i 1) 27 i (mY m 1))) (j := 17) (v := .ref (ma m 17)) F hR4 mw_816 rfl (by decide) rfl dX4_begin_18 ?_
  refine x_aload_n F dX4_begin_21 0 rfl rfl ?_
  refine z_get (m := (sZ (sZ m 29 i 1) 27 i (mY m 1))) (j := 23) (v := .ref (ma m 23)) F hR4 mw_822 rfl (by decide) rfl dX4_begin_22 ?_
  refine x_iload_n F dX4_begin_25 1 rfl rfl ?_
  refine z_ildN (m := (sZ (sZ m 29 i 1) 27 i (mY m 1))) (j := 23) (i := i) F hR4 (by decide) rfl rfl (Nat.lt_of_lt_of_le hi hW.2.2.1.2) (by decide) dX4_begin_26 ?_
  refine wx_i (y := mZ m 23 i) rfl ?_
  refine x_iconst (v := 0) F rfl dX4_begin_27 ?_
  refine wx_st (y := nI (tN (mZ m 23 i))) ((hW.2.2.2 _ hi).2.2.1) ?_
  refine z_zstN (m := (sZ (sZ m 29 i 1) 27 i (mY m 1))) (j := 17) (i := (tN (mZ m 23 i))) (v := 0) F hR4 (by decide) rfl rfl (Nat.lt_of_lt_of_le (hW.2.2.2 _ hi).2.2.2 hW.2.1.2) (by decide) (by decide) dX4_begin_28 (fun H5 hR6 => ?_)
  refine x_aload_n F dX4_begin_29 0 rfl rfl ?_
  refine z_get (m := (sZ (sZ (sZ m 29 i 1) 27 i (mY m 1)) 17 (tN (mZ m 23 i)) 0)) (j := 24) (v := .ref (ma m 24)) F hR6 mw_823 rfl (by decide) rfl dX4_begin_30 ?_
  refine x_iload_n F dX4_begin_33 1 rfl rfl ?_
  refine z_ildN (m := (sZ (sZ (sZ m 29 i 1) 27 i (mY m 1)) 17 (tN (mZ m 23 i)) 0)) (j := 24) (i := i) F hR6 (by decide) rfl rfl (Nat.lt_of_lt_of_le hi hW.2.2.1.2) (by decide) dX4_begin_34 ?_
  refine wx_i (y := mZ m 24 i) rfl ?_
  refine x_if_le F dX4_begin_35 (tgt := 86) (by decide) (fun h7 => ?_) (fun h7 => ?_)
  · have h7' := Int32.not_lt.mpr h7
    refine x_aload_n F dX4_begin_86 0 rfl rfl ?_
    refine x_dup F dX4_begin_87 rfl ?_
    refine z_get (m := (sZ (sZ (sZ m 29 i 1) 27 i (mY m 1)) 17 (tN (mZ m 23 i)) 0)) (j := 5) (v := .int (mY m 5)) F hR6 mw_804 rfl (by decide) rfl dX4_begin_88 ?_
    refine x_iconst (v := 1) F rfl dX4_begin_91 ?_
    refine x_isub F dX4_begin_92 ?_
    refine z_put (m := (sZ (sZ (sZ m 29 i 1) 27 i (mY m 1)) 17 (tN (mZ m 23 i)) 0)) (j := 5) (v := (mY m 5) - 1) F hR6 mw_804 rfl (by decide) rfl rfl rfl dX4_begin_93 (fun H8 hR9 => ?_)
    refine x_aload_n F dX4_begin_96 0 rfl rfl ?_
    refine x_aload_n F dX4_begin_97 0 rfl rfl ?_
    refine z_get (m := (sY (sZ (sZ (sZ m 29 i 1) 27 i (mY m 1)) 17 (tN (mZ m 23 i)) 0) 5 ((mY m 5) - 1))) (j := 1) (v := .int (mY m 1)) F hR9 mw_800 rfl (by decide) rfl dX4_begin_98 ?_
    refine x_bipush (v := 10) F rfl dX4_begin_101 ?_
    refine x_iadd F dX4_begin_103 ?_
    refine z_put (m := (sY (sZ (sZ (sZ m 29 i 1) 27 i (mY m 1)) 17 (tN (mZ m 23 i)) 0) 5 ((mY m 5) - 1))) (j := 6) (v := (mY m 1) + 10) F hR9 mw_805 rfl (by decide) rfl rfl rfl dX4_begin_104 (fun H10 hR11 => ?_)
    refine x_aload_n F dX4_begin_107 0 rfl rfl ?_
    refine x_aload_n F dX4_begin_108 0 rfl rfl ?_
    refine z_get (m := (sY (sY (sZ (sZ (sZ m 29 i 1) 27 i (mY m 1)) 17 (tN (mZ m 23 i)) 0) 5 ((mY m 5) - 1)) 6 ((mY m 1) + 10))) (j := 1) (v := .int (mY m 1)) F hR11 mw_800 rfl (by decide) rfl dX4_begin_109 ?_
    refine x_iconst (v := 2) F rfl dX4_begin_112 ?_
    refine x_iadd F dX4_begin_113 ?_
    refine z_put (m := (sY (sY (sZ (sZ (sZ m 29 i 1) 27 i (mY m 1)) 17 (tN (mZ m 23 i)) 0) 5 ((mY m 5) - 1)) 6 ((mY m 1) + 10))) (j := 4) (v := (mY m 1) + 2) F hR11 mw_803 rfl (by decide) rfl rfl rfl dX4_begin_114 (fun H12 hR13 => ?_)
    exact x_vret F hE dX4_begin_117 (Nat.le_of_ble_eq_true rfl) (Nat.le_of_ble_eq_true rfl) (⟨rfl, by unfold n_begin; rw [if_neg (Int32.not_lt.mpr h7)]; exact hR13⟩)
  · have h7' := Int32.not_le.mp h7
    refine x_aload_n F dX4_begin_38 0 rfl rfl ?_
    refine z_get (m := (sZ (sZ (sZ m 29 i 1) 27 i (mY m 1)) 17 (tN (mZ m 23 i)) 0)) (j := 8) (v := .ref (ma m 8)) F hR6 mw_807 rfl (by decide) rfl dX4_begin_39 ?_
    refine x_iconst (v := 0) F rfl dX4_begin_42 ?_
    refine z_ildN (m := (sZ (sZ (sZ m 29 i 1) 27 i (mY m 1)) 17 (tN (mZ m 23 i)) 0)) (j := 8) (i := 0) F hR6 (by decide) rfl rfl ((by decide)) (by decide) dX4_begin_43 ?_
    refine wx_i (y := mZ m 8 0) rfl ?_
    refine x_if_ne F dX4_begin_44 (tgt := 51) (by decide) (fun h14 => ?_) (fun h14 => ?_)
    · refine x_iconst (v := 1) F rfl dX4_begin_51 ?_
      refine x_istore_n (lv' := [(2, .int 1), (0, .ref (ma m 30)), (1, .int (nI i))]) F dX4_begin_52 rfl (by decide) rfl ?_
      refine x_aload_n F dX4_begin_53 1 rfl rfl ?_
      refine z_get (m := (sZ (sZ (sZ m 29 i 1) 27 i (mY m 1)) 17 (tN (mZ m 23 i)) 0)) (j := 8) (v := .ref (ma m 8)) F hR6 mw_807 rfl (by decide) rfl dX4_begin_54 ?_
      refine x_iload_n F dX4_begin_57 0 rfl rfl ?_
      refine x_aload_n F dX4_begin_58 1 rfl rfl ?_
      refine z_get (m := (sZ (sZ (sZ m 29 i 1) 27 i (mY m 1)) 17 (tN (mZ m 23 i)) 0)) (j := 1) (v := .int (mY m 1)) F hR6 mw_800 rfl (by decide) rfl dX4_begin_59 ?_
      refine x_iconst (v := 4) F rfl dX4_begin_62 ?_
      refine x_iadd F dX4_begin_63 ?_
      refine x_aload_n F dX4_begin_64 1 rfl rfl ?_
      refine z_get (m := (sZ (sZ (sZ m 29 i 1) 27 i (mY m 1)) 17 (tN (mZ m 23 i)) 0)) (j := 24) (v := .ref (ma m 24)) F hR6 mw_823 rfl (by decide) rfl dX4_begin_65 ?_
      refine x_iload_n F dX4_begin_68 2 rfl rfl ?_
      refine z_ildN (m := (sZ (sZ (sZ m 29 i 1) 27 i (mY m 1)) 17 (tN (mZ m 23 i)) 0)) (j := 24) (i := i) F hR6 (by decide) rfl rfl (Nat.lt_of_lt_of_le hi hW.2.2.1.2) (by decide) dX4_begin_69 ?_
      refine wx_i (y := mZ m 24 i) rfl ?_
      refine x_bipush (v := 100) F rfl dX4_begin_70 ?_
      refine x_idiv F dX4_begin_72 (by decide) ?_
      refine x_iadd F dX4_begin_73 ?_
      refine z_istN (m := (sZ (sZ (sZ m 29 i 1) 27 i (mY m 1)) 17 (tN (mZ m 23 i)) 0)) (j := 8) (i := 1) (v := ((mY m 1) + 4) + ((mZ m 24 i) / 100)) F hR6 (by decide) rfl rfl ((by decide)) (by decide) dX4_begin_74 (fun H15 hR16 => ?_)
      refine x_aload_n F dX4_begin_75 1 rfl rfl ?_
      refine x_aload_n F dX4_begin_76 1 rfl rfl ?_
      refine z_get (m := (sZ (sZ (sZ (sZ m 29 i 1) 27 i (mY m 1)) 17 (tN (mZ m 23 i)) 0) 8 1 (((mY m 1) + 4) + ((mZ m 24 i) / 100)))) (j := 1) (v := .int (mY m 1)) F hR16 mw_800 rfl (by decide) rfl dX4_begin_77 ?_
      refine x_iconst (v := 3) F rfl dX4_begin_80 ?_
      refine x_iadd F dX4_begin_81 ?_
      refine z_put (m := (sZ (sZ (sZ (sZ m 29 i 1) 27 i (mY m 1)) 17 (tN (mZ m 23 i)) 0) 8 1 (((mY m 1) + 4) + ((mZ m 24 i) / 100)))) (j := 4) (v := (mY m 1) + 3) F hR16 mw_803 rfl (by decide) rfl rfl rfl dX4_begin_82 (fun H17 hR18 => ?_)
      exact x_vret F hE dX4_begin_85 (Nat.le_of_ble_eq_true rfl) (Nat.le_of_ble_eq_true rfl) (⟨rfl, by unfold n_begin; rw [if_pos h7', if_neg h14]; exact hR18⟩)
    · refine x_iconst (v := 0) F rfl dX4_begin_47 ?_
      refine x_goto F dX4_begin_48 (tgt := 52) (by decide) ?_
      refine x_istore_n (lv' := [(2, .int 0), (0, .ref (ma m 30)), (1, .int (nI i))]) F dX4_begin_52 rfl (by decide) rfl ?_
      refine x_aload_n F dX4_begin_53 1 rfl rfl ?_
      refine z_get (m := (sZ (sZ (sZ m 29 i 1) 27 i (mY m 1)) 17 (tN (mZ m 23 i)) 0)) (j := 8) (v := .ref (ma m 8)) F hR6 mw_807 rfl (by decide) rfl dX4_begin_54 ?_
      refine x_iload_n F dX4_begin_57 0 rfl rfl ?_
      refine x_aload_n F dX4_begin_58 1 rfl rfl ?_
      refine z_get (m := (sZ (sZ (sZ m 29 i 1) 27 i (mY m 1)) 17 (tN (mZ m 23 i)) 0)) (j := 1) (v := .int (mY m 1)) F hR6 mw_800 rfl (by decide) rfl dX4_begin_59 ?_
      refine x_iconst (v := 4) F rfl dX4_begin_62 ?_
      refine x_iadd F dX4_begin_63 ?_
      refine x_aload_n F dX4_begin_64 1 rfl rfl ?_
      refine z_get (m := (sZ (sZ (sZ m 29 i 1) 27 i (mY m 1)) 17 (tN (mZ m 23 i)) 0)) (j := 24) (v := .ref (ma m 24)) F hR6 mw_823 rfl (by decide) rfl dX4_begin_65 ?_
      refine x_iload_n F dX4_begin_68 2 rfl rfl ?_
      refine z_ildN (m := (sZ (sZ (sZ m 29 i 1) 27 i (mY m 1)) 17 (tN (mZ m 23 i)) 0)) (j := 24) (i := i) F hR6 (by decide) rfl rfl (Nat.lt_of_lt_of_le hi hW.2.2.1.2) (by decide) dX4_begin_69 ?_
      refine wx_i (y := mZ m 24 i) rfl ?_
      refine x_bipush (v := 100) F rfl dX4_begin_70 ?_
      refine x_idiv F dX4_begin_72 (by decide) ?_
      refine x_iadd F dX4_begin_73 ?_
      refine z_istN (m := (sZ (sZ (sZ m 29 i 1) 27 i (mY m 1)) 17 (tN (mZ m 23 i)) 0)) (j := 8) (i := 0) (v := ((mY m 1) + 4) + ((mZ m 24 i) / 100)) F hR6 (by decide) rfl rfl ((by decide)) (by decide) dX4_begin_74 (fun H19 hR20 => ?_)
      refine x_aload_n F dX4_begin_75 1 rfl rfl ?_
      refine x_aload_n F dX4_begin_76 1 rfl rfl ?_
      refine z_get (m := (sZ (sZ (sZ (sZ m 29 i 1) 27 i (mY m 1)) 17 (tN (mZ m 23 i)) 0) 8 0 (((mY m 1) + 4) + ((mZ m 24 i) / 100)))) (j := 1) (v := .int (mY m 1)) F hR20 mw_800 rfl (by decide) rfl dX4_begin_77 ?_
      refine x_iconst (v := 3) F rfl dX4_begin_80 ?_
      refine x_iadd F dX4_begin_81 ?_
      refine z_put (m := (sZ (sZ (sZ (sZ m 29 i 1) 27 i (mY m 1)) 17 (tN (mZ m 23 i)) 0) 8 0 (((mY m 1) + 4) + ((mZ m 24 i) / 100)))) (j := 4) (v := (mY m 1) + 3) F hR20 mw_803 rfl (by decide) rfl rfl rfl dX4_begin_82 (fun H21 hR22 => ?_)
      exact x_vret F hE dX4_begin_85 (Nat.le_of_ble_eq_true rfl) (Nat.le_of_ble_eq_true rfl) (⟨rfl, by unfold n_begin; rw [if_pos h7', if_pos h14]; exact hR22⟩)
set_option maxHeartbeats 4000000 in
set_option maxRecDepth 100000 in
theorem c_X4_land (l : Launch) (G : GT) (A : Nat → Prop) (m : MS) (i : Nat) (hi : i < mg m) (hW : WfM m) (hfo : ¬ m_fo m (nI i) = -1) : Ct l yX4_land cX4_land 3 none ({ frames := 1, cells := 0, slots := 0, locals := 22 } : Room) G A [.ref (ma m 30), .int (nI i)] (fun H => RepM G A m H) (fun H r H1 => r = none ∧ RepM G A (n_land m i) H1) := by
  refine ct_of (own := "GliderDayModel") (by decide +kernel) rfl (Nat.le_of_ble_eq_true rfl) (fun E H0 F hE hR => ?_)
  show wx E H0 0 0 0 [(0, .ref (ma m 30)), (1, .int (nI i))] []
  refine x_aload_n F dX4_land_0 0 rfl rfl ?_
  refine x_iload_n F dX4_land_1 1 rfl rfl ?_
  refine x_callVp (rest := []) F hR.2.2.1 rfl (c_X4_flightOf l G A m (nI i) hW) k_X4_106 ⟨(Nat.le_of_ble_eq_true rfl), (Nat.le_of_ble_eq_true rfl), rfl, rfl⟩ (Nat.le_of_ble_eq_true rfl) (Nat.le_of_ble_eq_true rfl) dX4_land_2 rfl rfl (Nat.le_of_ble_eq_true rfl) hR ?_
  obtain ⟨hfe, hff, hfp⟩ := fo_ok hW hfo
  refine x_istore_n (lv' := [(2, .int (m_fo m (nI i))), (0, .ref (ma m 30)), (1, .int (nI i))]) F dX4_land_5 rfl (by decide) rfl ?_
  refine x_aload_n F dX4_land_6 1 rfl rfl ?_
  refine z_get (m := m) (j := 29) (v := .ref (ma m 29)) F hR mw_828 rfl (by decide) rfl dX4_land_7 ?_
  refine x_iload_n F dX4_land_10 0 rfl rfl ?_
  refine x_iconst (v := 2) F rfl dX4_land_11 ?_
  refine wx_st (y := nI (tN (m_fo m (nI i)))) (hfe) ?_
  refine z_istN (m := m) (j := 29) (i := (tN (m_fo m (nI i)))) (v := 2) F hR (by decide) rfl rfl (Nat.lt_of_lt_of_le hff hW.2.2.1.2) (by decide) dX4_land_12 (fun H1 hR2 => ?_)
  refine x_aload_n F dX4_land_13 1 rfl rfl ?_
  refine z_get (m := (sZ m 29 (tN (m_fo m (nI i))) 2)) (j := 28) (v := .ref (ma m 28)) F hR2 mw_827 rfl (by decide) rfl dX4_land_14 ?_
  refine x_iload_n F dX4_land_17 0 rfl rfl ?_
  refine x_aload_n F dX4_land_18 1 rfl rfl ?_
  refine z_get (m := (sZ m 29 (tN (m_fo m (nI i))) 2)) (j := 1) (v := .int (mY m 1)) F hR2 mw_800 rfl (by decide) rfl dX4_land_19 ?_
  refine wx_st (y := nI (tN (m_fo m (nI i)))) (hfe) ?_
  refine z_istN (m := (sZ m 29 (tN (m_fo m (nI i))) 2)) (j := 28) (i := (tN (m_fo m (nI i)))) (v := mY m 1) F hR2 (by decide) rfl rfl (Nat.lt_of_lt_of_le hff hW.2.2.1.2) (by decide) dX4_land_22 (fun H3 hR4 => ?_)
  refine x_aload_n F dX4_land_23 1 rfl rfl ?_
  refine z_get (m := (sZ (sZ m 29 (tN (m_fo m (nI i))) 2) 28 (tN (m_fo m (nI i))) (mY m 1))) (j := 18) (v := .ref (ma m 18)) F hR4 mw_817 rfl (by decide) rfl dX4_land_24 ?_
  refine x_iload_n F dX4_land_27 2 rfl rfl ?_
  refine x_iconst (v := 0) F rfl dX4_land_28 ?_
  refine z_istN (m := (sZ (sZ m 29 (tN (m_fo m (nI i))) 2) 28 (tN (m_fo m (nI i))) (mY m 1))) (j := 18) (i := i) (v := 0) F hR4 (by decide) rfl rfl (Nat.lt_of_lt_of_le hi hW.2.1.2) (by decide) dX4_land_29 (fun H5 hR6 => ?_)
  refine x_aload_n F dX4_land_30 1 rfl rfl ?_
  refine x_aload_n F dX4_land_31 1 rfl rfl ?_
  refine z_get (m := (sZ (sZ (sZ m 29 (tN (m_fo m (nI i))) 2) 28 (tN (m_fo m (nI i))) (mY m 1)) 18 i 0)) (j := 1) (v := .int (mY m 1)) F hR6 mw_800 rfl (by decide) rfl dX4_land_32 ?_
  refine x_iconst (v := 2) F rfl dX4_land_35 ?_
  refine x_iadd F dX4_land_36 ?_
  refine z_put (m := (sZ (sZ (sZ m 29 (tN (m_fo m (nI i))) 2) 28 (tN (m_fo m (nI i))) (mY m 1)) 18 i 0)) (j := 4) (v := (mY m 1) + 2) F hR6 mw_803 rfl (by decide) rfl rfl rfl dX4_land_37 (fun H7 hR8 => ?_)
  exact x_vret F hE dX4_land_40 (Nat.le_of_ble_eq_true rfl) (Nat.le_of_ble_eq_true rfl) (⟨rfl, hR8⟩)
end MD4
