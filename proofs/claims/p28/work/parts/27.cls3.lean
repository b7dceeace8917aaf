/-! the day's own methods: those that change it -/
section CL3
theorem er_map (f : Nat → Nat) : ∀ (l : List Nat) (p : Nat), (l.eraseIdx p).map f = (l.map f).eraseIdx p
  | [], _ => rfl
  | _ :: _, 0 => rfl
  | a :: l, p + 1 => congrArg (f a :: ·) (er_map f l p)
theorem cD_sD (c : CS) (j k : Nat) (v : Int32) : cD (sD c j v) k = if k = j then v else cD c k := rfl
theorem k_X3_365 : cwS_ "GliderDay" 365 yX3_bringDown cX3_bringDown 2 none 2 := ⟨mw_454, mw_455, mw_28, mw_456, ⟨by decide +kernel, by decide +kernel, by decide +kernel⟩⟩
theorem k_X3_349 : cwS_ "GliderDay" 349 yX3_launchPrice cX3_launchPrice 1 (some .int) 1 := ⟨mw_447, mw_448, mw_28, mw_449, ⟨by decide +kernel, by decide +kernel, by decide +kernel⟩⟩
theorem k_X3_361 : cwS_ "GliderDay" 361 yX3_writeDown cX3_writeDown 4 none 2 := ⟨mw_451, mw_452, mw_28, mw_453, ⟨by decide +kernel, by decide +kernel, by decide +kernel⟩⟩
theorem k_X3_376 : cwV_ "GliderDay" 376 "GliderDay" yX3_takeTug cX3_takeTug 3 none 1 := ⟨mw_497, mw_499, mw_23, mw_28, mw_500, ⟨by decide +kernel, by decide +kernel, by decide +kernel⟩⟩
theorem k_X3_373 : cwV_ "GliderDay" 373 "GliderDay" yX3_takeCable cX3_takeCable 1 none 0 := ⟨mw_493, mw_495, mw_22, mw_28, mw_496, ⟨by decide +kernel, by decide +kernel, by decide +kernel⟩⟩
theorem k_X3_264 : cwV_ "GliderDay" 264 "java/util/ArrayList" yJx4a65c_remove_915e3 cJx4a65c_remove_915e3 4 (some (.object "java/lang/Object")) 1 := ⟨mw_434, mw_435, mw_436, mw_31, mw_437, ⟨by decide +kernel, by decide +kernel, by decide +kernel⟩⟩
set_option maxHeartbeats 4000000 in
set_option maxRecDepth 100000 in
theorem c_X3_freeCables (l : Launch) (G : GT) (A : Nat → Prop) (c : CS)  : Ct l yX3_freeCables cX3_freeCables 1 none ({ frames := 0, cells := 0, slots := 0, locals := 0 } : Room) G A [.ref (ad c 0 0)] (fun H => Rep G A c H) (fun H r H1 => r = none ∧ Rep G A (u_cab c) H1) := by
  refine ct_of (own := "GliderDay") (by decide +kernel) rfl (Nat.le_of_ble_eq_true rfl) (fun E H0 F hE hR => ?_)
  show wx E H0 0 0 0 [(0, .ref (ad c 0 0))] []
  refine x_aload_n F dX3_freeCables_0 0 rfl rfl ?_
  refine y_getD (c := c) (j := 7) (v := .int (cD c 7)) F hR mw_88 rfl (by decide) rfl dX3_freeCables_1 ?_
  refine x_iconst (v := 2) F rfl dX3_freeCables_4 ?_
  refine x_icmp_lt F dX3_freeCables_5 (tgt := 24) (by decide) (fun h1 => ?_) (fun h1 => ?_)
  · have h1' := Int32.not_le.mpr h1
    exact x_vret F hE dX3_freeCables_24 (Nat.le_of_ble_eq_true rfl) (Nat.le_of_ble_eq_true rfl) (⟨rfl, by rw [show u_cab c = c from by simp [u_cab, sD_self, h1, h1']]; exact hR⟩)
  · have h1' := Int32.not_lt.mp h1
    refine x_aload_n F dX3_freeCables_8 0 rfl rfl ?_
    refine y_getD (c := c) (j := 9) (v := .int (cD c 9)) F hR mw_90 rfl (by decide) rfl dX3_freeCables_9 ?_
    refine x_aload_n F dX3_freeCables_12 0 rfl rfl ?_
    refine y_getD (c := c) (j := 8) (v := .int (cD c 8)) F hR mw_89 rfl (by decide) rfl dX3_freeCables_13 ?_
    refine x_icmp_lt F dX3_freeCables_16 (tgt := 24) (by decide) (fun h2 => ?_) (fun h2 => ?_)
    · have h2' := Int32.not_le.mpr h2
      exact x_vret F hE dX3_freeCables_24 (Nat.le_of_ble_eq_true rfl) (Nat.le_of_ble_eq_true rfl) (⟨rfl, by rw [show u_cab c = c from by simp [u_cab, sD_self, h1, h1', h2, h2']]; exact hR⟩)
    · have h2' := Int32.not_lt.mp h2
      refine x_aload_n F dX3_freeCables_19 0 rfl rfl ?_
      refine x_iconst (v := 0) F rfl dX3_freeCables_20 ?_
      refine y_putD (c := c) (j := 7) (v := 0) F hR mw_88 rfl (by decide) rfl rfl rfl dX3_freeCables_21 (fun H3 hR4 => ?_)
      exact x_vret F hE dX3_freeCables_24 (Nat.le_of_ble_eq_true rfl) (Nat.le_of_ble_eq_true rfl) (⟨rfl, by rw [show u_cab c = sD c 7 0 from by simp [u_cab, sD_self, h1, h1', h2, h2']]; exact hR4⟩)
set_option maxHeartbeats 4000000 in
set_option maxRecDepth 100000 in
theorem c_X3_freeDueTugs (l : Launch) (G : GT) (A : Nat → Prop) (c : CS)  : Ct l yX3_freeDueTugs cX3_freeDueTugs 2 none ({ frames := 0, cells := 0, slots := 0, locals := 0 } : Room) G A [.ref (ad c 0 0)] (fun H => Rep G A c H) (fun H r H1 => r = none ∧ Rep G A (u_tgs c) H1) := by
  refine ct_of (own := "GliderDay") (by decide +kernel) rfl (Nat.le_of_ble_eq_true rfl) (fun E H0 F hE hR => ?_)
  show wx E H0 0 0 0 [(0, .ref (ad c 0 0))] []
  refine x_iconst (v := 0) F rfl dX3_freeDueTugs_0 ?_
  refine x_istore_n (lv' := [(1, .int 0), (0, .ref (ad c 0 0))]) F dX3_freeDueTugs_1 rfl (by decide) rfl ?_
  refine x_iload_n F dX3_freeDueTugs_2 0 rfl rfl ?_
  refine x_aload_n F dX3_freeDueTugs_3 1 rfl rfl ?_
  refine y_getD (c := c) (j := 5) (v := .ref (ad c 2 0)) F hR mw_86 rfl (by decide) rfl dX3_freeDueTugs_4 ?_
  refine y_lenT (c := c) F hR dX3_freeDueTugs_7 ?_
  refine x_icmp_ge F dX3_freeDueTugs_8 (tgt := 37) (by decide) (fun h1 => absurd h1 (by decide)) (fun _ => ?_)
  refine x_aload_n F dX3_freeDueTugs_11 1 rfl rfl ?_
  refine y_getD (c := c) (j := 9) (v := .int (cD c 9)) F hR mw_90 rfl (by decide) rfl dX3_freeDueTugs_12 ?_
  refine x_aload_n F dX3_freeDueTugs_15 1 rfl rfl ?_
  refine y_getD (c := c) (j := 5) (v := .ref (ad c 2 0)) F hR mw_86 rfl (by decide) rfl dX3_freeDueTugs_16 ?_
  refine x_iload_n F dX3_freeDueTugs_19 0 rfl rfl ?_
  refine y_ildT (c := c) (i := 0) (v := cD c 13) F hR (by decide) dX3_freeDueTugs_20 rfl ?_
  refine x_icmp_lt F dX3_freeDueTugs_21 (tgt := 31) (by decide) (fun h2 => ?_) (fun h2 => ?_)
  · have h2' := Int32.not_le.mpr h2
    refine x_iinc (j := 0) (v := 1) (lv' := [(1, .int 1), (0, .ref (ad c 0 0))]) F dX3_freeDueTugs_31 rfl (by decide) (by decide) rfl ?_
    refine x_goto F dX3_freeDueTugs_34 (tgt := 2) (by decide) ?_
    refine x_iload_n F dX3_freeDueTugs_2 0 rfl rfl ?_
    refine x_aload_n F dX3_freeDueTugs_3 1 rfl rfl ?_
    refine y_getD (c := c) (j := 5) (v := .ref (ad c 2 0)) F hR mw_86 rfl (by decide) rfl dX3_freeDueTugs_4 ?_
    refine y_lenT (c := c) F hR dX3_freeDueTugs_7 ?_
    refine x_icmp_ge F dX3_freeDueTugs_8 (tgt := 37) (by decide) (fun h3 => absurd h3 (by decide)) (fun _ => ?_)
    refine x_aload_n F dX3_freeDueTugs_11 1 rfl rfl ?_
    refine y_getD (c := c) (j := 9) (v := .int (cD c 9)) F hR mw_90 rfl (by decide) rfl dX3_freeDueTugs_12 ?_
    refine x_aload_n F dX3_freeDueTugs_15 1 rfl rfl ?_
    refine y_getD (c := c) (j := 5) (v := .ref (ad c 2 0)) F hR mw_86 rfl (by decide) rfl dX3_freeDueTugs_16 ?_
    refine x_iload_n F dX3_freeDueTugs_19 0 rfl rfl ?_
    refine y_ildT (c := c) (i := 1) (v := cD c 14) F hR (by decide) dX3_freeDueTugs_20 rfl ?_
    refine x_icmp_lt F dX3_freeDueTugs_21 (tgt := 31) (by decide) (fun h4 => ?_) (fun h4 => ?_)
    · have h4' := Int32.not_le.mpr h4
      refine x_iinc (j := 0) (v := 2) (lv' := [(1, .int 2), (0, .ref (ad c 0 0))]) F dX3_freeDueTugs_31 rfl (by decide) (by decide) rfl ?_
      refine x_goto F dX3_freeDueTugs_34 (tgt := 2) (by decide) ?_
      refine x_iload_n F dX3_freeDueTugs_2 0 rfl rfl ?_
      refine x_aload_n F dX3_freeDueTugs_3 1 rfl rfl ?_
      refine y_getD (c := c) (j := 5) (v := .ref (ad c 2 0)) F hR mw_86 rfl (by decide) rfl dX3_freeDueTugs_4 ?_
      refine y_lenT (c := c) F hR dX3_freeDueTugs_7 ?_
      refine x_icmp_ge F dX3_freeDueTugs_8 (tgt := 37) (by decide) (fun _ => ?_) (fun h5 => absurd (by decide) h5)
      exact x_vret F hE dX3_freeDueTugs_37 (Nat.le_of_ble_eq_true rfl) (Nat.le_of_ble_eq_true rfl) (⟨rfl, by rw [show u_tgs c = c from by first | (simp [u_tgs, u_tg1, u_tg0, cD_sD, sD_self, h2, h2', h4, h4']; done) | (simp [u_tgs, u_tg1, u_tg0, cD_sD, sD_self, h2, h2', h4, h4']; exact sD_self (sD c 13 0) 14)]; exact hR⟩)
    · have h4' := Int32.not_lt.mp h4
      refine x_aload_n F dX3_freeDueTugs_24 1 rfl rfl ?_
      refine y_getD (c := c) (j := 5) (v := .ref (ad c 2 0)) F hR mw_86 rfl (by decide) rfl dX3_freeDueTugs_25 ?_
      refine x_iload_n F dX3_freeDueTugs_28 0 rfl rfl ?_
      refine x_iconst (v := 0) F rfl dX3_freeDueTugs_29 ?_
      refine y_istT (c := c) (i := 1) (v := 0) F hR (by decide) dX3_freeDueTugs_30 (fun H6 hR7 => ?_)
      refine x_iinc (j := 0) (v := 2) (lv' := [(1, .int 2), (0, .ref (ad c 0 0))]) F dX3_freeDueTugs_31 rfl (by decide) (by decide) rfl ?_
      refine x_goto F dX3_freeDueTugs_34 (tgt := 2) (by decide) ?_
      refine x_iload_n F dX3_freeDueTugs_2 0 rfl rfl ?_
      refine x_aload_n F dX3_freeDueTugs_3 1 rfl rfl ?_
      refine y_getD (c := sD c 14 0) (j := 5) (v := .ref (ad c 2 0)) F hR7 mw_86 rfl (by decide) rfl dX3_freeDueTugs_4 ?_
      refine y_lenT (c := sD c 14 0) F hR7 dX3_freeDueTugs_7 ?_
      refine x_icmp_ge F dX3_freeDueTugs_8 (tgt := 37) (by decide) (fun _ => ?_) (fun h8 => absurd (by decide) h8)
      exact x_vret F hE dX3_freeDueTugs_37 (Nat.le_of_ble_eq_true rfl) (Nat.le_of_ble_eq_true rfl) (⟨rfl, by rw [show u_tgs c = sD c 14 0 from by first | (simp [u_tgs, u_tg1, u_tg0, cD_sD, sD_self, h2, h2', h4, h4']; done) | (simp [u_tgs, u_tg1, u_tg0, cD_sD, sD_self, h2, h2', h4, h4']; exact sD_self (sD c 13 0) 14)]; exact hR7⟩)
  · have h2' := Int32.not_lt.mp h2
    refine x_aload_n F dX3_freeDueTugs_24 1 rfl rfl ?_
    refine y_getD (c := c) (j := 5) (v := .ref (ad c 2 0)) F hR mw_86 rfl (by decide) rfl dX3_freeDueTugs_25 ?_
    refine x_iload_n F dX3_freeDueTugs_28 0 rfl rfl ?_
    refine x_iconst (v := 0) F rfl dX3_freeDueTugs_29 ?_
    refine y_istT (c := c) (i := 0) (v := 0) F hR (by decide) dX3_freeDueTugs_30 (fun H9 hR10 => ?_)
    refine x_iinc (j := 0) (v := 1) (lv' := [(1, .int 1), (0, .ref (ad c 0 0))]) F dX3_freeDueTugs_31 rfl (by decide) (by decide) rfl ?_
    refine x_goto F dX3_freeDueTugs_34 (tgt := 2) (by decide) ?_
    refine x_iload_n F dX3_freeDueTugs_2 0 rfl rfl ?_
    refine x_aload_n F dX3_freeDueTugs_3 1 rfl rfl ?_
    refine y_getD (c := sD c 13 0) (j := 5) (v := .ref (ad c 2 0)) F hR10 mw_86 rfl (by decide) rfl dX3_freeDueTugs_4 ?_
    refine y_lenT (c := sD c 13 0) F hR10 dX3_freeDueTugs_7 ?_
    refine x_icmp_ge F dX3_freeDueTugs_8 (tgt := 37) (by decide) (fun h11 => absurd h11 (by decide)) (fun _ => ?_)
    refine x_aload_n F dX3_freeDueTugs_11 1 rfl rfl ?_
    refine y_getD (c := sD c 13 0) (j := 9) (v := .int (cD c 9)) F hR10 mw_90 rfl (by decide) rfl dX3_freeDueTugs_12 ?_
    refine x_aload_n F dX3_freeDueTugs_15 1 rfl rfl ?_
    refine y_getD (c := sD c 13 0) (j := 5) (v := .ref (ad c 2 0)) F hR10 mw_86 rfl (by decide) rfl dX3_freeDueTugs_16 ?_
    refine x_iload_n F dX3_freeDueTugs_19 0 rfl rfl ?_
    refine y_ildT (c := sD c 13 0) (i := 1) (v := cD c 14) F hR10 (by decide) dX3_freeDueTugs_20 rfl ?_
    refine x_icmp_lt F dX3_freeDueTugs_21 (tgt := 31) (by decide) (fun h12 => ?_) (fun h12 => ?_)
    · have h12' := Int32.not_le.mpr h12
      refine x_iinc (j := 0) (v := 2) (lv' := [(1, .int 2), (0, .ref (ad c 0 0))]) F dX3_freeDueTugs_31 rfl (by decide) (by decide) rfl ?_
      refine x_goto F dX3_freeDueTugs_34 (tgt := 2) (by decide) ?_
      refine x_iload_n F dX3_freeDueTugs_2 0 rfl rfl ?_
      refine x_aload_n F dX3_freeDueTugs_3 1 rfl rfl ?_
      refine y_getD (c := sD c 13 0) (j := 5) (v := .ref (ad c 2 0)) F hR10 mw_86 rfl (by decide) rfl dX3_freeDueTugs_4 ?_
      refine y_lenT (c := sD c 13 0) F hR10 dX3_freeDueTugs_7 ?_
      refine x_icmp_ge F dX3_freeDueTugs_8 (tgt := 37) (by decide) (fun _ => ?_) (fun h13 => absurd (by decide) h13)
      exact x_vret F hE dX3_freeDueTugs_37 (Nat.le_of_ble_eq_true rfl) (Nat.le_of_ble_eq_true rfl) (⟨rfl, by rw [show u_tgs c = sD c 13 0 from by first | (simp [u_tgs, u_tg1, u_tg0, cD_sD, sD_self, h2, h2', h12, h12']; done) | (simp [u_tgs, u_tg1, u_tg0, cD_sD, sD_self, h2, h2', h12, h12']; exact sD_self (sD c 13 0) 14)]; exact hR10⟩)
    · have h12' := Int32.not_lt.mp h12
      refine x_aload_n F dX3_freeDueTugs_24 1 rfl rfl ?_
      refine y_getD (c := sD c 13 0) (j := 5) (v := .ref (ad c 2 0)) F hR10 mw_86 rfl (by decide) rfl dX3_freeDueTugs_25 ?_
      refine x_iload_n F dX3_freeDueTugs_28 0 rfl rfl ?_
      refine x_iconst (v := 0) F rfl dX3_freeDueTugs_29 ?_
      refine y_istT (c := sD c 13 0) (i := 1) (v := 0) F hR10 (by decide) dX3_freeDueTugs_30 (fun H14 hR15 => ?_)
      refine x_iinc (j := 0) (v := 2) (lv' := [(1, .int 2), (0, .ref (ad c 0 0))]) F dX3_freeDueTugs_31 rfl (by decide) (by decide) rfl ?_
      refine x_goto F dX3_freeDueTugs_34 (tgt := 2) (by decide) ?_
      refine x_iload_n F dX3_freeDueTugs_2 0 rfl rfl ?_
      refine x_aload_n F dX3_freeDueTugs_3 1 rfl rfl ?_
      refine y_getD (c := sD (sD c 13 0) 14 0) (j := 5) (v := .ref (ad c 2 0)) F hR15 mw_86 rfl (by decide) rfl dX3_freeDueTugs_4 ?_
      refine y_lenT (c := sD (sD c 13 0) 14 0) F hR15 dX3_freeDueTugs_7 ?_
      refine x_icmp_ge F dX3_freeDueTugs_8 (tgt := 37) (by decide) (fun _ => ?_) (fun h16 => absurd (by decide) h16)
      exact x_vret F hE dX3_freeDueTugs_37 (Nat.le_of_ble_eq_true rfl) (Nat.le_of_ble_eq_true rfl) (⟨rfl, by rw [show u_tgs c = sD (sD c 13 0) 14 0 from by first | (simp [u_tgs, u_tg1, u_tg0, cD_sD, sD_self, h2, h2', h12, h12']; done) | (simp [u_tgs, u_tg1, u_tg0, cD_sD, sD_self, h2, h2', h12, h12']; exact sD_self (sD c 13 0) 14)]; exact hR15⟩)
set_option maxHeartbeats 4000000 in
set_option maxRecDepth 100000 in
theorem c_X3_takeCable (l : Launch) (G : GT) (A : Nat → Prop) (c : CS)  : Ct l yX3_takeCable cX3_takeCable 1 none ({ frames := 0, cells := 0, slots := 0, locals := 0 } : Room) G A [.ref (ad c 0 0)] (fun H => Rep G A c H) (fun H r H1 => r = none ∧ Rep G A (u_cbl c) H1) := by
  refine ct_of (own := "GliderDay") (by decide +kernel) rfl (Nat.le_of_ble_eq_true rfl) (fun E H0 F hE hR => ?_)
  show wx E H0 0 0 0 [(0, .ref (ad c 0 0))] []
  refine x_aload_n F dX3_takeCable_0 0 rfl rfl ?_
  refine x_dup F dX3_takeCable_1 rfl ?_
  refine y_getD (c := c) (j := 7) (v := .int (cD c 7)) F hR mw_88 rfl (by decide) rfl dX3_takeCable_2 ?_
  refine x_iconst (v := 1) F rfl dX3_takeCable_5 ?_
  refine x_iadd F dX3_takeCable_6 ?_
  refine y_putD (c := c) (j := 7) (v := (cD c 7) + 1) F hR mw_88 rfl (by decide) rfl rfl rfl dX3_takeCable_7 (fun H1 hR2 => ?_)
  refine x_aload_n F dX3_takeCable_10 0 rfl rfl ?_
  refine y_getD (c := sD c 7 ((cD c 7) + 1)) (j := 7) (v := .int ((cD c 7) + 1)) F hR2 mw_88 rfl (by decide) rfl dX3_takeCable_11 ?_
  refine x_iconst (v := 2) F rfl dX3_takeCable_14 ?_
  refine x_icmp_lt F dX3_takeCable_15 (tgt := 29) (by decide) (fun h3 => ?_) (fun h3 => ?_)
  · have h3' := Int32.not_le.mpr h3
    exact x_vret F hE dX3_takeCable_29 (Nat.le_of_ble_eq_true rfl) (Nat.le_of_ble_eq_true rfl) (⟨rfl, by rw [show u_cbl c = sD c 7 ((cD c 7) + 1) from by unfold u_cbl; rw [if_neg h3']; exact sD_self (sD c 7 (cD c 7 + 1)) 8]; exact hR2⟩)
  · have h3' := Int32.not_lt.mp h3
    refine x_aload_n F dX3_takeCable_18 0 rfl rfl ?_
    refine x_aload_n F dX3_takeCable_19 0 rfl rfl ?_
    refine y_getD (c := sD c 7 ((cD c 7) + 1)) (j := 9) (v := .int (cD c 9)) F hR2 mw_90 rfl (by decide) rfl dX3_takeCable_20 ?_
    refine x_bipush (v := 10) F rfl dX3_takeCable_23 ?_
    refine x_iadd F dX3_takeCable_25 ?_
    refine y_putD (c := sD c 7 ((cD c 7) + 1)) (j := 8) (v := (cD c 9) + 10) F hR2 mw_89 rfl (by decide) rfl rfl rfl dX3_takeCable_26 (fun H4 hR5 => ?_)
    exact x_vret F hE dX3_takeCable_29 (Nat.le_of_ble_eq_true rfl) (Nat.le_of_ble_eq_true rfl) (⟨rfl, by rw [show u_cbl c = sD (sD c 7 ((cD c 7) + 1)) 8 ((cD c 9) + 10) from by unfold u_cbl; rw [if_pos h3']]; exact hR5⟩)
set_option maxHeartbeats 4000000 in
set_option maxRecDepth 100000 in
theorem c_X3_takeTug (l : Launch) (G : GT) (A : Nat → Prop) (c : CS) (x : Int32) : Ct l yX3_takeTug cX3_takeTug 3 none ({ frames := 0, cells := 0, slots := 0, locals := 0 } : Room) G A [.ref (ad c 0 0), .int x] (fun H => Rep G A c H) (fun H r H1 => r = none ∧ Rep G A (u_tug c x) H1) := by
  refine ct_of (own := "GliderDay") (by decide +kernel) rfl (Nat.le_of_ble_eq_true rfl) (fun E H0 F hE hR => ?_)
  show wx E H0 0 0 0 [(0, .ref (ad c 0 0)), (1, .int x)] []
  refine x_iconst (v := 0) F rfl dX3_takeTug_0 ?_
  refine x_istore_n (lv' := [(2, .int 0), (0, .ref (ad c 0 0)), (1, .int x)]) F dX3_takeTug_1 rfl (by decide) rfl ?_
  refine x_iload_n F dX3_takeTug_2 0 rfl rfl ?_
  refine x_aload_n F dX3_takeTug_3 1 rfl rfl ?_
  refine y_getD (c := c) (j := 5) (v := .ref (ad c 2 0)) F hR mw_86 rfl (by decide) rfl dX3_takeTug_4 ?_
  refine y_lenT (c := c) F hR dX3_takeTug_7 ?_
  refine x_icmp_ge F dX3_takeTug_8 (tgt := 44) (by decide) (fun h1 => absurd h1 (by decide)) (fun _ => ?_)
  refine x_aload_n F dX3_takeTug_11 1 rfl rfl ?_
  refine y_getD (c := c) (j := 5) (v := .ref (ad c 2 0)) F hR mw_86 rfl (by decide) rfl dX3_takeTug_12 ?_
  refine x_iload_n F dX3_takeTug_15 0 rfl rfl ?_
  refine y_ildT (c := c) (i := 0) (v := cD c 13) F hR (by decide) dX3_takeTug_16 rfl ?_
  refine x_if_ne F dX3_takeTug_17 (tgt := 38) (by decide) (fun h2 => ?_) (fun h2 => ?_)
  · refine x_iinc (j := 0) (v := 1) (lv' := [(2, .int 1), (0, .ref (ad c 0 0)), (1, .int x)]) F dX3_takeTug_38 rfl (by decide) (by decide) rfl ?_
    refine x_goto F dX3_takeTug_41 (tgt := 2) (by decide) ?_
    refine x_iload_n F dX3_takeTug_2 0 rfl rfl ?_
    refine x_aload_n F dX3_takeTug_3 1 rfl rfl ?_
    refine y_getD (c := c) (j := 5) (v := .ref (ad c 2 0)) F hR mw_86 rfl (by decide) rfl dX3_takeTug_4 ?_
    refine y_lenT (c := c) F hR dX3_takeTug_7 ?_
    refine x_icmp_ge F dX3_takeTug_8 (tgt := 44) (by decide) (fun h3 => absurd h3 (by decide)) (fun _ => ?_)
    refine x_aload_n F dX3_takeTug_11 1 rfl rfl ?_
    refine y_getD (c := c) (j := 5) (v := .ref (ad c 2 0)) F hR mw_86 rfl (by decide) rfl dX3_takeTug_12 ?_
    refine x_iload_n F dX3_takeTug_15 0 rfl rfl ?_
    refine y_ildT (c := c) (i := 1) (v := cD c 14) F hR (by decide) dX3_takeTug_16 rfl ?_
    refine x_if_ne F dX3_takeTug_17 (tgt := 38) (by decide) (fun h4 => ?_) (fun h4 => ?_)
    · refine x_iinc (j := 0) (v := 2) (lv' := [(2, .int 2), (0, .ref (ad c 0 0)), (1, .int x)]) F dX3_takeTug_38 rfl (by decide) (by decide) rfl ?_
      refine x_goto F dX3_takeTug_41 (tgt := 2) (by decide) ?_
      refine x_iload_n F dX3_takeTug_2 0 rfl rfl ?_
      refine x_aload_n F dX3_takeTug_3 1 rfl rfl ?_
      refine y_getD (c := c) (j := 5) (v := .ref (ad c 2 0)) F hR mw_86 rfl (by decide) rfl dX3_takeTug_4 ?_
      refine y_lenT (c := c) F hR dX3_takeTug_7 ?_
      refine x_icmp_ge F dX3_takeTug_8 (tgt := 44) (by decide) (fun _ => ?_) (fun h5 => absurd (by decide) h5)
      exact x_vret F hE dX3_takeTug_44 (Nat.le_of_ble_eq_true rfl) (Nat.le_of_ble_eq_true rfl) (⟨rfl, by rw [show u_tug c x = c from by unfold u_tug; simp [h2, h4]; first | exact sD_self (sD c 13 _) 14 | (rw [sD_self]; done) | (rw [sD_self]; exact sD_self c 14)]; exact hR⟩)
    · refine x_aload_n F dX3_takeTug_20 1 rfl rfl ?_
      refine y_getD (c := c) (j := 5) (v := .ref (ad c 2 0)) F hR mw_86 rfl (by decide) rfl dX3_takeTug_21 ?_
      refine x_iload_n F dX3_takeTug_24 0 rfl rfl ?_
      refine x_aload_n F dX3_takeTug_25 1 rfl rfl ?_
      refine y_getD (c := c) (j := 9) (v := .int (cD c 9)) F hR mw_90 rfl (by decide) rfl dX3_takeTug_26 ?_
      refine x_iconst (v := 4) F rfl dX3_takeTug_29 ?_
      refine x_iadd F dX3_takeTug_30 ?_
      refine x_iload_n F dX3_takeTug_31 2 rfl rfl ?_
      refine x_bipush (v := 100) F rfl dX3_takeTug_32 ?_
      refine x_idiv F dX3_takeTug_34 (by decide) ?_
      refine x_iadd F dX3_takeTug_35 ?_
      refine y_istT (c := c) (i := 1) (v := ((cD c 9) + 4) + (x / 100)) F hR (by decide) dX3_takeTug_36 (fun H6 hR7 => ?_)
      exact x_vret F hE dX3_takeTug_37 (Nat.le_of_ble_eq_true rfl) (Nat.le_of_ble_eq_true rfl) (⟨rfl, by rw [show u_tug c x = sD c 14 (((cD c 9) + 4) + (x / 100)) from by unfold u_tug; simp [h2, h4]; first | exact sD_self (sD c 13 _) 14 | (rw [sD_self]; done) | (rw [sD_self]; exact sD_self c 14)]; exact hR7⟩)
  · refine x_aload_n F dX3_takeTug_20 1 rfl rfl ?_
    refine y_getD (c := c) (j := 5) (v := .ref (ad c 2 0)) F hR mw_86 rfl (by decide) rfl dX3_takeTug_21 ?_
    refine x_iload_n F dX3_takeTug_24 0 rfl rfl ?_
    refine x_aload_n F dX3_takeTug_25 1 rfl rfl ?_
    refine y_getD (c := c) (j := 9) (v := .int (cD c 9)) F hR mw_90 rfl (by decide) rfl dX3_takeTug_26 ?_
    refine x_iconst (v := 4) F rfl dX3_takeTug_29 ?_
    refine x_iadd F dX3_takeTug_30 ?_
    refine x_iload_n F dX3_takeTug_31 2 rfl rfl ?_
    refine x_bipush (v := 100) F rfl dX3_takeTug_32 ?_
    refine x_idiv F dX3_takeTug_34 (by decide) ?_
    refine x_iadd F dX3_takeTug_35 ?_
    refine y_istT (c := c) (i := 0) (v := ((cD c 9) + 4) + (x / 100)) F hR (by decide) dX3_takeTug_36 (fun H8 hR9 => ?_)
    exact x_vret F hE dX3_takeTug_37 (Nat.le_of_ble_eq_true rfl) (Nat.le_of_ble_eq_true rfl) (⟨rfl, by rw [show u_tug c x = sD c 13 (((cD c 9) + 4) + (x / 100)) from by unfold u_tug; simp [h2]; first | exact sD_self (sD c 13 _) 14 | (rw [sD_self]; done) | (rw [sD_self]; exact sD_self c 14)]; exact hR9⟩)
set_option maxHeartbeats 4000000 in
set_option maxRecDepth 100000 in
theorem c_X3_bringDown (l : Launch) (G : GT) (A : Nat → Prop) (c : CS) (i : Nat) (hi : i < nm c) (m : Int32) : Ct l yX3_bringDown cX3_bringDown 2 none ({ frames := 0, cells := 0, slots := 0, locals := 0 } : Room) G A [.ref (ad c 3 i), .int m] (fun H => Rep G A c H) (fun H r H1 => r = none ∧ Rep G A (u_dn c i m) H1) := by
  refine ct_of (own := "GliderDay") (by decide +kernel) rfl (Nat.le_of_ble_eq_true rfl) (fun E H0 F hE hR => ?_)
  show wx E H0 0 0 0 [(0, .ref (ad c 3 i)), (1, .int m)] []
  refine x_aload_n F dX3_bringDown_0 0 rfl rfl ?_
  refine x_iconst (v := 0) F rfl dX3_bringDown_1 ?_
  refine y_putM (c := c) (i := i) (j := 2) (v := 0) F hR hi nw_123 (pvM_2 _ _ _) (by decide) rfl rfl rfl rfl rfl dX3_bringDown_2 (fun H1 hR2 => ?_)
  refine x_aload_n F dX3_bringDown_5 0 rfl rfl ?_
  refine x_dup F dX3_bringDown_6 rfl ?_
  refine y_getM (c := sM c i 2 0) (i := i) (j := 3) (v := .int (cM c i 3)) F hR2 hi nw_267 rfl (by decide) rfl dX3_bringDown_7 ?_
  refine x_iconst (v := 1) F rfl dX3_bringDown_10 ?_
  refine x_iadd F dX3_bringDown_11 ?_
  refine y_putM (c := sM c i 2 0) (i := i) (j := 3) (v := (cM c i 3) + 1) F hR2 hi nw_267 (pvM_3 _ _ _) (by decide) rfl rfl rfl rfl rfl dX3_bringDown_12 (fun H3 hR4 => ?_)
  refine x_aload_n F dX3_bringDown_15 0 rfl rfl ?_
  refine x_dup F dX3_bringDown_16 rfl ?_
  refine y_getM (c := sM (sM c i 2 0) i 3 ((cM c i 3) + 1)) (i := i) (j := 4) (v := .int (cM c i 4)) F hR4 hi nw_270 rfl (by decide) rfl dX3_bringDown_17 ?_
  refine x_iload_n F dX3_bringDown_20 1 rfl rfl ?_
  refine x_iadd F dX3_bringDown_21 ?_
  refine y_putM (c := sM (sM c i 2 0) i 3 ((cM c i 3) + 1)) (i := i) (j := 4) (v := (cM c i 4) + m) F hR4 hi nw_270 (pvM_4 _ _ _) (by decide) rfl rfl rfl rfl rfl dX3_bringDown_22 (fun H5 hR6 => ?_)
  exact x_vret F hE dX3_bringDown_25 (Nat.le_of_ble_eq_true rfl) (Nat.le_of_ble_eq_true rfl) (⟨rfl, hR6⟩)
set_option maxHeartbeats 4000000 in
set_option maxRecDepth 100000 in
theorem c_X3_writeDown (l : Launch) (G : GT) (A : Nat → Prop) (c : CS) (i : Nat) (hi : i < nf c) (m : Int32) : Ct l yX3_writeDown cX3_writeDown 4 none ({ frames := 1, cells := 0, slots := 0, locals := 21 } : Room) G A [.ref (ad c 5 i), .int m] (fun H => Rep G A c H) (fun H r H1 => r = none ∧ Rep G A (u_wd c i m) H1) := by
  refine ct_of (own := "GliderDay") (by decide +kernel) rfl (Nat.le_of_ble_eq_true rfl) (fun E H0 F hE hR => ?_)
  show wx E H0 0 0 0 [(0, .ref (ad c 5 i)), (1, .int m)] []
  refine x_aload_n F dX3_writeDown_0 0 rfl rfl ?_
  refine y_getF (c := c) (i := i) (j := 1) (v := .ref (ad c 3 (cR c i).1)) F hR hi nw_279 rfl (by decide) rfl dX3_writeDown_1 ?_
  refine x_astore_n (lv' := [(2, .ref (ad c 3 (cR c i).1)), (0, .ref (ad c 5 i)), (1, .int m)]) F dX3_writeDown_4 rfl (by decide) rfl ?_
  refine x_aload_n F dX3_writeDown_5 1 rfl rfl ?_
  rcases hq1 : (cR c i).2.1 with _ | s2
  · refine y_getF (c := c) (i := i) (j := 2) (v := .null) F hR hi nw_284 (by show some (va_rf (Option.map _ ((cR c i).2.1))) = _; rw [hq1]; rfl) (by decide) rfl dX3_writeDown_6 ?_
    refine x_astore_nN (lv' := [(3, .null), (2, .ref (ad c 3 (cR c i).1)), (0, .ref (ad c 5 i)), (1, .int m)]) F dX3_writeDown_9 rfl (by decide) rfl ?_
    refine x_aload_n F dX3_writeDown_10 1 rfl rfl ?_
    refine x_dup F dX3_writeDown_11 rfl ?_
    refine y_getM (c := c) (i := (cR c i).1) (j := 7) (v := .int (cM c ((cR c i).1) 7)) F hR (hR.wf.2.1 _ hi).1 nw_226 rfl (by decide) rfl dX3_writeDown_12 ?_
    refine x_aload_n F dX3_writeDown_15 2 rfl rfl ?_
    refine y_getF (c := c) (i := i) (j := 10) (v := .int (cF c i 10)) F hR hi nw_232 rfl (by decide) rfl dX3_writeDown_16 ?_
    refine x_iadd F dX3_writeDown_19 ?_
    refine y_putM (c := c) (i := (cR c i).1) (j := 7) (v := (cM c ((cR c i).1) 7) + (cF c i 10)) F hR (hR.wf.2.1 _ hi).1 nw_226 (pvM_7 _ _ _) (by decide) rfl rfl rfl rfl rfl dX3_writeDown_20 (fun H3 hR4 => ?_)
    refine x_aload_n F dX3_writeDown_23 1 rfl rfl ?_
    refine x_iload_n F dX3_writeDown_24 3 rfl rfl ?_
    refine x_callSs (rest := []) F (c_X3_bringDown l G A (sM c ((cR c i).1) 7 ((cM c ((cR c i).1) 7) + (cF c i 10))) ((cR c i).1) ((hR.wf.2.1 _ hi).1) m) k_X3_365 ⟨⟨(Nat.le_of_ble_eq_true rfl), (Nat.le_of_ble_eq_true rfl)⟩, (Nat.le_of_ble_eq_true rfl), (Nat.le_of_ble_eq_true rfl)⟩ dX3_writeDown_25 rfl rfl (Nat.le_of_ble_eq_true rfl) hR4 ?_
    rintro _ H5 ⟨rfl, hR6⟩ - -
    refine x_aload_nN F dX3_writeDown_28 0 rfl rfl ?_
    refine x_ifnonnullN F dX3_writeDown_29 ?_
    refine x_aload_n F dX3_writeDown_32 1 rfl rfl ?_
    refine x_dup F dX3_writeDown_33 rfl ?_
    refine y_getM (c := u_dn (sM c ((cR c i).1) 7 ((cM c ((cR c i).1) 7) + (cF c i 10))) ((cR c i).1) m) (i := (cR c i).1) (j := 6) (v := .int (cM (u_dn (sM c ((cR c i).1) 7 ((cM c ((cR c i).1) 7) + (cF c i 10))) ((cR c i).1) m) ((cR c i).1) 6)) F hR6 (hR.wf.2.1 _ hi).1 nw_274 rfl (by decide) rfl dX3_writeDown_34 ?_
    refine x_iconst (v := 1) F rfl dX3_writeDown_37 ?_
    refine x_iadd F dX3_writeDown_38 ?_
    refine y_putM (c := u_dn (sM c ((cR c i).1) 7 ((cM c ((cR c i).1) 7) + (cF c i 10))) ((cR c i).1) m) (i := (cR c i).1) (j := 6) (v := (cM (u_dn (sM c ((cR c i).1) 7 ((cM c ((cR c i).1) 7) + (cF c i 10))) ((cR c i).1) m) ((cR c i).1) 6) + 1) F hR6 (hR.wf.2.1 _ hi).1 nw_274 (pvM_6 _ _ _) (by decide) rfl rfl rfl rfl rfl dX3_writeDown_39 (fun H7 hR8 => ?_)
    refine x_goto F dX3_writeDown_42 (tgt := 68) (by decide) ?_
    exact x_vret F hE dX3_writeDown_68 (Nat.le_of_ble_eq_true rfl) (Nat.le_of_ble_eq_true rfl) (⟨rfl, by unfold u_wd; rw [hq1]; exact hR8⟩)
  · refine y_getF (c := c) (i := i) (j := 2) (v := .ref (ad c 3 s2)) F hR hi nw_284 (by show some (va_rf (Option.map _ ((cR c i).2.1))) = _; rw [hq1]; rfl) (by decide) rfl dX3_writeDown_6 ?_
    refine x_astore_n (lv' := [(3, .ref (ad c 3 s2)), (2, .ref (ad c 3 (cR c i).1)), (0, .ref (ad c 5 i)), (1, .int m)]) F dX3_writeDown_9 rfl (by decide) rfl ?_
    refine x_aload_n F dX3_writeDown_10 1 rfl rfl ?_
    refine x_dup F dX3_writeDown_11 rfl ?_
    refine y_getM (c := c) (i := (cR c i).1) (j := 7) (v := .int (cM c ((cR c i).1) 7)) F hR (hR.wf.2.1 _ hi).1 nw_226 rfl (by decide) rfl dX3_writeDown_12 ?_
    refine x_aload_n F dX3_writeDown_15 2 rfl rfl ?_
    refine y_getF (c := c) (i := i) (j := 10) (v := .int (cF c i 10)) F hR hi nw_232 rfl (by decide) rfl dX3_writeDown_16 ?_
    refine x_iadd F dX3_writeDown_19 ?_
    refine y_putM (c := c) (i := (cR c i).1) (j := 7) (v := (cM c ((cR c i).1) 7) + (cF c i 10)) F hR (hR.wf.2.1 _ hi).1 nw_226 (pvM_7 _ _ _) (by decide) rfl rfl rfl rfl rfl dX3_writeDown_20 (fun H9 hR10 => ?_)
    refine x_aload_n F dX3_writeDown_23 1 rfl rfl ?_
    refine x_iload_n F dX3_writeDown_24 3 rfl rfl ?_
    refine x_callSs (rest := []) F (c_X3_bringDown l G A (sM c ((cR c i).1) 7 ((cM c ((cR c i).1) 7) + (cF c i 10))) ((cR c i).1) ((hR.wf.2.1 _ hi).1) m) k_X3_365 ⟨⟨(Nat.le_of_ble_eq_true rfl), (Nat.le_of_ble_eq_true rfl)⟩, (Nat.le_of_ble_eq_true rfl), (Nat.le_of_ble_eq_true rfl)⟩ dX3_writeDown_25 rfl rfl (Nat.le_of_ble_eq_true rfl) hR10 ?_
    rintro _ H11 ⟨rfl, hR12⟩ - -
    refine x_aload_n F dX3_writeDown_28 0 rfl rfl ?_
    refine x_ifnonnull F dX3_writeDown_29 (tgt := 45) (by decide) ?_
    refine x_aload_n F dX3_writeDown_45 0 rfl rfl ?_
    refine x_iload_n F dX3_writeDown_46 3 rfl rfl ?_
    refine x_callSs (rest := []) F (c_X3_bringDown l G A (u_dn (sM c ((cR c i).1) 7 ((cM c ((cR c i).1) 7) + (cF c i 10))) ((cR c i).1) m) s2 ((hR.wf.2.1 _ hi).2.2 _ hq1) m) k_X3_365 ⟨⟨(Nat.le_of_ble_eq_true rfl), (Nat.le_of_ble_eq_true rfl)⟩, (Nat.le_of_ble_eq_true rfl), (Nat.le_of_ble_eq_true rfl)⟩ dX3_writeDown_47 rfl rfl (Nat.le_of_ble_eq_true rfl) hR12 ?_
    rintro _ H13 ⟨rfl, hR14⟩ - -
    refine x_aload_n F dX3_writeDown_50 0 rfl rfl ?_
    refine y_getM (c := u_dn (u_dn (sM c ((cR c i).1) 7 ((cM c ((cR c i).1) 7) + (cF c i 10))) ((cR c i).1) m) s2 m) (i := s2) (j := 1) (v := .int (cM (u_dn (u_dn (sM c ((cR c i).1) 7 ((cM c ((cR c i).1) 7) + (cF c i 10))) ((cR c i).1) m) s2 m) s2 1)) F hR14 ((hR.wf.2.1 _ hi).2.2 _ hq1) nw_132 rfl (by decide) rfl dX3_writeDown_51 ?_
    refine x_iconst (v := 3) F rfl dX3_writeDown_54 ?_
    refine x_icmp_ne F dX3_writeDown_55 (tgt := 68) (by decide) (fun h15 => ?_) (fun h15 => ?_)
    · exact x_vret F hE dX3_writeDown_68 (Nat.le_of_ble_eq_true rfl) (Nat.le_of_ble_eq_true rfl) (⟨rfl, by unfold u_wd; rw [hq1]; show Rep G A (setM c (ite _ _ _)) _; rw [if_neg (show ¬ cM (u_dn (u_wd1 c i m) s2 m) s2 1 = 3 from h15)]; exact hR14⟩)
    · refine x_aload_n F dX3_writeDown_58 1 rfl rfl ?_
      refine x_dup F dX3_writeDown_59 rfl ?_
      refine y_getM (c := u_dn (u_dn (sM c ((cR c i).1) 7 ((cM c ((cR c i).1) 7) + (cF c i 10))) ((cR c i).1) m) s2 m) (i := (cR c i).1) (j := 5) (v := .int (cM (u_dn (u_dn (sM c ((cR c i).1) 7 ((cM c ((cR c i).1) 7) + (cF c i 10))) ((cR c i).1) m) s2 m) ((cR c i).1) 5)) F hR14 (hR.wf.2.1 _ hi).1 nw_271 rfl (by decide) rfl dX3_writeDown_60 ?_
      refine x_iconst (v := 1) F rfl dX3_writeDown_63 ?_
      refine x_iadd F dX3_writeDown_64 ?_
      refine y_putM (c := u_dn (u_dn (sM c ((cR c i).1) 7 ((cM c ((cR c i).1) 7) + (cF c i 10))) ((cR c i).1) m) s2 m) (i := (cR c i).1) (j := 5) (v := (cM (u_dn (u_dn (sM c ((cR c i).1) 7 ((cM c ((cR c i).1) 7) + (cF c i 10))) ((cR c i).1) m) s2 m) ((cR c i).1) 5) + 1) F hR14 (hR.wf.2.1 _ hi).1 nw_271 (pvM_5 _ _ _) (by decide) rfl rfl rfl rfl rfl dX3_writeDown_65 (fun H16 hR17 => ?_)
      exact x_vret F hE dX3_writeDown_68 (Nat.le_of_ble_eq_true rfl) (Nat.le_of_ble_eq_true rfl) (⟨rfl, by unfold u_wd; rw [hq1]; show Rep G A (setM c (ite _ _ _)) _; rw [if_pos (show cM (u_dn (u_wd1 c i m) s2 m) s2 1 = 3 from h15)]; exact hR17⟩)
set_option maxHeartbeats 4000000 in
set_option maxRecDepth 100000 in
theorem c_X3_land (l : Launch) (G : GT) (A : Nat → Prop) (c : CS) (g f : Nat) (hg : g < ng c) (hf : f < nf c) : Ct l yX3_land cX3_land 4 none ({ frames := 2, cells := 0, slots := 0, locals := 44 } : Room) G A [.ref (ad c 0 0), .ref (ad c 4 g), .ref (ad c 5 f)] (fun H => Rep G A c H) (fun H r H1 => r = none ∧ Rep G A (u_land c g f) H1) := by
  refine ct_of (own := "GliderDay") (by decide +kernel) rfl (Nat.le_of_ble_eq_true rfl) (fun E H0 F hE hR => ?_)
  show wx E H0 0 0 0 [(0, .ref (ad c 0 0)), (1, .ref (ad c 4 g)), (2, .ref (ad c 5 f))] []
  refine x_aload_n F dX3_land_0 0 rfl rfl ?_
  refine y_getD (c := c) (j := 9) (v := .int (cD c 9)) F hR mw_90 rfl (by decide) rfl dX3_land_1 ?_
  refine x_aload_n F dX3_land_4 2 rfl rfl ?_
  refine y_getF (c := c) (i := f) (j := 8) (v := .int (cF c f 8)) F hR hf nw_204 rfl (by decide) rfl dX3_land_5 ?_
  refine x_isub F dX3_land_8 ?_
  refine x_istore_n (lv' := [(3, .int ((cD c 9) - (cF c f 8))), (0, .ref (ad c 0 0)), (1, .ref (ad c 4 g)), (2, .ref (ad c 5 f))]) F dX3_land_9 rfl (by decide) rfl ?_
  refine x_aload_n F dX3_land_10 3 rfl rfl ?_
  refine x_iconst (v := 2) F rfl dX3_land_11 ?_
  refine y_putF (c := c) (i := f) (j := 6) (v := 2) F hR hf nw_185 (pvF_6 _ _ _) (by decide) rfl rfl rfl rfl rfl dX3_land_12 (fun H1 hR2 => ?_)
  refine x_aload_n F dX3_land_15 3 rfl rfl ?_
  refine x_aload_n F dX3_land_16 1 rfl rfl ?_
  refine y_getD (c := sF c f 6 2) (j := 9) (v := .int (cD c 9)) F hR2 mw_90 rfl (by decide) rfl dX3_land_17 ?_
  refine y_putF (c := sF c f 6 2) (i := f) (j := 9) (v := cD c 9) F hR2 hf nw_235 (pvF_9 _ _ _) (by decide) rfl rfl rfl rfl rfl dX3_land_20 (fun H3 hR4 => ?_)
  refine x_aload_n F dX3_land_23 3 rfl rfl ?_
  refine x_aload_n F dX3_land_24 3 rfl rfl ?_
  refine y_getF (c := sF (sF c f 6 2) f 9 (cD c 9)) (i := f) (j := 4) (v := .int (cF c f 4)) F hR4 hf nw_161 rfl (by decide) rfl dX3_land_25 ?_
  refine x_callSp (rest := [.ref (ad c 5 f)]) F (c_X3_launchPrice l G A (cF c f 4)) k_X3_349 ⟨(Nat.le_of_ble_eq_true rfl), (Nat.le_of_ble_eq_true rfl), rfl, rfl⟩ (Nat.le_of_ble_eq_true rfl) (Nat.le_of_ble_eq_true rfl) dX3_land_28 rfl rfl (Nat.le_of_ble_eq_true rfl) trivial ?_
  refine x_aload_n F dX3_land_31 2 rfl rfl ?_
  refine y_getG (c := sF (sF c f 6 2) f 9 (cD c 9)) (i := g) (j := 2) (v := .int (cG c g 2)) F hR4 hg nw_352 rfl (by decide) rfl dX3_land_32 ?_
  refine x_iload_n F dX3_land_35 0 rfl rfl ?_
  refine x_sipush (v := 180) F rfl dX3_land_36 ?_
  refine x_mmin F mw_450 mw_390 mw_39 mw_391 (Nat.le_of_ble_eq_true rfl) (Nat.le_of_ble_eq_true rfl) (Nat.le_of_ble_eq_true rfl) (Nat.le_of_ble_eq_true rfl) dX3_land_39 ?_
  refine x_imul F dX3_land_42 ?_
  refine x_iadd F dX3_land_43 ?_
  refine y_putF (c := sF (sF c f 6 2) f 9 (cD c 9)) (i := f) (j := 10) (v := (s_price (cF c f 4)) + ((cG c g 2) * (if 180 < (cD c 9) - (cF c f 8) then 180 else (cD c 9) - (cF c f 8)))) F hR4 hf nw_232 (pvF_10 _ _ _) (by decide) rfl rfl rfl rfl rfl dX3_land_44 (fun H5 hR6 => ?_)
  refine x_aload_n F dX3_land_47 2 rfl rfl ?_
  refine x_iconst (v := 0) F rfl dX3_land_48 ?_
  refine y_putG (c := sF (sF (sF c f 6 2) f 9 (cD c 9)) f 10 ((s_price (cF c f 4)) + ((cG c g 2) * (if 180 < (cD c 9) - (cF c f 8) then 180 else (cD c 9) - (cF c f 8))))) (i := g) (j := 4) (v := 0) F hR6 hg nw_110 (pvG_4 _ _ _) (by decide) rfl rfl rfl rfl rfl dX3_land_49 (fun H7 hR8 => ?_)
  refine x_aload_n F dX3_land_52 2 rfl rfl ?_
  refine x_null F dX3_land_53 ?_
  refine y_putGF (c := sG (sF (sF (sF c f 6 2) f 9 (cD c 9)) f 10 ((s_price (cF c f 4)) + ((cG c g 2) * (if 180 < (cD c 9) - (cF c f 8) then 180 else (cD c 9) - (cF c f 8))))) g 4 0) (i := g) (o := none) F hR8 hg rfl (fun _ h => by cases h) nw_195 dX3_land_54 (fun H9 hR10 => ?_)
  refine x_aload_n F dX3_land_57 2 rfl rfl ?_
  refine x_iconst (v := 0) F rfl dX3_land_58 ?_
  refine y_putG (c := sgF (sG (sF (sF (sF c f 6 2) f 9 (cD c 9)) f 10 ((s_price (cF c f 4)) + ((cG c g 2) * (if 180 < (cD c 9) - (cF c f 8) then 180 else (cD c 9) - (cF c f 8))))) g 4 0) g none) (i := g) (j := 6) (v := 0) F hR10 hg nw_201 (pvG_6 _ _ _) (by decide) rfl rfl rfl rfl rfl dX3_land_59 (fun H11 hR12 => ?_)
  refine x_aload_n F dX3_land_62 2 rfl rfl ?_
  refine x_dup F dX3_land_63 rfl ?_
  refine y_getG (c := sG (sgF (sG (sF (sF (sF c f 6 2) f 9 (cD c 9)) f 10 ((s_price (cF c f 4)) + ((cG c g 2) * (if 180 < (cD c 9) - (cF c f 8) then 180 else (cD c 9) - (cF c f 8))))) g 4 0) g none) g 6 0) (i := g) (j := 7) (v := .int (cG c g 7)) F hR12 hg nw_277 rfl (by decide) rfl dX3_land_64 ?_
  refine x_iconst (v := 1) F rfl dX3_land_67 ?_
  refine x_iadd F dX3_land_68 ?_
  refine y_putG (c := sG (sgF (sG (sF (sF (sF c f 6 2) f 9 (cD c 9)) f 10 ((s_price (cF c f 4)) + ((cG c g 2) * (if 180 < (cD c 9) - (cF c f 8) then 180 else (cD c 9) - (cF c f 8))))) g 4 0) g none) g 6 0) (i := g) (j := 7) (v := (cG c g 7) + 1) F hR12 hg nw_277 (pvG_7 _ _ _) (by decide) rfl rfl rfl rfl rfl dX3_land_69 (fun H13 hR14 => ?_)
  refine x_aload_n F dX3_land_72 2 rfl rfl ?_
  refine x_dup F dX3_land_73 rfl ?_
  refine y_getG (c := sG (sG (sgF (sG (sF (sF (sF c f 6 2) f 9 (cD c 9)) f 10 ((s_price (cF c f 4)) + ((cG c g 2) * (if 180 < (cD c 9) - (cF c f 8) then 180 else (cD c 9) - (cF c f 8))))) g 4 0) g none) g 6 0) g 7 ((cG c g 7) + 1)) (i := g) (j := 8) (v := .int (cG c g 8)) F hR14 hg nw_278 rfl (by decide) rfl dX3_land_74 ?_
  refine x_iload_n F dX3_land_77 0 rfl rfl ?_
  refine x_iadd F dX3_land_78 ?_
  refine y_putG (c := sG (sG (sgF (sG (sF (sF (sF c f 6 2) f 9 (cD c 9)) f 10 ((s_price (cF c f 4)) + ((cG c g 2) * (if 180 < (cD c 9) - (cF c f 8) then 180 else (cD c 9) - (cF c f 8))))) g 4 0) g none) g 6 0) g 7 ((cG c g 7) + 1)) (i := g) (j := 8) (v := (cG c g 8) + ((cD c 9) - (cF c f 8))) F hR14 hg nw_278 (pvG_8 _ _ _) (by decide) rfl rfl rfl rfl rfl dX3_land_79 (fun H15 hR16 => ?_)
  refine x_aload_n F dX3_land_82 3 rfl rfl ?_
  refine x_iload_n F dX3_land_83 0 rfl rfl ?_
  refine x_callSs (rest := []) F (c_X3_writeDown l G A (sG (sG (sG (sgF (sG (sF (sF (sF c f 6 2) f 9 (cD c 9)) f 10 ((s_price (cF c f 4)) + ((cG c g 2) * (if 180 < (cD c 9) - (cF c f 8) then 180 else (cD c 9) - (cF c f 8))))) g 4 0) g none) g 6 0) g 7 ((cG c g 7) + 1)) g 8 ((cG c g 8) + ((cD c 9) - (cF c f 8)))) f hf ((cD c 9) - (cF c f 8))) k_X3_361 ⟨⟨(Nat.le_of_ble_eq_true rfl), (Nat.le_of_ble_eq_true rfl)⟩, (Nat.le_of_ble_eq_true rfl), (Nat.le_of_ble_eq_true rfl)⟩ dX3_land_84 rfl rfl (Nat.le_of_ble_eq_true rfl) hR16 ?_
  rintro _ H17 ⟨rfl, hR18⟩ - -
  refine x_aload_n F dX3_land_87 1 rfl rfl ?_
  refine x_aload_n F dX3_land_88 1 rfl rfl ?_
  refine y_getD (c := u_wd (sG (sG (sG (sgF (sG (sF (sF (sF c f 6 2) f 9 (cD c 9)) f 10 ((s_price (cF c f 4)) + ((cG c g 2) * (if 180 < (cD c 9) - (cF c f 8) then 180 else (cD c 9) - (cF c f 8))))) g 4 0) g none) g 6 0) g 7 ((cG c g 7) + 1)) g 8 ((cG c g 8) + ((cD c 9) - (cF c f 8)))) f ((cD c 9) - (cF c f 8))) (j := 9) (v := .int (cD (u_wd (sG (sG (sG (sgF (sG (sF (sF (sF c f 6 2) f 9 (cD c 9)) f 10 ((s_price (cF c f 4)) + ((cG c g 2) * (if 180 < (cD c 9) - (cF c f 8) then 180 else (cD c 9) - (cF c f 8))))) g 4 0) g none) g 6 0) g 7 ((cG c g 7) + 1)) g 8 ((cG c g 8) + ((cD c 9) - (cF c f 8)))) f ((cD c 9) - (cF c f 8))) 9)) F hR18 mw_90 rfl (by decide) rfl dX3_land_89 ?_
  refine x_iconst (v := 2) F rfl dX3_land_92 ?_
  refine x_iadd F dX3_land_93 ?_
  refine y_putD (c := u_wd (sG (sG (sG (sgF (sG (sF (sF (sF c f 6 2) f 9 (cD c 9)) f 10 ((s_price (cF c f 4)) + ((cG c g 2) * (if 180 < (cD c 9) - (cF c f 8) then 180 else (cD c 9) - (cF c f 8))))) g 4 0) g none) g 6 0) g 7 ((cG c g 7) + 1)) g 8 ((cG c g 8) + ((cD c 9) - (cF c f 8)))) f ((cD c 9) - (cF c f 8))) (j := 12) (v := (cD (u_wd (sG (sG (sG (sgF (sG (sF (sF (sF c f 6 2) f 9 (cD c 9)) f 10 ((s_price (cF c f 4)) + ((cG c g 2) * (if 180 < (cD c 9) - (cF c f 8) then 180 else (cD c 9) - (cF c f 8))))) g 4 0) g none) g 6 0) g 7 ((cG c g 7) + 1)) g 8 ((cG c g 8) + ((cD c 9) - (cF c f 8)))) f ((cD c 9) - (cF c f 8))) 9) + 2) F hR18 mw_93 rfl (by decide) rfl rfl rfl dX3_land_94 (fun H19 hR20 => ?_)
  exact x_vret F hE dX3_land_97 (Nat.le_of_ble_eq_true rfl) (Nat.le_of_ble_eq_true rfl) (⟨rfl, hR20⟩)
set_option maxHeartbeats 4000000 in
set_option maxRecDepth 100000 in
theorem c_X3_start (l : Launch) (G : GT) (A : Nat → Prop) (c : CS) (f : Nat) (hf : f < nf c) : Ct l yX3_start cX3_start 2 none ({ frames := 1, cells := 0, slots := 0, locals := 22 } : Room) G A [.ref (ad c 0 0), .ref (ad c 5 f)] (fun H => Rep G A c H) (fun H r H1 => r = none ∧ Rep G A (u_start c f) H1) := by
  refine ct_of (own := "GliderDay") (by decide +kernel) rfl (Nat.le_of_ble_eq_true rfl) (fun E H0 F hE hR => ?_)
  show wx E H0 0 0 0 [(0, .ref (ad c 0 0)), (1, .ref (ad c 5 f))] []
  refine x_aload_n F dX3_start_0 1 rfl rfl ?_
  refine x_iconst (v := 1) F rfl dX3_start_1 ?_
  refine y_putF (c := c) (i := f) (j := 6) (v := 1) F hR hf nw_185 (pvF_6 _ _ _) (by decide) rfl rfl rfl rfl rfl dX3_start_2 (fun H1 hR2 => ?_)
  refine x_aload_n F dX3_start_5 1 rfl rfl ?_
  refine x_aload_n F dX3_start_6 0 rfl rfl ?_
  refine y_getD (c := sF c f 6 1) (j := 9) (v := .int (cD c 9)) F hR2 mw_90 rfl (by decide) rfl dX3_start_7 ?_
  refine y_putF (c := sF c f 6 1) (i := f) (j := 8) (v := cD c 9) F hR2 hf nw_204 (pvF_8 _ _ _) (by decide) rfl rfl rfl rfl rfl dX3_start_10 (fun H3 hR4 => ?_)
  refine x_aload_n F dX3_start_13 1 rfl rfl ?_
  refine y_getF (c := sF (sF c f 6 1) f 8 (cD c 9)) (i := f) (j := 1) (v := .ref (ad c 3 (cR c f).1)) F hR4 hf nw_279 rfl (by decide) rfl dX3_start_14 ?_
  refine x_iconst (v := 1) F rfl dX3_start_17 ?_
  refine y_putM (c := sF (sF c f 6 1) f 8 (cD c 9)) (i := (cR c f).1) (j := 2) (v := 1) F hR4 (hR4.wf.2.1 _ hf).1 nw_123 (pvM_2 _ _ _) (by decide) rfl rfl rfl rfl rfl dX3_start_18 (fun H5 hR6 => ?_)
  refine x_aload_n F dX3_start_21 1 rfl rfl ?_
  rcases hq7 : (cR c f).2.1 with _ | s8
  · refine y_getF (c := sM (sF (sF c f 6 1) f 8 (cD c 9)) ((cR c f).1) 2 1) (i := f) (j := 2) (v := .null) F hR6 hf nw_284 (by show some (va_rf (Option.map _ ((cR c f).2.1))) = _; rw [hq7]; rfl) (by decide) rfl dX3_start_22 ?_
    refine x_ifnullN F dX3_start_25 (tgt := 36) (by decide) ?_
    refine x_aload_n F dX3_start_36 1 rfl rfl ?_
    refine y_getF (c := sM (sF (sF c f 6 1) f 8 (cD c 9)) ((cR c f).1) 2 1) (i := f) (j := 3) (v := .ref (ad c 4 (cR c f).2.2)) F hR6 hf nw_287 rfl (by decide) rfl dX3_start_37 ?_
    refine x_iconst (v := 1) F rfl dX3_start_40 ?_
    refine y_putG (c := sM (sF (sF c f 6 1) f 8 (cD c 9)) ((cR c f).1) 2 1) (i := (cR c f).2.2) (j := 4) (v := 1) F hR6 (hR6.wf.2.1 _ hf).2.1 nw_110 (pvG_4 _ _ _) (by decide) rfl rfl rfl rfl rfl dX3_start_41 (fun H9 hR10 => ?_)
    refine x_aload_n F dX3_start_44 1 rfl rfl ?_
    refine y_getF (c := sG (sM (sF (sF c f 6 1) f 8 (cD c 9)) ((cR c f).1) 2 1) ((cR c f).2.2) 4 1) (i := f) (j := 3) (v := .ref (ad c 4 (cR c f).2.2)) F hR10 hf nw_287 rfl (by decide) rfl dX3_start_45 ?_
    refine x_aload_n F dX3_start_48 1 rfl rfl ?_
    refine y_putGF (c := sG (sM (sF (sF c f 6 1) f 8 (cD c 9)) ((cR c f).1) 2 1) ((cR c f).2.2) 4 1) (i := (cR c f).2.2) (o := some f) F hR10 (hR10.wf.2.1 _ hf).2.1 rfl (fun _ h => by cases h; exact hf) nw_195 dX3_start_49 (fun H11 hR12 => ?_)
    refine x_aload_n F dX3_start_52 1 rfl rfl ?_
    refine y_getF (c := sgF (sG (sM (sF (sF c f 6 1) f 8 (cD c 9)) ((cR c f).1) 2 1) ((cR c f).2.2) 4 1) ((cR c f).2.2) (some f)) (i := f) (j := 4) (v := .int (cF c f 4)) F hR12 hf nw_161 rfl (by decide) rfl dX3_start_53 ?_
    refine x_if_ne F dX3_start_56 (tgt := 76) (by decide) (fun h13 => ?_) (fun h13 => ?_)
    · refine x_aload_n F dX3_start_76 0 rfl rfl ?_
      refine x_aload_n F dX3_start_77 1 rfl rfl ?_
      refine y_getF (c := sgF (sG (sM (sF (sF c f 6 1) f 8 (cD c 9)) ((cR c f).1) 2 1) ((cR c f).2.2) 4 1) ((cR c f).2.2) (some f)) (i := f) (j := 4) (v := .int (cF c f 4)) F hR12 hf nw_161 rfl (by decide) rfl dX3_start_78 ?_
      refine x_callVs (rest := []) F hR12.day rfl (c_X3_takeTug l G A (sgF (sG (sM (sF (sF c f 6 1) f 8 (cD c 9)) ((cR c f).1) 2 1) ((cR c f).2.2) 4 1) ((cR c f).2.2) (some f)) (cF c f 4)) k_X3_376 ⟨⟨(Nat.le_of_ble_eq_true rfl), (Nat.le_of_ble_eq_true rfl)⟩, (Nat.le_of_ble_eq_true rfl), (Nat.le_of_ble_eq_true rfl)⟩ dX3_start_81 rfl rfl (Nat.le_of_ble_eq_true rfl) hR12 ?_
      rintro _ H14 ⟨rfl, hR15⟩ - -
      refine x_aload_n F dX3_start_84 0 rfl rfl ?_
      refine x_aload_n F dX3_start_85 0 rfl rfl ?_
      refine y_getD (c := u_tug (sgF (sG (sM (sF (sF c f 6 1) f 8 (cD c 9)) ((cR c f).1) 2 1) ((cR c f).2.2) 4 1) ((cR c f).2.2) (some f)) (cF c f 4)) (j := 9) (v := .int (cD (u_tug (sgF (sG (sM (sF (sF c f 6 1) f 8 (cD c 9)) ((cR c f).1) 2 1) ((cR c f).2.2) 4 1) ((cR c f).2.2) (some f)) (cF c f 4)) 9)) F hR15 mw_90 rfl (by decide) rfl dX3_start_86 ?_
      refine x_iconst (v := 3) F rfl dX3_start_89 ?_
      refine x_iadd F dX3_start_90 ?_
      refine y_putD (c := u_tug (sgF (sG (sM (sF (sF c f 6 1) f 8 (cD c 9)) ((cR c f).1) 2 1) ((cR c f).2.2) 4 1) ((cR c f).2.2) (some f)) (cF c f 4)) (j := 12) (v := (cD (u_tug (sgF (sG (sM (sF (sF c f 6 1) f 8 (cD c 9)) ((cR c f).1) 2 1) ((cR c f).2.2) 4 1) ((cR c f).2.2) (some f)) (cF c f 4)) 9) + 3) F hR15 mw_93 rfl (by decide) rfl rfl rfl dX3_start_91 (fun H16 hR17 => ?_)
      exact x_vret F hE dX3_start_94 (Nat.le_of_ble_eq_true rfl) (Nat.le_of_ble_eq_true rfl) (⟨rfl, by unfold u_start; rw [if_neg (show ¬ cF c f 4 = 0 from h13), show u_st3 c f = sgF (sG (sM (sF (sF c f 6 1) f 8 (cD c 9)) ((cR c f).1) 2 1) ((cR c f).2.2) 4 1) ((cR c f).2.2) (some f) from by unfold u_st3 u_st2; rw [hq7]; rfl]; exact hR17⟩)
    · refine x_aload_n F dX3_start_59 0 rfl rfl ?_
      refine x_callVs (rest := []) F hR12.day rfl (c_X3_takeCable l G A (sgF (sG (sM (sF (sF c f 6 1) f 8 (cD c 9)) ((cR c f).1) 2 1) ((cR c f).2.2) 4 1) ((cR c f).2.2) (some f)) ) k_X3_373 ⟨⟨(Nat.le_of_ble_eq_true rfl), (Nat.le_of_ble_eq_true rfl)⟩, (Nat.le_of_ble_eq_true rfl), (Nat.le_of_ble_eq_true rfl)⟩ dX3_start_60 rfl rfl (Nat.le_of_ble_eq_true rfl) hR12 ?_
      rintro _ H18 ⟨rfl, hR19⟩ - -
      refine x_aload_n F dX3_start_63 0 rfl rfl ?_
      refine x_aload_n F dX3_start_64 0 rfl rfl ?_
      refine y_getD (c := u_cbl (sgF (sG (sM (sF (sF c f 6 1) f 8 (cD c 9)) ((cR c f).1) 2 1) ((cR c f).2.2) 4 1) ((cR c f).2.2) (some f))) (j := 9) (v := .int (cD (u_cbl (sgF (sG (sM (sF (sF c f 6 1) f 8 (cD c 9)) ((cR c f).1) 2 1) ((cR c f).2.2) 4 1) ((cR c f).2.2) (some f))) 9)) F hR19 mw_90 rfl (by decide) rfl dX3_start_65 ?_
      refine x_iconst (v := 2) F rfl dX3_start_68 ?_
      refine x_iadd F dX3_start_69 ?_
      refine y_putD (c := u_cbl (sgF (sG (sM (sF (sF c f 6 1) f 8 (cD c 9)) ((cR c f).1) 2 1) ((cR c f).2.2) 4 1) ((cR c f).2.2) (some f))) (j := 12) (v := (cD (u_cbl (sgF (sG (sM (sF (sF c f 6 1) f 8 (cD c 9)) ((cR c f).1) 2 1) ((cR c f).2.2) 4 1) ((cR c f).2.2) (some f))) 9) + 2) F hR19 mw_93 rfl (by decide) rfl rfl rfl dX3_start_70 (fun H20 hR21 => ?_)
      refine x_goto F dX3_start_73 (tgt := 94) (by decide) ?_
      exact x_vret F hE dX3_start_94 (Nat.le_of_ble_eq_true rfl) (Nat.le_of_ble_eq_true rfl) (⟨rfl, by unfold u_start; rw [if_pos (show cF c f 4 = 0 from h13), show u_st3 c f = sgF (sG (sM (sF (sF c f 6 1) f 8 (cD c 9)) ((cR c f).1) 2 1) ((cR c f).2.2) 4 1) ((cR c f).2.2) (some f) from by unfold u_st3 u_st2; rw [hq7]; rfl]; exact hR21⟩)
  · refine y_getF (c := sM (sF (sF c f 6 1) f 8 (cD c 9)) ((cR c f).1) 2 1) (i := f) (j := 2) (v := .ref (ad c 3 s8)) F hR6 hf nw_284 (by show some (va_rf (Option.map _ ((cR c f).2.1))) = _; rw [hq7]; rfl) (by decide) rfl dX3_start_22 ?_
    refine x_ifnull F dX3_start_25 ?_
    refine x_aload_n F dX3_start_28 1 rfl rfl ?_
    refine y_getF (c := sM (sF (sF c f 6 1) f 8 (cD c 9)) ((cR c f).1) 2 1) (i := f) (j := 2) (v := .ref (ad c 3 s8)) F hR6 hf nw_284 (by show some (va_rf (Option.map _ ((cR c f).2.1))) = _; rw [hq7]; rfl) (by decide) rfl dX3_start_29 ?_
    refine x_iconst (v := 1) F rfl dX3_start_32 ?_
    refine y_putM (c := sM (sF (sF c f 6 1) f 8 (cD c 9)) ((cR c f).1) 2 1) (i := s8) (j := 2) (v := 1) F hR6 ((hR6.wf.2.1 _ hf).2.2 _ hq7) nw_123 (pvM_2 _ _ _) (by decide) rfl rfl rfl rfl rfl dX3_start_33 (fun H22 hR23 => ?_)
    refine x_aload_n F dX3_start_36 1 rfl rfl ?_
    refine y_getF (c := sM (sM (sF (sF c f 6 1) f 8 (cD c 9)) ((cR c f).1) 2 1) s8 2 1) (i := f) (j := 3) (v := .ref (ad c 4 (cR c f).2.2)) F hR23 hf nw_287 rfl (by decide) rfl dX3_start_37 ?_
    refine x_iconst (v := 1) F rfl dX3_start_40 ?_
    refine y_putG (c := sM (sM (sF (sF c f 6 1) f 8 (cD c 9)) ((cR c f).1) 2 1) s8 2 1) (i := (cR c f).2.2) (j := 4) (v := 1) F hR23 (hR23.wf.2.1 _ hf).2.1 nw_110 (pvG_4 _ _ _) (by decide) rfl rfl rfl rfl rfl dX3_start_41 (fun H24 hR25 => ?_)
    refine x_aload_n F dX3_start_44 1 rfl rfl ?_
    refine y_getF (c := sG (sM (sM (sF (sF c f 6 1) f 8 (cD c 9)) ((cR c f).1) 2 1) s8 2 1) ((cR c f).2.2) 4 1) (i := f) (j := 3) (v := .ref (ad c 4 (cR c f).2.2)) F hR25 hf nw_287 rfl (by decide) rfl dX3_start_45 ?_
    refine x_aload_n F dX3_start_48 1 rfl rfl ?_
    refine y_putGF (c := sG (sM (sM (sF (sF c f 6 1) f 8 (cD c 9)) ((cR c f).1) 2 1) s8 2 1) ((cR c f).2.2) 4 1) (i := (cR c f).2.2) (o := some f) F hR25 (hR25.wf.2.1 _ hf).2.1 rfl (fun _ h => by cases h; exact hf) nw_195 dX3_start_49 (fun H26 hR27 => ?_)
    refine x_aload_n F dX3_start_52 1 rfl rfl ?_
    refine y_getF (c := sgF (sG (sM (sM (sF (sF c f 6 1) f 8 (cD c 9)) ((cR c f).1) 2 1) s8 2 1) ((cR c f).2.2) 4 1) ((cR c f).2.2) (some f)) (i := f) (j := 4) (v := .int (cF c f 4)) F hR27 hf nw_161 rfl (by decide) rfl dX3_start_53 ?_
    refine x_if_ne F dX3_start_56 (tgt := 76) (by decide) (fun h28 => ?_) (fun h28 => ?_)
    · refine x_aload_n F dX3_start_76 0 rfl rfl ?_
      refine x_aload_n F dX3_start_77 1 rfl rfl ?_
      refine y_getF (c := sgF (sG (sM (sM (sF (sF c f 6 1) f 8 (cD c 9)) ((cR c f).1) 2 1) s8 2 1) ((cR c f).2.2) 4 1) ((cR c f).2.2) (some f)) (i := f) (j := 4) (v := .int (cF c f 4)) F hR27 hf nw_161 rfl (by decide) rfl dX3_start_78 ?_
      refine x_callVs (rest := []) F hR27.day rfl (c_X3_takeTug l G A (sgF (sG (sM (sM (sF (sF c f 6 1) f 8 (cD c 9)) ((cR c f).1) 2 1) s8 2 1) ((cR c f).2.2) 4 1) ((cR c f).2.2) (some f)) (cF c f 4)) k_X3_376 ⟨⟨(Nat.le_of_ble_eq_true rfl), (Nat.le_of_ble_eq_true rfl)⟩, (Nat.le_of_ble_eq_true rfl), (Nat.le_of_ble_eq_true rfl)⟩ dX3_start_81 rfl rfl (Nat.le_of_ble_eq_true rfl) hR27 ?_
      rintro _ H29 ⟨rfl, hR30⟩ - -
      refine x_aload_n F dX3_start_84 0 rfl rfl ?_
      refine x_aload_n F dX3_start_85 0 rfl rfl ?_
      refine y_getD (c := u_tug (sgF (sG (sM (sM (sF (sF c f 6 1) f 8 (cD c 9)) ((cR c f).1) 2 1) s8 2 1) ((cR c f).2.2) 4 1) ((cR c f).2.2) (some f)) (cF c f 4)) (j := 9) (v := .int (cD (u_tug (sgF (sG (sM (sM (sF (sF c f 6 1) f 8 (cD c 9)) ((cR c f).1) 2 1) s8 2 1) ((cR c f).2.2) 4 1) ((cR c f).2.2) (some f)) (cF c f 4)) 9)) F hR30 mw_90 rfl (by decide) rfl dX3_start_86 ?_
      refine x_iconst (v := 3) F rfl dX3_start_89 ?_
      refine x_iadd F dX3_start_90 ?_
      refine y_putD (c := u_tug (sgF (sG (sM (sM (sF (sF c f 6 1) f 8 (cD c 9)) ((cR c f).1) 2 1) s8 2 1) ((cR c f).2.2) 4 1) ((cR c f).2.2) (some f)) (cF c f 4)) (j := 12) (v := (cD (u_tug (sgF (sG (sM (sM (sF (sF c f 6 1) f 8 (cD c 9)) ((cR c f).1) 2 1) s8 2 1) ((cR c f).2.2) 4 1) ((cR c f).2.2) (some f)) (cF c f 4)) 9) + 3) F hR30 mw_93 rfl (by decide) rfl rfl rfl dX3_start_91 (fun H31 hR32 => ?_)
      exact x_vret F hE dX3_start_94 (Nat.le_of_ble_eq_true rfl) (Nat.le_of_ble_eq_true rfl) (⟨rfl, by unfold u_start; rw [if_neg (show ¬ cF c f 4 = 0 from h28), show u_st3 c f = sgF (sG (sM (sM (sF (sF c f 6 1) f 8 (cD c 9)) ((cR c f).1) 2 1) s8 2 1) ((cR c f).2.2) 4 1) ((cR c f).2.2) (some f) from by unfold u_st3 u_st2; rw [hq7]; rfl]; exact hR32⟩)
    · refine x_aload_n F dX3_start_59 0 rfl rfl ?_
      refine x_callVs (rest := []) F hR27.day rfl (c_X3_takeCable l G A (sgF (sG (sM (sM (sF (sF c f 6 1) f 8 (cD c 9)) ((cR c f).1) 2 1) s8 2 1) ((cR c f).2.2) 4 1) ((cR c f).2.2) (some f)) ) k_X3_373 ⟨⟨(Nat.le_of_ble_eq_true rfl), (Nat.le_of_ble_eq_true rfl)⟩, (Nat.le_of_ble_eq_true rfl), (Nat.le_of_ble_eq_true rfl)⟩ dX3_start_60 rfl rfl (Nat.le_of_ble_eq_true rfl) hR27 ?_
      rintro _ H33 ⟨rfl, hR34⟩ - -
      refine x_aload_n F dX3_start_63 0 rfl rfl ?_
      refine x_aload_n F dX3_start_64 0 rfl rfl ?_
      refine y_getD (c := u_cbl (sgF (sG (sM (sM (sF (sF c f 6 1) f 8 (cD c 9)) ((cR c f).1) 2 1) s8 2 1) ((cR c f).2.2) 4 1) ((cR c f).2.2) (some f))) (j := 9) (v := .int (cD (u_cbl (sgF (sG (sM (sM (sF (sF c f 6 1) f 8 (cD c 9)) ((cR c f).1) 2 1) s8 2 1) ((cR c f).2.2) 4 1) ((cR c f).2.2) (some f))) 9)) F hR34 mw_90 rfl (by decide) rfl dX3_start_65 ?_
      refine x_iconst (v := 2) F rfl dX3_start_68 ?_
      refine x_iadd F dX3_start_69 ?_
      refine y_putD (c := u_cbl (sgF (sG (sM (sM (sF (sF c f 6 1) f 8 (cD c 9)) ((cR c f).1) 2 1) s8 2 1) ((cR c f).2.2) 4 1) ((cR c f).2.2) (some f))) (j := 12) (v := (cD (u_cbl (sgF (sG (sM (sM (sF (sF c f 6 1) f 8 (cD c 9)) ((cR c f).1) 2 1) s8 2 1) ((cR c f).2.2) 4 1) ((cR c f).2.2) (some f))) 9) + 2) F hR34 mw_93 rfl (by decide) rfl rfl rfl dX3_start_70 (fun H35 hR36 => ?_)
      refine x_goto F dX3_start_73 (tgt := 94) (by decide) ?_
      exact x_vret F hE dX3_start_94 (Nat.le_of_ble_eq_true rfl) (Nat.le_of_ble_eq_true rfl) (⟨rfl, by unfold u_start; rw [if_pos (show cF c f 4 = 0 from h28), show u_st3 c f = sgF (sG (sM (sM (sF (sF c f 6 1) f 8 (cD c 9)) ((cR c f).1) 2 1) s8 2 1) ((cR c f).2.2) 4 1) ((cR c f).2.2) (some f) from by unfold u_st3 u_st2; rw [hq7]; rfl]; exact hR36⟩)
set_option maxHeartbeats 4000000 in
set_option maxRecDepth 100000 in
theorem c_X3_takeOffList (l : Launch) (G : GT) (A : Nat → Prop) (c : CS) (x : Int32) : Ct l yX3_takeOffList cX3_takeOffList 2 none ({ frames := 3, cells := 0, slots := 0, locals := 86 } : Room) G A [.ref (ad c 0 0), .int x] (fun H => Rep G A c H) (fun H r H1 => r = none ∧ Rep G A (u_off c x) H1) := by
  refine ct_of (own := "GliderDay") (by decide +kernel) rfl (Nat.le_of_ble_eq_true rfl) (fun E H0 F hE hR => ?_)
  show wx E H0 0 0 0 [(0, .ref (ad c 0 0)), (1, .int x)] []
  refine x_iload_n F dX3_takeOffList_0 1 rfl rfl ?_
  refine x_if_lt F dX3_takeOffList_1 (tgt := 24) (by decide) (fun h1 => ?_) (fun h1 => ?_)
  · have h1' := Int32.not_le.mpr h1
    exact x_vret F hE dX3_takeOffList_24 (Nat.le_of_ble_eq_true rfl) (Nat.le_of_ble_eq_true rfl) (⟨rfl, by rw [show u_off c x = c from by unfold u_off; rw [if_neg (by simp [h1, h1'])]; rfl]; exact hR⟩)
  · have h1' := Int32.not_lt.mp h1
    refine x_iload_n F dX3_takeOffList_4 1 rfl rfl ?_
    refine x_aload_n F dX3_takeOffList_5 0 rfl rfl ?_
    refine y_getD (c := c) (j := 3) (v := .ref (ad c 1 3)) F hR mw_84 rfl (by decide) rfl dX3_takeOffList_6 ?_
    refine y_lsize (c := c) (k5 := 3) F hR (by decide) k_X3_65 ⟨(Nat.le_of_ble_eq_true rfl), (Nat.le_of_ble_eq_true rfl)⟩ (Nat.le_of_ble_eq_true rfl) (Nat.le_of_ble_eq_true rfl) dX3_takeOffList_9 (Nat.le_of_ble_eq_true rfl) ?_
    refine wx_i (y := nI (lst c).length) (congrArg nI (els_3 _)) ?_
    refine x_icmp_ge F dX3_takeOffList_12 (tgt := 24) (by decide) (fun h2 => ?_) (fun h2 => ?_)
    · have h2' := Int32.not_lt.mpr h2
      exact x_vret F hE dX3_takeOffList_24 (Nat.le_of_ble_eq_true rfl) (Nat.le_of_ble_eq_true rfl) (⟨rfl, by rw [show u_off c x = c from by unfold u_off; rw [if_neg (by simp [h1, h1', h2, h2'])]; rfl]; exact hR⟩)
    · have h2' := Int32.not_le.mp h2
      refine x_aload_n F dX3_takeOffList_15 0 rfl rfl ?_
      refine y_getD (c := c) (j := 3) (v := .ref (ad c 1 3)) F hR mw_84 rfl (by decide) rfl dX3_takeOffList_16 ?_
      refine x_iload_n F dX3_takeOffList_19 1 rfl rfl ?_
      obtain ⟨p, hp31, hxp⟩ := nI_of h1
      subst hxp
      have hpl : p < (lst c).length := Nat.lt_of_not_le (fun q => h2 (nI_le q hp31))
      obtain ⟨f, hf0⟩ : ∃ f, (lst c)[p]? = some f := ⟨_, List.getElem?_eq_getElem hpl⟩
      have hwf := hR.wf
      refine y_lrem (c := c) (k5 := 3) (i := p) (e := ad c 5 f) (c' := sL c ((lst c).eraseIdx p)) F hR (by decide) (elg_3 hf0) k_X3_264 ⟨(Nat.le_of_ble_eq_true rfl), (Nat.le_of_ble_eq_true rfl)⟩ (Nat.le_of_ble_eq_true rfl) (Nat.le_of_ble_eq_true rfl) dX3_takeOffList_20 (Nat.le_of_ble_eq_true rfl) (by show ((lst c).eraseIdx p).map _ = ((lst c).map _).eraseIdx p; rw [er_map]; rfl) rfl ⟨rfl, rfl, rfl, rfl⟩ (fun k hk hkk => by rcases (show k = 0 ∨ k = 1 ∨ k = 2 ∨ k = 4 by omega) with rfl | rfl | rfl | rfl <;> rfl) rfl (fun _ => rfl) ⟨rfl, rfl, rfl⟩ ⟨hwf.1, hwf.2.1, hwf.2.2.1, ⟨fun q hq => hwf.2.2.2.1.1 q (List.mem_of_mem_eraseIdx hq), Nat.le_trans (List.length_eraseIdx_le _ _) hwf.2.2.2.1.2⟩, hwf.2.2.2.2⟩ (fun H1 hR1 => ?_)
      refine x_pop F dX3_takeOffList_23 rfl ?_
      exact x_vret F hE dX3_takeOffList_24 (Nat.le_of_ble_eq_true rfl) (Nat.le_of_ble_eq_true rfl) (⟨rfl, by rw [show u_off c (nI p) = sL c ((lst c).eraseIdx p) from by unfold u_off; rw [if_pos ⟨Int32.not_lt.mp h1, Int32.not_le.mp h2⟩, nI_clamp hp31]]; exact hR1⟩)
end CL3
