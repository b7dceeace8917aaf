/-! the reference's own methods: sums, costs, reasons -/
section MD3
theorem fgo_ok {p : Nat → Bool} : ∀ (k i : Nat), i + k < 2 ^ 31 → ¬ fgo p k i = -1 → ∃ f, i ≤ f ∧ f < i + k ∧ p f = true ∧ fgo p k i = nI f
  | 0, i, _, h => absurd rfl h
  | k + 1, i, hb, h => by
    by_cases hp : p i = true
    · exact ⟨i, Nat.le_refl _, by omega, hp, if_pos hp⟩
    · have e : fgo p (k + 1) i = fgo p k (i + 1) := if_neg hp
      rw [e] at h ⊢
      obtain ⟨f, h1, h2, h3, h4⟩ := fgo_ok k (i + 1) (by omega) h
      exact ⟨f, by omega, by omega, h3, h4⟩
theorem fo_ok {m : MS} (hW : WfM m) {x : Int32} (h : ¬ m_fo m x = -1) : m_fo m x = nI (tN (m_fo m x)) ∧ tN (m_fo m x) < mf m ∧ p_fo m x (tN (m_fo m x)) = true := by
  have hm : mf m < 2 ^ 31 := Nat.lt_of_le_of_lt hW.2.2.1.2 (by decide)
  obtain ⟨f, h1, h2, h3, h4⟩ := fgo_ok (p := p_fo m x) (mf m) 0 (by omega) h
  have e : tN (m_fo m x) = f := by show tN (fgo _ _ _) = f; rw [h4]; exact nI_clamp (by omega)
  rw [e]
  exact ⟨h4, by omega, h3⟩
/-- what a flight counts for a member: 2 landings, 3 minutes, 4 with a teacher, 5 alone -/
def m_ls (m : MS) (x w : Int32) (f : Nat) : Int32 := if mZ m 29 f = 2 ∧ (mZ m 21 f = x ∨ mZ m 22 f = x) then (if w = 2 then 1 else if w = 3 then mZ m 28 f - mZ m 27 f else if w = 4 then (if mZ m 21 f = x ∧ m_wt m f = true then 1 else 0) else (if mZ m 21 f = x ∧ mZ m 22 f = -1 then 1 else 0)) else 0
def m_ld (m : MS) (x w : Int32) : Int32 := sumN (mf m) (m_ls m x w)
def m_cost (m : MS) (f : Nat) : Int32 := if mZ m 29 f = 2 then s_price (mZ m 24 f) + mZ m 14 (tN (mZ m 23 f)) * (if mZ m 28 f - mZ m 27 f < 180 then mZ m 28 f - mZ m 27 f else 180) else 0
def m_bill (m : MS) (i : Nat) : Int32 := -(mZ m 11 i) + sumN (mf m) (fun f => if mZ m 21 f = nI i then m_cost m f else 0)
def m_tm (m : MS) (i : Nat) (w : Int32) : Int32 := if w = 0 then mZ m 10 i else if w = 1 then (if m_fl m (nI i) = true then 1 else 0) else m_ld m (nI i) w
def m_gs (m : MS) (x w : Int32) (f : Nat) : Int32 := if mZ m 29 f = 2 ∧ mZ m 23 f = x then (if w = 2 then 1 else mZ m 28 f - mZ m 27 f) else 0
def m_tg (m : MS) (i : Nat) (w : Int32) : Int32 := if w = 0 then (if 0 < mZ m 18 i then 2 else if m_fo m (nI i) = -1 then 0 else 1) else if w = 1 then (if mZ m 16 i = 0 then 0 else 1) else if w = 4 then m_fo m (nI i) else sumN (mf m) (m_gs m (nI i) w)
def m_rea (m : MS) (f : Nat) : Int32 :=
  if m_fl m (mZ m 21 f) = true ∨ (¬ mZ m 22 f = -1 ∧ m_fl m (mZ m 22 f) = true) then 1
  else if ¬ m_fo m (mZ m 23 f) = -1 ∨ ¬ mZ m 16 (tN (mZ m 23 f)) = 0 then 2
  else if ¬ mZ m 22 f = -1 ∧ mZ m 13 (tN (mZ m 23 f)) = 1 then 3
  else if ¬ m_wt m f = true ∧ (mZ m 10 (tN (mZ m 21 f)) = 0 ∨ (mZ m 10 (tN (mZ m 21 f)) = 1 ∧ m_ld m (mZ m 21 f) 4 = 0)) then 4
  else if mZ m 15 (tN (mZ m 23 f)) < mY m 2 ∨ s_wind (if m_wt m f = true then 3 else mZ m 10 (tN (mZ m 21 f))) < mY m 2 then 5
  else if mY m 3 - mY m 1 < 10 then 6
  else if (mZ m 24 f = 0 ∧ mY m 5 = 0) ∨ (¬ mZ m 24 f = 0 ∧ mY m 7 ≤ m_tk m) then 7
  else if mY m 1 < mY m 4 then 8 else 0
theorem k_X4_109 : cwV_ "GliderDayModel" 109 "GliderDayModel" yX4_withTeacher cX4_withTeacher 2 (some .boolean) 1 := ⟨mw_950, mw_952, mw_38, mw_59, mw_953, ⟨by decide +kernel, by decide +kernel, by decide +kernel⟩⟩
theorem k_X4_174 : cwV_ "GliderDayModel" 174 "GliderDayModel" yX4_costOf cX4_costOf 2 (some .int) 1 := ⟨mw_1045, mw_1047, mw_51, mw_59, mw_1048, ⟨by decide +kernel, by decide +kernel, by decide +kernel⟩⟩
theorem k_X4_115 : cwV_ "GliderDayModel" 115 "GliderDayModel" yX4_landed cX4_landed 6 (some .int) 2 := ⟨mw_946, mw_948, mw_37, mw_59, mw_949, ⟨by decide +kernel, by decide +kernel, by decide +kernel⟩⟩
theorem k_X4_119 : cwV_ "GliderDayModel" 119 "GliderDayModel" yX4_flies cX4_flies 4 (some .boolean) 1 := ⟨mw_954, mw_956, mw_39, mw_59, mw_957, ⟨by decide +kernel, by decide +kernel, by decide +kernel⟩⟩
theorem k_X4_106 : cwV_ "GliderDayModel" 106 "GliderDayModel" yX4_flightOf cX4_flightOf 3 (some .int) 1 := ⟨mw_934, mw_936, mw_35, mw_59, mw_937, ⟨by decide +kernel, by decide +kernel, by decide +kernel⟩⟩
theorem k_X4_143 : cwS_ "GliderDayModel" 143 yX4_windOf cX4_windOf 1 (some .int) 1 := ⟨mw_1006, mw_1007, mw_59, mw_1008, ⟨by decide +kernel, by decide +kernel, by decide +kernel⟩⟩
theorem k_X4_98 : cwV_ "GliderDayModel" 98 "GliderDayModel" yX4_takenTugs cX4_takenTugs 1 (some .int) 0 := ⟨mw_922, mw_924, mw_33, mw_59, mw_925, ⟨by decide +kernel, by decide +kernel, by decide +kernel⟩⟩
theorem k_X4_146 : cwV_ "GliderDayModel" 146 "GliderDayModel" yX4_isBusyNow cX4_isBusyNow 1 (some .boolean) 0 := ⟨mw_1009, mw_1011, mw_46, mw_59, mw_1012, ⟨by decide +kernel, by decide +kernel, by decide +kernel⟩⟩
set_option maxHeartbeats 4000000 in
set_option maxRecDepth 100000 in
theorem c_X4_landed (l : Launch) (G : GT) (A : Nat → Prop) (m : MS) (x w : Int32) (hW : WfM m) : Ct l yX4_landed cX4_landed 6 (some .int) ({ frames := 1, cells := 0, slots := 0, locals := 21 } : Room) G A [.ref (ma m 30), .int x, .int w] (fun H => RepM G A m H) (Pu (.int (m_ld m x w))) := by
  refine ct_of (own := "GliderDayModel") (by decide +kernel) rfl (Nat.le_of_ble_eq_true rfl) (fun E H0 F hE hR => ?_)
  show wx E H0 0 0 0 [(0, .ref (ma m 30)), (1, .int x), (2, .int w)] []
  refine x_iconst (v := 0) F rfl dX4_landed_0 ?_
  refine x_istore_n (lv' := [(3, .int 0), (0, .ref (ma m 30)), (1, .int x), (2, .int w)]) F dX4_landed_1 rfl (by decide) rfl ?_
  refine x_iconst (v := 0) F rfl dX4_landed_2 ?_
  refine x_istore (lv' := [(4, .int 0), (3, .int 0), (0, .ref (ma m 30)), (1, .int x), (2, .int w)]) F dX4_landed_3 (by decide) rfl ?_
  refine wx_sub (lv' := [(0, .ref (ma m 30)), (1, .int x), (2, .int w), (3, .int 0), (4, .int 0)]) [2, 3, 4, 1, 0] rfl ?_
  refine (loop_dn (N := (mf m)) (P := fun i => wx E H0 0 0 5 [(0, .ref (ma m 30)), (1, .int x), (2, .int w), (3, .int (sumN i (m_ls m x w))), (4, .int (nI i))] []) ?_ ?_) 0 (Nat.zero_le _)
  · refine x_iload F dX4_landed_5 4 rfl ?_
    refine x_aload_n F dX4_landed_7 0 rfl rfl ?_
    refine z_get (m := m) (j := 20) (v := .int (mY m 20)) F hR mw_819 rfl (by decide) rfl dX4_landed_8 ?_
    refine wx_i (y := nI (mf m)) hW.2.2.1.1 ?_
    refine x_icmp_ge F dX4_landed_11 (tgt := 165) (by decide) (fun _ => ?_) (fun h1 => absurd (Int32.le_refl _) h1)
    refine x_iload_n F dX4_landed_165 3 rfl rfl ?_
    exact x_iret F hE dX4_landed_166 (Nat.le_of_ble_eq_true rfl) (Nat.le_of_ble_eq_true rfl) (⟨rfl, rfl⟩)
  · intro i hi ih5
    refine x_iload F dX4_landed_5 4 rfl ?_
    refine x_aload_n F dX4_landed_7 0 rfl rfl ?_
    refine z_get (m := m) (j := 20) (v := .int (mY m 20)) F hR mw_819 rfl (by decide) rfl dX4_landed_8 ?_
    refine wx_i (y := nI (mf m)) hW.2.2.1.1 ?_
    refine x_icmp_ge F dX4_landed_11 (tgt := 165) (by decide) (fun h2 => absurd h2 (nI_ge hi ((Nat.lt_of_le_of_lt hW.2.2.1.2 (by decide))))) (fun _ => ?_)
    refine x_aload_n F dX4_landed_14 0 rfl rfl ?_
    refine z_get (m := m) (j := 29) (v := .ref (ma m 29)) F hR mw_828 rfl (by decide) rfl dX4_landed_15 ?_
    refine x_iload F dX4_landed_18 4 rfl ?_
    refine z_ildN (m := m) (j := 29) (i := i) F hR (by decide) rfl rfl (Nat.lt_of_lt_of_le hi hW.2.2.1.2) (by decide) dX4_landed_20 ?_
    refine x_iconst (v := 2) F rfl dX4_landed_21 ?_
    refine x_icmp_ne F dX4_landed_22 (tgt := 159) (by decide) (fun h3 => ?_) (fun h3 => ?_)
    · refine x_iinc (j := 4) (v := nI (i + 1)) (lv' := [(4, .int (nI (i + 1))), (0, .ref (ma m 30)), (1, .int x), (2, .int w), (3, .int (sumN i (m_ls m x w)))]) F dX4_landed_159 rfl (nI_1 _) (by decide) rfl ?_
      refine x_goto F dX4_landed_162 (tgt := 5) (by decide) ?_
      refine wx_sub (lv' := [(0, .ref (ma m 30)), (1, .int x), (2, .int w), (3, .int (sumN i (m_ls m x w))), (4, .int (nI (i + 1)))]) [1, 2, 3, 4, 0] rfl ?_
      refine wx_lv (lv' := [(0, .ref (ma m 30)), (1, .int x), (2, .int w), (3, .int (sumN (i + 1) (m_ls m x w))), (4, .int (nI (i + 1)))]) (by first | (simp [sumN, m_ls, h3]; done) | (exfalso; simp_all; done) | (simp_all [sumN, m_ls]; done)) ?_
      exact ih5
    · refine x_aload_n F dX4_landed_25 0 rfl rfl ?_
      refine z_get (m := m) (j := 21) (v := .ref (ma m 21)) F hR mw_820 rfl (by decide) rfl dX4_landed_26 ?_
      refine x_iload F dX4_landed_29 4 rfl ?_
      refine z_ildN (m := m) (j := 21) (i := i) F hR (by decide) rfl rfl (Nat.lt_of_lt_of_le hi hW.2.2.1.2) (by decide) dX4_landed_31 ?_
      refine x_iload_n F dX4_landed_32 1 rfl rfl ?_
      refine x_icmp_eq F dX4_landed_33 (tgt := 50) (by decide) (fun h4 => ?_) (fun h4 => ?_)
      · refine x_aload_n F dX4_landed_50 0 rfl rfl ?_
        refine z_get (m := m) (j := 21) (v := .ref (ma m 21)) F hR mw_820 rfl (by decide) rfl dX4_landed_51 ?_
        refine x_iload F dX4_landed_54 4 rfl ?_
        refine z_ildN (m := m) (j := 21) (i := i) F hR (by decide) rfl rfl (Nat.lt_of_lt_of_le hi hW.2.2.1.2) (by decide) dX4_landed_56 ?_
        refine x_iload_n F dX4_landed_57 1 rfl rfl ?_
        refine x_icmp_ne F dX4_landed_58 (tgt := 65) (by decide) (fun h5 => ?_) (fun h5 => ?_)
        · refine x_iconst (v := 0) F rfl dX4_landed_65 ?_
          refine x_istore (lv' := [(5, .int 0), (0, .ref (ma m 30)), (1, .int x), (2, .int w), (3, .int (sumN i (m_ls m x w))), (4, .int (nI i))]) F dX4_landed_66 (by decide) rfl ?_
          refine x_iload_n F dX4_landed_68 3 rfl rfl ?_
          refine x_iconst (v := 2) F rfl dX4_landed_69 ?_
          refine x_icmp_ne F dX4_landed_70 (tgt := 79) (by decide) (fun h6 => ?_) (fun h6 => ?_)
          · refine x_iload_n F dX4_landed_79 3 rfl rfl ?_
            refine x_iconst (v := 3) F rfl dX4_landed_80 ?_
            refine x_icmp_ne F dX4_landed_81 (tgt := 105) (by decide) (fun h7 => ?_) (fun h7 => ?_)
            · refine x_iload_n F dX4_landed_105 3 rfl rfl ?_
              refine x_iconst (v := 4) F rfl dX4_landed_106 ?_
              refine x_icmp_ne F dX4_landed_107 (tgt := 135) (by decide) (fun h8 => ?_) (fun h8 => ?_)
              · refine x_iload_n F dX4_landed_135 4 rfl rfl ?_
                refine x_iload F dX4_landed_136 0 rfl ?_
                refine x_if_eq F dX4_landed_138 (tgt := 156) (by decide) (fun _ => ?_) (fun h9 => absurd (by decide) h9)
                refine x_iconst (v := 0) F rfl dX4_landed_156 ?_
                refine x_iadd F dX4_landed_157 ?_
                refine x_istore_n (lv' := [(3, .int ((sumN i (m_ls m x w)) + 0)), (5, .int 0), (0, .ref (ma m 30)), (1, .int x), (2, .int w), (4, .int (nI i))]) F dX4_landed_158 rfl (by decide) rfl ?_
                refine x_iinc (j := 5) (v := nI (i + 1)) (lv' := [(4, .int (nI (i + 1))), (3, .int ((sumN i (m_ls m x w)) + 0)), (5, .int 0), (0, .ref (ma m 30)), (1, .int x), (2, .int w)]) F dX4_landed_159 rfl (nI_1 _) (by decide) rfl ?_
                refine x_goto F dX4_landed_162 (tgt := 5) (by decide) ?_
                refine wx_sub (lv' := [(0, .ref (ma m 30)), (1, .int x), (2, .int w), (3, .int ((sumN i (m_ls m x w)) + 0)), (4, .int (nI (i + 1)))]) [3, 4, 5, 1, 0] rfl ?_
                refine wx_lv (lv' := [(0, .ref (ma m 30)), (1, .int x), (2, .int w), (3, .int (sumN (i + 1) (m_ls m x w))), (4, .int (nI (i + 1)))]) (by first | (simp [sumN, m_ls, h3, h4, h5, h6, h7, h8]; done) | (exfalso; simp_all; done) | (simp_all [sumN, m_ls]; done)) ?_
                exact ih5
              · refine x_iload_n F dX4_landed_110 4 rfl rfl ?_
                refine x_iload F dX4_landed_111 0 rfl ?_
                refine x_if_eq F dX4_landed_113 (tgt := 129) (by decide) (fun _ => ?_) (fun h10 => absurd (by decide) h10)
                refine x_iconst (v := 0) F rfl dX4_landed_129 ?_
                refine x_iadd F dX4_landed_130 ?_
                refine x_istore_n (lv' := [(3, .int ((sumN i (m_ls m x w)) + 0)), (5, .int 0), (0, .ref (ma m 30)), (1, .int x), (2, .int w), (4, .int (nI i))]) F dX4_landed_131 rfl (by decide) rfl ?_
                refine x_goto F dX4_landed_132 (tgt := 159) (by decide) ?_
                refine x_iinc (j := 5) (v := nI (i + 1)) (lv' := [(4, .int (nI (i + 1))), (3, .int ((sumN i (m_ls m x w)) + 0)), (5, .int 0), (0, .ref (ma m 30)), (1, .int x), (2, .int w)]) F dX4_landed_159 rfl (nI_1 _) (by decide) rfl ?_
                refine x_goto F dX4_landed_162 (tgt := 5) (by decide) ?_
                refine wx_sub (lv' := [(0, .ref (ma m 30)), (1, .int x), (2, .int w), (3, .int ((sumN i (m_ls m x w)) + 0)), (4, .int (nI (i + 1)))]) [3, 4, 5, 1, 0] rfl ?_
                refine wx_lv (lv' := [(0, .ref (ma m 30)), (1, .int x), (2, .int w), (3, .int (sumN (i + 1) (m_ls m x w))), (4, .int (nI (i + 1)))]) (by first | (simp [sumN, m_ls, h3, h4, h5, h6, h7, h8]; done) | (exfalso; simp_all; done) | (simp_all [sumN, m_ls]; done)) ?_
                exact ih5
            · refine x_iload_n F dX4_landed_84 4 rfl rfl ?_
              refine x_aload_n F dX4_landed_85 1 rfl rfl ?_
              refine z_get (m := m) (j := 28) (v := .ref (ma m 28)) F hR mw_827 rfl (by decide) rfl dX4_landed_86 ?_
              refine x_iload F dX4_landed_89 5 rfl ?_
              refine z_ildN (m := m) (j := 28) (i := i) F hR (by decide) rfl rfl (Nat.lt_of_lt_of_le hi hW.2.2.1.2) (by decide) dX4_landed_91 ?_
              refine x_aload_n F dX4_landed_92 1 rfl rfl ?_
              refine z_get (m := m) (j := 27) (v := .ref (ma m 27)) F hR mw_826 rfl (by decide) rfl dX4_landed_93 ?_
              refine x_iload F dX4_landed_96 5 rfl ?_
              refine z_ildN (m := m) (j := 27) (i := i) F hR (by decide) rfl rfl (Nat.lt_of_lt_of_le hi hW.2.2.1.2) (by decide) dX4_landed_98 ?_
              refine x_isub F dX4_landed_99 ?_
              refine x_iadd F dX4_landed_100 ?_
              refine x_istore_n (lv' := [(3, .int ((sumN i (m_ls m x w)) + ((mZ m 28 i) - (mZ m 27 i)))), (5, .int 0), (0, .ref (ma m 30)), (1, .int x), (2, .int w), (4, .int (nI i))]) F dX4_landed_101 rfl (by decide) rfl ?_
              refine x_goto F dX4_landed_102 (tgt := 159) (by decide) ?_
              refine x_iinc (j := 5) (v := nI (i + 1)) (lv' := [(4, .int (nI (i + 1))), (3, .int ((sumN i (m_ls m x w)) + ((mZ m 28 i) - (mZ m 27 i)))), (5, .int 0), (0, .ref (ma m 30)), (1, .int x), (2, .int w)]) F dX4_landed_159 rfl (nI_1 _) (by decide) rfl ?_
              refine x_goto F dX4_landed_162 (tgt := 5) (by decide) ?_
              refine wx_sub (lv' := [(0, .ref (ma m 30)), (1, .int x), (2, .int w), (3, .int ((sumN i (m_ls m x w)) + ((mZ m 28 i) - (mZ m 27 i)))), (4, .int (nI (i + 1)))]) [3, 4, 5, 1, 0] rfl ?_
              refine wx_lv (lv' := [(0, .ref (ma m 30)), (1, .int x), (2, .int w), (3, .int (sumN (i + 1) (m_ls m x w))), (4, .int (nI (i + 1)))]) (by first | (simp [sumN, m_ls, h3, h4, h5, h6, h7]; done) | (exfalso; simp_all; done) | (simp_all [sumN, m_ls]; done)) ?_
              exact ih5
          · refine x_iinc (j := 4) (v := (sumN i (m_ls m x w)) + 1) (lv' := [(3, .int ((sumN i (m_ls m x w)) + 1)), (5, .int 0), (0, .ref (ma m 30)), (1, .int x), (2, .int w), (4, .int (nI i))]) F dX4_landed_73 rfl rfl (by decide) rfl ?_
            refine x_goto F dX4_landed_76 (tgt := 159) (by decide) ?_
            refine x_iinc (j := 5) (v := nI (i + 1)) (lv' := [(4, .int (nI (i + 1))), (3, .int ((sumN i (m_ls m x w)) + 1)), (5, .int 0), (0, .ref (ma m 30)), (1, .int x), (2, .int w)]) F dX4_landed_159 rfl (nI_1 _) (by decide) rfl ?_
            refine x_goto F dX4_landed_162 (tgt := 5) (by decide) ?_
            refine wx_sub (lv' := [(0, .ref (ma m 30)), (1, .int x), (2, .int w), (3, .int ((sumN i (m_ls m x w)) + 1)), (4, .int (nI (i + 1)))]) [3, 4, 5, 1, 0] rfl ?_
            refine wx_lv (lv' := [(0, .ref (ma m 30)), (1, .int x), (2, .int w), (3, .int (sumN (i + 1) (m_ls m x w))), (4, .int (nI (i + 1)))]) (by first | (simp [sumN, m_ls, h3, h4, h5, h6]; done) | (exfalso; simp_all; done) | (simp_all [sumN, m_ls]; done)) ?_
            exact ih5
        · refine x_iconst (v := 1) F rfl dX4_landed_61 ?_
          refine x_goto F dX4_landed_62 (tgt := 66) (by decide) ?_
          refine x_istore (lv' := [(5, .int 1), (0, .ref (ma m 30)), (1, .int x), (2, .int w), (3, .int (sumN i (m_ls m x w))), (4, .int (nI i))]) F dX4_landed_66 (by decide) rfl ?_
          refine x_iload_n F dX4_landed_68 3 rfl rfl ?_
          refine x_iconst (v := 2) F rfl dX4_landed_69 ?_
          refine x_icmp_ne F dX4_landed_70 (tgt := 79) (by decide) (fun h11 => ?_) (fun h11 => ?_)
          · refine x_iload_n F dX4_landed_79 3 rfl rfl ?_
            refine x_iconst (v := 3) F rfl dX4_landed_80 ?_
            refine x_icmp_ne F dX4_landed_81 (tgt := 105) (by decide) (fun h12 => ?_) (fun h12 => ?_)
            · refine x_iload_n F dX4_landed_105 3 rfl rfl ?_
              refine x_iconst (v := 4) F rfl dX4_landed_106 ?_
              refine x_icmp_ne F dX4_landed_107 (tgt := 135) (by decide) (fun h13 => ?_) (fun h13 => ?_)
              · refine x_iload_n F dX4_landed_135 4 rfl rfl ?_
                refine x_iload F dX4_landed_136 0 rfl ?_
                refine x_if_eq F dX4_landed_138 (tgt := 156) (by decide) (fun h14 => absurd h14 (by decide)) (fun _ => ?_)
                refine x_aload_n F dX4_landed_141 1 rfl rfl ?_
                refine z_get (m := m) (j := 22) (v := .ref (ma m 22)) F hR mw_821 rfl (by decide) rfl dX4_landed_142 ?_
                refine x_iload F dX4_landed_145 5 rfl ?_
                refine z_ildN (m := m) (j := 22) (i := i) F hR (by decide) rfl rfl (Nat.lt_of_lt_of_le hi hW.2.2.1.2) (by decide) dX4_landed_147 ?_
                refine x_iconst (v := (-1)) F rfl dX4_landed_148 ?_
                refine x_icmp_ne F dX4_landed_149 (tgt := 156) (by decide) (fun h15 => ?_) (fun h15 => ?_)
                · refine x_iconst (v := 0) F rfl dX4_landed_156 ?_
                  refine x_iadd F dX4_landed_157 ?_
                  refine x_istore_n (lv' := [(3, .int ((sumN i (m_ls m x w)) + 0)), (5, .int 1), (0, .ref (ma m 30)), (1, .int x), (2, .int w), (4, .int (nI i))]) F dX4_landed_158 rfl (by decide) rfl ?_
                  refine x_iinc (j := 5) (v := nI (i + 1)) (lv' := [(4, .int (nI (i + 1))), (3, .int ((sumN i (m_ls m x w)) + 0)), (5, .int 1), (0, .ref (ma m 30)), (1, .int x), (2, .int w)]) F dX4_landed_159 rfl (nI_1 _) (by decide) rfl ?_
                  refine x_goto F dX4_landed_162 (tgt := 5) (by decide) ?_
                  refine wx_sub (lv' := [(0, .ref (ma m 30)), (1, .int x), (2, .int w), (3, .int ((sumN i (m_ls m x w)) + 0)), (4, .int (nI (i + 1)))]) [3, 4, 5, 1, 0] rfl ?_
                  refine wx_lv (lv' := [(0, .ref (ma m 30)), (1, .int x), (2, .int w), (3, .int (sumN (i + 1) (m_ls m x w))), (4, .int (nI (i + 1)))]) (by first | (simp [sumN, m_ls, h3, h4, h5, h11, h12, h13, h15]; done) | (exfalso; simp_all; done) | (simp_all [sumN, m_ls]; done)) ?_
                  exact ih5
                · refine x_iconst (v := 1) F rfl dX4_landed_152 ?_
                  refine x_goto F dX4_landed_153 (tgt := 157) (by decide) ?_
                  refine x_iadd F dX4_landed_157 ?_
                  refine x_istore_n (lv' := [(3, .int ((sumN i (m_ls m x w)) + 1)), (5, .int 1), (0, .ref (ma m 30)), (1, .int x), (2, .int w), (4, .int (nI i))]) F dX4_landed_158 rfl (by decide) rfl ?_
                  refine x_iinc (j := 5) (v := nI (i + 1)) (lv' := [(4, .int (nI (i + 1))), (3, .int ((sumN i (m_ls m x w)) + 1)), (5, .int 1), (0, .ref (ma m 30)), (1, .int x), (2, .int w)]) F dX4_landed_159 rfl (nI_1 _) (by decide) rfl ?_
                  refine x_goto F dX4_landed_162 (tgt := 5) (by decide) ?_
                  refine wx_sub (lv' := [(0, .ref (ma m 30)), (1, .int x), (2, .int w), (3, .int ((sumN i (m_ls m x w)) + 1)), (4, .int (nI (i + 1)))]) [3, 4, 5, 1, 0] rfl ?_
                  refine wx_lv (lv' := [(0, .ref (ma m 30)), (1, .int x), (2, .int w), (3, .int (sumN (i + 1) (m_ls m x w))), (4, .int (nI (i + 1)))]) (by first | (simp [sumN, m_ls, h3, h4, h5, h11, h12, h13, h15]; done) | (exfalso; simp_all; done) | (simp_all [sumN, m_ls]; done)) ?_
                  exact ih5
              · refine x_iload_n F dX4_landed_110 4 rfl rfl ?_
                refine x_iload F dX4_landed_111 0 rfl ?_
                refine x_if_eq F dX4_landed_113 (tgt := 129) (by decide) (fun h16 => absurd h16 (by decide)) (fun _ => ?_)
                refine x_aload_n F dX4_landed_116 1 rfl rfl ?_
                refine x_iload F dX4_landed_117 5 rfl ?_
                refine x_callVp (rest := [.int (sumN i (m_ls m x w))]) F hR.2.2.1 rfl (c_X4_withTeacher l G A m i hi hW) k_X4_109 ⟨(Nat.le_of_ble_eq_true rfl), (Nat.le_of_ble_eq_true rfl), rfl, rfl⟩ (Nat.le_of_ble_eq_true rfl) (Nat.le_of_ble_eq_true rfl) dX4_landed_119 rfl rfl (Nat.le_of_ble_eq_true rfl) hR ?_
                refine x_if_eq F dX4_landed_122 (tgt := 129) (by decide) (fun h17 => ?_) (fun h17 => ?_)
                · replace h17 := bI_0.mp h17
                  refine x_iconst (v := 0) F rfl dX4_landed_129 ?_
                  refine x_iadd F dX4_landed_130 ?_
                  refine x_istore_n (lv' := [(3, .int ((sumN i (m_ls m x w)) + 0)), (5, .int 1), (0, .ref (ma m 30)), (1, .int x), (2, .int w), (4, .int (nI i))]) F dX4_landed_131 rfl (by decide) rfl ?_
                  refine x_goto F dX4_landed_132 (tgt := 159) (by decide) ?_
                  refine x_iinc (j := 5) (v := nI (i + 1)) (lv' := [(4, .int (nI (i + 1))), (3, .int ((sumN i (m_ls m x w)) + 0)), (5, .int 1), (0, .ref (ma m 30)), (1, .int x), (2, .int w)]) F dX4_landed_159 rfl (nI_1 _) (by decide) rfl ?_
                  refine x_goto F dX4_landed_162 (tgt := 5) (by decide) ?_
                  refine wx_sub (lv' := [(0, .ref (ma m 30)), (1, .int x), (2, .int w), (3, .int ((sumN i (m_ls m x w)) + 0)), (4, .int (nI (i + 1)))]) [3, 4, 5, 1, 0] rfl ?_
                  refine wx_lv (lv' := [(0, .ref (ma m 30)), (1, .int x), (2, .int w), (3, .int (sumN (i + 1) (m_ls m x w))), (4, .int (nI (i + 1)))]) (by first | (simp [sumN, m_ls, h3, h4, h5, h11, h12, h13, h17]; done) | (exfalso; simp_all; done) | (simp_all [sumN, m_ls]; done)) ?_
                  exact ih5
                · replace h17 := bI_ne.mp h17
                  refine x_iconst (v := 1) F rfl dX4_landed_125 ?_
                  refine x_goto F dX4_landed_126 (tgt := 130) (by decide) ?_
                  refine x_iadd F dX4_landed_130 ?_
                  refine x_istore_n (lv' := [(3, .int ((sumN i (m_ls m x w)) + 1)), (5, .int 1), (0, .ref (ma m 30)), (1, .int x), (2, .int w), (4, .int (nI i))]) F dX4_landed_131 rfl (by decide) rfl ?_
                  refine x_goto F dX4_landed_132 (tgt := 159) (by decide) ?_
                  refine x_iinc (j := 5) (v := nI (i + 1)) (lv' := [(4, .int (nI (i + 1))), (3, .int ((sumN i (m_ls m x w)) + 1)), (5, .int 1), (0, .ref (ma m 30)), (1, .int x), (2, .int w)]) F dX4_landed_159 rfl (nI_1 _) (by decide) rfl ?_
                  refine x_goto F dX4_landed_162 (tgt := 5) (by decide) ?_
                  refine wx_sub (lv' := [(0, .ref (ma m 30)), (1, .int x), (2, .int w), (3, .int ((sumN i (m_ls m x w)) + 1)), (4, .int (nI (i + 1)))]) [3, 4, 5, 1, 0] rfl ?_
                  refine wx_lv (lv' := [(0, .ref (ma m 30)), (1, .int x), (2, .int w), (3, .int (sumN (i + 1) (m_ls m x w))), (4, .int (nI (i + 1)))]) (by first | (simp [sumN, m_ls, h3, h4, h5, h11, h12, h13, h17]; done) | (exfalso; simp_all; done) | (simp_all [sumN, m_ls]; done)) ?_
                  exact ih5
            · refine x_iload_n F dX4_landed_84 4 rfl rfl ?_
              refine x_aload_n F dX4_landed_85 1 rfl rfl ?_
              refine z_get (m := m) (j := 28) (v := .ref (ma m 28)) F hR mw_827 rfl (by decide) rfl dX4_landed_86 ?_
              refine x_iload F dX4_landed_89 5 rfl ?_
              refine z_ildN (m := m) (j := 28) (i := i) F hR (by decide) rfl rfl (Nat.lt_of_lt_of_le hi hW.2.2.1.2) (by decide) dX4_landed_91 ?_
              refine x_aload_n F dX4_landed_92 1 rfl rfl ?_
              refine z_get (m := m) (j := 27) (v := .ref (ma m 27)) F hR mw_826 rfl (by decide) rfl dX4_landed_93 ?_
              refine x_iload F dX4_landed_96 5 rfl ?_
              refine z_ildN (m := m) (j := 27) (i := i) F hR (by decide) rfl rfl (Nat.lt_of_lt_of_le hi hW.2.2.1.2) (by decide) dX4_landed_98 ?_
              refine x_isub F dX4_landed_99 ?_
              refine x_iadd F dX4_landed_100 ?_
              refine x_istore_n (lv' := [(3, .int ((sumN i (m_ls m x w)) + ((mZ m 28 i) - (mZ m 27 i)))), (5, .int 1), (0, .ref (ma m 30)), (1, .int x), (2, .int w), (4, .int (nI i))]) F dX4_landed_101 rfl (by decide) rfl ?_
              refine x_goto F dX4_landed_102 (tgt := 159) (by decide) ?_
              refine x_iinc (j := 5) (v := nI (i + 1)) (lv' := [(4, .int (nI (i + 1))), (3, .int ((sumN i (m_ls m x w)) + ((mZ m 28 i) - (mZ m 27 i)))), (5, .int 1), (0, .ref (ma m 30)), (1, .int x), (2, .int w)]) F dX4_landed_159 rfl (nI_1 _) (by decide) rfl ?_
              refine x_goto F dX4_landed_162 (tgt := 5) (by decide) ?_
              refine wx_sub (lv' := [(0, .ref (ma m 30)), (1, .int x), (2, .int w), (3, .int ((sumN i (m_ls m x w)) + ((mZ m 28 i) - (mZ m 27 i)))), (4, .int (nI (i + 1)))]) [3, 4, 5, 1, 0] rfl ?_
              refine wx_lv (lv' := [(0, .ref (ma m 30)), (1, .int x), (2, .int w), (3, .int (sumN (i + 1) (m_ls m x w))), (4, .int (nI (i + 1)))]) (by first | (simp [sumN, m_ls, h3, h4, h5, h11, h12]; done) | (exfalso; simp_all; done) | (simp_all [sumN, m_ls]; done)) ?_
              exact ih5
          · refine x_iinc (j := 4) (v := (sumN i (m_ls m x w)) + 1) (lv' := [(3, .int ((sumN i (m_ls m x w)) + 1)), (5, .int 1), (0, .ref (ma m 30)), (1, .int x), (2, .int w), (4, .int (nI i))]) F dX4_landed_73 rfl rfl (by decide) rfl ?_
            refine x_goto F dX4_landed_76 (tgt := 159) (by decide) ?_
            refine x_iinc (j := 5) (v := nI (i + 1)) (lv' := [(4, .int (nI (i + 1))), (3, .int ((sumN i (m_ls m x w)) + 1)), (5, .int 1), (0, .ref (ma m 30)), (1, .int x), (2, .int w)]) F dX4_landed_159 rfl (nI_1 _) (by decide) rfl ?_
            refine x_goto F dX4_landed_162 (tgt := 5) (by decide) ?_
            refine wx_sub (lv' := [(0, .ref (ma m 30)), (1, .int x), (2, .int w), (3, .int ((sumN i (m_ls m x w)) + 1)), (4, .int (nI (i + 1)))]) [3, 4, 5, 1, 0] rfl ?_
            refine wx_lv (lv' := [(0, .ref (ma m 30)), (1, .int x), (2, .int w), (3, .int (sumN (i + 1) (m_ls m x w))), (4, .int (nI (i + 1)))]) (by first | (simp [sumN, m_ls, h3, h4, h5, h11]; done) | (exfalso; simp_all; done) | (simp_all [sumN, m_ls]; done)) ?_
            exact ih5
      · refine x_aload_n F dX4_landed_36 0 rfl rfl ?_
        refine z_get (m := m) (j := 22) (v := .ref (ma m 22)) F hR mw_821 rfl (by decide) rfl dX4_landed_37 ?_
        refine x_iload F dX4_landed_40 4 rfl ?_
        refine z_ildN (m := m) (j := 22) (i := i) F hR (by decide) rfl rfl (Nat.lt_of_lt_of_le hi hW.2.2.1.2) (by decide) dX4_landed_42 ?_
        refine x_iload_n F dX4_landed_43 1 rfl rfl ?_
        refine x_icmp_eq F dX4_landed_44 (tgt := 50) (by decide) (fun h18 => ?_) (fun h18 => ?_)
        · refine x_aload_n F dX4_landed_50 0 rfl rfl ?_
          refine z_get (m := m) (j := 21) (v := .ref (ma m 21)) F hR mw_820 rfl (by decide) rfl dX4_landed_51 ?_
          refine x_iload F dX4_landed_54 4 rfl ?_
          refine z_ildN (m := m) (j := 21) (i := i) F hR (by decide) rfl rfl (Nat.lt_of_lt_of_le hi hW.2.2.1.2) (by decide) dX4_landed_56 ?_
          refine x_iload_n F dX4_landed_57 1 rfl rfl ?_
          refine x_icmp_ne F dX4_landed_58 (tgt := 65) (by decide) (fun h19 => ?_) (fun h19 => ?_)
          · refine x_iconst (v := 0) F rfl dX4_landed_65 ?_
            refine x_istore (lv' := [(5, .int 0), (0, .ref (ma m 30)), (1, .int x), (2, .int w), (3, .int (sumN i (m_ls m x w))), (4, .int (nI i))]) F dX4_landed_66 (by decide) rfl ?_
            refine x_iload_n F dX4_landed_68 3 rfl rfl ?_
            refine x_iconst (v := 2) F rfl dX4_landed_69 ?_
            refine x_icmp_ne F dX4_landed_70 (tgt := 79) (by decide) (fun h20 => ?_) (fun h20 => ?_)
            · refine x_iload_n F dX4_landed_79 3 rfl rfl ?_
              refine x_iconst (v := 3) F rfl dX4_landed_80 ?_
              refine x_icmp_ne F dX4_landed_81 (tgt := 105) (by decide) (fun h21 => ?_) (fun h21 => ?_)
              · refine x_iload_n F dX4_landed_105 3 rfl rfl ?_
                refine x_iconst (v := 4) F rfl dX4_landed_106 ?_
                refine x_icmp_ne F dX4_landed_107 (tgt := 135) (by decide) (fun h22 => ?_) (fun h22 => ?_)
                · refine x_iload_n F dX4_landed_135 4 rfl rfl ?_
                  refine x_iload F dX4_landed_136 0 rfl ?_
                  refine x_if_eq F dX4_landed_138 (tgt := 156) (by decide) (fun _ => ?_) (fun h23 => absurd (by decide) h23)
                  refine x_iconst (v := 0) F rfl dX4_landed_156 ?_
                  refine x_iadd F dX4_landed_157 ?_
                  refine x_istore_n (lv' := [(3, .int ((sumN i (m_ls m x w)) + 0)), (5, .int 0), (0, .ref (ma m 30)), (1, .int x), (2, .int w), (4, .int (nI i))]) F dX4_landed_158 rfl (by decide) rfl ?_
                  refine x_iinc (j := 5) (v := nI (i + 1)) (lv' := [(4, .int (nI (i + 1))), (3, .int ((sumN i (m_ls m x w)) + 0)), (5, .int 0), (0, .ref (ma m 30)), (1, .int x), (2, .int w)]) F dX4_landed_159 rfl (nI_1 _) (by decide) rfl ?_
                  refine x_goto F dX4_landed_162 (tgt := 5) (by decide) ?_
                  refine wx_sub (lv' := [(0, .ref (ma m 30)), (1, .int x), (2, .int w), (3, .int ((sumN i (m_ls m x w)) + 0)), (4, .int (nI (i + 1)))]) [3, 4, 5, 1, 0] rfl ?_
                  refine wx_lv (lv' := [(0, .ref (ma m 30)), (1, .int x), (2, .int w), (3, .int (sumN (i + 1) (m_ls m x w))), (4, .int (nI (i + 1)))]) (by first | (simp [sumN, m_ls, h3, h4, h18, h19, h20, h21, h22]; done) | (exfalso; simp_all; done) | (simp_all [sumN, m_ls]; done)) ?_
                  exact ih5
                · refine x_iload_n F dX4_landed_110 4 rfl rfl ?_
                  refine x_iload F dX4_landed_111 0 rfl ?_
                  refine x_if_eq F dX4_landed_113 (tgt := 129) (by decide) (fun _ => ?_) (fun h24 => absurd (by decide) h24)
                  refine x_iconst (v := 0) F rfl dX4_landed_129 ?_
                  refine x_iadd F dX4_landed_130 ?_
                  refine x_istore_n (lv' := [(3, .int ((sumN i (m_ls m x w)) + 0)), (5, .int 0), (0, .ref (ma m 30)), (1, .int x), (2, .int w), (4, .int (nI i))]) F dX4_landed_131 rfl (by decide) rfl ?_
                  refine x_goto F dX4_landed_132 (tgt := 159) (by decide) ?_
                  refine x_iinc (j := 5) (v := nI (i + 1)) (lv' := [(4, .int (nI (i + 1))), (3, .int ((sumN i (m_ls m x w)) + 0)), (5, .int 0), (0, .ref (ma m 30)), (1, .int x), (2, .int w)]) F dX4_landed_159 rfl (nI_1 _) (by decide) rfl ?_
                  refine x_goto F dX4_landed_162 (tgt := 5) (by decide) ?_
                  refine wx_sub (lv' := [(0, .ref (ma m 30)), (1, .int x), (2, .int w), (3, .int ((sumN i (m_ls m x w)) + 0)), (4, .int (nI (i + 1)))]) [3, 4, 5, 1, 0] rfl ?_
                  refine wx_lv (lv' := [(0, .ref (ma m 30)), (1, .int x), (2, .int w), (3, .int (sumN (i + 1) (m_ls m x w))), (4, .int (nI (i + 1)))]) (by first | (simp [sumN, m_ls, h3, h4, h18, h19, h20, h21, h22]; done) | (exfalso; simp_all; done) | (simp_all [sumN, m_ls]; done)) ?_
                  exact ih5
              · refine x_iload_n F dX4_landed_84 4 rfl rfl ?_
                refine x_aload_n F dX4_landed_85 1 rfl rfl ?_
                refine z_get (m := m) (j := 28) (v := .ref (ma m 28)) F hR mw_827 rfl (by decide) rfl dX4_landed_86 ?_
                refine x_iload F dX4_landed_89 5 rfl ?_
                refine z_ildN (m := m) (j := 28) (i := i) F hR (by decide) rfl rfl (Nat.lt_of_lt_of_le hi hW.2.2.1.2) (by decide) dX4_landed_91 ?_
                refine x_aload_n F dX4_landed_92 1 rfl rfl ?_
                refine z_get (m := m) (j := 27) (v := .ref (ma m 27)) F hR mw_826 rfl (by decide) rfl dX4_landed_93 ?_
                refine x_iload F dX4_landed_96 5 rfl ?_
                refine z_ildN (m := m) (j := 27) (i := i) F hR (by decide) rfl rfl (Nat.lt_of_lt_of_le hi hW.2.2.1.2) (by decide) dX4_landed_98 ?_
                refine x_isub F dX4_landed_99 ?_
                refine x_iadd F dX4_landed_100 ?_
                refine x_istore_n (lv' := [(3, .int ((sumN i (m_ls m x w)) + ((mZ m 28 i) - (mZ m 27 i)))), (5, .int 0), (0, .ref (ma m 30)), (1, .int x), (2, .int w), (4, .int (nI i))]) F dX4_landed_101 rfl (by decide) rfl ?_
                refine x_goto F dX4_landed_102 (tgt := 159) (by decide) ?_
                refine x_iinc (j := 5) (v := nI (i + 1)) (lv' := [(4, .int (nI (i + 1))), (3, .int ((sumN i (m_ls m x w)) + ((mZ m 28 i) - (mZ m 27 i)))), (5, .int 0), (0, .ref (ma m 30)), (1, .int x), (2, .int w)]) F dX4_landed_159 rfl (nI_1 _) (by decide) rfl ?_
                refine x_goto F dX4_landed_162 (tgt := 5) (by decide) ?_
                refine wx_sub (lv' := [(0, .ref (ma m 30)), (1, .int x), (2, .int w), (3, .int ((sumN i (m_ls m x w)) + ((mZ m 28 i) - (mZ m 27 i)))), (4, .int (nI (i + 1)))]) [3, 4, 5, 1, 0] rfl ?_
                refine wx_lv (lv' := [(0, .ref (ma m 30)), (1, .int x), (2, .int w), (3, .int (sumN (i + 1) (m_ls m x w))), (4, .int (nI (i + 1)))]) (by first | (simp [sumN, m_ls, h3, h4, h18, h19, h20, h21]; done) | (exfalso; simp_all; done) | (simp_all [sumN, m_ls]; done)) ?_
                exact ih5
            · refine x_iinc (j := 4) (v := (sumN i (m_ls m x w)) + 1) (lv' := [(3, .int ((sumN i (m_ls m x w)) + 1)), (5, .int 0), (0, .ref (ma m 30)), (1, .int x), (2, .int w), (4, .int (nI i))]) F dX4_landed_73 rfl rfl (by decide) rfl ?_
              refine x_goto F dX4_landed_76 (tgt := 159) (by decide) ?_
              refine x_iinc (j := 5) (v := nI (i + 1)) (lv' := [(4, .int (nI (i + 1))), (3, .int ((sumN i (m_ls m x w)) + 1)), (5, .int 0), (0, .ref (ma m 30)), (1, .int x), (2, .int w)]) F dX4_landed_159 rfl (nI_1 _) (by decide) rfl ?_
              refine x_goto F dX4_landed_162 (tgt := 5) (by decide) ?_
              refine wx_sub (lv' := [(0, .ref (ma m 30)), (1, .int x), (2, .int w), (3, .int ((sumN i (m_ls m x w)) + 1)), (4, .int (nI (i + 1)))]) [3, 4, 5, 1, 0] rfl ?_
              refine wx_lv (lv' := [(0, .ref (ma m 30)), (1, .int x), (2, .int w), (3, .int (sumN (i + 1) (m_ls m x w))), (4, .int (nI (i + 1)))]) (by first | (simp [sumN, m_ls, h3, h4, h18, h19, h20]; done) | (exfalso; simp_all; done) | (simp_all [sumN, m_ls]; done)) ?_
              exact ih5
          · refine x_iconst (v := 1) F rfl dX4_landed_61 ?_
            refine x_goto F dX4_landed_62 (tgt := 66) (by decide) ?_
            refine x_istore (lv' := [(5, .int 1), (0, .ref (ma m 30)), (1, .int x), (2, .int w), (3, .int (sumN i (m_ls m x w))), (4, .int (nI i))]) F dX4_landed_66 (by decide) rfl ?_
            refine x_iload_n F dX4_landed_68 3 rfl rfl ?_
            refine x_iconst (v := 2) F rfl dX4_landed_69 ?_
            refine x_icmp_ne F dX4_landed_70 (tgt := 79) (by decide) (fun h25 => ?_) (fun h25 => ?_)
            · refine x_iload_n F dX4_landed_79 3 rfl rfl ?_
              refine x_iconst (v := 3) F rfl dX4_landed_80 ?_
              refine x_icmp_ne F dX4_landed_81 (tgt := 105) (by decide) (fun h26 => ?_) (fun h26 => ?_)
              · refine x_iload_n F dX4_landed_105 3 rfl rfl ?_
                refine x_iconst (v := 4) F rfl dX4_landed_106 ?_
                refine x_icmp_ne F dX4_landed_107 (tgt := 135) (by decide) (fun h27 => ?_) (fun h27 => ?_)
                · refine x_iload_n F dX4_landed_135 4 rfl rfl ?_
                  refine x_iload F dX4_landed_136 0 rfl ?_
                  refine x_if_eq F dX4_landed_138 (tgt := 156) (by decide) (fun h28 => absurd h28 (by decide)) (fun _ => ?_)
                  refine x_aload_n F dX4_landed_141 1 rfl rfl ?_
                  refine z_get (m := m) (j := 22) (v := .ref (ma m 22)) F hR mw_821 rfl (by decide) rfl dX4_landed_142 ?_
                  refine x_iload F dX4_landed_145 5 rfl ?_
                  refine z_ildN (m := m) (j := 22) (i := i) F hR (by decide) rfl rfl (Nat.lt_of_lt_of_le hi hW.2.2.1.2) (by decide) dX4_landed_147 ?_
                  refine x_iconst (v := (-1)) F rfl dX4_landed_148 ?_
                  refine x_icmp_ne F dX4_landed_149 (tgt := 156) (by decide) (fun h29 => ?_) (fun h29 => ?_)
                  · refine x_iconst (v := 0) F rfl dX4_landed_156 ?_
                    refine x_iadd F dX4_landed_157 ?_
                    refine x_istore_n (lv' := [(3, .int ((sumN i (m_ls m x w)) + 0)), (5, .int 1), (0, .ref (ma m 30)), (1, .int x), (2, .int w), (4, .int (nI i))]) F dX4_landed_158 rfl (by decide) rfl ?_
                    refine x_iinc (j := 5) (v := nI (i + 1)) (lv' := [(4, .int (nI (i + 1))), (3, .int ((sumN i (m_ls m x w)) + 0)), (5, .int 1), (0, .ref (ma m 30)), (1, .int x), (2, .int w)]) F dX4_landed_159 rfl (nI_1 _) (by decide) rfl ?_
                    refine x_goto F dX4_landed_162 (tgt := 5) (by decide) ?_
                    refine wx_sub (lv' := [(0, .ref (ma m 30)), (1, .int x), (2, .int w), (3, .int ((sumN i (m_ls m x w)) + 0)), (4, .int (nI (i + 1)))]) [3, 4, 5, 1, 0] rfl ?_
                    refine wx_lv (lv' := [(0, .ref (ma m 30)), (1, .int x), (2, .int w), (3, .int (sumN (i + 1) (m_ls m x w))), (4, .int (nI (i + 1)))]) (by first | (simp [sumN, m_ls, h3, h4, h18, h19, h25, h26, h27, h29]; done) | (exfalso; simp_all; done) | (simp_all [sumN, m_ls]; done)) ?_
                    exact ih5
                  · refine x_iconst (v := 1) F rfl dX4_landed_152 ?_
                    refine x_goto F dX4_landed_153 (tgt := 157) (by decide) ?_
                    refine x_iadd F dX4_landed_157 ?_
                    refine x_istore_n (lv' := [(3, .int ((sumN i (m_ls m x w)) + 1)), (5, .int 1), (0, .ref (ma m 30)), (1, .int x), (2, .int w), (4, .int (nI i))]) F dX4_landed_158 rfl (by decide) rfl ?_
                    refine x_iinc (j := 5) (v := nI (i + 1)) (lv' := [(4, .int (nI (i + 1))), (3, .int ((sumN i (m_ls m x w)) + 1)), (5, .int 1), (0, .ref (ma m 30)), (1, .int x), (2, .int w)]) F dX4_landed_159 rfl (nI_1 _) (by decide) rfl ?_
                    refine x_goto F dX4_landed_162 (tgt := 5) (by decide) ?_
                    refine wx_sub (lv' := [(0, .ref (ma m 30)), (1, .int x), (2, .int w), (3, .int ((sumN i (m_ls m x w)) + 1)), (4, .int (nI (i + 1)))]) [3, 4, 5, 1, 0] rfl ?_
                    refine wx_lv (lv' := [(0, .ref (ma m 30)), (1, .int x), (2, .int w), (3, .int (sumN (i + 1) (m_ls m x w))), (4, .int (nI (i + 1)))]) (by first | (simp [sumN, m_ls, h3, h4, h18, h19, h25, h26, h27, h29]; done) | (exfalso; simp_all; done) | (simp_all [sumN, m_ls]; done)) ?_
                    exact ih5
                · refine x_iload_n F dX4_landed_110 4 rfl rfl ?_
                  refine x_iload F dX4_landed_111 0 rfl ?_
                  refine x_if_eq F dX4_landed_113 (tgt := 129) (by decide) (fun h30 => absurd h30 (by decide)) (fun _ => ?_)
                  refine x_aload_n F dX4_landed_116 1 rfl rfl ?_
                  refine x_iload F dX4_landed_117 5 rfl ?_
                  refine x_callVp (rest := [.int (sumN i (m_ls m x w))]) F hR.2.2.1 rfl (c_X4_withTeacher l G A m i hi hW) k_X4_109 ⟨(Nat.le_of_ble_eq_true rfl), (Nat.le_of_ble_eq_true rfl), rfl, rfl⟩ (Nat.le_of_ble_eq_true rfl) (Nat.le_of_ble_eq_true rfl) dX4_landed_119 rfl rfl (Nat.le_of_ble_eq_true rfl) hR ?_
                  refine x_if_eq F dX4_landed_122 (tgt := 129) (by decide) (fun h31 => ?_) (fun h31 => ?_)
                  · replace h31 := bI_0.mp h31
                    refine x_iconst (v := 0) F rfl dX4_landed_129 ?_
                    refine x_iadd F dX4_landed_130 ?_
                    refine x_istore_n (lv' := [(3, .int ((sumN i (m_ls m x w)) + 0)), (5, .int 1), (0, .ref (ma m 30)), (1, .int x), (2, .int w), (4, .int (nI i))]) F dX4_landed_131 rfl (by decide) rfl ?_
                    refine x_goto F dX4_landed_132 (tgt := 159) (by decide) ?_
                    refine x_iinc (j := 5) (v := nI (i + 1)) (lv' := [(4, .int (nI (i + 1))), (3, .int ((sumN i (m_ls m x w)) + 0)), (5, .int 1), (0, .ref (ma m 30)), (1, .int x), (2, .int w)]) F dX4_landed_159 rfl (nI_1 _) (by decide) rfl ?_
                    refine x_goto F dX4_landed_162 (tgt := 5) (by decide) ?_
                    refine wx_sub (lv' := [(0, .ref (ma m 30)), (1, .int x), (2, .int w), (3, .int ((sumN i (m_ls m x w)) + 0)), (4, .int (nI (i + 1)))]) [3, 4, 5, 1, 0] rfl ?_
                    refine wx_lv (lv' := [(0, .ref (ma m 30)), (1, .int x), (2, .int w), (3, .int (sumN (i + 1) (m_ls m x w))), (4, .int (nI (i + 1)))]) (by first | (simp [sumN, m_ls, h3, h4, h18, h19, h25, h26, h27, h31]; done) | (exfalso; simp_all; done) | (simp_all [sumN, m_ls]; done)) ?_
                    exact ih5
                  · replace h31 := bI_ne.mp h31
                    refine x_iconst (v := 1) F rfl dX4_landed_125 ?_
                    refine x_goto F dX4_landed_126 (tgt := 130) (by decide) ?_
                    refine x_iadd F dX4_landed_130 ?_
                    refine x_istore_n (lv' := [(3, .int ((sumN i (m_ls m x w)) + 1)), (5, .int 1), (0, .ref (ma m 30)), (1, .int x), (2, .int w), (4, .int (nI i))]) F dX4_landed_131 rfl (by decide) rfl ?_
                    refine x_goto F dX4_landed_132 (tgt := 159) (by decide) ?_
                    refine x_iinc (j := 5) (v := nI (i + 1)) (lv' := [(4, .int (nI (i + 1))), (3, .int ((sumN i (m_ls m x w)) + 1)), (5, .int 1), (0, .ref (ma m 30)), (1, .int x), (2, .int w)]) F dX4_landed_159 rfl (nI_1 _) (by decide) rfl ?_
                    refine x_goto F dX4_landed_162 (tgt := 5) (by decide) ?_
                    refine wx_sub (lv' := [(0, .ref (ma m 30)), (1, .int x), (2, .int w), (3, .int ((sumN i (m_ls m x w)) + 1)), (4, .int (nI (i + 1)))]) [3, 4, 5, 1, 0] rfl ?_
                    refine wx_lv (lv' := [(0, .ref (ma m 30)), (1, .int x), (2, .int w), (3, .int (sumN (i + 1) (m_ls m x w))), (4, .int (nI (i + 1)))]) (by first | (simp [sumN, m_ls, h3, h4, h18, h19, h25, h26, h27, h31]; done) | (exfalso; simp_all; done) | (simp_all [sumN, m_ls]; done)) ?_
                    exact ih5
              · refine x_iload_n F dX4_landed_84 4 rfl rfl ?_
                refine x_aload_n F dX4_landed_85 1 rfl rfl ?_
                refine z_get (m := m) (j := 28) (v := .ref (ma m 28)) F hR mw_827 rfl (by decide) rfl dX4_landed_86 ?_
                refine x_iload F dX4_landed_89 5 rfl ?_
                refine z_ildN (m := m) (j := 28) (i := i) F hR (by decide) rfl rfl (Nat.lt_of_lt_of_le hi hW.2.2.1.2) (by decide) dX4_landed_91 ?_
                refine x_aload_n F dX4_landed_92 1 rfl rfl ?_
                refine z_get (m := m) (j := 27) (v := .ref (ma m 27)) F hR mw_826 rfl (by decide) rfl dX4_landed_93 ?_
                refine x_iload F dX4_landed_96 5 rfl ?_
                refine z_ildN (m := m) (j := 27) (i := i) F hR (by decide) rfl rfl (Nat.lt_of_lt_of_le hi hW.2.2.1.2) (by decide) dX4_landed_98 ?_
                refine x_isub F dX4_landed_99 ?_
                refine x_iadd F dX4_landed_100 ?_
                refine x_istore_n (lv' := [(3, .int ((sumN i (m_ls m x w)) + ((mZ m 28 i) - (mZ m 27 i)))), (5, .int 1), (0, .ref (ma m 30)), (1, .int x), (2, .int w), (4, .int (nI i))]) F dX4_landed_101 rfl (by decide) rfl ?_
                refine x_goto F dX4_landed_102 (tgt := 159) (by decide) ?_
                refine x_iinc (j := 5) (v := nI (i + 1)) (lv' := [(4, .int (nI (i + 1))), (3, .int ((sumN i (m_ls m x w)) + ((mZ m 28 i) - (mZ m 27 i)))), (5, .int 1), (0, .ref (ma m 30)), (1, .int x), (2, .int w)]) F dX4_landed_159 rfl (nI_1 _) (by decide) rfl ?_
                refine x_goto F dX4_landed_162 (tgt := 5) (by decide) ?_
                refine wx_sub (lv' := [(0, .ref (ma m 30)), (1, .int x), (2, .int w), (3, .int ((sumN i (m_ls m x w)) + ((mZ m 28 i) - (mZ m 27 i)))), (4, .int (nI (i + 1)))]) [3, 4, 5, 1, 0] rfl ?_
                refine wx_lv (lv' := [(0, .ref (ma m 30)), (1, .int x), (2, .int w), (3, .int (sumN (i + 1) (m_ls m x w))), (4, .int (nI (i + 1)))]) (by first | (simp [sumN, m_ls, h3, h4, h18, h19, h25, h26]; done) | (exfalso; simp_all; done) | (simp_all [sumN, m_ls]; done)) ?_
                exact ih5
            · refine x_iinc (j := 4) (v := (sumN i (m_ls m x w)) + 1) (lv' := [(3, .int ((sumN i (m_ls m x w)) + 1)), (5, .int 1), (0, .ref (ma m 30)), (1, .int x), (2, .int w), (4, .int (nI i))]) F dX4_landed_73 rfl rfl (by decide) rfl ?_
              refine x_goto F dX4_landed_76 (tgt := 159) (by decide) ?_
              refine x_iinc (j := 5) (v := nI (i + 1)) (lv' := [(4, .int (nI (i + 1))), (3, .int ((sumN i (m_ls m x w)) + 1)), (5, .int 1), (0, .ref (ma m 30)), (1, .int x), (2, .int w)]) F dX4_landed_159 rfl (nI_1 _) (by decide) rfl ?_
              refine x_goto F dX4_landed_162 (tgt := 5) (by decide) ?_
              refine wx_sub (lv' := [(0, .ref (ma m 30)), (1, .int x), (2, .int w), (3, .int ((sumN i (m_ls m x w)) + 1)), (4, .int (nI (i + 1)))]) [3, 4, 5, 1, 0] rfl ?_
              refine wx_lv (lv' := [(0, .ref (ma m 30)), (1, .int x), (2, .int w), (3, .int (sumN (i + 1) (m_ls m x w))), (4, .int (nI (i + 1)))]) (by first | (simp [sumN, m_ls, h3, h4, h18, h19, h25]; done) | (exfalso; simp_all; done) | (simp_all [sumN, m_ls]; done)) ?_
              exact ih5
        · refine x_goto F dX4_landed_47 (tgt := 159) (by decide) ?_
          refine x_iinc (j := 4) (v := nI (i + 1)) (lv' := [(4, .int (nI (i + 1))), (0, .ref (ma m 30)), (1, .int x), (2, .int w), (3, .int (sumN i (m_ls m x w)))]) F dX4_landed_159 rfl (nI_1 _) (by decide) rfl ?_
          refine x_goto F dX4_landed_162 (tgt := 5) (by decide) ?_
          refine wx_sub (lv' := [(0, .ref (ma m 30)), (1, .int x), (2, .int w), (3, .int (sumN i (m_ls m x w))), (4, .int (nI (i + 1)))]) [1, 2, 3, 4, 0] rfl ?_
          refine wx_lv (lv' := [(0, .ref (ma m 30)), (1, .int x), (2, .int w), (3, .int (sumN (i + 1) (m_ls m x w))), (4, .int (nI (i + 1)))]) (by first | (simp [sumN, m_ls, h3, h4, h18]; done) | (exfalso; simp_all; done) | (simp_all [sumN, m_ls]; done)) ?_
          exact ih5
set_option maxHeartbeats 4000000 in
set_option maxRecDepth 100000 in
theorem c_X4_costOf (l : Launch) (G : GT) (A : Nat → Prop) (m : MS) (i : Nat) (hi : i < mf m) (hW : WfM m) : Ct l yX4_costOf cX4_costOf 2 (some .int) ({ frames := 1, cells := 0, slots := 0, locals := 15 } : Room) G A [.ref (ma m 30), .int (nI i)] (fun H => RepM G A m H) (Pu (.int (m_cost m i))) := by
  refine ct_of (own := "GliderDayModel") (by decide +kernel) rfl (Nat.le_of_ble_eq_true rfl) (fun E H0 F hE hR => ?_)
  show wx E H0 0 0 0 [(0, .ref (ma m 30)), (1, .int (nI i))] []
  refine x_aload_n F dX4_costOf_0 0 rfl rfl ?_
  refine z_get (m := m) (j := 29) (v := .ref (ma m 29)) F hR mw_828 rfl (by decide) rfl dX4_costOf_1 ?_
  refine x_iload_n F dX4_costOf_4 1 rfl rfl ?_
  refine z_ildN (m := m) (j := 29) (i := i) F hR (by decide) rfl rfl (Nat.lt_of_lt_of_le hi hW.2.2.1.2) (by decide) dX4_costOf_5 ?_
  refine x_iconst (v := 2) F rfl dX4_costOf_6 ?_
  refine x_icmp_eq F dX4_costOf_7 (tgt := 12) (by decide) (fun h1 => ?_) (fun h1 => ?_)
  · refine x_aload_n F dX4_costOf_12 0 rfl rfl ?_
    refine z_get (m := m) (j := 24) (v := .ref (ma m 24)) F hR mw_823 rfl (by decide) rfl dX4_costOf_13 ?_
    refine x_iload_n F dX4_costOf_16 1 rfl rfl ?_
    refine z_ildN (m := m) (j := 24) (i := i) F hR (by decide) rfl rfl (Nat.lt_of_lt_of_le hi hW.2.2.1.2) (by decide) dX4_costOf_17 ?_
    refine x_if_ne F dX4_costOf_18 (tgt := 26) (by decide) (fun h2 => ?_) (fun h2 => ?_)
    · refine x_aload_n F dX4_costOf_26 0 rfl rfl ?_
      refine z_get (m := m) (j := 24) (v := .ref (ma m 24)) F hR mw_823 rfl (by decide) rfl dX4_costOf_27 ?_
      refine x_iload_n F dX4_costOf_30 1 rfl rfl ?_
      refine z_ildN (m := m) (j := 24) (i := i) F hR (by decide) rfl rfl (Nat.lt_of_lt_of_le hi hW.2.2.1.2) (by decide) dX4_costOf_31 ?_
      refine x_bipush (v := 20) F rfl dX4_costOf_32 ?_
      refine x_idiv F dX4_costOf_34 (by decide) ?_
      refine x_aload_n F dX4_costOf_35 0 rfl rfl ?_
      refine z_get (m := m) (j := 14) (v := .ref (ma m 14)) F hR mw_813 rfl (by decide) rfl dX4_costOf_36 ?_
      refine x_aload_n F dX4_costOf_39 0 rfl rfl ?_
      refine z_get (m := m) (j := 23) (v := .ref (ma m 23)) F hR mw_822 rfl (by decide) rfl dX4_costOf_40 ?_
      refine x_iload_n F dX4_costOf_43 1 rfl rfl ?_
      refine z_ildN (m := m) (j := 23) (i := i) F hR (by decide) rfl rfl (Nat.lt_of_lt_of_le hi hW.2.2.1.2) (by decide) dX4_costOf_44 ?_
      refine wx_i (y := nI (tN (mZ m 23 i))) ((hW.2.2.2 _ hi).2.2.1) ?_
      refine z_ildN (m := m) (j := 14) (i := (tN (mZ m 23 i))) F hR (by decide) rfl rfl (Nat.lt_of_lt_of_le (hW.2.2.2 _ hi).2.2.2 hW.2.1.2) (by decide) dX4_costOf_45 ?_
      refine x_sipush (v := 180) F rfl dX4_costOf_46 ?_
      refine x_aload_n F dX4_costOf_49 0 rfl rfl ?_
      refine z_get (m := m) (j := 28) (v := .ref (ma m 28)) F hR mw_827 rfl (by decide) rfl dX4_costOf_50 ?_
      refine x_iload_n F dX4_costOf_53 1 rfl rfl ?_
      refine z_ildN (m := m) (j := 28) (i := i) F hR (by decide) rfl rfl (Nat.lt_of_lt_of_le hi hW.2.2.1.2) (by decide) dX4_costOf_54 ?_
      refine x_aload_n F dX4_costOf_55 0 rfl rfl ?_
      refine z_get (m := m) (j := 27) (v := .ref (ma m 27)) F hR mw_826 rfl (by decide) rfl dX4_costOf_56 ?_
      refine x_iload_n F dX4_costOf_59 1 rfl rfl ?_
      refine z_ildN (m := m) (j := 27) (i := i) F hR (by decide) rfl rfl (Nat.lt_of_lt_of_le hi hW.2.2.1.2) (by decide) dX4_costOf_60 ?_
      refine x_isub F dX4_costOf_61 ?_
      refine x_mmin F mw_1049 mw_414 mw_67 mw_415 (Nat.le_of_ble_eq_true rfl) (Nat.le_of_ble_eq_true rfl) (Nat.le_of_ble_eq_true rfl) (Nat.le_of_ble_eq_true rfl) dX4_costOf_62 ?_
      refine x_imul F dX4_costOf_65 ?_
      refine x_iadd F dX4_costOf_66 ?_
      exact x_iret F hE dX4_costOf_67 (Nat.le_of_ble_eq_true rfl) (Nat.le_of_ble_eq_true rfl) (⟨by simp [m_cost, s_price, h1, h2], rfl⟩)
    · refine x_bipush (v := 8) F rfl dX4_costOf_21 ?_
      refine x_goto F dX4_costOf_23 (tgt := 35) (by decide) ?_
      refine x_aload_n F dX4_costOf_35 0 rfl rfl ?_
      refine z_get (m := m) (j := 14) (v := .ref (ma m 14)) F hR mw_813 rfl (by decide) rfl dX4_costOf_36 ?_
      refine x_aload_n F dX4_costOf_39 0 rfl rfl ?_
      refine z_get (m := m) (j := 23) (v := .ref (ma m 23)) F hR mw_822 rfl (by decide) rfl dX4_costOf_40 ?_
      refine x_iload_n F dX4_costOf_43 1 rfl rfl ?_
      refine z_ildN (m := m) (j := 23) (i := i) F hR (by decide) rfl rfl (Nat.lt_of_lt_of_le hi hW.2.2.1.2) (by decide) dX4_costOf_44 ?_
      refine wx_i (y := nI (tN (mZ m 23 i))) ((hW.2.2.2 _ hi).2.2.1) ?_
      refine z_ildN (m := m) (j := 14) (i := (tN (mZ m 23 i))) F hR (by decide) rfl rfl (Nat.lt_of_lt_of_le (hW.2.2.2 _ hi).2.2.2 hW.2.1.2) (by decide) dX4_costOf_45 ?_
      refine x_sipush (v := 180) F rfl dX4_costOf_46 ?_
      refine x_aload_n F dX4_costOf_49 0 rfl rfl ?_
      refine z_get (m := m) (j := 28) (v := .ref (ma m 28)) F hR mw_827 rfl (by decide) rfl dX4_costOf_50 ?_
      refine x_iload_n F dX4_costOf_53 1 rfl rfl ?_
      refine z_ildN (m := m) (j := 28) (i := i) F hR (by decide) rfl rfl (Nat.lt_of_lt_of_le hi hW.2.2.1.2) (by decide) dX4_costOf_54 ?_
      refine x_aload_n F dX4_costOf_55 0 rfl rfl ?_
      refine z_get (m := m) (j := 27) (v := .ref (ma m 27)) F hR mw_826 rfl (by decide) rfl dX4_costOf_56 ?_
      refine x_iload_n F dX4_costOf_59 1 rfl rfl ?_
      refine z_ildN (m := m) (j := 27) (i := i) F hR (by decide) rfl rfl (Nat.lt_of_lt_of_le hi hW.2.2.1.2) (by decide) dX4_costOf_60 ?_
      refine x_isub F dX4_costOf_61 ?_
      refine x_mmin F mw_1049 mw_414 mw_67 mw_415 (Nat.le_of_ble_eq_true rfl) (Nat.le_of_ble_eq_true rfl) (Nat.le_of_ble_eq_true rfl) (Nat.le_of_ble_eq_true rfl) dX4_costOf_62 ?_
      refine x_imul F dX4_costOf_65 ?_
      refine x_iadd F dX4_costOf_66 ?_
      exact x_iret F hE dX4_costOf_67 (Nat.le_of_ble_eq_true rfl) (Nat.le_of_ble_eq_true rfl) (⟨by simp [m_cost, s_price, h1, h2], rfl⟩)
  · refine x_iconst (v := 0) F rfl dX4_costOf_10 ?_
    exact x_iret F hE dX4_costOf_11 (Nat.le_of_ble_eq_true rfl) (Nat.le_of_ble_eq_true rfl) (⟨by simp [m_cost, s_price, h1], rfl⟩)
set_option maxHeartbeats 4000000 in
set_option maxRecDepth 100000 in
theorem c_X4_billOf (l : Launch) (G : GT) (A : Nat → Prop) (m : MS) (i : Nat) (hi : i < mm m) (hW : WfM m) : Ct l yX4_billOf cX4_billOf 4 (some .int) ({ frames := 2, cells := 0, slots := 0, locals := 36 } : Room) G A [.ref (ma m 30), .int (nI i)] (fun H => RepM G A m H) (Pu (.int (m_bill m i))) := by
  refine ct_of (own := "GliderDayModel") (by decide +kernel) rfl (Nat.le_of_ble_eq_true rfl) (fun E H0 F hE hR => ?_)
  show wx E H0 0 0 0 [(0, .ref (ma m 30)), (1, .int (nI i))] []
  refine x_aload_n F dX4_billOf_0 0 rfl rfl ?_
  refine z_get (m := m) (j := 11) (v := .ref (ma m 11)) F hR mw_810 rfl (by decide) rfl dX4_billOf_1 ?_
  refine x_iload_n F dX4_billOf_4 1 rfl rfl ?_
  refine z_ildN (m := m) (j := 11) (i := i) F hR (by decide) rfl rfl (Nat.lt_of_lt_of_le hi hW.1.2) (by decide) dX4_billOf_5 ?_
  refine x_ineg F dX4_billOf_6 ?_
  refine x_istore_n (lv' := [(2, .int (-(mZ m 11 i))), (0, .ref (ma m 30)), (1, .int (nI i))]) F dX4_billOf_7 rfl (by decide) rfl ?_
  refine x_iconst (v := 0) F rfl dX4_billOf_8 ?_
  refine x_istore_n (lv' := [(3, .int 0), (2, .int (-(mZ m 11 i))), (0, .ref (ma m 30)), (1, .int (nI i))]) F dX4_billOf_9 rfl (by decide) rfl ?_
  refine wx_sub (lv' := [(0, .ref (ma m 30)), (1, .int (nI i)), (2, .int (-(mZ m 11 i))), (3, .int 0)]) [2, 3, 1, 0] rfl ?_
  refine wx_lv (lv' := [(0, .ref (ma m 30)), (1, .int (nI i)), (2, .int (-(mZ m 11 i) + sumN 0 (fun f => if mZ m 21 f = nI i then m_cost m f else 0))), (3, .int 0)]) (by simp [sumN]) ?_
  refine (loop_dn (N := (mf m)) (P := fun j => wx E H0 0 0 10 [(0, .ref (ma m 30)), (1, .int (nI i)), (2, .int (-(mZ m 11 i) + sumN j (fun f => if mZ m 21 f = nI i then m_cost m f else 0))), (3, .int (nI j))] []) ?_ ?_) 0 (Nat.zero_le _)
  · refine x_iload_n F dX4_billOf_10 3 rfl rfl ?_
    refine x_aload_n F dX4_billOf_11 0 rfl rfl ?_
    refine z_get (m := m) (j := 20) (v := .int (mY m 20)) F hR mw_819 rfl (by decide) rfl dX4_billOf_12 ?_
    refine wx_i (y := nI (mf m)) hW.2.2.1.1 ?_
    refine x_icmp_ge F dX4_billOf_15 (tgt := 46) (by decide) (fun _ => ?_) (fun h1 => absurd (Int32.le_refl _) h1)
    refine x_iload_n F dX4_billOf_46 2 rfl rfl ?_
    exact x_iret F hE dX4_billOf_47 (Nat.le_of_ble_eq_true rfl) (Nat.le_of_ble_eq_true rfl) (⟨rfl, rfl⟩)
  · intro j hj ih10
    refine x_iload_n F dX4_billOf_10 3 rfl rfl ?_
    refine x_aload_n F dX4_billOf_11 0 rfl rfl ?_
    refine z_get (m := m) (j := 20) (v := .int (mY m 20)) F hR mw_819 rfl (by decide) rfl dX4_billOf_12 ?_
    refine wx_i (y := nI (mf m)) hW.2.2.1.1 ?_
    refine x_icmp_ge F dX4_billOf_15 (tgt := 46) (by decide) (fun h2 => absurd h2 (nI_ge hj ((Nat.lt_of_le_of_lt hW.2.2.1.2 (by decide))))) (fun _ => ?_)
    refine x_iload_n F dX4_billOf_18 2 rfl rfl ?_
    refine x_aload_n F dX4_billOf_19 0 rfl rfl ?_
    refine z_get (m := m) (j := 21) (v := .ref (ma m 21)) F hR mw_820 rfl (by decide) rfl dX4_billOf_20 ?_
    refine x_iload_n F dX4_billOf_23 3 rfl rfl ?_
    refine z_ildN (m := m) (j := 21) (i := j) F hR (by decide) rfl rfl (Nat.lt_of_lt_of_le hj hW.2.2.1.2) (by decide) dX4_billOf_24 ?_
    refine x_iload_n F dX4_billOf_25 1 rfl rfl ?_
    refine x_icmp_ne F dX4_billOf_26 (tgt := 37) (by decide) (fun h3 => ?_) (fun h3 => ?_)
    · refine x_iconst (v := 0) F rfl dX4_billOf_37 ?_
      refine x_iadd F dX4_billOf_38 ?_
      refine x_istore_n (lv' := [(2, .int ((-(mZ m 11 i) + sumN j (fun f => if mZ m 21 f = nI i then m_cost m f else 0)) + 0)), (0, .ref (ma m 30)), (1, .int (nI i)), (3, .int (nI j))]) F dX4_billOf_39 rfl (by decide) rfl ?_
      refine x_iinc (j := 3) (v := nI (j + 1)) (lv' := [(3, .int (nI (j + 1))), (2, .int ((-(mZ m 11 i) + sumN j (fun f => if mZ m 21 f = nI i then m_cost m f else 0)) + 0)), (0, .ref (ma m 30)), (1, .int (nI i))]) F dX4_billOf_40 rfl (nI_1 _) (by decide) rfl ?_
      refine x_goto F dX4_billOf_43 (tgt := 10) (by decide) ?_
      refine wx_sub (lv' := [(0, .ref (ma m 30)), (1, .int (nI i)), (2, .int ((-(mZ m 11 i) + sumN j (fun f => if mZ m 21 f = nI i then m_cost m f else 0)) + 0)), (3, .int (nI (j + 1)))]) [2, 3, 1, 0] rfl ?_
      refine wx_lv (lv' := [(0, .ref (ma m 30)), (1, .int (nI i)), (2, .int (-(mZ m 11 i) + sumN (j + 1) (fun f => if mZ m 21 f = nI i then m_cost m f else 0))), (3, .int (nI (j + 1)))]) (by first | (simp [sumN, Int32.add_assoc, h3]; done) | (exfalso; simp_all; done) | (simp_all [sumN, Int32.add_assoc]; done)) ?_
      exact ih10
    · refine x_aload_n F dX4_billOf_29 0 rfl rfl ?_
      refine x_iload_n F dX4_billOf_30 3 rfl rfl ?_
      refine x_callVp (rest := [.int (-(mZ m 11 i) + sumN j (fun f => if mZ m 21 f = nI i then m_cost m f else 0))]) F hR.2.2.1 rfl (c_X4_costOf l G A m j hj hW) k_X4_174 ⟨(Nat.le_of_ble_eq_true rfl), (Nat.le_of_ble_eq_true rfl), rfl, rfl⟩ (Nat.le_of_ble_eq_true rfl) (Nat.le_of_ble_eq_true rfl) dX4_billOf_31 rfl rfl (Nat.le_of_ble_eq_true rfl) hR ?_
      refine x_goto F dX4_billOf_34 (tgt := 38) (by decide) ?_
      refine x_iadd F dX4_billOf_38 ?_
      refine x_istore_n (lv' := [(2, .int ((-(mZ m 11 i) + sumN j (fun f => if mZ m 21 f = nI i then m_cost m f else 0)) + (m_cost m j))), (0, .ref (ma m 30)), (1, .int (nI i)), (3, .int (nI j))]) F dX4_billOf_39 rfl (by decide) rfl ?_
      refine x_iinc (j := 3) (v := nI (j + 1)) (lv' := [(3, .int (nI (j + 1))), (2, .int ((-(mZ m 11 i) + sumN j (fun f => if mZ m 21 f = nI i then m_cost m f else 0)) + (m_cost m j))), (0, .ref (ma m 30)), (1, .int (nI i))]) F dX4_billOf_40 rfl (nI_1 _) (by decide) rfl ?_
      refine x_goto F dX4_billOf_43 (tgt := 10) (by decide) ?_
      refine wx_sub (lv' := [(0, .ref (ma m 30)), (1, .int (nI i)), (2, .int ((-(mZ m 11 i) + sumN j (fun f => if mZ m 21 f = nI i then m_cost m f else 0)) + (m_cost m j))), (3, .int (nI (j + 1)))]) [2, 3, 1, 0] rfl ?_
      refine wx_lv (lv' := [(0, .ref (ma m 30)), (1, .int (nI i)), (2, .int (-(mZ m 11 i) + sumN (j + 1) (fun f => if mZ m 21 f = nI i then m_cost m f else 0))), (3, .int (nI (j + 1)))]) (by first | (simp [sumN, Int32.add_assoc, h3]; done) | (exfalso; simp_all; done) | (simp_all [sumN, Int32.add_assoc]; done)) ?_
      exact ih10
set_option maxHeartbeats 4000000 in
set_option maxRecDepth 100000 in
theorem c_X4_toldOfMember (l : Launch) (G : GT) (A : Nat → Prop) (m : MS) (i : Nat) (hi : i < mm m) (w : Int32) (hW : WfM m) : Ct l yX4_toldOfMember cX4_toldOfMember 3 (some .int) ({ frames := 2, cells := 0, slots := 0, locals := 46 } : Room) G A [.ref (ma m 30), .int (nI i), .int w] (fun H => RepM G A m H) (Pu (.int (m_tm m i w))) := by
  refine ct_of (own := "GliderDayModel") (by decide +kernel) rfl (Nat.le_of_ble_eq_true rfl) (fun E H0 F hE hR => ?_)
  show wx E H0 0 0 0 [(0, .ref (ma m 30)), (1, .int (nI i)), (2, .int w)] []
  refine x_iload_n F dX4_toldOfMember_0 2 rfl rfl ?_
  refine x_if_ne F dX4_toldOfMember_1 (tgt := 13) (by decide) (fun h1 => ?_) (fun h1 => ?_)
  · refine x_iload_n F dX4_toldOfMember_13 2 rfl rfl ?_
    refine x_iconst (v := 1) F rfl dX4_toldOfMember_14 ?_
    refine x_icmp_ne F dX4_toldOfMember_15 (tgt := 34) (by decide) (fun h2 => ?_) (fun h2 => ?_)
    · refine x_aload_n F dX4_toldOfMember_34 0 rfl rfl ?_
      refine x_iload_n F dX4_toldOfMember_35 1 rfl rfl ?_
      refine x_iload_n F dX4_toldOfMember_36 2 rfl rfl ?_
      refine x_callVp (rest := []) F hR.2.2.1 rfl (c_X4_landed l G A m (nI i) w hW) k_X4_115 ⟨(Nat.le_of_ble_eq_true rfl), (Nat.le_of_ble_eq_true rfl), rfl, rfl⟩ (Nat.le_of_ble_eq_true rfl) (Nat.le_of_ble_eq_true rfl) dX4_toldOfMember_37 rfl rfl (Nat.le_of_ble_eq_true rfl) hR ?_
      exact x_iret F hE dX4_toldOfMember_40 (Nat.le_of_ble_eq_true rfl) (Nat.le_of_ble_eq_true rfl) (⟨by simp [m_tm, h1, h2], rfl⟩)
    · refine x_aload_n F dX4_toldOfMember_18 0 rfl rfl ?_
      refine x_iload_n F dX4_toldOfMember_19 1 rfl rfl ?_
      refine x_callVp (rest := []) F hR.2.2.1 rfl (c_X4_flies l G A m (nI i) hW) k_X4_119 ⟨(Nat.le_of_ble_eq_true rfl), (Nat.le_of_ble_eq_true rfl), rfl, rfl⟩ (Nat.le_of_ble_eq_true rfl) (Nat.le_of_ble_eq_true rfl) dX4_toldOfMember_20 rfl rfl (Nat.le_of_ble_eq_true rfl) hR ?_
      refine x_if_eq F dX4_toldOfMember_23 (tgt := 30) (by decide) (fun h3 => ?_) (fun h3 => ?_)
      · replace h3 := bI_0.mp h3
        refine x_iconst (v := 0) F rfl dX4_toldOfMember_30 ?_
        refine x_goto F dX4_toldOfMember_31 (tgt := 40) (by decide) ?_
        exact x_iret F hE dX4_toldOfMember_40 (Nat.le_of_ble_eq_true rfl) (Nat.le_of_ble_eq_true rfl) (⟨by simp [m_tm, h1, h2, h3], rfl⟩)
      · replace h3 := bI_ne.mp h3
        refine x_iconst (v := 1) F rfl dX4_toldOfMember_26 ?_
        refine x_goto F dX4_toldOfMember_27 (tgt := 40) (by decide) ?_
        exact x_iret F hE dX4_toldOfMember_40 (Nat.le_of_ble_eq_true rfl) (Nat.le_of_ble_eq_true rfl) (⟨by simp [m_tm, h1, h2, h3], rfl⟩)
  · refine x_aload_n F dX4_toldOfMember_4 0 rfl rfl ?_
    refine z_get (m := m) (j := 10) (v := .ref (ma m 10)) F hR mw_809 rfl (by decide) rfl dX4_toldOfMember_5 ?_
    refine x_iload_n F dX4_toldOfMember_8 1 rfl rfl ?_
    refine z_ildN (m := m) (j := 10) (i := i) F hR (by decide) rfl rfl (Nat.lt_of_lt_of_le hi hW.1.2) (by decide) dX4_toldOfMember_9 ?_
    refine x_goto F dX4_toldOfMember_10 (tgt := 40) (by decide) ?_
    exact x_iret F hE dX4_toldOfMember_40 (Nat.le_of_ble_eq_true rfl) (Nat.le_of_ble_eq_true rfl) (⟨by simp [m_tm, h1], rfl⟩)
set_option maxHeartbeats 4000000 in
set_option maxRecDepth 100000 in
theorem c_X4_toldOfGlider (l : Launch) (G : GT) (A : Nat → Prop) (m : MS) (i : Nat) (hi : i < mg m) (w : Int32) (hW : WfM m) : Ct l yX4_toldOfGlider cX4_toldOfGlider 5 (some .int) ({ frames := 1, cells := 0, slots := 0, locals := 22 } : Room) G A [.ref (ma m 30), .int (nI i), .int w] (fun H => RepM G A m H) (Pu (.int (m_tg m i w))) := by
  refine ct_of (own := "GliderDayModel") (by decide +kernel) rfl (Nat.le_of_ble_eq_true rfl) (fun E H0 F hE hR => ?_)
  show wx E H0 0 0 0 [(0, .ref (ma m 30)), (1, .int (nI i)), (2, .int w)] []
  refine x_iload_n F dX4_toldOfGlider_0 2 rfl rfl ?_
  refine x_if_ne F dX4_toldOfGlider_1 (tgt := 32) (by decide) (fun h1 => ?_) (fun h1 => ?_)
  · refine x_iload_n F dX4_toldOfGlider_32 2 rfl rfl ?_
    refine x_iconst (v := 1) F rfl dX4_toldOfGlider_33 ?_
    refine x_icmp_ne F dX4_toldOfGlider_34 (tgt := 52) (by decide) (fun h2 => ?_) (fun h2 => ?_)
    · refine x_iload_n F dX4_toldOfGlider_52 2 rfl rfl ?_
      refine x_iconst (v := 4) F rfl dX4_toldOfGlider_53 ?_
      refine x_icmp_ne F dX4_toldOfGlider_54 (tgt := 63) (by decide) (fun h3 => ?_) (fun h3 => ?_)
      · refine x_iconst (v := 0) F rfl dX4_toldOfGlider_63 ?_
        refine x_istore_n (lv' := [(3, .int 0), (0, .ref (ma m 30)), (1, .int (nI i)), (2, .int w)]) F dX4_toldOfGlider_64 rfl (by decide) rfl ?_
        refine x_iconst (v := 0) F rfl dX4_toldOfGlider_65 ?_
        refine x_istore (lv' := [(4, .int 0), (3, .int 0), (0, .ref (ma m 30)), (1, .int (nI i)), (2, .int w)]) F dX4_toldOfGlider_66 (by decide) rfl ?_
        refine wx_sub (lv' := [(0, .ref (ma m 30)), (1, .int (nI i)), (2, .int w), (3, .int 0), (4, .int 0)]) [2, 3, 4, 1, 0] rfl ?_
        refine (loop_dn (N := (mf m)) (P := fun j => wx E H0 0 0 68 [(0, .ref (ma m 30)), (1, .int (nI i)), (2, .int w), (3, .int (sumN j (m_gs m (nI i) w))), (4, .int (nI j))] []) ?_ ?_) 0 (Nat.zero_le _)
        · refine x_iload F dX4_toldOfGlider_68 4 rfl ?_
          refine x_aload_n F dX4_toldOfGlider_70 0 rfl rfl ?_
          refine z_get (m := m) (j := 20) (v := .int (mY m 20)) F hR mw_819 rfl (by decide) rfl dX4_toldOfGlider_71 ?_
          refine wx_i (y := nI (mf m)) hW.2.2.1.1 ?_
          refine x_icmp_ge F dX4_toldOfGlider_74 (tgt := 132) (by decide) (fun _ => ?_) (fun h4 => absurd (Int32.le_refl _) h4)
          refine x_iload_n F dX4_toldOfGlider_132 3 rfl rfl ?_
          exact x_iret F hE dX4_toldOfGlider_133 (Nat.le_of_ble_eq_true rfl) (Nat.le_of_ble_eq_true rfl) (⟨by simp [m_tg, h1, h2, h3], rfl⟩)
        · intro j hj ih68
          refine x_iload F dX4_toldOfGlider_68 4 rfl ?_
          refine x_aload_n F dX4_toldOfGlider_70 0 rfl rfl ?_
          refine z_get (m := m) (j := 20) (v := .int (mY m 20)) F hR mw_819 rfl (by decide) rfl dX4_toldOfGlider_71 ?_
          refine wx_i (y := nI (mf m)) hW.2.2.1.1 ?_
          refine x_icmp_ge F dX4_toldOfGlider_74 (tgt := 132) (by decide) (fun h5 => absurd h5 (nI_ge hj ((Nat.lt_of_le_of_lt hW.2.2.1.2 (by decide))))) (fun _ => ?_)
          refine x_aload_n F dX4_toldOfGlider_77 0 rfl rfl ?_
          refine z_get (m := m) (j := 29) (v := .ref (ma m 29)) F hR mw_828 rfl (by decide) rfl dX4_toldOfGlider_78 ?_
          refine x_iload F dX4_toldOfGlider_81 4 rfl ?_
          refine z_ildN (m := m) (j := 29) (i := j) F hR (by decide) rfl rfl (Nat.lt_of_lt_of_le hj hW.2.2.1.2) (by decide) dX4_toldOfGlider_83 ?_
          refine x_iconst (v := 2) F rfl dX4_toldOfGlider_84 ?_
          refine x_icmp_ne F dX4_toldOfGlider_85 (tgt := 126) (by decide) (fun h6 => ?_) (fun h6 => ?_)
          · refine x_iinc (j := 4) (v := nI (j + 1)) (lv' := [(4, .int (nI (j + 1))), (0, .ref (ma m 30)), (1, .int (nI i)), (2, .int w), (3, .int (sumN j (m_gs m (nI i) w)))]) F dX4_toldOfGlider_126 rfl (nI_1 _) (by decide) rfl ?_
            refine x_goto F dX4_toldOfGlider_129 (tgt := 68) (by decide) ?_
            refine wx_sub (lv' := [(0, .ref (ma m 30)), (1, .int (nI i)), (2, .int w), (3, .int (sumN j (m_gs m (nI i) w))), (4, .int (nI (j + 1)))]) [1, 2, 3, 4, 0] rfl ?_
            refine wx_lv (lv' := [(0, .ref (ma m 30)), (1, .int (nI i)), (2, .int w), (3, .int (sumN (j + 1) (m_gs m (nI i) w))), (4, .int (nI (j + 1)))]) (by first | (simp [sumN, m_gs, h1, h2, h3, h6]; done) | (exfalso; simp_all; done) | (simp_all [sumN, m_gs]; done)) ?_
            exact ih68
          · refine x_aload_n F dX4_toldOfGlider_88 0 rfl rfl ?_
            refine z_get (m := m) (j := 23) (v := .ref (ma m 23)) F hR mw_822 rfl (by decide) rfl dX4_toldOfGlider_89 ?_
            refine x_iload F dX4_toldOfGlider_92 4 rfl ?_
            refine z_ildN (m := m) (j := 23) (i := j) F hR (by decide) rfl rfl (Nat.lt_of_lt_of_le hj hW.2.2.1.2) (by decide) dX4_toldOfGlider_94 ?_
            refine x_iload_n F dX4_toldOfGlider_95 1 rfl rfl ?_
            refine x_icmp_ne F dX4_toldOfGlider_96 (tgt := 126) (by decide) (fun h7 => ?_) (fun h7 => ?_)
            · refine x_iinc (j := 4) (v := nI (j + 1)) (lv' := [(4, .int (nI (j + 1))), (0, .ref (ma m 30)), (1, .int (nI i)), (2, .int w), (3, .int (sumN j (m_gs m (nI i) w)))]) F dX4_toldOfGlider_126 rfl (nI_1 _) (by decide) rfl ?_
              refine x_goto F dX4_toldOfGlider_129 (tgt := 68) (by decide) ?_
              refine wx_sub (lv' := [(0, .ref (ma m 30)), (1, .int (nI i)), (2, .int w), (3, .int (sumN j (m_gs m (nI i) w))), (4, .int (nI (j + 1)))]) [1, 2, 3, 4, 0] rfl ?_
              refine wx_lv (lv' := [(0, .ref (ma m 30)), (1, .int (nI i)), (2, .int w), (3, .int (sumN (j + 1) (m_gs m (nI i) w))), (4, .int (nI (j + 1)))]) (by first | (simp [sumN, m_gs, h1, h2, h3, h6, h7]; done) | (exfalso; simp_all; done) | (simp_all [sumN, m_gs]; done)) ?_
              exact ih68
            · refine x_iload_n F dX4_toldOfGlider_99 3 rfl rfl ?_
              refine x_iload_n F dX4_toldOfGlider_100 2 rfl rfl ?_
              refine x_iconst (v := 2) F rfl dX4_toldOfGlider_101 ?_
              refine x_icmp_ne F dX4_toldOfGlider_102 (tgt := 109) (by decide) (fun h8 => ?_) (fun h8 => ?_)
              · refine x_aload_n F dX4_toldOfGlider_109 0 rfl rfl ?_
                refine z_get (m := m) (j := 28) (v := .ref (ma m 28)) F hR mw_827 rfl (by decide) rfl dX4_toldOfGlider_110 ?_
                refine x_iload F dX4_toldOfGlider_113 4 rfl ?_
                refine z_ildN (m := m) (j := 28) (i := j) F hR (by decide) rfl rfl (Nat.lt_of_lt_of_le hj hW.2.2.1.2) (by decide) dX4_toldOfGlider_115 ?_
                refine x_aload_n F dX4_toldOfGlider_116 0 rfl rfl ?_
                refine z_get (m := m) (j := 27) (v := .ref (ma m 27)) F hR mw_826 rfl (by decide) rfl dX4_toldOfGlider_117 ?_
                refine x_iload F dX4_toldOfGlider_120 4 rfl ?_
                refine z_ildN (m := m) (j := 27) (i := j) F hR (by decide) rfl rfl (Nat.lt_of_lt_of_le hj hW.2.2.1.2) (by decide) dX4_toldOfGlider_122 ?_
                refine x_isub F dX4_toldOfGlider_123 ?_
                refine x_iadd F dX4_toldOfGlider_124 ?_
                refine x_istore_n (lv' := [(3, .int ((sumN j (m_gs m (nI i) w)) + ((mZ m 28 j) - (mZ m 27 j)))), (0, .ref (ma m 30)), (1, .int (nI i)), (2, .int w), (4, .int (nI j))]) F dX4_toldOfGlider_125 rfl (by decide) rfl ?_
                refine x_iinc (j := 4) (v := nI (j + 1)) (lv' := [(4, .int (nI (j + 1))), (3, .int ((sumN j (m_gs m (nI i) w)) + ((mZ m 28 j) - (mZ m 27 j)))), (0, .ref (ma m 30)), (1, .int (nI i)), (2, .int w)]) F dX4_toldOfGlider_126 rfl (nI_1 _) (by decide) rfl ?_
                refine x_goto F dX4_toldOfGlider_129 (tgt := 68) (by decide) ?_
                refine wx_sub (lv' := [(0, .ref (ma m 30)), (1, .int (nI i)), (2, .int w), (3, .int ((sumN j (m_gs m (nI i) w)) + ((mZ m 28 j) - (mZ m 27 j)))), (4, .int (nI (j + 1)))]) [2, 3, 4, 1, 0] rfl ?_
                refine wx_lv (lv' := [(0, .ref (ma m 30)), (1, .int (nI i)), (2, .int w), (3, .int (sumN (j + 1) (m_gs m (nI i) w))), (4, .int (nI (j + 1)))]) (by first | (simp [sumN, m_gs, h1, h2, h3, h6, h7, h8]; done) | (exfalso; simp_all; done) | (simp_all [sumN, m_gs]; done)) ?_
                exact ih68
              · refine x_iconst (v := 1) F rfl dX4_toldOfGlider_105 ?_
                refine x_goto F dX4_toldOfGlider_106 (tgt := 124) (by decide) ?_
                refine x_iadd F dX4_toldOfGlider_124 ?_
                refine x_istore_n (lv' := [(3, .int ((sumN j (m_gs m (nI i) w)) + 1)), (0, .ref (ma m 30)), (1, .int (nI i)), (2, .int w), (4, .int (nI j))]) F dX4_toldOfGlider_125 rfl (by decide) rfl ?_
                refine x_iinc (j := 4) (v := nI (j + 1)) (lv' := [(4, .int (nI (j + 1))), (3, .int ((sumN j (m_gs m (nI i) w)) + 1)), (0, .ref (ma m 30)), (1, .int (nI i)), (2, .int w)]) F dX4_toldOfGlider_126 rfl (nI_1 _) (by decide) rfl ?_
                refine x_goto F dX4_toldOfGlider_129 (tgt := 68) (by decide) ?_
                refine wx_sub (lv' := [(0, .ref (ma m 30)), (1, .int (nI i)), (2, .int w), (3, .int ((sumN j (m_gs m (nI i) w)) + 1)), (4, .int (nI (j + 1)))]) [2, 3, 4, 1, 0] rfl ?_
                refine wx_lv (lv' := [(0, .ref (ma m 30)), (1, .int (nI i)), (2, .int w), (3, .int (sumN (j + 1) (m_gs m (nI i) w))), (4, .int (nI (j + 1)))]) (by first | (simp [sumN, m_gs, h1, h2, h3, h6, h7, h8]; done) | (exfalso; simp_all; done) | (simp_all [sumN, m_gs]; done)) ?_
                exact ih68
      · refine x_aload_n F dX4_toldOfGlider_57 0 rfl rfl ?_
        refine x_iload_n F dX4_toldOfGlider_58 1 rfl rfl ?_
        refine x_callVp (rest := []) F hR.2.2.1 rfl (c_X4_flightOf l G A m (nI i) hW) k_X4_106 ⟨(Nat.le_of_ble_eq_true rfl), (Nat.le_of_ble_eq_true rfl), rfl, rfl⟩ (Nat.le_of_ble_eq_true rfl) (Nat.le_of_ble_eq_true rfl) dX4_toldOfGlider_59 rfl rfl (Nat.le_of_ble_eq_true rfl) hR ?_
        exact x_iret F hE dX4_toldOfGlider_62 (Nat.le_of_ble_eq_true rfl) (Nat.le_of_ble_eq_true rfl) (⟨by simp [m_tg, h1, h2, h3], rfl⟩)
    · refine x_aload_n F dX4_toldOfGlider_37 0 rfl rfl ?_
      refine z_get (m := m) (j := 16) (v := .ref (ma m 16)) F hR mw_815 rfl (by decide) rfl dX4_toldOfGlider_38 ?_
      refine x_iload_n F dX4_toldOfGlider_41 1 rfl rfl ?_
      refine z_zldN (m := m) (j := 16) (i := i) F hR (by decide) rfl rfl (Nat.lt_of_lt_of_le hi hW.2.1.2) (by decide) dX4_toldOfGlider_42 ?_
      refine x_if_eq F dX4_toldOfGlider_43 (tgt := 50) (by decide) (fun h9 => ?_) (fun h9 => ?_)
      · refine x_iconst (v := 0) F rfl dX4_toldOfGlider_50 ?_
        exact x_iret F hE dX4_toldOfGlider_51 (Nat.le_of_ble_eq_true rfl) (Nat.le_of_ble_eq_true rfl) (⟨by simp [m_tg, h1, h2, h9], rfl⟩)
      · refine x_iconst (v := 1) F rfl dX4_toldOfGlider_46 ?_
        refine x_goto F dX4_toldOfGlider_47 (tgt := 51) (by decide) ?_
        exact x_iret F hE dX4_toldOfGlider_51 (Nat.le_of_ble_eq_true rfl) (Nat.le_of_ble_eq_true rfl) (⟨by simp [m_tg, h1, h2, h9], rfl⟩)
  · refine x_aload_n F dX4_toldOfGlider_4 0 rfl rfl ?_
    refine z_get (m := m) (j := 18) (v := .ref (ma m 18)) F hR mw_817 rfl (by decide) rfl dX4_toldOfGlider_5 ?_
    refine x_iload_n F dX4_toldOfGlider_8 1 rfl rfl ?_
    refine z_ildN (m := m) (j := 18) (i := i) F hR (by decide) rfl rfl (Nat.lt_of_lt_of_le hi hW.2.1.2) (by decide) dX4_toldOfGlider_9 ?_
    refine x_if_le F dX4_toldOfGlider_10 (tgt := 17) (by decide) (fun h10 => ?_) (fun h10 => ?_)
    · have h10' := Int32.not_lt.mpr h10
      refine x_aload_n F dX4_toldOfGlider_17 0 rfl rfl ?_
      refine x_iload_n F dX4_toldOfGlider_18 1 rfl rfl ?_
      refine x_callVp (rest := []) F hR.2.2.1 rfl (c_X4_flightOf l G A m (nI i) hW) k_X4_106 ⟨(Nat.le_of_ble_eq_true rfl), (Nat.le_of_ble_eq_true rfl), rfl, rfl⟩ (Nat.le_of_ble_eq_true rfl) (Nat.le_of_ble_eq_true rfl) dX4_toldOfGlider_19 rfl rfl (Nat.le_of_ble_eq_true rfl) hR ?_
      refine x_iconst (v := (-1)) F rfl dX4_toldOfGlider_22 ?_
      refine x_icmp_eq F dX4_toldOfGlider_23 (tgt := 30) (by decide) (fun h11 => ?_) (fun h11 => ?_)
      · refine x_iconst (v := 0) F rfl dX4_toldOfGlider_30 ?_
        exact x_iret F hE dX4_toldOfGlider_31 (Nat.le_of_ble_eq_true rfl) (Nat.le_of_ble_eq_true rfl) (⟨by simp [m_tg, h1, h10, h10', h11], rfl⟩)
      · refine x_iconst (v := 1) F rfl dX4_toldOfGlider_26 ?_
        refine x_goto F dX4_toldOfGlider_27 (tgt := 31) (by decide) ?_
        exact x_iret F hE dX4_toldOfGlider_31 (Nat.le_of_ble_eq_true rfl) (Nat.le_of_ble_eq_true rfl) (⟨by simp [m_tg, h1, h10, h10', h11], rfl⟩)
    · have h10' := Int32.not_le.mp h10
      refine x_iconst (v := 2) F rfl dX4_toldOfGlider_13 ?_
      refine x_goto F dX4_toldOfGlider_14 (tgt := 31) (by decide) ?_
      exact x_iret F hE dX4_toldOfGlider_31 (Nat.le_of_ble_eq_true rfl) (Nat.le_of_ble_eq_true rfl) (⟨by simp [m_tg, h1, h10, h10'], rfl⟩)
set_option maxHeartbeats 4000000 in
set_option maxRecDepth 100000 in
theorem c_X4_reasonOf (l : Launch) (G : GT) (A : Nat → Prop) (m : MS) (i : Nat) (hi : i < mf m) (hW : WfM m) : Ct l yX4_reasonOf cX4_reasonOf 4 (some .int) ({ frames := 2, cells := 0, slots := 0, locals := 46 } : Room) G A [.ref (ma m 30), .int (nI i)] (fun H => RepM G A m H) (Pu (.int (m_rea m i))) := by
  refine ct_of (own := "GliderDayModel") (by decide +kernel) rfl (Nat.le_of_ble_eq_true rfl) (fun E H0 F hE hR => ?_)
  show wx E H0 0 0 0 [(0, .ref (ma m 30)), (1, .int (nI i))] []
  refine x_aload_n F dX4_reasonOf_0 0 rfl rfl ?_
  refine z_get (m := m) (j := 21) (v := .ref (ma m 21)) F hR mw_820 rfl (by decide) rfl dX4_reasonOf_1 ?_
  refine x_iload_n F dX4_reasonOf_4 1 rfl rfl ?_
  refine z_ildN (m := m) (j := 21) (i := i) F hR (by decide) rfl rfl (Nat.lt_of_lt_of_le hi hW.2.2.1.2) (by decide) dX4_reasonOf_5 ?_
  refine x_istore_n (lv' := [(2, .int (mZ m 21 i)), (0, .ref (ma m 30)), (1, .int (nI i))]) F dX4_reasonOf_6 rfl (by decide) rfl ?_
  refine x_aload_n F dX4_reasonOf_7 1 rfl rfl ?_
  refine z_get (m := m) (j := 10) (v := .ref (ma m 10)) F hR mw_809 rfl (by decide) rfl dX4_reasonOf_8 ?_
  refine x_iload_n F dX4_reasonOf_11 0 rfl rfl ?_
  refine wx_i (y := nI (tN (mZ m 21 i))) ((hW.2.2.2 _ hi).1.1) ?_
  refine z_ildN (m := m) (j := 10) (i := (tN (mZ m 21 i))) F hR (by decide) rfl rfl (Nat.lt_of_lt_of_le (hW.2.2.2 _ hi).1.2 hW.1.2) (by decide) dX4_reasonOf_12 ?_
  refine x_istore_n (lv' := [(3, .int (mZ m 10 (tN (mZ m 21 i)))), (2, .int (mZ m 21 i)), (0, .ref (ma m 30)), (1, .int (nI i))]) F dX4_reasonOf_13 rfl (by decide) rfl ?_
  refine x_aload_n F dX4_reasonOf_14 2 rfl rfl ?_
  refine x_iload_n F dX4_reasonOf_15 1 rfl rfl ?_
  refine x_callVp (rest := []) F hR.2.2.1 rfl (c_X4_flies l G A m (mZ m 21 i) hW) k_X4_119 ⟨(Nat.le_of_ble_eq_true rfl), (Nat.le_of_ble_eq_true rfl), rfl, rfl⟩ (Nat.le_of_ble_eq_true rfl) (Nat.le_of_ble_eq_true rfl) dX4_reasonOf_16 rfl rfl (Nat.le_of_ble_eq_true rfl) hR ?_
  refine x_if_ne F dX4_reasonOf_19 (tgt := 45) (by decide) (fun h1 => ?_) (fun h1 => ?_)
  · replace h1 := bI_ne.mp h1
    refine x_iconst (v := 1) F rfl dX4_reasonOf_45 ?_
    exact x_iret F hE dX4_reasonOf_46 (Nat.le_of_ble_eq_true rfl) (Nat.le_of_ble_eq_true rfl) (⟨by unfold m_rea; rw [if_pos (Or.inl h1)], rfl⟩)
  · replace h1 := bI_0.mp h1
    refine x_aload_n F dX4_reasonOf_22 2 rfl rfl ?_
    refine z_get (m := m) (j := 22) (v := .ref (ma m 22)) F hR mw_821 rfl (by decide) rfl dX4_reasonOf_23 ?_
    refine x_iload_n F dX4_reasonOf_26 3 rfl rfl ?_
    refine z_ildN (m := m) (j := 22) (i := i) F hR (by decide) rfl rfl (Nat.lt_of_lt_of_le hi hW.2.2.1.2) (by decide) dX4_reasonOf_27 ?_
    refine x_iconst (v := (-1)) F rfl dX4_reasonOf_28 ?_
    refine x_icmp_eq F dX4_reasonOf_29 (tgt := 47) (by decide) (fun h2 => ?_) (fun h2 => ?_)
    · refine x_aload_n F dX4_reasonOf_47 2 rfl rfl ?_
      refine x_aload_n F dX4_reasonOf_48 2 rfl rfl ?_
      refine z_get (m := m) (j := 23) (v := .ref (ma m 23)) F hR mw_822 rfl (by decide) rfl dX4_reasonOf_49 ?_
      refine x_iload_n F dX4_reasonOf_52 3 rfl rfl ?_
      refine z_ildN (m := m) (j := 23) (i := i) F hR (by decide) rfl rfl (Nat.lt_of_lt_of_le hi hW.2.2.1.2) (by decide) dX4_reasonOf_53 ?_
      refine x_callVp (rest := []) F hR.2.2.1 rfl (c_X4_flightOf l G A m (mZ m 23 i) hW) k_X4_106 ⟨(Nat.le_of_ble_eq_true rfl), (Nat.le_of_ble_eq_true rfl), rfl, rfl⟩ (Nat.le_of_ble_eq_true rfl) (Nat.le_of_ble_eq_true rfl) dX4_reasonOf_54 rfl rfl (Nat.le_of_ble_eq_true rfl) hR ?_
      refine x_iconst (v := (-1)) F rfl dX4_reasonOf_57 ?_
      refine x_icmp_ne F dX4_reasonOf_58 (tgt := 75) (by decide) (fun h3 => ?_) (fun h3 => ?_)
      · refine x_iconst (v := 2) F rfl dX4_reasonOf_75 ?_
        exact x_iret F hE dX4_reasonOf_76 (Nat.le_of_ble_eq_true rfl) (Nat.le_of_ble_eq_true rfl) (⟨by unfold m_rea; rw [if_neg (fun q => q.elim h1 (fun q => q.1 h2)), if_pos (Or.inl h3)], rfl⟩)
      · refine x_aload_n F dX4_reasonOf_61 2 rfl rfl ?_
        refine z_get (m := m) (j := 16) (v := .ref (ma m 16)) F hR mw_815 rfl (by decide) rfl dX4_reasonOf_62 ?_
        refine x_aload_n F dX4_reasonOf_65 2 rfl rfl ?_
        refine z_get (m := m) (j := 23) (v := .ref (ma m 23)) F hR mw_822 rfl (by decide) rfl dX4_reasonOf_66 ?_
        refine x_iload_n F dX4_reasonOf_69 3 rfl rfl ?_
        refine z_ildN (m := m) (j := 23) (i := i) F hR (by decide) rfl rfl (Nat.lt_of_lt_of_le hi hW.2.2.1.2) (by decide) dX4_reasonOf_70 ?_
        refine wx_i (y := nI (tN (mZ m 23 i))) ((hW.2.2.2 _ hi).2.2.1) ?_
        refine z_zldN (m := m) (j := 16) (i := (tN (mZ m 23 i))) F hR (by decide) rfl rfl (Nat.lt_of_lt_of_le (hW.2.2.2 _ hi).2.2.2 hW.2.1.2) (by decide) dX4_reasonOf_71 ?_
        refine x_if_eq F dX4_reasonOf_72 (tgt := 77) (by decide) (fun h4 => ?_) (fun h4 => ?_)
        · refine x_aload_n F dX4_reasonOf_77 2 rfl rfl ?_
          refine z_get (m := m) (j := 22) (v := .ref (ma m 22)) F hR mw_821 rfl (by decide) rfl dX4_reasonOf_78 ?_
          refine x_iload_n F dX4_reasonOf_81 3 rfl rfl ?_
          refine z_ildN (m := m) (j := 22) (i := i) F hR (by decide) rfl rfl (Nat.lt_of_lt_of_le hi hW.2.2.1.2) (by decide) dX4_reasonOf_82 ?_
          refine x_iconst (v := (-1)) F rfl dX4_reasonOf_83 ?_
          refine x_icmp_eq F dX4_reasonOf_84 (tgt := 104) (by decide) (fun h5 => ?_) (fun h5 => ?_)
          · refine x_aload_n F dX4_reasonOf_104 2 rfl rfl ?_
            refine x_iload_n F dX4_reasonOf_105 3 rfl rfl ?_
            refine x_callVp (rest := []) F hR.2.2.1 rfl (c_X4_withTeacher l G A m i hi hW) k_X4_109 ⟨(Nat.le_of_ble_eq_true rfl), (Nat.le_of_ble_eq_true rfl), rfl, rfl⟩ (Nat.le_of_ble_eq_true rfl) (Nat.le_of_ble_eq_true rfl) dX4_reasonOf_106 rfl rfl (Nat.le_of_ble_eq_true rfl) hR ?_
            refine x_if_ne F dX4_reasonOf_109 (tgt := 132) (by decide) (fun h6 => ?_) (fun h6 => ?_)
            · replace h6 := bI_ne.mp h6
              refine x_aload_n F dX4_reasonOf_132 2 rfl rfl ?_
              refine z_get (m := m) (j := 2) (v := .int (mY m 2)) F hR mw_801 rfl (by decide) rfl dX4_reasonOf_133 ?_
              refine x_aload_n F dX4_reasonOf_136 2 rfl rfl ?_
              refine z_get (m := m) (j := 15) (v := .ref (ma m 15)) F hR mw_814 rfl (by decide) rfl dX4_reasonOf_137 ?_
              refine x_aload_n F dX4_reasonOf_140 2 rfl rfl ?_
              refine z_get (m := m) (j := 23) (v := .ref (ma m 23)) F hR mw_822 rfl (by decide) rfl dX4_reasonOf_141 ?_
              refine x_iload_n F dX4_reasonOf_144 3 rfl rfl ?_
              refine z_ildN (m := m) (j := 23) (i := i) F hR (by decide) rfl rfl (Nat.lt_of_lt_of_le hi hW.2.2.1.2) (by decide) dX4_reasonOf_145 ?_
              refine wx_i (y := nI (tN (mZ m 23 i))) ((hW.2.2.2 _ hi).2.2.1) ?_
              refine z_ildN (m := m) (j := 15) (i := (tN (mZ m 23 i))) F hR (by decide) rfl rfl (Nat.lt_of_lt_of_le (hW.2.2.2 _ hi).2.2.2 hW.2.1.2) (by decide) dX4_reasonOf_146 ?_
              refine x_icmp_gt F dX4_reasonOf_147 (tgt := 173) (by decide) (fun h7 => ?_) (fun h7 => ?_)
              · have h7' := Int32.not_le.mpr h7
                refine x_iconst (v := 5) F rfl dX4_reasonOf_173 ?_
                exact x_iret F hE dX4_reasonOf_174 (Nat.le_of_ble_eq_true rfl) (Nat.le_of_ble_eq_true rfl) (⟨by unfold m_rea; rw [if_neg (fun q => q.elim h1 (fun q => q.1 h2)), if_neg (fun q => q.elim (fun q => q h3) (fun q => q h4)), if_neg (fun q => q.1 h5), if_neg (fun q => q.1 h6), if_pos (Or.inl h7)], rfl⟩)
              · have h7' := Int32.not_lt.mp h7
                refine x_aload_n F dX4_reasonOf_150 2 rfl rfl ?_
                refine z_get (m := m) (j := 2) (v := .int (mY m 2)) F hR mw_801 rfl (by decide) rfl dX4_reasonOf_151 ?_
                refine x_aload_n F dX4_reasonOf_154 2 rfl rfl ?_
                refine x_iload_n F dX4_reasonOf_155 3 rfl rfl ?_
                refine x_callVp (rest := [.int (mY m 2)]) F hR.2.2.1 rfl (c_X4_withTeacher l G A m i hi hW) k_X4_109 ⟨(Nat.le_of_ble_eq_true rfl), (Nat.le_of_ble_eq_true rfl), rfl, rfl⟩ (Nat.le_of_ble_eq_true rfl) (Nat.le_of_ble_eq_true rfl) dX4_reasonOf_156 rfl rfl (Nat.le_of_ble_eq_true rfl) hR ?_
                refine x_if_eq F dX4_reasonOf_159 (tgt := 166) (by decide) (fun h8 => ?_) (fun h8 => ?_)
                · replace h8 := bI_0.mp h8
                  refine x_iload_n F dX4_reasonOf_166 0 rfl rfl ?_
                  refine x_callSp (rest := [.int (mY m 2)]) F (c_X4_windOf l G A (mZ m 10 (tN (mZ m 21 i)))) k_X4_143 ⟨(Nat.le_of_ble_eq_true rfl), (Nat.le_of_ble_eq_true rfl), rfl, rfl⟩ (Nat.le_of_ble_eq_true rfl) (Nat.le_of_ble_eq_true rfl) dX4_reasonOf_167 rfl rfl (Nat.le_of_ble_eq_true rfl) trivial ?_
                  refine x_icmp_le F dX4_reasonOf_170 (tgt := 175) (by decide) (fun h9 => ?_) (fun h9 => ?_)
                  · have h9' := Int32.not_lt.mpr h9
                    refine x_aload_n F dX4_reasonOf_175 2 rfl rfl ?_
                    refine z_get (m := m) (j := 3) (v := .int (mY m 3)) F hR mw_802 rfl (by decide) rfl dX4_reasonOf_176 ?_
                    refine x_aload_n F dX4_reasonOf_179 2 rfl rfl ?_
                    refine z_get (m := m) (j := 1) (v := .int (mY m 1)) F hR mw_800 rfl (by decide) rfl dX4_reasonOf_180 ?_
                    refine x_isub F dX4_reasonOf_183 ?_
                    refine x_bipush (v := 10) F rfl dX4_reasonOf_184 ?_
                    refine x_icmp_ge F dX4_reasonOf_186 (tgt := 192) (by decide) (fun h10 => ?_) (fun h10 => ?_)
                    · have h10' := Int32.not_lt.mpr h10
                      refine x_aload_n F dX4_reasonOf_192 2 rfl rfl ?_
                      refine z_get (m := m) (j := 24) (v := .ref (ma m 24)) F hR mw_823 rfl (by decide) rfl dX4_reasonOf_193 ?_
                      refine x_iload_n F dX4_reasonOf_196 3 rfl rfl ?_
                      refine z_ildN (m := m) (j := 24) (i := i) F hR (by decide) rfl rfl (Nat.lt_of_lt_of_le hi hW.2.2.1.2) (by decide) dX4_reasonOf_197 ?_
                      refine x_if_ne F dX4_reasonOf_198 (tgt := 211) (by decide) (fun h11 => ?_) (fun h11 => ?_)
                      · refine x_aload_n F dX4_reasonOf_211 2 rfl rfl ?_
                        refine x_callVp (rest := []) F hR.2.2.1 rfl (c_X4_takenTugs l G A m ) k_X4_98 ⟨(Nat.le_of_ble_eq_true rfl), (Nat.le_of_ble_eq_true rfl), rfl, rfl⟩ (Nat.le_of_ble_eq_true rfl) (Nat.le_of_ble_eq_true rfl) dX4_reasonOf_212 rfl rfl (Nat.le_of_ble_eq_true rfl) hR ?_
                        refine x_aload_n F dX4_reasonOf_215 2 rfl rfl ?_
                        refine z_get (m := m) (j := 7) (v := .int (mY m 7)) F hR mw_806 rfl (by decide) rfl dX4_reasonOf_216 ?_
                        refine x_icmp_lt F dX4_reasonOf_219 (tgt := 225) (by decide) (fun h12 => ?_) (fun h12 => ?_)
                        · have h12' := Int32.not_le.mpr h12
                          refine x_aload_n F dX4_reasonOf_225 2 rfl rfl ?_
                          refine x_callVp (rest := []) F hR.2.2.1 rfl (c_X4_isBusyNow l G A m ) k_X4_146 ⟨(Nat.le_of_ble_eq_true rfl), (Nat.le_of_ble_eq_true rfl), rfl, rfl⟩ (Nat.le_of_ble_eq_true rfl) (Nat.le_of_ble_eq_true rfl) dX4_reasonOf_226 rfl rfl (Nat.le_of_ble_eq_true rfl) hR ?_
                          refine x_if_eq F dX4_reasonOf_229 (tgt := 237) (by decide) (fun h13 => ?_) (fun h13 => ?_)
                          · replace h13 := bI_0.mp h13
                            refine x_iconst (v := 0) F rfl dX4_reasonOf_237 ?_
                            exact x_iret F hE dX4_reasonOf_238 (Nat.le_of_ble_eq_true rfl) (Nat.le_of_ble_eq_true rfl) (⟨by unfold m_rea; rw [if_neg (fun q => q.elim h1 (fun q => q.1 h2)), if_neg (fun q => q.elim (fun q => q h3) (fun q => q h4)), if_neg (fun q => q.1 h5), if_neg (fun q => q.1 h6), if_neg (fun q => q.elim h7 (fun q => by rw [if_neg h8] at q; exact h9' q)), if_neg h10', if_neg (fun q => q.elim (fun q => h11 q.1) (fun q => h12' q.2)), if_neg h13], rfl⟩)
                          · replace h13 := bI_ne.mp h13
                            refine x_bipush (v := 8) F rfl dX4_reasonOf_232 ?_
                            refine x_goto F dX4_reasonOf_234 (tgt := 238) (by decide) ?_
                            exact x_iret F hE dX4_reasonOf_238 (Nat.le_of_ble_eq_true rfl) (Nat.le_of_ble_eq_true rfl) (⟨by unfold m_rea; rw [if_neg (fun q => q.elim h1 (fun q => q.1 h2)), if_neg (fun q => q.elim (fun q => q h3) (fun q => q h4)), if_neg (fun q => q.1 h5), if_neg (fun q => q.1 h6), if_neg (fun q => q.elim h7 (fun q => by rw [if_neg h8] at q; exact h9' q)), if_neg h10', if_neg (fun q => q.elim (fun q => h11 q.1) (fun q => h12' q.2)), if_pos h13], rfl⟩)
                        · have h12' := Int32.not_lt.mp h12
                          refine x_bipush (v := 7) F rfl dX4_reasonOf_222 ?_
                          exact x_iret F hE dX4_reasonOf_224 (Nat.le_of_ble_eq_true rfl) (Nat.le_of_ble_eq_true rfl) (⟨by unfold m_rea; rw [if_neg (fun q => q.elim h1 (fun q => q.1 h2)), if_neg (fun q => q.elim (fun q => q h3) (fun q => q h4)), if_neg (fun q => q.1 h5), if_neg (fun q => q.1 h6), if_neg (fun q => q.elim h7 (fun q => by rw [if_neg h8] at q; exact h9' q)), if_neg h10', if_pos (Or.inr ⟨h11, h12'⟩)], rfl⟩)
                      · refine x_aload_n F dX4_reasonOf_201 2 rfl rfl ?_
                        refine z_get (m := m) (j := 5) (v := .int (mY m 5)) F hR mw_804 rfl (by decide) rfl dX4_reasonOf_202 ?_
                        refine x_if_ne F dX4_reasonOf_205 (tgt := 225) (by decide) (fun h14 => ?_) (fun h14 => ?_)
                        · refine x_aload_n F dX4_reasonOf_225 2 rfl rfl ?_
                          refine x_callVp (rest := []) F hR.2.2.1 rfl (c_X4_isBusyNow l G A m ) k_X4_146 ⟨(Nat.le_of_ble_eq_true rfl), (Nat.le_of_ble_eq_true rfl), rfl, rfl⟩ (Nat.le_of_ble_eq_true rfl) (Nat.le_of_ble_eq_true rfl) dX4_reasonOf_226 rfl rfl (Nat.le_of_ble_eq_true rfl) hR ?_
                          refine x_if_eq F dX4_reasonOf_229 (tgt := 237) (by decide) (fun h15 => ?_) (fun h15 => ?_)
                          · replace h15 := bI_0.mp h15
                            refine x_iconst (v := 0) F rfl dX4_reasonOf_237 ?_
                            exact x_iret F hE dX4_reasonOf_238 (Nat.le_of_ble_eq_true rfl) (Nat.le_of_ble_eq_true rfl) (⟨by unfold m_rea; rw [if_neg (fun q => q.elim h1 (fun q => q.1 h2)), if_neg (fun q => q.elim (fun q => q h3) (fun q => q h4)), if_neg (fun q => q.1 h5), if_neg (fun q => q.1 h6), if_neg (fun q => q.elim h7 (fun q => by rw [if_neg h8] at q; exact h9' q)), if_neg h10', if_neg (fun q => q.elim (fun q => h14 q.2) (fun q => q.1 h11)), if_neg h15], rfl⟩)
                          · replace h15 := bI_ne.mp h15
                            refine x_bipush (v := 8) F rfl dX4_reasonOf_232 ?_
                            refine x_goto F dX4_reasonOf_234 (tgt := 238) (by decide) ?_
                            exact x_iret F hE dX4_reasonOf_238 (Nat.le_of_ble_eq_true rfl) (Nat.le_of_ble_eq_true rfl) (⟨by unfold m_rea; rw [if_neg (fun q => q.elim h1 (fun q => q.1 h2)), if_neg (fun q => q.elim (fun q => q h3) (fun q => q h4)), if_neg (fun q => q.1 h5), if_neg (fun q => q.1 h6), if_neg (fun q => q.elim h7 (fun q => by rw [if_neg h8] at q; exact h9' q)), if_neg h10', if_neg (fun q => q.elim (fun q => h14 q.2) (fun q => q.1 h11)), if_pos h15], rfl⟩)
                        · refine x_goto F dX4_reasonOf_208 (tgt := 222) (by decide) ?_
                          refine x_bipush (v := 7) F rfl dX4_reasonOf_222 ?_
                          exact x_iret F hE dX4_reasonOf_224 (Nat.le_of_ble_eq_true rfl) (Nat.le_of_ble_eq_true rfl) (⟨by unfold m_rea; rw [if_neg (fun q => q.elim h1 (fun q => q.1 h2)), if_neg (fun q => q.elim (fun q => q h3) (fun q => q h4)), if_neg (fun q => q.1 h5), if_neg (fun q => q.1 h6), if_neg (fun q => q.elim h7 (fun q => by rw [if_neg h8] at q; exact h9' q)), if_neg h10', if_pos (Or.inl ⟨h11, h14⟩)], rfl⟩)
                    · have h10' := Int32.not_le.mp h10
                      refine x_bipush (v := 6) F rfl dX4_reasonOf_189 ?_
                      exact x_iret F hE dX4_reasonOf_191 (Nat.le_of_ble_eq_true rfl) (Nat.le_of_ble_eq_true rfl) (⟨by unfold m_rea; rw [if_neg (fun q => q.elim h1 (fun q => q.1 h2)), if_neg (fun q => q.elim (fun q => q h3) (fun q => q h4)), if_neg (fun q => q.1 h5), if_neg (fun q => q.1 h6), if_neg (fun q => q.elim h7 (fun q => by rw [if_neg h8] at q; exact h9' q)), if_pos h10'], rfl⟩)
                  · have h9' := Int32.not_le.mp h9
                    refine x_iconst (v := 5) F rfl dX4_reasonOf_173 ?_
                    exact x_iret F hE dX4_reasonOf_174 (Nat.le_of_ble_eq_true rfl) (Nat.le_of_ble_eq_true rfl) (⟨by unfold m_rea; rw [if_neg (fun q => q.elim h1 (fun q => q.1 h2)), if_neg (fun q => q.elim (fun q => q h3) (fun q => q h4)), if_neg (fun q => q.1 h5), if_neg (fun q => q.1 h6), if_pos (Or.inr (by rw [if_neg h8]; exact h9'))], rfl⟩)
                · replace h8 := bI_ne.mp h8
                  refine x_iconst (v := 3) F rfl dX4_reasonOf_162 ?_
                  refine x_goto F dX4_reasonOf_163 (tgt := 167) (by decide) ?_
                  refine x_callSp (rest := [.int (mY m 2)]) F (c_X4_windOf l G A 3) k_X4_143 ⟨(Nat.le_of_ble_eq_true rfl), (Nat.le_of_ble_eq_true rfl), rfl, rfl⟩ (Nat.le_of_ble_eq_true rfl) (Nat.le_of_ble_eq_true rfl) dX4_reasonOf_167 rfl rfl (Nat.le_of_ble_eq_true rfl) trivial ?_
                  refine x_icmp_le F dX4_reasonOf_170 (tgt := 175) (by decide) (fun h16 => ?_) (fun h16 => ?_)
                  · have h16' := Int32.not_lt.mpr h16
                    refine x_aload_n F dX4_reasonOf_175 2 rfl rfl ?_
                    refine z_get (m := m) (j := 3) (v := .int (mY m 3)) F hR mw_802 rfl (by decide) rfl dX4_reasonOf_176 ?_
                    refine x_aload_n F dX4_reasonOf_179 2 rfl rfl ?_
                    refine z_get (m := m) (j := 1) (v := .int (mY m 1)) F hR mw_800 rfl (by decide) rfl dX4_reasonOf_180 ?_
                    refine x_isub F dX4_reasonOf_183 ?_
                    refine x_bipush (v := 10) F rfl dX4_reasonOf_184 ?_
                    refine x_icmp_ge F dX4_reasonOf_186 (tgt := 192) (by decide) (fun h17 => ?_) (fun h17 => ?_)
                    · have h17' := Int32.not_lt.mpr h17
                      refine x_aload_n F dX4_reasonOf_192 2 rfl rfl ?_
                      refine z_get (m := m) (j := 24) (v := .ref (ma m 24)) F hR mw_823 rfl (by decide) rfl dX4_reasonOf_193 ?_
                      refine x_iload_n F dX4_reasonOf_196 3 rfl rfl ?_
                      refine z_ildN (m := m) (j := 24) (i := i) F hR (by decide) rfl rfl (Nat.lt_of_lt_of_le hi hW.2.2.1.2) (by decide) dX4_reasonOf_197 ?_
                      refine x_if_ne F dX4_reasonOf_198 (tgt := 211) (by decide) (fun h18 => ?_) (fun h18 => ?_)
                      · refine x_aload_n F dX4_reasonOf_211 2 rfl rfl ?_
                        refine x_callVp (rest := []) F hR.2.2.1 rfl (c_X4_takenTugs l G A m ) k_X4_98 ⟨(Nat.le_of_ble_eq_true rfl), (Nat.le_of_ble_eq_true rfl), rfl, rfl⟩ (Nat.le_of_ble_eq_true rfl) (Nat.le_of_ble_eq_true rfl) dX4_reasonOf_212 rfl rfl (Nat.le_of_ble_eq_true rfl) hR ?_
                        refine x_aload_n F dX4_reasonOf_215 2 rfl rfl ?_
                        refine z_get (m := m) (j := 7) (v := .int (mY m 7)) F hR mw_806 rfl (by decide) rfl dX4_reasonOf_216 ?_
                        refine x_icmp_lt F dX4_reasonOf_219 (tgt := 225) (by decide) (fun h19 => ?_) (fun h19 => ?_)
                        · have h19' := Int32.not_le.mpr h19
                          refine x_aload_n F dX4_reasonOf_225 2 rfl rfl ?_
                          refine x_callVp (rest := []) F hR.2.2.1 rfl (c_X4_isBusyNow l G A m ) k_X4_146 ⟨(Nat.le_of_ble_eq_true rfl), (Nat.le_of_ble_eq_true rfl), rfl, rfl⟩ (Nat.le_of_ble_eq_true rfl) (Nat.le_of_ble_eq_true rfl) dX4_reasonOf_226 rfl rfl (Nat.le_of_ble_eq_true rfl) hR ?_
                          refine x_if_eq F dX4_reasonOf_229 (tgt := 237) (by decide) (fun h20 => ?_) (fun h20 => ?_)
                          · replace h20 := bI_0.mp h20
                            refine x_iconst (v := 0) F rfl dX4_reasonOf_237 ?_
                            exact x_iret F hE dX4_reasonOf_238 (Nat.le_of_ble_eq_true rfl) (Nat.le_of_ble_eq_true rfl) (⟨by unfold m_rea; rw [if_neg (fun q => q.elim h1 (fun q => q.1 h2)), if_neg (fun q => q.elim (fun q => q h3) (fun q => q h4)), if_neg (fun q => q.1 h5), if_neg (fun q => q.1 h6), if_neg (fun q => q.elim h7 (fun q => by rw [if_pos h8] at q; exact h16' q)), if_neg h17', if_neg (fun q => q.elim (fun q => h18 q.1) (fun q => h19' q.2)), if_neg h20], rfl⟩)
                          · replace h20 := bI_ne.mp h20
                            refine x_bipush (v := 8) F rfl dX4_reasonOf_232 ?_
                            refine x_goto F dX4_reasonOf_234 (tgt := 238) (by decide) ?_
                            exact x_iret F hE dX4_reasonOf_238 (Nat.le_of_ble_eq_true rfl) (Nat.le_of_ble_eq_true rfl) (⟨by unfold m_rea; rw [if_neg (fun q => q.elim h1 (fun q => q.1 h2)), if_neg (fun q => q.elim (fun q => q h3) (fun q => q h4)), if_neg (fun q => q.1 h5), if_neg (fun q => q.1 h6), if_neg (fun q => q.elim h7 (fun q => by rw [if_pos h8] at q; exact h16' q)), if_neg h17', if_neg (fun q => q.elim (fun q => h18 q.1) (fun q => h19' q.2)), if_pos h20], rfl⟩)
                        · have h19' := Int32.not_lt.mp h19
                          refine x_bipush (v := 7) F rfl dX4_reasonOf_222 ?_
                          exact x_iret F hE dX4_reasonOf_224 (Nat.le_of_ble_eq_true rfl) (Nat.le_of_ble_eq_true rfl) (⟨by unfold m_rea; rw [if_neg (fun q => q.elim h1 (fun q => q.1 h2)), if_neg (fun q => q.elim (fun q => q h3) (fun q => q h4)), if_neg (fun q => q.1 h5), if_neg (fun q => q.1 h6), if_neg (fun q => q.elim h7 (fun q => by rw [if_pos h8] at q; exact h16' q)), if_neg h17', if_pos (Or.inr ⟨h18, h19'⟩)], rfl⟩)
                      · refine x_aload_n F dX4_reasonOf_201 2 rfl rfl ?_
                        refine z_get (m := m) (j := 5) (v := .int (mY m 5)) F hR mw_804 rfl (by decide) rfl dX4_reasonOf_202 ?_
                        refine x_if_ne F dX4_reasonOf_205 (tgt := 225) (by decide) (fun h21 => ?_) (fun h21 => ?_)
                        · refine x_aload_n F dX4_reasonOf_225 2 rfl rfl ?_
                          refine x_callVp (rest := []) F hR.2.2.1 rfl (c_X4_isBusyNow l G A m ) k_X4_146 ⟨(Nat.le_of_ble_eq_true rfl), (Nat.le_of_ble_eq_true rfl), rfl, rfl⟩ (Nat.le_of_ble_eq_true rfl) (Nat.le_of_ble_eq_true rfl) dX4_reasonOf_226 rfl rfl (Nat.le_of_ble_eq_true rfl) hR ?_
                          refine x_if_eq F dX4_reasonOf_229 (tgt := 237) (by decide) (fun h22 => ?_) (fun h22 => ?_)
                          · replace h22 := bI_0.mp h22
                            refine x_iconst (v := 0) F rfl dX4_reasonOf_237 ?_
                            exact x_iret F hE dX4_reasonOf_238 (Nat.le_of_ble_eq_true rfl) (Nat.le_of_ble_eq_true rfl) (⟨by unfold m_rea; rw [if_neg (fun q => q.elim h1 (fun q => q.1 h2)), if_neg (fun q => q.elim (fun q => q h3) (fun q => q h4)), if_neg (fun q => q.1 h5), if_neg (fun q => q.1 h6), if_neg (fun q => q.elim h7 (fun q => by rw [if_pos h8] at q; exact h16' q)), if_neg h17', if_neg (fun q => q.elim (fun q => h21 q.2) (fun q => q.1 h18)), if_neg h22], rfl⟩)
                          · replace h22 := bI_ne.mp h22
                            refine x_bipush (v := 8) F rfl dX4_reasonOf_232 ?_
                            refine x_goto F dX4_reasonOf_234 (tgt := 238) (by decide) ?_
                            exact x_iret F hE dX4_reasonOf_238 (Nat.le_of_ble_eq_true rfl) (Nat.le_of_ble_eq_true rfl) (⟨by unfold m_rea; rw [if_neg (fun q => q.elim h1 (fun q => q.1 h2)), if_neg (fun q => q.elim (fun q => q h3) (fun q => q h4)), if_neg (fun q => q.1 h5), if_neg (fun q => q.1 h6), if_neg (fun q => q.elim h7 (fun q => by rw [if_pos h8] at q; exact h16' q)), if_neg h17', if_neg (fun q => q.elim (fun q => h21 q.2) (fun q => q.1 h18)), if_pos h22], rfl⟩)
                        · refine x_goto F dX4_reasonOf_208 (tgt := 222) (by decide) ?_
                          refine x_bipush (v := 7) F rfl dX4_reasonOf_222 ?_
                          exact x_iret F hE dX4_reasonOf_224 (Nat.le_of_ble_eq_true rfl) (Nat.le_of_ble_eq_true rfl) (⟨by unfold m_rea; rw [if_neg (fun q => q.elim h1 (fun q => q.1 h2)), if_neg (fun q => q.elim (fun q => q h3) (fun q => q h4)), if_neg (fun q => q.1 h5), if_neg (fun q => q.1 h6), if_neg (fun q => q.elim h7 (fun q => by rw [if_pos h8] at q; exact h16' q)), if_neg h17', if_pos (Or.inl ⟨h18, h21⟩)], rfl⟩)
                    · have h17' := Int32.not_le.mp h17
                      refine x_bipush (v := 6) F rfl dX4_reasonOf_189 ?_
                      exact x_iret F hE dX4_reasonOf_191 (Nat.le_of_ble_eq_true rfl) (Nat.le_of_ble_eq_true rfl) (⟨by unfold m_rea; rw [if_neg (fun q => q.elim h1 (fun q => q.1 h2)), if_neg (fun q => q.elim (fun q => q h3) (fun q => q h4)), if_neg (fun q => q.1 h5), if_neg (fun q => q.1 h6), if_neg (fun q => q.elim h7 (fun q => by rw [if_pos h8] at q; exact h16' q)), if_pos h17'], rfl⟩)
                  · have h16' := Int32.not_le.mp h16
                    refine x_iconst (v := 5) F rfl dX4_reasonOf_173 ?_
                    exact x_iret F hE dX4_reasonOf_174 (Nat.le_of_ble_eq_true rfl) (Nat.le_of_ble_eq_true rfl) (⟨by unfold m_rea; rw [if_neg (fun q => q.elim h1 (fun q => q.1 h2)), if_neg (fun q => q.elim (fun q => q h3) (fun q => q h4)), if_neg (fun q => q.1 h5), if_neg (fun q => q.1 h6), if_pos (Or.inr (by rw [if_pos h8]; exact h16'))], rfl⟩)
            · replace h6 := bI_0.mp h6
              refine x_iload_n F dX4_reasonOf_112 0 rfl rfl ?_
              refine x_if_eq F dX4_reasonOf_113 (tgt := 130) (by decide) (fun h23 => ?_) (fun h23 => ?_)
              · refine x_iconst (v := 4) F rfl dX4_reasonOf_130 ?_
                exact x_iret F hE dX4_reasonOf_131 (Nat.le_of_ble_eq_true rfl) (Nat.le_of_ble_eq_true rfl) (⟨by unfold m_rea; rw [if_neg (fun q => q.elim h1 (fun q => q.1 h2)), if_neg (fun q => q.elim (fun q => q h3) (fun q => q h4)), if_neg (fun q => q.1 h5), if_pos ⟨h6, Or.inl h23⟩], rfl⟩)
              · refine x_iload_n F dX4_reasonOf_116 0 rfl rfl ?_
                refine x_iconst (v := 1) F rfl dX4_reasonOf_117 ?_
                refine x_icmp_ne F dX4_reasonOf_118 (tgt := 132) (by decide) (fun h24 => ?_) (fun h24 => ?_)
                · refine x_aload_n F dX4_reasonOf_132 2 rfl rfl ?_
                  refine z_get (m := m) (j := 2) (v := .int (mY m 2)) F hR mw_801 rfl (by decide) rfl dX4_reasonOf_133 ?_
                  refine x_aload_n F dX4_reasonOf_136 2 rfl rfl ?_
                  refine z_get (m := m) (j := 15) (v := .ref (ma m 15)) F hR mw_814 rfl (by decide) rfl dX4_reasonOf_137 ?_
                  refine x_aload_n F dX4_reasonOf_140 2 rfl rfl ?_
                  refine z_get (m := m) (j := 23) (v := .ref (ma m 23)) F hR mw_822 rfl (by decide) rfl dX4_reasonOf_141 ?_
                  refine x_iload_n F dX4_reasonOf_144 3 rfl rfl ?_
                  refine z_ildN (m := m) (j := 23) (i := i) F hR (by decide) rfl rfl (Nat.lt_of_lt_of_le hi hW.2.2.1.2) (by decide) dX4_reasonOf_145 ?_
                  refine wx_i (y := nI (tN (mZ m 23 i))) ((hW.2.2.2 _ hi).2.2.1) ?_
                  refine z_ildN (m := m) (j := 15) (i := (tN (mZ m 23 i))) F hR (by decide) rfl rfl (Nat.lt_of_lt_of_le (hW.2.2.2 _ hi).2.2.2 hW.2.1.2) (by decide) dX4_reasonOf_146 ?_
                  refine x_icmp_gt F dX4_reasonOf_147 (tgt := 173) (by decide) (fun h25 => ?_) (fun h25 => ?_)
                  · have h25' := Int32.not_le.mpr h25
                    refine x_iconst (v := 5) F rfl dX4_reasonOf_173 ?_
                    exact x_iret F hE dX4_reasonOf_174 (Nat.le_of_ble_eq_true rfl) (Nat.le_of_ble_eq_true rfl) (⟨by unfold m_rea; rw [if_neg (fun q => q.elim h1 (fun q => q.1 h2)), if_neg (fun q => q.elim (fun q => q h3) (fun q => q h4)), if_neg (fun q => q.1 h5), if_neg (fun q => q.2.elim h23 (fun q => h24 q.1)), if_pos (Or.inl h25)], rfl⟩)
                  · have h25' := Int32.not_lt.mp h25
                    refine x_aload_n F dX4_reasonOf_150 2 rfl rfl ?_
                    refine z_get (m := m) (j := 2) (v := .int (mY m 2)) F hR mw_801 rfl (by decide) rfl dX4_reasonOf_151 ?_
                    refine x_aload_n F dX4_reasonOf_154 2 rfl rfl ?_
                    refine x_iload_n F dX4_reasonOf_155 3 rfl rfl ?_
                    refine x_callVp (rest := [.int (mY m 2)]) F hR.2.2.1 rfl (c_X4_withTeacher l G A m i hi hW) k_X4_109 ⟨(Nat.le_of_ble_eq_true rfl), (Nat.le_of_ble_eq_true rfl), rfl, rfl⟩ (Nat.le_of_ble_eq_true rfl) (Nat.le_of_ble_eq_true rfl) dX4_reasonOf_156 rfl rfl (Nat.le_of_ble_eq_true rfl) hR ?_
                    refine x_if_eq F dX4_reasonOf_159 (tgt := 166) (by decide) (fun h26 => ?_) (fun h26 => ?_)
                    · replace h26 := bI_0.mp h26
                      refine x_iload_n F dX4_reasonOf_166 0 rfl rfl ?_
                      refine x_callSp (rest := [.int (mY m 2)]) F (c_X4_windOf l G A (mZ m 10 (tN (mZ m 21 i)))) k_X4_143 ⟨(Nat.le_of_ble_eq_true rfl), (Nat.le_of_ble_eq_true rfl), rfl, rfl⟩ (Nat.le_of_ble_eq_true rfl) (Nat.le_of_ble_eq_true rfl) dX4_reasonOf_167 rfl rfl (Nat.le_of_ble_eq_true rfl) trivial ?_
                      refine x_icmp_le F dX4_reasonOf_170 (tgt := 175) (by decide) (fun h27 => ?_) (fun h27 => ?_)
                      · have h27' := Int32.not_lt.mpr h27
                        refine x_aload_n F dX4_reasonOf_175 2 rfl rfl ?_
                        refine z_get (m := m) (j := 3) (v := .int (mY m 3)) F hR mw_802 rfl (by decide) rfl dX4_reasonOf_176 ?_
                        refine x_aload_n F dX4_reasonOf_179 2 rfl rfl ?_
                        refine z_get (m := m) (j := 1) (v := .int (mY m 1)) F hR mw_800 rfl (by decide) rfl dX4_reasonOf_180 ?_
                        refine x_isub F dX4_reasonOf_183 ?_
                        refine x_bipush (v := 10) F rfl dX4_reasonOf_184 ?_
                        refine x_icmp_ge F dX4_reasonOf_186 (tgt := 192) (by decide) (fun h28 => ?_) (fun h28 => ?_)
                        · have h28' := Int32.not_lt.mpr h28
                          refine x_aload_n F dX4_reasonOf_192 2 rfl rfl ?_
                          refine z_get (m := m) (j := 24) (v := .ref (ma m 24)) F hR mw_823 rfl (by decide) rfl dX4_reasonOf_193 ?_
                          refine x_iload_n F dX4_reasonOf_196 3 rfl rfl ?_
                          refine z_ildN (m := m) (j := 24) (i := i) F hR (by decide) rfl rfl (Nat.lt_of_lt_of_le hi hW.2.2.1.2) (by decide) dX4_reasonOf_197 ?_
                          refine x_if_ne F dX4_reasonOf_198 (tgt := 211) (by decide) (fun h29 => ?_) (fun h29 => ?_)
                          · refine x_aload_n F dX4_reasonOf_211 2 rfl rfl ?_
                            refine x_callVp (rest := []) F hR.2.2.1 rfl (c_X4_takenTugs l G A m ) k_X4_98 ⟨(Nat.le_of_ble_eq_true rfl), (Nat.le_of_ble_eq_true rfl), rfl, rfl⟩ (Nat.le_of_ble_eq_true rfl) (Nat.le_of_ble_eq_true rfl) dX4_reasonOf_212 rfl rfl (Nat.le_of_ble_eq_true rfl) hR ?_
                            refine x_aload_n F dX4_reasonOf_215 2 rfl rfl ?_
                            refine z_get (m := m) (j := 7) (v := .int (mY m 7)) F hR mw_806 rfl (by decide) rfl dX4_reasonOf_216 ?_
                            refine x_icmp_lt F dX4_reasonOf_219 (tgt := 225) (by decide) (fun h30 => ?_) (fun h30 => ?_)
                            · have h30' := Int32.not_le.mpr h30
                              refine x_aload_n F dX4_reasonOf_225 2 rfl rfl ?_
                              refine x_callVp (rest := []) F hR.2.2.1 rfl (c_X4_isBusyNow l G A m ) k_X4_146 ⟨(Nat.le_of_ble_eq_true rfl), (Nat.le_of_ble_eq_true rfl), rfl, rfl⟩ (Nat.le_of_ble_eq_true rfl) (Nat.le_of_ble_eq_true rfl) dX4_reasonOf_226 rfl rfl (Nat.le_of_ble_eq_true rfl) hR ?_
                              refine x_if_eq F dX4_reasonOf_229 (tgt := 237) (by decide) (fun h31 => ?_) (fun h31 => ?_)
                              · replace h31 := bI_0.mp h31
                                refine x_iconst (v := 0) F rfl dX4_reasonOf_237 ?_
                                exact x_iret F hE dX4_reasonOf_238 (Nat.le_of_ble_eq_true rfl) (Nat.le_of_ble_eq_true rfl) (⟨by unfold m_rea; rw [if_neg (fun q => q.elim h1 (fun q => q.1 h2)), if_neg (fun q => q.elim (fun q => q h3) (fun q => q h4)), if_neg (fun q => q.1 h5), if_neg (fun q => q.2.elim h23 (fun q => h24 q.1)), if_neg (fun q => q.elim h25 (fun q => by rw [if_neg h26] at q; exact h27' q)), if_neg h28', if_neg (fun q => q.elim (fun q => h29 q.1) (fun q => h30' q.2)), if_neg h31], rfl⟩)
                              · replace h31 := bI_ne.mp h31
                                refine x_bipush (v := 8) F rfl dX4_reasonOf_232 ?_
                                refine x_goto F dX4_reasonOf_234 (tgt := 238) (by decide) ?_
                                exact x_iret F hE dX4_reasonOf_238 (Nat.le_of_ble_eq_true rfl) (Nat.le_of_ble_eq_true rfl) (⟨by unfold m_rea; rw [if_neg (fun q => q.elim h1 (fun q => q.1 h2)), if_neg (fun q => q.elim (fun q => q h3) (fun q => q h4)), if_neg (fun q => q.1 h5), if_neg (fun q => q.2.elim h23 (fun q => h24 q.1)), if_neg (fun q => q.elim h25 (fun q => by rw [if_neg h26] at q; exact h27' q)), if_neg h28', if_neg (fun q => q.elim (fun q => h29 q.1) (fun q => h30' q.2)), if_pos h31], rfl⟩)
                            · have h30' := Int32.not_lt.mp h30
                              refine x_bipush (v := 7) F rfl dX4_reasonOf_222 ?_
                              exact x_iret F hE dX4_reasonOf_224 (Nat.le_of_ble_eq_true rfl) (Nat.le_of_ble_eq_true rfl) (⟨by unfold m_rea; rw [if_neg (fun q => q.elim h1 (fun q => q.1 h2)), if_neg (fun q => q.elim (fun q => q h3) (fun q => q h4)), if_neg (fun q => q.1 h5), if_neg (fun q => q.2.elim h23 (fun q => h24 q.1)), if_neg (fun q => q.elim h25 (fun q => by rw [if_neg h26] at q; exact h27' q)), if_neg h28', if_pos (Or.inr ⟨h29, h30'⟩)], rfl⟩)
                          · refine x_aload_n F dX4_reasonOf_201 2 rfl rfl ?_
                            refine z_get (m := m) (j := 5) (v := .int (mY m 5)) F hR mw_804 rfl (by decide) rfl dX4_reasonOf_202 ?_
                            refine x_if_ne F dX4_reasonOf_205 (tgt := 225) (by decide) (fun h32 => ?_) (fun h32 => ?_)
                            · refine x_aload_n F dX4_reasonOf_225 2 rfl rfl ?_
                              refine x_callVp (rest := []) F hR.2.2.1 rfl (c_X4_isBusyNow l G A m ) k_X4_146 ⟨(Nat.le_of_ble_eq_true rfl), (Nat.le_of_ble_eq_true rfl), rfl, rfl⟩ (Nat.le_of_ble_eq_true rfl) (Nat.le_of_ble_eq_true rfl) dX4_reasonOf_226 rfl rfl (Nat.le_of_ble_eq_true rfl) hR ?_
                              refine x_if_eq F dX4_reasonOf_229 (tgt := 237) (by decide) (fun h33 => ?_) (fun h33 => ?_)
                              · replace h33 := bI_0.mp h33
                                refine x_iconst (v := 0) F rfl dX4_reasonOf_237 ?_
                                exact x_iret F hE dX4_reasonOf_238 (Nat.le_of_ble_eq_true rfl) (Nat.le_of_ble_eq_true rfl) (⟨by unfold m_rea; rw [if_neg (fun q => q.elim h1 (fun q => q.1 h2)), if_neg (fun q => q.elim (fun q => q h3) (fun q => q h4)), if_neg (fun q => q.1 h5), if_neg (fun q => q.2.elim h23 (fun q => h24 q.1)), if_neg (fun q => q.elim h25 (fun q => by rw [if_neg h26] at q; exact h27' q)), if_neg h28', if_neg (fun q => q.elim (fun q => h32 q.2) (fun q => q.1 h29)), if_neg h33], rfl⟩)
                              · replace h33 := bI_ne.mp h33
                                refine x_bipush (v := 8) F rfl dX4_reasonOf_232 ?_
                                refine x_goto F dX4_reasonOf_234 (tgt := 238) (by decide) ?_
                                exact x_iret F hE dX4_reasonOf_238 (Nat.le_of_ble_eq_true rfl) (Nat.le_of_ble_eq_true rfl) (⟨by unfold m_rea; rw [if_neg (fun q => q.elim h1 (fun q => q.1 h2)), if_neg (fun q => q.elim (fun q => q h3) (fun q => q h4)), if_neg (fun q => q.1 h5), if_neg (fun q => q.2.elim h23 (fun q => h24 q.1)), if_neg (fun q => q.elim h25 (fun q => by rw [if_neg h26] at q; exact h27' q)), if_neg h28', if_neg (fun q => q.elim (fun q => h32 q.2) (fun q => q.1 h29)), if_pos h33], rfl⟩)
                            · refine x_goto F dX4_reasonOf_208 (tgt := 222) (by decide) ?_
                              refine x_bipush (v := 7) F rfl dX4_reasonOf_222 ?_
                              exact x_iret F hE dX4_reasonOf_224 (Nat.le_of_ble_eq_true rfl) (Nat.le_of_ble_eq_true rfl) (⟨by unfold m_rea; rw [if_neg (fun q => q.elim h1 (fun q => q.1 h2)), if_neg (fun q => q.elim (fun q => q h3) (fun q => q h4)), if_neg (fun q => q.1 h5), if_neg (fun q => q.2.elim h23 (fun q => h24 q.1)), if_neg (fun q => q.elim h25 (fun q => by rw [if_neg h26] at q; exact h27' q)), if_neg h28', if_pos (Or.inl ⟨h29, h32⟩)], rfl⟩)
                        · have h28' := Int32.not_le.mp h28
                          refine x_bipush (v := 6) F rfl dX4_reasonOf_189 ?_
                          exact x_iret F hE dX4_reasonOf_191 (Nat.le_of_ble_eq_true rfl) (Nat.le_of_ble_eq_true rfl) (⟨by unfold m_rea; rw [if_neg (fun q => q.elim h1 (fun q => q.1 h2)), if_neg (fun q => q.elim (fun q => q h3) (fun q => q h4)), if_neg (fun q => q.1 h5), if_neg (fun q => q.2.elim h23 (fun q => h24 q.1)), if_neg (fun q => q.elim h25 (fun q => by rw [if_neg h26] at q; exact h27' q)), if_pos h28'], rfl⟩)
                      · have h27' := Int32.not_le.mp h27
                        refine x_iconst (v := 5) F rfl dX4_reasonOf_173 ?_
                        exact x_iret F hE dX4_reasonOf_174 (Nat.le_of_ble_eq_true rfl) (Nat.le_of_ble_eq_true rfl) (⟨by unfold m_rea; rw [if_neg (fun q => q.elim h1 (fun q => q.1 h2)), if_neg (fun q => q.elim (fun q => q h3) (fun q => q h4)), if_neg (fun q => q.1 h5), if_neg (fun q => q.2.elim h23 (fun q => h24 q.1)), if_pos (Or.inr (by rw [if_neg h26]; exact h27'))], rfl⟩)
                    · replace h26 := bI_ne.mp h26
                      refine x_iconst (v := 3) F rfl dX4_reasonOf_162 ?_
                      refine x_goto F dX4_reasonOf_163 (tgt := 167) (by decide) ?_
                      refine x_callSp (rest := [.int (mY m 2)]) F (c_X4_windOf l G A 3) k_X4_143 ⟨(Nat.le_of_ble_eq_true rfl), (Nat.le_of_ble_eq_true rfl), rfl, rfl⟩ (Nat.le_of_ble_eq_true rfl) (Nat.le_of_ble_eq_true rfl) dX4_reasonOf_167 rfl rfl (Nat.le_of_ble_eq_true rfl) trivial ?_
                      refine x_icmp_le F dX4_reasonOf_170 (tgt := 175) (by decide) (fun h34 => ?_) (fun h34 => ?_)
                      · have h34' := Int32.not_lt.mpr h34
                        refine x_aload_n F dX4_reasonOf_175 2 rfl rfl ?_
                        refine z_get (m := m) (j := 3) (v := .int (mY m 3)) F hR mw_802 rfl (by decide) rfl dX4_reasonOf_176 ?_
                        refine x_aload_n F dX4_reasonOf_179 2 rfl rfl ?_
                        refine z_get (m := m) (j := 1) (v := .int (mY m 1)) F hR mw_800 rfl (by decide) rfl dX4_reasonOf_180 ?_
                        refine x_isub F dX4_reasonOf_183 ?_
                        refine x_bipush (v := 10) F rfl dX4_reasonOf_184 ?_
                        refine x_icmp_ge F dX4_reasonOf_186 (tgt := 192) (by decide) (fun h35 => ?_) (fun h35 => ?_)
                        · have h35' := Int32.not_lt.mpr h35
                          refine x_aload_n F dX4_reasonOf_192 2 rfl rfl ?_
                          refine z_get (m := m) (j := 24) (v := .ref (ma m 24)) F hR mw_823 rfl (by decide) rfl dX4_reasonOf_193 ?_
                          refine x_iload_n F dX4_reasonOf_196 3 rfl rfl ?_
                          refine z_ildN (m := m) (j := 24) (i := i) F hR (by decide) rfl rfl (Nat.lt_of_lt_of_le hi hW.2.2.1.2) (by decide) dX4_reasonOf_197 ?_
                          refine x_if_ne F dX4_reasonOf_198 (tgt := 211) (by decide) (fun h36 => ?_) (fun h36 => ?_)
                          · refine x_aload_n F dX4_reasonOf_211 2 rfl rfl ?_
                            refine x_callVp (rest := []) F hR.2.2.1 rfl (c_X4_takenTugs l G A m ) k_X4_98 ⟨(Nat.le_of_ble_eq_true rfl), (Nat.le_of_ble_eq_true rfl), rfl, rfl⟩ (Nat.le_of_ble_eq_true rfl) (Nat.le_of_ble_eq_true rfl) dX4_reasonOf_212 rfl rfl (Nat.le_of_ble_eq_true rfl) hR ?_
                            refine x_aload_n F dX4_reasonOf_215 2 rfl rfl ?_
                            refine z_get (m := m) (j := 7) (v := .int (mY m 7)) F hR mw_806 rfl (by decide) rfl dX4_reasonOf_216 ?_
                            refine x_icmp_lt F dX4_reasonOf_219 (tgt := 225) (by decide) (fun h37 => ?_) (fun h37 => ?_)
                            · have h37' := Int32.not_le.mpr h37
                              refine x_aload_n F dX4_reasonOf_225 2 rfl rfl ?_
                              refine x_callVp (rest := []) F hR.2.2.1 rfl (c_X4_isBusyNow l G A m ) k_X4_146 ⟨(Nat.le_of_ble_eq_true rfl), (Nat.le_of_ble_eq_true rfl), rfl, rfl⟩ (Nat.le_of_ble_eq_true rfl) (Nat.le_of_ble_eq_true rfl) dX4_reasonOf_226 rfl rfl (Nat.le_of_ble_eq_true rfl) hR ?_
                              refine x_if_eq F dX4_reasonOf_229 (tgt := 237) (by decide) (fun h38 => ?_) (fun h38 => ?_)
                              · replace h38 := bI_0.mp h38
                                refine x_iconst (v := 0) F rfl dX4_reasonOf_237 ?_
                                exact x_iret F hE dX4_reasonOf_238 (Nat.le_of_ble_eq_true rfl) (Nat.le_of_ble_eq_true rfl) (⟨by unfold m_rea; rw [if_neg (fun q => q.elim h1 (fun q => q.1 h2)), if_neg (fun q => q.elim (fun q => q h3) (fun q => q h4)), if_neg (fun q => q.1 h5), if_neg (fun q => q.2.elim h23 (fun q => h24 q.1)), if_neg (fun q => q.elim h25 (fun q => by rw [if_pos h26] at q; exact h34' q)), if_neg h35', if_neg (fun q => q.elim (fun q => h36 q.1) (fun q => h37' q.2)), if_neg h38], rfl⟩)
                              · replace h38 := bI_ne.mp h38
                                refine x_bipush (v := 8) F rfl dX4_reasonOf_232 ?_
                                refine x_goto F dX4_reasonOf_234 (tgt := 238) (by decide) ?_
                                exact x_iret F hE dX4_reasonOf_238 (Nat.le_of_ble_eq_true rfl) (Nat.le_of_ble_eq_true rfl) (⟨by unfold m_rea; rw [if_neg (fun q => q.elim h1 (fun q => q.1 h2)), if_neg (fun q => q.elim (fun q => q h3) (fun q => q h4)), if_neg (fun q => q.1 h5), if_neg (fun q => q.2.elim h23 (fun q => h24 q.1)), if_neg (fun q => q.elim h25 (fun q => by rw [if_pos h26] at q; exact h34' q)), if_neg h35', if_neg (fun q => q.elim (fun q => h36 q.1) (fun q => h37' q.2)), if_pos h38], rfl⟩)
                            · have h37' := Int32.not_lt.mp h37
                              refine x_bipush (v := 7) F rfl dX4_reasonOf_222 ?_
                              exact x_iret F hE dX4_reasonOf_224 (Nat.le_of_ble_eq_true rfl) (Nat.le_of_ble_eq_true rfl) (⟨by unfold m_rea; rw [if_neg (fun q => q.elim h1 (fun q => q.1 h2)), if_neg (fun q => q.elim (fun q => q h3) (fun q => q h4)), if_neg (fun q => q.1 h5), if_neg (fun q => q.2.elim h23 (fun q => h24 q.1)), if_neg (fun q => q.elim h25 (fun q => by rw [if_pos h26] at q; exact h34' q)), if_neg h35', if_pos (Or.inr ⟨h36, h37'⟩)], rfl⟩)
                          · refine x_aload_n F dX4_reasonOf_201 2 rfl rfl ?_
                            refine z_get (m := m) (j := 5) (v := .int (mY m 5)) F hR mw_804 rfl (by decide) rfl dX4_reasonOf_202 ?_
                            refine x_if_ne F dX4_reasonOf_205 (tgt := 225) (by decide) (fun h39 => ?_) (fun h39 => ?_)
                            · refine x_aload_n F dX4_reasonOf_225 2 rfl rfl ?_
                              refine x_callVp (rest := []) F hR.2.2.1 rfl (c_X4_isBusyNow l G A m ) k_X4_146 ⟨(Nat.le_of_ble_eq_true rfl), (Nat.le_of_ble_eq_true rfl), rfl, rfl⟩ (Nat.le_of_ble_eq_true rfl) (Nat.le_of_ble_eq_true rfl) dX4_reasonOf_226 rfl rfl (Nat.le_of_ble_eq_true rfl) hR ?_
                              refine x_if_eq F dX4_reasonOf_229 (tgt := 237) (by decide) (fun h40 => ?_) (fun h40 => ?_)
                              · replace h40 := bI_0.mp h40
                                refine x_iconst (v := 0) F rfl dX4_reasonOf_237 ?_
                                exact x_iret F hE dX4_reasonOf_238 (Nat.le_of_ble_eq_true rfl) (Nat.le_of_ble_eq_true rfl) (⟨by unfold m_rea; rw [if_neg (fun q => q.elim h1 (fun q => q.1 h2)), if_neg (fun q => q.elim (fun q => q h3) (fun q => q h4)), if_neg (fun q => q.1 h5), if_neg (fun q => q.2.elim h23 (fun q => h24 q.1)), if_neg (fun q => q.elim h25 (fun q => by rw [if_pos h26] at q; exact h34' q)), if_neg h35', if_neg (fun q => q.elim (fun q => h39 q.2) (fun q => q.1 h36)), if_neg h40], rfl⟩)
                              · replace h40 := bI_ne.mp h40
                                refine x_bipush (v := 8) F rfl dX4_reasonOf_232 ?_
                                refine x_goto F dX4_reasonOf_234 (tgt := 238) (by decide) ?_
                                exact x_iret F hE dX4_reasonOf_238 (Nat.le_of_ble_eq_true rfl) (Nat.le_of_ble_eq_true rfl) (⟨by unfold m_rea; rw [if_neg (fun q => q.elim h1 (fun q => q.1 h2)), if_neg (fun q => q.elim (fun q => q h3) (fun q => q h4)), if_neg (fun q => q.1 h5), if_neg (fun q => q.2.elim h23 (fun q => h24 q.1)), if_neg (fun q => q.elim h25 (fun q => by rw [if_pos h26] at q; exact h34' q)), if_neg h35', if_neg (fun q => q.elim (fun q => h39 q.2) (fun q => q.1 h36)), if_pos h40], rfl⟩)
                            · refine x_goto F dX4_reasonOf_208 (tgt := 222) (by decide) ?_
                              refine x_bipush (v := 7) F rfl dX4_reasonOf_222 ?_
                              exact x_iret F hE dX4_reasonOf_224 (Nat.le_of_ble_eq_true rfl) (Nat.le_of_ble_eq_true rfl) (⟨by unfold m_rea; rw [if_neg (fun q => q.elim h1 (fun q => q.1 h2)), if_neg (fun q => q.elim (fun q => q h3) (fun q => q h4)), if_neg (fun q => q.1 h5), if_neg (fun q => q.2.elim h23 (fun q => h24 q.1)), if_neg (fun q => q.elim h25 (fun q => by rw [if_pos h26] at q; exact h34' q)), if_neg h35', if_pos (Or.inl ⟨h36, h39⟩)], rfl⟩)
                        · have h35' := Int32.not_le.mp h35
                          refine x_bipush (v := 6) F rfl dX4_reasonOf_189 ?_
                          exact x_iret F hE dX4_reasonOf_191 (Nat.le_of_ble_eq_true rfl) (Nat.le_of_ble_eq_true rfl) (⟨by unfold m_rea; rw [if_neg (fun q => q.elim h1 (fun q => q.1 h2)), if_neg (fun q => q.elim (fun q => q h3) (fun q => q h4)), if_neg (fun q => q.1 h5), if_neg (fun q => q.2.elim h23 (fun q => h24 q.1)), if_neg (fun q => q.elim h25 (fun q => by rw [if_pos h26] at q; exact h34' q)), if_pos h35'], rfl⟩)
                      · have h34' := Int32.not_le.mp h34
                        refine x_iconst (v := 5) F rfl dX4_reasonOf_173 ?_
                        exact x_iret F hE dX4_reasonOf_174 (Nat.le_of_ble_eq_true rfl) (Nat.le_of_ble_eq_true rfl) (⟨by unfold m_rea; rw [if_neg (fun q => q.elim h1 (fun q => q.1 h2)), if_neg (fun q => q.elim (fun q => q h3) (fun q => q h4)), if_neg (fun q => q.1 h5), if_neg (fun q => q.2.elim h23 (fun q => h24 q.1)), if_pos (Or.inr (by rw [if_pos h26]; exact h34'))], rfl⟩)
                · refine x_aload_n F dX4_reasonOf_121 2 rfl rfl ?_
                  refine x_iload_n F dX4_reasonOf_122 1 rfl rfl ?_
                  refine x_iconst (v := 4) F rfl dX4_reasonOf_123 ?_
                  refine x_callVp (rest := []) F hR.2.2.1 rfl (c_X4_landed l G A m (mZ m 21 i) 4 hW) k_X4_115 ⟨(Nat.le_of_ble_eq_true rfl), (Nat.le_of_ble_eq_true rfl), rfl, rfl⟩ (Nat.le_of_ble_eq_true rfl) (Nat.le_of_ble_eq_true rfl) dX4_reasonOf_124 rfl rfl (Nat.le_of_ble_eq_true rfl) hR ?_
                  refine x_if_ne F dX4_reasonOf_127 (tgt := 132) (by decide) (fun h41 => ?_) (fun h41 => ?_)
                  · refine x_aload_n F dX4_reasonOf_132 2 rfl rfl ?_
                    refine z_get (m := m) (j := 2) (v := .int (mY m 2)) F hR mw_801 rfl (by decide) rfl dX4_reasonOf_133 ?_
                    refine x_aload_n F dX4_reasonOf_136 2 rfl rfl ?_
                    refine z_get (m := m) (j := 15) (v := .ref (ma m 15)) F hR mw_814 rfl (by decide) rfl dX4_reasonOf_137 ?_
                    refine x_aload_n F dX4_reasonOf_140 2 rfl rfl ?_
                    refine z_get (m := m) (j := 23) (v := .ref (ma m 23)) F hR mw_822 rfl (by decide) rfl dX4_reasonOf_141 ?_
                    refine x_iload_n F dX4_reasonOf_144 3 rfl rfl ?_
                    refine z_ildN (m := m) (j := 23) (i := i) F hR (by decide) rfl rfl (Nat.lt_of_lt_of_le hi hW.2.2.1.2) (by decide) dX4_reasonOf_145 ?_
                    refine wx_i (y := nI (tN (mZ m 23 i))) ((hW.2.2.2 _ hi).2.2.1) ?_
                    refine z_ildN (m := m) (j := 15) (i := (tN (mZ m 23 i))) F hR (by decide) rfl rfl (Nat.lt_of_lt_of_le (hW.2.2.2 _ hi).2.2.2 hW.2.1.2) (by decide) dX4_reasonOf_146 ?_
                    refine x_icmp_gt F dX4_reasonOf_147 (tgt := 173) (by decide) (fun h42 => ?_) (fun h42 => ?_)
                    · have h42' := Int32.not_le.mpr h42
                      refine x_iconst (v := 5) F rfl dX4_reasonOf_173 ?_
                      exact x_iret F hE dX4_reasonOf_174 (Nat.le_of_ble_eq_true rfl) (Nat.le_of_ble_eq_true rfl) (⟨by unfold m_rea; rw [if_neg (fun q => q.elim h1 (fun q => q.1 h2)), if_neg (fun q => q.elim (fun q => q h3) (fun q => q h4)), if_neg (fun q => q.1 h5), if_neg (fun q => q.2.elim h23 (fun q => h41 q.2)), if_pos (Or.inl h42)], rfl⟩)
                    · have h42' := Int32.not_lt.mp h42
                      refine x_aload_n F dX4_reasonOf_150 2 rfl rfl ?_
                      refine z_get (m := m) (j := 2) (v := .int (mY m 2)) F hR mw_801 rfl (by decide) rfl dX4_reasonOf_151 ?_
                      refine x_aload_n F dX4_reasonOf_154 2 rfl rfl ?_
                      refine x_iload_n F dX4_reasonOf_155 3 rfl rfl ?_
                      refine x_callVp (rest := [.int (mY m 2)]) F hR.2.2.1 rfl (c_X4_withTeacher l G A m i hi hW) k_X4_109 ⟨(Nat.le_of_ble_eq_true rfl), (Nat.le_of_ble_eq_true rfl), rfl, rfl⟩ (Nat.le_of_ble_eq_true rfl) (Nat.le_of_ble_eq_true rfl) dX4_reasonOf_156 rfl rfl (Nat.le_of_ble_eq_true rfl) hR ?_
                      refine x_if_eq F dX4_reasonOf_159 (tgt := 166) (by decide) (fun h43 => ?_) (fun h43 => ?_)
                      · replace h43 := bI_0.mp h43
                        refine x_iload_n F dX4_reasonOf_166 0 rfl rfl ?_
                        refine x_callSp (rest := [.int (mY m 2)]) F (c_X4_windOf l G A (mZ m 10 (tN (mZ m 21 i)))) k_X4_143 ⟨(Nat.le_of_ble_eq_true rfl), (Nat.le_of_ble_eq_true rfl), rfl, rfl⟩ (Nat.le_of_ble_eq_true rfl) (Nat.le_of_ble_eq_true rfl) dX4_reasonOf_167 rfl rfl (Nat.le_of_ble_eq_true rfl) trivial ?_
                        refine x_icmp_le F dX4_reasonOf_170 (tgt := 175) (by decide) (fun h44 => ?_) (fun h44 => ?_)
                        · have h44' := Int32.not_lt.mpr h44
                          refine x_aload_n F dX4_reasonOf_175 2 rfl rfl ?_
                          refine z_get (m := m) (j := 3) (v := .int (mY m 3)) F hR mw_802 rfl (by decide) rfl dX4_reasonOf_176 ?_
                          refine x_aload_n F dX4_reasonOf_179 2 rfl rfl ?_
                          refine z_get (m := m) (j := 1) (v := .int (mY m 1)) F hR mw_800 rfl (by decide) rfl dX4_reasonOf_180 ?_
                          refine x_isub F dX4_reasonOf_183 ?_
                          refine x_bipush (v := 10) F rfl dX4_reasonOf_184 ?_
                          refine x_icmp_ge F dX4_reasonOf_186 (tgt := 192) (by decide) (fun h45 => ?_) (fun h45 => ?_)
                          · have h45' := Int32.not_lt.mpr h45
                            refine x_aload_n F dX4_reasonOf_192 2 rfl rfl ?_
                            refine z_get (m := m) (j := 24) (v := .ref (ma m 24)) F hR mw_823 rfl (by decide) rfl dX4_reasonOf_193 ?_
                            refine x_iload_n F dX4_reasonOf_196 3 rfl rfl ?_
                            refine z_ildN (m := m) (j := 24) (i := i) F hR (by decide) rfl rfl (Nat.lt_of_lt_of_le hi hW.2.2.1.2) (by decide) dX4_reasonOf_197 ?_
                            refine x_if_ne F dX4_reasonOf_198 (tgt := 211) (by decide) (fun h46 => ?_) (fun h46 => ?_)
                            · refine x_aload_n F dX4_reasonOf_211 2 rfl rfl ?_
                              refine x_callVp (rest := []) F hR.2.2.1 rfl (c_X4_takenTugs l G A m ) k_X4_98 ⟨(Nat.le_of_ble_eq_true rfl), (Nat.le_of_ble_eq_true rfl), rfl, rfl⟩ (Nat.le_of_ble_eq_true rfl) (Nat.le_of_ble_eq_true rfl) dX4_reasonOf_212 rfl rfl (Nat.le_of_ble_eq_true rfl) hR ?_
                              refine x_aload_n F dX4_reasonOf_215 2 rfl rfl ?_
                              refine z_get (m := m) (j := 7) (v := .int (mY m 7)) F hR mw_806 rfl (by decide) rfl dX4_reasonOf_216 ?_
                              refine x_icmp_lt F dX4_reasonOf_219 (tgt := 225) (by decide) (fun h47 => ?_) (fun h47 => ?_)
                              · have h47' := Int32.not_le.mpr h47
                                refine x_aload_n F dX4_reasonOf_225 2 rfl rfl ?_
                                refine x_callVp (rest := []) F hR.2.2.1 rfl (c_X4_isBusyNow l G A m ) k_X4_146 ⟨(Nat.le_of_ble_eq_true rfl), (Nat.le_of_ble_eq_true rfl), rfl, rfl⟩ (Nat.le_of_ble_eq_true rfl) (Nat.le_of_ble_eq_true rfl) dX4_reasonOf_226 rfl rfl (Nat.le_of_ble_eq_true rfl) hR ?_
                                refine x_if_eq F dX4_reasonOf_229 (tgt := 237) (by decide) (fun h48 => ?_) (fun h48 => ?_)
                                · replace h48 := bI_0.mp h48
                                  refine x_iconst (v := 0) F rfl dX4_reasonOf_237 ?_
                                  exact x_iret F hE dX4_reasonOf_238 (Nat.le_of_ble_eq_true rfl) (Nat.le_of_ble_eq_true rfl) (⟨by unfold m_rea; rw [if_neg (fun q => q.elim h1 (fun q => q.1 h2)), if_neg (fun q => q.elim (fun q => q h3) (fun q => q h4)), if_neg (fun q => q.1 h5), if_neg (fun q => q.2.elim h23 (fun q => h41 q.2)), if_neg (fun q => q.elim h42 (fun q => by rw [if_neg h43] at q; exact h44' q)), if_neg h45', if_neg (fun q => q.elim (fun q => h46 q.1) (fun q => h47' q.2)), if_neg h48], rfl⟩)
                                · replace h48 := bI_ne.mp h48
                                  refine x_bipush (v := 8) F rfl dX4_reasonOf_232 ?_
                                  refine x_goto F dX4_reasonOf_234 (tgt := 238) (by decide) ?_
                                  exact x_iret F hE dX4_reasonOf_238 (Nat.le_of_ble_eq_true rfl) (Nat.le_of_ble_eq_true rfl) (⟨by unfold m_rea; rw [if_neg (fun q => q.elim h1 (fun q => q.1 h2)), if_neg (fun q => q.elim (fun q => q h3) (fun q => q h4)), if_neg (fun q => q.1 h5), if_neg (fun q => q.2.elim h23 (fun q => h41 q.2)), if_neg (fun q => q.elim h42 (fun q => by rw [if_neg h43] at q; exact h44' q)), if_neg h45', if_neg (fun q => q.elim (fun q => h46 q.1) (fun q => h47' q.2)), if_pos h48], rfl⟩)
                              · have h47' := Int32.not_lt.mp h47
                                refine x_bipush (v := 7) F rfl dX4_reasonOf_222 ?_
                                exact x_iret F hE dX4_reasonOf_224 (Nat.le_of_ble_eq_true rfl) (Nat.le_of_ble_eq_true rfl) (⟨by unfold m_rea; rw [if_neg (fun q => q.elim h1 (fun q => q.1 h2)), if_neg (fun q => q.elim (fun q => q h3) (fun q => q h4)), if_neg (fun q => q.1 h5), if_neg (fun q => q.2.elim h23 (fun q => h41 q.2)), if_neg (fun q => q.elim h42 (fun q => by rw [if_neg h43] at q; exact h44' q)), if_neg h45', if_pos (Or.inr ⟨h46, h47'⟩)], rfl⟩)
                            · refine x_aload_n F dX4_reasonOf_201 2 rfl rfl ?_
                              refine z_get (m := m) (j := 5) (v := .int (mY m 5)) F hR mw_804 rfl (by decide) rfl dX4_reasonOf_202 ?_
                              refine x_if_ne F dX4_reasonOf_205 (tgt := 225) (by decide) (fun h49 => ?_) (fun h49 => ?_)
                              · refine x_aload_n F dX4_reasonOf_225 2 rfl rfl ?_
                                refine x_callVp (rest := []) F hR.2.2.1 rfl (c_X4_isBusyNow l G A m ) k_X4_146 ⟨(Nat.le_of_ble_eq_true rfl), (Nat.le_of_ble_eq_true rfl), rfl, rfl⟩ (Nat.le_of_ble_eq_true rfl) (Nat.le_of_ble_eq_true rfl) dX4_reasonOf_226 rfl rfl (Nat.le_of_ble_eq_true rfl) hR ?_
                                refine x_if_eq F dX4_reasonOf_229 (tgt := 237) (by decide) (fun h50 => ?_) (fun h50 => ?_)
                                · replace h50 := bI_0.mp h50
                                  refine x_iconst (v := 0) F rfl dX4_reasonOf_237 ?_
                                  exact x_iret F hE dX4_reasonOf_238 (Nat.le_of_ble_eq_true rfl) (Nat.le_of_ble_eq_true rfl) (⟨by unfold m_rea; rw [if_neg (fun q => q.elim h1 (fun q => q.1 h2)), if_neg (fun q => q.elim (fun q => q h3) (fun q => q h4)), if_neg (fun q => q.1 h5), if_neg (fun q => q.2.elim h23 (fun q => h41 q.2)), if_neg (fun q => q.elim h42 (fun q => by rw [if_neg h43] at q; exact h44' q)), if_neg h45', if_neg (fun q => q.elim (fun q => h49 q.2) (fun q => q.1 h46)), if_neg h50], rfl⟩)
                                · replace h50 := bI_ne.mp h50
                                  refine x_bipush (v := 8) F rfl dX4_reasonOf_232 ?_
                                  refine x_goto F dX4_reasonOf_234 (tgt := 238) (by decide) ?_
                                  exact x_iret F hE dX4_reasonOf_238 (Nat.le_of_ble_eq_true rfl) (Nat.le_of_ble_eq_true rfl) (⟨by unfold m_rea; rw [if_neg (fun q => q.elim h1 (fun q => q.1 h2)), if_neg (fun q => q.elim (fun q => q h3) (fun q => q h4)), if_neg (fun q => q.1 h5), if_neg (fun q => q.2.elim h23 (fun q => h41 q.2)), if_neg (fun q => q.elim h42 (fun q => by rw [if_neg h43] at q; exact h44' q)), if_neg h45', if_neg (fun q => q.elim (fun q => h49 q.2) (fun q => q.1 h46)), if_pos h50], rfl⟩)
                              · refine x_goto F dX4_reasonOf_208 (tgt := 222) (by decide) ?_
                                refine x_bipush (v := 7) F rfl dX4_reasonOf_222 ?_
                                exact x_iret F hE dX4_reasonOf_224 (Nat.le_of_ble_eq_true rfl) (Nat.le_of_ble_eq_true rfl) (⟨by unfold m_rea; rw [if_neg (fun q => q.elim h1 (fun q => q.1 h2)), if_neg (fun q => q.elim (fun q => q h3) (fun q => q h4)), if_neg (fun q => q.1 h5), if_neg (fun q => q.2.elim h23 (fun q => h41 q.2)), if_neg (fun q => q.elim h42 (fun q => by rw [if_neg h43] at q; exact h44' q)), if_neg h45', if_pos (Or.inl ⟨h46, h49⟩)], rfl⟩)
                          · have h45' := Int32.not_le.mp h45
                            refine x_bipush (v := 6) F rfl dX4_reasonOf_189 ?_
                            exact x_iret F hE dX4_reasonOf_191 (Nat.le_of_ble_eq_true rfl) (Nat.le_of_ble_eq_true rfl) (⟨by unfold m_rea; rw [if_neg (fun q => q.elim h1 (fun q => q.1 h2)), if_neg (fun q => q.elim (fun q => q h3) (fun q => q h4)), if_neg (fun q => q.1 h5), if_neg (fun q => q.2.elim h23 (fun q => h41 q.2)), if_neg (fun q => q.elim h42 (fun q => by rw [if_neg h43] at q; exact h44' q)), if_pos h45'], rfl⟩)
                        · have h44' := Int32.not_le.mp h44
                          refine x_iconst (v := 5) F rfl dX4_reasonOf_173 ?_
                          exact x_iret F hE dX4_reasonOf_174 (Nat.le_of_ble_eq_true rfl) (Nat.le_of_ble_eq_true rfl) (⟨by unfold m_rea; rw [if_neg (fun q => q.elim h1 (fun q => q.1 h2)), if_neg (fun q => q.elim (fun q => q h3) (fun q => q h4)), if_neg (fun q => q.1 h5), if_neg (fun q => q.2.elim h23 (fun q => h41 q.2)), if_pos (Or.inr (by rw [if_neg h43]; exact h44'))], rfl⟩)
                      · replace h43 := bI_ne.mp h43
                        refine x_iconst (v := 3) F rfl dX4_reasonOf_162 ?_
                        refine x_goto F dX4_reasonOf_163 (tgt := 167) (by decide) ?_
                        refine x_callSp (rest := [.int (mY m 2)]) F (c_X4_windOf l G A 3) k_X4_143 ⟨(Nat.le_of_ble_eq_true rfl), (Nat.le_of_ble_eq_true rfl), rfl, rfl⟩ (Nat.le_of_ble_eq_true rfl) (Nat.le_of_ble_eq_true rfl) dX4_reasonOf_167 rfl rfl (Nat.le_of_ble_eq_true rfl) trivial ?_
                        refine x_icmp_le F dX4_reasonOf_170 (tgt := 175) (by decide) (fun h51 => ?_) (fun h51 => ?_)
                        · have h51' := Int32.not_lt.mpr h51
                          refine x_aload_n F dX4_reasonOf_175 2 rfl rfl ?_
                          refine z_get (m := m) (j := 3) (v := .int (mY m 3)) F hR mw_802 rfl (by decide) rfl dX4_reasonOf_176 ?_
                          refine x_aload_n F dX4_reasonOf_179 2 rfl rfl ?_
                          refine z_get (m := m) (j := 1) (v := .int (mY m 1)) F hR mw_800 rfl (by decide) rfl dX4_reasonOf_180 ?_
                          refine x_isub F dX4_reasonOf_183 ?_
                          refine x_bipush (v := 10) F rfl dX4_reasonOf_184 ?_
                          refine x_icmp_ge F dX4_reasonOf_186 (tgt := 192) (by decide) (fun h52 => ?_) (fun h52 => ?_)
                          · have h52' := Int32.not_lt.mpr h52
                            refine x_aload_n F dX4_reasonOf_192 2 rfl rfl ?_
                            refine z_get (m := m) (j := 24) (v := .ref (ma m 24)) F hR mw_823 rfl (by decide) rfl dX4_reasonOf_193 ?_
                            refine x_iload_n F dX4_reasonOf_196 3 rfl rfl ?_
                            refine z_ildN (m := m) (j := 24) (i := i) F hR (by decide) rfl rfl (Nat.lt_of_lt_of_le hi hW.2.2.1.2) (by decide) dX4_reasonOf_197 ?_
                            refine x_if_ne F dX4_reasonOf_198 (tgt := 211) (by decide) (fun h53 => ?_) (fun h53 => ?_)
                            · refine x_aload_n F dX4_reasonOf_211 2 rfl rfl ?_
                              refine x_callVp (rest := []) F hR.2.2.1 rfl (c_X4_takenTugs l G A m ) k_X4_98 ⟨(Nat.le_of_ble_eq_true rfl), (Nat.le_of_ble_eq_true rfl), rfl, rfl⟩ (Nat.le_of_ble_eq_true rfl) (Nat.le_of_ble_eq_true rfl) dX4_reasonOf_212 rfl rfl (Nat.le_of_ble_eq_true rfl) hR ?_
                              refine x_aload_n F dX4_reasonOf_215 2 rfl rfl ?_
                              refine z_get (m := m) (j := 7) (v := .int (mY m 7)) F hR mw_806 rfl (by decide) rfl dX4_reasonOf_216 ?_
                              refine x_icmp_lt F dX4_reasonOf_219 (tgt := 225) (by decide) (fun h54 => ?_) (fun h54 => ?_)
                              · have h54' := Int32.not_le.mpr h54
                                refine x_aload_n F dX4_reasonOf_225 2 rfl rfl ?_
                                refine x_callVp (rest := []) F hR.2.2.1 rfl (c_X4_isBusyNow l G A m ) k_X4_146 ⟨(Nat.le_of_ble_eq_true rfl), (Nat.le_of_ble_eq_true rfl), rfl, rfl⟩ (Nat.le_of_ble_eq_true rfl) (Nat.le_of_ble_eq_true rfl) dX4_reasonOf_226 rfl rfl (Nat.le_of_ble_eq_true rfl) hR ?_
                                refine x_if_eq F dX4_reasonOf_229 (tgt := 237) (by decide) (fun h55 => ?_) (fun h55 => ?_)
                                · replace h55 := bI_0.mp h55
                                  refine x_iconst (v := 0) F rfl dX4_reasonOf_237 ?_
                                  exact x_iret F hE dX4_reasonOf_238 (Nat.le_of_ble_eq_true rfl) (Nat.le_of_ble_eq_true rfl) (⟨by unfold m_rea; rw [if_neg (fun q => q.elim h1 (fun q => q.1 h2)), if_neg (fun q => q.elim (fun q => q h3) (fun q => q h4)), if_neg (fun q => q.1 h5), if_neg (fun q => q.2.elim h23 (fun q => h41 q.2)), if_neg (fun q => q.elim h42 (fun q => by rw [if_pos h43] at q; exact h51' q)), if_neg h52', if_neg (fun q => q.elim (fun q => h53 q.1) (fun q => h54' q.2)), if_neg h55], rfl⟩)
                                · replace h55 := bI_ne.mp h55
                                  refine x_bipush (v := 8) F rfl dX4_reasonOf_232 ?_
                                  refine x_goto F dX4_reasonOf_234 (tgt := 238) (by decide) ?_
                                  exact x_iret F hE dX4_reasonOf_238 (Nat.le_of_ble_eq_true rfl) (Nat.le_of_ble_eq_true rfl) (⟨by unfold m_rea; rw [if_neg (fun q => q.elim h1 (fun q => q.1 h2)), if_neg (fun q => q.elim (fun q => q h3) (fun q => q h4)), if_neg (fun q => q.1 h5), if_neg (fun q => q.2.elim h23 (fun q => h41 q.2)), if_neg (fun q => q.elim h42 (fun q => by rw [if_pos h43] at q; exact h51' q)), if_neg h52', if_neg (fun q => q.elim (fun q => h53 q.1) (fun q => h54' q.2)), if_pos h55], rfl⟩)
                              · have h54' := Int32.not_lt.mp h54
                                refine x_bipush (v := 7) F rfl dX4_reasonOf_222 ?_
                                exact x_iret F hE dX4_reasonOf_224 (Nat.le_of_ble_eq_true rfl) (Nat.le_of_ble_eq_true rfl) (⟨by unfold m_rea; rw [if_neg (fun q => q.elim h1 (fun q => q.1 h2)), if_neg (fun q => q.elim (fun q => q h3) (fun q => q h4)), if_neg (fun q => q.1 h5), if_neg (fun q => q.2.elim h23 (fun q => h41 q.2)), if_neg (fun q => q.elim h42 (fun q => by rw [if_pos h43] at q; exact h51' q)), if_neg h52', if_pos (Or.inr ⟨h53, h54'⟩)], rfl⟩)
                            · refine x_aload_n F dX4_reasonOf_201 2 rfl rfl ?_
                              refine z_get (m := m) (j := 5) (v := .int (mY m 5)) F hR mw_804 rfl (by decide) rfl dX4_reasonOf_202 ?_
                              refine x_if_ne F dX4_reasonOf_205 (tgt := 225) (by decide) (fun h56 => ?_) (fun h56 => ?_)
                              · refine x_aload_n F dX4_reasonOf_225 2 rfl rfl ?_
                                refine x_callVp (rest := []) F hR.2.2.1 rfl (c_X4_isBusyNow l G A m ) k_X4_146 ⟨(Nat.le_of_ble_eq_true rfl), (Nat.le_of_ble_eq_true rfl), rfl, rfl⟩ (Nat.le_of_ble_eq_true rfl) (Nat.le_of_ble_eq_true rfl) dX4_reasonOf_226 rfl rfl (Nat.le_of_ble_eq_true rfl) hR ?_
                                refine x_if_eq F dX4_reasonOf_229 (tgt := 237) (by decide) (fun h57 => ?_) (fun h57 => ?_)
                                · replace h57 := bI_0.mp h57
                                  refine x_iconst (v := 0) F rfl dX4_reasonOf_237 ?_
                                  exact x_iret F hE dX4_reasonOf_238 (Nat.le_of_ble_eq_true rfl) (Nat.le_of_ble_eq_true rfl) (⟨by unfold m_rea; rw [if_neg (fun q => q.elim h1 (fun q => q.1 h2)), if_neg (fun q => q.elim (fun q => q h3) (fun q => q h4)), if_neg (fun q => q.1 h5), if_neg (fun q => q.2.elim h23 (fun q => h41 q.2)), if_neg (fun q => q.elim h42 (fun q => by rw [if_pos h43] at q; exact h51' q)), if_neg h52', if_neg (fun q => q.elim (fun q => h56 q.2) (fun q => q.1 h53)), if_neg h57], rfl⟩)
                                · replace h57 := bI_ne.mp h57
                                  refine x_bipush (v := 8) F rfl dX4_reasonOf_232 ?_
                                  refine x_goto F dX4_reasonOf_234 (tgt := 238) (by decide) ?_
                                  exact x_iret F hE dX4_reasonOf_238 (Nat.le_of_ble_eq_true rfl) (Nat.le_of_ble_eq_true rfl) (⟨by unfold m_rea; rw [if_neg (fun q => q.elim h1 (fun q => q.1 h2)), if_neg (fun q => q.elim (fun q => q h3) (fun q => q h4)), if_neg (fun q => q.1 h5), if_neg (fun q => q.2.elim h23 (fun q => h41 q.2)), if_neg (fun q => q.elim h42 (fun q => by rw [if_pos h43] at q; exact h51' q)), if_neg h52', if_neg (fun q => q.elim (fun q => h56 q.2) (fun q => q.1 h53)), if_pos h57], rfl⟩)
                              · refine x_goto F dX4_reasonOf_208 (tgt := 222) (by decide) ?_
                                refine x_bipush (v := 7) F rfl dX4_reasonOf_222 ?_
                                exact x_iret F hE dX4_reasonOf_224 (Nat.le_of_ble_eq_true rfl) (Nat.le_of_ble_eq_true rfl) (⟨by unfold m_rea; rw [if_neg (fun q => q.elim h1 (fun q => q.1 h2)), if_neg (fun q => q.elim (fun q => q h3) (fun q => q h4)), if_neg (fun q => q.1 h5), if_neg (fun q => q.2.elim h23 (fun q => h41 q.2)), if_neg (fun q => q.elim h42 (fun q => by rw [if_pos h43] at q; exact h51' q)), if_neg h52', if_pos (Or.inl ⟨h53, h56⟩)], rfl⟩)
                          · have h52' := Int32.not_le.mp h52
                            refine x_bipush (v := 6) F rfl dX4_reasonOf_189 ?_
                            exact x_iret F hE dX4_reasonOf_191 (Nat.le_of_ble_eq_true rfl) (Nat.le_of_ble_eq_true rfl) (⟨by unfold m_rea; rw [if_neg (fun q => q.elim h1 (fun q => q.1 h2)), if_neg (fun q => q.elim (fun q => q h3) (fun q => q h4)), if_neg (fun q => q.1 h5), if_neg (fun q => q.2.elim h23 (fun q => h41 q.2)), if_neg (fun q => q.elim h42 (fun q => by rw [if_pos h43] at q; exact h51' q)), if_pos h52'], rfl⟩)
                        · have h51' := Int32.not_le.mp h51
                          refine x_iconst (v := 5) F rfl dX4_reasonOf_173 ?_
                          exact x_iret F hE dX4_reasonOf_174 (Nat.le_of_ble_eq_true rfl) (Nat.le_of_ble_eq_true rfl) (⟨by unfold m_rea; rw [if_neg (fun q => q.elim h1 (fun q => q.1 h2)), if_neg (fun q => q.elim (fun q => q h3) (fun q => q h4)), if_neg (fun q => q.1 h5), if_neg (fun q => q.2.elim h23 (fun q => h41 q.2)), if_pos (Or.inr (by rw [if_pos h43]; exact h51'))], rfl⟩)
                  · refine x_iconst (v := 4) F rfl dX4_reasonOf_130 ?_
                    exact x_iret F hE dX4_reasonOf_131 (Nat.le_of_ble_eq_true rfl) (Nat.le_of_ble_eq_true rfl) (⟨by unfold m_rea; rw [if_neg (fun q => q.elim h1 (fun q => q.1 h2)), if_neg (fun q => q.elim (fun q => q h3) (fun q => q h4)), if_neg (fun q => q.1 h5), if_pos ⟨h6, Or.inr ⟨h24, h41⟩⟩], rfl⟩)
          · refine x_aload_n F dX4_reasonOf_87 2 rfl rfl ?_
            refine z_get (m := m) (j := 13) (v := .ref (ma m 13)) F hR mw_812 rfl (by decide) rfl dX4_reasonOf_88 ?_
            refine x_aload_n F dX4_reasonOf_91 2 rfl rfl ?_
            refine z_get (m := m) (j := 23) (v := .ref (ma m 23)) F hR mw_822 rfl (by decide) rfl dX4_reasonOf_92 ?_
            refine x_iload_n F dX4_reasonOf_95 3 rfl rfl ?_
            refine z_ildN (m := m) (j := 23) (i := i) F hR (by decide) rfl rfl (Nat.lt_of_lt_of_le hi hW.2.2.1.2) (by decide) dX4_reasonOf_96 ?_
            refine wx_i (y := nI (tN (mZ m 23 i))) ((hW.2.2.2 _ hi).2.2.1) ?_
            refine z_ildN (m := m) (j := 13) (i := (tN (mZ m 23 i))) F hR (by decide) rfl rfl (Nat.lt_of_lt_of_le (hW.2.2.2 _ hi).2.2.2 hW.2.1.2) (by decide) dX4_reasonOf_97 ?_
            refine x_iconst (v := 1) F rfl dX4_reasonOf_98 ?_
            refine x_icmp_ne F dX4_reasonOf_99 (tgt := 104) (by decide) (fun h58 => ?_) (fun h58 => ?_)
            · refine x_aload_n F dX4_reasonOf_104 2 rfl rfl ?_
              refine x_iload_n F dX4_reasonOf_105 3 rfl rfl ?_
              refine x_callVp (rest := []) F hR.2.2.1 rfl (c_X4_withTeacher l G A m i hi hW) k_X4_109 ⟨(Nat.le_of_ble_eq_true rfl), (Nat.le_of_ble_eq_true rfl), rfl, rfl⟩ (Nat.le_of_ble_eq_true rfl) (Nat.le_of_ble_eq_true rfl) dX4_reasonOf_106 rfl rfl (Nat.le_of_ble_eq_true rfl) hR ?_
              refine x_if_ne F dX4_reasonOf_109 (tgt := 132) (by decide) (fun h59 => ?_) (fun h59 => ?_)
              · replace h59 := bI_ne.mp h59
                refine x_aload_n F dX4_reasonOf_132 2 rfl rfl ?_
                refine z_get (m := m) (j := 2) (v := .int (mY m 2)) F hR mw_801 rfl (by decide) rfl dX4_reasonOf_133 ?_
                refine x_aload_n F dX4_reasonOf_136 2 rfl rfl ?_
                refine z_get (m := m) (j := 15) (v := .ref (ma m 15)) F hR mw_814 rfl (by decide) rfl dX4_reasonOf_137 ?_
                refine x_aload_n F dX4_reasonOf_140 2 rfl rfl ?_
                refine z_get (m := m) (j := 23) (v := .ref (ma m 23)) F hR mw_822 rfl (by decide) rfl dX4_reasonOf_141 ?_
                refine x_iload_n F dX4_reasonOf_144 3 rfl rfl ?_
                refine z_ildN (m := m) (j := 23) (i := i) F hR (by decide) rfl rfl (Nat.lt_of_lt_of_le hi hW.2.2.1.2) (by decide) dX4_reasonOf_145 ?_
                refine wx_i (y := nI (tN (mZ m 23 i))) ((hW.2.2.2 _ hi).2.2.1) ?_
                refine z_ildN (m := m) (j := 15) (i := (tN (mZ m 23 i))) F hR (by decide) rfl rfl (Nat.lt_of_lt_of_le (hW.2.2.2 _ hi).2.2.2 hW.2.1.2) (by decide) dX4_reasonOf_146 ?_
                refine x_icmp_gt F dX4_reasonOf_147 (tgt := 173) (by decide) (fun h60 => ?_) (fun h60 => ?_)
                · have h60' := Int32.not_le.mpr h60
                  refine x_iconst (v := 5) F rfl dX4_reasonOf_173 ?_
                  exact x_iret F hE dX4_reasonOf_174 (Nat.le_of_ble_eq_true rfl) (Nat.le_of_ble_eq_true rfl) (⟨by unfold m_rea; rw [if_neg (fun q => q.elim h1 (fun q => q.1 h2)), if_neg (fun q => q.elim (fun q => q h3) (fun q => q h4)), if_neg (fun q => h58 q.2), if_neg (fun q => q.1 h59), if_pos (Or.inl h60)], rfl⟩)
                · have h60' := Int32.not_lt.mp h60
                  refine x_aload_n F dX4_reasonOf_150 2 rfl rfl ?_
                  refine z_get (m := m) (j := 2) (v := .int (mY m 2)) F hR mw_801 rfl (by decide) rfl dX4_reasonOf_151 ?_
                  refine x_aload_n F dX4_reasonOf_154 2 rfl rfl ?_
                  refine x_iload_n F dX4_reasonOf_155 3 rfl rfl ?_
                  refine x_callVp (rest := [.int (mY m 2)]) F hR.2.2.1 rfl (c_X4_withTeacher l G A m i hi hW) k_X4_109 ⟨(Nat.le_of_ble_eq_true rfl), (Nat.le_of_ble_eq_true rfl), rfl, rfl⟩ (Nat.le_of_ble_eq_true rfl) (Nat.le_of_ble_eq_true rfl) dX4_reasonOf_156 rfl rfl (Nat.le_of_ble_eq_true rfl) hR ?_
                  refine x_if_eq F dX4_reasonOf_159 (tgt := 166) (by decide) (fun h61 => ?_) (fun h61 => ?_)
                  · replace h61 := bI_0.mp h61
                    refine x_iload_n F dX4_reasonOf_166 0 rfl rfl ?_
                    refine x_callSp (rest := [.int (mY m 2)]) F (c_X4_windOf l G A (mZ m 10 (tN (mZ m 21 i)))) k_X4_143 ⟨(Nat.le_of_ble_eq_true rfl), (Nat.le_of_ble_eq_true rfl), rfl, rfl⟩ (Nat.le_of_ble_eq_true rfl) (Nat.le_of_ble_eq_true rfl) dX4_reasonOf_167 rfl rfl (Nat.le_of_ble_eq_true rfl) trivial ?_
                    refine x_icmp_le F dX4_reasonOf_170 (tgt := 175) (by decide) (fun h62 => ?_) (fun h62 => ?_)
                    · have h62' := Int32.not_lt.mpr h62
                      refine x_aload_n F dX4_reasonOf_175 2 rfl rfl ?_
                      refine z_get (m := m) (j := 3) (v := .int (mY m 3)) F hR mw_802 rfl (by decide) rfl dX4_reasonOf_176 ?_
                      refine x_aload_n F dX4_reasonOf_179 2 rfl rfl ?_
                      refine z_get (m := m) (j := 1) (v := .int (mY m 1)) F hR mw_800 rfl (by decide) rfl dX4_reasonOf_180 ?_
                      refine x_isub F dX4_reasonOf_183 ?_
                      refine x_bipush (v := 10) F rfl dX4_reasonOf_184 ?_
                      refine x_icmp_ge F dX4_reasonOf_186 (tgt := 192) (by decide) (fun h63 => ?_) (fun h63 => ?_)
                      · have h63' := Int32.not_lt.mpr h63
                        refine x_aload_n F dX4_reasonOf_192 2 rfl rfl ?_
                        refine z_get (m := m) (j := 24) (v := .ref (ma m 24)) F hR mw_823 rfl (by decide) rfl dX4_reasonOf_193 ?_
                        refine x_iload_n F dX4_reasonOf_196 3 rfl rfl ?_
                        refine z_ildN (m := m) (j := 24) (i := i) F hR (by decide) rfl rfl (Nat.lt_of_lt_of_le hi hW.2.2.1.2) (by decide) dX4_reasonOf_197 ?_
                        refine x_if_ne F dX4_reasonOf_198 (tgt := 211) (by decide) (fun h64 => ?_) (fun h64 => ?_)
                        · refine x_aload_n F dX4_reasonOf_211 2 rfl rfl ?_
                          refine x_callVp (rest := []) F hR.2.2.1 rfl (c_X4_takenTugs l G A m ) k_X4_98 ⟨(Nat.le_of_ble_eq_true rfl), (Nat.le_of_ble_eq_true rfl), rfl, rfl⟩ (Nat.le_of_ble_eq_true rfl) (Nat.le_of_ble_eq_true rfl) dX4_reasonOf_212 rfl rfl (Nat.le_of_ble_eq_true rfl) hR ?_
                          refine x_aload_n F dX4_reasonOf_215 2 rfl rfl ?_
                          refine z_get (m := m) (j := 7) (v := .int (mY m 7)) F hR mw_806 rfl (by decide) rfl dX4_reasonOf_216 ?_
                          refine x_icmp_lt F dX4_reasonOf_219 (tgt := 225) (by decide) (fun h65 => ?_) (fun h65 => ?_)
                          · have h65' := Int32.not_le.mpr h65
                            refine x_aload_n F dX4_reasonOf_225 2 rfl rfl ?_
                            refine x_callVp (rest := []) F hR.2.2.1 rfl (c_X4_isBusyNow l G A m ) k_X4_146 ⟨(Nat.le_of_ble_eq_true rfl), (Nat.le_of_ble_eq_true rfl), rfl, rfl⟩ (Nat.le_of_ble_eq_true rfl) (Nat.le_of_ble_eq_true rfl) dX4_reasonOf_226 rfl rfl (Nat.le_of_ble_eq_true rfl) hR ?_
                            refine x_if_eq F dX4_reasonOf_229 (tgt := 237) (by decide) (fun h66 => ?_) (fun h66 => ?_)
                            · replace h66 := bI_0.mp h66
                              refine x_iconst (v := 0) F rfl dX4_reasonOf_237 ?_
                              exact x_iret F hE dX4_reasonOf_238 (Nat.le_of_ble_eq_true rfl) (Nat.le_of_ble_eq_true rfl) (⟨by unfold m_rea; rw [if_neg (fun q => q.elim h1 (fun q => q.1 h2)), if_neg (fun q => q.elim (fun q => q h3) (fun q => q h4)), if_neg (fun q => h58 q.2), if_neg (fun q => q.1 h59), if_neg (fun q => q.elim h60 (fun q => by rw [if_neg h61] at q; exact h62' q)), if_neg h63', if_neg (fun q => q.elim (fun q => h64 q.1) (fun q => h65' q.2)), if_neg h66], rfl⟩)
                            · replace h66 := bI_ne.mp h66
                              refine x_bipush (v := 8) F rfl dX4_reasonOf_232 ?_
                              refine x_goto F dX4_reasonOf_234 (tgt := 238) (by decide) ?_
                              exact x_iret F hE dX4_reasonOf_238 (Nat.le_of_ble_eq_true rfl) (Nat.le_of_ble_eq_true rfl) (⟨by unfold m_rea; rw [if_neg (fun q => q.elim h1 (fun q => q.1 h2)), if_neg (fun q => q.elim (fun q => q h3) (fun q => q h4)), if_neg (fun q => h58 q.2), if_neg (fun q => q.1 h59), if_neg (fun q => q.elim h60 (fun q => by rw [if_neg h61] at q; exact h62' q)), if_neg h63', if_neg (fun q => q.elim (fun q => h64 q.1) (fun q => h65' q.2)), if_pos h66], rfl⟩)
                          · have h65' := Int32.not_lt.mp h65
                            refine x_bipush (v := 7) F rfl dX4_reasonOf_222 ?_
                            exact x_iret F hE dX4_reasonOf_224 (Nat.le_of_ble_eq_true rfl) (Nat.le_of_ble_eq_true rfl) (⟨by unfold m_rea; rw [if_neg (fun q => q.elim h1 (fun q => q.1 h2)), if_neg (fun q => q.elim (fun q => q h3) (fun q => q h4)), if_neg (fun q => h58 q.2), if_neg (fun q => q.1 h59), if_neg (fun q => q.elim h60 (fun q => by rw [if_neg h61] at q; exact h62' q)), if_neg h63', if_pos (Or.inr ⟨h64, h65'⟩)], rfl⟩)
                        · refine x_aload_n F dX4_reasonOf_201 2 rfl rfl ?_
                          refine z_get (m := m) (j := 5) (v := .int (mY m 5)) F hR mw_804 rfl (by decide) rfl dX4_reasonOf_202 ?_
                          refine x_if_ne F dX4_reasonOf_205 (tgt := 225) (by decide) (fun h67 => ?_) (fun h67 => ?_)
                          · refine x_aload_n F dX4_reasonOf_225 2 rfl rfl ?_
                            refine x_callVp (rest := []) F hR.2.2.1 rfl (c_X4_isBusyNow l G A m ) k_X4_146 ⟨(Nat.le_of_ble_eq_true rfl), (Nat.le_of_ble_eq_true rfl), rfl, rfl⟩ (Nat.le_of_ble_eq_true rfl) (Nat.le_of_ble_eq_true rfl) dX4_reasonOf_226 rfl rfl (Nat.le_of_ble_eq_true rfl) hR ?_
                            refine x_if_eq F dX4_reasonOf_229 (tgt := 237) (by decide) (fun h68 => ?_) (fun h68 => ?_)
                            · replace h68 := bI_0.mp h68
                              refine x_iconst (v := 0) F rfl dX4_reasonOf_237 ?_
                              exact x_iret F hE dX4_reasonOf_238 (Nat.le_of_ble_eq_true rfl) (Nat.le_of_ble_eq_true rfl) (⟨by unfold m_rea; rw [if_neg (fun q => q.elim h1 (fun q => q.1 h2)), if_neg (fun q => q.elim (fun q => q h3) (fun q => q h4)), if_neg (fun q => h58 q.2), if_neg (fun q => q.1 h59), if_neg (fun q => q.elim h60 (fun q => by rw [if_neg h61] at q; exact h62' q)), if_neg h63', if_neg (fun q => q.elim (fun q => h67 q.2) (fun q => q.1 h64)), if_neg h68], rfl⟩)
                            · replace h68 := bI_ne.mp h68
                              refine x_bipush (v := 8) F rfl dX4_reasonOf_232 ?_
                              refine x_goto F dX4_reasonOf_234 (tgt := 238) (by decide) ?_
                              exact x_iret F hE dX4_reasonOf_238 (Nat.le_of_ble_eq_true rfl) (Nat.le_of_ble_eq_true rfl) (⟨by unfold m_rea; rw [if_neg (fun q => q.elim h1 (fun q => q.1 h2)), if_neg (fun q => q.elim (fun q => q h3) (fun q => q h4)), if_neg (fun q => h58 q.2), if_neg (fun q => q.1 h59), if_neg (fun q => q.elim h60 (fun q => by rw [if_neg h61] at q; exact h62' q)), if_neg h63', if_neg (fun q => q.elim (fun q => h67 q.2) (fun q => q.1 h64)), if_pos h68], rfl⟩)
                          · refine x_goto F dX4_reasonOf_208 (tgt := 222) (by decide) ?_
                            refine x_bipush (v := 7) F rfl dX4_reasonOf_222 ?_
                            exact x_iret F hE dX4_reasonOf_224 (Nat.le_of_ble_eq_true rfl) (Nat.le_of_ble_eq_true rfl) (⟨by unfold m_rea; rw [if_neg (fun q => q.elim h1 (fun q => q.1 h2)), if_neg (fun q => q.elim (fun q => q h3) (fun q => q h4)), if_neg (fun q => h58 q.2), if_neg (fun q => q.1 h59), if_neg (fun q => q.elim h60 (fun q => by rw [if_neg h61] at q; exact h62' q)), if_neg h63', if_pos (Or.inl ⟨h64, h67⟩)], rfl⟩)
                      · have h63' := Int32.not_le.mp h63
                        refine x_bipush (v := 6) F rfl dX4_reasonOf_189 ?_
                        exact x_iret F hE dX4_reasonOf_191 (Nat.le_of_ble_eq_true rfl) (Nat.le_of_ble_eq_true rfl) (⟨by unfold m_rea; rw [if_neg (fun q => q.elim h1 (fun q => q.1 h2)), if_neg (fun q => q.elim (fun q => q h3) (fun q => q h4)), if_neg (fun q => h58 q.2), if_neg (fun q => q.1 h59), if_neg (fun q => q.elim h60 (fun q => by rw [if_neg h61] at q; exact h62' q)), if_pos h63'], rfl⟩)
                    · have h62' := Int32.not_le.mp h62
                      refine x_iconst (v := 5) F rfl dX4_reasonOf_173 ?_
                      exact x_iret F hE dX4_reasonOf_174 (Nat.le_of_ble_eq_true rfl) (Nat.le_of_ble_eq_true rfl) (⟨by unfold m_rea; rw [if_neg (fun q => q.elim h1 (fun q => q.1 h2)), if_neg (fun q => q.elim (fun q => q h3) (fun q => q h4)), if_neg (fun q => h58 q.2), if_neg (fun q => q.1 h59), if_pos (Or.inr (by rw [if_neg h61]; exact h62'))], rfl⟩)
                  · replace h61 := bI_ne.mp h61
                    refine x_iconst (v := 3) F rfl dX4_reasonOf_162 ?_
                    refine x_goto F dX4_reasonOf_163 (tgt := 167) (by decide) ?_
                    refine x_callSp (rest := [.int (mY m 2)]) F (c_X4_windOf l G A 3) k_X4_143 ⟨(Nat.le_of_ble_eq_true rfl), (Nat.le_of_ble_eq_true rfl), rfl, rfl⟩ (Nat.le_of_ble_eq_true rfl) (Nat.le_of_ble_eq_true rfl) dX4_reasonOf_167 rfl rfl (Nat.le_of_ble_eq_true rfl) trivial ?_
                    refine x_icmp_le F dX4_reasonOf_170 (tgt := 175) (by decide) (fun h69 => ?_) (fun h69 => ?_)
                    · have h69' := Int32.not_lt.mpr h69
                      refine x_aload_n F dX4_reasonOf_175 2 rfl rfl ?_
                      refine z_get (m := m) (j := 3) (v := .int (mY m 3)) F hR mw_802 rfl (by decide) rfl dX4_reasonOf_176 ?_
                      refine x_aload_n F dX4_reasonOf_179 2 rfl rfl ?_
                      refine z_get (m := m) (j := 1) (v := .int (mY m 1)) F hR mw_800 rfl (by decide) rfl dX4_reasonOf_180 ?_
                      refine x_isub F dX4_reasonOf_183 ?_
                      refine x_bipush (v := 10) F rfl dX4_reasonOf_184 ?_
                      refine x_icmp_ge F dX4_reasonOf_186 (tgt := 192) (by decide) (fun h70 => ?_) (fun h70 => ?_)
                      · have h70' := Int32.not_lt.mpr h70
                        refine x_aload_n F dX4_reasonOf_192 2 rfl rfl ?_
                        refine z_get (m := m) (j := 24) (v := .ref (ma m 24)) F hR mw_823 rfl (by decide) rfl dX4_reasonOf_193 ?_
                        refine x_iload_n F dX4_reasonOf_196 3 rfl rfl ?_
                        refine z_ildN (m := m) (j := 24) (i := i) F hR (by decide) rfl rfl (Nat.lt_of_lt_of_le hi hW.2.2.1.2) (by decide) dX4_reasonOf_197 ?_
                        refine x_if_ne F dX4_reasonOf_198 (tgt := 211) (by decide) (fun h71 => ?_) (fun h71 => ?_)
                        · refine x_aload_n F dX4_reasonOf_211 2 rfl rfl ?_
                          refine x_callVp (rest := []) F hR.2.2.1 rfl (c_X4_takenTugs l G A m ) k_X4_98 ⟨(Nat.le_of_ble_eq_true rfl), (Nat.le_of_ble_eq_true rfl), rfl, rfl⟩ (Nat.le_of_ble_eq_true rfl) (Nat.le_of_ble_eq_true rfl) dX4_reasonOf_212 rfl rfl (Nat.le_of_ble_eq_true rfl) hR ?_
                          refine x_aload_n F dX4_reasonOf_215 2 rfl rfl ?_
                          refine z_get (m := m) (j := 7) (v := .int (mY m 7)) F hR mw_806 rfl (by decide) rfl dX4_reasonOf_216 ?_
                          refine x_icmp_lt F dX4_reasonOf_219 (tgt := 225) (by decide) (fun h72 => ?_) (fun h72 => ?_)
                          · have h72' := Int32.not_le.mpr h72
                            refine x_aload_n F dX4_reasonOf_225 2 rfl rfl ?_
                            refine x_callVp (rest := []) F hR.2.2.1 rfl (c_X4_isBusyNow l G A m ) k_X4_146 ⟨(Nat.le_of_ble_eq_true rfl), (Nat.le_of_ble_eq_true rfl), rfl, rfl⟩ (Nat.le_of_ble_eq_true rfl) (Nat.le_of_ble_eq_true rfl) dX4_reasonOf_226 rfl rfl (Nat.le_of_ble_eq_true rfl) hR ?_
                            refine x_if_eq F dX4_reasonOf_229 (tgt := 237) (by decide) (fun h73 => ?_) (fun h73 => ?_)
                            · replace h73 := bI_0.mp h73
                              refine x_iconst (v := 0) F rfl dX4_reasonOf_237 ?_
                              exact x_iret F hE dX4_reasonOf_238 (Nat.le_of_ble_eq_true rfl) (Nat.le_of_ble_eq_true rfl) (⟨by unfold m_rea; rw [if_neg (fun q => q.elim h1 (fun q => q.1 h2)), if_neg (fun q => q.elim (fun q => q h3) (fun q => q h4)), if_neg (fun q => h58 q.2), if_neg (fun q => q.1 h59), if_neg (fun q => q.elim h60 (fun q => by rw [if_pos h61] at q; exact h69' q)), if_neg h70', if_neg (fun q => q.elim (fun q => h71 q.1) (fun q => h72' q.2)), if_neg h73], rfl⟩)
                            · replace h73 := bI_ne.mp h73
                              refine x_bipush (v := 8) F rfl dX4_reasonOf_232 ?_
                              refine x_goto F dX4_reasonOf_234 (tgt := 238) (by decide) ?_
                              exact x_iret F hE dX4_reasonOf_238 (Nat.le_of_ble_eq_true rfl) (Nat.le_of_ble_eq_true rfl) (⟨by unfold m_rea; rw [if_neg (fun q => q.elim h1 (fun q => q.1 h2)), if_neg (fun q => q.elim (fun q => q h3) (fun q => q h4)), if_neg (fun q => h58 q.2), if_neg (fun q => q.1 h59), if_neg (fun q => q.elim h60 (fun q => by rw [if_pos h61] at q; exact h69' q)), if_neg h70', if_neg (fun q => q.elim (fun q => h71 q.1) (fun q => h72' q.2)), if_pos h73], rfl⟩)
                          · have h72' := Int32.not_lt.mp h72
                            refine x_bipush (v := 7) F rfl dX4_reasonOf_222 ?_
                            exact x_iret F hE dX4_reasonOf_224 (Nat.le_of_ble_eq_true rfl) (Nat.le_of_ble_eq_true rfl) (⟨by unfold m_rea; rw [if_neg (fun q => q.elim h1 (fun q => q.1 h2)), if_neg (fun q => q.elim (fun q => q h3) (fun q => q h4)), if_neg (fun q => h58 q.2), if_neg (fun q => q.1 h59), if_neg (fun q => q.elim h60 (fun q => by rw [if_pos h61] at q; exact h69' q)), if_neg h70', if_pos (Or.inr ⟨h71, h72'⟩)], rfl⟩)
                        · refine x_aload_n F dX4_reasonOf_201 2 rfl rfl ?_
                          refine z_get (m := m) (j := 5) (v := .int (mY m 5)) F hR mw_804 rfl (by decide) rfl dX4_reasonOf_202 ?_
                          refine x_if_ne F dX4_reasonOf_205 (tgt := 225) (by decide) (fun h74 => ?_) (fun h74 => ?_)
                          · refine x_aload_n F dX4_reasonOf_225 2 rfl rfl ?_
                            refine x_callVp (rest := []) F hR.2.2.1 rfl (c_X4_isBusyNow l G A m ) k_X4_146 ⟨(Nat.le_of_ble_eq_true rfl), (Nat.le_of_ble_eq_true rfl), rfl, rfl⟩ (Nat.le_of_ble_eq_true rfl) (Nat.le_of_ble_eq_true rfl) dX4_reasonOf_226 rfl rfl (Nat.le_of_ble_eq_true rfl) hR ?_
                            refine x_if_eq F dX4_reasonOf_229 (tgt := 237) (by decide) (fun h75 => ?_) (fun h75 => ?_)
                            · replace h75 := bI_0.mp h75
                              refine x_iconst (v := 0) F rfl dX4_reasonOf_237 ?_
                              exact x_iret F hE dX4_reasonOf_238 (Nat.le_of_ble_eq_true rfl) (Nat.le_of_ble_eq_true rfl) (⟨by unfold m_rea; rw [if_neg (fun q => q.elim h1 (fun q => q.1 h2)), if_neg (fun q => q.elim (fun q => q h3) (fun q => q h4)), if_neg (fun q => h58 q.2), if_neg (fun q => q.1 h59), if_neg (fun q => q.elim h60 (fun q => by rw [if_pos h61] at q; exact h69' q)), if_neg h70', if_neg (fun q => q.elim (fun q => h74 q.2) (fun q => q.1 h71)), if_neg h75], rfl⟩)
                            · replace h75 := bI_ne.mp h75
                              refine x_bipush (v := 8) F rfl dX4_reasonOf_232 ?_
                              refine x_goto F dX4_reasonOf_234 (tgt := 238) (by decide) ?_
                              exact x_iret F hE dX4_reasonOf_238 (Nat.le_of_ble_eq_true rfl) (Nat.le_of_ble_eq_true rfl) (⟨by unfold m_rea; rw [if_neg (fun q => q.elim h1 (fun q => q.1 h2)), if_neg (fun q => q.elim (fun q => q h3) (fun q => q h4)), if_neg (fun q => h58 q.2), if_neg (fun q => q.1 h59), if_neg (fun q => q.elim h60 (fun q => by rw [if_pos h61] at q; exact h69' q)), if_neg h70', if_neg (fun q => q.elim (fun q => h74 q.2) (fun q => q.1 h71)), if_pos h75], rfl⟩)
                          · refine x_goto F dX4_reasonOf_208 (tgt := 222) (by decide) ?_
                            refine x_bipush (v := 7) F rfl dX4_reasonOf_222 ?_
                            exact x_iret F hE dX4_reasonOf_224 (Nat.le_of_ble_eq_true rfl) (Nat.le_of_ble_eq_true rfl) (⟨by unfold m_rea; rw [if_neg (fun q => q.elim h1 (fun q => q.1 h2)), if_neg (fun q => q.elim (fun q => q h3) (fun q => q h4)), if_neg (fun q => h58 q.2), if_neg (fun q => q.1 h59), if_neg (fun q => q.elim h60 (fun q => by rw [if_pos h61] at q; exact h69' q)), if_neg h70', if_pos (Or.inl ⟨h71, h74⟩)], rfl⟩)
                      · have h70' := Int32.not_le.mp h70
                        refine x_bipush (v := 6) F rfl dX4_reasonOf_189 ?_
                        exact x_iret F hE dX4_reasonOf_191 (Nat.le_of_ble_eq_true rfl) (Nat.le_of_ble_eq_true rfl) (⟨by unfold m_rea; rw [if_neg (fun q => q.elim h1 (fun q => q.1 h2)), if_neg (fun q => q.elim (fun q => q h3) (fun q => q h4)), if_neg (fun q => h58 q.2), if_neg (fun q => q.1 h59), if_neg (fun q => q.elim h60 (fun q => by rw [if_pos h61] at q; exact h69' q)), if_pos h70'], rfl⟩)
                    · have h69' := Int32.not_le.mp h69
                      refine x_iconst (v := 5) F rfl dX4_reasonOf_173 ?_
                      exact x_iret F hE dX4_reasonOf_174 (Nat.le_of_ble_eq_true rfl) (Nat.le_of_ble_eq_true rfl) (⟨by unfold m_rea; rw [if_neg (fun q => q.elim h1 (fun q => q.1 h2)), if_neg (fun q => q.elim (fun q => q h3) (fun q => q h4)), if_neg (fun q => h58 q.2), if_neg (fun q => q.1 h59), if_pos (Or.inr (by rw [if_pos h61]; exact h69'))], rfl⟩)
              · replace h59 := bI_0.mp h59
                refine x_iload_n F dX4_reasonOf_112 0 rfl rfl ?_
                refine x_if_eq F dX4_reasonOf_113 (tgt := 130) (by decide) (fun h76 => ?_) (fun h76 => ?_)
                · refine x_iconst (v := 4) F rfl dX4_reasonOf_130 ?_
                  exact x_iret F hE dX4_reasonOf_131 (Nat.le_of_ble_eq_true rfl) (Nat.le_of_ble_eq_true rfl) (⟨by unfold m_rea; rw [if_neg (fun q => q.elim h1 (fun q => q.1 h2)), if_neg (fun q => q.elim (fun q => q h3) (fun q => q h4)), if_neg (fun q => h58 q.2), if_pos ⟨h59, Or.inl h76⟩], rfl⟩)
                · refine x_iload_n F dX4_reasonOf_116 0 rfl rfl ?_
                  refine x_iconst (v := 1) F rfl dX4_reasonOf_117 ?_
                  refine x_icmp_ne F dX4_reasonOf_118 (tgt := 132) (by decide) (fun h77 => ?_) (fun h77 => ?_)
                  · refine x_aload_n F dX4_reasonOf_132 2 rfl rfl ?_
                    refine z_get (m := m) (j := 2) (v := .int (mY m 2)) F hR mw_801 rfl (by decide) rfl dX4_reasonOf_133 ?_
                    refine x_aload_n F dX4_reasonOf_136 2 rfl rfl ?_
                    refine z_get (m := m) (j := 15) (v := .ref (ma m 15)) F hR mw_814 rfl (by decide) rfl dX4_reasonOf_137 ?_
                    refine x_aload_n F dX4_reasonOf_140 2 rfl rfl ?_
                    refine z_get (m := m) (j := 23) (v := .ref (ma m 23)) F hR mw_822 rfl (by decide) rfl dX4_reasonOf_141 ?_
                    refine x_iload_n F dX4_reasonOf_144 3 rfl rfl ?_
                    refine z_ildN (m := m) (j := 23) (i := i) F hR (by decide) rfl rfl (Nat.lt_of_lt_of_le hi hW.2.2.1.2) (by decide) dX4_reasonOf_145 ?_
                    refine wx_i (y := nI (tN (mZ m 23 i))) ((hW.2.2.2 _ hi).2.2.1) ?_
                    refine z_ildN (m := m) (j := 15) (i := (tN (mZ m 23 i))) F hR (by decide) rfl rfl (Nat.lt_of_lt_of_le (hW.2.2.2 _ hi).2.2.2 hW.2.1.2) (by decide) dX4_reasonOf_146 ?_
                    refine x_icmp_gt F dX4_reasonOf_147 (tgt := 173) (by decide) (fun h78 => ?_) (fun h78 => ?_)
                    · have h78' := Int32.not_le.mpr h78
                      refine x_iconst (v := 5) F rfl dX4_reasonOf_173 ?_
                      exact x_iret F hE dX4_reasonOf_174 (Nat.le_of_ble_eq_true rfl) (Nat.le_of_ble_eq_true rfl) (⟨by unfold m_rea; rw [if_neg (fun q => q.elim h1 (fun q => q.1 h2)), if_neg (fun q => q.elim (fun q => q h3) (fun q => q h4)), if_neg (fun q => h58 q.2), if_neg (fun q => q.2.elim h76 (fun q => h77 q.1)), if_pos (Or.inl h78)], rfl⟩)
                    · have h78' := Int32.not_lt.mp h78
                      refine x_aload_n F dX4_reasonOf_150 2 rfl rfl ?_
                      refine z_get (m := m) (j := 2) (v := .int (mY m 2)) F hR mw_801 rfl (by decide) rfl dX4_reasonOf_151 ?_
                      refine x_aload_n F dX4_reasonOf_154 2 rfl rfl ?_
                      refine x_iload_n F dX4_reasonOf_155 3 rfl rfl ?_
                      refine x_callVp (rest := [.int (mY m 2)]) F hR.2.2.1 rfl (c_X4_withTeacher l G A m i hi hW) k_X4_109 ⟨(Nat.le_of_ble_eq_true rfl), (Nat.le_of_ble_eq_true rfl), rfl, rfl⟩ (Nat.le_of_ble_eq_true rfl) (Nat.le_of_ble_eq_true rfl) dX4_reasonOf_156 rfl rfl (Nat.le_of_ble_eq_true rfl) hR ?_
                      refine x_if_eq F dX4_reasonOf_159 (tgt := 166) (by decide) (fun h79 => ?_) (fun h79 => ?_)
                      · replace h79 := bI_0.mp h79
                        refine x_iload_n F dX4_reasonOf_166 0 rfl rfl ?_
                        refine x_callSp (rest := [.int (mY m 2)]) F (c_X4_windOf l G A (mZ m 10 (tN (mZ m 21 i)))) k_X4_143 ⟨(Nat.le_of_ble_eq_true rfl), (Nat.le_of_ble_eq_true rfl), rfl, rfl⟩ (Nat.le_of_ble_eq_true rfl) (Nat.le_of_ble_eq_true rfl) dX4_reasonOf_167 rfl rfl (Nat.le_of_ble_eq_true rfl) trivial ?_
                        refine x_icmp_le F dX4_reasonOf_170 (tgt := 175) (by decide) (fun h80 => ?_) (fun h80 => ?_)
                        · have h80' := Int32.not_lt.mpr h80
                          refine x_aload_n F dX4_reasonOf_175 2 rfl rfl ?_
                          refine z_get (m := m) (j := 3) (v := .int (mY m 3)) F hR mw_802 rfl (by decide) rfl dX4_reasonOf_176 ?_
                          refine x_aload_n F dX4_reasonOf_179 2 rfl rfl ?_
                          refine z_get (m := m) (j := 1) (v := .int (mY m 1)) F hR mw_800 rfl (by decide) rfl dX4_reasonOf_180 ?_
                          refine x_isub F dX4_reasonOf_183 ?_
                          refine x_bipush (v := 10) F rfl dX4_reasonOf_184 ?_
                          refine x_icmp_ge F dX4_reasonOf_186 (tgt := 192) (by decide) (fun h81 => ?_) (fun h81 => ?_)
                          · have h81' := Int32.not_lt.mpr h81
                            refine x_aload_n F dX4_reasonOf_192 2 rfl rfl ?_
                            refine z_get (m := m) (j := 24) (v := .ref (ma m 24)) F hR mw_823 rfl (by decide) rfl dX4_reasonOf_193 ?_
                            refine x_iload_n F dX4_reasonOf_196 3 rfl rfl ?_
                            refine z_ildN (m := m) (j := 24) (i := i) F hR (by decide) rfl rfl (Nat.lt_of_lt_of_le hi hW.2.2.1.2) (by decide) dX4_reasonOf_197 ?_
                            refine x_if_ne F dX4_reasonOf_198 (tgt := 211) (by decide) (fun h82 => ?_) (fun h82 => ?_)
                            · refine x_aload_n F dX4_reasonOf_211 2 rfl rfl ?_
                              refine x_callVp (rest := []) F hR.2.2.1 rfl (c_X4_takenTugs l G A m ) k_X4_98 ⟨(Nat.le_of_ble_eq_true rfl), (Nat.le_of_ble_eq_true rfl), rfl, rfl⟩ (Nat.le_of_ble_eq_true rfl) (Nat.le_of_ble_eq_true rfl) dX4_reasonOf_212 rfl rfl (Nat.le_of_ble_eq_true rfl) hR ?_
                              refine x_aload_n F dX4_reasonOf_215 2 rfl rfl ?_
                              refine z_get (m := m) (j := 7) (v := .int (mY m 7)) F hR mw_806 rfl (by decide) rfl dX4_reasonOf_216 ?_
                              refine x_icmp_lt F dX4_reasonOf_219 (tgt := 225) (by decide) (fun h83 => ?_) (fun h83 => ?_)
                              · have h83' := Int32.not_le.mpr h83
                                refine x_aload_n F dX4_reasonOf_225 2 rfl rfl ?_
                                refine x_callVp (rest := []) F hR.2.2.1 rfl (c_X4_isBusyNow l G A m ) k_X4_146 ⟨(Nat.le_of_ble_eq_true rfl), (Nat.le_of_ble_eq_true rfl), rfl, rfl⟩ (Nat.le_of_ble_eq_true rfl) (Nat.le_of_ble_eq_true rfl) dX4_reasonOf_226 rfl rfl (Nat.le_of_ble_eq_true rfl) hR ?_
                                refine x_if_eq F dX4_reasonOf_229 (tgt := 237) (by decide) (fun h84 => ?_) (fun h84 => ?_)
                                · replace h84 := bI_0.mp h84
                                  refine x_iconst (v := 0) F rfl dX4_reasonOf_237 ?_
                                  exact x_iret F hE dX4_reasonOf_238 (Nat.le_of_ble_eq_true rfl) (Nat.le_of_ble_eq_true rfl) (⟨by unfold m_rea; rw [if_neg (fun q => q.elim h1 (fun q => q.1 h2)), if_neg (fun q => q.elim (fun q => q h3) (fun q => q h4)), if_neg (fun q => h58 q.2), if_neg (fun q => q.2.elim h76 (fun q => h77 q.1)), if_neg (fun q => q.elim h78 (fun q => by rw [if_neg h79] at q; exact h80' q)), if_neg h81', if_neg (fun q => q.elim (fun q => h82 q.1) (fun q => h83' q.2)), if_neg h84], rfl⟩)
                                · replace h84 := bI_ne.mp h84
                                  refine x_bipush (v := 8) F rfl dX4_reasonOf_232 ?_
                                  refine x_goto F dX4_reasonOf_234 (tgt := 238) (by decide) ?_
                                  exact x_iret F hE dX4_reasonOf_238 (Nat.le_of_ble_eq_true rfl) (Nat.le_of_ble_eq_true rfl) (⟨by unfold m_rea; rw [if_neg (fun q => q.elim h1 (fun q => q.1 h2)), if_neg (fun q => q.elim (fun q => q h3) (fun q => q h4)), if_neg (fun q => h58 q.2), if_neg (fun q => q.2.elim h76 (fun q => h77 q.1)), if_neg (fun q => q.elim h78 (fun q => by rw [if_neg h79] at q; exact h80' q)), if_neg h81', if_neg (fun q => q.elim (fun q => h82 q.1) (fun q => h83' q.2)), if_pos h84], rfl⟩)
                              · have h83' := Int32.not_lt.mp h83
                                refine x_bipush (v := 7) F rfl dX4_reasonOf_222 ?_
                                exact x_iret F hE dX4_reasonOf_224 (Nat.le_of_ble_eq_true rfl) (Nat.le_of_ble_eq_true rfl) (⟨by unfold m_rea; rw [if_neg (fun q => q.elim h1 (fun q => q.1 h2)), if_neg (fun q => q.elim (fun q => q h3) (fun q => q h4)), if_neg (fun q => h58 q.2), if_neg (fun q => q.2.elim h76 (fun q => h77 q.1)), if_neg (fun q => q.elim h78 (fun q => by rw [if_neg h79] at q; exact h80' q)), if_neg h81', if_pos (Or.inr ⟨h82, h83'⟩)], rfl⟩)
                            · refine x_aload_n F dX4_reasonOf_201 2 rfl rfl ?_
                              refine z_get (m := m) (j := 5) (v := .int (mY m 5)) F hR mw_804 rfl (by decide) rfl dX4_reasonOf_202 ?_
                              refine x_if_ne F dX4_reasonOf_205 (tgt := 225) (by decide) (fun h85 => ?_) (fun h85 => ?_)
                              · refine x_aload_n F dX4_reasonOf_225 2 rfl rfl ?_
                                refine x_callVp (rest := []) F hR.2.2.1 rfl (c_X4_isBusyNow l G A m ) k_X4_146 ⟨(Nat.le_of_ble_eq_true rfl), (Nat.le_of_ble_eq_true rfl), rfl, rfl⟩ (Nat.le_of_ble_eq_true rfl) (Nat.le_of_ble_eq_true rfl) dX4_reasonOf_226 rfl rfl (Nat.le_of_ble_eq_true rfl) hR ?_
                                refine x_if_eq F dX4_reasonOf_229 (tgt := 237) (by decide) (fun h86 => ?_) (fun h86 => ?_)
                                · replace h86 := bI_0.mp h86
                                  refine x_iconst (v := 0) F rfl dX4_reasonOf_237 ?_
                                  exact x_iret F hE dX4_reasonOf_238 (Nat.le_of_ble_eq_true rfl) (Nat.le_of_ble_eq_true rfl) (⟨by unfold m_rea; rw [if_neg (fun q => q.elim h1 (fun q => q.1 h2)), if_neg (fun q => q.elim (fun q => q h3) (fun q => q h4)), if_neg (fun q => h58 q.2), if_neg (fun q => q.2.elim h76 (fun q => h77 q.1)), if_neg (fun q => q.elim h78 (fun q => by rw [if_neg h79] at q; exact h80' q)), if_neg h81', if_neg (fun q => q.elim (fun q => h85 q.2) (fun q => q.1 h82)), if_neg h86], rfl⟩)
                                · replace h86 := bI_ne.mp h86
                                  refine x_bipush (v := 8) F rfl dX4_reasonOf_232 ?_
                                  refine x_goto F dX4_reasonOf_234 (tgt := 238) (by decide) ?_
                                  exact x_iret F hE dX4_reasonOf_238 (Nat.le_of_ble_eq_true rfl) (Nat.le_of_ble_eq_true rfl) (⟨by unfold m_rea; rw [if_neg (fun q => q.elim h1 (fun q => q.1 h2)), if_neg (fun q => q.elim (fun q => q h3) (fun q => q h4)), if_neg (fun q => h58 q.2), if_neg (fun q => q.2.elim h76 (fun q => h77 q.1)), if_neg (fun q => q.elim h78 (fun q => by rw [if_neg h79] at q; exact h80' q)), if_neg h81', if_neg (fun q => q.elim (fun q => h85 q.2) (fun q => q.1 h82)), if_pos h86], rfl⟩)
                              · refine x_goto F dX4_reasonOf_208 (tgt := 222) (by decide) ?_
                                refine x_bipush (v := 7) F rfl dX4_reasonOf_222 ?_
                                exact x_iret F hE dX4_reasonOf_224 (Nat.le_of_ble_eq_true rfl) (Nat.le_of_ble_eq_true rfl) (⟨by unfold m_rea; rw [if_neg (fun q => q.elim h1 (fun q => q.1 h2)), if_neg (fun q => q.elim (fun q => q h3) (fun q => q h4)), if_neg (fun q => h58 q.2), if_neg (fun q => q.2.elim h76 (fun q => h77 q.1)), if_neg (fun q => q.elim h78 (fun q => by rw [if_neg h79] at q; exact h80' q)), if_neg h81', if_pos (Or.inl ⟨h82, h85⟩)], rfl⟩)
                          · have h81' := Int32.not_le.mp h81
                            refine x_bipush (v := 6) F rfl dX4_reasonOf_189 ?_
                            exact x_iret F hE dX4_reasonOf_191 (Nat.le_of_ble_eq_true rfl) (Nat.le_of_ble_eq_true rfl) (⟨by unfold m_rea; rw [if_neg (fun q => q.elim h1 (fun q => q.1 h2)), if_neg (fun q => q.elim (fun q => q h3) (fun q => q h4)), if_neg (fun q => h58 q.2), if_neg (fun q => q.2.elim h76 (fun q => h77 q.1)), if_neg (fun q => q.elim h78 (fun q => by rw [if_neg h79] at q; exact h80' q)), if_pos h81'], rfl⟩)
                        · have h80' := Int32.not_le.mp h80
                          refine x_iconst (v := 5) F rfl dX4_reasonOf_173 ?_
                          exact x_iret F hE dX4_reasonOf_174 (Nat.le_of_ble_eq_true rfl) (Nat.le_of_ble_eq_true rfl) (⟨by unfold m_rea; rw [if_neg (fun q => q.elim h1 (fun q => q.1 h2)), if_neg (fun q => q.elim (fun q => q h3) (fun q => q h4)), if_neg (fun q => h58 q.2), if_neg (fun q => q.2.elim h76 (fun q => h77 q.1)), if_pos (Or.inr (by rw [if_neg h79]; exact h80'))], rfl⟩)
                      · replace h79 := bI_ne.mp h79
                        refine x_iconst (v := 3) F rfl dX4_reasonOf_162 ?_
                        refine x_goto F dX4_reasonOf_163 (tgt := 167) (by decide) ?_
                        refine x_callSp (rest := [.int (mY m 2)]) F (c_X4_windOf l G A 3) k_X4_143 ⟨(Nat.le_of_ble_eq_true rfl), (Nat.le_of_ble_eq_true rfl), rfl, rfl⟩ (Nat.le_of_ble_eq_true rfl) (Nat.le_of_ble_eq_true rfl) dX4_reasonOf_167 rfl rfl (Nat.le_of_ble_eq_true rfl) trivial ?_
                        refine x_icmp_le F dX4_reasonOf_170 (tgt := 175) (by decide) (fun h87 => ?_) (fun h87 => ?_)
                        · have h87' := Int32.not_lt.mpr h87
                          refine x_aload_n F dX4_reasonOf_175 2 rfl rfl ?_
                          refine z_get (m := m) (j := 3) (v := .int (mY m 3)) F hR mw_802 rfl (by decide) rfl dX4_reasonOf_176 ?_
                          refine x_aload_n F dX4_reasonOf_179 2 rfl rfl ?_
                          refine z_get (m := m) (j := 1) (v := .int (mY m 1)) F hR mw_800 rfl (by decide) rfl dX4_reasonOf_180 ?_
                          refine x_isub F dX4_reasonOf_183 ?_
                          refine x_bipush (v := 10) F rfl dX4_reasonOf_184 ?_
                          refine x_icmp_ge F dX4_reasonOf_186 (tgt := 192) (by decide) (fun h88 => ?_) (fun h88 => ?_)
                          · have h88' := Int32.not_lt.mpr h88
                            refine x_aload_n F dX4_reasonOf_192 2 rfl rfl ?_
                            refine z_get (m := m) (j := 24) (v := .ref (ma m 24)) F hR mw_823 rfl (by decide) rfl dX4_reasonOf_193 ?_
                            refine x_iload_n F dX4_reasonOf_196 3 rfl rfl ?_
                            refine z_ildN (m := m) (j := 24) (i := i) F hR (by decide) rfl rfl (Nat.lt_of_lt_of_le hi hW.2.2.1.2) (by decide) dX4_reasonOf_197 ?_
                            refine x_if_ne F dX4_reasonOf_198 (tgt := 211) (by decide) (fun h89 => ?_) (fun h89 => ?_)
                            · refine x_aload_n F dX4_reasonOf_211 2 rfl rfl ?_
                              refine x_callVp (rest := []) F hR.2.2.1 rfl (c_X4_takenTugs l G A m ) k_X4_98 ⟨(Nat.le_of_ble_eq_true rfl), (Nat.le_of_ble_eq_true rfl), rfl, rfl⟩ (Nat.le_of_ble_eq_true rfl) (Nat.le_of_ble_eq_true rfl) dX4_reasonOf_212 rfl rfl (Nat.le_of_ble_eq_true rfl) hR ?_
                              refine x_aload_n F dX4_reasonOf_215 2 rfl rfl ?_
                              refine z_get (m := m) (j := 7) (v := .int (mY m 7)) F hR mw_806 rfl (by decide) rfl dX4_reasonOf_216 ?_
                              refine x_icmp_lt F dX4_reasonOf_219 (tgt := 225) (by decide) (fun h90 => ?_) (fun h90 => ?_)
                              · have h90' := Int32.not_le.mpr h90
                                refine x_aload_n F dX4_reasonOf_225 2 rfl rfl ?_
                                refine x_callVp (rest := []) F hR.2.2.1 rfl (c_X4_isBusyNow l G A m ) k_X4_146 ⟨(Nat.le_of_ble_eq_true rfl), (Nat.le_of_ble_eq_true rfl), rfl, rfl⟩ (Nat.le_of_ble_eq_true rfl) (Nat.le_of_ble_eq_true rfl) dX4_reasonOf_226 rfl rfl (Nat.le_of_ble_eq_true rfl) hR ?_
                                refine x_if_eq F dX4_reasonOf_229 (tgt := 237) (by decide) (fun h91 => ?_) (fun h91 => ?_)
                                · replace h91 := bI_0.mp h91
                                  refine x_iconst (v := 0) F rfl dX4_reasonOf_237 ?_
                                  exact x_iret F hE dX4_reasonOf_238 (Nat.le_of_ble_eq_true rfl) (Nat.le_of_ble_eq_true rfl) (⟨by unfold m_rea; rw [if_neg (fun q => q.elim h1 (fun q => q.1 h2)), if_neg (fun q => q.elim (fun q => q h3) (fun q => q h4)), if_neg (fun q => h58 q.2), if_neg (fun q => q.2.elim h76 (fun q => h77 q.1)), if_neg (fun q => q.elim h78 (fun q => by rw [if_pos h79] at q; exact h87' q)), if_neg h88', if_neg (fun q => q.elim (fun q => h89 q.1) (fun q => h90' q.2)), if_neg h91], rfl⟩)
                                · replace h91 := bI_ne.mp h91
                                  refine x_bipush (v := 8) F rfl dX4_reasonOf_232 ?_
                                  refine x_goto F dX4_reasonOf_234 (tgt := 238) (by decide) ?_
                                  exact x_iret F hE dX4_reasonOf_238 (Nat.le_of_ble_eq_true rfl) (Nat.le_of_ble_eq_true rfl) (⟨by unfold m_rea; rw [if_neg (fun q => q.elim h1 (fun q => q.1 h2)), if_neg (fun q => q.elim (fun q => q h3) (fun q => q h4)), if_neg (fun q => h58 q.2), if_neg (fun q => q.2.elim h76 (fun q => h77 q.1)), if_neg (fun q => q.elim h78 (fun q => by rw [if_pos h79] at q; exact h87' q)), if_neg h88', if_neg (fun q => q.elim (fun q => h89 q.1) (fun q => h90' q.2)), if_pos h91], rfl⟩)
                              · have h90' := Int32.not_lt.mp h90
                                refine x_bipush (v := 7) F rfl dX4_reasonOf_222 ?_
                                exact x_iret F hE dX4_reasonOf_224 (Nat.le_of_ble_eq_true rfl) (Nat.le_of_ble_eq_true rfl) (⟨by unfold m_rea; rw [if_neg (fun q => q.elim h1 (fun q => q.1 h2)), if_neg (fun q => q.elim (fun q => q h3) (fun q => q h4)), if_neg (fun q => h58 q.2), if_neg (fun q => q.2.elim h76 (fun q => h77 q.1)), if_neg (fun q => q.elim h78 (fun q => by rw [if_pos h79] at q; exact h87' q)), if_neg h88', if_pos (Or.inr ⟨h89, h90'⟩)], rfl⟩)
                            · refine x_aload_n F dX4_reasonOf_201 2 rfl rfl ?_
                              refine z_get (m := m) (j := 5) (v := .int (mY m 5)) F hR mw_804 rfl (by decide) rfl dX4_reasonOf_202 ?_
                              refine x_if_ne F dX4_reasonOf_205 (tgt := 225) (by decide) (fun h92 => ?_) (fun h92 => ?_)
                              · refine x_aload_n F dX4_reasonOf_225 2 rfl rfl ?_
                                refine x_callVp (rest := []) F hR.2.2.1 rfl (c_X4_isBusyNow l G A m ) k_X4_146 ⟨(Nat.le_of_ble_eq_true rfl), (Nat.le_of_ble_eq_true rfl), rfl, rfl⟩ (Nat.le_of_ble_eq_true rfl) (Nat.le_of_ble_eq_true rfl) dX4_reasonOf_226 rfl rfl (Nat.le_of_ble_eq_true rfl) hR ?_
                                refine x_if_eq F dX4_reasonOf_229 (tgt := 237) (by decide) (fun h93 => ?_) (fun h93 => ?_)
                                · replace h93 := bI_0.mp h93
                                  refine x_iconst (v := 0) F rfl dX4_reasonOf_237 ?_
                                  exact x_iret F hE dX4_reasonOf_238 (Nat.le_of_ble_eq_true rfl) (Nat.le_of_ble_eq_true rfl) (⟨by unfold m_rea; rw [if_neg (fun q => q.elim h1 (fun q => q.1 h2)), if_neg (fun q => q.elim (fun q => q h3) (fun q => q h4)), if_neg (fun q => h58 q.2), if_neg (fun q => q.2.elim h76 (fun q => h77 q.1)), if_neg (fun q => q.elim h78 (fun q => by rw [if_pos h79] at q; exact h87' q)), if_neg h88', if_neg (fun q => q.elim (fun q => h92 q.2) (fun q => q.1 h89)), if_neg h93], rfl⟩)
                                · replace h93 := bI_ne.mp h93
                                  refine x_bipush (v := 8) F rfl dX4_reasonOf_232 ?_
                                  refine x_goto F dX4_reasonOf_234 (tgt := 238) (by decide) ?_
                                  exact x_iret F hE dX4_reasonOf_238 (Nat.le_of_ble_eq_true rfl) (Nat.le_of_ble_eq_true rfl) (⟨by unfold m_rea; rw [if_neg (fun q => q.elim h1 (fun q => q.1 h2)), if_neg (fun q => q.elim (fun q => q h3) (fun q => q h4)), if_neg (fun q => h58 q.2), if_neg (fun q => q.2.elim h76 (fun q => h77 q.1)), if_neg (fun q => q.elim h78 (fun q => by rw [if_pos h79] at q; exact h87' q)), if_neg h88', if_neg (fun q => q.elim (fun q => h92 q.2) (fun q => q.1 h89)), if_pos h93], rfl⟩)
                              · refine x_goto F dX4_reasonOf_208 (tgt := 222) (by decide) ?_
                                refine x_bipush (v := 7) F rfl dX4_reasonOf_222 ?_
                                exact x_iret F hE dX4_reasonOf_224 (Nat.le_of_ble_eq_true rfl) (Nat.le_of_ble_eq_true rfl) (⟨by unfold m_rea; rw [if_neg (fun q => q.elim h1 (fun q => q.1 h2)), if_neg (fun q => q.elim (fun q => q h3) (fun q => q h4)), if_neg (fun q => h58 q.2), if_neg (fun q => q.2.elim h76 (fun q => h77 q.1)), if_neg (fun q => q.elim h78 (fun q => by rw [if_pos h79] at q; exact h87' q)), if_neg h88', if_pos (Or.inl ⟨h89, h92⟩)], rfl⟩)
                          · have h88' := Int32.not_le.mp h88
                            refine x_bipush (v := 6) F rfl dX4_reasonOf_189 ?_
                            exact x_iret F hE dX4_reasonOf_191 (Nat.le_of_ble_eq_true rfl) (Nat.le_of_ble_eq_true rfl) (⟨by unfold m_rea; rw [if_neg (fun q => q.elim h1 (fun q => q.1 h2)), if_neg (fun q => q.elim (fun q => q h3) (fun q => q h4)), if_neg (fun q => h58 q.2), if_neg (fun q => q.2.elim h76 (fun q => h77 q.1)), if_neg (fun q => q.elim h78 (fun q => by rw [if_pos h79] at q; exact h87' q)), if_pos h88'], rfl⟩)
                        · have h87' := Int32.not_le.mp h87
                          refine x_iconst (v := 5) F rfl dX4_reasonOf_173 ?_
                          exact x_iret F hE dX4_reasonOf_174 (Nat.le_of_ble_eq_true rfl) (Nat.le_of_ble_eq_true rfl) (⟨by unfold m_rea; rw [if_neg (fun q => q.elim h1 (fun q => q.1 h2)), if_neg (fun q => q.elim (fun q => q h3) (fun q => q h4)), if_neg (fun q => h58 q.2), if_neg (fun q => q.2.elim h76 (fun q => h77 q.1)), if_pos (Or.inr (by rw [if_pos h79]; exact h87'))], rfl⟩)
                  · refine x_aload_n F dX4_reasonOf_121 2 rfl rfl ?_
                    refine x_iload_n F dX4_reasonOf_122 1 rfl rfl ?_
                    refine x_iconst (v := 4) F rfl dX4_reasonOf_123 ?_
                    refine x_callVp (rest := []) F hR.2.2.1 rfl (c_X4_landed l G A m (mZ m 21 i) 4 hW) k_X4_115 ⟨(Nat.le_of_ble_eq_true rfl), (Nat.le_of_ble_eq_true rfl), rfl, rfl⟩ (Nat.le_of_ble_eq_true rfl) (Nat.le_of_ble_eq_true rfl) dX4_reasonOf_124 rfl rfl (Nat.le_of_ble_eq_true rfl) hR ?_
                    refine x_if_ne F dX4_reasonOf_127 (tgt := 132) (by decide) (fun h94 => ?_) (fun h94 => ?_)
                    · refine x_aload_n F dX4_reasonOf_132 2 rfl rfl ?_
                      refine z_get (m := m) (j := 2) (v := .int (mY m 2)) F hR mw_801 rfl (by decide) rfl dX4_reasonOf_133 ?_
                      refine x_aload_n F dX4_reasonOf_136 2 rfl rfl ?_
                      refine z_get (m := m) (j := 15) (v := .ref (ma m 15)) F hR mw_814 rfl (by decide) rfl dX4_reasonOf_137 ?_
                      refine x_aload_n F dX4_reasonOf_140 2 rfl rfl ?_
                      refine z_get (m := m) (j := 23) (v := .ref (ma m 23)) F hR mw_822 rfl (by decide) rfl dX4_reasonOf_141 ?_
                      refine x_iload_n F dX4_reasonOf_144 3 rfl rfl ?_
                      refine z_ildN (m := m) (j := 23) (i := i) F hR (by decide) rfl rfl (Nat.lt_of_lt_of_le hi hW.2.2.1.2) (by decide) dX4_reasonOf_145 ?_
                      refine wx_i (y := nI (tN (mZ m 23 i))) ((hW.2.2.2 _ hi).2.2.1) ?_
                      refine z_ildN (m := m) (j := 15) (i := (tN (mZ m 23 i))) F hR (by decide) rfl rfl (Nat.lt_of_lt_of_le (hW.2.2.2 _ hi).2.2.2 hW.2.1.2) (by decide) dX4_reasonOf_146 ?_
                      refine x_icmp_gt F dX4_reasonOf_147 (tgt := 173) (by decide) (fun h95 => ?_) (fun h95 => ?_)
                      · have h95' := Int32.not_le.mpr h95
                        refine x_iconst (v := 5) F rfl dX4_reasonOf_173 ?_
                        exact x_iret F hE dX4_reasonOf_174 (Nat.le_of_ble_eq_true rfl) (Nat.le_of_ble_eq_true rfl) (⟨by unfold m_rea; rw [if_neg (fun q => q.elim h1 (fun q => q.1 h2)), if_neg (fun q => q.elim (fun q => q h3) (fun q => q h4)), if_neg (fun q => h58 q.2), if_neg (fun q => q.2.elim h76 (fun q => h94 q.2)), if_pos (Or.inl h95)], rfl⟩)
                      · have h95' := Int32.not_lt.mp h95
                        refine x_aload_n F dX4_reasonOf_150 2 rfl rfl ?_
                        refine z_get (m := m) (j := 2) (v := .int (mY m 2)) F hR mw_801 rfl (by decide) rfl dX4_reasonOf_151 ?_
                        refine x_aload_n F dX4_reasonOf_154 2 rfl rfl ?_
                        refine x_iload_n F dX4_reasonOf_155 3 rfl rfl ?_
                        refine x_callVp (rest := [.int (mY m 2)]) F hR.2.2.1 rfl (c_X4_withTeacher l G A m i hi hW) k_X4_109 ⟨(Nat.le_of_ble_eq_true rfl), (Nat.le_of_ble_eq_true rfl), rfl, rfl⟩ (Nat.le_of_ble_eq_true rfl) (Nat.le_of_ble_eq_true rfl) dX4_reasonOf_156 rfl rfl (Nat.le_of_ble_eq_true rfl) hR ?_
                        refine x_if_eq F dX4_reasonOf_159 (tgt := 166) (by decide) (fun h96 => ?_) (fun h96 => ?_)
                        · replace h96 := bI_0.mp h96
                          refine x_iload_n F dX4_reasonOf_166 0 rfl rfl ?_
                          refine x_callSp (rest := [.int (mY m 2)]) F (c_X4_windOf l G A (mZ m 10 (tN (mZ m 21 i)))) k_X4_143 ⟨(Nat.le_of_ble_eq_true rfl), (Nat.le_of_ble_eq_true rfl), rfl, rfl⟩ (Nat.le_of_ble_eq_true rfl) (Nat.le_of_ble_eq_true rfl) dX4_reasonOf_167 rfl rfl (Nat.le_of_ble_eq_true rfl) trivial ?_
                          refine x_icmp_le F dX4_reasonOf_170 (tgt := 175) (by decide) (fun h97 => ?_) (fun h97 => ?_)
                          · have h97' := Int32.not_lt.mpr h97
                            refine x_aload_n F dX4_reasonOf_175 2 rfl rfl ?_
                            refine z_get (m := m) (j := 3) (v := .int (mY m 3)) F hR mw_802 rfl (by decide) rfl dX4_reasonOf_176 ?_
                            refine x_aload_n F dX4_reasonOf_179 2 rfl rfl ?_
                            refine z_get (m := m) (j := 1) (v := .int (mY m 1)) F hR mw_800 rfl (by decide) rfl dX4_reasonOf_180 ?_
                            refine x_isub F dX4_reasonOf_183 ?_
                            refine x_bipush (v := 10) F rfl dX4_reasonOf_184 ?_
                            refine x_icmp_ge F dX4_reasonOf_186 (tgt := 192) (by decide) (fun h98 => ?_) (fun h98 => ?_)
                            · have h98' := Int32.not_lt.mpr h98
                              refine x_aload_n F dX4_reasonOf_192 2 rfl rfl ?_
                              refine z_get (m := m) (j := 24) (v := .ref (ma m 24)) F hR mw_823 rfl (by decide) rfl dX4_reasonOf_193 ?_
                              refine x_iload_n F dX4_reasonOf_196 3 rfl rfl ?_
                              refine z_ildN (m := m) (j := 24) (i := i) F hR (by decide) rfl rfl (Nat.lt_of_lt_of_le hi hW.2.2.1.2) (by decide) dX4_reasonOf_197 ?_
                              refine x_if_ne F dX4_reasonOf_198 (tgt := 211) (by decide) (fun h99 => ?_) (fun h99 => ?_)
                              · refine x_aload_n F dX4_reasonOf_211 2 rfl rfl ?_
                                refine x_callVp (rest := []) F hR.2.2.1 rfl (c_X4_takenTugs l G A m ) k_X4_98 ⟨(Nat.le_of_ble_eq_true rfl), (Nat.le_of_ble_eq_true rfl), rfl, rfl⟩ (Nat.le_of_ble_eq_true rfl) (Nat.le_of_ble_eq_true rfl) dX4_reasonOf_212 rfl rfl (Nat.le_of_ble_eq_true rfl) hR ?_
                                refine x_aload_n F dX4_reasonOf_215 2 rfl rfl ?_
                                refine z_get (m := m) (j := 7) (v := .int (mY m 7)) F hR mw_806 rfl (by decide) rfl dX4_reasonOf_216 ?_
                                refine x_icmp_lt F dX4_reasonOf_219 (tgt := 225) (by decide) (fun h100 => ?_) (fun h100 => ?_)
                                · have h100' := Int32.not_le.mpr h100
                                  refine x_aload_n F dX4_reasonOf_225 2 rfl rfl ?_
                                  refine x_callVp (rest := []) F hR.2.2.1 rfl (c_X4_isBusyNow l G A m ) k_X4_146 ⟨(Nat.le_of_ble_eq_true rfl), (Nat.le_of_ble_eq_true rfl), rfl, rfl⟩ (Nat.le_of_ble_eq_true rfl) (Nat.le_of_ble_eq_true rfl) dX4_reasonOf_226 rfl rfl (Nat.le_of_ble_eq_true rfl) hR ?_
                                  refine x_if_eq F dX4_reasonOf_229 (tgt := 237) (by decide) (fun h101 => ?_) (fun h101 => ?_)
                                  · replace h101 := bI_0.mp h101
                                    refine x_iconst (v := 0) F rfl dX4_reasonOf_237 ?_
                                    exact x_iret F hE dX4_reasonOf_238 (Nat.le_of_ble_eq_true rfl) (Nat.le_of_ble_eq_true rfl) (⟨by unfold m_rea; rw [if_neg (fun q => q.elim h1 (fun q => q.1 h2)), if_neg (fun q => q.elim (fun q => q h3) (fun q => q h4)), if_neg (fun q => h58 q.2), if_neg (fun q => q.2.elim h76 (fun q => h94 q.2)), if_neg (fun q => q.elim h95 (fun q => by rw [if_neg h96] at q; exact h97' q)), if_neg h98', if_neg (fun q => q.elim (fun q => h99 q.1) (fun q => h100' q.2)), if_neg h101], rfl⟩)
                                  · replace h101 := bI_ne.mp h101
                                    refine x_bipush (v := 8) F rfl dX4_reasonOf_232 ?_
                                    refine x_goto F dX4_reasonOf_234 (tgt := 238) (by decide) ?_
                                    exact x_iret F hE dX4_reasonOf_238 (Nat.le_of_ble_eq_true rfl) (Nat.le_of_ble_eq_true rfl) (⟨by unfold m_rea; rw [if_neg (fun q => q.elim h1 (fun q => q.1 h2)), if_neg (fun q => q.elim (fun q => q h3) (fun q => q h4)), if_neg (fun q => h58 q.2), if_neg (fun q => q.2.elim h76 (fun q => h94 q.2)), if_neg (fun q => q.elim h95 (fun q => by rw [if_neg h96] at q; exact h97' q)), if_neg h98', if_neg (fun q => q.elim (fun q => h99 q.1) (fun q => h100' q.2)), if_pos h101], rfl⟩)
                                · have h100' := Int32.not_lt.mp h100
                                  refine x_bipush (v := 7) F rfl dX4_reasonOf_222 ?_
                                  exact x_iret F hE dX4_reasonOf_224 (Nat.le_of_ble_eq_true rfl) (Nat.le_of_ble_eq_true rfl) (⟨by unfold m_rea; rw [if_neg (fun q => q.elim h1 (fun q => q.1 h2)), if_neg (fun q => q.elim (fun q => q h3) (fun q => q h4)), if_neg (fun q => h58 q.2), if_neg (fun q => q.2.elim h76 (fun q => h94 q.2)), if_neg (fun q => q.elim h95 (fun q => by rw [if_neg h96] at q; exact h97' q)), if_neg h98', if_pos (Or.inr ⟨h99, h100'⟩)], rfl⟩)
                              · refine x_aload_n F dX4_reasonOf_201 2 rfl rfl ?_
                                refine z_get (m := m) (j := 5) (v := .int (mY m 5)) F hR mw_804 rfl (by decide) rfl dX4_reasonOf_202 ?_
                                refine x_if_ne F dX4_reasonOf_205 (tgt := 225) (by decide) (fun h102 => ?_) (fun h102 => ?_)
                                · refine x_aload_n F dX4_reasonOf_225 2 rfl rfl ?_
                                  refine x_callVp (rest := []) F hR.2.2.1 rfl (c_X4_isBusyNow l G A m ) k_X4_146 ⟨(Nat.le_of_ble_eq_true rfl), (Nat.le_of_ble_eq_true rfl), rfl, rfl⟩ (Nat.le_of_ble_eq_true rfl) (Nat.le_of_ble_eq_true rfl) dX4_reasonOf_226 rfl rfl (Nat.le_of_ble_eq_true rfl) hR ?_
                                  refine x_if_eq F dX4_reasonOf_229 (tgt := 237) (by decide) (fun h103 => ?_) (fun h103 => ?_)
                                  · replace h103 := bI_0.mp h103
                                    refine x_iconst (v := 0) F rfl dX4_reasonOf_237 ?_
                                    exact x_iret F hE dX4_reasonOf_238 (Nat.le_of_ble_eq_true rfl) (Nat.le_of_ble_eq_true rfl) (⟨by unfold m_rea; rw [if_neg (fun q => q.elim h1 (fun q => q.1 h2)), if_neg (fun q => q.elim (fun q => q h3) (fun q => q h4)), if_neg (fun q => h58 q.2), if_neg (fun q => q.2.elim h76 (fun q => h94 q.2)), if_neg (fun q => q.elim h95 (fun q => by rw [if_neg h96] at q; exact h97' q)), if_neg h98', if_neg (fun q => q.elim (fun q => h102 q.2) (fun q => q.1 h99)), if_neg h103], rfl⟩)
                                  · replace h103 := bI_ne.mp h103
                                    refine x_bipush (v := 8) F rfl dX4_reasonOf_232 ?_
                                    refine x_goto F dX4_reasonOf_234 (tgt := 238) (by decide) ?_
                                    exact x_iret F hE dX4_reasonOf_238 (Nat.le_of_ble_eq_true rfl) (Nat.le_of_ble_eq_true rfl) (⟨by unfold m_rea; rw [if_neg (fun q => q.elim h1 (fun q => q.1 h2)), if_neg (fun q => q.elim (fun q => q h3) (fun q => q h4)), if_neg (fun q => h58 q.2), if_neg (fun q => q.2.elim h76 (fun q => h94 q.2)), if_neg (fun q => q.elim h95 (fun q => by rw [if_neg h96] at q; exact h97' q)), if_neg h98', if_neg (fun q => q.elim (fun q => h102 q.2) (fun q => q.1 h99)), if_pos h103], rfl⟩)
                                · refine x_goto F dX4_reasonOf_208 (tgt := 222) (by decide) ?_
                                  refine x_bipush (v := 7) F rfl dX4_reasonOf_222 ?_
                                  exact x_iret F hE dX4_reasonOf_224 (Nat.le_of_ble_eq_true rfl) (Nat.le_of_ble_eq_true rfl) (⟨by unfold m_rea; rw [if_neg (fun q => q.elim h1 (fun q => q.1 h2)), if_neg (fun q => q.elim (fun q => q h3) (fun q => q h4)), if_neg (fun q => h58 q.2), if_neg (fun q => q.2.elim h76 (fun q => h94 q.2)), if_neg (fun q => q.elim h95 (fun q => by rw [if_neg h96] at q; exact h97' q)), if_neg h98', if_pos (Or.inl ⟨h99, h102⟩)], rfl⟩)
                            · have h98' := Int32.not_le.mp h98
                              refine x_bipush (v := 6) F rfl dX4_reasonOf_189 ?_
                              exact x_iret F hE dX4_reasonOf_191 (Nat.le_of_ble_eq_true rfl) (Nat.le_of_ble_eq_true rfl) (⟨by unfold m_rea; rw [if_neg (fun q => q.elim h1 (fun q => q.1 h2)), if_neg (fun q => q.elim (fun q => q h3) (fun q => q h4)), if_neg (fun q => h58 q.2), if_neg (fun q => q.2.elim h76 (fun q => h94 q.2)), if_neg (fun q => q.elim h95 (fun q => by rw [if_neg h96] at q; exact h97' q)), if_pos h98'], rfl⟩)
                          · have h97' := Int32.not_le.mp h97
                            refine x_iconst (v := 5) F rfl dX4_reasonOf_173 ?_
                            exact x_iret F hE dX4_reasonOf_174 (Nat.le_of_ble_eq_true rfl) (Nat.le_of_ble_eq_true rfl) (⟨by unfold m_rea; rw [if_neg (fun q => q.elim h1 (fun q => q.1 h2)), if_neg (fun q => q.elim (fun q => q h3) (fun q => q h4)), if_neg (fun q => h58 q.2), if_neg (fun q => q.2.elim h76 (fun q => h94 q.2)), if_pos (Or.inr (by rw [if_neg h96]; exact h97'))], rfl⟩)
                        · replace h96 := bI_ne.mp h96
                          refine x_iconst (v := 3) F rfl dX4_reasonOf_162 ?_
                          refine x_goto F dX4_reasonOf_163 (tgt := 167) (by decide) ?_
                          refine x_callSp (rest := [.int (mY m 2)]) F (c_X4_windOf l G A 3) k_X4_143 ⟨(Nat.le_of_ble_eq_true rfl), (Nat.le_of_ble_eq_true rfl), rfl, rfl⟩ (Nat.le_of_ble_eq_true rfl) (Nat.le_of_ble_eq_true rfl) dX4_reasonOf_167 rfl rfl (Nat.le_of_ble_eq_true rfl) trivial ?_
                          refine x_icmp_le F dX4_reasonOf_170 (tgt := 175) (by decide) (fun h104 => ?_) (fun h104 => ?_)
                          · have h104' := Int32.not_lt.mpr h104
                            refine x_aload_n F dX4_reasonOf_175 2 rfl rfl ?_
                            refine z_get (m := m) (j := 3) (v := .int (mY m 3)) F hR mw_802 rfl (by decide) rfl dX4_reasonOf_176 ?_
                            refine x_aload_n F dX4_reasonOf_179 2 rfl rfl ?_
                            refine z_get (m := m) (j := 1) (v := .int (mY m 1)) F hR mw_800 rfl (by decide) rfl dX4_reasonOf_180 ?_
                            refine x_isub F dX4_reasonOf_183 ?_
                            refine x_bipush (v := 10) F rfl dX4_reasonOf_184 ?_
                            refine x_icmp_ge F dX4_reasonOf_186 (tgt := 192) (by decide) (fun h105 => ?_) (fun h105 => ?_)
                            · have h105' := Int32.not_lt.mpr h105
                              refine x_aload_n F dX4_reasonOf_192 2 rfl rfl ?_
                              refine z_get (m := m) (j := 24) (v := .ref (ma m 24)) F hR mw_823 rfl (by decide) rfl dX4_reasonOf_193 ?_
                              refine x_iload_n F dX4_reasonOf_196 3 rfl rfl ?_
                              refine z_ildN (m := m) (j := 24) (i := i) F hR (by decide) rfl rfl (Nat.lt_of_lt_of_le hi hW.2.2.1.2) (by decide) dX4_reasonOf_197 ?_
                              refine x_if_ne F dX4_reasonOf_198 (tgt := 211) (by decide) (fun h106 => ?_) (fun h106 => ?_)
                              · refine x_aload_n F dX4_reasonOf_211 2 rfl rfl ?_
                                refine x_callVp (rest := []) F hR.2.2.1 rfl (c_X4_takenTugs l G A m ) k_X4_98 ⟨(Nat.le_of_ble_eq_true rfl), (Nat.le_of_ble_eq_true rfl), rfl, rfl⟩ (Nat.le_of_ble_eq_true rfl) (Nat.le_of_ble_eq_true rfl) dX4_reasonOf_212 rfl rfl (Nat.le_of_ble_eq_true rfl) hR ?_
                                refine x_aload_n F dX4_reasonOf_215 2 rfl rfl ?_
                                refine z_get (m := m) (j := 7) (v := .int (mY m 7)) F hR mw_806 rfl (by decide) rfl dX4_reasonOf_216 ?_
                                refine x_icmp_lt F dX4_reasonOf_219 (tgt := 225) (by decide) (fun h107 => ?_) (fun h107 => ?_)
                                · have h107' := Int32.not_le.mpr h107
                                  refine x_aload_n F dX4_reasonOf_225 2 rfl rfl ?_
                                  refine x_callVp (rest := []) F hR.2.2.1 rfl (c_X4_isBusyNow l G A m ) k_X4_146 ⟨(Nat.le_of_ble_eq_true rfl), (Nat.le_of_ble_eq_true rfl), rfl, rfl⟩ (Nat.le_of_ble_eq_true rfl) (Nat.le_of_ble_eq_true rfl) dX4_reasonOf_226 rfl rfl (Nat.le_of_ble_eq_true rfl) hR ?_
                                  refine x_if_eq F dX4_reasonOf_229 (tgt := 237) (by decide) (fun h108 => ?_) (fun h108 => ?_)
                                  · replace h108 := bI_0.mp h108
                                    refine x_iconst (v := 0) F rfl dX4_reasonOf_237 ?_
                                    exact x_iret F hE dX4_reasonOf_238 (Nat.le_of_ble_eq_true rfl) (Nat.le_of_ble_eq_true rfl) (⟨by unfold m_rea; rw [if_neg (fun q => q.elim h1 (fun q => q.1 h2)), if_neg (fun q => q.elim (fun q => q h3) (fun q => q h4)), if_neg (fun q => h58 q.2), if_neg (fun q => q.2.elim h76 (fun q => h94 q.2)), if_neg (fun q => q.elim h95 (fun q => by rw [if_pos h96] at q; exact h104' q)), if_neg h105', if_neg (fun q => q.elim (fun q => h106 q.1) (fun q => h107' q.2)), if_neg h108], rfl⟩)
                                  · replace h108 := bI_ne.mp h108
                                    refine x_bipush (v := 8) F rfl dX4_reasonOf_232 ?_
                                    refine x_goto F dX4_reasonOf_234 (tgt := 238) (by decide) ?_
                                    exact x_iret F hE dX4_reasonOf_238 (Nat.le_of_ble_eq_true rfl) (Nat.le_of_ble_eq_true rfl) (⟨by unfold m_rea; rw [if_neg (fun q => q.elim h1 (fun q => q.1 h2)), if_neg (fun q => q.elim (fun q => q h3) (fun q => q h4)), if_neg (fun q => h58 q.2), if_neg (fun q => q.2.elim h76 (fun q => h94 q.2)), if_neg (fun q => q.elim h95 (fun q => by rw [if_pos h96] at q; exact h104' q)), if_neg h105', if_neg (fun q => q.elim (fun q => h106 q.1) (fun q => h107' q.2)), if_pos h108], rfl⟩)
                                · have h107' := Int32.not_lt.mp h107
                                  refine x_bipush (v := 7) F rfl dX4_reasonOf_222 ?_
                                  exact x_iret F hE dX4_reasonOf_224 (Nat.le_of_ble_eq_true rfl) (Nat.le_of_ble_eq_true rfl) (⟨by unfold m_rea; rw [if_neg (fun q => q.elim h1 (fun q => q.1 h2)), if_neg (fun q => q.elim (fun q => q h3) (fun q => q h4)), if_neg (fun q => h58 q.2), if_neg (fun q => q.2.elim h76 (fun q => h94 q.2)), if_neg (fun q => q.elim h95 (fun q => by rw [if_pos h96] at q; exact h104' q)), if_neg h105', if_pos (Or.inr ⟨h106, h107'⟩)], rfl⟩)
                              · refine x_aload_n F dX4_reasonOf_201 2 rfl rfl ?_
                                refine z_get (m := m) (j := 5) (v := .int (mY m 5)) F hR mw_804 rfl (by decide) rfl dX4_reasonOf_202 ?_
                                refine x_if_ne F dX4_reasonOf_205 (tgt := 225) (by decide) (fun h109 => ?_) (fun h109 => ?_)
                                · refine x_aload_n F dX4_reasonOf_225 2 rfl rfl ?_
                                  refine x_callVp (rest := []) F hR.2.2.1 rfl (c_X4_isBusyNow l G A m ) k_X4_146 ⟨(Nat.le_of_ble_eq_true rfl), (Nat.le_of_ble_eq_true rfl), rfl, rfl⟩ (Nat.le_of_ble_eq_true rfl) (Nat.le_of_ble_eq_true rfl) dX4_reasonOf_226 rfl rfl (Nat.le_of_ble_eq_true rfl) hR ?_
                                  refine x_if_eq F dX4_reasonOf_229 (tgt := 237) (by decide) (fun h110 => ?_) (fun h110 => ?_)
                                  · replace h110 := bI_0.mp h110
                                    refine x_iconst (v := 0) F rfl dX4_reasonOf_237 ?_
                                    exact x_iret F hE dX4_reasonOf_238 (Nat.le_of_ble_eq_true rfl) (Nat.le_of_ble_eq_true rfl) (⟨by unfold m_rea; rw [if_neg (fun q => q.elim h1 (fun q => q.1 h2)), if_neg (fun q => q.elim (fun q => q h3) (fun q => q h4)), if_neg (fun q => h58 q.2), if_neg (fun q => q.2.elim h76 (fun q => h94 q.2)), if_neg (fun q => q.elim h95 (fun q => by rw [if_pos h96] at q; exact h104' q)), if_neg h105', if_neg (fun q => q.elim (fun q => h109 q.2) (fun q => q.1 h106)), if_neg h110], rfl⟩)
                                  · replace h110 := bI_ne.mp h110
                                    refine x_bipush (v := 8) F rfl dX4_reasonOf_232 ?_
                                    refine x_goto F dX4_reasonOf_234 (tgt := 238) (by decide) ?_
                                    exact x_iret F hE dX4_reasonOf_238 (Nat.le_of_ble_eq_true rfl) (Nat.le_of_ble_eq_true rfl) (⟨by unfold m_rea; rw [if_neg (fun q => q.elim h1 (fun q => q.1 h2)), if_neg (fun q => q.elim (fun q => q h3) (fun q => q h4)), if_neg (fun q => h58 q.2), if_neg (fun q => q.2.elim h76 (fun q => h94 q.2)), if_neg (fun q => q.elim h95 (fun q => by rw [if_pos h96] at q; exact h104' q)), if_neg h105', if_neg (fun q => q.elim (fun q => h109 q.2) (fun q => q.1 h106)), if_pos h110], rfl⟩)
                                · refine x_goto F dX4_reasonOf_208 (tgt := 222) (by decide) ?_
                                  refine x_bipush (v := 7) F rfl dX4_reasonOf_222 ?_
                                  exact x_iret F hE dX4_reasonOf_224 (Nat.le_of_ble_eq_true rfl) (Nat.le_of_ble_eq_true rfl) (⟨by unfold m_rea; rw [if_neg (fun q => q.elim h1 (fun q => q.1 h2)), if_neg (fun q => q.elim (fun q => q h3) (fun q => q h4)), if_neg (fun q => h58 q.2), if_neg (fun q => q.2.elim h76 (fun q => h94 q.2)), if_neg (fun q => q.elim h95 (fun q => by rw [if_pos h96] at q; exact h104' q)), if_neg h105', if_pos (Or.inl ⟨h106, h109⟩)], rfl⟩)
                            · have h105' := Int32.not_le.mp h105
                              refine x_bipush (v := 6) F rfl dX4_reasonOf_189 ?_
                              exact x_iret F hE dX4_reasonOf_191 (Nat.le_of_ble_eq_true rfl) (Nat.le_of_ble_eq_true rfl) (⟨by unfold m_rea; rw [if_neg (fun q => q.elim h1 (fun q => q.1 h2)), if_neg (fun q => q.elim (fun q => q h3) (fun q => q h4)), if_neg (fun q => h58 q.2), if_neg (fun q => q.2.elim h76 (fun q => h94 q.2)), if_neg (fun q => q.elim h95 (fun q => by rw [if_pos h96] at q; exact h104' q)), if_pos h105'], rfl⟩)
                          · have h104' := Int32.not_le.mp h104
                            refine x_iconst (v := 5) F rfl dX4_reasonOf_173 ?_
                            exact x_iret F hE dX4_reasonOf_174 (Nat.le_of_ble_eq_true rfl) (Nat.le_of_ble_eq_true rfl) (⟨by unfold m_rea; rw [if_neg (fun q => q.elim h1 (fun q => q.1 h2)), if_neg (fun q => q.elim (fun q => q h3) (fun q => q h4)), if_neg (fun q => h58 q.2), if_neg (fun q => q.2.elim h76 (fun q => h94 q.2)), if_pos (Or.inr (by rw [if_pos h96]; exact h104'))], rfl⟩)
                    · refine x_iconst (v := 4) F rfl dX4_reasonOf_130 ?_
                      exact x_iret F hE dX4_reasonOf_131 (Nat.le_of_ble_eq_true rfl) (Nat.le_of_ble_eq_true rfl) (⟨by unfold m_rea; rw [if_neg (fun q => q.elim h1 (fun q => q.1 h2)), if_neg (fun q => q.elim (fun q => q h3) (fun q => q h4)), if_neg (fun q => h58 q.2), if_pos ⟨h59, Or.inr ⟨h77, h94⟩⟩], rfl⟩)
            · refine x_iconst (v := 3) F rfl dX4_reasonOf_102 ?_
              exact x_iret F hE dX4_reasonOf_103 (Nat.le_of_ble_eq_true rfl) (Nat.le_of_ble_eq_true rfl) (⟨by unfold m_rea; rw [if_neg (fun q => q.elim h1 (fun q => q.1 h2)), if_neg (fun q => q.elim (fun q => q h3) (fun q => q h4)), if_pos ⟨h5, h58⟩], rfl⟩)
        · refine x_iconst (v := 2) F rfl dX4_reasonOf_75 ?_
          exact x_iret F hE dX4_reasonOf_76 (Nat.le_of_ble_eq_true rfl) (Nat.le_of_ble_eq_true rfl) (⟨by unfold m_rea; rw [if_neg (fun q => q.elim h1 (fun q => q.1 h2)), if_pos (Or.inr h4)], rfl⟩)
    · refine x_aload_n F dX4_reasonOf_32 2 rfl rfl ?_
      refine x_aload_n F dX4_reasonOf_33 2 rfl rfl ?_
      refine z_get (m := m) (j := 22) (v := .ref (ma m 22)) F hR mw_821 rfl (by decide) rfl dX4_reasonOf_34 ?_
      refine x_iload_n F dX4_reasonOf_37 3 rfl rfl ?_
      refine z_ildN (m := m) (j := 22) (i := i) F hR (by decide) rfl rfl (Nat.lt_of_lt_of_le hi hW.2.2.1.2) (by decide) dX4_reasonOf_38 ?_
      refine x_callVp (rest := []) F hR.2.2.1 rfl (c_X4_flies l G A m (mZ m 22 i) hW) k_X4_119 ⟨(Nat.le_of_ble_eq_true rfl), (Nat.le_of_ble_eq_true rfl), rfl, rfl⟩ (Nat.le_of_ble_eq_true rfl) (Nat.le_of_ble_eq_true rfl) dX4_reasonOf_39 rfl rfl (Nat.le_of_ble_eq_true rfl) hR ?_
      refine x_if_eq F dX4_reasonOf_42 (tgt := 47) (by decide) (fun h111 => ?_) (fun h111 => ?_)
      · replace h111 := bI_0.mp h111
        refine x_aload_n F dX4_reasonOf_47 2 rfl rfl ?_
        refine x_aload_n F dX4_reasonOf_48 2 rfl rfl ?_
        refine z_get (m := m) (j := 23) (v := .ref (ma m 23)) F hR mw_822 rfl (by decide) rfl dX4_reasonOf_49 ?_
        refine x_iload_n F dX4_reasonOf_52 3 rfl rfl ?_
        refine z_ildN (m := m) (j := 23) (i := i) F hR (by decide) rfl rfl (Nat.lt_of_lt_of_le hi hW.2.2.1.2) (by decide) dX4_reasonOf_53 ?_
        refine x_callVp (rest := []) F hR.2.2.1 rfl (c_X4_flightOf l G A m (mZ m 23 i) hW) k_X4_106 ⟨(Nat.le_of_ble_eq_true rfl), (Nat.le_of_ble_eq_true rfl), rfl, rfl⟩ (Nat.le_of_ble_eq_true rfl) (Nat.le_of_ble_eq_true rfl) dX4_reasonOf_54 rfl rfl (Nat.le_of_ble_eq_true rfl) hR ?_
        refine x_iconst (v := (-1)) F rfl dX4_reasonOf_57 ?_
        refine x_icmp_ne F dX4_reasonOf_58 (tgt := 75) (by decide) (fun h112 => ?_) (fun h112 => ?_)
        · refine x_iconst (v := 2) F rfl dX4_reasonOf_75 ?_
          exact x_iret F hE dX4_reasonOf_76 (Nat.le_of_ble_eq_true rfl) (Nat.le_of_ble_eq_true rfl) (⟨by unfold m_rea; rw [if_neg (fun q => q.elim h1 (fun q => h111 q.2)), if_pos (Or.inl h112)], rfl⟩)
        · refine x_aload_n F dX4_reasonOf_61 2 rfl rfl ?_
          refine z_get (m := m) (j := 16) (v := .ref (ma m 16)) F hR mw_815 rfl (by decide) rfl dX4_reasonOf_62 ?_
          refine x_aload_n F dX4_reasonOf_65 2 rfl rfl ?_
          refine z_get (m := m) (j := 23) (v := .ref (ma m 23)) F hR mw_822 rfl (by decide) rfl dX4_reasonOf_66 ?_
          refine x_iload_n F dX4_reasonOf_69 3 rfl rfl ?_
          refine z_ildN (m := m) (j := 23) (i := i) F hR (by decide) rfl rfl (Nat.lt_of_lt_of_le hi hW.2.2.1.2) (by decide) dX4_reasonOf_70 ?_
          refine wx_i (y := nI (tN (mZ m 23 i))) ((hW.2.2.2 _ hi).2.2.1) ?_
          refine z_zldN (m := m) (j := 16) (i := (tN (mZ m 23 i))) F hR (by decide) rfl rfl (Nat.lt_of_lt_of_le (hW.2.2.2 _ hi).2.2.2 hW.2.1.2) (by decide) dX4_reasonOf_71 ?_
          refine x_if_eq F dX4_reasonOf_72 (tgt := 77) (by decide) (fun h113 => ?_) (fun h113 => ?_)
          · refine x_aload_n F dX4_reasonOf_77 2 rfl rfl ?_
            refine z_get (m := m) (j := 22) (v := .ref (ma m 22)) F hR mw_821 rfl (by decide) rfl dX4_reasonOf_78 ?_
            refine x_iload_n F dX4_reasonOf_81 3 rfl rfl ?_
            refine z_ildN (m := m) (j := 22) (i := i) F hR (by decide) rfl rfl (Nat.lt_of_lt_of_le hi hW.2.2.1.2) (by decide) dX4_reasonOf_82 ?_
            refine x_iconst (v := (-1)) F rfl dX4_reasonOf_83 ?_
            refine x_icmp_eq F dX4_reasonOf_84 (tgt := 104) (by decide) (fun h114 => ?_) (fun h114 => ?_)
            · refine x_aload_n F dX4_reasonOf_104 2 rfl rfl ?_
              refine x_iload_n F dX4_reasonOf_105 3 rfl rfl ?_
              refine x_callVp (rest := []) F hR.2.2.1 rfl (c_X4_withTeacher l G A m i hi hW) k_X4_109 ⟨(Nat.le_of_ble_eq_true rfl), (Nat.le_of_ble_eq_true rfl), rfl, rfl⟩ (Nat.le_of_ble_eq_true rfl) (Nat.le_of_ble_eq_true rfl) dX4_reasonOf_106 rfl rfl (Nat.le_of_ble_eq_true rfl) hR ?_
              refine x_if_ne F dX4_reasonOf_109 (tgt := 132) (by decide) (fun h115 => ?_) (fun h115 => ?_)
              · replace h115 := bI_ne.mp h115
                refine x_aload_n F dX4_reasonOf_132 2 rfl rfl ?_
                refine z_get (m := m) (j := 2) (v := .int (mY m 2)) F hR mw_801 rfl (by decide) rfl dX4_reasonOf_133 ?_
                refine x_aload_n F dX4_reasonOf_136 2 rfl rfl ?_
                refine z_get (m := m) (j := 15) (v := .ref (ma m 15)) F hR mw_814 rfl (by decide) rfl dX4_reasonOf_137 ?_
                refine x_aload_n F dX4_reasonOf_140 2 rfl rfl ?_
                refine z_get (m := m) (j := 23) (v := .ref (ma m 23)) F hR mw_822 rfl (by decide) rfl dX4_reasonOf_141 ?_
                refine x_iload_n F dX4_reasonOf_144 3 rfl rfl ?_
                refine z_ildN (m := m) (j := 23) (i := i) F hR (by decide) rfl rfl (Nat.lt_of_lt_of_le hi hW.2.2.1.2) (by decide) dX4_reasonOf_145 ?_
                refine wx_i (y := nI (tN (mZ m 23 i))) ((hW.2.2.2 _ hi).2.2.1) ?_
                refine z_ildN (m := m) (j := 15) (i := (tN (mZ m 23 i))) F hR (by decide) rfl rfl (Nat.lt_of_lt_of_le (hW.2.2.2 _ hi).2.2.2 hW.2.1.2) (by decide) dX4_reasonOf_146 ?_
                refine x_icmp_gt F dX4_reasonOf_147 (tgt := 173) (by decide) (fun h116 => ?_) (fun h116 => ?_)
                · have h116' := Int32.not_le.mpr h116
                  refine x_iconst (v := 5) F rfl dX4_reasonOf_173 ?_
                  exact x_iret F hE dX4_reasonOf_174 (Nat.le_of_ble_eq_true rfl) (Nat.le_of_ble_eq_true rfl) (⟨by unfold m_rea; rw [if_neg (fun q => q.elim h1 (fun q => h111 q.2)), if_neg (fun q => q.elim (fun q => q h112) (fun q => q h113)), if_neg (fun q => q.1 h114), if_neg (fun q => q.1 h115), if_pos (Or.inl h116)], rfl⟩)
                · have h116' := Int32.not_lt.mp h116
                  refine x_aload_n F dX4_reasonOf_150 2 rfl rfl ?_
                  refine z_get (m := m) (j := 2) (v := .int (mY m 2)) F hR mw_801 rfl (by decide) rfl dX4_reasonOf_151 ?_
                  refine x_aload_n F dX4_reasonOf_154 2 rfl rfl ?_
                  refine x_iload_n F dX4_reasonOf_155 3 rfl rfl ?_
                  refine x_callVp (rest := [.int (mY m 2)]) F hR.2.2.1 rfl (c_X4_withTeacher l G A m i hi hW) k_X4_109 ⟨(Nat.le_of_ble_eq_true rfl), (Nat.le_of_ble_eq_true rfl), rfl, rfl⟩ (Nat.le_of_ble_eq_true rfl) (Nat.le_of_ble_eq_true rfl) dX4_reasonOf_156 rfl rfl (Nat.le_of_ble_eq_true rfl) hR ?_
                  refine x_if_eq F dX4_reasonOf_159 (tgt := 166) (by decide) (fun h117 => ?_) (fun h117 => ?_)
                  · replace h117 := bI_0.mp h117
                    refine x_iload_n F dX4_reasonOf_166 0 rfl rfl ?_
                    refine x_callSp (rest := [.int (mY m 2)]) F (c_X4_windOf l G A (mZ m 10 (tN (mZ m 21 i)))) k_X4_143 ⟨(Nat.le_of_ble_eq_true rfl), (Nat.le_of_ble_eq_true rfl), rfl, rfl⟩ (Nat.le_of_ble_eq_true rfl) (Nat.le_of_ble_eq_true rfl) dX4_reasonOf_167 rfl rfl (Nat.le_of_ble_eq_true rfl) trivial ?_
                    refine x_icmp_le F dX4_reasonOf_170 (tgt := 175) (by decide) (fun h118 => ?_) (fun h118 => ?_)
                    · have h118' := Int32.not_lt.mpr h118
                      refine x_aload_n F dX4_reasonOf_175 2 rfl rfl ?_
                      refine z_get (m := m) (j := 3) (v := .int (mY m 3)) F hR mw_802 rfl (by decide) rfl dX4_reasonOf_176 ?_
                      refine x_aload_n F dX4_reasonOf_179 2 rfl rfl ?_
                      refine z_get (m := m) (j := 1) (v := .int (mY m 1)) F hR mw_800 rfl (by decide) rfl dX4_reasonOf_180 ?_
                      refine x_isub F dX4_reasonOf_183 ?_
                      refine x_bipush (v := 10) F rfl dX4_reasonOf_184 ?_
                      refine x_icmp_ge F dX4_reasonOf_186 (tgt := 192) (by decide) (fun h119 => ?_) (fun h119 => ?_)
                      · have h119' := Int32.not_lt.mpr h119
                        refine x_aload_n F dX4_reasonOf_192 2 rfl rfl ?_
                        refine z_get (m := m) (j := 24) (v := .ref (ma m 24)) F hR mw_823 rfl (by decide) rfl dX4_reasonOf_193 ?_
                        refine x_iload_n F dX4_reasonOf_196 3 rfl rfl ?_
                        refine z_ildN (m := m) (j := 24) (i := i) F hR (by decide) rfl rfl (Nat.lt_of_lt_of_le hi hW.2.2.1.2) (by decide) dX4_reasonOf_197 ?_
                        refine x_if_ne F dX4_reasonOf_198 (tgt := 211) (by decide) (fun h120 => ?_) (fun h120 => ?_)
                        · refine x_aload_n F dX4_reasonOf_211 2 rfl rfl ?_
                          refine x_callVp (rest := []) F hR.2.2.1 rfl (c_X4_takenTugs l G A m ) k_X4_98 ⟨(Nat.le_of_ble_eq_true rfl), (Nat.le_of_ble_eq_true rfl), rfl, rfl⟩ (Nat.le_of_ble_eq_true rfl) (Nat.le_of_ble_eq_true rfl) dX4_reasonOf_212 rfl rfl (Nat.le_of_ble_eq_true rfl) hR ?_
                          refine x_aload_n F dX4_reasonOf_215 2 rfl rfl ?_
                          refine z_get (m := m) (j := 7) (v := .int (mY m 7)) F hR mw_806 rfl (by decide) rfl dX4_reasonOf_216 ?_
                          refine x_icmp_lt F dX4_reasonOf_219 (tgt := 225) (by decide) (fun h121 => ?_) (fun h121 => ?_)
                          · have h121' := Int32.not_le.mpr h121
                            refine x_aload_n F dX4_reasonOf_225 2 rfl rfl ?_
                            refine x_callVp (rest := []) F hR.2.2.1 rfl (c_X4_isBusyNow l G A m ) k_X4_146 ⟨(Nat.le_of_ble_eq_true rfl), (Nat.le_of_ble_eq_true rfl), rfl, rfl⟩ (Nat.le_of_ble_eq_true rfl) (Nat.le_of_ble_eq_true rfl) dX4_reasonOf_226 rfl rfl (Nat.le_of_ble_eq_true rfl) hR ?_
                            refine x_if_eq F dX4_reasonOf_229 (tgt := 237) (by decide) (fun h122 => ?_) (fun h122 => ?_)
                            · replace h122 := bI_0.mp h122
                              refine x_iconst (v := 0) F rfl dX4_reasonOf_237 ?_
                              exact x_iret F hE dX4_reasonOf_238 (Nat.le_of_ble_eq_true rfl) (Nat.le_of_ble_eq_true rfl) (⟨by unfold m_rea; rw [if_neg (fun q => q.elim h1 (fun q => h111 q.2)), if_neg (fun q => q.elim (fun q => q h112) (fun q => q h113)), if_neg (fun q => q.1 h114), if_neg (fun q => q.1 h115), if_neg (fun q => q.elim h116 (fun q => by rw [if_neg h117] at q; exact h118' q)), if_neg h119', if_neg (fun q => q.elim (fun q => h120 q.1) (fun q => h121' q.2)), if_neg h122], rfl⟩)
                            · replace h122 := bI_ne.mp h122
                              refine x_bipush (v := 8) F rfl dX4_reasonOf_232 ?_
                              refine x_goto F dX4_reasonOf_234 (tgt := 238) (by decide) ?_
                              exact x_iret F hE dX4_reasonOf_238 (Nat.le_of_ble_eq_true rfl) (Nat.le_of_ble_eq_true rfl) (⟨by unfold m_rea; rw [if_neg (fun q => q.elim h1 (fun q => h111 q.2)), if_neg (fun q => q.elim (fun q => q h112) (fun q => q h113)), if_neg (fun q => q.1 h114), if_neg (fun q => q.1 h115), if_neg (fun q => q.elim h116 (fun q => by rw [if_neg h117] at q; exact h118' q)), if_neg h119', if_neg (fun q => q.elim (fun q => h120 q.1) (fun q => h121' q.2)), if_pos h122], rfl⟩)
                          · have h121' := Int32.not_lt.mp h121
                            refine x_bipush (v := 7) F rfl dX4_reasonOf_222 ?_
                            exact x_iret F hE dX4_reasonOf_224 (Nat.le_of_ble_eq_true rfl) (Nat.le_of_ble_eq_true rfl) (⟨by unfold m_rea; rw [if_neg (fun q => q.elim h1 (fun q => h111 q.2)), if_neg (fun q => q.elim (fun q => q h112) (fun q => q h113)), if_neg (fun q => q.1 h114), if_neg (fun q => q.1 h115), if_neg (fun q => q.elim h116 (fun q => by rw [if_neg h117] at q; exact h118' q)), if_neg h119', if_pos (Or.inr ⟨h120, h121'⟩)], rfl⟩)
                        · refine x_aload_n F dX4_reasonOf_201 2 rfl rfl ?_
                          refine z_get (m := m) (j := 5) (v := .int (mY m 5)) F hR mw_804 rfl (by decide) rfl dX4_reasonOf_202 ?_
                          refine x_if_ne F dX4_reasonOf_205 (tgt := 225) (by decide) (fun h123 => ?_) (fun h123 => ?_)
                          · refine x_aload_n F dX4_reasonOf_225 2 rfl rfl ?_
                            refine x_callVp (rest := []) F hR.2.2.1 rfl (c_X4_isBusyNow l G A m ) k_X4_146 ⟨(Nat.le_of_ble_eq_true rfl), (Nat.le_of_ble_eq_true rfl), rfl, rfl⟩ (Nat.le_of_ble_eq_true rfl) (Nat.le_of_ble_eq_true rfl) dX4_reasonOf_226 rfl rfl (Nat.le_of_ble_eq_true rfl) hR ?_
                            refine x_if_eq F dX4_reasonOf_229 (tgt := 237) (by decide) (fun h124 => ?_) (fun h124 => ?_)
                            · replace h124 := bI_0.mp h124
                              refine x_iconst (v := 0) F rfl dX4_reasonOf_237 ?_
                              exact x_iret F hE dX4_reasonOf_238 (Nat.le_of_ble_eq_true rfl) (Nat.le_of_ble_eq_true rfl) (⟨by unfold m_rea; rw [if_neg (fun q => q.elim h1 (fun q => h111 q.2)), if_neg (fun q => q.elim (fun q => q h112) (fun q => q h113)), if_neg (fun q => q.1 h114), if_neg (fun q => q.1 h115), if_neg (fun q => q.elim h116 (fun q => by rw [if_neg h117] at q; exact h118' q)), if_neg h119', if_neg (fun q => q.elim (fun q => h123 q.2) (fun q => q.1 h120)), if_neg h124], rfl⟩)
                            · replace h124 := bI_ne.mp h124
                              refine x_bipush (v := 8) F rfl dX4_reasonOf_232 ?_
                              refine x_goto F dX4_reasonOf_234 (tgt := 238) (by decide) ?_
                              exact x_iret F hE dX4_reasonOf_238 (Nat.le_of_ble_eq_true rfl) (Nat.le_of_ble_eq_true rfl) (⟨by unfold m_rea; rw [if_neg (fun q => q.elim h1 (fun q => h111 q.2)), if_neg (fun q => q.elim (fun q => q h112) (fun q => q h113)), if_neg (fun q => q.1 h114), if_neg (fun q => q.1 h115), if_neg (fun q => q.elim h116 (fun q => by rw [if_neg h117] at q; exact h118' q)), if_neg h119', if_neg (fun q => q.elim (fun q => h123 q.2) (fun q => q.1 h120)), if_pos h124], rfl⟩)
                          · refine x_goto F dX4_reasonOf_208 (tgt := 222) (by decide) ?_
                            refine x_bipush (v := 7) F rfl dX4_reasonOf_222 ?_
                            exact x_iret F hE dX4_reasonOf_224 (Nat.le_of_ble_eq_true rfl) (Nat.le_of_ble_eq_true rfl) (⟨by unfold m_rea; rw [if_neg (fun q => q.elim h1 (fun q => h111 q.2)), if_neg (fun q => q.elim (fun q => q h112) (fun q => q h113)), if_neg (fun q => q.1 h114), if_neg (fun q => q.1 h115), if_neg (fun q => q.elim h116 (fun q => by rw [if_neg h117] at q; exact h118' q)), if_neg h119', if_pos (Or.inl ⟨h120, h123⟩)], rfl⟩)
                      · have h119' := Int32.not_le.mp h119
                        refine x_bipush (v := 6) F rfl dX4_reasonOf_189 ?_
                        exact x_iret F hE dX4_reasonOf_191 (Nat.le_of_ble_eq_true rfl) (Nat.le_of_ble_eq_true rfl) (⟨by unfold m_rea; rw [if_neg (fun q => q.elim h1 (fun q => h111 q.2)), if_neg (fun q => q.elim (fun q => q h112) (fun q => q h113)), if_neg (fun q => q.1 h114), if_neg (fun q => q.1 h115), if_neg (fun q => q.elim h116 (fun q => by rw [if_neg h117] at q; exact h118' q)), if_pos h119'], rfl⟩)
                    · have h118' := Int32.not_le.mp h118
                      refine x_iconst (v := 5) F rfl dX4_reasonOf_173 ?_
                      exact x_iret F hE dX4_reasonOf_174 (Nat.le_of_ble_eq_true rfl) (Nat.le_of_ble_eq_true rfl) (⟨by unfold m_rea; rw [if_neg (fun q => q.elim h1 (fun q => h111 q.2)), if_neg (fun q => q.elim (fun q => q h112) (fun q => q h113)), if_neg (fun q => q.1 h114), if_neg (fun q => q.1 h115), if_pos (Or.inr (by rw [if_neg h117]; exact h118'))], rfl⟩)
                  · replace h117 := bI_ne.mp h117
                    refine x_iconst (v := 3) F rfl dX4_reasonOf_162 ?_
                    refine x_goto F dX4_reasonOf_163 (tgt := 167) (by decide) ?_
                    refine x_callSp (rest := [.int (mY m 2)]) F (c_X4_windOf l G A 3) k_X4_143 ⟨(Nat.le_of_ble_eq_true rfl), (Nat.le_of_ble_eq_true rfl), rfl, rfl⟩ (Nat.le_of_ble_eq_true rfl) (Nat.le_of_ble_eq_true rfl) dX4_reasonOf_167 rfl rfl (Nat.le_of_ble_eq_true rfl) trivial ?_
                    refine x_icmp_le F dX4_reasonOf_170 (tgt := 175) (by decide) (fun h125 => ?_) (fun h125 => ?_)
                    · have h125' := Int32.not_lt.mpr h125
                      refine x_aload_n F dX4_reasonOf_175 2 rfl rfl ?_
                      refine z_get (m := m) (j := 3) (v := .int (mY m 3)) F hR mw_802 rfl (by decide) rfl dX4_reasonOf_176 ?_
                      refine x_aload_n F dX4_reasonOf_179 2 rfl rfl ?_
                      refine z_get (m := m) (j := 1) (v := .int (mY m 1)) F hR mw_800 rfl (by decide) rfl dX4_reasonOf_180 ?_
                      refine x_isub F dX4_reasonOf_183 ?_
                      refine x_bipush (v := 10) F rfl dX4_reasonOf_184 ?_
                      refine x_icmp_ge F dX4_reasonOf_186 (tgt := 192) (by decide) (fun h126 => ?_) (fun h126 => ?_)
                      · have h126' := Int32.not_lt.mpr h126
                        refine x_aload_n F dX4_reasonOf_192 2 rfl rfl ?_
                        refine z_get (m := m) (j := 24) (v := .ref (ma m 24)) F hR mw_823 rfl (by decide) rfl dX4_reasonOf_193 ?_
                        refine x_iload_n F dX4_reasonOf_196 3 rfl rfl ?_
                        refine z_ildN (m := m) (j := 24) (i := i) F hR (by decide) rfl rfl (Nat.lt_of_lt_of_le hi hW.2.2.1.2) (by decide) dX4_reasonOf_197 ?_
                        refine x_if_ne F dX4_reasonOf_198 (tgt := 211) (by decide) (fun h127 => ?_) (fun h127 => ?_)
                        · refine x_aload_n F dX4_reasonOf_211 2 rfl rfl ?_
                          refine x_callVp (rest := []) F hR.2.2.1 rfl (c_X4_takenTugs l G A m ) k_X4_98 ⟨(Nat.le_of_ble_eq_true rfl), (Nat.le_of_ble_eq_true rfl), rfl, rfl⟩ (Nat.le_of_ble_eq_true rfl) (Nat.le_of_ble_eq_true rfl) dX4_reasonOf_212 rfl rfl (Nat.le_of_ble_eq_true rfl) hR ?_
                          refine x_aload_n F dX4_reasonOf_215 2 rfl rfl ?_
                          refine z_get (m := m) (j := 7) (v := .int (mY m 7)) F hR mw_806 rfl (by decide) rfl dX4_reasonOf_216 ?_
                          refine x_icmp_lt F dX4_reasonOf_219 (tgt := 225) (by decide) (fun h128 => ?_) (fun h128 => ?_)
                          · have h128' := Int32.not_le.mpr h128
                            refine x_aload_n F dX4_reasonOf_225 2 rfl rfl ?_
                            refine x_callVp (rest := []) F hR.2.2.1 rfl (c_X4_isBusyNow l G A m ) k_X4_146 ⟨(Nat.le_of_ble_eq_true rfl), (Nat.le_of_ble_eq_true rfl), rfl, rfl⟩ (Nat.le_of_ble_eq_true rfl) (Nat.le_of_ble_eq_true rfl) dX4_reasonOf_226 rfl rfl (Nat.le_of_ble_eq_true rfl) hR ?_
                            refine x_if_eq F dX4_reasonOf_229 (tgt := 237) (by decide) (fun h129 => ?_) (fun h129 => ?_)
                            · replace h129 := bI_0.mp h129
                              refine x_iconst (v := 0) F rfl dX4_reasonOf_237 ?_
                              exact x_iret F hE dX4_reasonOf_238 (Nat.le_of_ble_eq_true rfl) (Nat.le_of_ble_eq_true rfl) (⟨by unfold m_rea; rw [if_neg (fun q => q.elim h1 (fun q => h111 q.2)), if_neg (fun q => q.elim (fun q => q h112) (fun q => q h113)), if_neg (fun q => q.1 h114), if_neg (fun q => q.1 h115), if_neg (fun q => q.elim h116 (fun q => by rw [if_pos h117] at q; exact h125' q)), if_neg h126', if_neg (fun q => q.elim (fun q => h127 q.1) (fun q => h128' q.2)), if_neg h129], rfl⟩)
                            · replace h129 := bI_ne.mp h129
                              refine x_bipush (v := 8) F rfl dX4_reasonOf_232 ?_
                              refine x_goto F dX4_reasonOf_234 (tgt := 238) (by decide) ?_
                              exact x_iret F hE dX4_reasonOf_238 (Nat.le_of_ble_eq_true rfl) (Nat.le_of_ble_eq_true rfl) (⟨by unfold m_rea; rw [if_neg (fun q => q.elim h1 (fun q => h111 q.2)), if_neg (fun q => q.elim (fun q => q h112) (fun q => q h113)), if_neg (fun q => q.1 h114), if_neg (fun q => q.1 h115), if_neg (fun q => q.elim h116 (fun q => by rw [if_pos h117] at q; exact h125' q)), if_neg h126', if_neg (fun q => q.elim (fun q => h127 q.1) (fun q => h128' q.2)), if_pos h129], rfl⟩)
                          · have h128' := Int32.not_lt.mp h128
                            refine x_bipush (v := 7) F rfl dX4_reasonOf_222 ?_
                            exact x_iret F hE dX4_reasonOf_224 (Nat.le_of_ble_eq_true rfl) (Nat.le_of_ble_eq_true rfl) (⟨by unfold m_rea; rw [if_neg (fun q => q.elim h1 (fun q => h111 q.2)), if_neg (fun q => q.elim (fun q => q h112) (fun q => q h113)), if_neg (fun q => q.1 h114), if_neg (fun q => q.1 h115), if_neg (fun q => q.elim h116 (fun q => by rw [if_pos h117] at q; exact h125' q)), if_neg h126', if_pos (Or.inr ⟨h127, h128'⟩)], rfl⟩)
                        · refine x_aload_n F dX4_reasonOf_201 2 rfl rfl ?_
                          refine z_get (m := m) (j := 5) (v := .int (mY m 5)) F hR mw_804 rfl (by decide) rfl dX4_reasonOf_202 ?_
                          refine x_if_ne F dX4_reasonOf_205 (tgt := 225) (by decide) (fun h130 => ?_) (fun h130 => ?_)
                          · refine x_aload_n F dX4_reasonOf_225 2 rfl rfl ?_
                            refine x_callVp (rest := []) F hR.2.2.1 rfl (c_X4_isBusyNow l G A m ) k_X4_146 ⟨(Nat.le_of_ble_eq_true rfl), (Nat.le_of_ble_eq_true rfl), rfl, rfl⟩ (Nat.le_of_ble_eq_true rfl) (Nat.le_of_ble_eq_true rfl) dX4_reasonOf_226 rfl rfl (Nat.le_of_ble_eq_true rfl) hR ?_
                            refine x_if_eq F dX4_reasonOf_229 (tgt := 237) (by decide) (fun h131 => ?_) (fun h131 => ?_)
                            · replace h131 := bI_0.mp h131
                              refine x_iconst (v := 0) F rfl dX4_reasonOf_237 ?_
                              exact x_iret F hE dX4_reasonOf_238 (Nat.le_of_ble_eq_true rfl) (Nat.le_of_ble_eq_true rfl) (⟨by unfold m_rea; rw [if_neg (fun q => q.elim h1 (fun q => h111 q.2)), if_neg (fun q => q.elim (fun q => q h112) (fun q => q h113)), if_neg (fun q => q.1 h114), if_neg (fun q => q.1 h115), if_neg (fun q => q.elim h116 (fun q => by rw [if_pos h117] at q; exact h125' q)), if_neg h126', if_neg (fun q => q.elim (fun q => h130 q.2) (fun q => q.1 h127)), if_neg h131], rfl⟩)
                            · replace h131 := bI_ne.mp h131
                              refine x_bipush (v := 8) F rfl dX4_reasonOf_232 ?_
                              refine x_goto F dX4_reasonOf_234 (tgt := 238) (by decide) ?_
                              exact x_iret F hE dX4_reasonOf_238 (Nat.le_of_ble_eq_true rfl) (Nat.le_of_ble_eq_true rfl) (⟨by unfold m_rea; rw [if_neg (fun q => q.elim h1 (fun q => h111 q.2)), if_neg (fun q => q.elim (fun q => q h112) (fun q => q h113)), if_neg (fun q => q.1 h114), if_neg (fun q => q.1 h115), if_neg (fun q => q.elim h116 (fun q => by rw [if_pos h117] at q; exact h125' q)), if_neg h126', if_neg (fun q => q.elim (fun q => h130 q.2) (fun q => q.1 h127)), if_pos h131], rfl⟩)
                          · refine x_goto F dX4_reasonOf_208 (tgt := 222) (by decide) ?_
                            refine x_bipush (v := 7) F rfl dX4_reasonOf_222 ?_
                            exact x_iret F hE dX4_reasonOf_224 (Nat.le_of_ble_eq_true rfl) (Nat.le_of_ble_eq_true rfl) (⟨by unfold m_rea; rw [if_neg (fun q => q.elim h1 (fun q => h111 q.2)), if_neg (fun q => q.elim (fun q => q h112) (fun q => q h113)), if_neg (fun q => q.1 h114), if_neg (fun q => q.1 h115), if_neg (fun q => q.elim h116 (fun q => by rw [if_pos h117] at q; exact h125' q)), if_neg h126', if_pos (Or.inl ⟨h127, h130⟩)], rfl⟩)
                      · have h126' := Int32.not_le.mp h126
                        refine x_bipush (v := 6) F rfl dX4_reasonOf_189 ?_
                        exact x_iret F hE dX4_reasonOf_191 (Nat.le_of_ble_eq_true rfl) (Nat.le_of_ble_eq_true rfl) (⟨by unfold m_rea; rw [if_neg (fun q => q.elim h1 (fun q => h111 q.2)), if_neg (fun q => q.elim (fun q => q h112) (fun q => q h113)), if_neg (fun q => q.1 h114), if_neg (fun q => q.1 h115), if_neg (fun q => q.elim h116 (fun q => by rw [if_pos h117] at q; exact h125' q)), if_pos h126'], rfl⟩)
                    · have h125' := Int32.not_le.mp h125
                      refine x_iconst (v := 5) F rfl dX4_reasonOf_173 ?_
                      exact x_iret F hE dX4_reasonOf_174 (Nat.le_of_ble_eq_true rfl) (Nat.le_of_ble_eq_true rfl) (⟨by unfold m_rea; rw [if_neg (fun q => q.elim h1 (fun q => h111 q.2)), if_neg (fun q => q.elim (fun q => q h112) (fun q => q h113)), if_neg (fun q => q.1 h114), if_neg (fun q => q.1 h115), if_pos (Or.inr (by rw [if_pos h117]; exact h125'))], rfl⟩)
              · replace h115 := bI_0.mp h115
                refine x_iload_n F dX4_reasonOf_112 0 rfl rfl ?_
                refine x_if_eq F dX4_reasonOf_113 (tgt := 130) (by decide) (fun h132 => ?_) (fun h132 => ?_)
                · refine x_iconst (v := 4) F rfl dX4_reasonOf_130 ?_
                  exact x_iret F hE dX4_reasonOf_131 (Nat.le_of_ble_eq_true rfl) (Nat.le_of_ble_eq_true rfl) (⟨by unfold m_rea; rw [if_neg (fun q => q.elim h1 (fun q => h111 q.2)), if_neg (fun q => q.elim (fun q => q h112) (fun q => q h113)), if_neg (fun q => q.1 h114), if_pos ⟨h115, Or.inl h132⟩], rfl⟩)
                · refine x_iload_n F dX4_reasonOf_116 0 rfl rfl ?_
                  refine x_iconst (v := 1) F rfl dX4_reasonOf_117 ?_
                  refine x_icmp_ne F dX4_reasonOf_118 (tgt := 132) (by decide) (fun h133 => ?_) (fun h133 => ?_)
                  · refine x_aload_n F dX4_reasonOf_132 2 rfl rfl ?_
                    refine z_get (m := m) (j := 2) (v := .int (mY m 2)) F hR mw_801 rfl (by decide) rfl dX4_reasonOf_133 ?_
                    refine x_aload_n F dX4_reasonOf_136 2 rfl rfl ?_
                    refine z_get (m := m) (j := 15) (v := .ref (ma m 15)) F hR mw_814 rfl (by decide) rfl dX4_reasonOf_137 ?_
                    refine x_aload_n F dX4_reasonOf_140 2 rfl rfl ?_
                    refine z_get (m := m) (j := 23) (v := .ref (ma m 23)) F hR mw_822 rfl (by decide) rfl dX4_reasonOf_141 ?_
                    refine x_iload_n F dX4_reasonOf_144 3 rfl rfl ?_
                    refine z_ildN (m := m) (j := 23) (i := i) F hR (by decide) rfl rfl (Nat.lt_of_lt_of_le hi hW.2.2.1.2) (by decide) dX4_reasonOf_145 ?_
                    refine wx_i (y := nI (tN (mZ m 23 i))) ((hW.2.2.2 _ hi).2.2.1) ?_
                    refine z_ildN (m := m) (j := 15) (i := (tN (mZ m 23 i))) F hR (by decide) rfl rfl (Nat.lt_of_lt_of_le (hW.2.2.2 _ hi).2.2.2 hW.2.1.2) (by decide) dX4_reasonOf_146 ?_
                    refine x_icmp_gt F dX4_reasonOf_147 (tgt := 173) (by decide) (fun h134 => ?_) (fun h134 => ?_)
                    · have h134' := Int32.not_le.mpr h134
                      refine x_iconst (v := 5) F rfl dX4_reasonOf_173 ?_
                      exact x_iret F hE dX4_reasonOf_174 (Nat.le_of_ble_eq_true rfl) (Nat.le_of_ble_eq_true rfl) (⟨by unfold m_rea; rw [if_neg (fun q => q.elim h1 (fun q => h111 q.2)), if_neg (fun q => q.elim (fun q => q h112) (fun q => q h113)), if_neg (fun q => q.1 h114), if_neg (fun q => q.2.elim h132 (fun q => h133 q.1)), if_pos (Or.inl h134)], rfl⟩)
                    · have h134' := Int32.not_lt.mp h134
                      refine x_aload_n F dX4_reasonOf_150 2 rfl rfl ?_
                      refine z_get (m := m) (j := 2) (v := .int (mY m 2)) F hR mw_801 rfl (by decide) rfl dX4_reasonOf_151 ?_
                      refine x_aload_n F dX4_reasonOf_154 2 rfl rfl ?_
                      refine x_iload_n F dX4_reasonOf_155 3 rfl rfl ?_
                      refine x_callVp (rest := [.int (mY m 2)]) F hR.2.2.1 rfl (c_X4_withTeacher l G A m i hi hW) k_X4_109 ⟨(Nat.le_of_ble_eq_true rfl), (Nat.le_of_ble_eq_true rfl), rfl, rfl⟩ (Nat.le_of_ble_eq_true rfl) (Nat.le_of_ble_eq_true rfl) dX4_reasonOf_156 rfl rfl (Nat.le_of_ble_eq_true rfl) hR ?_
                      refine x_if_eq F dX4_reasonOf_159 (tgt := 166) (by decide) (fun h135 => ?_) (fun h135 => ?_)
                      · replace h135 := bI_0.mp h135
                        refine x_iload_n F dX4_reasonOf_166 0 rfl rfl ?_
                        refine x_callSp (rest := [.int (mY m 2)]) F (c_X4_windOf l G A (mZ m 10 (tN (mZ m 21 i)))) k_X4_143 ⟨(Nat.le_of_ble_eq_true rfl), (Nat.le_of_ble_eq_true rfl), rfl, rfl⟩ (Nat.le_of_ble_eq_true rfl) (Nat.le_of_ble_eq_true rfl) dX4_reasonOf_167 rfl rfl (Nat.le_of_ble_eq_true rfl) trivial ?_
                        refine x_icmp_le F dX4_reasonOf_170 (tgt := 175) (by decide) (fun h136 => ?_) (fun h136 => ?_)
                        · have h136' := Int32.not_lt.mpr h136
                          refine x_aload_n F dX4_reasonOf_175 2 rfl rfl ?_
                          refine z_get (m := m) (j := 3) (v := .int (mY m 3)) F hR mw_802 rfl (by decide) rfl dX4_reasonOf_176 ?_
                          refine x_aload_n F dX4_reasonOf_179 2 rfl rfl ?_
                          refine z_get (m := m) (j := 1) (v := .int (mY m 1)) F hR mw_800 rfl (by decide) rfl dX4_reasonOf_180 ?_
                          refine x_isub F dX4_reasonOf_183 ?_
                          refine x_bipush (v := 10) F rfl dX4_reasonOf_184 ?_
                          refine x_icmp_ge F dX4_reasonOf_186 (tgt := 192) (by decide) (fun h137 => ?_) (fun h137 => ?_)
                          · have h137' := Int32.not_lt.mpr h137
                            refine x_aload_n F dX4_reasonOf_192 2 rfl rfl ?_
                            refine z_get (m := m) (j := 24) (v := .ref (ma m 24)) F hR mw_823 rfl (by decide) rfl dX4_reasonOf_193 ?_
                            refine x_iload_n F dX4_reasonOf_196 3 rfl rfl ?_
                            refine z_ildN (m := m) (j := 24) (i := i) F hR (by decide) rfl rfl (Nat.lt_of_lt_of_le hi hW.2.2.1.2) (by decide) dX4_reasonOf_197 ?_
                            refine x_if_ne F dX4_reasonOf_198 (tgt := 211) (by decide) (fun h138 => ?_) (fun h138 => ?_)
                            · refine x_aload_n F dX4_reasonOf_211 2 rfl rfl ?_
                              refine x_callVp (rest := []) F hR.2.2.1 rfl (c_X4_takenTugs l G A m ) k_X4_98 ⟨(Nat.le_of_ble_eq_true rfl), (Nat.le_of_ble_eq_true rfl), rfl, rfl⟩ (Nat.le_of_ble_eq_true rfl) (Nat.le_of_ble_eq_true rfl) dX4_reasonOf_212 rfl rfl (Nat.le_of_ble_eq_true rfl) hR ?_
                              refine x_aload_n F dX4_reasonOf_215 2 rfl rfl ?_
                              refine z_get (m := m) (j := 7) (v := .int (mY m 7)) F hR mw_806 rfl (by decide) rfl dX4_reasonOf_216 ?_
                              refine x_icmp_lt F dX4_reasonOf_219 (tgt := 225) (by decide) (fun h139 => ?_) (fun h139 => ?_)
                              · have h139' := Int32.not_le.mpr h139
                                refine x_aload_n F dX4_reasonOf_225 2 rfl rfl ?_
                                refine x_callVp (rest := []) F hR.2.2.1 rfl (c_X4_isBusyNow l G A m ) k_X4_146 ⟨(Nat.le_of_ble_eq_true rfl), (Nat.le_of_ble_eq_true rfl), rfl, rfl⟩ (Nat.le_of_ble_eq_true rfl) (Nat.le_of_ble_eq_true rfl) dX4_reasonOf_226 rfl rfl (Nat.le_of_ble_eq_true rfl) hR ?_
                                refine x_if_eq F dX4_reasonOf_229 (tgt := 237) (by decide) (fun h140 => ?_) (fun h140 => ?_)
                                · replace h140 := bI_0.mp h140
                                  refine x_iconst (v := 0) F rfl dX4_reasonOf_237 ?_
                                  exact x_iret F hE dX4_reasonOf_238 (Nat.le_of_ble_eq_true rfl) (Nat.le_of_ble_eq_true rfl) (⟨by unfold m_rea; rw [if_neg (fun q => q.elim h1 (fun q => h111 q.2)), if_neg (fun q => q.elim (fun q => q h112) (fun q => q h113)), if_neg (fun q => q.1 h114), if_neg (fun q => q.2.elim h132 (fun q => h133 q.1)), if_neg (fun q => q.elim h134 (fun q => by rw [if_neg h135] at q; exact h136' q)), if_neg h137', if_neg (fun q => q.elim (fun q => h138 q.1) (fun q => h139' q.2)), if_neg h140], rfl⟩)
                                · replace h140 := bI_ne.mp h140
                                  refine x_bipush (v := 8) F rfl dX4_reasonOf_232 ?_
                                  refine x_goto F dX4_reasonOf_234 (tgt := 238) (by decide) ?_
                                  exact x_iret F hE dX4_reasonOf_238 (Nat.le_of_ble_eq_true rfl) (Nat.le_of_ble_eq_true rfl) (⟨by unfold m_rea; rw [if_neg (fun q => q.elim h1 (fun q => h111 q.2)), if_neg (fun q => q.elim (fun q => q h112) (fun q => q h113)), if_neg (fun q => q.1 h114), if_neg (fun q => q.2.elim h132 (fun q => h133 q.1)), if_neg (fun q => q.elim h134 (fun q => by rw [if_neg h135] at q; exact h136' q)), if_neg h137', if_neg (fun q => q.elim (fun q => h138 q.1) (fun q => h139' q.2)), if_pos h140], rfl⟩)
                              · have h139' := Int32.not_lt.mp h139
                                refine x_bipush (v := 7) F rfl dX4_reasonOf_222 ?_
                                exact x_iret F hE dX4_reasonOf_224 (Nat.le_of_ble_eq_true rfl) (Nat.le_of_ble_eq_true rfl) (⟨by unfold m_rea; rw [if_neg (fun q => q.elim h1 (fun q => h111 q.2)), if_neg (fun q => q.elim (fun q => q h112) (fun q => q h113)), if_neg (fun q => q.1 h114), if_neg (fun q => q.2.elim h132 (fun q => h133 q.1)), if_neg (fun q => q.elim h134 (fun q => by rw [if_neg h135] at q; exact h136' q)), if_neg h137', if_pos (Or.inr ⟨h138, h139'⟩)], rfl⟩)
                            · refine x_aload_n F dX4_reasonOf_201 2 rfl rfl ?_
                              refine z_get (m := m) (j := 5) (v := .int (mY m 5)) F hR mw_804 rfl (by decide) rfl dX4_reasonOf_202 ?_
                              refine x_if_ne F dX4_reasonOf_205 (tgt := 225) (by decide) (fun h141 => ?_) (fun h141 => ?_)
                              · refine x_aload_n F dX4_reasonOf_225 2 rfl rfl ?_
                                refine x_callVp (rest := []) F hR.2.2.1 rfl (c_X4_isBusyNow l G A m ) k_X4_146 ⟨(Nat.le_of_ble_eq_true rfl), (Nat.le_of_ble_eq_true rfl), rfl, rfl⟩ (Nat.le_of_ble_eq_true rfl) (Nat.le_of_ble_eq_true rfl) dX4_reasonOf_226 rfl rfl (Nat.le_of_ble_eq_true rfl) hR ?_
                                refine x_if_eq F dX4_reasonOf_229 (tgt := 237) (by decide) (fun h142 => ?_) (fun h142 => ?_)
                                · replace h142 := bI_0.mp h142
                                  refine x_iconst (v := 0) F rfl dX4_reasonOf_237 ?_
                                  exact x_iret F hE dX4_reasonOf_238 (Nat.le_of_ble_eq_true rfl) (Nat.le_of_ble_eq_true rfl) (⟨by unfold m_rea; rw [if_neg (fun q => q.elim h1 (fun q => h111 q.2)), if_neg (fun q => q.elim (fun q => q h112) (fun q => q h113)), if_neg (fun q => q.1 h114), if_neg (fun q => q.2.elim h132 (fun q => h133 q.1)), if_neg (fun q => q.elim h134 (fun q => by rw [if_neg h135] at q; exact h136' q)), if_neg h137', if_neg (fun q => q.elim (fun q => h141 q.2) (fun q => q.1 h138)), if_neg h142], rfl⟩)
                                · replace h142 := bI_ne.mp h142
                                  refine x_bipush (v := 8) F rfl dX4_reasonOf_232 ?_
                                  refine x_goto F dX4_reasonOf_234 (tgt := 238) (by decide) ?_
                                  exact x_iret F hE dX4_reasonOf_238 (Nat.le_of_ble_eq_true rfl) (Nat.le_of_ble_eq_true rfl) (⟨by unfold m_rea; rw [if_neg (fun q => q.elim h1 (fun q => h111 q.2)), if_neg (fun q => q.elim (fun q => q h112) (fun q => q h113)), if_neg (fun q => q.1 h114), if_neg (fun q => q.2.elim h132 (fun q => h133 q.1)), if_neg (fun q => q.elim h134 (fun q => by rw [if_neg h135] at q; exact h136' q)), if_neg h137', if_neg (fun q => q.elim (fun q => h141 q.2) (fun q => q.1 h138)), if_pos h142], rfl⟩)
                              · refine x_goto F dX4_reasonOf_208 (tgt := 222) (by decide) ?_
                                refine x_bipush (v := 7) F rfl dX4_reasonOf_222 ?_
                                exact x_iret F hE dX4_reasonOf_224 (Nat.le_of_ble_eq_true rfl) (Nat.le_of_ble_eq_true rfl) (⟨by unfold m_rea; rw [if_neg (fun q => q.elim h1 (fun q => h111 q.2)), if_neg (fun q => q.elim (fun q => q h112) (fun q => q h113)), if_neg (fun q => q.1 h114), if_neg (fun q => q.2.elim h132 (fun q => h133 q.1)), if_neg (fun q => q.elim h134 (fun q => by rw [if_neg h135] at q; exact h136' q)), if_neg h137', if_pos (Or.inl ⟨h138, h141⟩)], rfl⟩)
                          · have h137' := Int32.not_le.mp h137
                            refine x_bipush (v := 6) F rfl dX4_reasonOf_189 ?_
                            exact x_iret F hE dX4_reasonOf_191 (Nat.le_of_ble_eq_true rfl) (Nat.le_of_ble_eq_true rfl) (⟨by unfold m_rea; rw [if_neg (fun q => q.elim h1 (fun q => h111 q.2)), if_neg (fun q => q.elim (fun q => q h112) (fun q => q h113)), if_neg (fun q => q.1 h114), if_neg (fun q => q.2.elim h132 (fun q => h133 q.1)), if_neg (fun q => q.elim h134 (fun q => by rw [if_neg h135] at q; exact h136' q)), if_pos h137'], rfl⟩)
                        · have h136' := Int32.not_le.mp h136
                          refine x_iconst (v := 5) F rfl dX4_reasonOf_173 ?_
                          exact x_iret F hE dX4_reasonOf_174 (Nat.le_of_ble_eq_true rfl) (Nat.le_of_ble_eq_true rfl) (⟨by unfold m_rea; rw [if_neg (fun q => q.elim h1 (fun q => h111 q.2)), if_neg (fun q => q.elim (fun q => q h112) (fun q => q h113)), if_neg (fun q => q.1 h114), if_neg (fun q => q.2.elim h132 (fun q => h133 q.1)), if_pos (Or.inr (by rw [if_neg h135]; exact h136'))], rfl⟩)
                      · replace h135 := bI_ne.mp h135
                        refine x_iconst (v := 3) F rfl dX4_reasonOf_162 ?_
                        refine x_goto F dX4_reasonOf_163 (tgt := 167) (by decide) ?_
                        refine x_callSp (rest := [.int (mY m 2)]) F (c_X4_windOf l G A 3) k_X4_143 ⟨(Nat.le_of_ble_eq_true rfl), (Nat.le_of_ble_eq_true rfl), rfl, rfl⟩ (Nat.le_of_ble_eq_true rfl) (Nat.le_of_ble_eq_true rfl) dX4_reasonOf_167 rfl rfl (Nat.le_of_ble_eq_true rfl) trivial ?_
                        refine x_icmp_le F dX4_reasonOf_170 (tgt := 175) (by decide) (fun h143 => ?_) (fun h143 => ?_)
                        · have h143' := Int32.not_lt.mpr h143
                          refine x_aload_n F dX4_reasonOf_175 2 rfl rfl ?_
                          refine z_get (m := m) (j := 3) (v := .int (mY m 3)) F hR mw_802 rfl (by decide) rfl dX4_reasonOf_176 ?_
                          refine x_aload_n F dX4_reasonOf_179 2 rfl rfl ?_
                          refine z_get (m := m) (j := 1) (v := .int (mY m 1)) F hR mw_800 rfl (by decide) rfl dX4_reasonOf_180 ?_
                          refine x_isub F dX4_reasonOf_183 ?_
                          refine x_bipush (v := 10) F rfl dX4_reasonOf_184 ?_
                          refine x_icmp_ge F dX4_reasonOf_186 (tgt := 192) (by decide) (fun h144 => ?_) (fun h144 => ?_)
                          · have h144' := Int32.not_lt.mpr h144
                            refine x_aload_n F dX4_reasonOf_192 2 rfl rfl ?_
                            refine z_get (m := m) (j := 24) (v := .ref (ma m 24)) F hR mw_823 rfl (by decide) rfl dX4_reasonOf_193 ?_
                            refine x_iload_n F dX4_reasonOf_196 3 rfl rfl ?_
                            refine z_ildN (m := m) (j := 24) (i := i) F hR (by decide) rfl rfl (Nat.lt_of_lt_of_le hi hW.2.2.1.2) (by decide) dX4_reasonOf_197 ?_
                            refine x_if_ne F dX4_reasonOf_198 (tgt := 211) (by decide) (fun h145 => ?_) (fun h145 => ?_)
                            · refine x_aload_n F dX4_reasonOf_211 2 rfl rfl ?_
                              refine x_callVp (rest := []) F hR.2.2.1 rfl (c_X4_takenTugs l G A m ) k_X4_98 ⟨(Nat.le_of_ble_eq_true rfl), (Nat.le_of_ble_eq_true rfl), rfl, rfl⟩ (Nat.le_of_ble_eq_true rfl) (Nat.le_of_ble_eq_true rfl) dX4_reasonOf_212 rfl rfl (Nat.le_of_ble_eq_true rfl) hR ?_
                              refine x_aload_n F dX4_reasonOf_215 2 rfl rfl ?_
                              refine z_get (m := m) (j := 7) (v := .int (mY m 7)) F hR mw_806 rfl (by decide) rfl dX4_reasonOf_216 ?_
                              refine x_icmp_lt F dX4_reasonOf_219 (tgt := 225) (by decide) (fun h146 => ?_) (fun h146 => ?_)
                              · have h146' := Int32.not_le.mpr h146
                                refine x_aload_n F dX4_reasonOf_225 2 rfl rfl ?_
                                refine x_callVp (rest := []) F hR.2.2.1 rfl (c_X4_isBusyNow l G A m ) k_X4_146 ⟨(Nat.le_of_ble_eq_true rfl), (Nat.le_of_ble_eq_true rfl), rfl, rfl⟩ (Nat.le_of_ble_eq_true rfl) (Nat.le_of_ble_eq_true rfl) dX4_reasonOf_226 rfl rfl (Nat.le_of_ble_eq_true rfl) hR ?_
                                refine x_if_eq F dX4_reasonOf_229 (tgt := 237) (by decide) (fun h147 => ?_) (fun h147 => ?_)
                                · replace h147 := bI_0.mp h147
                                  refine x_iconst (v := 0) F rfl dX4_reasonOf_237 ?_
                                  exact x_iret F hE dX4_reasonOf_238 (Nat.le_of_ble_eq_true rfl) (Nat.le_of_ble_eq_true rfl) (⟨by unfold m_rea; rw [if_neg (fun q => q.elim h1 (fun q => h111 q.2)), if_neg (fun q => q.elim (fun q => q h112) (fun q => q h113)), if_neg (fun q => q.1 h114), if_neg (fun q => q.2.elim h132 (fun q => h133 q.1)), if_neg (fun q => q.elim h134 (fun q => by rw [if_pos h135] at q; exact h143' q)), if_neg h144', if_neg (fun q => q.elim (fun q => h145 q.1) (fun q => h146' q.2)), if_neg h147], rfl⟩)
                                · replace h147 := bI_ne.mp h147
                                  refine x_bipush (v := 8) F rfl dX4_reasonOf_232 ?_
                                  refine x_goto F dX4_reasonOf_234 (tgt := 238) (by decide) ?_
                                  exact x_iret F hE dX4_reasonOf_238 (Nat.le_of_ble_eq_true rfl) (Nat.le_of_ble_eq_true rfl) (⟨by unfold m_rea; rw [if_neg (fun q => q.elim h1 (fun q => h111 q.2)), if_neg (fun q => q.elim (fun q => q h112) (fun q => q h113)), if_neg (fun q => q.1 h114), if_neg (fun q => q.2.elim h132 (fun q => h133 q.1)), if_neg (fun q => q.elim h134 (fun q => by rw [if_pos h135] at q; exact h143' q)), if_neg h144', if_neg (fun q => q.elim (fun q => h145 q.1) (fun q => h146' q.2)), if_pos h147], rfl⟩)
                              · have h146' := Int32.not_lt.mp h146
                                refine x_bipush (v := 7) F rfl dX4_reasonOf_222 ?_
                                exact x_iret F hE dX4_reasonOf_224 (Nat.le_of_ble_eq_true rfl) (Nat.le_of_ble_eq_true rfl) (⟨by unfold m_rea; rw [if_neg (fun q => q.elim h1 (fun q => h111 q.2)), if_neg (fun q => q.elim (fun q => q h112) (fun q => q h113)), if_neg (fun q => q.1 h114), if_neg (fun q => q.2.elim h132 (fun q => h133 q.1)), if_neg (fun q => q.elim h134 (fun q => by rw [if_pos h135] at q; exact h143' q)), if_neg h144', if_pos (Or.inr ⟨h145, h146'⟩)], rfl⟩)
                            · refine x_aload_n F dX4_reasonOf_201 2 rfl rfl ?_
                              refine z_get (m := m) (j := 5) (v := .int (mY m 5)) F hR mw_804 rfl (by decide) rfl dX4_reasonOf_202 ?_
                              refine x_if_ne F dX4_reasonOf_205 (tgt := 225) (by decide) (fun h148 => ?_) (fun h148 => ?_)
                              · refine x_aload_n F dX4_reasonOf_225 2 rfl rfl ?_
                                refine x_callVp (rest := []) F hR.2.2.1 rfl (c_X4_isBusyNow l G A m ) k_X4_146 ⟨(Nat.le_of_ble_eq_true rfl), (Nat.le_of_ble_eq_true rfl), rfl, rfl⟩ (Nat.le_of_ble_eq_true rfl) (Nat.le_of_ble_eq_true rfl) dX4_reasonOf_226 rfl rfl (Nat.le_of_ble_eq_true rfl) hR ?_
                                refine x_if_eq F dX4_reasonOf_229 (tgt := 237) (by decide) (fun h149 => ?_) (fun h149 => ?_)
                                · replace h149 := bI_0.mp h149
                                  refine x_iconst (v := 0) F rfl dX4_reasonOf_237 ?_
                                  exact x_iret F hE dX4_reasonOf_238 (Nat.le_of_ble_eq_true rfl) (Nat.le_of_ble_eq_true rfl) (⟨by unfold m_rea; rw [if_neg (fun q => q.elim h1 (fun q => h111 q.2)), if_neg (fun q => q.elim (fun q => q h112) (fun q => q h113)), if_neg (fun q => q.1 h114), if_neg (fun q => q.2.elim h132 (fun q => h133 q.1)), if_neg (fun q => q.elim h134 (fun q => by rw [if_pos h135] at q; exact h143' q)), if_neg h144', if_neg (fun q => q.elim (fun q => h148 q.2) (fun q => q.1 h145)), if_neg h149], rfl⟩)
                                · replace h149 := bI_ne.mp h149
                                  refine x_bipush (v := 8) F rfl dX4_reasonOf_232 ?_
                                  refine x_goto F dX4_reasonOf_234 (tgt := 238) (by decide) ?_
                                  exact x_iret F hE dX4_reasonOf_238 (Nat.le_of_ble_eq_true rfl) (Nat.le_of_ble_eq_true rfl) (⟨by unfold m_rea; rw [if_neg (fun q => q.elim h1 (fun q => h111 q.2)), if_neg (fun q => q.elim (fun q => q h112) (fun q => q h113)), if_neg (fun q => q.1 h114), if_neg (fun q => q.2.elim h132 (fun q => h133 q.1)), if_neg (fun q => q.elim h134 (fun q => by rw [if_pos h135] at q; exact h143' q)), if_neg h144', if_neg (fun q => q.elim (fun q => h148 q.2) (fun q => q.1 h145)), if_pos h149], rfl⟩)
                              · refine x_goto F dX4_reasonOf_208 (tgt := 222) (by decide) ?_
                                refine x_bipush (v := 7) F rfl dX4_reasonOf_222 ?_
                                exact x_iret F hE dX4_reasonOf_224 (Nat.le_of_ble_eq_true rfl) (Nat.le_of_ble_eq_true rfl) (⟨by unfold m_rea; rw [if_neg (fun q => q.elim h1 (fun q => h111 q.2)), if_neg (fun q => q.elim (fun q => q h112) (fun q => q h113)), if_neg (fun q => q.1 h114), if_neg (fun q => q.2.elim h132 (fun q => h133 q.1)), if_neg (fun q => q.elim h134 (fun q => by rw [if_pos h135] at q; exact h143' q)), if_neg h144', if_pos (Or.inl ⟨h145, h148⟩)], rfl⟩)
                          · have h144' := Int32.not_le.mp h144
                            refine x_bipush (v := 6) F rfl dX4_reasonOf_189 ?_
                            exact x_iret F hE dX4_reasonOf_191 (Nat.le_of_ble_eq_true rfl) (Nat.le_of_ble_eq_true rfl) (⟨by unfold m_rea; rw [if_neg (fun q => q.elim h1 (fun q => h111 q.2)), if_neg (fun q => q.elim (fun q => q h112) (fun q => q h113)), if_neg (fun q => q.1 h114), if_neg (fun q => q.2.elim h132 (fun q => h133 q.1)), if_neg (fun q => q.elim h134 (fun q => by rw [if_pos h135] at q; exact h143' q)), if_pos h144'], rfl⟩)
                        · have h143' := Int32.not_le.mp h143
                          refine x_iconst (v := 5) F rfl dX4_reasonOf_173 ?_
                          exact x_iret F hE dX4_reasonOf_174 (Nat.le_of_ble_eq_true rfl) (Nat.le_of_ble_eq_true rfl) (⟨by unfold m_rea; rw [if_neg (fun q => q.elim h1 (fun q => h111 q.2)), if_neg (fun q => q.elim (fun q => q h112) (fun q => q h113)), if_neg (fun q => q.1 h114), if_neg (fun q => q.2.elim h132 (fun q => h133 q.1)), if_pos (Or.inr (by rw [if_pos h135]; exact h143'))], rfl⟩)
                  · refine x_aload_n F dX4_reasonOf_121 2 rfl rfl ?_
                    refine x_iload_n F dX4_reasonOf_122 1 rfl rfl ?_
                    refine x_iconst (v := 4) F rfl dX4_reasonOf_123 ?_
                    refine x_callVp (rest := []) F hR.2.2.1 rfl (c_X4_landed l G A m (mZ m 21 i) 4 hW) k_X4_115 ⟨(Nat.le_of_ble_eq_true rfl), (Nat.le_of_ble_eq_true rfl), rfl, rfl⟩ (Nat.le_of_ble_eq_true rfl) (Nat.le_of_ble_eq_true rfl) dX4_reasonOf_124 rfl rfl (Nat.le_of_ble_eq_true rfl) hR ?_
                    refine x_if_ne F dX4_reasonOf_127 (tgt := 132) (by decide) (fun h150 => ?_) (fun h150 => ?_)
                    · refine x_aload_n F dX4_reasonOf_132 2 rfl rfl ?_
                      refine z_get (m := m) (j := 2) (v := .int (mY m 2)) F hR mw_801 rfl (by decide) rfl dX4_reasonOf_133 ?_
                      refine x_aload_n F dX4_reasonOf_136 2 rfl rfl ?_
                      refine z_get (m := m) (j := 15) (v := .ref (ma m 15)) F hR mw_814 rfl (by decide) rfl dX4_reasonOf_137 ?_
                      refine x_aload_n F dX4_reasonOf_140 2 rfl rfl ?_
                      refine z_get (m := m) (j := 23) (v := .ref (ma m 23)) F hR mw_822 rfl (by decide) rfl dX4_reasonOf_141 ?_
                      refine x_iload_n F dX4_reasonOf_144 3 rfl rfl ?_
                      refine z_ildN (m := m) (j := 23) (i := i) F hR (by decide) rfl rfl (Nat.lt_of_lt_of_le hi hW.2.2.1.2) (by decide) dX4_reasonOf_145 ?_
                      refine wx_i (y := nI (tN (mZ m 23 i))) ((hW.2.2.2 _ hi).2.2.1) ?_
                      refine z_ildN (m := m) (j := 15) (i := (tN (mZ m 23 i))) F hR (by decide) rfl rfl (Nat.lt_of_lt_of_le (hW.2.2.2 _ hi).2.2.2 hW.2.1.2) (by decide) dX4_reasonOf_146 ?_
                      refine x_icmp_gt F dX4_reasonOf_147 (tgt := 173) (by decide) (fun h151 => ?_) (fun h151 => ?_)
                      · have h151' := Int32.not_le.mpr h151
                        refine x_iconst (v := 5) F rfl dX4_reasonOf_173 ?_
                        exact x_iret F hE dX4_reasonOf_174 (Nat.le_of_ble_eq_true rfl) (Nat.le_of_ble_eq_true rfl) (⟨by unfold m_rea; rw [if_neg (fun q => q.elim h1 (fun q => h111 q.2)), if_neg (fun q => q.elim (fun q => q h112) (fun q => q h113)), if_neg (fun q => q.1 h114), if_neg (fun q => q.2.elim h132 (fun q => h150 q.2)), if_pos (Or.inl h151)], rfl⟩)
                      · have h151' := Int32.not_lt.mp h151
                        refine x_aload_n F dX4_reasonOf_150 2 rfl rfl ?_
                        refine z_get (m := m) (j := 2) (v := .int (mY m 2)) F hR mw_801 rfl (by decide) rfl dX4_reasonOf_151 ?_
                        refine x_aload_n F dX4_reasonOf_154 2 rfl rfl ?_
                        refine x_iload_n F dX4_reasonOf_155 3 rfl rfl ?_
                        refine x_callVp (rest := [.int (mY m 2)]) F hR.2.2.1 rfl (c_X4_withTeacher l G A m i hi hW) k_X4_109 ⟨(Nat.le_of_ble_eq_true rfl), (Nat.le_of_ble_eq_true rfl), rfl, rfl⟩ (Nat.le_of_ble_eq_true rfl) (Nat.le_of_ble_eq_true rfl) dX4_reasonOf_156 rfl rfl (Nat.le_of_ble_eq_true rfl) hR ?_
                        refine x_if_eq F dX4_reasonOf_159 (tgt := 166) (by decide) (fun h152 => ?_) (fun h152 => ?_)
                        · replace h152 := bI_0.mp h152
                          refine x_iload_n F dX4_reasonOf_166 0 rfl rfl ?_
                          refine x_callSp (rest := [.int (mY m 2)]) F (c_X4_windOf l G A (mZ m 10 (tN (mZ m 21 i)))) k_X4_143 ⟨(Nat.le_of_ble_eq_true rfl), (Nat.le_of_ble_eq_true rfl), rfl, rfl⟩ (Nat.le_of_ble_eq_true rfl) (Nat.le_of_ble_eq_true rfl) dX4_reasonOf_167 rfl rfl (Nat.le_of_ble_eq_true rfl) trivial ?_
                          refine x_icmp_le F dX4_reasonOf_170 (tgt := 175) (by decide) (fun h153 => ?_) (fun h153 => ?_)
                          · have h153' := Int32.not_lt.mpr h153
                            refine x_aload_n F dX4_reasonOf_175 2 rfl rfl ?_
                            refine z_get (m := m) (j := 3) (v := .int (mY m 3)) F hR mw_802 rfl (by decide) rfl dX4_reasonOf_176 ?_
                            refine x_aload_n F dX4_reasonOf_179 2 rfl rfl ?_
                            refine z_get (m := m) (j := 1) (v := .int (mY m 1)) F hR mw_800 rfl (by decide) rfl dX4_reasonOf_180 ?_
                            refine x_isub F dX4_reasonOf_183 ?_
                            refine x_bipush (v := 10) F rfl dX4_reasonOf_184 ?_
                            refine x_icmp_ge F dX4_reasonOf_186 (tgt := 192) (by decide) (fun h154 => ?_) (fun h154 => ?_)
                            · have h154' := Int32.not_lt.mpr h154
                              refine x_aload_n F dX4_reasonOf_192 2 rfl rfl ?_
                              refine z_get (m := m) (j := 24) (v := .ref (ma m 24)) F hR mw_823 rfl (by decide) rfl dX4_reasonOf_193 ?_
                              refine x_iload_n F dX4_reasonOf_196 3 rfl rfl ?_
                              refine z_ildN (m := m) (j := 24) (i := i) F hR (by decide) rfl rfl (Nat.lt_of_lt_of_le hi hW.2.2.1.2) (by decide) dX4_reasonOf_197 ?_
                              refine x_if_ne F dX4_reasonOf_198 (tgt := 211) (by decide) (fun h155 => ?_) (fun h155 => ?_)
                              · refine x_aload_n F dX4_reasonOf_211 2 rfl rfl ?_
                                refine x_callVp (rest := []) F hR.2.2.1 rfl (c_X4_takenTugs l G A m ) k_X4_98 ⟨(Nat.le_of_ble_eq_true rfl), (Nat.le_of_ble_eq_true rfl), rfl, rfl⟩ (Nat.le_of_ble_eq_true rfl) (Nat.le_of_ble_eq_true rfl) dX4_reasonOf_212 rfl rfl (Nat.le_of_ble_eq_true rfl) hR ?_
                                refine x_aload_n F dX4_reasonOf_215 2 rfl rfl ?_
                                refine z_get (m := m) (j := 7) (v := .int (mY m 7)) F hR mw_806 rfl (by decide) rfl dX4_reasonOf_216 ?_
                                refine x_icmp_lt F dX4_reasonOf_219 (tgt := 225) (by decide) (fun h156 => ?_) (fun h156 => ?_)
                                · have h156' := Int32.not_le.mpr h156
                                  refine x_aload_n F dX4_reasonOf_225 2 rfl rfl ?_
                                  refine x_callVp (rest := []) F hR.2.2.1 rfl (c_X4_isBusyNow l G A m ) k_X4_146 ⟨(Nat.le_of_ble_eq_true rfl), (Nat.le_of_ble_eq_true rfl), rfl, rfl⟩ (Nat.le_of_ble_eq_true rfl) (Nat.le_of_ble_eq_true rfl) dX4_reasonOf_226 rfl rfl (Nat.le_of_ble_eq_true rfl) hR ?_
                                  refine x_if_eq F dX4_reasonOf_229 (tgt := 237) (by decide) (fun h157 => ?_) (fun h157 => ?_)
                                  · replace h157 := bI_0.mp h157
                                    refine x_iconst (v := 0) F rfl dX4_reasonOf_237 ?_
                                    exact x_iret F hE dX4_reasonOf_238 (Nat.le_of_ble_eq_true rfl) (Nat.le_of_ble_eq_true rfl) (⟨by unfold m_rea; rw [if_neg (fun q => q.elim h1 (fun q => h111 q.2)), if_neg (fun q => q.elim (fun q => q h112) (fun q => q h113)), if_neg (fun q => q.1 h114), if_neg (fun q => q.2.elim h132 (fun q => h150 q.2)), if_neg (fun q => q.elim h151 (fun q => by rw [if_neg h152] at q; exact h153' q)), if_neg h154', if_neg (fun q => q.elim (fun q => h155 q.1) (fun q => h156' q.2)), if_neg h157], rfl⟩)
                                  · replace h157 := bI_ne.mp h157
                                    refine x_bipush (v := 8) F rfl dX4_reasonOf_232 ?_
                                    refine x_goto F dX4_reasonOf_234 (tgt := 238) (by decide) ?_
                                    exact x_iret F hE dX4_reasonOf_238 (Nat.le_of_ble_eq_true rfl) (Nat.le_of_ble_eq_true rfl) (⟨by unfold m_rea; rw [if_neg (fun q => q.elim h1 (fun q => h111 q.2)), if_neg (fun q => q.elim (fun q => q h112) (fun q => q h113)), if_neg (fun q => q.1 h114), if_neg (fun q => q.2.elim h132 (fun q => h150 q.2)), if_neg (fun q => q.elim h151 (fun q => by rw [if_neg h152] at q; exact h153' q)), if_neg h154', if_neg (fun q => q.elim (fun q => h155 q.1) (fun q => h156' q.2)), if_pos h157], rfl⟩)
                                · have h156' := Int32.not_lt.mp h156
                                  refine x_bipush (v := 7) F rfl dX4_reasonOf_222 ?_
                                  exact x_iret F hE dX4_reasonOf_224 (Nat.le_of_ble_eq_true rfl) (Nat.le_of_ble_eq_true rfl) (⟨by unfold m_rea; rw [if_neg (fun q => q.elim h1 (fun q => h111 q.2)), if_neg (fun q => q.elim (fun q => q h112) (fun q => q h113)), if_neg (fun q => q.1 h114), if_neg (fun q => q.2.elim h132 (fun q => h150 q.2)), if_neg (fun q => q.elim h151 (fun q => by rw [if_neg h152] at q; exact h153' q)), if_neg h154', if_pos (Or.inr ⟨h155, h156'⟩)], rfl⟩)
                              · refine x_aload_n F dX4_reasonOf_201 2 rfl rfl ?_
                                refine z_get (m := m) (j := 5) (v := .int (mY m 5)) F hR mw_804 rfl (by decide) rfl dX4_reasonOf_202 ?_
                                refine x_if_ne F dX4_reasonOf_205 (tgt := 225) (by decide) (fun h158 => ?_) (fun h158 => ?_)
                                · refine x_aload_n F dX4_reasonOf_225 2 rfl rfl ?_
                                  refine x_callVp (rest := []) F hR.2.2.1 rfl (c_X4_isBusyNow l G A m ) k_X4_146 ⟨(Nat.le_of_ble_eq_true rfl), (Nat.le_of_ble_eq_true rfl), rfl, rfl⟩ (Nat.le_of_ble_eq_true rfl) (Nat.le_of_ble_eq_true rfl) dX4_reasonOf_226 rfl rfl (Nat.le_of_ble_eq_true rfl) hR ?_
                                  refine x_if_eq F dX4_reasonOf_229 (tgt := 237) (by decide) (fun h159 => ?_) (fun h159 => ?_)
                                  · replace h159 := bI_0.mp h159
                                    refine x_iconst (v := 0) F rfl dX4_reasonOf_237 ?_
                                    exact x_iret F hE dX4_reasonOf_238 (Nat.le_of_ble_eq_true rfl) (Nat.le_of_ble_eq_true rfl) (⟨by unfold m_rea; rw [if_neg (fun q => q.elim h1 (fun q => h111 q.2)), if_neg (fun q => q.elim (fun q => q h112) (fun q => q h113)), if_neg (fun q => q.1 h114), if_neg (fun q => q.2.elim h132 (fun q => h150 q.2)), if_neg (fun q => q.elim h151 (fun q => by rw [if_neg h152] at q; exact h153' q)), if_neg h154', if_neg (fun q => q.elim (fun q => h158 q.2) (fun q => q.1 h155)), if_neg h159], rfl⟩)
                                  · replace h159 := bI_ne.mp h159
                                    refine x_bipush (v := 8) F rfl dX4_reasonOf_232 ?_
                                    refine x_goto F dX4_reasonOf_234 (tgt := 238) (by decide) ?_
                                    exact x_iret F hE dX4_reasonOf_238 (Nat.le_of_ble_eq_true rfl) (Nat.le_of_ble_eq_true rfl) (⟨by unfold m_rea; rw [if_neg (fun q => q.elim h1 (fun q => h111 q.2)), if_neg (fun q => q.elim (fun q => q h112) (fun q => q h113)), if_neg (fun q => q.1 h114), if_neg (fun q => q.2.elim h132 (fun q => h150 q.2)), if_neg (fun q => q.elim h151 (fun q => by rw [if_neg h152] at q; exact h153' q)), if_neg h154', if_neg (fun q => q.elim (fun q => h158 q.2) (fun q => q.1 h155)), if_pos h159], rfl⟩)
                                · refine x_goto F dX4_reasonOf_208 (tgt := 222) (by decide) ?_
                                  refine x_bipush (v := 7) F rfl dX4_reasonOf_222 ?_
                                  exact x_iret F hE dX4_reasonOf_224 (Nat.le_of_ble_eq_true rfl) (Nat.le_of_ble_eq_true rfl) (⟨by unfold m_rea; rw [if_neg (fun q => q.elim h1 (fun q => h111 q.2)), if_neg (fun q => q.elim (fun q => q h112) (fun q => q h113)), if_neg (fun q => q.1 h114), if_neg (fun q => q.2.elim h132 (fun q => h150 q.2)), if_neg (fun q => q.elim h151 (fun q => by rw [if_neg h152] at q; exact h153' q)), if_neg h154', if_pos (Or.inl ⟨h155, h158⟩)], rfl⟩)
                            · have h154' := Int32.not_le.mp h154
                              refine x_bipush (v := 6) F rfl dX4_reasonOf_189 ?_
                              exact x_iret F hE dX4_reasonOf_191 (Nat.le_of_ble_eq_true rfl) (Nat.le_of_ble_eq_true rfl) (⟨by unfold m_rea; rw [if_neg (fun q => q.elim h1 (fun q => h111 q.2)), if_neg (fun q => q.elim (fun q => q h112) (fun q => q h113)), if_neg (fun q => q.1 h114), if_neg (fun q => q.2.elim h132 (fun q => h150 q.2)), if_neg (fun q => q.elim h151 (fun q => by rw [if_neg h152] at q; exact h153' q)), if_pos h154'], rfl⟩)
                          · have h153' := Int32.not_le.mp h153
                            refine x_iconst (v := 5) F rfl dX4_reasonOf_173 ?_
                            exact x_iret F hE dX4_reasonOf_174 (Nat.le_of_ble_eq_true rfl) (Nat.le_of_ble_eq_true rfl) (⟨by unfold m_rea; rw [if_neg (fun q => q.elim h1 (fun q => h111 q.2)), if_neg (fun q => q.elim (fun q => q h112) (fun q => q h113)), if_neg (fun q => q.1 h114), if_neg (fun q => q.2.elim h132 (fun q => h150 q.2)), if_pos (Or.inr (by rw [if_neg h152]; exact h153'))], rfl⟩)
                        · replace h152 := bI_ne.mp h152
                          refine x_iconst (v := 3) F rfl dX4_reasonOf_162 ?_
                          refine x_goto F dX4_reasonOf_163 (tgt := 167) (by decide) ?_
                          refine x_callSp (rest := [.int (mY m 2)]) F (c_X4_windOf l G A 3) k_X4_143 ⟨(Nat.le_of_ble_eq_true rfl), (Nat.le_of_ble_eq_true rfl), rfl, rfl⟩ (Nat.le_of_ble_eq_true rfl) (Nat.le_of_ble_eq_true rfl) dX4_reasonOf_167 rfl rfl (Nat.le_of_ble_eq_true rfl) trivial ?_
                          refine x_icmp_le F dX4_reasonOf_170 (tgt := 175) (by decide) (fun h160 => ?_) (fun h160 => ?_)
                          · have h160' := Int32.not_lt.mpr h160
                            refine x_aload_n F dX4_reasonOf_175 2 rfl rfl ?_
                            refine z_get (m := m) (j := 3) (v := .int (mY m 3)) F hR mw_802 rfl (by decide) rfl dX4_reasonOf_176 ?_
                            refine x_aload_n F dX4_reasonOf_179 2 rfl rfl ?_
                            refine z_get (m := m) (j := 1) (v := .int (mY m 1)) F hR mw_800 rfl (by decide) rfl dX4_reasonOf_180 ?_
                            refine x_isub F dX4_reasonOf_183 ?_
                            refine x_bipush (v := 10) F rfl dX4_reasonOf_184 ?_
                            refine x_icmp_ge F dX4_reasonOf_186 (tgt := 192) (by decide) (fun h161 => ?_) (fun h161 => ?_)
                            · have h161' := Int32.not_lt.mpr h161
                              refine x_aload_n F dX4_reasonOf_192 2 rfl rfl ?_
                              refine z_get (m := m) (j := 24) (v := .ref (ma m 24)) F hR mw_823 rfl (by decide) rfl dX4_reasonOf_193 ?_
                              refine x_iload_n F dX4_reasonOf_196 3 rfl rfl ?_
                              refine z_ildN (m := m) (j := 24) (i := i) F hR (by decide) rfl rfl (Nat.lt_of_lt_of_le hi hW.2.2.1.2) (by decide) dX4_reasonOf_197 ?_
                              refine x_if_ne F dX4_reasonOf_198 (tgt := 211) (by decide) (fun h162 => ?_) (fun h162 => ?_)
                              · refine x_aload_n F dX4_reasonOf_211 2 rfl rfl ?_
                                refine x_callVp (rest := []) F hR.2.2.1 rfl (c_X4_takenTugs l G A m ) k_X4_98 ⟨(Nat.le_of_ble_eq_true rfl), (Nat.le_of_ble_eq_true rfl), rfl, rfl⟩ (Nat.le_of_ble_eq_true rfl) (Nat.le_of_ble_eq_true rfl) dX4_reasonOf_212 rfl rfl (Nat.le_of_ble_eq_true rfl) hR ?_
                                refine x_aload_n F dX4_reasonOf_215 2 rfl rfl ?_
                                refine z_get (m := m) (j := 7) (v := .int (mY m 7)) F hR mw_806 rfl (by decide) rfl dX4_reasonOf_216 ?_
                                refine x_icmp_lt F dX4_reasonOf_219 (tgt := 225) (by decide) (fun h163 => ?_) (fun h163 => ?_)
                                · have h163' := Int32.not_le.mpr h163
                                  refine x_aload_n F dX4_reasonOf_225 2 rfl rfl ?_
                                  refine x_callVp (rest := []) F hR.2.2.1 rfl (c_X4_isBusyNow l G A m ) k_X4_146 ⟨(Nat.le_of_ble_eq_true rfl), (Nat.le_of_ble_eq_true rfl), rfl, rfl⟩ (Nat.le_of_ble_eq_true rfl) (Nat.le_of_ble_eq_true rfl) dX4_reasonOf_226 rfl rfl (Nat.le_of_ble_eq_true rfl) hR ?_
                                  refine x_if_eq F dX4_reasonOf_229 (tgt := 237) (by decide) (fun h164 => ?_) (fun h164 => ?_)
                                  · replace h164 := bI_0.mp h164
                                    refine x_iconst (v := 0) F rfl dX4_reasonOf_237 ?_
                                    exact x_iret F hE dX4_reasonOf_238 (Nat.le_of_ble_eq_true rfl) (Nat.le_of_ble_eq_true rfl) (⟨by unfold m_rea; rw [if_neg (fun q => q.elim h1 (fun q => h111 q.2)), if_neg (fun q => q.elim (fun q => q h112) (fun q => q h113)), if_neg (fun q => q.1 h114), if_neg (fun q => q.2.elim h132 (fun q => h150 q.2)), if_neg (fun q => q.elim h151 (fun q => by rw [if_pos h152] at q; exact h160' q)), if_neg h161', if_neg (fun q => q.elim (fun q => h162 q.1) (fun q => h163' q.2)), if_neg h164], rfl⟩)
                                  · replace h164 := bI_ne.mp h164
                                    refine x_bipush (v := 8) F rfl dX4_reasonOf_232 ?_
                                    refine x_goto F dX4_reasonOf_234 (tgt := 238) (by decide) ?_
                                    exact x_iret F hE dX4_reasonOf_238 (Nat.le_of_ble_eq_true rfl) (Nat.le_of_ble_eq_true rfl) (⟨by unfold m_rea; rw [if_neg (fun q => q.elim h1 (fun q => h111 q.2)), if_neg (fun q => q.elim (fun q => q h112) (fun q => q h113)), if_neg (fun q => q.1 h114), if_neg (fun q => q.2.elim h132 (fun q => h150 q.2)), if_neg (fun q => q.elim h151 (fun q => by rw [if_pos h152] at q; exact h160' q)), if_neg h161', if_neg (fun q => q.elim (fun q => h162 q.1) (fun q => h163' q.2)), if_pos h164], rfl⟩)
                                · have h163' := Int32.not_lt.mp h163
                                  refine x_bipush (v := 7) F rfl dX4_reasonOf_222 ?_
                                  exact x_iret F hE dX4_reasonOf_224 (Nat.le_of_ble_eq_true rfl) (Nat.le_of_ble_eq_true rfl) (⟨by unfold m_rea; rw [if_neg (fun q => q.elim h1 (fun q => h111 q.2)), if_neg (fun q => q.elim (fun q => q h112) (fun q => q h113)), if_neg (fun q => q.1 h114), if_neg (fun q => q.2.elim h132 (fun q => h150 q.2)), if_neg (fun q => q.elim h151 (fun q => by rw [if_pos h152] at q; exact h160' q)), if_neg h161', if_pos (Or.inr ⟨h162, h163'⟩)], rfl⟩)
                              · refine x_aload_n F dX4_reasonOf_201 2 rfl rfl ?_
                                refine z_get (m := m) (j := 5) (v := .int (mY m 5)) F hR mw_804 rfl (by decide) rfl dX4_reasonOf_202 ?_
                                refine x_if_ne F dX4_reasonOf_205 (tgt := 225) (by decide) (fun h165 => ?_) (fun h165 => ?_)
                                · refine x_aload_n F dX4_reasonOf_225 2 rfl rfl ?_
                                  refine x_callVp (rest := []) F hR.2.2.1 rfl (c_X4_isBusyNow l G A m ) k_X4_146 ⟨(Nat.le_of_ble_eq_true rfl), (Nat.le_of_ble_eq_true rfl), rfl, rfl⟩ (Nat.le_of_ble_eq_true rfl) (Nat.le_of_ble_eq_true rfl) dX4_reasonOf_226 rfl rfl (Nat.le_of_ble_eq_true rfl) hR ?_
                                  refine x_if_eq F dX4_reasonOf_229 (tgt := 237) (by decide) (fun h166 => ?_) (fun h166 => ?_)
                                  · replace h166 := bI_0.mp h166
                                    refine x_iconst (v := 0) F rfl dX4_reasonOf_237 ?_
                                    exact x_iret F hE dX4_reasonOf_238 (Nat.le_of_ble_eq_true rfl) (Nat.le_of_ble_eq_true rfl) (⟨by unfold m_rea; rw [if_neg (fun q => q.elim h1 (fun q => h111 q.2)), if_neg (fun q => q.elim (fun q => q h112) (fun q => q h113)), if_neg (fun q => q.1 h114), if_neg (fun q => q.2.elim h132 (fun q => h150 q.2)), if_neg (fun q => q.elim h151 (fun q => by rw [if_pos h152] at q; exact h160' q)), if_neg h161', if_neg (fun q => q.elim (fun q => h165 q.2) (fun q => q.1 h162)), if_neg h166], rfl⟩)
                                  · replace h166 := bI_ne.mp h166
                                    refine x_bipush (v := 8) F rfl dX4_reasonOf_232 ?_
                                    refine x_goto F dX4_reasonOf_234 (tgt := 238) (by decide) ?_
                                    exact x_iret F hE dX4_reasonOf_238 (Nat.le_of_ble_eq_true rfl) (Nat.le_of_ble_eq_true rfl) (⟨by unfold m_rea; rw [if_neg (fun q => q.elim h1 (fun q => h111 q.2)), if_neg (fun q => q.elim (fun q => q h112) (fun q => q h113)), if_neg (fun q => q.1 h114), if_neg (fun q => q.2.elim h132 (fun q => h150 q.2)), if_neg (fun q => q.elim h151 (fun q => by rw [if_pos h152] at q; exact h160' q)), if_neg h161', if_neg (fun q => q.elim (fun q => h165 q.2) (fun q => q.1 h162)), if_pos h166], rfl⟩)
                                · refine x_goto F dX4_reasonOf_208 (tgt := 222) (by decide) ?_
                                  refine x_bipush (v := 7) F rfl dX4_reasonOf_222 ?_
                                  exact x_iret F hE dX4_reasonOf_224 (Nat.le_of_ble_eq_true rfl) (Nat.le_of_ble_eq_true rfl) (⟨by unfold m_rea; rw [if_neg (fun q => q.elim h1 (fun q => h111 q.2)), if_neg (fun q => q.elim (fun q => q h112) (fun q => q h113)), if_neg (fun q => q.1 h114), if_neg (fun q => q.2.elim h132 (fun q => h150 q.2)), if_neg (fun q => q.elim h151 (fun q => by rw [if_pos h152] at q; exact h160' q)), if_neg h161', if_pos (Or.inl ⟨h162, h165⟩)], rfl⟩)
                            · have h161' := Int32.not_le.mp h161
                              refine x_bipush (v := 6) F rfl dX4_reasonOf_189 ?_
                              exact x_iret F hE dX4_reasonOf_191 (Nat.le_of_ble_eq_true rfl) (Nat.le_of_ble_eq_true rfl) (⟨by unfold m_rea; rw [if_neg (fun q => q.elim h1 (fun q => h111 q.2)), if_neg (fun q => q.elim (fun q => q h112) (fun q => q h113)), if_neg (fun q => q.1 h114), if_neg (fun q => q.2.elim h132 (fun q => h150 q.2)), if_neg (fun q => q.elim h151 (fun q => by rw [if_pos h152] at q; exact h160' q)), if_pos h161'], rfl⟩)
                          · have h160' := Int32.not_le.mp h160
                            refine x_iconst (v := 5) F rfl dX4_reasonOf_173 ?_
                            exact x_iret F hE dX4_reasonOf_174 (Nat.le_of_ble_eq_true rfl) (Nat.le_of_ble_eq_true rfl) (⟨by unfold m_rea; rw [if_neg (fun q => q.elim h1 (fun q => h111 q.2)), if_neg (fun q => q.elim (fun q => q h112) (fun q => q h113)), if_neg (fun q => q.1 h114), if_neg (fun q => q.2.elim h132 (fun q => h150 q.2)), if_pos (Or.inr (by rw [if_pos h152]; exact h160'))], rfl⟩)
                    · refine x_iconst (v := 4) F rfl dX4_reasonOf_130 ?_
                      exact x_iret F hE dX4_reasonOf_131 (Nat.le_of_ble_eq_true rfl) (Nat.le_of_ble_eq_true rfl) (⟨by unfold m_rea; rw [if_neg (fun q => q.elim h1 (fun q => h111 q.2)), if_neg (fun q => q.elim (fun q => q h112) (fun q => q h113)), if_neg (fun q => q.1 h114), if_pos ⟨h115, Or.inr ⟨h133, h150⟩⟩], rfl⟩)
            · refine x_aload_n F dX4_reasonOf_87 2 rfl rfl ?_
              refine z_get (m := m) (j := 13) (v := .ref (ma m 13)) F hR mw_812 rfl (by decide) rfl dX4_reasonOf_88 ?_
              refine x_aload_n F dX4_reasonOf_91 2 rfl rfl ?_
              refine z_get (m := m) (j := 23) (v := .ref (ma m 23)) F hR mw_822 rfl (by decide) rfl dX4_reasonOf_92 ?_
              refine x_iload_n F dX4_reasonOf_95 3 rfl rfl ?_
              refine z_ildN (m := m) (j := 23) (i := i) F hR (by decide) rfl rfl (Nat.lt_of_lt_of_le hi hW.2.2.1.2) (by decide) dX4_reasonOf_96 ?_
              refine wx_i (y := nI (tN (mZ m 23 i))) ((hW.2.2.2 _ hi).2.2.1) ?_
              refine z_ildN (m := m) (j := 13) (i := (tN (mZ m 23 i))) F hR (by decide) rfl rfl (Nat.lt_of_lt_of_le (hW.2.2.2 _ hi).2.2.2 hW.2.1.2) (by decide) dX4_reasonOf_97 ?_
              refine x_iconst (v := 1) F rfl dX4_reasonOf_98 ?_
              refine x_icmp_ne F dX4_reasonOf_99 (tgt := 104) (by decide) (fun h167 => ?_) (fun h167 => ?_)
              · refine x_aload_n F dX4_reasonOf_104 2 rfl rfl ?_
                refine x_iload_n F dX4_reasonOf_105 3 rfl rfl ?_
                refine x_callVp (rest := []) F hR.2.2.1 rfl (c_X4_withTeacher l G A m i hi hW) k_X4_109 ⟨(Nat.le_of_ble_eq_true rfl), (Nat.le_of_ble_eq_true rfl), rfl, rfl⟩ (Nat.le_of_ble_eq_true rfl) (Nat.le_of_ble_eq_true rfl) dX4_reasonOf_106 rfl rfl (Nat.le_of_ble_eq_true rfl) hR ?_
                refine x_if_ne F dX4_reasonOf_109 (tgt := 132) (by decide) (fun h168 => ?_) (fun h168 => ?_)
                · replace h168 := bI_ne.mp h168
                  refine x_aload_n F dX4_reasonOf_132 2 rfl rfl ?_
                  refine z_get (m := m) (j := 2) (v := .int (mY m 2)) F hR mw_801 rfl (by decide) rfl dX4_reasonOf_133 ?_
                  refine x_aload_n F dX4_reasonOf_136 2 rfl rfl ?_
                  refine z_get (m := m) (j := 15) (v := .ref (ma m 15)) F hR mw_814 rfl (by decide) rfl dX4_reasonOf_137 ?_
                  refine x_aload_n F dX4_reasonOf_140 2 rfl rfl ?_
                  refine z_get (m := m) (j := 23) (v := .ref (ma m 23)) F hR mw_822 rfl (by decide) rfl dX4_reasonOf_141 ?_
                  refine x_iload_n F dX4_reasonOf_144 3 rfl rfl ?_
                  refine z_ildN (m := m) (j := 23) (i := i) F hR (by decide) rfl rfl (Nat.lt_of_lt_of_le hi hW.2.2.1.2) (by decide) dX4_reasonOf_145 ?_
                  refine wx_i (y := nI (tN (mZ m 23 i))) ((hW.2.2.2 _ hi).2.2.1) ?_
                  refine z_ildN (m := m) (j := 15) (i := (tN (mZ m 23 i))) F hR (by decide) rfl rfl (Nat.lt_of_lt_of_le (hW.2.2.2 _ hi).2.2.2 hW.2.1.2) (by decide) dX4_reasonOf_146 ?_
                  refine x_icmp_gt F dX4_reasonOf_147 (tgt := 173) (by decide) (fun h169 => ?_) (fun h169 => ?_)
                  · have h169' := Int32.not_le.mpr h169
                    refine x_iconst (v := 5) F rfl dX4_reasonOf_173 ?_
                    exact x_iret F hE dX4_reasonOf_174 (Nat.le_of_ble_eq_true rfl) (Nat.le_of_ble_eq_true rfl) (⟨by unfold m_rea; rw [if_neg (fun q => q.elim h1 (fun q => h111 q.2)), if_neg (fun q => q.elim (fun q => q h112) (fun q => q h113)), if_neg (fun q => h167 q.2), if_neg (fun q => q.1 h168), if_pos (Or.inl h169)], rfl⟩)
                  · have h169' := Int32.not_lt.mp h169
                    refine x_aload_n F dX4_reasonOf_150 2 rfl rfl ?_
                    refine z_get (m := m) (j := 2) (v := .int (mY m 2)) F hR mw_801 rfl (by decide) rfl dX4_reasonOf_151 ?_
                    refine x_aload_n F dX4_reasonOf_154 2 rfl rfl ?_
                    refine x_iload_n F dX4_reasonOf_155 3 rfl rfl ?_
                    refine x_callVp (rest := [.int (mY m 2)]) F hR.2.2.1 rfl (c_X4_withTeacher l G A m i hi hW) k_X4_109 ⟨(Nat.le_of_ble_eq_true rfl), (Nat.le_of_ble_eq_true rfl), rfl, rfl⟩ (Nat.le_of_ble_eq_true rfl) (Nat.le_of_ble_eq_true rfl) dX4_reasonOf_156 rfl rfl (Nat.le_of_ble_eq_true rfl) hR ?_
                    refine x_if_eq F dX4_reasonOf_159 (tgt := 166) (by decide) (fun h170 => ?_) (fun h170 => ?_)
                    · replace h170 := bI_0.mp h170
                      refine x_iload_n F dX4_reasonOf_166 0 rfl rfl ?_
                      refine x_callSp (rest := [.int (mY m 2)]) F (c_X4_windOf l G A (mZ m 10 (tN (mZ m 21 i)))) k_X4_143 ⟨(Nat.le_of_ble_eq_true rfl), (Nat.le_of_ble_eq_true rfl), rfl, rfl⟩ (Nat.le_of_ble_eq_true rfl) (Nat.le_of_ble_eq_true rfl) dX4_reasonOf_167 rfl rfl (Nat.le_of_ble_eq_true rfl) trivial ?_
                      refine x_icmp_le F dX4_reasonOf_170 (tgt := 175) (by decide) (fun h171 => ?_) (fun h171 => ?_)
                      · have h171' := Int32.not_lt.mpr h171
                        refine x_aload_n F dX4_reasonOf_175 2 rfl rfl ?_
                        refine z_get (m := m) (j := 3) (v := .int (mY m 3)) F hR mw_802 rfl (by decide) rfl dX4_reasonOf_176 ?_
                        refine x_aload_n F dX4_reasonOf_179 2 rfl rfl ?_
                        refine z_get (m := m) (j := 1) (v := .int (mY m 1)) F hR mw_800 rfl (by decide) rfl dX4_reasonOf_180 ?_
                        refine x_isub F dX4_reasonOf_183 ?_
                        refine x_bipush (v := 10) F rfl dX4_reasonOf_184 ?_
                        refine x_icmp_ge F dX4_reasonOf_186 (tgt := 192) (by decide) (fun h172 => ?_) (fun h172 => ?_)
                        · have h172' := Int32.not_lt.mpr h172
                          refine x_aload_n F dX4_reasonOf_192 2 rfl rfl ?_
                          refine z_get (m := m) (j := 24) (v := .ref (ma m 24)) F hR mw_823 rfl (by decide) rfl dX4_reasonOf_193 ?_
                          refine x_iload_n F dX4_reasonOf_196 3 rfl rfl ?_
                          refine z_ildN (m := m) (j := 24) (i := i) F hR (by decide) rfl rfl (Nat.lt_of_lt_of_le hi hW.2.2.1.2) (by decide) dX4_reasonOf_197 ?_
                          refine x_if_ne F dX4_reasonOf_198 (tgt := 211) (by decide) (fun h173 => ?_) (fun h173 => ?_)
                          · refine x_aload_n F dX4_reasonOf_211 2 rfl rfl ?_
                            refine x_callVp (rest := []) F hR.2.2.1 rfl (c_X4_takenTugs l G A m ) k_X4_98 ⟨(Nat.le_of_ble_eq_true rfl), (Nat.le_of_ble_eq_true rfl), rfl, rfl⟩ (Nat.le_of_ble_eq_true rfl) (Nat.le_of_ble_eq_true rfl) dX4_reasonOf_212 rfl rfl (Nat.le_of_ble_eq_true rfl) hR ?_
                            refine x_aload_n F dX4_reasonOf_215 2 rfl rfl ?_
                            refine z_get (m := m) (j := 7) (v := .int (mY m 7)) F hR mw_806 rfl (by decide) rfl dX4_reasonOf_216 ?_
                            refine x_icmp_lt F dX4_reasonOf_219 (tgt := 225) (by decide) (fun h174 => ?_) (fun h174 => ?_)
                            · have h174' := Int32.not_le.mpr h174
                              refine x_aload_n F dX4_reasonOf_225 2 rfl rfl ?_
                              refine x_callVp (rest := []) F hR.2.2.1 rfl (c_X4_isBusyNow l G A m ) k_X4_146 ⟨(Nat.le_of_ble_eq_true rfl), (Nat.le_of_ble_eq_true rfl), rfl, rfl⟩ (Nat.le_of_ble_eq_true rfl) (Nat.le_of_ble_eq_true rfl) dX4_reasonOf_226 rfl rfl (Nat.le_of_ble_eq_true rfl) hR ?_
                              refine x_if_eq F dX4_reasonOf_229 (tgt := 237) (by decide) (fun h175 => ?_) (fun h175 => ?_)
                              · replace h175 := bI_0.mp h175
                                refine x_iconst (v := 0) F rfl dX4_reasonOf_237 ?_
                                exact x_iret F hE dX4_reasonOf_238 (Nat.le_of_ble_eq_true rfl) (Nat.le_of_ble_eq_true rfl) (⟨by unfold m_rea; rw [if_neg (fun q => q.elim h1 (fun q => h111 q.2)), if_neg (fun q => q.elim (fun q => q h112) (fun q => q h113)), if_neg (fun q => h167 q.2), if_neg (fun q => q.1 h168), if_neg (fun q => q.elim h169 (fun q => by rw [if_neg h170] at q; exact h171' q)), if_neg h172', if_neg (fun q => q.elim (fun q => h173 q.1) (fun q => h174' q.2)), if_neg h175], rfl⟩)
                              · replace h175 := bI_ne.mp h175
                                refine x_bipush (v := 8) F rfl dX4_reasonOf_232 ?_
                                refine x_goto F dX4_reasonOf_234 (tgt := 238) (by decide) ?_
                                exact x_iret F hE dX4_reasonOf_238 (Nat.le_of_ble_eq_true rfl) (Nat.le_of_ble_eq_true rfl) (⟨by unfold m_rea; rw [if_neg (fun q => q.elim h1 (fun q => h111 q.2)), if_neg (fun q => q.elim (fun q => q h112) (fun q => q h113)), if_neg (fun q => h167 q.2), if_neg (fun q => q.1 h168), if_neg (fun q => q.elim h169 (fun q => by rw [if_neg h170] at q; exact h171' q)), if_neg h172', if_neg (fun q => q.elim (fun q => h173 q.1) (fun q => h174' q.2)), if_pos h175], rfl⟩)
                            · have h174' := Int32.not_lt.mp h174
                              refine x_bipush (v := 7) F rfl dX4_reasonOf_222 ?_
                              exact x_iret F hE dX4_reasonOf_224 (Nat.le_of_ble_eq_true rfl) (Nat.le_of_ble_eq_true rfl) (⟨by unfold m_rea; rw [if_neg (fun q => q.elim h1 (fun q => h111 q.2)), if_neg (fun q => q.elim (fun q => q h112) (fun q => q h113)), if_neg (fun q => h167 q.2), if_neg (fun q => q.1 h168), if_neg (fun q => q.elim h169 (fun q => by rw [if_neg h170] at q; exact h171' q)), if_neg h172', if_pos (Or.inr ⟨h173, h174'⟩)], rfl⟩)
                          · refine x_aload_n F dX4_reasonOf_201 2 rfl rfl ?_
                            refine z_get (m := m) (j := 5) (v := .int (mY m 5)) F hR mw_804 rfl (by decide) rfl dX4_reasonOf_202 ?_
                            refine x_if_ne F dX4_reasonOf_205 (tgt := 225) (by decide) (fun h176 => ?_) (fun h176 => ?_)
                            · refine x_aload_n F dX4_reasonOf_225 2 rfl rfl ?_
                              refine x_callVp (rest := []) F hR.2.2.1 rfl (c_X4_isBusyNow l G A m ) k_X4_146 ⟨(Nat.le_of_ble_eq_true rfl), (Nat.le_of_ble_eq_true rfl), rfl, rfl⟩ (Nat.le_of_ble_eq_true rfl) (Nat.le_of_ble_eq_true rfl) dX4_reasonOf_226 rfl rfl (Nat.le_of_ble_eq_true rfl) hR ?_
                              refine x_if_eq F dX4_reasonOf_229 (tgt := 237) (by decide) (fun h177 => ?_) (fun h177 => ?_)
                              · replace h177 := bI_0.mp h177
                                refine x_iconst (v := 0) F rfl dX4_reasonOf_237 ?_
                                exact x_iret F hE dX4_reasonOf_238 (Nat.le_of_ble_eq_true rfl) (Nat.le_of_ble_eq_true rfl) (⟨by unfold m_rea; rw [if_neg (fun q => q.elim h1 (fun q => h111 q.2)), if_neg (fun q => q.elim (fun q => q h112) (fun q => q h113)), if_neg (fun q => h167 q.2), if_neg (fun q => q.1 h168), if_neg (fun q => q.elim h169 (fun q => by rw [if_neg h170] at q; exact h171' q)), if_neg h172', if_neg (fun q => q.elim (fun q => h176 q.2) (fun q => q.1 h173)), if_neg h177], rfl⟩)
                              · replace h177 := bI_ne.mp h177
                                refine x_bipush (v := 8) F rfl dX4_reasonOf_232 ?_
                                refine x_goto F dX4_reasonOf_234 (tgt := 238) (by decide) ?_
                                exact x_iret F hE dX4_reasonOf_238 (Nat.le_of_ble_eq_true rfl) (Nat.le_of_ble_eq_true rfl) (⟨by unfold m_rea; rw [if_neg (fun q => q.elim h1 (fun q => h111 q.2)), if_neg (fun q => q.elim (fun q => q h112) (fun q => q h113)), if_neg (fun q => h167 q.2), if_neg (fun q => q.1 h168), if_neg (fun q => q.elim h169 (fun q => by rw [if_neg h170] at q; exact h171' q)), if_neg h172', if_neg (fun q => q.elim (fun q => h176 q.2) (fun q => q.1 h173)), if_pos h177], rfl⟩)
                            · refine x_goto F dX4_reasonOf_208 (tgt := 222) (by decide) ?_
                              refine x_bipush (v := 7) F rfl dX4_reasonOf_222 ?_
                              exact x_iret F hE dX4_reasonOf_224 (Nat.le_of_ble_eq_true rfl) (Nat.le_of_ble_eq_true rfl) (⟨by unfold m_rea; rw [if_neg (fun q => q.elim h1 (fun q => h111 q.2)), if_neg (fun q => q.elim (fun q => q h112) (fun q => q h113)), if_neg (fun q => h167 q.2), if_neg (fun q => q.1 h168), if_neg (fun q => q.elim h169 (fun q => by rw [if_neg h170] at q; exact h171' q)), if_neg h172', if_pos (Or.inl ⟨h173, h176⟩)], rfl⟩)
                        · have h172' := Int32.not_le.mp h172
                          refine x_bipush (v := 6) F rfl dX4_reasonOf_189 ?_
                          exact x_iret F hE dX4_reasonOf_191 (Nat.le_of_ble_eq_true rfl) (Nat.le_of_ble_eq_true rfl) (⟨by unfold m_rea; rw [if_neg (fun q => q.elim h1 (fun q => h111 q.2)), if_neg (fun q => q.elim (fun q => q h112) (fun q => q h113)), if_neg (fun q => h167 q.2), if_neg (fun q => q.1 h168), if_neg (fun q => q.elim h169 (fun q => by rw [if_neg h170] at q; exact h171' q)), if_pos h172'], rfl⟩)
                      · have h171' := Int32.not_le.mp h171
                        refine x_iconst (v := 5) F rfl dX4_reasonOf_173 ?_
                        exact x_iret F hE dX4_reasonOf_174 (Nat.le_of_ble_eq_true rfl) (Nat.le_of_ble_eq_true rfl) (⟨by unfold m_rea; rw [if_neg (fun q => q.elim h1 (fun q => h111 q.2)), if_neg (fun q => q.elim (fun q => q h112) (fun q => q h113)), if_neg (fun q => h167 q.2), if_neg (fun q => q.1 h168), if_pos (Or.inr (by rw [if_neg h170]; exact h171'))], rfl⟩)
                    · replace h170 := bI_ne.mp h170
                      refine x_iconst (v := 3) F rfl dX4_reasonOf_162 ?_
                      refine x_goto F dX4_reasonOf_163 (tgt := 167) (by decide) ?_
                      refine x_callSp (rest := [.int (mY m 2)]) F (c_X4_windOf l G A 3) k_X4_143 ⟨(Nat.le_of_ble_eq_true rfl), (Nat.le_of_ble_eq_true rfl), rfl, rfl⟩ (Nat.le_of_ble_eq_true rfl) (Nat.le_of_ble_eq_true rfl) dX4_reasonOf_167 rfl rfl (Nat.le_of_ble_eq_true rfl) trivial ?_
                      refine x_icmp_le F dX4_reasonOf_170 (tgt := 175) (by decide) (fun h178 => ?_) (fun h178 => ?_)
                      · have h178' := Int32.not_lt.mpr h178
                        refine x_aload_n F dX4_reasonOf_175 2 rfl rfl ?_
                        refine z_get (m := m) (j := 3) (v := .int (mY m 3)) F hR mw_802 rfl (by decide) rfl dX4_reasonOf_176 ?_
                        refine x_aload_n F dX4_reasonOf_179 2 rfl rfl ?_
                        refine z_get (m := m) (j := 1) (v := .int (mY m 1)) F hR mw_800 rfl (by decide) rfl dX4_reasonOf_180 ?_
                        refine x_isub F dX4_reasonOf_183 ?_
                        refine x_bipush (v := 10) F rfl dX4_reasonOf_184 ?_
                        refine x_icmp_ge F dX4_reasonOf_186 (tgt := 192) (by decide) (fun h179 => ?_) (fun h179 => ?_)
                        · have h179' := Int32.not_lt.mpr h179
                          refine x_aload_n F dX4_reasonOf_192 2 rfl rfl ?_
                          refine z_get (m := m) (j := 24) (v := .ref (ma m 24)) F hR mw_823 rfl (by decide) rfl dX4_reasonOf_193 ?_
                          refine x_iload_n F dX4_reasonOf_196 3 rfl rfl ?_
                          refine z_ildN (m := m) (j := 24) (i := i) F hR (by decide) rfl rfl (Nat.lt_of_lt_of_le hi hW.2.2.1.2) (by decide) dX4_reasonOf_197 ?_
                          refine x_if_ne F dX4_reasonOf_198 (tgt := 211) (by decide) (fun h180 => ?_) (fun h180 => ?_)
                          · refine x_aload_n F dX4_reasonOf_211 2 rfl rfl ?_
                            refine x_callVp (rest := []) F hR.2.2.1 rfl (c_X4_takenTugs l G A m ) k_X4_98 ⟨(Nat.le_of_ble_eq_true rfl), (Nat.le_of_ble_eq_true rfl), rfl, rfl⟩ (Nat.le_of_ble_eq_true rfl) (Nat.le_of_ble_eq_true rfl) dX4_reasonOf_212 rfl rfl (Nat.le_of_ble_eq_true rfl) hR ?_
                            refine x_aload_n F dX4_reasonOf_215 2 rfl rfl ?_
                            refine z_get (m := m) (j := 7) (v := .int (mY m 7)) F hR mw_806 rfl (by decide) rfl dX4_reasonOf_216 ?_
                            refine x_icmp_lt F dX4_reasonOf_219 (tgt := 225) (by decide) (fun h181 => ?_) (fun h181 => ?_)
                            · have h181' := Int32.not_le.mpr h181
                              refine x_aload_n F dX4_reasonOf_225 2 rfl rfl ?_
                              refine x_callVp (rest := []) F hR.2.2.1 rfl (c_X4_isBusyNow l G A m ) k_X4_146 ⟨(Nat.le_of_ble_eq_true rfl), (Nat.le_of_ble_eq_true rfl), rfl, rfl⟩ (Nat.le_of_ble_eq_true rfl) (Nat.le_of_ble_eq_true rfl) dX4_reasonOf_226 rfl rfl (Nat.le_of_ble_eq_true rfl) hR ?_
                              refine x_if_eq F dX4_reasonOf_229 (tgt := 237) (by decide) (fun h182 => ?_) (fun h182 => ?_)
                              · replace h182 := bI_0.mp h182
                                refine x_iconst (v := 0) F rfl dX4_reasonOf_237 ?_
                                exact x_iret F hE dX4_reasonOf_238 (Nat.le_of_ble_eq_true rfl) (Nat.le_of_ble_eq_true rfl) (⟨by unfold m_rea; rw [if_neg (fun q => q.elim h1 (fun q => h111 q.2)), if_neg (fun q => q.elim (fun q => q h112) (fun q => q h113)), if_neg (fun q => h167 q.2), if_neg (fun q => q.1 h168), if_neg (fun q => q.elim h169 (fun q => by rw [if_pos h170] at q; exact h178' q)), if_neg h179', if_neg (fun q => q.elim (fun q => h180 q.1) (fun q => h181' q.2)), if_neg h182], rfl⟩)
                              · replace h182 := bI_ne.mp h182
                                refine x_bipush (v := 8) F rfl dX4_reasonOf_232 ?_
                                refine x_goto F dX4_reasonOf_234 (tgt := 238) (by decide) ?_
                                exact x_iret F hE dX4_reasonOf_238 (Nat.le_of_ble_eq_true rfl) (Nat.le_of_ble_eq_true rfl) (⟨by unfold m_rea; rw [if_neg (fun q => q.elim h1 (fun q => h111 q.2)), if_neg (fun q => q.elim (fun q => q h112) (fun q => q h113)), if_neg (fun q => h167 q.2), if_neg (fun q => q.1 h168), if_neg (fun q => q.elim h169 (fun q => by rw [if_pos h170] at q; exact h178' q)), if_neg h179', if_neg (fun q => q.elim (fun q => h180 q.1) (fun q => h181' q.2)), if_pos h182], rfl⟩)
                            · have h181' := Int32.not_lt.mp h181
                              refine x_bipush (v := 7) F rfl dX4_reasonOf_222 ?_
                              exact x_iret F hE dX4_reasonOf_224 (Nat.le_of_ble_eq_true rfl) (Nat.le_of_ble_eq_true rfl) (⟨by unfold m_rea; rw [if_neg (fun q => q.elim h1 (fun q => h111 q.2)), if_neg (fun q => q.elim (fun q => q h112) (fun q => q h113)), if_neg (fun q => h167 q.2), if_neg (fun q => q.1 h168), if_neg (fun q => q.elim h169 (fun q => by rw [if_pos h170] at q; exact h178' q)), if_neg h179', if_pos (Or.inr ⟨h180, h181'⟩)], rfl⟩)
                          · refine x_aload_n F dX4_reasonOf_201 2 rfl rfl ?_
                            refine z_get (m := m) (j := 5) (v := .int (mY m 5)) F hR mw_804 rfl (by decide) rfl dX4_reasonOf_202 ?_
                            refine x_if_ne F dX4_reasonOf_205 (tgt := 225) (by decide) (fun h183 => ?_) (fun h183 => ?_)
                            · refine x_aload_n F dX4_reasonOf_225 2 rfl rfl ?_
                              refine x_callVp (rest := []) F hR.2.2.1 rfl (c_X4_isBusyNow l G A m ) k_X4_146 ⟨(Nat.le_of_ble_eq_true rfl), (Nat.le_of_ble_eq_true rfl), rfl, rfl⟩ (Nat.le_of_ble_eq_true rfl) (Nat.le_of_ble_eq_true rfl) dX4_reasonOf_226 rfl rfl (Nat.le_of_ble_eq_true rfl) hR ?_
                              refine x_if_eq F dX4_reasonOf_229 (tgt := 237) (by decide) (fun h184 => ?_) (fun h184 => ?_)
                              · replace h184 := bI_0.mp h184
                                refine x_iconst (v := 0) F rfl dX4_reasonOf_237 ?_
                                exact x_iret F hE dX4_reasonOf_238 (Nat.le_of_ble_eq_true rfl) (Nat.le_of_ble_eq_true rfl) (⟨by unfold m_rea; rw [if_neg (fun q => q.elim h1 (fun q => h111 q.2)), if_neg (fun q => q.elim (fun q => q h112) (fun q => q h113)), if_neg (fun q => h167 q.2), if_neg (fun q => q.1 h168), if_neg (fun q => q.elim h169 (fun q => by rw [if_pos h170] at q; exact h178' q)), if_neg h179', if_neg (fun q => q.elim (fun q => h183 q.2) (fun q => q.1 h180)), if_neg h184], rfl⟩)
                              · replace h184 := bI_ne.mp h184
                                refine x_bipush (v := 8) F rfl dX4_reasonOf_232 ?_
                                refine x_goto F dX4_reasonOf_234 (tgt := 238) (by decide) ?_
                                exact x_iret F hE dX4_reasonOf_238 (Nat.le_of_ble_eq_true rfl) (Nat.le_of_ble_eq_true rfl) (⟨by unfold m_rea; rw [if_neg (fun q => q.elim h1 (fun q => h111 q.2)), if_neg (fun q => q.elim (fun q => q h112) (fun q => q h113)), if_neg (fun q => h167 q.2), if_neg (fun q => q.1 h168), if_neg (fun q => q.elim h169 (fun q => by rw [if_pos h170] at q; exact h178' q)), if_neg h179', if_neg (fun q => q.elim (fun q => h183 q.2) (fun q => q.1 h180)), if_pos h184], rfl⟩)
                            · refine x_goto F dX4_reasonOf_208 (tgt := 222) (by decide) ?_
                              refine x_bipush (v := 7) F rfl dX4_reasonOf_222 ?_
                              exact x_iret F hE dX4_reasonOf_224 (Nat.le_of_ble_eq_true rfl) (Nat.le_of_ble_eq_true rfl) (⟨by unfold m_rea; rw [if_neg (fun q => q.elim h1 (fun q => h111 q.2)), if_neg (fun q => q.elim (fun q => q h112) (fun q => q h113)), if_neg (fun q => h167 q.2), if_neg (fun q => q.1 h168), if_neg (fun q => q.elim h169 (fun q => by rw [if_pos h170] at q; exact h178' q)), if_neg h179', if_pos (Or.inl ⟨h180, h183⟩)], rfl⟩)
                        · have h179' := Int32.not_le.mp h179
                          refine x_bipush (v := 6) F rfl dX4_reasonOf_189 ?_
                          exact x_iret F hE dX4_reasonOf_191 (Nat.le_of_ble_eq_true rfl) (Nat.le_of_ble_eq_true rfl) (⟨by unfold m_rea; rw [if_neg (fun q => q.elim h1 (fun q => h111 q.2)), if_neg (fun q => q.elim (fun q => q h112) (fun q => q h113)), if_neg (fun q => h167 q.2), if_neg (fun q => q.1 h168), if_neg (fun q => q.elim h169 (fun q => by rw [if_pos h170] at q; exact h178' q)), if_pos h179'], rfl⟩)
                      · have h178' := Int32.not_le.mp h178
                        refine x_iconst (v := 5) F rfl dX4_reasonOf_173 ?_
                        exact x_iret F hE dX4_reasonOf_174 (Nat.le_of_ble_eq_true rfl) (Nat.le_of_ble_eq_true rfl) (⟨by unfold m_rea; rw [if_neg (fun q => q.elim h1 (fun q => h111 q.2)), if_neg (fun q => q.elim (fun q => q h112) (fun q => q h113)), if_neg (fun q => h167 q.2), if_neg (fun q => q.1 h168), if_pos (Or.inr (by rw [if_pos h170]; exact h178'))], rfl⟩)
                · replace h168 := bI_0.mp h168
                  refine x_iload_n F dX4_reasonOf_112 0 rfl rfl ?_
                  refine x_if_eq F dX4_reasonOf_113 (tgt := 130) (by decide) (fun h185 => ?_) (fun h185 => ?_)
                  · refine x_iconst (v := 4) F rfl dX4_reasonOf_130 ?_
                    exact x_iret F hE dX4_reasonOf_131 (Nat.le_of_ble_eq_true rfl) (Nat.le_of_ble_eq_true rfl) (⟨by unfold m_rea; rw [if_neg (fun q => q.elim h1 (fun q => h111 q.2)), if_neg (fun q => q.elim (fun q => q h112) (fun q => q h113)), if_neg (fun q => h167 q.2), if_pos ⟨h168, Or.inl h185⟩], rfl⟩)
                  · refine x_iload_n F dX4_reasonOf_116 0 rfl rfl ?_
                    refine x_iconst (v := 1) F rfl dX4_reasonOf_117 ?_
                    refine x_icmp_ne F dX4_reasonOf_118 (tgt := 132) (by decide) (fun h186 => ?_) (fun h186 => ?_)
                    · refine x_aload_n F dX4_reasonOf_132 2 rfl rfl ?_
                      refine z_get (m := m) (j := 2) (v := .int (mY m 2)) F hR mw_801 rfl (by decide) rfl dX4_reasonOf_133 ?_
                      refine x_aload_n F dX4_reasonOf_136 2 rfl rfl ?_
                      refine z_get (m := m) (j := 15) (v := .ref (ma m 15)) F hR mw_814 rfl (by decide) rfl dX4_reasonOf_137 ?_
                      refine x_aload_n F dX4_reasonOf_140 2 rfl rfl ?_
                      refine z_get (m := m) (j := 23) (v := .ref (ma m 23)) F hR mw_822 rfl (by decide) rfl dX4_reasonOf_141 ?_
                      refine x_iload_n F dX4_reasonOf_144 3 rfl rfl ?_
                      refine z_ildN (m := m) (j := 23) (i := i) F hR (by decide) rfl rfl (Nat.lt_of_lt_of_le hi hW.2.2.1.2) (by decide) dX4_reasonOf_145 ?_
                      refine wx_i (y := nI (tN (mZ m 23 i))) ((hW.2.2.2 _ hi).2.2.1) ?_
                      refine z_ildN (m := m) (j := 15) (i := (tN (mZ m 23 i))) F hR (by decide) rfl rfl (Nat.lt_of_lt_of_le (hW.2.2.2 _ hi).2.2.2 hW.2.1.2) (by decide) dX4_reasonOf_146 ?_
                      refine x_icmp_gt F dX4_reasonOf_147 (tgt := 173) (by decide) (fun h187 => ?_) (fun h187 => ?_)
                      · have h187' := Int32.not_le.mpr h187
                        refine x_iconst (v := 5) F rfl dX4_reasonOf_173 ?_
                        exact x_iret F hE dX4_reasonOf_174 (Nat.le_of_ble_eq_true rfl) (Nat.le_of_ble_eq_true rfl) (⟨by unfold m_rea; rw [if_neg (fun q => q.elim h1 (fun q => h111 q.2)), if_neg (fun q => q.elim (fun q => q h112) (fun q => q h113)), if_neg (fun q => h167 q.2), if_neg (fun q => q.2.elim h185 (fun q => h186 q.1)), if_pos (Or.inl h187)], rfl⟩)
                      · have h187' := Int32.not_lt.mp h187
                        refine x_aload_n F dX4_reasonOf_150 2 rfl rfl ?_
                        refine z_get (m := m) (j := 2) (v := .int (mY m 2)) F hR mw_801 rfl (by decide) rfl dX4_reasonOf_151 ?_
                        refine x_aload_n F dX4_reasonOf_154 2 rfl rfl ?_
                        refine x_iload_n F dX4_reasonOf_155 3 rfl rfl ?_
                        refine x_callVp (rest := [.int (mY m 2)]) F hR.2.2.1 rfl (c_X4_withTeacher l G A m i hi hW) k_X4_109 ⟨(Nat.le_of_ble_eq_true rfl), (Nat.le_of_ble_eq_true rfl), rfl, rfl⟩ (Nat.le_of_ble_eq_true rfl) (Nat.le_of_ble_eq_true rfl) dX4_reasonOf_156 rfl rfl (Nat.le_of_ble_eq_true rfl) hR ?_
                        refine x_if_eq F dX4_reasonOf_159 (tgt := 166) (by decide) (fun h188 => ?_) (fun h188 => ?_)
                        · replace h188 := bI_0.mp h188
                          refine x_iload_n F dX4_reasonOf_166 0 rfl rfl ?_
                          refine x_callSp (rest := [.int (mY m 2)]) F (c_X4_windOf l G A (mZ m 10 (tN (mZ m 21 i)))) k_X4_143 ⟨(Nat.le_of_ble_eq_true rfl), (Nat.le_of_ble_eq_true rfl), rfl, rfl⟩ (Nat.le_of_ble_eq_true rfl) (Nat.le_of_ble_eq_true rfl) dX4_reasonOf_167 rfl rfl (Nat.le_of_ble_eq_true rfl) trivial ?_
                          refine x_icmp_le F dX4_reasonOf_170 (tgt := 175) (by decide) (fun h189 => ?_) (fun h189 => ?_)
                          · have h189' := Int32.not_lt.mpr h189
                            refine x_aload_n F dX4_reasonOf_175 2 rfl rfl ?_
                            refine z_get (m := m) (j := 3) (v := .int (mY m 3)) F hR mw_802 rfl (by decide) rfl dX4_reasonOf_176 ?_
                            refine x_aload_n F dX4_reasonOf_179 2 rfl rfl ?_
                            refine z_get (m := m) (j := 1) (v := .int (mY m 1)) F hR mw_800 rfl (by decide) rfl dX4_reasonOf_180 ?_
                            refine x_isub F dX4_reasonOf_183 ?_
                            refine x_bipush (v := 10) F rfl dX4_reasonOf_184 ?_
                            refine x_icmp_ge F dX4_reasonOf_186 (tgt := 192) (by decide) (fun h190 => ?_) (fun h190 => ?_)
                            · have h190' := Int32.not_lt.mpr h190
                              refine x_aload_n F dX4_reasonOf_192 2 rfl rfl ?_
                              refine z_get (m := m) (j := 24) (v := .ref (ma m 24)) F hR mw_823 rfl (by decide) rfl dX4_reasonOf_193 ?_
                              refine x_iload_n F dX4_reasonOf_196 3 rfl rfl ?_
                              refine z_ildN (m := m) (j := 24) (i := i) F hR (by decide) rfl rfl (Nat.lt_of_lt_of_le hi hW.2.2.1.2) (by decide) dX4_reasonOf_197 ?_
                              refine x_if_ne F dX4_reasonOf_198 (tgt := 211) (by decide) (fun h191 => ?_) (fun h191 => ?_)
                              · refine x_aload_n F dX4_reasonOf_211 2 rfl rfl ?_
                                refine x_callVp (rest := []) F hR.2.2.1 rfl (c_X4_takenTugs l G A m ) k_X4_98 ⟨(Nat.le_of_ble_eq_true rfl), (Nat.le_of_ble_eq_true rfl), rfl, rfl⟩ (Nat.le_of_ble_eq_true rfl) (Nat.le_of_ble_eq_true rfl) dX4_reasonOf_212 rfl rfl (Nat.le_of_ble_eq_true rfl) hR ?_
                                refine x_aload_n F dX4_reasonOf_215 2 rfl rfl ?_
                                refine z_get (m := m) (j := 7) (v := .int (mY m 7)) F hR mw_806 rfl (by decide) rfl dX4_reasonOf_216 ?_
                                refine x_icmp_lt F dX4_reasonOf_219 (tgt := 225) (by decide) (fun h192 => ?_) (fun h192 => ?_)
                                · have h192' := Int32.not_le.mpr h192
                                  refine x_aload_n F dX4_reasonOf_225 2 rfl rfl ?_
                                  refine x_callVp (rest := []) F hR.2.2.1 rfl (c_X4_isBusyNow l G A m ) k_X4_146 ⟨(Nat.le_of_ble_eq_true rfl), (Nat.le_of_ble_eq_true rfl), rfl, rfl⟩ (Nat.le_of_ble_eq_true rfl) (Nat.le_of_ble_eq_true rfl) dX4_reasonOf_226 rfl rfl (Nat.le_of_ble_eq_true rfl) hR ?_
                                  refine x_if_eq F dX4_reasonOf_229 (tgt := 237) (by decide) (fun h193 => ?_) (fun h193 => ?_)
                                  · replace h193 := bI_0.mp h193
                                    refine x_iconst (v := 0) F rfl dX4_reasonOf_237 ?_
                                    exact x_iret F hE dX4_reasonOf_238 (Nat.le_of_ble_eq_true rfl) (Nat.le_of_ble_eq_true rfl) (⟨by unfold m_rea; rw [if_neg (fun q => q.elim h1 (fun q => h111 q.2)), if_neg (fun q => q.elim (fun q => q h112) (fun q => q h113)), if_neg (fun q => h167 q.2), if_neg (fun q => q.2.elim h185 (fun q => h186 q.1)), if_neg (fun q => q.elim h187 (fun q => by rw [if_neg h188] at q; exact h189' q)), if_neg h190', if_neg (fun q => q.elim (fun q => h191 q.1) (fun q => h192' q.2)), if_neg h193], rfl⟩)
                                  · replace h193 := bI_ne.mp h193
                                    refine x_bipush (v := 8) F rfl dX4_reasonOf_232 ?_
                                    refine x_goto F dX4_reasonOf_234 (tgt := 238) (by decide) ?_
                                    exact x_iret F hE dX4_reasonOf_238 (Nat.le_of_ble_eq_true rfl) (Nat.le_of_ble_eq_true rfl) (⟨by unfold m_rea; rw [if_neg (fun q => q.elim h1 (fun q => h111 q.2)), if_neg (fun q => q.elim (fun q => q h112) (fun q => q h113)), if_neg (fun q => h167 q.2), if_neg (fun q => q.2.elim h185 (fun q => h186 q.1)), if_neg (fun q => q.elim h187 (fun q => by rw [if_neg h188] at q; exact h189' q)), if_neg h190', if_neg (fun q => q.elim (fun q => h191 q.1) (fun q => h192' q.2)), if_pos h193], rfl⟩)
                                · have h192' := Int32.not_lt.mp h192
                                  refine x_bipush (v := 7) F rfl dX4_reasonOf_222 ?_
                                  exact x_iret F hE dX4_reasonOf_224 (Nat.le_of_ble_eq_true rfl) (Nat.le_of_ble_eq_true rfl) (⟨by unfold m_rea; rw [if_neg (fun q => q.elim h1 (fun q => h111 q.2)), if_neg (fun q => q.elim (fun q => q h112) (fun q => q h113)), if_neg (fun q => h167 q.2), if_neg (fun q => q.2.elim h185 (fun q => h186 q.1)), if_neg (fun q => q.elim h187 (fun q => by rw [if_neg h188] at q; exact h189' q)), if_neg h190', if_pos (Or.inr ⟨h191, h192'⟩)], rfl⟩)
                              · refine x_aload_n F dX4_reasonOf_201 2 rfl rfl ?_
                                refine z_get (m := m) (j := 5) (v := .int (mY m 5)) F hR mw_804 rfl (by decide) rfl dX4_reasonOf_202 ?_
                                refine x_if_ne F dX4_reasonOf_205 (tgt := 225) (by decide) (fun h194 => ?_) (fun h194 => ?_)
                                · refine x_aload_n F dX4_reasonOf_225 2 rfl rfl ?_
                                  refine x_callVp (rest := []) F hR.2.2.1 rfl (c_X4_isBusyNow l G A m ) k_X4_146 ⟨(Nat.le_of_ble_eq_true rfl), (Nat.le_of_ble_eq_true rfl), rfl, rfl⟩ (Nat.le_of_ble_eq_true rfl) (Nat.le_of_ble_eq_true rfl) dX4_reasonOf_226 rfl rfl (Nat.le_of_ble_eq_true rfl) hR ?_
                                  refine x_if_eq F dX4_reasonOf_229 (tgt := 237) (by decide) (fun h195 => ?_) (fun h195 => ?_)
                                  · replace h195 := bI_0.mp h195
                                    refine x_iconst (v := 0) F rfl dX4_reasonOf_237 ?_
                                    exact x_iret F hE dX4_reasonOf_238 (Nat.le_of_ble_eq_true rfl) (Nat.le_of_ble_eq_true rfl) (⟨by unfold m_rea; rw [if_neg (fun q => q.elim h1 (fun q => h111 q.2)), if_neg (fun q => q.elim (fun q => q h112) (fun q => q h113)), if_neg (fun q => h167 q.2), if_neg (fun q => q.2.elim h185 (fun q => h186 q.1)), if_neg (fun q => q.elim h187 (fun q => by rw [if_neg h188] at q; exact h189' q)), if_neg h190', if_neg (fun q => q.elim (fun q => h194 q.2) (fun q => q.1 h191)), if_neg h195], rfl⟩)
                                  · replace h195 := bI_ne.mp h195
                                    refine x_bipush (v := 8) F rfl dX4_reasonOf_232 ?_
                                    refine x_goto F dX4_reasonOf_234 (tgt := 238) (by decide) ?_
                                    exact x_iret F hE dX4_reasonOf_238 (Nat.le_of_ble_eq_true rfl) (Nat.le_of_ble_eq_true rfl) (⟨by unfold m_rea; rw [if_neg (fun q => q.elim h1 (fun q => h111 q.2)), if_neg (fun q => q.elim (fun q => q h112) (fun q => q h113)), if_neg (fun q => h167 q.2), if_neg (fun q => q.2.elim h185 (fun q => h186 q.1)), if_neg (fun q => q.elim h187 (fun q => by rw [if_neg h188] at q; exact h189' q)), if_neg h190', if_neg (fun q => q.elim (fun q => h194 q.2) (fun q => q.1 h191)), if_pos h195], rfl⟩)
                                · refine x_goto F dX4_reasonOf_208 (tgt := 222) (by decide) ?_
                                  refine x_bipush (v := 7) F rfl dX4_reasonOf_222 ?_
                                  exact x_iret F hE dX4_reasonOf_224 (Nat.le_of_ble_eq_true rfl) (Nat.le_of_ble_eq_true rfl) (⟨by unfold m_rea; rw [if_neg (fun q => q.elim h1 (fun q => h111 q.2)), if_neg (fun q => q.elim (fun q => q h112) (fun q => q h113)), if_neg (fun q => h167 q.2), if_neg (fun q => q.2.elim h185 (fun q => h186 q.1)), if_neg (fun q => q.elim h187 (fun q => by rw [if_neg h188] at q; exact h189' q)), if_neg h190', if_pos (Or.inl ⟨h191, h194⟩)], rfl⟩)
                            · have h190' := Int32.not_le.mp h190
                              refine x_bipush (v := 6) F rfl dX4_reasonOf_189 ?_
                              exact x_iret F hE dX4_reasonOf_191 (Nat.le_of_ble_eq_true rfl) (Nat.le_of_ble_eq_true rfl) (⟨by unfold m_rea; rw [if_neg (fun q => q.elim h1 (fun q => h111 q.2)), if_neg (fun q => q.elim (fun q => q h112) (fun q => q h113)), if_neg (fun q => h167 q.2), if_neg (fun q => q.2.elim h185 (fun q => h186 q.1)), if_neg (fun q => q.elim h187 (fun q => by rw [if_neg h188] at q; exact h189' q)), if_pos h190'], rfl⟩)
                          · have h189' := Int32.not_le.mp h189
                            refine x_iconst (v := 5) F rfl dX4_reasonOf_173 ?_
                            exact x_iret F hE dX4_reasonOf_174 (Nat.le_of_ble_eq_true rfl) (Nat.le_of_ble_eq_true rfl) (⟨by unfold m_rea; rw [if_neg (fun q => q.elim h1 (fun q => h111 q.2)), if_neg (fun q => q.elim (fun q => q h112) (fun q => q h113)), if_neg (fun q => h167 q.2), if_neg (fun q => q.2.elim h185 (fun q => h186 q.1)), if_pos (Or.inr (by rw [if_neg h188]; exact h189'))], rfl⟩)
                        · replace h188 := bI_ne.mp h188
                          refine x_iconst (v := 3) F rfl dX4_reasonOf_162 ?_
                          refine x_goto F dX4_reasonOf_163 (tgt := 167) (by decide) ?_
                          refine x_callSp (rest := [.int (mY m 2)]) F (c_X4_windOf l G A 3) k_X4_143 ⟨(Nat.le_of_ble_eq_true rfl), (Nat.le_of_ble_eq_true rfl), rfl, rfl⟩ (Nat.le_of_ble_eq_true rfl) (Nat.le_of_ble_eq_true rfl) dX4_reasonOf_167 rfl rfl (Nat.le_of_ble_eq_true rfl) trivial ?_
                          refine x_icmp_le F dX4_reasonOf_170 (tgt := 175) (by decide) (fun h196 => ?_) (fun h196 => ?_)
                          · have h196' := Int32.not_lt.mpr h196
                            refine x_aload_n F dX4_reasonOf_175 2 rfl rfl ?_
                            refine z_get (m := m) (j := 3) (v := .int (mY m 3)) F hR mw_802 rfl (by decide) rfl dX4_reasonOf_176 ?_
                            refine x_aload_n F dX4_reasonOf_179 2 rfl rfl ?_
                            refine z_get (m := m) (j := 1) (v := .int (mY m 1)) F hR mw_800 rfl (by decide) rfl dX4_reasonOf_180 ?_
                            refine x_isub F dX4_reasonOf_183 ?_
                            refine x_bipush (v := 10) F rfl dX4_reasonOf_184 ?_
                            refine x_icmp_ge F dX4_reasonOf_186 (tgt := 192) (by decide) (fun h197 => ?_) (fun h197 => ?_)
                            · have h197' := Int32.not_lt.mpr h197
                              refine x_aload_n F dX4_reasonOf_192 2 rfl rfl ?_
                              refine z_get (m := m) (j := 24) (v := .ref (ma m 24)) F hR mw_823 rfl (by decide) rfl dX4_reasonOf_193 ?_
                              refine x_iload_n F dX4_reasonOf_196 3 rfl rfl ?_
                              refine z_ildN (m := m) (j := 24) (i := i) F hR (by decide) rfl rfl (Nat.lt_of_lt_of_le hi hW.2.2.1.2) (by decide) dX4_reasonOf_197 ?_
                              refine x_if_ne F dX4_reasonOf_198 (tgt := 211) (by decide) (fun h198 => ?_) (fun h198 => ?_)
                              · refine x_aload_n F dX4_reasonOf_211 2 rfl rfl ?_
                                refine x_callVp (rest := []) F hR.2.2.1 rfl (c_X4_takenTugs l G A m ) k_X4_98 ⟨(Nat.le_of_ble_eq_true rfl), (Nat.le_of_ble_eq_true rfl), rfl, rfl⟩ (Nat.le_of_ble_eq_true rfl) (Nat.le_of_ble_eq_true rfl) dX4_reasonOf_212 rfl rfl (Nat.le_of_ble_eq_true rfl) hR ?_
                                refine x_aload_n F dX4_reasonOf_215 2 rfl rfl ?_
                                refine z_get (m := m) (j := 7) (v := .int (mY m 7)) F hR mw_806 rfl (by decide) rfl dX4_reasonOf_216 ?_
                                refine x_icmp_lt F dX4_reasonOf_219 (tgt := 225) (by decide) (fun h199 => ?_) (fun h199 => ?_)
                                · have h199' := Int32.not_le.mpr h199
                                  refine x_aload_n F dX4_reasonOf_225 2 rfl rfl ?_
                                  refine x_callVp (rest := []) F hR.2.2.1 rfl (c_X4_isBusyNow l G A m ) k_X4_146 ⟨(Nat.le_of_ble_eq_true rfl), (Nat.le_of_ble_eq_true rfl), rfl, rfl⟩ (Nat.le_of_ble_eq_true rfl) (Nat.le_of_ble_eq_true rfl) dX4_reasonOf_226 rfl rfl (Nat.le_of_ble_eq_true rfl) hR ?_
                                  refine x_if_eq F dX4_reasonOf_229 (tgt := 237) (by decide) (fun h200 => ?_) (fun h200 => ?_)
                                  · replace h200 := bI_0.mp h200
                                    refine x_iconst (v := 0) F rfl dX4_reasonOf_237 ?_
                                    exact x_iret F hE dX4_reasonOf_238 (Nat.le_of_ble_eq_true rfl) (Nat.le_of_ble_eq_true rfl) (⟨by unfold m_rea; rw [if_neg (fun q => q.elim h1 (fun q => h111 q.2)), if_neg (fun q => q.elim (fun q => q h112) (fun q => q h113)), if_neg (fun q => h167 q.2), if_neg (fun q => q.2.elim h185 (fun q => h186 q.1)), if_neg (fun q => q.elim h187 (fun q => by rw [if_pos h188] at q; exact h196' q)), if_neg h197', if_neg (fun q => q.elim (fun q => h198 q.1) (fun q => h199' q.2)), if_neg h200], rfl⟩)
                                  · replace h200 := bI_ne.mp h200
                                    refine x_bipush (v := 8) F rfl dX4_reasonOf_232 ?_
                                    refine x_goto F dX4_reasonOf_234 (tgt := 238) (by decide) ?_
                                    exact x_iret F hE dX4_reasonOf_238 (Nat.le_of_ble_eq_true rfl) (Nat.le_of_ble_eq_true rfl) (⟨by unfold m_rea; rw [if_neg (fun q => q.elim h1 (fun q => h111 q.2)), if_neg (fun q => q.elim (fun q => q h112) (fun q => q h113)), if_neg (fun q => h167 q.2), if_neg (fun q => q.2.elim h185 (fun q => h186 q.1)), if_neg (fun q => q.elim h187 (fun q => by rw [if_pos h188] at q; exact h196' q)), if_neg h197', if_neg (fun q => q.elim (fun q => h198 q.1) (fun q => h199' q.2)), if_pos h200], rfl⟩)
                                · have h199' := Int32.not_lt.mp h199
                                  refine x_bipush (v := 7) F rfl dX4_reasonOf_222 ?_
                                  exact x_iret F hE dX4_reasonOf_224 (Nat.le_of_ble_eq_true rfl) (Nat.le_of_ble_eq_true rfl) (⟨by unfold m_rea; rw [if_neg (fun q => q.elim h1 (fun q => h111 q.2)), if_neg (fun q => q.elim (fun q => q h112) (fun q => q h113)), if_neg (fun q => h167 q.2), if_neg (fun q => q.2.elim h185 (fun q => h186 q.1)), if_neg (fun q => q.elim h187 (fun q => by rw [if_pos h188] at q; exact h196' q)), if_neg h197', if_pos (Or.inr ⟨h198, h199'⟩)], rfl⟩)
                              · refine x_aload_n F dX4_reasonOf_201 2 rfl rfl ?_
                                refine z_get (m := m) (j := 5) (v := .int (mY m 5)) F hR mw_804 rfl (by decide) rfl dX4_reasonOf_202 ?_
                                refine x_if_ne F dX4_reasonOf_205 (tgt := 225) (by decide) (fun h201 => ?_) (fun h201 => ?_)
                                · refine x_aload_n F dX4_reasonOf_225 2 rfl rfl ?_
                                  refine x_callVp (rest := []) F hR.2.2.1 rfl (c_X4_isBusyNow l G A m ) k_X4_146 ⟨(Nat.le_of_ble_eq_true rfl), (Nat.le_of_ble_eq_true rfl), rfl, rfl⟩ (Nat.le_of_ble_eq_true rfl) (Nat.le_of_ble_eq_true rfl) dX4_reasonOf_226 rfl rfl (Nat.le_of_ble_eq_true rfl) hR ?_
                                  refine x_if_eq F dX4_reasonOf_229 (tgt := 237) (by decide) (fun h202 => ?_) (fun h202 => ?_)
                                  · replace h202 := bI_0.mp h202
                                    refine x_iconst (v := 0) F rfl dX4_reasonOf_237 ?_
                                    exact x_iret F hE dX4_reasonOf_238 (Nat.le_of_ble_eq_true rfl) (Nat.le_of_ble_eq_true rfl) (⟨by unfold m_rea; rw [if_neg (fun q => q.elim h1 (fun q => h111 q.2)), if_neg (fun q => q.elim (fun q => q h112) (fun q => q h113)), if_neg (fun q => h167 q.2), if_neg (fun q => q.2.elim h185 (fun q => h186 q.1)), if_neg (fun q => q.elim h187 (fun q => by rw [if_pos h188] at q; exact h196' q)), if_neg h197', if_neg (fun q => q.elim (fun q => h201 q.2) (fun q => q.1 h198)), if_neg h202], rfl⟩)
                                  · replace h202 := bI_ne.mp h202
                                    refine x_bipush (v := 8) F rfl dX4_reasonOf_232 ?_
                                    refine x_goto F dX4_reasonOf_234 (tgt := 238) (by decide) ?_
                                    exact x_iret F hE dX4_reasonOf_238 (Nat.le_of_ble_eq_true rfl) (Nat.le_of_ble_eq_true rfl) (⟨by unfold m_rea; rw [if_neg (fun q => q.elim h1 (fun q => h111 q.2)), if_neg (fun q => q.elim (fun q => q h112) (fun q => q h113)), if_neg (fun q => h167 q.2), if_neg (fun q => q.2.elim h185 (fun q => h186 q.1)), if_neg (fun q => q.elim h187 (fun q => by rw [if_pos h188] at q; exact h196' q)), if_neg h197', if_neg (fun q => q.elim (fun q => h201 q.2) (fun q => q.1 h198)), if_pos h202], rfl⟩)
                                · refine x_goto F dX4_reasonOf_208 (tgt := 222) (by decide) ?_
                                  refine x_bipush (v := 7) F rfl dX4_reasonOf_222 ?_
                                  exact x_iret F hE dX4_reasonOf_224 (Nat.le_of_ble_eq_true rfl) (Nat.le_of_ble_eq_true rfl) (⟨by unfold m_rea; rw [if_neg (fun q => q.elim h1 (fun q => h111 q.2)), if_neg (fun q => q.elim (fun q => q h112) (fun q => q h113)), if_neg (fun q => h167 q.2), if_neg (fun q => q.2.elim h185 (fun q => h186 q.1)), if_neg (fun q => q.elim h187 (fun q => by rw [if_pos h188] at q; exact h196' q)), if_neg h197', if_pos (Or.inl ⟨h198, h201⟩)], rfl⟩)
                            · have h197' := Int32.not_le.mp h197
                              refine x_bipush (v := 6) F rfl dX4_reasonOf_189 ?_
                              exact x_iret F hE dX4_reasonOf_191 (Nat.le_of_ble_eq_true rfl) (Nat.le_of_ble_eq_true rfl) (⟨by unfold m_rea; rw [if_neg (fun q => q.elim h1 (fun q => h111 q.2)), if_neg (fun q => q.elim (fun q => q h112) (fun q => q h113)), if_neg (fun q => h167 q.2), if_neg (fun q => q.2.elim h185 (fun q => h186 q.1)), if_neg (fun q => q.elim h187 (fun q => by rw [if_pos h188] at q; exact h196' q)), if_pos h197'], rfl⟩)
                          · have h196' := Int32.not_le.mp h196
                            refine x_iconst (v := 5) F rfl dX4_reasonOf_173 ?_
                            exact x_iret F hE dX4_reasonOf_174 (Nat.le_of_ble_eq_true rfl) (Nat.le_of_ble_eq_true rfl) (⟨by unfold m_rea; rw [if_neg (fun q => q.elim h1 (fun q => h111 q.2)), if_neg (fun q => q.elim (fun q => q h112) (fun q => q h113)), if_neg (fun q => h167 q.2), if_neg (fun q => q.2.elim h185 (fun q => h186 q.1)), if_pos (Or.inr (by rw [if_pos h188]; exact h196'))], rfl⟩)
                    · refine x_aload_n F dX4_reasonOf_121 2 rfl rfl ?_
                      refine x_iload_n F dX4_reasonOf_122 1 rfl rfl ?_
                      refine x_iconst (v := 4) F rfl dX4_reasonOf_123 ?_
                      refine x_callVp (rest := []) F hR.2.2.1 rfl (c_X4_landed l G A m (mZ m 21 i) 4 hW) k_X4_115 ⟨(Nat.le_of_ble_eq_true rfl), (Nat.le_of_ble_eq_true rfl), rfl, rfl⟩ (Nat.le_of_ble_eq_true rfl) (Nat.le_of_ble_eq_true rfl) dX4_reasonOf_124 rfl rfl (Nat.le_of_ble_eq_true rfl) hR ?_
                      refine x_if_ne F dX4_reasonOf_127 (tgt := 132) (by decide) (fun h203 => ?_) (fun h203 => ?_)
                      · refine x_aload_n F dX4_reasonOf_132 2 rfl rfl ?_
                        refine z_get (m := m) (j := 2) (v := .int (mY m 2)) F hR mw_801 rfl (by decide) rfl dX4_reasonOf_133 ?_
                        refine x_aload_n F dX4_reasonOf_136 2 rfl rfl ?_
                        refine z_get (m := m) (j := 15) (v := .ref (ma m 15)) F hR mw_814 rfl (by decide) rfl dX4_reasonOf_137 ?_
                        refine x_aload_n F dX4_reasonOf_140 2 rfl rfl ?_
                        refine z_get (m := m) (j := 23) (v := .ref (ma m 23)) F hR mw_822 rfl (by decide) rfl dX4_reasonOf_141 ?_
                        refine x_iload_n F dX4_reasonOf_144 3 rfl rfl ?_
                        refine z_ildN (m := m) (j := 23) (i := i) F hR (by decide) rfl rfl (Nat.lt_of_lt_of_le hi hW.2.2.1.2) (by decide) dX4_reasonOf_145 ?_
                        refine wx_i (y := nI (tN (mZ m 23 i))) ((hW.2.2.2 _ hi).2.2.1) ?_
                        refine z_ildN (m := m) (j := 15) (i := (tN (mZ m 23 i))) F hR (by decide) rfl rfl (Nat.lt_of_lt_of_le (hW.2.2.2 _ hi).2.2.2 hW.2.1.2) (by decide) dX4_reasonOf_146 ?_
                        refine x_icmp_gt F dX4_reasonOf_147 (tgt := 173) (by decide) (fun h204 => ?_) (fun h204 => ?_)
                        · have h204' := Int32.not_le.mpr h204
                          refine x_iconst (v := 5) F rfl dX4_reasonOf_173 ?_
                          exact x_iret F hE dX4_reasonOf_174 (Nat.le_of_ble_eq_true rfl) (Nat.le_of_ble_eq_true rfl) (⟨by unfold m_rea; rw [if_neg (fun q => q.elim h1 (fun q => h111 q.2)), if_neg (fun q => q.elim (fun q => q h112) (fun q => q h113)), if_neg (fun q => h167 q.2), if_neg (fun q => q.2.elim h185 (fun q => h203 q.2)), if_pos (Or.inl h204)], rfl⟩)
                        · have h204' := Int32.not_lt.mp h204
                          refine x_aload_n F dX4_reasonOf_150 2 rfl rfl ?_
                          refine z_get (m := m) (j := 2) (v := .int (mY m 2)) F hR mw_801 rfl (by decide) rfl dX4_reasonOf_151 ?_
                          refine x_aload_n F dX4_reasonOf_154 2 rfl rfl ?_
                          refine x_iload_n F dX4_reasonOf_155 3 rfl rfl ?_
                          refine x_callVp (rest := [.int (mY m 2)]) F hR.2.2.1 rfl (c_X4_withTeacher l G A m i hi hW) k_X4_109 ⟨(Nat.le_of_ble_eq_true rfl), (Nat.le_of_ble_eq_true rfl), rfl, rfl⟩ (Nat.le_of_ble_eq_true rfl) (Nat.le_of_ble_eq_true rfl) dX4_reasonOf_156 rfl rfl (Nat.le_of_ble_eq_true rfl) hR ?_
                          refine x_if_eq F dX4_reasonOf_159 (tgt := 166) (by decide) (fun h205 => ?_) (fun h205 => ?_)
                          · replace h205 := bI_0.mp h205
                            refine x_iload_n F dX4_reasonOf_166 0 rfl rfl ?_
                            refine x_callSp (rest := [.int (mY m 2)]) F (c_X4_windOf l G A (mZ m 10 (tN (mZ m 21 i)))) k_X4_143 ⟨(Nat.le_of_ble_eq_true rfl), (Nat.le_of_ble_eq_true rfl), rfl, rfl⟩ (Nat.le_of_ble_eq_true rfl) (Nat.le_of_ble_eq_true rfl) dX4_reasonOf_167 rfl rfl (Nat.le_of_ble_eq_true rfl) trivial ?_
                            refine x_icmp_le F dX4_reasonOf_170 (tgt := 175) (by decide) (fun h206 => ?_) (fun h206 => ?_)
                            · have h206' := Int32.not_lt.mpr h206
                              refine x_aload_n F dX4_reasonOf_175 2 rfl rfl ?_
                              refine z_get (m := m) (j := 3) (v := .int (mY m 3)) F hR mw_802 rfl (by decide) rfl dX4_reasonOf_176 ?_
                              refine x_aload_n F dX4_reasonOf_179 2 rfl rfl ?_
                              refine z_get (m := m) (j := 1) (v := .int (mY m 1)) F hR mw_800 rfl (by decide) rfl dX4_reasonOf_180 ?_
                              refine x_isub F dX4_reasonOf_183 ?_
                              refine x_bipush (v := 10) F rfl dX4_reasonOf_184 ?_
                              refine x_icmp_ge F dX4_reasonOf_186 (tgt := 192) (by decide) (fun h207 => ?_) (fun h207 => ?_)
                              · have h207' := Int32.not_lt.mpr h207
                                refine x_aload_n F dX4_reasonOf_192 2 rfl rfl ?_
                                refine z_get (m := m) (j := 24) (v := .ref (ma m 24)) F hR mw_823 rfl (by decide) rfl dX4_reasonOf_193 ?_
                                refine x_iload_n F dX4_reasonOf_196 3 rfl rfl ?_
                                refine z_ildN (m := m) (j := 24) (i := i) F hR (by decide) rfl rfl (Nat.lt_of_lt_of_le hi hW.2.2.1.2) (by decide) dX4_reasonOf_197 ?_
                                refine x_if_ne F dX4_reasonOf_198 (tgt := 211) (by decide) (fun h208 => ?_) (fun h208 => ?_)
                                · refine x_aload_n F dX4_reasonOf_211 2 rfl rfl ?_
                                  refine x_callVp (rest := []) F hR.2.2.1 rfl (c_X4_takenTugs l G A m ) k_X4_98 ⟨(Nat.le_of_ble_eq_true rfl), (Nat.le_of_ble_eq_true rfl), rfl, rfl⟩ (Nat.le_of_ble_eq_true rfl) (Nat.le_of_ble_eq_true rfl) dX4_reasonOf_212 rfl rfl (Nat.le_of_ble_eq_true rfl) hR ?_
                                  refine x_aload_n F dX4_reasonOf_215 2 rfl rfl ?_
                                  refine z_get (m := m) (j := 7) (v := .int (mY m 7)) F hR mw_806 rfl (by decide) rfl dX4_reasonOf_216 ?_
                                  refine x_icmp_lt F dX4_reasonOf_219 (tgt := 225) (by decide) (fun h209 => ?_) (fun h209 => ?_)
                                  · have h209' := Int32.not_le.mpr h209
                                    refine x_aload_n F dX4_reasonOf_225 2 rfl rfl ?_
                                    refine x_callVp (rest := []) F hR.2.2.1 rfl (c_X4_isBusyNow l G A m ) k_X4_146 ⟨(Nat.le_of_ble_eq_true rfl), (Nat.le_of_ble_eq_true rfl), rfl, rfl⟩ (Nat.le_of_ble_eq_true rfl) (Nat.le_of_ble_eq_true rfl) dX4_reasonOf_226 rfl rfl (Nat.le_of_ble_eq_true rfl) hR ?_
                                    refine x_if_eq F dX4_reasonOf_229 (tgt := 237) (by decide) (fun h210 => ?_) (fun h210 => ?_)
                                    · replace h210 := bI_0.mp h210
                                      refine x_iconst (v := 0) F rfl dX4_reasonOf_237 ?_
                                      exact x_iret F hE dX4_reasonOf_238 (Nat.le_of_ble_eq_true rfl) (Nat.le_of_ble_eq_true rfl) (⟨by unfold m_rea; rw [if_neg (fun q => q.elim h1 (fun q => h111 q.2)), if_neg (fun q => q.elim (fun q => q h112) (fun q => q h113)), if_neg (fun q => h167 q.2), if_neg (fun q => q.2.elim h185 (fun q => h203 q.2)), if_neg (fun q => q.elim h204 (fun q => by rw [if_neg h205] at q; exact h206' q)), if_neg h207', if_neg (fun q => q.elim (fun q => h208 q.1) (fun q => h209' q.2)), if_neg h210], rfl⟩)
                                    · replace h210 := bI_ne.mp h210
                                      refine x_bipush (v := 8) F rfl dX4_reasonOf_232 ?_
                                      refine x_goto F dX4_reasonOf_234 (tgt := 238) (by decide) ?_
                                      exact x_iret F hE dX4_reasonOf_238 (Nat.le_of_ble_eq_true rfl) (Nat.le_of_ble_eq_true rfl) (⟨by unfold m_rea; rw [if_neg (fun q => q.elim h1 (fun q => h111 q.2)), if_neg (fun q => q.elim (fun q => q h112) (fun q => q h113)), if_neg (fun q => h167 q.2), if_neg (fun q => q.2.elim h185 (fun q => h203 q.2)), if_neg (fun q => q.elim h204 (fun q => by rw [if_neg h205] at q; exact h206' q)), if_neg h207', if_neg (fun q => q.elim (fun q => h208 q.1) (fun q => h209' q.2)), if_pos h210], rfl⟩)
                                  · have h209' := Int32.not_lt.mp h209
                                    refine x_bipush (v := 7) F rfl dX4_reasonOf_222 ?_
                                    exact x_iret F hE dX4_reasonOf_224 (Nat.le_of_ble_eq_true rfl) (Nat.le_of_ble_eq_true rfl) (⟨by unfold m_rea; rw [if_neg (fun q => q.elim h1 (fun q => h111 q.2)), if_neg (fun q => q.elim (fun q => q h112) (fun q => q h113)), if_neg (fun q => h167 q.2), if_neg (fun q => q.2.elim h185 (fun q => h203 q.2)), if_neg (fun q => q.elim h204 (fun q => by rw [if_neg h205] at q; exact h206' q)), if_neg h207', if_pos (Or.inr ⟨h208, h209'⟩)], rfl⟩)
                                · refine x_aload_n F dX4_reasonOf_201 2 rfl rfl ?_
                                  refine z_get (m := m) (j := 5) (v := .int (mY m 5)) F hR mw_804 rfl (by decide) rfl dX4_reasonOf_202 ?_
                                  refine x_if_ne F dX4_reasonOf_205 (tgt := 225) (by decide) (fun h211 => ?_) (fun h211 => ?_)
                                  · refine x_aload_n F dX4_reasonOf_225 2 rfl rfl ?_
                                    refine x_callVp (rest := []) F hR.2.2.1 rfl (c_X4_isBusyNow l G A m ) k_X4_146 ⟨(Nat.le_of_ble_eq_true rfl), (Nat.le_of_ble_eq_true rfl), rfl, rfl⟩ (Nat.le_of_ble_eq_true rfl) (Nat.le_of_ble_eq_true rfl) dX4_reasonOf_226 rfl rfl (Nat.le_of_ble_eq_true rfl) hR ?_
                                    refine x_if_eq F dX4_reasonOf_229 (tgt := 237) (by decide) (fun h212 => ?_) (fun h212 => ?_)
                                    · replace h212 := bI_0.mp h212
                                      refine x_iconst (v := 0) F rfl dX4_reasonOf_237 ?_
                                      exact x_iret F hE dX4_reasonOf_238 (Nat.le_of_ble_eq_true rfl) (Nat.le_of_ble_eq_true rfl) (⟨by unfold m_rea; rw [if_neg (fun q => q.elim h1 (fun q => h111 q.2)), if_neg (fun q => q.elim (fun q => q h112) (fun q => q h113)), if_neg (fun q => h167 q.2), if_neg (fun q => q.2.elim h185 (fun q => h203 q.2)), if_neg (fun q => q.elim h204 (fun q => by rw [if_neg h205] at q; exact h206' q)), if_neg h207', if_neg (fun q => q.elim (fun q => h211 q.2) (fun q => q.1 h208)), if_neg h212], rfl⟩)
                                    · replace h212 := bI_ne.mp h212
                                      refine x_bipush (v := 8) F rfl dX4_reasonOf_232 ?_
                                      refine x_goto F dX4_reasonOf_234 (tgt := 238) (by decide) ?_
                                      exact x_iret F hE dX4_reasonOf_238 (Nat.le_of_ble_eq_true rfl) (Nat.le_of_ble_eq_true rfl) (⟨by unfold m_rea; rw [if_neg (fun q => q.elim h1 (fun q => h111 q.2)), if_neg (fun q => q.elim (fun q => q h112) (fun q => q h113)), if_neg (fun q => h167 q.2), if_neg (fun q => q.2.elim h185 (fun q => h203 q.2)), if_neg (fun q => q.elim h204 (fun q => by rw [if_neg h205] at q; exact h206' q)), if_neg h207', if_neg (fun q => q.elim (fun q => h211 q.2) (fun q => q.1 h208)), if_pos h212], rfl⟩)
                                  · refine x_goto F dX4_reasonOf_208 (tgt := 222) (by decide) ?_
                                    refine x_bipush (v := 7) F rfl dX4_reasonOf_222 ?_
                                    exact x_iret F hE dX4_reasonOf_224 (Nat.le_of_ble_eq_true rfl) (Nat.le_of_ble_eq_true rfl) (⟨by unfold m_rea; rw [if_neg (fun q => q.elim h1 (fun q => h111 q.2)), if_neg (fun q => q.elim (fun q => q h112) (fun q => q h113)), if_neg (fun q => h167 q.2), if_neg (fun q => q.2.elim h185 (fun q => h203 q.2)), if_neg (fun q => q.elim h204 (fun q => by rw [if_neg h205] at q; exact h206' q)), if_neg h207', if_pos (Or.inl ⟨h208, h211⟩)], rfl⟩)
                              · have h207' := Int32.not_le.mp h207
                                refine x_bipush (v := 6) F rfl dX4_reasonOf_189 ?_
                                exact x_iret F hE dX4_reasonOf_191 (Nat.le_of_ble_eq_true rfl) (Nat.le_of_ble_eq_true rfl) (⟨by unfold m_rea; rw [if_neg (fun q => q.elim h1 (fun q => h111 q.2)), if_neg (fun q => q.elim (fun q => q h112) (fun q => q h113)), if_neg (fun q => h167 q.2), if_neg (fun q => q.2.elim h185 (fun q => h203 q.2)), if_neg (fun q => q.elim h204 (fun q => by rw [if_neg h205] at q; exact h206' q)), if_pos h207'], rfl⟩)
                            · have h206' := Int32.not_le.mp h206
                              refine x_iconst (v := 5) F rfl dX4_reasonOf_173 ?_
                              exact x_iret F hE dX4_reasonOf_174 (Nat.le_of_ble_eq_true rfl) (Nat.le_of_ble_eq_true rfl) (⟨by unfold m_rea; rw [if_neg (fun q => q.elim h1 (fun q => h111 q.2)), if_neg (fun q => q.elim (fun q => q h112) (fun q => q h113)), if_neg (fun q => h167 q.2), if_neg (fun q => q.2.elim h185 (fun q => h203 q.2)), if_pos (Or.inr (by rw [if_neg h205]; exact h206'))], rfl⟩)
                          · replace h205 := bI_ne.mp h205
                            refine x_iconst (v := 3) F rfl dX4_reasonOf_162 ?_
                            refine x_goto F dX4_reasonOf_163 (tgt := 167) (by decide) ?_
                            refine x_callSp (rest := [.int (mY m 2)]) F (c_X4_windOf l G A 3) k_X4_143 ⟨(Nat.le_of_ble_eq_true rfl), (Nat.le_of_ble_eq_true rfl), rfl, rfl⟩ (Nat.le_of_ble_eq_true rfl) (Nat.le_of_ble_eq_true rfl) dX4_reasonOf_167 rfl rfl (Nat.le_of_ble_eq_true rfl) trivial ?_
                            refine x_icmp_le F dX4_reasonOf_170 (tgt := 175) (by decide) (fun h213 => ?_) (fun h213 => ?_)
                            · have h213' := Int32.not_lt.mpr h213
                              refine x_aload_n F dX4_reasonOf_175 2 rfl rfl ?_
                              refine z_get (m := m) (j := 3) (v := .int (mY m 3)) F hR mw_802 rfl (by decide) rfl dX4_reasonOf_176 ?_
                              refine x_aload_n F dX4_reasonOf_179 2 rfl rfl ?_
                              refine z_get (m := m) (j := 1) (v := .int (mY m 1)) F hR mw_800 rfl (by decide) rfl dX4_reasonOf_180 ?_
                              refine x_isub F dX4_reasonOf_183 ?_
                              refine x_bipush (v := 10) F rfl dX4_reasonOf_184 ?_
                              refine x_icmp_ge F dX4_reasonOf_186 (tgt := 192) (by decide) (fun h214 => ?_) (fun h214 => ?_)
                              · have h214' := Int32.not_lt.mpr h214
                                refine x_aload_n F dX4_reasonOf_192 2 rfl rfl ?_
                                refine z_get (m := m) (j := 24) (v := .ref (ma m 24)) F hR mw_823 rfl (by decide) rfl dX4_reasonOf_193 ?_
                                refine x_iload_n F dX4_reasonOf_196 3 rfl rfl ?_
                                refine z_ildN (m := m) (j := 24) (i := i) F hR (by decide) rfl rfl (Nat.lt_of_lt_of_le hi hW.2.2.1.2) (by decide) dX4_reasonOf_197 ?_
                                refine x_if_ne F dX4_reasonOf_198 (tgt := 211) (by decide) (fun h215 => ?_) (fun h215 => ?_)
                                · refine x_aload_n F dX4_reasonOf_211 2 rfl rfl ?_
                                  refine x_callVp (rest := []) F hR.2.2.1 rfl (c_X4_takenTugs l G A m ) k_X4_98 ⟨(Nat.le_of_ble_eq_true rfl), (Nat.le_of_ble_eq_true rfl), rfl, rfl⟩ (Nat.le_of_ble_eq_true rfl) (Nat.le_of_ble_eq_true rfl) dX4_reasonOf_212 rfl rfl (Nat.le_of_ble_eq_true rfl) hR ?_
                                  refine x_aload_n F dX4_reasonOf_215 2 rfl rfl ?_
                                  refine z_get (m := m) (j := 7) (v := .int (mY m 7)) F hR mw_806 rfl (by decide) rfl dX4_reasonOf_216 ?_
                                  refine x_icmp_lt F dX4_reasonOf_219 (tgt := 225) (by decide) (fun h216 => ?_) (fun h216 => ?_)
                                  · have h216' := Int32.not_le.mpr h216
                                    refine x_aload_n F dX4_reasonOf_225 2 rfl rfl ?_
                                    refine x_callVp (rest := []) F hR.2.2.1 rfl (c_X4_isBusyNow l G A m ) k_X4_146 ⟨(Nat.le_of_ble_eq_true rfl), (Nat.le_of_ble_eq_true rfl), rfl, rfl⟩ (Nat.le_of_ble_eq_true rfl) (Nat.le_of_ble_eq_true rfl) dX4_reasonOf_226 rfl rfl (Nat.le_of_ble_eq_true rfl) hR ?_
                                    refine x_if_eq F dX4_reasonOf_229 (tgt := 237) (by decide) (fun h217 => ?_) (fun h217 => ?_)
                                    · replace h217 := bI_0.mp h217
                                      refine x_iconst (v := 0) F rfl dX4_reasonOf_237 ?_
                                      exact x_iret F hE dX4_reasonOf_238 (Nat.le_of_ble_eq_true rfl) (Nat.le_of_ble_eq_true rfl) (⟨by unfold m_rea; rw [if_neg (fun q => q.elim h1 (fun q => h111 q.2)), if_neg (fun q => q.elim (fun q => q h112) (fun q => q h113)), if_neg (fun q => h167 q.2), if_neg (fun q => q.2.elim h185 (fun q => h203 q.2)), if_neg (fun q => q.elim h204 (fun q => by rw [if_pos h205] at q; exact h213' q)), if_neg h214', if_neg (fun q => q.elim (fun q => h215 q.1) (fun q => h216' q.2)), if_neg h217], rfl⟩)
                                    · replace h217 := bI_ne.mp h217
                                      refine x_bipush (v := 8) F rfl dX4_reasonOf_232 ?_
                                      refine x_goto F dX4_reasonOf_234 (tgt := 238) (by decide) ?_
                                      exact x_iret F hE dX4_reasonOf_238 (Nat.le_of_ble_eq_true rfl) (Nat.le_of_ble_eq_true rfl) (⟨by unfold m_rea; rw [if_neg (fun q => q.elim h1 (fun q => h111 q.2)), if_neg (fun q => q.elim (fun q => q h112) (fun q => q h113)), if_neg (fun q => h167 q.2), if_neg (fun q => q.2.elim h185 (fun q => h203 q.2)), if_neg (fun q => q.elim h204 (fun q => by rw [if_pos h205] at q; exact h213' q)), if_neg h214', if_neg (fun q => q.elim (fun q => h215 q.1) (fun q => h216' q.2)), if_pos h217], rfl⟩)
                                  · have h216' := Int32.not_lt.mp h216
                                    refine x_bipush (v := 7) F rfl dX4_reasonOf_222 ?_
                                    exact x_iret F hE dX4_reasonOf_224 (Nat.le_of_ble_eq_true rfl) (Nat.le_of_ble_eq_true rfl) (⟨by unfold m_rea; rw [if_neg (fun q => q.elim h1 (fun q => h111 q.2)), if_neg (fun q => q.elim (fun q => q h112) (fun q => q h113)), if_neg (fun q => h167 q.2), if_neg (fun q => q.2.elim h185 (fun q => h203 q.2)), if_neg (fun q => q.elim h204 (fun q => by rw [if_pos h205] at q; exact h213' q)), if_neg h214', if_pos (Or.inr ⟨h215, h216'⟩)], rfl⟩)
                                · refine x_aload_n F dX4_reasonOf_201 2 rfl rfl ?_
                                  refine z_get (m := m) (j := 5) (v := .int (mY m 5)) F hR mw_804 rfl (by decide) rfl dX4_reasonOf_202 ?_
                                  refine x_if_ne F dX4_reasonOf_205 (tgt := 225) (by decide) (fun h218 => ?_) (fun h218 => ?_)
                                  · refine x_aload_n F dX4_reasonOf_225 2 rfl rfl ?_
                                    refine x_callVp (rest := []) F hR.2.2.1 rfl (c_X4_isBusyNow l G A m ) k_X4_146 ⟨(Nat.le_of_ble_eq_true rfl), (Nat.le_of_ble_eq_true rfl), rfl, rfl⟩ (Nat.le_of_ble_eq_true rfl) (Nat.le_of_ble_eq_true rfl) dX4_reasonOf_226 rfl rfl (Nat.le_of_ble_eq_true rfl) hR ?_
                                    refine x_if_eq F dX4_reasonOf_229 (tgt := 237) (by decide) (fun h219 => ?_) (fun h219 => ?_)
                                    · replace h219 := bI_0.mp h219
                                      refine x_iconst (v := 0) F rfl dX4_reasonOf_237 ?_
                                      exact x_iret F hE dX4_reasonOf_238 (Nat.le_of_ble_eq_true rfl) (Nat.le_of_ble_eq_true rfl) (⟨by unfold m_rea; rw [if_neg (fun q => q.elim h1 (fun q => h111 q.2)), if_neg (fun q => q.elim (fun q => q h112) (fun q => q h113)), if_neg (fun q => h167 q.2), if_neg (fun q => q.2.elim h185 (fun q => h203 q.2)), if_neg (fun q => q.elim h204 (fun q => by rw [if_pos h205] at q; exact h213' q)), if_neg h214', if_neg (fun q => q.elim (fun q => h218 q.2) (fun q => q.1 h215)), if_neg h219], rfl⟩)
                                    · replace h219 := bI_ne.mp h219
                                      refine x_bipush (v := 8) F rfl dX4_reasonOf_232 ?_
                                      refine x_goto F dX4_reasonOf_234 (tgt := 238) (by decide) ?_
                                      exact x_iret F hE dX4_reasonOf_238 (Nat.le_of_ble_eq_true rfl) (Nat.le_of_ble_eq_true rfl) (⟨by unfold m_rea; rw [if_neg (fun q => q.elim h1 (fun q => h111 q.2)), if_neg (fun q => q.elim (fun q => q h112) (fun q => q h113)), if_neg (fun q => h167 q.2), if_neg (fun q => q.2.elim h185 (fun q => h203 q.2)), if_neg (fun q => q.elim h204 (fun q => by rw [if_pos h205] at q; exact h213' q)), if_neg h214', if_neg (fun q => q.elim (fun q => h218 q.2) (fun q => q.1 h215)), if_pos h219], rfl⟩)
                                  · refine x_goto F dX4_reasonOf_208 (tgt := 222) (by decide) ?_
                                    refine x_bipush (v := 7) F rfl dX4_reasonOf_222 ?_
                                    exact x_iret F hE dX4_reasonOf_224 (Nat.le_of_ble_eq_true rfl) (Nat.le_of_ble_eq_true rfl) (⟨by unfold m_rea; rw [if_neg (fun q => q.elim h1 (fun q => h111 q.2)), if_neg (fun q => q.elim (fun q => q h112) (fun q => q h113)), if_neg (fun q => h167 q.2), if_neg (fun q => q.2.elim h185 (fun q => h203 q.2)), if_neg (fun q => q.elim h204 (fun q => by rw [if_pos h205] at q; exact h213' q)), if_neg h214', if_pos (Or.inl ⟨h215, h218⟩)], rfl⟩)
                              · have h214' := Int32.not_le.mp h214
                                refine x_bipush (v := 6) F rfl dX4_reasonOf_189 ?_
                                exact x_iret F hE dX4_reasonOf_191 (Nat.le_of_ble_eq_true rfl) (Nat.le_of_ble_eq_true rfl) (⟨by unfold m_rea; rw [if_neg (fun q => q.elim h1 (fun q => h111 q.2)), if_neg (fun q => q.elim (fun q => q h112) (fun q => q h113)), if_neg (fun q => h167 q.2), if_neg (fun q => q.2.elim h185 (fun q => h203 q.2)), if_neg (fun q => q.elim h204 (fun q => by rw [if_pos h205] at q; exact h213' q)), if_pos h214'], rfl⟩)
                            · have h213' := Int32.not_le.mp h213
                              refine x_iconst (v := 5) F rfl dX4_reasonOf_173 ?_
                              exact x_iret F hE dX4_reasonOf_174 (Nat.le_of_ble_eq_true rfl) (Nat.le_of_ble_eq_true rfl) (⟨by unfold m_rea; rw [if_neg (fun q => q.elim h1 (fun q => h111 q.2)), if_neg (fun q => q.elim (fun q => q h112) (fun q => q h113)), if_neg (fun q => h167 q.2), if_neg (fun q => q.2.elim h185 (fun q => h203 q.2)), if_pos (Or.inr (by rw [if_pos h205]; exact h213'))], rfl⟩)
                      · refine x_iconst (v := 4) F rfl dX4_reasonOf_130 ?_
                        exact x_iret F hE dX4_reasonOf_131 (Nat.le_of_ble_eq_true rfl) (Nat.le_of_ble_eq_true rfl) (⟨by unfold m_rea; rw [if_neg (fun q => q.elim h1 (fun q => h111 q.2)), if_neg (fun q => q.elim (fun q => q h112) (fun q => q h113)), if_neg (fun q => h167 q.2), if_pos ⟨h168, Or.inr ⟨h186, h203⟩⟩], rfl⟩)
              · refine x_iconst (v := 3) F rfl dX4_reasonOf_102 ?_
                exact x_iret F hE dX4_reasonOf_103 (Nat.le_of_ble_eq_true rfl) (Nat.le_of_ble_eq_true rfl) (⟨by unfold m_rea; rw [if_neg (fun q => q.elim h1 (fun q => h111 q.2)), if_neg (fun q => q.elim (fun q => q h112) (fun q => q h113)), if_pos ⟨h114, h167⟩], rfl⟩)
          · refine x_iconst (v := 2) F rfl dX4_reasonOf_75 ?_
            exact x_iret F hE dX4_reasonOf_76 (Nat.le_of_ble_eq_true rfl) (Nat.le_of_ble_eq_true rfl) (⟨by unfold m_rea; rw [if_neg (fun q => q.elim h1 (fun q => h111 q.2)), if_pos (Or.inr h113)], rfl⟩)
      · replace h111 := bI_ne.mp h111
        refine x_iconst (v := 1) F rfl dX4_reasonOf_45 ?_
        exact x_iret F hE dX4_reasonOf_46 (Nat.le_of_ble_eq_true rfl) (Nat.le_of_ble_eq_true rfl) (⟨by unfold m_rea; rw [if_pos (Or.inr ⟨h2, h111⟩)], rfl⟩)
end MD3
