/-! the reference's own methods: sums, costs, reasons -/
section MD3
theorem fgo_ok {p : Nat → Bool} : ∀ (k i : Nat), i + k < 2 ^ 31 → ¬ fgo p k i = -1 → ∃ f, i ≤ f ∧ f < i + k ∧ p f = true ∧ fgo p k i = nI f
  | 0, i, _, h => absurd rfl h
  | k + 1, i, hb, h => by
    by_cases hp : p i = true
    · exact ⟨i, Nat.le_refl _, by omega, hp, if_pos hp⟩
    · have e : fgo p (k + 1) i = fgo p k (i + 1) := if_neg hp
      rw [e] at h ⊢
      obtain ⟨f, h1, h2, h3, h4⟩ := fgo_ok k (i + 1) (by omega) h
      exact ⟨f, by omega, by omega, h3, h4⟩
theorem fo_ok {m : MS} (hW : WfM m) {x : Int32} (h : ¬ m_fo m x = -1) : m_fo m x = nI (tN (m_fo m x)) ∧ tN (m_fo m x) < mf m ∧ p_fo m x (tN (m_fo m x)) = true := by
  have hm : mf m < 2 ^ 31 := Nat.lt_of_le_of_lt hW.2.2.1.2 (by decide)
  obtain ⟨f, h1, h2, h3, h4⟩ := fgo_ok (p := p_fo m x) (mf m) 0 (by omega) h
  have e : tN (m_fo m x) = f := by show tN (fgo _ _ _) = f; rw [h4]; exact nI_clamp (by omega)
  rw [e]
  exact ⟨h4, by omega, h3⟩
/-- what a flight counts for a member: 2 landings, 3 minutes, 4 with a teacher, 5 alone -/
def m_ls (m : MS) (x w : Int32) (f : Nat) : Int32 := if mZ m 29 f = 2 ∧ (mZ m 21 f = x ∨ mZ m 22 f = x) then (if w = 2 then 1 else if w = 3 then mZ m 28 f - mZ m 27 f else if w = 4 then (if mZ m 21 f = x ∧ m_wt m f = true then 1 else 0) else (if mZ m 21 f = x ∧ mZ m 22 f = -1 then 1 else 0)) else 0
def m_ld (m : MS) (x w : Int32) : Int32 := sumN (mf m) (m_ls m x w)
def m_cost (m : MS) (f : Nat) : Int32 := if mZ m 29 f = 2 then s_price (mZ m 24 f) + mZ m 14 (tN (mZ m 23 f)) * (if mZ m 28 f - mZ m 27 f < 180 then mZ m 28 f - mZ m 27 f else 180) else 0
def m_bill (m : MS) (i : Nat) : Int32 := -(mZ m 11 i) + sumN (mf m) (fun f => if mZ m 21 f = nI i then m_cost m f else 0)
def m_tm (m : MS) (i : Nat) (w : Int32) : Int32 := if w = 0 then mZ m 10 i else if w = 1 then (if m_fl m (nI i) = true then 1 else 0) else m_ld m (nI i) w
def m_gs (m : MS) (x w : Int32) (f : Nat) : Int32 := if mZ m 29 f = 2 ∧ mZ m 23 f = x then (if w = 2 then 1 else mZ m 28 f - mZ m 27 f) else 0
def m_tg (m : MS) (i : Nat) (w : Int32) : Int32 := if w = 0 then (if 0 < mZ m 18 i then 2 else if m_fo m (nI i) = -1 then 0 else 1) else if w = 1 then (if mZ m 16 i = 0 then 0 else 1) else if w = 4 then m_fo m (nI i) else sumN (mf m) (m_gs m (nI i) w)
def m_rea (m : MS) (f : Nat) : Int32 :=
  if m_fl m (mZ m 21 f) = true ∨ (¬ mZ m 22 f = -1 ∧ m_fl m (mZ m 22 f) = true) then 1
  else if ¬ m_fo m (mZ m 23 f) = -1 ∨ ¬ mZ m 16 (tN (mZ m 23 f)) = 0 then 2
  else if ¬ mZ m 22 f = -1 ∧ mZ m 13 (tN (mZ m 23 f)) = 1 then 3
  else if ¬ m_wt m f = true ∧ (mZ m 10 (tN (mZ m 21 f)) = 0 ∨ (mZ m 10 (tN (mZ m 21 f)) = 1 ∧ m_ld m (mZ m 21 f) 4 = 0)) then 4
  else if mZ m 15 (tN (mZ m 23 f)) < mY m 2 ∨ s_wind (if m_wt m f = true then 3 else mZ m 10 (tN (mZ m 21 f))) < mY m 2 then 5
  else if mY m 3 - mY m 1 < 10 then 6
  else if (mZ m 24 f = 0 ∧ mY m 5 = 0) ∨ (¬ mZ m 24 f = 0 ∧ mY m 7 ≤ m_tk m) then 7
  else if mY m 1 < mY m 4 then 8 else 0
theorem k_X4_109 : cwV_ "GliderDayModel" 109 "GliderDayModel" yX4_withTeacher cX4_withTeacher 2 (some .boolean) 1 := ⟨mw_950, mw_952, mw_38, mw_59, mw_953, ⟨by decide +kernel, by decide +kernel, by decide +kernel⟩⟩
set_option maxHeartbeats 4000000 in
set_option maxRecDepth 100000 in
theorem c_X4_landed (l : Launch) (G : GT) (A : Nat → Prop) (m : MS) (x w : Int32) (hW : WfM m) : Ct l yX4_landed cX4_landed 6 (some .int) ({ frames := 1, cells := 0, slots := 0, locals := 21 } : Room) G A [.ref (ma m 30), .int x, .int w] (fun H => RepM G A m H) (Pu (.int (m_ld m x w))) := by
  refine ct_of (own := "GliderDayModel") (by decide +kernel) rfl (Nat.le_of_ble_eq_true rfl) (fun E H0 F hE hR => ?_)
  show wx E H0 0 0 0 [(0, .ref (ma m 30)), (1, .int x), (2, .int w)] []
  refine x_iconst (v := 0) F rfl dX4_landed_0 ?_
  refine x_istore_n (lv' := [(3, .int 0), (0, .ref (ma m 30)), (1, .int x), (2, .int w)]) F dX4_landed_1 rfl (by decide) rfl ?_
  refine x_iconst (v := 0) F rfl dX4_landed_2 ?_
  refine x_istore (lv' := [(4, .int 0), (3, .int 0), (0, .ref (ma m 30)), (1, .int x), (2, .int w)]) F dX4_landed_3 (by decide) rfl ?_
  refine wx_sub (lv' := [(0, .ref (ma m 30)), (1, .int x), (2, .int w), (3, .int 0), (4, .int 0)]) [2, 3, 4, 1, 0] rfl ?_
  refine (loop_dn (N := (mf m)) (P := fun i => wx E H0 0 0 5 [(0, .ref (ma m 30)), (1, .int x), (2, .int w), (3, .int (sumN i (m_ls m x w))), (4, .int (nI i))] []) ?_ ?_) 0 (Nat.zero_le _)
  · refine x_iload F dX4_landed_5 4 rfl ?_
    refine x_aload_n F dX4_landed_7 0 rfl rfl ?_
    refine z_get (m := m) (j := 20) (v := .int (mY m 20)) F hR mw_819 rfl (by decide) rfl dX4_landed_8 ?_
    refine wx_i (y := nI (mf m)) hW.2.2.1.1 ?_
    refine x_icmp_ge F dX4_landed_11 (tgt := 165) (by decide) (fun _ => ?_) (fun h1 => absurd (Int32.le_refl _) h1)
    refine x_iload_n F dX4_landed_165 3 rfl rfl ?_
    exact x_iret F hE dX4_landed_166 (Nat.le_of_ble_eq_true rfl) (Nat.le_of_ble_eq_true rfl) (⟨rfl, rfl⟩)
  · intro i hi ih5
    refine x_iload F dX4_landed_5 4 rfl ?_
    refine x_aload_n F dX4_landed_7 0 rfl rfl ?_
    refine z_get (m := m) (j := 20) (v := .int (mY m 20)) F hR mw_819 rfl (by decide) rfl dX4_landed_8 ?_
    refine wx_i (y := nI (mf m)) hW.2.2.1.1 ?_
    refine x_icmp_ge F dX4_landed_11 (tgt := 165) (by decide) (fun h2 => absurd h2 (nI_ge hi ((Nat.lt_of_le_of_lt hW.2.2.1.2 (by decide))))) (fun _ => ?_)
    refine x_aload_n F dX4_landed_14 0 rfl rfl ?_
    refine z_get (m := m) (j := 29) (v := .ref (ma m 29)) F hR mw_828 rfl (by decide) rfl dX4_landed_15 ?_
    refine x_iload F dX4_landed_18 4 rfl ?_
    refine z_ildN (m := m) (j := 29) (i := i) F hR (by decide) rfl rfl (Nat.lt_of_lt_of_le hi hW.2.2.1.2) (by decide) dX4_landed_20 ?_
    refine x_iconst (v := 2) F rfl dX4_landed_21 ?_
    refine x_icmp_ne F dX4_landed_22 (tgt := 159) (by decide) (fun h3 => ?_) (fun h3 => ?_)
    · refine x_iinc (j := 4) (v := nI (i + 1)) (lv' := [(4, .int (nI (i + 1))), (0, .ref (ma m 30)), (1, .int x), (2, .int w), (3, .int (sumN i (m_ls m x w)))]) F dX4_landed_159 rfl (nI_1 _) (by decide) rfl ?_
      refine x_goto F dX4_landed_162 (tgt := 5) (by decide) ?_
      refine wx_sub (lv' := [(0, .ref (ma m 30)), (1, .int x), (2, .int w), (3, .int (sumN i (m_ls m x w))), (4, .int (nI (i + 1)))]) [1, 2, 3, 4, 0] rfl ?_
      refine wx_lv (lv' := [(0, .ref (ma m 30)), (1, .int x), (2, .int w), (3, .int (sumN (i + 1) (m_ls m x w))), (4, .int (nI (i + 1)))]) (by first | (simp [sumN, m_ls, h3]; done) | (exfalso; simp_all; done) | (simp_all [sumN, m_ls]; done)) ?_
      exact ih5
    · refine x_aload_n F dX4_landed_25 0 rfl rfl ?_
      refine z_get (m := m) (j := 21) (v := .ref (ma m 21)) F hR mw_820 rfl (by decide) rfl dX4_landed_26 ?_
      refine x_iload F dX4_landed_29 4 rfl ?_
      refine z_ildN (m := m) (j := 21) (i := i) F hR (by decide) rfl rfl (Nat.lt_of_lt_of_le hi hW.2.2.1.2) (by decide) dX4_landed_31 ?_
      refine x_iload_n F dX4_landed_32 1 rfl rfl ?_
      refine x_icmp_eq F dX4_landed_33 (tgt := 50) (by decide) (fun h4 => ?_) (fun h4 => ?_)
      · refine x_aload_n F dX4_landed_50 0 rfl rfl ?_
        refine z_get (m := m) (j := 21) (v := .ref (ma m 21)) F hR mw_820 rfl (by decide) rfl dX4_landed_51 ?_
        refine x_iload F dX4_landed_54 4 rfl ?_
        refine z_ildN (m := m) (j := 21) (i := i) F hR (by decide) rfl rfl (Nat.lt_of_lt_of_le hi hW.2.2.1.2) (by decide) dX4_landed_56 ?_
        refine x_iload_n F dX4_landed_57 1 rfl rfl ?_
        refine x_icmp_ne F dX4_landed_58 (tgt := 65) (by decide) (fun h5 => ?_) (fun h5 => ?_)
        · refine x_iconst (v := 0) F rfl dX4_landed_65 ?_
          refine x_istore (lv' := [(5, .int 0), (0, .ref (ma m 30)), (1, .int x), (2, .int w), (3, .int (sumN i (m_ls m x w))), (4, .int (nI i))]) F dX4_landed_66 (by decide) rfl ?_
          refine x_iload_n F dX4_landed_68 3 rfl rfl ?_
          refine x_iconst (v := 2) F rfl dX4_landed_69 ?_
          refine x_icmp_ne F dX4_landed_70 (tgt := 79) (by decide) (fun h6 => ?_) (fun h6 => ?_)
          · refine x_iload_n F dX4_landed_79 3 rfl rfl ?_
            refine x_iconst (v := 3) F rfl dX4_landed_80 ?_
            refine x_icmp_ne F dX4_landed_81 (tgt := 105) (by decide) (fun h7 => ?_) (fun h7 => ?_)
            · refine x_iload_n F dX4_landed_105 3 rfl rfl ?_
              refine x_iconst (v := 4) F rfl dX4_landed_106 ?_
              refine x_icmp_ne F dX4_landed_107 (tgt := 135) (by decide) (fun h8 => ?_) (fun h8 => ?_)
              · refine x_iload_n F dX4_landed_135 4 rfl rfl ?_
                refine x_iload F dX4_landed_136 0 rfl ?_
                refine x_if_eq F dX4_landed_138 (tgt := 156) (by decide) (fun _ => ?_) (fun h9 => absurd (by decide) h9)
                refine x_iconst (v := 0) F rfl dX4_landed_156 ?_
                refine x_iadd F dX4_landed_157 ?_
                refine x_istore_n (lv' := [(3, .int ((sumN i (m_ls m x w)) + 0)), (5, .int 0), (0, .ref (ma m 30)), (1, .int x), (2, .int w), (4, .int (nI i))]) F dX4_landed_158 rfl (by decide) rfl ?_
                refine x_iinc (j := 5) (v := nI (i + 1)) (lv' := [(4, .int (nI (i + 1))), (3, .int ((sumN i (m_ls m x w)) + 0)), (5, .int 0), (0, .ref (ma m 30)), (1, .int x), (2, .int w)]) F dX4_landed_159 rfl (nI_1 _) (by decide) rfl ?_
                refine x_goto F dX4_landed_162 (tgt := 5) (by decide) ?_
                refine wx_sub (lv' := [(0, .ref (ma m 30)), (1, .int x), (2, .int w), (3, .int ((sumN i (m_ls m x w)) + 0)), (4, .int (nI (i + 1)))]) [3, 4, 5, 1, 0] rfl ?_
                refine wx_lv (lv' := [(0, .ref (ma m 30)), (1, .int x), (2, .int w), (3, .int (sumN (i + 1) (m_ls m x w))), (4, .int (nI (i + 1)))]) (by first | (simp [sumN, m_ls, h3, h4, h5, h6, h7, h8]; done) | (exfalso; simp_all; done) | (simp_all [sumN, m_ls]; done)) ?_
                exact ih5
              · refine x_iload_n F dX4_landed_110 4 rfl rfl ?_
                refine x_iload F dX4_landed_111 0 rfl ?_
                refine x_if_eq F dX4_landed_113 (tgt := 129) (by decide) (fun _ => ?_) (fun h10 => absurd (by decide) h10)
                refine x_iconst (v := 0) F rfl dX4_landed_129 ?_
                refine x_iadd F dX4_landed_130 ?_
                refine x_istore_n (lv' := [(3, .int ((sumN i (m_ls m x w)) + 0)), (5, .int 0), (0, .ref (ma m 30)), (1, .int x), (2, .int w), (4, .int (nI i))]) F dX4_landed_131 rfl (by decide) rfl ?_
                refine x_goto F dX4_landed_132 (tgt := 159) (by decide) ?_
                refine x_iinc (j := 5) (v := nI (i + 1)) (lv' := [(4, .int (nI (i + 1))), (3, .int ((sumN i (m_ls m x w)) + 0)), (5, .int 0), (0, .ref (ma m 30)), (1, .int x), (2, .int w)]) F dX4_landed_159 rfl (nI_1 _) (by decide) rfl ?_
                refine x_goto F dX4_landed_162 (tgt := 5) (by decide) ?_
                refine wx_sub (lv' := [(0, .ref (ma m 30)), (1, .int x), (2, .int w), (3, .int ((sumN i (m_ls m x w)) + 0)), (4, .int (nI (i + 1)))]) [3, 4, 5, 1, 0] rfl ?_
                refine wx_lv (lv' := [(0, .ref (ma m 30)), (1, .int x), (2, .int w), (3, .int (sumN (i + 1) (m_ls m x w))), (4, .int (nI (i + 1)))]) (by first | (simp [sumN, m_ls, h3, h4, h5, h6, h7, h8]; done) | (exfalso; simp_all; done) | (simp_all [sumN, m_ls]; done)) ?_
                exact ih5
            · refine x_iload_n F dX4_landed_84 4 rfl rfl ?_
              refine x_aload_n F dX4_landed_85 1 rfl rfl ?_
              refine z_get (m := m) (j := 28) (v := .ref (ma m 28)) F hR mw_827 rfl (by decide) rfl dX4_landed_86 ?_
              refine x_iload F dX4_landed_89 5 rfl ?_
              refine z_ildN (m := m) (j := 28) (i := i) F hR (by decide) rfl rfl (Nat.lt_of_lt_of_le hi hW.2.2.1.2) (by decide) dX4_landed_91 ?_
              refine x_aload_n F dX4_landed_92 1 rfl rfl ?_
              refine z_get (m := m) (j := 27) (v := .ref (ma m 27)) F hR mw_826 rfl (by decide) rfl dX4_landed_93 ?_
              refine x_iload F dX4_landed_96 5 rfl ?_
              refine z_ildN (m := m) (j := 27) (i := i) F hR (by decide) rfl rfl (Nat.lt_of_lt_of_le hi hW.2.2.1.2) (by decide) dX4_landed_98 ?_
              refine x_isub F dX4_landed_99 ?_
              refine x_iadd F dX4_landed_100 ?_
              refine x_istore_n (lv' := [(3, .int ((sumN i (m_ls m x w)) + ((mZ m 28 i) - (mZ m 27 i)))), (5, .int 0), (0, .ref (ma m 30)), (1, .int x), (2, .int w), (4, .int (nI i))]) F dX4_landed_101 rfl (by decide) rfl ?_
              refine x_goto F dX4_landed_102 (tgt := 159) (by decide) ?_
              refine x_iinc (j := 5) (v := nI (i + 1)) (lv' := [(4, .int (nI (i + 1))), (3, .int ((sumN i (m_ls m x w)) + ((mZ m 28 i) - (mZ m 27 i)))), (5, .int 0), (0, .ref (ma m 30)), (1, .int x), (2, .int w)]) F dX4_landed_159 rfl (nI_1 _) (by decide) rfl ?_
              refine x_goto F dX4_landed_162 (tgt := 5) (by decide) ?_
              refine wx_sub (lv' := [(0, .ref (ma m 30)), (1, .int x), (2, .int w), (3, .int ((sumN i (m_ls m x w)) + ((mZ m 28 i) - (mZ m 27 i)))), (4, .int (nI (i + 1)))]) [3, 4, 5, 1, 0] rfl ?_
              refine wx_lv (lv' := [(0, .ref (ma m 30)), (1, .int x), (2, .int w), (3, .int (sumN (i + 1) (m_ls m x w))), (4, .int (nI (i + 1)))]) (by first | (simp [sumN, m_ls, h3, h4, h5, h6, h7]; done) | (exfalso; simp_all; done) | (simp_all [sumN, m_ls]; done)) ?_
              exact ih5
          · refine x_iinc (j := 4) (v := (sumN i (m_ls m x w)) + 1) (lv' := [(3, .int ((sumN i (m_ls m x w)) + 1)), (5, .int 0), (0, .ref (ma m 30)), (1, .int x), (2, .int w), (4, .int (nI i))]) F dX4_landed_73 rfl rfl (by decide) rfl ?_
            refine x_goto F dX4_landed_76 (tgt := 159) (by decide) ?_
            refine x_iinc (j := 5) (v := nI (i + 1)) (lv' := [(4, .int (nI (i + 1))), (3, .int ((sumN i (m_ls m x w)) + 1)), (5, .int 0), (0, .ref (ma m 30)), (1, .int x), (2, .int w)]) F dX4_landed_159 rfl (nI_1 _) (by decide) rfl ?_
            refine x_goto F dX4_landed_162 (tgt := 5) (by decide) ?_
            refine wx_sub (lv' := [(0, .ref (ma m 30)), (1, .int x), (2, .int w), (3, .int ((sumN i (m_ls m x w)) + 1)), (4, .int (nI (i + 1)))]) [3, 4, 5, 1, 0] rfl ?_
            refine wx_lv (lv' := [(0, .ref (ma m 30)), (1, .int x), (2, .int w), (3, .int (sumN (i + 1) (m_ls m x w))), (4, .int (nI (i + 1)))]) (by first | (simp [sumN, m_ls, h3, h4, h5, h6]; done) | (exfalso; simp_all; done) | (simp_all [sumN, m_ls]; done)) ?_
            exact ih5
        · refine x_iconst (v := 1) F rfl dX4_landed_61 ?_
          refine x_goto F dX4_landed_62 (tgt := 66) (by decide) ?_
          refine x_istore (lv' := [(5, .int 1), (0, .ref (ma m 30)), (1, .int x), (2, .int w), (3, .int (sumN i (m_ls m x w))), (4, .int (nI i))]) F dX4_landed_66 (by decide) rfl ?_
          refine x_iload_n F dX4_landed_68 3 rfl rfl ?_
          refine x_iconst (v := 2) F rfl dX4_landed_69 ?_
          refine x_icmp_ne F dX4_landed_70 (tgt := 79) (by decide) (fun h11 => ?_) (fun h11 => ?_)
          · refine x_iload_n F dX4_landed_79 3 rfl rfl ?_
            refine x_iconst (v := 3) F rfl dX4_landed_80 ?_
            refine x_icmp_ne F dX4_landed_81 (tgt := 105) (by decide) (fun h12 => ?_) (fun h12 => ?_)
            · refine x_iload_n F dX4_landed_105 3 rfl rfl ?_
              refine x_iconst (v := 4) F rfl dX4_landed_106 ?_
              refine x_icmp_ne F dX4_landed_107 (tgt := 135) (by decide) (fun h13 => ?_) (fun h13 => ?_)
              · refine x_iload_n F dX4_landed_135 4 rfl rfl ?_
                refine x_iload F dX4_landed_136 0 rfl ?_
                refine x_if_eq F dX4_landed_138 (tgt := 156) (by decide) (fun h14 => absurd h14 (by decide)) (fun _ => ?_)
                refine x_aload_n F dX4_landed_141 1 rfl rfl ?_
                refine z_get (m := m) (j := 22) (v := .ref (ma m 22)) F hR mw_821 rfl (by decide) rfl dX4_landed_142 ?_
                refine x_iload F dX4_landed_145 5 rfl ?_
                refine z_ildN (m := m) (j := 22) (i := i) F hR (by decide) rfl rfl (Nat.lt_of_lt_of_le hi hW.2.2.1.2) (by decide) dX4_landed_147 ?_
                refine x_iconst (v := (-1)) F rfl dX4_landed_148 ?_
                refine x_icmp_ne F dX4_landed_149 (tgt := 156) (by decide) (fun h15 => ?_) (fun h15 => ?_)
                · refine x_iconst (v := 0) F rfl dX4_landed_156 ?_
                  refine x_iadd F dX4_landed_157 ?_
                  refine x_istore_n (lv' := [(3, .int ((sumN i (m_ls m x w)) + 0)), (5, .int 1), (0, .ref (ma m 30)), (1, .int x), (2, .int w), (4, .int (nI i))]) F dX4_landed_158 rfl (by decide) rfl ?_
                  refine x_iinc (j := 5) (v := nI (i + 1)) (lv' := [(4, .int (nI (i + 1))), (3, .int ((sumN i (m_ls m x w)) + 0)), (5, .int 1), (0, .ref (ma m 30)), (1, .int x), (2, .int w)]) F dX4_landed_159 rfl (nI_1 _) (by decide) rfl ?_
                  refine x_goto F dX4_landed_162 (tgt := 5) (by decide) ?_
                  refine wx_sub (lv' := [(0, .ref (ma m 30)), (1, .int x), (2, .int w), (3, .int ((sumN i (m_ls m x w)) + 0)), (4, .int (nI (i + 1)))]) [3, 4, 5, 1, 0] rfl ?_
                  refine wx_lv (lv' := [(0, .ref (ma m 30)), (1, .int x), (2, .int w), (3, .int (sumN (i + 1) (m_ls m x w))), (4, .int (nI (i + 1)))]) (by first | (simp [sumN, m_ls, h3, h4, h5, h11, h12, h13, h15]; done) | (exfalso; simp_all; done) | (simp_all [sumN, m_ls]; done)) ?_
                  exact ih5
                · refine x_iconst (v := 1) F rfl dX4_landed_152 ?_
                  refine x_goto F dX4_landed_153 (tgt := 157) (by decide) ?_
                  refine x_iadd F dX4_landed_157 ?_
                  refine x_istore_n (lv' := [(3, .int ((sumN i (m_ls m x w)) + 1)), (5, .int 1), (0, .ref (ma m 30)), (1, .int x), (2, .int w), (4, .int (nI i))]) F dX4_landed_158 rfl (by decide) rfl ?_
                  refine x_iinc (j := 5) (v := nI (i + 1)) (lv' := [(4, .int (nI (i + 1))), (3, .int ((sumN i (m_ls m x w)) + 1)), (5, .int 1), (0, .ref (ma m 30)), (1, .int x), (2, .int w)]) F dX4_landed_159 rfl (nI_1 _) (by decide) rfl ?_
                  refine x_goto F dX4_landed_162 (tgt := 5) (by decide) ?_
                  refine wx_sub (lv' := [(0, .ref (ma m 30)), (1, .int x), (2, .int w), (3, .int ((sumN i (m_ls m x w)) + 1)), (4, .int (nI (i + 1)))]) [3, 4, 5, 1, 0] rfl ?_
                  refine wx_lv (lv' := [(0, .ref (ma m 30)), (1, .int x), (2, .int w), (3, .int (sumN (i + 1) (m_ls m x w))), (4, .int (nI (i + 1)))]) (by first | (simp [sumN, m_ls, h3, h4, h5, h11, h12, h13, h15]; done) | (exfalso; simp_all; done) | (simp_all [sumN, m_ls]; done)) ?_
                  exact ih5
              · refine x_iload_n F dX4_landed_110 4 rfl rfl ?_
                refine x_iload F dX4_landed_111 0 rfl ?_
                refine x_if_eq F dX4_landed_113 (tgt := 129) (by decide) (fun h16 => absurd h16 (by decide)) (fun _ => ?_)
                refine x_aload_n F dX4_landed_116 1 rfl rfl ?_
                refine x_iload F dX4_landed_117 5 rfl ?_
                refine x_callVp (rest := [.int (sumN i (m_ls m x w))]) F hR.2.2.1 rfl (c_X4_withTeacher l G A m i hi hW) k_X4_109 ⟨(Nat.le_of_ble_eq_true rfl), (Nat.le_of_ble_eq_true rfl), rfl, rfl⟩ (Nat.le_of_ble_eq_true rfl) (Nat.le_of_ble_eq_true rfl) dX4_landed_119 rfl rfl (Nat.le_of_ble_eq_true rfl) hR ?_
                refine x_if_eq F dX4_landed_122 (tgt := 129) (by decide) (fun h17 => ?_) (fun h17 => ?_)
                · replace h17 := bI_0.mp h17
                  refine x_iconst (v := 0) F rfl dX4_landed_129 ?_
                  refine x_iadd F dX4_landed_130 ?_
                  refine x_istore_n (lv' := [(3, .int ((sumN i (m_ls m x w)) + 0)), (5, .int 1), (0, .ref (ma m 30)), (1, .int x), (2, .int w), (4, .int (nI i))]) F dX4_landed_131 rfl (by decide) rfl ?_
                  refine x_goto F dX4_landed_132 (tgt := 159) (by decide) ?_
                  refine x_iinc (j := 5) (v := nI (i + 1)) (lv' := [(4, .int (nI (i + 1))), (3, .int ((sumN i (m_ls m x w)) + 0)), (5, .int 1), (0, .ref (ma m 30)), (1, .int x), (2, .int w)]) F dX4_landed_159 rfl (nI_1 _) (by decide) rfl ?_
                  refine x_goto F dX4_landed_162 (tgt := 5) (by decide) ?_
                  refine wx_sub (lv' := [(0, .ref (ma m 30)), (1, .int x), (2, .int w), (3, .int ((sumN i (m_ls m x w)) + 0)), (4, .int (nI (i + 1)))]) [3, 4, 5, 1, 0] rfl ?_
                  refine wx_lv (lv' := [(0, .ref (ma m 30)), (1, .int x), (2, .int w), (3, .int (sumN (i + 1) (m_ls m x w))), (4, .int (nI (i + 1)))]) (by first | (simp [sumN, m_ls, h3, h4, h5, h11, h12, h13, h17]; done) | (exfalso; simp_all; done) | (simp_all [sumN, m_ls]; done)) ?_
                  exact ih5
                · replace h17 := bI_ne.mp h17
                  refine x_iconst (v := 1) F rfl dX4_landed_125 ?_
                  refine x_goto F dX4_landed_126 (tgt := 130) (by decide) ?_
                  refine x_iadd F dX4_landed_130 ?_
                  refine x_istore_n (lv' := [(3, .int ((sumN i (m_ls m x w)) + 1)), (5, .int 1), (0, .ref (ma m 30)), (1, .int x), (2, .int w), (4, .int (nI i))]) F dX4_landed_131 rfl (by decide) rfl ?_
                  refine x_goto F dX4_landed_132 (tgt := 159) (by decide) ?_
                  refine x_iinc (j := 5) (v := nI (i + 1)) (lv' := [(4, .int (nI (i + 1))), (3, .int ((sumN i (m_ls m x w)) + 1)), (5, .int 1), (0, .ref (ma m 30)), (1, .int x), (2, .int w)]) F dX4_landed_159 rfl (nI_1 _) (by decide) rfl ?_
                  refine x_goto F dX4_landed_162 (tgt := 5) (by decide) ?_
                  refine wx_sub (lv' := [(0, .ref (ma m 30)), (1, .int x), (2, .int w), (3, .int ((sumN i (m_ls m x w)) + 1)), (4, .int (nI (i + 1)))]) [3, 4, 5, 1, 0] rfl ?_
                  refine wx_lv (lv' := [(0, .ref (ma m 30)), (1, .int x), (2, .int w), (3, .int (sumN (i + 1) (m_ls m x w))), (4, .int (nI (i + 1)))]) (by first | (simp [sumN, m_ls, h3, h4, h5, h11, h12, h13, h17]; done) | (exfalso; simp_all; done) | (simp_all [sumN, m_ls]; done)) ?_
                  exact ih5
            · refine x_iload_n F dX4_landed_84 4 rfl rfl ?_
              refine x_aload_n F dX4_landed_85 1 rfl rfl ?_
              refine z_get (m := m) (j := 28) (v := .ref (ma m 28)) F hR mw_827 rfl (by decide) rfl dX4_landed_86 ?_
              refine x_iload F dX4_landed_89 5 rfl ?_
              refine z_ildN (m := m) (j := 28) (i := i) F hR (by decide) rfl rfl (Nat.lt_of_lt_of_le hi hW.2.2.1.2) (by decide) dX4_landed_91 ?_
              refine x_aload_n F dX4_landed_92 1 rfl rfl ?_
              refine z_get (m := m) (j := 27) (v := .ref (ma m 27)) F hR mw_826 rfl (by decide) rfl dX4_landed_93 ?_
              refine x_iload F dX4_landed_96 5 rfl ?_
              refine z_ildN (m := m) (j := 27) (i := i) F hR (by decide) rfl rfl (Nat.lt_of_lt_of_le hi hW.2.2.1.2) (by decide) dX4_landed_98 ?_
              refine x_isub F dX4_landed_99 ?_
              refine x_iadd F dX4_landed_100 ?_
              refine x_istore_n (lv' := [(3, .int ((sumN i (m_ls m x w)) + ((mZ m 28 i) - (mZ m 27 i)))), (5, .int 1), (0, .ref (ma m 30)), (1, .int x), (2, .int w), (4, .int (nI i))]) F dX4_landed_101 rfl (by decide) rfl ?_
              refine x_goto F dX4_landed_102 (tgt := 159) (by decide) ?_
              refine x_iinc (j := 5) (v := nI (i + 1)) (lv' := [(4, .int (nI (i + 1))), (3, .int ((sumN i (m_ls m x w)) + ((mZ m 28 i) - (mZ m 27 i)))), (5, .int 1), (0, .ref (ma m 30)), (1, .int x), (2, .int w)]) F dX4_landed_159 rfl (nI_1 _) (by decide) rfl ?_
              refine x_goto F dX4_landed_162 (tgt := 5) (by decide) ?_
              refine wx_sub (lv' := [(0, .ref (ma m 30)), (1, .int x), (2, .int w), (3, .int ((sumN i (m_ls m x w)) + ((mZ m 28 i) - (mZ m 27 i)))), (4, .int (nI (i + 1)))]) [3, 4, 5, 1, 0] rfl ?_
              refine wx_lv (lv' := [(0, .ref (ma m 30)), (1, .int x), (2, .int w), (3, .int (sumN (i + 1) (m_ls m x w))), (4, .int (nI (i + 1)))]) (by first | (simp [sumN, m_ls, h3, h4, h5, h11, h12]; done) | (exfalso; simp_all; done) | (simp_all [sumN, m_ls]; done)) ?_
              exact ih5
          · refine x_iinc (j := 4) (v := (sumN i (m_ls m x w)) + 1) (lv' := [(3, .int ((sumN i (m_ls m x w)) + 1)), (5, .int 1), (0, .ref (ma m 30)), (1, .int x), (2, .int w), (4, .int (nI i))]) F dX4_landed_73 rfl rfl (by decide) rfl ?_
            refine x_goto F dX4_landed_76 (tgt := 159) (by decide) ?_
            refine x_iinc (j := 5) (v := nI (i + 1)) (lv' := [(4, .int (nI (i + 1))), (3, .int ((sumN i (m_ls m x w)) + 1)), (5, .int 1), (0, .ref (ma m 30)), (1, .int x), (2, .int w)]) F dX4_landed_159 rfl (nI_1 _) (by decide) rfl ?_
            refine x_goto F dX4_landed_162 (tgt := 5) (by decide) ?_
            refine wx_sub (lv' := [(0, .ref (ma m 30)), (1, .int x), (2, .int w), (3, .int ((sumN i (m_ls m x w)) + 1)), (4, .int (nI (i + 1)))]) [3, 4, 5, 1, 0] rfl ?_
            refine wx_lv (lv' := [(0, .ref (ma m 30)), (1, .int x), (2, .int w), (3, .int (sumN (i + 1) (m_ls m x w))), (4, .int (nI (i + 1)))]) (by first | (simp [sumN, m_ls, h3, h4, h5, h11]; done) | (exfalso; simp_all; done) | (simp_all [sumN, m_ls]; done)) ?_
            exact ih5
      · refine x_aload_n F dX4_landed_36 0 rfl rfl ?_
        refine z_get (m := m) (j := 22) (v := .ref (ma m 22)) F hR mw_821 rfl (by decide) rfl dX4_landed_37 ?_
        refine x_iload F dX4_landed_40 4 rfl ?_
        refine z_ildN (m := m) (j := 22) (i := i) F hR (by decide) rfl rfl (Nat.lt_of_lt_of_le hi hW.2.2.1.2) (by decide) dX4_landed_42 ?_
        refine x_iload_n F dX4_landed_43 1 rfl rfl ?_
        refine x_icmp_eq F dX4_landed_44 (tgt := 50) (by decide) (fun h18 => ?_) (fun h18 => ?_)
        · refine x_aload_n F dX4_landed_50 0 rfl rfl ?_
          refine z_get (m := m) (j := 21) (v := .ref (ma m 21)) F hR mw_820 rfl (by decide) rfl dX4_landed_51 ?_
          refine x_iload F dX4_landed_54 4 rfl ?_
          refine z_ildN (m := m) (j := 21) (i := i) F hR (by decide) rfl rfl (Nat.lt_of_lt_of_le hi hW.2.2.1.2) (by decide) dX4_landed_56 ?_
          refine x_iload_n F dX4_landed_57 1 rfl rfl ?_
          refine x_icmp_ne F dX4_landed_58 (tgt := 65) (by decide) (fun h19 => ?_) (fun h19 => ?_)
          · refine x_iconst (v := 0) F rfl dX4_landed_65 ?_
            refine x_istore (lv' := [(5, .int 0), (0, .ref (ma m 30)), (1, .int x), (2, .int w), (3, .int (sumN i (m_ls m x w))), (4, .int (nI i))]) F dX4_landed_66 (by decide) rfl ?_
            refine x_iload_n F dX4_landed_68 3 rfl rfl ?_
            refine x_iconst (v := 2) F rfl dX4_landed_69 ?_
            refine x_icmp_ne F dX4_landed_70 (tgt := 79) (by decide) (fun h20 => ?_) (fun h20 => ?_)
            · refine x_iload_n F dX4_landed_79 3 rfl rfl ?_
              refine x_iconst (v := 3) F rfl dX4_landed_80 ?_
              refine x_icmp_ne F dX4_landed_81 (tgt := 105) (by decide) (fun h21 => ?_) (fun h21 => ?_)
              · refine x_iload_n F dX4_landed_105 3 rfl rfl ?_
                refine x_iconst (v := 4) F rfl dX4_landed_106 ?_
                refine x_icmp_ne F dX4_landed_107 (tgt := 135) (by decide) (fun h22 => ?_) (fun h22 => ?_)
                · refine x_iload_n F dX4_landed_135 4 rfl rfl ?_
                  refine x_iload F dX4_landed_136 0 rfl ?_
                  refine x_if_eq F dX4_landed_138 (tgt := 156) (by decide) (fun _ => ?_) (fun h23 => absurd (by decide) h23)
                  refine x_iconst (v := 0) F rfl dX4_landed_156 ?_
                  refine x_iadd F dX4_landed_157 ?_
                  refine x_istore_n (lv' := [(3, .int ((sumN i (m_ls m x w)) + 0)), (5, .int 0), (0, .ref (ma m 30)), (1, .int x), (2, .int w), (4, .int (nI i))]) F dX4_landed_158 rfl (by decide) rfl ?_
                  refine x_iinc (j := 5) (v := nI (i + 1)) (lv' := [(4, .int (nI (i + 1))), (3, .int ((sumN i (m_ls m x w)) + 0)), (5, .int 0), (0, .ref (ma m 30)), (1, .int x), (2, .int w)]) F dX4_landed_159 rfl (nI_1 _) (by decide) rfl ?_
                  refine x_goto F dX4_landed_162 (tgt := 5) (by decide) ?_
                  refine wx_sub (lv' := [(0, .ref (ma m 30)), (1, .int x), (2, .int w), (3, .int ((sumN i (m_ls m x w)) + 0)), (4, .int (nI (i + 1)))]) [3, 4, 5, 1, 0] rfl ?_
                  refine wx_lv (lv' := [(0, .ref (ma m 30)), (1, .int x), (2, .int w), (3, .int (sumN (i + 1) (m_ls m x w))), (4, .int (nI (i + 1)))]) (by first | (simp [sumN, m_ls, h3, h4, h18, h19, h20, h21, h22]; done) | (exfalso; simp_all; done) | (simp_all [sumN, m_ls]; done)) ?_
                  exact ih5
                · refine x_iload_n F dX4_landed_110 4 rfl rfl ?_
                  refine x_iload F dX4_landed_111 0 rfl ?_
                  refine x_if_eq F dX4_landed_113 (tgt := 129) (by decide) (fun _ => ?_) (fun h24 => absurd (by decide) h24)
                  refine x_iconst (v := 0) F rfl dX4_landed_129 ?_
                  refine x_iadd F dX4_landed_130 ?_
                  refine x_istore_n (lv' := [(3, .int ((sumN i (m_ls m x w)) + 0)), (5, .int 0), (0, .ref (ma m 30)), (1, .int x), (2, .int w), (4, .int (nI i))]) F dX4_landed_131 rfl (by decide) rfl ?_
                  refine x_goto F dX4_landed_132 (tgt := 159) (by decide) ?_
                  refine x_iinc (j := 5) (v := nI (i + 1)) (lv' := [(4, .int (nI (i + 1))), (3, .int ((sumN i (m_ls m x w)) + 0)), (5, .int 0), (0, .ref (ma m 30)), (1, .int x), (2, .int w)]) F dX4_landed_159 rfl (nI_1 _) (by decide) rfl ?_
                  refine x_goto F dX4_landed_162 (tgt := 5) (by decide) ?_
                  refine wx_sub (lv' := [(0, .ref (ma m 30)), (1, .int x), (2, .int w), (3, .int ((sumN i (m_ls m x w)) + 0)), (4, .int (nI (i + 1)))]) [3, 4, 5, 1, 0] rfl ?_
                  refine wx_lv (lv' := [(0, .ref (ma m 30)), (1, .int x), (2, .int w), (3, .int (sumN (i + 1) (m_ls m x w))), (4, .int (nI (i + 1)))]) (by first | (simp [sumN, m_ls, h3, h4, h18, h19, h20, h21, h22]; done) | (exfalso; simp_all; done) | (simp_all [sumN, m_ls]; done)) ?_
                  exact ih5
              · refine x_iload_n F dX4_landed_84 4 rfl rfl ?_
                refine x_aload_n F dX4_landed_85 1 rfl rfl ?_
                refine z_get (m := m) (j := 28) (v := .ref (ma m 28)) F hR mw_827 rfl (by decide) rfl dX4_landed_86 ?_
                refine x_iload F dX4_landed_89 5 rfl ?_
                refine z_ildN (m := m) (j := 28) (i := i) F hR (by decide) rfl rfl (Nat.lt_of_lt_of_le hi hW.2.2.1.2) (by decide) dX4_landed_91 ?_
                refine x_aload_n F dX4_landed_92 1 rfl rfl ?_
                refine z_get (m := m) (j := 27) (v := .ref (ma m 27)) F hR mw_826 rfl (by decide) rfl dX4_landed_93 ?_
                refine x_iload F dX4_landed_96 5 rfl ?_
                refine z_ildN (m := m) (j := 27) (i := i) F hR (by decide) rfl rfl (Nat.lt_of_lt_of_le hi hW.2.2.1.2) (by decide) dX4_landed_98 ?_
                refine x_isub F dX4_landed_99 ?_
                refine x_iadd F dX4_landed_100 ?_
                refine x_istore_n (lv' := [(3, .int ((sumN i (m_ls m x w)) + ((mZ m 28 i) - (mZ m 27 i)))), (5, .int 0), (0, .ref (ma m 30)), (1, .int x), (2, .int w), (4, .int (nI i))]) F dX4_landed_101 rfl (by decide) rfl ?_
                refine x_goto F dX4_landed_102 (tgt := 159) (by decide) ?_
                refine x_iinc (j := 5) (v := nI (i + 1)) (lv' := [(4, .int (nI (i + 1))), (3, .int ((sumN i (m_ls m x w)) + ((mZ m 28 i) - (mZ m 27 i)))), (5, .int 0), (0, .ref (ma m 30)), (1, .int x), (2, .int w)]) F dX4_landed_159 rfl (nI_1 _) (by decide) rfl ?_
                refine x_goto F dX4_landed_162 (tgt := 5) (by decide) ?_
                refine wx_sub (lv' := [(0, .ref (ma m 30)), (1, .int x), (2, .int w), (3, .int ((sumN i (m_ls m x w)) + ((mZ m 28 i) - (mZ m 27 i)))), (4, .int (nI (i + 1)))]) [3, 4, 5, 1, 0] rfl ?_
                refine wx_lv (lv' := [(0, .ref (ma m 30)), (1, .int x), (2, .int w), (3, .int (sumN (i + 1) (m_ls m x w))), (4, .int (nI (i + 1)))]) (by first | (simp [sumN, m_ls, h3, h4, h18, h19, h20, h21]; done) | (exfalso; simp_all; done) | (simp_all [sumN, m_ls]; done)) ?_
                exact ih5
            · refine x_iinc (j := 4) (v := (sumN i (m_ls m x w)) + 1) (lv' := [(3, .int ((sumN i (m_ls m x w)) + 1)), (5, .int 0), (0, .ref (ma m 30)), (1, .int x), (2, .int w), (4, .int (nI i))]) F dX4_landed_73 rfl rfl (by decide) rfl ?_
              refine x_goto F dX4_landed_76 (tgt := 159) (by decide) ?_
              refine x_iinc (j := 5) (v := nI (i + 1)) (lv' := [(4, .int (nI (i + 1))), (3, .int ((sumN i (m_ls m x w)) + 1)), (5, .int 0), (0, .ref (ma m 30)), (1, .int x), (2, .int w)]) F dX4_landed_159 rfl (nI_1 _) (by decide) rfl ?_
              refine x_goto F dX4_landed_162 (tgt := 5) (by decide) ?_
              refine wx_sub (lv' := [(0, .ref (ma m 30)), (1, .int x), (2, .int w), (3, .int ((sumN i (m_ls m x w)) + 1)), (4, .int (nI (i + 1)))]) [3, 4, 5, 1, 0] rfl ?_
              refine wx_lv (lv' := [(0, .ref (ma m 30)), (1, .int x), (2, .int w), (3, .int (sumN (i + 1) (m_ls m x w))), (4, .int (nI (i + 1)))]) (by first | (simp [sumN, m_ls, h3, h4, h18, h19, h20]; done) | (exfalso; simp_all; done) | (simp_all [sumN, m_ls]; done)) ?_
              exact ih5
          · refine x_iconst (v := 1) F rfl dX4_landed_61 ?_
            refine x_goto F dX4_landed_62 (tgt := 66) (by decide) ?_
            refine x_istore (lv' := [(5, .int 1), (0, .ref (ma m 30)), (1, .int x), (2, .int w), (3, .int (sumN i (m_ls m x w))), (4, .int (nI i))]) F dX4_landed_66 (by decide) rfl ?_
            refine x_iload_n F dX4_landed_68 3 rfl rfl ?_
            refine x_iconst (v := 2) F rfl dX4_landed_69 ?_
            refine x_icmp_ne F dX4_landed_70 (tgt := 79) (by decide) (fun h25 => ?_) (fun h25 => ?_)
            · refine x_iload_n F dX4_landed_79 3 rfl rfl ?_
              refine x_iconst (v := 3) F rfl dX4_landed_80 ?_
              refine x_icmp_ne F dX4_landed_81 (tgt := 105) (by decide) (fun h26 => ?_) (fun h26 => ?_)
              · refine x_iload_n F dX4_landed_105 3 rfl rfl ?_
                refine x_iconst (v := 4) F rfl dX4_landed_106 ?_
                refine x_icmp_ne F dX4_landed_107 (tgt := 135) (by decide) (fun h27 => ?_) (fun h27 => ?_)
                · refine x_iload_n F dX4_landed_135 4 rfl rfl ?_
                  refine x_iload F dX4_landed_136 0 rfl ?_
                  refine x_if_eq F dX4_landed_138 (tgt := 156) (by decide) (fun h28 => absurd h28 (by decide)) (fun _ => ?_)
                  refine x_aload_n F dX4_landed_141 1 rfl rfl ?_
                  refine z_get (m := m) (j := 22) (v := .ref (ma m 22)) F hR mw_821 rfl (by decide) rfl dX4_landed_142 ?_
                  refine x_iload F dX4_landed_145 5 rfl ?_
                  refine z_ildN (m := m) (j := 22) (i := i) F hR (by decide) rfl rfl (Nat.lt_of_lt_of_le hi hW.2.2.1.2) (by decide) dX4_landed_147 ?_
                  refine x_iconst (v := (-1)) F rfl dX4_landed_148 ?_
                  refine x_icmp_ne F dX4_landed_149 (tgt := 156) (by decide) (fun h29 => ?_) (fun h29 => ?_)
                  · refine x_iconst (v := 0) F rfl dX4_landed_156 ?_
                    refine x_iadd F dX4_landed_157 ?_
                    refine x_istore_n (lv' := [(3, .int ((sumN i (m_ls m x w)) + 0)), (5, .int 1), (0, .ref (ma m 30)), (1, .int x), (2, .int w), (4, .int (nI i))]) F dX4_landed_158 rfl (by decide) rfl ?_
                    refine x_iinc (j := 5) (v := nI (i + 1)) (lv' := [(4, .int (nI (i + 1))), (3, .int ((sumN i (m_ls m x w)) + 0)), (5, .int 1), (0, .ref (ma m 30)), (1, .int x), (2, .int w)]) F dX4_landed_159 rfl (nI_1 _) (by decide) rfl ?_
                    refine x_goto F dX4_landed_162 (tgt := 5) (by decide) ?_
                    refine wx_sub (lv' := [(0, .ref (ma m 30)), (1, .int x), (2, .int w), (3, .int ((sumN i (m_ls m x w)) + 0)), (4, .int (nI (i + 1)))]) [3, 4, 5, 1, 0] rfl ?_
                    refine wx_lv (lv' := [(0, .ref (ma m 30)), (1, .int x), (2, .int w), (3, .int (sumN (i + 1) (m_ls m x w))), (4, .int (nI (i + 1)))]) (by first | (simp [sumN, m_ls, h3, h4, h18, h19, h25, h26, h27, h29]; done) | (exfalso; simp_all; done) | (simp_all [sumN, m_ls]; done)) ?_
                    exact ih5
                  · refine x_iconst (v := 1) F rfl dX4_landed_152 ?_
                    refine x_goto F dX4_landed_153 (tgt := 157) (by decide) ?_
                    refine x_iadd F dX4_landed_157 ?_
                    refine x_istore_n (lv' := [(3, .int ((sumN i (m_ls m x w)) + 1)), (5, .int 1), (0, .ref (ma m 30)), (1, .int x), (2, .int w), (4, .int (nI i))]) F dX4_landed_158 rfl (by decide) rfl ?_
                    refine x_iinc (j := 5) (v := nI (i + 1)) (lv' := [(4, .int (nI (i + 1))), (3, .int ((sumN i (m_ls m x w)) + 1)), (5, .int 1), (0, .ref (ma m 30)), (1, .int x), (2, .int w)]) F dX4_landed_159 rfl (nI_1 _) (by decide) rfl ?_
                    refine x_goto F dX4_landed_162 (tgt := 5) (by decide) ?_
                    refine wx_sub (lv' := [(0, .ref (ma m 30)), (1, .int x), (2, .int w), (3, .int ((sumN i (m_ls m x w)) + 1)), (4, .int (nI (i + 1)))]) [3, 4, 5, 1, 0] rfl ?_
                    refine wx_lv (lv' := [(0, .ref (ma m 30)), (1, .int x), (2, .int w), (3, .int (sumN (i + 1) (m_ls m x w))), (4, .int (nI (i + 1)))]) (by first | (simp [sumN, m_ls, h3, h4, h18, h19, h25, h26, h27, h29]; done) | (exfalso; simp_all; done) | (simp_all [sumN, m_ls]; done)) ?_
                    exact ih5
                · refine x_iload_n F dX4_landed_110 4 rfl rfl ?_
                  refine x_iload F dX4_landed_111 0 rfl ?_
                  refine x_if_eq F dX4_landed_113 (tgt := 129) (by decide) (fun h30 => absurd h30 (by decide)) (fun _ => ?_)
                  refine x_aload_n F dX4_landed_116 1 rfl rfl ?_
                  refine x_iload F dX4_landed_117 5 rfl ?_
                  refine x_callVp (rest := [.int (sumN i (m_ls m x w))]) F hR.2.2.1 rfl (c_X4_withTeacher l G A m i hi hW) k_X4_109 ⟨(Nat.le_of_ble_eq_true rfl), (Nat.le_of_ble_eq_true rfl), rfl, rfl⟩ (Nat.le_of_ble_eq_true rfl) (Nat.le_of_ble_eq_true rfl) dX4_landed_119 rfl rfl (Nat.le_of_ble_eq_true rfl) hR ?_
                  refine x_if_eq F dX4_landed_122 (tgt := 129) (by decide) (fun h31 => ?_) (fun h31 => ?_)
                  · replace h31 := bI_0.mp h31
                    refine x_iconst (v := 0) F rfl dX4_landed_129 ?_
                    refine x_iadd F dX4_landed_130 ?_
                    refine x_istore_n (lv' := [(3, .int ((sumN i (m_ls m x w)) + 0)), (5, .int 1), (0, .ref (ma m 30)), (1, .int x), (2, .int w), (4, .int (nI i))]) F dX4_landed_131 rfl (by decide) rfl ?_
                    refine x_goto F dX4_landed_132 (tgt := 159) (by decide) ?_
                    refine x_iinc (j := 5) (v := nI (i + 1)) (lv' := [(4, .int (nI (i + 1))), (3, .int ((sumN i (m_ls m x w)) + 0)), (5, .int 1), (0, .ref (ma m 30)), (1, .int x), (2, .int w)]) F dX4_landed_159 rfl (nI_1 _) (by decide) rfl ?_
                    refine x_goto F dX4_landed_162 (tgt := 5) (by decide) ?_
                    refine wx_sub (lv' := [(0, .ref (ma m 30)), (1, .int x), (2, .int w), (3, .int ((sumN i (m_ls m x w)) + 0)), (4, .int (nI (i + 1)))]) [3, 4, 5, 1, 0] rfl ?_
                    refine wx_lv (lv' := [(0, .ref (ma m 30)), (1, .int x), (2, .int w), (3, .int (sumN (i + 1) (m_ls m x w))), (4, .int (nI (i + 1)))]) (by first | (simp [sumN, m_ls, h3, h4, h18, h19, h25, h26, h27, h31]; done) | (exfalso; simp_all; done) | (simp_all [sumN, m_ls]; done)) ?_
                    exact ih5
                  · replace h31 := bI_ne.mp h31
                    refine x_iconst (v := 1) F rfl dX4_landed_125 ?_
                    refine x_goto F dX4_landed_126 (tgt := 130) (by decide) ?_
                    refine x_iadd F dX4_landed_130 ?_
                    refine x_istore_n (lv' := [(3, .int ((sumN i (m_ls m x w)) + 1)), (5, .int 1), (0, .ref (ma m 30)), (1, .int x), (2, .int w), (4, .int (nI i))]) F dX4_landed_131 rfl (by decide) rfl ?_
                    refine x_goto F dX4_landed_132 (tgt := 159) (by decide) ?_
                    refine x_iinc (j := 5) (v := nI (i + 1)) (lv' := [(4, .int (nI (i + 1))), (3, .int ((sumN i (m_ls m x w)) + 1)), (5, .int 1), (0, .ref (ma m 30)), (1, .int x), (2, .int w)]) F dX4_landed_159 rfl (nI_1 _) (by decide) rfl ?_
                    refine x_goto F dX4_landed_162 (tgt := 5) (by decide) ?_
                    refine wx_sub (lv' := [(0, .ref (ma m 30)), (1, .int x), (2, .int w), (3, .int ((sumN i (m_ls m x w)) + 1)), (4, .int (nI (i + 1)))]) [3, 4, 5, 1, 0] rfl ?_
                    refine wx_lv (lv' := [(0, .ref (ma m 30)), (1, .int x), (2, .int w), (3, .int (sumN (i + 1) (m_ls m x w))), (4, .int (nI (i + 1)))]) (by first | (simp [sumN, m_ls, h3, h4, h18, h19, h25, h26, h27, h31]; done) | (exfalso; simp_all; done) | (simp_all [sumN, m_ls]; done)) ?_
                    exact ih5
              · refine x_iload_n F dX4_landed_84 4 rfl rfl ?_
                refine x_aload_n F dX4_landed_85 1 rfl rfl ?_
                refine z_get (m := m) (j := 28) (v := .ref (ma m 28)) F hR mw_827 rfl (by decide) rfl dX4_landed_86 ?_
                refine x_iload F dX4_landed_89 5 rfl ?_
                refine z_ildN (m := m) (j := 28) (i := i) F hR (by decide) rfl rfl (Nat.lt_of_lt_of_le hi hW.2.2.1.2) (by decide) dX4_landed_91 ?_
                refine x_aload_n F dX4_landed_92 1 rfl rfl ?_
                refine z_get (m := m) (j := 27) (v := .ref (ma m 27)) F hR mw_826 rfl (by decide) rfl dX4_landed_93 ?_
                refine x_iload F dX4_landed_96 5 rfl ?_
                refine z_ildN (m := m) (j := 27) (i := i) F hR (by decide) rfl rfl (Nat.lt_of_lt_of_le hi hW.2.2.1.2) (by decide) dX4_landed_98 ?_
                refine x_isub F dX4_landed_99 ?_
                refine x_iadd F dX4_landed_100 ?_
                refine x_istore_n (lv' := [(3, .int ((sumN i (m_ls m x w)) + ((mZ m 28 i) - (mZ m 27 i)))), (5, .int 1), (0, .ref (ma m 30)), (1, .int x), (2, .int w), (4, .int (nI i))]) F dX4_landed_101 rfl (by decide) rfl ?_
                refine x_goto F dX4_landed_102 (tgt := 159) (by decide) ?_
                refine x_iinc (j := 5) (v := nI (i + 1)) (lv' := [(4, .int (nI (i + 1))), (3, .int ((sumN i (m_ls m x w)) + ((mZ m 28 i) - (mZ m 27 i)))), (5, .int 1), (0, .ref (ma m 30)), (1, .int x), (2, .int w)]) F dX4_landed_159 rfl (nI_1 _) (by decide) rfl ?_
                refine x_goto F dX4_landed_162 (tgt := 5) (by decide) ?_
                refine wx_sub (lv' := [(0, .ref (ma m 30)), (1, .int x), (2, .int w), (3, .int ((sumN i (m_ls m x w)) + ((mZ m 28 i) - (mZ m 27 i)))), (4, .int (nI (i + 1)))]) [3, 4, 5, 1, 0] rfl ?_
                refine wx_lv (lv' := [(0, .ref (ma m 30)), (1, .int x), (2, .int w), (3, .int (sumN (i + 1) (m_ls m x w))), (4, .int (nI (i + 1)))]) (by first | (simp [sumN, m_ls, h3, h4, h18, h19, h25, h26]; done) | (exfalso; simp_all; done) | (simp_all [sumN, m_ls]; done)) ?_
                exact ih5
            · refine x_iinc (j := 4) (v := (sumN i (m_ls m x w)) + 1) (lv' := [(3, .int ((sumN i (m_ls m x w)) + 1)), (5, .int 1), (0, .ref (ma m 30)), (1, .int x), (2, .int w), (4, .int (nI i))]) F dX4_landed_73 rfl rfl (by decide) rfl ?_
              refine x_goto F dX4_landed_76 (tgt := 159) (by decide) ?_
              refine x_iinc (j := 5) (v := nI (i + 1)) (lv' := [(4, .int (nI (i + 1))), (3, .int ((sumN i (m_ls m x w)) + 1)), (5, .int 1), (0, .ref (ma m 30)), (1, .int x), (2, .int w)]) F dX4_landed_159 rfl (nI_1 _) (by decide) rfl ?_
              refine x_goto F dX4_landed_162 (tgt := 5) (by decide) ?_
              refine wx_sub (lv' := [(0, .ref (ma m 30)), (1, .int x), (2, .int w), (3, .int ((sumN i (m_ls m x w)) + 1)), (4, .int (nI (i + 1)))]) [3, 4, 5, 1, 0] rfl ?_
              refine wx_lv (lv' := [(0, .ref (ma m 30)), (1, .int x), (2, .int w), (3, .int (sumN (i + 1) (m_ls m x w))), (4, .int (nI (i + 1)))]) (by first | (simp [sumN, m_ls, h3, h4, h18, h19, h25]; done) | (exfalso; simp_all; done) | (simp_all [sumN, m_ls]; done)) ?_
              exact ih5
        · refine x_goto F dX4_landed_47 (tgt := 159) (by decide) ?_
          refine x_iinc (j := 4) (v := nI (i + 1)) (lv' := [(4, .int (nI (i + 1))), (0, .ref (ma m 30)), (1, .int x), (2, .int w), (3, .int (sumN i (m_ls m x w)))]) F dX4_landed_159 rfl (nI_1 _) (by decide) rfl ?_
          refine x_goto F dX4_landed_162 (tgt := 5) (by decide) ?_
          refine wx_sub (lv' := [(0, .ref (ma m 30)), (1, .int x), (2, .int w), (3, .int (sumN i (m_ls m x w))), (4, .int (nI (i + 1)))]) [1, 2, 3, 4, 0] rfl ?_
          refine wx_lv (lv' := [(0, .ref (ma m 30)), (1, .int x), (2, .int w), (3, .int (sumN (i + 1) (m_ls m x w))), (4, .int (nI (i + 1)))]) (by first | (simp [sumN, m_ls, h3, h4, h18]; done) | (exfalso; simp_all; done) | (simp_all [sumN, m_ls]; done)) ?_
          exact ih5
set_option maxHeartbeats 4000000 in
set_option maxRecDepth 100000 in
theorem c_X4_costOf (l : Launch) (G : GT) (A : Nat → Prop) (m : MS) (i : Nat) (hi : i < mf m) (hW : WfM m) : Ct l yX4_costOf cX4_costOf 2 (some .int) ({ frames := 1, cells := 0, slots := 0, locals := 15 } : Room) G A [.ref (ma m 30), .int (nI i)] (fun H => RepM G A m H) (Pu (.int (m_cost m i))) := by
  refine ct_of (own := "GliderDayModel") (by decide +kernel) rfl (Nat.le_of_ble_eq_true rfl) (fun E H0 F hE hR => ?_)
  show wx E H0 0 0 0 [(0, .ref (ma m 30)), (1, .int (nI i))] []
  refine x_aload_n F dX4_costOf_0 0 rfl rfl ?_
  refine z_get (m := m) (j := 29) (v := .ref (ma m 29)) F hR mw_828 rfl (by decide) rfl dX4_costOf_1 ?_
  refine x_iload_n F dX4_costOf_4 1 rfl rfl ?_
  refine z_ildN (m := m) (j := 29) (i := i) F hR (by decide) rfl rfl (Nat.lt_of_lt_of_le hi hW.2.2.1.2) (by decide) dX4_costOf_5 ?_
  refine x_iconst (v := 2) F rfl dX4_costOf_6 ?_
  refine x_icmp_eq F dX4_costOf_7 (tgt := 12) (by decide) (fun h1 => ?_) (fun h1 => ?_)
  · refine x_aload_n F dX4_costOf_12 0 rfl rfl ?_
    refine z_get (m := m) (j := 24) (v := .ref (ma m 24)) F hR mw_823 rfl (by decide) rfl dX4_costOf_13 ?_
    refine x_iload_n F dX4_costOf_16 1 rfl rfl ?_
    refine z_ildN (m := m) (j := 24) (i := i) F hR (by decide) rfl rfl (Nat.lt_of_lt_of_le hi hW.2.2.1.2) (by decide) dX4_costOf_17 ?_
    refine x_if_ne F dX4_costOf_18 (tgt := 26) (by decide) (fun h2 => ?_) (fun h2 => ?_)
    · refine x_aload_n F dX4_costOf_26 0 rfl rfl ?_
      refine z_get (m := m) (j := 24) (v := .ref (ma m 24)) F hR mw_823 rfl (by decide) rfl dX4_costOf_27 ?_
      refine x_iload_n F dX4_costOf_30 1 rfl rfl ?_
      refine z_ildN (m := m) (j := 24) (i := i) F hR (by decide) rfl rfl (Nat.lt_of_lt_of_le hi hW.2.2.1.2) (by decide) dX4_costOf_31 ?_
      refine x_bipush (v := 20) F rfl dX4_costOf_32 ?_
      refine x_idiv F dX4_costOf_34 (by decide) ?_
      refine x_aload_n F dX4_costOf_35 0 rfl rfl ?_
      refine z_get (m := m) (j := 14) (v := .ref (ma m 14)) F hR mw_813 rfl (by decide) rfl dX4_costOf_36 ?_
      refine x_aload_n F dX4_costOf_39 0 rfl rfl ?_
      refine z_get (m := m) (j := 23) (v := .ref (ma m 23)) F hR mw_822 rfl (by decide) rfl dX4_costOf_40 ?_
      refine x_iload_n F dX4_costOf_43 1 rfl rfl ?_
      refine z_ildN (m := m) (j := 23) (i := i) F hR (by decide) rfl rfl (Nat.lt_of_lt_of_le hi hW.2.2.1.2) (by decide) dX4_costOf_44 ?_
      refine wx_i (y := nI (tN (mZ m 23 i))) ((hW.2.2.2 _ hi).2.2.1) ?_
      refine z_ildN (m := m) (j := 14) (i := (tN (mZ m 23 i))) F hR (by decide) rfl rfl (Nat.lt_of_lt_of_le (hW.2.2.2 _ hi).2.2.2 hW.2.1.2) (by decide) dX4_costOf_45 ?_
      refine x_sipush (v := 180) F rfl dX4_costOf_46 ?_
      refine x_aload_n F dX4_costOf_49 0 rfl rfl ?_
      refine z_get (m := m) (j := 28) (v := .ref (ma m 28)) F hR mw_827 rfl (by decide) rfl dX4_costOf_50 ?_
      refine x_iload_n F dX4_costOf_53 1 rfl rfl ?_
      refine z_ildN (m := m) (j := 28) (i := i) F hR (by decide) rfl rfl (Nat.lt_of_lt_of_le hi hW.2.2.1.2) (by decide) dX4_costOf_54 ?_
      refine x_aload_n F dX4_costOf_55 0 rfl rfl ?_
      refine z_get (m := m) (j := 27) (v := .ref (ma m 27)) F hR mw_826 rfl (by decide) rfl dX4_costOf_56 ?_
      refine x_iload_n F dX4_costOf_59 1 rfl rfl ?_
      refine z_ildN (m := m) (j := 27) (i := i) F hR (by decide) rfl rfl (Nat.lt_of_lt_of_le hi hW.2.2.1.2) (by decide) dX4_costOf_60 ?_
      refine x_isub F dX4_costOf_61 ?_
      refine x_mmin F mw_1049 mw_414 mw_67 mw_415 (Nat.le_of_ble_eq_true rfl) (Nat.le_of_ble_eq_true rfl) (Nat.le_of_ble_eq_true rfl) (Nat.le_of_ble_eq_true rfl) dX4_costOf_62 ?_
      refine x_imul F dX4_costOf_65 ?_
      refine x_iadd F dX4_costOf_66 ?_
      exact x_iret F hE dX4_costOf_67 (Nat.le_of_ble_eq_true rfl) (Nat.le_of_ble_eq_true rfl) (⟨by simp [m_cost, s_price, h1, h2], rfl⟩)
    · refine x_bipush (v := 8) F rfl dX4_costOf_21 ?_
      refine x_goto F dX4_costOf_23 (tgt := 35) (by decide) ?_
      refine x_aload_n F dX4_costOf_35 0 rfl rfl ?_
      refine z_get (m := m) (j := 14) (v := .ref (ma m 14)) F hR mw_813 rfl (by decide) rfl dX4_costOf_36 ?_
      refine x_aload_n F dX4_costOf_39 0 rfl rfl ?_
      refine z_get (m := m) (j := 23) (v := .ref (ma m 23)) F hR mw_822 rfl (by decide) rfl dX4_costOf_40 ?_
      refine x_iload_n F dX4_costOf_43 1 rfl rfl ?_
      refine z_ildN (m := m) (j := 23) (i := i) F hR (by decide) rfl rfl (Nat.lt_of_lt_of_le hi hW.2.2.1.2) (by decide) dX4_costOf_44 ?_
      refine wx_i (y := nI (tN (mZ m 23 i))) ((hW.2.2.2 _ hi).2.2.1) ?_
      refine z_ildN (m := m) (j := 14) (i := (tN (mZ m 23 i))) F hR (by decide) rfl rfl (Nat.lt_of_lt_of_le (hW.2.2.2 _ hi).2.2.2 hW.2.1.2) (by decide) dX4_costOf_45 ?_
      refine x_sipush (v := 180) F rfl dX4_costOf_46 ?_
      refine x_aload_n F dX4_costOf_49 0 rfl rfl ?_
      refine z_get (m := m) (j := 28) (v := .ref (ma m 28)) F hR mw_827 rfl (by decide) rfl dX4_costOf_50 ?_
      refine x_iload_n F dX4_costOf_53 1 rfl rfl ?_
      refine z_ildN (m := m) (j := 28) (i := i) F hR (by decide) rfl rfl (Nat.lt_of_lt_of_le hi hW.2.2.1.2) (by decide) dX4_costOf_54 ?_
      refine x_aload_n F dX4_costOf_55 0 rfl rfl ?_
      refine z_get (m := m) (j := 27) (v := .ref (ma m 27)) F hR mw_826 rfl (by decide) rfl dX4_costOf_56 ?_
      refine x_iload_n F dX4_costOf_59 1 rfl rfl ?_
      refine z_ildN (m := m) (j := 27) (i := i) F hR (by decide) rfl rfl (Nat.lt_of_lt_of_le hi hW.2.2.1.2) (by decide) dX4_costOf_60 ?_
      refine x_isub F dX4_costOf_61 ?_
      refine x_mmin F mw_1049 mw_414 mw_67 mw_415 (Nat.le_of_ble_eq_true rfl) (Nat.le_of_ble_eq_true rfl) (Nat.le_of_ble_eq_true rfl) (Nat.le_of_ble_eq_true rfl) dX4_costOf_62 ?_
      refine x_imul F dX4_costOf_65 ?_
      refine x_iadd F dX4_costOf_66 ?_
      exact x_iret F hE dX4_costOf_67 (Nat.le_of_ble_eq_true rfl) (Nat.le_of_ble_eq_true rfl) (⟨by simp [m_cost, s_price, h1, h2], rfl⟩)
  · refine x_iconst (v := 0) F rfl dX4_costOf_10 ?_
    exact x_iret F hE dX4_costOf_11 (Nat.le_of_ble_eq_true rfl) (Nat.le_of_ble_eq_true rfl) (⟨by simp [m_cost, s_price, h1], rfl⟩)
end MD3
