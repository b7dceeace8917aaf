/-! the reference's public methods, those that loop -/
section MD8
def m_cnt2 (m : MS) : Int32 := sumN (mf m) (fun f => if mZ m 29 f = 0 then 1 else 0)
def m_ask (m : MS) (x s g u w : Int32) : MS := sY (sZ (sZ (sZ (sZ (sZ (sZ (sZ (sZ (sZ m 21 (mf m) x) 22 (mf m) s) 23 (mf m) g) 24 (mf m) u) 25 (mf m) w) 26 (mf m) (mY m 1)) 27 (mf m) (-1)) 28 (mf m) (-1)) 29 (mf m) 0) 20 (mY m 20 + 1)
def q_ask (m : MS) (x s g u w : Int32) : Int32 × MS :=
  if ((0 ≤ x ∧ x ≤ mY m 9 - 1) ∧ (0 ≤ g ∧ g ≤ mY m 12 - 1)) ∧ (s = -1 ∨ (0 ≤ s ∧ s ≤ mY m 9 - 1)) then
    (if ¬ x = s ∧ (u = 0 ∨ (200 ≤ u ∧ u ≤ 1500)) ∧ (2 ≤ w ∧ w ≤ 300) then
      (if m_cnt2 m = 30 ∨ mY m 20 = 100 then (0, sY m 0 3) else (mY m 20 + 1 - 1, m_ask m x s g u w)) else (0, sY m 0 2)) else (0, sY m 0 1)
def p_li (m : MS) (x : Int32) (f : Nat) : Bool := decide (mZ m 29 f = 0 ∧ sumN f (fun f => if mZ m 29 f = 0 then 1 else 0) = x)
def q_list (m : MS) (x : Int32) : Int32 × MS := if 0 ≤ x then (fgo (p_li m x) (mf m) 0, m) else (0, sY m 0 1)
def q_count (m : MS) (x : Int32) : Int32 × MS := if 0 ≤ x ∧ x ≤ 7 then (m_cnt m x, m) else (0, sY m 0 1)
def q_isBusy (m : MS) : Int32 × MS := (bI (mY m 1 < mY m 4), m)
def q_now (m : MS) : Int32 × MS := (mY m 1, m)
def q_income (m : MS) : Int32 × MS := (sumN (mf m) (m_cost m), m)
def m_dur (m : MS) (f : Nat) : Int32 := mZ m 28 f - mZ m 27 f
/-- the longest of the first n flights; -1 -/
def m_lng (m : MS) : Nat → Int32
  | 0 => -1
  | n + 1 => if mZ m 29 n = 2 ∧ (m_lng m n = -1 ∨ mZ m 28 (tN (m_lng m n)) - mZ m 27 (tN (m_lng m n)) < mZ m 28 n - mZ m 27 n) then nI n else m_lng m n
theorem lng_ok {m : MS} : ∀ n, n < 2 ^ 31 → ¬ m_lng m n = -1 → m_lng m n = nI (tN (m_lng m n)) ∧ tN (m_lng m n) < n
  | 0, _, h => absurd rfl h
  | n + 1, hb, h => by
    by_cases hp : mZ m 29 n = 2 ∧ (m_lng m n = -1 ∨ mZ m 28 (tN (m_lng m n)) - mZ m 27 (tN (m_lng m n)) < mZ m 28 n - mZ m 27 n)
    · have e : m_lng m (n + 1) = nI n := if_pos hp
      have e2 : tN (nI n) = n := nI_clamp (by omega)
      rw [e, e2]
      exact ⟨rfl, Nat.lt_succ_self _⟩
    · have e : m_lng m (n + 1) = m_lng m n := if_neg hp
      rw [e] at h ⊢
      obtain ⟨h1, h2⟩ := lng_ok n (by omega) h
      exact ⟨h1, Nat.lt_succ_of_lt h2⟩
def q_longest (m : MS) : Int32 × MS := (m_lng m (mf m), m)
/-- what is told of a flight -/
def m_tf (m : MS) (f j : Nat) : Int32 := if j = 0 then mZ m 29 f else if j = 1 then mZ m 21 f else if j = 2 then mZ m 22 f else if j = 3 then mZ m 23 f else if j = 4 then mZ m 24 f else if j = 5 then mZ m 27 f else if j = 6 then mZ m 28 f else m_cost m f
def q_flight (m : MS) (x w : Int32) : Int32 × MS := if (0 ≤ x ∧ x ≤ mY m 20 - 1) ∧ (0 ≤ w ∧ w ≤ 7) then (m_tf m (tN x) (tN w), m) else (0, sY m 0 1)
theorem RepM.bel {G : GT} {A : Nat → Prop} {m : MS} {H : Heap} (h : RepM G A m H) : ∀ q, (q = ma m 30 ∨ ∃ j, j ∈ mar ∧ q = ma m j) → q < H.size := fun q hq => by
  rcases hq with rfl | ⟨j, hj, rfl⟩
  · exact h.2.2.1.lt
  · exact h.lt hj
theorem RepM.oth {G : GT} {A : Nat → Prop} {m : MS} {H H1 : Heap} {z : Nat} (h : RepM G A m H) (hb : ∀ q, (q = ma m 30 ∨ ∃ j, j ∈ mar ∧ q = ma m j) → q < z) (hs : hset H z H1) : RepM G A m H1 := h.kept (fun q _ hq => hs.2 _ (Nat.ne_of_lt (hb q hq)))
theorem k_X4_128 : cwV_ "GliderDayModel" 128 "GliderDayModel" yX4_with cX4_with 4 (some .int) 1 := ⟨mw_978, mw_980, mw_42, mw_59, mw_981, ⟨by decide +kernel, by decide +kernel, by decide +kernel⟩⟩
theorem k_X4_180 : cwV_ "GliderDayModel" 180 "GliderDayModel" yX4_counted cX4_counted 7 (some .int) 1 := ⟨mw_1054, mw_1056, mw_52, mw_59, mw_1057, ⟨by decide +kernel, by decide +kernel, by decide +kernel⟩⟩
set_option maxHeartbeats 4000000 in
set_option maxRecDepth 100000 in
theorem c_X4_bar (l : Launch) (G : GT) (A : Nat → Prop) (m : MS) (hW : WfM m) (x b : Int32) (hb : b = 0 ∨ b = 1) (hz : ∀ i, mZ m 16 i = 0 ∨ mZ m 16 i = 1) : Ct l yX4_bar cX4_bar 4 (some .boolean) ({ frames := 2, cells := 0, slots := 0, locals := 43 } : Room) G A [.ref (ma m 30), .int x, .int b] (fun H => RepM G A m H) (fun H r H1 => r = some (.int (q_bar m x b).1) ∧ RepM G A ((q_bar m x b).2) H1) := by
  refine ct_of (own := "GliderDayModel") (by decide +kernel) rfl (Nat.le_of_ble_eq_true rfl) (fun E H0 F hE hR => ?_)
  show wx E H0 0 0 0 [(0, .ref (ma m 30)), (1, .int x), (2, .int b)] []
  refine x_aload_n F dX4_bar_0 0 rfl rfl ?_
  refine x_aload_n F dX4_bar_1 0 rfl rfl ?_
  refine x_iload_n F dX4_bar_2 1 rfl rfl ?_
  refine x_callVp (rest := [.ref (ma m 30)]) F hR.2.2.1 rfl (c_X4_isGlider l G A m x) k_X4_102 ⟨(Nat.le_of_ble_eq_true rfl), (Nat.le_of_ble_eq_true rfl), rfl, rfl⟩ (Nat.le_of_ble_eq_true rfl) (Nat.le_of_ble_eq_true rfl) dX4_bar_3 rfl rfl (Nat.le_of_ble_eq_true rfl) hR ?_
  refine x_if_ne F dX4_bar_6 (tgt := 13) (by decide) (fun h1 => ?_) (fun h1 => ?_)
  · replace h1 := bI_ne.mp h1
    obtain ⟨hxi, hx⟩ := is_ok (by rw [← hW.2.1.1]; exact h1) (Nat.le_trans hW.2.1.2 (by decide))
    refine wx_lv (lv' := [(0, .ref (ma m 30)), (1, .int (nI (tN x))), (2, .int b)]) (by rw [hx]) ?_
    refine x_aload_n F dX4_bar_13 0 rfl rfl ?_
    refine x_iload_n F dX4_bar_14 1 rfl rfl ?_
    refine x_callVp (rest := [.ref (ma m 30)]) F hR.2.2.1 rfl (c_X4_flightOf l G A m (nI (tN x)) hW) k_X4_106 ⟨(Nat.le_of_ble_eq_true rfl), (Nat.le_of_ble_eq_true rfl), rfl, rfl⟩ (Nat.le_of_ble_eq_true rfl) (Nat.le_of_ble_eq_true rfl) dX4_bar_15 rfl rfl (Nat.le_of_ble_eq_true rfl) hR ?_
    refine x_iconst (v := (-1)) F rfl dX4_bar_18 ?_
    refine x_icmp_eq F dX4_bar_19 (tgt := 26) (by decide) (fun h2 => ?_) (fun h2 => ?_)
    · refine x_iconst (v := 0) F rfl dX4_bar_26 ?_
      refine z_put (m := m) (j := 0) (v := 0) F hR mw_799 rfl (by decide) rfl rfl rfl dX4_bar_27 (fun H3 hR4 => ?_)
      refine x_aload_n F dX4_bar_30 0 rfl rfl ?_
      refine z_get (m := (sY m 0 0)) (j := 0) (v := .int 0) F hR4 mw_799 rfl (by decide) rfl dX4_bar_31 ?_
      refine x_if_eq F dX4_bar_34 (tgt := 39) (by decide) (fun _ => ?_) (fun h5 => absurd (by decide) h5)
      refine x_aload_n F dX4_bar_39 0 rfl rfl ?_
      refine z_get (m := (sY m 0 0)) (j := 16) (v := .ref (ma m 16)) F hR4 mw_815 rfl (by decide) rfl dX4_bar_40 ?_
      refine x_iload_n F dX4_bar_43 1 rfl rfl ?_
      refine z_zldN (m := (sY m 0 0)) (j := 16) (i := (tN x)) F hR4 (by decide) rfl rfl (Nat.lt_of_lt_of_le hxi hW.2.1.2) (by decide) dX4_bar_44 ?_
      refine x_istore_n (lv' := [(3, .int (mZ (sY m 0 0) 16 (tN x))), (0, .ref (ma m 30)), (1, .int (nI (tN x))), (2, .int b)]) F dX4_bar_45 rfl (by decide) rfl ?_
      refine x_aload_n F dX4_bar_46 1 rfl rfl ?_
      refine z_get (m := (sY m 0 0)) (j := 16) (v := .ref (ma m 16)) F hR4 mw_815 rfl (by decide) rfl dX4_bar_47 ?_
      refine x_iload_n F dX4_bar_50 2 rfl rfl ?_
      refine x_iload_n F dX4_bar_51 3 rfl rfl ?_
      refine z_zstN (m := (sY m 0 0)) (j := 16) (i := (tN x)) (v := b) F hR4 (by decide) rfl rfl (Nat.lt_of_lt_of_le hxi hW.2.1.2) (by decide) hb dX4_bar_52 (fun H6 hR7 => ?_)
      refine x_iload_n F dX4_bar_53 0 rfl rfl ?_
      have ho : q_bar m x b = (mZ (sY m 0 0) 16 (tN x), sZ (sY m 0 0) 16 (tN x) b) := by (try simp only [hx] at h1 h2); first | (simp [q_bar, h1, h2, hx]; done) | (simp [q_bar, h1, h2, hx]; rfl) | (exfalso; simp_all; done)
      exact x_zret F (nb_ (hz _)) hE dX4_bar_54 (Nat.le_of_ble_eq_true rfl) (Nat.le_of_ble_eq_true rfl) (⟨by rw [ho], by rw [ho]; exact hR7⟩)
    · refine x_iconst (v := 2) F rfl dX4_bar_22 ?_
      refine x_goto F dX4_bar_23 (tgt := 27) (by decide) ?_
      refine z_put (m := m) (j := 0) (v := 2) F hR mw_799 rfl (by decide) rfl rfl rfl dX4_bar_27 (fun H8 hR9 => ?_)
      refine x_aload_n F dX4_bar_30 0 rfl rfl ?_
      refine z_get (m := (sY m 0 2)) (j := 0) (v := .int 2) F hR9 mw_799 rfl (by decide) rfl dX4_bar_31 ?_
      refine x_if_eq F dX4_bar_34 (tgt := 39) (by decide) (fun h10 => absurd h10 (by decide)) (fun _ => ?_)
      refine x_iconst (v := 0) F rfl dX4_bar_37 ?_
      have ho : q_bar m x b = (0, sY m 0 2) := by (try simp only [hx] at h1 h2); first | (simp [q_bar, h1, h2, hx]; done) | (simp [q_bar, h1, h2, hx]; rfl) | (exfalso; simp_all; done)
      exact x_zret F rfl hE dX4_bar_38 (Nat.le_of_ble_eq_true rfl) (Nat.le_of_ble_eq_true rfl) (⟨by rw [ho], by rw [ho]; exact hR9⟩)
  · replace h1 := bI_0.mp h1
    refine x_iconst (v := 1) F rfl dX4_bar_9 ?_
    refine x_goto F dX4_bar_10 (tgt := 27) (by decide) ?_
    refine z_put (m := m) (j := 0) (v := 1) F hR mw_799 rfl (by decide) rfl rfl rfl dX4_bar_27 (fun H11 hR12 => ?_)
    refine x_aload_n F dX4_bar_30 0 rfl rfl ?_
    refine z_get (m := (sY m 0 1)) (j := 0) (v := .int 1) F hR12 mw_799 rfl (by decide) rfl dX4_bar_31 ?_
    refine x_if_eq F dX4_bar_34 (tgt := 39) (by decide) (fun h13 => absurd h13 (by decide)) (fun _ => ?_)
    refine x_iconst (v := 0) F rfl dX4_bar_37 ?_
    have ho : q_bar m x b = (0, sY m 0 1) := by first | (simp [q_bar, h1]; done) | (simp [q_bar, h1]; rfl) | (exfalso; simp_all; done)
    exact x_zret F rfl hE dX4_bar_38 (Nat.le_of_ble_eq_true rfl) (Nat.le_of_ble_eq_true rfl) (⟨by rw [ho], by rw [ho]; exact hR12⟩)
set_option maxHeartbeats 4000000 in
set_option maxRecDepth 100000 in
theorem c_X4_ask (l : Launch) (G : GT) (A : Nat → Prop) (m : MS) (hW : WfM m) (x s1 g1 u1 w1 : Int32) : Ct l yX4_ask cX4_ask 6 (some .int) ({ frames := 2, cells := 0, slots := 0, locals := 43 } : Room) G A [.ref (ma m 30), .int x, .int s1, .int g1, .int u1, .int w1] (fun H => RepM G A m H) (fun H r H1 => r = some (.int (q_ask (sY m 0 0) x s1 g1 u1 w1).1) ∧ RepM G A ((q_ask (sY m 0 0) x s1 g1 u1 w1).2) H1) := by
  refine ct_of (own := "GliderDayModel") (by decide +kernel) rfl (Nat.le_of_ble_eq_true rfl) (fun E H0 F hE hR => ?_)
  show wx E H0 0 0 0 [(0, .ref (ma m 30)), (1, .int x), (2, .int s1), (3, .int g1), (4, .int u1), (5, .int w1)] []
  refine x_aload_n F dX4_ask_0 0 rfl rfl ?_
  refine x_iconst (v := 0) F rfl dX4_ask_1 ?_
  refine z_put (m := m) (j := 0) (v := 0) F hR mw_799 rfl (by decide) rfl rfl rfl dX4_ask_2 (fun H1 hR2 => ?_)
  obtain ⟨z, hz⟩ : ∃ z, z = sY m 0 0 := ⟨_, rfl⟩
  have hW : WfM z := by rw [hz]; exact Same.wf (Same.Y (by decide)) hW
  rw [← hz] at hR2
  refine wx_lv (lv' := [(0, .ref (ma z 30)), (1, .int x), (2, .int s1), (3, .int g1), (4, .int u1), (5, .int w1)]) (by rw [hz]; rfl) ?_
  refine x_aload_n F dX4_ask_5 0 rfl rfl ?_
  refine x_iload_n F dX4_ask_6 1 rfl rfl ?_
  refine x_callVp (rest := []) F hR2.2.2.1 rfl (c_X4_isMember l G A z x) k_X4_112 ⟨(Nat.le_of_ble_eq_true rfl), (Nat.le_of_ble_eq_true rfl), rfl, rfl⟩ (Nat.le_of_ble_eq_true rfl) (Nat.le_of_ble_eq_true rfl) dX4_ask_7 rfl rfl (Nat.le_of_ble_eq_true rfl) hR2 ?_
  refine x_if_eq F dX4_ask_10 (tgt := 34) (by decide) (fun h3 => ?_) (fun h3 => ?_)
  · replace h3 := bI_0.mp h3
    refine x_aload_n F dX4_ask_34 0 rfl rfl ?_
    refine x_iconst (v := 1) F rfl dX4_ask_35 ?_
    refine x_callVs (rest := []) F hR2.2.2.1 rfl (c_X4_no l G A z 1) k_X4_94 ⟨⟨(Nat.le_of_ble_eq_true rfl), (Nat.le_of_ble_eq_true rfl)⟩, (Nat.le_of_ble_eq_true rfl), (Nat.le_of_ble_eq_true rfl)⟩ dX4_ask_36 rfl rfl (Nat.le_of_ble_eq_true rfl) hR2 ?_
    rintro _ H4 ⟨rfl, hR5⟩ - -
    have ho : q_ask z x s1 g1 u1 w1 = (0, sY z 0 1) := by unfold q_ask; rw [if_neg (show ¬ (((0 ≤ x ∧ x ≤ mY z 9 - 1) ∧ (0 ≤ g1 ∧ g1 ≤ mY z 12 - 1)) ∧ (s1 = -1 ∨ (0 ≤ s1 ∧ s1 ≤ mY z 9 - 1))) from fun q => h3 q.1.1)]
    exact x_iret F hE dX4_ask_39 (Nat.le_of_ble_eq_true rfl) (Nat.le_of_ble_eq_true rfl) (⟨by rw [← hz, ho], by rw [← hz, ho]; exact hR5⟩)
  · replace h3 := bI_ne.mp h3
    refine x_aload_n F dX4_ask_13 0 rfl rfl ?_
    refine x_iload_n F dX4_ask_14 3 rfl rfl ?_
    refine x_callVp (rest := []) F hR2.2.2.1 rfl (c_X4_isGlider l G A z g1) k_X4_102 ⟨(Nat.le_of_ble_eq_true rfl), (Nat.le_of_ble_eq_true rfl), rfl, rfl⟩ (Nat.le_of_ble_eq_true rfl) (Nat.le_of_ble_eq_true rfl) dX4_ask_15 rfl rfl (Nat.le_of_ble_eq_true rfl) hR2 ?_
    refine x_if_eq F dX4_ask_18 (tgt := 34) (by decide) (fun h6 => ?_) (fun h6 => ?_)
    · replace h6 := bI_0.mp h6
      refine x_aload_n F dX4_ask_34 0 rfl rfl ?_
      refine x_iconst (v := 1) F rfl dX4_ask_35 ?_
      refine x_callVs (rest := []) F hR2.2.2.1 rfl (c_X4_no l G A z 1) k_X4_94 ⟨⟨(Nat.le_of_ble_eq_true rfl), (Nat.le_of_ble_eq_true rfl)⟩, (Nat.le_of_ble_eq_true rfl), (Nat.le_of_ble_eq_true rfl)⟩ dX4_ask_36 rfl rfl (Nat.le_of_ble_eq_true rfl) hR2 ?_
      rintro _ H7 ⟨rfl, hR8⟩ - -
      have ho : q_ask z x s1 g1 u1 w1 = (0, sY z 0 1) := by unfold q_ask; rw [if_neg (show ¬ (((0 ≤ x ∧ x ≤ mY z 9 - 1) ∧ (0 ≤ g1 ∧ g1 ≤ mY z 12 - 1)) ∧ (s1 = -1 ∨ (0 ≤ s1 ∧ s1 ≤ mY z 9 - 1))) from fun q => h6 q.1.2)]
      exact x_iret F hE dX4_ask_39 (Nat.le_of_ble_eq_true rfl) (Nat.le_of_ble_eq_true rfl) (⟨by rw [← hz, ho], by rw [← hz, ho]; exact hR8⟩)
    · replace h6 := bI_ne.mp h6
      refine x_iload_n F dX4_ask_21 2 rfl rfl ?_
      refine x_iconst (v := (-1)) F rfl dX4_ask_22 ?_
      refine x_icmp_eq F dX4_ask_23 (tgt := 40) (by decide) (fun h9 => ?_) (fun h9 => ?_)
      · refine x_iload_n F dX4_ask_40 1 rfl rfl ?_
        refine x_iload_n F dX4_ask_41 2 rfl rfl ?_
        refine x_icmp_eq F dX4_ask_42 (tgt := 76) (by decide) (fun h10 => ?_) (fun h10 => ?_)
        · refine x_aload_n F dX4_ask_76 0 rfl rfl ?_
          refine x_iconst (v := 2) F rfl dX4_ask_77 ?_
          refine x_callVs (rest := []) F hR2.2.2.1 rfl (c_X4_no l G A z 2) k_X4_94 ⟨⟨(Nat.le_of_ble_eq_true rfl), (Nat.le_of_ble_eq_true rfl)⟩, (Nat.le_of_ble_eq_true rfl), (Nat.le_of_ble_eq_true rfl)⟩ dX4_ask_78 rfl rfl (Nat.le_of_ble_eq_true rfl) hR2 ?_
          rintro _ H11 ⟨rfl, hR12⟩ - -
          have ho : q_ask z x s1 g1 u1 w1 = (0, sY z 0 2) := by unfold q_ask; rw [if_pos (show ((0 ≤ x ∧ x ≤ mY z 9 - 1) ∧ (0 ≤ g1 ∧ g1 ≤ mY z 12 - 1)) ∧ (s1 = -1 ∨ (0 ≤ s1 ∧ s1 ≤ mY z 9 - 1)) from ⟨⟨h3, h6⟩, Or.inl h9⟩), if_neg (show ¬ (¬ x = s1 ∧ (u1 = 0 ∨ (200 ≤ u1 ∧ u1 ≤ 1500)) ∧ (2 ≤ w1 ∧ w1 ≤ 300)) from fun q => q.1 h10)]
          exact x_iret F hE dX4_ask_81 (Nat.le_of_ble_eq_true rfl) (Nat.le_of_ble_eq_true rfl) (⟨by rw [← hz, ho], by rw [← hz, ho]; exact hR12⟩)
        · refine x_iload F dX4_ask_45 4 rfl ?_
          refine x_if_eq F dX4_ask_47 (tgt := 64) (by decide) (fun h13 => ?_) (fun h13 => ?_)
          · refine x_iload F dX4_ask_64 5 rfl ?_
            refine x_iconst (v := 2) F rfl dX4_ask_66 ?_
            refine x_sipush (v := 300) F rfl dX4_ask_67 ?_
            refine x_callSp (rest := []) F (c_X4_isIn l G A w1 2 300) k_X4_84 ⟨(Nat.le_of_ble_eq_true rfl), (Nat.le_of_ble_eq_true rfl), rfl, rfl⟩ (Nat.le_of_ble_eq_true rfl) (Nat.le_of_ble_eq_true rfl) dX4_ask_70 rfl rfl (Nat.le_of_ble_eq_true rfl) trivial ?_
            refine x_if_ne F dX4_ask_73 (tgt := 82) (by decide) (fun h14 => ?_) (fun h14 => ?_)
            · replace h14 := bI_ne.mp h14
              refine x_aload_n F dX4_ask_82 0 rfl rfl ?_
              refine x_iconst (v := 0) F rfl dX4_ask_83 ?_
              refine x_callVp (rest := []) F hR2.2.2.1 rfl (c_X4_with l G A z 0 hW) k_X4_128 ⟨(Nat.le_of_ble_eq_true rfl), (Nat.le_of_ble_eq_true rfl), rfl, rfl⟩ (Nat.le_of_ble_eq_true rfl) (Nat.le_of_ble_eq_true rfl) dX4_ask_84 rfl rfl (Nat.le_of_ble_eq_true rfl) hR2 ?_
              refine x_bipush (v := 30) F rfl dX4_ask_87 ?_
              refine x_icmp_eq F dX4_ask_89 (tgt := 101) (by decide) (fun h15 => ?_) (fun h15 => ?_)
              · refine x_aload_n F dX4_ask_101 0 rfl rfl ?_
                refine x_iconst (v := 3) F rfl dX4_ask_102 ?_
                refine x_callVs (rest := []) F hR2.2.2.1 rfl (c_X4_no l G A z 3) k_X4_94 ⟨⟨(Nat.le_of_ble_eq_true rfl), (Nat.le_of_ble_eq_true rfl)⟩, (Nat.le_of_ble_eq_true rfl), (Nat.le_of_ble_eq_true rfl)⟩ dX4_ask_103 rfl rfl (Nat.le_of_ble_eq_true rfl) hR2 ?_
                rintro _ H16 ⟨rfl, hR17⟩ - -
                have ho : q_ask z x s1 g1 u1 w1 = (0, sY z 0 3) := by unfold q_ask; rw [if_pos (show ((0 ≤ x ∧ x ≤ mY z 9 - 1) ∧ (0 ≤ g1 ∧ g1 ≤ mY z 12 - 1)) ∧ (s1 = -1 ∨ (0 ≤ s1 ∧ s1 ≤ mY z 9 - 1)) from ⟨⟨h3, h6⟩, Or.inl h9⟩), if_pos (show ¬ x = s1 ∧ (u1 = 0 ∨ (200 ≤ u1 ∧ u1 ≤ 1500)) ∧ (2 ≤ w1 ∧ w1 ≤ 300) from ⟨h10, Or.inl h13, h14⟩), if_pos (show m_cnt2 z = 30 ∨ mY z 20 = 100 from Or.inl h15)]
                exact x_iret F hE dX4_ask_106 (Nat.le_of_ble_eq_true rfl) (Nat.le_of_ble_eq_true rfl) (⟨by rw [← hz, ho], by rw [← hz, ho]; exact hR17⟩)
              · refine x_aload_n F dX4_ask_92 0 rfl rfl ?_
                refine z_get (m := z) (j := 20) (v := .int (mY z 20)) F hR2 mw_819 rfl (by decide) rfl dX4_ask_93 ?_
                refine x_bipush (v := 100) F rfl dX4_ask_96 ?_
                refine x_icmp_ne F dX4_ask_98 (tgt := 107) (by decide) (fun h18 => ?_) (fun h18 => ?_)
                · have hlt : mf z < 100 := cap_lt hW.2.2.1 (show ¬ mY z 20 = nI 100 from h18)
                  refine x_aload_n F dX4_ask_107 0 rfl rfl ?_
                  refine z_get (m := z) (j := 21) (v := .ref (ma z 21)) F hR2 mw_820 rfl (by decide) rfl dX4_ask_108 ?_
                  refine x_aload_n F dX4_ask_111 0 rfl rfl ?_
                  refine z_get (m := z) (j := 20) (v := .int (mY z 20)) F hR2 mw_819 rfl (by decide) rfl dX4_ask_112 ?_
                  refine x_iload_n F dX4_ask_115 1 rfl rfl ?_
                  refine wx_st (y := nI (mf z)) (hW.2.2.1.1) ?_
                  refine z_istN (m := z) (j := 21) (i := (mf z)) (v := x) F hR2 (by decide) rfl rfl (hlt) (by decide) dX4_ask_116 (fun H19 hR20 => ?_)
                  refine x_aload_n F dX4_ask_117 0 rfl rfl ?_
                  refine z_get (m := (sZ z 21 (mf z) x)) (j := 22) (v := .ref (ma z 22)) F hR20 mw_821 rfl (by decide) rfl dX4_ask_118 ?_
                  refine x_aload_n F dX4_ask_121 0 rfl rfl ?_
                  refine z_get (m := (sZ z 21 (mf z) x)) (j := 20) (v := .int (mY z 20)) F hR20 mw_819 rfl (by decide) rfl dX4_ask_122 ?_
                  refine x_iload_n F dX4_ask_125 2 rfl rfl ?_
                  refine wx_st (y := nI (mf z)) (hW.2.2.1.1) ?_
                  refine z_istN (m := (sZ z 21 (mf z) x)) (j := 22) (i := (mf z)) (v := s1) F hR20 (by decide) rfl rfl (hlt) (by decide) dX4_ask_126 (fun H21 hR22 => ?_)
                  refine x_aload_n F dX4_ask_127 0 rfl rfl ?_
                  refine z_get (m := (sZ (sZ z 21 (mf z) x) 22 (mf z) s1)) (j := 23) (v := .ref (ma z 23)) F hR22 mw_822 rfl (by decide) rfl dX4_ask_128 ?_
                  refine x_aload_n F dX4_ask_131 0 rfl rfl ?_
                  refine z_get (m := (sZ (sZ z 21 (mf z) x) 22 (mf z) s1)) (j := 20) (v := .int (mY z 20)) F hR22 mw_819 rfl (by decide) rfl dX4_ask_132 ?_
                  refine x_iload_n F dX4_ask_135 3 rfl rfl ?_
                  refine wx_st (y := nI (mf z)) (hW.2.2.1.1) ?_
                  refine z_istN (m := (sZ (sZ z 21 (mf z) x) 22 (mf z) s1)) (j := 23) (i := (mf z)) (v := g1) F hR22 (by decide) rfl rfl (hlt) (by decide) dX4_ask_136 (fun H23 hR24 => ?_)
                  refine x_aload_n F dX4_ask_137 0 rfl rfl ?_
                  refine z_get (m := (sZ (sZ (sZ z 21 (mf z) x) 22 (mf z) s1) 23 (mf z) g1)) (j := 24) (v := .ref (ma z 24)) F hR24 mw_823 rfl (by decide) rfl dX4_ask_138 ?_
                  refine x_aload_n F dX4_ask_141 0 rfl rfl ?_
                  refine z_get (m := (sZ (sZ (sZ z 21 (mf z) x) 22 (mf z) s1) 23 (mf z) g1)) (j := 20) (v := .int (mY z 20)) F hR24 mw_819 rfl (by decide) rfl dX4_ask_142 ?_
                  refine x_iload F dX4_ask_145 4 rfl ?_
                  refine wx_st (y := nI (mf z)) (hW.2.2.1.1) ?_
                  refine z_istN (m := (sZ (sZ (sZ z 21 (mf z) x) 22 (mf z) s1) 23 (mf z) g1)) (j := 24) (i := (mf z)) (v := u1) F hR24 (by decide) rfl rfl (hlt) (by decide) dX4_ask_147 (fun H25 hR26 => ?_)
                  refine x_aload_n F dX4_ask_148 0 rfl rfl ?_
                  refine z_get (m := (sZ (sZ (sZ (sZ z 21 (mf z) x) 22 (mf z) s1) 23 (mf z) g1) 24 (mf z) u1)) (j := 25) (v := .ref (ma z 25)) F hR26 mw_824 rfl (by decide) rfl dX4_ask_149 ?_
                  refine x_aload_n F dX4_ask_152 0 rfl rfl ?_
                  refine z_get (m := (sZ (sZ (sZ (sZ z 21 (mf z) x) 22 (mf z) s1) 23 (mf z) g1) 24 (mf z) u1)) (j := 20) (v := .int (mY z 20)) F hR26 mw_819 rfl (by decide) rfl dX4_ask_153 ?_
                  refine x_iload F dX4_ask_156 5 rfl ?_
                  refine wx_st (y := nI (mf z)) (hW.2.2.1.1) ?_
                  refine z_istN (m := (sZ (sZ (sZ (sZ z 21 (mf z) x) 22 (mf z) s1) 23 (mf z) g1) 24 (mf z) u1)) (j := 25) (i := (mf z)) (v := w1) F hR26 (by decide) rfl rfl (hlt) (by decide) dX4_ask_158 (fun H27 hR28 => ?_)
                  refine x_aload_n F dX4_ask_159 0 rfl rfl ?_
                  refine z_get (m := (sZ (sZ (sZ (sZ (sZ z 21 (mf z) x) 22 (mf z) s1) 23 (mf z) g1) 24 (mf z) u1) 25 (mf z) w1)) (j := 26) (v := .ref (ma z 26)) F hR28 mw_825 rfl (by decide) rfl dX4_ask_160 ?_
                  refine x_aload_n F dX4_ask_163 0 rfl rfl ?_
                  refine z_get (m := (sZ (sZ (sZ (sZ (sZ z 21 (mf z) x) 22 (mf z) s1) 23 (mf z) g1) 24 (mf z) u1) 25 (mf z) w1)) (j := 20) (v := .int (mY z 20)) F hR28 mw_819 rfl (by decide) rfl dX4_ask_164 ?_
                  refine x_aload_n F dX4_ask_167 0 rfl rfl ?_
                  refine z_get (m := (sZ (sZ (sZ (sZ (sZ z 21 (mf z) x) 22 (mf z) s1) 23 (mf z) g1) 24 (mf z) u1) 25 (mf z) w1)) (j := 1) (v := .int (mY z 1)) F hR28 mw_800 rfl (by decide) rfl dX4_ask_168 ?_
                  refine wx_st (y := nI (mf z)) (hW.2.2.1.1) ?_
                  refine z_istN (m := (sZ (sZ (sZ (sZ (sZ z 21 (mf z) x) 22 (mf z) s1) 23 (mf z) g1) 24 (mf z) u1) 25 (mf z) w1)) (j := 26) (i := (mf z)) (v := mY z 1) F hR28 (by decide) rfl rfl (hlt) (by decide) dX4_ask_171 (fun H29 hR30 => ?_)
                  refine x_aload_n F dX4_ask_172 0 rfl rfl ?_
                  refine z_get (m := (sZ (sZ (sZ (sZ (sZ (sZ z 21 (mf z) x) 22 (mf z) s1) 23 (mf z) g1) 24 (mf z) u1) 25 (mf z) w1) 26 (mf z) (mY z 1))) (j := 27) (v := .ref (ma z 27)) F hR30 mw_826 rfl (by decide) rfl dX4_ask_173 ?_
                  refine x_aload_n F dX4_ask_176 0 rfl rfl ?_
                  refine z_get (m := (sZ (sZ (sZ (sZ (sZ (sZ z 21 (mf z) x) 22 (mf z) s1) 23 (mf z) g1) 24 (mf z) u1) 25 (mf z) w1) 26 (mf z) (mY z 1))) (j := 20) (v := .int (mY z 20)) F hR30 mw_819 rfl (by decide) rfl dX4_ask_177 ?_
                  refine x_iconst (v := (-1)) F rfl dX4_ask_180 ?_
                  refine wx_st (y := nI (mf z)) (hW.2.2.1.1) ?_
                  refine z_istN (m := (sZ (sZ (sZ (sZ (sZ (sZ z 21 (mf z) x) 22 (mf z) s1) 23 (mf z) g1) 24 (mf z) u1) 25 (mf z) w1) 26 (mf z) (mY z 1))) (j := 27) (i := (mf z)) (v := (-1)) F hR30 (by decide) rfl rfl (hlt) (by decide) dX4_ask_181 (fun H31 hR32 => ?_)
                  refine x_aload_n F dX4_ask_182 0 rfl rfl ?_
                  refine z_get (m := (sZ (sZ (sZ (sZ (sZ (sZ (sZ z 21 (mf z) x) 22 (mf z) s1) 23 (mf z) g1) 24 (mf z) u1) 25 (mf z) w1) 26 (mf z) (mY z 1)) 27 (mf z) (-1))) (j := 28) (v := .ref (ma z 28)) F hR32 mw_827 rfl (by decide) rfl dX4_ask_183 ?_
                  refine x_aload_n F dX4_ask_186 0 rfl rfl ?_
                  refine z_get (m := (sZ (sZ (sZ (sZ (sZ (sZ (sZ z 21 (mf z) x) 22 (mf z) s1) 23 (mf z) g1) 24 (mf z) u1) 25 (mf z) w1) 26 (mf z) (mY z 1)) 27 (mf z) (-1))) (j := 20) (v := .int (mY z 20)) F hR32 mw_819 rfl (by decide) rfl dX4_ask_187 ?_
                  refine x_iconst (v := (-1)) F rfl dX4_ask_190 ?_
                  refine wx_st (y := nI (mf z)) (hW.2.2.1.1) ?_
                  refine z_istN (m := (sZ (sZ (sZ (sZ (sZ (sZ (sZ z 21 (mf z) x) 22 (mf z) s1) 23 (mf z) g1) 24 (mf z) u1) 25 (mf z) w1) 26 (mf z) (mY z 1)) 27 (mf z) (-1))) (j := 28) (i := (mf z)) (v := (-1)) F hR32 (by decide) rfl rfl (hlt) (by decide) dX4_ask_191 (fun H33 hR34 => ?_)
                  refine x_aload_n F dX4_ask_192 0 rfl rfl ?_
                  refine z_get (m := (sZ (sZ (sZ (sZ (sZ (sZ (sZ (sZ z 21 (mf z) x) 22 (mf z) s1) 23 (mf z) g1) 24 (mf z) u1) 25 (mf z) w1) 26 (mf z) (mY z 1)) 27 (mf z) (-1)) 28 (mf z) (-1))) (j := 29) (v := .ref (ma z 29)) F hR34 mw_828 rfl (by decide) rfl dX4_ask_193 ?_
                  refine x_aload_n F dX4_ask_196 0 rfl rfl ?_
                  refine z_get (m := (sZ (sZ (sZ (sZ (sZ (sZ (sZ (sZ z 21 (mf z) x) 22 (mf z) s1) 23 (mf z) g1) 24 (mf z) u1) 25 (mf z) w1) 26 (mf z) (mY z 1)) 27 (mf z) (-1)) 28 (mf z) (-1))) (j := 20) (v := .int (mY z 20)) F hR34 mw_819 rfl (by decide) rfl dX4_ask_197 ?_
                  refine x_iconst (v := 0) F rfl dX4_ask_200 ?_
                  refine wx_st (y := nI (mf z)) (hW.2.2.1.1) ?_
                  refine z_istN (m := (sZ (sZ (sZ (sZ (sZ (sZ (sZ (sZ z 21 (mf z) x) 22 (mf z) s1) 23 (mf z) g1) 24 (mf z) u1) 25 (mf z) w1) 26 (mf z) (mY z 1)) 27 (mf z) (-1)) 28 (mf z) (-1))) (j := 29) (i := (mf z)) (v := 0) F hR34 (by decide) rfl rfl (hlt) (by decide) dX4_ask_201 (fun H35 hR36 => ?_)
                  refine x_aload_n F dX4_ask_202 0 rfl rfl ?_
                  refine x_dup F dX4_ask_203 rfl ?_
                  refine z_get (m := (sZ (sZ (sZ (sZ (sZ (sZ (sZ (sZ (sZ z 21 (mf z) x) 22 (mf z) s1) 23 (mf z) g1) 24 (mf z) u1) 25 (mf z) w1) 26 (mf z) (mY z 1)) 27 (mf z) (-1)) 28 (mf z) (-1)) 29 (mf z) 0)) (j := 20) (v := .int (mY z 20)) F hR36 mw_819 rfl (by decide) rfl dX4_ask_204 ?_
                  refine x_iconst (v := 1) F rfl dX4_ask_207 ?_
                  refine x_iadd F dX4_ask_208 ?_
                  refine z_put (m := (sZ (sZ (sZ (sZ (sZ (sZ (sZ (sZ (sZ z 21 (mf z) x) 22 (mf z) s1) 23 (mf z) g1) 24 (mf z) u1) 25 (mf z) w1) 26 (mf z) (mY z 1)) 27 (mf z) (-1)) 28 (mf z) (-1)) 29 (mf z) 0)) (j := 20) (v := (mY z 20) + 1) F hR36 mw_819 rfl (by decide) rfl rfl rfl dX4_ask_209 (fun H37 hR38 => ?_)
                  refine x_aload_n F dX4_ask_212 0 rfl rfl ?_
                  refine z_get (m := (sY (sZ (sZ (sZ (sZ (sZ (sZ (sZ (sZ (sZ z 21 (mf z) x) 22 (mf z) s1) 23 (mf z) g1) 24 (mf z) u1) 25 (mf z) w1) 26 (mf z) (mY z 1)) 27 (mf z) (-1)) 28 (mf z) (-1)) 29 (mf z) 0) 20 ((mY z 20) + 1))) (j := 20) (v := .int ((mY z 20) + 1)) F hR38 mw_819 rfl (by decide) rfl dX4_ask_213 ?_
                  refine x_iconst (v := 1) F rfl dX4_ask_216 ?_
                  refine x_isub F dX4_ask_217 ?_
                  have ho : q_ask z x s1 g1 u1 w1 = (((mY z 20) + 1) - 1, sY (sZ (sZ (sZ (sZ (sZ (sZ (sZ (sZ (sZ z 21 (mf z) x) 22 (mf z) s1) 23 (mf z) g1) 24 (mf z) u1) 25 (mf z) w1) 26 (mf z) (mY z 1)) 27 (mf z) (-1)) 28 (mf z) (-1)) 29 (mf z) 0) 20 ((mY z 20) + 1)) := by unfold q_ask; rw [if_pos (show ((0 ≤ x ∧ x ≤ mY z 9 - 1) ∧ (0 ≤ g1 ∧ g1 ≤ mY z 12 - 1)) ∧ (s1 = -1 ∨ (0 ≤ s1 ∧ s1 ≤ mY z 9 - 1)) from ⟨⟨h3, h6⟩, Or.inl h9⟩), if_pos (show ¬ x = s1 ∧ (u1 = 0 ∨ (200 ≤ u1 ∧ u1 ≤ 1500)) ∧ (2 ≤ w1 ∧ w1 ≤ 300) from ⟨h10, Or.inl h13, h14⟩), if_neg (show ¬ (m_cnt2 z = 30 ∨ mY z 20 = 100) from fun q => q.elim h15 h18)]; rfl
                  exact x_iret F hE dX4_ask_218 (Nat.le_of_ble_eq_true rfl) (Nat.le_of_ble_eq_true rfl) (⟨by rw [← hz, ho], by rw [← hz, ho]; exact hR38⟩)
                · refine x_aload_n F dX4_ask_101 0 rfl rfl ?_
                  refine x_iconst (v := 3) F rfl dX4_ask_102 ?_
                  refine x_callVs (rest := []) F hR2.2.2.1 rfl (c_X4_no l G A z 3) k_X4_94 ⟨⟨(Nat.le_of_ble_eq_true rfl), (Nat.le_of_ble_eq_true rfl)⟩, (Nat.le_of_ble_eq_true rfl), (Nat.le_of_ble_eq_true rfl)⟩ dX4_ask_103 rfl rfl (Nat.le_of_ble_eq_true rfl) hR2 ?_
                  rintro _ H39 ⟨rfl, hR40⟩ - -
                  have ho : q_ask z x s1 g1 u1 w1 = (0, sY z 0 3) := by unfold q_ask; rw [if_pos (show ((0 ≤ x ∧ x ≤ mY z 9 - 1) ∧ (0 ≤ g1 ∧ g1 ≤ mY z 12 - 1)) ∧ (s1 = -1 ∨ (0 ≤ s1 ∧ s1 ≤ mY z 9 - 1)) from ⟨⟨h3, h6⟩, Or.inl h9⟩), if_pos (show ¬ x = s1 ∧ (u1 = 0 ∨ (200 ≤ u1 ∧ u1 ≤ 1500)) ∧ (2 ≤ w1 ∧ w1 ≤ 300) from ⟨h10, Or.inl h13, h14⟩), if_pos (show m_cnt2 z = 30 ∨ mY z 20 = 100 from Or.inr h18)]
                  exact x_iret F hE dX4_ask_106 (Nat.le_of_ble_eq_true rfl) (Nat.le_of_ble_eq_true rfl) (⟨by rw [← hz, ho], by rw [← hz, ho]; exact hR40⟩)
            · replace h14 := bI_0.mp h14
              refine x_aload_n F dX4_ask_76 0 rfl rfl ?_
              refine x_iconst (v := 2) F rfl dX4_ask_77 ?_
              refine x_callVs (rest := []) F hR2.2.2.1 rfl (c_X4_no l G A z 2) k_X4_94 ⟨⟨(Nat.le_of_ble_eq_true rfl), (Nat.le_of_ble_eq_true rfl)⟩, (Nat.le_of_ble_eq_true rfl), (Nat.le_of_ble_eq_true rfl)⟩ dX4_ask_78 rfl rfl (Nat.le_of_ble_eq_true rfl) hR2 ?_
              rintro _ H41 ⟨rfl, hR42⟩ - -
              have ho : q_ask z x s1 g1 u1 w1 = (0, sY z 0 2) := by unfold q_ask; rw [if_pos (show ((0 ≤ x ∧ x ≤ mY z 9 - 1) ∧ (0 ≤ g1 ∧ g1 ≤ mY z 12 - 1)) ∧ (s1 = -1 ∨ (0 ≤ s1 ∧ s1 ≤ mY z 9 - 1)) from ⟨⟨h3, h6⟩, Or.inl h9⟩), if_neg (show ¬ (¬ x = s1 ∧ (u1 = 0 ∨ (200 ≤ u1 ∧ u1 ≤ 1500)) ∧ (2 ≤ w1 ∧ w1 ≤ 300)) from fun q => h14 q.2.2)]
              exact x_iret F hE dX4_ask_81 (Nat.le_of_ble_eq_true rfl) (Nat.le_of_ble_eq_true rfl) (⟨by rw [← hz, ho], by rw [← hz, ho]; exact hR42⟩)
          · refine x_iload F dX4_ask_50 4 rfl ?_
            refine x_sipush (v := 200) F rfl dX4_ask_52 ?_
            refine x_sipush (v := 1500) F rfl dX4_ask_55 ?_
            refine x_callSp (rest := []) F (c_X4_isIn l G A u1 200 1500) k_X4_84 ⟨(Nat.le_of_ble_eq_true rfl), (Nat.le_of_ble_eq_true rfl), rfl, rfl⟩ (Nat.le_of_ble_eq_true rfl) (Nat.le_of_ble_eq_true rfl) dX4_ask_58 rfl rfl (Nat.le_of_ble_eq_true rfl) trivial ?_
            refine x_if_eq F dX4_ask_61 (tgt := 76) (by decide) (fun h43 => ?_) (fun h43 => ?_)
            · replace h43 := bI_0.mp h43
              refine x_aload_n F dX4_ask_76 0 rfl rfl ?_
              refine x_iconst (v := 2) F rfl dX4_ask_77 ?_
              refine x_callVs (rest := []) F hR2.2.2.1 rfl (c_X4_no l G A z 2) k_X4_94 ⟨⟨(Nat.le_of_ble_eq_true rfl), (Nat.le_of_ble_eq_true rfl)⟩, (Nat.le_of_ble_eq_true rfl), (Nat.le_of_ble_eq_true rfl)⟩ dX4_ask_78 rfl rfl (Nat.le_of_ble_eq_true rfl) hR2 ?_
              rintro _ H44 ⟨rfl, hR45⟩ - -
              have ho : q_ask z x s1 g1 u1 w1 = (0, sY z 0 2) := by unfold q_ask; rw [if_pos (show ((0 ≤ x ∧ x ≤ mY z 9 - 1) ∧ (0 ≤ g1 ∧ g1 ≤ mY z 12 - 1)) ∧ (s1 = -1 ∨ (0 ≤ s1 ∧ s1 ≤ mY z 9 - 1)) from ⟨⟨h3, h6⟩, Or.inl h9⟩), if_neg (show ¬ (¬ x = s1 ∧ (u1 = 0 ∨ (200 ≤ u1 ∧ u1 ≤ 1500)) ∧ (2 ≤ w1 ∧ w1 ≤ 300)) from fun q => q.2.1.elim h13 h43)]
              exact x_iret F hE dX4_ask_81 (Nat.le_of_ble_eq_true rfl) (Nat.le_of_ble_eq_true rfl) (⟨by rw [← hz, ho], by rw [← hz, ho]; exact hR45⟩)
            · replace h43 := bI_ne.mp h43
              refine x_iload F dX4_ask_64 5 rfl ?_
              refine x_iconst (v := 2) F rfl dX4_ask_66 ?_
              refine x_sipush (v := 300) F rfl dX4_ask_67 ?_
              refine x_callSp (rest := []) F (c_X4_isIn l G A w1 2 300) k_X4_84 ⟨(Nat.le_of_ble_eq_true rfl), (Nat.le_of_ble_eq_true rfl), rfl, rfl⟩ (Nat.le_of_ble_eq_true rfl) (Nat.le_of_ble_eq_true rfl) dX4_ask_70 rfl rfl (Nat.le_of_ble_eq_true rfl) trivial ?_
              refine x_if_ne F dX4_ask_73 (tgt := 82) (by decide) (fun h46 => ?_) (fun h46 => ?_)
              · replace h46 := bI_ne.mp h46
                refine x_aload_n F dX4_ask_82 0 rfl rfl ?_
                refine x_iconst (v := 0) F rfl dX4_ask_83 ?_
                refine x_callVp (rest := []) F hR2.2.2.1 rfl (c_X4_with l G A z 0 hW) k_X4_128 ⟨(Nat.le_of_ble_eq_true rfl), (Nat.le_of_ble_eq_true rfl), rfl, rfl⟩ (Nat.le_of_ble_eq_true rfl) (Nat.le_of_ble_eq_true rfl) dX4_ask_84 rfl rfl (Nat.le_of_ble_eq_true rfl) hR2 ?_
                refine x_bipush (v := 30) F rfl dX4_ask_87 ?_
                refine x_icmp_eq F dX4_ask_89 (tgt := 101) (by decide) (fun h47 => ?_) (fun h47 => ?_)
                · refine x_aload_n F dX4_ask_101 0 rfl rfl ?_
                  refine x_iconst (v := 3) F rfl dX4_ask_102 ?_
                  refine x_callVs (rest := []) F hR2.2.2.1 rfl (c_X4_no l G A z 3) k_X4_94 ⟨⟨(Nat.le_of_ble_eq_true rfl), (Nat.le_of_ble_eq_true rfl)⟩, (Nat.le_of_ble_eq_true rfl), (Nat.le_of_ble_eq_true rfl)⟩ dX4_ask_103 rfl rfl (Nat.le_of_ble_eq_true rfl) hR2 ?_
                  rintro _ H48 ⟨rfl, hR49⟩ - -
                  have ho : q_ask z x s1 g1 u1 w1 = (0, sY z 0 3) := by unfold q_ask; rw [if_pos (show ((0 ≤ x ∧ x ≤ mY z 9 - 1) ∧ (0 ≤ g1 ∧ g1 ≤ mY z 12 - 1)) ∧ (s1 = -1 ∨ (0 ≤ s1 ∧ s1 ≤ mY z 9 - 1)) from ⟨⟨h3, h6⟩, Or.inl h9⟩), if_pos (show ¬ x = s1 ∧ (u1 = 0 ∨ (200 ≤ u1 ∧ u1 ≤ 1500)) ∧ (2 ≤ w1 ∧ w1 ≤ 300) from ⟨h10, Or.inr h43, h46⟩), if_pos (show m_cnt2 z = 30 ∨ mY z 20 = 100 from Or.inl h47)]
                  exact x_iret F hE dX4_ask_106 (Nat.le_of_ble_eq_true rfl) (Nat.le_of_ble_eq_true rfl) (⟨by rw [← hz, ho], by rw [← hz, ho]; exact hR49⟩)
                · refine x_aload_n F dX4_ask_92 0 rfl rfl ?_
                  refine z_get (m := z) (j := 20) (v := .int (mY z 20)) F hR2 mw_819 rfl (by decide) rfl dX4_ask_93 ?_
                  refine x_bipush (v := 100) F rfl dX4_ask_96 ?_
                  refine x_icmp_ne F dX4_ask_98 (tgt := 107) (by decide) (fun h50 => ?_) (fun h50 => ?_)
                  · have hlt : mf z < 100 := cap_lt hW.2.2.1 (show ¬ mY z 20 = nI 100 from h50)
                    refine x_aload_n F dX4_ask_107 0 rfl rfl ?_
                    refine z_get (m := z) (j := 21) (v := .ref (ma z 21)) F hR2 mw_820 rfl (by decide) rfl dX4_ask_108 ?_
                    refine x_aload_n F dX4_ask_111 0 rfl rfl ?_
                    refine z_get (m := z) (j := 20) (v := .int (mY z 20)) F hR2 mw_819 rfl (by decide) rfl dX4_ask_112 ?_
                    refine x_iload_n F dX4_ask_115 1 rfl rfl ?_
                    refine wx_st (y := nI (mf z)) (hW.2.2.1.1) ?_
                    refine z_istN (m := z) (j := 21) (i := (mf z)) (v := x) F hR2 (by decide) rfl rfl (hlt) (by decide) dX4_ask_116 (fun H51 hR52 => ?_)
                    refine x_aload_n F dX4_ask_117 0 rfl rfl ?_
                    refine z_get (m := (sZ z 21 (mf z) x)) (j := 22) (v := .ref (ma z 22)) F hR52 mw_821 rfl (by decide) rfl dX4_ask_118 ?_
                    refine x_aload_n F dX4_ask_121 0 rfl rfl ?_
                    refine z_get (m := (sZ z 21 (mf z) x)) (j := 20) (v := .int (mY z 20)) F hR52 mw_819 rfl (by decide) rfl dX4_ask_122 ?_
                    refine x_iload_n F dX4_ask_125 2 rfl rfl ?_
                    refine wx_st (y := nI (mf z)) (hW.2.2.1.1) ?_
                    refine z_istN (m := (sZ z 21 (mf z) x)) (j := 22) (i := (mf z)) (v := s1) F hR52 (by decide) rfl rfl (hlt) (by decide) dX4_ask_126 (fun H53 hR54 => ?_)
                    refine x_aload_n F dX4_ask_127 0 rfl rfl ?_
                    refine z_get (m := (sZ (sZ z 21 (mf z) x) 22 (mf z) s1)) (j := 23) (v := .ref (ma z 23)) F hR54 mw_822 rfl (by decide) rfl dX4_ask_128 ?_
                    refine x_aload_n F dX4_ask_131 0 rfl rfl ?_
                    refine z_get (m := (sZ (sZ z 21 (mf z) x) 22 (mf z) s1)) (j := 20) (v := .int (mY z 20)) F hR54 mw_819 rfl (by decide) rfl dX4_ask_132 ?_
                    refine x_iload_n F dX4_ask_135 3 rfl rfl ?_
                    refine wx_st (y := nI (mf z)) (hW.2.2.1.1) ?_
                    refine z_istN (m := (sZ (sZ z 21 (mf z) x) 22 (mf z) s1)) (j := 23) (i := (mf z)) (v := g1) F hR54 (by decide) rfl rfl (hlt) (by decide) dX4_ask_136 (fun H55 hR56 => ?_)
                    refine x_aload_n F dX4_ask_137 0 rfl rfl ?_
                    refine z_get (m := (sZ (sZ (sZ z 21 (mf z) x) 22 (mf z) s1) 23 (mf z) g1)) (j := 24) (v := .ref (ma z 24)) F hR56 mw_823 rfl (by decide) rfl dX4_ask_138 ?_
                    refine x_aload_n F dX4_ask_141 0 rfl rfl ?_
                    refine z_get (m := (sZ (sZ (sZ z 21 (mf z) x) 22 (mf z) s1) 23 (mf z) g1)) (j := 20) (v := .int (mY z 20)) F hR56 mw_819 rfl (by decide) rfl dX4_ask_142 ?_
                    refine x_iload F dX4_ask_145 4 rfl ?_
                    refine wx_st (y := nI (mf z)) (hW.2.2.1.1) ?_
                    refine z_istN (m := (sZ (sZ (sZ z 21 (mf z) x) 22 (mf z) s1) 23 (mf z) g1)) (j := 24) (i := (mf z)) (v := u1) F hR56 (by decide) rfl rfl (hlt) (by decide) dX4_ask_147 (fun H57 hR58 => ?_)
                    refine x_aload_n F dX4_ask_148 0 rfl rfl ?_
                    refine z_get (m := (sZ (sZ (sZ (sZ z 21 (mf z) x) 22 (mf z) s1) 23 (mf z) g1) 24 (mf z) u1)) (j := 25) (v := .ref (ma z 25)) F hR58 mw_824 rfl (by decide) rfl dX4_ask_149 ?_
                    refine x_aload_n F dX4_ask_152 0 rfl rfl ?_
                    refine z_get (m := (sZ (sZ (sZ (sZ z 21 (mf z) x) 22 (mf z) s1) 23 (mf z) g1) 24 (mf z) u1)) (j := 20) (v := .int (mY z 20)) F hR58 mw_819 rfl (by decide) rfl dX4_ask_153 ?_
                    refine x_iload F dX4_ask_156 5 rfl ?_
                    refine wx_st (y := nI (mf z)) (hW.2.2.1.1) ?_
                    refine z_istN (m := (sZ (sZ (sZ (sZ z 21 (mf z) x) 22 (mf z) s1) 23 (mf z) g1) 24 (mf z) u1)) (j := 25) (i := (mf z)) (v := w1) F hR58 (by decide) rfl rfl (hlt) (by decide) dX4_ask_158 (fun H59 hR60 => ?_)
                    refine x_aload_n F dX4_ask_159 0 rfl rfl ?_
                    refine z_get (m := (sZ (sZ (sZ (sZ (sZ z 21 (mf z) x) 22 (mf z) s1) 23 (mf z) g1) 24 (mf z) u1) 25 (mf z) w1)) (j := 26) (v := .ref (ma z 26)) F hR60 mw_825 rfl (by decide) rfl dX4_ask_160 ?_
                    refine x_aload_n F dX4_ask_163 0 rfl rfl ?_
                    refine z_get (m := (sZ (sZ (sZ (sZ (sZ z 21 (mf z) x) 22 (mf z) s1) 23 (mf z) g1) 24 (mf z) u1) 25 (mf z) w1)) (j := 20) (v := .int (mY z 20)) F hR60 mw_819 rfl (by decide) rfl dX4_ask_164 ?_
                    refine x_aload_n F dX4_ask_167 0 rfl rfl ?_
                    refine z_get (m := (sZ (sZ (sZ (sZ (sZ z 21 (mf z) x) 22 (mf z) s1) 23 (mf z) g1) 24 (mf z) u1) 25 (mf z) w1)) (j := 1) (v := .int (mY z 1)) F hR60 mw_800 rfl (by decide) rfl dX4_ask_168 ?_
                    refine wx_st (y := nI (mf z)) (hW.2.2.1.1) ?_
                    refine z_istN (m := (sZ (sZ (sZ (sZ (sZ z 21 (mf z) x) 22 (mf z) s1) 23 (mf z) g1) 24 (mf z) u1) 25 (mf z) w1)) (j := 26) (i := (mf z)) (v := mY z 1) F hR60 (by decide) rfl rfl (hlt) (by decide) dX4_ask_171 (fun H61 hR62 => ?_)
                    refine x_aload_n F dX4_ask_172 0 rfl rfl ?_
                    refine z_get (m := (sZ (sZ (sZ (sZ (sZ (sZ z 21 (mf z) x) 22 (mf z) s1) 23 (mf z) g1) 24 (mf z) u1) 25 (mf z) w1) 26 (mf z) (mY z 1))) (j := 27) (v := .ref (ma z 27)) F hR62 mw_826 rfl (by decide) rfl dX4_ask_173 ?_
                    refine x_aload_n F dX4_ask_176 0 rfl rfl ?_
                    refine z_get (m := (sZ (sZ (sZ (sZ (sZ (sZ z 21 (mf z) x) 22 (mf z) s1) 23 (mf z) g1) 24 (mf z) u1) 25 (mf z) w1) 26 (mf z) (mY z 1))) (j := 20) (v := .int (mY z 20)) F hR62 mw_819 rfl (by decide) rfl dX4_ask_177 ?_
                    refine x_iconst (v := (-1)) F rfl dX4_ask_180 ?_
                    refine wx_st (y := nI (mf z)) (hW.2.2.1.1) ?_
                    refine z_istN (m := (sZ (sZ (sZ (sZ (sZ (sZ z 21 (mf z) x) 22 (mf z) s1) 23 (mf z) g1) 24 (mf z) u1) 25 (mf z) w1) 26 (mf z) (mY z 1))) (j := 27) (i := (mf z)) (v := (-1)) F hR62 (by decide) rfl rfl (hlt) (by decide) dX4_ask_181 (fun H63 hR64 => ?_)
                    refine x_aload_n F dX4_ask_182 0 rfl rfl ?_
                    refine z_get (m := (sZ (sZ (sZ (sZ (sZ (sZ (sZ z 21 (mf z) x) 22 (mf z) s1) 23 (mf z) g1) 24 (mf z) u1) 25 (mf z) w1) 26 (mf z) (mY z 1)) 27 (mf z) (-1))) (j := 28) (v := .ref (ma z 28)) F hR64 mw_827 rfl (by decide) rfl dX4_ask_183 ?_
                    refine x_aload_n F dX4_ask_186 0 rfl rfl ?_
                    refine z_get (m := (sZ (sZ (sZ (sZ (sZ (sZ (sZ z 21 (mf z) x) 22 (mf z) s1) 23 (mf z) g1) 24 (mf z) u1) 25 (mf z) w1) 26 (mf z) (mY z 1)) 27 (mf z) (-1))) (j := 20) (v := .int (mY z 20)) F hR64 mw_819 rfl (by decide) rfl dX4_ask_187 ?_
                    refine x_iconst (v := (-1)) F rfl dX4_ask_190 ?_
                    refine wx_st (y := nI (mf z)) (hW.2.2.1.1) ?_
                    refine z_istN (m := (sZ (sZ (sZ (sZ (sZ (sZ (sZ z 21 (mf z) x) 22 (mf z) s1) 23 (mf z) g1) 24 (mf z) u1) 25 (mf z) w1) 26 (mf z) (mY z 1)) 27 (mf z) (-1))) (j := 28) (i := (mf z)) (v := (-1)) F hR64 (by decide) rfl rfl (hlt) (by decide) dX4_ask_191 (fun H65 hR66 => ?_)
                    refine x_aload_n F dX4_ask_192 0 rfl rfl ?_
                    refine z_get (m := (sZ (sZ (sZ (sZ (sZ (sZ (sZ (sZ z 21 (mf z) x) 22 (mf z) s1) 23 (mf z) g1) 24 (mf z) u1) 25 (mf z) w1) 26 (mf z) (mY z 1)) 27 (mf z) (-1)) 28 (mf z) (-1))) (j := 29) (v := .ref (ma z 29)) F hR66 mw_828 rfl (by decide) rfl dX4_ask_193 ?_
                    refine x_aload_n F dX4_ask_196 0 rfl rfl ?_
                    refine z_get (m := (sZ (sZ (sZ (sZ (sZ (sZ (sZ (sZ z 21 (mf z) x) 22 (mf z) s1) 23 (mf z) g1) 24 (mf z) u1) 25 (mf z) w1) 26 (mf z) (mY z 1)) 27 (mf z) (-1)) 28 (mf z) (-1))) (j := 20) (v := .int (mY z 20)) F hR66 mw_819 rfl (by decide) rfl dX4_ask_197 ?_
                    refine x_iconst (v := 0) F rfl dX4_ask_200 ?_
                    refine wx_st (y := nI (mf z)) (hW.2.2.1.1) ?_
                    refine z_istN (m := (sZ (sZ (sZ (sZ (sZ (sZ (sZ (sZ z 21 (mf z) x) 22 (mf z) s1) 23 (mf z) g1) 24 (mf z) u1) 25 (mf z) w1) 26 (mf z) (mY z 1)) 27 (mf z) (-1)) 28 (mf z) (-1))) (j := 29) (i := (mf z)) (v := 0) F hR66 (by decide) rfl rfl (hlt) (by decide) dX4_ask_201 (fun H67 hR68 => ?_)
                    refine x_aload_n F dX4_ask_202 0 rfl rfl ?_
                    refine x_dup F dX4_ask_203 rfl ?_
                    refine z_get (m := (sZ (sZ (sZ (sZ (sZ (sZ (sZ (sZ (sZ z 21 (mf z) x) 22 (mf z) s1) 23 (mf z) g1) 24 (mf z) u1) 25 (mf z) w1) 26 (mf z) (mY z 1)) 27 (mf z) (-1)) 28 (mf z) (-1)) 29 (mf z) 0)) (j := 20) (v := .int (mY z 20)) F hR68 mw_819 rfl (by decide) rfl dX4_ask_204 ?_
                    refine x_iconst (v := 1) F rfl dX4_ask_207 ?_
                    refine x_iadd F dX4_ask_208 ?_
                    refine z_put (m := (sZ (sZ (sZ (sZ (sZ (sZ (sZ (sZ (sZ z 21 (mf z) x) 22 (mf z) s1) 23 (mf z) g1) 24 (mf z) u1) 25 (mf z) w1) 26 (mf z) (mY z 1)) 27 (mf z) (-1)) 28 (mf z) (-1)) 29 (mf z) 0)) (j := 20) (v := (mY z 20) + 1) F hR68 mw_819 rfl (by decide) rfl rfl rfl dX4_ask_209 (fun H69 hR70 => ?_)
                    refine x_aload_n F dX4_ask_212 0 rfl rfl ?_
                    refine z_get (m := (sY (sZ (sZ (sZ (sZ (sZ (sZ (sZ (sZ (sZ z 21 (mf z) x) 22 (mf z) s1) 23 (mf z) g1) 24 (mf z) u1) 25 (mf z) w1) 26 (mf z) (mY z 1)) 27 (mf z) (-1)) 28 (mf z) (-1)) 29 (mf z) 0) 20 ((mY z 20) + 1))) (j := 20) (v := .int ((mY z 20) + 1)) F hR70 mw_819 rfl (by decide) rfl dX4_ask_213 ?_
                    refine x_iconst (v := 1) F rfl dX4_ask_216 ?_
                    refine x_isub F dX4_ask_217 ?_
                    have ho : q_ask z x s1 g1 u1 w1 = (((mY z 20) + 1) - 1, sY (sZ (sZ (sZ (sZ (sZ (sZ (sZ (sZ (sZ z 21 (mf z) x) 22 (mf z) s1) 23 (mf z) g1) 24 (mf z) u1) 25 (mf z) w1) 26 (mf z) (mY z 1)) 27 (mf z) (-1)) 28 (mf z) (-1)) 29 (mf z) 0) 20 ((mY z 20) + 1)) := by unfold q_ask; rw [if_pos (show ((0 ≤ x ∧ x ≤ mY z 9 - 1) ∧ (0 ≤ g1 ∧ g1 ≤ mY z 12 - 1)) ∧ (s1 = -1 ∨ (0 ≤ s1 ∧ s1 ≤ mY z 9 - 1)) from ⟨⟨h3, h6⟩, Or.inl h9⟩), if_pos (show ¬ x = s1 ∧ (u1 = 0 ∨ (200 ≤ u1 ∧ u1 ≤ 1500)) ∧ (2 ≤ w1 ∧ w1 ≤ 300) from ⟨h10, Or.inr h43, h46⟩), if_neg (show ¬ (m_cnt2 z = 30 ∨ mY z 20 = 100) from fun q => q.elim h47 h50)]; rfl
                    exact x_iret F hE dX4_ask_218 (Nat.le_of_ble_eq_true rfl) (Nat.le_of_ble_eq_true rfl) (⟨by rw [← hz, ho], by rw [← hz, ho]; exact hR70⟩)
                  · refine x_aload_n F dX4_ask_101 0 rfl rfl ?_
                    refine x_iconst (v := 3) F rfl dX4_ask_102 ?_
                    refine x_callVs (rest := []) F hR2.2.2.1 rfl (c_X4_no l G A z 3) k_X4_94 ⟨⟨(Nat.le_of_ble_eq_true rfl), (Nat.le_of_ble_eq_true rfl)⟩, (Nat.le_of_ble_eq_true rfl), (Nat.le_of_ble_eq_true rfl)⟩ dX4_ask_103 rfl rfl (Nat.le_of_ble_eq_true rfl) hR2 ?_
                    rintro _ H71 ⟨rfl, hR72⟩ - -
                    have ho : q_ask z x s1 g1 u1 w1 = (0, sY z 0 3) := by unfold q_ask; rw [if_pos (show ((0 ≤ x ∧ x ≤ mY z 9 - 1) ∧ (0 ≤ g1 ∧ g1 ≤ mY z 12 - 1)) ∧ (s1 = -1 ∨ (0 ≤ s1 ∧ s1 ≤ mY z 9 - 1)) from ⟨⟨h3, h6⟩, Or.inl h9⟩), if_pos (show ¬ x = s1 ∧ (u1 = 0 ∨ (200 ≤ u1 ∧ u1 ≤ 1500)) ∧ (2 ≤ w1 ∧ w1 ≤ 300) from ⟨h10, Or.inr h43, h46⟩), if_pos (show m_cnt2 z = 30 ∨ mY z 20 = 100 from Or.inr h50)]
                    exact x_iret F hE dX4_ask_106 (Nat.le_of_ble_eq_true rfl) (Nat.le_of_ble_eq_true rfl) (⟨by rw [← hz, ho], by rw [← hz, ho]; exact hR72⟩)
              · replace h46 := bI_0.mp h46
                refine x_aload_n F dX4_ask_76 0 rfl rfl ?_
                refine x_iconst (v := 2) F rfl dX4_ask_77 ?_
                refine x_callVs (rest := []) F hR2.2.2.1 rfl (c_X4_no l G A z 2) k_X4_94 ⟨⟨(Nat.le_of_ble_eq_true rfl), (Nat.le_of_ble_eq_true rfl)⟩, (Nat.le_of_ble_eq_true rfl), (Nat.le_of_ble_eq_true rfl)⟩ dX4_ask_78 rfl rfl (Nat.le_of_ble_eq_true rfl) hR2 ?_
                rintro _ H73 ⟨rfl, hR74⟩ - -
                have ho : q_ask z x s1 g1 u1 w1 = (0, sY z 0 2) := by unfold q_ask; rw [if_pos (show ((0 ≤ x ∧ x ≤ mY z 9 - 1) ∧ (0 ≤ g1 ∧ g1 ≤ mY z 12 - 1)) ∧ (s1 = -1 ∨ (0 ≤ s1 ∧ s1 ≤ mY z 9 - 1)) from ⟨⟨h3, h6⟩, Or.inl h9⟩), if_neg (show ¬ (¬ x = s1 ∧ (u1 = 0 ∨ (200 ≤ u1 ∧ u1 ≤ 1500)) ∧ (2 ≤ w1 ∧ w1 ≤ 300)) from fun q => h46 q.2.2)]
                exact x_iret F hE dX4_ask_81 (Nat.le_of_ble_eq_true rfl) (Nat.le_of_ble_eq_true rfl) (⟨by rw [← hz, ho], by rw [← hz, ho]; exact hR74⟩)
      · refine x_aload_n F dX4_ask_26 0 rfl rfl ?_
        refine x_iload_n F dX4_ask_27 2 rfl rfl ?_
        refine x_callVp (rest := []) F hR2.2.2.1 rfl (c_X4_isMember l G A z s1) k_X4_112 ⟨(Nat.le_of_ble_eq_true rfl), (Nat.le_of_ble_eq_true rfl), rfl, rfl⟩ (Nat.le_of_ble_eq_true rfl) (Nat.le_of_ble_eq_true rfl) dX4_ask_28 rfl rfl (Nat.le_of_ble_eq_true rfl) hR2 ?_
        refine x_if_ne F dX4_ask_31 (tgt := 40) (by decide) (fun h75 => ?_) (fun h75 => ?_)
        · replace h75 := bI_ne.mp h75
          refine x_iload_n F dX4_ask_40 1 rfl rfl ?_
          refine x_iload_n F dX4_ask_41 2 rfl rfl ?_
          refine x_icmp_eq F dX4_ask_42 (tgt := 76) (by decide) (fun h76 => ?_) (fun h76 => ?_)
          · refine x_aload_n F dX4_ask_76 0 rfl rfl ?_
            refine x_iconst (v := 2) F rfl dX4_ask_77 ?_
            refine x_callVs (rest := []) F hR2.2.2.1 rfl (c_X4_no l G A z 2) k_X4_94 ⟨⟨(Nat.le_of_ble_eq_true rfl), (Nat.le_of_ble_eq_true rfl)⟩, (Nat.le_of_ble_eq_true rfl), (Nat.le_of_ble_eq_true rfl)⟩ dX4_ask_78 rfl rfl (Nat.le_of_ble_eq_true rfl) hR2 ?_
            rintro _ H77 ⟨rfl, hR78⟩ - -
            have ho : q_ask z x s1 g1 u1 w1 = (0, sY z 0 2) := by unfold q_ask; rw [if_pos (show ((0 ≤ x ∧ x ≤ mY z 9 - 1) ∧ (0 ≤ g1 ∧ g1 ≤ mY z 12 - 1)) ∧ (s1 = -1 ∨ (0 ≤ s1 ∧ s1 ≤ mY z 9 - 1)) from ⟨⟨h3, h6⟩, Or.inr h75⟩), if_neg (show ¬ (¬ x = s1 ∧ (u1 = 0 ∨ (200 ≤ u1 ∧ u1 ≤ 1500)) ∧ (2 ≤ w1 ∧ w1 ≤ 300)) from fun q => q.1 h76)]
            exact x_iret F hE dX4_ask_81 (Nat.le_of_ble_eq_true rfl) (Nat.le_of_ble_eq_true rfl) (⟨by rw [← hz, ho], by rw [← hz, ho]; exact hR78⟩)
          · refine x_iload F dX4_ask_45 4 rfl ?_
            refine x_if_eq F dX4_ask_47 (tgt := 64) (by decide) (fun h79 => ?_) (fun h79 => ?_)
            · refine x_iload F dX4_ask_64 5 rfl ?_
              refine x_iconst (v := 2) F rfl dX4_ask_66 ?_
              refine x_sipush (v := 300) F rfl dX4_ask_67 ?_
              refine x_callSp (rest := []) F (c_X4_isIn l G A w1 2 300) k_X4_84 ⟨(Nat.le_of_ble_eq_true rfl), (Nat.le_of_ble_eq_true rfl), rfl, rfl⟩ (Nat.le_of_ble_eq_true rfl) (Nat.le_of_ble_eq_true rfl) dX4_ask_70 rfl rfl (Nat.le_of_ble_eq_true rfl) trivial ?_
              refine x_if_ne F dX4_ask_73 (tgt := 82) (by decide) (fun h80 => ?_) (fun h80 => ?_)
              · replace h80 := bI_ne.mp h80
                refine x_aload_n F dX4_ask_82 0 rfl rfl ?_
                refine x_iconst (v := 0) F rfl dX4_ask_83 ?_
                refine x_callVp (rest := []) F hR2.2.2.1 rfl (c_X4_with l G A z 0 hW) k_X4_128 ⟨(Nat.le_of_ble_eq_true rfl), (Nat.le_of_ble_eq_true rfl), rfl, rfl⟩ (Nat.le_of_ble_eq_true rfl) (Nat.le_of_ble_eq_true rfl) dX4_ask_84 rfl rfl (Nat.le_of_ble_eq_true rfl) hR2 ?_
                refine x_bipush (v := 30) F rfl dX4_ask_87 ?_
                refine x_icmp_eq F dX4_ask_89 (tgt := 101) (by decide) (fun h81 => ?_) (fun h81 => ?_)
                · refine x_aload_n F dX4_ask_101 0 rfl rfl ?_
                  refine x_iconst (v := 3) F rfl dX4_ask_102 ?_
                  refine x_callVs (rest := []) F hR2.2.2.1 rfl (c_X4_no l G A z 3) k_X4_94 ⟨⟨(Nat.le_of_ble_eq_true rfl), (Nat.le_of_ble_eq_true rfl)⟩, (Nat.le_of_ble_eq_true rfl), (Nat.le_of_ble_eq_true rfl)⟩ dX4_ask_103 rfl rfl (Nat.le_of_ble_eq_true rfl) hR2 ?_
                  rintro _ H82 ⟨rfl, hR83⟩ - -
                  have ho : q_ask z x s1 g1 u1 w1 = (0, sY z 0 3) := by unfold q_ask; rw [if_pos (show ((0 ≤ x ∧ x ≤ mY z 9 - 1) ∧ (0 ≤ g1 ∧ g1 ≤ mY z 12 - 1)) ∧ (s1 = -1 ∨ (0 ≤ s1 ∧ s1 ≤ mY z 9 - 1)) from ⟨⟨h3, h6⟩, Or.inr h75⟩), if_pos (show ¬ x = s1 ∧ (u1 = 0 ∨ (200 ≤ u1 ∧ u1 ≤ 1500)) ∧ (2 ≤ w1 ∧ w1 ≤ 300) from ⟨h76, Or.inl h79, h80⟩), if_pos (show m_cnt2 z = 30 ∨ mY z 20 = 100 from Or.inl h81)]
                  exact x_iret F hE dX4_ask_106 (Nat.le_of_ble_eq_true rfl) (Nat.le_of_ble_eq_true rfl) (⟨by rw [← hz, ho], by rw [← hz, ho]; exact hR83⟩)
                · refine x_aload_n F dX4_ask_92 0 rfl rfl ?_
                  refine z_get (m := z) (j := 20) (v := .int (mY z 20)) F hR2 mw_819 rfl (by decide) rfl dX4_ask_93 ?_
                  refine x_bipush (v := 100) F rfl dX4_ask_96 ?_
                  refine x_icmp_ne F dX4_ask_98 (tgt := 107) (by decide) (fun h84 => ?_) (fun h84 => ?_)
                  · have hlt : mf z < 100 := cap_lt hW.2.2.1 (show ¬ mY z 20 = nI 100 from h84)
                    refine x_aload_n F dX4_ask_107 0 rfl rfl ?_
                    refine z_get (m := z) (j := 21) (v := .ref (ma z 21)) F hR2 mw_820 rfl (by decide) rfl dX4_ask_108 ?_
                    refine x_aload_n F dX4_ask_111 0 rfl rfl ?_
                    refine z_get (m := z) (j := 20) (v := .int (mY z 20)) F hR2 mw_819 rfl (by decide) rfl dX4_ask_112 ?_
                    refine x_iload_n F dX4_ask_115 1 rfl rfl ?_
                    refine wx_st (y := nI (mf z)) (hW.2.2.1.1) ?_
                    refine z_istN (m := z) (j := 21) (i := (mf z)) (v := x) F hR2 (by decide) rfl rfl (hlt) (by decide) dX4_ask_116 (fun H85 hR86 => ?_)
                    refine x_aload_n F dX4_ask_117 0 rfl rfl ?_
                    refine z_get (m := (sZ z 21 (mf z) x)) (j := 22) (v := .ref (ma z 22)) F hR86 mw_821 rfl (by decide) rfl dX4_ask_118 ?_
                    refine x_aload_n F dX4_ask_121 0 rfl rfl ?_
                    refine z_get (m := (sZ z 21 (mf z) x)) (j := 20) (v := .int (mY z 20)) F hR86 mw_819 rfl (by decide) rfl dX4_ask_122 ?_
                    refine x_iload_n F dX4_ask_125 2 rfl rfl ?_
                    refine wx_st (y := nI (mf z)) (hW.2.2.1.1) ?_
                    refine z_istN (m := (sZ z 21 (mf z) x)) (j := 22) (i := (mf z)) (v := s1) F hR86 (by decide) rfl rfl (hlt) (by decide) dX4_ask_126 (fun H87 hR88 => ?_)
                    refine x_aload_n F dX4_ask_127 0 rfl rfl ?_
                    refine z_get (m := (sZ (sZ z 21 (mf z) x) 22 (mf z) s1)) (j := 23) (v := .ref (ma z 23)) F hR88 mw_822 rfl (by decide) rfl dX4_ask_128 ?_
                    refine x_aload_n F dX4_ask_131 0 rfl rfl ?_
                    refine z_get (m := (sZ (sZ z 21 (mf z) x) 22 (mf z) s1)) (j := 20) (v := .int (mY z 20)) F hR88 mw_819 rfl (by decide) rfl dX4_ask_132 ?_
                    refine x_iload_n F dX4_ask_135 3 rfl rfl ?_
                    refine wx_st (y := nI (mf z)) (hW.2.2.1.1) ?_
                    refine z_istN (m := (sZ (sZ z 21 (mf z) x) 22 (mf z) s1)) (j := 23) (i := (mf z)) (v := g1) F hR88 (by decide) rfl rfl (hlt) (by decide) dX4_ask_136 (fun H89 hR90 => ?_)
                    refine x_aload_n F dX4_ask_137 0 rfl rfl ?_
                    refine z_get (m := (sZ (sZ (sZ z 21 (mf z) x) 22 (mf z) s1) 23 (mf z) g1)) (j := 24) (v := .ref (ma z 24)) F hR90 mw_823 rfl (by decide) rfl dX4_ask_138 ?_
                    refine x_aload_n F dX4_ask_141 0 rfl rfl ?_
                    refine z_get (m := (sZ (sZ (sZ z 21 (mf z) x) 22 (mf z) s1) 23 (mf z) g1)) (j := 20) (v := .int (mY z 20)) F hR90 mw_819 rfl (by decide) rfl dX4_ask_142 ?_
                    refine x_iload F dX4_ask_145 4 rfl ?_
                    refine wx_st (y := nI (mf z)) (hW.2.2.1.1) ?_
                    refine z_istN (m := (sZ (sZ (sZ z 21 (mf z) x) 22 (mf z) s1) 23 (mf z) g1)) (j := 24) (i := (mf z)) (v := u1) F hR90 (by decide) rfl rfl (hlt) (by decide) dX4_ask_147 (fun H91 hR92 => ?_)
                    refine x_aload_n F dX4_ask_148 0 rfl rfl ?_
                    refine z_get (m := (sZ (sZ (sZ (sZ z 21 (mf z) x) 22 (mf z) s1) 23 (mf z) g1) 24 (mf z) u1)) (j := 25) (v := .ref (ma z 25)) F hR92 mw_824 rfl (by decide) rfl dX4_ask_149 ?_
                    refine x_aload_n F dX4_ask_152 0 rfl rfl ?_
                    refine z_get (m := (sZ (sZ (sZ (sZ z 21 (mf z) x) 22 (mf z) s1) 23 (mf z) g1) 24 (mf z) u1)) (j := 20) (v := .int (mY z 20)) F hR92 mw_819 rfl (by decide) rfl dX4_ask_153 ?_
                    refine x_iload F dX4_ask_156 5 rfl ?_
                    refine wx_st (y := nI (mf z)) (hW.2.2.1.1) ?_
                    refine z_istN (m := (sZ (sZ (sZ (sZ z 21 (mf z) x) 22 (mf z) s1) 23 (mf z) g1) 24 (mf z) u1)) (j := 25) (i := (mf z)) (v := w1) F hR92 (by decide) rfl rfl (hlt) (by decide) dX4_ask_158 (fun H93 hR94 => ?_)
                    refine x_aload_n F dX4_ask_159 0 rfl rfl ?_
                    refine z_get (m := (sZ (sZ (sZ (sZ (sZ z 21 (mf z) x) 22 (mf z) s1) 23 (mf z) g1) 24 (mf z) u1) 25 (mf z) w1)) (j := 26) (v := .ref (ma z 26)) F hR94 mw_825 rfl (by decide) rfl dX4_ask_160 ?_
                    refine x_aload_n F dX4_ask_163 0 rfl rfl ?_
                    refine z_get (m := (sZ (sZ (sZ (sZ (sZ z 21 (mf z) x) 22 (mf z) s1) 23 (mf z) g1) 24 (mf z) u1) 25 (mf z) w1)) (j := 20) (v := .int (mY z 20)) F hR94 mw_819 rfl (by decide) rfl dX4_ask_164 ?_
                    refine x_aload_n F dX4_ask_167 0 rfl rfl ?_
                    refine z_get (m := (sZ (sZ (sZ (sZ (sZ z 21 (mf z) x) 22 (mf z) s1) 23 (mf z) g1) 24 (mf z) u1) 25 (mf z) w1)) (j := 1) (v := .int (mY z 1)) F hR94 mw_800 rfl (by decide) rfl dX4_ask_168 ?_
                    refine wx_st (y := nI (mf z)) (hW.2.2.1.1) ?_
                    refine z_istN (m := (sZ (sZ (sZ (sZ (sZ z 21 (mf z) x) 22 (mf z) s1) 23 (mf z) g1) 24 (mf z) u1) 25 (mf z) w1)) (j := 26) (i := (mf z)) (v := mY z 1) F hR94 (by decide) rfl rfl (hlt) (by decide) dX4_ask_171 (fun H95 hR96 => ?_)
                    refine x_aload_n F dX4_ask_172 0 rfl rfl ?_
                    refine z_get (m := (sZ (sZ (sZ (sZ (sZ (sZ z 21 (mf z) x) 22 (mf z) s1) 23 (mf z) g1) 24 (mf z) u1) 25 (mf z) w1) 26 (mf z) (mY z 1))) (j := 27) (v := .ref (ma z 27)) F hR96 mw_826 rfl (by decide) rfl dX4_ask_173 ?_
                    refine x_aload_n F dX4_ask_176 0 rfl rfl ?_
                    refine z_get (m := (sZ (sZ (sZ (sZ (sZ (sZ z 21 (mf z) x) 22 (mf z) s1) 23 (mf z) g1) 24 (mf z) u1) 25 (mf z) w1) 26 (mf z) (mY z 1))) (j := 20) (v := .int (mY z 20)) F hR96 mw_819 rfl (by decide) rfl dX4_ask_177 ?_
                    refine x_iconst (v := (-1)) F rfl dX4_ask_180 ?_
                    refine wx_st (y := nI (mf z)) (hW.2.2.1.1) ?_
                    refine z_istN (m := (sZ (sZ (sZ (sZ (sZ (sZ z 21 (mf z) x) 22 (mf z) s1) 23 (mf z) g1) 24 (mf z) u1) 25 (mf z) w1) 26 (mf z) (mY z 1))) (j := 27) (i := (mf z)) (v := (-1)) F hR96 (by decide) rfl rfl (hlt) (by decide) dX4_ask_181 (fun H97 hR98 => ?_)
                    refine x_aload_n F dX4_ask_182 0 rfl rfl ?_
                    refine z_get (m := (sZ (sZ (sZ (sZ (sZ (sZ (sZ z 21 (mf z) x) 22 (mf z) s1) 23 (mf z) g1) 24 (mf z) u1) 25 (mf z) w1) 26 (mf z) (mY z 1)) 27 (mf z) (-1))) (j := 28) (v := .ref (ma z 28)) F hR98 mw_827 rfl (by decide) rfl dX4_ask_183 ?_
                    refine x_aload_n F dX4_ask_186 0 rfl rfl ?_
                    refine z_get (m := (sZ (sZ (sZ (sZ (sZ (sZ (sZ z 21 (mf z) x) 22 (mf z) s1) 23 (mf z) g1) 24 (mf z) u1) 25 (mf z) w1) 26 (mf z) (mY z 1)) 27 (mf z) (-1))) (j := 20) (v := .int (mY z 20)) F hR98 mw_819 rfl (by decide) rfl dX4_ask_187 ?_
                    refine x_iconst (v := (-1)) F rfl dX4_ask_190 ?_
                    refine wx_st (y := nI (mf z)) (hW.2.2.1.1) ?_
                    refine z_istN (m := (sZ (sZ (sZ (sZ (sZ (sZ (sZ z 21 (mf z) x) 22 (mf z) s1) 23 (mf z) g1) 24 (mf z) u1) 25 (mf z) w1) 26 (mf z) (mY z 1)) 27 (mf z) (-1))) (j := 28) (i := (mf z)) (v := (-1)) F hR98 (by decide) rfl rfl (hlt) (by decide) dX4_ask_191 (fun H99 hR100 => ?_)
                    refine x_aload_n F dX4_ask_192 0 rfl rfl ?_
                    refine z_get (m := (sZ (sZ (sZ (sZ (sZ (sZ (sZ (sZ z 21 (mf z) x) 22 (mf z) s1) 23 (mf z) g1) 24 (mf z) u1) 25 (mf z) w1) 26 (mf z) (mY z 1)) 27 (mf z) (-1)) 28 (mf z) (-1))) (j := 29) (v := .ref (ma z 29)) F hR100 mw_828 rfl (by decide) rfl dX4_ask_193 ?_
                    refine x_aload_n F dX4_ask_196 0 rfl rfl ?_
                    refine z_get (m := (sZ (sZ (sZ (sZ (sZ (sZ (sZ (sZ z 21 (mf z) x) 22 (mf z) s1) 23 (mf z) g1) 24 (mf z) u1) 25 (mf z) w1) 26 (mf z) (mY z 1)) 27 (mf z) (-1)) 28 (mf z) (-1))) (j := 20) (v := .int (mY z 20)) F hR100 mw_819 rfl (by decide) rfl dX4_ask_197 ?_
                    refine x_iconst (v := 0) F rfl dX4_ask_200 ?_
                    refine wx_st (y := nI (mf z)) (hW.2.2.1.1) ?_
                    refine z_istN (m := (sZ (sZ (sZ (sZ (sZ (sZ (sZ (sZ z 21 (mf z) x) 22 (mf z) s1) 23 (mf z) g1) 24 (mf z) u1) 25 (mf z) w1) 26 (mf z) (mY z 1)) 27 (mf z) (-1)) 28 (mf z) (-1))) (j := 29) (i := (mf z)) (v := 0) F hR100 (by decide) rfl rfl (hlt) (by decide) dX4_ask_201 (fun H101 hR102 => ?_)
                    refine x_aload_n F dX4_ask_202 0 rfl rfl ?_
                    refine x_dup F dX4_ask_203 rfl ?_
                    refine z_get (m := (sZ (sZ (sZ (sZ (sZ (sZ (sZ (sZ (sZ z 21 (mf z) x) 22 (mf z) s1) 23 (mf z) g1) 24 (mf z) u1) 25 (mf z) w1) 26 (mf z) (mY z 1)) 27 (mf z) (-1)) 28 (mf z) (-1)) 29 (mf z) 0)) (j := 20) (v := .int (mY z 20)) F hR102 mw_819 rfl (by decide) rfl dX4_ask_204 ?_
                    refine x_iconst (v := 1) F rfl dX4_ask_207 ?_
                    refine x_iadd F dX4_ask_208 ?_
                    refine z_put (m := (sZ (sZ (sZ (sZ (sZ (sZ (sZ (sZ (sZ z 21 (mf z) x) 22 (mf z) s1) 23 (mf z) g1) 24 (mf z) u1) 25 (mf z) w1) 26 (mf z) (mY z 1)) 27 (mf z) (-1)) 28 (mf z) (-1)) 29 (mf z) 0)) (j := 20) (v := (mY z 20) + 1) F hR102 mw_819 rfl (by decide) rfl rfl rfl dX4_ask_209 (fun H103 hR104 => ?_)
                    refine x_aload_n F dX4_ask_212 0 rfl rfl ?_
                    refine z_get (m := (sY (sZ (sZ (sZ (sZ (sZ (sZ (sZ (sZ (sZ z 21 (mf z) x) 22 (mf z) s1) 23 (mf z) g1) 24 (mf z) u1) 25 (mf z) w1) 26 (mf z) (mY z 1)) 27 (mf z) (-1)) 28 (mf z) (-1)) 29 (mf z) 0) 20 ((mY z 20) + 1))) (j := 20) (v := .int ((mY z 20) + 1)) F hR104 mw_819 rfl (by decide) rfl dX4_ask_213 ?_
                    refine x_iconst (v := 1) F rfl dX4_ask_216 ?_
                    refine x_isub F dX4_ask_217 ?_
                    have ho : q_ask z x s1 g1 u1 w1 = (((mY z 20) + 1) - 1, sY (sZ (sZ (sZ (sZ (sZ (sZ (sZ (sZ (sZ z 21 (mf z) x) 22 (mf z) s1) 23 (mf z) g1) 24 (mf z) u1) 25 (mf z) w1) 26 (mf z) (mY z 1)) 27 (mf z) (-1)) 28 (mf z) (-1)) 29 (mf z) 0) 20 ((mY z 20) + 1)) := by unfold q_ask; rw [if_pos (show ((0 ≤ x ∧ x ≤ mY z 9 - 1) ∧ (0 ≤ g1 ∧ g1 ≤ mY z 12 - 1)) ∧ (s1 = -1 ∨ (0 ≤ s1 ∧ s1 ≤ mY z 9 - 1)) from ⟨⟨h3, h6⟩, Or.inr h75⟩), if_pos (show ¬ x = s1 ∧ (u1 = 0 ∨ (200 ≤ u1 ∧ u1 ≤ 1500)) ∧ (2 ≤ w1 ∧ w1 ≤ 300) from ⟨h76, Or.inl h79, h80⟩), if_neg (show ¬ (m_cnt2 z = 30 ∨ mY z 20 = 100) from fun q => q.elim h81 h84)]; rfl
                    exact x_iret F hE dX4_ask_218 (Nat.le_of_ble_eq_true rfl) (Nat.le_of_ble_eq_true rfl) (⟨by rw [← hz, ho], by rw [← hz, ho]; exact hR104⟩)
                  · refine x_aload_n F dX4_ask_101 0 rfl rfl ?_
                    refine x_iconst (v := 3) F rfl dX4_ask_102 ?_
                    refine x_callVs (rest := []) F hR2.2.2.1 rfl (c_X4_no l G A z 3) k_X4_94 ⟨⟨(Nat.le_of_ble_eq_true rfl), (Nat.le_of_ble_eq_true rfl)⟩, (Nat.le_of_ble_eq_true rfl), (Nat.le_of_ble_eq_true rfl)⟩ dX4_ask_103 rfl rfl (Nat.le_of_ble_eq_true rfl) hR2 ?_
                    rintro _ H105 ⟨rfl, hR106⟩ - -
                    have ho : q_ask z x s1 g1 u1 w1 = (0, sY z 0 3) := by unfold q_ask; rw [if_pos (show ((0 ≤ x ∧ x ≤ mY z 9 - 1) ∧ (0 ≤ g1 ∧ g1 ≤ mY z 12 - 1)) ∧ (s1 = -1 ∨ (0 ≤ s1 ∧ s1 ≤ mY z 9 - 1)) from ⟨⟨h3, h6⟩, Or.inr h75⟩), if_pos (show ¬ x = s1 ∧ (u1 = 0 ∨ (200 ≤ u1 ∧ u1 ≤ 1500)) ∧ (2 ≤ w1 ∧ w1 ≤ 300) from ⟨h76, Or.inl h79, h80⟩), if_pos (show m_cnt2 z = 30 ∨ mY z 20 = 100 from Or.inr h84)]
                    exact x_iret F hE dX4_ask_106 (Nat.le_of_ble_eq_true rfl) (Nat.le_of_ble_eq_true rfl) (⟨by rw [← hz, ho], by rw [← hz, ho]; exact hR106⟩)
              · replace h80 := bI_0.mp h80
                refine x_aload_n F dX4_ask_76 0 rfl rfl ?_
                refine x_iconst (v := 2) F rfl dX4_ask_77 ?_
                refine x_callVs (rest := []) F hR2.2.2.1 rfl (c_X4_no l G A z 2) k_X4_94 ⟨⟨(Nat.le_of_ble_eq_true rfl), (Nat.le_of_ble_eq_true rfl)⟩, (Nat.le_of_ble_eq_true rfl), (Nat.le_of_ble_eq_true rfl)⟩ dX4_ask_78 rfl rfl (Nat.le_of_ble_eq_true rfl) hR2 ?_
                rintro _ H107 ⟨rfl, hR108⟩ - -
                have ho : q_ask z x s1 g1 u1 w1 = (0, sY z 0 2) := by unfold q_ask; rw [if_pos (show ((0 ≤ x ∧ x ≤ mY z 9 - 1) ∧ (0 ≤ g1 ∧ g1 ≤ mY z 12 - 1)) ∧ (s1 = -1 ∨ (0 ≤ s1 ∧ s1 ≤ mY z 9 - 1)) from ⟨⟨h3, h6⟩, Or.inr h75⟩), if_neg (show ¬ (¬ x = s1 ∧ (u1 = 0 ∨ (200 ≤ u1 ∧ u1 ≤ 1500)) ∧ (2 ≤ w1 ∧ w1 ≤ 300)) from fun q => h80 q.2.2)]
                exact x_iret F hE dX4_ask_81 (Nat.le_of_ble_eq_true rfl) (Nat.le_of_ble_eq_true rfl) (⟨by rw [← hz, ho], by rw [← hz, ho]; exact hR108⟩)
            · refine x_iload F dX4_ask_50 4 rfl ?_
              refine x_sipush (v := 200) F rfl dX4_ask_52 ?_
              refine x_sipush (v := 1500) F rfl dX4_ask_55 ?_
              refine x_callSp (rest := []) F (c_X4_isIn l G A u1 200 1500) k_X4_84 ⟨(Nat.le_of_ble_eq_true rfl), (Nat.le_of_ble_eq_true rfl), rfl, rfl⟩ (Nat.le_of_ble_eq_true rfl) (Nat.le_of_ble_eq_true rfl) dX4_ask_58 rfl rfl (Nat.le_of_ble_eq_true rfl) trivial ?_
              refine x_if_eq F dX4_ask_61 (tgt := 76) (by decide) (fun h109 => ?_) (fun h109 => ?_)
              · replace h109 := bI_0.mp h109
                refine x_aload_n F dX4_ask_76 0 rfl rfl ?_
                refine x_iconst (v := 2) F rfl dX4_ask_77 ?_
                refine x_callVs (rest := []) F hR2.2.2.1 rfl (c_X4_no l G A z 2) k_X4_94 ⟨⟨(Nat.le_of_ble_eq_true rfl), (Nat.le_of_ble_eq_true rfl)⟩, (Nat.le_of_ble_eq_true rfl), (Nat.le_of_ble_eq_true rfl)⟩ dX4_ask_78 rfl rfl (Nat.le_of_ble_eq_true rfl) hR2 ?_
                rintro _ H110 ⟨rfl, hR111⟩ - -
                have ho : q_ask z x s1 g1 u1 w1 = (0, sY z 0 2) := by unfold q_ask; rw [if_pos (show ((0 ≤ x ∧ x ≤ mY z 9 - 1) ∧ (0 ≤ g1 ∧ g1 ≤ mY z 12 - 1)) ∧ (s1 = -1 ∨ (0 ≤ s1 ∧ s1 ≤ mY z 9 - 1)) from ⟨⟨h3, h6⟩, Or.inr h75⟩), if_neg (show ¬ (¬ x = s1 ∧ (u1 = 0 ∨ (200 ≤ u1 ∧ u1 ≤ 1500)) ∧ (2 ≤ w1 ∧ w1 ≤ 300)) from fun q => q.2.1.elim h79 h109)]
                exact x_iret F hE dX4_ask_81 (Nat.le_of_ble_eq_true rfl) (Nat.le_of_ble_eq_true rfl) (⟨by rw [← hz, ho], by rw [← hz, ho]; exact hR111⟩)
              · replace h109 := bI_ne.mp h109
                refine x_iload F dX4_ask_64 5 rfl ?_
                refine x_iconst (v := 2) F rfl dX4_ask_66 ?_
                refine x_sipush (v := 300) F rfl dX4_ask_67 ?_
                refine x_callSp (rest := []) F (c_X4_isIn l G A w1 2 300) k_X4_84 ⟨(Nat.le_of_ble_eq_true rfl), (Nat.le_of_ble_eq_true rfl), rfl, rfl⟩ (Nat.le_of_ble_eq_true rfl) (Nat.le_of_ble_eq_true rfl) dX4_ask_70 rfl rfl (Nat.le_of_ble_eq_true rfl) trivial ?_
                refine x_if_ne F dX4_ask_73 (tgt := 82) (by decide) (fun h112 => ?_) (fun h112 => ?_)
                · replace h112 := bI_ne.mp h112
                  refine x_aload_n F dX4_ask_82 0 rfl rfl ?_
                  refine x_iconst (v := 0) F rfl dX4_ask_83 ?_
                  refine x_callVp (rest := []) F hR2.2.2.1 rfl (c_X4_with l G A z 0 hW) k_X4_128 ⟨(Nat.le_of_ble_eq_true rfl), (Nat.le_of_ble_eq_true rfl), rfl, rfl⟩ (Nat.le_of_ble_eq_true rfl) (Nat.le_of_ble_eq_true rfl) dX4_ask_84 rfl rfl (Nat.le_of_ble_eq_true rfl) hR2 ?_
                  refine x_bipush (v := 30) F rfl dX4_ask_87 ?_
                  refine x_icmp_eq F dX4_ask_89 (tgt := 101) (by decide) (fun h113 => ?_) (fun h113 => ?_)
                  · refine x_aload_n F dX4_ask_101 0 rfl rfl ?_
                    refine x_iconst (v := 3) F rfl dX4_ask_102 ?_
                    refine x_callVs (rest := []) F hR2.2.2.1 rfl (c_X4_no l G A z 3) k_X4_94 ⟨⟨(Nat.le_of_ble_eq_true rfl), (Nat.le_of_ble_eq_true rfl)⟩, (Nat.le_of_ble_eq_true rfl), (Nat.le_of_ble_eq_true rfl)⟩ dX4_ask_103 rfl rfl (Nat.le_of_ble_eq_true rfl) hR2 ?_
                    rintro _ H114 ⟨rfl, hR115⟩ - -
                    have ho : q_ask z x s1 g1 u1 w1 = (0, sY z 0 3) := by unfold q_ask; rw [if_pos (show ((0 ≤ x ∧ x ≤ mY z 9 - 1) ∧ (0 ≤ g1 ∧ g1 ≤ mY z 12 - 1)) ∧ (s1 = -1 ∨ (0 ≤ s1 ∧ s1 ≤ mY z 9 - 1)) from ⟨⟨h3, h6⟩, Or.inr h75⟩), if_pos (show ¬ x = s1 ∧ (u1 = 0 ∨ (200 ≤ u1 ∧ u1 ≤ 1500)) ∧ (2 ≤ w1 ∧ w1 ≤ 300) from ⟨h76, Or.inr h109, h112⟩), if_pos (show m_cnt2 z = 30 ∨ mY z 20 = 100 from Or.inl h113)]
                    exact x_iret F hE dX4_ask_106 (Nat.le_of_ble_eq_true rfl) (Nat.le_of_ble_eq_true rfl) (⟨by rw [← hz, ho], by rw [← hz, ho]; exact hR115⟩)
                  · refine x_aload_n F dX4_ask_92 0 rfl rfl ?_
                    refine z_get (m := z) (j := 20) (v := .int (mY z 20)) F hR2 mw_819 rfl (by decide) rfl dX4_ask_93 ?_
                    refine x_bipush (v := 100) F rfl dX4_ask_96 ?_
                    refine x_icmp_ne F dX4_ask_98 (tgt := 107) (by decide) (fun h116 => ?_) (fun h116 => ?_)
                    · have hlt : mf z < 100 := cap_lt hW.2.2.1 (show ¬ mY z 20 = nI 100 from h116)
                      refine x_aload_n F dX4_ask_107 0 rfl rfl ?_
                      refine z_get (m := z) (j := 21) (v := .ref (ma z 21)) F hR2 mw_820 rfl (by decide) rfl dX4_ask_108 ?_
                      refine x_aload_n F dX4_ask_111 0 rfl rfl ?_
                      refine z_get (m := z) (j := 20) (v := .int (mY z 20)) F hR2 mw_819 rfl (by decide) rfl dX4_ask_112 ?_
                      refine x_iload_n F dX4_ask_115 1 rfl rfl ?_
                      refine wx_st (y := nI (mf z)) (hW.2.2.1.1) ?_
                      refine z_istN (m := z) (j := 21) (i := (mf z)) (v := x) F hR2 (by decide) rfl rfl (hlt) (by decide) dX4_ask_116 (fun H117 hR118 => ?_)
                      refine x_aload_n F dX4_ask_117 0 rfl rfl ?_
                      refine z_get (m := (sZ z 21 (mf z) x)) (j := 22) (v := .ref (ma z 22)) F hR118 mw_821 rfl (by decide) rfl dX4_ask_118 ?_
                      refine x_aload_n F dX4_ask_121 0 rfl rfl ?_
                      refine z_get (m := (sZ z 21 (mf z) x)) (j := 20) (v := .int (mY z 20)) F hR118 mw_819 rfl (by decide) rfl dX4_ask_122 ?_
                      refine x_iload_n F dX4_ask_125 2 rfl rfl ?_
                      refine wx_st (y := nI (mf z)) (hW.2.2.1.1) ?_
                      refine z_istN (m := (sZ z 21 (mf z) x)) (j := 22) (i := (mf z)) (v := s1) F hR118 (by decide) rfl rfl (hlt) (by decide) dX4_ask_126 (fun H119 hR120 => ?_)
                      refine x_aload_n F dX4_ask_127 0 rfl rfl ?_
                      refine z_get (m := (sZ (sZ z 21 (mf z) x) 22 (mf z) s1)) (j := 23) (v := .ref (ma z 23)) F hR120 mw_822 rfl (by decide) rfl dX4_ask_128 ?_
                      refine x_aload_n F dX4_ask_131 0 rfl rfl ?_
                      refine z_get (m := (sZ (sZ z 21 (mf z) x) 22 (mf z) s1)) (j := 20) (v := .int (mY z 20)) F hR120 mw_819 rfl (by decide) rfl dX4_ask_132 ?_
                      refine x_iload_n F dX4_ask_135 3 rfl rfl ?_
                      refine wx_st (y := nI (mf z)) (hW.2.2.1.1) ?_
                      refine z_istN (m := (sZ (sZ z 21 (mf z) x) 22 (mf z) s1)) (j := 23) (i := (mf z)) (v := g1) F hR120 (by decide) rfl rfl (hlt) (by decide) dX4_ask_136 (fun H121 hR122 => ?_)
                      refine x_aload_n F dX4_ask_137 0 rfl rfl ?_
                      refine z_get (m := (sZ (sZ (sZ z 21 (mf z) x) 22 (mf z) s1) 23 (mf z) g1)) (j := 24) (v := .ref (ma z 24)) F hR122 mw_823 rfl (by decide) rfl dX4_ask_138 ?_
                      refine x_aload_n F dX4_ask_141 0 rfl rfl ?_
                      refine z_get (m := (sZ (sZ (sZ z 21 (mf z) x) 22 (mf z) s1) 23 (mf z) g1)) (j := 20) (v := .int (mY z 20)) F hR122 mw_819 rfl (by decide) rfl dX4_ask_142 ?_
                      refine x_iload F dX4_ask_145 4 rfl ?_
                      refine wx_st (y := nI (mf z)) (hW.2.2.1.1) ?_
                      refine z_istN (m := (sZ (sZ (sZ z 21 (mf z) x) 22 (mf z) s1) 23 (mf z) g1)) (j := 24) (i := (mf z)) (v := u1) F hR122 (by decide) rfl rfl (hlt) (by decide) dX4_ask_147 (fun H123 hR124 => ?_)
                      refine x_aload_n F dX4_ask_148 0 rfl rfl ?_
                      refine z_get (m := (sZ (sZ (sZ (sZ z 21 (mf z) x) 22 (mf z) s1) 23 (mf z) g1) 24 (mf z) u1)) (j := 25) (v := .ref (ma z 25)) F hR124 mw_824 rfl (by decide) rfl dX4_ask_149 ?_
                      refine x_aload_n F dX4_ask_152 0 rfl rfl ?_
                      refine z_get (m := (sZ (sZ (sZ (sZ z 21 (mf z) x) 22 (mf z) s1) 23 (mf z) g1) 24 (mf z) u1)) (j := 20) (v := .int (mY z 20)) F hR124 mw_819 rfl (by decide) rfl dX4_ask_153 ?_
                      refine x_iload F dX4_ask_156 5 rfl ?_
                      refine wx_st (y := nI (mf z)) (hW.2.2.1.1) ?_
                      refine z_istN (m := (sZ (sZ (sZ (sZ z 21 (mf z) x) 22 (mf z) s1) 23 (mf z) g1) 24 (mf z) u1)) (j := 25) (i := (mf z)) (v := w1) F hR124 (by decide) rfl rfl (hlt) (by decide) dX4_ask_158 (fun H125 hR126 => ?_)
                      refine x_aload_n F dX4_ask_159 0 rfl rfl ?_
                      refine z_get (m := (sZ (sZ (sZ (sZ (sZ z 21 (mf z) x) 22 (mf z) s1) 23 (mf z) g1) 24 (mf z) u1) 25 (mf z) w1)) (j := 26) (v := .ref (ma z 26)) F hR126 mw_825 rfl (by decide) rfl dX4_ask_160 ?_
                      refine x_aload_n F dX4_ask_163 0 rfl rfl ?_
                      refine z_get (m := (sZ (sZ (sZ (sZ (sZ z 21 (mf z) x) 22 (mf z) s1) 23 (mf z) g1) 24 (mf z) u1) 25 (mf z) w1)) (j := 20) (v := .int (mY z 20)) F hR126 mw_819 rfl (by decide) rfl dX4_ask_164 ?_
                      refine x_aload_n F dX4_ask_167 0 rfl rfl ?_
                      refine z_get (m := (sZ (sZ (sZ (sZ (sZ z 21 (mf z) x) 22 (mf z) s1) 23 (mf z) g1) 24 (mf z) u1) 25 (mf z) w1)) (j := 1) (v := .int (mY z 1)) F hR126 mw_800 rfl (by decide) rfl dX4_ask_168 ?_
                      refine wx_st (y := nI (mf z)) (hW.2.2.1.1) ?_
                      refine z_istN (m := (sZ (sZ (sZ (sZ (sZ z 21 (mf z) x) 22 (mf z) s1) 23 (mf z) g1) 24 (mf z) u1) 25 (mf z) w1)) (j := 26) (i := (mf z)) (v := mY z 1) F hR126 (by decide) rfl rfl (hlt) (by decide) dX4_ask_171 (fun H127 hR128 => ?_)
                      refine x_aload_n F dX4_ask_172 0 rfl rfl ?_
                      refine z_get (m := (sZ (sZ (sZ (sZ (sZ (sZ z 21 (mf z) x) 22 (mf z) s1) 23 (mf z) g1) 24 (mf z) u1) 25 (mf z) w1) 26 (mf z) (mY z 1))) (j := 27) (v := .ref (ma z 27)) F hR128 mw_826 rfl (by decide) rfl dX4_ask_173 ?_
                      refine x_aload_n F dX4_ask_176 0 rfl rfl ?_
                      refine z_get (m := (sZ (sZ (sZ (sZ (sZ (sZ z 21 (mf z) x) 22 (mf z) s1) 23 (mf z) g1) 24 (mf z) u1) 25 (mf z) w1) 26 (mf z) (mY z 1))) (j := 20) (v := .int (mY z 20)) F hR128 mw_819 rfl (by decide) rfl dX4_ask_177 ?_
                      refine x_iconst (v := (-1)) F rfl dX4_ask_180 ?_
                      refine wx_st (y := nI (mf z)) (hW.2.2.1.1) ?_
                      refine z_istN (m := (sZ (sZ (sZ (sZ (sZ (sZ z 21 (mf z) x) 22 (mf z) s1) 23 (mf z) g1) 24 (mf z) u1) 25 (mf z) w1) 26 (mf z) (mY z 1))) (j := 27) (i := (mf z)) (v := (-1)) F hR128 (by decide) rfl rfl (hlt) (by decide) dX4_ask_181 (fun H129 hR130 => ?_)
                      refine x_aload_n F dX4_ask_182 0 rfl rfl ?_
                      refine z_get (m := (sZ (sZ (sZ (sZ (sZ (sZ (sZ z 21 (mf z) x) 22 (mf z) s1) 23 (mf z) g1) 24 (mf z) u1) 25 (mf z) w1) 26 (mf z) (mY z 1)) 27 (mf z) (-1))) (j := 28) (v := .ref (ma z 28)) F hR130 mw_827 rfl (by decide) rfl dX4_ask_183 ?_
                      refine x_aload_n F dX4_ask_186 0 rfl rfl ?_
                      refine z_get (m := (sZ (sZ (sZ (sZ (sZ (sZ (sZ z 21 (mf z) x) 22 (mf z) s1) 23 (mf z) g1) 24 (mf z) u1) 25 (mf z) w1) 26 (mf z) (mY z 1)) 27 (mf z) (-1))) (j := 20) (v := .int (mY z 20)) F hR130 mw_819 rfl (by decide) rfl dX4_ask_187 ?_
                      refine x_iconst (v := (-1)) F rfl dX4_ask_190 ?_
                      refine wx_st (y := nI (mf z)) (hW.2.2.1.1) ?_
                      refine z_istN (m := (sZ (sZ (sZ (sZ (sZ (sZ (sZ z 21 (mf z) x) 22 (mf z) s1) 23 (mf z) g1) 24 (mf z) u1) 25 (mf z) w1) 26 (mf z) (mY z 1)) 27 (mf z) (-1))) (j := 28) (i := (mf z)) (v := (-1)) F hR130 (by decide) rfl rfl (hlt) (by decide) dX4_ask_191 (fun H131 hR132 => ?_)
                      refine x_aload_n F dX4_ask_192 0 rfl rfl ?_
                      refine z_get (m := (sZ (sZ (sZ (sZ (sZ (sZ (sZ (sZ z 21 (mf z) x) 22 (mf z) s1) 23 (mf z) g1) 24 (mf z) u1) 25 (mf z) w1) 26 (mf z) (mY z 1)) 27 (mf z) (-1)) 28 (mf z) (-1))) (j := 29) (v := .ref (ma z 29)) F hR132 mw_828 rfl (by decide) rfl dX4_ask_193 ?_
                      refine x_aload_n F dX4_ask_196 0 rfl rfl ?_
                      refine z_get (m := (sZ (sZ (sZ (sZ (sZ (sZ (sZ (sZ z 21 (mf z) x) 22 (mf z) s1) 23 (mf z) g1) 24 (mf z) u1) 25 (mf z) w1) 26 (mf z) (mY z 1)) 27 (mf z) (-1)) 28 (mf z) (-1))) (j := 20) (v := .int (mY z 20)) F hR132 mw_819 rfl (by decide) rfl dX4_ask_197 ?_
                      refine x_iconst (v := 0) F rfl dX4_ask_200 ?_
                      refine wx_st (y := nI (mf z)) (hW.2.2.1.1) ?_
                      refine z_istN (m := (sZ (sZ (sZ (sZ (sZ (sZ (sZ (sZ z 21 (mf z) x) 22 (mf z) s1) 23 (mf z) g1) 24 (mf z) u1) 25 (mf z) w1) 26 (mf z) (mY z 1)) 27 (mf z) (-1)) 28 (mf z) (-1))) (j := 29) (i := (mf z)) (v := 0) F hR132 (by decide) rfl rfl (hlt) (by decide) dX4_ask_201 (fun H133 hR134 => ?_)
                      refine x_aload_n F dX4_ask_202 0 rfl rfl ?_
                      refine x_dup F dX4_ask_203 rfl ?_
                      refine z_get (m := (sZ (sZ (sZ (sZ (sZ (sZ (sZ (sZ (sZ z 21 (mf z) x) 22 (mf z) s1) 23 (mf z) g1) 24 (mf z) u1) 25 (mf z) w1) 26 (mf z) (mY z 1)) 27 (mf z) (-1)) 28 (mf z) (-1)) 29 (mf z) 0)) (j := 20) (v := .int (mY z 20)) F hR134 mw_819 rfl (by decide) rfl dX4_ask_204 ?_
                      refine x_iconst (v := 1) F rfl dX4_ask_207 ?_
                      refine x_iadd F dX4_ask_208 ?_
                      refine z_put (m := (sZ (sZ (sZ (sZ (sZ (sZ (sZ (sZ (sZ z 21 (mf z) x) 22 (mf z) s1) 23 (mf z) g1) 24 (mf z) u1) 25 (mf z) w1) 26 (mf z) (mY z 1)) 27 (mf z) (-1)) 28 (mf z) (-1)) 29 (mf z) 0)) (j := 20) (v := (mY z 20) + 1) F hR134 mw_819 rfl (by decide) rfl rfl rfl dX4_ask_209 (fun H135 hR136 => ?_)
                      refine x_aload_n F dX4_ask_212 0 rfl rfl ?_
                      refine z_get (m := (sY (sZ (sZ (sZ (sZ (sZ (sZ (sZ (sZ (sZ z 21 (mf z) x) 22 (mf z) s1) 23 (mf z) g1) 24 (mf z) u1) 25 (mf z) w1) 26 (mf z) (mY z 1)) 27 (mf z) (-1)) 28 (mf z) (-1)) 29 (mf z) 0) 20 ((mY z 20) + 1))) (j := 20) (v := .int ((mY z 20) + 1)) F hR136 mw_819 rfl (by decide) rfl dX4_ask_213 ?_
                      refine x_iconst (v := 1) F rfl dX4_ask_216 ?_
                      refine x_isub F dX4_ask_217 ?_
                      have ho : q_ask z x s1 g1 u1 w1 = (((mY z 20) + 1) - 1, sY (sZ (sZ (sZ (sZ (sZ (sZ (sZ (sZ (sZ z 21 (mf z) x) 22 (mf z) s1) 23 (mf z) g1) 24 (mf z) u1) 25 (mf z) w1) 26 (mf z) (mY z 1)) 27 (mf z) (-1)) 28 (mf z) (-1)) 29 (mf z) 0) 20 ((mY z 20) + 1)) := by unfold q_ask; rw [if_pos (show ((0 ≤ x ∧ x ≤ mY z 9 - 1) ∧ (0 ≤ g1 ∧ g1 ≤ mY z 12 - 1)) ∧ (s1 = -1 ∨ (0 ≤ s1 ∧ s1 ≤ mY z 9 - 1)) from ⟨⟨h3, h6⟩, Or.inr h75⟩), if_pos (show ¬ x = s1 ∧ (u1 = 0 ∨ (200 ≤ u1 ∧ u1 ≤ 1500)) ∧ (2 ≤ w1 ∧ w1 ≤ 300) from ⟨h76, Or.inr h109, h112⟩), if_neg (show ¬ (m_cnt2 z = 30 ∨ mY z 20 = 100) from fun q => q.elim h113 h116)]; rfl
                      exact x_iret F hE dX4_ask_218 (Nat.le_of_ble_eq_true rfl) (Nat.le_of_ble_eq_true rfl) (⟨by rw [← hz, ho], by rw [← hz, ho]; exact hR136⟩)
                    · refine x_aload_n F dX4_ask_101 0 rfl rfl ?_
                      refine x_iconst (v := 3) F rfl dX4_ask_102 ?_
                      refine x_callVs (rest := []) F hR2.2.2.1 rfl (c_X4_no l G A z 3) k_X4_94 ⟨⟨(Nat.le_of_ble_eq_true rfl), (Nat.le_of_ble_eq_true rfl)⟩, (Nat.le_of_ble_eq_true rfl), (Nat.le_of_ble_eq_true rfl)⟩ dX4_ask_103 rfl rfl (Nat.le_of_ble_eq_true rfl) hR2 ?_
                      rintro _ H137 ⟨rfl, hR138⟩ - -
                      have ho : q_ask z x s1 g1 u1 w1 = (0, sY z 0 3) := by unfold q_ask; rw [if_pos (show ((0 ≤ x ∧ x ≤ mY z 9 - 1) ∧ (0 ≤ g1 ∧ g1 ≤ mY z 12 - 1)) ∧ (s1 = -1 ∨ (0 ≤ s1 ∧ s1 ≤ mY z 9 - 1)) from ⟨⟨h3, h6⟩, Or.inr h75⟩), if_pos (show ¬ x = s1 ∧ (u1 = 0 ∨ (200 ≤ u1 ∧ u1 ≤ 1500)) ∧ (2 ≤ w1 ∧ w1 ≤ 300) from ⟨h76, Or.inr h109, h112⟩), if_pos (show m_cnt2 z = 30 ∨ mY z 20 = 100 from Or.inr h116)]
                      exact x_iret F hE dX4_ask_106 (Nat.le_of_ble_eq_true rfl) (Nat.le_of_ble_eq_true rfl) (⟨by rw [← hz, ho], by rw [← hz, ho]; exact hR138⟩)
                · replace h112 := bI_0.mp h112
                  refine x_aload_n F dX4_ask_76 0 rfl rfl ?_
                  refine x_iconst (v := 2) F rfl dX4_ask_77 ?_
                  refine x_callVs (rest := []) F hR2.2.2.1 rfl (c_X4_no l G A z 2) k_X4_94 ⟨⟨(Nat.le_of_ble_eq_true rfl), (Nat.le_of_ble_eq_true rfl)⟩, (Nat.le_of_ble_eq_true rfl), (Nat.le_of_ble_eq_true rfl)⟩ dX4_ask_78 rfl rfl (Nat.le_of_ble_eq_true rfl) hR2 ?_
                  rintro _ H139 ⟨rfl, hR140⟩ - -
                  have ho : q_ask z x s1 g1 u1 w1 = (0, sY z 0 2) := by unfold q_ask; rw [if_pos (show ((0 ≤ x ∧ x ≤ mY z 9 - 1) ∧ (0 ≤ g1 ∧ g1 ≤ mY z 12 - 1)) ∧ (s1 = -1 ∨ (0 ≤ s1 ∧ s1 ≤ mY z 9 - 1)) from ⟨⟨h3, h6⟩, Or.inr h75⟩), if_neg (show ¬ (¬ x = s1 ∧ (u1 = 0 ∨ (200 ≤ u1 ∧ u1 ≤ 1500)) ∧ (2 ≤ w1 ∧ w1 ≤ 300)) from fun q => h112 q.2.2)]
                  exact x_iret F hE dX4_ask_81 (Nat.le_of_ble_eq_true rfl) (Nat.le_of_ble_eq_true rfl) (⟨by rw [← hz, ho], by rw [← hz, ho]; exact hR140⟩)
        · replace h75 := bI_0.mp h75
          refine x_aload_n F dX4_ask_34 0 rfl rfl ?_
          refine x_iconst (v := 1) F rfl dX4_ask_35 ?_
          refine x_callVs (rest := []) F hR2.2.2.1 rfl (c_X4_no l G A z 1) k_X4_94 ⟨⟨(Nat.le_of_ble_eq_true rfl), (Nat.le_of_ble_eq_true rfl)⟩, (Nat.le_of_ble_eq_true rfl), (Nat.le_of_ble_eq_true rfl)⟩ dX4_ask_36 rfl rfl (Nat.le_of_ble_eq_true rfl) hR2 ?_
          rintro _ H141 ⟨rfl, hR142⟩ - -
          have ho : q_ask z x s1 g1 u1 w1 = (0, sY z 0 1) := by unfold q_ask; rw [if_neg (show ¬ (((0 ≤ x ∧ x ≤ mY z 9 - 1) ∧ (0 ≤ g1 ∧ g1 ≤ mY z 12 - 1)) ∧ (s1 = -1 ∨ (0 ≤ s1 ∧ s1 ≤ mY z 9 - 1))) from fun q => q.2.elim h9 h75)]
          exact x_iret F hE dX4_ask_39 (Nat.le_of_ble_eq_true rfl) (Nat.le_of_ble_eq_true rfl) (⟨by rw [← hz, ho], by rw [← hz, ho]; exact hR142⟩)
set_option maxHeartbeats 4000000 in
set_option maxRecDepth 100000 in
theorem c_X4_list (l : Launch) (G : GT) (A : Nat → Prop) (m : MS) (hW : WfM m) (x : Int32) : Ct l yX4_list cX4_list 3 (some .int) ({ frames := 1, cells := 0, slots := 0, locals := 23 } : Room) G A [.ref (ma m 30), .int x] (fun H => RepM G A m H) (fun H r H1 => r = some (.int (q_list (sY m 0 0) x).1) ∧ RepM G A ((q_list (sY m 0 0) x).2) H1) := by
  refine ct_of (own := "GliderDayModel") (by decide +kernel) rfl (Nat.le_of_ble_eq_true rfl) (fun E H0 F hE hR => ?_)
  show wx E H0 0 0 0 [(0, .ref (ma m 30)), (1, .int x)] []
  refine x_aload_n F dX4_list_0 0 rfl rfl ?_
  refine x_iconst (v := 0) F rfl dX4_list_1 ?_
  refine z_put (m := m) (j := 0) (v := 0) F hR mw_799 rfl (by decide) rfl rfl rfl dX4_list_2 (fun H1 hR2 => ?_)
  obtain ⟨z, hz⟩ : ∃ z, z = sY m 0 0 := ⟨_, rfl⟩
  have hW : WfM z := by rw [hz]; exact Same.wf (Same.Y (by decide)) hW
  rw [← hz] at hR2
  refine wx_lv (lv' := [(0, .ref (ma z 30)), (1, .int x)]) (by rw [hz]; rfl) ?_
  refine x_iload_n F dX4_list_5 1 rfl rfl ?_
  refine x_if_ge F dX4_list_6 (tgt := 15) (by decide) (fun h3 => ?_) (fun h3 => ?_)
  · have h3' := Int32.not_lt.mpr h3
    refine x_iconst (v := 0) F rfl dX4_list_15 ?_
    refine x_istore_n (lv' := [(2, .int 0), (0, .ref (ma z 30)), (1, .int x)]) F dX4_list_16 rfl (by decide) rfl ?_
    refine wx_sub (lv' := [(0, .ref (ma z 30)), (1, .int x), (2, .int 0)]) [1, 2, 0] rfl ?_
    refine (loop_dn (N := (mf z)) (P := fun i => (fgo (p_li z x) (mf z - i) i = fgo (p_li z x) (mf z) 0) → wx E H1 0 0 17 [(0, .ref (ma z 30)), (1, .int x), (2, .int (nI i))] []) ?_ ?_) 0 (Nat.zero_le _) (rfl)
    · intro hL17
      refine x_iload_n F dX4_list_17 2 rfl rfl ?_
      refine x_aload_n F dX4_list_18 0 rfl rfl ?_
      refine z_get (m := z) (j := 20) (v := .int (mY z 20)) F hR2 mw_819 rfl (by decide) rfl dX4_list_19 ?_
      refine wx_i (y := nI (mf z)) hW.2.2.1.1 ?_
      refine x_icmp_ge F dX4_list_22 (tgt := 51) (by decide) (fun _ => ?_) (fun h4 => absurd (Int32.le_refl _) h4)
      refine x_iconst (v := (-1)) F rfl dX4_list_51 ?_
      have ho : q_list z x = ((-1), z) := by unfold q_list; rw [if_pos h3, ← hL17, fgo_end]
      exact x_iret F hE dX4_list_52 (Nat.le_of_ble_eq_true rfl) (Nat.le_of_ble_eq_true rfl) (⟨by rw [← hz, ho], by rw [← hz, ho]; exact hR2⟩)
    · intro i hi ih17 hL17
      refine x_iload_n F dX4_list_17 2 rfl rfl ?_
      refine x_aload_n F dX4_list_18 0 rfl rfl ?_
      refine z_get (m := z) (j := 20) (v := .int (mY z 20)) F hR2 mw_819 rfl (by decide) rfl dX4_list_19 ?_
      refine wx_i (y := nI (mf z)) hW.2.2.1.1 ?_
      refine x_icmp_ge F dX4_list_22 (tgt := 51) (by decide) (fun h5 => absurd h5 (nI_ge hi ((Nat.lt_of_le_of_lt hW.2.2.1.2 (by decide))))) (fun _ => ?_)
      refine x_aload_n F dX4_list_25 0 rfl rfl ?_
      refine z_get (m := z) (j := 29) (v := .ref (ma z 29)) F hR2 mw_828 rfl (by decide) rfl dX4_list_26 ?_
      refine x_iload_n F dX4_list_29 2 rfl rfl ?_
      refine z_ildN (m := z) (j := 29) (i := i) F hR2 (by decide) rfl rfl (Nat.lt_of_lt_of_le hi hW.2.2.1.2) (by decide) dX4_list_30 ?_
      refine x_if_ne F dX4_list_31 (tgt := 45) (by decide) (fun h6 => ?_) (fun h6 => ?_)
      · refine x_iinc (j := 2) (v := nI (i + 1)) (lv' := [(2, .int (nI (i + 1))), (0, .ref (ma z 30)), (1, .int x)]) F dX4_list_45 rfl (nI_1 _) (by decide) rfl ?_
        refine x_goto F dX4_list_48 (tgt := 17) (by decide) ?_
        refine wx_sub (lv' := [(0, .ref (ma z 30)), (1, .int x), (2, .int (nI (i + 1)))]) [1, 2, 0] rfl ?_
        exact ih17 (by rw [← hL17, fgo_at hi, if_neg (by simp [p_li, h3, h3', h6])])
      · refine x_aload_n F dX4_list_34 0 rfl rfl ?_
        refine x_iload_n F dX4_list_35 2 rfl rfl ?_
        refine x_callVp (rest := []) F hR2.2.2.1 rfl (c_X4_place l G A z i hi hW) k_X4_137 ⟨(Nat.le_of_ble_eq_true rfl), (Nat.le_of_ble_eq_true rfl), rfl, rfl⟩ (Nat.le_of_ble_eq_true rfl) (Nat.le_of_ble_eq_true rfl) dX4_list_36 rfl rfl (Nat.le_of_ble_eq_true rfl) hR2 ?_
        refine x_iload_n F dX4_list_39 1 rfl rfl ?_
        refine x_icmp_ne F dX4_list_40 (tgt := 45) (by decide) (fun h7 => ?_) (fun h7 => ?_)
        · refine x_iinc (j := 2) (v := nI (i + 1)) (lv' := [(2, .int (nI (i + 1))), (0, .ref (ma z 30)), (1, .int x)]) F dX4_list_45 rfl (nI_1 _) (by decide) rfl ?_
          refine x_goto F dX4_list_48 (tgt := 17) (by decide) ?_
          refine wx_sub (lv' := [(0, .ref (ma z 30)), (1, .int x), (2, .int (nI (i + 1)))]) [1, 2, 0] rfl ?_
          exact ih17 (by rw [← hL17, fgo_at hi, if_neg (by simp [p_li, h3, h3', h6, h7])])
        · refine x_iload_n F dX4_list_43 2 rfl rfl ?_
          have ho : q_list z x = (nI i, z) := by unfold q_list; rw [if_pos h3, ← hL17, fgo_at hi, if_pos (by simp [p_li, h3, h3', h6, h7])]
          exact x_iret F hE dX4_list_44 (Nat.le_of_ble_eq_true rfl) (Nat.le_of_ble_eq_true rfl) (⟨by rw [← hz, ho], by rw [← hz, ho]; exact hR2⟩)
  · have h3' := Int32.not_le.mp h3
    refine x_aload_n F dX4_list_9 0 rfl rfl ?_
    refine x_iconst (v := 1) F rfl dX4_list_10 ?_
    refine x_callVs (rest := []) F hR2.2.2.1 rfl (c_X4_no l G A z 1) k_X4_94 ⟨⟨(Nat.le_of_ble_eq_true rfl), (Nat.le_of_ble_eq_true rfl)⟩, (Nat.le_of_ble_eq_true rfl), (Nat.le_of_ble_eq_true rfl)⟩ dX4_list_11 rfl rfl (Nat.le_of_ble_eq_true rfl) hR2 ?_
    rintro _ H8 ⟨rfl, hR9⟩ - -
    have ho : q_list z x = (0, sY z 0 1) := by first | (simp [q_list, h3, h3']; done) | (simp [q_list, h3, h3']; rfl) | (exfalso; simp_all; done)
    exact x_iret F hE dX4_list_14 (Nat.le_of_ble_eq_true rfl) (Nat.le_of_ble_eq_true rfl) (⟨by rw [← hz, ho], by rw [← hz, ho]; exact hR9⟩)
set_option maxHeartbeats 4000000 in
set_option maxRecDepth 100000 in
theorem c_X4_counted (l : Launch) (G : GT) (A : Nat → Prop) (m : MS) (w : Int32) (hW : WfM m) : Ct l yX4_counted cX4_counted 7 (some .int) ({ frames := 1, cells := 0, slots := 0, locals := 23 } : Room) G A [.ref (ma m 30), .int w] (fun H => RepM G A m H) (Pu (.int (m_cnt m w))) := by
  refine ct_of (own := "GliderDayModel") (by decide +kernel) rfl (Nat.le_of_ble_eq_true rfl) (fun E H0 F hE hR => ?_)
  show wx E H0 0 0 0 [(0, .ref (ma m 30)), (1, .int w)] []
  refine x_iload_n F dX4_counted_0 1 rfl rfl ?_
  by_cases hw1 : w = 0
  · rw [hw1]
    refine x_tableIn (off := 47) (tgt := 48) F dX4_counted_1 (by decide) (by decide) rfl (by decide) ?_
    refine x_aload_n F dX4_counted_48 0 rfl rfl ?_
    refine z_get (m := m) (j := 9) (v := .int (mY m 9)) F hR mw_808 rfl (by decide) rfl dX4_counted_49 ?_
    exact x_iret F hE dX4_counted_52 (Nat.le_of_ble_eq_true rfl) (Nat.le_of_ble_eq_true rfl) (⟨by first | (simp [m_cnt, hw1]; done) | (simp [m_cnt, m_wc, hw1]; done) | (simp [m_cnt, hw1]; rfl), rfl⟩)
  by_cases hw2 : w = 1
  · rw [hw2]
    refine x_tableIn (off := 52) (tgt := 53) F dX4_counted_1 (by decide) (by decide) rfl (by decide) ?_
    refine x_aload_n F dX4_counted_53 0 rfl rfl ?_
    refine z_get (m := m) (j := 12) (v := .int (mY m 12)) F hR mw_811 rfl (by decide) rfl dX4_counted_54 ?_
    exact x_iret F hE dX4_counted_57 (Nat.le_of_ble_eq_true rfl) (Nat.le_of_ble_eq_true rfl) (⟨by first | (simp [m_cnt, hw1, hw2]; done) | (simp [m_cnt, m_wc, hw1, hw2]; done) | (simp [m_cnt, hw1, hw2]; rfl), rfl⟩)
  by_cases hw3 : w = 2
  · rw [hw3]
    refine x_tableIn (off := 57) (tgt := 58) F dX4_counted_1 (by decide) (by decide) rfl (by decide) ?_
    refine x_aload_n F dX4_counted_58 0 rfl rfl ?_
    refine z_get (m := m) (j := 20) (v := .int (mY m 20)) F hR mw_819 rfl (by decide) rfl dX4_counted_59 ?_
    exact x_iret F hE dX4_counted_62 (Nat.le_of_ble_eq_true rfl) (Nat.le_of_ble_eq_true rfl) (⟨by first | (simp [m_cnt, hw1, hw2, hw3]; done) | (simp [m_cnt, m_wc, hw1, hw2, hw3]; done) | (simp [m_cnt, hw1, hw2, hw3]; rfl), rfl⟩)
  by_cases hw4 : w = 3
  · rw [hw4]
    refine x_tableIn (off := 62) (tgt := 63) F dX4_counted_1 (by decide) (by decide) rfl (by decide) ?_
    refine x_aload_n F dX4_counted_63 0 rfl rfl ?_
    refine x_iconst (v := 0) F rfl dX4_counted_64 ?_
    refine x_callVp (rest := []) F hR.2.2.1 rfl (c_X4_with l G A m 0 hW) k_X4_128 ⟨(Nat.le_of_ble_eq_true rfl), (Nat.le_of_ble_eq_true rfl), rfl, rfl⟩ (Nat.le_of_ble_eq_true rfl) (Nat.le_of_ble_eq_true rfl) dX4_counted_65 rfl rfl (Nat.le_of_ble_eq_true rfl) hR ?_
    exact x_iret F hE dX4_counted_68 (Nat.le_of_ble_eq_true rfl) (Nat.le_of_ble_eq_true rfl) (⟨by first | (simp [m_cnt, hw1, hw2, hw3, hw4]; done) | (simp [m_cnt, m_wc, hw1, hw2, hw3, hw4]; done) | (simp [m_cnt, hw1, hw2, hw3, hw4]; rfl), rfl⟩)
  by_cases hw5 : w = 4
  · rw [hw5]
    refine x_tableIn (off := 68) (tgt := 69) F dX4_counted_1 (by decide) (by decide) rfl (by decide) ?_
    refine x_aload_n F dX4_counted_69 0 rfl rfl ?_
    refine x_iconst (v := 1) F rfl dX4_counted_70 ?_
    refine x_callVp (rest := []) F hR.2.2.1 rfl (c_X4_with l G A m 1 hW) k_X4_128 ⟨(Nat.le_of_ble_eq_true rfl), (Nat.le_of_ble_eq_true rfl), rfl, rfl⟩ (Nat.le_of_ble_eq_true rfl) (Nat.le_of_ble_eq_true rfl) dX4_counted_71 rfl rfl (Nat.le_of_ble_eq_true rfl) hR ?_
    exact x_iret F hE dX4_counted_74 (Nat.le_of_ble_eq_true rfl) (Nat.le_of_ble_eq_true rfl) (⟨by first | (simp [m_cnt, hw1, hw2, hw3, hw4, hw5]; done) | (simp [m_cnt, m_wc, hw1, hw2, hw3, hw4, hw5]; done) | (simp [m_cnt, hw1, hw2, hw3, hw4, hw5]; rfl), rfl⟩)
  by_cases hw6 : w = 5
  · rw [hw6]
    refine x_tableIn (off := 89) (tgt := 90) F dX4_counted_1 (by decide) (by decide) rfl (by decide) ?_
    refine x_iconst (v := 0) F rfl dX4_counted_90 ?_
    refine x_istore_n (lv' := [(2, .int 0), (0, .ref (ma m 30)), (1, .int 5)]) F dX4_counted_91 rfl (by decide) rfl ?_
    refine x_aload_n F dX4_counted_92 1 rfl rfl ?_
    refine z_get (m := m) (j := 18) (v := .ref (ma m 18)) F hR mw_817 rfl (by decide) rfl dX4_counted_93 ?_
    refine x_astore_n (lv' := [(3, .ref (ma m 18)), (2, .int 0), (0, .ref (ma m 30)), (1, .int 5)]) F dX4_counted_96 rfl (by decide) rfl ?_
    refine x_aload_n F dX4_counted_97 0 rfl rfl ?_
    refine x_alen F (hR.2.2.2 18 (by decide)) (show hA_ G G.2.1.1 .int from List.mem_cons_self) (v := 8) rfl dX4_counted_98 ?_
    refine x_istore (lv' := [(4, .int 8), (3, .ref (ma m 18)), (2, .int 0), (0, .ref (ma m 30)), (1, .int 5)]) F dX4_counted_99 (by decide) rfl ?_
    refine x_iconst (v := 0) F rfl dX4_counted_101 ?_
    refine x_istore (lv' := [(5, .int 0), (4, .int 8), (3, .ref (ma m 18)), (2, .int 0), (0, .ref (ma m 30)), (1, .int 5)]) F dX4_counted_102 (by decide) rfl ?_
    refine wx_sub (lv' := [(0, .ref (ma m 30)), (2, .int 0), (3, .ref (ma m 18)), (4, .int 8), (5, .int 0)]) [4, 3, 2, 1, 0] rfl ?_
    refine (loop_dn (N := 8) (P := fun i => wx E H0 0 0 104 [(0, .ref (ma m 30)), (2, .int (m_wc m i)), (3, .ref (ma m 18)), (4, .int 8), (5, .int (nI i))] []) ?_ ?_) 0 (Nat.zero_le _)
    · refine x_iload F dX4_counted_104 4 rfl ?_
      refine x_iload F dX4_counted_106 3 rfl ?_
      refine x_icmp_ge F dX4_counted_108 (tgt := 136) (by decide) (fun _ => ?_) (fun h7 => absurd (Int32.le_refl _) h7)
      refine x_iload_n F dX4_counted_136 1 rfl rfl ?_
      exact x_iret F hE dX4_counted_137 (Nat.le_of_ble_eq_true rfl) (Nat.le_of_ble_eq_true rfl) (⟨by first | (simp [m_cnt, hw1, hw2, hw3, hw4, hw5, hw6]; done) | (simp [m_cnt, m_wc, hw1, hw2, hw3, hw4, hw5, hw6]; done) | (simp [m_cnt, hw1, hw2, hw3, hw4, hw5, hw6]; rfl), rfl⟩)
    · intro i hi ih104
      refine x_iload F dX4_counted_104 4 rfl ?_
      refine x_iload F dX4_counted_106 3 rfl ?_
      refine x_icmp_ge F dX4_counted_108 (tgt := 136) (by decide) (fun h8 => absurd h8 (nI_ge hi (by decide))) (fun _ => ?_)
      refine x_aload_n F dX4_counted_111 2 rfl rfl ?_
      refine x_iload F dX4_counted_112 4 rfl ?_
      refine z_ildN (m := m) (j := 18) (i := i) F hR (by decide) rfl rfl (hi) (by decide) dX4_counted_114 ?_
      refine x_istore (lv' := [(6, .int (mZ m 18 i)), (0, .ref (ma m 30)), (2, .int (m_wc m i)), (3, .ref (ma m 18)), (4, .int 8), (5, .int (nI i))]) F dX4_counted_115 (by decide) rfl ?_
      refine x_iload_n F dX4_counted_117 2 rfl rfl ?_
      refine x_iload F dX4_counted_118 0 rfl ?_
      refine x_if_le F dX4_counted_120 (tgt := 127) (by decide) (fun h9 => ?_) (fun h9 => ?_)
      · have h9' := Int32.not_lt.mpr h9
        refine x_iconst (v := 0) F rfl dX4_counted_127 ?_
        refine x_iadd F dX4_counted_128 ?_
        refine x_istore_n (lv' := [(2, .int ((m_wc m i) + 0)), (6, .int (mZ m 18 i)), (0, .ref (ma m 30)), (3, .ref (ma m 18)), (4, .int 8), (5, .int (nI i))]) F dX4_counted_129 rfl (by decide) rfl ?_
        refine x_iinc (j := 5) (v := nI (i + 1)) (lv' := [(5, .int (nI (i + 1))), (2, .int ((m_wc m i) + 0)), (6, .int (mZ m 18 i)), (0, .ref (ma m 30)), (3, .ref (ma m 18)), (4, .int 8)]) F dX4_counted_130 rfl (nI_1 _) (by decide) rfl ?_
        refine x_goto F dX4_counted_133 (tgt := 104) (by decide) ?_
        refine wx_sub (lv' := [(0, .ref (ma m 30)), (2, .int ((m_wc m i) + 0)), (3, .ref (ma m 18)), (4, .int 8), (5, .int (nI (i + 1)))]) [3, 1, 4, 5, 0] rfl ?_
        refine wx_lv (lv' := [(0, .ref (ma m 30)), (2, .int (m_wc m (i + 1))), (3, .ref (ma m 18)), (4, .int 8), (5, .int (nI (i + 1)))]) (by simp [m_wc, sumN, hw1, hw2, hw3, hw4, hw5, hw6, h9, h9']) ?_
        exact ih104
      · have h9' := Int32.not_le.mp h9
        refine x_iconst (v := 1) F rfl dX4_counted_123 ?_
        refine x_goto F dX4_counted_124 (tgt := 128) (by decide) ?_
        refine x_iadd F dX4_counted_128 ?_
        refine x_istore_n (lv' := [(2, .int ((m_wc m i) + 1)), (6, .int (mZ m 18 i)), (0, .ref (ma m 30)), (3, .ref (ma m 18)), (4, .int 8), (5, .int (nI i))]) F dX4_counted_129 rfl (by decide) rfl ?_
        refine x_iinc (j := 5) (v := nI (i + 1)) (lv' := [(5, .int (nI (i + 1))), (2, .int ((m_wc m i) + 1)), (6, .int (mZ m 18 i)), (0, .ref (ma m 30)), (3, .ref (ma m 18)), (4, .int 8)]) F dX4_counted_130 rfl (nI_1 _) (by decide) rfl ?_
        refine x_goto F dX4_counted_133 (tgt := 104) (by decide) ?_
        refine wx_sub (lv' := [(0, .ref (ma m 30)), (2, .int ((m_wc m i) + 1)), (3, .ref (ma m 18)), (4, .int 8), (5, .int (nI (i + 1)))]) [3, 1, 4, 5, 0] rfl ?_
        refine wx_lv (lv' := [(0, .ref (ma m 30)), (2, .int (m_wc m (i + 1))), (3, .ref (ma m 18)), (4, .int 8), (5, .int (nI (i + 1)))]) (by simp [m_wc, sumN, hw1, hw2, hw3, hw4, hw5, hw6, h9, h9']) ?_
        exact ih104
  by_cases hw10 : w = 6
  · rw [hw10]
    refine x_tableIn (off := 74) (tgt := 75) F dX4_counted_1 (by decide) (by decide) rfl (by decide) ?_
    refine x_aload_n F dX4_counted_75 0 rfl rfl ?_
    refine z_get (m := m) (j := 5) (v := .int (mY m 5)) F hR mw_804 rfl (by decide) rfl dX4_counted_76 ?_
    exact x_iret F hE dX4_counted_79 (Nat.le_of_ble_eq_true rfl) (Nat.le_of_ble_eq_true rfl) (⟨by first | (simp [m_cnt, hw1, hw2, hw3, hw4, hw5, hw6, hw10]; done) | (simp [m_cnt, m_wc, hw1, hw2, hw3, hw4, hw5, hw6, hw10]; done) | (simp [m_cnt, hw1, hw2, hw3, hw4, hw5, hw6, hw10]; rfl), rfl⟩)
  by_cases hw11 : w = 7
  · rw [hw11]
    refine x_tableIn (off := 79) (tgt := 80) F dX4_counted_1 (by decide) (by decide) rfl (by decide) ?_
    refine x_aload_n F dX4_counted_80 0 rfl rfl ?_
    refine z_get (m := m) (j := 7) (v := .int (mY m 7)) F hR mw_806 rfl (by decide) rfl dX4_counted_81 ?_
    refine x_aload_n F dX4_counted_84 0 rfl rfl ?_
    refine x_callVp (rest := [.int (mY m 7)]) F hR.2.2.1 rfl (c_X4_takenTugs l G A m ) k_X4_98 ⟨(Nat.le_of_ble_eq_true rfl), (Nat.le_of_ble_eq_true rfl), rfl, rfl⟩ (Nat.le_of_ble_eq_true rfl) (Nat.le_of_ble_eq_true rfl) dX4_counted_85 rfl rfl (Nat.le_of_ble_eq_true rfl) hR ?_
    refine x_isub F dX4_counted_88 ?_
    exact x_iret F hE dX4_counted_89 (Nat.le_of_ble_eq_true rfl) (Nat.le_of_ble_eq_true rfl) (⟨by first | (simp [m_cnt, hw1, hw2, hw3, hw4, hw5, hw6, hw10, hw11]; done) | (simp [m_cnt, m_wc, hw1, hw2, hw3, hw4, hw5, hw6, hw10, hw11]; done) | (simp [m_cnt, hw1, hw2, hw3, hw4, hw5, hw6, hw10, hw11]; rfl), rfl⟩)
  refine x_tableOut (tgt := 90) F dX4_counted_1 (tsw (n := 7) (fun j hj => match j, hj with | 0, _ => hw1 | 1, _ => hw2 | 2, _ => hw3 | 3, _ => hw4 | 4, _ => hw5 | 5, _ => hw6 | 6, _ => hw10 | 7, _ => hw11 | j + 8, hj => absurd hj (by omega))) (by decide) ?_
  refine x_iconst (v := 0) F rfl dX4_counted_90 ?_
  refine x_istore_n (lv' := [(2, .int 0), (0, .ref (ma m 30)), (1, .int w)]) F dX4_counted_91 rfl (by decide) rfl ?_
  refine x_aload_n F dX4_counted_92 1 rfl rfl ?_
  refine z_get (m := m) (j := 18) (v := .ref (ma m 18)) F hR mw_817 rfl (by decide) rfl dX4_counted_93 ?_
  refine x_astore_n (lv' := [(3, .ref (ma m 18)), (2, .int 0), (0, .ref (ma m 30)), (1, .int w)]) F dX4_counted_96 rfl (by decide) rfl ?_
  refine x_aload_n F dX4_counted_97 0 rfl rfl ?_
  refine x_alen F (hR.2.2.2 18 (by decide)) (show hA_ G G.2.1.1 .int from List.mem_cons_self) (v := 8) rfl dX4_counted_98 ?_
  refine x_istore (lv' := [(4, .int 8), (3, .ref (ma m 18)), (2, .int 0), (0, .ref (ma m 30)), (1, .int w)]) F dX4_counted_99 (by decide) rfl ?_
  refine x_iconst (v := 0) F rfl dX4_counted_101 ?_
  refine x_istore (lv' := [(5, .int 0), (4, .int 8), (3, .ref (ma m 18)), (2, .int 0), (0, .ref (ma m 30)), (1, .int w)]) F dX4_counted_102 (by decide) rfl ?_
  refine wx_sub (lv' := [(0, .ref (ma m 30)), (2, .int 0), (3, .ref (ma m 18)), (4, .int 8), (5, .int 0)]) [4, 3, 2, 1, 0] rfl ?_
  refine (loop_dn (N := 8) (P := fun i => wx E H0 0 0 104 [(0, .ref (ma m 30)), (2, .int (m_wc m i)), (3, .ref (ma m 18)), (4, .int 8), (5, .int (nI i))] []) ?_ ?_) 0 (Nat.zero_le _)
  · refine x_iload F dX4_counted_104 4 rfl ?_
    refine x_iload F dX4_counted_106 3 rfl ?_
    refine x_icmp_ge F dX4_counted_108 (tgt := 136) (by decide) (fun _ => ?_) (fun h12 => absurd (Int32.le_refl _) h12)
    refine x_iload_n F dX4_counted_136 1 rfl rfl ?_
    exact x_iret F hE dX4_counted_137 (Nat.le_of_ble_eq_true rfl) (Nat.le_of_ble_eq_true rfl) (⟨by first | (simp [m_cnt, hw1, hw2, hw3, hw4, hw5, hw6, hw10, hw11]; done) | (simp [m_cnt, m_wc, hw1, hw2, hw3, hw4, hw5, hw6, hw10, hw11]; done) | (simp [m_cnt, hw1, hw2, hw3, hw4, hw5, hw6, hw10, hw11]; rfl), rfl⟩)
  · intro i hi ih104
    refine x_iload F dX4_counted_104 4 rfl ?_
    refine x_iload F dX4_counted_106 3 rfl ?_
    refine x_icmp_ge F dX4_counted_108 (tgt := 136) (by decide) (fun h13 => absurd h13 (nI_ge hi (by decide))) (fun _ => ?_)
    refine x_aload_n F dX4_counted_111 2 rfl rfl ?_
    refine x_iload F dX4_counted_112 4 rfl ?_
    refine z_ildN (m := m) (j := 18) (i := i) F hR (by decide) rfl rfl (hi) (by decide) dX4_counted_114 ?_
    refine x_istore (lv' := [(6, .int (mZ m 18 i)), (0, .ref (ma m 30)), (2, .int (m_wc m i)), (3, .ref (ma m 18)), (4, .int 8), (5, .int (nI i))]) F dX4_counted_115 (by decide) rfl ?_
    refine x_iload_n F dX4_counted_117 2 rfl rfl ?_
    refine x_iload F dX4_counted_118 0 rfl ?_
    refine x_if_le F dX4_counted_120 (tgt := 127) (by decide) (fun h14 => ?_) (fun h14 => ?_)
    · have h14' := Int32.not_lt.mpr h14
      refine x_iconst (v := 0) F rfl dX4_counted_127 ?_
      refine x_iadd F dX4_counted_128 ?_
      refine x_istore_n (lv' := [(2, .int ((m_wc m i) + 0)), (6, .int (mZ m 18 i)), (0, .ref (ma m 30)), (3, .ref (ma m 18)), (4, .int 8), (5, .int (nI i))]) F dX4_counted_129 rfl (by decide) rfl ?_
      refine x_iinc (j := 5) (v := nI (i + 1)) (lv' := [(5, .int (nI (i + 1))), (2, .int ((m_wc m i) + 0)), (6, .int (mZ m 18 i)), (0, .ref (ma m 30)), (3, .ref (ma m 18)), (4, .int 8)]) F dX4_counted_130 rfl (nI_1 _) (by decide) rfl ?_
      refine x_goto F dX4_counted_133 (tgt := 104) (by decide) ?_
      refine wx_sub (lv' := [(0, .ref (ma m 30)), (2, .int ((m_wc m i) + 0)), (3, .ref (ma m 18)), (4, .int 8), (5, .int (nI (i + 1)))]) [3, 1, 4, 5, 0] rfl ?_
      refine wx_lv (lv' := [(0, .ref (ma m 30)), (2, .int (m_wc m (i + 1))), (3, .ref (ma m 18)), (4, .int 8), (5, .int (nI (i + 1)))]) (by simp [m_wc, sumN, hw1, hw2, hw3, hw4, hw5, hw6, hw10, hw11, h14, h14']) ?_
      exact ih104
    · have h14' := Int32.not_le.mp h14
      refine x_iconst (v := 1) F rfl dX4_counted_123 ?_
      refine x_goto F dX4_counted_124 (tgt := 128) (by decide) ?_
      refine x_iadd F dX4_counted_128 ?_
      refine x_istore_n (lv' := [(2, .int ((m_wc m i) + 1)), (6, .int (mZ m 18 i)), (0, .ref (ma m 30)), (3, .ref (ma m 18)), (4, .int 8), (5, .int (nI i))]) F dX4_counted_129 rfl (by decide) rfl ?_
      refine x_iinc (j := 5) (v := nI (i + 1)) (lv' := [(5, .int (nI (i + 1))), (2, .int ((m_wc m i) + 1)), (6, .int (mZ m 18 i)), (0, .ref (ma m 30)), (3, .ref (ma m 18)), (4, .int 8)]) F dX4_counted_130 rfl (nI_1 _) (by decide) rfl ?_
      refine x_goto F dX4_counted_133 (tgt := 104) (by decide) ?_
      refine wx_sub (lv' := [(0, .ref (ma m 30)), (2, .int ((m_wc m i) + 1)), (3, .ref (ma m 18)), (4, .int 8), (5, .int (nI (i + 1)))]) [3, 1, 4, 5, 0] rfl ?_
      refine wx_lv (lv' := [(0, .ref (ma m 30)), (2, .int (m_wc m (i + 1))), (3, .ref (ma m 18)), (4, .int 8), (5, .int (nI (i + 1)))]) (by simp [m_wc, sumN, hw1, hw2, hw3, hw4, hw5, hw6, hw10, hw11, h14, h14']) ?_
      exact ih104
set_option maxHeartbeats 4000000 in
set_option maxRecDepth 100000 in
theorem c_X4_count (l : Launch) (G : GT) (A : Nat → Prop) (m : MS) (hW : WfM m) (x : Int32) : Ct l yX4_count cX4_count 2 (some .int) ({ frames := 2, cells := 0, slots := 0, locals := 49 } : Room) G A [.ref (ma m 30), .int x] (fun H => RepM G A m H) (fun H r H1 => r = some (.int (q_count (sY m 0 0) x).1) ∧ RepM G A ((q_count (sY m 0 0) x).2) H1) := by
  refine ct_of (own := "GliderDayModel") (by decide +kernel) rfl (Nat.le_of_ble_eq_true rfl) (fun E H0 F hE hR => ?_)
  show wx E H0 0 0 0 [(0, .ref (ma m 30)), (1, .int x)] []
  refine x_aload_n F dX4_count_0 0 rfl rfl ?_
  refine x_iconst (v := 0) F rfl dX4_count_1 ?_
  refine z_put (m := m) (j := 0) (v := 0) F hR mw_799 rfl (by decide) rfl rfl rfl dX4_count_2 (fun H1 hR2 => ?_)
  obtain ⟨z, hz⟩ : ∃ z, z = sY m 0 0 := ⟨_, rfl⟩
  have hW : WfM z := by rw [hz]; exact Same.wf (Same.Y (by decide)) hW
  rw [← hz] at hR2
  refine wx_lv (lv' := [(0, .ref (ma z 30)), (1, .int x)]) (by rw [hz]; rfl) ?_
  refine x_iload_n F dX4_count_5 1 rfl rfl ?_
  refine x_iconst (v := 0) F rfl dX4_count_6 ?_
  refine x_bipush (v := 7) F rfl dX4_count_7 ?_
  refine x_callSp (rest := []) F (c_X4_isIn l G A x 0 7) k_X4_84 ⟨(Nat.le_of_ble_eq_true rfl), (Nat.le_of_ble_eq_true rfl), rfl, rfl⟩ (Nat.le_of_ble_eq_true rfl) (Nat.le_of_ble_eq_true rfl) dX4_count_9 rfl rfl (Nat.le_of_ble_eq_true rfl) trivial ?_
  refine x_if_eq F dX4_count_12 (tgt := 23) (by decide) (fun h3 => ?_) (fun h3 => ?_)
  · replace h3 := bI_0.mp h3
    refine x_aload_n F dX4_count_23 0 rfl rfl ?_
    refine x_iconst (v := 1) F rfl dX4_count_24 ?_
    refine x_callVs (rest := []) F hR2.2.2.1 rfl (c_X4_no l G A z 1) k_X4_94 ⟨⟨(Nat.le_of_ble_eq_true rfl), (Nat.le_of_ble_eq_true rfl)⟩, (Nat.le_of_ble_eq_true rfl), (Nat.le_of_ble_eq_true rfl)⟩ dX4_count_25 rfl rfl (Nat.le_of_ble_eq_true rfl) hR2 ?_
    rintro _ H4 ⟨rfl, hR5⟩ - -
    have ho : q_count z x = (0, sY z 0 1) := by first | (simp [q_count, h3]; done) | (simp [q_count, h3]; rfl) | (exfalso; simp_all; done)
    exact x_iret F hE dX4_count_28 (Nat.le_of_ble_eq_true rfl) (Nat.le_of_ble_eq_true rfl) (⟨by rw [← hz, ho], by rw [← hz, ho]; exact hR5⟩)
  · replace h3 := bI_ne.mp h3
    refine x_aload_n F dX4_count_15 0 rfl rfl ?_
    refine x_iload_n F dX4_count_16 1 rfl rfl ?_
    refine x_callVp (rest := []) F hR2.2.2.1 rfl (c_X4_counted l G A z x hW) k_X4_180 ⟨(Nat.le_of_ble_eq_true rfl), (Nat.le_of_ble_eq_true rfl), rfl, rfl⟩ (Nat.le_of_ble_eq_true rfl) (Nat.le_of_ble_eq_true rfl) dX4_count_17 rfl rfl (Nat.le_of_ble_eq_true rfl) hR2 ?_
    refine x_goto F dX4_count_20 (tgt := 28) (by decide) ?_
    have ho : q_count z x = (m_cnt z x, z) := by first | (simp [q_count, h3]; done) | (simp [q_count, h3]; rfl) | (exfalso; simp_all; done)
    exact x_iret F hE dX4_count_28 (Nat.le_of_ble_eq_true rfl) (Nat.le_of_ble_eq_true rfl) (⟨by rw [← hz, ho], by rw [← hz, ho]; exact hR2⟩)
set_option maxHeartbeats 4000000 in
set_option maxRecDepth 100000 in
theorem c_X4_isBusy (l : Launch) (G : GT) (A : Nat → Prop) (m : MS) (hW : WfM m)  : Ct l yX4_isBusy cX4_isBusy 1 (some .boolean) ({ frames := 1, cells := 0, slots := 0, locals := 20 } : Room) G A [.ref (ma m 30)] (fun H => RepM G A m H) (fun H r H1 => r = some (.int (q_isBusy (sY m 0 0) ).1) ∧ RepM G A ((q_isBusy (sY m 0 0) ).2) H1) := by
  refine ct_of (own := "GliderDayModel") (by decide +kernel) rfl (Nat.le_of_ble_eq_true rfl) (fun E H0 F hE hR => ?_)
  show wx E H0 0 0 0 [(0, .ref (ma m 30))] []
  refine x_aload_n F dX4_isBusy_0 0 rfl rfl ?_
  refine x_iconst (v := 0) F rfl dX4_isBusy_1 ?_
  refine z_put (m := m) (j := 0) (v := 0) F hR mw_799 rfl (by decide) rfl rfl rfl dX4_isBusy_2 (fun H1 hR2 => ?_)
  obtain ⟨z, hz⟩ : ∃ z, z = sY m 0 0 := ⟨_, rfl⟩
  have hW : WfM z := by rw [hz]; exact Same.wf (Same.Y (by decide)) hW
  rw [← hz] at hR2
  refine wx_lv (lv' := [(0, .ref (ma z 30))]) (by rw [hz]; rfl) ?_
  refine x_aload_n F dX4_isBusy_5 0 rfl rfl ?_
  refine x_callVp (rest := []) F hR2.2.2.1 rfl (c_X4_isBusyNow l G A z ) k_X4_146 ⟨(Nat.le_of_ble_eq_true rfl), (Nat.le_of_ble_eq_true rfl), rfl, rfl⟩ (Nat.le_of_ble_eq_true rfl) (Nat.le_of_ble_eq_true rfl) dX4_isBusy_6 rfl rfl (Nat.le_of_ble_eq_true rfl) hR2 ?_
  have ho : q_isBusy z  = (bI (mY z 1 < mY z 4), z) := rfl
  exact x_zret F bI_nar hE dX4_isBusy_9 (Nat.le_of_ble_eq_true rfl) (Nat.le_of_ble_eq_true rfl) (⟨by rw [← hz, ho], by rw [← hz, ho]; exact hR2⟩)
set_option maxHeartbeats 4000000 in
set_option maxRecDepth 100000 in
theorem c_X4_now (l : Launch) (G : GT) (A : Nat → Prop) (m : MS) (hW : WfM m)  : Ct l yX4_now cX4_now 1 (some .int) ({ frames := 0, cells := 0, slots := 0, locals := 0 } : Room) G A [.ref (ma m 30)] (fun H => RepM G A m H) (fun H r H1 => r = some (.int (q_now (sY m 0 0) ).1) ∧ RepM G A ((q_now (sY m 0 0) ).2) H1) := by
  refine ct_of (own := "GliderDayModel") (by decide +kernel) rfl (Nat.le_of_ble_eq_true rfl) (fun E H0 F hE hR => ?_)
  show wx E H0 0 0 0 [(0, .ref (ma m 30))] []
  refine x_aload_n F dX4_now_0 0 rfl rfl ?_
  refine x_iconst (v := 0) F rfl dX4_now_1 ?_
  refine z_put (m := m) (j := 0) (v := 0) F hR mw_799 rfl (by decide) rfl rfl rfl dX4_now_2 (fun H1 hR2 => ?_)
  obtain ⟨z, hz⟩ : ∃ z, z = sY m 0 0 := ⟨_, rfl⟩
  have hW : WfM z := by rw [hz]; exact Same.wf (Same.Y (by decide)) hW
  rw [← hz] at hR2
  refine wx_lv (lv' := [(0, .ref (ma z 30))]) (by rw [hz]; rfl) ?_
  refine x_aload_n F dX4_now_5 0 rfl rfl ?_
  refine z_get (m := z) (j := 1) (v := .int (mY z 1)) F hR2 mw_800 rfl (by decide) rfl dX4_now_6 ?_
  have ho : q_now z  = (mY z 1, z) := rfl
  exact x_iret F hE dX4_now_9 (Nat.le_of_ble_eq_true rfl) (Nat.le_of_ble_eq_true rfl) (⟨by rw [← hz, ho], by rw [← hz, ho]; exact hR2⟩)
set_option maxHeartbeats 4000000 in
set_option maxRecDepth 100000 in
theorem c_X4_income (l : Launch) (G : GT) (A : Nat → Prop) (m : MS) (hW : WfM m)  : Ct l yX4_income cX4_income 3 (some .int) ({ frames := 2, cells := 0, slots := 0, locals := 36 } : Room) G A [.ref (ma m 30)] (fun H => RepM G A m H) (fun H r H1 => r = some (.int (q_income (sY m 0 0) ).1) ∧ RepM G A ((q_income (sY m 0 0) ).2) H1) := by
  refine ct_of (own := "GliderDayModel") (by decide +kernel) rfl (Nat.le_of_ble_eq_true rfl) (fun E H0 F hE hR => ?_)
  show wx E H0 0 0 0 [(0, .ref (ma m 30))] []
  refine x_aload_n F dX4_income_0 0 rfl rfl ?_
  refine x_iconst (v := 0) F rfl dX4_income_1 ?_
  refine z_put (m := m) (j := 0) (v := 0) F hR mw_799 rfl (by decide) rfl rfl rfl dX4_income_2 (fun H1 hR2 => ?_)
  obtain ⟨z, hz⟩ : ∃ z, z = sY m 0 0 := ⟨_, rfl⟩
  have hW : WfM z := by rw [hz]; exact Same.wf (Same.Y (by decide)) hW
  rw [← hz] at hR2
  refine wx_lv (lv' := [(0, .ref (ma z 30))]) (by rw [hz]; rfl) ?_
  refine x_iconst (v := 0) F rfl dX4_income_5 ?_
  refine x_istore_n (lv' := [(1, .int 0), (0, .ref (ma z 30))]) F dX4_income_6 rfl (by decide) rfl ?_
  refine x_iconst (v := 0) F rfl dX4_income_7 ?_
  refine x_istore_n (lv' := [(2, .int 0), (1, .int 0), (0, .ref (ma z 30))]) F dX4_income_8 rfl (by decide) rfl ?_
  refine wx_sub (lv' := [(0, .ref (ma z 30)), (1, .int 0), (2, .int 0)]) [2, 1, 0] rfl ?_
  refine (loop_dn (N := (mf z)) (P := fun i => wx E H1 0 0 9 [(0, .ref (ma z 30)), (1, .int (sumN i (m_cost z))), (2, .int (nI i))] []) ?_ ?_) 0 (Nat.zero_le _)
  · refine x_iload_n F dX4_income_9 2 rfl rfl ?_
    refine x_aload_n F dX4_income_10 0 rfl rfl ?_
    refine z_get (m := z) (j := 20) (v := .int (mY z 20)) F hR2 mw_819 rfl (by decide) rfl dX4_income_11 ?_
    refine wx_i (y := nI (mf z)) hW.2.2.1.1 ?_
    refine x_icmp_ge F dX4_income_14 (tgt := 31) (by decide) (fun _ => ?_) (fun h3 => absurd (Int32.le_refl _) h3)
    refine x_iload_n F dX4_income_31 1 rfl rfl ?_
    have ho : q_income z  = (sumN (mf z) (m_cost z), z) := rfl
    exact x_iret F hE dX4_income_32 (Nat.le_of_ble_eq_true rfl) (Nat.le_of_ble_eq_true rfl) (⟨by rw [← hz, ho], by rw [← hz, ho]; exact hR2⟩)
  · intro i hi ih9
    refine x_iload_n F dX4_income_9 2 rfl rfl ?_
    refine x_aload_n F dX4_income_10 0 rfl rfl ?_
    refine z_get (m := z) (j := 20) (v := .int (mY z 20)) F hR2 mw_819 rfl (by decide) rfl dX4_income_11 ?_
    refine wx_i (y := nI (mf z)) hW.2.2.1.1 ?_
    refine x_icmp_ge F dX4_income_14 (tgt := 31) (by decide) (fun h4 => absurd h4 (nI_ge hi ((Nat.lt_of_le_of_lt hW.2.2.1.2 (by decide))))) (fun _ => ?_)
    refine x_iload_n F dX4_income_17 1 rfl rfl ?_
    refine x_aload_n F dX4_income_18 0 rfl rfl ?_
    refine x_iload_n F dX4_income_19 2 rfl rfl ?_
    refine x_callVp (rest := [.int (sumN i (m_cost z))]) F hR2.2.2.1 rfl (c_X4_costOf l G A z i hi hW) k_X4_174 ⟨(Nat.le_of_ble_eq_true rfl), (Nat.le_of_ble_eq_true rfl), rfl, rfl⟩ (Nat.le_of_ble_eq_true rfl) (Nat.le_of_ble_eq_true rfl) dX4_income_20 rfl rfl (Nat.le_of_ble_eq_true rfl) hR2 ?_
    refine x_iadd F dX4_income_23 ?_
    refine x_istore_n (lv' := [(1, .int ((sumN i (m_cost z)) + (m_cost z i))), (0, .ref (ma z 30)), (2, .int (nI i))]) F dX4_income_24 rfl (by decide) rfl ?_
    refine x_iinc (j := 2) (v := nI (i + 1)) (lv' := [(2, .int (nI (i + 1))), (1, .int ((sumN i (m_cost z)) + (m_cost z i))), (0, .ref (ma z 30))]) F dX4_income_25 rfl (nI_1 _) (by decide) rfl ?_
    refine x_goto F dX4_income_28 (tgt := 9) (by decide) ?_
    refine wx_sub (lv' := [(0, .ref (ma z 30)), (1, .int ((sumN i (m_cost z)) + (m_cost z i))), (2, .int (nI (i + 1)))]) [2, 1, 0] rfl ?_
    refine wx_lv (lv' := [(0, .ref (ma z 30)), (1, .int (sumN (i + 1) (m_cost z))), (2, .int (nI (i + 1)))]) (rfl) ?_
    exact ih9
set_option maxHeartbeats 4000000 in
set_option maxRecDepth 100000 in
theorem c_X4_longest (l : Launch) (G : GT) (A : Nat → Prop) (m : MS) (hW : WfM m)  : Ct l yX4_longest cX4_longest 3 (some .int) ({ frames := 0, cells := 0, slots := 0, locals := 0 } : Room) G A [.ref (ma m 30)] (fun H => RepM G A m H) (fun H r H1 => r = some (.int (q_longest (sY m 0 0) ).1) ∧ RepM G A ((q_longest (sY m 0 0) ).2) H1) := by
  refine ct_of (own := "GliderDayModel") (by decide +kernel) rfl (Nat.le_of_ble_eq_true rfl) (fun E H0 F hE hR => ?_)
  show wx E H0 0 0 0 [(0, .ref (ma m 30))] []
  refine x_aload_n F dX4_longest_0 0 rfl rfl ?_
  refine x_iconst (v := 0) F rfl dX4_longest_1 ?_
  refine z_put (m := m) (j := 0) (v := 0) F hR mw_799 rfl (by decide) rfl rfl rfl dX4_longest_2 (fun H1 hR2 => ?_)
  obtain ⟨z, hz⟩ : ∃ z, z = sY m 0 0 := ⟨_, rfl⟩
  have hW : WfM z := by rw [hz]; exact Same.wf (Same.Y (by decide)) hW
  rw [← hz] at hR2
  refine wx_lv (lv' := [(0, .ref (ma z 30))]) (by rw [hz]; rfl) ?_
  refine x_iconst (v := (-1)) F rfl dX4_longest_5 ?_
  refine x_istore_n (lv' := [(1, .int (-1)), (0, .ref (ma z 30))]) F dX4_longest_6 rfl (by decide) rfl ?_
  refine x_iconst (v := 0) F rfl dX4_longest_7 ?_
  refine x_istore_n (lv' := [(2, .int 0), (1, .int (-1)), (0, .ref (ma z 30))]) F dX4_longest_8 rfl (by decide) rfl ?_
  refine wx_sub (lv' := [(0, .ref (ma z 30)), (1, .int (-1)), (2, .int 0)]) [2, 1, 0] rfl ?_
  refine (loop_dn (N := (mf z)) (P := fun i => wx E H1 0 0 9 [(0, .ref (ma z 30)), (1, .int (m_lng z i)), (2, .int (nI i))] []) ?_ ?_) 0 (Nat.zero_le _)
  · refine x_iload_n F dX4_longest_9 2 rfl rfl ?_
    refine x_aload_n F dX4_longest_10 0 rfl rfl ?_
    refine z_get (m := z) (j := 20) (v := .int (mY z 20)) F hR2 mw_819 rfl (by decide) rfl dX4_longest_11 ?_
    refine wx_i (y := nI (mf z)) hW.2.2.1.1 ?_
    refine x_icmp_ge F dX4_longest_14 (tgt := 69) (by decide) (fun _ => ?_) (fun h3 => absurd (Int32.le_refl _) h3)
    refine x_iload_n F dX4_longest_69 1 rfl rfl ?_
    have ho : q_longest z  = (m_lng z (mf z), z) := rfl
    exact x_iret F hE dX4_longest_70 (Nat.le_of_ble_eq_true rfl) (Nat.le_of_ble_eq_true rfl) (⟨by rw [← hz, ho], by rw [← hz, ho]; exact hR2⟩)
  · intro i hi ih9
    refine x_iload_n F dX4_longest_9 2 rfl rfl ?_
    refine x_aload_n F dX4_longest_10 0 rfl rfl ?_
    refine z_get (m := z) (j := 20) (v := .int (mY z 20)) F hR2 mw_819 rfl (by decide) rfl dX4_longest_11 ?_
    refine wx_i (y := nI (mf z)) hW.2.2.1.1 ?_
    refine x_icmp_ge F dX4_longest_14 (tgt := 69) (by decide) (fun h4 => absurd h4 (nI_ge hi ((Nat.lt_of_le_of_lt hW.2.2.1.2 (by decide))))) (fun _ => ?_)
    refine x_aload_n F dX4_longest_17 0 rfl rfl ?_
    refine z_get (m := z) (j := 29) (v := .ref (ma z 29)) F hR2 mw_828 rfl (by decide) rfl dX4_longest_18 ?_
    refine x_iload_n F dX4_longest_21 2 rfl rfl ?_
    refine z_ildN (m := z) (j := 29) (i := i) F hR2 (by decide) rfl rfl (Nat.lt_of_lt_of_le hi hW.2.2.1.2) (by decide) dX4_longest_22 ?_
    refine x_iconst (v := 2) F rfl dX4_longest_23 ?_
    refine x_icmp_ne F dX4_longest_24 (tgt := 63) (by decide) (fun h5 => ?_) (fun h5 => ?_)
    · refine x_iinc (j := 2) (v := nI (i + 1)) (lv' := [(2, .int (nI (i + 1))), (0, .ref (ma z 30)), (1, .int (m_lng z i))]) F dX4_longest_63 rfl (nI_1 _) (by decide) rfl ?_
      refine x_goto F dX4_longest_66 (tgt := 9) (by decide) ?_
      refine wx_sub (lv' := [(0, .ref (ma z 30)), (1, .int (m_lng z i)), (2, .int (nI (i + 1)))]) [1, 2, 0] rfl ?_
      refine wx_lv (lv' := [(0, .ref (ma z 30)), (1, .int (m_lng z (i + 1))), (2, .int (nI (i + 1)))]) (by first | (simp [m_lng, h5]; done) | (simp_all [m_lng]; done)) ?_
      exact ih9
    · refine x_iload_n F dX4_longest_27 1 rfl rfl ?_
      refine x_iconst (v := (-1)) F rfl dX4_longest_28 ?_
      refine x_icmp_eq F dX4_longest_29 (tgt := 61) (by decide) (fun h6 => ?_) (fun h6 => ?_)
      · refine x_iload_n F dX4_longest_61 2 rfl rfl ?_
        refine x_istore_n (lv' := [(1, .int (nI i)), (0, .ref (ma z 30)), (2, .int (nI i))]) F dX4_longest_62 rfl (by decide) rfl ?_
        refine x_iinc (j := 2) (v := nI (i + 1)) (lv' := [(2, .int (nI (i + 1))), (1, .int (nI i)), (0, .ref (ma z 30))]) F dX4_longest_63 rfl (nI_1 _) (by decide) rfl ?_
        refine x_goto F dX4_longest_66 (tgt := 9) (by decide) ?_
        refine wx_sub (lv' := [(0, .ref (ma z 30)), (1, .int (nI i)), (2, .int (nI (i + 1)))]) [2, 1, 0] rfl ?_
        refine wx_lv (lv' := [(0, .ref (ma z 30)), (1, .int (m_lng z (i + 1))), (2, .int (nI (i + 1)))]) (by first | (simp [m_lng, h5, h6]; done) | (simp_all [m_lng]; done)) ?_
        exact ih9
      · obtain ⟨hne, hnl⟩ := lng_ok i (Nat.lt_trans hi (Nat.lt_of_le_of_lt hW.2.2.1.2 (by decide))) h6
        refine x_aload_n F dX4_longest_32 0 rfl rfl ?_
        refine z_get (m := z) (j := 28) (v := .ref (ma z 28)) F hR2 mw_827 rfl (by decide) rfl dX4_longest_33 ?_
        refine x_iload_n F dX4_longest_36 2 rfl rfl ?_
        refine z_ildN (m := z) (j := 28) (i := i) F hR2 (by decide) rfl rfl (Nat.lt_of_lt_of_le hi hW.2.2.1.2) (by decide) dX4_longest_37 ?_
        refine x_aload_n F dX4_longest_38 0 rfl rfl ?_
        refine z_get (m := z) (j := 27) (v := .ref (ma z 27)) F hR2 mw_826 rfl (by decide) rfl dX4_longest_39 ?_
        refine x_iload_n F dX4_longest_42 2 rfl rfl ?_
        refine z_ildN (m := z) (j := 27) (i := i) F hR2 (by decide) rfl rfl (Nat.lt_of_lt_of_le hi hW.2.2.1.2) (by decide) dX4_longest_43 ?_
        refine x_isub F dX4_longest_44 ?_
        refine x_aload_n F dX4_longest_45 0 rfl rfl ?_
        refine z_get (m := z) (j := 28) (v := .ref (ma z 28)) F hR2 mw_827 rfl (by decide) rfl dX4_longest_46 ?_
        refine x_iload_n F dX4_longest_49 1 rfl rfl ?_
        refine wx_i (y := nI (tN (m_lng z i))) (hne) ?_
        refine z_ildN (m := z) (j := 28) (i := (tN (m_lng z i))) F hR2 (by decide) rfl rfl (Nat.lt_of_lt_of_le (Nat.lt_trans hnl hi) hW.2.2.1.2) (by decide) dX4_longest_50 ?_
        refine x_aload_n F dX4_longest_51 0 rfl rfl ?_
        refine z_get (m := z) (j := 27) (v := .ref (ma z 27)) F hR2 mw_826 rfl (by decide) rfl dX4_longest_52 ?_
        refine x_iload_n F dX4_longest_55 1 rfl rfl ?_
        refine wx_i (y := nI (tN (m_lng z i))) (hne) ?_
        refine z_ildN (m := z) (j := 27) (i := (tN (m_lng z i))) F hR2 (by decide) rfl rfl (Nat.lt_of_lt_of_le (Nat.lt_trans hnl hi) hW.2.2.1.2) (by decide) dX4_longest_56 ?_
        refine x_isub F dX4_longest_57 ?_
        refine x_icmp_le F dX4_longest_58 (tgt := 63) (by decide) (fun h7 => ?_) (fun h7 => ?_)
        · have h7' := Int32.not_lt.mpr h7
          refine x_iinc (j := 2) (v := nI (i + 1)) (lv' := [(2, .int (nI (i + 1))), (0, .ref (ma z 30)), (1, .int (m_lng z i))]) F dX4_longest_63 rfl (nI_1 _) (by decide) rfl ?_
          refine x_goto F dX4_longest_66 (tgt := 9) (by decide) ?_
          refine wx_sub (lv' := [(0, .ref (ma z 30)), (1, .int (m_lng z i)), (2, .int (nI (i + 1)))]) [1, 2, 0] rfl ?_
          refine wx_lv (lv' := [(0, .ref (ma z 30)), (1, .int (m_lng z (i + 1))), (2, .int (nI (i + 1)))]) (by first | (simp [m_lng, h5, h6, h7, h7']; done) | (simp_all [m_lng]; done)) ?_
          exact ih9
        · have h7' := Int32.not_le.mp h7
          refine x_iload_n F dX4_longest_61 2 rfl rfl ?_
          refine x_istore_n (lv' := [(1, .int (nI i)), (0, .ref (ma z 30)), (2, .int (nI i))]) F dX4_longest_62 rfl (by decide) rfl ?_
          refine x_iinc (j := 2) (v := nI (i + 1)) (lv' := [(2, .int (nI (i + 1))), (1, .int (nI i)), (0, .ref (ma z 30))]) F dX4_longest_63 rfl (nI_1 _) (by decide) rfl ?_
          refine x_goto F dX4_longest_66 (tgt := 9) (by decide) ?_
          refine wx_sub (lv' := [(0, .ref (ma z 30)), (1, .int (nI i)), (2, .int (nI (i + 1)))]) [2, 1, 0] rfl ?_
          refine wx_lv (lv' := [(0, .ref (ma z 30)), (1, .int (m_lng z (i + 1))), (2, .int (nI (i + 1)))]) (by first | (simp [m_lng, h5, h6, h7, h7']; done) | (simp_all [m_lng]; done)) ?_
          exact ih9
end MD8
