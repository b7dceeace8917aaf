/-! the reference's own methods -/
section MD2
theorem wx_st {E : WE} {H : Heap} {k n pc : Nat} {lv : List (Nat × Value)} {st : List Value} {v : Value} {x y : Int32} (h : x = y) (kk : wx E H k n pc lv (v :: .int y :: st)) : wx E H k n pc lv (v :: .int x :: st) := h ▸ kk
def mm (m : MS) : Nat := tN (mY m 9)
def mg (m : MS) : Nat := tN (mY m 12)
def mf (m : MS) : Nat := tN (mY m 20)
/-- the numbers of the reference's flights are numbers of members and gliders -/
def WfM (m : MS) : Prop := (mY m 9 = nI (mm m) ∧ mm m ≤ 16) ∧ (mY m 12 = nI (mg m) ∧ mg m ≤ 8) ∧ (mY m 20 = nI (mf m) ∧ mf m ≤ 100) ∧ ∀ f, f < mf m → (mZ m 21 f = nI (tN (mZ m 21 f)) ∧ tN (mZ m 21 f) < mm m) ∧ (mZ m 22 f = -1 ∨ (mZ m 22 f = nI (tN (mZ m 22 f)) ∧ tN (mZ m 22 f) < mm m)) ∧ (mZ m 23 f = nI (tN (mZ m 23 f)) ∧ tN (mZ m 23 f) < mg m)
/-- the first number from i on, of k, of which p holds; -1 -/
def fgo (p : Nat → Bool) : Nat → Nat → Int32
  | 0, _ => -1
  | k + 1, i => if p i = true then nI i else fgo p k (i + 1)
theorem fgo_at {p : Nat → Bool} {N i : Nat} (h : i < N) : fgo p (N - i) i = if p i = true then nI i else fgo p (N - (i + 1)) (i + 1) := by
  rw [show N - i = (N - (i + 1)) + 1 by omega]
  rfl
theorem fgo_end {p : Nat → Bool} {N : Nat} : fgo p (N - N) N = -1 := by rw [Nat.sub_self]; rfl
def anyB (p : Nat → Bool) : Nat → Bool
  | 0 => false
  | n + 1 => anyB p n || p n
def m_tk (m : MS) : Int32 := (if 0 < mZ m 8 0 then 1 else 0) + (if 0 < mZ m 8 1 then 1 else 0)
def p_fo (m : MS) (x : Int32) (f : Nat) : Bool := decide (mZ m 29 f = 1 ∧ mZ m 23 f = x)
/-- the flight that a glider makes -/
def m_fo (m : MS) (x : Int32) : Int32 := fgo (p_fo m x) (mf m) 0
def p_fl (m : MS) (x : Int32) (f : Nat) : Bool := decide (mZ m 29 f = 1 ∧ (mZ m 21 f = x ∨ mZ m 22 f = x))
def m_fl (m : MS) (x : Int32) : Bool := anyB (p_fl m x) (mf m)
def m_wt (m : MS) (f : Nat) : Bool := decide (¬ mZ m 22 f = -1 ∧ mZ m 10 (tN (mZ m 22 f)) = 3)
theorem k_X4_84 : cwS_ "GliderDayModel" 84 yX4_isIn cX4_isIn 3 (some .boolean) 3 := ⟨mw_899, mw_900, mw_59, mw_901, ⟨by decide +kernel, by decide +kernel, by decide +kernel⟩⟩
set_option maxHeartbeats 4000000 in
set_option maxRecDepth 100000 in
theorem c_X4_thrown (l : Launch) (G : GT) (A : Nat → Prop) (m : MS)  : Ct l yX4_thrown cX4_thrown 1 (some .int) ({ frames := 0, cells := 0, slots := 0, locals := 0 } : Room) G A [.ref (ma m 30)] (fun H => RepM G A m H) (Pu (.int (mY m 0))) := by
  refine ct_of (own := "GliderDayModel") (by decide +kernel) rfl (Nat.le_of_ble_eq_true rfl) (fun E H0 F hE hR => ?_)
  show wx E H0 0 0 0 [(0, .ref (ma m 30))] []
  refine x_aload_n F dX4_thrown_0 0 rfl rfl ?_
  refine z_get (m := m) (j := 0) (v := .int (mY m 0)) F hR mw_799 rfl (by decide) rfl dX4_thrown_1 ?_
  exact x_iret F hE dX4_thrown_4 (Nat.le_of_ble_eq_true rfl) (Nat.le_of_ble_eq_true rfl) (⟨rfl, rfl⟩)
set_option maxHeartbeats 4000000 in
set_option maxRecDepth 100000 in
theorem c_X4_no (l : Launch) (G : GT) (A : Nat → Prop) (m : MS) (x : Int32) : Ct l yX4_no cX4_no 2 (some .int) ({ frames := 0, cells := 0, slots := 0, locals := 0 } : Room) G A [.ref (ma m 30), .int x] (fun H => RepM G A m H) (fun H r H1 => r = some (.int 0) ∧ RepM G A (sY m 0 x) H1) := by
  refine ct_of (own := "GliderDayModel") (by decide +kernel) rfl (Nat.le_of_ble_eq_true rfl) (fun E H0 F hE hR => ?_)
  show wx E H0 0 0 0 [(0, .ref (ma m 30)), (1, .int x)] []
  refine x_aload_n F dX4_no_0 0 rfl rfl ?_
  refine x_iload_n F dX4_no_1 1 rfl rfl ?_
  refine z_put (m := m) (j := 0) (v := x) F hR mw_799 rfl (by decide) rfl rfl rfl dX4_no_2 (fun H1 hR2 => ?_)
  refine x_iconst (v := 0) F rfl dX4_no_5 ?_
  exact x_iret F hE dX4_no_6 (Nat.le_of_ble_eq_true rfl) (Nat.le_of_ble_eq_true rfl) (⟨rfl, hR2⟩)
set_option maxHeartbeats 4000000 in
set_option maxRecDepth 100000 in
theorem c_X4_isIn (l : Launch) (G : GT) (A : Nat → Prop) (x a b : Int32) : Ct l yX4_isIn cX4_isIn 3 (some .boolean) ({ frames := 0, cells := 0, slots := 0, locals := 0 } : Room) G A [.int x, .int a, .int b] (fun H => True) (Pu (.int (bI (a ≤ x ∧ x ≤ b)))) := by
  refine ct_of (own := "GliderDayModel") (by decide +kernel) rfl (Nat.le_of_ble_eq_true rfl) (fun E H0 F hE _ => ?_)
  show wx E H0 0 0 0 [(0, .int x), (1, .int a), (2, .int b)] []
  refine x_iload_n F dX4_isIn_0 0 rfl rfl ?_
  refine x_iload_n F dX4_isIn_1 1 rfl rfl ?_
  refine x_icmp_lt F dX4_isIn_2 (tgt := 14) (by decide) (fun h1 => ?_) (fun h1 => ?_)
  · have h1' := Int32.not_le.mpr h1
    refine x_iconst (v := 0) F rfl dX4_isIn_14 ?_
    exact x_zret F rfl hE dX4_isIn_15 (Nat.le_of_ble_eq_true rfl) (Nat.le_of_ble_eq_true rfl) (⟨by rw [bI_f (by simp [h1, h1'])], rfl⟩)
  · have h1' := Int32.not_lt.mp h1
    refine x_iload_n F dX4_isIn_5 0 rfl rfl ?_
    refine x_iload_n F dX4_isIn_6 2 rfl rfl ?_
    refine x_icmp_gt F dX4_isIn_7 (tgt := 14) (by decide) (fun h2 => ?_) (fun h2 => ?_)
    · have h2' := Int32.not_le.mpr h2
      refine x_iconst (v := 0) F rfl dX4_isIn_14 ?_
      exact x_zret F rfl hE dX4_isIn_15 (Nat.le_of_ble_eq_true rfl) (Nat.le_of_ble_eq_true rfl) (⟨by rw [bI_f (by simp [h1, h1', h2, h2'])], rfl⟩)
    · have h2' := Int32.not_lt.mp h2
      refine x_iconst (v := 1) F rfl dX4_isIn_10 ?_
      refine x_goto F dX4_isIn_11 (tgt := 15) (by decide) ?_
      exact x_zret F rfl hE dX4_isIn_15 (Nat.le_of_ble_eq_true rfl) (Nat.le_of_ble_eq_true rfl) (⟨by rw [bI_t (by simp [h1, h1', h2, h2'])], rfl⟩)
set_option maxHeartbeats 4000000 in
set_option maxRecDepth 100000 in
theorem c_X4_isMember (l : Launch) (G : GT) (A : Nat → Prop) (m : MS) (x : Int32) : Ct l yX4_isMember cX4_isMember 2 (some .boolean) ({ frames := 1, cells := 0, slots := 0, locals := 22 } : Room) G A [.ref (ma m 30), .int x] (fun H => RepM G A m H) (Pu (.int (bI (0 ≤ x ∧ x ≤ mY m 9 - 1)))) := by
  refine ct_of (own := "GliderDayModel") (by decide +kernel) rfl (Nat.le_of_ble_eq_true rfl) (fun E H0 F hE hR => ?_)
  show wx E H0 0 0 0 [(0, .ref (ma m 30)), (1, .int x)] []
  refine x_iload_n F dX4_isMember_0 1 rfl rfl ?_
  refine x_iconst (v := 0) F rfl dX4_isMember_1 ?_
  refine x_aload_n F dX4_isMember_2 0 rfl rfl ?_
  refine z_get (m := m) (j := 9) (v := .int (mY m 9)) F hR mw_808 rfl (by decide) rfl dX4_isMember_3 ?_
  refine x_iconst (v := 1) F rfl dX4_isMember_6 ?_
  refine x_isub F dX4_isMember_7 ?_
  refine x_callSp (rest := []) F (c_X4_isIn l G A x 0 ((mY m 9) - 1)) k_X4_84 ⟨(Nat.le_of_ble_eq_true rfl), (Nat.le_of_ble_eq_true rfl), rfl, rfl⟩ (Nat.le_of_ble_eq_true rfl) (Nat.le_of_ble_eq_true rfl) dX4_isMember_8 rfl rfl (Nat.le_of_ble_eq_true rfl) trivial ?_
  exact x_zret F bI_nar hE dX4_isMember_11 (Nat.le_of_ble_eq_true rfl) (Nat.le_of_ble_eq_true rfl) (⟨rfl, rfl⟩)
set_option maxHeartbeats 4000000 in
set_option maxRecDepth 100000 in
theorem c_X4_isGlider (l : Launch) (G : GT) (A : Nat → Prop) (m : MS) (x : Int32) : Ct l yX4_isGlider cX4_isGlider 2 (some .boolean) ({ frames := 1, cells := 0, slots := 0, locals := 22 } : Room) G A [.ref (ma m 30), .int x] (fun H => RepM G A m H) (Pu (.int (bI (0 ≤ x ∧ x ≤ mY m 12 - 1)))) := by
  refine ct_of (own := "GliderDayModel") (by decide +kernel) rfl (Nat.le_of_ble_eq_true rfl) (fun E H0 F hE hR => ?_)
  show wx E H0 0 0 0 [(0, .ref (ma m 30)), (1, .int x)] []
  refine x_iload_n F dX4_isGlider_0 1 rfl rfl ?_
  refine x_iconst (v := 0) F rfl dX4_isGlider_1 ?_
  refine x_aload_n F dX4_isGlider_2 0 rfl rfl ?_
  refine z_get (m := m) (j := 12) (v := .int (mY m 12)) F hR mw_811 rfl (by decide) rfl dX4_isGlider_3 ?_
  refine x_iconst (v := 1) F rfl dX4_isGlider_6 ?_
  refine x_isub F dX4_isGlider_7 ?_
  refine x_callSp (rest := []) F (c_X4_isIn l G A x 0 ((mY m 12) - 1)) k_X4_84 ⟨(Nat.le_of_ble_eq_true rfl), (Nat.le_of_ble_eq_true rfl), rfl, rfl⟩ (Nat.le_of_ble_eq_true rfl) (Nat.le_of_ble_eq_true rfl) dX4_isGlider_8 rfl rfl (Nat.le_of_ble_eq_true rfl) trivial ?_
  exact x_zret F bI_nar hE dX4_isGlider_11 (Nat.le_of_ble_eq_true rfl) (Nat.le_of_ble_eq_true rfl) (⟨rfl, rfl⟩)
set_option maxHeartbeats 4000000 in
set_option maxRecDepth 100000 in
theorem c_X4_isFlight (l : Launch) (G : GT) (A : Nat → Prop) (m : MS) (x : Int32) : Ct l yX4_isFlight cX4_isFlight 2 (some .boolean) ({ frames := 1, cells := 0, slots := 0, locals := 22 } : Room) G A [.ref (ma m 30), .int x] (fun H => RepM G A m H) (Pu (.int (bI (0 ≤ x ∧ x ≤ mY m 20 - 1)))) := by
  refine ct_of (own := "GliderDayModel") (by decide +kernel) rfl (Nat.le_of_ble_eq_true rfl) (fun E H0 F hE hR => ?_)
  show wx E H0 0 0 0 [(0, .ref (ma m 30)), (1, .int x)] []
  refine x_iload_n F dX4_isFlight_0 1 rfl rfl ?_
  refine x_iconst (v := 0) F rfl dX4_isFlight_1 ?_
  refine x_aload_n F dX4_isFlight_2 0 rfl rfl ?_
  refine z_get (m := m) (j := 20) (v := .int (mY m 20)) F hR mw_819 rfl (by decide) rfl dX4_isFlight_3 ?_
  refine x_iconst (v := 1) F rfl dX4_isFlight_6 ?_
  refine x_isub F dX4_isFlight_7 ?_
  refine x_callSp (rest := []) F (c_X4_isIn l G A x 0 ((mY m 20) - 1)) k_X4_84 ⟨(Nat.le_of_ble_eq_true rfl), (Nat.le_of_ble_eq_true rfl), rfl, rfl⟩ (Nat.le_of_ble_eq_true rfl) (Nat.le_of_ble_eq_true rfl) dX4_isFlight_8 rfl rfl (Nat.le_of_ble_eq_true rfl) trivial ?_
  exact x_zret F bI_nar hE dX4_isFlight_11 (Nat.le_of_ble_eq_true rfl) (Nat.le_of_ble_eq_true rfl) (⟨rfl, rfl⟩)
set_option maxHeartbeats 4000000 in
set_option maxRecDepth 100000 in
theorem c_X4_takenTugs (l : Launch) (G : GT) (A : Nat → Prop) (m : MS)  : Ct l yX4_takenTugs cX4_takenTugs 1 (some .int) ({ frames := 0, cells := 0, slots := 0, locals := 0 } : Room) G A [.ref (ma m 30)] (fun H => RepM G A m H) (Pu (.int (m_tk m))) := by
  refine ct_of (own := "GliderDayModel") (by decide +kernel) rfl (Nat.le_of_ble_eq_true rfl) (fun E H0 F hE hR => ?_)
  show wx E H0 0 0 0 [(0, .ref (ma m 30))] []
  refine x_aload_n F dX4_takenTugs_0 0 rfl rfl ?_
  refine z_get (m := m) (j := 8) (v := .ref (ma m 8)) F hR mw_807 rfl (by decide) rfl dX4_takenTugs_1 ?_
  refine x_iconst (v := 0) F rfl dX4_takenTugs_4 ?_
  refine z_ildN (m := m) (j := 8) (i := 0) F hR (by decide) rfl rfl ((by decide)) (by decide) dX4_takenTugs_5 ?_
  refine x_if_le F dX4_takenTugs_6 (tgt := 13) (by decide) (fun h1 => ?_) (fun h1 => ?_)
  · have h1' := Int32.not_lt.mpr h1
    refine x_iconst (v := 0) F rfl dX4_takenTugs_13 ?_
    refine x_aload_n F dX4_takenTugs_14 0 rfl rfl ?_
    refine z_get (m := m) (j := 8) (v := .ref (ma m 8)) F hR mw_807 rfl (by decide) rfl dX4_takenTugs_15 ?_
    refine x_iconst (v := 1) F rfl dX4_takenTugs_18 ?_
    refine z_ildN (m := m) (j := 8) (i := 1) F hR (by decide) rfl rfl ((by decide)) (by decide) dX4_takenTugs_19 ?_
    refine x_if_le F dX4_takenTugs_20 (tgt := 27) (by decide) (fun h2 => ?_) (fun h2 => ?_)
    · have h2' := Int32.not_lt.mpr h2
      refine x_iconst (v := 0) F rfl dX4_takenTugs_27 ?_
      refine x_iadd F dX4_takenTugs_28 ?_
      exact x_iret F hE dX4_takenTugs_29 (Nat.le_of_ble_eq_true rfl) (Nat.le_of_ble_eq_true rfl) (⟨by simp [m_tk, h1, h1', h2, h2'], rfl⟩)
    · have h2' := Int32.not_le.mp h2
      refine x_iconst (v := 1) F rfl dX4_takenTugs_23 ?_
      refine x_goto F dX4_takenTugs_24 (tgt := 28) (by decide) ?_
      refine x_iadd F dX4_takenTugs_28 ?_
      exact x_iret F hE dX4_takenTugs_29 (Nat.le_of_ble_eq_true rfl) (Nat.le_of_ble_eq_true rfl) (⟨by simp [m_tk, h1, h1', h2, h2'], rfl⟩)
  · have h1' := Int32.not_le.mp h1
    refine x_iconst (v := 1) F rfl dX4_takenTugs_9 ?_
    refine x_goto F dX4_takenTugs_10 (tgt := 14) (by decide) ?_
    refine x_aload_n F dX4_takenTugs_14 0 rfl rfl ?_
    refine z_get (m := m) (j := 8) (v := .ref (ma m 8)) F hR mw_807 rfl (by decide) rfl dX4_takenTugs_15 ?_
    refine x_iconst (v := 1) F rfl dX4_takenTugs_18 ?_
    refine z_ildN (m := m) (j := 8) (i := 1) F hR (by decide) rfl rfl ((by decide)) (by decide) dX4_takenTugs_19 ?_
    refine x_if_le F dX4_takenTugs_20 (tgt := 27) (by decide) (fun h3 => ?_) (fun h3 => ?_)
    · have h3' := Int32.not_lt.mpr h3
      refine x_iconst (v := 0) F rfl dX4_takenTugs_27 ?_
      refine x_iadd F dX4_takenTugs_28 ?_
      exact x_iret F hE dX4_takenTugs_29 (Nat.le_of_ble_eq_true rfl) (Nat.le_of_ble_eq_true rfl) (⟨by simp [m_tk, h1, h1', h3, h3'], rfl⟩)
    · have h3' := Int32.not_le.mp h3
      refine x_iconst (v := 1) F rfl dX4_takenTugs_23 ?_
      refine x_goto F dX4_takenTugs_24 (tgt := 28) (by decide) ?_
      refine x_iadd F dX4_takenTugs_28 ?_
      exact x_iret F hE dX4_takenTugs_29 (Nat.le_of_ble_eq_true rfl) (Nat.le_of_ble_eq_true rfl) (⟨by simp [m_tk, h1, h1', h3, h3'], rfl⟩)
set_option maxHeartbeats 4000000 in
set_option maxRecDepth 100000 in
theorem c_X4_flightOf (l : Launch) (G : GT) (A : Nat → Prop) (m : MS) (x : Int32) (hW : WfM m) : Ct l yX4_flightOf cX4_flightOf 3 (some .int) ({ frames := 0, cells := 0, slots := 0, locals := 0 } : Room) G A [.ref (ma m 30), .int x] (fun H => RepM G A m H) (Pu (.int (m_fo m x))) := by
  refine ct_of (own := "GliderDayModel") (by decide +kernel) rfl (Nat.le_of_ble_eq_true rfl) (fun E H0 F hE hR => ?_)
  show wx E H0 0 0 0 [(0, .ref (ma m 30)), (1, .int x)] []
  refine x_iconst (v := 0) F rfl dX4_flightOf_0 ?_
  refine x_istore_n (lv' := [(2, .int 0), (0, .ref (ma m 30)), (1, .int x)]) F dX4_flightOf_1 rfl (by decide) rfl ?_
  refine wx_sub (lv' := [(0, .ref (ma m 30)), (1, .int x), (2, .int 0)]) [1, 2, 0] rfl ?_
  refine (loop_dn (N := (mf m)) (P := fun i => (fgo (p_fo m x) (mf m - i) i = m_fo m x) → wx E H0 0 0 2 [(0, .ref (ma m 30)), (1, .int x), (2, .int (nI i))] []) ?_ ?_) 0 (Nat.zero_le _) (rfl)
  · intro hL2
    refine x_iload_n F dX4_flightOf_2 2 rfl rfl ?_
    refine x_aload_n F dX4_flightOf_3 0 rfl rfl ?_
    refine z_get (m := m) (j := 20) (v := .int (mY m 20)) F hR mw_819 rfl (by decide) rfl dX4_flightOf_4 ?_
    refine wx_i (y := nI (mf m)) hW.2.2.1.1 ?_
    refine x_icmp_ge F dX4_flightOf_7 (tgt := 38) (by decide) (fun _ => ?_) (fun h1 => absurd (Int32.le_refl _) h1)
    refine x_iconst (v := (-1)) F rfl dX4_flightOf_38 ?_
    exact x_iret F hE dX4_flightOf_39 (Nat.le_of_ble_eq_true rfl) (Nat.le_of_ble_eq_true rfl) (⟨by rw [← hL2, fgo_end], rfl⟩)
  · intro i hi ih2 hL2
    refine x_iload_n F dX4_flightOf_2 2 rfl rfl ?_
    refine x_aload_n F dX4_flightOf_3 0 rfl rfl ?_
    refine z_get (m := m) (j := 20) (v := .int (mY m 20)) F hR mw_819 rfl (by decide) rfl dX4_flightOf_4 ?_
    refine wx_i (y := nI (mf m)) hW.2.2.1.1 ?_
    refine x_icmp_ge F dX4_flightOf_7 (tgt := 38) (by decide) (fun h2 => absurd h2 (nI_ge hi ((Nat.lt_of_le_of_lt hW.2.2.1.2 (by decide))))) (fun _ => ?_)
    refine x_aload_n F dX4_flightOf_10 0 rfl rfl ?_
    refine z_get (m := m) (j := 29) (v := .ref (ma m 29)) F hR mw_828 rfl (by decide) rfl dX4_flightOf_11 ?_
    refine x_iload_n F dX4_flightOf_14 2 rfl rfl ?_
    refine z_ildN (m := m) (j := 29) (i := i) F hR (by decide) rfl rfl (Nat.lt_of_lt_of_le hi hW.2.2.1.2) (by decide) dX4_flightOf_15 ?_
    refine x_iconst (v := 1) F rfl dX4_flightOf_16 ?_
    refine x_icmp_ne F dX4_flightOf_17 (tgt := 32) (by decide) (fun h3 => ?_) (fun h3 => ?_)
    · refine x_iinc (j := 2) (v := nI (i + 1)) (lv' := [(2, .int (nI (i + 1))), (0, .ref (ma m 30)), (1, .int x)]) F dX4_flightOf_32 rfl (nI_1 _) (by decide) rfl ?_
      refine x_goto F dX4_flightOf_35 (tgt := 2) (by decide) ?_
      refine wx_sub (lv' := [(0, .ref (ma m 30)), (1, .int x), (2, .int (nI (i + 1)))]) [1, 2, 0] rfl ?_
      exact ih2 (by rw [← hL2, fgo_at hi, if_neg (by simp [p_fo, h3])])
    · refine x_aload_n F dX4_flightOf_20 0 rfl rfl ?_
      refine z_get (m := m) (j := 23) (v := .ref (ma m 23)) F hR mw_822 rfl (by decide) rfl dX4_flightOf_21 ?_
      refine x_iload_n F dX4_flightOf_24 2 rfl rfl ?_
      refine z_ildN (m := m) (j := 23) (i := i) F hR (by decide) rfl rfl (Nat.lt_of_lt_of_le hi hW.2.2.1.2) (by decide) dX4_flightOf_25 ?_
      refine x_iload_n F dX4_flightOf_26 1 rfl rfl ?_
      refine x_icmp_ne F dX4_flightOf_27 (tgt := 32) (by decide) (fun h4 => ?_) (fun h4 => ?_)
      · refine x_iinc (j := 2) (v := nI (i + 1)) (lv' := [(2, .int (nI (i + 1))), (0, .ref (ma m 30)), (1, .int x)]) F dX4_flightOf_32 rfl (nI_1 _) (by decide) rfl ?_
        refine x_goto F dX4_flightOf_35 (tgt := 2) (by decide) ?_
        refine wx_sub (lv' := [(0, .ref (ma m 30)), (1, .int x), (2, .int (nI (i + 1)))]) [1, 2, 0] rfl ?_
        exact ih2 (by rw [← hL2, fgo_at hi, if_neg (by simp [p_fo, h3, h4])])
      · refine x_iload_n F dX4_flightOf_30 2 rfl rfl ?_
        exact x_iret F hE dX4_flightOf_31 (Nat.le_of_ble_eq_true rfl) (Nat.le_of_ble_eq_true rfl) (⟨by rw [← hL2, fgo_at hi, if_pos (by simp [p_fo, h3, h4])], rfl⟩)
set_option maxHeartbeats 4000000 in
set_option maxRecDepth 100000 in
theorem c_X4_flies (l : Launch) (G : GT) (A : Nat → Prop) (m : MS) (x : Int32) (hW : WfM m) : Ct l yX4_flies cX4_flies 4 (some .boolean) ({ frames := 0, cells := 0, slots := 0, locals := 0 } : Room) G A [.ref (ma m 30), .int x] (fun H => RepM G A m H) (Pu (.int (bI (m_fl m x = true)))) := by
  refine ct_of (own := "GliderDayModel") (by decide +kernel) rfl (Nat.le_of_ble_eq_true rfl) (fun E H0 F hE hR => ?_)
  show wx E H0 0 0 0 [(0, .ref (ma m 30)), (1, .int x)] []
  refine x_iconst (v := 0) F rfl dX4_flies_0 ?_
  refine x_istore_n (lv' := [(2, .int 0), (0, .ref (ma m 30)), (1, .int x)]) F dX4_flies_1 rfl (by decide) rfl ?_
  refine x_iconst (v := 0) F rfl dX4_flies_2 ?_
  refine x_istore_n (lv' := [(3, .int 0), (2, .int 0), (0, .ref (ma m 30)), (1, .int x)]) F dX4_flies_3 rfl (by decide) rfl ?_
  refine wx_sub (lv' := [(0, .ref (ma m 30)), (1, .int x), (2, .int 0), (3, .int 0)]) [2, 3, 1, 0] rfl ?_
  refine (loop_dn (N := (mf m)) (P := fun i => wx E H0 0 0 4 [(0, .ref (ma m 30)), (1, .int x), (2, .int (bI (anyB (p_fl m x) i = true))), (3, .int (nI i))] []) ?_ ?_) 0 (Nat.zero_le _)
  · refine x_iload_n F dX4_flies_4 3 rfl rfl ?_
    refine x_aload_n F dX4_flies_5 0 rfl rfl ?_
    refine z_get (m := m) (j := 20) (v := .int (mY m 20)) F hR mw_819 rfl (by decide) rfl dX4_flies_6 ?_
    refine wx_i (y := nI (mf m)) hW.2.2.1.1 ?_
    refine x_icmp_ge F dX4_flies_9 (tgt := 58) (by decide) (fun _ => ?_) (fun h1 => absurd (Int32.le_refl _) h1)
    refine x_iload_n F dX4_flies_58 2 rfl rfl ?_
    exact x_zret F bI_nar hE dX4_flies_59 (Nat.le_of_ble_eq_true rfl) (Nat.le_of_ble_eq_true rfl) (⟨rfl, rfl⟩)
  · intro i hi ih4
    refine x_iload_n F dX4_flies_4 3 rfl rfl ?_
    refine x_aload_n F dX4_flies_5 0 rfl rfl ?_
    refine z_get (m := m) (j := 20) (v := .int (mY m 20)) F hR mw_819 rfl (by decide) rfl dX4_flies_6 ?_
    refine wx_i (y := nI (mf m)) hW.2.2.1.1 ?_
    refine x_icmp_ge F dX4_flies_9 (tgt := 58) (by decide) (fun h2 => absurd h2 (nI_ge hi ((Nat.lt_of_le_of_lt hW.2.2.1.2 (by decide))))) (fun _ => ?_)
    refine x_iload_n F dX4_flies_12 2 rfl rfl ?_
    refine x_if_ne F dX4_flies_13 (tgt := 46) (by decide) (fun h3 => ?_) (fun h3 => ?_)
    · replace h3 := bI_ne.mp h3
      refine x_iconst (v := 1) F rfl dX4_flies_46 ?_
      refine x_goto F dX4_flies_47 (tgt := 51) (by decide) ?_
      refine x_istore_n (lv' := [(2, .int 1), (0, .ref (ma m 30)), (1, .int x), (3, .int (nI i))]) F dX4_flies_51 rfl (by decide) rfl ?_
      refine x_iinc (j := 3) (v := nI (i + 1)) (lv' := [(3, .int (nI (i + 1))), (2, .int 1), (0, .ref (ma m 30)), (1, .int x)]) F dX4_flies_52 rfl (nI_1 _) (by decide) rfl ?_
      refine x_goto F dX4_flies_55 (tgt := 4) (by decide) ?_
      refine wx_sub (lv' := [(0, .ref (ma m 30)), (1, .int x), (2, .int 1), (3, .int (nI (i + 1)))]) [2, 3, 1, 0] rfl ?_
      refine wx_lv (lv' := [(0, .ref (ma m 30)), (1, .int x), (2, .int (bI (anyB (p_fl m x) (i + 1) = true))), (3, .int (nI (i + 1)))]) (by rw [bI_t (show anyB (p_fl m x) (i + 1) = true from by simp [anyB, p_fl, h3])]) ?_
      exact ih4
    · replace h3 := bI_0.mp h3
      refine x_aload_n F dX4_flies_16 0 rfl rfl ?_
      refine z_get (m := m) (j := 29) (v := .ref (ma m 29)) F hR mw_828 rfl (by decide) rfl dX4_flies_17 ?_
      refine x_iload_n F dX4_flies_20 3 rfl rfl ?_
      refine z_ildN (m := m) (j := 29) (i := i) F hR (by decide) rfl rfl (Nat.lt_of_lt_of_le hi hW.2.2.1.2) (by decide) dX4_flies_21 ?_
      refine x_iconst (v := 1) F rfl dX4_flies_22 ?_
      refine x_icmp_ne F dX4_flies_23 (tgt := 50) (by decide) (fun h4 => ?_) (fun h4 => ?_)
      · refine x_iconst (v := 0) F rfl dX4_flies_50 ?_
        refine x_istore_n (lv' := [(2, .int 0), (0, .ref (ma m 30)), (1, .int x), (3, .int (nI i))]) F dX4_flies_51 rfl (by decide) rfl ?_
        refine x_iinc (j := 3) (v := nI (i + 1)) (lv' := [(3, .int (nI (i + 1))), (2, .int 0), (0, .ref (ma m 30)), (1, .int x)]) F dX4_flies_52 rfl (nI_1 _) (by decide) rfl ?_
        refine x_goto F dX4_flies_55 (tgt := 4) (by decide) ?_
        refine wx_sub (lv' := [(0, .ref (ma m 30)), (1, .int x), (2, .int 0), (3, .int (nI (i + 1)))]) [2, 3, 1, 0] rfl ?_
        refine wx_lv (lv' := [(0, .ref (ma m 30)), (1, .int x), (2, .int (bI (anyB (p_fl m x) (i + 1) = true))), (3, .int (nI (i + 1)))]) (by rw [bI_f (show ¬ anyB (p_fl m x) (i + 1) = true from by simp [anyB, p_fl, h3, h4])]) ?_
        exact ih4
      · refine x_aload_n F dX4_flies_26 0 rfl rfl ?_
        refine z_get (m := m) (j := 21) (v := .ref (ma m 21)) F hR mw_820 rfl (by decide) rfl dX4_flies_27 ?_
        refine x_iload_n F dX4_flies_30 3 rfl rfl ?_
        refine z_ildN (m := m) (j := 21) (i := i) F hR (by decide) rfl rfl (Nat.lt_of_lt_of_le hi hW.2.2.1.2) (by decide) dX4_flies_31 ?_
        refine x_iload_n F dX4_flies_32 1 rfl rfl ?_
        refine x_icmp_eq F dX4_flies_33 (tgt := 46) (by decide) (fun h5 => ?_) (fun h5 => ?_)
        · refine x_iconst (v := 1) F rfl dX4_flies_46 ?_
          refine x_goto F dX4_flies_47 (tgt := 51) (by decide) ?_
          refine x_istore_n (lv' := [(2, .int 1), (0, .ref (ma m 30)), (1, .int x), (3, .int (nI i))]) F dX4_flies_51 rfl (by decide) rfl ?_
          refine x_iinc (j := 3) (v := nI (i + 1)) (lv' := [(3, .int (nI (i + 1))), (2, .int 1), (0, .ref (ma m 30)), (1, .int x)]) F dX4_flies_52 rfl (nI_1 _) (by decide) rfl ?_
          refine x_goto F dX4_flies_55 (tgt := 4) (by decide) ?_
          refine wx_sub (lv' := [(0, .ref (ma m 30)), (1, .int x), (2, .int 1), (3, .int (nI (i + 1)))]) [2, 3, 1, 0] rfl ?_
          refine wx_lv (lv' := [(0, .ref (ma m 30)), (1, .int x), (2, .int (bI (anyB (p_fl m x) (i + 1) = true))), (3, .int (nI (i + 1)))]) (by rw [bI_t (show anyB (p_fl m x) (i + 1) = true from by simp [anyB, p_fl, h3, h4, h5])]) ?_
          exact ih4
        · refine x_aload_n F dX4_flies_36 0 rfl rfl ?_
          refine z_get (m := m) (j := 22) (v := .ref (ma m 22)) F hR mw_821 rfl (by decide) rfl dX4_flies_37 ?_
          refine x_iload_n F dX4_flies_40 3 rfl rfl ?_
          refine z_ildN (m := m) (j := 22) (i := i) F hR (by decide) rfl rfl (Nat.lt_of_lt_of_le hi hW.2.2.1.2) (by decide) dX4_flies_41 ?_
          refine x_iload_n F dX4_flies_42 1 rfl rfl ?_
          refine x_icmp_ne F dX4_flies_43 (tgt := 50) (by decide) (fun h6 => ?_) (fun h6 => ?_)
          · refine x_iconst (v := 0) F rfl dX4_flies_50 ?_
            refine x_istore_n (lv' := [(2, .int 0), (0, .ref (ma m 30)), (1, .int x), (3, .int (nI i))]) F dX4_flies_51 rfl (by decide) rfl ?_
            refine x_iinc (j := 3) (v := nI (i + 1)) (lv' := [(3, .int (nI (i + 1))), (2, .int 0), (0, .ref (ma m 30)), (1, .int x)]) F dX4_flies_52 rfl (nI_1 _) (by decide) rfl ?_
            refine x_goto F dX4_flies_55 (tgt := 4) (by decide) ?_
            refine wx_sub (lv' := [(0, .ref (ma m 30)), (1, .int x), (2, .int 0), (3, .int (nI (i + 1)))]) [2, 3, 1, 0] rfl ?_
            refine wx_lv (lv' := [(0, .ref (ma m 30)), (1, .int x), (2, .int (bI (anyB (p_fl m x) (i + 1) = true))), (3, .int (nI (i + 1)))]) (by rw [bI_f (show ¬ anyB (p_fl m x) (i + 1) = true from by simp [anyB, p_fl, h3, h4, h5, h6])]) ?_
            exact ih4
          · refine x_iconst (v := 1) F rfl dX4_flies_46 ?_
            refine x_goto F dX4_flies_47 (tgt := 51) (by decide) ?_
            refine x_istore_n (lv' := [(2, .int 1), (0, .ref (ma m 30)), (1, .int x), (3, .int (nI i))]) F dX4_flies_51 rfl (by decide) rfl ?_
            refine x_iinc (j := 3) (v := nI (i + 1)) (lv' := [(3, .int (nI (i + 1))), (2, .int 1), (0, .ref (ma m 30)), (1, .int x)]) F dX4_flies_52 rfl (nI_1 _) (by decide) rfl ?_
            refine x_goto F dX4_flies_55 (tgt := 4) (by decide) ?_
            refine wx_sub (lv' := [(0, .ref (ma m 30)), (1, .int x), (2, .int 1), (3, .int (nI (i + 1)))]) [2, 3, 1, 0] rfl ?_
            refine wx_lv (lv' := [(0, .ref (ma m 30)), (1, .int x), (2, .int (bI (anyB (p_fl m x) (i + 1) = true))), (3, .int (nI (i + 1)))]) (by rw [bI_t (show anyB (p_fl m x) (i + 1) = true from by simp [anyB, p_fl, h3, h4, h5, h6])]) ?_
            exact ih4
set_option maxHeartbeats 4000000 in
set_option maxRecDepth 100000 in
theorem c_X4_withTeacher (l : Launch) (G : GT) (A : Nat → Prop) (m : MS) (i : Nat) (hi : i < mf m) (hW : WfM m) : Ct l yX4_withTeacher cX4_withTeacher 2 (some .boolean) ({ frames := 0, cells := 0, slots := 0, locals := 0 } : Room) G A [.ref (ma m 30), .int (nI i)] (fun H => RepM G A m H) (Pu (.int (bI (m_wt m i = true)))) := by
  refine ct_of (own := "GliderDayModel") (by decide +kernel) rfl (Nat.le_of_ble_eq_true rfl) (fun E H0 F hE hR => ?_)
  show wx E H0 0 0 0 [(0, .ref (ma m 30)), (1, .int (nI i))] []
  refine x_aload_n F dX4_withTeacher_0 0 rfl rfl ?_
  refine z_get (m := m) (j := 22) (v := .ref (ma m 22)) F hR mw_821 rfl (by decide) rfl dX4_withTeacher_1 ?_
  refine x_iload_n F dX4_withTeacher_4 1 rfl rfl ?_
  refine z_ildN (m := m) (j := 22) (i := i) F hR (by decide) rfl rfl (Nat.lt_of_lt_of_le hi hW.2.2.1.2) (by decide) dX4_withTeacher_5 ?_
  refine x_iconst (v := (-1)) F rfl dX4_withTeacher_6 ?_
  refine x_icmp_eq F dX4_withTeacher_7 (tgt := 29) (by decide) (fun h1 => ?_) (fun h1 => ?_)
  · refine x_iconst (v := 0) F rfl dX4_withTeacher_29 ?_
    exact x_zret F rfl hE dX4_withTeacher_30 (Nat.le_of_ble_eq_true rfl) (Nat.le_of_ble_eq_true rfl) (⟨by rw [bI_f (show ¬ m_wt m i = true from by simp [m_wt, h1])], rfl⟩)
  · refine x_aload_n F dX4_withTeacher_10 0 rfl rfl ?_
    refine z_get (m := m) (j := 10) (v := .ref (ma m 10)) F hR mw_809 rfl (by decide) rfl dX4_withTeacher_11 ?_
    refine x_aload_n F dX4_withTeacher_14 0 rfl rfl ?_
    refine z_get (m := m) (j := 22) (v := .ref (ma m 22)) F hR mw_821 rfl (by decide) rfl dX4_withTeacher_15 ?_
    refine x_iload_n F dX4_withTeacher_18 1 rfl rfl ?_
    refine z_ildN (m := m) (j := 22) (i := i) F hR (by decide) rfl rfl (Nat.lt_of_lt_of_le hi hW.2.2.1.2) (by decide) dX4_withTeacher_19 ?_
    refine wx_i (y := nI (tN (mZ m 22 i))) (((hW.2.2.2 _ hi).2.1.resolve_left h1).1) ?_
    refine z_ildN (m := m) (j := 10) (i := (tN (mZ m 22 i))) F hR (by decide) rfl rfl (Nat.lt_of_lt_of_le ((hW.2.2.2 _ hi).2.1.resolve_left h1).2 hW.1.2) (by decide) dX4_withTeacher_20 ?_
    refine x_iconst (v := 3) F rfl dX4_withTeacher_21 ?_
    refine x_icmp_ne F dX4_withTeacher_22 (tgt := 29) (by decide) (fun h2 => ?_) (fun h2 => ?_)
    · refine x_iconst (v := 0) F rfl dX4_withTeacher_29 ?_
      exact x_zret F rfl hE dX4_withTeacher_30 (Nat.le_of_ble_eq_true rfl) (Nat.le_of_ble_eq_true rfl) (⟨by rw [bI_f (show ¬ m_wt m i = true from by simp [m_wt, h1, h2])], rfl⟩)
    · refine x_iconst (v := 1) F rfl dX4_withTeacher_25 ?_
      refine x_goto F dX4_withTeacher_26 (tgt := 30) (by decide) ?_
      exact x_zret F rfl hE dX4_withTeacher_30 (Nat.le_of_ble_eq_true rfl) (Nat.le_of_ble_eq_true rfl) (⟨by rw [bI_t (show m_wt m i = true from by simp [m_wt, h1, h2])], rfl⟩)
set_option maxHeartbeats 4000000 in
set_option maxRecDepth 100000 in
theorem c_X4_with (l : Launch) (G : GT) (A : Nat → Prop) (m : MS) (x : Int32) (hW : WfM m) : Ct l yX4_with cX4_with 4 (some .int) ({ frames := 0, cells := 0, slots := 0, locals := 0 } : Room) G A [.ref (ma m 30), .int x] (fun H => RepM G A m H) (Pu (.int (sumN (mf m) (fun f => if mZ m 29 f = x then 1 else 0)))) := by
  refine ct_of (own := "GliderDayModel") (by decide +kernel) rfl (Nat.le_of_ble_eq_true rfl) (fun E H0 F hE hR => ?_)
  show wx E H0 0 0 0 [(0, .ref (ma m 30)), (1, .int x)] []
  refine x_iconst (v := 0) F rfl dX4_with_0 ?_
  refine x_istore_n (lv' := [(2, .int 0), (0, .ref (ma m 30)), (1, .int x)]) F dX4_with_1 rfl (by decide) rfl ?_
  refine x_iconst (v := 0) F rfl dX4_with_2 ?_
  refine x_istore_n (lv' := [(3, .int 0), (2, .int 0), (0, .ref (ma m 30)), (1, .int x)]) F dX4_with_3 rfl (by decide) rfl ?_
  refine wx_sub (lv' := [(0, .ref (ma m 30)), (1, .int x), (2, .int 0), (3, .int 0)]) [2, 3, 1, 0] rfl ?_
  refine (loop_dn (N := (mf m)) (P := fun i => wx E H0 0 0 4 [(0, .ref (ma m 30)), (1, .int x), (2, .int (sumN i (fun f => if mZ m 29 f = x then 1 else 0))), (3, .int (nI i))] []) ?_ ?_) 0 (Nat.zero_le _)
  · refine x_iload_n F dX4_with_4 3 rfl rfl ?_
    refine x_aload_n F dX4_with_5 0 rfl rfl ?_
    refine z_get (m := m) (j := 20) (v := .int (mY m 20)) F hR mw_819 rfl (by decide) rfl dX4_with_6 ?_
    refine wx_i (y := nI (mf m)) hW.2.2.1.1 ?_
    refine x_icmp_ge F dX4_with_9 (tgt := 36) (by decide) (fun _ => ?_) (fun h1 => absurd (Int32.le_refl _) h1)
    refine x_iload_n F dX4_with_36 2 rfl rfl ?_
    exact x_iret F hE dX4_with_37 (Nat.le_of_ble_eq_true rfl) (Nat.le_of_ble_eq_true rfl) (⟨rfl, rfl⟩)
  · intro i hi ih4
    refine x_iload_n F dX4_with_4 3 rfl rfl ?_
    refine x_aload_n F dX4_with_5 0 rfl rfl ?_
    refine z_get (m := m) (j := 20) (v := .int (mY m 20)) F hR mw_819 rfl (by decide) rfl dX4_with_6 ?_
    refine wx_i (y := nI (mf m)) hW.2.2.1.1 ?_
    refine x_icmp_ge F dX4_with_9 (tgt := 36) (by decide) (fun h2 => absurd h2 (nI_ge hi ((Nat.lt_of_le_of_lt hW.2.2.1.2 (by decide))))) (fun _ => ?_)
    refine x_iload_n F dX4_with_12 2 rfl rfl ?_
    refine x_aload_n F dX4_with_13 0 rfl rfl ?_
    refine z_get (m := m) (j := 29) (v := .ref (ma m 29)) F hR mw_828 rfl (by decide) rfl dX4_with_14 ?_
    refine x_iload_n F dX4_with_17 3 rfl rfl ?_
    refine z_ildN (m := m) (j := 29) (i := i) F hR (by decide) rfl rfl (Nat.lt_of_lt_of_le hi hW.2.2.1.2) (by decide) dX4_with_18 ?_
    refine x_iload_n F dX4_with_19 1 rfl rfl ?_
    refine x_icmp_ne F dX4_with_20 (tgt := 27) (by decide) (fun h3 => ?_) (fun h3 => ?_)
    · refine x_iconst (v := 0) F rfl dX4_with_27 ?_
      refine x_iadd F dX4_with_28 ?_
      refine x_istore_n (lv' := [(2, .int ((sumN i (fun f => if mZ m 29 f = x then 1 else 0)) + 0)), (0, .ref (ma m 30)), (1, .int x), (3, .int (nI i))]) F dX4_with_29 rfl (by decide) rfl ?_
      refine x_iinc (j := 3) (v := nI (i + 1)) (lv' := [(3, .int (nI (i + 1))), (2, .int ((sumN i (fun f => if mZ m 29 f = x then 1 else 0)) + 0)), (0, .ref (ma m 30)), (1, .int x)]) F dX4_with_30 rfl (nI_1 _) (by decide) rfl ?_
      refine x_goto F dX4_with_33 (tgt := 4) (by decide) ?_
      refine wx_sub (lv' := [(0, .ref (ma m 30)), (1, .int x), (2, .int ((sumN i (fun f => if mZ m 29 f = x then 1 else 0)) + 0)), (3, .int (nI (i + 1)))]) [2, 3, 1, 0] rfl ?_
      refine wx_lv (lv' := [(0, .ref (ma m 30)), (1, .int x), (2, .int (sumN (i + 1) (fun f => if mZ m 29 f = x then 1 else 0))), (3, .int (nI (i + 1)))]) (by simp [sumN, h3]) ?_
      exact ih4
    · refine x_iconst (v := 1) F rfl dX4_with_23 ?_
      refine x_goto F dX4_with_24 (tgt := 28) (by decide) ?_
      refine x_iadd F dX4_with_28 ?_
      refine x_istore_n (lv' := [(2, .int ((sumN i (fun f => if mZ m 29 f = x then 1 else 0)) + 1)), (0, .ref (ma m 30)), (1, .int x), (3, .int (nI i))]) F dX4_with_29 rfl (by decide) rfl ?_
      refine x_iinc (j := 3) (v := nI (i + 1)) (lv' := [(3, .int (nI (i + 1))), (2, .int ((sumN i (fun f => if mZ m 29 f = x then 1 else 0)) + 1)), (0, .ref (ma m 30)), (1, .int x)]) F dX4_with_30 rfl (nI_1 _) (by decide) rfl ?_
      refine x_goto F dX4_with_33 (tgt := 4) (by decide) ?_
      refine wx_sub (lv' := [(0, .ref (ma m 30)), (1, .int x), (2, .int ((sumN i (fun f => if mZ m 29 f = x then 1 else 0)) + 1)), (3, .int (nI (i + 1)))]) [2, 3, 1, 0] rfl ?_
      refine wx_lv (lv' := [(0, .ref (ma m 30)), (1, .int x), (2, .int (sumN (i + 1) (fun f => if mZ m 29 f = x then 1 else 0))), (3, .int (nI (i + 1)))]) (by simp [sumN, h3]) ?_
      exact ih4
set_option maxHeartbeats 4000000 in
set_option maxRecDepth 100000 in
theorem c_X4_place (l : Launch) (G : GT) (A : Nat → Prop) (m : MS) (j : Nat) (hj : j < mf m) (hW : WfM m) : Ct l yX4_place cX4_place 4 (some .int) ({ frames := 0, cells := 0, slots := 0, locals := 0 } : Room) G A [.ref (ma m 30), .int (nI j)] (fun H => RepM G A m H) (Pu (.int (sumN j (fun f => if mZ m 29 f = 0 then 1 else 0)))) := by
  refine ct_of (own := "GliderDayModel") (by decide +kernel) rfl (Nat.le_of_ble_eq_true rfl) (fun E H0 F hE hR => ?_)
  show wx E H0 0 0 0 [(0, .ref (ma m 30)), (1, .int (nI j))] []
  refine x_iconst (v := 0) F rfl dX4_place_0 ?_
  refine x_istore_n (lv' := [(2, .int 0), (0, .ref (ma m 30)), (1, .int (nI j))]) F dX4_place_1 rfl (by decide) rfl ?_
  refine x_iconst (v := 0) F rfl dX4_place_2 ?_
  refine x_istore_n (lv' := [(3, .int 0), (2, .int 0), (0, .ref (ma m 30)), (1, .int (nI j))]) F dX4_place_3 rfl (by decide) rfl ?_
  refine wx_sub (lv' := [(0, .ref (ma m 30)), (1, .int (nI j)), (2, .int 0), (3, .int 0)]) [2, 3, 1, 0] rfl ?_
  refine (loop_dn (N := j) (P := fun i => wx E H0 0 0 4 [(0, .ref (ma m 30)), (1, .int (nI j)), (2, .int (sumN i (fun f => if mZ m 29 f = 0 then 1 else 0))), (3, .int (nI i))] []) ?_ ?_) 0 (Nat.zero_le _)
  · refine x_iload_n F dX4_place_4 3 rfl rfl ?_
    refine x_iload_n F dX4_place_5 1 rfl rfl ?_
    refine x_icmp_ge F dX4_place_6 (tgt := 32) (by decide) (fun _ => ?_) (fun h1 => absurd (Int32.le_refl _) h1)
    refine x_iload_n F dX4_place_32 2 rfl rfl ?_
    exact x_iret F hE dX4_place_33 (Nat.le_of_ble_eq_true rfl) (Nat.le_of_ble_eq_true rfl) (⟨rfl, rfl⟩)
  · intro i hi ih4
    refine x_iload_n F dX4_place_4 3 rfl rfl ?_
    refine x_iload_n F dX4_place_5 1 rfl rfl ?_
    refine x_icmp_ge F dX4_place_6 (tgt := 32) (by decide) (fun h2 => absurd h2 (nI_ge hi ((Nat.lt_trans hj (Nat.lt_of_le_of_lt hW.2.2.1.2 (by decide)))))) (fun _ => ?_)
    refine x_iload_n F dX4_place_9 2 rfl rfl ?_
    refine x_aload_n F dX4_place_10 0 rfl rfl ?_
    refine z_get (m := m) (j := 29) (v := .ref (ma m 29)) F hR mw_828 rfl (by decide) rfl dX4_place_11 ?_
    refine x_iload_n F dX4_place_14 3 rfl rfl ?_
    refine z_ildN (m := m) (j := 29) (i := i) F hR (by decide) rfl rfl (Nat.lt_of_lt_of_le (Nat.lt_trans hi hj) hW.2.2.1.2) (by decide) dX4_place_15 ?_
    refine x_if_ne F dX4_place_16 (tgt := 23) (by decide) (fun h3 => ?_) (fun h3 => ?_)
    · refine x_iconst (v := 0) F rfl dX4_place_23 ?_
      refine x_iadd F dX4_place_24 ?_
      refine x_istore_n (lv' := [(2, .int ((sumN i (fun f => if mZ m 29 f = 0 then 1 else 0)) + 0)), (0, .ref (ma m 30)), (1, .int (nI j)), (3, .int (nI i))]) F dX4_place_25 rfl (by decide) rfl ?_
      refine x_iinc (j := 3) (v := nI (i + 1)) (lv' := [(3, .int (nI (i + 1))), (2, .int ((sumN i (fun f => if mZ m 29 f = 0 then 1 else 0)) + 0)), (0, .ref (ma m 30)), (1, .int (nI j))]) F dX4_place_26 rfl (nI_1 _) (by decide) rfl ?_
      refine x_goto F dX4_place_29 (tgt := 4) (by decide) ?_
      refine wx_sub (lv' := [(0, .ref (ma m 30)), (1, .int (nI j)), (2, .int ((sumN i (fun f => if mZ m 29 f = 0 then 1 else 0)) + 0)), (3, .int (nI (i + 1)))]) [2, 3, 1, 0] rfl ?_
      refine wx_lv (lv' := [(0, .ref (ma m 30)), (1, .int (nI j)), (2, .int (sumN (i + 1) (fun f => if mZ m 29 f = 0 then 1 else 0))), (3, .int (nI (i + 1)))]) (by simp [sumN, h3]) ?_
      exact ih4
    · refine x_iconst (v := 1) F rfl dX4_place_19 ?_
      refine x_goto F dX4_place_20 (tgt := 24) (by decide) ?_
      refine x_iadd F dX4_place_24 ?_
      refine x_istore_n (lv' := [(2, .int ((sumN i (fun f => if mZ m 29 f = 0 then 1 else 0)) + 1)), (0, .ref (ma m 30)), (1, .int (nI j)), (3, .int (nI i))]) F dX4_place_25 rfl (by decide) rfl ?_
      refine x_iinc (j := 3) (v := nI (i + 1)) (lv' := [(3, .int (nI (i + 1))), (2, .int ((sumN i (fun f => if mZ m 29 f = 0 then 1 else 0)) + 1)), (0, .ref (ma m 30)), (1, .int (nI j))]) F dX4_place_26 rfl (nI_1 _) (by decide) rfl ?_
      refine x_goto F dX4_place_29 (tgt := 4) (by decide) ?_
      refine wx_sub (lv' := [(0, .ref (ma m 30)), (1, .int (nI j)), (2, .int ((sumN i (fun f => if mZ m 29 f = 0 then 1 else 0)) + 1)), (3, .int (nI (i + 1)))]) [2, 3, 1, 0] rfl ?_
      refine wx_lv (lv' := [(0, .ref (ma m 30)), (1, .int (nI j)), (2, .int (sumN (i + 1) (fun f => if mZ m 29 f = 0 then 1 else 0))), (3, .int (nI (i + 1)))]) (by simp [sumN, h3]) ?_
      exact ih4
set_option maxHeartbeats 4000000 in
set_option maxRecDepth 100000 in
theorem c_X4_isBusyNow (l : Launch) (G : GT) (A : Nat → Prop) (m : MS)  : Ct l yX4_isBusyNow cX4_isBusyNow 1 (some .boolean) ({ frames := 0, cells := 0, slots := 0, locals := 0 } : Room) G A [.ref (ma m 30)] (fun H => RepM G A m H) (Pu (.int (bI (mY m 1 < mY m 4)))) := by
  refine ct_of (own := "GliderDayModel") (by decide +kernel) rfl (Nat.le_of_ble_eq_true rfl) (fun E H0 F hE hR => ?_)
  show wx E H0 0 0 0 [(0, .ref (ma m 30))] []
  refine x_aload_n F dX4_isBusyNow_0 0 rfl rfl ?_
  refine z_get (m := m) (j := 1) (v := .int (mY m 1)) F hR mw_800 rfl (by decide) rfl dX4_isBusyNow_1 ?_
  refine x_aload_n F dX4_isBusyNow_4 0 rfl rfl ?_
  refine z_get (m := m) (j := 4) (v := .int (mY m 4)) F hR mw_803 rfl (by decide) rfl dX4_isBusyNow_5 ?_
  refine x_icmp_ge F dX4_isBusyNow_8 (tgt := 15) (by decide) (fun h1 => ?_) (fun h1 => ?_)
  · have h1' := Int32.not_lt.mpr h1
    refine x_iconst (v := 0) F rfl dX4_isBusyNow_15 ?_
    exact x_zret F rfl hE dX4_isBusyNow_16 (Nat.le_of_ble_eq_true rfl) (Nat.le_of_ble_eq_true rfl) (⟨by rw [bI_f (by first | (simp [h1, h1']; done) | (exfalso; simp_all; done))], rfl⟩)
  · have h1' := Int32.not_le.mp h1
    refine x_iconst (v := 1) F rfl dX4_isBusyNow_11 ?_
    refine x_goto F dX4_isBusyNow_12 (tgt := 16) (by decide) ?_
    exact x_zret F rfl hE dX4_isBusyNow_16 (Nat.le_of_ble_eq_true rfl) (Nat.le_of_ble_eq_true rfl) (⟨by rw [bI_t (by first | (simp [h1, h1']; done) | (exfalso; simp_all; done))], rfl⟩)
set_option maxHeartbeats 4000000 in
set_option maxRecDepth 100000 in
theorem c_X4_windOf (l : Launch) (G : GT) (A : Nat → Prop) (x : Int32) : Ct l yX4_windOf cX4_windOf 1 (some .int) ({ frames := 0, cells := 0, slots := 0, locals := 0 } : Room) G A [.int x] (fun H => True) (Pu (.int (s_wind x))) := by
  refine ct_of (own := "GliderDayModel") (by decide +kernel) rfl (Nat.le_of_ble_eq_true rfl) (fun E H0 F hE _ => ?_)
  show wx E H0 0 0 0 [(0, .int x)] []
  refine x_iload_n F dX4_windOf_0 0 rfl rfl ?_
  refine x_if_ne F dX4_windOf_1 (tgt := 8) (by decide) (fun h1 => ?_) (fun h1 => ?_)
  · refine x_iload_n F dX4_windOf_8 0 rfl rfl ?_
    refine x_iconst (v := 1) F rfl dX4_windOf_9 ?_
    refine x_icmp_ne F dX4_windOf_10 (tgt := 18) (by decide) (fun h2 => ?_) (fun h2 => ?_)
    · refine x_iload_n F dX4_windOf_18 0 rfl rfl ?_
      refine x_iconst (v := 2) F rfl dX4_windOf_19 ?_
      refine x_icmp_ne F dX4_windOf_20 (tgt := 28) (by decide) (fun h3 => ?_) (fun h3 => ?_)
      · refine x_bipush (v := 30) F rfl dX4_windOf_28 ?_
        exact x_iret F hE dX4_windOf_30 (Nat.le_of_ble_eq_true rfl) (Nat.le_of_ble_eq_true rfl) (⟨by simp [s_wind, h1, h2, h3], rfl⟩)
      · refine x_bipush (v := 25) F rfl dX4_windOf_23 ?_
        refine x_goto F dX4_windOf_25 (tgt := 30) (by decide) ?_
        exact x_iret F hE dX4_windOf_30 (Nat.le_of_ble_eq_true rfl) (Nat.le_of_ble_eq_true rfl) (⟨by simp [s_wind, h1, h2, h3], rfl⟩)
    · refine x_bipush (v := 12) F rfl dX4_windOf_13 ?_
      refine x_goto F dX4_windOf_15 (tgt := 30) (by decide) ?_
      exact x_iret F hE dX4_windOf_30 (Nat.le_of_ble_eq_true rfl) (Nat.le_of_ble_eq_true rfl) (⟨by simp [s_wind, h1, h2], rfl⟩)
  · refine x_iconst (v := 0) F rfl dX4_windOf_4 ?_
    refine x_goto F dX4_windOf_5 (tgt := 30) (by decide) ?_
    exact x_iret F hE dX4_windOf_30 (Nat.le_of_ble_eq_true rfl) (Nat.le_of_ble_eq_true rfl) (⟨by simp [s_wind, h1], rfl⟩)
end MD2
