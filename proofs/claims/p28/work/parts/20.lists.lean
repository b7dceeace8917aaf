/-! ArrayList's own code: what its methods do to a list and its array -/
section LI
abbrev aO (G : GT) (N : Nat) (f : Nat → Option Nat) : va_E := .inl (G.2.1.2.2.1, N, .inr (.inr (.inr (.inr f))))
abbrev oL (mo : Int32) (b n : Nat) : va_E := .inr (0, [.int mo, .ref b, .int (nI n)])
/-- an object of one of the three kinds that lists hold -/
def ob (G : GT) (y : Nat) (H : Heap) : Prop := ∃ (ci : Nat) (fs : List Value), 1 ≤ ci ∧ ci ≤ 3 ∧ vt G y (.inr (ci, fs)) H
theorem wx_i {E : WE} {H : Heap} {k n pc : Nat} {lv : List (Nat × Value)} {st : List Value} {x y : Int32} (h : x = y) (kk : wx E H k n pc lv (.int y :: st)) : wx E H k n pc lv (.int x :: st) := h ▸ kk
theorem ob.kept {G : GT} {y : Nat} {H H1 : Heap} (h : ob G y H) (hq : H1[y]? = H[y]?) : ob G y H1 := by
  obtain ⟨ci, fs, h1, h2, h3⟩ := h
  exact ⟨ci, fs, h1, h2, h3.kept hq⟩
theorem ob.lt {G : GT} {y : Nat} {H : Heap} (h : ob G y H) : y < H.size := by
  obtain ⟨ci, fs, h1, h2, h3⟩ := h
  exact h3.lt
theorem inAL : ∀ w ∈ u_ws "java/util/ArrayList" TJx4a65c 3, w ∈ WALL := by
  intro w hw
  have h : w ∈ lw_tbl := (show ∀ w ∈ u_ws "java/util/ArrayList" TJx4a65c 3, w ∈ lw_tbl by decide +kernel) w hw
  have g : goodWord w = true := (show ∀ w ∈ u_ws "java/util/ArrayList" TJx4a65c 3, goodWord w = true by decide +kernel) w hw
  exact List.mem_filter.mpr ⟨h, g⟩
theorem cobj : ∀ C ∈ ["GliderDay$Flight", "GliderDay$Glider", "GliderDay$Member"], Cond.castable C "java/lang/Object" ∈ nestW := by decide +kernel
theorem ob.any {G : GT} {y : Nat} {H : Heap} (h : ob G y H) {s : State} (hKt : Kt G s) : va_Any "java/lang/Object" s H y := by
  obtain ⟨ci, fs, h1, h2, h3⟩ := h
  obtain ⟨r, hr, hC⟩ : ∃ r : vw_C, vwCl[ci]? = some r ∧ r.1 ∈ ["GliderDay$Flight", "GliderDay$Glider", "GliderDay$Member"] := by
    rcases (show ci = 1 ∨ ci = 2 ∨ ci = 3 by omega) with rfl | rfl | rfl
    · exact ⟨_, rfl, by decide +kernel⟩
    · exact ⟨_, rfl, by decide +kernel⟩
    · exact ⟨_, rfl, by decide +kernel⟩
  refine va_rAny (q0 := 0) hKt.1 h3.P rfl hr (fun comp c0 hc1 hc2 => ?_)
  obtain ⟨c3, c4, hc3, hc4, hasg⟩ := Cond.castable_spec (va_Nw.use (A := #[]) rfl (hKt.2.1 _ (cobj _ hC)))
  cases hc1.symm.trans hc4
  cases hc2.symm.trans hc3
  exact hasg
theorem ad2 {A : Nat → Prop} {a b : Nat} {x y : va_E} (h : a ≠ b) (ha : A a) (hb : A b) : va_D A [(a, x), (b, y)] := by
  refine ⟨fun i j p q hp hq e => ?_, fun i q hq => ?_⟩
  · rcases i with _ | _ | i <;> rcases j with _ | _ | j <;> simp at hp hq <;> subst hp <;> subst hq <;> first | rfl | exact absurd e h | exact absurd e.symm h
  · rcases i with _ | _ | i <;> simp at hq <;> subst hq <;> assumption
theorem wp2 {G : GT} {a b : Nat} {x y : va_E} {H : Heap} (h1 : vt G a x H) (h2 : vt G b y H) : va_P G.1 vwCl [(a, x), (b, y)] H := va_P.app h1.P h2.P
theorem cpq {G : GT} {b q cap mm : Nat} {f : Nat → Option Nat} {H : Heap} (h : va_P G.1 vwCl ([(b, aO G cap f), (q, aO G mm (fun _ => none))].set 1 (q, aO G mm (va_cpy f (fun _ => none) (0 : Int32).toNatClampNeg (0 : Int32).toNatClampNeg (nI cap).toNatClampNeg))) H) (hc : cap < 2 ^ 31) : vt G q (aO G mm (fun i => if i < cap then f i else none)) H := by
  have h1 := h 1 _ rfl
  rw [nI_clamp hc] at h1
  have e : va_cpy f (fun _ => none) (0 : Int32).toNatClampNeg (0 : Int32).toNatClampNeg cap = (fun i => if i < cap then f i else none) := by
    funext i
    show (if 0 ≤ i ∧ i < 0 + cap then f (0 + (i - 0)) else none) = _
    by_cases hi : i < cap
    · rw [if_pos hi, if_pos ⟨Nat.zero_le _, by omega⟩, show 0 + (i - 0) = i by omega]
    · rw [if_neg hi, if_neg (by omega)]
  rw [e] at h1
  exact h1
theorem hAq {G : GT} : hA_ G G.2.1.2.2.1 (.object "java/lang/Object") := by
  unfold hA_
  exact List.mem_cons_of_mem _ (List.mem_cons_of_mem _ List.mem_cons_self)
/-- the list lo holds xs: its array is b, of cap places; a new list's is the one empty array of all -/
def LR (G : GT) (lo b cap : Nat) (mo : Int32) (xs : List Nat) (H : Heap) : Prop := vt G lo (oL mo b xs.length) H ∧ ((b = G.2.2.1.1 ∧ cap = 0 ∧ xs = []) ∨ (10 ≤ cap ∧ cap ≤ 200 ∧ xs.length ≤ cap ∧ vt G b (aO G cap (fun i => xs[i]?)) H))
theorem up_app (xs : List Nat) (e : Nat) : va_up (fun i => xs[i]?) xs.length (some e) = fun i => (xs ++ [e])[i]? := by
  funext i
  show (if i = xs.length then some e else xs[i]?) = _
  by_cases h : i = xs.length
  · rw [if_pos h, h, List.getElem?_append_right (Nat.le_refl _), Nat.sub_self]
    rfl
  · rw [if_neg h]
    rcases Nat.lt_or_ge i xs.length with h2 | h2
    · rw [List.getElem?_append_left h2]
    · rw [List.getElem?_eq_none h2, List.getElem?_eq_none (by rw [List.length_append]; show xs.length + 1 ≤ i; omega)]
/-- what stays of an array behind fastRemove -/
def rmf (f : Nat → Option Nat) (n i : Nat) : Nat → Option Nat := va_up (if i = n then f else va_cpy f f (i + 1) i (n - i)) n none
theorem rmf_eq {f : Nat → Option Nat} {n i : Nat} (h : n = i) : rmf f n i = va_up f n none := by
  unfold rmf
  rw [if_pos h.symm]
theorem rmf_lt {f : Nat → Option Nat} {n i : Nat} (h : i < n) : rmf f n i = va_up (va_cpy f f (i + 1) i (n - i)) n none := by
  unfold rmf
  rw [if_neg (Nat.ne_of_lt h)]
theorem rmf_list (xs : List Nat) (n i : Nat) (hx : xs.length = n + 1) (hi : i ≤ n) : rmf (fun j => xs[j]?) n i = fun j => (xs.eraseIdx i)[j]? := by
  funext j
  have hl : (xs.eraseIdx i).length = n := by rw [List.length_eraseIdx]; split <;> omega
  unfold rmf
  show (if j = n then none else (if i = n then fun j => xs[j]? else va_cpy (fun j => xs[j]?) (fun j => xs[j]?) (i + 1) i (n - i)) j) = _
  by_cases hj : j = n
  · rw [if_pos hj, List.getElem?_eq_none (by omega)]
  · rw [if_neg hj, List.getElem?_eraseIdx]
    by_cases hin : i = n
    · rw [if_pos hin]
      by_cases hji : j < i
      · rw [if_pos hji]
      · rw [if_neg hji, List.getElem?_eq_none (by omega), List.getElem?_eq_none (by omega)]
    · rw [if_neg hin]
      show (if i ≤ j ∧ j < i + (n - i) then xs[i + 1 + (j - i)]? else xs[j]?) = _
      by_cases hji : j < i
      · rw [if_pos hji, if_neg (by omega)]
      · rw [if_neg hji]
        by_cases hjn : j < n
        · rw [if_pos (by omega), show i + 1 + (j - i) = j + 1 by omega]
        · rw [if_neg (by omega), List.getElem?_eq_none (by omega), List.getElem?_eq_none (by omega)]
theorem k_Objects_105 : cwS_ "java/util/Objects" 105 yJ3_checkIndex_8e157 cJ3_checkIndex_8e157 3 (some .int) 3 := ⟨mw_261, mw_262, mw_45, mw_263, ⟨by decide +kernel, by decide +kernel, by decide +kernel⟩⟩
theorem k_ArrayList_118 : cwS_ "java/util/ArrayList" 118 yJ15_checkIndex_7cf53 cJ15_checkIndex_7cf53 2 (some .int) 2 := ⟨mw_258, mw_259, mw_44, mw_260, ⟨by decide +kernel, by decide +kernel, by decide +kernel⟩⟩
theorem k_ArrayList_123 : cwV_ "java/util/ArrayList" 123 "java/util/ArrayList" yJx4a65c_elementData_915e3 cJx4a65c_elementData_915e3 2 (some (.object "java/lang/Object")) 1 := ⟨mw_264, mw_265, mw_266, mw_31, mw_267, ⟨by decide +kernel, by decide +kernel, by decide +kernel⟩⟩
theorem k_Arrays_300 : cwS_ "java/util/Arrays" 300 yJ7_copyOf_6403c cJ7_copyOf_6403c 4 (some (.array (.object "java/lang/Object"))) 3 := ⟨mw_383, mw_384, mw_40, mw_385, ⟨by decide +kernel, by decide +kernel, by decide +kernel⟩⟩
theorem k_ArrayList_73 : cwS_ "java/util/ArrayList" 73 yJ8_newLength_cabcc cJ8_newLength_cabcc 4 (some .int) 3 := ⟨mw_358, mw_359, mw_38, mw_360, ⟨by decide +kernel, by decide +kernel, by decide +kernel⟩⟩
theorem k_ArrayList_66 : cwS_ "java/util/ArrayList" 66 yJ7_copyOf_1904c cJ7_copyOf_1904c 2 (some (.array (.object "java/lang/Object"))) 2 := ⟨mw_368, mw_369, mw_40, mw_370, ⟨by decide +kernel, by decide +kernel, by decide +kernel⟩⟩
theorem k_ArrayList_69 : cwV_ "java/util/ArrayList" 69 "java/util/ArrayList" yJx4a65c_grow_92f84 cJx4a65c_grow_92f84 4 (some (.array (.object "java/lang/Object"))) 1 := ⟨mw_354, mw_356, mw_7, mw_31, mw_357, ⟨by decide +kernel, by decide +kernel, by decide +kernel⟩⟩
theorem k_ArrayList_129 : cwV_ "java/util/ArrayList" 129 "java/util/ArrayList" yJx4a65c_grow_d5877 cJx4a65c_grow_d5877 1 (some (.array (.object "java/lang/Object"))) 0 := ⟨mw_350, mw_352, mw_6, mw_31, mw_353, ⟨by decide +kernel, by decide +kernel, by decide +kernel⟩⟩
theorem k_ArrayList_131 : cwV_ "java/util/ArrayList" 131 "java/util/ArrayList" yJx4a65c_add_72be8 cJx4a65c_add_72be8 4 none 3 := ⟨mw_346, mw_348, mw_5, mw_31, mw_349, ⟨by decide +kernel, by decide +kernel, by decide +kernel⟩⟩
theorem k_ArrayList_144 : cwV_ "java/util/ArrayList" 144 "java/util/ArrayList" yJx4a65c_fastRemove_b59b0 cJx4a65c_fastRemove_b59b0 4 none 2 := ⟨mw_438, mw_440, mw_14, mw_31, mw_441, ⟨by decide +kernel, by decide +kernel, by decide +kernel⟩⟩
set_option maxHeartbeats 4000000 in
set_option maxRecDepth 100000 in
theorem c_chk3 (l : Launch) (G : GT) (A : Nat → Prop) (x m : Int32) (h0 : ¬ x < 0) (h1 : x < m) : Ct l yJ3_checkIndex_8e157 cJ3_checkIndex_8e157 3 (some .int) ({ frames := 0, cells := 0, slots := 0, locals := 0 } : Room) G A [.int x, .int m, .null] (fun H => True) (Pu (.int x)) := by
  refine ct_of (own := "jdk/internal/util/Preconditions") (by decide +kernel) rfl (Nat.le_of_ble_eq_true rfl) (fun E H0 F hE _ => ?_)
  show wx E H0 0 0 0 [(0, .int x), (1, .int m), (2, .null)] []
  refine x_iload_n F dJ3_checkIndex_8e157_0 0 rfl rfl ?_
  refine x_if_lt F dJ3_checkIndex_8e157_1 (tgt := 9) (by decide) (fun h1 => absurd h1 (h0)) (fun _ => ?_)
  refine x_iload_n F dJ3_checkIndex_8e157_4 0 rfl rfl ?_
  refine x_iload_n F dJ3_checkIndex_8e157_5 1 rfl rfl ?_
  refine x_icmp_lt F dJ3_checkIndex_8e157_6 (tgt := 16) (by decide) (fun _ => ?_) (fun h2 => absurd (h1) h2)
  refine x_iload_n F dJ3_checkIndex_8e157_16 0 rfl rfl ?_
  exact x_iret F hE dJ3_checkIndex_8e157_17 (Nat.le_of_ble_eq_true rfl) (Nat.le_of_ble_eq_true rfl) (⟨rfl, rfl⟩)
set_option maxHeartbeats 4000000 in
set_option maxRecDepth 100000 in
theorem c_chk2 (l : Launch) (G : GT) (A : Nat → Prop) (x m : Int32) (h0 : ¬ x < 0) (h1 : x < m) : Ct l yJ15_checkIndex_7cf53 cJ15_checkIndex_7cf53 2 (some .int) ({ frames := 1, cells := 0, slots := 0, locals := 22 } : Room) G A [.int x, .int m] (fun H => True) (Pu (.int x)) := by
  refine ct_of (own := "java/util/Objects") (by decide +kernel) rfl (Nat.le_of_ble_eq_true rfl) (fun E H0 F hE _ => ?_)
  show wx E H0 0 0 0 [(0, .int x), (1, .int m)] []
  refine x_iload_n F dJ15_checkIndex_7cf53_0 0 rfl rfl ?_
  refine x_iload_n F dJ15_checkIndex_7cf53_1 1 rfl rfl ?_
  refine x_null F dJ15_checkIndex_7cf53_2 ?_
  refine x_callSp (rest := []) F (c_chk3 l G A x m h0 h1) k_Objects_105 ⟨(Nat.le_of_ble_eq_true rfl), (Nat.le_of_ble_eq_true rfl), rfl, rfl⟩ (Nat.le_of_ble_eq_true rfl) (Nat.le_of_ble_eq_true rfl) dJ15_checkIndex_7cf53_3 rfl rfl (Nat.le_of_ble_eq_true rfl) trivial ?_
  exact x_iret F hE dJ15_checkIndex_7cf53_6 (Nat.le_of_ble_eq_true rfl) (Nat.le_of_ble_eq_true rfl) (⟨rfl, rfl⟩)
set_option maxHeartbeats 4000000 in
set_option maxRecDepth 100000 in
theorem c_acInit (l : Launch) (G : GT) (A : Nat → Prop) (q : Nat) : Ct l yJxa1e45_init_da8c8 cJxa1e45_init_da8c8 1 none ({ frames := 1, cells := 0, slots := 0, locals := 12 } : Room) G A [.ref q] (fun H => True) (fun H r H1 => r = none ∧ H1 = H) := by
  refine ct_of (own := "java/util/AbstractCollection") (by decide +kernel) rfl (Nat.le_of_ble_eq_true rfl) (fun E H0 F hE _ => ?_)
  show wx E H0 0 0 0 [(0, .ref q)] []
  refine x_aload_n F dJxa1e45_init_da8c8_0 0 rfl rfl ?_
  refine x_objInit F mw_66 mw_53 mw_54 dJxa1e45_init_da8c8_1 (Nat.le_of_ble_eq_true rfl) (Nat.le_of_ble_eq_true rfl) ?_
  exact x_vret F hE dJxa1e45_init_da8c8_4 (Nat.le_of_ble_eq_true rfl) (Nat.le_of_ble_eq_true rfl) (⟨rfl, rfl⟩)
set_option maxHeartbeats 4000000 in
set_option maxRecDepth 100000 in
theorem c_alInit (l : Launch) (G : GT) (A : Nat → Prop) (q : Nat) (m0 : Int32) (w1 w2 : Value) : Ct l yJxc12de_init_da8c8 cJxc12de_init_da8c8 1 none ({ frames := 2, cells := 0, slots := 0, locals := 32 } : Room) G A [.ref q] (fun H => vt G q (.inr (0, [.int m0, w1, w2])) H ∧ A q) (fun H r H1 => r = none ∧ vt G q (.inr (0, [.int 0, w1, w2])) H1 ∧ hset H q H1) := by
  refine ct_of (own := "java/util/AbstractList") (by decide +kernel) rfl (Nat.le_of_ble_eq_true rfl) (fun E H0 F hE hp => ?_)
  obtain ⟨hv, hA⟩ := hp
  show wx E H0 0 0 0 [(0, .ref q)] []
  refine x_aload_n F dJxc12de_init_da8c8_0 0 rfl rfl ?_
  refine fr_of F fun hfr => x_callI (rest := []) F (c_acInit l G A q) mw_63 mw_64 mw_29 mw_65 rfl ⟨by decide +kernel, by decide +kernel, by decide +kernel⟩ ⟨⟨(Nat.le_of_ble_eq_true rfl), (Nat.le_of_ble_eq_true rfl)⟩, (Nat.le_of_ble_eq_true rfl), (Nat.le_of_ble_eq_true rfl)⟩ dJxc12de_init_da8c8_1 rfl rfl (Nat.le_of_ble_eq_true rfl) (fun _ h => h) hfr trivial ?_
  rintro _ _ ⟨rfl, rfl⟩ - -
  refine x_aload_n F dJxc12de_init_da8c8_4 0 rfl rfl ?_
  refine x_iconst (v := 0) F rfl dJxc12de_init_da8c8_5 ?_
  refine x_put (C := "java/util/ArrayList") (T := TJx4a65c) (N := 3) F hv hA rfl (j := 0) (by decide) inAL tyJx4a65c tyJx4a65c_ok nmJx4a65c mw_71 (Or.inl rfl) rfl rfl rfl rfl (Nat.le_of_ble_eq_true rfl) dJxc12de_init_da8c8_6 (fun H1 hv' hs_H1 => ?_)
  exact x_vret F hE dJxc12de_init_da8c8_9 (Nat.le_of_ble_eq_true rfl) (Nat.le_of_ble_eq_true rfl) (⟨rfl, hv', hs_H1⟩)
set_option maxHeartbeats 4000000 in
set_option maxRecDepth 100000 in
/-- new ArrayList() -/
theorem c_lInit (l : Launch) (G : GT) (A : Nat → Prop) (q : Nat) (m0 : Int32) (w1 w2 : Value) : Ct l yJx4a65c_init_da8c8 cJx4a65c_init_da8c8 1 none ({ frames := 3, cells := 0, slots := 0, locals := 52 } : Room) G A [.ref q] (fun H => vt G q (.inr (0, [.int m0, w1, w2])) H ∧ A q) (fun H r H1 => r = none ∧ vt G q (.inr (0, [.int 0, .ref G.2.2.1.1, w2])) H1 ∧ hset H q H1) := by
  refine ct_of (own := "java/util/ArrayList") (by decide +kernel) rfl (Nat.le_of_ble_eq_true rfl) (fun E H0 F hE hp => ?_)
  obtain ⟨hv, hA⟩ := hp
  show wx E H0 0 0 0 [(0, .ref q)] []
  refine x_aload_n F dJx4a65c_init_da8c8_0 0 rfl rfl ?_
  refine fr_of F fun hfr => x_callI (rest := []) F (c_alInit l G A q m0 w1 w2) mw_60 mw_61 mw_30 mw_62 rfl ⟨by decide +kernel, by decide +kernel, by decide +kernel⟩ ⟨⟨(Nat.le_of_ble_eq_true rfl), (Nat.le_of_ble_eq_true rfl)⟩, (Nat.le_of_ble_eq_true rfl), (Nat.le_of_ble_eq_true rfl)⟩ dJx4a65c_init_da8c8_1 rfl rfl (Nat.le_of_ble_eq_true rfl) (fun _ h => h) hfr ⟨hv, hA⟩ ?_
  rintro _ H1 ⟨rfl, hv1, hs1⟩ - -
  refine x_aload_n F dJx4a65c_init_da8c8_4 0 rfl rfl ?_
  refine x_getsE F mw_67 dJx4a65c_init_da8c8_5 ?_
  refine x_put (C := "java/util/ArrayList") (T := TJx4a65c) (N := 3) F hv1 hA rfl (j := 1) (by decide) inAL tyJx4a65c tyJx4a65c_ok nmJx4a65c mw_69 (Or.inl rfl) rfl rfl rfl rfl (Nat.le_of_ble_eq_true rfl) dJx4a65c_init_da8c8_8 (fun H2 hv1' hs_H2 => ?_)
  exact x_vret F hE dJx4a65c_init_da8c8_11 (Nat.le_of_ble_eq_true rfl) (Nat.le_of_ble_eq_true rfl) (⟨rfl, hv1', hs_H2.1.trans hs1.1, fun q h => (hs_H2.2 q h).trans (hs1.2 q h)⟩)
set_option maxHeartbeats 4000000 in
set_option maxRecDepth 100000 in
theorem c_lsize (l : Launch) (G : GT) (A : Nat → Prop) (lo : Nat) (w0 w1 : Value) (z : Int32) : Ct l yJx4a65c_size_8abf5 cJx4a65c_size_8abf5 1 (some .int) ({ frames := 0, cells := 0, slots := 0, locals := 0 } : Room) G A [.ref lo] (fun H => vt G lo (.inr (0, [w0, w1, .int z])) H) (Pu (.int z)) := by
  refine ct_of (own := "java/util/ArrayList") (by decide +kernel) rfl (Nat.le_of_ble_eq_true rfl) (fun E H0 F hE hv => ?_)
  show wx E H0 0 0 0 [(0, .ref lo)] []
  refine x_aload_n F dJx4a65c_size_8abf5_0 0 rfl rfl ?_
  refine x_get (v := .int z) (C := "java/util/ArrayList") (T := TJx4a65c) (N := 3) F hv rfl (j := 2) (by decide) inAL mw_70 (Or.inl rfl) rfl dJx4a65c_size_8abf5_1 ?_
  exact x_iret F hE dJx4a65c_size_8abf5_4 (Nat.le_of_ble_eq_true rfl) (Nat.le_of_ble_eq_true rfl) (⟨rfl, rfl⟩)
set_option maxHeartbeats 4000000 in
set_option maxRecDepth 100000 in
theorem c_lempty (l : Launch) (G : GT) (A : Nat → Prop) (lo : Nat) (w0 w1 : Value) (z : Int32) : Ct l yJx4a65c_isEmpty_aae02 cJx4a65c_isEmpty_aae02 1 (some .boolean) ({ frames := 0, cells := 0, slots := 0, locals := 0 } : Room) G A [.ref lo] (fun H => vt G lo (.inr (0, [w0, w1, .int z])) H) (Pu (.int (bI (z = 0)))) := by
  refine ct_of (own := "java/util/ArrayList") (by decide +kernel) rfl (Nat.le_of_ble_eq_true rfl) (fun E H0 F hE hv => ?_)
  show wx E H0 0 0 0 [(0, .ref lo)] []
  refine x_aload_n F dJx4a65c_isEmpty_aae02_0 0 rfl rfl ?_
  refine x_get (v := .int z) (C := "java/util/ArrayList") (T := TJx4a65c) (N := 3) F hv rfl (j := 2) (by decide) inAL mw_70 (Or.inl rfl) rfl dJx4a65c_isEmpty_aae02_1 ?_
  refine x_if_ne F dJx4a65c_isEmpty_aae02_4 (tgt := 11) (by decide) (fun h1 => ?_) (fun h1 => ?_)
  · refine x_iconst (v := 0) F rfl dJx4a65c_isEmpty_aae02_11 ?_
    exact x_zret F rfl hE dJx4a65c_isEmpty_aae02_12 (Nat.le_of_ble_eq_true rfl) (Nat.le_of_ble_eq_true rfl) (⟨by rw [bI_f (h1)], rfl⟩)
  · refine x_iconst (v := 1) F rfl dJx4a65c_isEmpty_aae02_7 ?_
    refine x_goto F dJx4a65c_isEmpty_aae02_8 (tgt := 12) (by decide) ?_
    exact x_zret F rfl hE dJx4a65c_isEmpty_aae02_12 (Nat.le_of_ble_eq_true rfl) (Nat.le_of_ble_eq_true rfl) (⟨by rw [bI_t (h1)], rfl⟩)
set_option maxHeartbeats 4000000 in
set_option maxRecDepth 100000 in
theorem c_ledat (l : Launch) (G : GT) (A : Nat → Prop) (lo b n cap i e : Nat) (mo : Int32) (f : Nat → Option Nat) (hi : i < cap) (hc : cap < 2 ^ 31) (he : f i = some e) : Ct l yJx4a65c_elementData_915e3 cJx4a65c_elementData_915e3 2 (some (.object "java/lang/Object")) ({ frames := 0, cells := 0, slots := 0, locals := 0 } : Room) G A [.ref lo, .int (nI i)] (fun H => vt G lo (oL mo b n) H ∧ vt G b (aO G cap f) H) (Pu (.ref e)) := by
  refine ct_of (own := "java/util/ArrayList") (by decide +kernel) rfl (Nat.le_of_ble_eq_true rfl) (fun E H0 F hE hp => ?_)
  obtain ⟨hv, hb⟩ := hp
  show wx E H0 0 0 0 [(0, .ref lo), (1, .int (nI i))] []
  refine x_aload_n F dJx4a65c_elementData_915e3_0 0 rfl rfl ?_
  refine x_get (v := .ref b) (C := "java/util/ArrayList") (T := TJx4a65c) (N := 3) F hv rfl (j := 1) (by decide) inAL mw_69 (Or.inl rfl) rfl dJx4a65c_elementData_915e3_1 ?_
  refine x_iload_n F dJx4a65c_elementData_915e3_4 1 rfl rfl ?_
  refine x_aald F hb (vp_in_nI hi hc) dJx4a65c_elementData_915e3_5 ?_
  rw [nI_clamp (by omega), he]
  exact x_aret F (Or.inl ⟨_, rfl⟩) (Or.inr ⟨_, rfl⟩) hE dJx4a65c_elementData_915e3_6 (Nat.le_of_ble_eq_true rfl) (Nat.le_of_ble_eq_true rfl) (⟨rfl, rfl⟩)
set_option maxHeartbeats 4000000 in
set_option maxRecDepth 100000 in
/-- get(i) -/
theorem c_lget (l : Launch) (G : GT) (A : Nat → Prop) (lo b n cap i e : Nat) (mo : Int32) (f : Nat → Option Nat) (hi : i < n) (hn : n ≤ cap) (hc : cap < 2 ^ 31) (he : f i = some e) : Ct l yJx4a65c_get_915e3 cJx4a65c_get_915e3 2 (some (.object "java/lang/Object")) ({ frames := 2, cells := 0, slots := 0, locals := 43 } : Room) G A [.ref lo, .int (nI i)] (fun H => vt G lo (oL mo b n) H ∧ vt G b (aO G cap f) H) (Pu (.ref e)) := by
  refine ct_of (own := "java/util/ArrayList") (by decide +kernel) rfl (Nat.le_of_ble_eq_true rfl) (fun E H0 F hE hp => ?_)
  obtain ⟨hv, hb⟩ := hp
  show wx E H0 0 0 0 [(0, .ref lo), (1, .int (nI i))] []
  refine x_iload_n F dJx4a65c_get_915e3_0 1 rfl rfl ?_
  refine x_aload_n F dJx4a65c_get_915e3_1 0 rfl rfl ?_
  refine x_get (v := .int (nI n)) (C := "java/util/ArrayList") (T := TJx4a65c) (N := 3) F hv rfl (j := 2) (by decide) inAL mw_70 (Or.inl rfl) rfl dJx4a65c_get_915e3_2 ?_
  refine x_callSp (rest := []) F (c_chk2 l G A (nI i) (nI n) (nI_pos (by omega)) (nI_lt hi (by omega))) k_ArrayList_118 ⟨(Nat.le_of_ble_eq_true rfl), (Nat.le_of_ble_eq_true rfl), rfl, rfl⟩ (Nat.le_of_ble_eq_true rfl) (Nat.le_of_ble_eq_true rfl) dJx4a65c_get_915e3_5 rfl rfl (Nat.le_of_ble_eq_true rfl) trivial ?_
  refine x_pop F dJx4a65c_get_915e3_8 rfl ?_
  refine x_aload_n F dJx4a65c_get_915e3_9 0 rfl rfl ?_
  refine x_iload_n F dJx4a65c_get_915e3_10 1 rfl rfl ?_
  refine x_callVp (rest := []) F hv rfl (c_ledat l G A lo b n cap i e mo f (by omega) hc he) k_ArrayList_123 ⟨(Nat.le_of_ble_eq_true rfl), (Nat.le_of_ble_eq_true rfl), rfl, rfl⟩ (Nat.le_of_ble_eq_true rfl) (Nat.le_of_ble_eq_true rfl) dJx4a65c_get_915e3_11 rfl rfl (Nat.le_of_ble_eq_true rfl) ⟨hv, hb⟩ ?_
  exact x_aret F (Or.inl ⟨_, rfl⟩) (Or.inr ⟨_, rfl⟩) hE dJx4a65c_get_915e3_14 (Nat.le_of_ble_eq_true rfl) (Nat.le_of_ble_eq_true rfl) (⟨rfl, rfl⟩)
theorem nl_ (cap : Nat) (h : 2 ≤ cap) (h2 : cap ≤ 1000) : nI cap + (if (1 : Int32) < nI (cap / 2) then nI (cap / 2) else 1) = nI (cap + cap / 2) := by
  by_cases c : 1 < cap / 2
  · rw [if_pos (show (1 : Int32) < nI (cap / 2) from nI_lt (a := 1) c (by omega))]
    exact nI_add _ _
  · rw [if_neg (show ¬ (1 : Int32) < nI (cap / 2) from nI_nlt (a := 1) (by omega) (by decide)), show cap / 2 = 1 by omega]
    exact nI_1 _
theorem nlh_ (cap : Nat) (h2 : cap ≤ 1000) : nI cap >>> ((1 : Int32) &&& 31) = nI (cap / 2) := by
  have k := pk_shrN (n := cap) (by omega) ((1 : Int32) &&& 31) 1 (by decide)
  rw [Nat.pow_one] at k
  exact k
theorem nl1_ (n : Nat) : nI (n + 1) - nI n = 1 := by
  have k := pk_sub (a := n + 1) (b := n) (by omega)
  rw [Nat.add_sub_cancel_left] at k
  exact k
theorem nI_sub1 (n : Nat) : nI (n + 1) - 1 = nI n := nI_pred n
set_option maxHeartbeats 4000000 in
set_option maxRecDepth 100000 in
theorem c_newLen (l : Launch) (G : GT) (A : Nat → Prop) (cap : Nat) (h2 : 2 ≤ cap) (hc : cap ≤ 1000) : Ct l yJ8_newLength_cabcc cJ8_newLength_cabcc 4 (some .int) ({ frames := 1, cells := 0, slots := 0, locals := 14 } : Room) G A [.int (nI cap), .int 1, .int (nI (cap / 2))] (fun H => True) (Pu (.int (nI (cap + cap / 2)))) := by
  refine ct_of (own := "jdk/internal/util/ArraysSupport") (by decide +kernel) rfl (Nat.le_of_ble_eq_true rfl) (fun E H0 F hE _ => ?_)
  show wx E H0 0 0 0 [(0, .int (nI cap)), (1, .int 1), (2, .int (nI (cap / 2)))] []
  refine x_iload_n F dJ8_newLength_cabcc_0 0 rfl rfl ?_
  refine x_iload_n F dJ8_newLength_cabcc_1 1 rfl rfl ?_
  refine x_iload_n F dJ8_newLength_cabcc_2 2 rfl rfl ?_
  refine x_mmax F mw_361 mw_362 mw_39 mw_363 (Nat.le_of_ble_eq_true rfl) (Nat.le_of_ble_eq_true rfl) (Nat.le_of_ble_eq_true rfl) (Nat.le_of_ble_eq_true rfl) dJ8_newLength_cabcc_3 ?_
  refine x_iadd F dJ8_newLength_cabcc_6 ?_
  refine wx_i (y := nI (cap + cap / 2)) (nl_ cap h2 hc) ?_
  refine x_istore_n (lv' := [(3, .int (nI (cap + cap / 2))), (0, .int (nI cap)), (1, .int 1), (2, .int (nI (cap / 2)))]) F dJ8_newLength_cabcc_7 rfl (by decide) rfl ?_
  refine x_iconst (v := 0) F rfl dJ8_newLength_cabcc_8 ?_
  refine x_iload_n F dJ8_newLength_cabcc_9 0 rfl rfl ?_
  refine x_icmp_ge F dJ8_newLength_cabcc_10 (tgt := 21) (by decide) (fun h1 => absurd h1 ((nI_nle (by omega) (by omega)))) (fun _ => ?_)
  refine x_iload_n F dJ8_newLength_cabcc_13 0 rfl rfl ?_
  refine x_ldc F mw_364 dJ8_newLength_cabcc_14 ?_
  refine x_icmp_gt F dJ8_newLength_cabcc_16 (tgt := 21) (by decide) (fun h2 => absurd h2 ((show ¬ nI 2147483639 < nI (cap + cap / 2) from nI_nlt (by omega) (by decide)))) (fun _ => ?_)
  refine x_iload_n F dJ8_newLength_cabcc_19 0 rfl rfl ?_
  exact x_iret F hE dJ8_newLength_cabcc_20 (Nat.le_of_ble_eq_true rfl) (Nat.le_of_ble_eq_true rfl) (⟨rfl, rfl⟩)
set_option maxHeartbeats 4000000 in
set_option maxRecDepth 100000 in
theorem c_copy3 (l : Launch) (G : GT) (A : Nat → Prop) (b cap mm : Nat) (f : Nat → Option Nat) (hm : cap ≤ mm) (hm2 : mm ≤ 300) (hAb : A b) : Ct l yJ7_copyOf_6403c cJ7_copyOf_6403c 4 (some (.array (.object "java/lang/Object"))) ({ frames := 1, cells := 1, slots := 300, locals := 40 } : Room) G A [.ref b, .int (nI mm), .ref G.2.2.1.2] (fun H => vt G b (aO G cap f) H ∧ ∀ i, i < cap → ∀ y, f i = some y → ob G y H) (fun H r H1 => ∃ q, r = some (.ref q) ∧ H.size ≤ q ∧ vt G q (aO G mm (fun i => if i < cap then f i else none)) H1) := by
  refine ct_of (own := "java/util/Arrays") (by decide +kernel) rfl (Nat.le_of_ble_eq_true rfl) (fun E H0 F hE hp => ?_)
  obtain ⟨hb, hob⟩ := hp
  refine fr_of F fun hfrA => ?_
  have hAA : ∀ q, (H0.size ≤ q ∨ q = b) → A q := fun q h => h.elim (hfrA q) (fun e => e ▸ hAb)
  show wx E H0 0 0 0 [(0, .ref b), (1, .int (nI mm)), (2, .ref G.2.2.1.2)] []
  refine x_aload_n F dJ7_copyOf_6403c_0 2 rfl rfl ?_
  refine x_ldcM F mw_386 dJ7_copyOf_6403c_1 ?_
  refine x_acmp_ne (rx := some G.2.2.1.2) (ry := some G.2.2.1.2) F dJ7_copyOf_6403c_3 (tgt := 13) (by decide) (fun h => absurd rfl h) (fun _ => ?_)
  refine x_iload_n F dJ7_copyOf_6403c_6 1 rfl rfl ?_
  refine x_newq (z := nI mm) F mw_388 (nI_pos (by omega)) (nI_clamp (by omega)) (by omega) (Nat.le_of_ble_eq_true rfl) (by show 0 + mm ≤ 300; omega) dJ7_copyOf_6403c_7 (fun H1 hq hn1 => ?_)
  have hb1 : vt G b (aO G cap f) H1 := hb.kept (hn1.2 _ hb.lt)
  have hD1 : va_D (fun q => H0.size ≤ q ∨ q = b) [(b, aO G cap f), (H0.size, aO G mm (fun _ => none))] := ad2 (by have := hb.lt; omega) (Or.inr rfl) (Or.inl (Nat.le_refl _))
  refine x_goto F dJ7_copyOf_6403c_10 (tgt := 24) (by decide) ?_
  refine x_astore_n (lv' := [(3, .ref H0.size), (0, .ref b), (1, .int (nI mm)), (2, .ref G.2.2.1.2)]) F dJ7_copyOf_6403c_24 rfl (by decide) rfl ?_
  refine x_aload_n F dJ7_copyOf_6403c_25 1 rfl rfl ?_
  refine x_iconst (v := 0) F rfl dJ7_copyOf_6403c_26 ?_
  refine x_aload_n F dJ7_copyOf_6403c_27 0 rfl rfl ?_
  refine x_iconst (v := 0) F rfl dJ7_copyOf_6403c_28 ?_
  refine x_aload_n F dJ7_copyOf_6403c_29 1 rfl rfl ?_
  refine x_alen (v := nI cap) F hb1 hAq rfl dJ7_copyOf_6403c_30 ?_
  refine x_iload_n F dJ7_copyOf_6403c_31 2 rfl rfl ?_
  refine x_mmin F mw_389 mw_390 mw_39 mw_391 (Nat.le_of_ble_eq_true rfl) (Nat.le_of_ble_eq_true rfl) (Nat.le_of_ble_eq_true rfl) (by show 0 + mm ≤ 300; omega) dJ7_copyOf_6403c_32 ?_
  refine wx_i (y := nI cap) ((if_neg (nI_nlt hm (by omega)) : (if nI mm < nI cap then nI mm else nI cap) = nI cap)) ?_
  refine x_copyq F mw_392 mw_394 mw_393 mw_41 (ws := [(b, aO G cap f), (H0.size, aO G mm (fun _ => none))]) (wp2 hb1 hq) (hD1.weaken (fun _ _ _ h => hAA _ h)) 0 1 rfl rfl (by decide) (by decide) (nI_pos (by omega)) (by rw [nI_clamp (by omega)]; show 0 + cap ≤ cap; omega) (by rw [nI_clamp (by omega)]; show 0 + cap ≤ mm; omega) (fun s hs i hi y hy => ?_) (Nat.le_of_ble_eq_true rfl) (Nat.le_of_ble_eq_true rfl) dJ7_copyOf_6403c_35 (fun H2 hP2 hD2 => ?_)
  · rw [nI_clamp (by omega)] at hi
    have hy2 : f i = some y := by rw [← hy]; congr 1; exact (Nat.zero_add i).symm
    exact ((hob i hi y hy2).kept (hn1.2 _ (hob i hi y hy2).lt)).any hs
  · refine x_aload_n F dJ7_copyOf_6403c_38 0 rfl rfl ?_
    exact x_aret F (Or.inr ⟨_, rfl⟩) (Or.inr ⟨_, rfl⟩) hE dJ7_copyOf_6403c_39 (Nat.le_of_ble_eq_true rfl) (by show 0 + mm ≤ 300; omega) (⟨H0.size, rfl, Nat.le_refl _, cpq hP2 (by omega)⟩)
set_option maxHeartbeats 4000000 in
set_option maxRecDepth 100000 in
theorem c_copy2 (l : Launch) (G : GT) (A : Nat → Prop) (b cap mm : Nat) (f : Nat → Option Nat) (hm : cap ≤ mm) (hm2 : mm ≤ 300) (hAb : A b) : Ct l yJ7_copyOf_1904c cJ7_copyOf_1904c 2 (some (.array (.object "java/lang/Object"))) ({ frames := 2, cells := 1, slots := 300, locals := 63 } : Room) G A [.ref b, .int (nI mm)] (fun H => vt G b (aO G cap f) H ∧ ∀ i, i < cap → ∀ y, f i = some y → ob G y H) (fun H r H1 => ∃ q, r = some (.ref q) ∧ H.size ≤ q ∧ vt G q (aO G mm (fun i => if i < cap then f i else none)) H1) := by
  refine ct_of (own := "java/util/Arrays") (by decide +kernel) rfl (Nat.le_of_ble_eq_true rfl) (fun E H0 F hE hp => ?_)
  obtain ⟨hb, hob⟩ := hp
  show wx E H0 0 0 0 [(0, .ref b), (1, .int (nI mm))] []
  refine x_aload_n F dJ7_copyOf_1904c_0 0 rfl rfl ?_
  refine x_iload_n F dJ7_copyOf_1904c_1 1 rfl rfl ?_
  refine x_aload_n F dJ7_copyOf_1904c_2 0 rfl rfl ?_
  refine x_getC F hb mw_371 (by decide +kernel) mw_649 mw_372 mw_382 (Nat.le_of_ble_eq_true rfl) (Nat.le_of_ble_eq_true rfl) dJ7_copyOf_1904c_3 ?_
  refine x_callSs (rest := []) F (c_copy3 l G A b cap mm f hm hm2 hAb) k_Arrays_300 ⟨⟨(Nat.le_of_ble_eq_true rfl), (Nat.le_of_ble_eq_true rfl)⟩, (Nat.le_of_ble_eq_true rfl), (Nat.le_of_ble_eq_true rfl)⟩ dJ7_copyOf_1904c_6 rfl rfl (Nat.le_of_ble_eq_true rfl) ⟨hb, hob⟩ ?_
  rintro _ H1 ⟨q, rfl, hq0, hq⟩ hz1 hk1
  exact x_aret F (Or.inr ⟨_, rfl⟩) (Or.inr ⟨_, rfl⟩) hE dJ7_copyOf_1904c_9 (Nat.le_of_ble_eq_true rfl) (Nat.le_of_ble_eq_true rfl) (⟨q, rfl, hq0, hq⟩)
set_option maxHeartbeats 4000000 in
set_option maxRecDepth 100000 in
theorem c_growF (l : Launch) (G : GT) (A : Nat → Prop) (lo b n : Nat) (mo : Int32) (f : Nat → Option Nat) (hn : 2 ≤ n) (hn2 : n ≤ 200) (hA : A lo) (hAb : A b) (hlb : lo ≠ b) : Ct l yJx4a65c_grow_92f84 cJx4a65c_grow_92f84 4 (some (.array (.object "java/lang/Object"))) ({ frames := 3, cells := 1, slots := 300, locals := 84 } : Room) G A [.ref lo, .int (nI (n + 1))] (fun H => vt G lo (oL mo b n) H ∧ vt G b (aO G n f) H ∧ ∀ i, i < n → ∀ y, f i = some y → ob G y H) (fun H r H1 => ∃ q, r = some (.ref q) ∧ H.size ≤ q ∧ vt G lo (oL mo q n) H1 ∧ vt G q (aO G (n + n / 2) (fun i => if i < n then f i else none)) H1) := by
  refine ct_of (own := "java/util/ArrayList") (by decide +kernel) rfl (Nat.le_of_ble_eq_true rfl) (fun E H0 F hE hp => ?_)
  obtain ⟨hv, hb, hob⟩ := hp
  show wx E H0 0 0 0 [(0, .ref lo), (1, .int (nI (n + 1)))] []
  refine x_aload_n F dJx4a65c_grow_92f84_0 0 rfl rfl ?_
  refine x_get (v := .ref b) (C := "java/util/ArrayList") (T := TJx4a65c) (N := 3) F hv rfl (j := 1) (by decide) inAL mw_69 (Or.inl rfl) rfl dJx4a65c_grow_92f84_1 ?_
  refine x_alen (v := nI n) F hb hAq rfl dJx4a65c_grow_92f84_4 ?_
  refine x_istore_n (lv' := [(2, .int (nI n)), (0, .ref lo), (1, .int (nI (n + 1)))]) F dJx4a65c_grow_92f84_5 rfl (by decide) rfl ?_
  refine x_iload_n F dJx4a65c_grow_92f84_6 0 rfl rfl ?_
  refine x_if_gt F dJx4a65c_grow_92f84_7 (tgt := 20) (by decide) (fun _ => ?_) (fun h => absurd (nI_lt (a := 0) (by omega) (by omega)) h)
  refine x_iload_n F dJx4a65c_grow_92f84_20 0 rfl rfl ?_
  refine x_iload_n F dJx4a65c_grow_92f84_21 2 rfl rfl ?_
  refine x_iload_n F dJx4a65c_grow_92f84_22 0 rfl rfl ?_
  refine x_isub F dJx4a65c_grow_92f84_23 ?_
  refine wx_i (y := 1) (nl1_ n) ?_
  refine x_iload_n F dJx4a65c_grow_92f84_24 0 rfl rfl ?_
  refine x_iconst (v := 1) F rfl dJx4a65c_grow_92f84_25 ?_
  refine x_ishr F dJx4a65c_grow_92f84_26 ?_
  refine wx_i (y := nI (n / 2)) (nlh_ n (by omega)) ?_
  refine x_callSp (rest := []) F (c_newLen l G A n (by omega) (by omega)) k_ArrayList_73 ⟨(Nat.le_of_ble_eq_true rfl), (Nat.le_of_ble_eq_true rfl), rfl, rfl⟩ (Nat.le_of_ble_eq_true rfl) (Nat.le_of_ble_eq_true rfl) dJx4a65c_grow_92f84_27 rfl rfl (Nat.le_of_ble_eq_true rfl) trivial ?_
  refine x_istore_n (lv' := [(3, .int (nI (n + n / 2))), (2, .int (nI n)), (0, .ref lo), (1, .int (nI (n + 1)))]) F dJx4a65c_grow_92f84_30 rfl (by decide) rfl ?_
  refine x_aload_n F dJx4a65c_grow_92f84_31 2 rfl rfl ?_
  refine x_aload_n F dJx4a65c_grow_92f84_32 2 rfl rfl ?_
  refine x_get (v := .ref b) (C := "java/util/ArrayList") (T := TJx4a65c) (N := 3) F hv rfl (j := 1) (by decide) inAL mw_69 (Or.inl rfl) rfl dJx4a65c_grow_92f84_33 ?_
  refine x_iload_n F dJx4a65c_grow_92f84_36 0 rfl rfl ?_
  refine fr_of F fun hfr => x_callS (rest := [.ref lo]) (A1 := fun q => q = b ∨ H0.size ≤ q) F (c_copy2 l G _ b n (n + n / 2) f (by omega) (by omega) (Or.inl rfl)) k_ArrayList_66.1 k_ArrayList_66.2.1 k_ArrayList_66.2.2.1 k_ArrayList_66.2.2.2.1 k_ArrayList_66.2.2.2.2 ⟨⟨(Nat.le_of_ble_eq_true rfl), (Nat.le_of_ble_eq_true rfl)⟩, (Nat.le_of_ble_eq_true rfl), (Nat.le_of_ble_eq_true rfl)⟩ dJx4a65c_grow_92f84_37 rfl rfl (Nat.le_of_ble_eq_true rfl) (fun q h => h.elim (fun e => e ▸ hAb) (hfr q)) (fun q h => Or.inr h) ⟨hb, hob⟩ ?_
  rintro _ H1 ⟨q, rfl, hq0, hq⟩ hz1 hk1
  have hv1 : vt G lo (oL mo b n) H1 := hv.kept (hk1 lo hv.lt (fun h => h.elim hlb (fun h => by have := hv.lt; omega)))
  have hqlo : q ≠ lo := Nat.ne_of_gt (Nat.lt_of_lt_of_le hv.lt hq0)
  refine x_dup_x1 F dJx4a65c_grow_92f84_40 rfl rfl ?_
  refine x_put (C := "java/util/ArrayList") (T := TJx4a65c) (N := 3) F hv1 hA rfl (j := 1) (by decide) inAL tyJx4a65c tyJx4a65c_ok nmJx4a65c mw_69 (Or.inl rfl) rfl rfl rfl rfl (Nat.le_of_ble_eq_true rfl) dJx4a65c_grow_92f84_41 (fun H2 hv1' hs_H2 => ?_)
  exact x_aret F (Or.inr ⟨_, rfl⟩) (Or.inr ⟨_, rfl⟩) hE dJx4a65c_grow_92f84_44 (Nat.le_of_ble_eq_true rfl) (Nat.le_of_ble_eq_true rfl) (⟨q, rfl, hq0, hv1', hq.kept (hs_H2.2 q hqlo)⟩)
set_option maxHeartbeats 4000000 in
set_option maxRecDepth 100000 in
theorem c_growE (l : Launch) (G : GT) (A : Nat → Prop) (lo : Nat) (mo : Int32) (hA : A lo) : Ct l yJx4a65c_grow_92f84 cJx4a65c_grow_92f84 4 (some (.array (.object "java/lang/Object"))) ({ frames := 3, cells := 1, slots := 300, locals := 84 } : Room) G A [.ref lo, .int 1] (fun H => vt G lo (oL mo G.2.2.1.1 0) H) (fun H r H1 => ∃ q, r = some (.ref q) ∧ H.size ≤ q ∧ vt G lo (oL mo q 0) H1 ∧ vt G q (aO G 10 (fun _ => none)) H1) := by
  refine ct_of (own := "java/util/ArrayList") (by decide +kernel) rfl (Nat.le_of_ble_eq_true rfl) (fun E H0 F hE hv => ?_)
  show wx E H0 0 0 0 [(0, .ref lo), (1, .int 1)] []
  refine x_aload_n F dJx4a65c_grow_92f84_0 0 rfl rfl ?_
  refine x_get (v := .ref G.2.2.1.1) (C := "java/util/ArrayList") (T := TJx4a65c) (N := 3) F hv rfl (j := 1) (by decide) inAL mw_69 (Or.inl rfl) rfl dJx4a65c_grow_92f84_1 ?_
  refine x_alenE F dJx4a65c_grow_92f84_4 ?_
  refine x_istore_n (lv' := [(2, .int 0), (0, .ref lo), (1, .int 1)]) F dJx4a65c_grow_92f84_5 rfl (by decide) rfl ?_
  refine x_iload_n F dJx4a65c_grow_92f84_6 0 rfl rfl ?_
  refine x_if_gt F dJx4a65c_grow_92f84_7 (tgt := 20) (by decide) (fun h1 => absurd h1 ((by decide))) (fun _ => ?_)
  refine x_aload_n F dJx4a65c_grow_92f84_10 1 rfl rfl ?_
  refine x_get (v := .ref G.2.2.1.1) (C := "java/util/ArrayList") (T := TJx4a65c) (N := 3) F hv rfl (j := 1) (by decide) inAL mw_69 (Or.inl rfl) rfl dJx4a65c_grow_92f84_11 ?_
  refine x_getsE F mw_67 dJx4a65c_grow_92f84_14 ?_
  refine x_acmp_eq (rx := some G.2.2.1.1) (ry := some G.2.2.1.1) F dJx4a65c_grow_92f84_17 (tgt := 45) (by decide) (fun _ => ?_) (fun h => absurd rfl h)
  refine x_aload_n F dJx4a65c_grow_92f84_45 1 rfl rfl ?_
  refine x_bipush (v := 10) F rfl dJx4a65c_grow_92f84_46 ?_
  refine x_iload_n F dJx4a65c_grow_92f84_48 2 rfl rfl ?_
  refine x_mmax F mw_395 mw_362 mw_39 mw_363 (Nat.le_of_ble_eq_true rfl) (Nat.le_of_ble_eq_true rfl) (Nat.le_of_ble_eq_true rfl) (Nat.le_of_ble_eq_true rfl) dJx4a65c_grow_92f84_49 ?_
  refine wx_i (y := 10) ((by decide)) ?_
  refine x_newq (z := 10) (N' := 10) F mw_396 (by decide) rfl (by decide) (Nat.le_of_ble_eq_true rfl) (Nat.le_of_ble_eq_true rfl) dJx4a65c_grow_92f84_52 (fun H1 hq hn1 => ?_)
  have hv1 : vt G lo (oL mo G.2.2.1.1 0) H1 := hv.kept (hn1.2 _ hv.lt)
  have hqlo : H0.size ≠ lo := Nat.ne_of_gt hv.lt
  refine x_dup_x1 F dJx4a65c_grow_92f84_55 rfl rfl ?_
  refine x_put (C := "java/util/ArrayList") (T := TJx4a65c) (N := 3) F hv1 hA rfl (j := 1) (by decide) inAL tyJx4a65c tyJx4a65c_ok nmJx4a65c mw_69 (Or.inl rfl) rfl rfl rfl rfl (Nat.le_of_ble_eq_true rfl) dJx4a65c_grow_92f84_56 (fun H2 hv1' hs_H2 => ?_)
  exact x_aret F (Or.inr ⟨_, rfl⟩) (Or.inr ⟨_, rfl⟩) hE dJx4a65c_grow_92f84_59 (Nat.le_of_ble_eq_true rfl) (Nat.le_of_ble_eq_true rfl) (⟨H0.size, rfl, Nat.le_refl _, hv1', hq.kept (hs_H2.2 _ hqlo)⟩)
set_option maxHeartbeats 4000000 in
set_option maxRecDepth 100000 in
theorem c_grow0F (l : Launch) (G : GT) (A : Nat → Prop) (lo b n : Nat) (mo : Int32) (f : Nat → Option Nat) (hn : 2 ≤ n) (hn2 : n ≤ 200) (hA : A lo) (hAb : A b) (hlb : lo ≠ b) : Ct l yJx4a65c_grow_d5877 cJx4a65c_grow_d5877 1 (some (.array (.object "java/lang/Object"))) ({ frames := 4, cells := 1, slots := 300, locals := 107 } : Room) G A [.ref lo] (fun H => vt G lo (oL mo b n) H ∧ vt G b (aO G n f) H ∧ ∀ i, i < n → ∀ y, f i = some y → ob G y H) (fun H r H1 => ∃ q, r = some (.ref q) ∧ H.size ≤ q ∧ vt G lo (oL mo q n) H1 ∧ vt G q (aO G (n + n / 2) (fun i => if i < n then f i else none)) H1) := by
  refine ct_of (own := "java/util/ArrayList") (by decide +kernel) rfl (Nat.le_of_ble_eq_true rfl) (fun E H0 F hE hp => ?_)
  obtain ⟨hv, hb, hob⟩ := hp
  show wx E H0 0 0 0 [(0, .ref lo)] []
  refine x_aload_n F dJx4a65c_grow_d5877_0 0 rfl rfl ?_
  refine x_aload_n F dJx4a65c_grow_d5877_1 0 rfl rfl ?_
  refine x_get (v := .int (nI n)) (C := "java/util/ArrayList") (T := TJx4a65c) (N := 3) F hv rfl (j := 2) (by decide) inAL mw_70 (Or.inl rfl) rfl dJx4a65c_grow_d5877_2 ?_
  refine x_iconst (v := 1) F rfl dJx4a65c_grow_d5877_5 ?_
  refine x_iadd F dJx4a65c_grow_d5877_6 ?_
  refine wx_i (y := nI (n + 1)) (nI_1 n) ?_
  refine x_callVs (rest := []) F hv rfl (c_growF l G A lo b n mo f hn hn2 hA hAb hlb) k_ArrayList_69 ⟨⟨(Nat.le_of_ble_eq_true rfl), (Nat.le_of_ble_eq_true rfl)⟩, (Nat.le_of_ble_eq_true rfl), (Nat.le_of_ble_eq_true rfl)⟩ dJx4a65c_grow_d5877_7 rfl rfl (Nat.le_of_ble_eq_true rfl) ⟨hv, hb, hob⟩ ?_
  rintro _ H1 ⟨q, rfl, hq0, hv1, hq⟩ hz1 hk1
  exact x_aret F (Or.inr ⟨_, rfl⟩) (Or.inr ⟨_, rfl⟩) hE dJx4a65c_grow_d5877_10 (Nat.le_of_ble_eq_true rfl) (Nat.le_of_ble_eq_true rfl) (⟨q, rfl, hq0, hv1, hq⟩)
set_option maxHeartbeats 4000000 in
set_option maxRecDepth 100000 in
theorem c_grow0E (l : Launch) (G : GT) (A : Nat → Prop) (lo : Nat) (mo : Int32) (hA : A lo) : Ct l yJx4a65c_grow_d5877 cJx4a65c_grow_d5877 1 (some (.array (.object "java/lang/Object"))) ({ frames := 4, cells := 1, slots := 300, locals := 107 } : Room) G A [.ref lo] (fun H => vt G lo (oL mo G.2.2.1.1 0) H) (fun H r H1 => ∃ q, r = some (.ref q) ∧ H.size ≤ q ∧ vt G lo (oL mo q 0) H1 ∧ vt G q (aO G 10 (fun _ => none)) H1) := by
  refine ct_of (own := "java/util/ArrayList") (by decide +kernel) rfl (Nat.le_of_ble_eq_true rfl) (fun E H0 F hE hv => ?_)
  show wx E H0 0 0 0 [(0, .ref lo)] []
  refine x_aload_n F dJx4a65c_grow_d5877_0 0 rfl rfl ?_
  refine x_aload_n F dJx4a65c_grow_d5877_1 0 rfl rfl ?_
  refine x_get (v := .int (nI 0)) (C := "java/util/ArrayList") (T := TJx4a65c) (N := 3) F hv rfl (j := 2) (by decide) inAL mw_70 (Or.inl rfl) rfl dJx4a65c_grow_d5877_2 ?_
  refine x_iconst (v := 1) F rfl dJx4a65c_grow_d5877_5 ?_
  refine x_iadd F dJx4a65c_grow_d5877_6 ?_
  refine wx_i (y := 1) ((by decide)) ?_
  refine x_callVs (rest := []) F hv rfl (c_growE l G A lo mo hA) k_ArrayList_69 ⟨⟨(Nat.le_of_ble_eq_true rfl), (Nat.le_of_ble_eq_true rfl)⟩, (Nat.le_of_ble_eq_true rfl), (Nat.le_of_ble_eq_true rfl)⟩ dJx4a65c_grow_d5877_7 rfl rfl (Nat.le_of_ble_eq_true rfl) hv ?_
  rintro _ H1 ⟨q, rfl, hq0, hv1, hq⟩ hz1 hk1
  exact x_aret F (Or.inr ⟨_, rfl⟩) (Or.inr ⟨_, rfl⟩) hE dJx4a65c_grow_d5877_10 (Nat.le_of_ble_eq_true rfl) (Nat.le_of_ble_eq_true rfl) (⟨q, rfl, hq0, hv1, hq⟩)
set_option maxHeartbeats 4000000 in
set_option maxRecDepth 100000 in
theorem c_add3F (l : Launch) (G : GT) (A : Nat → Prop) (lo b e cap : Nat) (mo : Int32) (f : Nat → Option Nat) (h2 : 2 ≤ cap) (hc : cap ≤ 200) (hA : A lo) (hAb : A b) (hlb : lo ≠ b) (heA : ¬ A e) : Ct l yJx4a65c_add_72be8 cJx4a65c_add_72be8 4 none ({ frames := 5, cells := 1, slots := 300, locals := 127 } : Room) G A [.ref lo, .ref e, .ref b, .int (nI cap)] (fun H => vt G lo (oL mo b cap) H ∧ vt G b (aO G cap f) H ∧ (∀ i, i < cap → ∀ y, f i = some y → ob G y H) ∧ ob G e H) (fun H r H1 => r = none ∧ ∃ q, H.size ≤ q ∧ vt G lo (oL mo q (cap + 1)) H1 ∧ vt G q (aO G (cap + cap / 2) (va_up (fun i => if i < cap then f i else none) cap (some e))) H1) := by
  refine ct_of (own := "java/util/ArrayList") (by decide +kernel) rfl (Nat.le_of_ble_eq_true rfl) (fun E H0 F hE hp => ?_)
  obtain ⟨hv, hb, hob, he⟩ := hp
  refine fr_of F fun hA0 => ?_
  show wx E H0 0 0 0 [(0, .ref lo), (1, .ref e), (2, .ref b), (3, .int (nI cap))] []
  refine x_iload_n F dJx4a65c_add_72be8_0 3 rfl rfl ?_
  refine x_aload_n F dJx4a65c_add_72be8_1 2 rfl rfl ?_
  refine x_alen (v := nI cap) F hb hAq rfl dJx4a65c_add_72be8_2 ?_
  refine x_icmp_ne F dJx4a65c_add_72be8_3 (tgt := 11) (by decide) (fun h1 => absurd (rfl) h1) (fun _ => ?_)
  refine x_aload_n F dJx4a65c_add_72be8_6 0 rfl rfl ?_
  refine x_callVs (rest := []) F hv rfl (c_grow0F l G A lo b cap mo f (by omega) hc hA hAb hlb) k_ArrayList_129 ⟨⟨(Nat.le_of_ble_eq_true rfl), (Nat.le_of_ble_eq_true rfl)⟩, (Nat.le_of_ble_eq_true rfl), (Nat.le_of_ble_eq_true rfl)⟩ dJx4a65c_add_72be8_7 rfl rfl (Nat.le_of_ble_eq_true rfl) ⟨hv, hb, hob⟩ ?_
  rintro _ H1 ⟨q, rfl, hq0, hv1, hq⟩ hz1 hk1
  have hqlo : lo ≠ q := Nat.ne_of_lt (Nat.lt_of_lt_of_le hv.lt hq0)
  have he1 : ob G e H1 := he.kept (hk1 e he.lt heA)
  refine fr_of F fun hfr => ?_
  have hAq2 : A q := hA0 q hq0
  refine x_astore_n (lv' := [(2, .ref q), (0, .ref lo), (1, .ref e), (3, .int (nI cap))]) F dJx4a65c_add_72be8_10 rfl (by decide) rfl ?_
  refine x_aload_n F dJx4a65c_add_72be8_11 0 rfl rfl ?_
  refine x_iload_n F dJx4a65c_add_72be8_12 3 rfl rfl ?_
  refine x_aload_n F dJx4a65c_add_72be8_13 2 rfl rfl ?_
  refine x_aast F hq hAq2 (vp_in_nI (by omega) (by omega)) (fun s hs => he1.any hs) dJx4a65c_add_72be8_14 (fun H2 hb2 hs2 => ?_)
  have hv2 : vt G lo (oL mo q cap) H2 := hv1.kept (hs2.2 _ hqlo)
  rw [nI_clamp (by omega)] at hb2
  refine x_aload_n F dJx4a65c_add_72be8_15 1 rfl rfl ?_
  refine x_iload_n F dJx4a65c_add_72be8_16 3 rfl rfl ?_
  refine x_iconst (v := 1) F rfl dJx4a65c_add_72be8_17 ?_
  refine x_iadd F dJx4a65c_add_72be8_18 ?_
  refine wx_i (y := nI (cap + 1)) (nI_1 _) ?_
  refine x_put (C := "java/util/ArrayList") (T := TJx4a65c) (N := 3) F hv2 hA rfl (j := 2) (by decide) inAL tyJx4a65c tyJx4a65c_ok nmJx4a65c mw_70 (Or.inl rfl) rfl rfl rfl rfl (Nat.le_of_ble_eq_true rfl) dJx4a65c_add_72be8_19 (fun H3 hv2' hs_H3 => ?_)
  exact x_vret F hE dJx4a65c_add_72be8_22 (Nat.le_of_ble_eq_true rfl) (Nat.le_of_ble_eq_true rfl) (⟨rfl, q, hq0, hv2', hb2.kept (hs_H3.2 _ (Ne.symm hqlo))⟩)
set_option maxHeartbeats 4000000 in
set_option maxRecDepth 100000 in
theorem c_add3E (l : Launch) (G : GT) (A : Nat → Prop) (lo e : Nat) (mo : Int32) (hA : A lo) (heA : ¬ A e) : Ct l yJx4a65c_add_72be8 cJx4a65c_add_72be8 4 none ({ frames := 5, cells := 1, slots := 300, locals := 127 } : Room) G A [.ref lo, .ref e, .ref G.2.2.1.1, .int (nI 0)] (fun H => vt G lo (oL mo G.2.2.1.1 0) H ∧ ob G e H) (fun H r H1 => r = none ∧ ∃ q, H.size ≤ q ∧ vt G lo (oL mo q 1) H1 ∧ vt G q (aO G 10 (va_up (fun _ => none) 0 (some e))) H1) := by
  refine ct_of (own := "java/util/ArrayList") (by decide +kernel) rfl (Nat.le_of_ble_eq_true rfl) (fun E H0 F hE hp => ?_)
  obtain ⟨hv, he⟩ := hp
  refine fr_of F fun hA0 => ?_
  show wx E H0 0 0 0 [(0, .ref lo), (1, .ref e), (2, .ref G.2.2.1.1), (3, .int (nI 0))] []
  refine x_iload_n F dJx4a65c_add_72be8_0 3 rfl rfl ?_
  refine x_aload_n F dJx4a65c_add_72be8_1 2 rfl rfl ?_
  refine x_alenE F dJx4a65c_add_72be8_2 ?_
  refine x_icmp_ne F dJx4a65c_add_72be8_3 (tgt := 11) (by decide) (fun h1 => absurd (rfl) h1) (fun _ => ?_)
  refine x_aload_n F dJx4a65c_add_72be8_6 0 rfl rfl ?_
  refine x_callVs (rest := []) F hv rfl (c_grow0E l G A lo mo hA) k_ArrayList_129 ⟨⟨(Nat.le_of_ble_eq_true rfl), (Nat.le_of_ble_eq_true rfl)⟩, (Nat.le_of_ble_eq_true rfl), (Nat.le_of_ble_eq_true rfl)⟩ dJx4a65c_add_72be8_7 rfl rfl (Nat.le_of_ble_eq_true rfl) hv ?_
  rintro _ H1 ⟨q, rfl, hq0, hv1, hq⟩ hz1 hk1
  have hqlo : lo ≠ q := Nat.ne_of_lt (Nat.lt_of_lt_of_le hv.lt hq0)
  have he1 : ob G e H1 := he.kept (hk1 e he.lt heA)
  refine fr_of F fun hfr => ?_
  have hAq2 : A q := hA0 q hq0
  refine x_astore_n (lv' := [(2, .ref q), (0, .ref lo), (1, .ref e), (3, .int (nI 0))]) F dJx4a65c_add_72be8_10 rfl (by decide) rfl ?_
  refine x_aload_n F dJx4a65c_add_72be8_11 0 rfl rfl ?_
  refine x_iload_n F dJx4a65c_add_72be8_12 3 rfl rfl ?_
  refine x_aload_n F dJx4a65c_add_72be8_13 2 rfl rfl ?_
  refine x_aast F hq hAq2 (vp_in_nI (by omega) (by omega)) (fun s hs => he1.any hs) dJx4a65c_add_72be8_14 (fun H2 hb2 hs2 => ?_)
  have hv2 : vt G lo (oL mo q 0) H2 := hv1.kept (hs2.2 _ hqlo)
  rw [nI_clamp (by omega)] at hb2
  refine x_aload_n F dJx4a65c_add_72be8_15 1 rfl rfl ?_
  refine x_iload_n F dJx4a65c_add_72be8_16 3 rfl rfl ?_
  refine x_iconst (v := 1) F rfl dJx4a65c_add_72be8_17 ?_
  refine x_iadd F dJx4a65c_add_72be8_18 ?_
  refine wx_i (y := nI (0 + 1)) (nI_1 _) ?_
  refine x_put (C := "java/util/ArrayList") (T := TJx4a65c) (N := 3) F hv2 hA rfl (j := 2) (by decide) inAL tyJx4a65c tyJx4a65c_ok nmJx4a65c mw_70 (Or.inl rfl) rfl rfl rfl rfl (Nat.le_of_ble_eq_true rfl) dJx4a65c_add_72be8_19 (fun H3 hv2' hs_H3 => ?_)
  exact x_vret F hE dJx4a65c_add_72be8_22 (Nat.le_of_ble_eq_true rfl) (Nat.le_of_ble_eq_true rfl) (⟨rfl, q, hq0, hv2', hb2.kept (hs_H3.2 _ (Ne.symm hqlo))⟩)
set_option maxHeartbeats 4000000 in
set_option maxRecDepth 100000 in
theorem c_add3N (l : Launch) (G : GT) (A : Nat → Prop) (lo b e n cap : Nat) (hn : n < cap) (mo : Int32) (f : Nat → Option Nat) (hc : cap ≤ 200) (hA : A lo) (hAb : A b) (hlb : lo ≠ b) : Ct l yJx4a65c_add_72be8 cJx4a65c_add_72be8 4 none ({ frames := 5, cells := 0, slots := 0, locals := 127 } : Room) G A [.ref lo, .ref e, .ref b, .int (nI n)] (fun H => vt G lo (oL mo b n) H ∧ vt G b (aO G cap f) H ∧ ob G e H) (fun H r H1 => r = none ∧ vt G lo (oL mo b (n + 1)) H1 ∧ vt G b (aO G cap (va_up f n (some e))) H1) := by
  refine ct_of (own := "java/util/ArrayList") (by decide +kernel) rfl (Nat.le_of_ble_eq_true rfl) (fun E H0 F hE hp => ?_)
  obtain ⟨hv, hb, he⟩ := hp
  have hne : n ≠ cap := Nat.ne_of_lt hn
  show wx E H0 0 0 0 [(0, .ref lo), (1, .ref e), (2, .ref b), (3, .int (nI n))] []
  refine x_iload_n F dJx4a65c_add_72be8_0 3 rfl rfl ?_
  refine x_aload_n F dJx4a65c_add_72be8_1 2 rfl rfl ?_
  refine x_alen (v := nI cap) F hb hAq rfl dJx4a65c_add_72be8_2 ?_
  refine x_icmp_ne F dJx4a65c_add_72be8_3 (tgt := 11) (by decide) (fun _ => ?_) (fun h1 => absurd h1 ((fun h => hne ((nI_eq (by omega) (by omega)).mp h))))
  refine x_aload_n F dJx4a65c_add_72be8_11 2 rfl rfl ?_
  refine x_iload_n F dJx4a65c_add_72be8_12 3 rfl rfl ?_
  refine x_aload_n F dJx4a65c_add_72be8_13 1 rfl rfl ?_
  refine x_aast F hb hAb (vp_in_nI (by omega) (by omega)) (fun s hs => he.any hs) dJx4a65c_add_72be8_14 (fun H2 hb2 hs2 => ?_)
  have hv2 : vt G lo (oL mo b n) H2 := hv.kept (hs2.2 _ hlb)
  rw [nI_clamp (by omega)] at hb2
  refine x_aload_n F dJx4a65c_add_72be8_15 0 rfl rfl ?_
  refine x_iload_n F dJx4a65c_add_72be8_16 3 rfl rfl ?_
  refine x_iconst (v := 1) F rfl dJx4a65c_add_72be8_17 ?_
  refine x_iadd F dJx4a65c_add_72be8_18 ?_
  refine wx_i (y := nI (n + 1)) (nI_1 _) ?_
  refine x_put (C := "java/util/ArrayList") (T := TJx4a65c) (N := 3) F hv2 hA rfl (j := 2) (by decide) inAL tyJx4a65c tyJx4a65c_ok nmJx4a65c mw_70 (Or.inl rfl) rfl rfl rfl rfl (Nat.le_of_ble_eq_true rfl) dJx4a65c_add_72be8_19 (fun H3 hv2' hs_H3 => ?_)
  exact x_vret F hE dJx4a65c_add_72be8_22 (Nat.le_of_ble_eq_true rfl) (Nat.le_of_ble_eq_true rfl) (⟨rfl, hv2', hb2.kept (hs_H3.2 _ (Ne.symm hlb))⟩)
set_option maxHeartbeats 4000000 in
set_option maxRecDepth 100000 in
theorem c_addE (l : Launch) (G : GT) (A : Nat → Prop) (lo e : Nat) (mo : Int32) (hA : A lo) (heA : ¬ A e) (heL : e ≠ lo) : Ct l yJx4a65c_add_9ea2d cJx4a65c_add_9ea2d 2 (some .boolean) ({ frames := 6, cells := 1, slots := 300, locals := 150 } : Room) G A [.ref lo, .ref e] (fun H => vt G lo (oL mo G.2.2.1.1 0) H ∧ ob G e H) (fun H r H1 => r = some (.int 1) ∧ ∃ q, H.size ≤ q ∧ vt G lo (oL (mo + 1) q 1) H1 ∧ vt G q (aO G 10 (va_up (fun _ => none) 0 (some e))) H1) := by
  refine ct_of (own := "java/util/ArrayList") (by decide +kernel) rfl (Nat.le_of_ble_eq_true rfl) (fun E H0 F hE hp => ?_)
  obtain ⟨hv, he⟩ := hp
  show wx E H0 0 0 0 [(0, .ref lo), (1, .ref e)] []
  refine x_aload_n F dJx4a65c_add_9ea2d_0 0 rfl rfl ?_
  refine x_dup F dJx4a65c_add_9ea2d_1 rfl ?_
  refine x_get (v := .int mo) (C := "java/util/ArrayList") (T := TJx4a65c) (N := 3) F hv rfl (j := 0) (by decide) inAL mw_72 (Or.inr mw_73) rfl dJx4a65c_add_9ea2d_2 ?_
  refine x_iconst (v := 1) F rfl dJx4a65c_add_9ea2d_5 ?_
  refine x_iadd F dJx4a65c_add_9ea2d_6 ?_
  refine x_put (C := "java/util/ArrayList") (T := TJx4a65c) (N := 3) F hv hA rfl (j := 0) (by decide) inAL tyJx4a65c tyJx4a65c_ok nmJx4a65c mw_72 (Or.inr mw_73) rfl rfl rfl rfl (Nat.le_of_ble_eq_true rfl) dJx4a65c_add_9ea2d_7 (fun H1 hv' hs_H1 => ?_)
  have he1 := he.kept (hs_H1.2 _ heL)
  refine x_aload_n F dJx4a65c_add_9ea2d_10 0 rfl rfl ?_
  refine x_aload_n F dJx4a65c_add_9ea2d_11 1 rfl rfl ?_
  refine x_aload_n F dJx4a65c_add_9ea2d_12 0 rfl rfl ?_
  refine x_get (v := .ref G.2.2.1.1) (C := "java/util/ArrayList") (T := TJx4a65c) (N := 3) F hv' rfl (j := 1) (by decide) inAL mw_69 (Or.inl rfl) rfl dJx4a65c_add_9ea2d_13 ?_
  refine x_aload_n F dJx4a65c_add_9ea2d_16 0 rfl rfl ?_
  refine x_get (v := .int (nI 0)) (C := "java/util/ArrayList") (T := TJx4a65c) (N := 3) F hv' rfl (j := 2) (by decide) inAL mw_70 (Or.inl rfl) rfl dJx4a65c_add_9ea2d_17 ?_
  refine x_callVs (rest := []) F hv' rfl (c_add3E l G A lo e (mo + 1) hA heA) k_ArrayList_131 ⟨⟨(Nat.le_of_ble_eq_true rfl), (Nat.le_of_ble_eq_true rfl)⟩, (Nat.le_of_ble_eq_true rfl), (Nat.le_of_ble_eq_true rfl)⟩ dJx4a65c_add_9ea2d_20 rfl rfl (Nat.le_of_ble_eq_true rfl) ⟨hv', he1⟩ ?_
  rintro _ H2 ⟨rfl, q, hq0, hv2, hq⟩ hz2 hk2
  refine x_iconst (v := 1) F rfl dJx4a65c_add_9ea2d_23 ?_
  exact x_zret F rfl hE dJx4a65c_add_9ea2d_24 (Nat.le_of_ble_eq_true rfl) (Nat.le_of_ble_eq_true rfl) (⟨rfl, q, by rw [← hs_H1.1]; exact hq0, hv2, hq⟩)
set_option maxHeartbeats 4000000 in
set_option maxRecDepth 100000 in
theorem c_addF (l : Launch) (G : GT) (A : Nat → Prop) (lo b e cap : Nat) (mo : Int32) (f : Nat → Option Nat) (h2 : 2 ≤ cap) (hc : cap ≤ 200) (hA : A lo) (hAb : A b) (hlb : lo ≠ b) (heA : ¬ A e) (heL : e ≠ lo) (hobA : ∀ i, i < cap → ∀ y, f i = some y → y ≠ lo) : Ct l yJx4a65c_add_9ea2d cJx4a65c_add_9ea2d 2 (some .boolean) ({ frames := 6, cells := 1, slots := 300, locals := 150 } : Room) G A [.ref lo, .ref e] (fun H => vt G lo (oL mo b cap) H ∧ vt G b (aO G cap f) H ∧ (∀ i, i < cap → ∀ y, f i = some y → ob G y H) ∧ ob G e H) (fun H r H1 => r = some (.int 1) ∧ ∃ q, H.size ≤ q ∧ vt G lo (oL (mo + 1) q (cap + 1)) H1 ∧ vt G q (aO G (cap + cap / 2) (va_up (fun i => if i < cap then f i else none) cap (some e))) H1) := by
  refine ct_of (own := "java/util/ArrayList") (by decide +kernel) rfl (Nat.le_of_ble_eq_true rfl) (fun E H0 F hE hp => ?_)
  obtain ⟨hv, hb, hob, he⟩ := hp
  show wx E H0 0 0 0 [(0, .ref lo), (1, .ref e)] []
  refine x_aload_n F dJx4a65c_add_9ea2d_0 0 rfl rfl ?_
  refine x_dup F dJx4a65c_add_9ea2d_1 rfl ?_
  refine x_get (v := .int mo) (C := "java/util/ArrayList") (T := TJx4a65c) (N := 3) F hv rfl (j := 0) (by decide) inAL mw_72 (Or.inr mw_73) rfl dJx4a65c_add_9ea2d_2 ?_
  refine x_iconst (v := 1) F rfl dJx4a65c_add_9ea2d_5 ?_
  refine x_iadd F dJx4a65c_add_9ea2d_6 ?_
  refine x_put (C := "java/util/ArrayList") (T := TJx4a65c) (N := 3) F hv hA rfl (j := 0) (by decide) inAL tyJx4a65c tyJx4a65c_ok nmJx4a65c mw_72 (Or.inr mw_73) rfl rfl rfl rfl (Nat.le_of_ble_eq_true rfl) dJx4a65c_add_9ea2d_7 (fun H1 hv' hs_H1 => ?_)
  have hb1 := hb.kept (hs_H1.2 _ (Ne.symm hlb))
  have hob1 : ∀ i, i < cap → ∀ y, f i = some y → ob G y H1 := fun i hi y hy => (hob i hi y hy).kept (hs_H1.2 _ (hobA i hi y hy))
  have he1 := he.kept (hs_H1.2 _ heL)
  refine x_aload_n F dJx4a65c_add_9ea2d_10 0 rfl rfl ?_
  refine x_aload_n F dJx4a65c_add_9ea2d_11 1 rfl rfl ?_
  refine x_aload_n F dJx4a65c_add_9ea2d_12 0 rfl rfl ?_
  refine x_get (v := .ref b) (C := "java/util/ArrayList") (T := TJx4a65c) (N := 3) F hv' rfl (j := 1) (by decide) inAL mw_69 (Or.inl rfl) rfl dJx4a65c_add_9ea2d_13 ?_
  refine x_aload_n F dJx4a65c_add_9ea2d_16 0 rfl rfl ?_
  refine x_get (v := .int (nI cap)) (C := "java/util/ArrayList") (T := TJx4a65c) (N := 3) F hv' rfl (j := 2) (by decide) inAL mw_70 (Or.inl rfl) rfl dJx4a65c_add_9ea2d_17 ?_
  refine x_callVs (rest := []) F hv' rfl (c_add3F l G A lo b e cap (mo + 1) f h2 hc hA hAb hlb heA) k_ArrayList_131 ⟨⟨(Nat.le_of_ble_eq_true rfl), (Nat.le_of_ble_eq_true rfl)⟩, (Nat.le_of_ble_eq_true rfl), (Nat.le_of_ble_eq_true rfl)⟩ dJx4a65c_add_9ea2d_20 rfl rfl (Nat.le_of_ble_eq_true rfl) ⟨hv', hb1, hob1, he1⟩ ?_
  rintro _ H2 ⟨rfl, q, hq0, hv2, hq⟩ hz2 hk2
  refine x_iconst (v := 1) F rfl dJx4a65c_add_9ea2d_23 ?_
  exact x_zret F rfl hE dJx4a65c_add_9ea2d_24 (Nat.le_of_ble_eq_true rfl) (Nat.le_of_ble_eq_true rfl) (⟨rfl, q, by rw [← hs_H1.1]; exact hq0, hv2, hq⟩)
set_option maxHeartbeats 4000000 in
set_option maxRecDepth 100000 in
theorem c_addN (l : Launch) (G : GT) (A : Nat → Prop) (lo b e n cap : Nat) (hn : n < cap) (mo : Int32) (f : Nat → Option Nat) (hc : cap ≤ 200) (hA : A lo) (hAb : A b) (hlb : lo ≠ b) (heL : e ≠ lo) : Ct l yJx4a65c_add_9ea2d cJx4a65c_add_9ea2d 2 (some .boolean) ({ frames := 6, cells := 0, slots := 0, locals := 150 } : Room) G A [.ref lo, .ref e] (fun H => vt G lo (oL mo b n) H ∧ vt G b (aO G cap f) H ∧ ob G e H) (fun H r H1 => r = some (.int 1) ∧ vt G lo (oL (mo + 1) b (n + 1)) H1 ∧ vt G b (aO G cap (va_up f n (some e))) H1) := by
  refine ct_of (own := "java/util/ArrayList") (by decide +kernel) rfl (Nat.le_of_ble_eq_true rfl) (fun E H0 F hE hp => ?_)
  obtain ⟨hv, hb, he⟩ := hp
  show wx E H0 0 0 0 [(0, .ref lo), (1, .ref e)] []
  refine x_aload_n F dJx4a65c_add_9ea2d_0 0 rfl rfl ?_
  refine x_dup F dJx4a65c_add_9ea2d_1 rfl ?_
  refine x_get (v := .int mo) (C := "java/util/ArrayList") (T := TJx4a65c) (N := 3) F hv rfl (j := 0) (by decide) inAL mw_72 (Or.inr mw_73) rfl dJx4a65c_add_9ea2d_2 ?_
  refine x_iconst (v := 1) F rfl dJx4a65c_add_9ea2d_5 ?_
  refine x_iadd F dJx4a65c_add_9ea2d_6 ?_
  refine x_put (C := "java/util/ArrayList") (T := TJx4a65c) (N := 3) F hv hA rfl (j := 0) (by decide) inAL tyJx4a65c tyJx4a65c_ok nmJx4a65c mw_72 (Or.inr mw_73) rfl rfl rfl rfl (Nat.le_of_ble_eq_true rfl) dJx4a65c_add_9ea2d_7 (fun H1 hv' hs_H1 => ?_)
  have hb1 := hb.kept (hs_H1.2 _ (Ne.symm hlb))
  have he1 := he.kept (hs_H1.2 _ heL)
  refine x_aload_n F dJx4a65c_add_9ea2d_10 0 rfl rfl ?_
  refine x_aload_n F dJx4a65c_add_9ea2d_11 1 rfl rfl ?_
  refine x_aload_n F dJx4a65c_add_9ea2d_12 0 rfl rfl ?_
  refine x_get (v := .ref b) (C := "java/util/ArrayList") (T := TJx4a65c) (N := 3) F hv' rfl (j := 1) (by decide) inAL mw_69 (Or.inl rfl) rfl dJx4a65c_add_9ea2d_13 ?_
  refine x_aload_n F dJx4a65c_add_9ea2d_16 0 rfl rfl ?_
  refine x_get (v := .int (nI n)) (C := "java/util/ArrayList") (T := TJx4a65c) (N := 3) F hv' rfl (j := 2) (by decide) inAL mw_70 (Or.inl rfl) rfl dJx4a65c_add_9ea2d_17 ?_
  refine x_callVs (rest := []) F hv' rfl (c_add3N l G A lo b e n cap hn (mo + 1) f hc hA hAb hlb) k_ArrayList_131 ⟨⟨(Nat.le_of_ble_eq_true rfl), (Nat.le_of_ble_eq_true rfl)⟩, (Nat.le_of_ble_eq_true rfl), (Nat.le_of_ble_eq_true rfl)⟩ dJx4a65c_add_9ea2d_20 rfl rfl (Nat.le_of_ble_eq_true rfl) ⟨hv', hb1, he1⟩ ?_
  rintro _ H2 ⟨rfl, hv2, hq⟩ hz2 hk2
  refine x_iconst (v := 1) F rfl dJx4a65c_add_9ea2d_23 ?_
  exact x_zret F rfl hE dJx4a65c_add_9ea2d_24 (Nat.le_of_ble_eq_true rfl) (Nat.le_of_ble_eq_true rfl) (⟨rfl, hv2, hq⟩)
set_option maxHeartbeats 4000000 in
set_option maxRecDepth 100000 in
theorem c_fastRem (l : Launch) (G : GT) (A : Nat → Prop) (lo b n cap i : Nat) (mo : Int32) (f : Nat → Option Nat) (hi : i ≤ n) (hn : n < cap) (hc : cap ≤ 200) (hA : A lo) (hAb : A b) (hlb : lo ≠ b) (hobA : ∀ i, i < cap → ∀ y, f i = some y → y ≠ lo) : Ct l yJx4a65c_fastRemove_b59b0 cJx4a65c_fastRemove_b59b0 4 none ({ frames := 1, cells := 0, slots := 0, locals := 40 } : Room) G A [.ref lo, .ref b, .int (nI i)] (fun H => vt G lo (oL mo b (n + 1)) H ∧ vt G b (aO G cap f) H ∧ (∀ i, i < cap → ∀ y, f i = some y → ob G y H)) (fun H r H1 => r = none ∧ vt G lo (oL (mo + 1) b n) H1 ∧ vt G b (aO G cap (rmf f n i)) H1) := by
  refine ct_of (own := "java/util/ArrayList") (by decide +kernel) rfl (Nat.le_of_ble_eq_true rfl) (fun E H0 F hE hp => ?_)
  obtain ⟨hv, hb, hob⟩ := hp
  show wx E H0 0 0 0 [(0, .ref lo), (1, .ref b), (2, .int (nI i))] []
  refine x_aload_n F dJx4a65c_fastRemove_b59b0_0 0 rfl rfl ?_
  refine x_dup F dJx4a65c_fastRemove_b59b0_1 rfl ?_
  refine x_get (v := .int mo) (C := "java/util/ArrayList") (T := TJx4a65c) (N := 3) F hv rfl (j := 0) (by decide) inAL mw_72 (Or.inr mw_73) rfl dJx4a65c_fastRemove_b59b0_2 ?_
  refine x_iconst (v := 1) F rfl dJx4a65c_fastRemove_b59b0_5 ?_
  refine x_iadd F dJx4a65c_fastRemove_b59b0_6 ?_
  refine x_put (C := "java/util/ArrayList") (T := TJx4a65c) (N := 3) F hv hA rfl (j := 0) (by decide) inAL tyJx4a65c tyJx4a65c_ok nmJx4a65c mw_72 (Or.inr mw_73) rfl rfl rfl rfl (Nat.le_of_ble_eq_true rfl) dJx4a65c_fastRemove_b59b0_7 (fun H1 hv' hs_H1 => ?_)
  have hb1 := hb.kept (hs_H1.2 _ (Ne.symm hlb))
  refine x_aload_n F dJx4a65c_fastRemove_b59b0_10 0 rfl rfl ?_
  refine x_get (v := .int (nI (n + 1))) (C := "java/util/ArrayList") (T := TJx4a65c) (N := 3) F hv' rfl (j := 2) (by decide) inAL mw_70 (Or.inl rfl) rfl dJx4a65c_fastRemove_b59b0_11 ?_
  refine x_iconst (v := 1) F rfl dJx4a65c_fastRemove_b59b0_14 ?_
  refine x_isub F dJx4a65c_fastRemove_b59b0_15 ?_
  refine wx_i (y := nI n) (nI_pred n) ?_
  refine x_dup F dJx4a65c_fastRemove_b59b0_16 rfl ?_
  refine x_istore_n (lv' := [(3, .int (nI n)), (0, .ref lo), (1, .ref b), (2, .int (nI i))]) F dJx4a65c_fastRemove_b59b0_17 rfl (by decide) rfl ?_
  refine x_iload_n F dJx4a65c_fastRemove_b59b0_18 3 rfl rfl ?_
  refine x_icmp_le F dJx4a65c_fastRemove_b59b0_19 (tgt := 34) (by decide) (fun h => ?_) (fun h => ?_)
  · have hin : n = i := by have := (nI_leI (by omega) (by omega)).mp h; omega
    have hb2 : vt G b (aO G cap (va_up (rmf f n i) n none)) H1 → True := fun _ => trivial
    refine x_aload_n F dJx4a65c_fastRemove_b59b0_34 2 rfl rfl ?_
    refine x_aload_n F dJx4a65c_fastRemove_b59b0_35 1 rfl rfl ?_
    refine x_iload_n F dJx4a65c_fastRemove_b59b0_36 0 rfl rfl ?_
    refine x_dup_x1 F dJx4a65c_fastRemove_b59b0_37 rfl rfl ?_
    refine x_put (C := "java/util/ArrayList") (T := TJx4a65c) (N := 3) F hv' hA rfl (j := 2) (by decide) inAL tyJx4a65c tyJx4a65c_ok nmJx4a65c mw_70 (Or.inl rfl) rfl rfl rfl rfl (Nat.le_of_ble_eq_true rfl) dJx4a65c_fastRemove_b59b0_38 (fun H3 hv3 hs3 => ?_)
    have hb3 := hb1.kept (hs3.2 _ (Ne.symm hlb))
    refine x_null F dJx4a65c_fastRemove_b59b0_41 ?_
    refine x_aastN F hb3 hAb (vp_in_nI (by omega) (by omega)) dJx4a65c_fastRemove_b59b0_42 (fun H4 hb4 hs4 => ?_)
    rw [nI_clamp (by omega)] at hb4
    exact x_vret F hE dJx4a65c_fastRemove_b59b0_43 (Nat.le_of_ble_eq_true rfl) (Nat.le_of_ble_eq_true rfl) (⟨rfl, hv3.kept (hs4.2 _ hlb), by rw [rmf_eq hin] ; exact hb4⟩)
  · have hin : i < n := Nat.lt_of_not_le (fun q => h (nI_le q (by omega)))
    refine x_aload_n F dJx4a65c_fastRemove_b59b0_22 2 rfl rfl ?_
    refine x_iload_n F dJx4a65c_fastRemove_b59b0_23 3 rfl rfl ?_
    refine x_iconst (v := 1) F rfl dJx4a65c_fastRemove_b59b0_24 ?_
    refine x_iadd F dJx4a65c_fastRemove_b59b0_25 ?_
    refine wx_i (y := nI (i + 1)) (nI_1 i) ?_
    refine x_aload_n F dJx4a65c_fastRemove_b59b0_26 2 rfl rfl ?_
    refine x_iload_n F dJx4a65c_fastRemove_b59b0_27 3 rfl rfl ?_
    refine x_iload_n F dJx4a65c_fastRemove_b59b0_28 0 rfl rfl ?_
    refine x_iload_n F dJx4a65c_fastRemove_b59b0_29 3 rfl rfl ?_
    refine x_isub F dJx4a65c_fastRemove_b59b0_30 ?_
    refine wx_i (y := nI (n - i)) (pk_sub (by omega)) ?_
    refine x_copyq F mw_442 mw_394 mw_393 mw_41 (ws := [(lo, oL (mo + 1) b (n + 1)), (b, aO G cap f)]) (wp2 hv' hb1) (ad2 hlb hA hAb) 1 1 rfl rfl (nI_pos (by omega)) (nI_pos (by omega)) (nI_pos (by omega)) (by rw [nI_clamp (by omega), nI_clamp (by omega)]; omega) (by rw [nI_clamp (by omega), nI_clamp (by omega)]; omega) (fun s hs j hj y hy => ?_) (Nat.le_of_ble_eq_true rfl) (Nat.le_of_ble_eq_true rfl) dJx4a65c_fastRemove_b59b0_31 (fun H2 hP2 hD2 => ?_)
    · rw [nI_clamp (by omega)] at hj hy
      exact ((hob (i + 1 + j) (by omega) y hy).kept (hs_H1.2 _ (hobA (i + 1 + j) (by omega) y hy))).any hs
    · have hv2 : vt G lo (oL (mo + 1) b (n + 1)) H2 := hP2 0 _ rfl
      have hb2 : vt G b (aO G cap (va_cpy f f (i + 1) i (n - i))) H2 := by
        have h2 := hP2 1 _ rfl
        rw [nI_clamp (by omega), nI_clamp (by omega), nI_clamp (by omega)] at h2
        exact h2
      refine x_aload_n F dJx4a65c_fastRemove_b59b0_34 2 rfl rfl ?_
      refine x_aload_n F dJx4a65c_fastRemove_b59b0_35 1 rfl rfl ?_
      refine x_iload_n F dJx4a65c_fastRemove_b59b0_36 0 rfl rfl ?_
      refine x_dup_x1 F dJx4a65c_fastRemove_b59b0_37 rfl rfl ?_
      refine x_put (C := "java/util/ArrayList") (T := TJx4a65c) (N := 3) F hv2 hA rfl (j := 2) (by decide) inAL tyJx4a65c tyJx4a65c_ok nmJx4a65c mw_70 (Or.inl rfl) rfl rfl rfl rfl (Nat.le_of_ble_eq_true rfl) dJx4a65c_fastRemove_b59b0_38 (fun H3 hv3 hs3 => ?_)
      have hb3 := hb2.kept (hs3.2 _ (Ne.symm hlb))
      refine x_null F dJx4a65c_fastRemove_b59b0_41 ?_
      refine x_aastN F hb3 hAb (vp_in_nI (by omega) (by omega)) dJx4a65c_fastRemove_b59b0_42 (fun H4 hb4 hs4 => ?_)
      rw [nI_clamp (by omega)] at hb4
      exact x_vret F hE dJx4a65c_fastRemove_b59b0_43 (Nat.le_of_ble_eq_true rfl) (Nat.le_of_ble_eq_true rfl) (⟨rfl, hv3.kept (hs4.2 _ hlb), by rw [rmf_lt hin] ; exact hb4⟩)
set_option maxHeartbeats 4000000 in
set_option maxRecDepth 100000 in
theorem c_lremove (l : Launch) (G : GT) (A : Nat → Prop) (lo b n cap i e : Nat) (mo : Int32) (f : Nat → Option Nat) (he : f i = some e) (hi : i ≤ n) (hn : n < cap) (hc : cap ≤ 200) (hA : A lo) (hAb : A b) (hlb : lo ≠ b) (hobA : ∀ i, i < cap → ∀ y, f i = some y → y ≠ lo) : Ct l yJx4a65c_remove_915e3 cJx4a65c_remove_915e3 4 (some (.object "java/lang/Object")) ({ frames := 2, cells := 0, slots := 0, locals := 63 } : Room) G A [.ref lo, .int (nI i)] (fun H => vt G lo (oL mo b (n + 1)) H ∧ vt G b (aO G cap f) H ∧ (∀ i, i < cap → ∀ y, f i = some y → ob G y H)) (fun H r H1 => r = some (.ref e) ∧ vt G lo (oL (mo + 1) b n) H1 ∧ vt G b (aO G cap (rmf f n i)) H1) := by
  refine ct_of (own := "java/util/ArrayList") (by decide +kernel) rfl (Nat.le_of_ble_eq_true rfl) (fun E H0 F hE hp => ?_)
  obtain ⟨hv, hb, hob⟩ := hp
  show wx E H0 0 0 0 [(0, .ref lo), (1, .int (nI i))] []
  refine x_iload_n F dJx4a65c_remove_915e3_0 1 rfl rfl ?_
  refine x_aload_n F dJx4a65c_remove_915e3_1 0 rfl rfl ?_
  refine x_get (v := .int (nI (n + 1))) (C := "java/util/ArrayList") (T := TJx4a65c) (N := 3) F hv rfl (j := 2) (by decide) inAL mw_70 (Or.inl rfl) rfl dJx4a65c_remove_915e3_2 ?_
  refine x_callSp (rest := []) F (c_chk2 l G A (nI i) (nI (n + 1)) (nI_pos (by omega)) (nI_lt (by omega) (by omega))) k_ArrayList_118 ⟨(Nat.le_of_ble_eq_true rfl), (Nat.le_of_ble_eq_true rfl), rfl, rfl⟩ (Nat.le_of_ble_eq_true rfl) (Nat.le_of_ble_eq_true rfl) dJx4a65c_remove_915e3_5 rfl rfl (Nat.le_of_ble_eq_true rfl) trivial ?_
  refine x_pop F dJx4a65c_remove_915e3_8 rfl ?_
  refine x_aload_n F dJx4a65c_remove_915e3_9 0 rfl rfl ?_
  refine x_get (v := .ref b) (C := "java/util/ArrayList") (T := TJx4a65c) (N := 3) F hv rfl (j := 1) (by decide) inAL mw_69 (Or.inl rfl) rfl dJx4a65c_remove_915e3_10 ?_
  refine x_astore_n (lv' := [(2, .ref b), (0, .ref lo), (1, .int (nI i))]) F dJx4a65c_remove_915e3_13 rfl (by decide) rfl ?_
  refine x_aload_n F dJx4a65c_remove_915e3_14 0 rfl rfl ?_
  refine x_iload_n F dJx4a65c_remove_915e3_15 2 rfl rfl ?_
  refine x_aald F hb (vp_in_nI (by omega) (by omega)) dJx4a65c_remove_915e3_16 ?_
  rw [nI_clamp (by omega), he]
  show wx E H0 0 0 17 [(2, .ref b), (0, .ref lo), (1, .int (nI i))] [.ref e]
  refine x_astore_n (lv' := [(3, .ref e), (2, .ref b), (0, .ref lo), (1, .int (nI i))]) F dJx4a65c_remove_915e3_17 rfl (by decide) rfl ?_
  refine x_aload_n F dJx4a65c_remove_915e3_18 2 rfl rfl ?_
  refine x_aload_n F dJx4a65c_remove_915e3_19 1 rfl rfl ?_
  refine x_iload_n F dJx4a65c_remove_915e3_20 3 rfl rfl ?_
  refine x_callVs (rest := []) F hv rfl (c_fastRem l G A lo b n cap i mo f hi hn hc hA hAb hlb hobA) k_ArrayList_144 ⟨⟨(Nat.le_of_ble_eq_true rfl), (Nat.le_of_ble_eq_true rfl)⟩, (Nat.le_of_ble_eq_true rfl), (Nat.le_of_ble_eq_true rfl)⟩ dJx4a65c_remove_915e3_21 rfl rfl (Nat.le_of_ble_eq_true rfl) ⟨hv, hb, hob⟩ ?_
  rintro _ H1 ⟨rfl, hv1, hb1⟩ hz1 hk1
  refine x_aload_n F dJx4a65c_remove_915e3_24 0 rfl rfl ?_
  exact x_aret F (Or.inl ⟨_, rfl⟩) (Or.inr ⟨_, rfl⟩) hE dJx4a65c_remove_915e3_25 (Nat.le_of_ble_eq_true rfl) (Nat.le_of_ble_eq_true rfl) (⟨rfl, hv1, hb1⟩)
end LI
