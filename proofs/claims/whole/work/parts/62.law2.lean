/-! the law's calls, one by one -/
section LW2
variable {L : Launch} {rm r2 : Room} {G : GT} {A A1 : Nat → Prop} {H0 : Heap} {n0 : Nat} {cc bytes : ByteArray} {own : String} {E : WE} {H H1 : Heap} {k n pc maxL nA idx : Nat} {lv lv' : List (Nat × Value)} {st rest As : List Value}
/-- the script -/
def sX (b N : Nat) (xs : Nat → Int32) : WE → Prop
  | (_, _, _, _, s, _, _, _, _, _, _, _, _) => va_X b N xs s s.heap ∧ b < s.heap.size
theorem x_sld (F : fx L rm G A H0 n0 cc own E) {b N : Nat} {xs : Nat → Int32} (hX : sX b N xs E) (hbA : ¬ A b) {i v : Int32} (hin : vp_in i N) (hv : xs i.toNatClampNeg = v) (hd : decode cc pc = .ok (.iaload, 1)) (kk : wx E H k n (pc + 1) lv (.int v :: st)) : wx E H k n pc lv (.int i :: .ref b :: st) := by
  obtain ⟨p, l, e, R, s, m, args, below, meth, c, A1, nL, Q⟩ := E
  obtain ⟨⟨hx, hb, hml, hown, hts⟩, hL, hR, hAA, hH0, hnL, hKt, hKh, hfr, hlk⟩ := F
  subst hAA hv
  intro locs ls hS hl2
  exact va_sld hx hb hX.1 hX.2 hbA hS hin hd (kk locs ls hS hl2)
theorem x_slen (F : fx L rm G A H0 n0 cc own E) {b N : Nat} {xs : Nat → Int32} (hX : sX b N xs E) (hbA : ¬ A b) (hd : decode cc pc = .ok (.arraylength, 1)) (kk : wx E H k n (pc + 1) lv (.int (Int32.ofNat N) :: st)) : wx E H k n pc lv (.ref b :: st) := by
  obtain ⟨p, l, e, R, s, m, args, below, meth, c, A1, nL, Q⟩ := E
  obtain ⟨⟨hx, hb, hml, hown, hts⟩, hL, hR, hAA, hH0, hnL, hKt, hKh, hfr, hlk⟩ := F
  subst hAA
  intro locs ls hS hl2
  exact va_slen hx hb hX.1 hX.2 hbA hS hd (kk locs ls hS hl2)
theorem sadd_1 (i : Nat) : nI i + 1 = nI (i + 1) := by rw [show (1 : Int32) = nI 1 by decide, nI_add]
theorem sadd_2 (i : Nat) : nI i + 2 = nI (i + 2) := by rw [show (2 : Int32) = nI 2 by decide, nI_add]
theorem sadd_3 (i : Nat) : nI i + 3 = nI (i + 3) := by rw [show (3 : Int32) = nI 3 by decide, nI_add]
theorem sadd_4 (i : Nat) : nI i + 4 = nI (i + 4) := by rw [show (4 : Int32) = nI 4 by decide, nI_add]
theorem sadd_5 (i : Nat) : nI i + 5 = nI (i + 5) := by rw [show (5 : Int32) = nI 5 by decide, nI_add]
theorem lcmp0 (x : Int64) : lg_cmp x x = 0 := by
  unfold lg_cmp
  rw [if_neg (fun h => Int64.lt_irrefl h), if_pos rfl]
theorem wA_0 {k : Nat} (h : wA k = 0) : k = 0 := by
  match k with
  | 0 => rfl
  | 1 => exact absurd h (by decide)
  | 2 => exact absurd h (by decide)
  | k + 3 => exact absurd h (by show ¬ (9 : Int32) = 0; decide)
theorem wB_0 {k : Nat} (h : wB k = 0) : k = 0 := by
  match k with
  | 0 => rfl
  | 1 => exact absurd h (by decide)
  | 2 => exact absurd h (by decide)
  | 3 => exact absurd h (by decide)
  | k + 4 => exact absurd h (by show ¬ (9 : Int32) = 0; decide)
theorem wC_0 {k : Nat} (h : wC k = 0) : k = 0 := by
  match k with
  | 0 => rfl
  | 1 => exact absurd h (by decide)
  | 2 => exact absurd h (by decide)
  | 3 => exact absurd h (by decide)
  | k + 4 => exact absurd h (by show ¬ (9 : Int32) = 0; decide)
/-- the reference's cells; what the day and the answers may have -/
def Am (fa : Nat → Nat) (q : Nat) : Prop := q = fa 30 ∨ ∃ j, j ∈ mar ∧ q = fa j
def Aw (z : Nat) (fa : Nat → Nat) (q : Nat) : Prop := z ≤ q ∧ ¬ Am fa q
/-- both are tied -/
def LI (G : GT) (z xa ob : Nat) (fa : Nat → Nat) (H : Heap) : Prop := ∃ c m f, RepO G (Aw z fa) c ob f H ∧ RepM G (Am fa) m H ∧ IC c ∧ Rl c m ∧ ma m = fa ∧ ad c 0 0 = xa
def lvL (b xa : Nat) (fa : Nat → Nat) (ob i : Nat) : List (Nat × Value) := [(0, .ref b), (1, .ref xa), (2, .ref (fa 30)), (3, .ref ob), (4, .int (nI i))]
theorem Rep.reg {B : Nat → Prop} {c : CS} (h : Rep G A c H) (hAB : ∀ q, A q → B q) : Rep G B c H := by
  obtain ⟨T, bA, cp, mo, h1, h2⟩ := h
  exact ⟨T, bA, cp, mo, fun a ha => ⟨hAB a (h1 a ha).1, (h1 a ha).2⟩, h2⟩
/-- the reference moved: the day and the answers lie as they did -/
theorem RepO.oth {c : CS} {ob z : Nat} {f : Nat → Int64} {fa : Nat → Nat} (h : RepO G (Aw z fa) c ob f H) (hz : H.size ≤ H1.size) (hk : ∀ q : Nat, q < H.size → ¬ (Am fa q ∨ H.size ≤ q) → H1[q]? = H[q]?) : RepO G (Aw z fa) c ob f H1 := by
  obtain ⟨h1, h2, h3⟩ := h
  have no : ∀ q, Aw z fa q → q < H.size → ¬ (Am fa q ∨ H.size ≤ q) := fun q hq hq2 hq3 => hq3.elim hq.2 (fun x => absurd hq2 (Nat.not_lt.mpr x))
  exact ⟨h1.kept hz (fun q hq hq2 _ => hk q hq2 (no q hq.1 hq2)), h2.kept (hk _ h2.lt (no _ h3 h2.lt)), h3⟩
theorem RepM.belA {m : MS} {fa : Nat → Nat} (h : RepM G A m H) (hf : ma m = fa) : ∀ q, Am fa q → q < H.size := fun q hq => by
  subst hf
  exact h.bel q hq
theorem RepM.othA {m : MS} {z : Nat} (h : RepM G (Am (ma m)) m H) (hk : ∀ q : Nat, q < H.size → ¬ Aw z (ma m) q → H1[q]? = H[q]?) : RepM G (Am (ma m)) m H1 :=
  h.kept (fun q _ hq => hk q (h.bel q hq) (fun x => x.2 hq))
theorem oa_addMember (c : CS) (x : Int32) (a : Nat) : ad (o_addMember c x a).2.2 0 0 = ad c 0 0 := by
  unfold o_addMember
  repeat' split
  all_goals rfl
theorem qa_addMember (m : MS) (x : Int32) : ma (q_addMember m x).2 = ma m := by
  unfold q_addMember
  repeat' split
  all_goals rfl
theorem oa_addGlider (c : CS) (x y1 y2 : Int32) (a : Nat) : ad (o_addGlider c x y1 y2 a).2.2 0 0 = ad c 0 0 := by
  unfold o_addGlider
  repeat' split
  all_goals rfl
theorem qa_addGlider (m : MS) (x y1 y2 : Int32) : ma (q_addGlider m x y1 y2).2 = ma m := by
  unfold q_addGlider
  repeat' split
  all_goals rfl
theorem oa_setWind (c : CS) (x : Int32) : ad (o_setWind c x).2.2 0 0 = ad c 0 0 := by
  unfold o_setWind
  repeat' split
  all_goals rfl
theorem qa_setWind (m : MS) (x : Int32) : ma (q_setWind m x).2 = ma m := by
  unfold q_setWind
  repeat' split
  all_goals rfl
theorem oa_setSunset (c : CS) (x : Int32) : ad (o_setSunset c x).2.2 0 0 = ad c 0 0 := by
  unfold o_setSunset
  repeat' split
  all_goals rfl
theorem qa_setSunset (m : MS) (x : Int32) : ma (q_setSunset m x).2 = ma m := by
  unfold q_setSunset
  repeat' split
  all_goals rfl
theorem oa_setTugs (c : CS) (x : Int32) : ad (o_setTugs c x).2.2 0 0 = ad c 0 0 := by
  unfold o_setTugs
  repeat' split
  all_goals rfl
theorem qa_setTugs (m : MS) (x : Int32) : ma (q_setTugs m x).2 = ma m := by
  unfold q_setTugs
  repeat' split
  all_goals rfl
theorem oa_bar (c : CS) (x b : Int32) : ad (o_bar c x b).2.2 0 0 = ad c 0 0 := by
  unfold o_bar
  repeat' split
  all_goals rfl
theorem qa_bar (m : MS) (x b : Int32) : ma (q_bar m x b).2 = ma m := by
  unfold q_bar
  repeat' split
  all_goals rfl
theorem oa_promote (c : CS) (x : Int32) : ad (o_promote c x).2.2 0 0 = ad c 0 0 := by
  unfold o_promote
  repeat' split
  all_goals rfl
theorem qa_promote (m : MS) (x : Int32) : ma (q_promote m x).2 = ma m := by
  unfold q_promote
  repeat' split
  all_goals rfl
theorem oa_member (c : CS) (x w1 : Int32) : ad (o_member c x w1).2.2 0 0 = ad c 0 0 := by
  unfold o_member
  repeat' split
  all_goals rfl
theorem qa_member (m : MS) (x w1 : Int32) : ma (q_member m x w1).2 = ma m := by
  unfold q_member
  repeat' split
  all_goals rfl
theorem oa_glider (c : CS) (x w1 : Int32) : ad (o_glider c x w1).2.2 0 0 = ad c 0 0 := by
  unfold o_glider
  repeat' split
  all_goals rfl
theorem qa_glider (m : MS) (x w1 : Int32) : ma (q_glider m x w1).2 = ma m := by
  unfold q_glider
  repeat' split
  all_goals rfl
theorem oa_ask (c : CS) (x y1 y2 y3 y4 : Int32) (a : Nat) : ad (o_ask c x y1 y2 y3 y4 a).2.2 0 0 = ad c 0 0 := by
  unfold o_ask
  repeat' split
  all_goals rfl
theorem qa_ask (m : MS) (x y1 y2 y3 y4 : Int32) : ma (q_ask m x y1 y2 y3 y4).2 = ma m := by
  unfold q_ask
  repeat' split
  all_goals rfl
theorem oa_drop (c : CS) (x : Int32) : ad (o_drop c x).2.2 0 0 = ad c 0 0 := by
  unfold o_drop
  repeat' split
  all_goals rfl
theorem qa_drop (m : MS) (x : Int32) : ma (q_drop m x).2 = ma m := by
  unfold q_drop
  repeat' split
  all_goals rfl
theorem oa_list (c : CS) (x : Int32) : ad (o_list c x).2.2 0 0 = ad c 0 0 := by
  unfold o_list
  repeat' split
  all_goals rfl
theorem qa_list (m : MS) (x : Int32) : ma (q_list m x).2 = ma m := by
  unfold q_list
  repeat' split
  all_goals rfl
theorem oa_reason (c : CS) (x : Int32) : ad (o_reason c x).2.2 0 0 = ad c 0 0 := by
  unfold o_reason
  repeat' split
  all_goals rfl
theorem qa_reason (m : MS) (x : Int32) : ma (q_reason m x).2 = ma m := by
  unfold q_reason
  repeat' split
  all_goals rfl
theorem oa_call (c : CS) (x : Int32) : ad (o_call c x).2.2 0 0 = ad c 0 0 := by
  unfold o_call
  repeat' split
  all_goals rfl
theorem qa_call (m : MS) (x : Int32) : ma (q_call m x).2 = ma m := by
  unfold q_call
  repeat' split
  all_goals rfl
theorem oa_tick (c : CS) (x : Int32) : ad (o_tick c x).2.2 0 0 = ad c 0 0 := by
  unfold o_tick
  split
  · exact congrFun (congrFun (ad_tick c _).1 0) 0
  · rfl
theorem qa_tick (m : MS) (x : Int32) : ma (q_tick m x).2 = ma m := by
  unfold q_tick
  split
  · exact (same_tick m _).1
  · rfl
theorem oa_flight (c : CS) (x w1 : Int32) : ad (o_flight c x w1).2.2 0 0 = ad c 0 0 := by
  unfold o_flight
  repeat' split
  all_goals rfl
theorem qa_flight (m : MS) (x w1 : Int32) : ma (q_flight m x w1).2 = ma m := by
  unfold q_flight
  repeat' split
  all_goals rfl
theorem oa_count (c : CS) (x : Int32) : ad (o_count c x).2.2 0 0 = ad c 0 0 := by
  unfold o_count
  repeat' split
  all_goals rfl
theorem qa_count (m : MS) (x : Int32) : ma (q_count m x).2 = ma m := by
  unfold q_count
  repeat' split
  all_goals rfl
theorem oa_bill (c : CS) (x : Int32) : ad (o_bill c x).2.2 0 0 = ad c 0 0 := by
  unfold o_bill
  repeat' split
  all_goals rfl
theorem qa_bill (m : MS) (x : Int32) : ma (q_bill m x).2 = ma m := by
  unfold q_bill
  repeat' split
  all_goals rfl
theorem oa_pay (c : CS) (x a1 : Int32) : ad (o_pay c x a1).2.2 0 0 = ad c 0 0 := by
  unfold o_pay
  repeat' split
  all_goals rfl
theorem qa_pay (m : MS) (x a1 : Int32) : ma (q_pay m x a1).2 = ma m := by
  unfold q_pay
  repeat' split
  all_goals rfl
theorem wx_wd {k2 n2 : Nat} (h1 : k ≤ k2) (h2 : n ≤ n2) (kk : wx E H k2 n2 pc lv st) : wx E H k n pc lv st := by
  obtain ⟨p, l, e, R, s, m, args, below, meth, c, A1, nL, Q⟩ := E
  intro locs ls hS hl
  exact W.widen h1 h2 (kk locs ls hS hl)
theorem wx_l {x y : Int64} (h : x = y) (kk : wx E H k n pc lv (.long y :: st)) : wx E H k n pc lv (.long x :: st) := h ▸ kk
theorem wx_d {x y : UInt64} (h : x = y) (kk : wx E H k n pc lv (.double y :: st)) : wx E H k n pc lv (.double x :: st) := h ▸ kk
theorem wx_r {x y : Nat} (h : x = y) (kk : wx E H k n pc lv (.ref y :: st)) : wx E H k n pc lv (.ref x :: st) := h ▸ kk
theorem k_L_86 : cwV_ "GliderDayLaw" 86 "GliderDayModel" yX4_addMember cX4_addMember 2 (some .int) 1 := ⟨mw_895, mw_896, mw_897, mw_59, mw_898, ⟨by decide +kernel, by decide +kernel, by decide +kernel⟩⟩
theorem k_L_87 : cwV_ "GliderDayLaw" 87 "GliderDayModel" yX4_thrown cX4_thrown 1 (some .int) 0 := ⟨mw_891, mw_892, mw_893, mw_59, mw_894, ⟨by decide +kernel, by decide +kernel, by decide +kernel⟩⟩
theorem k_L_94 : cwV_ "GliderDayLaw" 94 "GliderDayModel" yX4_addGlider cX4_addGlider 4 (some .int) 3 := ⟨mw_906, mw_907, mw_908, mw_59, mw_909, ⟨by decide +kernel, by decide +kernel, by decide +kernel⟩⟩
theorem k_L_97 : cwV_ "GliderDayLaw" 97 "GliderDayModel" yX4_setWind cX4_setWind 3 (some .int) 1 := ⟨mw_910, mw_911, mw_912, mw_59, mw_913, ⟨by decide +kernel, by decide +kernel, by decide +kernel⟩⟩
theorem k_L_100 : cwV_ "GliderDayLaw" 100 "GliderDayModel" yX4_setSunset cX4_setSunset 3 (some .int) 1 := ⟨mw_914, mw_915, mw_916, mw_59, mw_917, ⟨by decide +kernel, by decide +kernel, by decide +kernel⟩⟩
theorem k_L_103 : cwV_ "GliderDayLaw" 103 "GliderDayModel" yX4_setTugs cX4_setTugs 2 (some .int) 1 := ⟨mw_918, mw_919, mw_920, mw_59, mw_921, ⟨by decide +kernel, by decide +kernel, by decide +kernel⟩⟩
theorem k_L_107 : cwV_ "GliderDayLaw" 107 "GliderDayModel" yX4_bar cX4_bar 4 (some .boolean) 2 := ⟨mw_926, mw_927, mw_928, mw_59, mw_929, ⟨by decide +kernel, by decide +kernel, by decide +kernel⟩⟩
theorem k_L_110 : cwV_ "GliderDayLaw" 110 "GliderDayModel" yX4_promote cX4_promote 3 (some .int) 1 := ⟨mw_938, mw_939, mw_940, mw_59, mw_941, ⟨by decide +kernel, by decide +kernel, by decide +kernel⟩⟩
theorem k_L_114 : cwV_ "GliderDayLaw" 114 "GliderDayModel" yX4_member cX4_member 3 (some .int) 2 := ⟨mw_958, mw_959, mw_960, mw_59, mw_961, ⟨by decide +kernel, by decide +kernel, by decide +kernel⟩⟩
theorem k_L_117 : cwV_ "GliderDayLaw" 117 "GliderDayModel" yX4_glider cX4_glider 3 (some .int) 2 := ⟨mw_966, mw_967, mw_968, mw_59, mw_969, ⟨by decide +kernel, by decide +kernel, by decide +kernel⟩⟩
theorem k_L_121 : cwV_ "GliderDayLaw" 121 "GliderDayModel" yX4_ask cX4_ask 6 (some .int) 5 := ⟨mw_974, mw_975, mw_976, mw_59, mw_977, ⟨by decide +kernel, by decide +kernel, by decide +kernel⟩⟩
theorem k_L_124 : cwV_ "GliderDayLaw" 124 "GliderDayModel" yX4_drop cX4_drop 2 (some .int) 1 := ⟨mw_982, mw_983, mw_984, mw_59, mw_985, ⟨by decide +kernel, by decide +kernel, by decide +kernel⟩⟩
theorem k_L_127 : cwV_ "GliderDayLaw" 127 "GliderDayModel" yX4_list cX4_list 3 (some .int) 1 := ⟨mw_994, mw_995, mw_996, mw_59, mw_997, ⟨by decide +kernel, by decide +kernel, by decide +kernel⟩⟩
theorem k_L_130 : cwV_ "GliderDayLaw" 130 "GliderDayModel" yX4_reason cX4_reason 2 (some .int) 1 := ⟨mw_998, mw_999, mw_1000, mw_59, mw_1001, ⟨by decide +kernel, by decide +kernel, by decide +kernel⟩⟩
theorem k_L_133 : cwV_ "GliderDayLaw" 133 "GliderDayModel" yX4_call cX4_call 3 (some .int) 1 := ⟨mw_1013, mw_1014, mw_1015, mw_59, mw_1016, ⟨by decide +kernel, by decide +kernel, by decide +kernel⟩⟩
theorem k_L_136 : cwV_ "GliderDayLaw" 136 "GliderDayModel" yX4_tick cX4_tick 4 (some .int) 1 := ⟨mw_1017, mw_1018, mw_1019, mw_59, mw_1020, ⟨by decide +kernel, by decide +kernel, by decide +kernel⟩⟩
theorem k_L_143 : cwV_ "GliderDayLaw" 143 "GliderDayModel" yX4_flight cX4_flight 3 (some .int) 2 := ⟨mw_1037, mw_1038, mw_1039, mw_59, mw_1040, ⟨by decide +kernel, by decide +kernel, by decide +kernel⟩⟩
theorem k_L_146 : cwV_ "GliderDayLaw" 146 "GliderDayModel" yX4_count cX4_count 2 (some .int) 1 := ⟨mw_1050, mw_1051, mw_1052, mw_59, mw_1053, ⟨by decide +kernel, by decide +kernel, by decide +kernel⟩⟩
theorem k_L_154 : cwV_ "GliderDayLaw" 154 "GliderDayModel" yX4_bill cX4_bill 2 (some .int) 1 := ⟨mw_1062, mw_1063, mw_1064, mw_59, mw_1065, ⟨by decide +kernel, by decide +kernel, by decide +kernel⟩⟩
theorem k_L_157 : cwV_ "GliderDayLaw" 157 "GliderDayModel" yX4_pay cX4_pay 3 (some .int) 2 := ⟨mw_1070, mw_1071, mw_1072, mw_59, mw_1073, ⟨by decide +kernel, by decide +kernel, by decide +kernel⟩⟩
theorem k_L_137 : cwV_ "GliderDayLaw" 137 "GliderDay" yX3_now cX3_now 1 (some .int) 0 := ⟨mw_150, mw_151, mw_152, mw_55, mw_153, ⟨by decide +kernel, by decide +kernel, by decide +kernel⟩⟩
theorem k_L_140 : cwV_ "GliderDayLaw" 140 "GliderDayModel" yX4_now cX4_now 1 (some .int) 0 := ⟨mw_1033, mw_1034, mw_1035, mw_59, mw_1036, ⟨by decide +kernel, by decide +kernel, by decide +kernel⟩⟩
theorem k_L_147 : cwV_ "GliderDayLaw" 147 "GliderDay" yX3_isBusy cX3_isBusy 1 (some .boolean) 0 := ⟨mw_154, mw_155, mw_156, mw_55, mw_157, ⟨by decide +kernel, by decide +kernel, by decide +kernel⟩⟩
theorem k_L_151 : cwV_ "GliderDayLaw" 151 "GliderDayModel" yX4_isBusy cX4_isBusy 1 (some .boolean) 0 := ⟨mw_1058, mw_1059, mw_1060, mw_59, mw_1061, ⟨by decide +kernel, by decide +kernel, by decide +kernel⟩⟩
theorem k_L_158 : cwV_ "GliderDayLaw" 158 "GliderDay" yX3_income cX3_income 3 (some .int) 0 := ⟨mw_158, mw_159, mw_160, mw_55, mw_161, ⟨by decide +kernel, by decide +kernel, by decide +kernel⟩⟩
theorem k_L_161 : cwV_ "GliderDayLaw" 161 "GliderDayModel" yX4_income cX4_income 3 (some .int) 0 := ⟨mw_1075, mw_1076, mw_1077, mw_59, mw_1078, ⟨by decide +kernel, by decide +kernel, by decide +kernel⟩⟩
theorem k_L_162 : cwV_ "GliderDayLaw" 162 "GliderDay" yX3_longest cX3_longest 5 (some .int) 0 := ⟨mw_181, mw_182, mw_183, mw_55, mw_184, ⟨by decide +kernel, by decide +kernel, by decide +kernel⟩⟩
theorem k_L_165 : cwV_ "GliderDayLaw" 165 "GliderDayModel" yX4_longest cX4_longest 3 (some .int) 0 := ⟨mw_1079, mw_1080, mw_1081, mw_59, mw_1082, ⟨by decide +kernel, by decide +kernel, by decide +kernel⟩⟩
theorem k_L_166 : cwV_ "GliderDayLaw" 166 "GliderDay" yX3_waited cX3_waited 5 (some .double) 0 := ⟨mw_185, mw_186, mw_187, mw_55, mw_188, ⟨by decide +kernel, by decide +kernel, by decide +kernel⟩⟩
theorem k_L_170 : cwV_ "GliderDayLaw" 170 "GliderDayModel" yX4_waited cX4_waited 4 (some .double) 0 := ⟨mw_1083, mw_1084, mw_1085, mw_59, mw_1086, ⟨by decide +kernel, by decide +kernel, by decide +kernel⟩⟩
theorem k_L_171 : cwV_ "GliderDayLaw" 171 "GliderDay" yX3_digest cX3_digest 4 (some .long) 0 := ⟨mw_189, mw_190, mw_191, mw_55, mw_192, ⟨by decide +kernel, by decide +kernel, by decide +kernel⟩⟩
theorem k_L_175 : cwV_ "GliderDayLaw" 175 "GliderDayModel" yX4_digest cX4_digest 5 (some .long) 0 := ⟨mw_1087, mw_1088, mw_1089, mw_59, mw_1090, ⟨by decide +kernel, by decide +kernel, by decide +kernel⟩⟩
set_option maxHeartbeats 4000000 in
set_option maxRecDepth 100000 in
theorem la_addMember (l : Launch) (hL0 : l.stackTraces = false) (G : GT) (E : WE) (S0 : Heap) (F : fx l room_1 G (fun q => S0.size ≤ q) S0 9 cL_law "GliderDayLaw" E) {b N : Nat} {xs : Nat → Int32} (hX : sX b N xs E) (hbA : ¬ S0.size ≤ b) (hN : N ≤ 3072) {xa ob : Nat} {fa : Nat → Nat} (hfa : ∀ q, Am fa q → S0.size ≤ q) {H : Heap} (hI : LI G S0.size xa ob fa H) {k n i : Nat} (hi : i + 6 ≤ N) (hk : k + 800 ≤ 601024) (hn : n + 6400 ≤ 7293034) (J : ∀ H1 : Heap, LI G S0.size xa ob fa H1 → wx E H1 (k + 800) (n + 6400) 1482 (lvL b xa fa ob i) []) : wx E H k n 156 (lvL b xa fa ob i) [] := by
  obtain ⟨c, m, f, hO, hM, hIC, hRl, hma, hxa⟩ := hI
  subst hma hxa
  have hW := r_wf hIC.2.1 hRl.1 hRl.2.2.2.2
  have hzH : S0.size ≤ H.size := Nat.le_trans (hfa _ (Or.inl rfl)) (Nat.le_of_lt (hM.belA rfl _ (Or.inl rfl)))
  obtain ⟨x1, hx1⟩ : ∃ v, xs (nI (i + 1)).toNatClampNeg = v := ⟨_, rfl⟩
  show wx E H k n 156 [(0, .ref b), (1, .ref (ad c 0 0)), (2, .ref (ma m 30)), (3, .ref ob), (4, .int (nI i))] []
  refine x_aload_n F dL_law_156 1 rfl rfl ?_
  refine x_aload_n F dL_law_157 0 rfl rfl ?_
  refine x_iload F dL_law_158 4 rfl ?_
  refine x_iconst (v := 1) F rfl dL_law_160 ?_
  refine x_iadd F dL_law_161 ?_
  refine wx_i (y := nI (i + 1)) (sadd_1 i) ?_
  refine x_sld F hX hbA (v := x1) (vp_in_nI (n := i + 1) (by omega) (by omega)) hx1 dL_law_162 ?_
  refine x_aload_n F dL_law_163 3 rfl rfl ?_
  refine x_callSW (nA := 3) (As := [.ref (ad c 0 0), .int x1, .ref ob]) (rest := []) F (c_L_addMember l G (Aw S0.size (ma m)) c ob f x1 hL0) mw_237 mw_238 mw_54 mw_239 ⟨by decide +kernel, by decide +kernel, by decide +kernel⟩ ⟨⟨(Nat.le_of_ble_eq_true rfl), (Nat.le_of_ble_eq_true rfl)⟩, (by show k + 2 ≤ 601024; omega), (by show n + 308 ≤ 7293034; omega)⟩ dL_law_164 rfl rfl (Nat.le_of_ble_eq_true rfl) (fun q h => h.1) (fun q h => ⟨Nat.le_trans hzH h, fun x => absurd (hM.belA rfl q x) (Nat.not_lt.mpr h)⟩) hO ?_
  rintro _ H1 ⟨a, f1, rfl, hO1, hans⟩ hz1 hk1
  have hM1 := hM.othA hk1
  have hAg : Agr (o_addMember c x1 a) (q_addMember (sY m 0 0) x1) wA := a_addMember hIC hRl.t rfl x1 a
  refine x_istore (lv' := [(5, .int (wA (o_addMember c x1 a).1)), (0, .ref b), (1, .ref (ad c 0 0)), (2, .ref (ma m 30)), (3, .ref ob), (4, .int (nI i))]) F dL_law_167 (by decide) rfl ?_
  refine x_aload_n F dL_law_169 3 rfl rfl ?_
  refine x_aload_n F dL_law_170 1 rfl rfl ?_
  refine x_iload F dL_law_171 5 rfl ?_
  refine x_iconst (v := 1) F rfl dL_law_173 ?_
  refine x_iadd F dL_law_174 ?_
  refine wx_i (y := nI (i + 1)) (sadd_1 i) ?_
  refine x_sld F hX hbA (v := x1) (vp_in_nI (n := i + 1) (by omega) (by omega)) hx1 dL_law_175 ?_
  refine x_callVo (A1 := fun q => Am (ma m) q ∨ H1.size ≤ q) (rest := []) F hM1.2.2.1 rfl (c_X4_addMember l G (fun q => Am (ma m) q ∨ H1.size ≤ q) m hW x1) k_L_86 ⟨⟨(Nat.le_of_ble_eq_true rfl), (Nat.le_of_ble_eq_true rfl)⟩, (by show (k + 2) + 0 ≤ 601024; omega), (by show (n + 308) + 0 ≤ 7293034; omega)⟩ dL_law_176 rfl rfl (Nat.le_of_ble_eq_true rfl) (fun q h => h.elim (hfa q) (fun x => Nat.le_trans hzH (Nat.le_trans hz1 x))) (fun q h => Or.inr h) (hM1.reg (fun q hq => Or.inl hq)) ?_
  rintro _ H2 ⟨rfl, hM2⟩ hz2 hk2
  have hO2 := hO1.oth hz2 hk2
  have hma2 : ma (q_addMember (sY m 0 0) x1).2 = ma m := qa_addMember (sY m 0 0) x1
  replace hM2 : RepM G (Am (ma m)) (q_addMember (sY m 0 0) x1).2 H2 := hM2.reg (fun q hq => by rw [hma2] at hq; exact hq)
  refine x_istore (lv' := [(6, .int ((q_addMember (sY m 0 0) x1).1)), (5, .int (wA (o_addMember c x1 a).1)), (0, .ref b), (1, .ref (ad c 0 0)), (2, .ref (ma m 30)), (3, .ref ob), (4, .int (nI i))]) F dL_law_179 (by decide) rfl ?_
  refine x_aload_n F dL_law_181 4 rfl rfl ?_
  refine wx_r (y := ma (q_addMember (sY m 0 0) x1).2 30) (by rw [hma2]) ?_
  refine x_callVp (rest := []) F hM2.2.2.1 rfl (c_X4_thrown l G _ (q_addMember (sY m 0 0) x1).2) k_L_87 ⟨(Nat.le_of_ble_eq_true rfl), (Nat.le_of_ble_eq_true rfl), rfl, rfl⟩ (by show ((k + 2) + 0) ≤ 601024; omega) (by show ((n + 308) + 0) ≤ 7293034; omega) dL_law_182 rfl rfl (Nat.le_of_ble_eq_true rfl) (hM2.reg (fun q hq => hfa q (hma2 ▸ hq))) ?_
  refine x_iload F dL_law_185 1 rfl ?_
  refine x_icmp_eq F dL_law_187 (tgt := 192) (by decide) (fun _ => ?_) (fun h1 => absurd (hAg.2.2.1) h1)
  refine x_iload F dL_law_192 1 rfl ?_
  refine x_if_ne F dL_law_194 (tgt := 209) (by decide) (fun _ => ?_) (fun h2 => ?_)
  · refine x_goto F dL_law_209 (tgt := 1482) (by decide) ?_
    refine wx_sub (lv' := lvL b (ad c 0 0) (ma m) ob i) [2, 3, 4, 5, 6] rfl ?_
    exact wx_wd (by show ((k + 2) + 0) ≤ k + 800; omega) (by show ((n + 308) + 0) ≤ n + 6400; omega) (J H2 ⟨_, _, _, hO2, hM2, hAg.1, hAg.2.1, hma2, oa_addMember c x1 a⟩)
  · have hc0 : (o_addMember c x1 a).1 = 0 := wA_0 h2
    have hf1 : f1 0 = ((q_addMember (sY m 0 0) x1).1).toInt64 := (hans hc0).trans (congrArg Int32.toInt64 (hAg.2.2.2.1 hc0))
    refine x_aload_n F dL_law_197 5 rfl rfl ?_
    refine x_iconst (v := 0) F rfl dL_law_198 ?_
    refine x_lald F hO2.2.1 (i := 0) (vp_in_nI (n := 0) (by decide) (by decide)) dL_law_199 ?_
    refine wx_l (y := f1 0) rfl ?_
    refine x_iload F dL_law_200 0 rfl ?_
    refine x_i2l F dL_law_202 ?_
    refine x_lcmp F dL_law_203 ?_
    refine wx_i (y := 0) (by rw [hf1, lcmp0]) ?_
    refine x_if_eq F dL_law_204 (tgt := 209) (by decide) (fun _ => ?_) (fun h3 => absurd (rfl) h3)
    refine x_goto F dL_law_209 (tgt := 1482) (by decide) ?_
    refine wx_sub (lv' := lvL b (ad c 0 0) (ma m) ob i) [2, 3, 4, 5, 6] rfl ?_
    exact wx_wd (by show ((k + 2) + 0) ≤ k + 800; omega) (by show ((n + 308) + 0) ≤ n + 6400; omega) (J H2 ⟨_, _, _, hO2, hM2, hAg.1, hAg.2.1, hma2, oa_addMember c x1 a⟩)
set_option maxHeartbeats 4000000 in
set_option maxRecDepth 100000 in
theorem la_addGlider (l : Launch) (hL0 : l.stackTraces = false) (G : GT) (E : WE) (S0 : Heap) (F : fx l room_1 G (fun q => S0.size ≤ q) S0 9 cL_law "GliderDayLaw" E) {b N : Nat} {xs : Nat → Int32} (hX : sX b N xs E) (hbA : ¬ S0.size ≤ b) (hN : N ≤ 3072) {xa ob : Nat} {fa : Nat → Nat} (hfa : ∀ q, Am fa q → S0.size ≤ q) {H : Heap} (hI : LI G S0.size xa ob fa H) {k n i : Nat} (hi : i + 6 ≤ N) (hk : k + 800 ≤ 601024) (hn : n + 6400 ≤ 7293034) (J : ∀ H1 : Heap, LI G S0.size xa ob fa H1 → wx E H1 (k + 800) (n + 6400) 1482 (lvL b xa fa ob i) []) : wx E H k n 212 (lvL b xa fa ob i) [] := by
  obtain ⟨c, m, f, hO, hM, hIC, hRl, hma, hxa⟩ := hI
  subst hma hxa
  have hW := r_wf hIC.2.1 hRl.1 hRl.2.2.2.2
  have hzH : S0.size ≤ H.size := Nat.le_trans (hfa _ (Or.inl rfl)) (Nat.le_of_lt (hM.belA rfl _ (Or.inl rfl)))
  obtain ⟨x1, hx1⟩ : ∃ v, xs (nI (i + 1)).toNatClampNeg = v := ⟨_, rfl⟩
  obtain ⟨x2, hx2⟩ : ∃ v, xs (nI (i + 2)).toNatClampNeg = v := ⟨_, rfl⟩
  obtain ⟨x3, hx3⟩ : ∃ v, xs (nI (i + 3)).toNatClampNeg = v := ⟨_, rfl⟩
  show wx E H k n 212 [(0, .ref b), (1, .ref (ad c 0 0)), (2, .ref (ma m 30)), (3, .ref ob), (4, .int (nI i))] []
  refine x_aload_n F dL_law_212 1 rfl rfl ?_
  refine x_aload_n F dL_law_213 0 rfl rfl ?_
  refine x_iload F dL_law_214 4 rfl ?_
  refine x_iconst (v := 1) F rfl dL_law_216 ?_
  refine x_iadd F dL_law_217 ?_
  refine wx_i (y := nI (i + 1)) (sadd_1 i) ?_
  refine x_sld F hX hbA (v := x1) (vp_in_nI (n := i + 1) (by omega) (by omega)) hx1 dL_law_218 ?_
  refine x_aload_n F dL_law_219 0 rfl rfl ?_
  refine x_iload F dL_law_220 4 rfl ?_
  refine x_iconst (v := 2) F rfl dL_law_222 ?_
  refine x_iadd F dL_law_223 ?_
  refine wx_i (y := nI (i + 2)) (sadd_2 i) ?_
  refine x_sld F hX hbA (v := x2) (vp_in_nI (n := i + 2) (by omega) (by omega)) hx2 dL_law_224 ?_
  refine x_aload_n F dL_law_225 0 rfl rfl ?_
  refine x_iload F dL_law_226 4 rfl ?_
  refine x_iconst (v := 3) F rfl dL_law_228 ?_
  refine x_iadd F dL_law_229 ?_
  refine wx_i (y := nI (i + 3)) (sadd_3 i) ?_
  refine x_sld F hX hbA (v := x3) (vp_in_nI (n := i + 3) (by omega) (by omega)) hx3 dL_law_230 ?_
  refine x_aload_n F dL_law_231 3 rfl rfl ?_
  refine x_callSW (nA := 5) (As := [.ref (ad c 0 0), .int x1, .int x2, .int x3, .ref ob]) (rest := []) F (c_L_addGlider l G (Aw S0.size (ma m)) c ob f x1 x2 x3 hL0) mw_421 mw_422 mw_54 mw_423 ⟨by decide +kernel, by decide +kernel, by decide +kernel⟩ ⟨⟨(Nat.le_of_ble_eq_true rfl), (Nat.le_of_ble_eq_true rfl)⟩, (by show k + 2 ≤ 601024; omega), (by show n + 310 ≤ 7293034; omega)⟩ dL_law_232 rfl rfl (Nat.le_of_ble_eq_true rfl) (fun q h => h.1) (fun q h => ⟨Nat.le_trans hzH h, fun x => absurd (hM.belA rfl q x) (Nat.not_lt.mpr h)⟩) hO ?_
  rintro _ H1 ⟨a, f1, rfl, hO1, hans⟩ hz1 hk1
  have hM1 := hM.othA hk1
  have hAg : Agr (o_addGlider c x1 x2 x3 a) (q_addGlider (sY m 0 0) x1 x2 x3) wA := a_addGlider hIC hRl.t rfl x1 x2 x3 a
  refine x_istore (lv' := [(5, .int (wA (o_addGlider c x1 x2 x3 a).1)), (0, .ref b), (1, .ref (ad c 0 0)), (2, .ref (ma m 30)), (3, .ref ob), (4, .int (nI i))]) F dL_law_235 (by decide) rfl ?_
  refine x_aload_n F dL_law_237 3 rfl rfl ?_
  refine x_aload_n F dL_law_238 1 rfl rfl ?_
  refine x_iload F dL_law_239 5 rfl ?_
  refine x_iconst (v := 1) F rfl dL_law_241 ?_
  refine x_iadd F dL_law_242 ?_
  refine wx_i (y := nI (i + 1)) (sadd_1 i) ?_
  refine x_sld F hX hbA (v := x1) (vp_in_nI (n := i + 1) (by omega) (by omega)) hx1 dL_law_243 ?_
  refine x_aload_n F dL_law_244 1 rfl rfl ?_
  refine x_iload F dL_law_245 5 rfl ?_
  refine x_iconst (v := 2) F rfl dL_law_247 ?_
  refine x_iadd F dL_law_248 ?_
  refine wx_i (y := nI (i + 2)) (sadd_2 i) ?_
  refine x_sld F hX hbA (v := x2) (vp_in_nI (n := i + 2) (by omega) (by omega)) hx2 dL_law_249 ?_
  refine x_aload_n F dL_law_250 1 rfl rfl ?_
  refine x_iload F dL_law_251 5 rfl ?_
  refine x_iconst (v := 3) F rfl dL_law_253 ?_
  refine x_iadd F dL_law_254 ?_
  refine wx_i (y := nI (i + 3)) (sadd_3 i) ?_
  refine x_sld F hX hbA (v := x3) (vp_in_nI (n := i + 3) (by omega) (by omega)) hx3 dL_law_255 ?_
  refine x_callVo (A1 := fun q => Am (ma m) q ∨ H1.size ≤ q) (rest := []) F hM1.2.2.1 rfl (c_X4_addGlider l G (fun q => Am (ma m) q ∨ H1.size ≤ q) m hW x1 x2 x3) k_L_94 ⟨⟨(Nat.le_of_ble_eq_true rfl), (Nat.le_of_ble_eq_true rfl)⟩, (by show (k + 2) + 0 ≤ 601024; omega), (by show (n + 310) + 0 ≤ 7293034; omega)⟩ dL_law_256 rfl rfl (Nat.le_of_ble_eq_true rfl) (fun q h => h.elim (hfa q) (fun x => Nat.le_trans hzH (Nat.le_trans hz1 x))) (fun q h => Or.inr h) (hM1.reg (fun q hq => Or.inl hq)) ?_
  rintro _ H2 ⟨rfl, hM2⟩ hz2 hk2
  have hO2 := hO1.oth hz2 hk2
  have hma2 : ma (q_addGlider (sY m 0 0) x1 x2 x3).2 = ma m := qa_addGlider (sY m 0 0) x1 x2 x3
  replace hM2 : RepM G (Am (ma m)) (q_addGlider (sY m 0 0) x1 x2 x3).2 H2 := hM2.reg (fun q hq => by rw [hma2] at hq; exact hq)
  refine x_istore (lv' := [(6, .int ((q_addGlider (sY m 0 0) x1 x2 x3).1)), (5, .int (wA (o_addGlider c x1 x2 x3 a).1)), (0, .ref b), (1, .ref (ad c 0 0)), (2, .ref (ma m 30)), (3, .ref ob), (4, .int (nI i))]) F dL_law_259 (by decide) rfl ?_
  refine x_aload_n F dL_law_261 4 rfl rfl ?_
  refine wx_r (y := ma (q_addGlider (sY m 0 0) x1 x2 x3).2 30) (by rw [hma2]) ?_
  refine x_callVp (rest := []) F hM2.2.2.1 rfl (c_X4_thrown l G _ (q_addGlider (sY m 0 0) x1 x2 x3).2) k_L_87 ⟨(Nat.le_of_ble_eq_true rfl), (Nat.le_of_ble_eq_true rfl), rfl, rfl⟩ (by show ((k + 2) + 0) ≤ 601024; omega) (by show ((n + 310) + 0) ≤ 7293034; omega) dL_law_262 rfl rfl (Nat.le_of_ble_eq_true rfl) (hM2.reg (fun q hq => hfa q (hma2 ▸ hq))) ?_
  refine x_iload F dL_law_265 1 rfl ?_
  refine x_icmp_eq F dL_law_267 (tgt := 272) (by decide) (fun _ => ?_) (fun h1 => absurd (hAg.2.2.1) h1)
  refine x_iload F dL_law_272 1 rfl ?_
  refine x_if_ne F dL_law_274 (tgt := 289) (by decide) (fun _ => ?_) (fun h2 => ?_)
  · refine x_goto F dL_law_289 (tgt := 1482) (by decide) ?_
    refine wx_sub (lv' := lvL b (ad c 0 0) (ma m) ob i) [2, 3, 4, 5, 6] rfl ?_
    exact wx_wd (by show ((k + 2) + 0) ≤ k + 800; omega) (by show ((n + 310) + 0) ≤ n + 6400; omega) (J H2 ⟨_, _, _, hO2, hM2, hAg.1, hAg.2.1, hma2, oa_addGlider c x1 x2 x3 a⟩)
  · have hc0 : (o_addGlider c x1 x2 x3 a).1 = 0 := wA_0 h2
    have hf1 : f1 0 = ((q_addGlider (sY m 0 0) x1 x2 x3).1).toInt64 := (hans hc0).trans (congrArg Int32.toInt64 (hAg.2.2.2.1 hc0))
    refine x_aload_n F dL_law_277 5 rfl rfl ?_
    refine x_iconst (v := 0) F rfl dL_law_278 ?_
    refine x_lald F hO2.2.1 (i := 0) (vp_in_nI (n := 0) (by decide) (by decide)) dL_law_279 ?_
    refine wx_l (y := f1 0) rfl ?_
    refine x_iload F dL_law_280 0 rfl ?_
    refine x_i2l F dL_law_282 ?_
    refine x_lcmp F dL_law_283 ?_
    refine wx_i (y := 0) (by rw [hf1, lcmp0]) ?_
    refine x_if_eq F dL_law_284 (tgt := 289) (by decide) (fun _ => ?_) (fun h3 => absurd (rfl) h3)
    refine x_goto F dL_law_289 (tgt := 1482) (by decide) ?_
    refine wx_sub (lv' := lvL b (ad c 0 0) (ma m) ob i) [2, 3, 4, 5, 6] rfl ?_
    exact wx_wd (by show ((k + 2) + 0) ≤ k + 800; omega) (by show ((n + 310) + 0) ≤ n + 6400; omega) (J H2 ⟨_, _, _, hO2, hM2, hAg.1, hAg.2.1, hma2, oa_addGlider c x1 x2 x3 a⟩)
set_option maxHeartbeats 4000000 in
set_option maxRecDepth 100000 in
theorem la_setWind (l : Launch) (hL0 : l.stackTraces = false) (G : GT) (E : WE) (S0 : Heap) (F : fx l room_1 G (fun q => S0.size ≤ q) S0 9 cL_law "GliderDayLaw" E) {b N : Nat} {xs : Nat → Int32} (hX : sX b N xs E) (hbA : ¬ S0.size ≤ b) (hN : N ≤ 3072) {xa ob : Nat} {fa : Nat → Nat} (hfa : ∀ q, Am fa q → S0.size ≤ q) {H : Heap} (hI : LI G S0.size xa ob fa H) {k n i : Nat} (hi : i + 6 ≤ N) (hk : k + 800 ≤ 601024) (hn : n + 6400 ≤ 7293034) (J : ∀ H1 : Heap, LI G S0.size xa ob fa H1 → wx E H1 (k + 800) (n + 6400) 1482 (lvL b xa fa ob i) []) : wx E H k n 292 (lvL b xa fa ob i) [] := by
  obtain ⟨c, m, f, hO, hM, hIC, hRl, hma, hxa⟩ := hI
  subst hma hxa
  have hW := r_wf hIC.2.1 hRl.1 hRl.2.2.2.2
  have hzH : S0.size ≤ H.size := Nat.le_trans (hfa _ (Or.inl rfl)) (Nat.le_of_lt (hM.belA rfl _ (Or.inl rfl)))
  obtain ⟨x1, hx1⟩ : ∃ v, xs (nI (i + 1)).toNatClampNeg = v := ⟨_, rfl⟩
  show wx E H k n 292 [(0, .ref b), (1, .ref (ad c 0 0)), (2, .ref (ma m 30)), (3, .ref ob), (4, .int (nI i))] []
  refine x_aload_n F dL_law_292 1 rfl rfl ?_
  refine x_aload_n F dL_law_293 0 rfl rfl ?_
  refine x_iload F dL_law_294 4 rfl ?_
  refine x_iconst (v := 1) F rfl dL_law_296 ?_
  refine x_iadd F dL_law_297 ?_
  refine wx_i (y := nI (i + 1)) (sadd_1 i) ?_
  refine x_sld F hX hbA (v := x1) (vp_in_nI (n := i + 1) (by omega) (by omega)) hx1 dL_law_298 ?_
  refine x_aload_n F dL_law_299 3 rfl rfl ?_
  refine x_callSW (nA := 3) (As := [.ref (ad c 0 0), .int x1, .ref ob]) (rest := []) F (c_L_setWind l G (Aw S0.size (ma m)) c ob f x1 hL0) mw_471 mw_472 mw_54 mw_473 ⟨by decide +kernel, by decide +kernel, by decide +kernel⟩ ⟨⟨(Nat.le_of_ble_eq_true rfl), (Nat.le_of_ble_eq_true rfl)⟩, (by show k + 1 ≤ 601024; omega), (by show n + 6 ≤ 7293034; omega)⟩ dL_law_300 rfl rfl (Nat.le_of_ble_eq_true rfl) (fun q h => h.1) (fun q h => ⟨Nat.le_trans hzH h, fun x => absurd (hM.belA rfl q x) (Nat.not_lt.mpr h)⟩) hO ?_
  rintro _ H1 ⟨f1, rfl, hO1, hans⟩ hz1 hk1
  have hM1 := hM.othA hk1
  have hAg : Agr (o_setWind c x1) (q_setWind (sY m 0 0) x1) wA := a_setWind hIC hRl.t rfl x1
  refine x_istore (lv' := [(5, .int (wA (o_setWind c x1).1)), (0, .ref b), (1, .ref (ad c 0 0)), (2, .ref (ma m 30)), (3, .ref ob), (4, .int (nI i))]) F dL_law_303 (by decide) rfl ?_
  refine x_aload_n F dL_law_305 3 rfl rfl ?_
  refine x_aload_n F dL_law_306 1 rfl rfl ?_
  refine x_iload F dL_law_307 5 rfl ?_
  refine x_iconst (v := 1) F rfl dL_law_309 ?_
  refine x_iadd F dL_law_310 ?_
  refine wx_i (y := nI (i + 1)) (sadd_1 i) ?_
  refine x_sld F hX hbA (v := x1) (vp_in_nI (n := i + 1) (by omega) (by omega)) hx1 dL_law_311 ?_
  refine x_callVo (A1 := fun q => Am (ma m) q ∨ H1.size ≤ q) (rest := []) F hM1.2.2.1 rfl (c_X4_setWind l G (fun q => Am (ma m) q ∨ H1.size ≤ q) m hW x1) k_L_97 ⟨⟨(Nat.le_of_ble_eq_true rfl), (Nat.le_of_ble_eq_true rfl)⟩, (by show (k + 1) + 0 ≤ 601024; omega), (by show (n + 6) + 0 ≤ 7293034; omega)⟩ dL_law_312 rfl rfl (Nat.le_of_ble_eq_true rfl) (fun q h => h.elim (hfa q) (fun x => Nat.le_trans hzH (Nat.le_trans hz1 x))) (fun q h => Or.inr h) (hM1.reg (fun q hq => Or.inl hq)) ?_
  rintro _ H2 ⟨rfl, hM2⟩ hz2 hk2
  have hO2 := hO1.oth hz2 hk2
  have hma2 : ma (q_setWind (sY m 0 0) x1).2 = ma m := qa_setWind (sY m 0 0) x1
  replace hM2 : RepM G (Am (ma m)) (q_setWind (sY m 0 0) x1).2 H2 := hM2.reg (fun q hq => by rw [hma2] at hq; exact hq)
  refine x_istore (lv' := [(6, .int ((q_setWind (sY m 0 0) x1).1)), (5, .int (wA (o_setWind c x1).1)), (0, .ref b), (1, .ref (ad c 0 0)), (2, .ref (ma m 30)), (3, .ref ob), (4, .int (nI i))]) F dL_law_315 (by decide) rfl ?_
  refine x_aload_n F dL_law_317 4 rfl rfl ?_
  refine wx_r (y := ma (q_setWind (sY m 0 0) x1).2 30) (by rw [hma2]) ?_
  refine x_callVp (rest := []) F hM2.2.2.1 rfl (c_X4_thrown l G _ (q_setWind (sY m 0 0) x1).2) k_L_87 ⟨(Nat.le_of_ble_eq_true rfl), (Nat.le_of_ble_eq_true rfl), rfl, rfl⟩ (by show ((k + 1) + 0) ≤ 601024; omega) (by show ((n + 6) + 0) ≤ 7293034; omega) dL_law_318 rfl rfl (Nat.le_of_ble_eq_true rfl) (hM2.reg (fun q hq => hfa q (hma2 ▸ hq))) ?_
  refine x_iload F dL_law_321 1 rfl ?_
  refine x_icmp_eq F dL_law_323 (tgt := 328) (by decide) (fun _ => ?_) (fun h1 => absurd (hAg.2.2.1) h1)
  refine x_iload F dL_law_328 1 rfl ?_
  refine x_if_ne F dL_law_330 (tgt := 345) (by decide) (fun _ => ?_) (fun h2 => ?_)
  · refine x_goto F dL_law_345 (tgt := 1482) (by decide) ?_
    refine wx_sub (lv' := lvL b (ad c 0 0) (ma m) ob i) [2, 3, 4, 5, 6] rfl ?_
    exact wx_wd (by show ((k + 1) + 0) ≤ k + 800; omega) (by show ((n + 6) + 0) ≤ n + 6400; omega) (J H2 ⟨_, _, _, hO2, hM2, hAg.1, hAg.2.1, hma2, oa_setWind c x1⟩)
  · have hc0 : (o_setWind c x1).1 = 0 := wA_0 h2
    have hf1 : f1 0 = ((q_setWind (sY m 0 0) x1).1).toInt64 := (hans hc0).trans (congrArg Int32.toInt64 (hAg.2.2.2.1 hc0))
    refine x_aload_n F dL_law_333 5 rfl rfl ?_
    refine x_iconst (v := 0) F rfl dL_law_334 ?_
    refine x_lald F hO2.2.1 (i := 0) (vp_in_nI (n := 0) (by decide) (by decide)) dL_law_335 ?_
    refine wx_l (y := f1 0) rfl ?_
    refine x_iload F dL_law_336 0 rfl ?_
    refine x_i2l F dL_law_338 ?_
    refine x_lcmp F dL_law_339 ?_
    refine wx_i (y := 0) (by rw [hf1, lcmp0]) ?_
    refine x_if_eq F dL_law_340 (tgt := 345) (by decide) (fun _ => ?_) (fun h3 => absurd (rfl) h3)
    refine x_goto F dL_law_345 (tgt := 1482) (by decide) ?_
    refine wx_sub (lv' := lvL b (ad c 0 0) (ma m) ob i) [2, 3, 4, 5, 6] rfl ?_
    exact wx_wd (by show ((k + 1) + 0) ≤ k + 800; omega) (by show ((n + 6) + 0) ≤ n + 6400; omega) (J H2 ⟨_, _, _, hO2, hM2, hAg.1, hAg.2.1, hma2, oa_setWind c x1⟩)
set_option maxHeartbeats 4000000 in
set_option maxRecDepth 100000 in
theorem la_setSunset (l : Launch) (hL0 : l.stackTraces = false) (G : GT) (E : WE) (S0 : Heap) (F : fx l room_1 G (fun q => S0.size ≤ q) S0 9 cL_law "GliderDayLaw" E) {b N : Nat} {xs : Nat → Int32} (hX : sX b N xs E) (hbA : ¬ S0.size ≤ b) (hN : N ≤ 3072) {xa ob : Nat} {fa : Nat → Nat} (hfa : ∀ q, Am fa q → S0.size ≤ q) {H : Heap} (hI : LI G S0.size xa ob fa H) {k n i : Nat} (hi : i + 6 ≤ N) (hk : k + 800 ≤ 601024) (hn : n + 6400 ≤ 7293034) (J : ∀ H1 : Heap, LI G S0.size xa ob fa H1 → wx E H1 (k + 800) (n + 6400) 1482 (lvL b xa fa ob i) []) : wx E H k n 348 (lvL b xa fa ob i) [] := by
  obtain ⟨c, m, f, hO, hM, hIC, hRl, hma, hxa⟩ := hI
  subst hma hxa
  have hW := r_wf hIC.2.1 hRl.1 hRl.2.2.2.2
  have hzH : S0.size ≤ H.size := Nat.le_trans (hfa _ (Or.inl rfl)) (Nat.le_of_lt (hM.belA rfl _ (Or.inl rfl)))
  obtain ⟨x1, hx1⟩ : ∃ v, xs (nI (i + 1)).toNatClampNeg = v := ⟨_, rfl⟩
  show wx E H k n 348 [(0, .ref b), (1, .ref (ad c 0 0)), (2, .ref (ma m 30)), (3, .ref ob), (4, .int (nI i))] []
  refine x_aload_n F dL_law_348 1 rfl rfl ?_
  refine x_aload_n F dL_law_349 0 rfl rfl ?_
  refine x_iload F dL_law_350 4 rfl ?_
  refine x_iconst (v := 1) F rfl dL_law_352 ?_
  refine x_iadd F dL_law_353 ?_
  refine wx_i (y := nI (i + 1)) (sadd_1 i) ?_
  refine x_sld F hX hbA (v := x1) (vp_in_nI (n := i + 1) (by omega) (by omega)) hx1 dL_law_354 ?_
  refine x_aload_n F dL_law_355 3 rfl rfl ?_
  refine x_callSW (nA := 3) (As := [.ref (ad c 0 0), .int x1, .ref ob]) (rest := []) F (c_L_setSunset l G (Aw S0.size (ma m)) c ob f x1 hL0) mw_479 mw_480 mw_54 mw_481 ⟨by decide +kernel, by decide +kernel, by decide +kernel⟩ ⟨⟨(Nat.le_of_ble_eq_true rfl), (Nat.le_of_ble_eq_true rfl)⟩, (by show k + 1 ≤ 601024; omega), (by show n + 6 ≤ 7293034; omega)⟩ dL_law_356 rfl rfl (Nat.le_of_ble_eq_true rfl) (fun q h => h.1) (fun q h => ⟨Nat.le_trans hzH h, fun x => absurd (hM.belA rfl q x) (Nat.not_lt.mpr h)⟩) hO ?_
  rintro _ H1 ⟨f1, rfl, hO1, hans⟩ hz1 hk1
  have hM1 := hM.othA hk1
  have hAg : Agr (o_setSunset c x1) (q_setSunset (sY m 0 0) x1) wA := a_setSunset hIC hRl.t rfl x1
  refine x_istore (lv' := [(5, .int (wA (o_setSunset c x1).1)), (0, .ref b), (1, .ref (ad c 0 0)), (2, .ref (ma m 30)), (3, .ref ob), (4, .int (nI i))]) F dL_law_359 (by decide) rfl ?_
  refine x_aload_n F dL_law_361 3 rfl rfl ?_
  refine x_aload_n F dL_law_362 1 rfl rfl ?_
  refine x_iload F dL_law_363 5 rfl ?_
  refine x_iconst (v := 1) F rfl dL_law_365 ?_
  refine x_iadd F dL_law_366 ?_
  refine wx_i (y := nI (i + 1)) (sadd_1 i) ?_
  refine x_sld F hX hbA (v := x1) (vp_in_nI (n := i + 1) (by omega) (by omega)) hx1 dL_law_367 ?_
  refine x_callVo (A1 := fun q => Am (ma m) q ∨ H1.size ≤ q) (rest := []) F hM1.2.2.1 rfl (c_X4_setSunset l G (fun q => Am (ma m) q ∨ H1.size ≤ q) m hW x1) k_L_100 ⟨⟨(Nat.le_of_ble_eq_true rfl), (Nat.le_of_ble_eq_true rfl)⟩, (by show (k + 1) + 0 ≤ 601024; omega), (by show (n + 6) + 0 ≤ 7293034; omega)⟩ dL_law_368 rfl rfl (Nat.le_of_ble_eq_true rfl) (fun q h => h.elim (hfa q) (fun x => Nat.le_trans hzH (Nat.le_trans hz1 x))) (fun q h => Or.inr h) (hM1.reg (fun q hq => Or.inl hq)) ?_
  rintro _ H2 ⟨rfl, hM2⟩ hz2 hk2
  have hO2 := hO1.oth hz2 hk2
  have hma2 : ma (q_setSunset (sY m 0 0) x1).2 = ma m := qa_setSunset (sY m 0 0) x1
  replace hM2 : RepM G (Am (ma m)) (q_setSunset (sY m 0 0) x1).2 H2 := hM2.reg (fun q hq => by rw [hma2] at hq; exact hq)
  refine x_istore (lv' := [(6, .int ((q_setSunset (sY m 0 0) x1).1)), (5, .int (wA (o_setSunset c x1).1)), (0, .ref b), (1, .ref (ad c 0 0)), (2, .ref (ma m 30)), (3, .ref ob), (4, .int (nI i))]) F dL_law_371 (by decide) rfl ?_
  refine x_aload_n F dL_law_373 4 rfl rfl ?_
  refine wx_r (y := ma (q_setSunset (sY m 0 0) x1).2 30) (by rw [hma2]) ?_
  refine x_callVp (rest := []) F hM2.2.2.1 rfl (c_X4_thrown l G _ (q_setSunset (sY m 0 0) x1).2) k_L_87 ⟨(Nat.le_of_ble_eq_true rfl), (Nat.le_of_ble_eq_true rfl), rfl, rfl⟩ (by show ((k + 1) + 0) ≤ 601024; omega) (by show ((n + 6) + 0) ≤ 7293034; omega) dL_law_374 rfl rfl (Nat.le_of_ble_eq_true rfl) (hM2.reg (fun q hq => hfa q (hma2 ▸ hq))) ?_
  refine x_iload F dL_law_377 1 rfl ?_
  refine x_icmp_eq F dL_law_379 (tgt := 384) (by decide) (fun _ => ?_) (fun h1 => absurd (hAg.2.2.1) h1)
  refine x_iload F dL_law_384 1 rfl ?_
  refine x_if_ne F dL_law_386 (tgt := 401) (by decide) (fun _ => ?_) (fun h2 => ?_)
  · refine x_goto F dL_law_401 (tgt := 1482) (by decide) ?_
    refine wx_sub (lv' := lvL b (ad c 0 0) (ma m) ob i) [2, 3, 4, 5, 6] rfl ?_
    exact wx_wd (by show ((k + 1) + 0) ≤ k + 800; omega) (by show ((n + 6) + 0) ≤ n + 6400; omega) (J H2 ⟨_, _, _, hO2, hM2, hAg.1, hAg.2.1, hma2, oa_setSunset c x1⟩)
  · have hc0 : (o_setSunset c x1).1 = 0 := wA_0 h2
    have hf1 : f1 0 = ((q_setSunset (sY m 0 0) x1).1).toInt64 := (hans hc0).trans (congrArg Int32.toInt64 (hAg.2.2.2.1 hc0))
    refine x_aload_n F dL_law_389 5 rfl rfl ?_
    refine x_iconst (v := 0) F rfl dL_law_390 ?_
    refine x_lald F hO2.2.1 (i := 0) (vp_in_nI (n := 0) (by decide) (by decide)) dL_law_391 ?_
    refine wx_l (y := f1 0) rfl ?_
    refine x_iload F dL_law_392 0 rfl ?_
    refine x_i2l F dL_law_394 ?_
    refine x_lcmp F dL_law_395 ?_
    refine wx_i (y := 0) (by rw [hf1, lcmp0]) ?_
    refine x_if_eq F dL_law_396 (tgt := 401) (by decide) (fun _ => ?_) (fun h3 => absurd (rfl) h3)
    refine x_goto F dL_law_401 (tgt := 1482) (by decide) ?_
    refine wx_sub (lv' := lvL b (ad c 0 0) (ma m) ob i) [2, 3, 4, 5, 6] rfl ?_
    exact wx_wd (by show ((k + 1) + 0) ≤ k + 800; omega) (by show ((n + 6) + 0) ≤ n + 6400; omega) (J H2 ⟨_, _, _, hO2, hM2, hAg.1, hAg.2.1, hma2, oa_setSunset c x1⟩)
set_option maxHeartbeats 4000000 in
set_option maxRecDepth 100000 in
theorem la_setTugs (l : Launch) (hL0 : l.stackTraces = false) (G : GT) (E : WE) (S0 : Heap) (F : fx l room_1 G (fun q => S0.size ≤ q) S0 9 cL_law "GliderDayLaw" E) {b N : Nat} {xs : Nat → Int32} (hX : sX b N xs E) (hbA : ¬ S0.size ≤ b) (hN : N ≤ 3072) {xa ob : Nat} {fa : Nat → Nat} (hfa : ∀ q, Am fa q → S0.size ≤ q) {H : Heap} (hI : LI G S0.size xa ob fa H) {k n i : Nat} (hi : i + 6 ≤ N) (hk : k + 800 ≤ 601024) (hn : n + 6400 ≤ 7293034) (J : ∀ H1 : Heap, LI G S0.size xa ob fa H1 → wx E H1 (k + 800) (n + 6400) 1482 (lvL b xa fa ob i) []) : wx E H k n 404 (lvL b xa fa ob i) [] := by
  obtain ⟨c, m, f, hO, hM, hIC, hRl, hma, hxa⟩ := hI
  subst hma hxa
  have hW := r_wf hIC.2.1 hRl.1 hRl.2.2.2.2
  have hzH : S0.size ≤ H.size := Nat.le_trans (hfa _ (Or.inl rfl)) (Nat.le_of_lt (hM.belA rfl _ (Or.inl rfl)))
  obtain ⟨x1, hx1⟩ : ∃ v, xs (nI (i + 1)).toNatClampNeg = v := ⟨_, rfl⟩
  show wx E H k n 404 [(0, .ref b), (1, .ref (ad c 0 0)), (2, .ref (ma m 30)), (3, .ref ob), (4, .int (nI i))] []
  refine x_aload_n F dL_law_404 1 rfl rfl ?_
  refine x_aload_n F dL_law_405 0 rfl rfl ?_
  refine x_iload F dL_law_406 4 rfl ?_
  refine x_iconst (v := 1) F rfl dL_law_408 ?_
  refine x_iadd F dL_law_409 ?_
  refine wx_i (y := nI (i + 1)) (sadd_1 i) ?_
  refine x_sld F hX hbA (v := x1) (vp_in_nI (n := i + 1) (by omega) (by omega)) hx1 dL_law_410 ?_
  refine x_aload_n F dL_law_411 3 rfl rfl ?_
  refine x_callSW (nA := 3) (As := [.ref (ad c 0 0), .int x1, .ref ob]) (rest := []) F (c_L_setTugs l G (Aw S0.size (ma m)) c ob f x1 hL0) mw_487 mw_488 mw_54 mw_489 ⟨by decide +kernel, by decide +kernel, by decide +kernel⟩ ⟨⟨(Nat.le_of_ble_eq_true rfl), (Nat.le_of_ble_eq_true rfl)⟩, (by show k + 1 ≤ 601024; omega), (by show n + 6 ≤ 7293034; omega)⟩ dL_law_412 rfl rfl (Nat.le_of_ble_eq_true rfl) (fun q h => h.1) (fun q h => ⟨Nat.le_trans hzH h, fun x => absurd (hM.belA rfl q x) (Nat.not_lt.mpr h)⟩) hO ?_
  rintro _ H1 ⟨f1, rfl, hO1, hans⟩ hz1 hk1
  have hM1 := hM.othA hk1
  have hAg : Agr (o_setTugs c x1) (q_setTugs (sY m 0 0) x1) wA := a_setTugs hIC hRl.t rfl x1
  refine x_istore (lv' := [(5, .int (wA (o_setTugs c x1).1)), (0, .ref b), (1, .ref (ad c 0 0)), (2, .ref (ma m 30)), (3, .ref ob), (4, .int (nI i))]) F dL_law_415 (by decide) rfl ?_
  refine x_aload_n F dL_law_417 3 rfl rfl ?_
  refine x_aload_n F dL_law_418 1 rfl rfl ?_
  refine x_iload F dL_law_419 5 rfl ?_
  refine x_iconst (v := 1) F rfl dL_law_421 ?_
  refine x_iadd F dL_law_422 ?_
  refine wx_i (y := nI (i + 1)) (sadd_1 i) ?_
  refine x_sld F hX hbA (v := x1) (vp_in_nI (n := i + 1) (by omega) (by omega)) hx1 dL_law_423 ?_
  refine x_callVo (A1 := fun q => Am (ma m) q ∨ H1.size ≤ q) (rest := []) F hM1.2.2.1 rfl (c_X4_setTugs l G (fun q => Am (ma m) q ∨ H1.size ≤ q) m hW x1) k_L_103 ⟨⟨(Nat.le_of_ble_eq_true rfl), (Nat.le_of_ble_eq_true rfl)⟩, (by show (k + 1) + 0 ≤ 601024; omega), (by show (n + 6) + 0 ≤ 7293034; omega)⟩ dL_law_424 rfl rfl (Nat.le_of_ble_eq_true rfl) (fun q h => h.elim (hfa q) (fun x => Nat.le_trans hzH (Nat.le_trans hz1 x))) (fun q h => Or.inr h) (hM1.reg (fun q hq => Or.inl hq)) ?_
  rintro _ H2 ⟨rfl, hM2⟩ hz2 hk2
  have hO2 := hO1.oth hz2 hk2
  have hma2 : ma (q_setTugs (sY m 0 0) x1).2 = ma m := qa_setTugs (sY m 0 0) x1
  replace hM2 : RepM G (Am (ma m)) (q_setTugs (sY m 0 0) x1).2 H2 := hM2.reg (fun q hq => by rw [hma2] at hq; exact hq)
  refine x_istore (lv' := [(6, .int ((q_setTugs (sY m 0 0) x1).1)), (5, .int (wA (o_setTugs c x1).1)), (0, .ref b), (1, .ref (ad c 0 0)), (2, .ref (ma m 30)), (3, .ref ob), (4, .int (nI i))]) F dL_law_427 (by decide) rfl ?_
  refine x_aload_n F dL_law_429 4 rfl rfl ?_
  refine wx_r (y := ma (q_setTugs (sY m 0 0) x1).2 30) (by rw [hma2]) ?_
  refine x_callVp (rest := []) F hM2.2.2.1 rfl (c_X4_thrown l G _ (q_setTugs (sY m 0 0) x1).2) k_L_87 ⟨(Nat.le_of_ble_eq_true rfl), (Nat.le_of_ble_eq_true rfl), rfl, rfl⟩ (by show ((k + 1) + 0) ≤ 601024; omega) (by show ((n + 6) + 0) ≤ 7293034; omega) dL_law_430 rfl rfl (Nat.le_of_ble_eq_true rfl) (hM2.reg (fun q hq => hfa q (hma2 ▸ hq))) ?_
  refine x_iload F dL_law_433 1 rfl ?_
  refine x_icmp_eq F dL_law_435 (tgt := 440) (by decide) (fun _ => ?_) (fun h1 => absurd (hAg.2.2.1) h1)
  refine x_iload F dL_law_440 1 rfl ?_
  refine x_if_ne F dL_law_442 (tgt := 457) (by decide) (fun _ => ?_) (fun h2 => ?_)
  · refine x_goto F dL_law_457 (tgt := 1482) (by decide) ?_
    refine wx_sub (lv' := lvL b (ad c 0 0) (ma m) ob i) [2, 3, 4, 5, 6] rfl ?_
    exact wx_wd (by show ((k + 1) + 0) ≤ k + 800; omega) (by show ((n + 6) + 0) ≤ n + 6400; omega) (J H2 ⟨_, _, _, hO2, hM2, hAg.1, hAg.2.1, hma2, oa_setTugs c x1⟩)
  · have hc0 : (o_setTugs c x1).1 = 0 := wA_0 h2
    have hf1 : f1 0 = ((q_setTugs (sY m 0 0) x1).1).toInt64 := (hans hc0).trans (congrArg Int32.toInt64 (hAg.2.2.2.1 hc0))
    refine x_aload_n F dL_law_445 5 rfl rfl ?_
    refine x_iconst (v := 0) F rfl dL_law_446 ?_
    refine x_lald F hO2.2.1 (i := 0) (vp_in_nI (n := 0) (by decide) (by decide)) dL_law_447 ?_
    refine wx_l (y := f1 0) rfl ?_
    refine x_iload F dL_law_448 0 rfl ?_
    refine x_i2l F dL_law_450 ?_
    refine x_lcmp F dL_law_451 ?_
    refine wx_i (y := 0) (by rw [hf1, lcmp0]) ?_
    refine x_if_eq F dL_law_452 (tgt := 457) (by decide) (fun _ => ?_) (fun h3 => absurd (rfl) h3)
    refine x_goto F dL_law_457 (tgt := 1482) (by decide) ?_
    refine wx_sub (lv' := lvL b (ad c 0 0) (ma m) ob i) [2, 3, 4, 5, 6] rfl ?_
    exact wx_wd (by show ((k + 1) + 0) ≤ k + 800; omega) (by show ((n + 6) + 0) ≤ n + 6400; omega) (J H2 ⟨_, _, _, hO2, hM2, hAg.1, hAg.2.1, hma2, oa_setTugs c x1⟩)
set_option maxHeartbeats 4000000 in
set_option maxRecDepth 100000 in
theorem la_bar (l : Launch) (hL0 : l.stackTraces = false) (G : GT) (E : WE) (S0 : Heap) (F : fx l room_1 G (fun q => S0.size ≤ q) S0 9 cL_law "GliderDayLaw" E) {b N : Nat} {xs : Nat → Int32} (hX : sX b N xs E) (hbA : ¬ S0.size ≤ b) (hN : N ≤ 3072) {xa ob : Nat} {fa : Nat → Nat} (hfa : ∀ q, Am fa q → S0.size ≤ q) {H : Heap} (hI : LI G S0.size xa ob fa H) {k n i : Nat} (hi : i + 6 ≤ N) (hk : k + 800 ≤ 601024) (hn : n + 6400 ≤ 7293034) (J : ∀ H1 : Heap, LI G S0.size xa ob fa H1 → wx E H1 (k + 800) (n + 6400) 1482 (lvL b xa fa ob i) []) : wx E H k n 460 (lvL b xa fa ob i) [] := by
  obtain ⟨c, m, f, hO, hM, hIC, hRl, hma, hxa⟩ := hI
  subst hma hxa
  have hW := r_wf hIC.2.1 hRl.1 hRl.2.2.2.2
  have hzH : S0.size ≤ H.size := Nat.le_trans (hfa _ (Or.inl rfl)) (Nat.le_of_lt (hM.belA rfl _ (Or.inl rfl)))
  obtain ⟨x1, hx1⟩ : ∃ v, xs (nI (i + 1)).toNatClampNeg = v := ⟨_, rfl⟩
  obtain ⟨x2, hx2⟩ : ∃ v, xs (nI (i + 2)).toNatClampNeg = v := ⟨_, rfl⟩
  show wx E H k n 460 [(0, .ref b), (1, .ref (ad c 0 0)), (2, .ref (ma m 30)), (3, .ref ob), (4, .int (nI i))] []
  refine x_aload_n F dL_law_460 1 rfl rfl ?_
  refine x_aload_n F dL_law_461 0 rfl rfl ?_
  refine x_iload F dL_law_462 4 rfl ?_
  refine x_iconst (v := 1) F rfl dL_law_464 ?_
  refine x_iadd F dL_law_465 ?_
  refine wx_i (y := nI (i + 1)) (sadd_1 i) ?_
  refine x_sld F hX hbA (v := x1) (vp_in_nI (n := i + 1) (by omega) (by omega)) hx1 dL_law_466 ?_
  refine x_aload_n F dL_law_467 0 rfl rfl ?_
  refine x_iload F dL_law_468 4 rfl ?_
  refine x_iconst (v := 2) F rfl dL_law_470 ?_
  refine x_iadd F dL_law_471 ?_
  refine wx_i (y := nI (i + 2)) (sadd_2 i) ?_
  refine x_sld F hX hbA (v := x2) (vp_in_nI (n := i + 2) (by omega) (by omega)) hx2 dL_law_472 ?_
  refine x_if_eq F dL_law_473 (tgt := 480) (by decide) (fun h1 => ?_) (fun h1 => ?_)
  · refine x_iconst (v := 0) F rfl dL_law_480 ?_
    refine x_aload_n F dL_law_481 3 rfl rfl ?_
    refine x_callSW (nA := 4) (As := [.ref (ad c 0 0), .int x1, .int 0, .ref ob]) (rest := []) F (c_L_bar l G (Aw S0.size (ma m)) c ob f x1 0 (Or.inl rfl) (bar01 hIC hRl).1 hL0) mw_496 mw_497 mw_54 mw_498 ⟨by decide +kernel, by decide +kernel, by decide +kernel⟩ ⟨⟨(Nat.le_of_ble_eq_true rfl), (Nat.le_of_ble_eq_true rfl)⟩, (by show k + 2 ≤ 601024; omega), (by show n + 12 ≤ 7293034; omega)⟩ dL_law_482 rfl rfl (Nat.le_of_ble_eq_true rfl) (fun q h => h.1) (fun q h => ⟨Nat.le_trans hzH h, fun x => absurd (hM.belA rfl q x) (Nat.not_lt.mpr h)⟩) hO ?_
    rintro _ H1 ⟨f1, rfl, hO1, hans⟩ hz1 hk1
    have hM1 := hM.othA hk1
    have hAg : Agr (o_bar c x1 0) (q_bar m x1 0) wB := a_bar hIC hRl x1 0 (Or.inl rfl)
    refine x_istore (lv' := [(5, .int (wB (o_bar c x1 0).1)), (0, .ref b), (1, .ref (ad c 0 0)), (2, .ref (ma m 30)), (3, .ref ob), (4, .int (nI i))]) F dL_law_485 (by decide) rfl ?_
    refine x_aload_n F dL_law_487 3 rfl rfl ?_
    refine x_aload_n F dL_law_488 1 rfl rfl ?_
    refine x_iload F dL_law_489 5 rfl ?_
    refine x_iconst (v := 1) F rfl dL_law_491 ?_
    refine x_iadd F dL_law_492 ?_
    refine wx_i (y := nI (i + 1)) (sadd_1 i) ?_
    refine x_sld F hX hbA (v := x1) (vp_in_nI (n := i + 1) (by omega) (by omega)) hx1 dL_law_493 ?_
    refine x_aload_n F dL_law_494 1 rfl rfl ?_
    refine x_iload F dL_law_495 5 rfl ?_
    refine x_iconst (v := 2) F rfl dL_law_497 ?_
    refine x_iadd F dL_law_498 ?_
    refine wx_i (y := nI (i + 2)) (sadd_2 i) ?_
    refine x_sld F hX hbA (v := x2) (vp_in_nI (n := i + 2) (by omega) (by omega)) hx2 dL_law_499 ?_
    refine x_if_eq F dL_law_500 (tgt := 507) (by decide) (fun _ => ?_) (fun h2 => absurd (h1) h2)
    refine x_iconst (v := 0) F rfl dL_law_507 ?_
    refine x_callVo (A1 := fun q => Am (ma m) q ∨ H1.size ≤ q) (rest := []) F hM1.2.2.1 rfl (c_X4_bar l G (fun q => Am (ma m) q ∨ H1.size ≤ q) m hW x1 0 (Or.inl rfl) (bar01 hIC hRl).2) k_L_107 ⟨⟨(Nat.le_of_ble_eq_true rfl), (Nat.le_of_ble_eq_true rfl)⟩, (by show (k + 2) + 0 ≤ 601024; omega), (by show (n + 12) + 0 ≤ 7293034; omega)⟩ dL_law_508 rfl rfl (Nat.le_of_ble_eq_true rfl) (fun q h => h.elim (hfa q) (fun x => Nat.le_trans hzH (Nat.le_trans hz1 x))) (fun q h => Or.inr h) (hM1.reg (fun q hq => Or.inl hq)) ?_
    rintro _ H2 ⟨rfl, hM2⟩ hz2 hk2
    have hO2 := hO1.oth hz2 hk2
    have hma2 : ma (q_bar m x1 0).2 = ma m := qa_bar m x1 0
    replace hM2 : RepM G (Am (ma m)) (q_bar m x1 0).2 H2 := hM2.reg (fun q hq => by rw [hma2] at hq; exact hq)
    refine x_istore (lv' := [(6, .int ((q_bar m x1 0).1)), (5, .int (wB (o_bar c x1 0).1)), (0, .ref b), (1, .ref (ad c 0 0)), (2, .ref (ma m 30)), (3, .ref ob), (4, .int (nI i))]) F dL_law_511 (by decide) rfl ?_
    refine x_aload_n F dL_law_513 4 rfl rfl ?_
    refine wx_r (y := ma (q_bar m x1 0).2 30) (by rw [hma2]) ?_
    refine x_callVp (rest := []) F hM2.2.2.1 rfl (c_X4_thrown l G _ (q_bar m x1 0).2) k_L_87 ⟨(Nat.le_of_ble_eq_true rfl), (Nat.le_of_ble_eq_true rfl), rfl, rfl⟩ (by show ((k + 2) + 0) ≤ 601024; omega) (by show ((n + 12) + 0) ≤ 7293034; omega) dL_law_514 rfl rfl (Nat.le_of_ble_eq_true rfl) (hM2.reg (fun q hq => hfa q (hma2 ▸ hq))) ?_
    refine x_iload F dL_law_517 1 rfl ?_
    refine x_icmp_eq F dL_law_519 (tgt := 524) (by decide) (fun _ => ?_) (fun h3 => absurd (hAg.2.2.1) h3)
    refine x_iload F dL_law_524 1 rfl ?_
    refine x_if_ne F dL_law_526 (tgt := 548) (by decide) (fun _ => ?_) (fun h4 => ?_)
    · refine x_goto F dL_law_548 (tgt := 1482) (by decide) ?_
      refine wx_sub (lv' := lvL b (ad c 0 0) (ma m) ob i) [2, 3, 4, 5, 6] rfl ?_
      exact wx_wd (by show ((k + 2) + 0) ≤ k + 800; omega) (by show ((n + 12) + 0) ≤ n + 6400; omega) (J H2 ⟨_, _, _, hO2, hM2, hAg.1, hAg.2.1, hma2, oa_bar c x1 0⟩)
    · have hc0 : (o_bar c x1 0).1 = 0 := wB_0 h4
      have hf1 : f1 0 = ((q_bar m x1 0).1).toInt64 := (hans hc0).trans (congrArg Int32.toInt64 (hAg.2.2.2.1 hc0))
      refine x_aload_n F dL_law_529 5 rfl rfl ?_
      refine x_iconst (v := 0) F rfl dL_law_530 ?_
      refine x_lald F hO2.2.1 (i := 0) (vp_in_nI (n := 0) (by decide) (by decide)) dL_law_531 ?_
      refine wx_l (y := f1 0) rfl ?_
      refine x_iload F dL_law_532 0 rfl ?_
      refine x_if_eq F dL_law_534 (tgt := 541) (by decide) (fun h5 => ?_) (fun h5 => ?_)
      · have hfb : f1 0 = 0 := by rw [hf1, h5]; rfl
        refine x_lconst F dL_law_541 rfl ?_
        refine x_lcmp F dL_law_542 ?_
        refine wx_i (y := 0) (by rw [hfb]; exact lcmp0 _) ?_
        refine x_if_eq F dL_law_543 (tgt := 548) (by decide) (fun _ => ?_) (fun h6 => absurd (rfl) h6)
        refine x_goto F dL_law_548 (tgt := 1482) (by decide) ?_
        refine wx_sub (lv' := lvL b (ad c 0 0) (ma m) ob i) [2, 3, 4, 5, 6] rfl ?_
        exact wx_wd (by show ((k + 2) + 0) ≤ k + 800; omega) (by show ((n + 12) + 0) ≤ n + 6400; omega) (J H2 ⟨_, _, _, hO2, hM2, hAg.1, hAg.2.1, hma2, oa_bar c x1 0⟩)
      · have hfb : f1 0 = 1 := by rw [hf1, (show (q_bar m x1 0).1 = 1 from ((by rw [← hAg.2.2.2.1 hc0]; exact bar_01 hO.1.wf.1.2.1 (bar01 hIC hRl).1 : (q_bar m x1 0).1 = 0 ∨ (q_bar m x1 0).1 = 1)).resolve_left h5)]; rfl
        refine x_lconst F dL_law_537 rfl ?_
        refine x_goto F dL_law_538 (tgt := 542) (by decide) ?_
        refine x_lcmp F dL_law_542 ?_
        refine wx_i (y := 0) (by rw [hfb]; exact lcmp0 _) ?_
        refine x_if_eq F dL_law_543 (tgt := 548) (by decide) (fun _ => ?_) (fun h7 => absurd (rfl) h7)
        refine x_goto F dL_law_548 (tgt := 1482) (by decide) ?_
        refine wx_sub (lv' := lvL b (ad c 0 0) (ma m) ob i) [2, 3, 4, 5, 6] rfl ?_
        exact wx_wd (by show ((k + 2) + 0) ≤ k + 800; omega) (by show ((n + 12) + 0) ≤ n + 6400; omega) (J H2 ⟨_, _, _, hO2, hM2, hAg.1, hAg.2.1, hma2, oa_bar c x1 0⟩)
  · refine x_iconst (v := 1) F rfl dL_law_476 ?_
    refine x_goto F dL_law_477 (tgt := 481) (by decide) ?_
    refine x_aload_n F dL_law_481 3 rfl rfl ?_
    refine x_callSW (nA := 4) (As := [.ref (ad c 0 0), .int x1, .int 1, .ref ob]) (rest := []) F (c_L_bar l G (Aw S0.size (ma m)) c ob f x1 1 (Or.inr rfl) (bar01 hIC hRl).1 hL0) mw_496 mw_497 mw_54 mw_498 ⟨by decide +kernel, by decide +kernel, by decide +kernel⟩ ⟨⟨(Nat.le_of_ble_eq_true rfl), (Nat.le_of_ble_eq_true rfl)⟩, (by show k + 2 ≤ 601024; omega), (by show n + 12 ≤ 7293034; omega)⟩ dL_law_482 rfl rfl (Nat.le_of_ble_eq_true rfl) (fun q h => h.1) (fun q h => ⟨Nat.le_trans hzH h, fun x => absurd (hM.belA rfl q x) (Nat.not_lt.mpr h)⟩) hO ?_
    rintro _ H1 ⟨f1, rfl, hO1, hans⟩ hz1 hk1
    have hM1 := hM.othA hk1
    have hAg : Agr (o_bar c x1 1) (q_bar m x1 1) wB := a_bar hIC hRl x1 1 (Or.inr rfl)
    refine x_istore (lv' := [(5, .int (wB (o_bar c x1 1).1)), (0, .ref b), (1, .ref (ad c 0 0)), (2, .ref (ma m 30)), (3, .ref ob), (4, .int (nI i))]) F dL_law_485 (by decide) rfl ?_
    refine x_aload_n F dL_law_487 3 rfl rfl ?_
    refine x_aload_n F dL_law_488 1 rfl rfl ?_
    refine x_iload F dL_law_489 5 rfl ?_
    refine x_iconst (v := 1) F rfl dL_law_491 ?_
    refine x_iadd F dL_law_492 ?_
    refine wx_i (y := nI (i + 1)) (sadd_1 i) ?_
    refine x_sld F hX hbA (v := x1) (vp_in_nI (n := i + 1) (by omega) (by omega)) hx1 dL_law_493 ?_
    refine x_aload_n F dL_law_494 1 rfl rfl ?_
    refine x_iload F dL_law_495 5 rfl ?_
    refine x_iconst (v := 2) F rfl dL_law_497 ?_
    refine x_iadd F dL_law_498 ?_
    refine wx_i (y := nI (i + 2)) (sadd_2 i) ?_
    refine x_sld F hX hbA (v := x2) (vp_in_nI (n := i + 2) (by omega) (by omega)) hx2 dL_law_499 ?_
    refine x_if_eq F dL_law_500 (tgt := 507) (by decide) (fun h8 => absurd h8 (h1)) (fun _ => ?_)
    refine x_iconst (v := 1) F rfl dL_law_503 ?_
    refine x_goto F dL_law_504 (tgt := 508) (by decide) ?_
    refine x_callVo (A1 := fun q => Am (ma m) q ∨ H1.size ≤ q) (rest := []) F hM1.2.2.1 rfl (c_X4_bar l G (fun q => Am (ma m) q ∨ H1.size ≤ q) m hW x1 1 (Or.inr rfl) (bar01 hIC hRl).2) k_L_107 ⟨⟨(Nat.le_of_ble_eq_true rfl), (Nat.le_of_ble_eq_true rfl)⟩, (by show (k + 2) + 0 ≤ 601024; omega), (by show (n + 12) + 0 ≤ 7293034; omega)⟩ dL_law_508 rfl rfl (Nat.le_of_ble_eq_true rfl) (fun q h => h.elim (hfa q) (fun x => Nat.le_trans hzH (Nat.le_trans hz1 x))) (fun q h => Or.inr h) (hM1.reg (fun q hq => Or.inl hq)) ?_
    rintro _ H2 ⟨rfl, hM2⟩ hz2 hk2
    have hO2 := hO1.oth hz2 hk2
    have hma2 : ma (q_bar m x1 1).2 = ma m := qa_bar m x1 1
    replace hM2 : RepM G (Am (ma m)) (q_bar m x1 1).2 H2 := hM2.reg (fun q hq => by rw [hma2] at hq; exact hq)
    refine x_istore (lv' := [(6, .int ((q_bar m x1 1).1)), (5, .int (wB (o_bar c x1 1).1)), (0, .ref b), (1, .ref (ad c 0 0)), (2, .ref (ma m 30)), (3, .ref ob), (4, .int (nI i))]) F dL_law_511 (by decide) rfl ?_
    refine x_aload_n F dL_law_513 4 rfl rfl ?_
    refine wx_r (y := ma (q_bar m x1 1).2 30) (by rw [hma2]) ?_
    refine x_callVp (rest := []) F hM2.2.2.1 rfl (c_X4_thrown l G _ (q_bar m x1 1).2) k_L_87 ⟨(Nat.le_of_ble_eq_true rfl), (Nat.le_of_ble_eq_true rfl), rfl, rfl⟩ (by show ((k + 2) + 0) ≤ 601024; omega) (by show ((n + 12) + 0) ≤ 7293034; omega) dL_law_514 rfl rfl (Nat.le_of_ble_eq_true rfl) (hM2.reg (fun q hq => hfa q (hma2 ▸ hq))) ?_
    refine x_iload F dL_law_517 1 rfl ?_
    refine x_icmp_eq F dL_law_519 (tgt := 524) (by decide) (fun _ => ?_) (fun h9 => absurd (hAg.2.2.1) h9)
    refine x_iload F dL_law_524 1 rfl ?_
    refine x_if_ne F dL_law_526 (tgt := 548) (by decide) (fun _ => ?_) (fun h10 => ?_)
    · refine x_goto F dL_law_548 (tgt := 1482) (by decide) ?_
      refine wx_sub (lv' := lvL b (ad c 0 0) (ma m) ob i) [2, 3, 4, 5, 6] rfl ?_
      exact wx_wd (by show ((k + 2) + 0) ≤ k + 800; omega) (by show ((n + 12) + 0) ≤ n + 6400; omega) (J H2 ⟨_, _, _, hO2, hM2, hAg.1, hAg.2.1, hma2, oa_bar c x1 1⟩)
    · have hc0 : (o_bar c x1 1).1 = 0 := wB_0 h10
      have hf1 : f1 0 = ((q_bar m x1 1).1).toInt64 := (hans hc0).trans (congrArg Int32.toInt64 (hAg.2.2.2.1 hc0))
      refine x_aload_n F dL_law_529 5 rfl rfl ?_
      refine x_iconst (v := 0) F rfl dL_law_530 ?_
      refine x_lald F hO2.2.1 (i := 0) (vp_in_nI (n := 0) (by decide) (by decide)) dL_law_531 ?_
      refine wx_l (y := f1 0) rfl ?_
      refine x_iload F dL_law_532 0 rfl ?_
      refine x_if_eq F dL_law_534 (tgt := 541) (by decide) (fun h11 => ?_) (fun h11 => ?_)
      · have hfb : f1 0 = 0 := by rw [hf1, h11]; rfl
        refine x_lconst F dL_law_541 rfl ?_
        refine x_lcmp F dL_law_542 ?_
        refine wx_i (y := 0) (by rw [hfb]; exact lcmp0 _) ?_
        refine x_if_eq F dL_law_543 (tgt := 548) (by decide) (fun _ => ?_) (fun h12 => absurd (rfl) h12)
        refine x_goto F dL_law_548 (tgt := 1482) (by decide) ?_
        refine wx_sub (lv' := lvL b (ad c 0 0) (ma m) ob i) [2, 3, 4, 5, 6] rfl ?_
        exact wx_wd (by show ((k + 2) + 0) ≤ k + 800; omega) (by show ((n + 12) + 0) ≤ n + 6400; omega) (J H2 ⟨_, _, _, hO2, hM2, hAg.1, hAg.2.1, hma2, oa_bar c x1 1⟩)
      · have hfb : f1 0 = 1 := by rw [hf1, (show (q_bar m x1 1).1 = 1 from ((by rw [← hAg.2.2.2.1 hc0]; exact bar_01 hO.1.wf.1.2.1 (bar01 hIC hRl).1 : (q_bar m x1 1).1 = 0 ∨ (q_bar m x1 1).1 = 1)).resolve_left h11)]; rfl
        refine x_lconst F dL_law_537 rfl ?_
        refine x_goto F dL_law_538 (tgt := 542) (by decide) ?_
        refine x_lcmp F dL_law_542 ?_
        refine wx_i (y := 0) (by rw [hfb]; exact lcmp0 _) ?_
        refine x_if_eq F dL_law_543 (tgt := 548) (by decide) (fun _ => ?_) (fun h13 => absurd (rfl) h13)
        refine x_goto F dL_law_548 (tgt := 1482) (by decide) ?_
        refine wx_sub (lv' := lvL b (ad c 0 0) (ma m) ob i) [2, 3, 4, 5, 6] rfl ?_
        exact wx_wd (by show ((k + 2) + 0) ≤ k + 800; omega) (by show ((n + 12) + 0) ≤ n + 6400; omega) (J H2 ⟨_, _, _, hO2, hM2, hAg.1, hAg.2.1, hma2, oa_bar c x1 1⟩)
set_option maxHeartbeats 4000000 in
set_option maxRecDepth 100000 in
theorem la_promote (l : Launch) (hL0 : l.stackTraces = false) (G : GT) (E : WE) (S0 : Heap) (F : fx l room_1 G (fun q => S0.size ≤ q) S0 9 cL_law "GliderDayLaw" E) {b N : Nat} {xs : Nat → Int32} (hX : sX b N xs E) (hbA : ¬ S0.size ≤ b) (hN : N ≤ 3072) {xa ob : Nat} {fa : Nat → Nat} (hfa : ∀ q, Am fa q → S0.size ≤ q) {H : Heap} (hI : LI G S0.size xa ob fa H) {k n i : Nat} (hi : i + 6 ≤ N) (hk : k + 800 ≤ 601024) (hn : n + 6400 ≤ 7293034) (J : ∀ H1 : Heap, LI G S0.size xa ob fa H1 → wx E H1 (k + 800) (n + 6400) 1482 (lvL b xa fa ob i) []) : wx E H k n 551 (lvL b xa fa ob i) [] := by
  obtain ⟨c, m, f, hO, hM, hIC, hRl, hma, hxa⟩ := hI
  subst hma hxa
  have hW := r_wf hIC.2.1 hRl.1 hRl.2.2.2.2
  have hzH : S0.size ≤ H.size := Nat.le_trans (hfa _ (Or.inl rfl)) (Nat.le_of_lt (hM.belA rfl _ (Or.inl rfl)))
  obtain ⟨x1, hx1⟩ : ∃ v, xs (nI (i + 1)).toNatClampNeg = v := ⟨_, rfl⟩
  show wx E H k n 551 [(0, .ref b), (1, .ref (ad c 0 0)), (2, .ref (ma m 30)), (3, .ref ob), (4, .int (nI i))] []
  refine x_aload_n F dL_law_551 1 rfl rfl ?_
  refine x_aload_n F dL_law_552 0 rfl rfl ?_
  refine x_iload F dL_law_553 4 rfl ?_
  refine x_iconst (v := 1) F rfl dL_law_555 ?_
  refine x_iadd F dL_law_556 ?_
  refine wx_i (y := nI (i + 1)) (sadd_1 i) ?_
  refine x_sld F hX hbA (v := x1) (vp_in_nI (n := i + 1) (by omega) (by omega)) hx1 dL_law_557 ?_
  refine x_aload_n F dL_law_558 3 rfl rfl ?_
  refine x_callSW (nA := 3) (As := [.ref (ad c 0 0), .int x1, .ref ob]) (rest := []) F (c_L_promote l G (Aw S0.size (ma m)) c ob f x1 hL0) mw_525 mw_526 mw_54 mw_527 ⟨by decide +kernel, by decide +kernel, by decide +kernel⟩ ⟨⟨(Nat.le_of_ble_eq_true rfl), (Nat.le_of_ble_eq_true rfl)⟩, (by show k + 2 ≤ 601024; omega), (by show n + 12 ≤ 7293034; omega)⟩ dL_law_559 rfl rfl (Nat.le_of_ble_eq_true rfl) (fun q h => h.1) (fun q h => ⟨Nat.le_trans hzH h, fun x => absurd (hM.belA rfl q x) (Nat.not_lt.mpr h)⟩) hO ?_
  rintro _ H1 ⟨f1, rfl, hO1, hans⟩ hz1 hk1
  have hM1 := hM.othA hk1
  have hAg : Agr (o_promote c x1) (q_promote (sY m 0 0) x1) wB := a_promote hIC hRl.t rfl x1
  refine x_istore (lv' := [(5, .int (wB (o_promote c x1).1)), (0, .ref b), (1, .ref (ad c 0 0)), (2, .ref (ma m 30)), (3, .ref ob), (4, .int (nI i))]) F dL_law_562 (by decide) rfl ?_
  refine x_aload_n F dL_law_564 3 rfl rfl ?_
  refine x_aload_n F dL_law_565 1 rfl rfl ?_
  refine x_iload F dL_law_566 5 rfl ?_
  refine x_iconst (v := 1) F rfl dL_law_568 ?_
  refine x_iadd F dL_law_569 ?_
  refine wx_i (y := nI (i + 1)) (sadd_1 i) ?_
  refine x_sld F hX hbA (v := x1) (vp_in_nI (n := i + 1) (by omega) (by omega)) hx1 dL_law_570 ?_
  refine x_callVo (A1 := fun q => Am (ma m) q ∨ H1.size ≤ q) (rest := []) F hM1.2.2.1 rfl (c_X4_promote l G (fun q => Am (ma m) q ∨ H1.size ≤ q) m hW x1) k_L_110 ⟨⟨(Nat.le_of_ble_eq_true rfl), (Nat.le_of_ble_eq_true rfl)⟩, (by show (k + 2) + 0 ≤ 601024; omega), (by show (n + 12) + 0 ≤ 7293034; omega)⟩ dL_law_571 rfl rfl (Nat.le_of_ble_eq_true rfl) (fun q h => h.elim (hfa q) (fun x => Nat.le_trans hzH (Nat.le_trans hz1 x))) (fun q h => Or.inr h) (hM1.reg (fun q hq => Or.inl hq)) ?_
  rintro _ H2 ⟨rfl, hM2⟩ hz2 hk2
  have hO2 := hO1.oth hz2 hk2
  have hma2 : ma (q_promote (sY m 0 0) x1).2 = ma m := qa_promote (sY m 0 0) x1
  replace hM2 : RepM G (Am (ma m)) (q_promote (sY m 0 0) x1).2 H2 := hM2.reg (fun q hq => by rw [hma2] at hq; exact hq)
  refine x_istore (lv' := [(6, .int ((q_promote (sY m 0 0) x1).1)), (5, .int (wB (o_promote c x1).1)), (0, .ref b), (1, .ref (ad c 0 0)), (2, .ref (ma m 30)), (3, .ref ob), (4, .int (nI i))]) F dL_law_574 (by decide) rfl ?_
  refine x_aload_n F dL_law_576 4 rfl rfl ?_
  refine wx_r (y := ma (q_promote (sY m 0 0) x1).2 30) (by rw [hma2]) ?_
  refine x_callVp (rest := []) F hM2.2.2.1 rfl (c_X4_thrown l G _ (q_promote (sY m 0 0) x1).2) k_L_87 ⟨(Nat.le_of_ble_eq_true rfl), (Nat.le_of_ble_eq_true rfl), rfl, rfl⟩ (by show ((k + 2) + 0) ≤ 601024; omega) (by show ((n + 12) + 0) ≤ 7293034; omega) dL_law_577 rfl rfl (Nat.le_of_ble_eq_true rfl) (hM2.reg (fun q hq => hfa q (hma2 ▸ hq))) ?_
  refine x_iload F dL_law_580 1 rfl ?_
  refine x_icmp_eq F dL_law_582 (tgt := 587) (by decide) (fun _ => ?_) (fun h1 => absurd (hAg.2.2.1) h1)
  refine x_iload F dL_law_587 1 rfl ?_
  refine x_if_ne F dL_law_589 (tgt := 604) (by decide) (fun _ => ?_) (fun h2 => ?_)
  · refine x_goto F dL_law_604 (tgt := 1482) (by decide) ?_
    refine wx_sub (lv' := lvL b (ad c 0 0) (ma m) ob i) [2, 3, 4, 5, 6] rfl ?_
    exact wx_wd (by show ((k + 2) + 0) ≤ k + 800; omega) (by show ((n + 12) + 0) ≤ n + 6400; omega) (J H2 ⟨_, _, _, hO2, hM2, hAg.1, hAg.2.1, hma2, oa_promote c x1⟩)
  · have hc0 : (o_promote c x1).1 = 0 := wB_0 h2
    have hf1 : f1 0 = ((q_promote (sY m 0 0) x1).1).toInt64 := (hans hc0).trans (congrArg Int32.toInt64 (hAg.2.2.2.1 hc0))
    refine x_aload_n F dL_law_592 5 rfl rfl ?_
    refine x_iconst (v := 0) F rfl dL_law_593 ?_
    refine x_lald F hO2.2.1 (i := 0) (vp_in_nI (n := 0) (by decide) (by decide)) dL_law_594 ?_
    refine wx_l (y := f1 0) rfl ?_
    refine x_iload F dL_law_595 0 rfl ?_
    refine x_i2l F dL_law_597 ?_
    refine x_lcmp F dL_law_598 ?_
    refine wx_i (y := 0) (by rw [hf1, lcmp0]) ?_
    refine x_if_eq F dL_law_599 (tgt := 604) (by decide) (fun _ => ?_) (fun h3 => absurd (rfl) h3)
    refine x_goto F dL_law_604 (tgt := 1482) (by decide) ?_
    refine wx_sub (lv' := lvL b (ad c 0 0) (ma m) ob i) [2, 3, 4, 5, 6] rfl ?_
    exact wx_wd (by show ((k + 2) + 0) ≤ k + 800; omega) (by show ((n + 12) + 0) ≤ n + 6400; omega) (J H2 ⟨_, _, _, hO2, hM2, hAg.1, hAg.2.1, hma2, oa_promote c x1⟩)
set_option maxHeartbeats 4000000 in
set_option maxRecDepth 100000 in
theorem la_member (l : Launch) (hL0 : l.stackTraces = false) (G : GT) (E : WE) (S0 : Heap) (F : fx l room_1 G (fun q => S0.size ≤ q) S0 9 cL_law "GliderDayLaw" E) {b N : Nat} {xs : Nat → Int32} (hX : sX b N xs E) (hbA : ¬ S0.size ≤ b) (hN : N ≤ 3072) {xa ob : Nat} {fa : Nat → Nat} (hfa : ∀ q, Am fa q → S0.size ≤ q) {H : Heap} (hI : LI G S0.size xa ob fa H) {k n i : Nat} (hi : i + 6 ≤ N) (hk : k + 800 ≤ 601024) (hn : n + 6400 ≤ 7293034) (J : ∀ H1 : Heap, LI G S0.size xa ob fa H1 → wx E H1 (k + 800) (n + 6400) 1482 (lvL b xa fa ob i) []) : wx E H k n 607 (lvL b xa fa ob i) [] := by
  obtain ⟨c, m, f, hO, hM, hIC, hRl, hma, hxa⟩ := hI
  subst hma hxa
  have hW := r_wf hIC.2.1 hRl.1 hRl.2.2.2.2
  have hzH : S0.size ≤ H.size := Nat.le_trans (hfa _ (Or.inl rfl)) (Nat.le_of_lt (hM.belA rfl _ (Or.inl rfl)))
  obtain ⟨x1, hx1⟩ : ∃ v, xs (nI (i + 1)).toNatClampNeg = v := ⟨_, rfl⟩
  obtain ⟨x2, hx2⟩ : ∃ v, xs (nI (i + 2)).toNatClampNeg = v := ⟨_, rfl⟩
  show wx E H k n 607 [(0, .ref b), (1, .ref (ad c 0 0)), (2, .ref (ma m 30)), (3, .ref ob), (4, .int (nI i))] []
  refine x_aload_n F dL_law_607 1 rfl rfl ?_
  refine x_aload_n F dL_law_608 0 rfl rfl ?_
  refine x_iload F dL_law_609 4 rfl ?_
  refine x_iconst (v := 1) F rfl dL_law_611 ?_
  refine x_iadd F dL_law_612 ?_
  refine wx_i (y := nI (i + 1)) (sadd_1 i) ?_
  refine x_sld F hX hbA (v := x1) (vp_in_nI (n := i + 1) (by omega) (by omega)) hx1 dL_law_613 ?_
  refine x_aload_n F dL_law_614 0 rfl rfl ?_
  refine x_iload F dL_law_615 4 rfl ?_
  refine x_iconst (v := 2) F rfl dL_law_617 ?_
  refine x_iadd F dL_law_618 ?_
  refine wx_i (y := nI (i + 2)) (sadd_2 i) ?_
  refine x_sld F hX hbA (v := x2) (vp_in_nI (n := i + 2) (by omega) (by omega)) hx2 dL_law_619 ?_
  refine x_aload_n F dL_law_620 3 rfl rfl ?_
  refine x_callSW (nA := 4) (As := [.ref (ad c 0 0), .int x1, .int x2, .ref ob]) (rest := []) F (c_L_member l G (Aw S0.size (ma m)) c ob f x1 x2 hL0) mw_541 mw_542 mw_54 mw_543 ⟨by decide +kernel, by decide +kernel, by decide +kernel⟩ ⟨⟨(Nat.le_of_ble_eq_true rfl), (Nat.le_of_ble_eq_true rfl)⟩, (by show k + 2 ≤ 601024; omega), (by show n + 12 ≤ 7293034; omega)⟩ dL_law_621 rfl rfl (Nat.le_of_ble_eq_true rfl) (fun q h => h.1) (fun q h => ⟨Nat.le_trans hzH h, fun x => absurd (hM.belA rfl q x) (Nat.not_lt.mpr h)⟩) hO ?_
  rintro _ H1 ⟨f1, rfl, hO1, hans⟩ hz1 hk1
  have hM1 := hM.othA hk1
  have hAg : Agr (o_member c x1 x2) (q_member (sY m 0 0) x1 x2) wB := a_member hIC hRl.t rfl x1 x2
  refine x_istore (lv' := [(5, .int (wB (o_member c x1 x2).1)), (0, .ref b), (1, .ref (ad c 0 0)), (2, .ref (ma m 30)), (3, .ref ob), (4, .int (nI i))]) F dL_law_624 (by decide) rfl ?_
  refine x_aload_n F dL_law_626 3 rfl rfl ?_
  refine x_aload_n F dL_law_627 1 rfl rfl ?_
  refine x_iload F dL_law_628 5 rfl ?_
  refine x_iconst (v := 1) F rfl dL_law_630 ?_
  refine x_iadd F dL_law_631 ?_
  refine wx_i (y := nI (i + 1)) (sadd_1 i) ?_
  refine x_sld F hX hbA (v := x1) (vp_in_nI (n := i + 1) (by omega) (by omega)) hx1 dL_law_632 ?_
  refine x_aload_n F dL_law_633 1 rfl rfl ?_
  refine x_iload F dL_law_634 5 rfl ?_
  refine x_iconst (v := 2) F rfl dL_law_636 ?_
  refine x_iadd F dL_law_637 ?_
  refine wx_i (y := nI (i + 2)) (sadd_2 i) ?_
  refine x_sld F hX hbA (v := x2) (vp_in_nI (n := i + 2) (by omega) (by omega)) hx2 dL_law_638 ?_
  refine x_callVo (A1 := fun q => Am (ma m) q ∨ H1.size ≤ q) (rest := []) F hM1.2.2.1 rfl (c_X4_member l G (fun q => Am (ma m) q ∨ H1.size ≤ q) m hW x1 x2) k_L_114 ⟨⟨(Nat.le_of_ble_eq_true rfl), (Nat.le_of_ble_eq_true rfl)⟩, (by show (k + 2) + 0 ≤ 601024; omega), (by show (n + 12) + 0 ≤ 7293034; omega)⟩ dL_law_639 rfl rfl (Nat.le_of_ble_eq_true rfl) (fun q h => h.elim (hfa q) (fun x => Nat.le_trans hzH (Nat.le_trans hz1 x))) (fun q h => Or.inr h) (hM1.reg (fun q hq => Or.inl hq)) ?_
  rintro _ H2 ⟨rfl, hM2⟩ hz2 hk2
  have hO2 := hO1.oth hz2 hk2
  have hma2 : ma (q_member (sY m 0 0) x1 x2).2 = ma m := qa_member (sY m 0 0) x1 x2
  replace hM2 : RepM G (Am (ma m)) (q_member (sY m 0 0) x1 x2).2 H2 := hM2.reg (fun q hq => by rw [hma2] at hq; exact hq)
  refine x_istore (lv' := [(6, .int ((q_member (sY m 0 0) x1 x2).1)), (5, .int (wB (o_member c x1 x2).1)), (0, .ref b), (1, .ref (ad c 0 0)), (2, .ref (ma m 30)), (3, .ref ob), (4, .int (nI i))]) F dL_law_642 (by decide) rfl ?_
  refine x_aload_n F dL_law_644 4 rfl rfl ?_
  refine wx_r (y := ma (q_member (sY m 0 0) x1 x2).2 30) (by rw [hma2]) ?_
  refine x_callVp (rest := []) F hM2.2.2.1 rfl (c_X4_thrown l G _ (q_member (sY m 0 0) x1 x2).2) k_L_87 ⟨(Nat.le_of_ble_eq_true rfl), (Nat.le_of_ble_eq_true rfl), rfl, rfl⟩ (by show ((k + 2) + 0) ≤ 601024; omega) (by show ((n + 12) + 0) ≤ 7293034; omega) dL_law_645 rfl rfl (Nat.le_of_ble_eq_true rfl) (hM2.reg (fun q hq => hfa q (hma2 ▸ hq))) ?_
  refine x_iload F dL_law_648 1 rfl ?_
  refine x_icmp_eq F dL_law_650 (tgt := 655) (by decide) (fun _ => ?_) (fun h1 => absurd (hAg.2.2.1) h1)
  refine x_iload F dL_law_655 1 rfl ?_
  refine x_if_ne F dL_law_657 (tgt := 672) (by decide) (fun _ => ?_) (fun h2 => ?_)
  · refine x_goto F dL_law_672 (tgt := 1482) (by decide) ?_
    refine wx_sub (lv' := lvL b (ad c 0 0) (ma m) ob i) [2, 3, 4, 5, 6] rfl ?_
    exact wx_wd (by show ((k + 2) + 0) ≤ k + 800; omega) (by show ((n + 12) + 0) ≤ n + 6400; omega) (J H2 ⟨_, _, _, hO2, hM2, hAg.1, hAg.2.1, hma2, oa_member c x1 x2⟩)
  · have hc0 : (o_member c x1 x2).1 = 0 := wB_0 h2
    have hf1 : f1 0 = ((q_member (sY m 0 0) x1 x2).1).toInt64 := (hans hc0).trans (congrArg Int32.toInt64 (hAg.2.2.2.1 hc0))
    refine x_aload_n F dL_law_660 5 rfl rfl ?_
    refine x_iconst (v := 0) F rfl dL_law_661 ?_
    refine x_lald F hO2.2.1 (i := 0) (vp_in_nI (n := 0) (by decide) (by decide)) dL_law_662 ?_
    refine wx_l (y := f1 0) rfl ?_
    refine x_iload F dL_law_663 0 rfl ?_
    refine x_i2l F dL_law_665 ?_
    refine x_lcmp F dL_law_666 ?_
    refine wx_i (y := 0) (by rw [hf1, lcmp0]) ?_
    refine x_if_eq F dL_law_667 (tgt := 672) (by decide) (fun _ => ?_) (fun h3 => absurd (rfl) h3)
    refine x_goto F dL_law_672 (tgt := 1482) (by decide) ?_
    refine wx_sub (lv' := lvL b (ad c 0 0) (ma m) ob i) [2, 3, 4, 5, 6] rfl ?_
    exact wx_wd (by show ((k + 2) + 0) ≤ k + 800; omega) (by show ((n + 12) + 0) ≤ n + 6400; omega) (J H2 ⟨_, _, _, hO2, hM2, hAg.1, hAg.2.1, hma2, oa_member c x1 x2⟩)
set_option maxHeartbeats 4000000 in
set_option maxRecDepth 100000 in
theorem la_glider (l : Launch) (hL0 : l.stackTraces = false) (G : GT) (E : WE) (S0 : Heap) (F : fx l room_1 G (fun q => S0.size ≤ q) S0 9 cL_law "GliderDayLaw" E) {b N : Nat} {xs : Nat → Int32} (hX : sX b N xs E) (hbA : ¬ S0.size ≤ b) (hN : N ≤ 3072) {xa ob : Nat} {fa : Nat → Nat} (hfa : ∀ q, Am fa q → S0.size ≤ q) {H : Heap} (hI : LI G S0.size xa ob fa H) {k n i : Nat} (hi : i + 6 ≤ N) (hk : k + 800 ≤ 601024) (hn : n + 6400 ≤ 7293034) (J : ∀ H1 : Heap, LI G S0.size xa ob fa H1 → wx E H1 (k + 800) (n + 6400) 1482 (lvL b xa fa ob i) []) : wx E H k n 675 (lvL b xa fa ob i) [] := by
  obtain ⟨c, m, f, hO, hM, hIC, hRl, hma, hxa⟩ := hI
  subst hma hxa
  have hW := r_wf hIC.2.1 hRl.1 hRl.2.2.2.2
  have hzH : S0.size ≤ H.size := Nat.le_trans (hfa _ (Or.inl rfl)) (Nat.le_of_lt (hM.belA rfl _ (Or.inl rfl)))
  obtain ⟨x1, hx1⟩ : ∃ v, xs (nI (i + 1)).toNatClampNeg = v := ⟨_, rfl⟩
  obtain ⟨x2, hx2⟩ : ∃ v, xs (nI (i + 2)).toNatClampNeg = v := ⟨_, rfl⟩
  show wx E H k n 675 [(0, .ref b), (1, .ref (ad c 0 0)), (2, .ref (ma m 30)), (3, .ref ob), (4, .int (nI i))] []
  refine x_aload_n F dL_law_675 1 rfl rfl ?_
  refine x_aload_n F dL_law_676 0 rfl rfl ?_
  refine x_iload F dL_law_677 4 rfl ?_
  refine x_iconst (v := 1) F rfl dL_law_679 ?_
  refine x_iadd F dL_law_680 ?_
  refine wx_i (y := nI (i + 1)) (sadd_1 i) ?_
  refine x_sld F hX hbA (v := x1) (vp_in_nI (n := i + 1) (by omega) (by omega)) hx1 dL_law_681 ?_
  refine x_aload_n F dL_law_682 0 rfl rfl ?_
  refine x_iload F dL_law_683 4 rfl ?_
  refine x_iconst (v := 2) F rfl dL_law_685 ?_
  refine x_iadd F dL_law_686 ?_
  refine wx_i (y := nI (i + 2)) (sadd_2 i) ?_
  refine x_sld F hX hbA (v := x2) (vp_in_nI (n := i + 2) (by omega) (by omega)) hx2 dL_law_687 ?_
  refine x_aload_n F dL_law_688 3 rfl rfl ?_
  refine x_callSW (nA := 4) (As := [.ref (ad c 0 0), .int x1, .int x2, .ref ob]) (rest := []) F (c_L_glider l G (Aw S0.size (ma m)) c ob f x1 x2 hL0) mw_549 mw_550 mw_54 mw_551 ⟨by decide +kernel, by decide +kernel, by decide +kernel⟩ ⟨⟨(Nat.le_of_ble_eq_true rfl), (Nat.le_of_ble_eq_true rfl)⟩, (by show k + 2 ≤ 601024; omega), (by show n + 12 ≤ 7293034; omega)⟩ dL_law_689 rfl rfl (Nat.le_of_ble_eq_true rfl) (fun q h => h.1) (fun q h => ⟨Nat.le_trans hzH h, fun x => absurd (hM.belA rfl q x) (Nat.not_lt.mpr h)⟩) hO ?_
  rintro _ H1 ⟨f1, rfl, hO1, hans⟩ hz1 hk1
  have hM1 := hM.othA hk1
  have hAg : Agr (o_glider c x1 x2) (q_glider (sY m 0 0) x1 x2) wB := a_glider hIC hRl.t rfl x1 x2
  refine x_istore (lv' := [(5, .int (wB (o_glider c x1 x2).1)), (0, .ref b), (1, .ref (ad c 0 0)), (2, .ref (ma m 30)), (3, .ref ob), (4, .int (nI i))]) F dL_law_692 (by decide) rfl ?_
  refine x_aload_n F dL_law_694 3 rfl rfl ?_
  refine x_aload_n F dL_law_695 1 rfl rfl ?_
  refine x_iload F dL_law_696 5 rfl ?_
  refine x_iconst (v := 1) F rfl dL_law_698 ?_
  refine x_iadd F dL_law_699 ?_
  refine wx_i (y := nI (i + 1)) (sadd_1 i) ?_
  refine x_sld F hX hbA (v := x1) (vp_in_nI (n := i + 1) (by omega) (by omega)) hx1 dL_law_700 ?_
  refine x_aload_n F dL_law_701 1 rfl rfl ?_
  refine x_iload F dL_law_702 5 rfl ?_
  refine x_iconst (v := 2) F rfl dL_law_704 ?_
  refine x_iadd F dL_law_705 ?_
  refine wx_i (y := nI (i + 2)) (sadd_2 i) ?_
  refine x_sld F hX hbA (v := x2) (vp_in_nI (n := i + 2) (by omega) (by omega)) hx2 dL_law_706 ?_
  refine x_callVo (A1 := fun q => Am (ma m) q ∨ H1.size ≤ q) (rest := []) F hM1.2.2.1 rfl (c_X4_glider l G (fun q => Am (ma m) q ∨ H1.size ≤ q) m hW x1 x2) k_L_117 ⟨⟨(Nat.le_of_ble_eq_true rfl), (Nat.le_of_ble_eq_true rfl)⟩, (by show (k + 2) + 0 ≤ 601024; omega), (by show (n + 12) + 0 ≤ 7293034; omega)⟩ dL_law_707 rfl rfl (Nat.le_of_ble_eq_true rfl) (fun q h => h.elim (hfa q) (fun x => Nat.le_trans hzH (Nat.le_trans hz1 x))) (fun q h => Or.inr h) (hM1.reg (fun q hq => Or.inl hq)) ?_
  rintro _ H2 ⟨rfl, hM2⟩ hz2 hk2
  have hO2 := hO1.oth hz2 hk2
  have hma2 : ma (q_glider (sY m 0 0) x1 x2).2 = ma m := qa_glider (sY m 0 0) x1 x2
  replace hM2 : RepM G (Am (ma m)) (q_glider (sY m 0 0) x1 x2).2 H2 := hM2.reg (fun q hq => by rw [hma2] at hq; exact hq)
  refine x_istore (lv' := [(6, .int ((q_glider (sY m 0 0) x1 x2).1)), (5, .int (wB (o_glider c x1 x2).1)), (0, .ref b), (1, .ref (ad c 0 0)), (2, .ref (ma m 30)), (3, .ref ob), (4, .int (nI i))]) F dL_law_710 (by decide) rfl ?_
  refine x_aload_n F dL_law_712 4 rfl rfl ?_
  refine wx_r (y := ma (q_glider (sY m 0 0) x1 x2).2 30) (by rw [hma2]) ?_
  refine x_callVp (rest := []) F hM2.2.2.1 rfl (c_X4_thrown l G _ (q_glider (sY m 0 0) x1 x2).2) k_L_87 ⟨(Nat.le_of_ble_eq_true rfl), (Nat.le_of_ble_eq_true rfl), rfl, rfl⟩ (by show ((k + 2) + 0) ≤ 601024; omega) (by show ((n + 12) + 0) ≤ 7293034; omega) dL_law_713 rfl rfl (Nat.le_of_ble_eq_true rfl) (hM2.reg (fun q hq => hfa q (hma2 ▸ hq))) ?_
  refine x_iload F dL_law_716 1 rfl ?_
  refine x_icmp_eq F dL_law_718 (tgt := 723) (by decide) (fun _ => ?_) (fun h1 => absurd (hAg.2.2.1) h1)
  refine x_iload F dL_law_723 1 rfl ?_
  refine x_if_ne F dL_law_725 (tgt := 740) (by decide) (fun _ => ?_) (fun h2 => ?_)
  · refine x_goto F dL_law_740 (tgt := 1482) (by decide) ?_
    refine wx_sub (lv' := lvL b (ad c 0 0) (ma m) ob i) [2, 3, 4, 5, 6] rfl ?_
    exact wx_wd (by show ((k + 2) + 0) ≤ k + 800; omega) (by show ((n + 12) + 0) ≤ n + 6400; omega) (J H2 ⟨_, _, _, hO2, hM2, hAg.1, hAg.2.1, hma2, oa_glider c x1 x2⟩)
  · have hc0 : (o_glider c x1 x2).1 = 0 := wB_0 h2
    have hf1 : f1 0 = ((q_glider (sY m 0 0) x1 x2).1).toInt64 := (hans hc0).trans (congrArg Int32.toInt64 (hAg.2.2.2.1 hc0))
    refine x_aload_n F dL_law_728 5 rfl rfl ?_
    refine x_iconst (v := 0) F rfl dL_law_729 ?_
    refine x_lald F hO2.2.1 (i := 0) (vp_in_nI (n := 0) (by decide) (by decide)) dL_law_730 ?_
    refine wx_l (y := f1 0) rfl ?_
    refine x_iload F dL_law_731 0 rfl ?_
    refine x_i2l F dL_law_733 ?_
    refine x_lcmp F dL_law_734 ?_
    refine wx_i (y := 0) (by rw [hf1, lcmp0]) ?_
    refine x_if_eq F dL_law_735 (tgt := 740) (by decide) (fun _ => ?_) (fun h3 => absurd (rfl) h3)
    refine x_goto F dL_law_740 (tgt := 1482) (by decide) ?_
    refine wx_sub (lv' := lvL b (ad c 0 0) (ma m) ob i) [2, 3, 4, 5, 6] rfl ?_
    exact wx_wd (by show ((k + 2) + 0) ≤ k + 800; omega) (by show ((n + 12) + 0) ≤ n + 6400; omega) (J H2 ⟨_, _, _, hO2, hM2, hAg.1, hAg.2.1, hma2, oa_glider c x1 x2⟩)
set_option maxHeartbeats 4000000 in
set_option maxRecDepth 100000 in
theorem la_ask (l : Launch) (hL0 : l.stackTraces = false) (G : GT) (E : WE) (S0 : Heap) (F : fx l room_1 G (fun q => S0.size ≤ q) S0 9 cL_law "GliderDayLaw" E) {b N : Nat} {xs : Nat → Int32} (hX : sX b N xs E) (hbA : ¬ S0.size ≤ b) (hN : N ≤ 3072) {xa ob : Nat} {fa : Nat → Nat} (hfa : ∀ q, Am fa q → S0.size ≤ q) {H : Heap} (hI : LI G S0.size xa ob fa H) {k n i : Nat} (hi : i + 6 ≤ N) (hk : k + 800 ≤ 601024) (hn : n + 6400 ≤ 7293034) (J : ∀ H1 : Heap, LI G S0.size xa ob fa H1 → wx E H1 (k + 800) (n + 6400) 1482 (lvL b xa fa ob i) []) : wx E H k n 743 (lvL b xa fa ob i) [] := by
  obtain ⟨c, m, f, hO, hM, hIC, hRl, hma, hxa⟩ := hI
  subst hma hxa
  have hW := r_wf hIC.2.1 hRl.1 hRl.2.2.2.2
  have hzH : S0.size ≤ H.size := Nat.le_trans (hfa _ (Or.inl rfl)) (Nat.le_of_lt (hM.belA rfl _ (Or.inl rfl)))
  obtain ⟨x1, hx1⟩ : ∃ v, xs (nI (i + 1)).toNatClampNeg = v := ⟨_, rfl⟩
  obtain ⟨x2, hx2⟩ : ∃ v, xs (nI (i + 2)).toNatClampNeg = v := ⟨_, rfl⟩
  obtain ⟨x3, hx3⟩ : ∃ v, xs (nI (i + 3)).toNatClampNeg = v := ⟨_, rfl⟩
  obtain ⟨x4, hx4⟩ : ∃ v, xs (nI (i + 4)).toNatClampNeg = v := ⟨_, rfl⟩
  obtain ⟨x5, hx5⟩ : ∃ v, xs (nI (i + 5)).toNatClampNeg = v := ⟨_, rfl⟩
  show wx E H k n 743 [(0, .ref b), (1, .ref (ad c 0 0)), (2, .ref (ma m 30)), (3, .ref ob), (4, .int (nI i))] []
  refine x_aload_n F dL_law_743 1 rfl rfl ?_
  refine x_aload_n F dL_law_744 0 rfl rfl ?_
  refine x_iload F dL_law_745 4 rfl ?_
  refine x_iconst (v := 1) F rfl dL_law_747 ?_
  refine x_iadd F dL_law_748 ?_
  refine wx_i (y := nI (i + 1)) (sadd_1 i) ?_
  refine x_sld F hX hbA (v := x1) (vp_in_nI (n := i + 1) (by omega) (by omega)) hx1 dL_law_749 ?_
  refine x_aload_n F dL_law_750 0 rfl rfl ?_
  refine x_iload F dL_law_751 4 rfl ?_
  refine x_iconst (v := 2) F rfl dL_law_753 ?_
  refine x_iadd F dL_law_754 ?_
  refine wx_i (y := nI (i + 2)) (sadd_2 i) ?_
  refine x_sld F hX hbA (v := x2) (vp_in_nI (n := i + 2) (by omega) (by omega)) hx2 dL_law_755 ?_
  refine x_aload_n F dL_law_756 0 rfl rfl ?_
  refine x_iload F dL_law_757 4 rfl ?_
  refine x_iconst (v := 3) F rfl dL_law_759 ?_
  refine x_iadd F dL_law_760 ?_
  refine wx_i (y := nI (i + 3)) (sadd_3 i) ?_
  refine x_sld F hX hbA (v := x3) (vp_in_nI (n := i + 3) (by omega) (by omega)) hx3 dL_law_761 ?_
  refine x_aload_n F dL_law_762 0 rfl rfl ?_
  refine x_iload F dL_law_763 4 rfl ?_
  refine x_iconst (v := 4) F rfl dL_law_765 ?_
  refine x_iadd F dL_law_766 ?_
  refine wx_i (y := nI (i + 4)) (sadd_4 i) ?_
  refine x_sld F hX hbA (v := x4) (vp_in_nI (n := i + 4) (by omega) (by omega)) hx4 dL_law_767 ?_
  refine x_aload_n F dL_law_768 0 rfl rfl ?_
  refine x_iload F dL_law_769 4 rfl ?_
  refine x_iconst (v := 5) F rfl dL_law_771 ?_
  refine x_iadd F dL_law_772 ?_
  refine wx_i (y := nI (i + 5)) (sadd_5 i) ?_
  refine x_sld F hX hbA (v := x5) (vp_in_nI (n := i + 5) (by omega) (by omega)) hx5 dL_law_773 ?_
  refine x_aload_n F dL_law_774 3 rfl rfl ?_
  refine x_callSW (nA := 7) (As := [.ref (ad c 0 0), .int x1, .int x2, .int x3, .int x4, .int x5, .ref ob]) (rest := []) F (c_L_ask l G (Aw S0.size (ma m)) c ob f x1 x2 x3 x4 x5 hL0) mw_556 mw_557 mw_54 mw_558 ⟨by decide +kernel, by decide +kernel, by decide +kernel⟩ ⟨⟨(Nat.le_of_ble_eq_true rfl), (Nat.le_of_ble_eq_true rfl)⟩, (by show k + 6 ≤ 601024; omega), (by show n + 629 ≤ 7293034; omega)⟩ dL_law_775 rfl rfl (Nat.le_of_ble_eq_true rfl) (fun q h => h.1) (fun q h => ⟨Nat.le_trans hzH h, fun x => absurd (hM.belA rfl q x) (Nat.not_lt.mpr h)⟩) hO ?_
  rintro _ H1 ⟨a, f1, rfl, hO1, hans⟩ hz1 hk1
  have hM1 := hM.othA hk1
  have hAg : Agr (o_ask c x1 x2 x3 x4 x5 a) (q_ask (sY m 0 0) x1 x2 x3 x4 x5) wC := a_ask hIC hRl.t rfl x1 x2 x3 x4 x5 a
  refine x_istore (lv' := [(5, .int (wC (o_ask c x1 x2 x3 x4 x5 a).1)), (0, .ref b), (1, .ref (ad c 0 0)), (2, .ref (ma m 30)), (3, .ref ob), (4, .int (nI i))]) F dL_law_778 (by decide) rfl ?_
  refine x_aload_n F dL_law_780 3 rfl rfl ?_
  refine x_aload_n F dL_law_781 1 rfl rfl ?_
  refine x_iload F dL_law_782 5 rfl ?_
  refine x_iconst (v := 1) F rfl dL_law_784 ?_
  refine x_iadd F dL_law_785 ?_
  refine wx_i (y := nI (i + 1)) (sadd_1 i) ?_
  refine x_sld F hX hbA (v := x1) (vp_in_nI (n := i + 1) (by omega) (by omega)) hx1 dL_law_786 ?_
  refine x_aload_n F dL_law_787 1 rfl rfl ?_
  refine x_iload F dL_law_788 5 rfl ?_
  refine x_iconst (v := 2) F rfl dL_law_790 ?_
  refine x_iadd F dL_law_791 ?_
  refine wx_i (y := nI (i + 2)) (sadd_2 i) ?_
  refine x_sld F hX hbA (v := x2) (vp_in_nI (n := i + 2) (by omega) (by omega)) hx2 dL_law_792 ?_
  refine x_aload_n F dL_law_793 1 rfl rfl ?_
  refine x_iload F dL_law_794 5 rfl ?_
  refine x_iconst (v := 3) F rfl dL_law_796 ?_
  refine x_iadd F dL_law_797 ?_
  refine wx_i (y := nI (i + 3)) (sadd_3 i) ?_
  refine x_sld F hX hbA (v := x3) (vp_in_nI (n := i + 3) (by omega) (by omega)) hx3 dL_law_798 ?_
  refine x_aload_n F dL_law_799 1 rfl rfl ?_
  refine x_iload F dL_law_800 5 rfl ?_
  refine x_iconst (v := 4) F rfl dL_law_802 ?_
  refine x_iadd F dL_law_803 ?_
  refine wx_i (y := nI (i + 4)) (sadd_4 i) ?_
  refine x_sld F hX hbA (v := x4) (vp_in_nI (n := i + 4) (by omega) (by omega)) hx4 dL_law_804 ?_
  refine x_aload_n F dL_law_805 1 rfl rfl ?_
  refine x_iload F dL_law_806 5 rfl ?_
  refine x_iconst (v := 5) F rfl dL_law_808 ?_
  refine x_iadd F dL_law_809 ?_
  refine wx_i (y := nI (i + 5)) (sadd_5 i) ?_
  refine x_sld F hX hbA (v := x5) (vp_in_nI (n := i + 5) (by omega) (by omega)) hx5 dL_law_810 ?_
  refine x_callVo (A1 := fun q => Am (ma m) q ∨ H1.size ≤ q) (rest := []) F hM1.2.2.1 rfl (c_X4_ask l G (fun q => Am (ma m) q ∨ H1.size ≤ q) m hW x1 x2 x3 x4 x5) k_L_121 ⟨⟨(Nat.le_of_ble_eq_true rfl), (Nat.le_of_ble_eq_true rfl)⟩, (by show (k + 6) + 0 ≤ 601024; omega), (by show (n + 629) + 0 ≤ 7293034; omega)⟩ dL_law_811 rfl rfl (Nat.le_of_ble_eq_true rfl) (fun q h => h.elim (hfa q) (fun x => Nat.le_trans hzH (Nat.le_trans hz1 x))) (fun q h => Or.inr h) (hM1.reg (fun q hq => Or.inl hq)) ?_
  rintro _ H2 ⟨rfl, hM2⟩ hz2 hk2
  have hO2 := hO1.oth hz2 hk2
  have hma2 : ma (q_ask (sY m 0 0) x1 x2 x3 x4 x5).2 = ma m := qa_ask (sY m 0 0) x1 x2 x3 x4 x5
  replace hM2 : RepM G (Am (ma m)) (q_ask (sY m 0 0) x1 x2 x3 x4 x5).2 H2 := hM2.reg (fun q hq => by rw [hma2] at hq; exact hq)
  refine x_istore (lv' := [(6, .int ((q_ask (sY m 0 0) x1 x2 x3 x4 x5).1)), (5, .int (wC (o_ask c x1 x2 x3 x4 x5 a).1)), (0, .ref b), (1, .ref (ad c 0 0)), (2, .ref (ma m 30)), (3, .ref ob), (4, .int (nI i))]) F dL_law_814 (by decide) rfl ?_
  refine x_aload_n F dL_law_816 4 rfl rfl ?_
  refine wx_r (y := ma (q_ask (sY m 0 0) x1 x2 x3 x4 x5).2 30) (by rw [hma2]) ?_
  refine x_callVp (rest := []) F hM2.2.2.1 rfl (c_X4_thrown l G _ (q_ask (sY m 0 0) x1 x2 x3 x4 x5).2) k_L_87 ⟨(Nat.le_of_ble_eq_true rfl), (Nat.le_of_ble_eq_true rfl), rfl, rfl⟩ (by show ((k + 6) + 0) ≤ 601024; omega) (by show ((n + 629) + 0) ≤ 7293034; omega) dL_law_817 rfl rfl (Nat.le_of_ble_eq_true rfl) (hM2.reg (fun q hq => hfa q (hma2 ▸ hq))) ?_
  refine x_iload F dL_law_820 1 rfl ?_
  refine x_icmp_eq F dL_law_822 (tgt := 827) (by decide) (fun _ => ?_) (fun h1 => absurd (hAg.2.2.1) h1)
  refine x_iload F dL_law_827 1 rfl ?_
  refine x_if_ne F dL_law_829 (tgt := 844) (by decide) (fun _ => ?_) (fun h2 => ?_)
  · refine x_goto F dL_law_844 (tgt := 1482) (by decide) ?_
    refine wx_sub (lv' := lvL b (ad c 0 0) (ma m) ob i) [2, 3, 4, 5, 6] rfl ?_
    exact wx_wd (by show ((k + 6) + 0) ≤ k + 800; omega) (by show ((n + 629) + 0) ≤ n + 6400; omega) (J H2 ⟨_, _, _, hO2, hM2, hAg.1, hAg.2.1, hma2, oa_ask c x1 x2 x3 x4 x5 a⟩)
  · have hc0 : (o_ask c x1 x2 x3 x4 x5 a).1 = 0 := wC_0 h2
    have hf1 : f1 0 = ((q_ask (sY m 0 0) x1 x2 x3 x4 x5).1).toInt64 := (hans hc0).trans (congrArg Int32.toInt64 (hAg.2.2.2.1 hc0))
    refine x_aload_n F dL_law_832 5 rfl rfl ?_
    refine x_iconst (v := 0) F rfl dL_law_833 ?_
    refine x_lald F hO2.2.1 (i := 0) (vp_in_nI (n := 0) (by decide) (by decide)) dL_law_834 ?_
    refine wx_l (y := f1 0) rfl ?_
    refine x_iload F dL_law_835 0 rfl ?_
    refine x_i2l F dL_law_837 ?_
    refine x_lcmp F dL_law_838 ?_
    refine wx_i (y := 0) (by rw [hf1, lcmp0]) ?_
    refine x_if_eq F dL_law_839 (tgt := 844) (by decide) (fun _ => ?_) (fun h3 => absurd (rfl) h3)
    refine x_goto F dL_law_844 (tgt := 1482) (by decide) ?_
    refine wx_sub (lv' := lvL b (ad c 0 0) (ma m) ob i) [2, 3, 4, 5, 6] rfl ?_
    exact wx_wd (by show ((k + 6) + 0) ≤ k + 800; omega) (by show ((n + 629) + 0) ≤ n + 6400; omega) (J H2 ⟨_, _, _, hO2, hM2, hAg.1, hAg.2.1, hma2, oa_ask c x1 x2 x3 x4 x5 a⟩)
set_option maxHeartbeats 4000000 in
set_option maxRecDepth 100000 in
theorem la_drop (l : Launch) (hL0 : l.stackTraces = false) (G : GT) (E : WE) (S0 : Heap) (F : fx l room_1 G (fun q => S0.size ≤ q) S0 9 cL_law "GliderDayLaw" E) {b N : Nat} {xs : Nat → Int32} (hX : sX b N xs E) (hbA : ¬ S0.size ≤ b) (hN : N ≤ 3072) {xa ob : Nat} {fa : Nat → Nat} (hfa : ∀ q, Am fa q → S0.size ≤ q) {H : Heap} (hI : LI G S0.size xa ob fa H) {k n i : Nat} (hi : i + 6 ≤ N) (hk : k + 800 ≤ 601024) (hn : n + 6400 ≤ 7293034) (J : ∀ H1 : Heap, LI G S0.size xa ob fa H1 → wx E H1 (k + 800) (n + 6400) 1482 (lvL b xa fa ob i) []) : wx E H k n 847 (lvL b xa fa ob i) [] := by
  obtain ⟨c, m, f, hO, hM, hIC, hRl, hma, hxa⟩ := hI
  subst hma hxa
  have hW := r_wf hIC.2.1 hRl.1 hRl.2.2.2.2
  have hzH : S0.size ≤ H.size := Nat.le_trans (hfa _ (Or.inl rfl)) (Nat.le_of_lt (hM.belA rfl _ (Or.inl rfl)))
  obtain ⟨x1, hx1⟩ : ∃ v, xs (nI (i + 1)).toNatClampNeg = v := ⟨_, rfl⟩
  show wx E H k n 847 [(0, .ref b), (1, .ref (ad c 0 0)), (2, .ref (ma m 30)), (3, .ref ob), (4, .int (nI i))] []
  refine x_aload_n F dL_law_847 1 rfl rfl ?_
  refine x_aload_n F dL_law_848 0 rfl rfl ?_
  refine x_iload F dL_law_849 4 rfl ?_
  refine x_iconst (v := 1) F rfl dL_law_851 ?_
  refine x_iadd F dL_law_852 ?_
  refine wx_i (y := nI (i + 1)) (sadd_1 i) ?_
  refine x_sld F hX hbA (v := x1) (vp_in_nI (n := i + 1) (by omega) (by omega)) hx1 dL_law_853 ?_
  refine x_aload_n F dL_law_854 3 rfl rfl ?_
  refine x_callSW (nA := 3) (As := [.ref (ad c 0 0), .int x1, .ref ob]) (rest := []) F (c_L_drop l G (Aw S0.size (ma m)) c ob f x1 hL0) mw_614 mw_615 mw_54 mw_616 ⟨by decide +kernel, by decide +kernel, by decide +kernel⟩ ⟨⟨(Nat.le_of_ble_eq_true rfl), (Nat.le_of_ble_eq_true rfl)⟩, (by show k + 2 ≤ 601024; omega), (by show n + 12 ≤ 7293034; omega)⟩ dL_law_855 rfl rfl (Nat.le_of_ble_eq_true rfl) (fun q h => h.1) (fun q h => ⟨Nat.le_trans hzH h, fun x => absurd (hM.belA rfl q x) (Nat.not_lt.mpr h)⟩) hO ?_
  rintro _ H1 ⟨f1, rfl, hO1, hans⟩ hz1 hk1
  have hM1 := hM.othA hk1
  have hAg : Agr (o_drop c x1) (q_drop (sY m 0 0) x1) wB := a_drop hIC hRl.t rfl x1
  refine x_istore (lv' := [(5, .int (wB (o_drop c x1).1)), (0, .ref b), (1, .ref (ad c 0 0)), (2, .ref (ma m 30)), (3, .ref ob), (4, .int (nI i))]) F dL_law_858 (by decide) rfl ?_
  refine x_aload_n F dL_law_860 3 rfl rfl ?_
  refine x_aload_n F dL_law_861 1 rfl rfl ?_
  refine x_iload F dL_law_862 5 rfl ?_
  refine x_iconst (v := 1) F rfl dL_law_864 ?_
  refine x_iadd F dL_law_865 ?_
  refine wx_i (y := nI (i + 1)) (sadd_1 i) ?_
  refine x_sld F hX hbA (v := x1) (vp_in_nI (n := i + 1) (by omega) (by omega)) hx1 dL_law_866 ?_
  refine x_callVo (A1 := fun q => Am (ma m) q ∨ H1.size ≤ q) (rest := []) F hM1.2.2.1 rfl (c_X4_drop l G (fun q => Am (ma m) q ∨ H1.size ≤ q) m hW x1) k_L_124 ⟨⟨(Nat.le_of_ble_eq_true rfl), (Nat.le_of_ble_eq_true rfl)⟩, (by show (k + 2) + 0 ≤ 601024; omega), (by show (n + 12) + 0 ≤ 7293034; omega)⟩ dL_law_867 rfl rfl (Nat.le_of_ble_eq_true rfl) (fun q h => h.elim (hfa q) (fun x => Nat.le_trans hzH (Nat.le_trans hz1 x))) (fun q h => Or.inr h) (hM1.reg (fun q hq => Or.inl hq)) ?_
  rintro _ H2 ⟨rfl, hM2⟩ hz2 hk2
  have hO2 := hO1.oth hz2 hk2
  have hma2 : ma (q_drop (sY m 0 0) x1).2 = ma m := qa_drop (sY m 0 0) x1
  replace hM2 : RepM G (Am (ma m)) (q_drop (sY m 0 0) x1).2 H2 := hM2.reg (fun q hq => by rw [hma2] at hq; exact hq)
  refine x_istore (lv' := [(6, .int ((q_drop (sY m 0 0) x1).1)), (5, .int (wB (o_drop c x1).1)), (0, .ref b), (1, .ref (ad c 0 0)), (2, .ref (ma m 30)), (3, .ref ob), (4, .int (nI i))]) F dL_law_870 (by decide) rfl ?_
  refine x_aload_n F dL_law_872 4 rfl rfl ?_
  refine wx_r (y := ma (q_drop (sY m 0 0) x1).2 30) (by rw [hma2]) ?_
  refine x_callVp (rest := []) F hM2.2.2.1 rfl (c_X4_thrown l G _ (q_drop (sY m 0 0) x1).2) k_L_87 ⟨(Nat.le_of_ble_eq_true rfl), (Nat.le_of_ble_eq_true rfl), rfl, rfl⟩ (by show ((k + 2) + 0) ≤ 601024; omega) (by show ((n + 12) + 0) ≤ 7293034; omega) dL_law_873 rfl rfl (Nat.le_of_ble_eq_true rfl) (hM2.reg (fun q hq => hfa q (hma2 ▸ hq))) ?_
  refine x_iload F dL_law_876 1 rfl ?_
  refine x_icmp_eq F dL_law_878 (tgt := 883) (by decide) (fun _ => ?_) (fun h1 => absurd (hAg.2.2.1) h1)
  refine x_iload F dL_law_883 1 rfl ?_
  refine x_if_ne F dL_law_885 (tgt := 900) (by decide) (fun _ => ?_) (fun h2 => ?_)
  · refine x_goto F dL_law_900 (tgt := 1482) (by decide) ?_
    refine wx_sub (lv' := lvL b (ad c 0 0) (ma m) ob i) [2, 3, 4, 5, 6] rfl ?_
    exact wx_wd (by show ((k + 2) + 0) ≤ k + 800; omega) (by show ((n + 12) + 0) ≤ n + 6400; omega) (J H2 ⟨_, _, _, hO2, hM2, hAg.1, hAg.2.1, hma2, oa_drop c x1⟩)
  · have hc0 : (o_drop c x1).1 = 0 := wB_0 h2
    have hf1 : f1 0 = ((q_drop (sY m 0 0) x1).1).toInt64 := (hans hc0).trans (congrArg Int32.toInt64 (hAg.2.2.2.1 hc0))
    refine x_aload_n F dL_law_888 5 rfl rfl ?_
    refine x_iconst (v := 0) F rfl dL_law_889 ?_
    refine x_lald F hO2.2.1 (i := 0) (vp_in_nI (n := 0) (by decide) (by decide)) dL_law_890 ?_
    refine wx_l (y := f1 0) rfl ?_
    refine x_iload F dL_law_891 0 rfl ?_
    refine x_i2l F dL_law_893 ?_
    refine x_lcmp F dL_law_894 ?_
    refine wx_i (y := 0) (by rw [hf1, lcmp0]) ?_
    refine x_if_eq F dL_law_895 (tgt := 900) (by decide) (fun _ => ?_) (fun h3 => absurd (rfl) h3)
    refine x_goto F dL_law_900 (tgt := 1482) (by decide) ?_
    refine wx_sub (lv' := lvL b (ad c 0 0) (ma m) ob i) [2, 3, 4, 5, 6] rfl ?_
    exact wx_wd (by show ((k + 2) + 0) ≤ k + 800; omega) (by show ((n + 12) + 0) ≤ n + 6400; omega) (J H2 ⟨_, _, _, hO2, hM2, hAg.1, hAg.2.1, hma2, oa_drop c x1⟩)
set_option maxHeartbeats 4000000 in
set_option maxRecDepth 100000 in
theorem la_list (l : Launch) (hL0 : l.stackTraces = false) (G : GT) (E : WE) (S0 : Heap) (F : fx l room_1 G (fun q => S0.size ≤ q) S0 9 cL_law "GliderDayLaw" E) {b N : Nat} {xs : Nat → Int32} (hX : sX b N xs E) (hbA : ¬ S0.size ≤ b) (hN : N ≤ 3072) {xa ob : Nat} {fa : Nat → Nat} (hfa : ∀ q, Am fa q → S0.size ≤ q) {H : Heap} (hI : LI G S0.size xa ob fa H) {k n i : Nat} (hi : i + 6 ≤ N) (hk : k + 800 ≤ 601024) (hn : n + 6400 ≤ 7293034) (J : ∀ H1 : Heap, LI G S0.size xa ob fa H1 → wx E H1 (k + 800) (n + 6400) 1482 (lvL b xa fa ob i) []) : wx E H k n 903 (lvL b xa fa ob i) [] := by
  obtain ⟨c, m, f, hO, hM, hIC, hRl, hma, hxa⟩ := hI
  subst hma hxa
  have hW := r_wf hIC.2.1 hRl.1 hRl.2.2.2.2
  have hzH : S0.size ≤ H.size := Nat.le_trans (hfa _ (Or.inl rfl)) (Nat.le_of_lt (hM.belA rfl _ (Or.inl rfl)))
  obtain ⟨x1, hx1⟩ : ∃ v, xs (nI (i + 1)).toNatClampNeg = v := ⟨_, rfl⟩
  show wx E H k n 903 [(0, .ref b), (1, .ref (ad c 0 0)), (2, .ref (ma m 30)), (3, .ref ob), (4, .int (nI i))] []
  refine x_aload_n F dL_law_903 1 rfl rfl ?_
  refine x_aload_n F dL_law_904 0 rfl rfl ?_
  refine x_iload F dL_law_905 4 rfl ?_
  refine x_iconst (v := 1) F rfl dL_law_907 ?_
  refine x_iadd F dL_law_908 ?_
  refine wx_i (y := nI (i + 1)) (sadd_1 i) ?_
  refine x_sld F hX hbA (v := x1) (vp_in_nI (n := i + 1) (by omega) (by omega)) hx1 dL_law_909 ?_
  refine x_aload_n F dL_law_910 3 rfl rfl ?_
  refine x_callSW (nA := 3) (As := [.ref (ad c 0 0), .int x1, .ref ob]) (rest := []) F (c_L_list l G (Aw S0.size (ma m)) c ob f x1 hL0) mw_648 mw_649 mw_54 mw_650 ⟨by decide +kernel, by decide +kernel, by decide +kernel⟩ ⟨⟨(Nat.le_of_ble_eq_true rfl), (Nat.le_of_ble_eq_true rfl)⟩, (by show k + 1 ≤ 601024; omega), (by show n + 6 ≤ 7293034; omega)⟩ dL_law_911 rfl rfl (Nat.le_of_ble_eq_true rfl) (fun q h => h.1) (fun q h => ⟨Nat.le_trans hzH h, fun x => absurd (hM.belA rfl q x) (Nat.not_lt.mpr h)⟩) hO ?_
  rintro _ H1 ⟨f1, rfl, hO1, hans⟩ hz1 hk1
  have hM1 := hM.othA hk1
  have hAg : Agr (o_list c x1) (q_list (sY m 0 0) x1) wB := a_list hIC hRl.t rfl x1
  refine x_istore (lv' := [(5, .int (wB (o_list c x1).1)), (0, .ref b), (1, .ref (ad c 0 0)), (2, .ref (ma m 30)), (3, .ref ob), (4, .int (nI i))]) F dL_law_914 (by decide) rfl ?_
  refine x_aload_n F dL_law_916 3 rfl rfl ?_
  refine x_aload_n F dL_law_917 1 rfl rfl ?_
  refine x_iload F dL_law_918 5 rfl ?_
  refine x_iconst (v := 1) F rfl dL_law_920 ?_
  refine x_iadd F dL_law_921 ?_
  refine wx_i (y := nI (i + 1)) (sadd_1 i) ?_
  refine x_sld F hX hbA (v := x1) (vp_in_nI (n := i + 1) (by omega) (by omega)) hx1 dL_law_922 ?_
  refine x_callVo (A1 := fun q => Am (ma m) q ∨ H1.size ≤ q) (rest := []) F hM1.2.2.1 rfl (c_X4_list l G (fun q => Am (ma m) q ∨ H1.size ≤ q) m hW x1) k_L_127 ⟨⟨(Nat.le_of_ble_eq_true rfl), (Nat.le_of_ble_eq_true rfl)⟩, (by show (k + 1) + 0 ≤ 601024; omega), (by show (n + 6) + 0 ≤ 7293034; omega)⟩ dL_law_923 rfl rfl (Nat.le_of_ble_eq_true rfl) (fun q h => h.elim (hfa q) (fun x => Nat.le_trans hzH (Nat.le_trans hz1 x))) (fun q h => Or.inr h) (hM1.reg (fun q hq => Or.inl hq)) ?_
  rintro _ H2 ⟨rfl, hM2⟩ hz2 hk2
  have hO2 := hO1.oth hz2 hk2
  have hma2 : ma (q_list (sY m 0 0) x1).2 = ma m := qa_list (sY m 0 0) x1
  replace hM2 : RepM G (Am (ma m)) (q_list (sY m 0 0) x1).2 H2 := hM2.reg (fun q hq => by rw [hma2] at hq; exact hq)
  refine x_istore (lv' := [(6, .int ((q_list (sY m 0 0) x1).1)), (5, .int (wB (o_list c x1).1)), (0, .ref b), (1, .ref (ad c 0 0)), (2, .ref (ma m 30)), (3, .ref ob), (4, .int (nI i))]) F dL_law_926 (by decide) rfl ?_
  refine x_aload_n F dL_law_928 4 rfl rfl ?_
  refine wx_r (y := ma (q_list (sY m 0 0) x1).2 30) (by rw [hma2]) ?_
  refine x_callVp (rest := []) F hM2.2.2.1 rfl (c_X4_thrown l G _ (q_list (sY m 0 0) x1).2) k_L_87 ⟨(Nat.le_of_ble_eq_true rfl), (Nat.le_of_ble_eq_true rfl), rfl, rfl⟩ (by show ((k + 1) + 0) ≤ 601024; omega) (by show ((n + 6) + 0) ≤ 7293034; omega) dL_law_929 rfl rfl (Nat.le_of_ble_eq_true rfl) (hM2.reg (fun q hq => hfa q (hma2 ▸ hq))) ?_
  refine x_iload F dL_law_932 1 rfl ?_
  refine x_icmp_eq F dL_law_934 (tgt := 939) (by decide) (fun _ => ?_) (fun h1 => absurd (hAg.2.2.1) h1)
  refine x_iload F dL_law_939 1 rfl ?_
  refine x_if_ne F dL_law_941 (tgt := 956) (by decide) (fun _ => ?_) (fun h2 => ?_)
  · refine x_goto F dL_law_956 (tgt := 1482) (by decide) ?_
    refine wx_sub (lv' := lvL b (ad c 0 0) (ma m) ob i) [2, 3, 4, 5, 6] rfl ?_
    exact wx_wd (by show ((k + 1) + 0) ≤ k + 800; omega) (by show ((n + 6) + 0) ≤ n + 6400; omega) (J H2 ⟨_, _, _, hO2, hM2, hAg.1, hAg.2.1, hma2, oa_list c x1⟩)
  · have hc0 : (o_list c x1).1 = 0 := wB_0 h2
    have hf1 : f1 0 = ((q_list (sY m 0 0) x1).1).toInt64 := (hans hc0).trans (congrArg Int32.toInt64 (hAg.2.2.2.1 hc0))
    refine x_aload_n F dL_law_944 5 rfl rfl ?_
    refine x_iconst (v := 0) F rfl dL_law_945 ?_
    refine x_lald F hO2.2.1 (i := 0) (vp_in_nI (n := 0) (by decide) (by decide)) dL_law_946 ?_
    refine wx_l (y := f1 0) rfl ?_
    refine x_iload F dL_law_947 0 rfl ?_
    refine x_i2l F dL_law_949 ?_
    refine x_lcmp F dL_law_950 ?_
    refine wx_i (y := 0) (by rw [hf1, lcmp0]) ?_
    refine x_if_eq F dL_law_951 (tgt := 956) (by decide) (fun _ => ?_) (fun h3 => absurd (rfl) h3)
    refine x_goto F dL_law_956 (tgt := 1482) (by decide) ?_
    refine wx_sub (lv' := lvL b (ad c 0 0) (ma m) ob i) [2, 3, 4, 5, 6] rfl ?_
    exact wx_wd (by show ((k + 1) + 0) ≤ k + 800; omega) (by show ((n + 6) + 0) ≤ n + 6400; omega) (J H2 ⟨_, _, _, hO2, hM2, hAg.1, hAg.2.1, hma2, oa_list c x1⟩)
set_option maxHeartbeats 4000000 in
set_option maxRecDepth 100000 in
theorem la_reason (l : Launch) (hL0 : l.stackTraces = false) (G : GT) (E : WE) (S0 : Heap) (F : fx l room_1 G (fun q => S0.size ≤ q) S0 9 cL_law "GliderDayLaw" E) {b N : Nat} {xs : Nat → Int32} (hX : sX b N xs E) (hbA : ¬ S0.size ≤ b) (hN : N ≤ 3072) {xa ob : Nat} {fa : Nat → Nat} (hfa : ∀ q, Am fa q → S0.size ≤ q) {H : Heap} (hI : LI G S0.size xa ob fa H) {k n i : Nat} (hi : i + 6 ≤ N) (hk : k + 800 ≤ 601024) (hn : n + 6400 ≤ 7293034) (J : ∀ H1 : Heap, LI G S0.size xa ob fa H1 → wx E H1 (k + 800) (n + 6400) 1482 (lvL b xa fa ob i) []) : wx E H k n 959 (lvL b xa fa ob i) [] := by
  obtain ⟨c, m, f, hO, hM, hIC, hRl, hma, hxa⟩ := hI
  subst hma hxa
  have hW := r_wf hIC.2.1 hRl.1 hRl.2.2.2.2
  have hzH : S0.size ≤ H.size := Nat.le_trans (hfa _ (Or.inl rfl)) (Nat.le_of_lt (hM.belA rfl _ (Or.inl rfl)))
  obtain ⟨x1, hx1⟩ : ∃ v, xs (nI (i + 1)).toNatClampNeg = v := ⟨_, rfl⟩
  show wx E H k n 959 [(0, .ref b), (1, .ref (ad c 0 0)), (2, .ref (ma m 30)), (3, .ref ob), (4, .int (nI i))] []
  refine x_aload_n F dL_law_959 1 rfl rfl ?_
  refine x_aload_n F dL_law_960 0 rfl rfl ?_
  refine x_iload F dL_law_961 4 rfl ?_
  refine x_iconst (v := 1) F rfl dL_law_963 ?_
  refine x_iadd F dL_law_964 ?_
  refine wx_i (y := nI (i + 1)) (sadd_1 i) ?_
  refine x_sld F hX hbA (v := x1) (vp_in_nI (n := i + 1) (by omega) (by omega)) hx1 dL_law_965 ?_
  refine x_aload_n F dL_law_966 3 rfl rfl ?_
  refine x_callSW (nA := 3) (As := [.ref (ad c 0 0), .int x1, .ref ob]) (rest := []) F (c_L_reason l G (Aw S0.size (ma m)) c ob f x1 hL0) mw_656 mw_657 mw_54 mw_658 ⟨by decide +kernel, by decide +kernel, by decide +kernel⟩ ⟨⟨(Nat.le_of_ble_eq_true rfl), (Nat.le_of_ble_eq_true rfl)⟩, (by show k + 2 ≤ 601024; omega), (by show n + 12 ≤ 7293034; omega)⟩ dL_law_967 rfl rfl (Nat.le_of_ble_eq_true rfl) (fun q h => h.1) (fun q h => ⟨Nat.le_trans hzH h, fun x => absurd (hM.belA rfl q x) (Nat.not_lt.mpr h)⟩) hO ?_
  rintro _ H1 ⟨f1, rfl, hO1, hans⟩ hz1 hk1
  have hM1 := hM.othA hk1
  have hAg : Agr (o_reason c x1) (q_reason (sY m 0 0) x1) wB := a_reason hIC hRl.t rfl x1
  refine x_istore (lv' := [(5, .int (wB (o_reason c x1).1)), (0, .ref b), (1, .ref (ad c 0 0)), (2, .ref (ma m 30)), (3, .ref ob), (4, .int (nI i))]) F dL_law_970 (by decide) rfl ?_
  refine x_aload_n F dL_law_972 3 rfl rfl ?_
  refine x_aload_n F dL_law_973 1 rfl rfl ?_
  refine x_iload F dL_law_974 5 rfl ?_
  refine x_iconst (v := 1) F rfl dL_law_976 ?_
  refine x_iadd F dL_law_977 ?_
  refine wx_i (y := nI (i + 1)) (sadd_1 i) ?_
  refine x_sld F hX hbA (v := x1) (vp_in_nI (n := i + 1) (by omega) (by omega)) hx1 dL_law_978 ?_
  refine x_callVo (A1 := fun q => Am (ma m) q ∨ H1.size ≤ q) (rest := []) F hM1.2.2.1 rfl (c_X4_reason l G (fun q => Am (ma m) q ∨ H1.size ≤ q) m hW x1) k_L_130 ⟨⟨(Nat.le_of_ble_eq_true rfl), (Nat.le_of_ble_eq_true rfl)⟩, (by show (k + 2) + 0 ≤ 601024; omega), (by show (n + 12) + 0 ≤ 7293034; omega)⟩ dL_law_979 rfl rfl (Nat.le_of_ble_eq_true rfl) (fun q h => h.elim (hfa q) (fun x => Nat.le_trans hzH (Nat.le_trans hz1 x))) (fun q h => Or.inr h) (hM1.reg (fun q hq => Or.inl hq)) ?_
  rintro _ H2 ⟨rfl, hM2⟩ hz2 hk2
  have hO2 := hO1.oth hz2 hk2
  have hma2 : ma (q_reason (sY m 0 0) x1).2 = ma m := qa_reason (sY m 0 0) x1
  replace hM2 : RepM G (Am (ma m)) (q_reason (sY m 0 0) x1).2 H2 := hM2.reg (fun q hq => by rw [hma2] at hq; exact hq)
  refine x_istore (lv' := [(6, .int ((q_reason (sY m 0 0) x1).1)), (5, .int (wB (o_reason c x1).1)), (0, .ref b), (1, .ref (ad c 0 0)), (2, .ref (ma m 30)), (3, .ref ob), (4, .int (nI i))]) F dL_law_982 (by decide) rfl ?_
  refine x_aload_n F dL_law_984 4 rfl rfl ?_
  refine wx_r (y := ma (q_reason (sY m 0 0) x1).2 30) (by rw [hma2]) ?_
  refine x_callVp (rest := []) F hM2.2.2.1 rfl (c_X4_thrown l G _ (q_reason (sY m 0 0) x1).2) k_L_87 ⟨(Nat.le_of_ble_eq_true rfl), (Nat.le_of_ble_eq_true rfl), rfl, rfl⟩ (by show ((k + 2) + 0) ≤ 601024; omega) (by show ((n + 12) + 0) ≤ 7293034; omega) dL_law_985 rfl rfl (Nat.le_of_ble_eq_true rfl) (hM2.reg (fun q hq => hfa q (hma2 ▸ hq))) ?_
  refine x_iload F dL_law_988 1 rfl ?_
  refine x_icmp_eq F dL_law_990 (tgt := 995) (by decide) (fun _ => ?_) (fun h1 => absurd (hAg.2.2.1) h1)
  refine x_iload F dL_law_995 1 rfl ?_
  refine x_if_ne F dL_law_997 (tgt := 1012) (by decide) (fun _ => ?_) (fun h2 => ?_)
  · refine x_goto F dL_law_1012 (tgt := 1482) (by decide) ?_
    refine wx_sub (lv' := lvL b (ad c 0 0) (ma m) ob i) [2, 3, 4, 5, 6] rfl ?_
    exact wx_wd (by show ((k + 2) + 0) ≤ k + 800; omega) (by show ((n + 12) + 0) ≤ n + 6400; omega) (J H2 ⟨_, _, _, hO2, hM2, hAg.1, hAg.2.1, hma2, oa_reason c x1⟩)
  · have hc0 : (o_reason c x1).1 = 0 := wB_0 h2
    have hf1 : f1 0 = ((q_reason (sY m 0 0) x1).1).toInt64 := (hans hc0).trans (congrArg Int32.toInt64 (hAg.2.2.2.1 hc0))
    refine x_aload_n F dL_law_1000 5 rfl rfl ?_
    refine x_iconst (v := 0) F rfl dL_law_1001 ?_
    refine x_lald F hO2.2.1 (i := 0) (vp_in_nI (n := 0) (by decide) (by decide)) dL_law_1002 ?_
    refine wx_l (y := f1 0) rfl ?_
    refine x_iload F dL_law_1003 0 rfl ?_
    refine x_i2l F dL_law_1005 ?_
    refine x_lcmp F dL_law_1006 ?_
    refine wx_i (y := 0) (by rw [hf1, lcmp0]) ?_
    refine x_if_eq F dL_law_1007 (tgt := 1012) (by decide) (fun _ => ?_) (fun h3 => absurd (rfl) h3)
    refine x_goto F dL_law_1012 (tgt := 1482) (by decide) ?_
    refine wx_sub (lv' := lvL b (ad c 0 0) (ma m) ob i) [2, 3, 4, 5, 6] rfl ?_
    exact wx_wd (by show ((k + 2) + 0) ≤ k + 800; omega) (by show ((n + 12) + 0) ≤ n + 6400; omega) (J H2 ⟨_, _, _, hO2, hM2, hAg.1, hAg.2.1, hma2, oa_reason c x1⟩)
set_option maxHeartbeats 4000000 in
set_option maxRecDepth 100000 in
theorem la_call (l : Launch) (hL0 : l.stackTraces = false) (G : GT) (E : WE) (S0 : Heap) (F : fx l room_1 G (fun q => S0.size ≤ q) S0 9 cL_law "GliderDayLaw" E) {b N : Nat} {xs : Nat → Int32} (hX : sX b N xs E) (hbA : ¬ S0.size ≤ b) (hN : N ≤ 3072) {xa ob : Nat} {fa : Nat → Nat} (hfa : ∀ q, Am fa q → S0.size ≤ q) {H : Heap} (hI : LI G S0.size xa ob fa H) {k n i : Nat} (hi : i + 6 ≤ N) (hk : k + 800 ≤ 601024) (hn : n + 6400 ≤ 7293034) (J : ∀ H1 : Heap, LI G S0.size xa ob fa H1 → wx E H1 (k + 800) (n + 6400) 1482 (lvL b xa fa ob i) []) : wx E H k n 1015 (lvL b xa fa ob i) [] := by
  obtain ⟨c, m, f, hO, hM, hIC, hRl, hma, hxa⟩ := hI
  subst hma hxa
  have hW := r_wf hIC.2.1 hRl.1 hRl.2.2.2.2
  have hzH : S0.size ≤ H.size := Nat.le_trans (hfa _ (Or.inl rfl)) (Nat.le_of_lt (hM.belA rfl _ (Or.inl rfl)))
  obtain ⟨x1, hx1⟩ : ∃ v, xs (nI (i + 1)).toNatClampNeg = v := ⟨_, rfl⟩
  show wx E H k n 1015 [(0, .ref b), (1, .ref (ad c 0 0)), (2, .ref (ma m 30)), (3, .ref ob), (4, .int (nI i))] []
  refine x_aload_n F dL_law_1015 1 rfl rfl ?_
  refine x_aload_n F dL_law_1016 0 rfl rfl ?_
  refine x_iload F dL_law_1017 4 rfl ?_
  refine x_iconst (v := 1) F rfl dL_law_1019 ?_
  refine x_iadd F dL_law_1020 ?_
  refine wx_i (y := nI (i + 1)) (sadd_1 i) ?_
  refine x_sld F hX hbA (v := x1) (vp_in_nI (n := i + 1) (by omega) (by omega)) hx1 dL_law_1021 ?_
  refine x_aload_n F dL_law_1022 3 rfl rfl ?_
  refine x_callSW (nA := 3) (As := [.ref (ad c 0 0), .int x1, .ref ob]) (rest := []) F (c_L_call l G (Aw S0.size (ma m)) c ob f x1 hL0) mw_688 mw_689 mw_54 mw_690 ⟨by decide +kernel, by decide +kernel, by decide +kernel⟩ ⟨⟨(Nat.le_of_ble_eq_true rfl), (Nat.le_of_ble_eq_true rfl)⟩, (by show k + 2 ≤ 601024; omega), (by show n + 12 ≤ 7293034; omega)⟩ dL_law_1023 rfl rfl (Nat.le_of_ble_eq_true rfl) (fun q h => h.1) (fun q h => ⟨Nat.le_trans hzH h, fun x => absurd (hM.belA rfl q x) (Nat.not_lt.mpr h)⟩) hO ?_
  rintro _ H1 ⟨f1, rfl, hO1, hans⟩ hz1 hk1
  have hM1 := hM.othA hk1
  have hAg : Agr (o_call c x1) (q_call (sY m 0 0) x1) wB := a_call hIC hRl.t rfl x1
  refine x_istore (lv' := [(5, .int (wB (o_call c x1).1)), (0, .ref b), (1, .ref (ad c 0 0)), (2, .ref (ma m 30)), (3, .ref ob), (4, .int (nI i))]) F dL_law_1026 (by decide) rfl ?_
  refine x_aload_n F dL_law_1028 3 rfl rfl ?_
  refine x_aload_n F dL_law_1029 1 rfl rfl ?_
  refine x_iload F dL_law_1030 5 rfl ?_
  refine x_iconst (v := 1) F rfl dL_law_1032 ?_
  refine x_iadd F dL_law_1033 ?_
  refine wx_i (y := nI (i + 1)) (sadd_1 i) ?_
  refine x_sld F hX hbA (v := x1) (vp_in_nI (n := i + 1) (by omega) (by omega)) hx1 dL_law_1034 ?_
  refine x_callVo (A1 := fun q => Am (ma m) q ∨ H1.size ≤ q) (rest := []) F hM1.2.2.1 rfl (c_X4_call l G (fun q => Am (ma m) q ∨ H1.size ≤ q) m hW x1) k_L_133 ⟨⟨(Nat.le_of_ble_eq_true rfl), (Nat.le_of_ble_eq_true rfl)⟩, (by show (k + 2) + 0 ≤ 601024; omega), (by show (n + 12) + 0 ≤ 7293034; omega)⟩ dL_law_1035 rfl rfl (Nat.le_of_ble_eq_true rfl) (fun q h => h.elim (hfa q) (fun x => Nat.le_trans hzH (Nat.le_trans hz1 x))) (fun q h => Or.inr h) (hM1.reg (fun q hq => Or.inl hq)) ?_
  rintro _ H2 ⟨rfl, hM2⟩ hz2 hk2
  have hO2 := hO1.oth hz2 hk2
  have hma2 : ma (q_call (sY m 0 0) x1).2 = ma m := qa_call (sY m 0 0) x1
  replace hM2 : RepM G (Am (ma m)) (q_call (sY m 0 0) x1).2 H2 := hM2.reg (fun q hq => by rw [hma2] at hq; exact hq)
  refine x_istore (lv' := [(6, .int ((q_call (sY m 0 0) x1).1)), (5, .int (wB (o_call c x1).1)), (0, .ref b), (1, .ref (ad c 0 0)), (2, .ref (ma m 30)), (3, .ref ob), (4, .int (nI i))]) F dL_law_1038 (by decide) rfl ?_
  refine x_aload_n F dL_law_1040 4 rfl rfl ?_
  refine wx_r (y := ma (q_call (sY m 0 0) x1).2 30) (by rw [hma2]) ?_
  refine x_callVp (rest := []) F hM2.2.2.1 rfl (c_X4_thrown l G _ (q_call (sY m 0 0) x1).2) k_L_87 ⟨(Nat.le_of_ble_eq_true rfl), (Nat.le_of_ble_eq_true rfl), rfl, rfl⟩ (by show ((k + 2) + 0) ≤ 601024; omega) (by show ((n + 12) + 0) ≤ 7293034; omega) dL_law_1041 rfl rfl (Nat.le_of_ble_eq_true rfl) (hM2.reg (fun q hq => hfa q (hma2 ▸ hq))) ?_
  refine x_iload F dL_law_1044 1 rfl ?_
  refine x_icmp_eq F dL_law_1046 (tgt := 1051) (by decide) (fun _ => ?_) (fun h1 => absurd (hAg.2.2.1) h1)
  refine x_iload F dL_law_1051 1 rfl ?_
  refine x_if_ne F dL_law_1053 (tgt := 1068) (by decide) (fun _ => ?_) (fun h2 => ?_)
  · refine x_goto F dL_law_1068 (tgt := 1482) (by decide) ?_
    refine wx_sub (lv' := lvL b (ad c 0 0) (ma m) ob i) [2, 3, 4, 5, 6] rfl ?_
    exact wx_wd (by show ((k + 2) + 0) ≤ k + 800; omega) (by show ((n + 12) + 0) ≤ n + 6400; omega) (J H2 ⟨_, _, _, hO2, hM2, hAg.1, hAg.2.1, hma2, oa_call c x1⟩)
  · have hc0 : (o_call c x1).1 = 0 := wB_0 h2
    have hf1 : f1 0 = ((q_call (sY m 0 0) x1).1).toInt64 := (hans hc0).trans (congrArg Int32.toInt64 (hAg.2.2.2.1 hc0))
    refine x_aload_n F dL_law_1056 5 rfl rfl ?_
    refine x_iconst (v := 0) F rfl dL_law_1057 ?_
    refine x_lald F hO2.2.1 (i := 0) (vp_in_nI (n := 0) (by decide) (by decide)) dL_law_1058 ?_
    refine wx_l (y := f1 0) rfl ?_
    refine x_iload F dL_law_1059 0 rfl ?_
    refine x_i2l F dL_law_1061 ?_
    refine x_lcmp F dL_law_1062 ?_
    refine wx_i (y := 0) (by rw [hf1, lcmp0]) ?_
    refine x_if_eq F dL_law_1063 (tgt := 1068) (by decide) (fun _ => ?_) (fun h3 => absurd (rfl) h3)
    refine x_goto F dL_law_1068 (tgt := 1482) (by decide) ?_
    refine wx_sub (lv' := lvL b (ad c 0 0) (ma m) ob i) [2, 3, 4, 5, 6] rfl ?_
    exact wx_wd (by show ((k + 2) + 0) ≤ k + 800; omega) (by show ((n + 12) + 0) ≤ n + 6400; omega) (J H2 ⟨_, _, _, hO2, hM2, hAg.1, hAg.2.1, hma2, oa_call c x1⟩)
set_option maxHeartbeats 4000000 in
set_option maxRecDepth 100000 in
theorem la_tick (l : Launch) (hL0 : l.stackTraces = false) (G : GT) (E : WE) (S0 : Heap) (F : fx l room_1 G (fun q => S0.size ≤ q) S0 9 cL_law "GliderDayLaw" E) {b N : Nat} {xs : Nat → Int32} (hX : sX b N xs E) (hbA : ¬ S0.size ≤ b) (hN : N ≤ 3072) {xa ob : Nat} {fa : Nat → Nat} (hfa : ∀ q, Am fa q → S0.size ≤ q) {H : Heap} (hI : LI G S0.size xa ob fa H) {k n i : Nat} (hi : i + 6 ≤ N) (hk : k + 800 ≤ 601024) (hn : n + 6400 ≤ 7293034) (J : ∀ H1 : Heap, LI G S0.size xa ob fa H1 → wx E H1 (k + 800) (n + 6400) 1482 (lvL b xa fa ob i) []) : wx E H k n 1071 (lvL b xa fa ob i) [] := by
  obtain ⟨c, m, f, hO, hM, hIC, hRl, hma, hxa⟩ := hI
  subst hma hxa
  have hW := r_wf hIC.2.1 hRl.1 hRl.2.2.2.2
  have hzH : S0.size ≤ H.size := Nat.le_trans (hfa _ (Or.inl rfl)) (Nat.le_of_lt (hM.belA rfl _ (Or.inl rfl)))
  obtain ⟨x1, hx1⟩ : ∃ v, xs (nI (i + 1)).toNatClampNeg = v := ⟨_, rfl⟩
  show wx E H k n 1071 [(0, .ref b), (1, .ref (ad c 0 0)), (2, .ref (ma m 30)), (3, .ref ob), (4, .int (nI i))] []
  refine x_aload_n F dL_law_1071 1 rfl rfl ?_
  refine x_aload_n F dL_law_1072 0 rfl rfl ?_
  refine x_iload F dL_law_1073 4 rfl ?_
  refine x_iconst (v := 1) F rfl dL_law_1075 ?_
  refine x_iadd F dL_law_1076 ?_
  refine wx_i (y := nI (i + 1)) (sadd_1 i) ?_
  refine x_sld F hX hbA (v := x1) (vp_in_nI (n := i + 1) (by omega) (by omega)) hx1 dL_law_1077 ?_
  refine x_aload_n F dL_law_1078 3 rfl rfl ?_
  refine x_callSW (nA := 3) (As := [.ref (ad c 0 0), .int x1, .ref ob]) (rest := []) F (c_L_tick l G (Aw S0.size (ma m)) c ob f x1 (fun h => (tick_ok hIC hRl h).1) hL0) mw_696 mw_697 mw_54 mw_698 ⟨by decide +kernel, by decide +kernel, by decide +kernel⟩ ⟨⟨(Nat.le_of_ble_eq_true rfl), (Nat.le_of_ble_eq_true rfl)⟩, (by show k + 2 ≤ 601024; omega), (by show n + 312 ≤ 7293034; omega)⟩ dL_law_1079 rfl rfl (Nat.le_of_ble_eq_true rfl) (fun q h => h.1) (fun q h => ⟨Nat.le_trans hzH h, fun x => absurd (hM.belA rfl q x) (Nat.not_lt.mpr h)⟩) hO ?_
  rintro _ H1 ⟨f1, rfl, hO1, hans⟩ hz1 hk1
  have hM1 := hM.othA hk1
  have hAg : Agr (o_tick c x1) (q_tick (sY m 0 0) x1) wA := a_tick hIC hRl.t rfl (fun n => Y0_tick _ n) x1
  refine x_istore (lv' := [(5, .int (wA (o_tick c x1).1)), (0, .ref b), (1, .ref (ad c 0 0)), (2, .ref (ma m 30)), (3, .ref ob), (4, .int (nI i))]) F dL_law_1082 (by decide) rfl ?_
  refine x_aload_n F dL_law_1084 3 rfl rfl ?_
  refine x_aload_n F dL_law_1085 1 rfl rfl ?_
  refine x_iload F dL_law_1086 5 rfl ?_
  refine x_iconst (v := 1) F rfl dL_law_1088 ?_
  refine x_iadd F dL_law_1089 ?_
  refine wx_i (y := nI (i + 1)) (sadd_1 i) ?_
  refine x_sld F hX hbA (v := x1) (vp_in_nI (n := i + 1) (by omega) (by omega)) hx1 dL_law_1090 ?_
  refine x_callVo (A1 := fun q => Am (ma m) q ∨ H1.size ≤ q) (rest := []) F hM1.2.2.1 rfl (c_X4_tickB l G (fun q => Am (ma m) q ∨ H1.size ≤ q) m hW x1 (fun h => (tick_ok hIC hRl.t (by rw [← hRl.1.2.1]; exact h)).2)) k_L_136 ⟨⟨(Nat.le_of_ble_eq_true rfl), (Nat.le_of_ble_eq_true rfl)⟩, (by show (k + 2) + 0 ≤ 601024; omega), (by show (n + 312) + 0 ≤ 7293034; omega)⟩ dL_law_1091 rfl rfl (Nat.le_of_ble_eq_true rfl) (fun q h => h.elim (hfa q) (fun x => Nat.le_trans hzH (Nat.le_trans hz1 x))) (fun q h => Or.inr h) (hM1.reg (fun q hq => Or.inl hq)) ?_
  rintro _ H2 ⟨rfl, hM2⟩ hz2 hk2
  have hO2 := hO1.oth hz2 hk2
  have hma2 : ma (q_tick (sY m 0 0) x1).2 = ma m := qa_tick (sY m 0 0) x1
  replace hM2 : RepM G (Am (ma m)) (q_tick (sY m 0 0) x1).2 H2 := hM2.reg (fun q hq => by rw [hma2] at hq; exact hq)
  refine x_istore (lv' := [(6, .int ((q_tick (sY m 0 0) x1).1)), (5, .int (wA (o_tick c x1).1)), (0, .ref b), (1, .ref (ad c 0 0)), (2, .ref (ma m 30)), (3, .ref ob), (4, .int (nI i))]) F dL_law_1094 (by decide) rfl ?_
  refine x_aload_n F dL_law_1096 4 rfl rfl ?_
  refine wx_r (y := ma (q_tick (sY m 0 0) x1).2 30) (by rw [hma2]) ?_
  refine x_callVp (rest := []) F hM2.2.2.1 rfl (c_X4_thrown l G _ (q_tick (sY m 0 0) x1).2) k_L_87 ⟨(Nat.le_of_ble_eq_true rfl), (Nat.le_of_ble_eq_true rfl), rfl, rfl⟩ (by show ((k + 2) + 0) ≤ 601024; omega) (by show ((n + 312) + 0) ≤ 7293034; omega) dL_law_1097 rfl rfl (Nat.le_of_ble_eq_true rfl) (hM2.reg (fun q hq => hfa q (hma2 ▸ hq))) ?_
  refine x_iload F dL_law_1100 1 rfl ?_
  refine x_icmp_eq F dL_law_1102 (tgt := 1107) (by decide) (fun _ => ?_) (fun h1 => absurd (hAg.2.2.1) h1)
  refine x_iload F dL_law_1107 1 rfl ?_
  refine x_if_ne F dL_law_1109 (tgt := 1124) (by decide) (fun _ => ?_) (fun h2 => ?_)
  · refine x_goto F dL_law_1124 (tgt := 1482) (by decide) ?_
    refine wx_sub (lv' := lvL b (ad c 0 0) (ma m) ob i) [2, 3, 4, 5, 6] rfl ?_
    exact wx_wd (by show ((k + 2) + 0) ≤ k + 800; omega) (by show ((n + 312) + 0) ≤ n + 6400; omega) (J H2 ⟨_, _, _, hO2, hM2, hAg.1, hAg.2.1, hma2, oa_tick c x1⟩)
  · have hc0 : (o_tick c x1).1 = 0 := wA_0 h2
    have hf1 : f1 0 = ((q_tick (sY m 0 0) x1).1).toInt64 := (hans hc0).trans (congrArg Int32.toInt64 (hAg.2.2.2.1 hc0))
    refine x_aload_n F dL_law_1112 5 rfl rfl ?_
    refine x_iconst (v := 0) F rfl dL_law_1113 ?_
    refine x_lald F hO2.2.1 (i := 0) (vp_in_nI (n := 0) (by decide) (by decide)) dL_law_1114 ?_
    refine wx_l (y := f1 0) rfl ?_
    refine x_iload F dL_law_1115 0 rfl ?_
    refine x_i2l F dL_law_1117 ?_
    refine x_lcmp F dL_law_1118 ?_
    refine wx_i (y := 0) (by rw [hf1, lcmp0]) ?_
    refine x_if_eq F dL_law_1119 (tgt := 1124) (by decide) (fun _ => ?_) (fun h3 => absurd (rfl) h3)
    refine x_goto F dL_law_1124 (tgt := 1482) (by decide) ?_
    refine wx_sub (lv' := lvL b (ad c 0 0) (ma m) ob i) [2, 3, 4, 5, 6] rfl ?_
    exact wx_wd (by show ((k + 2) + 0) ≤ k + 800; omega) (by show ((n + 312) + 0) ≤ n + 6400; omega) (J H2 ⟨_, _, _, hO2, hM2, hAg.1, hAg.2.1, hma2, oa_tick c x1⟩)
set_option maxHeartbeats 4000000 in
set_option maxRecDepth 100000 in
theorem la_flight (l : Launch) (hL0 : l.stackTraces = false) (G : GT) (E : WE) (S0 : Heap) (F : fx l room_1 G (fun q => S0.size ≤ q) S0 9 cL_law "GliderDayLaw" E) {b N : Nat} {xs : Nat → Int32} (hX : sX b N xs E) (hbA : ¬ S0.size ≤ b) (hN : N ≤ 3072) {xa ob : Nat} {fa : Nat → Nat} (hfa : ∀ q, Am fa q → S0.size ≤ q) {H : Heap} (hI : LI G S0.size xa ob fa H) {k n i : Nat} (hi : i + 6 ≤ N) (hk : k + 800 ≤ 601024) (hn : n + 6400 ≤ 7293034) (J : ∀ H1 : Heap, LI G S0.size xa ob fa H1 → wx E H1 (k + 800) (n + 6400) 1482 (lvL b xa fa ob i) []) : wx E H k n 1140 (lvL b xa fa ob i) [] := by
  obtain ⟨c, m, f, hO, hM, hIC, hRl, hma, hxa⟩ := hI
  subst hma hxa
  have hW := r_wf hIC.2.1 hRl.1 hRl.2.2.2.2
  have hzH : S0.size ≤ H.size := Nat.le_trans (hfa _ (Or.inl rfl)) (Nat.le_of_lt (hM.belA rfl _ (Or.inl rfl)))
  obtain ⟨x1, hx1⟩ : ∃ v, xs (nI (i + 1)).toNatClampNeg = v := ⟨_, rfl⟩
  obtain ⟨x2, hx2⟩ : ∃ v, xs (nI (i + 2)).toNatClampNeg = v := ⟨_, rfl⟩
  show wx E H k n 1140 [(0, .ref b), (1, .ref (ad c 0 0)), (2, .ref (ma m 30)), (3, .ref ob), (4, .int (nI i))] []
  refine x_aload_n F dL_law_1140 1 rfl rfl ?_
  refine x_aload_n F dL_law_1141 0 rfl rfl ?_
  refine x_iload F dL_law_1142 4 rfl ?_
  refine x_iconst (v := 1) F rfl dL_law_1144 ?_
  refine x_iadd F dL_law_1145 ?_
  refine wx_i (y := nI (i + 1)) (sadd_1 i) ?_
  refine x_sld F hX hbA (v := x1) (vp_in_nI (n := i + 1) (by omega) (by omega)) hx1 dL_law_1146 ?_
  refine x_aload_n F dL_law_1147 0 rfl rfl ?_
  refine x_iload F dL_law_1148 4 rfl ?_
  refine x_iconst (v := 2) F rfl dL_law_1150 ?_
  refine x_iadd F dL_law_1151 ?_
  refine wx_i (y := nI (i + 2)) (sadd_2 i) ?_
  refine x_sld F hX hbA (v := x2) (vp_in_nI (n := i + 2) (by omega) (by omega)) hx2 dL_law_1152 ?_
  refine x_aload_n F dL_law_1153 3 rfl rfl ?_
  refine x_callSW (nA := 4) (As := [.ref (ad c 0 0), .int x1, .int x2, .ref ob]) (rest := []) F (c_L_flight l G (Aw S0.size (ma m)) c ob f x1 x2 hL0) mw_762 mw_763 mw_54 mw_764 ⟨by decide +kernel, by decide +kernel, by decide +kernel⟩ ⟨⟨(Nat.le_of_ble_eq_true rfl), (Nat.le_of_ble_eq_true rfl)⟩, (by show k + 2 ≤ 601024; omega), (by show n + 12 ≤ 7293034; omega)⟩ dL_law_1154 rfl rfl (Nat.le_of_ble_eq_true rfl) (fun q h => h.1) (fun q h => ⟨Nat.le_trans hzH h, fun x => absurd (hM.belA rfl q x) (Nat.not_lt.mpr h)⟩) hO ?_
  rintro _ H1 ⟨f1, rfl, hO1, hans⟩ hz1 hk1
  have hM1 := hM.othA hk1
  have hAg : Agr (o_flight c x1 x2) (q_flight (sY m 0 0) x1 x2) wB := a_flight hIC hRl.t rfl x1 x2
  refine x_istore (lv' := [(5, .int (wB (o_flight c x1 x2).1)), (0, .ref b), (1, .ref (ad c 0 0)), (2, .ref (ma m 30)), (3, .ref ob), (4, .int (nI i))]) F dL_law_1157 (by decide) rfl ?_
  refine x_aload_n F dL_law_1159 3 rfl rfl ?_
  refine x_aload_n F dL_law_1160 1 rfl rfl ?_
  refine x_iload F dL_law_1161 5 rfl ?_
  refine x_iconst (v := 1) F rfl dL_law_1163 ?_
  refine x_iadd F dL_law_1164 ?_
  refine wx_i (y := nI (i + 1)) (sadd_1 i) ?_
  refine x_sld F hX hbA (v := x1) (vp_in_nI (n := i + 1) (by omega) (by omega)) hx1 dL_law_1165 ?_
  refine x_aload_n F dL_law_1166 1 rfl rfl ?_
  refine x_iload F dL_law_1167 5 rfl ?_
  refine x_iconst (v := 2) F rfl dL_law_1169 ?_
  refine x_iadd F dL_law_1170 ?_
  refine wx_i (y := nI (i + 2)) (sadd_2 i) ?_
  refine x_sld F hX hbA (v := x2) (vp_in_nI (n := i + 2) (by omega) (by omega)) hx2 dL_law_1171 ?_
  refine x_callVo (A1 := fun q => Am (ma m) q ∨ H1.size ≤ q) (rest := []) F hM1.2.2.1 rfl (c_X4_flight l G (fun q => Am (ma m) q ∨ H1.size ≤ q) m hW x1 x2) k_L_143 ⟨⟨(Nat.le_of_ble_eq_true rfl), (Nat.le_of_ble_eq_true rfl)⟩, (by show (k + 2) + 1 ≤ 601024; omega), (by show (n + 12) + 8 ≤ 7293034; omega)⟩ dL_law_1172 rfl rfl (Nat.le_of_ble_eq_true rfl) (fun q h => h.elim (hfa q) (fun x => Nat.le_trans hzH (Nat.le_trans hz1 x))) (fun q h => Or.inr h) (hM1.reg (fun q hq => Or.inl hq)) ?_
  rintro _ H2 ⟨rfl, hM2⟩ hz2 hk2
  have hO2 := hO1.oth hz2 hk2
  have hma2 : ma (q_flight (sY m 0 0) x1 x2).2 = ma m := qa_flight (sY m 0 0) x1 x2
  replace hM2 : RepM G (Am (ma m)) (q_flight (sY m 0 0) x1 x2).2 H2 := hM2.reg (fun q hq => by rw [hma2] at hq; exact hq)
  refine x_istore (lv' := [(6, .int ((q_flight (sY m 0 0) x1 x2).1)), (5, .int (wB (o_flight c x1 x2).1)), (0, .ref b), (1, .ref (ad c 0 0)), (2, .ref (ma m 30)), (3, .ref ob), (4, .int (nI i))]) F dL_law_1175 (by decide) rfl ?_
  refine x_aload_n F dL_law_1177 4 rfl rfl ?_
  refine wx_r (y := ma (q_flight (sY m 0 0) x1 x2).2 30) (by rw [hma2]) ?_
  refine x_callVp (rest := []) F hM2.2.2.1 rfl (c_X4_thrown l G _ (q_flight (sY m 0 0) x1 x2).2) k_L_87 ⟨(Nat.le_of_ble_eq_true rfl), (Nat.le_of_ble_eq_true rfl), rfl, rfl⟩ (by show ((k + 2) + 1) ≤ 601024; omega) (by show ((n + 12) + 8) ≤ 7293034; omega) dL_law_1178 rfl rfl (Nat.le_of_ble_eq_true rfl) (hM2.reg (fun q hq => hfa q (hma2 ▸ hq))) ?_
  refine x_iload F dL_law_1181 1 rfl ?_
  refine x_icmp_eq F dL_law_1183 (tgt := 1188) (by decide) (fun _ => ?_) (fun h1 => absurd (hAg.2.2.1) h1)
  refine x_iload F dL_law_1188 1 rfl ?_
  refine x_if_ne F dL_law_1190 (tgt := 1205) (by decide) (fun _ => ?_) (fun h2 => ?_)
  · refine x_goto F dL_law_1205 (tgt := 1482) (by decide) ?_
    refine wx_sub (lv' := lvL b (ad c 0 0) (ma m) ob i) [2, 3, 4, 5, 6] rfl ?_
    exact wx_wd (by show ((k + 2) + 1) ≤ k + 800; omega) (by show ((n + 12) + 8) ≤ n + 6400; omega) (J H2 ⟨_, _, _, hO2, hM2, hAg.1, hAg.2.1, hma2, oa_flight c x1 x2⟩)
  · have hc0 : (o_flight c x1 x2).1 = 0 := wB_0 h2
    have hf1 : f1 0 = ((q_flight (sY m 0 0) x1 x2).1).toInt64 := (hans hc0).trans (congrArg Int32.toInt64 (hAg.2.2.2.1 hc0))
    refine x_aload_n F dL_law_1193 5 rfl rfl ?_
    refine x_iconst (v := 0) F rfl dL_law_1194 ?_
    refine x_lald F hO2.2.1 (i := 0) (vp_in_nI (n := 0) (by decide) (by decide)) dL_law_1195 ?_
    refine wx_l (y := f1 0) rfl ?_
    refine x_iload F dL_law_1196 0 rfl ?_
    refine x_i2l F dL_law_1198 ?_
    refine x_lcmp F dL_law_1199 ?_
    refine wx_i (y := 0) (by rw [hf1, lcmp0]) ?_
    refine x_if_eq F dL_law_1200 (tgt := 1205) (by decide) (fun _ => ?_) (fun h3 => absurd (rfl) h3)
    refine x_goto F dL_law_1205 (tgt := 1482) (by decide) ?_
    refine wx_sub (lv' := lvL b (ad c 0 0) (ma m) ob i) [2, 3, 4, 5, 6] rfl ?_
    exact wx_wd (by show ((k + 2) + 1) ≤ k + 800; omega) (by show ((n + 12) + 8) ≤ n + 6400; omega) (J H2 ⟨_, _, _, hO2, hM2, hAg.1, hAg.2.1, hma2, oa_flight c x1 x2⟩)
set_option maxHeartbeats 4000000 in
set_option maxRecDepth 100000 in
theorem la_count (l : Launch) (hL0 : l.stackTraces = false) (G : GT) (E : WE) (S0 : Heap) (F : fx l room_1 G (fun q => S0.size ≤ q) S0 9 cL_law "GliderDayLaw" E) {b N : Nat} {xs : Nat → Int32} (hX : sX b N xs E) (hbA : ¬ S0.size ≤ b) (hN : N ≤ 3072) {xa ob : Nat} {fa : Nat → Nat} (hfa : ∀ q, Am fa q → S0.size ≤ q) {H : Heap} (hI : LI G S0.size xa ob fa H) {k n i : Nat} (hi : i + 6 ≤ N) (hk : k + 800 ≤ 601024) (hn : n + 6400 ≤ 7293034) (J : ∀ H1 : Heap, LI G S0.size xa ob fa H1 → wx E H1 (k + 800) (n + 6400) 1482 (lvL b xa fa ob i) []) : wx E H k n 1208 (lvL b xa fa ob i) [] := by
  obtain ⟨c, m, f, hO, hM, hIC, hRl, hma, hxa⟩ := hI
  subst hma hxa
  have hW := r_wf hIC.2.1 hRl.1 hRl.2.2.2.2
  have hzH : S0.size ≤ H.size := Nat.le_trans (hfa _ (Or.inl rfl)) (Nat.le_of_lt (hM.belA rfl _ (Or.inl rfl)))
  obtain ⟨x1, hx1⟩ : ∃ v, xs (nI (i + 1)).toNatClampNeg = v := ⟨_, rfl⟩
  show wx E H k n 1208 [(0, .ref b), (1, .ref (ad c 0 0)), (2, .ref (ma m 30)), (3, .ref ob), (4, .int (nI i))] []
  refine x_aload_n F dL_law_1208 1 rfl rfl ?_
  refine x_aload_n F dL_law_1209 0 rfl rfl ?_
  refine x_iload F dL_law_1210 4 rfl ?_
  refine x_iconst (v := 1) F rfl dL_law_1212 ?_
  refine x_iadd F dL_law_1213 ?_
  refine wx_i (y := nI (i + 1)) (sadd_1 i) ?_
  refine x_sld F hX hbA (v := x1) (vp_in_nI (n := i + 1) (by omega) (by omega)) hx1 dL_law_1214 ?_
  refine x_aload_n F dL_law_1215 3 rfl rfl ?_
  refine x_callSW (nA := 3) (As := [.ref (ad c 0 0), .int x1, .ref ob]) (rest := []) F (c_L_count l G (Aw S0.size (ma m)) c ob f x1 hL0) mw_769 mw_770 mw_54 mw_771 ⟨by decide +kernel, by decide +kernel, by decide +kernel⟩ ⟨⟨(Nat.le_of_ble_eq_true rfl), (Nat.le_of_ble_eq_true rfl)⟩, (by show k + 1 ≤ 601024; omega), (by show n + 6 ≤ 7293034; omega)⟩ dL_law_1216 rfl rfl (Nat.le_of_ble_eq_true rfl) (fun q h => h.1) (fun q h => ⟨Nat.le_trans hzH h, fun x => absurd (hM.belA rfl q x) (Nat.not_lt.mpr h)⟩) hO ?_
  rintro _ H1 ⟨f1, rfl, hO1, hans⟩ hz1 hk1
  have hM1 := hM.othA hk1
  have hAg : Agr (o_count c x1) (q_count (sY m 0 0) x1) wB := a_count hIC hRl.t rfl x1
  refine x_istore (lv' := [(5, .int (wB (o_count c x1).1)), (0, .ref b), (1, .ref (ad c 0 0)), (2, .ref (ma m 30)), (3, .ref ob), (4, .int (nI i))]) F dL_law_1219 (by decide) rfl ?_
  refine x_aload_n F dL_law_1221 3 rfl rfl ?_
  refine x_aload_n F dL_law_1222 1 rfl rfl ?_
  refine x_iload F dL_law_1223 5 rfl ?_
  refine x_iconst (v := 1) F rfl dL_law_1225 ?_
  refine x_iadd F dL_law_1226 ?_
  refine wx_i (y := nI (i + 1)) (sadd_1 i) ?_
  refine x_sld F hX hbA (v := x1) (vp_in_nI (n := i + 1) (by omega) (by omega)) hx1 dL_law_1227 ?_
  refine x_callVo (A1 := fun q => Am (ma m) q ∨ H1.size ≤ q) (rest := []) F hM1.2.2.1 rfl (c_X4_count l G (fun q => Am (ma m) q ∨ H1.size ≤ q) m hW x1) k_L_146 ⟨⟨(Nat.le_of_ble_eq_true rfl), (Nat.le_of_ble_eq_true rfl)⟩, (by show (k + 1) + 0 ≤ 601024; omega), (by show (n + 6) + 0 ≤ 7293034; omega)⟩ dL_law_1228 rfl rfl (Nat.le_of_ble_eq_true rfl) (fun q h => h.elim (hfa q) (fun x => Nat.le_trans hzH (Nat.le_trans hz1 x))) (fun q h => Or.inr h) (hM1.reg (fun q hq => Or.inl hq)) ?_
  rintro _ H2 ⟨rfl, hM2⟩ hz2 hk2
  have hO2 := hO1.oth hz2 hk2
  have hma2 : ma (q_count (sY m 0 0) x1).2 = ma m := qa_count (sY m 0 0) x1
  replace hM2 : RepM G (Am (ma m)) (q_count (sY m 0 0) x1).2 H2 := hM2.reg (fun q hq => by rw [hma2] at hq; exact hq)
  refine x_istore (lv' := [(6, .int ((q_count (sY m 0 0) x1).1)), (5, .int (wB (o_count c x1).1)), (0, .ref b), (1, .ref (ad c 0 0)), (2, .ref (ma m 30)), (3, .ref ob), (4, .int (nI i))]) F dL_law_1231 (by decide) rfl ?_
  refine x_aload_n F dL_law_1233 4 rfl rfl ?_
  refine wx_r (y := ma (q_count (sY m 0 0) x1).2 30) (by rw [hma2]) ?_
  refine x_callVp (rest := []) F hM2.2.2.1 rfl (c_X4_thrown l G _ (q_count (sY m 0 0) x1).2) k_L_87 ⟨(Nat.le_of_ble_eq_true rfl), (Nat.le_of_ble_eq_true rfl), rfl, rfl⟩ (by show ((k + 1) + 0) ≤ 601024; omega) (by show ((n + 6) + 0) ≤ 7293034; omega) dL_law_1234 rfl rfl (Nat.le_of_ble_eq_true rfl) (hM2.reg (fun q hq => hfa q (hma2 ▸ hq))) ?_
  refine x_iload F dL_law_1237 1 rfl ?_
  refine x_icmp_eq F dL_law_1239 (tgt := 1244) (by decide) (fun _ => ?_) (fun h1 => absurd (hAg.2.2.1) h1)
  refine x_iload F dL_law_1244 1 rfl ?_
  refine x_if_ne F dL_law_1246 (tgt := 1261) (by decide) (fun _ => ?_) (fun h2 => ?_)
  · refine x_goto F dL_law_1261 (tgt := 1482) (by decide) ?_
    refine wx_sub (lv' := lvL b (ad c 0 0) (ma m) ob i) [2, 3, 4, 5, 6] rfl ?_
    exact wx_wd (by show ((k + 1) + 0) ≤ k + 800; omega) (by show ((n + 6) + 0) ≤ n + 6400; omega) (J H2 ⟨_, _, _, hO2, hM2, hAg.1, hAg.2.1, hma2, oa_count c x1⟩)
  · have hc0 : (o_count c x1).1 = 0 := wB_0 h2
    have hf1 : f1 0 = ((q_count (sY m 0 0) x1).1).toInt64 := (hans hc0).trans (congrArg Int32.toInt64 (hAg.2.2.2.1 hc0))
    refine x_aload_n F dL_law_1249 5 rfl rfl ?_
    refine x_iconst (v := 0) F rfl dL_law_1250 ?_
    refine x_lald F hO2.2.1 (i := 0) (vp_in_nI (n := 0) (by decide) (by decide)) dL_law_1251 ?_
    refine wx_l (y := f1 0) rfl ?_
    refine x_iload F dL_law_1252 0 rfl ?_
    refine x_i2l F dL_law_1254 ?_
    refine x_lcmp F dL_law_1255 ?_
    refine wx_i (y := 0) (by rw [hf1, lcmp0]) ?_
    refine x_if_eq F dL_law_1256 (tgt := 1261) (by decide) (fun _ => ?_) (fun h3 => absurd (rfl) h3)
    refine x_goto F dL_law_1261 (tgt := 1482) (by decide) ?_
    refine wx_sub (lv' := lvL b (ad c 0 0) (ma m) ob i) [2, 3, 4, 5, 6] rfl ?_
    exact wx_wd (by show ((k + 1) + 0) ≤ k + 800; omega) (by show ((n + 6) + 0) ≤ n + 6400; omega) (J H2 ⟨_, _, _, hO2, hM2, hAg.1, hAg.2.1, hma2, oa_count c x1⟩)
set_option maxHeartbeats 4000000 in
set_option maxRecDepth 100000 in
theorem la_bill (l : Launch) (hL0 : l.stackTraces = false) (G : GT) (E : WE) (S0 : Heap) (F : fx l room_1 G (fun q => S0.size ≤ q) S0 9 cL_law "GliderDayLaw" E) {b N : Nat} {xs : Nat → Int32} (hX : sX b N xs E) (hbA : ¬ S0.size ≤ b) (hN : N ≤ 3072) {xa ob : Nat} {fa : Nat → Nat} (hfa : ∀ q, Am fa q → S0.size ≤ q) {H : Heap} (hI : LI G S0.size xa ob fa H) {k n i : Nat} (hi : i + 6 ≤ N) (hk : k + 800 ≤ 601024) (hn : n + 6400 ≤ 7293034) (J : ∀ H1 : Heap, LI G S0.size xa ob fa H1 → wx E H1 (k + 800) (n + 6400) 1482 (lvL b xa fa ob i) []) : wx E H k n 1277 (lvL b xa fa ob i) [] := by
  obtain ⟨c, m, f, hO, hM, hIC, hRl, hma, hxa⟩ := hI
  subst hma hxa
  have hW := r_wf hIC.2.1 hRl.1 hRl.2.2.2.2
  have hzH : S0.size ≤ H.size := Nat.le_trans (hfa _ (Or.inl rfl)) (Nat.le_of_lt (hM.belA rfl _ (Or.inl rfl)))
  obtain ⟨x1, hx1⟩ : ∃ v, xs (nI (i + 1)).toNatClampNeg = v := ⟨_, rfl⟩
  show wx E H k n 1277 [(0, .ref b), (1, .ref (ad c 0 0)), (2, .ref (ma m 30)), (3, .ref ob), (4, .int (nI i))] []
  refine x_aload_n F dL_law_1277 1 rfl rfl ?_
  refine x_aload_n F dL_law_1278 0 rfl rfl ?_
  refine x_iload F dL_law_1279 4 rfl ?_
  refine x_iconst (v := 1) F rfl dL_law_1281 ?_
  refine x_iadd F dL_law_1282 ?_
  refine wx_i (y := nI (i + 1)) (sadd_1 i) ?_
  refine x_sld F hX hbA (v := x1) (vp_in_nI (n := i + 1) (by omega) (by omega)) hx1 dL_law_1283 ?_
  refine x_aload_n F dL_law_1284 3 rfl rfl ?_
  refine x_callSW (nA := 3) (As := [.ref (ad c 0 0), .int x1, .ref ob]) (rest := []) F (c_L_bill l G (Aw S0.size (ma m)) c ob f x1 hL0) mw_777 mw_778 mw_54 mw_779 ⟨by decide +kernel, by decide +kernel, by decide +kernel⟩ ⟨⟨(Nat.le_of_ble_eq_true rfl), (Nat.le_of_ble_eq_true rfl)⟩, (by show k + 1 ≤ 601024; omega), (by show n + 6 ≤ 7293034; omega)⟩ dL_law_1285 rfl rfl (Nat.le_of_ble_eq_true rfl) (fun q h => h.1) (fun q h => ⟨Nat.le_trans hzH h, fun x => absurd (hM.belA rfl q x) (Nat.not_lt.mpr h)⟩) hO ?_
  rintro _ H1 ⟨f1, rfl, hO1, hans⟩ hz1 hk1
  have hM1 := hM.othA hk1
  have hAg : Agr (o_bill c x1) (q_bill (sY m 0 0) x1) wB := a_bill hIC hRl.t rfl x1
  refine x_istore (lv' := [(5, .int (wB (o_bill c x1).1)), (0, .ref b), (1, .ref (ad c 0 0)), (2, .ref (ma m 30)), (3, .ref ob), (4, .int (nI i))]) F dL_law_1288 (by decide) rfl ?_
  refine x_aload_n F dL_law_1290 3 rfl rfl ?_
  refine x_aload_n F dL_law_1291 1 rfl rfl ?_
  refine x_iload F dL_law_1292 5 rfl ?_
  refine x_iconst (v := 1) F rfl dL_law_1294 ?_
  refine x_iadd F dL_law_1295 ?_
  refine wx_i (y := nI (i + 1)) (sadd_1 i) ?_
  refine x_sld F hX hbA (v := x1) (vp_in_nI (n := i + 1) (by omega) (by omega)) hx1 dL_law_1296 ?_
  refine x_callVo (A1 := fun q => Am (ma m) q ∨ H1.size ≤ q) (rest := []) F hM1.2.2.1 rfl (c_X4_bill l G (fun q => Am (ma m) q ∨ H1.size ≤ q) m hW x1) k_L_154 ⟨⟨(Nat.le_of_ble_eq_true rfl), (Nat.le_of_ble_eq_true rfl)⟩, (by show (k + 1) + 0 ≤ 601024; omega), (by show (n + 6) + 0 ≤ 7293034; omega)⟩ dL_law_1297 rfl rfl (Nat.le_of_ble_eq_true rfl) (fun q h => h.elim (hfa q) (fun x => Nat.le_trans hzH (Nat.le_trans hz1 x))) (fun q h => Or.inr h) (hM1.reg (fun q hq => Or.inl hq)) ?_
  rintro _ H2 ⟨rfl, hM2⟩ hz2 hk2
  have hO2 := hO1.oth hz2 hk2
  have hma2 : ma (q_bill (sY m 0 0) x1).2 = ma m := qa_bill (sY m 0 0) x1
  replace hM2 : RepM G (Am (ma m)) (q_bill (sY m 0 0) x1).2 H2 := hM2.reg (fun q hq => by rw [hma2] at hq; exact hq)
  refine x_istore (lv' := [(6, .int ((q_bill (sY m 0 0) x1).1)), (5, .int (wB (o_bill c x1).1)), (0, .ref b), (1, .ref (ad c 0 0)), (2, .ref (ma m 30)), (3, .ref ob), (4, .int (nI i))]) F dL_law_1300 (by decide) rfl ?_
  refine x_aload_n F dL_law_1302 4 rfl rfl ?_
  refine wx_r (y := ma (q_bill (sY m 0 0) x1).2 30) (by rw [hma2]) ?_
  refine x_callVp (rest := []) F hM2.2.2.1 rfl (c_X4_thrown l G _ (q_bill (sY m 0 0) x1).2) k_L_87 ⟨(Nat.le_of_ble_eq_true rfl), (Nat.le_of_ble_eq_true rfl), rfl, rfl⟩ (by show ((k + 1) + 0) ≤ 601024; omega) (by show ((n + 6) + 0) ≤ 7293034; omega) dL_law_1303 rfl rfl (Nat.le_of_ble_eq_true rfl) (hM2.reg (fun q hq => hfa q (hma2 ▸ hq))) ?_
  refine x_iload F dL_law_1306 1 rfl ?_
  refine x_icmp_eq F dL_law_1308 (tgt := 1313) (by decide) (fun _ => ?_) (fun h1 => absurd (hAg.2.2.1) h1)
  refine x_iload F dL_law_1313 1 rfl ?_
  refine x_if_ne F dL_law_1315 (tgt := 1330) (by decide) (fun _ => ?_) (fun h2 => ?_)
  · refine x_goto F dL_law_1330 (tgt := 1482) (by decide) ?_
    refine wx_sub (lv' := lvL b (ad c 0 0) (ma m) ob i) [2, 3, 4, 5, 6] rfl ?_
    exact wx_wd (by show ((k + 1) + 0) ≤ k + 800; omega) (by show ((n + 6) + 0) ≤ n + 6400; omega) (J H2 ⟨_, _, _, hO2, hM2, hAg.1, hAg.2.1, hma2, oa_bill c x1⟩)
  · have hc0 : (o_bill c x1).1 = 0 := wB_0 h2
    have hf1 : f1 0 = ((q_bill (sY m 0 0) x1).1).toInt64 := (hans hc0).trans (congrArg Int32.toInt64 (hAg.2.2.2.1 hc0))
    refine x_aload_n F dL_law_1318 5 rfl rfl ?_
    refine x_iconst (v := 0) F rfl dL_law_1319 ?_
    refine x_lald F hO2.2.1 (i := 0) (vp_in_nI (n := 0) (by decide) (by decide)) dL_law_1320 ?_
    refine wx_l (y := f1 0) rfl ?_
    refine x_iload F dL_law_1321 0 rfl ?_
    refine x_i2l F dL_law_1323 ?_
    refine x_lcmp F dL_law_1324 ?_
    refine wx_i (y := 0) (by rw [hf1, lcmp0]) ?_
    refine x_if_eq F dL_law_1325 (tgt := 1330) (by decide) (fun _ => ?_) (fun h3 => absurd (rfl) h3)
    refine x_goto F dL_law_1330 (tgt := 1482) (by decide) ?_
    refine wx_sub (lv' := lvL b (ad c 0 0) (ma m) ob i) [2, 3, 4, 5, 6] rfl ?_
    exact wx_wd (by show ((k + 1) + 0) ≤ k + 800; omega) (by show ((n + 6) + 0) ≤ n + 6400; omega) (J H2 ⟨_, _, _, hO2, hM2, hAg.1, hAg.2.1, hma2, oa_bill c x1⟩)
set_option maxHeartbeats 4000000 in
set_option maxRecDepth 100000 in
theorem la_pay (l : Launch) (hL0 : l.stackTraces = false) (G : GT) (E : WE) (S0 : Heap) (F : fx l room_1 G (fun q => S0.size ≤ q) S0 9 cL_law "GliderDayLaw" E) {b N : Nat} {xs : Nat → Int32} (hX : sX b N xs E) (hbA : ¬ S0.size ≤ b) (hN : N ≤ 3072) {xa ob : Nat} {fa : Nat → Nat} (hfa : ∀ q, Am fa q → S0.size ≤ q) {H : Heap} (hI : LI G S0.size xa ob fa H) {k n i : Nat} (hi : i + 6 ≤ N) (hk : k + 800 ≤ 601024) (hn : n + 6400 ≤ 7293034) (J : ∀ H1 : Heap, LI G S0.size xa ob fa H1 → wx E H1 (k + 800) (n + 6400) 1482 (lvL b xa fa ob i) []) : wx E H k n 1333 (lvL b xa fa ob i) [] := by
  obtain ⟨c, m, f, hO, hM, hIC, hRl, hma, hxa⟩ := hI
  subst hma hxa
  have hW := r_wf hIC.2.1 hRl.1 hRl.2.2.2.2
  have hzH : S0.size ≤ H.size := Nat.le_trans (hfa _ (Or.inl rfl)) (Nat.le_of_lt (hM.belA rfl _ (Or.inl rfl)))
  obtain ⟨x1, hx1⟩ : ∃ v, xs (nI (i + 1)).toNatClampNeg = v := ⟨_, rfl⟩
  obtain ⟨x2, hx2⟩ : ∃ v, xs (nI (i + 2)).toNatClampNeg = v := ⟨_, rfl⟩
  show wx E H k n 1333 [(0, .ref b), (1, .ref (ad c 0 0)), (2, .ref (ma m 30)), (3, .ref ob), (4, .int (nI i))] []
  refine x_aload_n F dL_law_1333 1 rfl rfl ?_
  refine x_aload_n F dL_law_1334 0 rfl rfl ?_
  refine x_iload F dL_law_1335 4 rfl ?_
  refine x_iconst (v := 1) F rfl dL_law_1337 ?_
  refine x_iadd F dL_law_1338 ?_
  refine wx_i (y := nI (i + 1)) (sadd_1 i) ?_
  refine x_sld F hX hbA (v := x1) (vp_in_nI (n := i + 1) (by omega) (by omega)) hx1 dL_law_1339 ?_
  refine x_aload_n F dL_law_1340 0 rfl rfl ?_
  refine x_iload F dL_law_1341 4 rfl ?_
  refine x_iconst (v := 2) F rfl dL_law_1343 ?_
  refine x_iadd F dL_law_1344 ?_
  refine wx_i (y := nI (i + 2)) (sadd_2 i) ?_
  refine x_sld F hX hbA (v := x2) (vp_in_nI (n := i + 2) (by omega) (by omega)) hx2 dL_law_1345 ?_
  refine x_aload_n F dL_law_1346 3 rfl rfl ?_
  refine x_callSW (nA := 4) (As := [.ref (ad c 0 0), .int x1, .int x2, .ref ob]) (rest := []) F (c_L_pay l G (Aw S0.size (ma m)) c ob f x1 x2 hL0) mw_784 mw_785 mw_54 mw_786 ⟨by decide +kernel, by decide +kernel, by decide +kernel⟩ ⟨⟨(Nat.le_of_ble_eq_true rfl), (Nat.le_of_ble_eq_true rfl)⟩, (by show k + 2 ≤ 601024; omega), (by show n + 12 ≤ 7293034; omega)⟩ dL_law_1347 rfl rfl (Nat.le_of_ble_eq_true rfl) (fun q h => h.1) (fun q h => ⟨Nat.le_trans hzH h, fun x => absurd (hM.belA rfl q x) (Nat.not_lt.mpr h)⟩) hO ?_
  rintro _ H1 ⟨f1, rfl, hO1, hans⟩ hz1 hk1
  have hM1 := hM.othA hk1
  have hAg : Agr (o_pay c x1 x2) (q_pay (sY m 0 0) x1 x2) wC := a_pay hIC hRl.t rfl x1 x2
  refine x_istore (lv' := [(5, .int (wC (o_pay c x1 x2).1)), (0, .ref b), (1, .ref (ad c 0 0)), (2, .ref (ma m 30)), (3, .ref ob), (4, .int (nI i))]) F dL_law_1350 (by decide) rfl ?_
  refine x_aload_n F dL_law_1352 3 rfl rfl ?_
  refine x_aload_n F dL_law_1353 1 rfl rfl ?_
  refine x_iload F dL_law_1354 5 rfl ?_
  refine x_iconst (v := 1) F rfl dL_law_1356 ?_
  refine x_iadd F dL_law_1357 ?_
  refine wx_i (y := nI (i + 1)) (sadd_1 i) ?_
  refine x_sld F hX hbA (v := x1) (vp_in_nI (n := i + 1) (by omega) (by omega)) hx1 dL_law_1358 ?_
  refine x_aload_n F dL_law_1359 1 rfl rfl ?_
  refine x_iload F dL_law_1360 5 rfl ?_
  refine x_iconst (v := 2) F rfl dL_law_1362 ?_
  refine x_iadd F dL_law_1363 ?_
  refine wx_i (y := nI (i + 2)) (sadd_2 i) ?_
  refine x_sld F hX hbA (v := x2) (vp_in_nI (n := i + 2) (by omega) (by omega)) hx2 dL_law_1364 ?_
  refine x_callVo (A1 := fun q => Am (ma m) q ∨ H1.size ≤ q) (rest := []) F hM1.2.2.1 rfl (c_X4_pay l G (fun q => Am (ma m) q ∨ H1.size ≤ q) m hW x1 x2) k_L_157 ⟨⟨(Nat.le_of_ble_eq_true rfl), (Nat.le_of_ble_eq_true rfl)⟩, (by show (k + 2) + 0 ≤ 601024; omega), (by show (n + 12) + 0 ≤ 7293034; omega)⟩ dL_law_1365 rfl rfl (Nat.le_of_ble_eq_true rfl) (fun q h => h.elim (hfa q) (fun x => Nat.le_trans hzH (Nat.le_trans hz1 x))) (fun q h => Or.inr h) (hM1.reg (fun q hq => Or.inl hq)) ?_
  rintro _ H2 ⟨rfl, hM2⟩ hz2 hk2
  have hO2 := hO1.oth hz2 hk2
  have hma2 : ma (q_pay (sY m 0 0) x1 x2).2 = ma m := qa_pay (sY m 0 0) x1 x2
  replace hM2 : RepM G (Am (ma m)) (q_pay (sY m 0 0) x1 x2).2 H2 := hM2.reg (fun q hq => by rw [hma2] at hq; exact hq)
  refine x_istore (lv' := [(6, .int ((q_pay (sY m 0 0) x1 x2).1)), (5, .int (wC (o_pay c x1 x2).1)), (0, .ref b), (1, .ref (ad c 0 0)), (2, .ref (ma m 30)), (3, .ref ob), (4, .int (nI i))]) F dL_law_1368 (by decide) rfl ?_
  refine x_aload_n F dL_law_1370 4 rfl rfl ?_
  refine wx_r (y := ma (q_pay (sY m 0 0) x1 x2).2 30) (by rw [hma2]) ?_
  refine x_callVp (rest := []) F hM2.2.2.1 rfl (c_X4_thrown l G _ (q_pay (sY m 0 0) x1 x2).2) k_L_87 ⟨(Nat.le_of_ble_eq_true rfl), (Nat.le_of_ble_eq_true rfl), rfl, rfl⟩ (by show ((k + 2) + 0) ≤ 601024; omega) (by show ((n + 12) + 0) ≤ 7293034; omega) dL_law_1371 rfl rfl (Nat.le_of_ble_eq_true rfl) (hM2.reg (fun q hq => hfa q (hma2 ▸ hq))) ?_
  refine x_iload F dL_law_1374 1 rfl ?_
  refine x_icmp_eq F dL_law_1376 (tgt := 1381) (by decide) (fun _ => ?_) (fun h1 => absurd (hAg.2.2.1) h1)
  refine x_iload F dL_law_1381 1 rfl ?_
  refine x_if_ne F dL_law_1383 (tgt := 1398) (by decide) (fun _ => ?_) (fun h2 => ?_)
  · refine x_goto F dL_law_1398 (tgt := 1482) (by decide) ?_
    refine wx_sub (lv' := lvL b (ad c 0 0) (ma m) ob i) [2, 3, 4, 5, 6] rfl ?_
    exact wx_wd (by show ((k + 2) + 0) ≤ k + 800; omega) (by show ((n + 12) + 0) ≤ n + 6400; omega) (J H2 ⟨_, _, _, hO2, hM2, hAg.1, hAg.2.1, hma2, oa_pay c x1 x2⟩)
  · have hc0 : (o_pay c x1 x2).1 = 0 := wC_0 h2
    have hf1 : f1 0 = ((q_pay (sY m 0 0) x1 x2).1).toInt64 := (hans hc0).trans (congrArg Int32.toInt64 (hAg.2.2.2.1 hc0))
    refine x_aload_n F dL_law_1386 5 rfl rfl ?_
    refine x_iconst (v := 0) F rfl dL_law_1387 ?_
    refine x_lald F hO2.2.1 (i := 0) (vp_in_nI (n := 0) (by decide) (by decide)) dL_law_1388 ?_
    refine wx_l (y := f1 0) rfl ?_
    refine x_iload F dL_law_1389 0 rfl ?_
    refine x_i2l F dL_law_1391 ?_
    refine x_lcmp F dL_law_1392 ?_
    refine wx_i (y := 0) (by rw [hf1, lcmp0]) ?_
    refine x_if_eq F dL_law_1393 (tgt := 1398) (by decide) (fun _ => ?_) (fun h3 => absurd (rfl) h3)
    refine x_goto F dL_law_1398 (tgt := 1482) (by decide) ?_
    refine wx_sub (lv' := lvL b (ad c 0 0) (ma m) ob i) [2, 3, 4, 5, 6] rfl ?_
    exact wx_wd (by show ((k + 2) + 0) ≤ k + 800; omega) (by show ((n + 12) + 0) ≤ n + 6400; omega) (J H2 ⟨_, _, _, hO2, hM2, hAg.1, hAg.2.1, hma2, oa_pay c x1 x2⟩)
set_option maxHeartbeats 4000000 in
set_option maxRecDepth 100000 in
theorem la_now (l : Launch) (hL0 : l.stackTraces = false) (G : GT) (E : WE) (S0 : Heap) (F : fx l room_1 G (fun q => S0.size ≤ q) S0 9 cL_law "GliderDayLaw" E) {b N : Nat} {xs : Nat → Int32} (hX : sX b N xs E) (hbA : ¬ S0.size ≤ b) (hN : N ≤ 3072) {xa ob : Nat} {fa : Nat → Nat} (hfa : ∀ q, Am fa q → S0.size ≤ q) {H : Heap} (hI : LI G S0.size xa ob fa H) {k n i : Nat} (hi : i + 6 ≤ N) (hk : k + 800 ≤ 601024) (hn : n + 6400 ≤ 7293034) (J : ∀ H1 : Heap, LI G S0.size xa ob fa H1 → wx E H1 (k + 800) (n + 6400) 1482 (lvL b xa fa ob i) []) : wx E H k n 1127 (lvL b xa fa ob i) [] := by
  obtain ⟨c, m, f, hO, hM, hIC, hRl, hma, hxa⟩ := hI
  subst hma hxa
  have hW := r_wf hIC.2.1 hRl.1 hRl.2.2.2.2
  have hzH : S0.size ≤ H.size := Nat.le_trans (hfa _ (Or.inl rfl)) (Nat.le_of_lt (hM.belA rfl _ (Or.inl rfl)))
  show wx E H k n 1127 [(0, .ref b), (1, .ref (ad c 0 0)), (2, .ref (ma m 30)), (3, .ref ob), (4, .int (nI i))] []
  refine x_aload_n F dL_law_1127 1 rfl rfl ?_
  refine x_callVp (rest := []) F hO.1.day rfl (c_X3_now l G _ c) k_L_137 ⟨(Nat.le_of_ble_eq_true rfl), (Nat.le_of_ble_eq_true rfl), rfl, rfl⟩ (by show k ≤ 601024; omega) (by show n ≤ 7293034; omega) dL_law_1128 rfl rfl (Nat.le_of_ble_eq_true rfl) (hO.1.reg (fun q h => h.1.1)) ?_
  refine x_aload_n F dL_law_1131 2 rfl rfl ?_
  refine x_callVo (A1 := fun q => Am (ma m) q ∨ H.size ≤ q) (rest := [.int (cD c 9)]) F hM.2.2.1 rfl (c_X4_now l G (fun q => Am (ma m) q ∨ H.size ≤ q) m hW) k_L_140 ⟨⟨(Nat.le_of_ble_eq_true rfl), (Nat.le_of_ble_eq_true rfl)⟩, (by show k + 0 ≤ 601024; omega), (by show n + 0 ≤ 7293034; omega)⟩ dL_law_1132 rfl rfl (Nat.le_of_ble_eq_true rfl) (fun q h => h.elim (hfa q) (fun x => Nat.le_trans hzH x)) (fun q h => Or.inr h) (hM.reg (fun q hq => Or.inl hq)) ?_
  rintro _ H2 ⟨rfl, hM2⟩ hz2 hk2
  have hO2 := hO.oth hz2 hk2
  replace hM2 : RepM G (Am (ma m)) (sY m 0 0) H2 := hM2.reg (fun q hq => hq)
  refine x_icmp_eq F dL_law_1135 (tgt := 1482) (by decide) (fun _ => ?_) (fun h1 => absurd ((hRl.1.2.1.symm)) h1)
  refine wx_sub (lv' := lvL b (ad c 0 0) (ma m) ob i) [0, 1, 2, 3, 4] rfl ?_
  exact wx_wd (by show (k + 0) ≤ k + 800; omega) (by show (n + 0) ≤ n + 6400; omega) (J H2 ⟨_, _, _, hO2, hM2, hIC, hRl.t, rfl, rfl⟩)
set_option maxHeartbeats 4000000 in
set_option maxRecDepth 100000 in
theorem la_isBusy (l : Launch) (hL0 : l.stackTraces = false) (G : GT) (E : WE) (S0 : Heap) (F : fx l room_1 G (fun q => S0.size ≤ q) S0 9 cL_law "GliderDayLaw" E) {b N : Nat} {xs : Nat → Int32} (hX : sX b N xs E) (hbA : ¬ S0.size ≤ b) (hN : N ≤ 3072) {xa ob : Nat} {fa : Nat → Nat} (hfa : ∀ q, Am fa q → S0.size ≤ q) {H : Heap} (hI : LI G S0.size xa ob fa H) {k n i : Nat} (hi : i + 6 ≤ N) (hk : k + 800 ≤ 601024) (hn : n + 6400 ≤ 7293034) (J : ∀ H1 : Heap, LI G S0.size xa ob fa H1 → wx E H1 (k + 800) (n + 6400) 1482 (lvL b xa fa ob i) []) : wx E H k n 1264 (lvL b xa fa ob i) [] := by
  obtain ⟨c, m, f, hO, hM, hIC, hRl, hma, hxa⟩ := hI
  subst hma hxa
  have hW := r_wf hIC.2.1 hRl.1 hRl.2.2.2.2
  have hzH : S0.size ≤ H.size := Nat.le_trans (hfa _ (Or.inl rfl)) (Nat.le_of_lt (hM.belA rfl _ (Or.inl rfl)))
  show wx E H k n 1264 [(0, .ref b), (1, .ref (ad c 0 0)), (2, .ref (ma m 30)), (3, .ref ob), (4, .int (nI i))] []
  refine x_aload_n F dL_law_1264 1 rfl rfl ?_
  refine x_callVp (rest := []) F hO.1.day rfl (c_X3_isBusy l G _ c) k_L_147 ⟨(Nat.le_of_ble_eq_true rfl), (Nat.le_of_ble_eq_true rfl), rfl, rfl⟩ (by show k ≤ 601024; omega) (by show n ≤ 7293034; omega) dL_law_1265 rfl rfl (Nat.le_of_ble_eq_true rfl) (hO.1.reg (fun q h => h.1.1)) ?_
  refine x_aload_n F dL_law_1268 2 rfl rfl ?_
  refine x_callVo (A1 := fun q => Am (ma m) q ∨ H.size ≤ q) (rest := [.int (bI (cD c 9 < cD c 12))]) F hM.2.2.1 rfl (c_X4_isBusy l G (fun q => Am (ma m) q ∨ H.size ≤ q) m hW) k_L_151 ⟨⟨(Nat.le_of_ble_eq_true rfl), (Nat.le_of_ble_eq_true rfl)⟩, (by show k + 0 ≤ 601024; omega), (by show n + 0 ≤ 7293034; omega)⟩ dL_law_1269 rfl rfl (Nat.le_of_ble_eq_true rfl) (fun q h => h.elim (hfa q) (fun x => Nat.le_trans hzH x)) (fun q h => Or.inr h) (hM.reg (fun q hq => Or.inl hq)) ?_
  rintro _ H2 ⟨rfl, hM2⟩ hz2 hk2
  have hO2 := hO.oth hz2 hk2
  replace hM2 : RepM G (Am (ma m)) (sY m 0 0) H2 := hM2.reg (fun q hq => hq)
  refine x_icmp_eq F dL_law_1272 (tgt := 1482) (by decide) (fun _ => ?_) (fun h1 => absurd ((by show bI _ = bI (mY m 1 < mY m 4); rw [hRl.1.2.1, hRl.1.2.2.2.2.1])) h1)
  refine wx_sub (lv' := lvL b (ad c 0 0) (ma m) ob i) [0, 1, 2, 3, 4] rfl ?_
  exact wx_wd (by show (k + 0) ≤ k + 800; omega) (by show (n + 0) ≤ n + 6400; omega) (J H2 ⟨_, _, _, hO2, hM2, hIC, hRl.t, rfl, rfl⟩)
set_option maxHeartbeats 4000000 in
set_option maxRecDepth 100000 in
theorem la_income (l : Launch) (hL0 : l.stackTraces = false) (G : GT) (E : WE) (S0 : Heap) (F : fx l room_1 G (fun q => S0.size ≤ q) S0 9 cL_law "GliderDayLaw" E) {b N : Nat} {xs : Nat → Int32} (hX : sX b N xs E) (hbA : ¬ S0.size ≤ b) (hN : N ≤ 3072) {xa ob : Nat} {fa : Nat → Nat} (hfa : ∀ q, Am fa q → S0.size ≤ q) {H : Heap} (hI : LI G S0.size xa ob fa H) {k n i : Nat} (hi : i + 6 ≤ N) (hk : k + 800 ≤ 601024) (hn : n + 6400 ≤ 7293034) (J : ∀ H1 : Heap, LI G S0.size xa ob fa H1 → wx E H1 (k + 800) (n + 6400) 1482 (lvL b xa fa ob i) []) : wx E H k n 1401 (lvL b xa fa ob i) [] := by
  obtain ⟨c, m, f, hO, hM, hIC, hRl, hma, hxa⟩ := hI
  subst hma hxa
  have hW := r_wf hIC.2.1 hRl.1 hRl.2.2.2.2
  have hzH : S0.size ≤ H.size := Nat.le_trans (hfa _ (Or.inl rfl)) (Nat.le_of_lt (hM.belA rfl _ (Or.inl rfl)))
  show wx E H k n 1401 [(0, .ref b), (1, .ref (ad c 0 0)), (2, .ref (ma m 30)), (3, .ref ob), (4, .int (nI i))] []
  refine x_aload_n F dL_law_1401 1 rfl rfl ?_
  refine x_callVp (rest := []) F hO.1.day rfl (c_X3_income l G _ c) k_L_158 ⟨(Nat.le_of_ble_eq_true rfl), (Nat.le_of_ble_eq_true rfl), rfl, rfl⟩ (by show k ≤ 601024; omega) (by show n ≤ 7293034; omega) dL_law_1402 rfl rfl (Nat.le_of_ble_eq_true rfl) (hO.1.reg (fun q h => h.1.1)) ?_
  refine x_aload_n F dL_law_1405 2 rfl rfl ?_
  refine x_callVo (A1 := fun q => Am (ma m) q ∨ H.size ≤ q) (rest := [.int (s_inc c)]) F hM.2.2.1 rfl (c_X4_income l G (fun q => Am (ma m) q ∨ H.size ≤ q) m hW) k_L_161 ⟨⟨(Nat.le_of_ble_eq_true rfl), (Nat.le_of_ble_eq_true rfl)⟩, (by show k + 0 ≤ 601024; omega), (by show n + 0 ≤ 7293034; omega)⟩ dL_law_1406 rfl rfl (Nat.le_of_ble_eq_true rfl) (fun q h => h.elim (hfa q) (fun x => Nat.le_trans hzH x)) (fun q h => Or.inr h) (hM.reg (fun q hq => Or.inl hq)) ?_
  rintro _ H2 ⟨rfl, hM2⟩ hz2 hk2
  have hO2 := hO.oth hz2 hk2
  replace hM2 : RepM G (Am (ma m)) (sY m 0 0) H2 := hM2.reg (fun q hq => hq)
  refine x_icmp_eq F dL_law_1409 (tgt := 1482) (by decide) (fun _ => ?_) (fun h1 => absurd (((r_inc hIC hRl.t).symm)) h1)
  refine wx_sub (lv' := lvL b (ad c 0 0) (ma m) ob i) [0, 1, 2, 3, 4] rfl ?_
  exact wx_wd (by show (k + 0) ≤ k + 800; omega) (by show (n + 0) ≤ n + 6400; omega) (J H2 ⟨_, _, _, hO2, hM2, hIC, hRl.t, rfl, rfl⟩)
set_option maxHeartbeats 4000000 in
set_option maxRecDepth 100000 in
theorem la_longest (l : Launch) (hL0 : l.stackTraces = false) (G : GT) (E : WE) (S0 : Heap) (F : fx l room_1 G (fun q => S0.size ≤ q) S0 9 cL_law "GliderDayLaw" E) {b N : Nat} {xs : Nat → Int32} (hX : sX b N xs E) (hbA : ¬ S0.size ≤ b) (hN : N ≤ 3072) {xa ob : Nat} {fa : Nat → Nat} (hfa : ∀ q, Am fa q → S0.size ≤ q) {H : Heap} (hI : LI G S0.size xa ob fa H) {k n i : Nat} (hi : i + 6 ≤ N) (hk : k + 800 ≤ 601024) (hn : n + 6400 ≤ 7293034) (J : ∀ H1 : Heap, LI G S0.size xa ob fa H1 → wx E H1 (k + 800) (n + 6400) 1482 (lvL b xa fa ob i) []) : wx E H k n 1414 (lvL b xa fa ob i) [] := by
  obtain ⟨c, m, f, hO, hM, hIC, hRl, hma, hxa⟩ := hI
  subst hma hxa
  have hW := r_wf hIC.2.1 hRl.1 hRl.2.2.2.2
  have hzH : S0.size ≤ H.size := Nat.le_trans (hfa _ (Or.inl rfl)) (Nat.le_of_lt (hM.belA rfl _ (Or.inl rfl)))
  show wx E H k n 1414 [(0, .ref b), (1, .ref (ad c 0 0)), (2, .ref (ma m 30)), (3, .ref ob), (4, .int (nI i))] []
  refine x_aload_n F dL_law_1414 1 rfl rfl ?_
  refine x_callVp (rest := []) F hO.1.day rfl (c_X3_longest l G _ c) k_L_162 ⟨(Nat.le_of_ble_eq_true rfl), (Nat.le_of_ble_eq_true rfl), rfl, rfl⟩ (by show k ≤ 601024; omega) (by show n ≤ 7293034; omega) dL_law_1415 rfl rfl (Nat.le_of_ble_eq_true rfl) (hO.1.reg (fun q h => h.1.1)) ?_
  refine x_aload_n F dL_law_1418 2 rfl rfl ?_
  refine x_callVo (A1 := fun q => Am (ma m) q ∨ H.size ≤ q) (rest := [.int ((s_lng c (nf c)).1)]) F hM.2.2.1 rfl (c_X4_longest l G (fun q => Am (ma m) q ∨ H.size ≤ q) m hW) k_L_165 ⟨⟨(Nat.le_of_ble_eq_true rfl), (Nat.le_of_ble_eq_true rfl)⟩, (by show k + 0 ≤ 601024; omega), (by show n + 0 ≤ 7293034; omega)⟩ dL_law_1419 rfl rfl (Nat.le_of_ble_eq_true rfl) (fun q h => h.elim (hfa q) (fun x => Nat.le_trans hzH x)) (fun q h => Or.inr h) (hM.reg (fun q hq => Or.inl hq)) ?_
  rintro _ H2 ⟨rfl, hM2⟩ hz2 hk2
  have hO2 := hO.oth hz2 hk2
  replace hM2 : RepM G (Am (ma m)) (sY m 0 0) H2 := hM2.reg (fun q hq => hq)
  refine x_icmp_eq F dL_law_1422 (tgt := 1482) (by decide) (fun _ => ?_) (fun h1 => absurd ((by show _ = m_lng (sY m 0 0) (mf (sY m 0 0)); rw [(r_n hIC.2.1 (Rl.t (v := 0) hRl).1).2.2]; exact (r_lng hIC.2.1 (Rl.t (v := 0) hRl).2.2.2.2 _ (Nat.le_refl _)).1.symm)) h1)
  refine wx_sub (lv' := lvL b (ad c 0 0) (ma m) ob i) [0, 1, 2, 3, 4] rfl ?_
  exact wx_wd (by show (k + 0) ≤ k + 800; omega) (by show (n + 0) ≤ n + 6400; omega) (J H2 ⟨_, _, _, hO2, hM2, hIC, hRl.t, rfl, rfl⟩)
set_option maxHeartbeats 4000000 in
set_option maxRecDepth 100000 in
theorem la_waited (l : Launch) (hL0 : l.stackTraces = false) (G : GT) (E : WE) (S0 : Heap) (F : fx l room_1 G (fun q => S0.size ≤ q) S0 9 cL_law "GliderDayLaw" E) {b N : Nat} {xs : Nat → Int32} (hX : sX b N xs E) (hbA : ¬ S0.size ≤ b) (hN : N ≤ 3072) {xa ob : Nat} {fa : Nat → Nat} (hfa : ∀ q, Am fa q → S0.size ≤ q) {H : Heap} (hI : LI G S0.size xa ob fa H) {k n i : Nat} (hi : i + 6 ≤ N) (hk : k + 800 ≤ 601024) (hn : n + 6400 ≤ 7293034) (J : ∀ H1 : Heap, LI G S0.size xa ob fa H1 → wx E H1 (k + 800) (n + 6400) 1482 (lvL b xa fa ob i) []) : wx E H k n 1427 (lvL b xa fa ob i) [] := by
  obtain ⟨c, m, f, hO, hM, hIC, hRl, hma, hxa⟩ := hI
  subst hma hxa
  have hW := r_wf hIC.2.1 hRl.1 hRl.2.2.2.2
  have hzH : S0.size ≤ H.size := Nat.le_trans (hfa _ (Or.inl rfl)) (Nat.le_of_lt (hM.belA rfl _ (Or.inl rfl)))
  show wx E H k n 1427 [(0, .ref b), (1, .ref (ad c 0 0)), (2, .ref (ma m 30)), (3, .ref ob), (4, .int (nI i))] []
  refine x_aload_n F dL_law_1427 1 rfl rfl ?_
  refine x_callVp (rest := []) F hO.1.day rfl (c_X3_waited l G _ c) k_L_166 ⟨(Nat.le_of_ble_eq_true rfl), (Nat.le_of_ble_eq_true rfl), rfl, rfl⟩ (by show k ≤ 601024; omega) (by show n ≤ 7293034; omega) dL_law_1428 rfl rfl (Nat.le_of_ble_eq_true rfl) (hO.1.reg (fun q h => h.1.1)) ?_
  refine x_dstore (lv' := [(5, .double (s_wai c)), (0, .ref b), (1, .ref (ad c 0 0)), (2, .ref (ma m 30)), (3, .ref ob), (4, .int (nI i))]) F dL_law_1431 (by decide) rfl ?_
  refine x_aload_n F dL_law_1433 3 rfl rfl ?_
  refine x_callVo (A1 := fun q => Am (ma m) q ∨ H.size ≤ q) (rest := []) F hM.2.2.1 rfl (c_X4_waited l G (fun q => Am (ma m) q ∨ H.size ≤ q) m hW) k_L_170 ⟨⟨(Nat.le_of_ble_eq_true rfl), (Nat.le_of_ble_eq_true rfl)⟩, (by show k + 0 ≤ 601024; omega), (by show n + 0 ≤ 7293034; omega)⟩ dL_law_1434 rfl rfl (Nat.le_of_ble_eq_true rfl) (fun q h => h.elim (hfa q) (fun x => Nat.le_trans hzH x)) (fun q h => Or.inr h) (hM.reg (fun q hq => Or.inl hq)) ?_
  rintro _ H2 ⟨rfl, hM2⟩ hz2 hk2
  have hO2 := hO.oth hz2 hk2
  replace hM2 : RepM G (Am (ma m)) (sY m 0 0) H2 := hM2.reg (fun q hq => hq)
  refine wx_d (y := s_wai c) (r_wai hIC.2.1 (Rl.t (v := 0) hRl).1 (Rl.t (v := 0) hRl).2.2.2.2) ?_
  refine x_dstore (lv' := [(7, .double (s_wai c)), (5, .double (s_wai c)), (0, .ref b), (1, .ref (ad c 0 0)), (2, .ref (ma m 30)), (3, .ref ob), (4, .int (nI i))]) F dL_law_1437 (by decide) rfl ?_
  refine x_dload F dL_law_1439 1 rfl ?_
  refine x_dload F dL_law_1441 0 rfl ?_
  refine x_dcmp F dL_law_1443 ?_
  refine x_if_eq F dL_law_1444 (tgt := 1465) (by decide) (fun h1 => ?_) (fun h1 => ?_)
  · refine x_goto F dL_law_1465 (tgt := 1482) (by decide) ?_
    refine wx_sub (lv' := lvL b (ad c 0 0) (ma m) ob i) [2, 3, 4, 5, 6] rfl ?_
    exact wx_wd (by show (k + 0) ≤ k + 800; omega) (by show (n + 0) ≤ n + 6400; omega) (J H2 ⟨_, _, _, hO2, hM2, hIC, hRl.t, rfl, rfl⟩)
  · refine x_dload F dL_law_1447 1 rfl ?_
    refine x_dload F dL_law_1449 1 rfl ?_
    refine x_dcmp F dL_law_1451 ?_
    refine x_if_eq F dL_law_1452 (tgt := 1463) (by decide) (fun h2 => absurd h2 (h1)) (fun _ => ?_)
    refine x_dload F dL_law_1455 0 rfl ?_
    refine x_dload F dL_law_1457 0 rfl ?_
    refine x_dcmp F dL_law_1459 ?_
    refine x_if_ne F dL_law_1460 (tgt := 1465) (by decide) (fun _ => ?_) (fun h3 => absurd h3 (h1))
    refine x_goto F dL_law_1465 (tgt := 1482) (by decide) ?_
    refine wx_sub (lv' := lvL b (ad c 0 0) (ma m) ob i) [2, 3, 4, 5, 6] rfl ?_
    exact wx_wd (by show (k + 0) ≤ k + 800; omega) (by show (n + 0) ≤ n + 6400; omega) (J H2 ⟨_, _, _, hO2, hM2, hIC, hRl.t, rfl, rfl⟩)
set_option maxHeartbeats 4000000 in
set_option maxRecDepth 100000 in
theorem la_digest (l : Launch) (hL0 : l.stackTraces = false) (G : GT) (E : WE) (S0 : Heap) (F : fx l room_1 G (fun q => S0.size ≤ q) S0 9 cL_law "GliderDayLaw" E) {b N : Nat} {xs : Nat → Int32} (hX : sX b N xs E) (hbA : ¬ S0.size ≤ b) (hN : N ≤ 3072) {xa ob : Nat} {fa : Nat → Nat} (hfa : ∀ q, Am fa q → S0.size ≤ q) {H : Heap} (hI : LI G S0.size xa ob fa H) {k n i : Nat} (hi : i + 6 ≤ N) (hk : k + 800 ≤ 601024) (hn : n + 6400 ≤ 7293034) (J : ∀ H1 : Heap, LI G S0.size xa ob fa H1 → wx E H1 (k + 800) (n + 6400) 1482 (lvL b xa fa ob i) []) : wx E H k n 1468 (lvL b xa fa ob i) [] := by
  obtain ⟨c, m, f, hO, hM, hIC, hRl, hma, hxa⟩ := hI
  subst hma hxa
  have hW := r_wf hIC.2.1 hRl.1 hRl.2.2.2.2
  have hzH : S0.size ≤ H.size := Nat.le_trans (hfa _ (Or.inl rfl)) (Nat.le_of_lt (hM.belA rfl _ (Or.inl rfl)))
  show wx E H k n 1468 [(0, .ref b), (1, .ref (ad c 0 0)), (2, .ref (ma m 30)), (3, .ref ob), (4, .int (nI i))] []
  refine x_aload_n F dL_law_1468 1 rfl rfl ?_
  refine x_callVp (rest := []) F hO.1.day rfl (c_X3_digest l G _ c) k_L_171 ⟨(Nat.le_of_ble_eq_true rfl), (Nat.le_of_ble_eq_true rfl), rfl, rfl⟩ (by show k ≤ 601024; omega) (by show n ≤ 7293034; omega) dL_law_1469 rfl rfl (Nat.le_of_ble_eq_true rfl) (hO.1.reg (fun q h => h.1.1)) ?_
  refine x_aload_n F dL_law_1472 2 rfl rfl ?_
  refine x_callVo (A1 := fun q => Am (ma m) q ∨ H.size ≤ q) (rest := [.long (s_dig c)]) F hM.2.2.1 rfl (c_X4_digest l G (fun q => Am (ma m) q ∨ H.size ≤ q) m hW) k_L_175 ⟨⟨(Nat.le_of_ble_eq_true rfl), (Nat.le_of_ble_eq_true rfl)⟩, (by show k + 800 ≤ 601024; omega), (by show n + 6400 ≤ 7293034; omega)⟩ dL_law_1473 rfl rfl (Nat.le_of_ble_eq_true rfl) (fun q h => h.elim (hfa q) (fun x => Nat.le_trans hzH x)) (fun q h => Or.inr h) (hM.reg (fun q hq => Or.inl hq)) ?_
  rintro _ H2 ⟨rfl, hM2⟩ hz2 hk2
  have hO2 := hO.oth hz2 hk2
  replace hM2 : RepM G (Am (ma m)) (sY m 0 0) H2 := hM2.reg (fun q hq => hq)
  refine x_lcmp F dL_law_1476 ?_
  refine wx_i (y := 0) (by rw [r_dig hIC (Rl.t (v := 0) hRl), lcmp0]) ?_
  refine x_if_eq F dL_law_1477 (tgt := 1482) (by decide) (fun _ => ?_) (fun h1 => absurd (rfl) h1)
  refine wx_sub (lv' := lvL b (ad c 0 0) (ma m) ob i) [0, 1, 2, 3, 4] rfl ?_
  exact wx_wd (by show (k + 800) ≤ k + 800; omega) (by show (n + 6400) ≤ n + 6400; omega) (J H2 ⟨_, _, _, hO2, hM2, hIC, hRl.t, rfl, rfl⟩)
end LW2
