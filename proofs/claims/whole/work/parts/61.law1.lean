/-! the law's wrappers -/
section LW1
theorem oc_addMember (c : CS) (x : Int32) (a : Nat) : (o_addMember c x a).1 = 0 ∨ (((o_addMember c x a).2.2 = c) ∧ ((o_addMember c x a).1 = 1 ∨ (o_addMember c x a).1 = 2)) := by
  unfold o_addMember
  repeat' split
  all_goals first | exact Or.inl rfl | exact Or.inr ⟨rfl, rfl⟩ | exact Or.inr ⟨rfl, Or.inl rfl⟩ | exact Or.inr ⟨rfl, Or.inr rfl⟩ | exact Or.inr ⟨rfl, Or.inr (Or.inl rfl)⟩ | exact Or.inr ⟨rfl, Or.inr (Or.inr rfl)⟩
theorem oc_addGlider (c : CS) (x y1 y2 : Int32) (a : Nat) : (o_addGlider c x y1 y2 a).1 = 0 ∨ (((o_addGlider c x y1 y2 a).2.2 = c) ∧ ((o_addGlider c x y1 y2 a).1 = 1 ∨ (o_addGlider c x y1 y2 a).1 = 2)) := by
  unfold o_addGlider
  repeat' split
  all_goals first | exact Or.inl rfl | exact Or.inr ⟨rfl, rfl⟩ | exact Or.inr ⟨rfl, Or.inl rfl⟩ | exact Or.inr ⟨rfl, Or.inr rfl⟩ | exact Or.inr ⟨rfl, Or.inr (Or.inl rfl)⟩ | exact Or.inr ⟨rfl, Or.inr (Or.inr rfl)⟩
theorem oc_setWind (c : CS) (x : Int32) : (o_setWind c x).1 = 0 ∨ (((o_setWind c x).2.2 = c) ∧ ((o_setWind c x).1 = 1)) := by
  unfold o_setWind
  repeat' split
  all_goals first | exact Or.inl rfl | exact Or.inr ⟨rfl, rfl⟩ | exact Or.inr ⟨rfl, Or.inl rfl⟩ | exact Or.inr ⟨rfl, Or.inr rfl⟩ | exact Or.inr ⟨rfl, Or.inr (Or.inl rfl)⟩ | exact Or.inr ⟨rfl, Or.inr (Or.inr rfl)⟩
theorem oc_setSunset (c : CS) (x : Int32) : (o_setSunset c x).1 = 0 ∨ (((o_setSunset c x).2.2 = c) ∧ ((o_setSunset c x).1 = 1)) := by
  unfold o_setSunset
  repeat' split
  all_goals first | exact Or.inl rfl | exact Or.inr ⟨rfl, rfl⟩ | exact Or.inr ⟨rfl, Or.inl rfl⟩ | exact Or.inr ⟨rfl, Or.inr rfl⟩ | exact Or.inr ⟨rfl, Or.inr (Or.inl rfl)⟩ | exact Or.inr ⟨rfl, Or.inr (Or.inr rfl)⟩
theorem oc_setTugs (c : CS) (x : Int32) : (o_setTugs c x).1 = 0 ∨ (((o_setTugs c x).2.2 = c) ∧ ((o_setTugs c x).1 = 1 ∨ (o_setTugs c x).1 = 2)) := by
  unfold o_setTugs
  repeat' split
  all_goals first | exact Or.inl rfl | exact Or.inr ⟨rfl, rfl⟩ | exact Or.inr ⟨rfl, Or.inl rfl⟩ | exact Or.inr ⟨rfl, Or.inr rfl⟩ | exact Or.inr ⟨rfl, Or.inr (Or.inl rfl)⟩ | exact Or.inr ⟨rfl, Or.inr (Or.inr rfl)⟩
theorem oc_bar (c : CS) (x b : Int32) : (o_bar c x b).1 = 0 ∨ (((o_bar c x b).2.2 = c) ∧ ((o_bar c x b).1 = 3 ∨ (o_bar c x b).1 = 2)) := by
  unfold o_bar
  repeat' split
  all_goals first | exact Or.inl rfl | exact Or.inr ⟨rfl, rfl⟩ | exact Or.inr ⟨rfl, Or.inl rfl⟩ | exact Or.inr ⟨rfl, Or.inr rfl⟩ | exact Or.inr ⟨rfl, Or.inr (Or.inl rfl)⟩ | exact Or.inr ⟨rfl, Or.inr (Or.inr rfl)⟩
theorem oc_promote (c : CS) (x : Int32) : (o_promote c x).1 = 0 ∨ (((o_promote c x).2.2 = c) ∧ ((o_promote c x).1 = 3 ∨ (o_promote c x).1 = 2)) := by
  unfold o_promote
  repeat' split
  all_goals first | exact Or.inl rfl | exact Or.inr ⟨rfl, rfl⟩ | exact Or.inr ⟨rfl, Or.inl rfl⟩ | exact Or.inr ⟨rfl, Or.inr rfl⟩ | exact Or.inr ⟨rfl, Or.inr (Or.inl rfl)⟩ | exact Or.inr ⟨rfl, Or.inr (Or.inr rfl)⟩
theorem oc_member (c : CS) (x w1 : Int32) : (o_member c x w1).1 = 0 ∨ (((o_member c x w1).2.2 = c) ∧ ((o_member c x w1).1 = 3)) := by
  unfold o_member
  repeat' split
  all_goals first | exact Or.inl rfl | exact Or.inr ⟨rfl, rfl⟩ | exact Or.inr ⟨rfl, Or.inl rfl⟩ | exact Or.inr ⟨rfl, Or.inr rfl⟩ | exact Or.inr ⟨rfl, Or.inr (Or.inl rfl)⟩ | exact Or.inr ⟨rfl, Or.inr (Or.inr rfl)⟩
theorem oc_glider (c : CS) (x w1 : Int32) : (o_glider c x w1).1 = 0 ∨ (((o_glider c x w1).2.2 = c) ∧ ((o_glider c x w1).1 = 3)) := by
  unfold o_glider
  repeat' split
  all_goals first | exact Or.inl rfl | exact Or.inr ⟨rfl, rfl⟩ | exact Or.inr ⟨rfl, Or.inl rfl⟩ | exact Or.inr ⟨rfl, Or.inr rfl⟩ | exact Or.inr ⟨rfl, Or.inr (Or.inl rfl)⟩ | exact Or.inr ⟨rfl, Or.inr (Or.inr rfl)⟩
theorem oc_ask (c : CS) (x y1 y2 y3 y4 : Int32) (a : Nat) : (o_ask c x y1 y2 y3 y4 a).1 = 0 ∨ (((o_ask c x y1 y2 y3 y4 a).2.2 = c) ∧ ((o_ask c x y1 y2 y3 y4 a).1 = 3 ∨ (o_ask c x y1 y2 y3 y4 a).1 = 1 ∨ (o_ask c x y1 y2 y3 y4 a).1 = 2)) := by
  unfold o_ask
  repeat' split
  all_goals first | exact Or.inl rfl | exact Or.inr ⟨rfl, rfl⟩ | exact Or.inr ⟨rfl, Or.inl rfl⟩ | exact Or.inr ⟨rfl, Or.inr rfl⟩ | exact Or.inr ⟨rfl, Or.inr (Or.inl rfl)⟩ | exact Or.inr ⟨rfl, Or.inr (Or.inr rfl)⟩
theorem oc_drop (c : CS) (x : Int32) : (o_drop c x).1 = 0 ∨ (((o_drop c x).2.2 = c) ∧ ((o_drop c x).1 = 3 ∨ (o_drop c x).1 = 2)) := by
  unfold o_drop
  repeat' split
  all_goals first | exact Or.inl rfl | exact Or.inr ⟨rfl, rfl⟩ | exact Or.inr ⟨rfl, Or.inl rfl⟩ | exact Or.inr ⟨rfl, Or.inr rfl⟩ | exact Or.inr ⟨rfl, Or.inr (Or.inl rfl)⟩ | exact Or.inr ⟨rfl, Or.inr (Or.inr rfl)⟩
theorem oc_list (c : CS) (x : Int32) : (o_list c x).1 = 0 ∨ (((o_list c x).2.2 = c) ∧ ((o_list c x).1 = 3)) := by
  unfold o_list
  repeat' split
  all_goals first | exact Or.inl rfl | exact Or.inr ⟨rfl, rfl⟩ | exact Or.inr ⟨rfl, Or.inl rfl⟩ | exact Or.inr ⟨rfl, Or.inr rfl⟩ | exact Or.inr ⟨rfl, Or.inr (Or.inl rfl)⟩ | exact Or.inr ⟨rfl, Or.inr (Or.inr rfl)⟩
theorem oc_reason (c : CS) (x : Int32) : (o_reason c x).1 = 0 ∨ (((o_reason c x).2.2 = c) ∧ ((o_reason c x).1 = 3 ∨ (o_reason c x).1 = 2)) := by
  unfold o_reason
  repeat' split
  all_goals first | exact Or.inl rfl | exact Or.inr ⟨rfl, rfl⟩ | exact Or.inr ⟨rfl, Or.inl rfl⟩ | exact Or.inr ⟨rfl, Or.inr rfl⟩ | exact Or.inr ⟨rfl, Or.inr (Or.inl rfl)⟩ | exact Or.inr ⟨rfl, Or.inr (Or.inr rfl)⟩
theorem oc_call (c : CS) (x : Int32) : (o_call c x).1 = 0 ∨ (((o_call c x).2.2 = c) ∧ ((o_call c x).1 = 3 ∨ (o_call c x).1 = 2)) := by
  unfold o_call
  repeat' split
  all_goals first | exact Or.inl rfl | exact Or.inr ⟨rfl, rfl⟩ | exact Or.inr ⟨rfl, Or.inl rfl⟩ | exact Or.inr ⟨rfl, Or.inr rfl⟩ | exact Or.inr ⟨rfl, Or.inr (Or.inl rfl)⟩ | exact Or.inr ⟨rfl, Or.inr (Or.inr rfl)⟩
theorem oc_tick (c : CS) (x : Int32) : (o_tick c x).1 = 0 ∨ (((o_tick c x).2.2 = c) ∧ ((o_tick c x).1 = 1)) := by
  unfold o_tick
  repeat' split
  all_goals first | exact Or.inl rfl | exact Or.inr ⟨rfl, rfl⟩ | exact Or.inr ⟨rfl, Or.inl rfl⟩ | exact Or.inr ⟨rfl, Or.inr rfl⟩ | exact Or.inr ⟨rfl, Or.inr (Or.inl rfl)⟩ | exact Or.inr ⟨rfl, Or.inr (Or.inr rfl)⟩
theorem oc_flight (c : CS) (x w1 : Int32) : (o_flight c x w1).1 = 0 ∨ (((o_flight c x w1).2.2 = c) ∧ ((o_flight c x w1).1 = 3)) := by
  unfold o_flight
  repeat' split
  all_goals first | exact Or.inl rfl | exact Or.inr ⟨rfl, rfl⟩ | exact Or.inr ⟨rfl, Or.inl rfl⟩ | exact Or.inr ⟨rfl, Or.inr rfl⟩ | exact Or.inr ⟨rfl, Or.inr (Or.inl rfl)⟩ | exact Or.inr ⟨rfl, Or.inr (Or.inr rfl)⟩
theorem oc_count (c : CS) (x : Int32) : (o_count c x).1 = 0 ∨ (((o_count c x).2.2 = c) ∧ ((o_count c x).1 = 3)) := by
  unfold o_count
  repeat' split
  all_goals first | exact Or.inl rfl | exact Or.inr ⟨rfl, rfl⟩ | exact Or.inr ⟨rfl, Or.inl rfl⟩ | exact Or.inr ⟨rfl, Or.inr rfl⟩ | exact Or.inr ⟨rfl, Or.inr (Or.inl rfl)⟩ | exact Or.inr ⟨rfl, Or.inr (Or.inr rfl)⟩
theorem oc_bill (c : CS) (x : Int32) : (o_bill c x).1 = 0 ∨ (((o_bill c x).2.2 = c) ∧ ((o_bill c x).1 = 3)) := by
  unfold o_bill
  repeat' split
  all_goals first | exact Or.inl rfl | exact Or.inr ⟨rfl, rfl⟩ | exact Or.inr ⟨rfl, Or.inl rfl⟩ | exact Or.inr ⟨rfl, Or.inr rfl⟩ | exact Or.inr ⟨rfl, Or.inr (Or.inl rfl)⟩ | exact Or.inr ⟨rfl, Or.inr (Or.inr rfl)⟩
theorem oc_pay (c : CS) (x a1 : Int32) : (o_pay c x a1).1 = 0 ∨ (((o_pay c x a1).2.2 = c) ∧ ((o_pay c x a1).1 = 3 ∨ (o_pay c x a1).1 = 1)) := by
  unfold o_pay
  repeat' split
  all_goals first | exact Or.inl rfl | exact Or.inr ⟨rfl, rfl⟩ | exact Or.inr ⟨rfl, Or.inl rfl⟩ | exact Or.inr ⟨rfl, Or.inr rfl⟩ | exact Or.inr ⟨rfl, Or.inr (Or.inl rfl)⟩ | exact Or.inr ⟨rfl, Or.inr (Or.inr rfl)⟩
theorem bar_01 {c : CS} {x b : Int32} (hn : ng c ≤ 8) (hz : ∀ i, i < ng c → cG c i 5 = 0 ∨ cG c i 5 = 1) : (o_bar c x b).2.1 = 0 ∨ (o_bar c x b).2.1 = 1 := by
  unfold o_bar
  by_cases h1 : 0 ≤ x ∧ x < nI (ng c)
  · rw [if_pos h1]
    by_cases h2 : cG c (tN x) 4 = 0
    · rw [if_pos h2]
      obtain ⟨j, hj, -, e⟩ := idx_of (by omega) h1
      rw [e]
      exact hz j hj
    · rw [if_neg h2]
      exact Or.inl rfl
  · rw [if_neg h1]
    exact Or.inl rfl
theorem k_L_7 : cwV_ "GliderDayLaw" 7 "GliderDay" yX3_addMember cX3_addMember 3 (some .int) 1 := ⟨mw_242, mw_243, mw_244, mw_55, mw_245, ⟨by decide +kernel, by decide +kernel, by decide +kernel⟩⟩
theorem k_L_17 : cwV_ "GliderDayLaw" 17 "GliderDay" yX3_addGlider cX3_addGlider 5 (some .int) 3 := ⟨mw_424, mw_425, mw_426, mw_55, mw_427, ⟨by decide +kernel, by decide +kernel, by decide +kernel⟩⟩
theorem k_L_21 : cwV_ "GliderDayLaw" 21 "GliderDay" yX3_setWind cX3_setWind 3 (some .int) 1 := ⟨mw_474, mw_475, mw_476, mw_55, mw_477, ⟨by decide +kernel, by decide +kernel, by decide +kernel⟩⟩
theorem k_L_24 : cwV_ "GliderDayLaw" 24 "GliderDay" yX3_setSunset cX3_setSunset 3 (some .int) 1 := ⟨mw_482, mw_483, mw_484, mw_55, mw_485, ⟨by decide +kernel, by decide +kernel, by decide +kernel⟩⟩
theorem k_L_27 : cwV_ "GliderDayLaw" 27 "GliderDay" yX3_setTugs cX3_setTugs 2 (some .int) 1 := ⟨mw_490, mw_491, mw_492, mw_55, mw_493, ⟨by decide +kernel, by decide +kernel, by decide +kernel⟩⟩
theorem k_L_30 : cwV_ "GliderDayLaw" 30 "GliderDay" yX3_bar cX3_bar 5 (some .boolean) 2 := ⟨mw_500, mw_501, mw_502, mw_55, mw_503, ⟨by decide +kernel, by decide +kernel, by decide +kernel⟩⟩
theorem k_L_36 : cwV_ "GliderDayLaw" 36 "GliderDay" yX3_promote cX3_promote 3 (some .int) 1 := ⟨mw_528, mw_529, mw_530, mw_55, mw_531, ⟨by decide +kernel, by decide +kernel, by decide +kernel⟩⟩
theorem k_L_39 : cwV_ "GliderDayLaw" 39 "GliderDay" yX3_member cX3_member 4 (some .int) 2 := ⟨mw_544, mw_545, mw_546, mw_55, mw_547, ⟨by decide +kernel, by decide +kernel, by decide +kernel⟩⟩
theorem k_L_43 : cwV_ "GliderDayLaw" 43 "GliderDay" yX3_glider cX3_glider 4 (some .int) 2 := ⟨mw_552, mw_553, mw_554, mw_55, mw_555, ⟨by decide +kernel, by decide +kernel, by decide +kernel⟩⟩
theorem k_L_46 : cwV_ "GliderDayLaw" 46 "GliderDay" yX3_ask cX3_ask 10 (some .int) 5 := ⟨mw_559, mw_560, mw_561, mw_55, mw_562, ⟨by decide +kernel, by decide +kernel, by decide +kernel⟩⟩
theorem k_L_50 : cwV_ "GliderDayLaw" 50 "GliderDay" yX3_drop cX3_drop 4 (some .int) 1 := ⟨mw_617, mw_618, mw_619, mw_55, mw_620, ⟨by decide +kernel, by decide +kernel, by decide +kernel⟩⟩
theorem k_L_53 : cwV_ "GliderDayLaw" 53 "GliderDay" yX3_list cX3_list 2 (some .int) 1 := ⟨mw_651, mw_652, mw_653, mw_55, mw_654, ⟨by decide +kernel, by decide +kernel, by decide +kernel⟩⟩
theorem k_L_56 : cwV_ "GliderDayLaw" 56 "GliderDay" yX3_reason cX3_reason 2 (some .int) 1 := ⟨mw_659, mw_660, mw_661, mw_55, mw_662, ⟨by decide +kernel, by decide +kernel, by decide +kernel⟩⟩
theorem k_L_59 : cwV_ "GliderDayLaw" 59 "GliderDay" yX3_call cX3_call 4 (some .int) 1 := ⟨mw_691, mw_692, mw_693, mw_55, mw_694, ⟨by decide +kernel, by decide +kernel, by decide +kernel⟩⟩
theorem k_L_62 : cwV_ "GliderDayLaw" 62 "GliderDay" yX3_tick cX3_tick 4 (some .int) 1 := ⟨mw_699, mw_700, mw_701, mw_55, mw_702, ⟨by decide +kernel, by decide +kernel, by decide +kernel⟩⟩
theorem k_L_65 : cwV_ "GliderDayLaw" 65 "GliderDay" yX3_flight cX3_flight 4 (some .int) 2 := ⟨mw_765, mw_766, mw_767, mw_55, mw_768, ⟨by decide +kernel, by decide +kernel, by decide +kernel⟩⟩
theorem k_L_68 : cwV_ "GliderDayLaw" 68 "GliderDay" yX3_count cX3_count 2 (some .int) 1 := ⟨mw_772, mw_773, mw_774, mw_55, mw_775, ⟨by decide +kernel, by decide +kernel, by decide +kernel⟩⟩
theorem k_L_71 : cwV_ "GliderDayLaw" 71 "GliderDay" yX3_bill cX3_bill 2 (some .int) 1 := ⟨mw_780, mw_781, mw_782, mw_55, mw_783, ⟨by decide +kernel, by decide +kernel, by decide +kernel⟩⟩
theorem k_L_74 : cwV_ "GliderDayLaw" 74 "GliderDay" yX3_pay cX3_pay 4 (some .int) 2 := ⟨mw_787, mw_788, mw_789, mw_55, mw_790, ⟨by decide +kernel, by decide +kernel, by decide +kernel⟩⟩
set_option maxHeartbeats 4000000 in
set_option maxRecDepth 100000 in
theorem c_L_addMember (l : Launch) (G : GT) (A : Nat → Prop) (c : CS) (ob : Nat) (f : Nat → Int64) (x : Int32) (hL0 : l.stackTraces = false) : Cw l yL_addMember method_3_code 4 (some .int) [(0, 9, 12, 13), (0, 9, 15, 15)] ({ frames := 8, cells := 2, slots := 308, locals := 193 } : Room) G A [.ref (ad c 0 0), .int x, .ref ob] (fun H => RepO G A c ob f H) (fun H r H1 => ∃ a, Pw G A ob (o_addMember c x a) wA r H1) := by
  refine cw_of (own := "GliderDayLaw") (by decide +kernel) rfl (Nat.le_of_ble_eq_true rfl) (fun E H0 F hE hT hp => ?_)
  obtain ⟨hR, hv, hA⟩ := hp
  show wx E H0 0 0 0 [(0, .ref (ad c 0 0)), (1, .int x), (2, .ref ob)] []
  refine x_aload_n F dL_addMember_0 2 rfl rfl ?_
  refine x_iconst (v := 0) F rfl dL_addMember_1 ?_
  refine x_aload_n F dL_addMember_2 0 rfl rfl ?_
  refine x_iload_n F dL_addMember_3 1 rfl rfl ?_
  have hlt := hv.lt
  refine fr_of F fun hfr => ?_
  refine x_callVXo (A1 := fun q => A q ∧ q ≠ ob) (rest := [.int 0, .ref ob]) F hR.day rfl (c_X3_addMember l G _ c x hL0) k_L_7 ⟨⟨(Nat.le_of_ble_eq_true rfl), (Nat.le_of_ble_eq_true rfl)⟩, (Nat.le_of_ble_eq_true rfl), (Nat.le_of_ble_eq_true rfl)⟩ dL_addMember_4 rfl rfl (Nat.le_of_ble_eq_true rfl) (fun q h => h.1) (fun q h => ⟨hfr q h, fun e => absurd hlt (by omega)⟩) hR ?_ ?_
  · rintro q Ex H1 ⟨rfl, hne, hR1⟩ hex hz1 hk1
    have hv1 := hv.kept (hk1 ob hlt (fun h => h.2 rfl))
    obtain ⟨hc2, hk⟩ := (oc_addMember c x 0).resolve_left hne
    rcases hk with hk | hk
    · rw [hk] at hex
      refine x_caught F hT hex [] ⟨0, 9, 12, 13⟩ [⟨0, 9, 15, 15⟩] rfl (fun z hz => absurd hz List.not_mem_nil) (by decide) (by decide) mw_240 (by decide +kernel) ?_
      refine x_astore_n (lv' := [(3, .ref q), (0, .ref (ad c 0 0)), (1, .int x), (2, .ref ob)]) F dL_addMember_12 rfl (by decide) rfl ?_
      refine x_iconst (v := 1) F rfl dL_addMember_13 ?_
      exact x_iret F hE dL_addMember_14 (Nat.le_of_ble_eq_true rfl) (Nat.le_of_ble_eq_true rfl) (⟨0, f, by rw [hk]; rfl, by rw [hc2]; exact ⟨hR1, hv1, hA⟩, fun h => absurd h hne⟩)
    · rw [hk] at hex
      refine x_caught F hT hex [⟨0, 9, 12, 13⟩] ⟨0, 9, 15, 15⟩ [] rfl (fun z hz => by rw [List.mem_singleton.mp hz]; exact ⟨by decide, _, mw_240, Or.inl ⟨rfl, Or.inl rfl⟩⟩) (by decide) (by decide) mw_241 (by decide +kernel) ?_
      refine x_astore_n (lv' := [(3, .ref q), (0, .ref (ad c 0 0)), (1, .int x), (2, .ref ob)]) F dL_addMember_15 rfl (by decide) rfl ?_
      refine x_iconst (v := 2) F rfl dL_addMember_16 ?_
      exact x_iret F hE dL_addMember_17 (Nat.le_of_ble_eq_true rfl) (Nat.le_of_ble_eq_true rfl) (⟨0, f, by rw [hk]; rfl, by rw [hc2]; exact ⟨hR1, hv1, hA⟩, fun h => absurd h hne⟩)
  rintro _ H1 ⟨a, h0, rfl, hR1⟩ hz1 hk1
  have hv1 := hv.kept (hk1 ob hlt (fun h => h.2 rfl))
  refine x_i2l F dL_addMember_7 ?_
  refine x_last F hv1 hA (i := 0) (x := ((o_addMember c x a).2.1).toInt64) (vp_in_nI (n := 0) (by decide) (by decide)) dL_addMember_8 (fun H2 hv2 hs2 => ?_)
  have hO := RepO.put hR1 hA hs2 hv2
  refine x_goto F dL_addMember_9 (tgt := 18) (by decide) ?_
  refine x_iconst (v := 0) F rfl dL_addMember_18 ?_
  exact x_iret F hE dL_addMember_19 (Nat.le_of_ble_eq_true rfl) (Nat.le_of_ble_eq_true rfl) (⟨a, _, by rw [h0]; rfl, hO, fun _ => rfl⟩)
set_option maxHeartbeats 4000000 in
set_option maxRecDepth 100000 in
theorem c_L_addGlider (l : Launch) (G : GT) (A : Nat → Prop) (c : CS) (ob : Nat) (f : Nat → Int64) (x y1 y2 : Int32) (hL0 : l.stackTraces = false) : Cw l yL_addGlider method_4_code 6 (some .int) [(0, 12, 15, 13), (0, 12, 19, 15)] ({ frames := 8, cells := 2, slots := 310, locals := 195 } : Room) G A [.ref (ad c 0 0), .int x, .int y1, .int y2, .ref ob] (fun H => RepO G A c ob f H) (fun H r H1 => ∃ a, Pw G A ob (o_addGlider c x y1 y2 a) wA r H1) := by
  refine cw_of (own := "GliderDayLaw") (by decide +kernel) rfl (Nat.le_of_ble_eq_true rfl) (fun E H0 F hE hT hp => ?_)
  obtain ⟨hR, hv, hA⟩ := hp
  show wx E H0 0 0 0 [(0, .ref (ad c 0 0)), (1, .int x), (2, .int y1), (3, .int y2), (4, .ref ob)] []
  refine x_aload F dL_addGlider_0 4 rfl ?_
  refine x_iconst (v := 0) F rfl dL_addGlider_2 ?_
  refine x_aload_n F dL_addGlider_3 0 rfl rfl ?_
  refine x_iload_n F dL_addGlider_4 1 rfl rfl ?_
  refine x_iload_n F dL_addGlider_5 2 rfl rfl ?_
  refine x_iload_n F dL_addGlider_6 3 rfl rfl ?_
  have hlt := hv.lt
  refine fr_of F fun hfr => ?_
  refine x_callVXo (A1 := fun q => A q ∧ q ≠ ob) (rest := [.int 0, .ref ob]) F hR.day rfl (c_X3_addGlider l G _ c x y1 y2 hL0) k_L_17 ⟨⟨(Nat.le_of_ble_eq_true rfl), (Nat.le_of_ble_eq_true rfl)⟩, (Nat.le_of_ble_eq_true rfl), (Nat.le_of_ble_eq_true rfl)⟩ dL_addGlider_7 rfl rfl (Nat.le_of_ble_eq_true rfl) (fun q h => h.1) (fun q h => ⟨hfr q h, fun e => absurd hlt (by omega)⟩) hR ?_ ?_
  · rintro q Ex H1 ⟨rfl, hne, hR1⟩ hex hz1 hk1
    have hv1 := hv.kept (hk1 ob hlt (fun h => h.2 rfl))
    obtain ⟨hc2, hk⟩ := (oc_addGlider c x y1 y2 0).resolve_left hne
    rcases hk with hk | hk
    · rw [hk] at hex
      refine x_caught F hT hex [] ⟨0, 12, 15, 13⟩ [⟨0, 12, 19, 15⟩] rfl (fun z hz => absurd hz List.not_mem_nil) (by decide) (by decide) mw_240 (by decide +kernel) ?_
      refine x_astore (lv' := [(5, .ref q), (0, .ref (ad c 0 0)), (1, .int x), (2, .int y1), (3, .int y2), (4, .ref ob)]) F dL_addGlider_15 (by decide) rfl ?_
      refine x_iconst (v := 1) F rfl dL_addGlider_17 ?_
      exact x_iret F hE dL_addGlider_18 (Nat.le_of_ble_eq_true rfl) (Nat.le_of_ble_eq_true rfl) (⟨0, f, by rw [hk]; rfl, by rw [hc2]; exact ⟨hR1, hv1, hA⟩, fun h => absurd h hne⟩)
    · rw [hk] at hex
      refine x_caught F hT hex [⟨0, 12, 15, 13⟩] ⟨0, 12, 19, 15⟩ [] rfl (fun z hz => by rw [List.mem_singleton.mp hz]; exact ⟨by decide, _, mw_240, Or.inl ⟨rfl, Or.inl rfl⟩⟩) (by decide) (by decide) mw_241 (by decide +kernel) ?_
      refine x_astore (lv' := [(5, .ref q), (0, .ref (ad c 0 0)), (1, .int x), (2, .int y1), (3, .int y2), (4, .ref ob)]) F dL_addGlider_19 (by decide) rfl ?_
      refine x_iconst (v := 2) F rfl dL_addGlider_21 ?_
      exact x_iret F hE dL_addGlider_22 (Nat.le_of_ble_eq_true rfl) (Nat.le_of_ble_eq_true rfl) (⟨0, f, by rw [hk]; rfl, by rw [hc2]; exact ⟨hR1, hv1, hA⟩, fun h => absurd h hne⟩)
  rintro _ H1 ⟨a, h0, rfl, hR1⟩ hz1 hk1
  have hv1 := hv.kept (hk1 ob hlt (fun h => h.2 rfl))
  refine x_i2l F dL_addGlider_10 ?_
  refine x_last F hv1 hA (i := 0) (x := ((o_addGlider c x y1 y2 a).2.1).toInt64) (vp_in_nI (n := 0) (by decide) (by decide)) dL_addGlider_11 (fun H2 hv2 hs2 => ?_)
  have hO := RepO.put hR1 hA hs2 hv2
  refine x_goto F dL_addGlider_12 (tgt := 23) (by decide) ?_
  refine x_iconst (v := 0) F rfl dL_addGlider_23 ?_
  exact x_iret F hE dL_addGlider_24 (Nat.le_of_ble_eq_true rfl) (Nat.le_of_ble_eq_true rfl) (⟨a, _, by rw [h0]; rfl, hO, fun _ => rfl⟩)
set_option maxHeartbeats 4000000 in
set_option maxRecDepth 100000 in
theorem c_L_setWind (l : Launch) (G : GT) (A : Nat → Prop) (c : CS) (ob : Nat) (f : Nat → Int64) (x : Int32) (hL0 : l.stackTraces = false) : Cw l yL_setWind method_5_code 4 (some .int) [(0, 9, 12, 13)] ({ frames := 7, cells := 1, slots := 6, locals := 104 } : Room) G A [.ref (ad c 0 0), .int x, .ref ob] (fun H => RepO G A c ob f H) (fun H r H1 => Pw G A ob (o_setWind c x) wA r H1) := by
  refine cw_of (own := "GliderDayLaw") (by decide +kernel) rfl (Nat.le_of_ble_eq_true rfl) (fun E H0 F hE hT hp => ?_)
  obtain ⟨hR, hv, hA⟩ := hp
  show wx E H0 0 0 0 [(0, .ref (ad c 0 0)), (1, .int x), (2, .ref ob)] []
  refine x_aload_n F dL_setWind_0 2 rfl rfl ?_
  refine x_iconst (v := 0) F rfl dL_setWind_1 ?_
  refine x_aload_n F dL_setWind_2 0 rfl rfl ?_
  refine x_iload_n F dL_setWind_3 1 rfl rfl ?_
  have hlt := hv.lt
  refine fr_of F fun hfr => ?_
  refine x_callVXo (A1 := fun q => A q ∧ q ≠ ob) (rest := [.int 0, .ref ob]) F hR.day rfl (c_X3_setWind l G _ c x hL0) k_L_21 ⟨⟨(Nat.le_of_ble_eq_true rfl), (Nat.le_of_ble_eq_true rfl)⟩, (Nat.le_of_ble_eq_true rfl), (Nat.le_of_ble_eq_true rfl)⟩ dL_setWind_4 rfl rfl (Nat.le_of_ble_eq_true rfl) (fun q h => h.1) (fun q h => ⟨hfr q h, fun e => absurd hlt (by omega)⟩) hR ?_ ?_
  · rintro q Ex H1 ⟨rfl, hne, hR1⟩ hex hz1 hk1
    have hv1 := hv.kept (hk1 ob hlt (fun h => h.2 rfl))
    obtain ⟨hc2, hk⟩ := (oc_setWind c x).resolve_left hne
    rw [hk] at hex
    refine x_caught F hT hex [] ⟨0, 9, 12, 13⟩ [] rfl (fun z hz => absurd hz List.not_mem_nil) (by decide) (by decide) mw_240 (by decide +kernel) ?_
    refine x_astore_n (lv' := [(3, .ref q), (0, .ref (ad c 0 0)), (1, .int x), (2, .ref ob)]) F dL_setWind_12 rfl (by decide) rfl ?_
    refine x_iconst (v := 1) F rfl dL_setWind_13 ?_
    exact x_iret F hE dL_setWind_14 (Nat.le_of_ble_eq_true rfl) (Nat.le_of_ble_eq_true rfl) (⟨f, by rw [hk]; rfl, by rw [hc2]; exact ⟨hR1, hv1, hA⟩, fun h => absurd h hne⟩)
  rintro _ H1 ⟨h0, rfl, hR1⟩ hz1 hk1
  have hv1 := hv.kept (hk1 ob hlt (fun h => h.2 rfl))
  refine x_i2l F dL_setWind_7 ?_
  refine x_last F hv1 hA (i := 0) (x := ((o_setWind c x).2.1).toInt64) (vp_in_nI (n := 0) (by decide) (by decide)) dL_setWind_8 (fun H2 hv2 hs2 => ?_)
  have hO := RepO.put hR1 hA hs2 hv2
  refine x_goto F dL_setWind_9 (tgt := 15) (by decide) ?_
  refine x_iconst (v := 0) F rfl dL_setWind_15 ?_
  exact x_iret F hE dL_setWind_16 (Nat.le_of_ble_eq_true rfl) (Nat.le_of_ble_eq_true rfl) (⟨_, by rw [h0]; rfl, hO, fun _ => rfl⟩)
set_option maxHeartbeats 4000000 in
set_option maxRecDepth 100000 in
theorem c_L_setSunset (l : Launch) (G : GT) (A : Nat → Prop) (c : CS) (ob : Nat) (f : Nat → Int64) (x : Int32) (hL0 : l.stackTraces = false) : Cw l yL_setSunset method_6_code 4 (some .int) [(0, 9, 12, 13)] ({ frames := 7, cells := 1, slots := 6, locals := 104 } : Room) G A [.ref (ad c 0 0), .int x, .ref ob] (fun H => RepO G A c ob f H) (fun H r H1 => Pw G A ob (o_setSunset c x) wA r H1) := by
  refine cw_of (own := "GliderDayLaw") (by decide +kernel) rfl (Nat.le_of_ble_eq_true rfl) (fun E H0 F hE hT hp => ?_)
  obtain ⟨hR, hv, hA⟩ := hp
  show wx E H0 0 0 0 [(0, .ref (ad c 0 0)), (1, .int x), (2, .ref ob)] []
  refine x_aload_n F dL_setSunset_0 2 rfl rfl ?_
  refine x_iconst (v := 0) F rfl dL_setSunset_1 ?_
  refine x_aload_n F dL_setSunset_2 0 rfl rfl ?_
  refine x_iload_n F dL_setSunset_3 1 rfl rfl ?_
  have hlt := hv.lt
  refine fr_of F fun hfr => ?_
  refine x_callVXo (A1 := fun q => A q ∧ q ≠ ob) (rest := [.int 0, .ref ob]) F hR.day rfl (c_X3_setSunset l G _ c x hL0) k_L_24 ⟨⟨(Nat.le_of_ble_eq_true rfl), (Nat.le_of_ble_eq_true rfl)⟩, (Nat.le_of_ble_eq_true rfl), (Nat.le_of_ble_eq_true rfl)⟩ dL_setSunset_4 rfl rfl (Nat.le_of_ble_eq_true rfl) (fun q h => h.1) (fun q h => ⟨hfr q h, fun e => absurd hlt (by omega)⟩) hR ?_ ?_
  · rintro q Ex H1 ⟨rfl, hne, hR1⟩ hex hz1 hk1
    have hv1 := hv.kept (hk1 ob hlt (fun h => h.2 rfl))
    obtain ⟨hc2, hk⟩ := (oc_setSunset c x).resolve_left hne
    rw [hk] at hex
    refine x_caught F hT hex [] ⟨0, 9, 12, 13⟩ [] rfl (fun z hz => absurd hz List.not_mem_nil) (by decide) (by decide) mw_240 (by decide +kernel) ?_
    refine x_astore_n (lv' := [(3, .ref q), (0, .ref (ad c 0 0)), (1, .int x), (2, .ref ob)]) F dL_setSunset_12 rfl (by decide) rfl ?_
    refine x_iconst (v := 1) F rfl dL_setSunset_13 ?_
    exact x_iret F hE dL_setSunset_14 (Nat.le_of_ble_eq_true rfl) (Nat.le_of_ble_eq_true rfl) (⟨f, by rw [hk]; rfl, by rw [hc2]; exact ⟨hR1, hv1, hA⟩, fun h => absurd h hne⟩)
  rintro _ H1 ⟨h0, rfl, hR1⟩ hz1 hk1
  have hv1 := hv.kept (hk1 ob hlt (fun h => h.2 rfl))
  refine x_i2l F dL_setSunset_7 ?_
  refine x_last F hv1 hA (i := 0) (x := ((o_setSunset c x).2.1).toInt64) (vp_in_nI (n := 0) (by decide) (by decide)) dL_setSunset_8 (fun H2 hv2 hs2 => ?_)
  have hO := RepO.put hR1 hA hs2 hv2
  refine x_goto F dL_setSunset_9 (tgt := 15) (by decide) ?_
  refine x_iconst (v := 0) F rfl dL_setSunset_15 ?_
  exact x_iret F hE dL_setSunset_16 (Nat.le_of_ble_eq_true rfl) (Nat.le_of_ble_eq_true rfl) (⟨_, by rw [h0]; rfl, hO, fun _ => rfl⟩)
set_option maxHeartbeats 4000000 in
set_option maxRecDepth 100000 in
theorem c_L_setTugs (l : Launch) (G : GT) (A : Nat → Prop) (c : CS) (ob : Nat) (f : Nat → Int64) (x : Int32) (hL0 : l.stackTraces = false) : Cw l yL_setTugs method_7_code 4 (some .int) [(0, 9, 12, 13), (0, 9, 15, 15)] ({ frames := 7, cells := 1, slots := 6, locals := 103 } : Room) G A [.ref (ad c 0 0), .int x, .ref ob] (fun H => RepO G A c ob f H) (fun H r H1 => Pw G A ob (o_setTugs c x) wA r H1) := by
  refine cw_of (own := "GliderDayLaw") (by decide +kernel) rfl (Nat.le_of_ble_eq_true rfl) (fun E H0 F hE hT hp => ?_)
  obtain ⟨hR, hv, hA⟩ := hp
  show wx E H0 0 0 0 [(0, .ref (ad c 0 0)), (1, .int x), (2, .ref ob)] []
  refine x_aload_n F dL_setTugs_0 2 rfl rfl ?_
  refine x_iconst (v := 0) F rfl dL_setTugs_1 ?_
  refine x_aload_n F dL_setTugs_2 0 rfl rfl ?_
  refine x_iload_n F dL_setTugs_3 1 rfl rfl ?_
  have hlt := hv.lt
  refine fr_of F fun hfr => ?_
  refine x_callVXo (A1 := fun q => A q ∧ q ≠ ob) (rest := [.int 0, .ref ob]) F hR.day rfl (c_X3_setTugs l G _ c x hL0) k_L_27 ⟨⟨(Nat.le_of_ble_eq_true rfl), (Nat.le_of_ble_eq_true rfl)⟩, (Nat.le_of_ble_eq_true rfl), (Nat.le_of_ble_eq_true rfl)⟩ dL_setTugs_4 rfl rfl (Nat.le_of_ble_eq_true rfl) (fun q h => h.1) (fun q h => ⟨hfr q h, fun e => absurd hlt (by omega)⟩) hR ?_ ?_
  · rintro q Ex H1 ⟨rfl, hne, hR1⟩ hex hz1 hk1
    have hv1 := hv.kept (hk1 ob hlt (fun h => h.2 rfl))
    obtain ⟨hc2, hk⟩ := (oc_setTugs c x).resolve_left hne
    rcases hk with hk | hk
    · rw [hk] at hex
      refine x_caught F hT hex [] ⟨0, 9, 12, 13⟩ [⟨0, 9, 15, 15⟩] rfl (fun z hz => absurd hz List.not_mem_nil) (by decide) (by decide) mw_240 (by decide +kernel) ?_
      refine x_astore_n (lv' := [(3, .ref q), (0, .ref (ad c 0 0)), (1, .int x), (2, .ref ob)]) F dL_setTugs_12 rfl (by decide) rfl ?_
      refine x_iconst (v := 1) F rfl dL_setTugs_13 ?_
      exact x_iret F hE dL_setTugs_14 (Nat.le_of_ble_eq_true rfl) (Nat.le_of_ble_eq_true rfl) (⟨f, by rw [hk]; rfl, by rw [hc2]; exact ⟨hR1, hv1, hA⟩, fun h => absurd h hne⟩)
    · rw [hk] at hex
      refine x_caught F hT hex [⟨0, 9, 12, 13⟩] ⟨0, 9, 15, 15⟩ [] rfl (fun z hz => by rw [List.mem_singleton.mp hz]; exact ⟨by decide, _, mw_240, Or.inl ⟨rfl, Or.inl rfl⟩⟩) (by decide) (by decide) mw_241 (by decide +kernel) ?_
      refine x_astore_n (lv' := [(3, .ref q), (0, .ref (ad c 0 0)), (1, .int x), (2, .ref ob)]) F dL_setTugs_15 rfl (by decide) rfl ?_
      refine x_iconst (v := 2) F rfl dL_setTugs_16 ?_
      exact x_iret F hE dL_setTugs_17 (Nat.le_of_ble_eq_true rfl) (Nat.le_of_ble_eq_true rfl) (⟨f, by rw [hk]; rfl, by rw [hc2]; exact ⟨hR1, hv1, hA⟩, fun h => absurd h hne⟩)
  rintro _ H1 ⟨h0, rfl, hR1⟩ hz1 hk1
  have hv1 := hv.kept (hk1 ob hlt (fun h => h.2 rfl))
  refine x_i2l F dL_setTugs_7 ?_
  refine x_last F hv1 hA (i := 0) (x := ((o_setTugs c x).2.1).toInt64) (vp_in_nI (n := 0) (by decide) (by decide)) dL_setTugs_8 (fun H2 hv2 hs2 => ?_)
  have hO := RepO.put hR1 hA hs2 hv2
  refine x_goto F dL_setTugs_9 (tgt := 18) (by decide) ?_
  refine x_iconst (v := 0) F rfl dL_setTugs_18 ?_
  exact x_iret F hE dL_setTugs_19 (Nat.le_of_ble_eq_true rfl) (Nat.le_of_ble_eq_true rfl) (⟨_, by rw [h0]; rfl, hO, fun _ => rfl⟩)
set_option maxHeartbeats 4000000 in
set_option maxRecDepth 100000 in
theorem c_L_bar (l : Launch) (G : GT) (A : Nat → Prop) (c : CS) (ob : Nat) (f : Nat → Int64) (x b : Int32) (hb : b = 0 ∨ b = 1) (hz : ∀ i, i < ng c → cG c i 5 = 0 ∨ cG c i 5 = 1) (hL0 : l.stackTraces = false) : Cw l yL_bar method_8_code 5 (some .int) [(0, 17, 20, 34), (0, 17, 24, 15)] ({ frames := 8, cells := 2, slots := 12, locals := 127 } : Room) G A [.ref (ad c 0 0), .int x, .int b, .ref ob] (fun H => RepO G A c ob f H) (fun H r H1 => Pw G A ob (o_bar c x b) wB r H1) := by
  refine cw_of (own := "GliderDayLaw") (by decide +kernel) rfl (Nat.le_of_ble_eq_true rfl) (fun E H0 F hE hT hp => ?_)
  obtain ⟨hR, hv, hA⟩ := hp
  show wx E H0 0 0 0 [(0, .ref (ad c 0 0)), (1, .int x), (2, .int b), (3, .ref ob)] []
  refine x_aload_n F dL_bar_0 3 rfl rfl ?_
  refine x_iconst (v := 0) F rfl dL_bar_1 ?_
  refine x_aload_n F dL_bar_2 0 rfl rfl ?_
  refine x_iload_n F dL_bar_3 1 rfl rfl ?_
  refine x_iload_n F dL_bar_4 2 rfl rfl ?_
  have hlt := hv.lt
  refine fr_of F fun hfr => ?_
  refine x_callVXo (A1 := fun q => A q ∧ q ≠ ob) (rest := [.int 0, .ref ob]) F hR.day rfl (c_X3_bar l G _ c x b hb hz hL0) k_L_30 ⟨⟨(Nat.le_of_ble_eq_true rfl), (Nat.le_of_ble_eq_true rfl)⟩, (Nat.le_of_ble_eq_true rfl), (Nat.le_of_ble_eq_true rfl)⟩ dL_bar_5 rfl rfl (Nat.le_of_ble_eq_true rfl) (fun q h => h.1) (fun q h => ⟨hfr q h, fun e => absurd hlt (by omega)⟩) hR ?_ ?_
  · rintro q Ex H1 ⟨rfl, hne, hR1⟩ hex hz1 hk1
    have hv1 := hv.kept (hk1 ob hlt (fun h => h.2 rfl))
    obtain ⟨hc2, hk⟩ := (oc_bar c x b).resolve_left hne
    rcases hk with hk | hk
    · rw [hk] at hex
      refine x_caught F hT hex [] ⟨0, 17, 20, 34⟩ [⟨0, 17, 24, 15⟩] rfl (fun z hz => absurd hz List.not_mem_nil) (by decide) (by decide) mw_499 (by decide +kernel) ?_
      refine x_astore (lv' := [(4, .ref q), (0, .ref (ad c 0 0)), (1, .int x), (2, .int b), (3, .ref ob)]) F dL_bar_20 (by decide) rfl ?_
      refine x_iconst (v := 1) F rfl dL_bar_22 ?_
      exact x_iret F hE dL_bar_23 (Nat.le_of_ble_eq_true rfl) (Nat.le_of_ble_eq_true rfl) (⟨f, by rw [hk]; rfl, by rw [hc2]; exact ⟨hR1, hv1, hA⟩, fun h => absurd h hne⟩)
    · rw [hk] at hex
      refine x_caught F hT hex [⟨0, 17, 20, 34⟩] ⟨0, 17, 24, 15⟩ [] rfl (fun z hz => by rw [List.mem_singleton.mp hz]; exact ⟨by decide, _, mw_499, Or.inl ⟨rfl, Or.inr rfl⟩⟩) (by decide) (by decide) mw_241 (by decide +kernel) ?_
      refine x_astore (lv' := [(4, .ref q), (0, .ref (ad c 0 0)), (1, .int x), (2, .int b), (3, .ref ob)]) F dL_bar_24 (by decide) rfl ?_
      refine x_iconst (v := 2) F rfl dL_bar_26 ?_
      exact x_iret F hE dL_bar_27 (Nat.le_of_ble_eq_true rfl) (Nat.le_of_ble_eq_true rfl) (⟨f, by rw [hk]; rfl, by rw [hc2]; exact ⟨hR1, hv1, hA⟩, fun h => absurd h hne⟩)
  rintro _ H1 ⟨h0, rfl, hR1⟩ hz1 hk1
  have hv1 := hv.kept (hk1 ob hlt (fun h => h.2 rfl))
  have h01 : (o_bar c x b).2.1 = 0 ∨ (o_bar c x b).2.1 = 1 := bar_01 hR.wf.1.2.1 hz
  refine x_if_eq F dL_bar_8 (tgt := 15) (by decide) (fun h1 => ?_) (fun h1 => ?_)
  · refine x_lconst F dL_bar_15 rfl ?_
    refine x_last F hv1 hA (i := 0) (x := 0) (vp_in_nI (n := 0) (by decide) (by decide)) dL_bar_16 (fun H2 hv2 hs2 => ?_)
    have hO := RepO.put hR1 hA hs2 hv2
    refine x_goto F dL_bar_17 (tgt := 28) (by decide) ?_
    refine x_iconst (v := 0) F rfl dL_bar_28 ?_
    exact x_iret F hE dL_bar_29 (Nat.le_of_ble_eq_true rfl) (Nat.le_of_ble_eq_true rfl) (⟨_, by rw [h0]; rfl, hO, fun _ => by rw [h1]; rfl⟩)
  · refine x_lconst F dL_bar_11 rfl ?_
    refine x_goto F dL_bar_12 (tgt := 16) (by decide) ?_
    refine x_last F hv1 hA (i := 0) (x := 1) (vp_in_nI (n := 0) (by decide) (by decide)) dL_bar_16 (fun H2 hv2 hs2 => ?_)
    have hO := RepO.put hR1 hA hs2 hv2
    refine x_goto F dL_bar_17 (tgt := 28) (by decide) ?_
    refine x_iconst (v := 0) F rfl dL_bar_28 ?_
    exact x_iret F hE dL_bar_29 (Nat.le_of_ble_eq_true rfl) (Nat.le_of_ble_eq_true rfl) (⟨_, by rw [h0]; rfl, hO, fun _ => by rw [h01.resolve_left h1]; rfl⟩)
set_option maxHeartbeats 4000000 in
set_option maxRecDepth 100000 in
theorem c_L_promote (l : Launch) (G : GT) (A : Nat → Prop) (c : CS) (ob : Nat) (f : Nat → Int64) (x : Int32) (hL0 : l.stackTraces = false) : Cw l yL_promote method_9_code 4 (some .int) [(0, 9, 12, 34), (0, 9, 15, 15)] ({ frames := 8, cells := 2, slots := 12, locals := 125 } : Room) G A [.ref (ad c 0 0), .int x, .ref ob] (fun H => RepO G A c ob f H) (fun H r H1 => Pw G A ob (o_promote c x) wB r H1) := by
  refine cw_of (own := "GliderDayLaw") (by decide +kernel) rfl (Nat.le_of_ble_eq_true rfl) (fun E H0 F hE hT hp => ?_)
  obtain ⟨hR, hv, hA⟩ := hp
  show wx E H0 0 0 0 [(0, .ref (ad c 0 0)), (1, .int x), (2, .ref ob)] []
  refine x_aload_n F dL_promote_0 2 rfl rfl ?_
  refine x_iconst (v := 0) F rfl dL_promote_1 ?_
  refine x_aload_n F dL_promote_2 0 rfl rfl ?_
  refine x_iload_n F dL_promote_3 1 rfl rfl ?_
  have hlt := hv.lt
  refine fr_of F fun hfr => ?_
  refine x_callVXo (A1 := fun q => A q ∧ q ≠ ob) (rest := [.int 0, .ref ob]) F hR.day rfl (c_X3_promote l G _ c x hL0) k_L_36 ⟨⟨(Nat.le_of_ble_eq_true rfl), (Nat.le_of_ble_eq_true rfl)⟩, (Nat.le_of_ble_eq_true rfl), (Nat.le_of_ble_eq_true rfl)⟩ dL_promote_4 rfl rfl (Nat.le_of_ble_eq_true rfl) (fun q h => h.1) (fun q h => ⟨hfr q h, fun e => absurd hlt (by omega)⟩) hR ?_ ?_
  · rintro q Ex H1 ⟨rfl, hne, hR1⟩ hex hz1 hk1
    have hv1 := hv.kept (hk1 ob hlt (fun h => h.2 rfl))
    obtain ⟨hc2, hk⟩ := (oc_promote c x).resolve_left hne
    rcases hk with hk | hk
    · rw [hk] at hex
      refine x_caught F hT hex [] ⟨0, 9, 12, 34⟩ [⟨0, 9, 15, 15⟩] rfl (fun z hz => absurd hz List.not_mem_nil) (by decide) (by decide) mw_499 (by decide +kernel) ?_
      refine x_astore_n (lv' := [(3, .ref q), (0, .ref (ad c 0 0)), (1, .int x), (2, .ref ob)]) F dL_promote_12 rfl (by decide) rfl ?_
      refine x_iconst (v := 1) F rfl dL_promote_13 ?_
      exact x_iret F hE dL_promote_14 (Nat.le_of_ble_eq_true rfl) (Nat.le_of_ble_eq_true rfl) (⟨f, by rw [hk]; rfl, by rw [hc2]; exact ⟨hR1, hv1, hA⟩, fun h => absurd h hne⟩)
    · rw [hk] at hex
      refine x_caught F hT hex [⟨0, 9, 12, 34⟩] ⟨0, 9, 15, 15⟩ [] rfl (fun z hz => by rw [List.mem_singleton.mp hz]; exact ⟨by decide, _, mw_499, Or.inl ⟨rfl, Or.inr rfl⟩⟩) (by decide) (by decide) mw_241 (by decide +kernel) ?_
      refine x_astore_n (lv' := [(3, .ref q), (0, .ref (ad c 0 0)), (1, .int x), (2, .ref ob)]) F dL_promote_15 rfl (by decide) rfl ?_
      refine x_iconst (v := 2) F rfl dL_promote_16 ?_
      exact x_iret F hE dL_promote_17 (Nat.le_of_ble_eq_true rfl) (Nat.le_of_ble_eq_true rfl) (⟨f, by rw [hk]; rfl, by rw [hc2]; exact ⟨hR1, hv1, hA⟩, fun h => absurd h hne⟩)
  rintro _ H1 ⟨h0, rfl, hR1⟩ hz1 hk1
  have hv1 := hv.kept (hk1 ob hlt (fun h => h.2 rfl))
  refine x_i2l F dL_promote_7 ?_
  refine x_last F hv1 hA (i := 0) (x := ((o_promote c x).2.1).toInt64) (vp_in_nI (n := 0) (by decide) (by decide)) dL_promote_8 (fun H2 hv2 hs2 => ?_)
  have hO := RepO.put hR1 hA hs2 hv2
  refine x_goto F dL_promote_9 (tgt := 18) (by decide) ?_
  refine x_iconst (v := 0) F rfl dL_promote_18 ?_
  exact x_iret F hE dL_promote_19 (Nat.le_of_ble_eq_true rfl) (Nat.le_of_ble_eq_true rfl) (⟨_, by rw [h0]; rfl, hO, fun _ => rfl⟩)
set_option maxHeartbeats 4000000 in
set_option maxRecDepth 100000 in
theorem c_L_member (l : Launch) (G : GT) (A : Nat → Prop) (c : CS) (ob : Nat) (f : Nat → Int64) (x w1 : Int32) (hL0 : l.stackTraces = false) : Cw l yL_member method_10_code 5 (some .int) [(0, 10, 13, 34)] ({ frames := 8, cells := 2, slots := 12, locals := 126 } : Room) G A [.ref (ad c 0 0), .int x, .int w1, .ref ob] (fun H => RepO G A c ob f H) (fun H r H1 => Pw G A ob (o_member c x w1) wB r H1) := by
  refine cw_of (own := "GliderDayLaw") (by decide +kernel) rfl (Nat.le_of_ble_eq_true rfl) (fun E H0 F hE hT hp => ?_)
  obtain ⟨hR, hv, hA⟩ := hp
  show wx E H0 0 0 0 [(0, .ref (ad c 0 0)), (1, .int x), (2, .int w1), (3, .ref ob)] []
  refine x_aload_n F dL_member_0 3 rfl rfl ?_
  refine x_iconst (v := 0) F rfl dL_member_1 ?_
  refine x_aload_n F dL_member_2 0 rfl rfl ?_
  refine x_iload_n F dL_member_3 1 rfl rfl ?_
  refine x_iload_n F dL_member_4 2 rfl rfl ?_
  have hlt := hv.lt
  refine fr_of F fun hfr => ?_
  refine x_callVXo (A1 := fun q => A q ∧ q ≠ ob) (rest := [.int 0, .ref ob]) F hR.day rfl (c_X3_member l G _ c x w1 hL0) k_L_39 ⟨⟨(Nat.le_of_ble_eq_true rfl), (Nat.le_of_ble_eq_true rfl)⟩, (Nat.le_of_ble_eq_true rfl), (Nat.le_of_ble_eq_true rfl)⟩ dL_member_5 rfl rfl (Nat.le_of_ble_eq_true rfl) (fun q h => h.1) (fun q h => ⟨hfr q h, fun e => absurd hlt (by omega)⟩) hR ?_ ?_
  · rintro q Ex H1 ⟨rfl, hne, hR1⟩ hex hz1 hk1
    have hv1 := hv.kept (hk1 ob hlt (fun h => h.2 rfl))
    obtain ⟨hc2, hk⟩ := (oc_member c x w1).resolve_left hne
    rw [hk] at hex
    refine x_caught F hT hex [] ⟨0, 10, 13, 34⟩ [] rfl (fun z hz => absurd hz List.not_mem_nil) (by decide) (by decide) mw_499 (by decide +kernel) ?_
    refine x_astore (lv' := [(4, .ref q), (0, .ref (ad c 0 0)), (1, .int x), (2, .int w1), (3, .ref ob)]) F dL_member_13 (by decide) rfl ?_
    refine x_iconst (v := 1) F rfl dL_member_15 ?_
    exact x_iret F hE dL_member_16 (Nat.le_of_ble_eq_true rfl) (Nat.le_of_ble_eq_true rfl) (⟨f, by rw [hk]; rfl, by rw [hc2]; exact ⟨hR1, hv1, hA⟩, fun h => absurd h hne⟩)
  rintro _ H1 ⟨h0, rfl, hR1⟩ hz1 hk1
  have hv1 := hv.kept (hk1 ob hlt (fun h => h.2 rfl))
  refine x_i2l F dL_member_8 ?_
  refine x_last F hv1 hA (i := 0) (x := ((o_member c x w1).2.1).toInt64) (vp_in_nI (n := 0) (by decide) (by decide)) dL_member_9 (fun H2 hv2 hs2 => ?_)
  have hO := RepO.put hR1 hA hs2 hv2
  refine x_goto F dL_member_10 (tgt := 17) (by decide) ?_
  refine x_iconst (v := 0) F rfl dL_member_17 ?_
  exact x_iret F hE dL_member_18 (Nat.le_of_ble_eq_true rfl) (Nat.le_of_ble_eq_true rfl) (⟨_, by rw [h0]; rfl, hO, fun _ => rfl⟩)
set_option maxHeartbeats 4000000 in
set_option maxRecDepth 100000 in
theorem c_L_glider (l : Launch) (G : GT) (A : Nat → Prop) (c : CS) (ob : Nat) (f : Nat → Int64) (x w1 : Int32) (hL0 : l.stackTraces = false) : Cw l yL_glider method_11_code 5 (some .int) [(0, 10, 13, 34)] ({ frames := 8, cells := 2, slots := 12, locals := 126 } : Room) G A [.ref (ad c 0 0), .int x, .int w1, .ref ob] (fun H => RepO G A c ob f H) (fun H r H1 => Pw G A ob (o_glider c x w1) wB r H1) := by
  refine cw_of (own := "GliderDayLaw") (by decide +kernel) rfl (Nat.le_of_ble_eq_true rfl) (fun E H0 F hE hT hp => ?_)
  obtain ⟨hR, hv, hA⟩ := hp
  show wx E H0 0 0 0 [(0, .ref (ad c 0 0)), (1, .int x), (2, .int w1), (3, .ref ob)] []
  refine x_aload_n F dL_glider_0 3 rfl rfl ?_
  refine x_iconst (v := 0) F rfl dL_glider_1 ?_
  refine x_aload_n F dL_glider_2 0 rfl rfl ?_
  refine x_iload_n F dL_glider_3 1 rfl rfl ?_
  refine x_iload_n F dL_glider_4 2 rfl rfl ?_
  have hlt := hv.lt
  refine fr_of F fun hfr => ?_
  refine x_callVXo (A1 := fun q => A q ∧ q ≠ ob) (rest := [.int 0, .ref ob]) F hR.day rfl (c_X3_glider l G _ c x w1 hL0) k_L_43 ⟨⟨(Nat.le_of_ble_eq_true rfl), (Nat.le_of_ble_eq_true rfl)⟩, (Nat.le_of_ble_eq_true rfl), (Nat.le_of_ble_eq_true rfl)⟩ dL_glider_5 rfl rfl (Nat.le_of_ble_eq_true rfl) (fun q h => h.1) (fun q h => ⟨hfr q h, fun e => absurd hlt (by omega)⟩) hR ?_ ?_
  · rintro q Ex H1 ⟨rfl, hne, hR1⟩ hex hz1 hk1
    have hv1 := hv.kept (hk1 ob hlt (fun h => h.2 rfl))
    obtain ⟨hc2, hk⟩ := (oc_glider c x w1).resolve_left hne
    rw [hk] at hex
    refine x_caught F hT hex [] ⟨0, 10, 13, 34⟩ [] rfl (fun z hz => absurd hz List.not_mem_nil) (by decide) (by decide) mw_499 (by decide +kernel) ?_
    refine x_astore (lv' := [(4, .ref q), (0, .ref (ad c 0 0)), (1, .int x), (2, .int w1), (3, .ref ob)]) F dL_glider_13 (by decide) rfl ?_
    refine x_iconst (v := 1) F rfl dL_glider_15 ?_
    exact x_iret F hE dL_glider_16 (Nat.le_of_ble_eq_true rfl) (Nat.le_of_ble_eq_true rfl) (⟨f, by rw [hk]; rfl, by rw [hc2]; exact ⟨hR1, hv1, hA⟩, fun h => absurd h hne⟩)
  rintro _ H1 ⟨h0, rfl, hR1⟩ hz1 hk1
  have hv1 := hv.kept (hk1 ob hlt (fun h => h.2 rfl))
  refine x_i2l F dL_glider_8 ?_
  refine x_last F hv1 hA (i := 0) (x := ((o_glider c x w1).2.1).toInt64) (vp_in_nI (n := 0) (by decide) (by decide)) dL_glider_9 (fun H2 hv2 hs2 => ?_)
  have hO := RepO.put hR1 hA hs2 hv2
  refine x_goto F dL_glider_10 (tgt := 17) (by decide) ?_
  refine x_iconst (v := 0) F rfl dL_glider_17 ?_
  exact x_iret F hE dL_glider_18 (Nat.le_of_ble_eq_true rfl) (Nat.le_of_ble_eq_true rfl) (⟨_, by rw [h0]; rfl, hO, fun _ => rfl⟩)
set_option maxHeartbeats 4000000 in
set_option maxRecDepth 100000 in
theorem c_L_ask (l : Launch) (G : GT) (A : Nat → Prop) (c : CS) (ob : Nat) (f : Nat → Int64) (x y1 y2 y3 y4 : Int32) (hL0 : l.stackTraces = false) : Cw l yL_ask method_12_code 8 (some .int) [(0, 16, 19, 34), (0, 16, 23, 13), (0, 16, 27, 15)] ({ frames := 8, cells := 6, slots := 629, locals := 200 } : Room) G A [.ref (ad c 0 0), .int x, .int y1, .int y2, .int y3, .int y4, .ref ob] (fun H => RepO G A c ob f H) (fun H r H1 => ∃ a, Pw G A ob (o_ask c x y1 y2 y3 y4 a) wC r H1) := by
  refine cw_of (own := "GliderDayLaw") (by decide +kernel) rfl (Nat.le_of_ble_eq_true rfl) (fun E H0 F hE hT hp => ?_)
  obtain ⟨hR, hv, hA⟩ := hp
  show wx E H0 0 0 0 [(0, .ref (ad c 0 0)), (1, .int x), (2, .int y1), (3, .int y2), (4, .int y3), (5, .int y4), (6, .ref ob)] []
  refine x_aload F dL_ask_0 6 rfl ?_
  refine x_iconst (v := 0) F rfl dL_ask_2 ?_
  refine x_aload_n F dL_ask_3 0 rfl rfl ?_
  refine x_iload_n F dL_ask_4 1 rfl rfl ?_
  refine x_iload_n F dL_ask_5 2 rfl rfl ?_
  refine x_iload_n F dL_ask_6 3 rfl rfl ?_
  refine x_iload F dL_ask_7 4 rfl ?_
  refine x_iload F dL_ask_9 5 rfl ?_
  have hlt := hv.lt
  refine fr_of F fun hfr => ?_
  refine x_callVXo (A1 := fun q => A q ∧ q ≠ ob) (rest := [.int 0, .ref ob]) F hR.day rfl (c_X3_ask l G _ c x y1 y2 y3 y4 hL0) k_L_46 ⟨⟨(Nat.le_of_ble_eq_true rfl), (Nat.le_of_ble_eq_true rfl)⟩, (Nat.le_of_ble_eq_true rfl), (Nat.le_of_ble_eq_true rfl)⟩ dL_ask_11 rfl rfl (Nat.le_of_ble_eq_true rfl) (fun q h => h.1) (fun q h => ⟨hfr q h, fun e => absurd hlt (by omega)⟩) hR ?_ ?_
  · rintro q Ex H1 ⟨rfl, hne, hR1⟩ hex hz1 hk1
    have hv1 := hv.kept (hk1 ob hlt (fun h => h.2 rfl))
    obtain ⟨hc2, hk⟩ := (oc_ask c x y1 y2 y3 y4 0).resolve_left hne
    rcases hk with hk | hk | hk
    · rw [hk] at hex
      refine x_caught F hT hex [] ⟨0, 16, 19, 34⟩ [⟨0, 16, 23, 13⟩, ⟨0, 16, 27, 15⟩] rfl (fun z hz => absurd hz List.not_mem_nil) (by decide) (by decide) mw_499 (by decide +kernel) ?_
      refine x_astore (lv' := [(7, .ref q), (0, .ref (ad c 0 0)), (1, .int x), (2, .int y1), (3, .int y2), (4, .int y3), (5, .int y4), (6, .ref ob)]) F dL_ask_19 (by decide) rfl ?_
      refine x_iconst (v := 1) F rfl dL_ask_21 ?_
      exact x_iret F hE dL_ask_22 (Nat.le_of_ble_eq_true rfl) (Nat.le_of_ble_eq_true rfl) (⟨0, f, by rw [hk]; rfl, by rw [hc2]; exact ⟨hR1, hv1, hA⟩, fun h => absurd h hne⟩)
    · rw [hk] at hex
      refine x_caught F hT hex [⟨0, 16, 19, 34⟩] ⟨0, 16, 23, 13⟩ [⟨0, 16, 27, 15⟩] rfl (fun z hz => by rw [List.mem_singleton.mp hz]; exact ⟨by decide, _, mw_499, Or.inr ⟨rfl, rfl⟩⟩) (by decide) (by decide) mw_240 (by decide +kernel) ?_
      refine x_astore (lv' := [(7, .ref q), (0, .ref (ad c 0 0)), (1, .int x), (2, .int y1), (3, .int y2), (4, .int y3), (5, .int y4), (6, .ref ob)]) F dL_ask_23 (by decide) rfl ?_
      refine x_iconst (v := 2) F rfl dL_ask_25 ?_
      exact x_iret F hE dL_ask_26 (Nat.le_of_ble_eq_true rfl) (Nat.le_of_ble_eq_true rfl) (⟨0, f, by rw [hk]; rfl, by rw [hc2]; exact ⟨hR1, hv1, hA⟩, fun h => absurd h hne⟩)
    · rw [hk] at hex
      refine x_caught F hT hex [⟨0, 16, 19, 34⟩, ⟨0, 16, 23, 13⟩] ⟨0, 16, 27, 15⟩ [] rfl (List.forall_mem_cons.mpr ⟨⟨by decide, _, mw_499, Or.inl ⟨rfl, Or.inr rfl⟩⟩, List.forall_mem_cons.mpr ⟨⟨by decide, _, mw_240, Or.inl ⟨rfl, Or.inl rfl⟩⟩, fun _ h => absurd h List.not_mem_nil⟩⟩) (by decide) (by decide) mw_241 (by decide +kernel) ?_
      refine x_astore (lv' := [(7, .ref q), (0, .ref (ad c 0 0)), (1, .int x), (2, .int y1), (3, .int y2), (4, .int y3), (5, .int y4), (6, .ref ob)]) F dL_ask_27 (by decide) rfl ?_
      refine x_iconst (v := 3) F rfl dL_ask_29 ?_
      exact x_iret F hE dL_ask_30 (Nat.le_of_ble_eq_true rfl) (Nat.le_of_ble_eq_true rfl) (⟨0, f, by rw [hk]; rfl, by rw [hc2]; exact ⟨hR1, hv1, hA⟩, fun h => absurd h hne⟩)
  rintro _ H1 ⟨a, h0, rfl, hR1⟩ hz1 hk1
  have hv1 := hv.kept (hk1 ob hlt (fun h => h.2 rfl))
  refine x_i2l F dL_ask_14 ?_
  refine x_last F hv1 hA (i := 0) (x := ((o_ask c x y1 y2 y3 y4 a).2.1).toInt64) (vp_in_nI (n := 0) (by decide) (by decide)) dL_ask_15 (fun H2 hv2 hs2 => ?_)
  have hO := RepO.put hR1 hA hs2 hv2
  refine x_goto F dL_ask_16 (tgt := 31) (by decide) ?_
  refine x_iconst (v := 0) F rfl dL_ask_31 ?_
  exact x_iret F hE dL_ask_32 (Nat.le_of_ble_eq_true rfl) (Nat.le_of_ble_eq_true rfl) (⟨a, _, by rw [h0]; rfl, hO, fun _ => rfl⟩)
set_option maxHeartbeats 4000000 in
set_option maxRecDepth 100000 in
theorem c_L_drop (l : Launch) (G : GT) (A : Nat → Prop) (c : CS) (ob : Nat) (f : Nat → Int64) (x : Int32) (hL0 : l.stackTraces = false) : Cw l yL_drop method_13_code 4 (some .int) [(0, 9, 12, 34), (0, 9, 15, 15)] ({ frames := 9, cells := 2, slots := 12, locals := 148 } : Room) G A [.ref (ad c 0 0), .int x, .ref ob] (fun H => RepO G A c ob f H) (fun H r H1 => Pw G A ob (o_drop c x) wB r H1) := by
  refine cw_of (own := "GliderDayLaw") (by decide +kernel) rfl (Nat.le_of_ble_eq_true rfl) (fun E H0 F hE hT hp => ?_)
  obtain ⟨hR, hv, hA⟩ := hp
  show wx E H0 0 0 0 [(0, .ref (ad c 0 0)), (1, .int x), (2, .ref ob)] []
  refine x_aload_n F dL_drop_0 2 rfl rfl ?_
  refine x_iconst (v := 0) F rfl dL_drop_1 ?_
  refine x_aload_n F dL_drop_2 0 rfl rfl ?_
  refine x_iload_n F dL_drop_3 1 rfl rfl ?_
  have hlt := hv.lt
  refine fr_of F fun hfr => ?_
  refine x_callVXo (A1 := fun q => A q ∧ q ≠ ob) (rest := [.int 0, .ref ob]) F hR.day rfl (c_X3_drop l G _ c x hL0) k_L_50 ⟨⟨(Nat.le_of_ble_eq_true rfl), (Nat.le_of_ble_eq_true rfl)⟩, (Nat.le_of_ble_eq_true rfl), (Nat.le_of_ble_eq_true rfl)⟩ dL_drop_4 rfl rfl (Nat.le_of_ble_eq_true rfl) (fun q h => h.1) (fun q h => ⟨hfr q h, fun e => absurd hlt (by omega)⟩) hR ?_ ?_
  · rintro q Ex H1 ⟨rfl, hne, hR1⟩ hex hz1 hk1
    have hv1 := hv.kept (hk1 ob hlt (fun h => h.2 rfl))
    obtain ⟨hc2, hk⟩ := (oc_drop c x).resolve_left hne
    rcases hk with hk | hk
    · rw [hk] at hex
      refine x_caught F hT hex [] ⟨0, 9, 12, 34⟩ [⟨0, 9, 15, 15⟩] rfl (fun z hz => absurd hz List.not_mem_nil) (by decide) (by decide) mw_499 (by decide +kernel) ?_
      refine x_astore_n (lv' := [(3, .ref q), (0, .ref (ad c 0 0)), (1, .int x), (2, .ref ob)]) F dL_drop_12 rfl (by decide) rfl ?_
      refine x_iconst (v := 1) F rfl dL_drop_13 ?_
      exact x_iret F hE dL_drop_14 (Nat.le_of_ble_eq_true rfl) (Nat.le_of_ble_eq_true rfl) (⟨f, by rw [hk]; rfl, by rw [hc2]; exact ⟨hR1, hv1, hA⟩, fun h => absurd h hne⟩)
    · rw [hk] at hex
      refine x_caught F hT hex [⟨0, 9, 12, 34⟩] ⟨0, 9, 15, 15⟩ [] rfl (fun z hz => by rw [List.mem_singleton.mp hz]; exact ⟨by decide, _, mw_499, Or.inl ⟨rfl, Or.inr rfl⟩⟩) (by decide) (by decide) mw_241 (by decide +kernel) ?_
      refine x_astore_n (lv' := [(3, .ref q), (0, .ref (ad c 0 0)), (1, .int x), (2, .ref ob)]) F dL_drop_15 rfl (by decide) rfl ?_
      refine x_iconst (v := 2) F rfl dL_drop_16 ?_
      exact x_iret F hE dL_drop_17 (Nat.le_of_ble_eq_true rfl) (Nat.le_of_ble_eq_true rfl) (⟨f, by rw [hk]; rfl, by rw [hc2]; exact ⟨hR1, hv1, hA⟩, fun h => absurd h hne⟩)
  rintro _ H1 ⟨h0, rfl, hR1⟩ hz1 hk1
  have hv1 := hv.kept (hk1 ob hlt (fun h => h.2 rfl))
  refine x_i2l F dL_drop_7 ?_
  refine x_last F hv1 hA (i := 0) (x := ((o_drop c x).2.1).toInt64) (vp_in_nI (n := 0) (by decide) (by decide)) dL_drop_8 (fun H2 hv2 hs2 => ?_)
  have hO := RepO.put hR1 hA hs2 hv2
  refine x_goto F dL_drop_9 (tgt := 18) (by decide) ?_
  refine x_iconst (v := 0) F rfl dL_drop_18 ?_
  exact x_iret F hE dL_drop_19 (Nat.le_of_ble_eq_true rfl) (Nat.le_of_ble_eq_true rfl) (⟨_, by rw [h0]; rfl, hO, fun _ => rfl⟩)
set_option maxHeartbeats 4000000 in
set_option maxRecDepth 100000 in
theorem c_L_list (l : Launch) (G : GT) (A : Nat → Prop) (c : CS) (ob : Nat) (f : Nat → Int64) (x : Int32) (hL0 : l.stackTraces = false) : Cw l yL_list method_14_code 4 (some .int) [(0, 9, 12, 34)] ({ frames := 7, cells := 1, slots := 6, locals := 103 } : Room) G A [.ref (ad c 0 0), .int x, .ref ob] (fun H => RepO G A c ob f H) (fun H r H1 => Pw G A ob (o_list c x) wB r H1) := by
  refine cw_of (own := "GliderDayLaw") (by decide +kernel) rfl (Nat.le_of_ble_eq_true rfl) (fun E H0 F hE hT hp => ?_)
  obtain ⟨hR, hv, hA⟩ := hp
  show wx E H0 0 0 0 [(0, .ref (ad c 0 0)), (1, .int x), (2, .ref ob)] []
  refine x_aload_n F dL_list_0 2 rfl rfl ?_
  refine x_iconst (v := 0) F rfl dL_list_1 ?_
  refine x_aload_n F dL_list_2 0 rfl rfl ?_
  refine x_iload_n F dL_list_3 1 rfl rfl ?_
  have hlt := hv.lt
  refine fr_of F fun hfr => ?_
  refine x_callVXo (A1 := fun q => A q ∧ q ≠ ob) (rest := [.int 0, .ref ob]) F hR.day rfl (c_X3_list l G _ c x hL0) k_L_53 ⟨⟨(Nat.le_of_ble_eq_true rfl), (Nat.le_of_ble_eq_true rfl)⟩, (Nat.le_of_ble_eq_true rfl), (Nat.le_of_ble_eq_true rfl)⟩ dL_list_4 rfl rfl (Nat.le_of_ble_eq_true rfl) (fun q h => h.1) (fun q h => ⟨hfr q h, fun e => absurd hlt (by omega)⟩) hR ?_ ?_
  · rintro q Ex H1 ⟨rfl, hne, hR1⟩ hex hz1 hk1
    have hv1 := hv.kept (hk1 ob hlt (fun h => h.2 rfl))
    obtain ⟨hc2, hk⟩ := (oc_list c x).resolve_left hne
    rw [hk] at hex
    refine x_caught F hT hex [] ⟨0, 9, 12, 34⟩ [] rfl (fun z hz => absurd hz List.not_mem_nil) (by decide) (by decide) mw_499 (by decide +kernel) ?_
    refine x_astore_n (lv' := [(3, .ref q), (0, .ref (ad c 0 0)), (1, .int x), (2, .ref ob)]) F dL_list_12 rfl (by decide) rfl ?_
    refine x_iconst (v := 1) F rfl dL_list_13 ?_
    exact x_iret F hE dL_list_14 (Nat.le_of_ble_eq_true rfl) (Nat.le_of_ble_eq_true rfl) (⟨f, by rw [hk]; rfl, by rw [hc2]; exact ⟨hR1, hv1, hA⟩, fun h => absurd h hne⟩)
  rintro _ H1 ⟨h0, rfl, hR1⟩ hz1 hk1
  have hv1 := hv.kept (hk1 ob hlt (fun h => h.2 rfl))
  refine x_i2l F dL_list_7 ?_
  refine x_last F hv1 hA (i := 0) (x := ((o_list c x).2.1).toInt64) (vp_in_nI (n := 0) (by decide) (by decide)) dL_list_8 (fun H2 hv2 hs2 => ?_)
  have hO := RepO.put hR1 hA hs2 hv2
  refine x_goto F dL_list_9 (tgt := 15) (by decide) ?_
  refine x_iconst (v := 0) F rfl dL_list_15 ?_
  exact x_iret F hE dL_list_16 (Nat.le_of_ble_eq_true rfl) (Nat.le_of_ble_eq_true rfl) (⟨_, by rw [h0]; rfl, hO, fun _ => rfl⟩)
set_option maxHeartbeats 4000000 in
set_option maxRecDepth 100000 in
theorem c_L_reason (l : Launch) (G : GT) (A : Nat → Prop) (c : CS) (ob : Nat) (f : Nat → Int64) (x : Int32) (hL0 : l.stackTraces = false) : Cw l yL_reason method_15_code 4 (some .int) [(0, 9, 12, 34), (0, 9, 15, 15)] ({ frames := 9, cells := 2, slots := 12, locals := 146 } : Room) G A [.ref (ad c 0 0), .int x, .ref ob] (fun H => RepO G A c ob f H) (fun H r H1 => Pw G A ob (o_reason c x) wB r H1) := by
  refine cw_of (own := "GliderDayLaw") (by decide +kernel) rfl (Nat.le_of_ble_eq_true rfl) (fun E H0 F hE hT hp => ?_)
  obtain ⟨hR, hv, hA⟩ := hp
  show wx E H0 0 0 0 [(0, .ref (ad c 0 0)), (1, .int x), (2, .ref ob)] []
  refine x_aload_n F dL_reason_0 2 rfl rfl ?_
  refine x_iconst (v := 0) F rfl dL_reason_1 ?_
  refine x_aload_n F dL_reason_2 0 rfl rfl ?_
  refine x_iload_n F dL_reason_3 1 rfl rfl ?_
  have hlt := hv.lt
  refine fr_of F fun hfr => ?_
  refine x_callVXo (A1 := fun q => A q ∧ q ≠ ob) (rest := [.int 0, .ref ob]) F hR.day rfl (c_X3_reason l G _ c x hL0) k_L_56 ⟨⟨(Nat.le_of_ble_eq_true rfl), (Nat.le_of_ble_eq_true rfl)⟩, (Nat.le_of_ble_eq_true rfl), (Nat.le_of_ble_eq_true rfl)⟩ dL_reason_4 rfl rfl (Nat.le_of_ble_eq_true rfl) (fun q h => h.1) (fun q h => ⟨hfr q h, fun e => absurd hlt (by omega)⟩) hR ?_ ?_
  · rintro q Ex H1 ⟨rfl, hne, hR1⟩ hex hz1 hk1
    have hv1 := hv.kept (hk1 ob hlt (fun h => h.2 rfl))
    obtain ⟨hc2, hk⟩ := (oc_reason c x).resolve_left hne
    rcases hk with hk | hk
    · rw [hk] at hex
      refine x_caught F hT hex [] ⟨0, 9, 12, 34⟩ [⟨0, 9, 15, 15⟩] rfl (fun z hz => absurd hz List.not_mem_nil) (by decide) (by decide) mw_499 (by decide +kernel) ?_
      refine x_astore_n (lv' := [(3, .ref q), (0, .ref (ad c 0 0)), (1, .int x), (2, .ref ob)]) F dL_reason_12 rfl (by decide) rfl ?_
      refine x_iconst (v := 1) F rfl dL_reason_13 ?_
      exact x_iret F hE dL_reason_14 (Nat.le_of_ble_eq_true rfl) (Nat.le_of_ble_eq_true rfl) (⟨f, by rw [hk]; rfl, by rw [hc2]; exact ⟨hR1, hv1, hA⟩, fun h => absurd h hne⟩)
    · rw [hk] at hex
      refine x_caught F hT hex [⟨0, 9, 12, 34⟩] ⟨0, 9, 15, 15⟩ [] rfl (fun z hz => by rw [List.mem_singleton.mp hz]; exact ⟨by decide, _, mw_499, Or.inl ⟨rfl, Or.inr rfl⟩⟩) (by decide) (by decide) mw_241 (by decide +kernel) ?_
      refine x_astore_n (lv' := [(3, .ref q), (0, .ref (ad c 0 0)), (1, .int x), (2, .ref ob)]) F dL_reason_15 rfl (by decide) rfl ?_
      refine x_iconst (v := 2) F rfl dL_reason_16 ?_
      exact x_iret F hE dL_reason_17 (Nat.le_of_ble_eq_true rfl) (Nat.le_of_ble_eq_true rfl) (⟨f, by rw [hk]; rfl, by rw [hc2]; exact ⟨hR1, hv1, hA⟩, fun h => absurd h hne⟩)
  rintro _ H1 ⟨h0, rfl, hR1⟩ hz1 hk1
  have hv1 := hv.kept (hk1 ob hlt (fun h => h.2 rfl))
  refine x_i2l F dL_reason_7 ?_
  refine x_last F hv1 hA (i := 0) (x := ((o_reason c x).2.1).toInt64) (vp_in_nI (n := 0) (by decide) (by decide)) dL_reason_8 (fun H2 hv2 hs2 => ?_)
  have hO := RepO.put hR1 hA hs2 hv2
  refine x_goto F dL_reason_9 (tgt := 18) (by decide) ?_
  refine x_iconst (v := 0) F rfl dL_reason_18 ?_
  exact x_iret F hE dL_reason_19 (Nat.le_of_ble_eq_true rfl) (Nat.le_of_ble_eq_true rfl) (⟨_, by rw [h0]; rfl, hO, fun _ => rfl⟩)
set_option maxHeartbeats 4000000 in
set_option maxRecDepth 100000 in
theorem c_L_call (l : Launch) (G : GT) (A : Nat → Prop) (c : CS) (ob : Nat) (f : Nat → Int64) (x : Int32) (hL0 : l.stackTraces = false) : Cw l yL_call method_16_code 4 (some .int) [(0, 9, 12, 34), (0, 9, 15, 15)] ({ frames := 8, cells := 2, slots := 12, locals := 126 } : Room) G A [.ref (ad c 0 0), .int x, .ref ob] (fun H => RepO G A c ob f H) (fun H r H1 => Pw G A ob (o_call c x) wB r H1) := by
  refine cw_of (own := "GliderDayLaw") (by decide +kernel) rfl (Nat.le_of_ble_eq_true rfl) (fun E H0 F hE hT hp => ?_)
  obtain ⟨hR, hv, hA⟩ := hp
  show wx E H0 0 0 0 [(0, .ref (ad c 0 0)), (1, .int x), (2, .ref ob)] []
  refine x_aload_n F dL_call_0 2 rfl rfl ?_
  refine x_iconst (v := 0) F rfl dL_call_1 ?_
  refine x_aload_n F dL_call_2 0 rfl rfl ?_
  refine x_iload_n F dL_call_3 1 rfl rfl ?_
  have hlt := hv.lt
  refine fr_of F fun hfr => ?_
  refine x_callVXo (A1 := fun q => A q ∧ q ≠ ob) (rest := [.int 0, .ref ob]) F hR.day rfl (c_X3_call l G _ c x hL0) k_L_59 ⟨⟨(Nat.le_of_ble_eq_true rfl), (Nat.le_of_ble_eq_true rfl)⟩, (Nat.le_of_ble_eq_true rfl), (Nat.le_of_ble_eq_true rfl)⟩ dL_call_4 rfl rfl (Nat.le_of_ble_eq_true rfl) (fun q h => h.1) (fun q h => ⟨hfr q h, fun e => absurd hlt (by omega)⟩) hR ?_ ?_
  · rintro q Ex H1 ⟨rfl, hne, hR1⟩ hex hz1 hk1
    have hv1 := hv.kept (hk1 ob hlt (fun h => h.2 rfl))
    obtain ⟨hc2, hk⟩ := (oc_call c x).resolve_left hne
    rcases hk with hk | hk
    · rw [hk] at hex
      refine x_caught F hT hex [] ⟨0, 9, 12, 34⟩ [⟨0, 9, 15, 15⟩] rfl (fun z hz => absurd hz List.not_mem_nil) (by decide) (by decide) mw_499 (by decide +kernel) ?_
      refine x_astore_n (lv' := [(3, .ref q), (0, .ref (ad c 0 0)), (1, .int x), (2, .ref ob)]) F dL_call_12 rfl (by decide) rfl ?_
      refine x_iconst (v := 1) F rfl dL_call_13 ?_
      exact x_iret F hE dL_call_14 (Nat.le_of_ble_eq_true rfl) (Nat.le_of_ble_eq_true rfl) (⟨f, by rw [hk]; rfl, by rw [hc2]; exact ⟨hR1, hv1, hA⟩, fun h => absurd h hne⟩)
    · rw [hk] at hex
      refine x_caught F hT hex [⟨0, 9, 12, 34⟩] ⟨0, 9, 15, 15⟩ [] rfl (fun z hz => by rw [List.mem_singleton.mp hz]; exact ⟨by decide, _, mw_499, Or.inl ⟨rfl, Or.inr rfl⟩⟩) (by decide) (by decide) mw_241 (by decide +kernel) ?_
      refine x_astore_n (lv' := [(3, .ref q), (0, .ref (ad c 0 0)), (1, .int x), (2, .ref ob)]) F dL_call_15 rfl (by decide) rfl ?_
      refine x_iconst (v := 2) F rfl dL_call_16 ?_
      exact x_iret F hE dL_call_17 (Nat.le_of_ble_eq_true rfl) (Nat.le_of_ble_eq_true rfl) (⟨f, by rw [hk]; rfl, by rw [hc2]; exact ⟨hR1, hv1, hA⟩, fun h => absurd h hne⟩)
  rintro _ H1 ⟨h0, rfl, hR1⟩ hz1 hk1
  have hv1 := hv.kept (hk1 ob hlt (fun h => h.2 rfl))
  refine x_i2l F dL_call_7 ?_
  refine x_last F hv1 hA (i := 0) (x := ((o_call c x).2.1).toInt64) (vp_in_nI (n := 0) (by decide) (by decide)) dL_call_8 (fun H2 hv2 hs2 => ?_)
  have hO := RepO.put hR1 hA hs2 hv2
  refine x_goto F dL_call_9 (tgt := 18) (by decide) ?_
  refine x_iconst (v := 0) F rfl dL_call_18 ?_
  exact x_iret F hE dL_call_19 (Nat.le_of_ble_eq_true rfl) (Nat.le_of_ble_eq_true rfl) (⟨_, by rw [h0]; rfl, hO, fun _ => rfl⟩)
set_option maxHeartbeats 4000000 in
set_option maxRecDepth 100000 in
theorem c_L_tick (l : Launch) (G : GT) (A : Nat → Prop) (c : CS) (ob : Nat) (f : Nat → Int64) (x : Int32) (hlen : (1 ≤ x ∧ x ≤ 300) ∧ cD c 9 + x ≤ 1500 → ∀ i, i < tN x → ∀ g, g < ng c → (wtg (u_wN (u_tgs (u_cab (sD (u_tick i c).2 9 (cD (u_tick i c).2 9 + 1)))) g)).length < 10) (hL0 : l.stackTraces = false) : Cw l yL_tick method_17_code 4 (some .int) [(0, 9, 12, 13)] ({ frames := 10, cells := 2, slots := 312, locals := 236 } : Room) G A [.ref (ad c 0 0), .int x, .ref ob] (fun H => RepO G A c ob f H) (fun H r H1 => Pw G A ob (o_tick c x) wA r H1) := by
  refine cw_of (own := "GliderDayLaw") (by decide +kernel) rfl (Nat.le_of_ble_eq_true rfl) (fun E H0 F hE hT hp => ?_)
  obtain ⟨hR, hv, hA⟩ := hp
  show wx E H0 0 0 0 [(0, .ref (ad c 0 0)), (1, .int x), (2, .ref ob)] []
  refine x_aload_n F dL_tick_0 2 rfl rfl ?_
  refine x_iconst (v := 0) F rfl dL_tick_1 ?_
  refine x_aload_n F dL_tick_2 0 rfl rfl ?_
  refine x_iload_n F dL_tick_3 1 rfl rfl ?_
  have hlt := hv.lt
  refine fr_of F fun hfr => ?_
  refine x_callVXo (A1 := fun q => A q ∧ q ≠ ob) (rest := [.int 0, .ref ob]) F hR.day rfl (c_X3_tickB l G _ c x hlen hL0) k_L_62 ⟨⟨(Nat.le_of_ble_eq_true rfl), (Nat.le_of_ble_eq_true rfl)⟩, (Nat.le_of_ble_eq_true rfl), (Nat.le_of_ble_eq_true rfl)⟩ dL_tick_4 rfl rfl (Nat.le_of_ble_eq_true rfl) (fun q h => h.1) (fun q h => ⟨hfr q h, fun e => absurd hlt (by omega)⟩) hR ?_ ?_
  · rintro q Ex H1 ⟨rfl, hne, hR1⟩ hex hz1 hk1
    have hv1 := hv.kept (hk1 ob hlt (fun h => h.2 rfl))
    obtain ⟨hc2, hk⟩ := (oc_tick c x).resolve_left hne
    rw [hk] at hex
    refine x_caught F hT hex [] ⟨0, 9, 12, 13⟩ [] rfl (fun z hz => absurd hz List.not_mem_nil) (by decide) (by decide) mw_240 (by decide +kernel) ?_
    refine x_astore_n (lv' := [(3, .ref q), (0, .ref (ad c 0 0)), (1, .int x), (2, .ref ob)]) F dL_tick_12 rfl (by decide) rfl ?_
    refine x_iconst (v := 1) F rfl dL_tick_13 ?_
    exact x_iret F hE dL_tick_14 (Nat.le_of_ble_eq_true rfl) (Nat.le_of_ble_eq_true rfl) (⟨f, by rw [hk]; rfl, by rw [hc2]; exact ⟨hR1, hv1, hA⟩, fun h => absurd h hne⟩)
  rintro _ H1 ⟨h0, rfl, hR1⟩ hz1 hk1
  have hv1 := hv.kept (hk1 ob hlt (fun h => h.2 rfl))
  refine x_i2l F dL_tick_7 ?_
  refine x_last F hv1 hA (i := 0) (x := ((o_tick c x).2.1).toInt64) (vp_in_nI (n := 0) (by decide) (by decide)) dL_tick_8 (fun H2 hv2 hs2 => ?_)
  have hO := RepO.put hR1 hA hs2 hv2
  refine x_goto F dL_tick_9 (tgt := 15) (by decide) ?_
  refine x_iconst (v := 0) F rfl dL_tick_15 ?_
  exact x_iret F hE dL_tick_16 (Nat.le_of_ble_eq_true rfl) (Nat.le_of_ble_eq_true rfl) (⟨_, by rw [h0]; rfl, hO, fun _ => rfl⟩)
set_option maxHeartbeats 4000000 in
set_option maxRecDepth 100000 in
theorem c_L_flight (l : Launch) (G : GT) (A : Nat → Prop) (c : CS) (ob : Nat) (f : Nat → Int64) (x w1 : Int32) (hL0 : l.stackTraces = false) : Cw l yL_flight method_18_code 5 (some .int) [(0, 10, 13, 34)] ({ frames := 8, cells := 2, slots := 12, locals := 126 } : Room) G A [.ref (ad c 0 0), .int x, .int w1, .ref ob] (fun H => RepO G A c ob f H) (fun H r H1 => Pw G A ob (o_flight c x w1) wB r H1) := by
  refine cw_of (own := "GliderDayLaw") (by decide +kernel) rfl (Nat.le_of_ble_eq_true rfl) (fun E H0 F hE hT hp => ?_)
  obtain ⟨hR, hv, hA⟩ := hp
  show wx E H0 0 0 0 [(0, .ref (ad c 0 0)), (1, .int x), (2, .int w1), (3, .ref ob)] []
  refine x_aload_n F dL_flight_0 3 rfl rfl ?_
  refine x_iconst (v := 0) F rfl dL_flight_1 ?_
  refine x_aload_n F dL_flight_2 0 rfl rfl ?_
  refine x_iload_n F dL_flight_3 1 rfl rfl ?_
  refine x_iload_n F dL_flight_4 2 rfl rfl ?_
  have hlt := hv.lt
  refine fr_of F fun hfr => ?_
  refine x_callVXo (A1 := fun q => A q ∧ q ≠ ob) (rest := [.int 0, .ref ob]) F hR.day rfl (c_X3_flight l G _ c x w1 hL0) k_L_65 ⟨⟨(Nat.le_of_ble_eq_true rfl), (Nat.le_of_ble_eq_true rfl)⟩, (Nat.le_of_ble_eq_true rfl), (Nat.le_of_ble_eq_true rfl)⟩ dL_flight_5 rfl rfl (Nat.le_of_ble_eq_true rfl) (fun q h => h.1) (fun q h => ⟨hfr q h, fun e => absurd hlt (by omega)⟩) hR ?_ ?_
  · rintro q Ex H1 ⟨rfl, hne, hR1⟩ hex hz1 hk1
    have hv1 := hv.kept (hk1 ob hlt (fun h => h.2 rfl))
    obtain ⟨hc2, hk⟩ := (oc_flight c x w1).resolve_left hne
    rw [hk] at hex
    refine x_caught F hT hex [] ⟨0, 10, 13, 34⟩ [] rfl (fun z hz => absurd hz List.not_mem_nil) (by decide) (by decide) mw_499 (by decide +kernel) ?_
    refine x_astore (lv' := [(4, .ref q), (0, .ref (ad c 0 0)), (1, .int x), (2, .int w1), (3, .ref ob)]) F dL_flight_13 (by decide) rfl ?_
    refine x_iconst (v := 1) F rfl dL_flight_15 ?_
    exact x_iret F hE dL_flight_16 (Nat.le_of_ble_eq_true rfl) (Nat.le_of_ble_eq_true rfl) (⟨f, by rw [hk]; rfl, by rw [hc2]; exact ⟨hR1, hv1, hA⟩, fun h => absurd h hne⟩)
  rintro _ H1 ⟨h0, rfl, hR1⟩ hz1 hk1
  have hv1 := hv.kept (hk1 ob hlt (fun h => h.2 rfl))
  refine x_i2l F dL_flight_8 ?_
  refine x_last F hv1 hA (i := 0) (x := ((o_flight c x w1).2.1).toInt64) (vp_in_nI (n := 0) (by decide) (by decide)) dL_flight_9 (fun H2 hv2 hs2 => ?_)
  have hO := RepO.put hR1 hA hs2 hv2
  refine x_goto F dL_flight_10 (tgt := 17) (by decide) ?_
  refine x_iconst (v := 0) F rfl dL_flight_17 ?_
  exact x_iret F hE dL_flight_18 (Nat.le_of_ble_eq_true rfl) (Nat.le_of_ble_eq_true rfl) (⟨_, by rw [h0]; rfl, hO, fun _ => rfl⟩)
set_option maxHeartbeats 4000000 in
set_option maxRecDepth 100000 in
theorem c_L_count (l : Launch) (G : GT) (A : Nat → Prop) (c : CS) (ob : Nat) (f : Nat → Int64) (x : Int32) (hL0 : l.stackTraces = false) : Cw l yL_count method_19_code 4 (some .int) [(0, 9, 12, 34)] ({ frames := 7, cells := 1, slots := 6, locals := 128 } : Room) G A [.ref (ad c 0 0), .int x, .ref ob] (fun H => RepO G A c ob f H) (fun H r H1 => Pw G A ob (o_count c x) wB r H1) := by
  refine cw_of (own := "GliderDayLaw") (by decide +kernel) rfl (Nat.le_of_ble_eq_true rfl) (fun E H0 F hE hT hp => ?_)
  obtain ⟨hR, hv, hA⟩ := hp
  show wx E H0 0 0 0 [(0, .ref (ad c 0 0)), (1, .int x), (2, .ref ob)] []
  refine x_aload_n F dL_count_0 2 rfl rfl ?_
  refine x_iconst (v := 0) F rfl dL_count_1 ?_
  refine x_aload_n F dL_count_2 0 rfl rfl ?_
  refine x_iload_n F dL_count_3 1 rfl rfl ?_
  have hlt := hv.lt
  refine fr_of F fun hfr => ?_
  refine x_callVXo (A1 := fun q => A q ∧ q ≠ ob) (rest := [.int 0, .ref ob]) F hR.day rfl (c_X3_count l G _ c x hL0) k_L_68 ⟨⟨(Nat.le_of_ble_eq_true rfl), (Nat.le_of_ble_eq_true rfl)⟩, (Nat.le_of_ble_eq_true rfl), (Nat.le_of_ble_eq_true rfl)⟩ dL_count_4 rfl rfl (Nat.le_of_ble_eq_true rfl) (fun q h => h.1) (fun q h => ⟨hfr q h, fun e => absurd hlt (by omega)⟩) hR ?_ ?_
  · rintro q Ex H1 ⟨rfl, hne, hR1⟩ hex hz1 hk1
    have hv1 := hv.kept (hk1 ob hlt (fun h => h.2 rfl))
    obtain ⟨hc2, hk⟩ := (oc_count c x).resolve_left hne
    rw [hk] at hex
    refine x_caught F hT hex [] ⟨0, 9, 12, 34⟩ [] rfl (fun z hz => absurd hz List.not_mem_nil) (by decide) (by decide) mw_499 (by decide +kernel) ?_
    refine x_astore_n (lv' := [(3, .ref q), (0, .ref (ad c 0 0)), (1, .int x), (2, .ref ob)]) F dL_count_12 rfl (by decide) rfl ?_
    refine x_iconst (v := 1) F rfl dL_count_13 ?_
    exact x_iret F hE dL_count_14 (Nat.le_of_ble_eq_true rfl) (Nat.le_of_ble_eq_true rfl) (⟨f, by rw [hk]; rfl, by rw [hc2]; exact ⟨hR1, hv1, hA⟩, fun h => absurd h hne⟩)
  rintro _ H1 ⟨h0, rfl, hR1⟩ hz1 hk1
  have hv1 := hv.kept (hk1 ob hlt (fun h => h.2 rfl))
  refine x_i2l F dL_count_7 ?_
  refine x_last F hv1 hA (i := 0) (x := ((o_count c x).2.1).toInt64) (vp_in_nI (n := 0) (by decide) (by decide)) dL_count_8 (fun H2 hv2 hs2 => ?_)
  have hO := RepO.put hR1 hA hs2 hv2
  refine x_goto F dL_count_9 (tgt := 15) (by decide) ?_
  refine x_iconst (v := 0) F rfl dL_count_15 ?_
  exact x_iret F hE dL_count_16 (Nat.le_of_ble_eq_true rfl) (Nat.le_of_ble_eq_true rfl) (⟨_, by rw [h0]; rfl, hO, fun _ => rfl⟩)
set_option maxHeartbeats 4000000 in
set_option maxRecDepth 100000 in
theorem c_L_bill (l : Launch) (G : GT) (A : Nat → Prop) (c : CS) (ob : Nat) (f : Nat → Int64) (x : Int32) (hL0 : l.stackTraces = false) : Cw l yL_bill method_20_code 4 (some .int) [(0, 9, 12, 34)] ({ frames := 8, cells := 1, slots := 6, locals := 124 } : Room) G A [.ref (ad c 0 0), .int x, .ref ob] (fun H => RepO G A c ob f H) (fun H r H1 => Pw G A ob (o_bill c x) wB r H1) := by
  refine cw_of (own := "GliderDayLaw") (by decide +kernel) rfl (Nat.le_of_ble_eq_true rfl) (fun E H0 F hE hT hp => ?_)
  obtain ⟨hR, hv, hA⟩ := hp
  show wx E H0 0 0 0 [(0, .ref (ad c 0 0)), (1, .int x), (2, .ref ob)] []
  refine x_aload_n F dL_bill_0 2 rfl rfl ?_
  refine x_iconst (v := 0) F rfl dL_bill_1 ?_
  refine x_aload_n F dL_bill_2 0 rfl rfl ?_
  refine x_iload_n F dL_bill_3 1 rfl rfl ?_
  have hlt := hv.lt
  refine fr_of F fun hfr => ?_
  refine x_callVXo (A1 := fun q => A q ∧ q ≠ ob) (rest := [.int 0, .ref ob]) F hR.day rfl (c_X3_bill l G _ c x hL0) k_L_71 ⟨⟨(Nat.le_of_ble_eq_true rfl), (Nat.le_of_ble_eq_true rfl)⟩, (Nat.le_of_ble_eq_true rfl), (Nat.le_of_ble_eq_true rfl)⟩ dL_bill_4 rfl rfl (Nat.le_of_ble_eq_true rfl) (fun q h => h.1) (fun q h => ⟨hfr q h, fun e => absurd hlt (by omega)⟩) hR ?_ ?_
  · rintro q Ex H1 ⟨rfl, hne, hR1⟩ hex hz1 hk1
    have hv1 := hv.kept (hk1 ob hlt (fun h => h.2 rfl))
    obtain ⟨hc2, hk⟩ := (oc_bill c x).resolve_left hne
    rw [hk] at hex
    refine x_caught F hT hex [] ⟨0, 9, 12, 34⟩ [] rfl (fun z hz => absurd hz List.not_mem_nil) (by decide) (by decide) mw_499 (by decide +kernel) ?_
    refine x_astore_n (lv' := [(3, .ref q), (0, .ref (ad c 0 0)), (1, .int x), (2, .ref ob)]) F dL_bill_12 rfl (by decide) rfl ?_
    refine x_iconst (v := 1) F rfl dL_bill_13 ?_
    exact x_iret F hE dL_bill_14 (Nat.le_of_ble_eq_true rfl) (Nat.le_of_ble_eq_true rfl) (⟨f, by rw [hk]; rfl, by rw [hc2]; exact ⟨hR1, hv1, hA⟩, fun h => absurd h hne⟩)
  rintro _ H1 ⟨h0, rfl, hR1⟩ hz1 hk1
  have hv1 := hv.kept (hk1 ob hlt (fun h => h.2 rfl))
  refine x_i2l F dL_bill_7 ?_
  refine x_last F hv1 hA (i := 0) (x := ((o_bill c x).2.1).toInt64) (vp_in_nI (n := 0) (by decide) (by decide)) dL_bill_8 (fun H2 hv2 hs2 => ?_)
  have hO := RepO.put hR1 hA hs2 hv2
  refine x_goto F dL_bill_9 (tgt := 15) (by decide) ?_
  refine x_iconst (v := 0) F rfl dL_bill_15 ?_
  exact x_iret F hE dL_bill_16 (Nat.le_of_ble_eq_true rfl) (Nat.le_of_ble_eq_true rfl) (⟨_, by rw [h0]; rfl, hO, fun _ => rfl⟩)
set_option maxHeartbeats 4000000 in
set_option maxRecDepth 100000 in
theorem c_L_pay (l : Launch) (G : GT) (A : Nat → Prop) (c : CS) (ob : Nat) (f : Nat → Int64) (x a1 : Int32) (hL0 : l.stackTraces = false) : Cw l yL_pay method_21_code 5 (some .int) [(0, 10, 13, 34), (0, 10, 17, 13)] ({ frames := 8, cells := 2, slots := 12, locals := 126 } : Room) G A [.ref (ad c 0 0), .int x, .int a1, .ref ob] (fun H => RepO G A c ob f H) (fun H r H1 => Pw G A ob (o_pay c x a1) wC r H1) := by
  refine cw_of (own := "GliderDayLaw") (by decide +kernel) rfl (Nat.le_of_ble_eq_true rfl) (fun E H0 F hE hT hp => ?_)
  obtain ⟨hR, hv, hA⟩ := hp
  show wx E H0 0 0 0 [(0, .ref (ad c 0 0)), (1, .int x), (2, .int a1), (3, .ref ob)] []
  refine x_aload_n F dL_pay_0 3 rfl rfl ?_
  refine x_iconst (v := 0) F rfl dL_pay_1 ?_
  refine x_aload_n F dL_pay_2 0 rfl rfl ?_
  refine x_iload_n F dL_pay_3 1 rfl rfl ?_
  refine x_iload_n F dL_pay_4 2 rfl rfl ?_
  have hlt := hv.lt
  refine fr_of F fun hfr => ?_
  refine x_callVXo (A1 := fun q => A q ∧ q ≠ ob) (rest := [.int 0, .ref ob]) F hR.day rfl (c_X3_pay l G _ c x a1 hL0) k_L_74 ⟨⟨(Nat.le_of_ble_eq_true rfl), (Nat.le_of_ble_eq_true rfl)⟩, (Nat.le_of_ble_eq_true rfl), (Nat.le_of_ble_eq_true rfl)⟩ dL_pay_5 rfl rfl (Nat.le_of_ble_eq_true rfl) (fun q h => h.1) (fun q h => ⟨hfr q h, fun e => absurd hlt (by omega)⟩) hR ?_ ?_
  · rintro q Ex H1 ⟨rfl, hne, hR1⟩ hex hz1 hk1
    have hv1 := hv.kept (hk1 ob hlt (fun h => h.2 rfl))
    obtain ⟨hc2, hk⟩ := (oc_pay c x a1).resolve_left hne
    rcases hk with hk | hk
    · rw [hk] at hex
      refine x_caught F hT hex [] ⟨0, 10, 13, 34⟩ [⟨0, 10, 17, 13⟩] rfl (fun z hz => absurd hz List.not_mem_nil) (by decide) (by decide) mw_499 (by decide +kernel) ?_
      refine x_astore (lv' := [(4, .ref q), (0, .ref (ad c 0 0)), (1, .int x), (2, .int a1), (3, .ref ob)]) F dL_pay_13 (by decide) rfl ?_
      refine x_iconst (v := 1) F rfl dL_pay_15 ?_
      exact x_iret F hE dL_pay_16 (Nat.le_of_ble_eq_true rfl) (Nat.le_of_ble_eq_true rfl) (⟨f, by rw [hk]; rfl, by rw [hc2]; exact ⟨hR1, hv1, hA⟩, fun h => absurd h hne⟩)
    · rw [hk] at hex
      refine x_caught F hT hex [⟨0, 10, 13, 34⟩] ⟨0, 10, 17, 13⟩ [] rfl (fun z hz => by rw [List.mem_singleton.mp hz]; exact ⟨by decide, _, mw_499, Or.inr ⟨rfl, rfl⟩⟩) (by decide) (by decide) mw_240 (by decide +kernel) ?_
      refine x_astore (lv' := [(4, .ref q), (0, .ref (ad c 0 0)), (1, .int x), (2, .int a1), (3, .ref ob)]) F dL_pay_17 (by decide) rfl ?_
      refine x_iconst (v := 2) F rfl dL_pay_19 ?_
      exact x_iret F hE dL_pay_20 (Nat.le_of_ble_eq_true rfl) (Nat.le_of_ble_eq_true rfl) (⟨f, by rw [hk]; rfl, by rw [hc2]; exact ⟨hR1, hv1, hA⟩, fun h => absurd h hne⟩)
  rintro _ H1 ⟨h0, rfl, hR1⟩ hz1 hk1
  have hv1 := hv.kept (hk1 ob hlt (fun h => h.2 rfl))
  refine x_i2l F dL_pay_8 ?_
  refine x_last F hv1 hA (i := 0) (x := ((o_pay c x a1).2.1).toInt64) (vp_in_nI (n := 0) (by decide) (by decide)) dL_pay_9 (fun H2 hv2 hs2 => ?_)
  have hO := RepO.put hR1 hA hs2 hv2
  refine x_goto F dL_pay_10 (tgt := 21) (by decide) ?_
  refine x_iconst (v := 0) F rfl dL_pay_21 ?_
  exact x_iret F hE dL_pay_22 (Nat.le_of_ble_eq_true rfl) (Nat.le_of_ble_eq_true rfl) (⟨_, by rw [h0]; rfl, hO, fun _ => rfl⟩)
end LW1
