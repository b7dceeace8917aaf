/-! a minute passes -/
section CL4
def kap (a b : Bool) : Nat := if a = b then 0 else 1
theorem wx_kn {E : WE} {H : Heap} {k n k2 n2 pc : Nat} {lv : List (Nat × Value)} {st : List Value} (h1 : k = k2) (h2 : n = n2) (kk : wx E H k2 n2 pc lv st) : wx E H k n pc lv st := by
  subst h1 h2
  exact kk
theorem sWo_self (c : CS) : sWo c (wtg c) (ow c) = c := rfl
theorem w1_no {c : CS} {g : Nat} (h : w_must c g = false) : u_w1 c g = c := by
  unfold u_w1
  rw [h]
  show sWo (sG c g 4 (cG c g 4)) (wtg c) (ow c || false) = c
  rw [Bool.or_false, sG_self]
  rfl
theorem w1_yes {c : CS} {g : Nat} (h : w_must c g = true) : u_w1 c g = sWa (sG c g 4 2) (wtg c ++ [g]) := by
  unfold u_w1
  rw [h, Bool.or_true]
  rfl
theorem kap_0 (a : Bool) : kap a a = 0 := if_pos rfl
theorem u_off_in {c : CS} {i : Nat} (hi : i < (lst c).length) (hl : (lst c).length < 2 ^ 31) : u_off c (nI i) = sL c ((lst c).eraseIdx i) := by
  unfold u_off
  rw [if_pos ⟨nI_pos' (by omega), nI_lt hi hl⟩, nI_clamp (by omega)]
theorem u_sf01 (c : CS) : (u_sf c).1 = 0 ∨ (u_sf c).1 = 1 := by
  unfold u_sf
  cases s_can c 0 (lst c) with
  | none => exact Or.inl rfl
  | some q => exact Or.inr rfl
theorem ad_m1 (c : CS) : ad (u_m1 c) = ad c := (ad_wN _ _).1
theorem ad_m2 (c : CS) : ad (u_m2 c) = ad c := by
  unfold u_m2
  by_cases h : cD c 9 < cD c 12
  · rw [if_pos h]
  · rw [if_neg h]; exact (ad_lfw c).1
theorem kap_le {a b d : Bool} (h0 : a = true → b = true) (h1 : b = true → d = true) : kap a b ≤ kap a d := by
  cases a <;> cases b <;> cases d <;> first | decide | exact absurd (h0 rfl) (by decide) | exact absurd (h1 rfl) (by decide)
theorem bI_iff {P Q : Prop} [Decidable P] [Decidable Q] (h : P ↔ Q) : bI P = bI Q := by
  by_cases hp : P
  · rw [bI_t hp, bI_t (h.mp hp)]
  · rw [bI_f hp, bI_f (fun q => hp (h.mpr q))]
theorem len0 {l : List Nat} (h : l.length < 2 ^ 31) : nI l.length = 0 ↔ l = [] := by
  constructor
  · intro e
    have := (nI_eq (a := l.length) (b := 0) h (by decide)).mp e
    exact List.length_eq_zero_iff.mp this
  · intro e
    rw [e]
    rfl
theorem k_X3_79 : cwV_ "GliderDay" 79 "java/util/ArrayList" yJx4a65c_add_9ea2d cJx4a65c_add_9ea2d 2 (some .boolean) 1 := ⟨mw_342, mw_343, mw_344, mw_31, mw_345, ⟨by decide +kernel, by decide +kernel, by decide +kernel⟩⟩
theorem k_X3_338 : cwV_ "GliderDay" 338 "GliderDay" yX3_mustLand cX3_mustLand 3 (some .boolean) 1 := ⟨mw_418, mw_420, mw_12, mw_28, mw_421, ⟨by decide +kernel, by decide +kernel, by decide +kernel⟩⟩
theorem k_X3_342 : cwV_ "GliderDay" 342 "java/util/ArrayList" yJx4a65c_isEmpty_aae02 cJx4a65c_isEmpty_aae02 1 (some .boolean) 0 := ⟨mw_430, mw_431, mw_432, mw_31, mw_433, ⟨by decide +kernel, by decide +kernel, by decide +kernel⟩⟩
theorem k_X3_345 : cwV_ "GliderDay" 345 "GliderDay" yX3_land cX3_land 4 none 2 := ⟨mw_443, mw_445, mw_15, mw_28, mw_446, ⟨by decide +kernel, by decide +kernel, by decide +kernel⟩⟩
theorem k_X3_192 : cwV_ "GliderDay" 192 "GliderDay" yX3_reasonAgainst cX3_reasonAgainst 3 (some .int) 1 := ⟨mw_461, mw_463, mw_17, mw_28, mw_464, ⟨by decide +kernel, by decide +kernel, by decide +kernel⟩⟩
theorem k_X3_181 : cwV_ "GliderDay" 181 "GliderDay" yX3_takeOffList cX3_takeOffList 2 none 1 := ⟨mw_485, mw_487, mw_20, mw_28, mw_488, ⟨by decide +kernel, by decide +kernel, by decide +kernel⟩⟩
theorem k_X3_369 : cwV_ "GliderDay" 369 "GliderDay" yX3_start cX3_start 2 none 1 := ⟨mw_489, mw_491, mw_21, mw_28, mw_492, ⟨by decide +kernel, by decide +kernel, by decide +kernel⟩⟩
theorem k_X3_323 : cwV_ "GliderDay" 323 "GliderDay" yX3_freeCables cX3_freeCables 1 none 0 := ⟨mw_406, mw_408, mw_9, mw_28, mw_409, ⟨by decide +kernel, by decide +kernel, by decide +kernel⟩⟩
theorem k_X3_326 : cwV_ "GliderDay" 326 "GliderDay" yX3_freeDueTugs cX3_freeDueTugs 2 none 0 := ⟨mw_410, mw_412, mw_10, mw_28, mw_413, ⟨by decide +kernel, by decide +kernel, by decide +kernel⟩⟩
theorem k_X3_329 : cwV_ "GliderDay" 329 "GliderDay" yX3_beginToWait cX3_beginToWait 3 none 0 := ⟨mw_414, mw_416, mw_11, mw_28, mw_417, ⟨by decide +kernel, by decide +kernel, by decide +kernel⟩⟩
theorem k_X3_335 : cwV_ "GliderDay" 335 "GliderDay" yX3_startFirstThatCan cX3_startFirstThatCan 3 (some .boolean) 0 := ⟨mw_457, mw_459, mw_16, mw_28, mw_460, ⟨by decide +kernel, by decide +kernel, by decide +kernel⟩⟩
theorem k_X3_332 : cwV_ "GliderDay" 332 "GliderDay" yX3_landFirstWaiting cX3_landFirstWaiting 3 none 0 := ⟨mw_426, mw_428, mw_13, mw_28, mw_429, ⟨by decide +kernel, by decide +kernel, by decide +kernel⟩⟩
set_option maxHeartbeats 4000000 in
set_option maxRecDepth 100000 in
theorem c_X3_beginToWait (l : Launch) (G : GT) (A : Nat → Prop) (c : CS) (hlen : ∀ i, i < ng c → (wtg (u_wN c i)).length < 10) : Ct l yX3_beginToWait cX3_beginToWait 3 none ({ frames := 7, cells := kap (ow c) (ow (u_wN c (ng c))), slots := 300 * kap (ow c) (ow (u_wN c (ng c))), locals := 171 } : Room) G A [.ref (ad c 0 0)] (fun H => Rep G A c H) (fun H r H1 => r = none ∧ Rep G A (u_wN c (ng c)) H1) := by
  refine ct_of (own := "GliderDay") (by decide +kernel) rfl (Nat.le_of_ble_eq_true rfl) (fun E H0 F hE hR => ?_)
  have hR0 := hR
  show wx E H0 0 0 0 [(0, .ref (ad c 0 0))] []
  refine x_iconst (v := 0) F rfl dX3_beginToWait_0 ?_
  refine x_istore_n (lv' := [(1, .int 0), (0, .ref (ad c 0 0))]) F dX3_beginToWait_1 rfl (by decide) rfl ?_
  refine wx_sub (lv' := [(0, .ref (ad c 0 0)), (1, .int 0)]) [1, 0] rfl ?_
  refine wx_kn (k2 := kap (ow c) (ow (u_wN c 0))) (n2 := 300 * kap (ow c) (ow (u_wN c 0))) (kap_0 (ow c)).symm (by rw [show kap (ow c) (ow (u_wN c 0)) = 0 from kap_0 (ow c)]) ?_
  refine (loop_dn (N := ng c) (P := fun i => ∀ H : Heap, Rep G A (u_wN c i) H → wx E H (kap (ow c) (ow (u_wN c i))) (300 * kap (ow c) (ow (u_wN c i))) 2 [(0, .ref (ad (u_wN c i) 0 0)), (1, .int (nI i))] []) ?_ ?_) 0 (Nat.zero_le _) H0 hR
  · intro H hR
    have hng : ng (u_wN c (ng c)) = ng c := (ad_wN c (ng c)).2.2.1
    refine x_iload_n F dX3_beginToWait_2 1 rfl rfl ?_
    refine x_aload_n F dX3_beginToWait_3 0 rfl rfl ?_
    refine y_getD (c := u_wN c (ng c)) (j := 1) (v := .ref (ad (u_wN c (ng c)) 1 1)) F hR mw_82 rfl (by decide) rfl dX3_beginToWait_4 ?_
    refine y_lsize (c := u_wN c (ng c)) (k5 := 1) F hR (by decide) k_X3_65 ⟨(Nat.le_of_ble_eq_true rfl), (Nat.le_of_ble_eq_true rfl)⟩ (Nat.le_refl _) (Nat.le_refl _) dX3_beginToWait_7 (Nat.le_of_ble_eq_true rfl) ?_
    refine wx_i (y := nI (ng (u_wN c (ng c)))) (congrArg nI (els_1 _)) ?_
    rw [hng]
    refine x_icmp_ge F dX3_beginToWait_10 (tgt := 61) (by decide) (fun _ => ?_) (fun h1 => absurd (Int32.le_refl _) h1)
    exact x_vret F hE dX3_beginToWait_61 (Nat.le_refl _) (Nat.le_refl _) (⟨rfl, hR⟩)
  · intro i hi ih H hR
    have hfr := ad_wN c i
    have hi2 : i < ng (u_wN c i) := by rw [hfr.2.2.1]; exact hi
    have hmono : ow (u_wN c i) = true → ow (u_wN c (ng c)) = true := ow_wN c i (ng c) (Nat.le_of_lt hi)
    have hmon1 : ow (u_wN c (i + 1)) = true → ow (u_wN c (ng c)) = true := ow_wN c (i + 1) (ng c) hi
    have hmon0 : ow c = true → ow (u_wN c i) = true := ow_wN c 0 i (Nat.zero_le _)
    have hkc : kap (ow c) (ow (u_wN c i)) ≤ kap (ow c) (ow (u_wN c (ng c))) := kap_le hmon0 hmono
    have hkn : 300 * kap (ow c) (ow (u_wN c i)) ≤ 300 * kap (ow c) (ow (u_wN c (ng c))) := Nat.mul_le_mul_left _ hkc
    refine x_iload_n F dX3_beginToWait_2 1 rfl rfl ?_
    refine x_aload_n F dX3_beginToWait_3 0 rfl rfl ?_
    refine y_getD (c := u_wN c i) (j := 1) (v := .ref (ad (u_wN c i) 1 1)) F hR mw_82 rfl (by decide) rfl dX3_beginToWait_4 ?_
    refine y_lsize (c := u_wN c i) (k5 := 1) F hR (by decide) k_X3_65 ⟨(Nat.le_of_ble_eq_true rfl), (Nat.le_of_ble_eq_true rfl)⟩ hkc hkn dX3_beginToWait_7 (Nat.le_of_ble_eq_true rfl) ?_
    refine wx_i (y := nI (ng (u_wN c i))) (congrArg nI (els_1 _)) ?_
    rw [hfr.2.2.1]
    refine x_icmp_ge F dX3_beginToWait_10 (tgt := 61) (by decide) (fun h2 => absurd h2 (nI_ge hi (bnd hR0.wf).2.1)) (fun _ => ?_)
    refine x_aload_n F dX3_beginToWait_13 0 rfl rfl ?_
    refine y_getD (c := u_wN c i) (j := 1) (v := .ref (ad (u_wN c i) 1 1)) F hR mw_82 rfl (by decide) rfl dX3_beginToWait_14 ?_
    refine x_iload_n F dX3_beginToWait_17 1 rfl rfl ?_
    refine y_lget (c := u_wN c i) (k5 := 1) (i := i) (e := ad (u_wN c i) 4 i) F hR (by decide) (elg_1 hi2) k_X3_188 ⟨(Nat.le_of_ble_eq_true rfl), (Nat.le_of_ble_eq_true rfl)⟩ hkc hkn dX3_beginToWait_18 (Nat.le_of_ble_eq_true rfl) ?_
    refine x_castS (C := "GliderDay$Glider") (T := TX1) (N := 10) F (hR.gli hi2) rfl mw_282 dX3_beginToWait_21 ?_
    refine x_astore_n (lv' := [(2, .ref (ad (u_wN c i) 4 i)), (0, .ref (ad (u_wN c i) 0 0)), (1, .int (nI i))]) F dX3_beginToWait_24 rfl (by decide) rfl ?_
    refine x_aload_n F dX3_beginToWait_25 0 rfl rfl ?_
    refine y_getG (c := u_wN c i) (i := i) (j := 4) (v := .int (cG (u_wN c i) i 4)) F hR hi2 nw_110 rfl (by decide) rfl dX3_beginToWait_26 ?_
    refine x_iconst (v := 1) F rfl dX3_beginToWait_29 ?_
    refine x_icmp_ne F dX3_beginToWait_30 (tgt := 55) (by decide) (fun h3 => ?_) (fun h3 => ?_)
    · have hm : w_must (u_wN c i) i = false := by unfold w_must; rw [decide_eq_false h3]; rfl
      have hw1 : u_wN c (i + 1) = u_wN c i := w1_no hm
      refine x_iinc (j := 2) (v := nI (i + 1)) (lv' := [(1, .int (nI (i + 1))), (2, .ref (ad (u_wN c i) 4 i)), (0, .ref (ad (u_wN c i) 0 0))]) F dX3_beginToWait_55 rfl (nI_1 _) (by decide) rfl ?_
      refine x_goto F dX3_beginToWait_58 (tgt := 2) (by decide) ?_
      refine wx_sub (lv' := [(0, .ref (ad (u_wN c i) 0 0)), (1, .int (nI (i + 1)))]) [2, 0] rfl ?_
      have ih2 := ih H (by rw [hw1]; exact hR)
      rw [hw1] at ih2
      exact ih2
    · refine x_aload_n F dX3_beginToWait_33 1 rfl rfl ?_
      refine x_aload_n F dX3_beginToWait_34 0 rfl rfl ?_
      refine x_callVp (rest := []) F hR.day rfl (c_X3_mustLand l G A (u_wN c i) i hi2) k_X3_338 ⟨(Nat.le_of_ble_eq_true rfl), (Nat.le_of_ble_eq_true rfl), rfl, rfl⟩ hkc hkn dX3_beginToWait_35 rfl rfl (Nat.le_of_ble_eq_true rfl) hR ?_
      refine x_if_eq F dX3_beginToWait_38 (tgt := 55) (by decide) (fun h4 => ?_) (fun h4 => ?_)
      · replace h4 := bI_0.mp h4
        have hm : w_must (u_wN c i) i = false := by unfold w_must; rw [decide_eq_true h3, Bool.true_and]; exact Bool.eq_false_iff.mpr h4
        have hw1 : u_wN c (i + 1) = u_wN c i := w1_no hm
        refine x_iinc (j := 2) (v := nI (i + 1)) (lv' := [(1, .int (nI (i + 1))), (2, .ref (ad (u_wN c i) 4 i)), (0, .ref (ad (u_wN c i) 0 0))]) F dX3_beginToWait_55 rfl (nI_1 _) (by decide) rfl ?_
        refine x_goto F dX3_beginToWait_58 (tgt := 2) (by decide) ?_
        refine wx_sub (lv' := [(0, .ref (ad (u_wN c i) 0 0)), (1, .int (nI (i + 1)))]) [2, 0] rfl ?_
        have ih2 := ih H (by rw [hw1]; exact hR)
        rw [hw1] at ih2
        exact ih2
      · replace h4 := bI_ne.mp h4
        refine x_aload_n F dX3_beginToWait_41 0 rfl rfl ?_
        refine x_iconst (v := 2) F rfl dX3_beginToWait_42 ?_
        refine y_putG (c := u_wN c i) (i := i) (j := 4) (v := 2) F hR hi2 nw_110 (pvG_4 _ _ _) (by decide) rfl rfl rfl rfl rfl dX3_beginToWait_43 (fun H5 hR6 => ?_)
        refine x_aload_n F dX3_beginToWait_46 1 rfl rfl ?_
        refine y_getD (c := sG (u_wN c i) i 4 2) (j := 4) (v := .ref (ad (u_wN c i) 1 4)) F hR6 mw_85 rfl (by decide) rfl dX3_beginToWait_47 ?_
        refine x_aload_n F dX3_beginToWait_50 0 rfl rfl ?_
        have hm : w_must (u_wN c i) i = true := by unfold w_must; rw [decide_eq_true h3, h4]; rfl
        have hw1 : u_wN c (i + 1) = sWa (sG (u_wN c i) i 4 2) (wtg (u_wN c i) ++ [i]) := w1_yes hm
        have how1 : ow (u_wN c (i + 1)) = true := by rw [hw1]; rfl
        have hlen2 := hlen i hi
        refine wx_sub (lv' := [(2, .ref (ad (u_wN c i) 4 i)), (1, .int (nI i)), (0, .ref (ad (u_wN c i) 0 0))]) [0, 2, 1] rfl ?_
        by_cases ho : ow (u_wN c i) = true
        · refine y_ladd0 (c := (sG (u_wN c i) i 4 2)) (st := []) (c' := sWa (sG (u_wN c i) i 4 2) (wtg (u_wN c i) ++ [i])) F hR6 ho hlen2 hi2 k_X3_79 ⟨(Nat.le_of_ble_eq_true rfl), (Nat.le_of_ble_eq_true rfl)⟩ hkc hkn dX3_beginToWait_51 (Nat.le_of_ble_eq_true rfl) rfl (fun H9 hR9 => ?_)
          refine x_pop F dX3_beginToWait_54 rfl ?_
          refine x_iinc (j := 1) (v := nI (i + 1)) (lv' := [(1, .int (nI (i + 1))), (2, .ref (ad (u_wN c i) 4 i)), (0, .ref (ad (u_wN c i) 0 0))]) F dX3_beginToWait_55 rfl (nI_1 _) (by decide) rfl ?_
          refine x_goto F dX3_beginToWait_58 (tgt := 2) (by decide) ?_
          refine wx_sub (lv' := [(0, .ref (ad (u_wN c i) 0 0)), (1, .int (nI (i + 1)))]) [2, 0] rfl ?_
          have ih2 := ih H9 (by rw [hw1]; exact hR9)
          rw [show ad (u_wN c (i + 1)) = ad (u_wN c i) from by rw [hw1]; rfl, show ow (u_wN c (i + 1)) = ow (u_wN c i) from how1.trans ho.symm] at ih2
          exact ih2
        · have hoc : ow c = false := Bool.eq_false_iff.mpr (fun q => ho (hmon0 q))
          have hoi : ow (u_wN c i) = false := Bool.eq_false_iff.mpr ho
          have hk0 : kap (ow c) (ow (u_wN c i)) = 0 := by rw [hoc, hoi]; rfl
          have hk1 : kap (ow c) (ow (u_wN c (ng c))) = 1 := by rw [hoc, hmon1 how1]; rfl
          have hk2 : kap (ow c) (ow (u_wN c (i + 1))) = 1 := by rw [hoc, how1]; rfl
          obtain ⟨T, bA, cp, mo, hX⟩ := id hR6
          have hwf := (hR6).wf
          have hgt := hX.2.2.2.2.2.1 i hi2
          refine y_ladd (c := (sG (u_wN c i) i 4 2)) (st := []) (c' := sWa (sG (u_wN c i) i 4 2) (wtg (u_wN c i) ++ [i])) (te := T (ad (u_wN c i) 4 i)) (e := ad (u_wN c i) 4 i) (k5 := 4) F hX (by decide) (by show ((wtg (u_wN c i)).map _).length < 130; rw [List.length_map]; omega) k_X3_79 ⟨(Nat.le_of_ble_eq_true rfl), (Nat.le_of_ble_eq_true rfl)⟩ (by show kap (ow c) (ow (u_wN c i)) + 1 ≤ kap (ow c) (ow (u_wN c (ng c))); rw [hk0, hk1]; exact Nat.le_refl _) (by show 300 * kap (ow c) (ow (u_wN c i)) + 300 ≤ 300 * kap (ow c) (ow (u_wN c (ng c))); rw [hk0, hk1]; exact Nat.le_refl _) dX3_beginToWait_51 (Nat.le_of_ble_eq_true rfl) ⟨2, _, by decide, by decide, hgt.2⟩ ⟨by rw [show ad (u_wN c i) 4 i = ad (sG (u_wN c i) i 4 2) 4 i from rfl, hgt.1]; omega, Or.inl rfl, (hR6).inA.2.2.2.1 i hi2⟩ (by show (wtg (u_wN c i) ++ [i]).map _ = (wtg (u_wN c i)).map _ ++ _; rw [List.map_append]; rfl) ⟨rfl, rfl, fun _ => rfl⟩ (fun k hk hkk => by rcases (show k = 0 ∨ k = 1 ∨ k = 2 ∨ k = 3 by omega) with rfl | rfl | rfl | rfl <;> rfl) rfl (fun _ => rfl) (fun j hj => Or.inl ⟨hj, rfl, rfl⟩) (fun j hj => Or.inl ⟨hj, rfl, rfl⟩) (fun j hj => Or.inl ⟨hj, rfl, rfl⟩) ⟨hwf.1, hwf.2.1, hwf.2.2.1, hwf.2.2.2.1, fun q hq => ?_, ?_⟩ (Or.inl rfl) (fun H9 hR9 hz9 => ?_)
          · rcases List.mem_append.mp hq with q1 | q1
            · exact hwf.2.2.2.2.1 q q1
            · rw [List.mem_singleton.mp q1]; exact hi2
          · show (wtg (u_wN c i) ++ [i]).length ≤ 100; rw [List.length_append]; show (wtg (u_wN c i)).length + 1 ≤ 100; omega
          · refine x_pop F dX3_beginToWait_54 rfl ?_
            refine x_iinc (j := 1) (v := nI (i + 1)) (lv' := [(1, .int (nI (i + 1))), (2, .ref (ad (u_wN c i) 4 i)), (0, .ref (ad (u_wN c i) 0 0))]) F dX3_beginToWait_55 rfl (nI_1 _) (by decide) rfl ?_
            refine x_goto F dX3_beginToWait_58 (tgt := 2) (by decide) ?_
            refine wx_sub (lv' := [(0, .ref (ad (u_wN c i) 0 0)), (1, .int (nI (i + 1)))]) [2, 0] rfl ?_
            have ih2 := ih H9 (by rw [hw1]; exact hR9)
            rw [show ad (u_wN c (i + 1)) = ad (u_wN c i) from by rw [hw1]; rfl, show kap (ow c) (ow (u_wN c (i + 1))) = kap (ow c) (ow (u_wN c i)) + 1 from by rw [hk0, hk2], show 300 * (kap (ow c) (ow (u_wN c i)) + 1) = 300 * kap (ow c) (ow (u_wN c i)) + 300 from by omega] at ih2
            exact ih2
set_option maxHeartbeats 4000000 in
set_option maxRecDepth 100000 in
theorem c_X3_landFirstWaiting (l : Launch) (G : GT) (A : Nat → Prop) (c : CS)  : Ct l yX3_landFirstWaiting cX3_landFirstWaiting 3 none ({ frames := 3, cells := 0, slots := 0, locals := 86 } : Room) G A [.ref (ad c 0 0)] (fun H => Rep G A c H) (fun H r H1 => r = none ∧ Rep G A (u_lfw c) H1) := by
  refine ct_of (own := "GliderDay") (by decide +kernel) rfl (Nat.le_of_ble_eq_true rfl) (fun E H0 F hE hR => ?_)
  show wx E H0 0 0 0 [(0, .ref (ad c 0 0))] []
  refine x_aload_n F dX3_landFirstWaiting_0 0 rfl rfl ?_
  refine y_getD (c := c) (j := 4) (v := .ref (ad c 1 4)) F hR mw_85 rfl (by decide) rfl dX3_landFirstWaiting_1 ?_
  refine y_lempty (c := c) (k5 := 4) F hR (by decide) k_X3_342 ⟨(Nat.le_of_ble_eq_true rfl), (Nat.le_of_ble_eq_true rfl)⟩ (Nat.le_of_ble_eq_true rfl) (Nat.le_of_ble_eq_true rfl) dX3_landFirstWaiting_4 (Nat.le_of_ble_eq_true rfl) ?_
  refine wx_i (y := bI (wtg c = [])) (bI_iff (by rw [els_4]; exact len0 (bnd hR.wf).2.2.2.2)) ?_
  refine x_if_ne F dX3_landFirstWaiting_7 (tgt := 37) (by decide) (fun h1 => ?_) (fun h1 => ?_)
  · replace h1 := bI_ne.mp h1
    exact x_vret F hE dX3_landFirstWaiting_37 (Nat.le_of_ble_eq_true rfl) (Nat.le_of_ble_eq_true rfl) (⟨rfl, by unfold u_lfw; rw [h1]; exact hR⟩)
  · replace h1 := bI_0.mp h1
    refine x_aload_n F dX3_landFirstWaiting_10 0 rfl rfl ?_
    refine y_getD (c := c) (j := 4) (v := .ref (ad c 1 4)) F hR mw_85 rfl (by decide) rfl dX3_landFirstWaiting_11 ?_
    refine x_iconst (v := 0) F rfl dX3_landFirstWaiting_14 ?_
    obtain ⟨g, wl, hw⟩ : ∃ g wl, wtg c = g :: wl := by
      cases hq : wtg c with
      | nil => exact absurd hq h1
      | cons g wl => exact ⟨g, wl, rfl⟩
    have hwf := hR.wf
    have hg : g < ng c := hwf.2.2.2.2.1 g (by rw [hw]; exact List.mem_cons_self)
    have hg0 : (wtg c)[0]? = some g := by rw [hw]; rfl
    refine y_lrem (c := c) (st := []) (k5 := 4) (i := 0) (e := ad c 4 g) (c' := sW c wl) F hR (by decide) (elg_4 hg0) k_X3_264 ⟨(Nat.le_of_ble_eq_true rfl), (Nat.le_of_ble_eq_true rfl)⟩ (Nat.le_of_ble_eq_true rfl) (Nat.le_of_ble_eq_true rfl) dX3_landFirstWaiting_15 (Nat.le_of_ble_eq_true rfl) (by show wl.map _ = ((wtg c).map _).eraseIdx 0; rw [hw]; rfl) rfl ⟨rfl, rfl, rfl, rfl⟩ (fun k hk hkk => by rcases (show k = 0 ∨ k = 1 ∨ k = 2 ∨ k = 3 by omega) with rfl | rfl | rfl | rfl <;> rfl) rfl (fun _ => rfl) ⟨rfl, rfl, rfl⟩ ⟨hwf.1, hwf.2.1, hwf.2.2.1, hwf.2.2.2.1, fun q hq => hwf.2.2.2.2.1 q (by rw [hw]; exact List.mem_cons_of_mem _ hq), by have h9 := hwf.2.2.2.2.2; rw [hw] at h9; exact Nat.le_trans (Nat.le_succ _) h9⟩ (fun H1 hR1 => ?_)
    refine x_castS (C := "GliderDay$Glider") (T := TX1) (N := 10) F (hR1.gli hg) rfl mw_282 dX3_landFirstWaiting_18 ?_
    refine x_astore_n (lv' := [(1, .ref (ad c 4 g)), (0, .ref (ad c 0 0))]) F dX3_landFirstWaiting_21 rfl (by decide) rfl ?_
    refine x_aload_n F dX3_landFirstWaiting_22 0 rfl rfl ?_
    rcases hq2 : cgF (sW c wl) g with _ | s3
    · refine y_getG (c := sW c wl) (i := g) (j := 9) (v := .null) F hR1 hg nw_195 (by show some (va_rf (Option.map _ (cgF (sW c wl) g))) = _; rw [hq2]; rfl) (by decide) rfl dX3_landFirstWaiting_23 ?_
      refine x_astore_nN (lv' := [(2, .null), (1, .ref (ad c 4 g)), (0, .ref (ad c 0 0))]) F dX3_landFirstWaiting_26 rfl (by decide) rfl ?_
      refine x_aload_nN F dX3_landFirstWaiting_27 0 rfl rfl ?_
      refine x_ifnullN F dX3_landFirstWaiting_28 (tgt := 37) (by decide) ?_
      exact x_vret F hE dX3_landFirstWaiting_37 (Nat.le_of_ble_eq_true rfl) (Nat.le_of_ble_eq_true rfl) (⟨rfl, by unfold u_lfw; rw [hw]; show Rep G A (match cgF c g with | none => sW c wl | some f => u_land (sW c wl) g f) _; rw [show cgF c g = _ from hq2]; exact hR1⟩)
    · refine y_getG (c := sW c wl) (i := g) (j := 9) (v := .ref (ad (sW c wl) 5 s3)) F hR1 hg nw_195 (by show some (va_rf (Option.map _ (cgF (sW c wl) g))) = _; rw [hq2]; rfl) (by decide) rfl dX3_landFirstWaiting_23 ?_
      refine x_astore_n (lv' := [(2, .ref (ad (sW c wl) 5 s3)), (1, .ref (ad c 4 g)), (0, .ref (ad c 0 0))]) F dX3_landFirstWaiting_26 rfl (by decide) rfl ?_
      refine x_aload_n F dX3_landFirstWaiting_27 0 rfl rfl ?_
      refine x_ifnull F dX3_landFirstWaiting_28 ?_
      refine x_aload_n F dX3_landFirstWaiting_31 2 rfl rfl ?_
      refine x_aload_n F dX3_landFirstWaiting_32 1 rfl rfl ?_
      refine x_aload_n F dX3_landFirstWaiting_33 0 rfl rfl ?_
      refine x_callVs (rest := []) F hR1.day rfl (c_X3_land l G A (sW c wl) g s3 hg (hR1.wf.2.2.1 _ hg _ hq2)) k_X3_345 ⟨⟨(Nat.le_of_ble_eq_true rfl), (Nat.le_of_ble_eq_true rfl)⟩, (Nat.le_of_ble_eq_true rfl), (Nat.le_of_ble_eq_true rfl)⟩ dX3_landFirstWaiting_34 rfl rfl (Nat.le_of_ble_eq_true rfl) hR1 ?_
      rintro _ H4 ⟨rfl, hR5⟩ - -
      exact x_vret F hE dX3_landFirstWaiting_37 (Nat.le_of_ble_eq_true rfl) (Nat.le_of_ble_eq_true rfl) (⟨rfl, by unfold u_lfw; rw [hw]; show Rep G A (match cgF c g with | none => sW c wl | some f => u_land (sW c wl) g f) _; rw [show cgF c g = _ from hq2]; exact hR5⟩)
set_option maxHeartbeats 4000000 in
set_option maxRecDepth 100000 in
theorem c_X3_startFirstThatCan (l : Launch) (G : GT) (A : Nat → Prop) (c : CS)  : Ct l yX3_startFirstThatCan cX3_startFirstThatCan 3 (some .boolean) ({ frames := 4, cells := 0, slots := 0, locals := 107 } : Room) G A [.ref (ad c 0 0)] (fun H => Rep G A c H) (fun H r H1 => r = some (.int (u_sf c).1) ∧ Rep G A ((u_sf c).2) H1) := by
  refine ct_of (own := "GliderDay") (by decide +kernel) rfl (Nat.le_of_ble_eq_true rfl) (fun E H0 F hE hR => ?_)
  show wx E H0 0 0 0 [(0, .ref (ad c 0 0))] []
  refine x_iconst (v := 0) F rfl dX3_startFirstThatCan_0 ?_
  refine x_istore_n (lv' := [(1, .int 0), (0, .ref (ad c 0 0))]) F dX3_startFirstThatCan_1 rfl (by decide) rfl ?_
  refine wx_sub (lv' := [(0, .ref (ad c 0 0)), (1, .int 0)]) [1, 0] rfl ?_
  refine (loop_dn (N := (lst c).length) (P := fun i => (s_can c i ((lst c).drop i) = s_can c 0 (lst c)) → wx E H0 0 0 2 [(0, .ref (ad c 0 0)), (1, .int (nI i))] []) ?_ ?_) 0 (Nat.zero_le _) (rfl)
  · intro hL2
    refine x_iload_n F dX3_startFirstThatCan_2 1 rfl rfl ?_
    refine x_aload_n F dX3_startFirstThatCan_3 0 rfl rfl ?_
    refine y_getD (c := c) (j := 3) (v := .ref (ad c 1 3)) F hR mw_84 rfl (by decide) rfl dX3_startFirstThatCan_4 ?_
    refine y_lsize (c := c) (k5 := 3) F hR (by decide) k_X3_65 ⟨(Nat.le_of_ble_eq_true rfl), (Nat.le_of_ble_eq_true rfl)⟩ (Nat.le_of_ble_eq_true rfl) (Nat.le_of_ble_eq_true rfl) dX3_startFirstThatCan_7 (Nat.le_of_ble_eq_true rfl) ?_
    refine wx_i (y := nI (lst c).length) (congrArg nI (els_3 _)) ?_
    refine x_icmp_ge F dX3_startFirstThatCan_10 (tgt := 51) (by decide) (fun _ => ?_) (fun h1 => absurd (Int32.le_refl _) h1)
    have hs0 : u_sf c = (0, c) := by unfold u_sf; rw [← hL2, List.drop_length]; rfl
    refine x_iconst (v := 0) F rfl dX3_startFirstThatCan_51 ?_
    exact x_zret F rfl hE dX3_startFirstThatCan_52 (Nat.le_of_ble_eq_true rfl) (Nat.le_of_ble_eq_true rfl) (⟨by rw [hs0], by rw [hs0]; exact hR⟩)
  · intro i hi ih2 hL2
    obtain ⟨f, hf0⟩ : ∃ f, (lst c)[i]? = some f := ⟨_, List.getElem?_eq_getElem hi⟩
    have hff : f < nf c := hR.wf.2.2.2.1.1 f (List.mem_of_getElem? hf0)
    refine x_iload_n F dX3_startFirstThatCan_2 1 rfl rfl ?_
    refine x_aload_n F dX3_startFirstThatCan_3 0 rfl rfl ?_
    refine y_getD (c := c) (j := 3) (v := .ref (ad c 1 3)) F hR mw_84 rfl (by decide) rfl dX3_startFirstThatCan_4 ?_
    refine y_lsize (c := c) (k5 := 3) F hR (by decide) k_X3_65 ⟨(Nat.le_of_ble_eq_true rfl), (Nat.le_of_ble_eq_true rfl)⟩ (Nat.le_of_ble_eq_true rfl) (Nat.le_of_ble_eq_true rfl) dX3_startFirstThatCan_7 (Nat.le_of_ble_eq_true rfl) ?_
    refine wx_i (y := nI (lst c).length) (congrArg nI (els_3 _)) ?_
    refine x_icmp_ge F dX3_startFirstThatCan_10 (tgt := 51) (by decide) (fun h2 => absurd h2 (nI_ge hi ((bnd hR.wf).2.2.2.1))) (fun _ => ?_)
    refine x_aload_n F dX3_startFirstThatCan_13 0 rfl rfl ?_
    refine y_getD (c := c) (j := 3) (v := .ref (ad c 1 3)) F hR mw_84 rfl (by decide) rfl dX3_startFirstThatCan_14 ?_
    refine x_iload_n F dX3_startFirstThatCan_17 1 rfl rfl ?_
    refine y_lget (c := c) (k5 := 3) (i := i) (e := ad c 5 f) F hR (by decide) (elg_3 hf0) k_X3_188 ⟨(Nat.le_of_ble_eq_true rfl), (Nat.le_of_ble_eq_true rfl)⟩ (Nat.le_of_ble_eq_true rfl) (Nat.le_of_ble_eq_true rfl) dX3_startFirstThatCan_18 (Nat.le_of_ble_eq_true rfl) ?_
    refine x_castS (C := "GliderDay$Flight") (T := TX0) (N := 11) F (hR.fli hff) rfl mw_295 dX3_startFirstThatCan_21 ?_
    refine x_astore_n (lv' := [(2, .ref (ad c 5 f)), (0, .ref (ad c 0 0)), (1, .int (nI i))]) F dX3_startFirstThatCan_24 rfl (by decide) rfl ?_
    refine x_aload_n F dX3_startFirstThatCan_25 1 rfl rfl ?_
    refine x_aload_n F dX3_startFirstThatCan_26 0 rfl rfl ?_
    refine x_callVp (rest := []) F hR.day rfl (c_X3_reasonAgainst l G A c f hff) k_X3_192 ⟨(Nat.le_of_ble_eq_true rfl), (Nat.le_of_ble_eq_true rfl), rfl, rfl⟩ (Nat.le_of_ble_eq_true rfl) (Nat.le_of_ble_eq_true rfl) dX3_startFirstThatCan_27 rfl rfl (Nat.le_of_ble_eq_true rfl) hR ?_
    refine x_if_ne F dX3_startFirstThatCan_30 (tgt := 45) (by decide) (fun h3 => ?_) (fun h3 => ?_)
    · refine x_iinc (j := 2) (v := nI (i + 1)) (lv' := [(1, .int (nI (i + 1))), (2, .ref (ad c 5 f)), (0, .ref (ad c 0 0))]) F dX3_startFirstThatCan_45 rfl (nI_1 _) (by decide) rfl ?_
      refine x_goto F dX3_startFirstThatCan_48 (tgt := 2) (by decide) ?_
      refine wx_sub (lv' := [(0, .ref (ad c 0 0)), (1, .int (nI (i + 1)))]) [2, 0] rfl ?_
      exact ih2 (by rw [← hL2, drop_at hf0, s_can, if_neg h3])
    · have hs1 : u_sf c = (1, u_start (sL c ((lst c).eraseIdx i)) f) := by unfold u_sf; rw [← hL2, drop_at hf0, s_can, if_pos h3]
      refine x_aload_n F dX3_startFirstThatCan_33 1 rfl rfl ?_
      refine x_iload_n F dX3_startFirstThatCan_34 2 rfl rfl ?_
      refine x_callVs (rest := []) F hR.day rfl (c_X3_takeOffList l G A c (nI i)) k_X3_181 ⟨⟨(Nat.le_of_ble_eq_true rfl), (Nat.le_of_ble_eq_true rfl)⟩, (Nat.le_of_ble_eq_true rfl), (Nat.le_of_ble_eq_true rfl)⟩ dX3_startFirstThatCan_35 rfl rfl (Nat.le_of_ble_eq_true rfl) hR ?_
      rintro _ H4 ⟨rfl, hR5⟩ - -
      rw [u_off_in hi (bnd hR.wf).2.2.2.1] at hR5
      refine x_aload_n F dX3_startFirstThatCan_38 1 rfl rfl ?_
      refine x_aload_n F dX3_startFirstThatCan_39 0 rfl rfl ?_
      refine x_callVs (rest := []) F hR5.day rfl (c_X3_start l G A (sL c ((lst c).eraseIdx i)) f hff) k_X3_369 ⟨⟨(Nat.le_of_ble_eq_true rfl), (Nat.le_of_ble_eq_true rfl)⟩, (Nat.le_of_ble_eq_true rfl), (Nat.le_of_ble_eq_true rfl)⟩ dX3_startFirstThatCan_40 rfl rfl (Nat.le_of_ble_eq_true rfl) hR5 ?_
      rintro _ H6 ⟨rfl, hR7⟩ - -
      refine x_iconst (v := 1) F rfl dX3_startFirstThatCan_43 ?_
      exact x_zret F rfl hE dX3_startFirstThatCan_44 (Nat.le_of_ble_eq_true rfl) (Nat.le_of_ble_eq_true rfl) (⟨by rw [hs1], by rw [hs1]; exact hR7⟩)
set_option maxHeartbeats 4000000 in
set_option maxRecDepth 100000 in
theorem c_X3_passMinute (l : Launch) (G : GT) (A : Nat → Prop) (c : CS) (hlen : ∀ i, i < ng c → (wtg (u_wN (u_tgs (u_cab (sD c 9 (cD c 9 + 1)))) i)).length < 10) : Ct l yX3_passMinute cX3_passMinute 1 (some .boolean) ({ frames := 8, cells := kap (ow c) (ow (u_m1 c)), slots := 300 * kap (ow c) (ow (u_m1 c)), locals := 193 } : Room) G A [.ref (ad c 0 0)] (fun H => Rep G A c H) (fun H r H1 => r = some (.int (u_min c).1) ∧ Rep G A ((u_min c).2) H1) := by
  refine ct_of (own := "GliderDay") (by decide +kernel) rfl (Nat.le_of_ble_eq_true rfl) (fun E H0 F hE hR => ?_)
  have hkc : 0 + kap (ow c) (ow (u_m1 c)) ≤ kap (ow c) (ow (u_m1 c)) := Nat.le_of_eq (Nat.zero_add _)
  have hkn : 0 + 300 * kap (ow c) (ow (u_m1 c)) ≤ 300 * kap (ow c) (ow (u_m1 c)) := Nat.le_of_eq (Nat.zero_add _)
  show wx E H0 0 0 0 [(0, .ref (ad c 0 0))] []
  refine x_aload_n F dX3_passMinute_0 0 rfl rfl ?_
  refine x_dup F dX3_passMinute_1 rfl ?_
  refine y_getD (c := c) (j := 9) (v := .int (cD c 9)) F hR mw_90 rfl (by decide) rfl dX3_passMinute_2 ?_
  refine x_iconst (v := 1) F rfl dX3_passMinute_5 ?_
  refine x_iadd F dX3_passMinute_6 ?_
  refine y_putD (c := c) (j := 9) (v := (cD c 9) + 1) F hR mw_90 rfl (by decide) rfl rfl rfl dX3_passMinute_7 (fun H1 hR2 => ?_)
  refine x_aload_n F dX3_passMinute_10 0 rfl rfl ?_
  refine x_callVs (rest := []) F hR2.day rfl (c_X3_freeCables l G A (sD c 9 ((cD c 9) + 1)) ) k_X3_323 ⟨⟨(Nat.le_of_ble_eq_true rfl), (Nat.le_of_ble_eq_true rfl)⟩, (Nat.le_of_ble_eq_true rfl), (Nat.le_of_ble_eq_true rfl)⟩ dX3_passMinute_11 rfl rfl (Nat.le_of_ble_eq_true rfl) hR2 ?_
  rintro _ H3 ⟨rfl, hR4⟩ - -
  refine x_aload_n F dX3_passMinute_14 0 rfl rfl ?_
  refine x_callVs (rest := []) F hR4.day rfl (c_X3_freeDueTugs l G A (u_cab (sD c 9 ((cD c 9) + 1))) ) k_X3_326 ⟨⟨(Nat.le_of_ble_eq_true rfl), (Nat.le_of_ble_eq_true rfl)⟩, (Nat.le_of_ble_eq_true rfl), (Nat.le_of_ble_eq_true rfl)⟩ dX3_passMinute_15 rfl rfl (Nat.le_of_ble_eq_true rfl) hR4 ?_
  rintro _ H5 ⟨rfl, hR6⟩ - -
  refine x_aload_n F dX3_passMinute_18 0 rfl rfl ?_
  refine x_callVs (rest := []) F hR6.day rfl (c_X3_beginToWait l G A (u_tgs (u_cab (sD c 9 ((cD c 9) + 1)))) hlen) k_X3_329 ⟨⟨(Nat.le_of_ble_eq_true rfl), (Nat.le_of_ble_eq_true rfl)⟩, hkc, hkn⟩ dX3_passMinute_19 rfl rfl (Nat.le_of_ble_eq_true rfl) hR6 ?_
  rintro _ H7 ⟨rfl, hR8⟩ - -
  refine wx_kn (k2 := kap (ow c) (ow (u_m1 c))) (n2 := 300 * kap (ow c) (ow (u_m1 c))) (Nat.zero_add _) (Nat.zero_add _) ?_
  refine wx_lv (lv' := [(0, .ref (ad (u_m1 c) 0 0))]) (by rw [ad_m1]) ?_
  replace hR8 : Rep G A (u_m1 c) H7 := hR8
  refine x_aload_n F dX3_passMinute_22 0 rfl rfl ?_
  refine x_callVp (rest := []) F hR8.day rfl (c_X3_isBusy l G A (u_m1 c) ) k_X3_320 ⟨(Nat.le_of_ble_eq_true rfl), (Nat.le_of_ble_eq_true rfl), rfl, rfl⟩ (Nat.le_refl _) (Nat.le_refl _) dX3_passMinute_23 rfl rfl (Nat.le_of_ble_eq_true rfl) hR8 ?_
  refine x_if_ne F dX3_passMinute_26 (tgt := 33) (by decide) (fun h9 => ?_) (fun h9 => ?_)
  · replace h9 := bI_ne.mp h9
    replace hR8 : Rep G A (u_m2 (u_m1 c)) H7 := by unfold u_m2; rw [if_pos h9]; exact hR8
    refine wx_lv (lv' := [(0, .ref (ad (u_m2 (u_m1 c)) 0 0))]) (by rw [ad_m2]) ?_
    refine x_aload_n F dX3_passMinute_33 0 rfl rfl ?_
    refine x_callVp (rest := []) F hR8.day rfl (c_X3_isBusy l G A (u_m2 (u_m1 c)) ) k_X3_320 ⟨(Nat.le_of_ble_eq_true rfl), (Nat.le_of_ble_eq_true rfl), rfl, rfl⟩ (Nat.le_refl _) (Nat.le_refl _) dX3_passMinute_34 rfl rfl (Nat.le_of_ble_eq_true rfl) hR8 ?_
    refine x_if_ne F dX3_passMinute_37 (tgt := 51) (by decide) (fun h10 => ?_) (fun h10 => ?_)
    · replace h10 := bI_ne.mp h10
      refine x_iconst (v := 0) F rfl dX3_passMinute_51 ?_
      exact x_zret F rfl hE dX3_passMinute_52 (Nat.le_refl _) (Nat.le_refl _) (⟨by unfold u_min; simp only []; rw [if_pos h10], by unfold u_min; simp only []; rw [if_pos h10]; exact hR8⟩)
    · replace h10 := bI_0.mp h10
      refine x_aload_n F dX3_passMinute_40 0 rfl rfl ?_
      refine x_callVs (rest := []) F hR8.day rfl (c_X3_startFirstThatCan l G A (u_m2 (u_m1 c)) ) k_X3_335 ⟨⟨(Nat.le_of_ble_eq_true rfl), (Nat.le_of_ble_eq_true rfl)⟩, (Nat.le_refl _), (Nat.le_refl _)⟩ dX3_passMinute_41 rfl rfl (Nat.le_of_ble_eq_true rfl) hR8 ?_
      rintro _ H11 ⟨rfl, hR12⟩ - -
      refine x_if_eq F dX3_passMinute_44 (tgt := 51) (by decide) (fun h13 => ?_) (fun h13 => ?_)
      · refine x_iconst (v := 0) F rfl dX3_passMinute_51 ?_
        exact x_zret F rfl hE dX3_passMinute_52 (Nat.le_refl _) (Nat.le_refl _) (⟨by unfold u_min; simp only []; rw [if_neg h10]; rw [h13], by unfold u_min; simp only []; rw [if_neg h10]; exact hR12⟩)
      · refine x_iconst (v := 1) F rfl dX3_passMinute_47 ?_
        refine x_goto F dX3_passMinute_48 (tgt := 52) (by decide) ?_
        exact x_zret F rfl hE dX3_passMinute_52 (Nat.le_refl _) (Nat.le_refl _) (⟨by unfold u_min; simp only []; rw [if_neg h10]; rw [(u_sf01 _).resolve_left h13], by unfold u_min; simp only []; rw [if_neg h10]; exact hR12⟩)
  · replace h9 := bI_0.mp h9
    refine x_aload_n F dX3_passMinute_29 0 rfl rfl ?_
    refine x_callVs (rest := []) F hR8.day rfl (c_X3_landFirstWaiting l G A (u_m1 c) ) k_X3_332 ⟨⟨(Nat.le_of_ble_eq_true rfl), (Nat.le_of_ble_eq_true rfl)⟩, (Nat.le_refl _), (Nat.le_refl _)⟩ dX3_passMinute_30 rfl rfl (Nat.le_of_ble_eq_true rfl) hR8 ?_
    rintro _ H14 ⟨rfl, hR15⟩ - -
    replace hR15 : Rep G A (u_m2 (u_m1 c)) H14 := by unfold u_m2; rw [if_neg h9]; exact hR15
    refine wx_lv (lv' := [(0, .ref (ad (u_m2 (u_m1 c)) 0 0))]) (by rw [ad_m2]) ?_
    refine x_aload_n F dX3_passMinute_33 0 rfl rfl ?_
    refine x_callVp (rest := []) F hR15.day rfl (c_X3_isBusy l G A (u_m2 (u_m1 c)) ) k_X3_320 ⟨(Nat.le_of_ble_eq_true rfl), (Nat.le_of_ble_eq_true rfl), rfl, rfl⟩ (Nat.le_refl _) (Nat.le_refl _) dX3_passMinute_34 rfl rfl (Nat.le_of_ble_eq_true rfl) hR15 ?_
    refine x_if_ne F dX3_passMinute_37 (tgt := 51) (by decide) (fun h16 => ?_) (fun h16 => ?_)
    · replace h16 := bI_ne.mp h16
      refine x_iconst (v := 0) F rfl dX3_passMinute_51 ?_
      exact x_zret F rfl hE dX3_passMinute_52 (Nat.le_refl _) (Nat.le_refl _) (⟨by unfold u_min; simp only []; rw [if_pos h16], by unfold u_min; simp only []; rw [if_pos h16]; exact hR15⟩)
    · replace h16 := bI_0.mp h16
      refine x_aload_n F dX3_passMinute_40 0 rfl rfl ?_
      refine x_callVs (rest := []) F hR15.day rfl (c_X3_startFirstThatCan l G A (u_m2 (u_m1 c)) ) k_X3_335 ⟨⟨(Nat.le_of_ble_eq_true rfl), (Nat.le_of_ble_eq_true rfl)⟩, (Nat.le_refl _), (Nat.le_refl _)⟩ dX3_passMinute_41 rfl rfl (Nat.le_of_ble_eq_true rfl) hR15 ?_
      rintro _ H17 ⟨rfl, hR18⟩ - -
      refine x_if_eq F dX3_passMinute_44 (tgt := 51) (by decide) (fun h19 => ?_) (fun h19 => ?_)
      · refine x_iconst (v := 0) F rfl dX3_passMinute_51 ?_
        exact x_zret F rfl hE dX3_passMinute_52 (Nat.le_refl _) (Nat.le_refl _) (⟨by unfold u_min; simp only []; rw [if_neg h16]; rw [h19], by unfold u_min; simp only []; rw [if_neg h16]; exact hR18⟩)
      · refine x_iconst (v := 1) F rfl dX3_passMinute_47 ?_
        refine x_goto F dX3_passMinute_48 (tgt := 52) (by decide) ?_
        exact x_zret F rfl hE dX3_passMinute_52 (Nat.le_refl _) (Nat.le_refl _) (⟨by unfold u_min; simp only []; rw [if_neg h16]; rw [(u_sf01 _).resolve_left h19], by unfold u_min; simp only []; rw [if_neg h16]; exact hR18⟩)
end CL4
