/-! the reference's minute, walked -/
section MD6
theorem m1_eq {m : MS} : sY m 5 (mY m 5) = m := by
  have e : (fun k => if k = 5 then mY m 5 else m.1 k) = m.1 := by
    funext k
    by_cases h : k = 5
    · rw [if_pos h, h]; rfl
    · rw [if_neg h]
  show ((fun k => if k = 5 then mY m 5 else m.1 k), m.2) = m
  rw [e]
theorem nx_ok {m : MS} : ∀ n, n < 2 ^ 31 → ¬ n_nx m n = -1 → n_nx m n = nI (tN (n_nx m n)) ∧ tN (n_nx m n) < n ∧ 0 < mZ m 18 (tN (n_nx m n))
  | 0, _, h => absurd rfl h
  | n + 1, hb, h => by
    by_cases hp : 0 < mZ m 18 n ∧ (n_nx m n = -1 ∨ mZ m 18 n < mZ m 18 (tN (n_nx m n)))
    · have e : n_nx m (n + 1) = nI n := if_pos hp
      have e2 : tN (nI n) = n := nI_clamp (by omega)
      rw [e, e2]
      exact ⟨rfl, Nat.lt_succ_self _, hp.1⟩
    · have e : n_nx m (n + 1) = n_nx m n := if_neg hp
      rw [e] at h ⊢
      obtain ⟨h1, h2, h3⟩ := nx_ok n (by omega) h
      exact ⟨h1, Nat.lt_succ_of_lt h2, h3⟩
theorem nI_m1 {i : Nat} (h : i < 2 ^ 31) : ¬ nI i = -1 := fun e => absurd (nI_pos' h) (by rw [e]; decide)
theorem k_X4_150 : cwV_ "GliderDayModel" 150 "GliderDayModel" yX4_reasonOf cX4_reasonOf 4 (some .int) 1 := ⟨mw_1002, mw_1004, mw_45, mw_59, mw_1005, ⟨by decide +kernel, by decide +kernel, by decide +kernel⟩⟩
theorem k_X4_163 : cwV_ "GliderDayModel" 163 "GliderDayModel" yX4_begin cX4_begin 3 none 1 := ⟨mw_1029, mw_1031, mw_49, mw_59, mw_1032, ⟨by decide +kernel, by decide +kernel, by decide +kernel⟩⟩
theorem k_X4_159 : cwV_ "GliderDayModel" 159 "GliderDayModel" yX4_land cX4_land 3 none 1 := ⟨mw_1025, mw_1027, mw_48, mw_59, mw_1028, ⟨by decide +kernel, by decide +kernel, by decide +kernel⟩⟩
set_option maxHeartbeats 4000000 in
set_option maxRecDepth 100000 in
theorem c_X4_minute (l : Launch) (G : GT) (A : Nat → Prop) (m : MS) (hW : WfM m) (hq : ∀ g, g < mg m → 0 < mZ (n_wN (n_m2 m) (mg m)) 18 g → ¬ m_fo (n_wN (n_m2 m) (mg m)) (nI g) = -1) : Ct l yX4_minute cX4_minute 3 (some .boolean) ({ frames := 3, cells := 0, slots := 0, locals := 69 } : Room) G A [.ref (ma m 30)] (fun H => RepM G A m H) (fun H r H1 => r = some (.int (n_min m).1) ∧ RepM G A ((n_min m).2) H1) := by
  refine ct_of (own := "GliderDayModel") (by decide +kernel) rfl (Nat.le_of_ble_eq_true rfl) (fun E H0 F hE hR => ?_)
  show wx E H0 0 0 0 [(0, .ref (ma m 30))] []
  refine x_aload_n F dX4_minute_0 0 rfl rfl ?_
  refine x_dup F dX4_minute_1 rfl ?_
  refine z_get (m := m) (j := 1) (v := .int (mY m 1)) F hR mw_800 rfl (by decide) rfl dX4_minute_2 ?_
  refine x_iconst (v := 1) F rfl dX4_minute_5 ?_
  refine x_iadd F dX4_minute_6 ?_
  refine z_put (m := m) (j := 1) (v := (mY m 1) + 1) F hR mw_800 rfl (by decide) rfl rfl rfl dX4_minute_7 (fun H1 hR2 => ?_)
  refine x_aload_n F dX4_minute_10 0 rfl rfl ?_
  refine z_get (m := (sY m 1 ((mY m 1) + 1))) (j := 5) (v := .int (mY m 5)) F hR2 mw_804 rfl (by decide) rfl dX4_minute_11 ?_
  refine wx_join (P := ∀ H : Heap, RepM G A (n_m1 m) H → wx E H 0 0 33 [(0, .ref (ma m 30))] []) ?_ (fun Ja => ?_)
  · intro H hR
    refine x_iconst (v := 0) F rfl dX4_minute_33 ?_
    refine x_istore_n (lv' := [(1, .int 0), (0, .ref (ma m 30))]) F dX4_minute_34 rfl (by decide) rfl ?_
    refine x_iload_n F dX4_minute_35 0 rfl rfl ?_
    refine x_iconst (v := 2) F rfl dX4_minute_36 ?_
    refine x_icmp_ge F dX4_minute_37 (tgt := 75) (by decide) (fun h3 => absurd h3 (by decide)) (fun _ => ?_)
    refine x_aload_n F dX4_minute_40 1 rfl rfl ?_
    refine z_get (m := (n_m1 m)) (j := 8) (v := .ref (ma (n_m1 m) 8)) F hR mw_807 rfl (by decide) rfl dX4_minute_41 ?_
    refine x_iload_n F dX4_minute_44 0 rfl rfl ?_
    refine x_aload_n F dX4_minute_45 1 rfl rfl ?_
    refine z_get (m := (n_m1 m)) (j := 8) (v := .ref (ma (n_m1 m) 8)) F hR mw_807 rfl (by decide) rfl dX4_minute_46 ?_
    refine x_iload_n F dX4_minute_49 0 rfl rfl ?_
    refine z_ildN (m := (n_m1 m)) (j := 8) (i := 0) F hR (by decide) rfl rfl ((by decide)) (by decide) dX4_minute_50 ?_
    refine x_aload_n F dX4_minute_51 1 rfl rfl ?_
    refine z_get (m := (n_m1 m)) (j := 1) (v := .int (mY (n_m1 m) 1)) F hR mw_800 rfl (by decide) rfl dX4_minute_52 ?_
    refine wx_join (P := wx E H 0 0 68 [(0, .ref (ma m 30)), (1, .int 0)] [.int (if mZ (n_m1 m) 8 0 ≤ mY (n_m1 m) 1 then 0 else mZ (n_m1 m) 8 0), .int 0, .ref (ma (n_m1 m) 8)]) ?_ (fun Jt => ?_)
    · refine z_istN (m := (n_m1 m)) (j := 8) (i := 0) (v := if mZ (n_m1 m) 8 0 ≤ mY (n_m1 m) 1 then 0 else mZ (n_m1 m) 8 0) F hR (by decide) rfl rfl ((by decide)) (by decide) dX4_minute_68 (fun H4 hR5 => ?_)
      replace hR5 : RepM G A (n_tu (n_m1 m) 0) H4 := hR5
      refine x_iinc (j := 1) (v := 1) (lv' := [(1, .int 1), (0, .ref (ma m 30))]) F dX4_minute_69 rfl (by decide) (by decide) rfl ?_
      refine x_goto F dX4_minute_72 (tgt := 35) (by decide) ?_
      refine x_iload_n F dX4_minute_35 0 rfl rfl ?_
      refine x_iconst (v := 2) F rfl dX4_minute_36 ?_
      refine x_icmp_ge F dX4_minute_37 (tgt := 75) (by decide) (fun h6 => absurd h6 (by decide)) (fun _ => ?_)
      refine x_aload_n F dX4_minute_40 1 rfl rfl ?_
      refine z_get (m := (n_tu (n_m1 m) 0)) (j := 8) (v := .ref (ma (n_tu (n_m1 m) 0) 8)) F hR5 mw_807 rfl (by decide) rfl dX4_minute_41 ?_
      refine x_iload_n F dX4_minute_44 0 rfl rfl ?_
      refine x_aload_n F dX4_minute_45 1 rfl rfl ?_
      refine z_get (m := (n_tu (n_m1 m) 0)) (j := 8) (v := .ref (ma (n_tu (n_m1 m) 0) 8)) F hR5 mw_807 rfl (by decide) rfl dX4_minute_46 ?_
      refine x_iload_n F dX4_minute_49 0 rfl rfl ?_
      refine z_ildN (m := (n_tu (n_m1 m) 0)) (j := 8) (i := 1) F hR5 (by decide) rfl rfl ((by decide)) (by decide) dX4_minute_50 ?_
      refine x_aload_n F dX4_minute_51 1 rfl rfl ?_
      refine z_get (m := (n_tu (n_m1 m) 0)) (j := 1) (v := .int (mY (n_tu (n_m1 m) 0) 1)) F hR5 mw_800 rfl (by decide) rfl dX4_minute_52 ?_
      refine wx_join (P := wx E H4 0 0 68 [(0, .ref (ma m 30)), (1, .int 1)] [.int (if mZ (n_tu (n_m1 m) 0) 8 1 ≤ mY (n_tu (n_m1 m) 0) 1 then 0 else mZ (n_tu (n_m1 m) 0) 8 1), .int 1, .ref (ma (n_tu (n_m1 m) 0) 8)]) ?_ (fun Jt => ?_)
      · refine z_istN (m := (n_tu (n_m1 m) 0)) (j := 8) (i := 1) (v := if mZ (n_tu (n_m1 m) 0) 8 1 ≤ mY (n_tu (n_m1 m) 0) 1 then 0 else mZ (n_tu (n_m1 m) 0) 8 1) F hR5 (by decide) rfl rfl ((by decide)) (by decide) dX4_minute_68 (fun H7 hR8 => ?_)
        replace hR8 : RepM G A (n_m2 m) H7 := hR8
        refine x_iinc (j := 1) (v := 2) (lv' := [(1, .int 2), (0, .ref (ma m 30))]) F dX4_minute_69 rfl (by decide) (by decide) rfl ?_
        refine x_goto F dX4_minute_72 (tgt := 35) (by decide) ?_
        refine x_iload_n F dX4_minute_35 0 rfl rfl ?_
        refine x_iconst (v := 2) F rfl dX4_minute_36 ?_
        refine x_icmp_ge F dX4_minute_37 (tgt := 75) (by decide) (fun _ => ?_) (fun h9 => absurd (by decide) h9)
        refine x_iconst (v := 0) F rfl dX4_minute_75 ?_
        refine x_istore_n (lv' := [(1, .int 0), (0, .ref (ma m 30))]) F dX4_minute_76 rfl (by decide) rfl ?_
        refine wx_sub (lv' := [(0, .ref (ma m 30)), (1, .int 0)]) [1, 0] rfl ?_
        have hmN : ∀ i, ma (n_wN (n_m2 m) i) = ma m := fun i => ((same_m2 m).tr (same_wN _ i)).1
        have hWN : ∀ i, WfM (n_wN (n_m2 m) i) := fun i => ((same_m2 m).tr (same_wN _ i)).wf hW
        have hgN : ∀ i, mY (n_wN (n_m2 m) i) 12 = nI (mg m) := fun i => ((same_m2 m).tr (same_wN _ i)).2.2.1.trans hW.2.1.1
        have hg31 : mg m < 2 ^ 31 := Nat.lt_of_le_of_lt hW.2.1.2 (by decide)
        refine (loop_dn (N := mg m) (P := fun i => ∀ H : Heap, RepM G A (n_wN (n_m2 m) i) H → wx E H 0 0 77 [(0, .ref (ma m 30)), (1, .int (nI i))] []) ?_ ?_) 0 (Nat.zero_le _) H7 hR8
        · intro H hR
          rw [← hmN (mg m)]
          refine x_iload_n F dX4_minute_77 1 rfl rfl ?_
          refine x_aload_n F dX4_minute_78 0 rfl rfl ?_
          refine z_get (m := (n_wN (n_m2 m) (mg m))) (j := 12) (v := .int (mY (n_wN (n_m2 m) (mg m)) 12)) F hR mw_811 rfl (by decide) rfl dX4_minute_79 ?_
          refine wx_i (y := nI (mg m)) (hgN _) ?_
          refine x_icmp_ge F dX4_minute_82 (tgt := 174) (by decide) (fun _ => ?_) (fun h10 => absurd (Int32.le_refl _) h10)
          obtain ⟨M, hM⟩ : ∃ M, M = n_wN (n_m2 m) (mg m) := ⟨_, rfl⟩
          have hW0 := hW
          have hSM : Same m M := by rw [hM]; exact (same_m2 m).tr (same_wN _ _)
          have hW : WfM M := hSM.wf hW0
          have hgM : mY M 12 = nI (mg m) := hSM.2.2.1.trans hW0.2.1.1
          have hgM2 : mg M = mg m := by unfold mg; rw [hSM.2.2.1]
          rw [← hM] at hR ⊢
          refine x_iconst (v := (-1)) F rfl dX4_minute_174 ?_
          refine x_istore_n (lv' := [(1, .int (-1)), (0, .ref (ma M 30))]) F dX4_minute_175 rfl (by decide) rfl ?_
          refine x_iconst (v := 0) F rfl dX4_minute_176 ?_
          refine x_istore_n (lv' := [(2, .int 0), (1, .int (-1)), (0, .ref (ma M 30))]) F dX4_minute_177 rfl (by decide) rfl ?_
          refine wx_sub (lv' := [(0, .ref (ma M 30)), (1, .int (-1)), (2, .int 0)]) [2, 1, 0] rfl ?_
          refine (loop_dn (N := (mg m)) (P := fun i => wx E H 0 0 178 [(0, .ref (ma M 30)), (1, .int (n_nx M i)), (2, .int (nI i))] []) ?_ ?_) 0 (Nat.zero_le _)
          · refine x_iload_n F dX4_minute_178 2 rfl rfl ?_
            refine x_aload_n F dX4_minute_179 0 rfl rfl ?_
            refine z_get (m := M) (j := 12) (v := .int (mY M 12)) F hR mw_811 rfl (by decide) rfl dX4_minute_180 ?_
            refine wx_i (y := nI (mg m)) hgM ?_
            refine x_icmp_ge F dX4_minute_183 (tgt := 223) (by decide) (fun _ => ?_) (fun h11 => absurd (Int32.le_refl _) h11)
            refine wx_join (P := ∀ H : Heap, RepM G A (n_m3 M) H → wx E H 0 0 240 [(0, .ref (ma M 30))] []) ?_ (fun J3 => ?_)
            · intro H hR
              obtain ⟨K, hK⟩ : ∃ K, K = n_m3 M := ⟨_, rfl⟩
              have hmin : n_min m = n_go K := by rw [hK, hM]; rfl
              have hSK : Same m K := by rw [hK]; exact hSM.tr (same_m3 _)
              have hW : WfM K := hSK.wf hW0
              rw [← hK] at hR
              refine wx_lv (lv' := [(0, .ref (ma K 30))]) (by rw [hSK.1, hSM.1]) ?_
              refine x_iconst (v := 0) F rfl dX4_minute_240 ?_
              refine x_istore_n (lv' := [(2, .int 0), (0, .ref (ma K 30))]) F dX4_minute_241 rfl (by decide) rfl ?_
              by_cases hb : mY K 1 < mY K 4
              · refine x_iload_n F dX4_minute_242 0 rfl rfl ?_
                refine x_aload_n F dX4_minute_243 1 rfl rfl ?_
                refine z_get (m := K) (j := 20) (v := .int (mY K 20)) F hR mw_819 rfl (by decide) rfl dX4_minute_244 ?_
                refine wx_i (y := nI (mf K)) hW.2.2.1.1 ?_
                refine x_icmp_ge F dX4_minute_247 (tgt := 290) (by decide) (fun h12 => ?_) (fun h12 => ?_)
                · have h12' := Int32.not_lt.mpr h12
                  refine x_iconst (v := 0) F rfl dX4_minute_290 ?_
                  exact x_zret F rfl hE dX4_minute_291 (Nat.le_of_ble_eq_true rfl) (Nat.le_of_ble_eq_true rfl) (⟨by rw [hmin]; unfold n_go; rw [if_pos hb], by rw [hmin]; unfold n_go; rw [if_pos hb]; exact hR⟩)
                · have h12' := Int32.not_le.mp h12
                  refine x_aload_n F dX4_minute_250 1 rfl rfl ?_
                  refine x_callVp (rest := []) F hR.2.2.1 rfl (c_X4_isBusyNow l G A K ) k_X4_146 ⟨(Nat.le_of_ble_eq_true rfl), (Nat.le_of_ble_eq_true rfl), rfl, rfl⟩ (Nat.le_of_ble_eq_true rfl) (Nat.le_of_ble_eq_true rfl) dX4_minute_251 rfl rfl (Nat.le_of_ble_eq_true rfl) hR ?_
                  refine x_if_ne F dX4_minute_254 (tgt := 290) (by decide) (fun _ => ?_) (fun h => absurd hb (bI_0.mp h))
                  refine x_iconst (v := 0) F rfl dX4_minute_290 ?_
                  exact x_zret F rfl hE dX4_minute_291 (Nat.le_of_ble_eq_true rfl) (Nat.le_of_ble_eq_true rfl) (⟨by rw [hmin]; unfold n_go; rw [if_pos hb], by rw [hmin]; unfold n_go; rw [if_pos hb]; exact hR⟩)
              · refine wx_sub (lv' := [(0, .ref (ma K 30)), (2, .int 0)]) [1, 0] rfl ?_
                refine (loop_dn (N := (mf K)) (P := fun i => (fgo (p_can K) (mf K - i) i = fgo (p_can K) (mf K) 0) → wx E H 0 0 242 [(0, .ref (ma K 30)), (2, .int (nI i))] []) ?_ ?_) 0 (Nat.zero_le _) (rfl)
                · intro hL242
                  refine x_iload_n F dX4_minute_242 1 rfl rfl ?_
                  refine x_aload_n F dX4_minute_243 0 rfl rfl ?_
                  refine z_get (m := K) (j := 20) (v := .int (mY K 20)) F hR mw_819 rfl (by decide) rfl dX4_minute_244 ?_
                  refine wx_i (y := nI (mf K)) hW.2.2.1.1 ?_
                  refine x_icmp_ge F dX4_minute_247 (tgt := 290) (by decide) (fun _ => ?_) (fun h13 => absurd (Int32.le_refl _) h13)
                  have hce : fgo (p_can K) (mf K) 0 = -1 := by rw [← hL242, fgo_end]
                  refine x_iconst (v := 0) F rfl dX4_minute_290 ?_
                  exact x_zret F rfl hE dX4_minute_291 (Nat.le_of_ble_eq_true rfl) (Nat.le_of_ble_eq_true rfl) (⟨by rw [hmin]; unfold n_go; rw [if_neg hb, if_pos hce], by rw [hmin]; unfold n_go; rw [if_neg hb, if_pos hce]; exact hR⟩)
                · intro i hi ih242 hL242
                  refine x_iload_n F dX4_minute_242 1 rfl rfl ?_
                  refine x_aload_n F dX4_minute_243 0 rfl rfl ?_
                  refine z_get (m := K) (j := 20) (v := .int (mY K 20)) F hR mw_819 rfl (by decide) rfl dX4_minute_244 ?_
                  refine wx_i (y := nI (mf K)) hW.2.2.1.1 ?_
                  refine x_icmp_ge F dX4_minute_247 (tgt := 290) (by decide) (fun h14 => absurd h14 (nI_ge hi ((Nat.lt_of_le_of_lt hW.2.2.1.2 (by decide))))) (fun _ => ?_)
                  refine x_aload_n F dX4_minute_250 0 rfl rfl ?_
                  refine x_callVp (rest := []) F hR.2.2.1 rfl (c_X4_isBusyNow l G A K ) k_X4_146 ⟨(Nat.le_of_ble_eq_true rfl), (Nat.le_of_ble_eq_true rfl), rfl, rfl⟩ (Nat.le_of_ble_eq_true rfl) (Nat.le_of_ble_eq_true rfl) dX4_minute_251 rfl rfl (Nat.le_of_ble_eq_true rfl) hR ?_
                  refine x_if_ne F dX4_minute_254 (tgt := 290) (by decide) (fun h => absurd (bI_ne.mp h) hb) (fun _ => ?_)
                  refine x_aload_n F dX4_minute_257 0 rfl rfl ?_
                  refine z_get (m := K) (j := 29) (v := .ref (ma K 29)) F hR mw_828 rfl (by decide) rfl dX4_minute_258 ?_
                  refine x_iload_n F dX4_minute_261 1 rfl rfl ?_
                  refine z_ildN (m := K) (j := 29) (i := i) F hR (by decide) rfl rfl (Nat.lt_of_lt_of_le hi hW.2.2.1.2) (by decide) dX4_minute_262 ?_
                  refine x_if_ne F dX4_minute_263 (tgt := 284) (by decide) (fun h15 => ?_) (fun h15 => ?_)
                  · refine x_iinc (j := 1) (v := nI (i + 1)) (lv' := [(2, .int (nI (i + 1))), (0, .ref (ma K 30))]) F dX4_minute_284 rfl (nI_1 _) (by decide) rfl ?_
                    refine x_goto F dX4_minute_287 (tgt := 242) (by decide) ?_
                    refine wx_sub (lv' := [(0, .ref (ma K 30)), (2, .int (nI (i + 1)))]) [1, 0] rfl ?_
                    exact ih242 (by rw [← hL242, fgo_at hi, if_neg (by simp [p_can, h15])])
                  · refine x_aload_n F dX4_minute_266 0 rfl rfl ?_
                    refine x_iload_n F dX4_minute_267 1 rfl rfl ?_
                    refine x_callVp (rest := []) F hR.2.2.1 rfl (c_X4_reasonOf l G A K i hi hW) k_X4_150 ⟨(Nat.le_of_ble_eq_true rfl), (Nat.le_of_ble_eq_true rfl), rfl, rfl⟩ (Nat.le_of_ble_eq_true rfl) (Nat.le_of_ble_eq_true rfl) dX4_minute_268 rfl rfl (Nat.le_of_ble_eq_true rfl) hR ?_
                    refine x_if_eq F dX4_minute_271 (tgt := 277) (by decide) (fun h16 => ?_) (fun h16 => ?_)
                    · have hfe : fgo (p_can K) (mf K) 0 = nI i := by rw [← hL242, fgo_at hi, if_pos (by simp [p_can, h15, h16])]
                      have hi31 : i < 2 ^ 31 := Nat.lt_trans hi (Nat.lt_of_le_of_lt hW.2.2.1.2 (by decide))
                      have hcn : ¬ fgo (p_can K) (mf K) 0 = -1 := by rw [hfe]; exact nI_m1 hi31
                      have hce : tN (fgo (p_can K) (mf K) 0) = i := by rw [hfe]; exact nI_clamp hi31
                      refine x_aload_n F dX4_minute_277 0 rfl rfl ?_
                      refine x_iload_n F dX4_minute_278 1 rfl rfl ?_
                      refine x_callVs (rest := []) F hR.2.2.1 rfl (c_X4_begin l G A K i hi hW) k_X4_163 ⟨⟨(Nat.le_of_ble_eq_true rfl), (Nat.le_of_ble_eq_true rfl)⟩, (Nat.le_of_ble_eq_true rfl), (Nat.le_of_ble_eq_true rfl)⟩ dX4_minute_279 rfl rfl (Nat.le_of_ble_eq_true rfl) hR ?_
                      rintro _ H17 ⟨rfl, hR18⟩ - -
                      refine x_iconst (v := 1) F rfl dX4_minute_282 ?_
                      exact x_zret F rfl hE dX4_minute_283 (Nat.le_of_ble_eq_true rfl) (Nat.le_of_ble_eq_true rfl) (⟨by rw [hmin]; unfold n_go; rw [if_neg hb, if_neg hcn], by rw [hmin]; unfold n_go; rw [if_neg hb, if_neg hcn, hce]; exact hR18⟩)
                    · refine x_goto F dX4_minute_274 (tgt := 284) (by decide) ?_
                      refine x_iinc (j := 1) (v := nI (i + 1)) (lv' := [(2, .int (nI (i + 1))), (0, .ref (ma K 30))]) F dX4_minute_284 rfl (nI_1 _) (by decide) rfl ?_
                      refine x_goto F dX4_minute_287 (tgt := 242) (by decide) ?_
                      refine wx_sub (lv' := [(0, .ref (ma K 30)), (2, .int (nI (i + 1)))]) [1, 0] rfl ?_
                      exact ih242 (by rw [← hL242, fgo_at hi, if_neg (by simp [p_can, h15, h16])])
            · refine x_aload_n F dX4_minute_223 0 rfl rfl ?_
              refine x_callVp (rest := []) F hR.2.2.1 rfl (c_X4_isBusyNow l G A M ) k_X4_146 ⟨(Nat.le_of_ble_eq_true rfl), (Nat.le_of_ble_eq_true rfl), rfl, rfl⟩ (Nat.le_of_ble_eq_true rfl) (Nat.le_of_ble_eq_true rfl) dX4_minute_224 rfl rfl (Nat.le_of_ble_eq_true rfl) hR ?_
              refine x_if_ne F dX4_minute_227 (tgt := 240) (by decide) (fun h19 => ?_) (fun h19 => ?_)
              · replace h19 := bI_ne.mp h19
                refine wx_sub (lv' := [(0, .ref (ma M 30))]) [0] rfl ?_
                exact J3 _ (by unfold n_m3; rw [hgM2]; rw [if_neg (fun q => q.1 h19)]; exact hR)
              · replace h19 := bI_0.mp h19
                refine x_iload_n F dX4_minute_230 1 rfl rfl ?_
                refine x_iconst (v := (-1)) F rfl dX4_minute_231 ?_
                refine x_icmp_eq F dX4_minute_232 (tgt := 240) (by decide) (fun h20 => ?_) (fun h20 => ?_)
                · refine wx_sub (lv' := [(0, .ref (ma M 30))]) [0] rfl ?_
                  exact J3 _ (by unfold n_m3; rw [hgM2]; rw [if_neg (fun q => q.2 h20)]; exact hR)
                · refine x_aload_n F dX4_minute_235 0 rfl rfl ?_
                  refine x_iload_n F dX4_minute_236 1 rfl rfl ?_
                  obtain ⟨hne, hnl, hnp⟩ := nx_ok (mg m) hg31 h20
                  have hfo : ¬ m_fo M (nI (tN (n_nx M (mg m)))) = -1 := by rw [hM] at hnl hnp ⊢; exact hq _ hnl hnp
                  refine wx_i (y := nI (tN (n_nx M (mg m)))) hne ?_
                  refine x_callVs (rest := []) F hR.2.2.1 rfl (c_X4_land l G A M (tN (n_nx M (mg m))) (by rw [hgM2]; exact hnl) hW hfo) k_X4_159 ⟨⟨(Nat.le_of_ble_eq_true rfl), (Nat.le_of_ble_eq_true rfl)⟩, (Nat.le_of_ble_eq_true rfl), (Nat.le_of_ble_eq_true rfl)⟩ dX4_minute_237 rfl rfl (Nat.le_of_ble_eq_true rfl) hR ?_
                  rintro _ H21 ⟨rfl, hR22⟩ - -
                  refine wx_sub (lv' := [(0, .ref (ma M 30))]) [0] rfl ?_
                  exact J3 _ (by unfold n_m3; rw [hgM2]; rw [if_pos ⟨h19, h20⟩]; exact hR22)
          · intro i hi ih178
            refine x_iload_n F dX4_minute_178 2 rfl rfl ?_
            refine x_aload_n F dX4_minute_179 0 rfl rfl ?_
            refine z_get (m := M) (j := 12) (v := .int (mY M 12)) F hR mw_811 rfl (by decide) rfl dX4_minute_180 ?_
            refine wx_i (y := nI (mg m)) hgM ?_
            refine x_icmp_ge F dX4_minute_183 (tgt := 223) (by decide) (fun h23 => absurd h23 (nI_ge hi (hg31))) (fun _ => ?_)
            refine x_aload_n F dX4_minute_186 0 rfl rfl ?_
            refine z_get (m := M) (j := 18) (v := .ref (ma M 18)) F hR mw_817 rfl (by decide) rfl dX4_minute_187 ?_
            refine x_iload_n F dX4_minute_190 2 rfl rfl ?_
            refine z_ildN (m := M) (j := 18) (i := i) F hR (by decide) rfl rfl (Nat.lt_of_lt_of_le hi hW0.2.1.2) (by decide) dX4_minute_191 ?_
            refine x_if_le F dX4_minute_192 (tgt := 217) (by decide) (fun h24 => ?_) (fun h24 => ?_)
            · have h24' := Int32.not_lt.mpr h24
              refine x_iinc (j := 2) (v := nI (i + 1)) (lv' := [(2, .int (nI (i + 1))), (0, .ref (ma M 30)), (1, .int (n_nx M i))]) F dX4_minute_217 rfl (nI_1 _) (by decide) rfl ?_
              refine x_goto F dX4_minute_220 (tgt := 178) (by decide) ?_
              refine wx_sub (lv' := [(0, .ref (ma M 30)), (1, .int (n_nx M i)), (2, .int (nI (i + 1)))]) [1, 2, 0] rfl ?_
              refine wx_lv (lv' := [(0, .ref (ma M 30)), (1, .int (n_nx M (i + 1))), (2, .int (nI (i + 1)))]) (by first | (simp [n_nx, h24, h24']; done) | (simp_all [n_nx]; done)) ?_
              exact ih178
            · have h24' := Int32.not_le.mp h24
              refine x_iload_n F dX4_minute_195 1 rfl rfl ?_
              refine x_iconst (v := (-1)) F rfl dX4_minute_196 ?_
              refine x_icmp_eq F dX4_minute_197 (tgt := 215) (by decide) (fun h25 => ?_) (fun h25 => ?_)
              · refine x_iload_n F dX4_minute_215 2 rfl rfl ?_
                refine x_istore_n (lv' := [(1, .int (nI i)), (0, .ref (ma M 30)), (2, .int (nI i))]) F dX4_minute_216 rfl (by decide) rfl ?_
                refine x_iinc (j := 2) (v := nI (i + 1)) (lv' := [(2, .int (nI (i + 1))), (1, .int (nI i)), (0, .ref (ma M 30))]) F dX4_minute_217 rfl (nI_1 _) (by decide) rfl ?_
                refine x_goto F dX4_minute_220 (tgt := 178) (by decide) ?_
                refine wx_sub (lv' := [(0, .ref (ma M 30)), (1, .int (nI i)), (2, .int (nI (i + 1)))]) [2, 1, 0] rfl ?_
                refine wx_lv (lv' := [(0, .ref (ma M 30)), (1, .int (n_nx M (i + 1))), (2, .int (nI (i + 1)))]) (by first | (simp [n_nx, h24, h24', h25]; done) | (simp_all [n_nx]; done)) ?_
                exact ih178
              · obtain ⟨hne, hnl, hnp⟩ := nx_ok i (Nat.lt_trans hi hg31) h25
                refine x_aload_n F dX4_minute_200 0 rfl rfl ?_
                refine z_get (m := M) (j := 18) (v := .ref (ma M 18)) F hR mw_817 rfl (by decide) rfl dX4_minute_201 ?_
                refine x_iload_n F dX4_minute_204 2 rfl rfl ?_
                refine z_ildN (m := M) (j := 18) (i := i) F hR (by decide) rfl rfl (Nat.lt_of_lt_of_le hi hW0.2.1.2) (by decide) dX4_minute_205 ?_
                refine x_aload_n F dX4_minute_206 0 rfl rfl ?_
                refine z_get (m := M) (j := 18) (v := .ref (ma M 18)) F hR mw_817 rfl (by decide) rfl dX4_minute_207 ?_
                refine x_iload_n F dX4_minute_210 1 rfl rfl ?_
                refine wx_i (y := nI (tN (n_nx M i))) (hne) ?_
                refine z_ildN (m := M) (j := 18) (i := (tN (n_nx M i))) F hR (by decide) rfl rfl (Nat.lt_of_lt_of_le (Nat.lt_trans hnl hi) hW0.2.1.2) (by decide) dX4_minute_211 ?_
                refine x_icmp_ge F dX4_minute_212 (tgt := 217) (by decide) (fun h26 => ?_) (fun h26 => ?_)
                · have h26' := Int32.not_lt.mpr h26
                  refine x_iinc (j := 2) (v := nI (i + 1)) (lv' := [(2, .int (nI (i + 1))), (0, .ref (ma M 30)), (1, .int (n_nx M i))]) F dX4_minute_217 rfl (nI_1 _) (by decide) rfl ?_
                  refine x_goto F dX4_minute_220 (tgt := 178) (by decide) ?_
                  refine wx_sub (lv' := [(0, .ref (ma M 30)), (1, .int (n_nx M i)), (2, .int (nI (i + 1)))]) [1, 2, 0] rfl ?_
                  refine wx_lv (lv' := [(0, .ref (ma M 30)), (1, .int (n_nx M (i + 1))), (2, .int (nI (i + 1)))]) (by first | (simp [n_nx, h24, h24', h25, h26, h26']; done) | (simp_all [n_nx]; done)) ?_
                  exact ih178
                · have h26' := Int32.not_le.mp h26
                  refine x_iload_n F dX4_minute_215 2 rfl rfl ?_
                  refine x_istore_n (lv' := [(1, .int (nI i)), (0, .ref (ma M 30)), (2, .int (nI i))]) F dX4_minute_216 rfl (by decide) rfl ?_
                  refine x_iinc (j := 2) (v := nI (i + 1)) (lv' := [(2, .int (nI (i + 1))), (1, .int (nI i)), (0, .ref (ma M 30))]) F dX4_minute_217 rfl (nI_1 _) (by decide) rfl ?_
                  refine x_goto F dX4_minute_220 (tgt := 178) (by decide) ?_
                  refine wx_sub (lv' := [(0, .ref (ma M 30)), (1, .int (nI i)), (2, .int (nI (i + 1)))]) [2, 1, 0] rfl ?_
                  refine wx_lv (lv' := [(0, .ref (ma M 30)), (1, .int (n_nx M (i + 1))), (2, .int (nI (i + 1)))]) (by first | (simp [n_nx, h24, h24', h25, h26, h26']; done) | (simp_all [n_nx]; done)) ?_
                  exact ih178
        · intro i hi ih H hR
          have hW0 := hW
          have hW := hWN i
          rw [← hmN i]
          refine x_iload_n F dX4_minute_77 1 rfl rfl ?_
          refine x_aload_n F dX4_minute_78 0 rfl rfl ?_
          refine z_get (m := (n_wN (n_m2 m) i)) (j := 12) (v := .int (mY (n_wN (n_m2 m) i) 12)) F hR mw_811 rfl (by decide) rfl dX4_minute_79 ?_
          refine wx_i (y := nI (mg m)) (hgN _) ?_
          refine x_icmp_ge F dX4_minute_82 (tgt := 174) (by decide) (fun h27 => absurd h27 (nI_ge hi hg31)) (fun _ => ?_)
          refine x_aload_n F dX4_minute_85 0 rfl rfl ?_
          refine x_iload_n F dX4_minute_86 1 rfl rfl ?_
          refine x_callVp (rest := []) F hR.2.2.1 rfl (c_X4_flightOf l G A (n_wN (n_m2 m) i) (nI i) hW) k_X4_106 ⟨(Nat.le_of_ble_eq_true rfl), (Nat.le_of_ble_eq_true rfl), rfl, rfl⟩ (Nat.le_of_ble_eq_true rfl) (Nat.le_of_ble_eq_true rfl) dX4_minute_87 rfl rfl (Nat.le_of_ble_eq_true rfl) hR ?_
          refine x_istore_n (lv' := [(2, .int (m_fo (n_wN (n_m2 m) i) (nI i))), (0, .ref (ma (n_wN (n_m2 m) i) 30)), (1, .int (nI i))]) F dX4_minute_90 rfl (by decide) rfl ?_
          refine x_iload_n F dX4_minute_91 0 rfl rfl ?_
          refine x_iconst (v := (-1)) F rfl dX4_minute_92 ?_
          refine x_icmp_eq F dX4_minute_93 (tgt := 168) (by decide) (fun h28 => ?_) (fun h28 => ?_)
          · have hw : n_wN (n_m2 m) (i + 1) = (n_wN (n_m2 m) i) := if_neg (by show ¬ w_mst (n_wN (n_m2 m) i) i = true; unfold w_mst; rw [decide_eq_true_eq]; exact fun q => q.1 h28)
            refine x_iinc (j := 2) (v := nI (i + 1)) (lv' := [(1, .int (nI (i + 1))), (2, .int (m_fo (n_wN (n_m2 m) i) (nI i))), (0, .ref (ma (n_wN (n_m2 m) i) 30))]) F dX4_minute_168 rfl (nI_1 _) (by decide) rfl ?_
            refine x_goto F dX4_minute_171 (tgt := 77) (by decide) ?_
            refine wx_sub (lv' := [(0, .ref (ma (n_wN (n_m2 m) i) 30)), (1, .int (nI (i + 1)))]) [2, 0] rfl ?_
            rw [hmN i]
            exact ih H (by rw [hw]; exact hR)
          · obtain ⟨hfe, hff, hfp⟩ := fo_ok hW h28
            refine x_aload_n F dX4_minute_96 1 rfl rfl ?_
            refine z_get (m := (n_wN (n_m2 m) i)) (j := 18) (v := .ref (ma (n_wN (n_m2 m) i) 18)) F hR mw_817 rfl (by decide) rfl dX4_minute_97 ?_
            refine x_iload_n F dX4_minute_100 2 rfl rfl ?_
            refine z_ildN (m := (n_wN (n_m2 m) i)) (j := 18) (i := i) F hR (by decide) rfl rfl (Nat.lt_of_lt_of_le hi hW0.2.1.2) (by decide) dX4_minute_101 ?_
            refine x_if_gt F dX4_minute_102 (tgt := 168) (by decide) (fun h29 => ?_) (fun h29 => ?_)
            · have h29' := Int32.not_le.mpr h29
              have hw : n_wN (n_m2 m) (i + 1) = (n_wN (n_m2 m) i) := if_neg (by show ¬ w_mst (n_wN (n_m2 m) i) i = true; unfold w_mst; rw [decide_eq_true_eq]; exact fun q => q.2.1 h29)
              refine x_iinc (j := 2) (v := nI (i + 1)) (lv' := [(1, .int (nI (i + 1))), (2, .int (m_fo (n_wN (n_m2 m) i) (nI i))), (0, .ref (ma (n_wN (n_m2 m) i) 30))]) F dX4_minute_168 rfl (nI_1 _) (by decide) rfl ?_
              refine x_goto F dX4_minute_171 (tgt := 77) (by decide) ?_
              refine wx_sub (lv' := [(0, .ref (ma (n_wN (n_m2 m) i) 30)), (1, .int (nI (i + 1)))]) [2, 0] rfl ?_
              rw [hmN i]
              exact ih H (by rw [hw]; exact hR)
            · have h29' := Int32.not_lt.mp h29
              refine x_aload_n F dX4_minute_105 1 rfl rfl ?_
              refine z_get (m := (n_wN (n_m2 m) i)) (j := 1) (v := .int (mY (n_wN (n_m2 m) i) 1)) F hR mw_800 rfl (by decide) rfl dX4_minute_106 ?_
              refine x_aload_n F dX4_minute_109 1 rfl rfl ?_
              refine z_get (m := (n_wN (n_m2 m) i)) (j := 27) (v := .ref (ma (n_wN (n_m2 m) i) 27)) F hR mw_826 rfl (by decide) rfl dX4_minute_110 ?_
              refine x_iload_n F dX4_minute_113 0 rfl rfl ?_
              refine wx_i (y := nI (tN (m_fo (n_wN (n_m2 m) i) (nI i)))) (hfe) ?_
              refine z_ildN (m := (n_wN (n_m2 m) i)) (j := 27) (i := (tN (m_fo (n_wN (n_m2 m) i) (nI i)))) F hR (by decide) rfl rfl (Nat.lt_of_lt_of_le hff hW.2.2.1.2) (by decide) dX4_minute_114 ?_
              refine x_isub F dX4_minute_115 ?_
              refine x_aload_n F dX4_minute_116 1 rfl rfl ?_
              refine z_get (m := (n_wN (n_m2 m) i)) (j := 25) (v := .ref (ma (n_wN (n_m2 m) i) 25)) F hR mw_824 rfl (by decide) rfl dX4_minute_117 ?_
              refine x_iload_n F dX4_minute_120 0 rfl rfl ?_
              refine wx_i (y := nI (tN (m_fo (n_wN (n_m2 m) i) (nI i)))) (hfe) ?_
              refine z_ildN (m := (n_wN (n_m2 m) i)) (j := 25) (i := (tN (m_fo (n_wN (n_m2 m) i) (nI i)))) F hR (by decide) rfl rfl (Nat.lt_of_lt_of_le hff hW.2.2.1.2) (by decide) dX4_minute_121 ?_
              refine x_icmp_ge F dX4_minute_122 (tgt := 148) (by decide) (fun h30 => ?_) (fun h30 => ?_)
              · have h30' := Int32.not_lt.mpr h30
                refine x_aload_n F dX4_minute_148 1 rfl rfl ?_
                refine x_dup F dX4_minute_149 rfl ?_
                refine z_get (m := (n_wN (n_m2 m) i)) (j := 19) (v := .int (mY (n_wN (n_m2 m) i) 19)) F hR mw_818 rfl (by decide) rfl dX4_minute_150 ?_
                refine x_iconst (v := 1) F rfl dX4_minute_153 ?_
                refine x_iadd F dX4_minute_154 ?_
                refine z_put (m := (n_wN (n_m2 m) i)) (j := 19) (v := (mY (n_wN (n_m2 m) i) 19) + 1) F hR mw_818 rfl (by decide) rfl rfl rfl dX4_minute_155 (fun H31 hR32 => ?_)
                refine x_aload_n F dX4_minute_158 1 rfl rfl ?_
                refine z_get (m := (sY (n_wN (n_m2 m) i) 19 ((mY (n_wN (n_m2 m) i) 19) + 1))) (j := 18) (v := .ref (ma (n_wN (n_m2 m) i) 18)) F hR32 mw_817 rfl (by decide) rfl dX4_minute_159 ?_
                refine x_iload_n F dX4_minute_162 2 rfl rfl ?_
                refine x_aload_n F dX4_minute_163 1 rfl rfl ?_
                refine z_get (m := (sY (n_wN (n_m2 m) i) 19 ((mY (n_wN (n_m2 m) i) 19) + 1))) (j := 19) (v := .int ((mY (n_wN (n_m2 m) i) 19) + 1)) F hR32 mw_818 rfl (by decide) rfl dX4_minute_164 ?_
                refine z_istN (m := (sY (n_wN (n_m2 m) i) 19 ((mY (n_wN (n_m2 m) i) 19) + 1))) (j := 18) (i := i) (v := (mY (n_wN (n_m2 m) i) 19) + 1) F hR32 (by decide) rfl rfl (Nat.lt_of_lt_of_le hi hW0.2.1.2) (by decide) dX4_minute_167 (fun H33 hR34 => ?_)
                have hw : n_wN (n_m2 m) (i + 1) = sZ (sY (n_wN (n_m2 m) i) 19 ((mY (n_wN (n_m2 m) i) 19) + 1)) 18 i ((mY (n_wN (n_m2 m) i) 19) + 1) := if_pos (by show w_mst (n_wN (n_m2 m) i) i = true; unfold w_mst; rw [decide_eq_true_eq]; exact ⟨h28, h29, fun q => h30' q.1⟩)
                refine x_iinc (j := 2) (v := nI (i + 1)) (lv' := [(1, .int (nI (i + 1))), (2, .int (m_fo (n_wN (n_m2 m) i) (nI i))), (0, .ref (ma (n_wN (n_m2 m) i) 30))]) F dX4_minute_168 rfl (nI_1 _) (by decide) rfl ?_
                refine x_goto F dX4_minute_171 (tgt := 77) (by decide) ?_
                refine wx_sub (lv' := [(0, .ref (ma (n_wN (n_m2 m) i) 30)), (1, .int (nI (i + 1)))]) [2, 0] rfl ?_
                rw [hmN i]
                exact ih H33 (by rw [hw]; exact hR34)
              · have h30' := Int32.not_le.mp h30
                refine x_aload_n F dX4_minute_125 1 rfl rfl ?_
                refine z_get (m := (n_wN (n_m2 m) i)) (j := 1) (v := .int (mY (n_wN (n_m2 m) i) 1)) F hR mw_800 rfl (by decide) rfl dX4_minute_126 ?_
                refine x_aload_n F dX4_minute_129 1 rfl rfl ?_
                refine z_get (m := (n_wN (n_m2 m) i)) (j := 3) (v := .int (mY (n_wN (n_m2 m) i) 3)) F hR mw_802 rfl (by decide) rfl dX4_minute_130 ?_
                refine x_icmp_ge F dX4_minute_133 (tgt := 148) (by decide) (fun h35 => ?_) (fun h35 => ?_)
                · have h35' := Int32.not_lt.mpr h35
                  refine x_aload_n F dX4_minute_148 1 rfl rfl ?_
                  refine x_dup F dX4_minute_149 rfl ?_
                  refine z_get (m := (n_wN (n_m2 m) i)) (j := 19) (v := .int (mY (n_wN (n_m2 m) i) 19)) F hR mw_818 rfl (by decide) rfl dX4_minute_150 ?_
                  refine x_iconst (v := 1) F rfl dX4_minute_153 ?_
                  refine x_iadd F dX4_minute_154 ?_
                  refine z_put (m := (n_wN (n_m2 m) i)) (j := 19) (v := (mY (n_wN (n_m2 m) i) 19) + 1) F hR mw_818 rfl (by decide) rfl rfl rfl dX4_minute_155 (fun H36 hR37 => ?_)
                  refine x_aload_n F dX4_minute_158 1 rfl rfl ?_
                  refine z_get (m := (sY (n_wN (n_m2 m) i) 19 ((mY (n_wN (n_m2 m) i) 19) + 1))) (j := 18) (v := .ref (ma (n_wN (n_m2 m) i) 18)) F hR37 mw_817 rfl (by decide) rfl dX4_minute_159 ?_
                  refine x_iload_n F dX4_minute_162 2 rfl rfl ?_
                  refine x_aload_n F dX4_minute_163 1 rfl rfl ?_
                  refine z_get (m := (sY (n_wN (n_m2 m) i) 19 ((mY (n_wN (n_m2 m) i) 19) + 1))) (j := 19) (v := .int ((mY (n_wN (n_m2 m) i) 19) + 1)) F hR37 mw_818 rfl (by decide) rfl dX4_minute_164 ?_
                  refine z_istN (m := (sY (n_wN (n_m2 m) i) 19 ((mY (n_wN (n_m2 m) i) 19) + 1))) (j := 18) (i := i) (v := (mY (n_wN (n_m2 m) i) 19) + 1) F hR37 (by decide) rfl rfl (Nat.lt_of_lt_of_le hi hW0.2.1.2) (by decide) dX4_minute_167 (fun H38 hR39 => ?_)
                  have hw : n_wN (n_m2 m) (i + 1) = sZ (sY (n_wN (n_m2 m) i) 19 ((mY (n_wN (n_m2 m) i) 19) + 1)) 18 i ((mY (n_wN (n_m2 m) i) 19) + 1) := if_pos (by show w_mst (n_wN (n_m2 m) i) i = true; unfold w_mst; rw [decide_eq_true_eq]; exact ⟨h28, h29, fun q => h35' q.2.1⟩)
                  refine x_iinc (j := 2) (v := nI (i + 1)) (lv' := [(1, .int (nI (i + 1))), (2, .int (m_fo (n_wN (n_m2 m) i) (nI i))), (0, .ref (ma (n_wN (n_m2 m) i) 30))]) F dX4_minute_168 rfl (nI_1 _) (by decide) rfl ?_
                  refine x_goto F dX4_minute_171 (tgt := 77) (by decide) ?_
                  refine wx_sub (lv' := [(0, .ref (ma (n_wN (n_m2 m) i) 30)), (1, .int (nI (i + 1)))]) [2, 0] rfl ?_
                  rw [hmN i]
                  exact ih H38 (by rw [hw]; exact hR39)
                · have h35' := Int32.not_le.mp h35
                  refine x_aload_n F dX4_minute_136 1 rfl rfl ?_
                  refine z_get (m := (n_wN (n_m2 m) i)) (j := 17) (v := .ref (ma (n_wN (n_m2 m) i) 17)) F hR mw_816 rfl (by decide) rfl dX4_minute_137 ?_
                  refine x_iload_n F dX4_minute_140 2 rfl rfl ?_
                  refine z_zldN (m := (n_wN (n_m2 m) i)) (j := 17) (i := i) F hR (by decide) rfl rfl (Nat.lt_of_lt_of_le hi hW0.2.1.2) (by decide) dX4_minute_141 ?_
                  refine x_if_ne F dX4_minute_142 (tgt := 148) (by decide) (fun h40 => ?_) (fun h40 => ?_)
                  · refine x_aload_n F dX4_minute_148 1 rfl rfl ?_
                    refine x_dup F dX4_minute_149 rfl ?_
                    refine z_get (m := (n_wN (n_m2 m) i)) (j := 19) (v := .int (mY (n_wN (n_m2 m) i) 19)) F hR mw_818 rfl (by decide) rfl dX4_minute_150 ?_
                    refine x_iconst (v := 1) F rfl dX4_minute_153 ?_
                    refine x_iadd F dX4_minute_154 ?_
                    refine z_put (m := (n_wN (n_m2 m) i)) (j := 19) (v := (mY (n_wN (n_m2 m) i) 19) + 1) F hR mw_818 rfl (by decide) rfl rfl rfl dX4_minute_155 (fun H41 hR42 => ?_)
                    refine x_aload_n F dX4_minute_158 1 rfl rfl ?_
                    refine z_get (m := (sY (n_wN (n_m2 m) i) 19 ((mY (n_wN (n_m2 m) i) 19) + 1))) (j := 18) (v := .ref (ma (n_wN (n_m2 m) i) 18)) F hR42 mw_817 rfl (by decide) rfl dX4_minute_159 ?_
                    refine x_iload_n F dX4_minute_162 2 rfl rfl ?_
                    refine x_aload_n F dX4_minute_163 1 rfl rfl ?_
                    refine z_get (m := (sY (n_wN (n_m2 m) i) 19 ((mY (n_wN (n_m2 m) i) 19) + 1))) (j := 19) (v := .int ((mY (n_wN (n_m2 m) i) 19) + 1)) F hR42 mw_818 rfl (by decide) rfl dX4_minute_164 ?_
                    refine z_istN (m := (sY (n_wN (n_m2 m) i) 19 ((mY (n_wN (n_m2 m) i) 19) + 1))) (j := 18) (i := i) (v := (mY (n_wN (n_m2 m) i) 19) + 1) F hR42 (by decide) rfl rfl (Nat.lt_of_lt_of_le hi hW0.2.1.2) (by decide) dX4_minute_167 (fun H43 hR44 => ?_)
                    have hw : n_wN (n_m2 m) (i + 1) = sZ (sY (n_wN (n_m2 m) i) 19 ((mY (n_wN (n_m2 m) i) 19) + 1)) 18 i ((mY (n_wN (n_m2 m) i) 19) + 1) := if_pos (by show w_mst (n_wN (n_m2 m) i) i = true; unfold w_mst; rw [decide_eq_true_eq]; exact ⟨h28, h29, fun q => h40 q.2.2⟩)
                    refine x_iinc (j := 2) (v := nI (i + 1)) (lv' := [(1, .int (nI (i + 1))), (2, .int (m_fo (n_wN (n_m2 m) i) (nI i))), (0, .ref (ma (n_wN (n_m2 m) i) 30))]) F dX4_minute_168 rfl (nI_1 _) (by decide) rfl ?_
                    refine x_goto F dX4_minute_171 (tgt := 77) (by decide) ?_
                    refine wx_sub (lv' := [(0, .ref (ma (n_wN (n_m2 m) i) 30)), (1, .int (nI (i + 1)))]) [2, 0] rfl ?_
                    rw [hmN i]
                    exact ih H43 (by rw [hw]; exact hR44)
                  · refine x_goto F dX4_minute_145 (tgt := 168) (by decide) ?_
                    have hw : n_wN (n_m2 m) (i + 1) = (n_wN (n_m2 m) i) := if_neg (by show ¬ w_mst (n_wN (n_m2 m) i) i = true; unfold w_mst; rw [decide_eq_true_eq]; exact fun q => q.2.2 ⟨h30', h35', h40⟩)
                    refine x_iinc (j := 2) (v := nI (i + 1)) (lv' := [(1, .int (nI (i + 1))), (2, .int (m_fo (n_wN (n_m2 m) i) (nI i))), (0, .ref (ma (n_wN (n_m2 m) i) 30))]) F dX4_minute_168 rfl (nI_1 _) (by decide) rfl ?_
                    refine x_goto F dX4_minute_171 (tgt := 77) (by decide) ?_
                    refine wx_sub (lv' := [(0, .ref (ma (n_wN (n_m2 m) i) 30)), (1, .int (nI (i + 1)))]) [2, 0] rfl ?_
                    rw [hmN i]
                    exact ih H (by rw [hw]; exact hR)
      · refine x_icmp_gt F dX4_minute_55 (tgt := 62) (by decide) (fun h45 => ?_) (fun h45 => ?_)
        · have h45' := Int32.not_le.mpr h45
          refine x_aload_n F dX4_minute_62 1 rfl rfl ?_
          refine z_get (m := (n_tu (n_m1 m) 0)) (j := 8) (v := .ref (ma (n_tu (n_m1 m) 0) 8)) F hR5 mw_807 rfl (by decide) rfl dX4_minute_63 ?_
          refine x_iload_n F dX4_minute_66 0 rfl rfl ?_
          refine z_ildN (m := (n_tu (n_m1 m) 0)) (j := 8) (i := 1) F hR5 (by decide) rfl rfl ((by decide)) (by decide) dX4_minute_67 ?_
          refine wx_sub (lv' := [(0, .ref (ma m 30)), (1, .int 1)]) [1, 0] rfl ?_
          rw [if_neg (Int32.not_le.mpr h45)] at Jt
          exact Jt
        · have h45' := Int32.not_lt.mp h45
          refine x_iconst (v := 0) F rfl dX4_minute_58 ?_
          refine x_goto F dX4_minute_59 (tgt := 68) (by decide) ?_
          refine wx_sub (lv' := [(0, .ref (ma m 30)), (1, .int 1)]) [1, 0] rfl ?_
          rw [if_pos (Int32.not_lt.mp h45)] at Jt
          exact Jt
    · refine x_icmp_gt F dX4_minute_55 (tgt := 62) (by decide) (fun h46 => ?_) (fun h46 => ?_)
      · have h46' := Int32.not_le.mpr h46
        refine x_aload_n F dX4_minute_62 1 rfl rfl ?_
        refine z_get (m := (n_m1 m)) (j := 8) (v := .ref (ma (n_m1 m) 8)) F hR mw_807 rfl (by decide) rfl dX4_minute_63 ?_
        refine x_iload_n F dX4_minute_66 0 rfl rfl ?_
        refine z_ildN (m := (n_m1 m)) (j := 8) (i := 0) F hR (by decide) rfl rfl ((by decide)) (by decide) dX4_minute_67 ?_
        refine wx_sub (lv' := [(0, .ref (ma m 30)), (1, .int 0)]) [1, 0] rfl ?_
        rw [if_neg (Int32.not_le.mpr h46)] at Jt
        exact Jt
      · have h46' := Int32.not_lt.mp h46
        refine x_iconst (v := 0) F rfl dX4_minute_58 ?_
        refine x_goto F dX4_minute_59 (tgt := 68) (by decide) ?_
        refine wx_sub (lv' := [(0, .ref (ma m 30)), (1, .int 0)]) [1, 0] rfl ?_
        rw [if_pos (Int32.not_lt.mp h46)] at Jt
        exact Jt
  · refine x_if_ne F dX4_minute_14 (tgt := 33) (by decide) (fun h47 => ?_) (fun h47 => ?_)
    · exact Ja _ (by unfold n_m1; rw [if_neg (fun q => h47 q.1)]; exact (m1_eq (m := sY m 1 (mY m 1 + 1))).symm ▸ hR2)
    · refine x_aload_n F dX4_minute_17 0 rfl rfl ?_
      refine z_get (m := (sY m 1 ((mY m 1) + 1))) (j := 1) (v := .int ((mY m 1) + 1)) F hR2 mw_800 rfl (by decide) rfl dX4_minute_18 ?_
      refine x_aload_n F dX4_minute_21 0 rfl rfl ?_
      refine z_get (m := (sY m 1 ((mY m 1) + 1))) (j := 6) (v := .int (mY m 6)) F hR2 mw_805 rfl (by decide) rfl dX4_minute_22 ?_
      refine x_icmp_lt F dX4_minute_25 (tgt := 33) (by decide) (fun h48 => ?_) (fun h48 => ?_)
      · have h48' := Int32.not_le.mpr h48
        exact Ja _ (by unfold n_m1; rw [if_neg (fun q => Int32.not_lt.mpr q.2 h48)]; exact (m1_eq (m := sY m 1 (mY m 1 + 1))).symm ▸ hR2)
      · have h48' := Int32.not_lt.mp h48
        refine x_aload_n F dX4_minute_28 0 rfl rfl ?_
        refine x_iconst (v := 2) F rfl dX4_minute_29 ?_
        refine z_put (m := (sY m 1 ((mY m 1) + 1))) (j := 5) (v := 2) F hR2 mw_804 rfl (by decide) rfl rfl rfl dX4_minute_30 (fun H49 hR50 => ?_)
        exact Ja _ (by unfold n_m1; rw [if_pos ⟨h47, Int32.not_lt.mp h48⟩]; exact hR50)
end MD6
