/-! the law's end: bills, begins and landings, the mean -/
section LE_
theorem k_L_59 : cwV_ "GliderDayLaw" 59 "GliderDay" yX3_bill cX3_bill 2 (some .int) 1 := ⟨mw_526, mw_527, mw_528, mw_28, mw_529, ⟨by decide +kernel, by decide +kernel, by decide +kernel⟩⟩
theorem k_L_62 : cwV_ "GliderDayLaw" 62 "GliderDay" yX3_income cX3_income 3 (some .int) 0 := ⟨mw_530, mw_531, mw_532, mw_28, mw_533, ⟨by decide +kernel, by decide +kernel, by decide +kernel⟩⟩
theorem k_L_71 : cwV_ "GliderDayLaw" 71 "GliderDay" yX3_waited cX3_waited 5 (some .double) 0 := ⟨mw_534, mw_535, mw_536, mw_28, mw_537, ⟨by decide +kernel, by decide +kernel, by decide +kernel⟩⟩
set_option maxHeartbeats 4000000 in
set_option maxRecDepth 100000 in
theorem le_G (l : Launch) (G : GT) (E : WE) (S0 : Heap) (F : fx l room_1 G (fun q => S0.size ≤ q) S0 15 cL_law "GliderDayLaw" E) {la sa : Nat} {c : CS} {k n : Nat} (hk : k ≤ 600086) (hn : n ≤ 7301442) {H : Heap} (hW : WL G S0.size (ad c 0 0) la sa c H) (J : wx E H k n 591 [(0, .ref (G.2.2.2 0)), (1, .ref (ad c 0 0)), (2, .ref la), (3, .ref sa), (6, .int (sumN (nm c) (fun i => cM c i 7))), (7, .int (nI (nm c)))] []) : ∀ (r j : Nat), j + r = nm c → wx E H k n 567 [(0, .ref (G.2.2.2 0)), (1, .ref (ad c 0 0)), (2, .ref la), (3, .ref sa), (6, .int (sumN j (fun i => cM c i 7))), (7, .int (nI j))] []
  | 0, j, hj => by
    obtain rfl : j = nm c := by omega
    show wx E H k n 567 [(0, .ref (G.2.2.2 0)), (1, .ref (ad c 0 0)), (2, .ref la), (3, .ref sa), (6, .int (sumN (nm c) (fun i => cM c i 7))), (7, .int (nI (nm c)))] []
    obtain ⟨hRb, ⟨fa, hLa, hfa⟩, ⟨fs, hSa, hfs⟩, hJ, -, ⟨hm1, hg1⟩⟩ := id hW
    have hR := hRb.all
    have hb := hW.bd
    have hI := hJ.2.1
    refine x_iload F dL_law_567 5 rfl ?_
    refine x_aload_n F dL_law_569 2 rfl rfl ?_
    refine x_len F hLa dL_law_570 ?_
    refine x_icmp_ge F dL_law_571 (tgt := 591) (by decide) (fun _ => ?_) (fun h => absurd (Int32.le_refl _) h)
    exact J
  | r + 1, j, hj => by
    have hjf : j < nm c := by omega
    have ih := le_G l G E S0 F hk hn hW J r (j + 1) (by omega)
    show wx E H k n 567 [(0, .ref (G.2.2.2 0)), (1, .ref (ad c 0 0)), (2, .ref la), (3, .ref sa), (6, .int (sumN j (fun i => cM c i 7))), (7, .int (nI j))] []
    obtain ⟨hRb, ⟨fa, hLa, hfa⟩, ⟨fs, hSa, hfs⟩, hJ, -, ⟨hm1, hg1⟩⟩ := id hW
    have hR := hRb.all
    have hb := hW.bd
    have hI := hJ.2.1
    refine x_iload F dL_law_567 5 rfl ?_
    refine x_aload_n F dL_law_569 2 rfl rfl ?_
    refine x_len F hLa dL_law_570 ?_
    refine x_icmp_ge F dL_law_571 (tgt := 591) (by decide) (fun h1 => absurd h1 (nI_ge hjf (by omega))) (fun _ => ?_)
    refine x_iload F dL_law_574 4 rfl ?_
    refine x_aload_n F dL_law_576 1 rfl rfl ?_
    refine x_iload F dL_law_577 5 rfl ?_
    refine x_callVp (rest := [.int (sumN j (fun i => cM c i 7))]) F hR.day rfl (p_X3_bill l G _ c j hjf) k_L_59 ⟨(Nat.le_of_ble_eq_true rfl), (Nat.le_of_ble_eq_true rfl), rfl, rfl⟩ hk hn dL_law_579 rfl rfl (Nat.le_of_ble_eq_true rfl) hR ?_
    refine x_iadd F dL_law_582 ?_
    refine wx_i (y := sumN (j + 1) (fun i => cM c i 7)) rfl ?_
    refine x_istore (lv' := [(6, .int (sumN (j + 1) (fun i => cM c i 7))), (0, .ref (G.2.2.2 0)), (1, .ref (ad c 0 0)), (2, .ref la), (3, .ref sa), (7, .int (nI j))]) F dL_law_583 (by decide) rfl ?_
    refine x_iinc (j := 5) (v := nI (j + 1)) (lv' := [(7, .int (nI (j + 1))), (6, .int (sumN (j + 1) (fun i => cM c i 7))), (0, .ref (G.2.2.2 0)), (1, .ref (ad c 0 0)), (2, .ref la), (3, .ref sa)]) F dL_law_585 rfl (nI_1 _) (by decide) rfl ?_
    refine x_goto F dL_law_588 (tgt := 567) (by decide) ?_
    exact wx_sub [2, 3, 4, 5, 1, 0] rfl ih
set_option maxHeartbeats 4000000 in
set_option maxRecDepth 100000 in
theorem le_I (l : Launch) (G : GT) (E : WE) (S0 : Heap) (F : fx l room_1 G (fun q => S0.size ≤ q) S0 15 cL_law "GliderDayLaw" E) {la sa : Nat} {c : CS} {k n : Nat} (hk : k ≤ 600086) (hn : n ≤ 7301442) {H : Heap} (hW : WL G S0.size (ad c 0 0) la sa c H) {j : Nat} (hjf : j < nf c) (hb0 : ¬ cF c j 8 < 0) (J : wx E H k n 844 [(0, .ref (G.2.2.2 0)), (1, .ref (ad c 0 0)), (2, .ref la), (3, .ref sa), (7, .int (nI (nf c))), (8, .int (nI j)), (9, .int (cF c j 8)), (12, .int (nI (nf c)))] []) : ∀ (r i : Nat), i + r = nf c → wx E H k n 705 [(0, .ref (G.2.2.2 0)), (1, .ref (ad c 0 0)), (2, .ref la), (3, .ref sa), (7, .int (nI (nf c))), (8, .int (nI j)), (9, .int (cF c j 8)), (12, .int (nI i))] []
  | 0, i, hj => by
    obtain rfl : i = nf c := by omega
    show wx E H k n 705 [(0, .ref (G.2.2.2 0)), (1, .ref (ad c 0 0)), (2, .ref la), (3, .ref sa), (7, .int (nI (nf c))), (8, .int (nI j)), (9, .int (cF c j 8)), (12, .int (nI (nf c)))] []
    obtain ⟨hRb, ⟨fa, hLa, hfa⟩, ⟨fs, hSa, hfs⟩, hJ, -, ⟨hm1, hg1⟩⟩ := id hW
    have hR := hRb.all
    have hb := hW.bd
    have hI := hJ.2.1
    refine x_iload F dL_law_705 7 rfl ?_
    refine x_iload F dL_law_707 4 rfl ?_
    refine x_icmp_ge F dL_law_709 (tgt := 844) (by decide) (fun _ => ?_) (fun h => absurd (Int32.le_refl _) h)
    exact J
  | r + 1, i, hj => by
    have hif : i < nf c := by omega
    have ih := le_I l G E S0 F hk hn hW hjf hb0 J r (i + 1) (by omega)
    show wx E H k n 705 [(0, .ref (G.2.2.2 0)), (1, .ref (ad c 0 0)), (2, .ref la), (3, .ref sa), (7, .int (nI (nf c))), (8, .int (nI j)), (9, .int (cF c j 8)), (12, .int (nI i))] []
    obtain ⟨hRb, ⟨fa, hLa, hfa⟩, ⟨fs, hSa, hfs⟩, hJ, -, ⟨hm1, hg1⟩⟩ := id hW
    have hR := hRb.all
    have hb := hW.bd
    have hI := hJ.2.1
    have hg := pl_gap hJ hjf hif hb0
    have J838 : wx E H k n 838 [(0, .ref (G.2.2.2 0)), (1, .ref (ad c 0 0)), (2, .ref la), (3, .ref sa), (7, .int (nI (nf c))), (8, .int (nI j)), (9, .int (cF c j 8)), (12, .int (nI i))] [] := by
      refine x_iinc (j := 7) (v := nI (i + 1)) (lv' := [(12, .int (nI (i + 1))), (0, .ref (G.2.2.2 0)), (1, .ref (ad c 0 0)), (2, .ref la), (3, .ref sa), (7, .int (nI (nf c))), (8, .int (nI j)), (9, .int (cF c j 8))]) F dL_law_838 rfl (nI_1 _) (by decide) rfl ?_
      refine x_goto F dL_law_841 (tgt := 705) (by decide) ?_
      exact wx_sub [1, 2, 3, 4, 5, 6, 7, 0] rfl ih
    have J783 : wx E H k n 783 [(0, .ref (G.2.2.2 0)), (1, .ref (ad c 0 0)), (2, .ref la), (3, .ref sa), (7, .int (nI (nf c))), (8, .int (nI j)), (9, .int (cF c j 8)), (12, .int (nI i))] [] := by
      refine x_iload F dL_law_783 7 rfl ?_
      refine x_iload F dL_law_785 5 rfl ?_
      refine x_icmp_eq F dL_law_787 (tgt := 838) (by decide) (fun _ => ?_) (fun hne => ?_)
      · exact wx_sub [0, 1, 2, 3, 4, 5, 6, 7] rfl J838
      · have hne2 : j ≠ i := fun e => hne (by rw [e])
        refine x_aload_n F dL_law_790 1 rfl rfl ?_
        refine x_iload F dL_law_791 7 rfl ?_
        refine x_bipush (v := 6) F rfl dL_law_793 ?_
        refine x_callVp (rest := []) F hR.day rfl (p_X3_flight l G _ c i hif 6 (by decide)) k_L_50 ⟨(Nat.le_of_ble_eq_true rfl), (Nat.le_of_ble_eq_true rfl), rfl, rfl⟩ hk hn dL_law_795 rfl rfl (Nat.le_of_ble_eq_true rfl) hR ?_
        refine wx_i (y := cF c i 9) (fli_6 _ _) ?_
        refine x_if_lt F dL_law_798 (tgt := 838) (by decide) (fun _ => ?_) (fun h9 => ?_)
        · exact wx_sub [0, 1, 2, 3, 4, 5, 6, 7] rfl J838
        · refine x_aload_n F dL_law_801 1 rfl rfl ?_
          refine x_iload F dL_law_802 5 rfl ?_
          refine x_bipush (v := 6) F rfl dL_law_804 ?_
          refine x_callVp (rest := []) F hR.day rfl (p_X3_flight l G _ c j hjf 6 (by decide)) k_L_50 ⟨(Nat.le_of_ble_eq_true rfl), (Nat.le_of_ble_eq_true rfl), rfl, rfl⟩ hk hn dL_law_806 rfl rfl (Nat.le_of_ble_eq_true rfl) hR ?_
          refine wx_i (y := cF c j 9) (fli_6 _ _) ?_
          refine x_if_lt F dL_law_809 (tgt := 838) (by decide) (fun _ => ?_) (fun h9b => ?_)
          · exact wx_sub [0, 1, 2, 3, 4, 5, 6, 7] rfl J838
          · refine x_aload_n F dL_law_812 1 rfl rfl ?_
            refine x_iload F dL_law_813 7 rfl ?_
            refine x_bipush (v := 6) F rfl dL_law_815 ?_
            refine x_callVp (rest := []) F hR.day rfl (p_X3_flight l G _ c i hif 6 (by decide)) k_L_50 ⟨(Nat.le_of_ble_eq_true rfl), (Nat.le_of_ble_eq_true rfl), rfl, rfl⟩ hk hn dL_law_817 rfl rfl (Nat.le_of_ble_eq_true rfl) hR ?_
            refine wx_i (y := cF c i 9) (fli_6 _ _) ?_
            refine x_aload_n F dL_law_820 1 rfl rfl ?_
            refine x_iload F dL_law_821 5 rfl ?_
            refine x_bipush (v := 6) F rfl dL_law_823 ?_
            refine x_callVp (rest := [.int (cF c i 9)]) F hR.day rfl (p_X3_flight l G _ c j hjf 6 (by decide)) k_L_50 ⟨(Nat.le_of_ble_eq_true rfl), (Nat.le_of_ble_eq_true rfl), rfl, rfl⟩ hk hn dL_law_825 rfl rfl (Nat.le_of_ble_eq_true rfl) hR ?_
            refine wx_i (y := cF c j 9) (fli_6 _ _) ?_
            refine x_isub F dL_law_828 ?_
            refine x_mabs F mw_634 mw_635 mw_39 mw_636 (Nat.le_of_ble_eq_true rfl) (Nat.le_of_ble_eq_true rfl) hk hn dL_law_829 ?_
            refine wx_i (y := absI ((cF c i 9) - (cF c j 9))) rfl ?_
            refine x_iconst (v := 2) F rfl dL_law_832 ?_
            refine x_icmp_ge F dL_law_833 (tgt := 838) (by decide) (fun _ => ?_) (fun h1 => absurd (Int32.not_lt.mp (hg.2.2 hne2 h9 h9b)) h1)
            exact wx_sub [0, 1, 2, 3, 4, 5, 6, 7] rfl J838
    have J752 : wx E H k n 752 [(0, .ref (G.2.2.2 0)), (1, .ref (ad c 0 0)), (2, .ref la), (3, .ref sa), (7, .int (nI (nf c))), (8, .int (nI j)), (9, .int (cF c j 8)), (12, .int (nI i))] [] := by
      refine x_aload_n F dL_law_752 1 rfl rfl ?_
      refine x_iload F dL_law_753 7 rfl ?_
      refine x_bipush (v := 6) F rfl dL_law_755 ?_
      refine x_callVp (rest := []) F hR.day rfl (p_X3_flight l G _ c i hif 6 (by decide)) k_L_50 ⟨(Nat.le_of_ble_eq_true rfl), (Nat.le_of_ble_eq_true rfl), rfl, rfl⟩ hk hn dL_law_757 rfl rfl (Nat.le_of_ble_eq_true rfl) hR ?_
      refine wx_i (y := cF c i 9) (fli_6 _ _) ?_
      refine x_if_lt F dL_law_760 (tgt := 783) (by decide) (fun _ => ?_) (fun h9 => ?_)
      · exact wx_sub [0, 1, 2, 3, 4, 5, 6, 7] rfl J783
      · refine x_aload_n F dL_law_763 1 rfl rfl ?_
        refine x_iload F dL_law_764 7 rfl ?_
        refine x_bipush (v := 6) F rfl dL_law_766 ?_
        refine x_callVp (rest := []) F hR.day rfl (p_X3_flight l G _ c i hif 6 (by decide)) k_L_50 ⟨(Nat.le_of_ble_eq_true rfl), (Nat.le_of_ble_eq_true rfl), rfl, rfl⟩ hk hn dL_law_768 rfl rfl (Nat.le_of_ble_eq_true rfl) hR ?_
        refine wx_i (y := cF c i 9) (fli_6 _ _) ?_
        refine x_iload F dL_law_771 6 rfl ?_
        refine x_isub F dL_law_773 ?_
        refine x_mabs F mw_634 mw_635 mw_39 mw_636 (Nat.le_of_ble_eq_true rfl) (Nat.le_of_ble_eq_true rfl) hk hn dL_law_774 ?_
        refine wx_i (y := absI ((cF c i 9) - (cF c j 8))) rfl ?_
        refine x_iconst (v := 2) F rfl dL_law_777 ?_
        refine x_icmp_ge F dL_law_778 (tgt := 783) (by decide) (fun _ => ?_) (fun h1 => absurd (Int32.not_lt.mp (hg.2.1 h9)) h1)
        exact wx_sub [0, 1, 2, 3, 4, 5, 6, 7] rfl J783
    refine x_iload F dL_law_705 7 rfl ?_
    refine x_iload F dL_law_707 4 rfl ?_
    refine x_icmp_ge F dL_law_709 (tgt := 844) (by decide) (fun h1 => absurd h1 (nI_ge hif (by omega))) (fun _ => ?_)
    refine x_aload_n F dL_law_712 1 rfl rfl ?_
    refine x_iload F dL_law_713 7 rfl ?_
    refine x_iconst (v := 5) F rfl dL_law_715 ?_
    refine x_callVp (rest := []) F hR.day rfl (p_X3_flight l G _ c i hif 5 (by decide)) k_L_50 ⟨(Nat.le_of_ble_eq_true rfl), (Nat.le_of_ble_eq_true rfl), rfl, rfl⟩ hk hn dL_law_716 rfl rfl (Nat.le_of_ble_eq_true rfl) hR ?_
    refine wx_i (y := cF c i 8) (fli_5 _ _) ?_
    refine x_iload F dL_law_719 6 rfl ?_
    refine x_isub F dL_law_721 ?_
    refine x_mabs F mw_634 mw_635 mw_39 mw_636 (Nat.le_of_ble_eq_true rfl) (Nat.le_of_ble_eq_true rfl) hk hn dL_law_722 ?_
    refine wx_i (y := absI ((cF c i 8) - (cF c j 8))) rfl ?_
    refine x_istore (lv' := [(13, .int (absI ((cF c i 8) - (cF c j 8)))), (0, .ref (G.2.2.2 0)), (1, .ref (ad c 0 0)), (2, .ref la), (3, .ref sa), (7, .int (nI (nf c))), (8, .int (nI j)), (9, .int (cF c j 8)), (12, .int (nI i))]) F dL_law_725 (by decide) rfl ?_
    refine x_iload F dL_law_727 8 rfl ?_
    refine x_iload F dL_law_729 6 rfl ?_
    refine x_icmp_eq F dL_law_731 (tgt := 752) (by decide) (fun _ => ?_) (fun hne => ?_)
    · exact wx_sub [1, 2, 3, 4, 5, 6, 7, 8] rfl J752
    · have hne2 : j ≠ i := fun e => hne (by rw [e])
      refine x_aload_n F dL_law_734 2 rfl rfl ?_
      refine x_iload F dL_law_735 8 rfl ?_
      refine x_iconst (v := 5) F rfl dL_law_737 ?_
      refine x_callVp (rest := []) F hR.day rfl (p_X3_flight l G _ c i hif 5 (by decide)) k_L_50 ⟨(Nat.le_of_ble_eq_true rfl), (Nat.le_of_ble_eq_true rfl), rfl, rfl⟩ hk hn dL_law_738 rfl rfl (Nat.le_of_ble_eq_true rfl) hR ?_
      refine wx_i (y := cF c i 8) (fli_5 _ _) ?_
      refine x_if_lt F dL_law_741 (tgt := 752) (by decide) (fun _ => ?_) (fun h8 => ?_)
      · exact wx_sub [1, 2, 3, 4, 5, 6, 7, 8] rfl J752
      · refine x_iload F dL_law_744 0 rfl ?_
        refine x_iconst (v := 2) F rfl dL_law_746 ?_
        refine x_icmp_ge F dL_law_747 (tgt := 752) (by decide) (fun _ => ?_) (fun h2 => absurd (Int32.not_lt.mp (hg.1 hne2 h8)) h2)
        exact wx_sub [1, 2, 3, 4, 5, 6, 7, 8] rfl J752
set_option maxHeartbeats 4000000 in
set_option maxRecDepth 100000 in
theorem le_H (l : Launch) (G : GT) (E : WE) (S0 : Heap) (F : fx l room_1 G (fun q => S0.size ≤ q) S0 15 cL_law "GliderDayLaw" E) {la sa : Nat} {c : CS} {k n : Nat} (hk : k ≤ 600086) (hn : n ≤ 7301442) {H : Heap} (hW : WL G S0.size (ad c 0 0) la sa c H) (J : wx E H k n 850 [(0, .ref (G.2.2.2 0)), (1, .ref (ad c 0 0)), (2, .ref la), (3, .ref sa), (7, .int (nI (nf c))), (8, .int (nI (nf c)))] []) : ∀ (r j : Nat), j + r = nf c → wx E H k n 612 [(0, .ref (G.2.2.2 0)), (1, .ref (ad c 0 0)), (2, .ref la), (3, .ref sa), (7, .int (nI (nf c))), (8, .int (nI j))] []
  | 0, j, hj => by
    obtain rfl : j = nf c := by omega
    show wx E H k n 612 [(0, .ref (G.2.2.2 0)), (1, .ref (ad c 0 0)), (2, .ref la), (3, .ref sa), (7, .int (nI (nf c))), (8, .int (nI (nf c)))] []
    obtain ⟨hRb, ⟨fa, hLa, hfa⟩, ⟨fs, hSa, hfs⟩, hJ, -, ⟨hm1, hg1⟩⟩ := id hW
    have hR := hRb.all
    have hb := hW.bd
    have hI := hJ.2.1
    refine x_iload F dL_law_612 5 rfl ?_
    refine x_iload F dL_law_614 4 rfl ?_
    refine x_icmp_ge F dL_law_616 (tgt := 850) (by decide) (fun _ => ?_) (fun h => absurd (Int32.le_refl _) h)
    exact J
  | r + 1, j, hj => by
    have hjf : j < nf c := by omega
    have ih := le_H l G E S0 F hk hn hW J r (j + 1) (by omega)
    show wx E H k n 612 [(0, .ref (G.2.2.2 0)), (1, .ref (ad c 0 0)), (2, .ref la), (3, .ref sa), (7, .int (nI (nf c))), (8, .int (nI j))] []
    obtain ⟨hRb, ⟨fa, hLa, hfa⟩, ⟨fs, hSa, hfs⟩, hJ, -, ⟨hm1, hg1⟩⟩ := id hW
    have hR := hRb.all
    have hb := hW.bd
    have hI := hJ.2.1
    have J844 : wx E H k n 844 [(0, .ref (G.2.2.2 0)), (1, .ref (ad c 0 0)), (2, .ref la), (3, .ref sa), (7, .int (nI (nf c))), (8, .int (nI j))] [] := by
      refine x_iinc (j := 5) (v := nI (j + 1)) (lv' := [(8, .int (nI (j + 1))), (0, .ref (G.2.2.2 0)), (1, .ref (ad c 0 0)), (2, .ref la), (3, .ref sa), (7, .int (nI (nf c)))]) F dL_law_844 rfl (nI_1 _) (by decide) rfl ?_
      refine x_goto F dL_law_847 (tgt := 612) (by decide) ?_
      exact wx_sub [1, 2, 3, 4, 5, 0] rfl ih
    refine x_iload F dL_law_612 5 rfl ?_
    refine x_iload F dL_law_614 4 rfl ?_
    refine x_icmp_ge F dL_law_616 (tgt := 850) (by decide) (fun h1 => absurd h1 (nI_ge hjf (by omega))) (fun _ => ?_)
    refine x_aload_n F dL_law_619 1 rfl rfl ?_
    refine x_iload F dL_law_620 5 rfl ?_
    refine x_iconst (v := 5) F rfl dL_law_622 ?_
    refine x_callVp (rest := []) F hR.day rfl (p_X3_flight l G _ c j hjf 5 (by decide)) k_L_50 ⟨(Nat.le_of_ble_eq_true rfl), (Nat.le_of_ble_eq_true rfl), rfl, rfl⟩ hk hn dL_law_623 rfl rfl (Nat.le_of_ble_eq_true rfl) hR ?_
    refine wx_i (y := cF c j 8) (fli_5 _ _) ?_
    refine x_istore (lv' := [(9, .int (cF c j 8)), (0, .ref (G.2.2.2 0)), (1, .ref (ad c 0 0)), (2, .ref la), (3, .ref sa), (7, .int (nI (nf c))), (8, .int (nI j))]) F dL_law_626 (by decide) rfl ?_
    refine x_iload F dL_law_628 0 rfl ?_
    refine x_if_ge F dL_law_630 (tgt := 636) (by decide) (fun hb0 => ?_) (fun _ => ?_)
    · have hok := pl_ok hJ hjf hb0
      replace hb0 := Int32.not_lt.mpr hb0
      have J702 : wx E H k n 702 [(0, .ref (G.2.2.2 0)), (1, .ref (ad c 0 0)), (2, .ref la), (3, .ref sa), (7, .int (nI (nf c))), (8, .int (nI j)), (9, .int (cF c j 8))] [] := by
        refine x_iconst (v := 0) F rfl dL_law_702 ?_
        refine x_istore (lv' := [(12, .int 0), (0, .ref (G.2.2.2 0)), (1, .ref (ad c 0 0)), (2, .ref la), (3, .ref sa), (7, .int (nI (nf c))), (8, .int (nI j)), (9, .int (cF c j 8))]) F dL_law_703 (by decide) rfl ?_
        refine wx_sub (lv' := [(0, .ref (G.2.2.2 0)), (1, .ref (ad c 0 0)), (2, .ref la), (3, .ref sa), (7, .int (nI (nf c))), (8, .int (nI j)), (9, .int (cF c j 8)), (12, .int (nI 0))]) [1, 2, 3, 4, 5, 6, 7, 0] rfl ?_
        refine le_I l G E S0 F hk hn hW hjf hb0 ?_ (nf c) 0 (by omega)
        exact wx_sub [0, 1, 2, 3, 4, 5] rfl J844
      refine x_aload_n F dL_law_636 2 rfl rfl ?_
      refine x_iload F dL_law_637 6 rfl ?_
      refine x_iconst (v := 2) F rfl dL_law_639 ?_
      refine x_callVp (rest := []) F hR.day rfl (p_X3_flight l G _ c j hjf 2 (by decide)) k_L_50 ⟨(Nat.le_of_ble_eq_true rfl), (Nat.le_of_ble_eq_true rfl), rfl, rfl⟩ hk hn dL_law_640 rfl rfl (Nat.le_of_ble_eq_true rfl) hR ?_
      refine wx_i (y := oI (cR c j).2.1) (fli_2 _ _) ?_
      rcases hq : (cR c j).2.1 with _ | s
      · refine wx_i (y := (-1)) rfl ?_
        have hnT : ¬ s_hasT c j = true := by unfold s_hasT; rw [hq]; exact fun q => by cases q
        refine x_istore (lv' := [(10, .int (-1)), (9, .int (cF c j 8)), (0, .ref (G.2.2.2 0)), (1, .ref (ad c 0 0)), (2, .ref la), (3, .ref sa), (7, .int (nI (nf c))), (8, .int (nI j))]) F dL_law_643 (by decide) rfl ?_
        refine x_iload F dL_law_645 0 rfl ?_
        refine x_if_lt F dL_law_647 (tgt := 662) (by decide) (fun _ => ?_) (fun h2 => absurd (by decide) h2)
        refine x_iconst (v := 0) F rfl dL_law_662 ?_
        refine x_istore (lv' := [(11, .int 0), (10, .int (-1)), (9, .int (cF c j 8)), (0, .ref (G.2.2.2 0)), (1, .ref (ad c 0 0)), (2, .ref la), (3, .ref sa), (7, .int (nI (nf c))), (8, .int (nI j))]) F dL_law_663 (by decide) rfl ?_
        refine x_aload_n F dL_law_665 5 rfl rfl ?_
        refine x_aload_n F dL_law_666 4 rfl rfl ?_
        refine x_iload F dL_law_667 8 rfl ?_
        refine x_iconst (v := 1) F rfl dL_law_669 ?_
        refine x_callVp (rest := [.ref la]) F hR.day rfl (p_X3_flight l G _ c j hjf 1 (by decide)) k_L_50 ⟨(Nat.le_of_ble_eq_true rfl), (Nat.le_of_ble_eq_true rfl), rfl, rfl⟩ hk hn dL_law_670 rfl rfl (Nat.le_of_ble_eq_true rfl) hR ?_
        refine wx_i (y := nI (cR c j).1) (fli_1 _ _) ?_
        refine x_ld F hLa (j := (cR c j).1) (hR.wf.2.1 _ hjf).1 (by omega) dL_law_673 ?_
        refine wx_i (y := cM c ((cR c j).1) 1) (hfa _ (hR.wf.2.1 _ hjf).1) ?_
        refine x_if_ne F dL_law_674 (tgt := 682) (by decide) (fun _ => ?_) (fun h3 => absurd h3 (fun q => hok.1 ⟨q, hnT⟩))
        refine x_iload F dL_law_682 1 rfl ?_
        refine x_if_lt F dL_law_684 (tgt := 702) (by decide) (fun _ => ?_) (fun h4 => absurd (by decide) h4)
        exact wx_sub [3, 4, 5, 6, 7, 8, 2] rfl J702
      · refine wx_i (y := nI s) rfl ?_
        have hs := (hI.2.1.2 j hjf).2.2.1 s hq
        refine x_istore (lv' := [(10, .int (nI s)), (9, .int (cF c j 8)), (0, .ref (G.2.2.2 0)), (1, .ref (ad c 0 0)), (2, .ref la), (3, .ref sa), (7, .int (nI (nf c))), (8, .int (nI j))]) F dL_law_643 (by decide) rfl ?_
        refine x_iload F dL_law_645 0 rfl ?_
        refine x_if_lt F dL_law_647 (tgt := 662) (by decide) (fun h5 => absurd h5 (nI_pos (by omega))) (fun _ => ?_)
        refine x_aload_n F dL_law_650 4 rfl rfl ?_
        refine x_iload F dL_law_651 0 rfl ?_
        refine x_ld F hLa (j := s) hs.1 (by omega) dL_law_653 ?_
        refine wx_i (y := cM c s 1) (hfa _ hs.1) ?_
        refine x_iconst (v := 3) F rfl dL_law_654 ?_
        refine x_icmp_ne F dL_law_655 (tgt := 662) (by decide) (fun h3 => ?_) (fun h3 => ?_)
        · have hnT : ¬ s_hasT c j = true := by unfold s_hasT; rw [hq]; exact fun q => h3 (of_decide_eq_true q)
          refine x_iconst (v := 0) F rfl dL_law_662 ?_
          refine x_istore (lv' := [(11, .int 0), (10, .int (nI s)), (9, .int (cF c j 8)), (0, .ref (G.2.2.2 0)), (1, .ref (ad c 0 0)), (2, .ref la), (3, .ref sa), (7, .int (nI (nf c))), (8, .int (nI j))]) F dL_law_663 (by decide) rfl ?_
          refine x_aload_n F dL_law_665 5 rfl rfl ?_
          refine x_aload_n F dL_law_666 4 rfl rfl ?_
          refine x_iload F dL_law_667 8 rfl ?_
          refine x_iconst (v := 1) F rfl dL_law_669 ?_
          refine x_callVp (rest := [.ref la]) F hR.day rfl (p_X3_flight l G _ c j hjf 1 (by decide)) k_L_50 ⟨(Nat.le_of_ble_eq_true rfl), (Nat.le_of_ble_eq_true rfl), rfl, rfl⟩ hk hn dL_law_670 rfl rfl (Nat.le_of_ble_eq_true rfl) hR ?_
          refine wx_i (y := nI (cR c j).1) (fli_1 _ _) ?_
          refine x_ld F hLa (j := (cR c j).1) (hR.wf.2.1 _ hjf).1 (by omega) dL_law_673 ?_
          refine wx_i (y := cM c ((cR c j).1) 1) (hfa _ (hR.wf.2.1 _ hjf).1) ?_
          refine x_if_ne F dL_law_674 (tgt := 682) (by decide) (fun _ => ?_) (fun h6 => absurd h6 (fun q => hok.1 ⟨q, hnT⟩))
          refine x_iload F dL_law_682 1 rfl ?_
          refine x_if_lt F dL_law_684 (tgt := 702) (by decide) (fun h7 => absurd h7 (nI_pos (by omega))) (fun _ => ?_)
          refine x_aload_n F dL_law_687 6 rfl rfl ?_
          refine x_aload_n F dL_law_688 4 rfl rfl ?_
          refine x_iload F dL_law_689 8 rfl ?_
          refine x_iconst (v := 3) F rfl dL_law_691 ?_
          refine x_callVp (rest := [.ref sa]) F hR.day rfl (p_X3_flight l G _ c j hjf 3 (by decide)) k_L_50 ⟨(Nat.le_of_ble_eq_true rfl), (Nat.le_of_ble_eq_true rfl), rfl, rfl⟩ hk hn dL_law_692 rfl rfl (Nat.le_of_ble_eq_true rfl) hR ?_
          refine wx_i (y := nI (cR c j).2.2) (fli_3 _ _) ?_
          refine x_ld F hSa (j := (cR c j).2.2) (hR.wf.2.1 _ hjf).2.1 (by omega) dL_law_695 ?_
          refine wx_i (y := cG c ((cR c j).2.2) 1) (hfs _ (hR.wf.2.1 _ hjf).2.1) ?_
          refine x_iconst (v := 1) F rfl dL_law_696 ?_
          refine x_icmp_ne F dL_law_697 (tgt := 702) (by decide) (fun _ => ?_) (fun h8 => absurd h8 (hok.2 (by rw [hq]; exact fun q => by cases q)))
          exact wx_sub [3, 4, 5, 6, 7, 8, 2] rfl J702
        · refine x_iconst (v := 1) F rfl dL_law_658 ?_
          refine x_goto F dL_law_659 (tgt := 663) (by decide) ?_
          refine x_istore (lv' := [(11, .int 1), (10, .int (nI s)), (9, .int (cF c j 8)), (0, .ref (G.2.2.2 0)), (1, .ref (ad c 0 0)), (2, .ref la), (3, .ref sa), (7, .int (nI (nf c))), (8, .int (nI j))]) F dL_law_663 (by decide) rfl ?_
          refine x_aload_n F dL_law_665 5 rfl rfl ?_
          refine x_aload_n F dL_law_666 4 rfl rfl ?_
          refine x_iload F dL_law_667 8 rfl ?_
          refine x_iconst (v := 1) F rfl dL_law_669 ?_
          refine x_callVp (rest := [.ref la]) F hR.day rfl (p_X3_flight l G _ c j hjf 1 (by decide)) k_L_50 ⟨(Nat.le_of_ble_eq_true rfl), (Nat.le_of_ble_eq_true rfl), rfl, rfl⟩ hk hn dL_law_670 rfl rfl (Nat.le_of_ble_eq_true rfl) hR ?_
          refine wx_i (y := nI (cR c j).1) (fli_1 _ _) ?_
          refine x_ld F hLa (j := (cR c j).1) (hR.wf.2.1 _ hjf).1 (by omega) dL_law_673 ?_
          refine wx_i (y := cM c ((cR c j).1) 1) (hfa _ (hR.wf.2.1 _ hjf).1) ?_
          refine x_if_ne F dL_law_674 (tgt := 682) (by decide) (fun _ => ?_) (fun _ => ?_)
          · refine x_iload F dL_law_682 1 rfl ?_
            refine x_if_lt F dL_law_684 (tgt := 702) (by decide) (fun h9 => absurd h9 (nI_pos (by omega))) (fun _ => ?_)
            refine x_aload_n F dL_law_687 6 rfl rfl ?_
            refine x_aload_n F dL_law_688 4 rfl rfl ?_
            refine x_iload F dL_law_689 8 rfl ?_
            refine x_iconst (v := 3) F rfl dL_law_691 ?_
            refine x_callVp (rest := [.ref sa]) F hR.day rfl (p_X3_flight l G _ c j hjf 3 (by decide)) k_L_50 ⟨(Nat.le_of_ble_eq_true rfl), (Nat.le_of_ble_eq_true rfl), rfl, rfl⟩ hk hn dL_law_692 rfl rfl (Nat.le_of_ble_eq_true rfl) hR ?_
            refine wx_i (y := nI (cR c j).2.2) (fli_3 _ _) ?_
            refine x_ld F hSa (j := (cR c j).2.2) (hR.wf.2.1 _ hjf).2.1 (by omega) dL_law_695 ?_
            refine wx_i (y := cG c ((cR c j).2.2) 1) (hfs _ (hR.wf.2.1 _ hjf).2.1) ?_
            refine x_iconst (v := 1) F rfl dL_law_696 ?_
            refine x_icmp_ne F dL_law_697 (tgt := 702) (by decide) (fun _ => ?_) (fun h10 => absurd h10 (hok.2 (by rw [hq]; exact fun q => by cases q)))
            exact wx_sub [3, 4, 5, 6, 7, 8, 2] rfl J702
          · refine x_iload F dL_law_677 0 rfl ?_
            refine x_if_eq F dL_law_679 (tgt := 700) (by decide) (fun h11 => absurd h11 (by decide)) (fun _ => ?_)
            refine x_iload F dL_law_682 1 rfl ?_
            refine x_if_lt F dL_law_684 (tgt := 702) (by decide) (fun h12 => absurd h12 (nI_pos (by omega))) (fun _ => ?_)
            refine x_aload_n F dL_law_687 6 rfl rfl ?_
            refine x_aload_n F dL_law_688 4 rfl rfl ?_
            refine x_iload F dL_law_689 8 rfl ?_
            refine x_iconst (v := 3) F rfl dL_law_691 ?_
            refine x_callVp (rest := [.ref sa]) F hR.day rfl (p_X3_flight l G _ c j hjf 3 (by decide)) k_L_50 ⟨(Nat.le_of_ble_eq_true rfl), (Nat.le_of_ble_eq_true rfl), rfl, rfl⟩ hk hn dL_law_692 rfl rfl (Nat.le_of_ble_eq_true rfl) hR ?_
            refine wx_i (y := nI (cR c j).2.2) (fli_3 _ _) ?_
            refine x_ld F hSa (j := (cR c j).2.2) (hR.wf.2.1 _ hjf).2.1 (by omega) dL_law_695 ?_
            refine wx_i (y := cG c ((cR c j).2.2) 1) (hfs _ (hR.wf.2.1 _ hjf).2.1) ?_
            refine x_iconst (v := 1) F rfl dL_law_696 ?_
            refine x_icmp_ne F dL_law_697 (tgt := 702) (by decide) (fun _ => ?_) (fun h13 => absurd h13 (hok.2 (by rw [hq]; exact fun q => by cases q)))
            exact wx_sub [3, 4, 5, 6, 7, 8, 2] rfl J702
    · refine x_goto F dL_law_633 (tgt := 844) (by decide) ?_
      exact wx_sub [1, 2, 3, 4, 5, 6] rfl J844
set_option maxHeartbeats 4000000 in
set_option maxRecDepth 100000 in
theorem le_Z (l : Launch) (G : GT) (E : WE) (S0 : Heap) (F : fx l room_1 G (fun q => S0.size ≤ q) S0 15 cL_law "GliderDayLaw" E) {la sa : Nat} {c : CS} {k n : Nat} (hk : k ≤ 600086) (hn : n ≤ 7301442) {H : Heap} (hW : WL G S0.size (ad c 0 0) la sa c H) (hEnd : ∀ (H : Heap) (k n : Nat) (lv : List (Nat × Value)), k ≤ 600086 → n ≤ 7301442 → wx E H k n 881 lv [.int 1]) : wx E H k n 561 [(0, .ref (G.2.2.2 0)), (1, .ref (ad c 0 0)), (2, .ref la), (3, .ref sa)] [] := by
  show wx E H k n 561 [(0, .ref (G.2.2.2 0)), (1, .ref (ad c 0 0)), (2, .ref la), (3, .ref sa)] []
  obtain ⟨hRb, ⟨fa, hLa, hfa⟩, ⟨fs, hSa, hfs⟩, hJ, -, ⟨hm1, hg1⟩⟩ := id hW
  have hR := hRb.all
  have hb := hW.bd
  have hI := hJ.2.1
  refine x_iconst (v := 0) F rfl dL_law_561 ?_
  refine x_istore (lv' := [(6, .int 0), (0, .ref (G.2.2.2 0)), (1, .ref (ad c 0 0)), (2, .ref la), (3, .ref sa)]) F dL_law_562 (by decide) rfl ?_
  refine x_iconst (v := 0) F rfl dL_law_564 ?_
  refine x_istore (lv' := [(7, .int 0), (6, .int 0), (0, .ref (G.2.2.2 0)), (1, .ref (ad c 0 0)), (2, .ref la), (3, .ref sa)]) F dL_law_565 (by decide) rfl ?_
  refine wx_sub (lv' := [(0, .ref (G.2.2.2 0)), (1, .ref (ad c 0 0)), (2, .ref la), (3, .ref sa), (6, .int 0), (7, .int 0)]) [2, 3, 4, 5, 1, 0] rfl ?_
  refine wx_lv (lv' := [(0, .ref (G.2.2.2 0)), (1, .ref (ad c 0 0)), (2, .ref la), (3, .ref sa), (6, .int (sumN 0 (fun i => cM c i 7))), (7, .int (nI 0))]) (by rfl) ?_
  refine le_G l G E S0 F hk hn hW ?_ (nm c) 0 (by omega)
  refine x_iload F dL_law_591 4 rfl ?_
  refine x_aload_n F dL_law_593 1 rfl rfl ?_
  refine x_callVp (rest := [.int (sumN (nm c) (fun i => cM c i 7))]) F hR.day rfl (c_X3_income l G _ c) k_L_62 ⟨(Nat.le_of_ble_eq_true rfl), (Nat.le_of_ble_eq_true rfl), rfl, rfl⟩ hk hn dL_law_594 rfl rfl (Nat.le_of_ble_eq_true rfl) hR ?_
  refine x_icmp_eq F dL_law_597 (tgt := 602) (by decide) (fun _ => ?_) (fun h1 => absurd (hJ.1.2.2.2) h1)
  refine x_aload_n F dL_law_602 1 rfl rfl ?_
  refine x_iconst (v := 2) F rfl dL_law_603 ?_
  refine x_callVp (rest := []) F hR.day rfl (p_X3_count l G _ c 2 (by decide)) k_L_37 ⟨(Nat.le_of_ble_eq_true rfl), (Nat.le_of_ble_eq_true rfl), rfl, rfl⟩ hk hn dL_law_604 rfl rfl (Nat.le_of_ble_eq_true rfl) hR ?_
  refine wx_i (y := nI (nf c)) (cnt_2 _) ?_
  refine x_istore (lv' := [(7, .int (nI (nf c))), (0, .ref (G.2.2.2 0)), (1, .ref (ad c 0 0)), (2, .ref la), (3, .ref sa), (6, .int (sumN (nm c) (fun i => cM c i 7)))]) F dL_law_607 (by decide) rfl ?_
  refine x_iconst (v := 0) F rfl dL_law_609 ?_
  refine x_istore (lv' := [(8, .int 0), (7, .int (nI (nf c))), (0, .ref (G.2.2.2 0)), (1, .ref (ad c 0 0)), (2, .ref la), (3, .ref sa), (6, .int (sumN (nm c) (fun i => cM c i 7)))]) F dL_law_610 (by decide) rfl ?_
  refine wx_sub (lv' := [(0, .ref (G.2.2.2 0)), (1, .ref (ad c 0 0)), (2, .ref la), (3, .ref sa), (7, .int (nI (nf c))), (8, .int 0)]) [2, 3, 4, 5, 1, 0] rfl ?_
  refine wx_lv (lv' := [(0, .ref (G.2.2.2 0)), (1, .ref (ad c 0 0)), (2, .ref la), (3, .ref sa), (7, .int (nI (nf c))), (8, .int (nI 0))]) (by rfl) ?_
  refine le_H l G E S0 F hk hn hW ?_ (nf c) 0 (by omega)
  refine x_aload_n F dL_law_850 1 rfl rfl ?_
  refine x_callVp (rest := []) F hR.day rfl (c_X3_waited l G _ c) k_L_71 ⟨(Nat.le_of_ble_eq_true rfl), (Nat.le_of_ble_eq_true rfl), rfl, rfl⟩ hk hn dL_law_851 rfl rfl (Nat.le_of_ble_eq_true rfl) hR ?_
  refine x_aload_n F dL_law_854 1 rfl rfl ?_
  refine x_iconst (v := 4) F rfl dL_law_855 ?_
  refine x_callVp (rest := [.double (s_wai c)]) F hR.day rfl (p_X3_count l G _ c 4 (by decide)) k_L_37 ⟨(Nat.le_of_ble_eq_true rfl), (Nat.le_of_ble_eq_true rfl), rfl, rfl⟩ hk hn dL_law_856 rfl rfl (Nat.le_of_ble_eq_true rfl) hR ?_
  refine x_aload_n F dL_law_859 1 rfl rfl ?_
  refine x_callVp (rest := [.int (s_cnt c 4), .double (s_wai c)]) F hR.day rfl (c_X3_income l G _ c) k_L_62 ⟨(Nat.le_of_ble_eq_true rfl), (Nat.le_of_ble_eq_true rfl), rfl, rfl⟩ hk hn dL_law_860 rfl rfl (Nat.le_of_ble_eq_true rfl) hR ?_
  refine x_iadd F dL_law_863 ?_
  refine x_if_le F dL_law_864 (tgt := 871) (by decide) (fun hp => ?_) (fun hp => ?_)
  · refine x_dconst0 F dL_law_871 ?_
    refine x_dcmp F dL_law_872 ?_
    refine x_if_lt F dL_law_873 (tgt := 880) (by decide) (fun h2 => absurd h2 (pl_w0 hJ)) (fun _ => ?_)
    refine x_iconst (v := 1) F rfl dL_law_876 ?_
    refine x_goto F dL_law_877 (tgt := 881) (by decide) ?_
    exact hEnd H k n _ hk hn
  · refine x_dconst1 F dL_law_867 ?_
    refine x_goto F dL_law_868 (tgt := 872) (by decide) ?_
    refine x_dcmp F dL_law_872 ?_
    refine x_if_lt F dL_law_873 (tgt := 880) (by decide) (fun h3 => absurd h3 (pl_w1 hJ hp)) (fun _ => ?_)
    refine x_iconst (v := 1) F rfl dL_law_876 ?_
    refine x_goto F dL_law_877 (tgt := 881) (by decide) ?_
    exact hEnd H k n _ hk hn
end LE_
