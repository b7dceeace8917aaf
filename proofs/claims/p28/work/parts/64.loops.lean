/-! the law's inner loops: flights, members, gliders, counts -/
section LC
theorem k_L_37 : cwV_ "GliderDayLaw" 37 "GliderDay" yX3_count cX3_count 2 (some .int) 1 := ⟨mw_513, mw_514, mw_515, mw_28, mw_516, ⟨by decide +kernel, by decide +kernel, by decide +kernel⟩⟩
theorem k_L_50 : cwV_ "GliderDayLaw" 50 "GliderDay" yX3_flight cX3_flight 4 (some .int) 2 := ⟨mw_501, mw_502, mw_503, mw_28, mw_504, ⟨by decide +kernel, by decide +kernel, by decide +kernel⟩⟩
theorem k_L_53 : cwV_ "GliderDayLaw" 53 "GliderDay" yX3_glider cX3_glider 4 (some .int) 2 := ⟨mw_273, mw_274, mw_275, mw_28, mw_276, ⟨by decide +kernel, by decide +kernel, by decide +kernel⟩⟩
theorem k_L_56 : cwV_ "GliderDayLaw" 56 "GliderDay" yX3_member cX3_member 4 (some .int) 2 := ⟨mw_226, mw_227, mw_228, mw_28, mw_229, ⟨by decide +kernel, by decide +kernel, by decide +kernel⟩⟩
set_option maxHeartbeats 4000000 in
set_option maxRecDepth 100000 in
theorem lw_C (l : Launch) (G : GT) (E : WE) (S0 : Heap) (F : fx l room_1 G (fun q => S0.size ≤ q) S0 15 cL_law "GliderDayLaw" E) {la sa fl ow t : Nat} {c : CS} {k n : Nat} (hk : k ≤ 600086) (hn : n ≤ 7301442) (J : ∀ H1 : Heap, WI G S0.size (ad c 0 0) la sa fl ow c (sF1 c (nf c)) (sG1 c (nf c)) H1 → wx E H1 k n 393 [(0, .ref (G.2.2.2 0)), (1, .ref (ad c 0 0)), (2, .ref la), (3, .ref sa), (6, .int (nI t)), (10, .ref fl), (11, .ref ow), (12, .int (sA1 c (nf c))), (13, .int 0), (14, .int (nI (nf c)))] []) : ∀ (r j : Nat) (H : Heap), WI G S0.size (ad c 0 0) la sa fl ow c (sF1 c j) (sG1 c j) H → j + r = nf c → wx E H k n 274 [(0, .ref (G.2.2.2 0)), (1, .ref (ad c 0 0)), (2, .ref la), (3, .ref sa), (6, .int (nI t)), (10, .ref fl), (11, .ref ow), (12, .int (sA1 c j)), (13, .int 0), (14, .int (nI j))] []
  | 0, j, H, hW, hj => by
    obtain rfl : j = nf c := by omega
    show wx E H k n 274 [(0, .ref (G.2.2.2 0)), (1, .ref (ad c 0 0)), (2, .ref la), (3, .ref sa), (6, .int (nI t)), (10, .ref fl), (11, .ref ow), (12, .int (sA1 c (nf c))), (13, .int 0), (14, .int (nI (nf c)))] []
    obtain ⟨hRb, ⟨fa, hLa, hfa⟩, ⟨fs, hSa, hfs⟩, hJ, -, ⟨hm1, hg1⟩, hFl, hOw, hne, hzf, hzo⟩ := id hW
    have hR := hRb.all
    have hb := hW.bd
    refine x_iload F dL_law_274 9 rfl ?_
    refine x_aload_n F dL_law_276 1 rfl rfl ?_
    refine x_iconst (v := 2) F rfl dL_law_277 ?_
    refine x_callVp (rest := [.int (nI (nf c))]) F hR.day rfl (p_X3_count l G _ c 2 (by decide)) k_L_37 ⟨(Nat.le_of_ble_eq_true rfl), (Nat.le_of_ble_eq_true rfl), rfl, rfl⟩ hk hn dL_law_278 rfl rfl (Nat.le_of_ble_eq_true rfl) hR ?_
    refine wx_i (y := nI (nf c)) (cnt_2 _) ?_
    refine x_icmp_ge F dL_law_281 (tgt := 393) (by decide) (fun _ => ?_) (fun h => absurd (Int32.le_refl _) h)
    exact J H hW
  | r + 1, j, H, hW, hj => by
    have hjf : j < nf c := by omega
    have ih := lw_C l G E S0 F hk hn J r (j + 1)
    show wx E H k n 274 [(0, .ref (G.2.2.2 0)), (1, .ref (ad c 0 0)), (2, .ref la), (3, .ref sa), (6, .int (nI t)), (10, .ref fl), (11, .ref ow), (12, .int (sA1 c j)), (13, .int 0), (14, .int (nI j))] []
    obtain ⟨hRb, ⟨fa, hLa, hfa⟩, ⟨fs, hSa, hfs⟩, hJ, -, ⟨hm1, hg1⟩, hFl, hOw, hne, hzf, hzo⟩ := id hW
    have hR := hRb.all
    have hb := hW.bd
    have hI := hJ.2.1
    refine x_iload F dL_law_274 9 rfl ?_
    refine x_aload_n F dL_law_276 1 rfl rfl ?_
    refine x_iconst (v := 2) F rfl dL_law_277 ?_
    refine x_callVp (rest := [.int (nI j)]) F hR.day rfl (p_X3_count l G _ c 2 (by decide)) k_L_37 ⟨(Nat.le_of_ble_eq_true rfl), (Nat.le_of_ble_eq_true rfl), rfl, rfl⟩ hk hn dL_law_278 rfl rfl (Nat.le_of_ble_eq_true rfl) hR ?_
    refine wx_i (y := nI (nf c)) (cnt_2 _) ?_
    refine x_icmp_ge F dL_law_281 (tgt := 393) (by decide) (fun h1 => absurd h1 (nI_ge hjf (by omega))) (fun _ => ?_)
    refine x_aload_n F dL_law_284 1 rfl rfl ?_
    refine x_iload F dL_law_285 9 rfl ?_
    refine x_iconst (v := 0) F rfl dL_law_287 ?_
    refine x_callVp (rest := []) F hR.day rfl (p_X3_flight l G _ c j hjf 0 (by decide)) k_L_50 ⟨(Nat.le_of_ble_eq_true rfl), (Nat.le_of_ble_eq_true rfl), rfl, rfl⟩ hk hn dL_law_288 rfl rfl (Nat.le_of_ble_eq_true rfl) hR ?_
    refine wx_i (y := cF c j 6) (fli_0 _ _) ?_
    refine x_iconst (v := 1) F rfl dL_law_291 ?_
    refine x_icmp_eq F dL_law_292 (tgt := 298) (by decide) (fun h1 => ?_) (fun h1 => ?_)
    · refine x_iinc (j := 7) (v := sA1 c (j + 1)) (lv' := [(12, .int (sA1 c (j + 1))), (0, .ref (G.2.2.2 0)), (1, .ref (ad c 0 0)), (2, .ref la), (3, .ref sa), (6, .int (nI t)), (10, .ref fl), (11, .ref ow), (13, .int 0), (14, .int (nI j))]) F dL_law_298 rfl (sA1_1 h1) (by decide) rfl ?_
      refine x_aload F dL_law_301 6 rfl ?_
      refine x_aload_n F dL_law_303 2 rfl rfl ?_
      refine x_iload F dL_law_304 9 rfl ?_
      refine x_iconst (v := 1) F rfl dL_law_306 ?_
      refine x_callVp (rest := [.ref fl]) F hR.day rfl (p_X3_flight l G _ c j hjf 1 (by decide)) k_L_50 ⟨(Nat.le_of_ble_eq_true rfl), (Nat.le_of_ble_eq_true rfl), rfl, rfl⟩ hk hn dL_law_307 rfl rfl (Nat.le_of_ble_eq_true rfl) hR ?_
      refine wx_i (y := nI (cR c j).1) (fli_1 _ _) ?_
      refine x_dup2_11 F dL_law_310 rfl rfl ?_
      refine x_ld F hFl (j := (cR c j).1) (by have := (hR.wf.2.1 _ hjf).1; omega) (by decide) dL_law_311 ?_
      refine x_iconst (v := 1) F rfl dL_law_312 ?_
      refine x_iadd F dL_law_313 ?_
      refine x_st F hFl hzf (j := (cR c j).1) (by have := (hR.wf.2.1 _ hjf).1; omega) (by decide) dL_law_314 (fun H1 v1 s1 => ?_)
      have hW1 := hW.setF s1 v1
      obtain ⟨hRb1, ⟨fa1, hLa1, hfa1⟩, ⟨fs1, hSa1, hfs1⟩, hJ1, -, ⟨hm11, hg11⟩, hFl1, hOw1, hne1, hzf1, hzo1⟩ := id hW1
      have hR1 := hRb1.all
      refine x_aload_n F dL_law_315 2 rfl rfl ?_
      refine x_iload F dL_law_316 9 rfl ?_
      refine x_iconst (v := 2) F rfl dL_law_318 ?_
      refine x_callVp (rest := []) F hR1.day rfl (p_X3_flight l G _ c j hjf 2 (by decide)) k_L_50 ⟨(Nat.le_of_ble_eq_true rfl), (Nat.le_of_ble_eq_true rfl), rfl, rfl⟩ hk hn dL_law_319 rfl rfl (Nat.le_of_ble_eq_true rfl) hR1 ?_
      refine wx_i (y := oI (cR c j).2.1) (fli_2 _ _) ?_
      rcases hq : (cR c j).2.1 with _ | s
      · refine wx_i (y := (-1)) rfl ?_
        refine x_if_lt F dL_law_322 (tgt := 339) (by decide) (fun _ => ?_) (fun h => absurd (show (-1 : Int32) < 0 by decide) h)
        refine x_aload F dL_law_339 7 rfl ?_
        refine x_aload_n F dL_law_341 2 rfl rfl ?_
        refine x_iload F dL_law_342 9 rfl ?_
        refine x_iconst (v := 3) F rfl dL_law_344 ?_
        refine x_callVp (rest := [.ref ow]) F hR1.day rfl (p_X3_flight l G _ c j hjf 3 (by decide)) k_L_50 ⟨(Nat.le_of_ble_eq_true rfl), (Nat.le_of_ble_eq_true rfl), rfl, rfl⟩ hk hn dL_law_345 rfl rfl (Nat.le_of_ble_eq_true rfl) hR1 ?_
        refine wx_i (y := nI (cR c j).2.2) (fli_3 _ _) ?_
        refine x_dup2_11 F dL_law_348 rfl rfl ?_
        refine x_ld F hOw1 (j := (cR c j).2.2) (by have := (hR1.wf.2.1 _ hjf).2.1; omega) (by decide) dL_law_349 ?_
        refine x_iconst (v := 1) F rfl dL_law_350 ?_
        refine x_iadd F dL_law_351 ?_
        refine x_st F hOw1 hzo (j := (cR c j).2.2) (by have := (hR1.wf.2.1 _ hjf).2.1; omega) (by decide) dL_law_352 (fun H2 v2 s2 => ?_)
        have hW2 := hW1.setO s2 v2
        obtain ⟨hRb2, ⟨fa2, hLa2, hfa2⟩, ⟨fs2, hSa2, hfs2⟩, hJ2, -, ⟨hm12, hg12⟩, hFl2, hOw2, hne2, hzf2, hzo2⟩ := id hW2
        have hR2 := hRb2.all
        refine x_aload_n F dL_law_353 2 rfl rfl ?_
        refine x_aload_n F dL_law_354 2 rfl rfl ?_
        refine x_iload F dL_law_355 9 rfl ?_
        refine x_iconst (v := 3) F rfl dL_law_357 ?_
        refine x_callVp (rest := [.ref (ad c 0 0)]) F hR2.day rfl (p_X3_flight l G _ c j hjf 3 (by decide)) k_L_50 ⟨(Nat.le_of_ble_eq_true rfl), (Nat.le_of_ble_eq_true rfl), rfl, rfl⟩ hk hn dL_law_358 rfl rfl (Nat.le_of_ble_eq_true rfl) hR2 ?_
        refine wx_i (y := nI (cR c j).2.2) (fli_3 _ _) ?_
        refine x_iconst (v := 4) F rfl dL_law_361 ?_
        refine x_callVp (rest := []) F hR2.day rfl (p_X3_glider l G _ c ((cR c j).2.2) (hR2.wf.2.1 _ hjf).2.1 4 (by decide)) k_L_53 ⟨(Nat.le_of_ble_eq_true rfl), (Nat.le_of_ble_eq_true rfl), rfl, rfl⟩ hk hn dL_law_362 rfl rfl (Nat.le_of_ble_eq_true rfl) hR2 ?_
        refine x_iload F dL_law_365 9 rfl ?_
        refine wx_st (st' := [.int (nI j), .int (nI j)]) (by rw [pl_glider4 hI hjf h1]) ?_
        refine x_icmp_ne F dL_law_367 (tgt := 385) (by decide) (fun h2 => absurd (rfl) h2) (fun _ => ?_)
        refine x_aload_n F dL_law_370 2 rfl rfl ?_
        refine x_aload_n F dL_law_371 2 rfl rfl ?_
        refine x_iload F dL_law_372 9 rfl ?_
        refine x_iconst (v := 3) F rfl dL_law_374 ?_
        refine x_callVp (rest := [.ref (ad c 0 0)]) F hR2.day rfl (p_X3_flight l G _ c j hjf 3 (by decide)) k_L_50 ⟨(Nat.le_of_ble_eq_true rfl), (Nat.le_of_ble_eq_true rfl), rfl, rfl⟩ hk hn dL_law_375 rfl rfl (Nat.le_of_ble_eq_true rfl) hR2 ?_
        refine wx_i (y := nI (cR c j).2.2) (fli_3 _ _) ?_
        refine x_iconst (v := 0) F rfl dL_law_378 ?_
        refine x_callVp (rest := []) F hR2.day rfl (p_X3_glider l G _ c ((cR c j).2.2) (hR2.wf.2.1 _ hjf).2.1 0 (by decide)) k_L_53 ⟨(Nat.le_of_ble_eq_true rfl), (Nat.le_of_ble_eq_true rfl), rfl, rfl⟩ hk hn dL_law_379 rfl rfl (Nat.le_of_ble_eq_true rfl) hR2 ?_
        refine x_if_ne F dL_law_382 (tgt := 387) (by decide) (fun _ => ?_) (fun h3 => absurd h3 (pl_glider0 hI hjf h1))
        refine x_iinc (j := 9) (v := nI (j + 1)) (lv' := [(14, .int (nI (j + 1))), (12, .int (sA1 c (j + 1))), (0, .ref (G.2.2.2 0)), (1, .ref (ad c 0 0)), (2, .ref la), (3, .ref sa), (6, .int (nI t)), (10, .ref fl), (11, .ref ow), (13, .int 0)]) F dL_law_387 rfl (nI_1 _) (by decide) rfl ?_
        refine x_goto F dL_law_390 (tgt := 274) (by decide) ?_
        refine wx_sub (lv' := [(0, .ref (G.2.2.2 0)), (1, .ref (ad c 0 0)), (2, .ref la), (3, .ref sa), (6, .int (nI t)), (10, .ref fl), (11, .ref ow), (12, .int (sA1 c (j + 1))), (13, .int 0), (14, .int (nI (j + 1)))]) [2, 3, 4, 5, 6, 7, 8, 1, 9, 0] rfl ?_
        exact ih H2 (by rw [sF1_1 h1 hq, sG1_1 h1]; exact hW2) (by omega)
      · refine wx_i (y := nI s) rfl ?_
        have hs := (hI.2.1.2 j hjf).2.2.1 s hq
        refine x_if_lt F dL_law_322 (tgt := 339) (by decide) (fun h => absurd h (nI_pos (by omega))) (fun _ => ?_)
        refine x_aload F dL_law_325 6 rfl ?_
        refine x_aload_n F dL_law_327 2 rfl rfl ?_
        refine x_iload F dL_law_328 9 rfl ?_
        refine x_iconst (v := 2) F rfl dL_law_330 ?_
        refine x_callVp (rest := [.ref fl]) F hR1.day rfl (p_X3_flight l G _ c j hjf 2 (by decide)) k_L_50 ⟨(Nat.le_of_ble_eq_true rfl), (Nat.le_of_ble_eq_true rfl), rfl, rfl⟩ hk hn dL_law_331 rfl rfl (Nat.le_of_ble_eq_true rfl) hR1 ?_
        refine wx_i (y := nI s) (by rw [fli_2, hq]; rfl) ?_
        refine x_dup2_11 F dL_law_334 rfl rfl ?_
        refine x_ld F hFl1 (j := s) (by have := hs.1; omega) (by decide) dL_law_335 ?_
        refine x_iconst (v := 1) F rfl dL_law_336 ?_
        refine x_iadd F dL_law_337 ?_
        refine x_st F hFl1 hzf (j := s) (by have := hs.1; omega) (by decide) dL_law_338 (fun H7 v7 s7 => ?_)
        have hW7 := hW1.setF s7 v7
        obtain ⟨hRb7, ⟨fa7, hLa7, hfa7⟩, ⟨fs7, hSa7, hfs7⟩, hJ7, -, ⟨hm17, hg17⟩, hFl7, hOw7, hne7, hzf7, hzo7⟩ := id hW7
        have hR7 := hRb7.all
        refine x_aload F dL_law_339 7 rfl ?_
        refine x_aload_n F dL_law_341 2 rfl rfl ?_
        refine x_iload F dL_law_342 9 rfl ?_
        refine x_iconst (v := 3) F rfl dL_law_344 ?_
        refine x_callVp (rest := [.ref ow]) F hR7.day rfl (p_X3_flight l G _ c j hjf 3 (by decide)) k_L_50 ⟨(Nat.le_of_ble_eq_true rfl), (Nat.le_of_ble_eq_true rfl), rfl, rfl⟩ hk hn dL_law_345 rfl rfl (Nat.le_of_ble_eq_true rfl) hR7 ?_
        refine wx_i (y := nI (cR c j).2.2) (fli_3 _ _) ?_
        refine x_dup2_11 F dL_law_348 rfl rfl ?_
        refine x_ld F hOw7 (j := (cR c j).2.2) (by have := (hR7.wf.2.1 _ hjf).2.1; omega) (by decide) dL_law_349 ?_
        refine x_iconst (v := 1) F rfl dL_law_350 ?_
        refine x_iadd F dL_law_351 ?_
        refine x_st F hOw7 hzo (j := (cR c j).2.2) (by have := (hR7.wf.2.1 _ hjf).2.1; omega) (by decide) dL_law_352 (fun H8 v8 s8 => ?_)
        have hW8 := hW7.setO s8 v8
        obtain ⟨hRb8, ⟨fa8, hLa8, hfa8⟩, ⟨fs8, hSa8, hfs8⟩, hJ8, -, ⟨hm18, hg18⟩, hFl8, hOw8, hne8, hzf8, hzo8⟩ := id hW8
        have hR8 := hRb8.all
        refine x_aload_n F dL_law_353 2 rfl rfl ?_
        refine x_aload_n F dL_law_354 2 rfl rfl ?_
        refine x_iload F dL_law_355 9 rfl ?_
        refine x_iconst (v := 3) F rfl dL_law_357 ?_
        refine x_callVp (rest := [.ref (ad c 0 0)]) F hR8.day rfl (p_X3_flight l G _ c j hjf 3 (by decide)) k_L_50 ⟨(Nat.le_of_ble_eq_true rfl), (Nat.le_of_ble_eq_true rfl), rfl, rfl⟩ hk hn dL_law_358 rfl rfl (Nat.le_of_ble_eq_true rfl) hR8 ?_
        refine wx_i (y := nI (cR c j).2.2) (fli_3 _ _) ?_
        refine x_iconst (v := 4) F rfl dL_law_361 ?_
        refine x_callVp (rest := []) F hR8.day rfl (p_X3_glider l G _ c ((cR c j).2.2) (hR8.wf.2.1 _ hjf).2.1 4 (by decide)) k_L_53 ⟨(Nat.le_of_ble_eq_true rfl), (Nat.le_of_ble_eq_true rfl), rfl, rfl⟩ hk hn dL_law_362 rfl rfl (Nat.le_of_ble_eq_true rfl) hR8 ?_
        refine x_iload F dL_law_365 9 rfl ?_
        refine wx_st (st' := [.int (nI j), .int (nI j)]) (by rw [pl_glider4 hI hjf h1]) ?_
        refine x_icmp_ne F dL_law_367 (tgt := 385) (by decide) (fun h4 => absurd (rfl) h4) (fun _ => ?_)
        refine x_aload_n F dL_law_370 2 rfl rfl ?_
        refine x_aload_n F dL_law_371 2 rfl rfl ?_
        refine x_iload F dL_law_372 9 rfl ?_
        refine x_iconst (v := 3) F rfl dL_law_374 ?_
        refine x_callVp (rest := [.ref (ad c 0 0)]) F hR8.day rfl (p_X3_flight l G _ c j hjf 3 (by decide)) k_L_50 ⟨(Nat.le_of_ble_eq_true rfl), (Nat.le_of_ble_eq_true rfl), rfl, rfl⟩ hk hn dL_law_375 rfl rfl (Nat.le_of_ble_eq_true rfl) hR8 ?_
        refine wx_i (y := nI (cR c j).2.2) (fli_3 _ _) ?_
        refine x_iconst (v := 0) F rfl dL_law_378 ?_
        refine x_callVp (rest := []) F hR8.day rfl (p_X3_glider l G _ c ((cR c j).2.2) (hR8.wf.2.1 _ hjf).2.1 0 (by decide)) k_L_53 ⟨(Nat.le_of_ble_eq_true rfl), (Nat.le_of_ble_eq_true rfl), rfl, rfl⟩ hk hn dL_law_379 rfl rfl (Nat.le_of_ble_eq_true rfl) hR8 ?_
        refine x_if_ne F dL_law_382 (tgt := 387) (by decide) (fun _ => ?_) (fun h5 => absurd h5 (pl_glider0 hI hjf h1))
        refine x_iinc (j := 9) (v := nI (j + 1)) (lv' := [(14, .int (nI (j + 1))), (12, .int (sA1 c (j + 1))), (0, .ref (G.2.2.2 0)), (1, .ref (ad c 0 0)), (2, .ref la), (3, .ref sa), (6, .int (nI t)), (10, .ref fl), (11, .ref ow), (13, .int 0)]) F dL_law_387 rfl (nI_1 _) (by decide) rfl ?_
        refine x_goto F dL_law_390 (tgt := 274) (by decide) ?_
        refine wx_sub (lv' := [(0, .ref (G.2.2.2 0)), (1, .ref (ad c 0 0)), (2, .ref la), (3, .ref sa), (6, .int (nI t)), (10, .ref fl), (11, .ref ow), (12, .int (sA1 c (j + 1))), (13, .int 0), (14, .int (nI (j + 1)))]) [2, 3, 4, 5, 6, 7, 8, 1, 9, 0] rfl ?_
        exact ih H8 (by rw [sF1_2 h1 hq hs.2, sG1_1 h1]; exact hW8) (by omega)
    · refine x_goto F dL_law_295 (tgt := 387) (by decide) ?_
      refine x_iinc (j := 9) (v := nI (j + 1)) (lv' := [(14, .int (nI (j + 1))), (0, .ref (G.2.2.2 0)), (1, .ref (ad c 0 0)), (2, .ref la), (3, .ref sa), (6, .int (nI t)), (10, .ref fl), (11, .ref ow), (12, .int (sA1 c j)), (13, .int 0)]) F dL_law_387 rfl (nI_1 _) (by decide) rfl ?_
      refine x_goto F dL_law_390 (tgt := 274) (by decide) ?_
      refine wx_sub (lv' := [(0, .ref (G.2.2.2 0)), (1, .ref (ad c 0 0)), (2, .ref la), (3, .ref sa), (6, .int (nI t)), (10, .ref fl), (11, .ref ow), (12, .int (sA1 c j)), (13, .int 0), (14, .int (nI (j + 1)))]) [1, 2, 3, 4, 5, 6, 7, 8, 9, 0] rfl ?_
      rw [← sA1_no h1]
      exact ih H (by rw [sF1_no h1, sG1_no h1]; exact hW) (by omega)
set_option maxHeartbeats 4000000 in
set_option maxRecDepth 100000 in
theorem lw_D (l : Launch) (G : GT) (E : WE) (S0 : Heap) (F : fx l room_1 G (fun q => S0.size ≤ q) S0 15 cL_law "GliderDayLaw" E) {la sa fl ow t : Nat} {c : CS} {k n : Nat} (hk : k ≤ 600086) (hn : n ≤ 7301442) {H : Heap} (hW : WI G S0.size (ad c 0 0) la sa fl ow c (sF1 c (nf c)) (sG1 c (nf c)) H) (J : wx E H k n 435 [(0, .ref (G.2.2.2 0)), (1, .ref (ad c 0 0)), (2, .ref la), (3, .ref sa), (6, .int (nI t)), (10, .ref fl), (11, .ref ow), (12, .int (sA1 c (nf c))), (13, .int 0), (14, .int (nI (nm c)))] []) : ∀ (r j : Nat), j + r = nm c → wx E H k n 396 [(0, .ref (G.2.2.2 0)), (1, .ref (ad c 0 0)), (2, .ref la), (3, .ref sa), (6, .int (nI t)), (10, .ref fl), (11, .ref ow), (12, .int (sA1 c (nf c))), (13, .int 0), (14, .int (nI j))] []
  | 0, j, hj => by
    obtain rfl : j = nm c := by omega
    show wx E H k n 396 [(0, .ref (G.2.2.2 0)), (1, .ref (ad c 0 0)), (2, .ref la), (3, .ref sa), (6, .int (nI t)), (10, .ref fl), (11, .ref ow), (12, .int (sA1 c (nf c))), (13, .int 0), (14, .int (nI (nm c)))] []
    obtain ⟨hRb, ⟨fa, hLa, hfa⟩, ⟨fs, hSa, hfs⟩, hJ, -, ⟨hm1, hg1⟩, hFl, hOw, hne, hzf, hzo⟩ := id hW
    have hR := hRb.all
    have hb := hW.bd
    refine x_iload F dL_law_396 9 rfl ?_
    refine x_aload_n F dL_law_398 2 rfl rfl ?_
    refine x_len F hLa dL_law_399 ?_
    refine x_icmp_ge F dL_law_400 (tgt := 435) (by decide) (fun _ => ?_) (fun h => absurd (Int32.le_refl _) h)
    exact J
  | r + 1, j, hj => by
    have hjf : j < nm c := by omega
    have ih := lw_D l G E S0 F hk hn hW J r (j + 1) (by omega)
    show wx E H k n 396 [(0, .ref (G.2.2.2 0)), (1, .ref (ad c 0 0)), (2, .ref la), (3, .ref sa), (6, .int (nI t)), (10, .ref fl), (11, .ref ow), (12, .int (sA1 c (nf c))), (13, .int 0), (14, .int (nI j))] []
    obtain ⟨hRb, ⟨fa, hLa, hfa⟩, ⟨fs, hSa, hfs⟩, hJ, -, ⟨hm1, hg1⟩, hFl, hOw, hne, hzf, hzo⟩ := id hW
    have hR := hRb.all
    have hb := hW.bd
    have hI := hJ.2.1
    refine x_iload F dL_law_396 9 rfl ?_
    refine x_aload_n F dL_law_398 2 rfl rfl ?_
    refine x_len F hLa dL_law_399 ?_
    refine x_icmp_ge F dL_law_400 (tgt := 435) (by decide) (fun h1 => absurd h1 (nI_ge hjf (by omega))) (fun _ => ?_)
    refine x_aload F dL_law_403 5 rfl ?_
    refine x_iload F dL_law_405 9 rfl ?_
    refine x_ld F hFl (j := j) (by have := hjf; omega) (by decide) dL_law_407 ?_
    refine x_iconst (v := 1) F rfl dL_law_408 ?_
    refine x_icmp_gt F dL_law_409 (tgt := 427) (by decide) (fun h2 => absurd h2 ((pl_mem hI hjf).2)) (fun _ => ?_)
    refine x_aload_n F dL_law_412 1 rfl rfl ?_
    refine x_iload F dL_law_413 9 rfl ?_
    refine x_iconst (v := 1) F rfl dL_law_415 ?_
    refine x_callVp (rest := []) F hR.day rfl (p_X3_member l G _ c j hjf 1 (by decide)) k_L_56 ⟨(Nat.le_of_ble_eq_true rfl), (Nat.le_of_ble_eq_true rfl), rfl, rfl⟩ hk hn dL_law_416 rfl rfl (Nat.le_of_ble_eq_true rfl) hR ?_
    refine x_aload F dL_law_419 5 rfl ?_
    refine x_iload F dL_law_421 9 rfl ?_
    refine x_ld F hFl (j := j) (by have := hjf; omega) (by decide) dL_law_423 ?_
    refine x_icmp_eq F dL_law_424 (tgt := 429) (by decide) (fun _ => ?_) (fun h3 => absurd ((pl_mem hI hjf).1) h3)
    refine x_iinc (j := 9) (v := nI (j + 1)) (lv' := [(14, .int (nI (j + 1))), (0, .ref (G.2.2.2 0)), (1, .ref (ad c 0 0)), (2, .ref la), (3, .ref sa), (6, .int (nI t)), (10, .ref fl), (11, .ref ow), (12, .int (sA1 c (nf c))), (13, .int 0)]) F dL_law_429 rfl (nI_1 _) (by decide) rfl ?_
    refine x_goto F dL_law_432 (tgt := 396) (by decide) ?_
    exact wx_sub [1, 2, 3, 4, 5, 6, 7, 8, 9, 0] rfl ih
set_option maxHeartbeats 4000000 in
set_option maxRecDepth 100000 in
theorem lw_E (l : Launch) (G : GT) (E : WE) (S0 : Heap) (F : fx l room_1 G (fun q => S0.size ≤ q) S0 15 cL_law "GliderDayLaw" E) {la sa fl ow t : Nat} {c : CS} {k n : Nat} (hk : k ≤ 600086) (hn : n ≤ 7301442) {H : Heap} (hW : WI G S0.size (ad c 0 0) la sa fl ow c (sF1 c (nf c)) (sG1 c (nf c)) H) (J : wx E H k n 515 [(0, .ref (G.2.2.2 0)), (1, .ref (ad c 0 0)), (2, .ref la), (3, .ref sa), (6, .int (nI t)), (10, .ref fl), (11, .ref ow), (12, .int (sA1 c (nf c))), (13, .int (sW1 c (ng c))), (14, .int (nI (ng c)))] []) : ∀ (r j : Nat), j + r = ng c → wx E H k n 438 [(0, .ref (G.2.2.2 0)), (1, .ref (ad c 0 0)), (2, .ref la), (3, .ref sa), (6, .int (nI t)), (10, .ref fl), (11, .ref ow), (12, .int (sA1 c (nf c))), (13, .int (sW1 c j)), (14, .int (nI j))] []
  | 0, j, hj => by
    obtain rfl : j = ng c := by omega
    show wx E H k n 438 [(0, .ref (G.2.2.2 0)), (1, .ref (ad c 0 0)), (2, .ref la), (3, .ref sa), (6, .int (nI t)), (10, .ref fl), (11, .ref ow), (12, .int (sA1 c (nf c))), (13, .int (sW1 c (ng c))), (14, .int (nI (ng c)))] []
    obtain ⟨hRb, ⟨fa, hLa, hfa⟩, ⟨fs, hSa, hfs⟩, hJ, -, ⟨hm1, hg1⟩, hFl, hOw, hne, hzf, hzo⟩ := id hW
    have hR := hRb.all
    have hb := hW.bd
    refine x_iload F dL_law_438 9 rfl ?_
    refine x_aload_n F dL_law_440 3 rfl rfl ?_
    refine x_len F hSa dL_law_441 ?_
    refine x_icmp_ge F dL_law_442 (tgt := 515) (by decide) (fun _ => ?_) (fun h => absurd (Int32.le_refl _) h)
    exact J
  | r + 1, j, hj => by
    have hjf : j < ng c := by omega
    have ih := lw_E l G E S0 F hk hn hW J r (j + 1) (by omega)
    show wx E H k n 438 [(0, .ref (G.2.2.2 0)), (1, .ref (ad c 0 0)), (2, .ref la), (3, .ref sa), (6, .int (nI t)), (10, .ref fl), (11, .ref ow), (12, .int (sA1 c (nf c))), (13, .int (sW1 c j)), (14, .int (nI j))] []
    obtain ⟨hRb, ⟨fa, hLa, hfa⟩, ⟨fs, hSa, hfs⟩, hJ, -, ⟨hm1, hg1⟩, hFl, hOw, hne, hzf, hzo⟩ := id hW
    have hR := hRb.all
    have hb := hW.bd
    have hI := hJ.2.1
    have J488 : wx E H k n 488 [(0, .ref (G.2.2.2 0)), (1, .ref (ad c 0 0)), (2, .ref la), (3, .ref sa), (6, .int (nI t)), (10, .ref fl), (11, .ref ow), (12, .int (sA1 c (nf c))), (13, .int (sW1 c j)), (14, .int (nI j))] [] := by
      refine x_iload F dL_law_488 8 rfl ?_
      refine x_aload_n F dL_law_490 1 rfl rfl ?_
      refine x_iload F dL_law_491 9 rfl ?_
      refine x_iconst (v := 0) F rfl dL_law_493 ?_
      refine x_callVp (rest := [.int (sW1 c j)]) F hR.day rfl (p_X3_glider l G _ c j hjf 0 (by decide)) k_L_53 ⟨(Nat.le_of_ble_eq_true rfl), (Nat.le_of_ble_eq_true rfl), rfl, rfl⟩ hk hn dL_law_494 rfl rfl (Nat.le_of_ble_eq_true rfl) hR ?_
      refine x_iconst (v := 2) F rfl dL_law_497 ?_
      refine wx_st (st' := [.int 2, .int (cG c j 4), .int (sW1 c j)]) (by rw [gli_0]) ?_
      refine x_icmp_ne F dL_law_498 (tgt := 505) (by decide) (fun h2 => ?_) (fun h2 => ?_)
      · refine x_iconst (v := 0) F rfl dL_law_505 ?_
        refine x_iadd F dL_law_506 ?_
        refine wx_i (y := sW1 c (j + 1)) (sW1_n h2) ?_
        refine x_istore (lv' := [(13, .int (sW1 c (j + 1))), (0, .ref (G.2.2.2 0)), (1, .ref (ad c 0 0)), (2, .ref la), (3, .ref sa), (6, .int (nI t)), (10, .ref fl), (11, .ref ow), (12, .int (sA1 c (nf c))), (14, .int (nI j))]) F dL_law_507 (by decide) rfl ?_
        refine x_iinc (j := 9) (v := nI (j + 1)) (lv' := [(14, .int (nI (j + 1))), (13, .int (sW1 c (j + 1))), (0, .ref (G.2.2.2 0)), (1, .ref (ad c 0 0)), (2, .ref la), (3, .ref sa), (6, .int (nI t)), (10, .ref fl), (11, .ref ow), (12, .int (sA1 c (nf c)))]) F dL_law_509 rfl (nI_1 _) (by decide) rfl ?_
        refine x_goto F dL_law_512 (tgt := 438) (by decide) ?_
        exact wx_sub [2, 3, 4, 5, 6, 7, 8, 9, 1, 0] rfl ih
      · refine x_iconst (v := 1) F rfl dL_law_501 ?_
        refine x_goto F dL_law_502 (tgt := 506) (by decide) ?_
        refine x_iadd F dL_law_506 ?_
        refine wx_i (y := sW1 c (j + 1)) (sW1_y h2) ?_
        refine x_istore (lv' := [(13, .int (sW1 c (j + 1))), (0, .ref (G.2.2.2 0)), (1, .ref (ad c 0 0)), (2, .ref la), (3, .ref sa), (6, .int (nI t)), (10, .ref fl), (11, .ref ow), (12, .int (sA1 c (nf c))), (14, .int (nI j))]) F dL_law_507 (by decide) rfl ?_
        refine x_iinc (j := 9) (v := nI (j + 1)) (lv' := [(14, .int (nI (j + 1))), (13, .int (sW1 c (j + 1))), (0, .ref (G.2.2.2 0)), (1, .ref (ad c 0 0)), (2, .ref la), (3, .ref sa), (6, .int (nI t)), (10, .ref fl), (11, .ref ow), (12, .int (sA1 c (nf c)))]) F dL_law_509 rfl (nI_1 _) (by decide) rfl ?_
        refine x_goto F dL_law_512 (tgt := 438) (by decide) ?_
        exact wx_sub [2, 3, 4, 5, 6, 7, 8, 9, 1, 0] rfl ih
    refine x_iload F dL_law_438 9 rfl ?_
    refine x_aload_n F dL_law_440 3 rfl rfl ?_
    refine x_len F hSa dL_law_441 ?_
    refine x_icmp_ge F dL_law_442 (tgt := 515) (by decide) (fun h1 => absurd h1 (nI_ge hjf (by omega))) (fun _ => ?_)
    refine x_aload F dL_law_445 6 rfl ?_
    refine x_iload F dL_law_447 9 rfl ?_
    refine x_ld F hOw (j := j) (by have := hjf; omega) (by decide) dL_law_449 ?_
    refine x_iconst (v := 1) F rfl dL_law_450 ?_
    refine x_icmp_gt F dL_law_451 (tgt := 486) (by decide) (fun h2 => absurd h2 ((pl_own hI hjf).1)) (fun _ => ?_)
    refine x_aload_n F dL_law_454 1 rfl rfl ?_
    refine x_iload F dL_law_455 9 rfl ?_
    refine x_iconst (v := 0) F rfl dL_law_457 ?_
    refine x_callVp (rest := []) F hR.day rfl (p_X3_glider l G _ c j hjf 0 (by decide)) k_L_53 ⟨(Nat.le_of_ble_eq_true rfl), (Nat.le_of_ble_eq_true rfl), rfl, rfl⟩ hk hn dL_law_458 rfl rfl (Nat.le_of_ble_eq_true rfl) hR ?_
    refine x_if_le F dL_law_461 (tgt := 468) (by decide) (fun h1 => ?_) (fun h1 => ?_)
    · refine x_iconst (v := 0) F rfl dL_law_468 ?_
      refine x_aload F dL_law_469 6 rfl ?_
      refine x_iload F dL_law_471 9 rfl ?_
      refine x_ld F hOw (j := j) (by have := hjf; omega) (by decide) dL_law_473 ?_
      refine x_iconst (v := 1) F rfl dL_law_474 ?_
      refine x_icmp_ne F dL_law_475 (tgt := 482) (by decide) (fun _ => ?_) (fun h3 => absurd h3 (fun q => absurd ((pl_own hI hjf).2.mpr q) (Int32.not_lt.mpr h1)))
      refine x_iconst (v := 0) F rfl dL_law_482 ?_
      refine x_icmp_eq F dL_law_483 (tgt := 488) (by decide) (fun _ => ?_) (fun h4 => absurd (by decide) h4)
      exact J488
    · refine x_iconst (v := 1) F rfl dL_law_464 ?_
      refine x_goto F dL_law_465 (tgt := 469) (by decide) ?_
      refine x_aload F dL_law_469 6 rfl ?_
      refine x_iload F dL_law_471 9 rfl ?_
      refine x_ld F hOw (j := j) (by have := hjf; omega) (by decide) dL_law_473 ?_
      refine x_iconst (v := 1) F rfl dL_law_474 ?_
      refine x_icmp_ne F dL_law_475 (tgt := 482) (by decide) (fun h5 => absurd ((pl_own hI hjf).2.mp (Int32.not_le.mp h1)) h5) (fun _ => ?_)
      refine x_iconst (v := 1) F rfl dL_law_478 ?_
      refine x_goto F dL_law_479 (tgt := 483) (by decide) ?_
      refine x_icmp_eq F dL_law_483 (tgt := 488) (by decide) (fun _ => ?_) (fun h6 => absurd (by decide) h6)
      exact J488
set_option maxHeartbeats 4000000 in
set_option maxRecDepth 100000 in
theorem lw_F (l : Launch) (G : GT) (E : WE) (S0 : Heap) (F : fx l room_1 G (fun q => S0.size ≤ q) S0 15 cL_law "GliderDayLaw" E) {la sa fl ow t : Nat} {c : CS} {k n : Nat} (hk : k ≤ 600086) (hn : n ≤ 7301442) {H : Heap} (hW : WI G S0.size (ad c 0 0) la sa fl ow c (sF1 c (nf c)) (sG1 c (nf c)) H) (J : wx E H k n 76 [(0, .ref (G.2.2.2 0)), (1, .ref (ad c 0 0)), (2, .ref la), (3, .ref sa), (6, .int (nI (t + 1)))] []) : wx E H k n 515 [(0, .ref (G.2.2.2 0)), (1, .ref (ad c 0 0)), (2, .ref la), (3, .ref sa), (6, .int (nI t)), (10, .ref fl), (11, .ref ow), (12, .int (sA1 c (nf c))), (13, .int (sW1 c (ng c)))] [] := by
  obtain ⟨hRb, ⟨fa, hLa, hfa⟩, ⟨fs, hSa, hfs⟩, hJ, -, ⟨hm1, hg1⟩, hFl, hOw, hne, hzf, hzo⟩ := id hW
  have hR := hRb.all
  have hb := hW.bd
  have hI := hJ.2.1
  refine x_aload_n F dL_law_515 1 rfl rfl ?_
  refine x_iconst (v := 4) F rfl dL_law_516 ?_
  refine x_callVp (rest := []) F hR.day rfl (p_X3_count l G _ c 4 (by decide)) k_L_37 ⟨(Nat.le_of_ble_eq_true rfl), (Nat.le_of_ble_eq_true rfl), rfl, rfl⟩ hk hn dL_law_517 rfl rfl (Nat.le_of_ble_eq_true rfl) hR ?_
  refine x_iload F dL_law_520 7 rfl ?_
  refine x_icmp_ne F dL_law_522 (tgt := 553) (by decide) (fun h1 => absurd (pl_air hI) h1) (fun _ => ?_)
  refine x_aload_n F dL_law_525 1 rfl rfl ?_
  refine x_iconst (v := 5) F rfl dL_law_526 ?_
  refine x_callVp (rest := []) F hR.day rfl (p_X3_count l G _ c 5 (by decide)) k_L_37 ⟨(Nat.le_of_ble_eq_true rfl), (Nat.le_of_ble_eq_true rfl), rfl, rfl⟩ hk hn dL_law_527 rfl rfl (Nat.le_of_ble_eq_true rfl) hR ?_
  refine x_iload F dL_law_530 8 rfl ?_
  refine x_icmp_ne F dL_law_532 (tgt := 553) (by decide) (fun h2 => absurd ((pl_wait hI).symm) h2) (fun _ => ?_)
  refine x_aload_n F dL_law_535 1 rfl rfl ?_
  refine x_bipush (v := 6) F rfl dL_law_536 ?_
  refine x_callVp (rest := []) F hR.day rfl (p_X3_count l G _ c 6 (by decide)) k_L_37 ⟨(Nat.le_of_ble_eq_true rfl), (Nat.le_of_ble_eq_true rfl), rfl, rfl⟩ hk hn dL_law_538 rfl rfl (Nat.le_of_ble_eq_true rfl) hR ?_
  refine x_if_lt F dL_law_541 (tgt := 553) (by decide) (fun h3 => absurd h3 ((pl_67 hJ).1)) (fun _ => ?_)
  refine x_aload_n F dL_law_544 1 rfl rfl ?_
  refine x_bipush (v := 7) F rfl dL_law_545 ?_
  refine x_callVp (rest := []) F hR.day rfl (p_X3_count l G _ c 7 (by decide)) k_L_37 ⟨(Nat.le_of_ble_eq_true rfl), (Nat.le_of_ble_eq_true rfl), rfl, rfl⟩ hk hn dL_law_547 rfl rfl (Nat.le_of_ble_eq_true rfl) hR ?_
  refine x_if_ge F dL_law_550 (tgt := 555) (by decide) (fun _ => ?_) (fun h4 => absurd ((pl_67 hJ).2) h4)
  refine x_iinc (j := 4) (v := nI (t + 1)) (lv' := [(6, .int (nI (t + 1))), (0, .ref (G.2.2.2 0)), (1, .ref (ad c 0 0)), (2, .ref la), (3, .ref sa), (10, .ref fl), (11, .ref ow), (12, .int (sA1 c (nf c))), (13, .int (sW1 c (ng c)))]) F dL_law_555 rfl (nI_1 _) (by decide) rfl ?_
  refine x_goto F dL_law_558 (tgt := 76) (by decide) ?_
  exact wx_sub [1, 2, 3, 4, 0] rfl J
set_option maxHeartbeats 4000000 in
set_option maxRecDepth 100000 in
theorem lw_G (l : Launch) (G : GT) (E : WE) (S0 : Heap) (F : fx l room_1 G (fun q => S0.size ≤ q) S0 15 cL_law "GliderDayLaw" E) {la sa fl ow t : Nat} {c : CS} {k n : Nat} (hk : k ≤ 600086) (hn : n ≤ 7301442) {H : Heap} (hW : WI G S0.size (ad c 0 0) la sa fl ow c (fun _ => 0) (fun _ => 0) H) (J : ∀ H1 : Heap, WL G S0.size (ad c 0 0) la sa c H1 → wx E H1 k n 76 [(0, .ref (G.2.2.2 0)), (1, .ref (ad c 0 0)), (2, .ref la), (3, .ref sa), (6, .int (nI (t + 1)))] []) : wx E H k n 274 [(0, .ref (G.2.2.2 0)), (1, .ref (ad c 0 0)), (2, .ref la), (3, .ref sa), (6, .int (nI t)), (10, .ref fl), (11, .ref ow), (12, .int (0)), (13, .int 0), (14, .int (0))] [] := by
  refine wx_lv (lv' := [(0, .ref (G.2.2.2 0)), (1, .ref (ad c 0 0)), (2, .ref la), (3, .ref sa), (6, .int (nI t)), (10, .ref fl), (11, .ref ow), (12, .int (sA1 c 0)), (13, .int 0), (14, .int (nI 0))]) (by rfl) ?_
  refine lw_C l G E S0 F hk hn (fun H1 hW1 => ?_) (nf c) 0 H hW (by omega)
  refine x_iconst (v := 0) F rfl dL_law_393 ?_
  refine x_istore (lv' := [(14, .int 0), (0, .ref (G.2.2.2 0)), (1, .ref (ad c 0 0)), (2, .ref la), (3, .ref sa), (6, .int (nI t)), (10, .ref fl), (11, .ref ow), (12, .int (sA1 c (nf c))), (13, .int 0)]) F dL_law_394 (by decide) rfl ?_
  refine wx_sub (lv' := [(0, .ref (G.2.2.2 0)), (1, .ref (ad c 0 0)), (2, .ref la), (3, .ref sa), (6, .int (nI t)), (10, .ref fl), (11, .ref ow), (12, .int (sA1 c (nf c))), (13, .int 0), (14, .int (nI 0))]) [1, 2, 3, 4, 5, 6, 7, 8, 9, 0] rfl ?_
  refine lw_D l G E S0 F hk hn hW1 ?_ (nm c) 0 (by omega)
  refine x_iconst (v := 0) F rfl dL_law_435 ?_
  refine x_istore (lv' := [(14, .int 0), (0, .ref (G.2.2.2 0)), (1, .ref (ad c 0 0)), (2, .ref la), (3, .ref sa), (6, .int (nI t)), (10, .ref fl), (11, .ref ow), (12, .int (sA1 c (nf c))), (13, .int 0)]) F dL_law_436 (by decide) rfl ?_
  refine wx_sub (lv' := [(0, .ref (G.2.2.2 0)), (1, .ref (ad c 0 0)), (2, .ref la), (3, .ref sa), (6, .int (nI t)), (10, .ref fl), (11, .ref ow), (12, .int (sA1 c (nf c))), (13, .int 0), (14, .int (nI 0))]) [1, 2, 3, 4, 5, 6, 7, 8, 9, 0] rfl ?_
  refine wx_lv (lv' := [(0, .ref (G.2.2.2 0)), (1, .ref (ad c 0 0)), (2, .ref la), (3, .ref sa), (6, .int (nI t)), (10, .ref fl), (11, .ref ow), (12, .int (sA1 c (nf c))), (13, .int (sW1 c 0)), (14, .int (nI 0))]) (by rfl) ?_
  refine lw_E l G E S0 F hk hn hW1 ?_ (ng c) 0 (by omega)
  refine wx_sub (lv' := [(0, .ref (G.2.2.2 0)), (1, .ref (ad c 0 0)), (2, .ref la), (3, .ref sa), (6, .int (nI t)), (10, .ref fl), (11, .ref ow), (12, .int (sA1 c (nf c))), (13, .int (sW1 c (ng c)))]) [0, 1, 2, 3, 4, 5, 6, 7, 8] rfl ?_
  exact lw_F l G E S0 F hk hn hW1 (J H1 hW1.out)
end LC
