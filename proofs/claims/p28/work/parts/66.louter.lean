/-! the law's outer loop -/
section LA
section
variable {G : GT} {A : Nat → Prop} {z xa la sa : Nat} {c c1 : CS} {ff fo : Nat → Int32} {H H1 H2 : Heap} {ex : List Nat}
theorem Rep.zle (h : Rep G (Bx z ex) c H) : z ≤ H.size := by
  obtain ⟨T, bA, cp, mo, h1, h2, -⟩ := h
  have h3 := h1 (ad c 0 0) (by rw [h2.1]; decide)
  exact Nat.le_trans h3.1.1 (Nat.le_of_lt h3.2)
theorem WL.fr (h : WL G z xa la sa c H) : ∀ q, H.size ≤ q → Bx z [la, sa] q := fun q hq => by
  obtain ⟨h1, ⟨f, h2, -⟩, ⟨g, h3, -⟩, -⟩ := h
  have a := h2.lt
  have b := h3.lt
  refine ⟨Nat.le_trans h1.zle hq, fun x => ?_⟩
  rcases List.mem_cons.mp x with e | e
  · omega
  · have := List.mem_singleton.mp e
    omega
theorem WL.step (h : WL G z xa la sa c H) (hR : Rep G (Bx z [la, sa]) c1 H1) (hk : ∀ q : Nat, q < H.size → ¬ Bx z [la, sa] q → H1[q]? = H[q]?) (hJ : JJ c1) (had : ad c1 0 0 = ad c 0 0) (e1 : nm c1 = nm c) (e2 : ng c1 = ng c) (e3 : ∀ i, cM c1 i 1 = cM c i 1) (e4 : ∀ g, cG c1 g 1 = cG c g 1) : WL G z xa la sa c1 H1 := by
  obtain ⟨h1, ⟨f, h2, h3⟩, ⟨g, h4, h5⟩, h6, h7, h8⟩ := h
  refine ⟨hR, ⟨f, ?_, fun i hi => ?_⟩, ⟨g, ?_, fun i hi => ?_⟩, hJ, had.trans h7, by rw [e1, e2]; exact h8⟩
  · rw [e1]; exact h2.oth List.mem_cons_self hk
  · rw [e3]; exact h3 i (by rw [← e1]; exact hi)
  · rw [e2]; exact h4.oth (List.mem_cons_of_mem _ List.mem_cons_self) hk
  · rw [e4]; exact h5 i (by rw [← e2]; exact hi)
theorem WL.wi (h : WL G z xa la sa c H) (n1 : hnew H H1) (v1 : vt G H.size (iA G 16 ff) H1) (n2 : hnew H1 H2) (v2 : vt G H1.size (iA G 8 fo) H2) : WI G z xa la sa H.size H1.size c ff fo H2 := by
  obtain ⟨h1, ⟨f, h2, h3⟩, ⟨g, h4, h5⟩, h6, h7, h8⟩ := h
  have a := h2.lt
  have b := h4.lt
  have s1 := n1.1
  have hz := h1.zle
  have r1 := (h1.frs (a := H1.size) (by omega)).frs (a := H.size) (Nat.le_refl _)
  exact ⟨(r1.new n1).new n2, ⟨f, (h2.new n1).new n2, h3⟩, ⟨g, (h4.new n1).new n2, h5⟩, h6, h7, h8, v1.new n2, v2, ⟨by omega, by omega, by omega, by omega, by omega⟩, hz, by omega⟩
end
theorem sec_z {r m : Nat} (h : r < m + 1) : ∃ z, nI r - 1 = z ∧ (z = -1 ∨ ∃ s, s < m ∧ z = nI s) := by
  cases r with
  | zero => exact ⟨-1, by decide, Or.inl rfl⟩
  | succ s => exact ⟨nI s, nI_pred s, Or.inr ⟨s, by omega, rfl⟩⟩
theorem ask_u {a b : Nat} (ha : a < 2) (hb : b < 600) : nI a * (200 + nI b) = 0 ∨ (200 ≤ nI a * (200 + nI b) ∧ nI a * (200 + nI b) ≤ 1500) := by
  have e : (200 : Int32) + nI b = nI (200 + b) := nI_add 200 b
  rcases (show a = 0 ∨ a = 1 by omega) with h | h
  · rw [h]
    exact Or.inl (by rw [nI_0]; exact Int32.zero_mul)
  · rw [h, e, show nI 1 = 1 from rfl, Int32.one_mul]
    exact Or.inr ⟨(nI_leI (a := 200) (by decide) (by omega)).mpr (by omega), (nI_leI (b := 1500) (by omega) (by decide)).mpr (by omega)⟩
theorem ask_n {b : Nat} (hb : b < 25) : 2 ≤ 2 + nI b ∧ 2 + nI b ≤ 300 := by
  rw [show (2 : Int32) + nI b = nI (2 + b) from nI_add 2 b]
  exact ⟨(nI_leI (a := 2) (by decide) (by omega)).mpr (by omega), (nI_leI (b := 300) (by omega) (by decide)).mpr (by omega)⟩
theorem k_L_15 : cwS_ "GliderDayLaw" 15 yL_below cL_below 2 (some .int) 2 := ⟨mw_538, mw_539, mw_27, mw_540, ⟨by decide +kernel, by decide +kernel, by decide +kernel⟩⟩
theorem k_L_47 : cwV_ "GliderDayLaw" 47 "GliderDay" yX3_tick cX3_tick 4 (some .int) 1 := ⟨mw_397, mw_398, mw_399, mw_28, mw_400, ⟨by decide +kernel, by decide +kernel, by decide +kernel⟩⟩
theorem k_L_44 : cwV_ "GliderDayLaw" 44 "GliderDay" yX3_setWind cX3_setWind 3 (some .int) 1 := ⟨mw_122, mw_123, mw_124, mw_28, mw_125, ⟨by decide +kernel, by decide +kernel, by decide +kernel⟩⟩
theorem k_L_9 : cwS_ "GliderDayLaw" 9 yL_cell cL_cell 2 (some .int) 2 := ⟨mw_542, mw_543, mw_27, mw_544, ⟨by decide +kernel, by decide +kernel, by decide +kernel⟩⟩
theorem k_L_40 : cwV_ "GliderDayLaw" 40 "GliderDay" yX3_ask cX3_ask 10 (some .int) 5 := ⟨mw_286, mw_287, mw_288, mw_28, mw_289, ⟨by decide +kernel, by decide +kernel, by decide +kernel⟩⟩
set_option maxHeartbeats 4000000 in
set_option maxRecDepth 100000 in
theorem la_3 (l : Launch) (hL0 : l.stackTraces = false) (G : GT) (E : WE) (S0 : Heap) (F : fx l room_1 G (fun q => S0.size ≤ q) S0 15 cL_law "GliderDayLaw" E) {xa la sa t : Nat} {c : CS} {X : Int32} {k n : Nat} (hk : k + 20 ≤ 600086) (hn : n + 1000 ≤ 7301442) {H : Heap} (hW : WL G S0.size xa la sa c H) (ht : tN (cD c 9) ≤ 6 * t) (ht5 : t < 50) (J : ∀ (c1 : CS) (H1 : Heap), WL G S0.size xa la sa c1 H1 → nf c1 = nf c → tN (cD c1 9) ≤ 6 * (t + 1) → wx E H1 (k + 20) (n + 1000) 76 [(0, .ref (G.2.2.2 0)), (1, .ref xa), (2, .ref la), (3, .ref sa), (6, .int (nI (t + 1)))] []) : wx E H k n 236 [(0, .ref (G.2.2.2 0)), (1, .ref xa), (2, .ref la), (3, .ref sa), (6, .int (nI t)), (7, .int X)] [] := by
  obtain rfl : ad c 0 0 = xa := hW.2.2.2.2.1
  show wx E H k n 236 [(0, .ref (G.2.2.2 0)), (1, .ref (ad c 0 0)), (2, .ref la), (3, .ref sa), (6, .int (nI t)), (7, .int X)] []
  obtain ⟨hRb, ⟨fa, hLa, hfa⟩, ⟨fs, hSa, hfs⟩, hJ, -, ⟨hm1, hg1⟩⟩ := id hW
  have hR := hRb.all
  have hb := hW.bd
  have hI := hJ.2.1
  refine x_aload_n F dL_law_236 1 rfl rfl ?_
  refine x_iconst (v := 1) F rfl dL_law_237 ?_
  refine x_iload F dL_law_238 5 rfl ?_
  refine x_bipush (v := 7) F rfl dL_law_240 ?_
  refine x_ishr F dL_law_242 ?_
  refine x_bipush (v := 6) F rfl dL_law_243 ?_
  refine x_callSp (rest := [.int 1, .ref (ad c 0 0)]) F (c_L_below l G _ (X >>> (7 &&& 31)) 6 (nI_nz (b := 6) (show (6 : Int32) = nI 6 by decide) (by omega) (by omega))) k_L_15 ⟨(Nat.le_of_ble_eq_true rfl), (Nat.le_of_ble_eq_true rfl), rfl, rfl⟩ (by omega : k ≤ 600086) (by omega : n ≤ 7301442) dL_law_245 rfl rfl (Nat.le_of_ble_eq_true rfl) trivial ?_
  obtain ⟨r1, hr2, he3⟩ := bl_in (X >>> (7 &&& 31)) (b := 6) (show (6 : Int32) = nI 6 by decide) (by omega) (by omega)
  refine wx_i (y := nI r1) he3 ?_
  refine x_iadd F dL_law_248 ?_
  refine wx_i (y := nI (r1 + 1)) (by rw [Int32.add_comm]; exact nI_1 _) ?_
  have hx9 := hI.1.1
  have hx : (1 ≤ nI (r1 + 1) ∧ nI (r1 + 1) ≤ 300) ∧ cD c 9 + nI (r1 + 1) ≤ 1500 := by
    refine ⟨⟨(nI_leI (a := 1) (by decide) (by omega)).mpr (by omega), (nI_leI (b := 300) (by omega) (by decide)).mpr (by omega)⟩, ?_⟩
    rw [hx9.1, nI_add]
    exact (nI_leI (b := 1500) (by omega) (by decide)).mpr (by omega)
  obtain ⟨ho, hJ1, hS1, hlen, htm⟩ := JJ_tick hJ hx
  refine x_callVXo (A1 := Bx S0.size [la, sa]) (As := [.int (nI (r1 + 1))]) (rest := []) F hR.day rfl (c_X3_tick l G (Bx S0.size [la, sa]) c (nI (r1 + 1)) hlen hL0) k_L_47 ⟨⟨(Nat.le_of_ble_eq_true rfl), (Nat.le_of_ble_eq_true rfl)⟩, (by show k + 2 ≤ 600086; omega), (by show n + 312 ≤ 7301442; omega)⟩ dL_law_249 rfl rfl (Nat.le_of_ble_eq_true rfl) (fun q hq => hq.1) hW.fr hRb (fun H1 X1 h => h.2.1 (by rw [ho])) ?_
  rintro _ H1 ⟨-, rfl, hR1⟩ hz1 hk1
  rw [ho] at hR1
  have had := congrFun (congrFun (ad_tick c (tN (nI (r1 + 1)))).1 0) 0
  have hW1 := hW.step hR1 hk1 hJ1 had hS1.2.2.2.1 hS1.2.2.2.2.1 hS1.1 hS1.2.1
  have hnf := hS1.2.2.2.2.2
  generalize hc1 : (u_tick (tN (nI (r1 + 1))) c).2 = c1 at hR1 had hW1 hnf htm
  rw [nIs (by omega)] at htm
  refine x_pop F dL_law_252 rfl ?_
  refine x_bipush (v := 16) F rfl dL_law_253 ?_
  refine x_newaI (N' := 16) F (by decide) rfl (by decide) (by show k + 2 + 1 ≤ 600086; omega) (by show n + 312 + 16 ≤ 7301442; omega) dL_law_255 (fun H2 v2 n2 => ?_)
  refine x_astore (lv' := [(10, .ref H1.size), (0, .ref (G.2.2.2 0)), (1, .ref (ad c 0 0)), (2, .ref la), (3, .ref sa), (6, .int (nI t)), (7, .int X)]) F dL_law_257 (by decide) rfl ?_
  refine x_bipush (v := 8) F rfl dL_law_259 ?_
  refine x_newaI (N' := 8) F (by decide) rfl (by decide) (by show k + 2 + 1 + 1 ≤ 600086; omega) (by show n + 312 + 16 + 8 ≤ 7301442; omega) dL_law_261 (fun H3 v3 n3 => ?_)
  refine x_astore (lv' := [(11, .ref H2.size), (10, .ref H1.size), (0, .ref (G.2.2.2 0)), (1, .ref (ad c 0 0)), (2, .ref la), (3, .ref sa), (6, .int (nI t)), (7, .int X)]) F dL_law_263 (by decide) rfl ?_
  refine x_iconst (v := 0) F rfl dL_law_265 ?_
  refine x_istore (lv' := [(12, .int 0), (11, .ref H2.size), (10, .ref H1.size), (0, .ref (G.2.2.2 0)), (1, .ref (ad c 0 0)), (2, .ref la), (3, .ref sa), (6, .int (nI t)), (7, .int X)]) F dL_law_266 (by decide) rfl ?_
  refine x_iconst (v := 0) F rfl dL_law_268 ?_
  refine x_istore (lv' := [(13, .int 0), (12, .int 0), (11, .ref H2.size), (10, .ref H1.size), (0, .ref (G.2.2.2 0)), (1, .ref (ad c 0 0)), (2, .ref la), (3, .ref sa), (6, .int (nI t)), (7, .int X)]) F dL_law_269 (by decide) rfl ?_
  refine x_iconst (v := 0) F rfl dL_law_271 ?_
  refine x_istore (lv' := [(14, .int 0), (13, .int 0), (12, .int 0), (11, .ref H2.size), (10, .ref H1.size), (0, .ref (G.2.2.2 0)), (1, .ref (ad c 0 0)), (2, .ref la), (3, .ref sa), (6, .int (nI t)), (7, .int X)]) F dL_law_272 (by decide) rfl ?_
  have hWi := hW1.wi n2 v2 n3 v3
  refine wx_sub (lv' := [(0, .ref (G.2.2.2 0)), (1, .ref (ad c 0 0)), (2, .ref la), (3, .ref sa), (6, .int (nI t)), (10, .ref H1.size), (11, .ref H2.size), (12, .int 0), (13, .int 0), (14, .int 0)]) [5, 6, 7, 8, 9, 4, 3, 2, 1, 0] rfl ?_
  refine wx_wd (k2 := k + 20) (n2 := n + 1000) (by show k + 2 + 1 + 1 ≤ k + 20; omega) (by show n + 312 + 16 + 8 ≤ n + 1000; omega) ?_
  refine wx_lv (lv' := [(0, .ref (G.2.2.2 0)), (1, .ref (ad c1 0 0)), (2, .ref la), (3, .ref sa), (6, .int (nI t)), (10, .ref H1.size), (11, .ref H2.size), (12, .int 0), (13, .int 0), (14, .int 0)]) (by rw [had]) ?_
  rw [← had] at hWi
  refine lw_G l G E S0 F hk hn hWi (fun H4 hW4 => ?_)
  refine wx_lv (lv' := [(0, .ref (G.2.2.2 0)), (1, .ref (ad c 0 0)), (2, .ref la), (3, .ref sa), (6, .int (nI (t + 1)))]) (by rw [had]) ?_
  rw [had] at hW4
  exact J c1 H4 hW4 hnf (by omega)
set_option maxHeartbeats 4000000 in
set_option maxRecDepth 100000 in
theorem la_2 (l : Launch) (hL0 : l.stackTraces = false) (G : GT) (E : WE) (S0 : Heap) (F : fx l room_1 G (fun q => S0.size ≤ q) S0 15 cL_law "GliderDayLaw" E) {xa la sa t : Nat} {c : CS} {X : Int32} {k n : Nat} (hk : k + 1 ≤ 600086) (hn : n + 6 ≤ 7301442) {H : Heap} (hW : WL G S0.size xa la sa c H) (J : ∀ (c1 : CS) (H1 : Heap), WL G S0.size xa la sa c1 H1 → nf c1 = nf c → cD c1 9 = cD c 9 → wx E H1 (k + 1) (n + 6) 236 [(0, .ref (G.2.2.2 0)), (1, .ref xa), (2, .ref la), (3, .ref sa), (6, .int (nI t)), (7, .int X)] []) : wx E H k n 209 [(0, .ref (G.2.2.2 0)), (1, .ref xa), (2, .ref la), (3, .ref sa), (6, .int (nI t)), (7, .int X)] [] := by
  obtain rfl : ad c 0 0 = xa := hW.2.2.2.2.1
  show wx E H k n 209 [(0, .ref (G.2.2.2 0)), (1, .ref (ad c 0 0)), (2, .ref la), (3, .ref sa), (6, .int (nI t)), (7, .int X)] []
  obtain ⟨hRb, ⟨fa, hLa, hfa⟩, ⟨fs, hSa, hfs⟩, hJ, -, ⟨hm1, hg1⟩⟩ := id hW
  have hR := hRb.all
  have hb := hW.bd
  have hI := hJ.2.1
  refine x_iload F dL_law_209 5 rfl ?_
  refine x_iconst (v := 5) F rfl dL_law_211 ?_
  refine x_ishr F dL_law_212 ?_
  refine x_bipush (v := 9) F rfl dL_law_213 ?_
  refine x_callSp (rest := []) F (c_L_below l G _ (X >>> (5 &&& 31)) 9 (nI_nz (b := 9) (show (9 : Int32) = nI 9 by decide) (by omega) (by omega))) k_L_15 ⟨(Nat.le_of_ble_eq_true rfl), (Nat.le_of_ble_eq_true rfl), rfl, rfl⟩ (by omega : k ≤ 600086) (by omega : n ≤ 7301442) dL_law_215 rfl rfl (Nat.le_of_ble_eq_true rfl) trivial ?_
  obtain ⟨r1, hr2, he3⟩ := bl_in (X >>> (5 &&& 31)) (b := 9) (show (9 : Int32) = nI 9 by decide) (by omega) (by omega)
  refine wx_i (y := nI r1) he3 ?_
  refine x_if_ne F dL_law_218 (tgt := 236) (by decide) (fun _ => ?_) (fun _ => ?_)
  · exact wx_wd (by omega) (by omega) (J c H hW rfl rfl)
  · refine x_aload_n F dL_law_221 1 rfl rfl ?_
    refine x_iload F dL_law_222 5 rfl ?_
    refine x_bipush (v := 8) F rfl dL_law_224 ?_
    refine x_ishr F dL_law_226 ?_
    refine x_bipush (v := 30) F rfl dL_law_227 ?_
    refine x_callSp (rest := [.ref (ad c 0 0)]) F (c_L_below l G _ (X >>> (8 &&& 31)) 30 (nI_nz (b := 30) (show (30 : Int32) = nI 30 by decide) (by omega) (by omega))) k_L_15 ⟨(Nat.le_of_ble_eq_true rfl), (Nat.le_of_ble_eq_true rfl), rfl, rfl⟩ (by omega : k ≤ 600086) (by omega : n ≤ 7301442) dL_law_229 rfl rfl (Nat.le_of_ble_eq_true rfl) trivial ?_
    obtain ⟨r4, hr5, he6⟩ := bl_in (X >>> (8 &&& 31)) (b := 30) (show (30 : Int32) = nI 30 by decide) (by omega) (by omega)
    refine wx_i (y := nI r4) he6 ?_
    obtain ⟨ho, hJ1⟩ := JJ_wind hJ (x := nI r4) ⟨nI_pos' (by omega), (nI_leI (b := 40) (by omega) (by decide)).mpr (by omega)⟩
    refine x_callVXo (A1 := Bx S0.size [la, sa]) (As := [.int (nI r4)]) (rest := []) F hR.day rfl (c_X3_setWind l G (Bx S0.size [la, sa]) c (nI r4) hL0) k_L_44 ⟨⟨(Nat.le_of_ble_eq_true rfl), (Nat.le_of_ble_eq_true rfl)⟩, (by show k + 1 ≤ 600086; omega), (by show n + 6 ≤ 7301442; omega)⟩ dL_law_232 rfl rfl (Nat.le_of_ble_eq_true rfl) (fun q hq => hq.1) hW.fr hRb (fun H1 X1 h => h.2.1 (by rw [ho])) ?_
    rintro _ H1 ⟨-, rfl, hR1⟩ hz1 hk1
    rw [ho] at hR1
    have hW1 := hW.step hR1 hk1 hJ1 rfl rfl rfl (fun _ => rfl) (fun _ => rfl)
    refine x_pop F dL_law_235 rfl ?_
    exact J _ H1 hW1 rfl rfl
set_option maxHeartbeats 4000000 in
set_option maxRecDepth 100000 in
theorem la_1 (l : Launch) (hL0 : l.stackTraces = false) (G : GT) (E : WE) (S0 : Heap) (F : fx l room_1 G (fun q => S0.size ≤ q) S0 15 cL_law "GliderDayLaw" E) {xa la sa t : Nat} {c : CS} {k n : Nat} (hk : k + 6 ≤ 600086) (hn : n + 629 ≤ 7301442) {H : Heap} (hW : WL G S0.size xa la sa c H) (hnf : nf c ≤ t) (ht5 : t < 50) (J : ∀ (c1 : CS) (H1 : Heap) (X : Int32), WL G S0.size xa la sa c1 H1 → nf c1 ≤ t + 1 → cD c1 9 = cD c 9 → wx E H1 (k + 6) (n + 629) 209 [(0, .ref (G.2.2.2 0)), (1, .ref xa), (2, .ref la), (3, .ref sa), (6, .int (nI t)), (7, .int X)] []) : wx E H k n 76 [(0, .ref (G.2.2.2 0)), (1, .ref xa), (2, .ref la), (3, .ref sa), (6, .int (nI t))] [] := by
  obtain rfl : ad c 0 0 = xa := hW.2.2.2.2.1
  show wx E H k n 76 [(0, .ref (G.2.2.2 0)), (1, .ref (ad c 0 0)), (2, .ref la), (3, .ref sa), (6, .int (nI t))] []
  obtain ⟨hRb, ⟨fa, hLa, hfa⟩, ⟨fs, hSa, hfs⟩, hJ, -, ⟨hm1, hg1⟩⟩ := id hW
  have hR := hRb.all
  have hb := hW.bd
  have hI := hJ.2.1
  refine x_iload F dL_law_76 4 rfl ?_
  refine x_bipush (v := 50) F rfl dL_law_78 ?_
  refine x_icmp_ge F dL_law_80 (tgt := 561) (by decide) (fun h1 => absurd h1 (nI_ge (b := 50) ht5 (by decide))) (fun _ => ?_)
  refine x_aload_n F dL_law_83 0 rfl rfl ?_
  refine x_bipush (v := 7) F rfl dL_law_84 ?_
  refine x_iload F dL_law_86 4 rfl ?_
  refine x_bipush (v := 6) F rfl dL_law_88 ?_
  refine x_irem F dL_law_90 (by decide) ?_
  refine wx_i (y := nI (t % 6)) (rem_nI (b := 6) (by omega) (by decide)) ?_
  refine x_iadd F dL_law_91 ?_
  refine wx_i (y := nI (7 + t % 6)) (nI_add 7 _) ?_
  refine x_callSs (rest := []) F (c_L_cell l G _ (7 + t % 6) (by omega)) k_L_9 ⟨⟨(Nat.le_of_ble_eq_true rfl), (Nat.le_of_ble_eq_true rfl)⟩, (by omega : k ≤ 600086), (by omega : n ≤ 7301442)⟩ dL_law_92 rfl rfl (Nat.le_of_ble_eq_true rfl) trivial ?_
  rintro _ Hx ⟨v2, rfl, hHx⟩ - -
  rw [hHx]
  refine wx_kn (k2 := k) (n2 := n) rfl rfl ?_
  refine x_iload F dL_law_95 4 rfl ?_
  refine x_bipush (v := 6) F rfl dL_law_97 ?_
  refine x_idiv F dL_law_99 (by decide) ?_
  refine x_iconst (v := 3) F rfl dL_law_100 ?_
  refine x_imul F dL_law_101 ?_
  refine x_ishr F dL_law_102 ?_
  refine x_iload F dL_law_103 4 rfl ?_
  refine x_sipush (v := 7919) F rfl dL_law_105 ?_
  refine x_imul F dL_law_108 ?_
  refine x_ixor F dL_law_109 ?_
  obtain ⟨X, hX⟩ : ∃ X, (v2 >>> ((((nI t) / 6) * 3) &&& 31)) ^^^ ((nI t) * 7919) = X := ⟨_, rfl⟩
  refine wx_i hX ?_
  refine x_istore (lv' := [(7, .int X), (0, .ref (G.2.2.2 0)), (1, .ref (ad c 0 0)), (2, .ref la), (3, .ref sa), (6, .int (nI t))]) F dL_law_110 (by decide) rfl ?_
  refine x_iload F dL_law_112 0 rfl ?_
  refine x_aload_n F dL_law_114 3 rfl rfl ?_
  refine x_len F hLa dL_law_115 ?_
  refine x_callSp (rest := []) F (c_L_below l G _ X (nI (nm c)) (nI_nz (b := (nm c)) rfl (by omega) (by omega))) k_L_15 ⟨(Nat.le_of_ble_eq_true rfl), (Nat.le_of_ble_eq_true rfl), rfl, rfl⟩ (by omega : k ≤ 600086) (by omega : n ≤ 7301442) dL_law_116 rfl rfl (Nat.le_of_ble_eq_true rfl) trivial ?_
  obtain ⟨r3, hr4, he5⟩ := bl_in X (b := (nm c)) rfl (by omega) (by omega)
  refine wx_i (y := nI r3) he5 ?_
  refine x_istore (lv' := [(8, .int (nI r3)), (7, .int X), (0, .ref (G.2.2.2 0)), (1, .ref (ad c 0 0)), (2, .ref la), (3, .ref sa), (6, .int (nI t))]) F dL_law_119 (by decide) rfl ?_
  refine x_iload F dL_law_121 1 rfl ?_
  refine x_iconst (v := 4) F rfl dL_law_123 ?_
  refine x_ishr F dL_law_124 ?_
  refine x_aload_n F dL_law_125 4 rfl rfl ?_
  refine x_len F hLa dL_law_126 ?_
  refine x_iconst (v := 1) F rfl dL_law_127 ?_
  refine x_iadd F dL_law_128 ?_
  refine wx_i (y := nI (nm c + 1)) (nI_1 _) ?_
  refine x_callSp (rest := []) F (c_L_below l G _ (X >>> (4 &&& 31)) (nI (nm c + 1)) (nI_nz (b := (nm c + 1)) rfl (by omega) (by omega))) k_L_15 ⟨(Nat.le_of_ble_eq_true rfl), (Nat.le_of_ble_eq_true rfl), rfl, rfl⟩ (by omega : k ≤ 600086) (by omega : n ≤ 7301442) dL_law_129 rfl rfl (Nat.le_of_ble_eq_true rfl) trivial ?_
  obtain ⟨r6, hr7, he8⟩ := bl_in (X >>> (4 &&& 31)) (b := (nm c + 1)) rfl (by omega) (by omega)
  refine wx_i (y := nI r6) he8 ?_
  refine x_iconst (v := 1) F rfl dL_law_132 ?_
  refine x_isub F dL_law_133 ?_
  obtain ⟨z, hz, hz2⟩ := sec_z hr7
  refine wx_i hz ?_
  refine x_istore (lv' := [(9, .int z), (8, .int (nI r3)), (7, .int X), (0, .ref (G.2.2.2 0)), (1, .ref (ad c 0 0)), (2, .ref la), (3, .ref sa), (6, .int (nI t))]) F dL_law_134 (by decide) rfl ?_
  refine x_iload F dL_law_136 0 rfl ?_
  refine x_iload F dL_law_138 1 rfl ?_
  refine x_icmp_eq F dL_law_140 (tgt := 209) (by decide) (fun _ => ?_) (fun hne => ?_)
  · refine wx_sub (lv' := [(0, .ref (G.2.2.2 0)), (1, .ref (ad c 0 0)), (2, .ref la), (3, .ref sa), (6, .int (nI t)), (7, .int X)]) [3, 4, 5, 6, 7, 2] rfl ?_
    exact wx_wd (by omega) (by omega) (J c H X hW (by omega) rfl)
  · refine x_aload_n F dL_law_143 4 rfl rfl ?_
    refine x_iconst (v := 3) F rfl dL_law_144 ?_
    refine x_callVp (rest := []) F hR.day rfl (p_X3_count l G _ c 3 (by decide)) k_L_37 ⟨(Nat.le_of_ble_eq_true rfl), (Nat.le_of_ble_eq_true rfl), rfl, rfl⟩ (by omega : k ≤ 600086) (by omega : n ≤ 7301442) dL_law_145 rfl rfl (Nat.le_of_ble_eq_true rfl) hR ?_
    refine wx_i (y := nI (lst c).length) (cnt_3 _) ?_
    refine x_bipush (v := 30) F rfl dL_law_148 ?_
    refine x_icmp_ge F dL_law_150 (tgt := 209) (by decide) (fun _ => ?_) (fun hln => ?_)
    · refine wx_sub (lv' := [(0, .ref (G.2.2.2 0)), (1, .ref (ad c 0 0)), (2, .ref la), (3, .ref sa), (6, .int (nI t)), (7, .int X)]) [3, 4, 5, 6, 7, 2] rfl ?_
      exact wx_wd (by omega) (by omega) (J c H X hW (by omega) rfl)
    · refine x_aload_n F dL_law_153 4 rfl rfl ?_
      refine x_iload F dL_law_154 1 rfl ?_
      refine x_iload F dL_law_156 0 rfl ?_
      refine x_iload F dL_law_158 2 rfl ?_
      refine x_bipush (v := 8) F rfl dL_law_160 ?_
      refine x_ishr F dL_law_162 ?_
      refine x_aload_n F dL_law_163 6 rfl rfl ?_
      refine x_len F hSa dL_law_164 ?_
      refine x_callSp (rest := [.int z, .int (nI r3), .ref (ad c 0 0)]) F (c_L_below l G _ (X >>> (8 &&& 31)) (nI (ng c)) (nI_nz (b := (ng c)) rfl (by omega) (by omega))) k_L_15 ⟨(Nat.le_of_ble_eq_true rfl), (Nat.le_of_ble_eq_true rfl), rfl, rfl⟩ (by omega : k ≤ 600086) (by omega : n ≤ 7301442) dL_law_165 rfl rfl (Nat.le_of_ble_eq_true rfl) trivial ?_
      obtain ⟨r9, hr10, he11⟩ := bl_in (X >>> (8 &&& 31)) (b := (ng c)) rfl (by omega) (by omega)
      refine wx_i (y := nI r9) he11 ?_
      refine x_iload F dL_law_168 2 rfl ?_
      refine x_bipush (v := 11) F rfl dL_law_170 ?_
      refine x_ishr F dL_law_172 ?_
      refine x_iconst (v := 2) F rfl dL_law_173 ?_
      refine x_callSp (rest := [.int (nI r9), .int z, .int (nI r3), .ref (ad c 0 0)]) F (c_L_below l G _ (X >>> (11 &&& 31)) 2 (nI_nz (b := 2) (show (2 : Int32) = nI 2 by decide) (by omega) (by omega))) k_L_15 ⟨(Nat.le_of_ble_eq_true rfl), (Nat.le_of_ble_eq_true rfl), rfl, rfl⟩ (by omega : k ≤ 600086) (by omega : n ≤ 7301442) dL_law_174 rfl rfl (Nat.le_of_ble_eq_true rfl) trivial ?_
      obtain ⟨r12, hr13, he14⟩ := bl_in (X >>> (11 &&& 31)) (b := 2) (show (2 : Int32) = nI 2 by decide) (by omega) (by omega)
      refine wx_i (y := nI r12) he14 ?_
      refine x_sipush (v := 200) F rfl dL_law_177 ?_
      refine x_iload F dL_law_180 2 rfl ?_
      refine x_bipush (v := 12) F rfl dL_law_182 ?_
      refine x_ishr F dL_law_184 ?_
      refine x_sipush (v := 600) F rfl dL_law_185 ?_
      refine x_callSp (rest := [.int 200, .int (nI r12), .int (nI r9), .int z, .int (nI r3), .ref (ad c 0 0)]) F (c_L_below l G _ (X >>> (12 &&& 31)) 600 (nI_nz (b := 600) (show (600 : Int32) = nI 600 by decide) (by omega) (by omega))) k_L_15 ⟨(Nat.le_of_ble_eq_true rfl), (Nat.le_of_ble_eq_true rfl), rfl, rfl⟩ (by omega : k ≤ 600086) (by omega : n ≤ 7301442) dL_law_188 rfl rfl (Nat.le_of_ble_eq_true rfl) trivial ?_
      obtain ⟨r15, hr16, he17⟩ := bl_in (X >>> (12 &&& 31)) (b := 600) (show (600 : Int32) = nI 600 by decide) (by omega) (by omega)
      refine wx_i (y := nI r15) he17 ?_
      refine x_iadd F dL_law_191 ?_
      refine x_imul F dL_law_192 ?_
      refine x_iconst (v := 2) F rfl dL_law_193 ?_
      refine x_iload F dL_law_194 2 rfl ?_
      refine x_bipush (v := 9) F rfl dL_law_196 ?_
      refine x_ishr F dL_law_198 ?_
      refine x_bipush (v := 25) F rfl dL_law_199 ?_
      refine x_callSp (rest := [.int 2, .int ((nI r12) * (200 + (nI r15))), .int (nI r9), .int z, .int (nI r3), .ref (ad c 0 0)]) F (c_L_below l G _ (X >>> (9 &&& 31)) 25 (nI_nz (b := 25) (show (25 : Int32) = nI 25 by decide) (by omega) (by omega))) k_L_15 ⟨(Nat.le_of_ble_eq_true rfl), (Nat.le_of_ble_eq_true rfl), rfl, rfl⟩ (by omega : k ≤ 600086) (by omega : n ≤ 7301442) dL_law_201 rfl rfl (Nat.le_of_ble_eq_true rfl) trivial ?_
      obtain ⟨r18, hr19, he20⟩ := bl_in (X >>> (9 &&& 31)) (b := 25) (show (25 : Int32) = nI 25 by decide) (by omega) (by omega)
      refine wx_i (y := nI r18) he20 ?_
      refine x_iadd F dL_law_204 ?_
      have hll : (lst c).length < 30 := by
        have h30 : (lst c).length ≤ 30 := hI.1.2.2.2.2.2
        refine Nat.lt_of_not_le (fun q => hln ?_)
        exact (nI_leI (a := 30) (by decide) (by omega)).mpr q
      have hsz : z = -1 ∨ ∃ s, s < nm c ∧ s ≠ r3 ∧ z = nI s := by
        rcases hz2 with q | ⟨s, q1, q2⟩
        · exact Or.inl q
        · exact Or.inr ⟨s, q1, fun e => hne (by rw [q2, e]), q2⟩
      have hq0 := JJ_ask hJ hr4 hsz hr10 (ask_u hr13 hr16) (ask_n hr19) hll (by omega) 0
      have hqq := fun q => JJ_ask hJ hr4 hsz hr10 (ask_u hr13 hr16) (ask_n hr19) hll (by omega) q
      refine x_callVXo (A1 := Bx S0.size [la, sa]) (As := [.int (nI r3), .int z, .int (nI r9), .int ((nI r12) * (200 + (nI r15))), .int (2 + (nI r18))]) (rest := []) F hR.day rfl (c_X3_ask l G (Bx S0.size [la, sa]) c (nI r3) z (nI r9) ((nI r12) * (200 + (nI r15))) (2 + (nI r18)) hL0) k_L_40 ⟨⟨(Nat.le_of_ble_eq_true rfl), (Nat.le_of_ble_eq_true rfl)⟩, (by show k + 6 ≤ 600086; omega), (by show n + 629 ≤ 7301442; omega)⟩ dL_law_205 rfl rfl (Nat.le_of_ble_eq_true rfl) (fun q hq => hq.1) hW.fr hRb (fun H1 X1 h => h.2.1 (by obtain ⟨so, ho, -⟩ := hq0; rw [ho])) ?_
      rintro _ H1 ⟨q, -, rfl, hR1⟩ hz1 hk1
      obtain ⟨so, ho, hJ1⟩ := hqq q
      rw [ho] at hR1
      have hW1 := hW.step hR1 hk1 hJ1 rfl rfl rfl (fun _ => rfl) (fun _ => rfl)
      refine x_pop F dL_law_208 rfl ?_
      refine wx_sub (lv' := [(0, .ref (G.2.2.2 0)), (1, .ref (ad c 0 0)), (2, .ref la), (3, .ref sa), (6, .int (nI t)), (7, .int X)]) [3, 4, 5, 6, 7, 2] rfl ?_
      exact J _ H1 X hW1 (by show nf c + 1 ≤ t + 1; omega) rfl
/-- one time more -/
theorem la_it (l : Launch) (hL0 : l.stackTraces = false) (G : GT) (E : WE) (S0 : Heap) (F : fx l room_1 G (fun q => S0.size ≤ q) S0 15 cL_law "GliderDayLaw" E) {xa la sa t : Nat} {c : CS} {k n : Nat} (hk : k + 30 ≤ 600086) (hn : n + 1700 ≤ 7301442) {H : Heap} (hW : WL G S0.size xa la sa c H) (hnf : nf c ≤ t) (ht : tN (cD c 9) ≤ 6 * t) (ht5 : t < 50) (J : ∀ (c1 : CS) (H1 : Heap), WL G S0.size xa la sa c1 H1 → nf c1 ≤ t + 1 → tN (cD c1 9) ≤ 6 * (t + 1) → wx E H1 (k + 30) (n + 1700) 76 [(0, .ref (G.2.2.2 0)), (1, .ref xa), (2, .ref la), (3, .ref sa), (6, .int (nI (t + 1)))] []) : wx E H k n 76 [(0, .ref (G.2.2.2 0)), (1, .ref xa), (2, .ref la), (3, .ref sa), (6, .int (nI t))] [] :=
  la_1 l hL0 G E S0 F (by omega) (by omega) hW hnf ht5 (fun c1 H1 X hW1 hn1 hd1 =>
    la_2 l hL0 G E S0 F (by omega) (by omega) hW1 (fun c2 H2 hW2 hn2 hd2 =>
      la_3 l hL0 G E S0 F (by omega) (by omega) hW2 (by rw [hd2, hd1]; exact ht) ht5 (fun c3 H3 hW3 hn3 ht3 => wx_wd (by omega) (by omega) (J c3 H3 hW3 (by omega) ht3))))
set_option maxHeartbeats 4000000 in
theorem la_loop (l : Launch) (hL0 : l.stackTraces = false) (G : GT) (E : WE) (S0 : Heap) (F : fx l room_1 G (fun q => S0.size ≤ q) S0 15 cL_law "GliderDayLaw" E) {xa la sa : Nat} (hEnd : ∀ (H : Heap) (k n : Nat) (lv : List (Nat × Value)), k ≤ 600086 → n ≤ 7301442 → wx E H k n 881 lv [.int 1]) : ∀ (r t : Nat) (c : CS) (H : Heap), WL G S0.size xa la sa c H → nf c ≤ t → tN (cD c 9) ≤ 6 * t → t + r = 50 → wx E H (100 + 30 * t) (10000 + 1700 * t) 76 [(0, .ref (G.2.2.2 0)), (1, .ref xa), (2, .ref la), (3, .ref sa), (6, .int (nI t))] []
  | 0, t, c, H, hW, hnf, ht, hr => by
    obtain rfl : t = 50 := by omega
    obtain rfl : ad c 0 0 = xa := hW.2.2.2.2.1
    refine x_iload F dL_law_76 4 rfl ?_
    refine x_bipush (v := 50) F rfl dL_law_78 ?_
    refine x_icmp_ge F dL_law_80 (tgt := 561) (by decide) (fun _ => ?_) (fun h => absurd (Int32.le_refl _) h)
    refine wx_sub (lv' := [(0, .ref (G.2.2.2 0)), (1, .ref (ad c 0 0)), (2, .ref la), (3, .ref sa)]) [0, 1, 2, 3] rfl ?_
    exact le_Z l G E S0 F (by omega) (by omega) hW hEnd
  | r + 1, t, c, H, hW, hnf, ht, hr =>
    la_it l hL0 G E S0 F (by omega) (by omega) hW hnf ht (by omega) (fun c1 H1 hW1 hn1 ht1 => wx_wd (by omega) (by omega) (la_loop l hL0 G E S0 F hEnd r (t + 1) c1 H1 hW1 hn1 ht1 (by omega)))
end LA
