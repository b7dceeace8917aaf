/-! the law's people: members and gliders -/
section LP_
/-- the day with as many as there are so far, and the four arrays -/
def WP (G : GT) (z xa la sa ra li N1 N2 : Nat) (c : CS) (H : Heap) : Prop := Rep G (Bx z [la, sa, ra, li]) c H ∧ (∃ f, vt G la (iA G N1 f) H ∧ ∀ i, i < nm c → f i = cM c i 1) ∧ (∃ f, vt G sa (iA G N2 f) H ∧ ∀ g, g < ng c → f g = cG c g 1) ∧ (∃ f, vt G ra (iA G N2 f) H) ∧ (∃ f, vt G li (iA G N2 f) H) ∧ JJ c ∧ ad c 0 0 = xa ∧ nf c = 0 ∧ s_tk c = 0 ∧ cD c 9 = 0
/-- the arrays are apart, and the law's own -/
def WPd (z la sa ra li : Nat) : Prop := (la ≠ sa ∧ la ≠ ra ∧ la ≠ li ∧ sa ≠ ra ∧ sa ≠ li ∧ ra ≠ li) ∧ z ≤ la ∧ z ≤ sa ∧ z ≤ ra ∧ z ≤ li
section
variable {G : GT} {z xa la sa ra li N1 N2 : Nat} {c : CS} {H H1 : Heap}
theorem WP.fr (h : WP G z xa la sa ra li N1 N2 c H) : ∀ q, H.size ≤ q → Bx z [la, sa, ra, li] q := fun q hq => by
  obtain ⟨h1, ⟨f, h2, -⟩, ⟨g, h3, -⟩, ⟨_, h4⟩, ⟨_, h5⟩, -⟩ := h
  have a := h2.lt
  have b := h3.lt
  have d := h4.lt
  have e := h5.lt
  refine ⟨Nat.le_trans h1.zle hq, fun x => ?_⟩
  simp only [List.mem_cons, List.not_mem_nil, or_false] at x
  omega
theorem rg {a r m : Nat} (h : a + r ≤ m) (hm : m < 2 ^ 31) : nI a ≤ nI a + nI r ∧ nI a + nI r ≤ nI m := by
  rw [nI_add]
  exact ⟨(nI_leI (by omega) (by omega)).mpr (by omega), (nI_leI (by omega) hm).mpr h⟩
theorem upd_eq {f : Nat → Int32} {j : Nat} {v : Int32} : upd f j v j = v := if_pos rfl
theorem upd_ne {f : Nat → Int32} {i j : Nat} {v : Int32} (h : i ≠ j) : upd f j v i = f i := if_neg h
theorem WP.mem (h : WP G z xa la sa ra li N1 N2 c H) {v : Int32} {q : Nat} {f : Nat → Int32} (hf : ∀ i, i < nm c → f i = cM c i 1) (hR : Rep G (Bx z [la, sa, ra, li]) (e_mem c v q) H1) (hv : vt G la (iA G N1 (upd f (nm c) v)) H) (hk : ∀ q : Nat, q < H.size → ¬ Bx z [la, sa, ra, li] q → H1[q]? = H[q]?) (hJ : JJ (e_mem c v q)) : WP G z xa la sa ra li N1 N2 (e_mem c v q) H1 := by
  obtain ⟨h1, -, ⟨g, h4, h5⟩, ⟨_, h6⟩, ⟨_, h7⟩, -, h8, h9⟩ := h
  refine ⟨hR, ⟨_, hv.oth (by simp) hk, fun i hi => ?_⟩, ⟨g, h4.oth (by simp) hk, h5⟩, ⟨_, h6.oth (by simp) hk⟩, ⟨_, h7.oth (by simp) hk⟩, hJ, h8, h9⟩
  replace hi : i < nm c + 1 := hi
  show upd f (nm c) v i = if i = nm c then (if 1 = 1 then v else 0) else cM c i 1
  by_cases e : i = nm c
  · rw [if_pos e, e, upd_eq, if_pos rfl]
  · rw [if_neg e, upd_ne e]
    exact hf i (by omega)
theorem WP.gli (h : WP G z xa la sa ra li N1 N2 c H) {s1 r1 m1 : Int32} {q : Nat} {f : Nat → Int32} (hf : ∀ i, i < ng c → f i = cG c i 1) (hR : Rep G (Bx z [la, sa, ra, li]) (e_gli c s1 r1 m1 q) H1) (hv : vt G sa (iA G N2 (upd f (ng c) s1)) H) (hk : ∀ q : Nat, q < H.size → ¬ Bx z [la, sa, ra, li] q → H1[q]? = H[q]?) (hJ : JJ (e_gli c s1 r1 m1 q)) : WP G z xa la sa ra li N1 N2 (e_gli c s1 r1 m1 q) H1 := by
  obtain ⟨h1, ⟨g, h4, h5⟩, -, ⟨_, h6⟩, ⟨_, h7⟩, -, h8, h9⟩ := h
  refine ⟨hR, ⟨g, h4.oth (by simp) hk, h5⟩, ⟨_, hv.oth (by simp) hk, fun i hi => ?_⟩, ⟨_, h6.oth (by simp) hk⟩, ⟨_, h7.oth (by simp) hk⟩, hJ, h8, h9⟩
  replace hi : i < ng c + 1 := hi
  show upd f (ng c) s1 i = if i = ng c then (if 1 = 1 then s1 else if 1 = 2 then r1 else if 1 = 3 then m1 else 0) else cG c i 1
  by_cases e : i = ng c
  · rw [if_pos e, e, upd_eq, if_pos rfl]
  · rw [if_neg e, upd_ne e]
    exact hf i (by omega)
/-- an array of the four is written -/
theorem WP.setL (h : WP G z xa la sa ra li N1 N2 c H) (hd : WPd z la sa ra li) {f : Nat → Int32} (hs : hset H la H1) (hv : vt G la (iA G N1 f) H1) (hf : ∀ i, i < nm c → f i = cM c i 1) : WP G z xa la sa ra li N1 N2 c H1 := by
  obtain ⟨h1, -, ⟨g, h4, h5⟩, ⟨_, h6⟩, ⟨_, h7⟩, h8⟩ := h
  exact ⟨h1.arr (by simp) hs, ⟨f, hv, hf⟩, ⟨g, h4.oth2 hd.1.1.symm hs, h5⟩, ⟨_, h6.oth2 hd.1.2.1.symm hs⟩, ⟨_, h7.oth2 hd.1.2.2.1.symm hs⟩, h8⟩
theorem WP.setS (h : WP G z xa la sa ra li N1 N2 c H) (hd : WPd z la sa ra li) {f : Nat → Int32} (hs : hset H sa H1) (hv : vt G sa (iA G N2 f) H1) (hf : ∀ i, i < ng c → f i = cG c i 1) : WP G z xa la sa ra li N1 N2 c H1 := by
  obtain ⟨h1, ⟨g, h4, h5⟩, -, ⟨_, h6⟩, ⟨_, h7⟩, h8⟩ := h
  exact ⟨h1.arr (by simp) hs, ⟨g, h4.oth2 hd.1.1 hs, h5⟩, ⟨f, hv, hf⟩, ⟨_, h6.oth2 hd.1.2.2.2.1.symm hs⟩, ⟨_, h7.oth2 hd.1.2.2.2.2.1.symm hs⟩, h8⟩
theorem WP.setR (h : WP G z xa la sa ra li N1 N2 c H) (hd : WPd z la sa ra li) {f : Nat → Int32} (hs : hset H ra H1) (hv : vt G ra (iA G N2 f) H1) : WP G z xa la sa ra li N1 N2 c H1 := by
  obtain ⟨h1, ⟨g, h4, h5⟩, ⟨g2, h6, h7⟩, -, ⟨_, h9⟩, h8⟩ := h
  exact ⟨h1.arr (by simp) hs, ⟨g, h4.oth2 hd.1.2.1 hs, h5⟩, ⟨g2, h6.oth2 hd.1.2.2.2.1 hs, h7⟩, ⟨f, hv⟩, ⟨_, h9.oth2 hd.1.2.2.2.2.2.symm hs⟩, h8⟩
theorem WP.setI (h : WP G z xa la sa ra li N1 N2 c H) (hd : WPd z la sa ra li) {f : Nat → Int32} (hs : hset H li H1) (hv : vt G li (iA G N2 f) H1) : WP G z xa la sa ra li N1 N2 c H1 := by
  obtain ⟨h1, ⟨g, h4, h5⟩, ⟨g2, h6, h7⟩, ⟨_, h9⟩, -, h8⟩ := h
  exact ⟨h1.arr (by simp) hs, ⟨g, h4.oth2 hd.1.2.2.1 hs, h5⟩, ⟨g2, h6.oth2 hd.1.2.2.2.2.1 hs, h7⟩, ⟨_, h9.oth2 hd.1.2.2.2.2.2 hs⟩, ⟨f, hv⟩, h8⟩
end
theorem k_L_19 : cwV_ "GliderDayLaw" 19 "GliderDay" yX3_addMember cX3_addMember 3 (some .int) 1 := ⟨mw_549, mw_550, mw_551, mw_28, mw_552, ⟨by decide +kernel, by decide +kernel, by decide +kernel⟩⟩
theorem k_L_25 : cwV_ "GliderDayLaw" 25 "GliderDay" yX3_addGlider cX3_addGlider 5 (some .int) 3 := ⟨mw_587, mw_588, mw_589, mw_28, mw_590, ⟨by decide +kernel, by decide +kernel, by decide +kernel⟩⟩
set_option maxHeartbeats 4000000 in
set_option maxRecDepth 100000 in
theorem lp_1 (l : Launch) (hL0 : l.stackTraces = false) (G : GT) (E : WE) (z : Nat) (S0 : Heap) (F : fx l ({ frames := 8, cells := 60, slots := 8000, locals := 250 } : Room) G (fun q => z ≤ q) S0 8 cL_people "GliderDayLaw" E) {xa la sa ra li N1 N2 : Nat} (hd : WPd z la sa ra li) (hN1 : N1 ≤ 16) (hN2 : N2 ≤ 8) (J : ∀ (c : CS) (H : Heap), WP G z xa la sa ra li N1 N2 c H → nm c = N1 → ng c = 0 → wx E H (2 * N1) (308 * N1) 54 [(0, .ref xa), (1, .ref (G.2.2.2 0)), (2, .ref la), (3, .ref sa), (4, .ref ra), (5, .ref li), (6, .int (nI N1))] []) : ∀ (r j : Nat) (c : CS) (H : Heap), WP G z xa la sa ra li N1 N2 c H → nm c = j → ng c = 0 → j + r = N1 → wx E H (2 * j) (308 * j) 3 [(0, .ref xa), (1, .ref (G.2.2.2 0)), (2, .ref la), (3, .ref sa), (4, .ref ra), (5, .ref li), (6, .int (nI j))] []
  | 0, j, c, H, hW, hnm, hng, hj => by
    obtain rfl : j = N1 := by omega
    show wx E H (2 * j) (308 * j) 3 [(0, .ref xa), (1, .ref (G.2.2.2 0)), (2, .ref la), (3, .ref sa), (4, .ref ra), (5, .ref li), (6, .int (nI j))] []
    obtain ⟨hRb, ⟨fa, hLa, hfa⟩, ⟨fs, hSa, hfs⟩, ⟨fr, hRa⟩, ⟨fi, hLi⟩, hJ, -, hz, htk, htm⟩ := id hW
    have hR := hRb.all
    refine x_iload F dL_people_3 6 rfl ?_
    refine x_aload_n F dL_people_5 2 rfl rfl ?_
    refine x_len F hLa dL_people_6 ?_
    refine x_icmp_ge F dL_people_7 (tgt := 54) (by decide) (fun _ => ?_) (fun h => absurd (Int32.le_refl _) h)
    exact J c H hW (by omega) hng
  | r + 1, j, c, H, hW, hnm, hng, hj => by
    have ih := lp_1 l hL0 G E z S0 F hd hN1 hN2 J r (j + 1)
    obtain rfl : ad c 0 0 = xa := hW.2.2.2.2.2.2.1
    show wx E H (2 * j) (308 * j) 3 [(0, .ref (ad c 0 0)), (1, .ref (G.2.2.2 0)), (2, .ref la), (3, .ref sa), (4, .ref ra), (5, .ref li), (6, .int (nI j))] []
    obtain ⟨hRb, ⟨fa, hLa, hfa⟩, ⟨fs, hSa, hfs⟩, ⟨fr, hRa⟩, ⟨fi, hLi⟩, hJ, -, hz, htk, htm⟩ := id hW
    have hR := hRb.all
    have J38 : ∀ lv : Int32, 0 ≤ lv ∧ lv ≤ 3 → wx E H (2 * j) (308 * j) 38 [(0, .ref (ad c 0 0)), (1, .ref (G.2.2.2 0)), (2, .ref la), (3, .ref sa), (4, .ref ra), (5, .ref li), (6, .int (nI j))] [.int lv, .int (nI j), .ref la] := fun lv hlv => by
      refine x_st F hLa hd.2.1 (j := j) (by omega) (by omega) dL_people_38 (fun H1 uu1 s1 => ?_)
      have hLa1 := uu1
      have hSa1 := hSa.oth2 (hd.1.1.symm) s1
      have hRa1 := hRa.oth2 (hd.1.2.1.symm) s1
      have hLi1 := hLi.oth2 (hd.1.2.2.1.symm) s1
      have hW1 := hW.setL hd s1 uu1 (fun i hi => (upd_ne (by omega)).trans (hfa i hi))
      have hR1 := hW1.1.all
      refine x_aload_n F dL_people_39 0 rfl rfl ?_
      refine x_aload_n F dL_people_40 2 rfl rfl ?_
      refine x_iload F dL_people_41 6 rfl ?_
      refine x_ld F hLa1 (j := j) (by omega) (by omega) dL_people_43 ?_
      refine wx_i (y := lv) (upd_eq) ?_
      have hqq := fun q => JJ_mem (c := c) (v := lv) hJ hlv (by omega) hz q
      refine x_callVXo (A1 := Bx z [la, sa, ra, li]) (As := [.int lv]) (rest := []) F hR1.day rfl (c_X3_addMember l G (Bx z [la, sa, ra, li]) c lv hL0) k_L_19 ⟨⟨(Nat.le_of_ble_eq_true rfl), (Nat.le_of_ble_eq_true rfl)⟩, (by show (2 * j) + 2 ≤ 60; omega), (by show (308 * j) + 308 ≤ 8000; omega)⟩ dL_people_44 rfl rfl (Nat.le_of_ble_eq_true rfl) (fun q hq => hq.1) hW1.fr hW1.1 (fun H1 X1 h => h.2.1 (by rw [(hqq 0).1])) ?_
      rintro _ H2 ⟨q, -, rfl, hR9⟩ hz2 hk2
      obtain ⟨ho, hJ2⟩ := hqq q
      rw [ho] at hR9
      have hW9 := hW1.mem hfa hR9 (by rw [hnm]; exact hLa1) hk2 hJ2
      refine x_pop F dL_people_47 rfl ?_
      refine x_iinc (j := 6) (v := nI (j + 1)) (lv' := [(6, .int (nI (j + 1))), (0, .ref (ad c 0 0)), (1, .ref (G.2.2.2 0)), (2, .ref la), (3, .ref sa), (4, .ref ra), (5, .ref li)]) F dL_people_48 rfl (nI_1 _) (by decide) rfl ?_
      refine x_goto F dL_people_51 (tgt := 3) (by decide) ?_
      refine wx_sub (lv' := [(0, .ref (ad c 0 0)), (1, .ref (G.2.2.2 0)), (2, .ref la), (3, .ref sa), (4, .ref ra), (5, .ref li), (6, .int (nI (j + 1)))]) [1, 2, 3, 4, 5, 6, 0] rfl ?_
      exact wx_wd (by show 2 * j + 2 ≤ 2 * (j + 1); omega) (by show 308 * j + 308 ≤ 308 * (j + 1); omega) (ih _ H2 hW9 (by show nm c + 1 = j + 1; omega) hng (by omega))
    refine x_iload F dL_people_3 6 rfl ?_
    refine x_aload_n F dL_people_5 2 rfl rfl ?_
    refine x_len F hLa dL_people_6 ?_
    refine x_icmp_ge F dL_people_7 (tgt := 54) (by decide) (fun h1 => absurd h1 (nI_ge (b := N1) (by omega) (by omega))) (fun _ => ?_)
    refine x_aload_n F dL_people_10 2 rfl rfl ?_
    refine x_iload F dL_people_11 6 rfl ?_
    refine x_iload F dL_people_13 6 rfl ?_
    refine x_iconst (v := 2) F rfl dL_people_15 ?_
    refine x_icmp_ge F dL_people_16 (tgt := 23) (by decide) (fun _ => ?_) (fun _ => ?_)
    · refine x_aload_n F dL_people_23 1 rfl rfl ?_
      refine x_iload F dL_people_24 6 rfl ?_
      refine x_iconst (v := 4) F rfl dL_people_26 ?_
      refine x_irem F dL_people_27 (by decide) ?_
      refine wx_i (y := nI (j % 4)) (rem_nI (b := 4) (by omega) (by decide)) ?_
      refine x_callSs (rest := [.int (nI j), .ref la]) F (c_L_cell l G _ (j % 4) (by omega)) k_L_9 ⟨⟨(Nat.le_of_ble_eq_true rfl), (Nat.le_of_ble_eq_true rfl)⟩, (by show 2 * j ≤ 60; omega), (by show 308 * j ≤ 8000; omega)⟩ dL_people_28 rfl rfl (Nat.le_of_ble_eq_true rfl) trivial ?_
      rintro _ Hx ⟨v2, rfl, hHx⟩ - -
      rw [hHx]
      refine wx_kn (k2 := (2 * j)) (n2 := (308 * j)) rfl rfl ?_
      refine x_iload F dL_people_31 6 rfl ?_
      refine x_ishr F dL_people_33 ?_
      refine x_iconst (v := 4) F rfl dL_people_34 ?_
      refine x_callSp (rest := [.int (nI j), .ref la]) F (c_L_below l G _ (v2 >>> ((nI j) &&& 31)) 4 (nI_nz (b := 4) (show (4 : Int32) = nI 4 by decide) (by omega) (by omega))) k_L_15 ⟨(Nat.le_of_ble_eq_true rfl), (Nat.le_of_ble_eq_true rfl), rfl, rfl⟩ (by show 2 * j ≤ 60; omega) (by show 308 * j ≤ 8000; omega) dL_people_35 rfl rfl (Nat.le_of_ble_eq_true rfl) trivial ?_
      obtain ⟨r3, hr4, he5⟩ := bl_in (v2 >>> ((nI j) &&& 31)) (b := 4) (show (4 : Int32) = nI 4 by decide) (by omega) (by omega)
      refine wx_i (y := nI r3) he5 ?_
      exact J38 _ ⟨nI_pos' (by omega), (nI_leI (b := 3) (by omega) (by decide)).mpr (by omega)⟩
    · refine x_iconst (v := 3) F rfl dL_people_19 ?_
      refine x_goto F dL_people_20 (tgt := 38) (by decide) ?_
      exact J38 3 (by decide)
set_option maxHeartbeats 4000000 in
set_option maxRecDepth 100000 in
theorem lp_2 (l : Launch) (hL0 : l.stackTraces = false) (G : GT) (E : WE) (z : Nat) (S0 : Heap) (F : fx l ({ frames := 8, cells := 60, slots := 8000, locals := 250 } : Room) G (fun q => z ≤ q) S0 8 cL_people "GliderDayLaw" E) {xa la sa ra li N1 N2 : Nat} (hd : WPd z la sa ra li) (hN1 : N1 ≤ 16) (hN2 : N2 ≤ 8) (J : ∀ (c : CS) (H : Heap), WP G z xa la sa ra li N1 N2 c H → nm c = N1 → ng c = N2 → wx E H (2 * N1 + 2 * N2) (308 * N1 + 310 * N2) 146 [(0, .ref xa), (1, .ref (G.2.2.2 0)), (2, .ref la), (3, .ref sa), (4, .ref ra), (5, .ref li), (6, .int (nI N2))] []) : ∀ (r j : Nat) (c : CS) (H : Heap), WP G z xa la sa ra li N1 N2 c H → nm c = N1 → ng c = j → j + r = N2 → wx E H (2 * N1 + 2 * j) (308 * N1 + 310 * j) 57 [(0, .ref xa), (1, .ref (G.2.2.2 0)), (2, .ref la), (3, .ref sa), (4, .ref ra), (5, .ref li), (6, .int (nI j))] []
  | 0, j, c, H, hW, hnm, hng, hj => by
    obtain rfl : j = N2 := by omega
    show wx E H (2 * N1 + 2 * j) (308 * N1 + 310 * j) 57 [(0, .ref xa), (1, .ref (G.2.2.2 0)), (2, .ref la), (3, .ref sa), (4, .ref ra), (5, .ref li), (6, .int (nI j))] []
    obtain ⟨hRb, ⟨fa, hLa, hfa⟩, ⟨fs, hSa, hfs⟩, ⟨fr, hRa⟩, ⟨fi, hLi⟩, hJ, -, hz, htk, htm⟩ := id hW
    have hR := hRb.all
    refine x_iload F dL_people_57 6 rfl ?_
    refine x_aload_n F dL_people_59 3 rfl rfl ?_
    refine x_len F hSa dL_people_60 ?_
    refine x_icmp_ge F dL_people_61 (tgt := 146) (by decide) (fun _ => ?_) (fun h => absurd (Int32.le_refl _) h)
    exact J c H hW hnm (by omega)
  | r + 1, j, c, H, hW, hnm, hng, hj => by
    have ih := lp_2 l hL0 G E z S0 F hd hN1 hN2 J r (j + 1)
    obtain rfl : ad c 0 0 = xa := hW.2.2.2.2.2.2.1
    show wx E H (2 * N1 + 2 * j) (308 * N1 + 310 * j) 57 [(0, .ref (ad c 0 0)), (1, .ref (G.2.2.2 0)), (2, .ref la), (3, .ref sa), (4, .ref ra), (5, .ref li), (6, .int (nI j))] []
    obtain ⟨hRb, ⟨fa, hLa, hfa⟩, ⟨fs, hSa, hfs⟩, ⟨fr, hRa⟩, ⟨fi, hLi⟩, hJ, -, hz, htk, htm⟩ := id hW
    have hR := hRb.all
    refine x_iload F dL_people_57 6 rfl ?_
    refine x_aload_n F dL_people_59 3 rfl rfl ?_
    refine x_len F hSa dL_people_60 ?_
    refine x_icmp_ge F dL_people_61 (tgt := 146) (by decide) (fun h1 => absurd h1 (nI_ge (b := N2) (by omega) (by omega))) (fun _ => ?_)
    refine x_aload_n F dL_people_64 1 rfl rfl ?_
    refine x_iconst (v := 4) F rfl dL_people_65 ?_
    refine x_iload F dL_people_66 6 rfl ?_
    refine x_iconst (v := 3) F rfl dL_people_68 ?_
    refine x_irem F dL_people_69 (by decide) ?_
    refine wx_i (y := nI (j % 3)) (rem_nI (b := 3) (by omega) (by decide)) ?_
    refine x_iadd F dL_people_70 ?_
    refine wx_i (y := nI (4 + j % 3)) (nI_add 4 _) ?_
    refine x_callSs (rest := []) F (c_L_cell l G _ (4 + j % 3) (by omega)) k_L_9 ⟨⟨(Nat.le_of_ble_eq_true rfl), (Nat.le_of_ble_eq_true rfl)⟩, (by show 2 * N1 + 2 * j ≤ 60; omega), (by show 308 * N1 + 310 * j ≤ 8000; omega)⟩ dL_people_71 rfl rfl (Nat.le_of_ble_eq_true rfl) trivial ?_
    rintro _ Hx ⟨v2, rfl, hHx⟩ - -
    rw [hHx]
    refine wx_kn (k2 := (2 * N1 + 2 * j)) (n2 := (308 * N1 + 310 * j)) rfl rfl ?_
    refine x_istore (lv' := [(7, .int v2), (0, .ref (ad c 0 0)), (1, .ref (G.2.2.2 0)), (2, .ref la), (3, .ref sa), (4, .ref ra), (5, .ref li), (6, .int (nI j))]) F dL_people_74 (by decide) rfl ?_
    refine x_aload_n F dL_people_76 4 rfl rfl ?_
    refine x_iload F dL_people_77 7 rfl ?_
    refine x_iconst (v := 1) F rfl dL_people_79 ?_
    refine x_iload F dL_people_80 0 rfl ?_
    refine x_iconst (v := 2) F rfl dL_people_82 ?_
    refine x_callSp (rest := [.int 1, .int (nI j), .ref sa]) F (c_L_below l G _ v2 2 (nI_nz (b := 2) (show (2 : Int32) = nI 2 by decide) (by omega) (by omega))) k_L_15 ⟨(Nat.le_of_ble_eq_true rfl), (Nat.le_of_ble_eq_true rfl), rfl, rfl⟩ (by show 2 * N1 + 2 * j ≤ 60; omega) (by show 308 * N1 + 310 * j ≤ 8000; omega) dL_people_83 rfl rfl (Nat.le_of_ble_eq_true rfl) trivial ?_
    obtain ⟨r3, hr4, he5⟩ := bl_in v2 (b := 2) (show (2 : Int32) = nI 2 by decide) (by omega) (by omega)
    refine wx_i (y := nI r3) he5 ?_
    refine x_iadd F dL_people_86 ?_
    refine x_st F hSa hd.2.2.1 (j := j) (by omega) (by omega) dL_people_87 (fun H1 uu1 s1 => ?_)
    have hLa1 := hLa.oth2 (hd.1.1) s1
    have hSa1 := uu1
    have hRa1 := hRa.oth2 (hd.1.2.2.2.1.symm) s1
    have hLi1 := hLi.oth2 (hd.1.2.2.2.2.1.symm) s1
    have hW1 := hW.setS hd s1 uu1 (fun i hi => (upd_ne (by omega)).trans (hfs i hi))
    have hR1 := hW1.1.all
    refine x_aload F dL_people_88 5 rfl ?_
    refine x_iload F dL_people_90 7 rfl ?_
    refine x_iconst (v := 1) F rfl dL_people_92 ?_
    refine x_iload F dL_people_93 0 rfl ?_
    refine x_iconst (v := 2) F rfl dL_people_95 ?_
    refine x_ishr F dL_people_96 ?_
    refine x_bipush (v := 50) F rfl dL_people_97 ?_
    refine x_callSp (rest := [.int 1, .int (nI j), .ref ra]) F (c_L_below l G _ (v2 >>> (2 &&& 31)) 50 (nI_nz (b := 50) (show (50 : Int32) = nI 50 by decide) (by omega) (by omega))) k_L_15 ⟨(Nat.le_of_ble_eq_true rfl), (Nat.le_of_ble_eq_true rfl), rfl, rfl⟩ (by show 2 * N1 + 2 * j ≤ 60; omega) (by show 308 * N1 + 310 * j ≤ 8000; omega) dL_people_99 rfl rfl (Nat.le_of_ble_eq_true rfl) trivial ?_
    obtain ⟨r6, hr7, he8⟩ := bl_in (v2 >>> (2 &&& 31)) (b := 50) (show (50 : Int32) = nI 50 by decide) (by omega) (by omega)
    refine wx_i (y := nI r6) he8 ?_
    refine x_iadd F dL_people_102 ?_
    refine x_st F hRa1 hd.2.2.2.1 (j := j) (by omega) (by omega) dL_people_103 (fun H2 uu2 s2 => ?_)
    have hLa2 := hLa1.oth2 (hd.1.2.1) s2
    have hSa2 := hSa1.oth2 (hd.1.2.2.2.1) s2
    have hRa2 := uu2
    have hLi2 := hLi1.oth2 (hd.1.2.2.2.2.2.symm) s2
    have hW2 := hW1.setR hd s2 uu2 
    have hR2 := hW2.1.all
    refine x_aload F dL_people_104 6 rfl ?_
    refine x_iload F dL_people_106 7 rfl ?_
    refine x_iconst (v := 5) F rfl dL_people_108 ?_
    refine x_iload F dL_people_109 0 rfl ?_
    refine x_bipush (v := 8) F rfl dL_people_111 ?_
    refine x_ishr F dL_people_113 ?_
    refine x_bipush (v := 36) F rfl dL_people_114 ?_
    refine x_callSp (rest := [.int 5, .int (nI j), .ref li]) F (c_L_below l G _ (v2 >>> (8 &&& 31)) 36 (nI_nz (b := 36) (show (36 : Int32) = nI 36 by decide) (by omega) (by omega))) k_L_15 ⟨(Nat.le_of_ble_eq_true rfl), (Nat.le_of_ble_eq_true rfl), rfl, rfl⟩ (by show 2 * N1 + 2 * j ≤ 60; omega) (by show 308 * N1 + 310 * j ≤ 8000; omega) dL_people_116 rfl rfl (Nat.le_of_ble_eq_true rfl) trivial ?_
    obtain ⟨r9, hr10, he11⟩ := bl_in (v2 >>> (8 &&& 31)) (b := 36) (show (36 : Int32) = nI 36 by decide) (by omega) (by omega)
    refine wx_i (y := nI r9) he11 ?_
    refine x_iadd F dL_people_119 ?_
    refine x_st F hLi2 hd.2.2.2.2 (j := j) (by omega) (by omega) dL_people_120 (fun H3 uu3 s3 => ?_)
    have hLa3 := hLa2.oth2 (hd.1.2.2.1) s3
    have hSa3 := hSa2.oth2 (hd.1.2.2.2.2.1) s3
    have hRa3 := hRa2.oth2 (hd.1.2.2.2.2.2) s3
    have hLi3 := uu3
    have hW3 := hW2.setI hd s3 uu3 
    have hR3 := hW3.1.all
    refine x_aload_n F dL_people_121 1 rfl rfl ?_
    refine x_aload_n F dL_people_122 4 rfl rfl ?_
    refine x_iload F dL_people_123 7 rfl ?_
    refine x_ld F hSa3 (j := j) (by omega) (by omega) dL_people_125 ?_
    refine wx_i (y := 1 + (nI r3)) (upd_eq) ?_
    refine x_aload F dL_people_126 5 rfl ?_
    refine x_iload F dL_people_128 7 rfl ?_
    refine x_ld F hRa3 (j := j) (by omega) (by omega) dL_people_130 ?_
    refine wx_i (y := 1 + (nI r6)) (upd_eq) ?_
    refine x_aload F dL_people_131 6 rfl ?_
    refine x_iload F dL_people_133 7 rfl ?_
    refine x_ld F hLi3 (j := j) (by omega) (by omega) dL_people_135 ?_
    refine wx_i (y := 5 + (nI r9)) (upd_eq) ?_
    have hqq := fun q => JJ_gli (c := c) (s1 := 1 + (nI r3)) (r1 := 1 + (nI r6)) (m1 := 5 + (nI r9)) hJ (rg (a := 1) (m := 2) (by have := hr4; omega) (by decide)) (rg (a := 1) (m := 50) (by have := hr7; omega) (by decide)) (rg (a := 5) (m := 40) (by have := hr10; omega) (by decide)) (by omega) hz q
    refine x_callVXo (A1 := Bx z [la, sa, ra, li]) (As := [.int (1 + (nI r3)), .int (1 + (nI r6)), .int (5 + (nI r9))]) (rest := []) F hR3.day rfl (c_X3_addGlider l G (Bx z [la, sa, ra, li]) c (1 + (nI r3)) (1 + (nI r6)) (5 + (nI r9)) hL0) k_L_25 ⟨⟨(Nat.le_of_ble_eq_true rfl), (Nat.le_of_ble_eq_true rfl)⟩, (by show (2 * N1 + 2 * j) + 2 ≤ 60; omega), (by show (308 * N1 + 310 * j) + 310 ≤ 8000; omega)⟩ dL_people_136 rfl rfl (Nat.le_of_ble_eq_true rfl) (fun q hq => hq.1) hW3.fr hW3.1 (fun H1 X1 h => h.2.1 (by rw [(hqq 0).1])) ?_
    rintro _ H4 ⟨q, -, rfl, hR9⟩ hz2 hk2
    obtain ⟨ho, hJ2⟩ := hqq q
    rw [ho] at hR9
    have hW9 := hW3.gli hfs hR9 (by rw [hng]; exact hSa3) hk2 hJ2
    refine x_pop F dL_people_139 rfl ?_
    refine x_iinc (j := 7) (v := nI (j + 1)) (lv' := [(6, .int (nI (j + 1))), (7, .int v2), (0, .ref (ad c 0 0)), (1, .ref (G.2.2.2 0)), (2, .ref la), (3, .ref sa), (4, .ref ra), (5, .ref li)]) F dL_people_140 rfl (nI_1 _) (by decide) rfl ?_
    refine x_goto F dL_people_143 (tgt := 57) (by decide) ?_
    refine wx_sub (lv' := [(0, .ref (ad c 0 0)), (1, .ref (G.2.2.2 0)), (2, .ref la), (3, .ref sa), (4, .ref ra), (5, .ref li), (6, .int (nI (j + 1)))]) [2, 3, 4, 5, 6, 7, 0] rfl ?_
    exact wx_wd (by show 2 * N1 + 2 * j + 2 ≤ 2 * N1 + 2 * (j + 1); omega) (by show 308 * N1 + 310 * j + 310 ≤ 308 * N1 + 310 * (j + 1); omega) (ih _ H4 hW9 hnm (by show ng c + 1 = j + 1; omega) (by omega))
set_option maxHeartbeats 4000000 in
theorem c_L_people (l : Launch) (hL0 : l.stackTraces = false) (G : GT) (z : Nat) {xa la sa ra li N1 N2 : Nat} (hd : WPd z la sa ra li) (hN1 : N1 ≤ 16) (hN2 : N2 ≤ 8) (c : CS) (hnm : nm c = 0) (hng : ng c = 0) : Ct l yL_people cL_people 8 none ({ frames := 8, cells := 60, slots := 8000, locals := 250 } : Room) G (fun q => z ≤ q) [.ref xa, .ref (G.2.2.2 0), .ref la, .ref sa, .ref ra, .ref li] (fun H => WP G z xa la sa ra li N1 N2 c H) (fun H r H1 => r = none ∧ ∃ c1, WP G z xa la sa ra li N1 N2 c1 H1 ∧ nm c1 = N1 ∧ ng c1 = N2) := by
  refine ct_of (own := "GliderDayLaw") (by decide +kernel) rfl (Nat.le_of_ble_eq_true rfl) (fun E S0 F hE hW => ?_)
  show wx E S0 0 0 0 [(0, .ref xa), (1, .ref (G.2.2.2 0)), (2, .ref la), (3, .ref sa), (4, .ref ra), (5, .ref li)] []
  refine x_iconst (v := 0) F rfl dL_people_0 ?_
  refine x_istore (lv' := [(6, .int 0), (0, .ref xa), (1, .ref (G.2.2.2 0)), (2, .ref la), (3, .ref sa), (4, .ref ra), (5, .ref li)]) F dL_people_1 (by decide) rfl ?_
  refine wx_sub (lv' := [(0, .ref xa), (1, .ref (G.2.2.2 0)), (2, .ref la), (3, .ref sa), (4, .ref ra), (5, .ref li), (6, .int 0)]) [1, 2, 3, 4, 5, 6, 0] rfl ?_
  refine lp_1 l hL0 G E z S0 F hd hN1 hN2 (fun c1 H1 hW1 hm1 hg1 => ?_) N1 0 c S0 hW hnm hng (by omega)
  refine x_iconst (v := 0) F rfl dL_people_54 ?_
  refine x_istore (lv' := [(6, .int 0), (0, .ref xa), (1, .ref (G.2.2.2 0)), (2, .ref la), (3, .ref sa), (4, .ref ra), (5, .ref li)]) F dL_people_55 (by decide) rfl ?_
  refine wx_sub (lv' := [(0, .ref xa), (1, .ref (G.2.2.2 0)), (2, .ref la), (3, .ref sa), (4, .ref ra), (5, .ref li), (6, .int 0)]) [1, 2, 3, 4, 5, 6, 0] rfl ?_
  refine lp_2 l hL0 G E z S0 F hd hN1 hN2 (fun c2 H2 hW2 hm2 hg2 => ?_) N2 0 c1 H1 hW1 hm1 hg1 (by omega)
  exact x_vret F hE dL_people_146 (by show 2 * N1 + 2 * N2 ≤ 60; omega) (by show 308 * N1 + 310 * N2 ≤ 8000; omega) ⟨rfl, c2, hW2, hm2, hg2⟩
end LP_
