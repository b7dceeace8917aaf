/-! a new day; arrays -/
section CL7
section
variable {L : Launch} {rm r2 : Room} {G : GT} {A A1 : Nat → Prop} {H0 : Heap} {n0 : Nat} {cc bytes : ByteArray} {own : String} {E : WE} {H H1 : Heap} {k n pc maxL nA idx : Nat} {lv lv' : List (Nat × Value)} {st rest As : List Value} {ret ret2 : Option FieldType} {nm_ : String} {Post Post2 : Heap → Option Value → Heap → Prop} {Pre : Heap → Prop} {y : MethodName} {c : CS}
theorem x_newaI (F : fx L rm G A H0 n0 cc own E) {z : Int32} {N' : Nat} (hn0 : ¬ z < 0) (hN : z.toNatClampNeg = N') (hby : N' * 4 ≤ 536870912) (hk : k + 1 ≤ rm.cells) (hns : n + N' ≤ rm.slots) (hd : decode cc pc = .ok (.newarray .int, 2))
    (kk : ∀ H1 : Heap, vt G H.size (.inl (G.2.1.1, N', .inl (fun _ => 0))) H1 → hnew H H1 → wx E H1 (k + 1) (n + N') (pc + 2) lv (.ref H.size :: st)) : wx E H k n pc lv (.int z :: st) := by
  obtain ⟨p, l, e, R, s, m, args, below, meth, c, A1, nL, Q⟩ := E
  obtain ⟨⟨hx, hb, hml, hown, hts⟩, hL, hR, hAA, hH0, hnL, hKt, hKh, hfr, hlk⟩ := F
  subst hR
  intro locs ls hS hl2
  refine va_newaK (atype := .int) hx hb (hts _ mw_121) rfl hd rfl hn0 hN (Nat.le_trans (Nat.mul_le_mul_left _ (by decide)) hby) hk hns rfl (fun H' cA g1 g2 g3 g4 g5 => ?_)
  obtain rfl : cA = G.2.1.1 := Option.some.inj (g5.symm.trans (hKt.1.2 0 _ rfl).2)
  have hn1 : hnew H H' := ⟨g2, g3⟩
  exact kk H' g1 hn1 locs ls (va_S.new hS hn1) hl2
theorem y_newL (F : fx L rm G A H0 n0 cc own E) (hcl : Cond.classLink own idx "java/util/ArrayList" ∈ WALL) (hk : k + 1 ≤ rm.cells) (hn : n + 3 ≤ rm.slots) (hd : decode cc pc = .ok (.new idx, 3)) (kk : ∀ H1 : Heap, vt G H.size (.inr (0, [.int 0, .null, .int 0])) H1 → hnew H H1 → wx E H1 (k + 1) (n + 3) (pc + 3) lv (.ref H.size :: st)) : wx E H k n pc lv st :=
  x_new (C := "java/util/ArrayList") (T := TJx4a65c) (N := 3) F rfl inAL tyJx4a65c tyJx4a65c_ok hcl mw_56 mw_31 (fun j hj => match j, hj with | 0, _ => rfl | 1, _ => rfl | 2, _ => rfl | j + 3, hj => absurd hj (by omega)) hk hn hd kk
theorem x_callIs (F : fx L rm G A H0 n0 cc own E) {b : Nat} (hC : Ct L y bytes maxL none r2 G A (.ref b :: As) Pre Post2) (hl : Cond.methodLink own idx y ∈ WALL) (hs : Cond.instanceMethod y ∈ WALL) (hi : Cond.initialized y.cls ∈ WALL) (hc : Cond.code y bytes maxL none ∈ WALL) (hyn : y.name = "<init>") (hy : mhd y nA) (hR : rok rm r2 maxL k n) (hd : decode cc pc = .ok (.invokespecial idx, 3)) (hn : As.length = nA) (hst : st = As.reverse ++ .ref b :: rest) (hcat : (rest.map fun v => v.category).sum ≤ 8) (hpre : Pre H)
    (kk : kRet E H A Post2 (k + r2.cells) (n + r2.slots) (pc + 3) lv rest) : wx E H k n pc lv st :=
  fr_of F fun hfr => x_callI F hC hl hs hi hc hyn hy hR hd hn hst hcat (fun _ h => h) hfr hpre kk
end
def c00 (f : Nat → Nat → Nat) : CS := (fun j => if j = 6 then 1 else if j = 10 then 10 else if j = 11 then 600 else 0, fun _ _ => 0, fun _ _ => 0, fun _ _ => 0, fun _ => none, fun _ => (0, none, 0), (0, 0, 0, false), ([], []), f)
theorem c00_els (f : Nat → Nat → Nat) (k : Nat) : els (c00 f) k = [] := by
  rcases k with _ | _ | _ | _ | k <;> rfl
def a00 (q z : Nat) : Nat → Nat → Nat := fun t i => if t = 0 then q else if t = 1 then z + i else if t = 2 then z + 5 else 0
theorem rep00 {G : GT} {A : Nat → Prop} {H : Heap} {q z : Nat} (hq : q < z) (hz : H.size = z + 6) (hA : A q) (hfr : ∀ p, z ≤ p → A p) (hd : vt G q (.inr (4, dayV (c00 (a00 q z)))) H) (hl : ∀ k, k < 5 → vt G (z + k) (.inr (0, [.int 0, .ref G.2.2.1.1, .int 0])) H) (ht : vt G (z + 5) (.inl (G.2.1.1, 2, .inl (fun _ => 0))) H) : Rep G A (c00 (a00 q z)) H := by
  refine ⟨fun a => if a = q then 1 else if z ≤ a ∧ a < z + 5 then 10 + (a - z) else if a = z + 5 then 2 else 0, fun _ => G.2.2.1.1, fun _ => 0, fun _ => 0, fun a ha => ?_, ⟨if_pos rfl, hd⟩, ⟨?_, ?_⟩, fun k hk => ⟨?_, ?_⟩, fun i hi => absurd hi (Nat.not_lt_zero i), fun i hi => absurd hi (Nat.not_lt_zero i), fun i hi => absurd hi (Nat.not_lt_zero i), ⟨⟨Nat.zero_le _, Nat.zero_le _, Nat.zero_le _⟩, fun f hf => absurd hf (Nat.not_lt_zero f), fun g hg => absurd hg (Nat.not_lt_zero g), ⟨fun f hf => absurd hf List.not_mem_nil, Nat.zero_le _⟩, fun f hf => absurd hf List.not_mem_nil, Nat.zero_le _⟩, fun h => by cases h⟩
  · simp only [] at ha
    by_cases h1 : a = q
    · rw [h1]; exact ⟨hA, by omega⟩
    · rw [if_neg h1] at ha
      by_cases h2 : z ≤ a ∧ a < z + 5
      · exact ⟨hfr a h2.1, by omega⟩
      · rw [if_neg h2] at ha
        by_cases h3 : a = z + 5
        · rw [h3]; exact ⟨hfr _ (Nat.le_add_right _ _), by omega⟩
        · rw [if_neg h3] at ha; exact absurd rfl ha
  · show (if z + 5 = q then 1 else if z ≤ z + 5 ∧ z + 5 < z + 5 then 10 + (z + 5 - z) else if z + 5 = z + 5 then 2 else 0) = 2
    rw [if_neg (by omega), if_neg (by omega), if_pos rfl]
  · exact ht
  · show (if z + k = q then 1 else if z ≤ z + k ∧ z + k < z + 5 then 10 + (z + k - z) else if z + k = z + 5 then 2 else 0) = 10 + k
    rw [if_neg (by omega), if_pos (by omega)]
    omega
  · rw [c00_els]
    exact ⟨hl k hk, Or.inl ⟨rfl, rfl, rfl⟩⟩
set_option maxHeartbeats 4000000 in
set_option maxRecDepth 100000 in
theorem c_newDay (l : Launch) (G : GT) (A : Nat → Prop) (q : Nat) : Ct l yX3_init cX3_init 1 none ({ frames := 4, cells := 6, slots := 17, locals := 72 } : Room) G A [.ref q] (fun H => vt G q (.inr (4, [.null, .null, .null, .null, .null, .null, .int 0, .int 0, .int 0, .int 0, .int 0, .int 0, .int 0])) H ∧ A q) (fun H r H1 => r = none ∧ ∃ f, f 0 0 = q ∧ Rep G A (c00 f) H1) := by
  refine ct_of (own := "GliderDay") (by decide +kernel) rfl (Nat.le_of_ble_eq_true rfl) (fun E H0 F hE hp => ?_)
  obtain ⟨hv, hA⟩ := hp
  show wx E H0 0 0 0 [(0, .ref q)] []
  refine x_aload_n F dX3_init_0 0 rfl rfl ?_
  refine fr_of F fun hfr => ?_
  generalize hz0 : H0.size = z at hfr
  have hqz : q < z := by rw [← hz0]; exact hv.lt
  refine x_objInit F mw_52 mw_53 mw_54 dX3_init_1 (Nat.le_of_ble_eq_true rfl) (Nat.le_of_ble_eq_true rfl) ?_
  refine x_aload_n F dX3_init_4 0 rfl rfl ?_
  refine y_newL F mw_55 (Nat.le_of_ble_eq_true rfl) (Nat.le_of_ble_eq_true rfl) dX3_init_5 (fun H1 v1 hn1 => ?_)
  rw [hz0] at v1 ⊢
  have hz1 : H1.size = z + 1 := by rw [hn1.1, hz0]
  have v1_q := hv.kept (hn1.2 _ hv.lt)
  refine x_dup F dX3_init_8 rfl ?_
  refine x_callIs (nA := 0) (rest := [.ref z, .ref q]) F (c_lInit l G A z 0 .null (.int 0)) mw_57 mw_58 mw_31 mw_59 rfl ⟨by decide +kernel, by decide +kernel, by decide +kernel⟩ ⟨⟨(Nat.le_of_ble_eq_true rfl), (Nat.le_of_ble_eq_true rfl)⟩, (Nat.le_of_ble_eq_true rfl), (Nat.le_of_ble_eq_true rfl)⟩ dX3_init_9 rfl rfl (Nat.le_of_ble_eq_true rfl) ⟨v1, hfr _ (by omega)⟩ ?_
  rintro _ H2 ⟨rfl, v2, hs2⟩ - -
  replace hz1 : H2.size = _ := hs2.1.trans hz1
  have v2_q := v1_q.kept (hs2.2 _ (by omega))
  refine x_putF (C := "GliderDay") (T := TX3) (N := 13) F hE rfl v2_q hA rfl (j := 0) (by decide) inX3 tyX3 tyX3_ok nmX3 mw_81 (Or.inl rfl) rfl rfl rfl rfl rfl (Nat.le_of_ble_eq_true rfl) dX3_init_12 (fun H3 v3 hs3 => ?_)
  replace hz1 : H3.size = _ := hs3.1.trans hz1
  have v3_z := v2.kept (hs3.2 _ (by omega))
  refine x_aload_n F dX3_init_15 0 rfl rfl ?_
  refine y_newL F mw_55 (Nat.le_of_ble_eq_true rfl) (Nat.le_of_ble_eq_true rfl) dX3_init_16 (fun H4 v4 hn4 => ?_)
  rw [hz1] at v4 ⊢
  have hz2 : H4.size = z + 2 := by rw [hn4.1, hz1]
  have v4_z := v3_z.kept (hn4.2 _ v3_z.lt)
  have v4_q := v3.kept (hn4.2 _ v3.lt)
  refine x_dup F dX3_init_19 rfl ?_
  refine x_callIs (nA := 0) (rest := [.ref (z + 1), .ref q]) F (c_lInit l G A (z + 1) 0 .null (.int 0)) mw_57 mw_58 mw_31 mw_59 rfl ⟨by decide +kernel, by decide +kernel, by decide +kernel⟩ ⟨⟨(Nat.le_of_ble_eq_true rfl), (Nat.le_of_ble_eq_true rfl)⟩, (Nat.le_of_ble_eq_true rfl), (Nat.le_of_ble_eq_true rfl)⟩ dX3_init_20 rfl rfl (Nat.le_of_ble_eq_true rfl) ⟨v4, hfr _ (by omega)⟩ ?_
  rintro _ H5 ⟨rfl, v5, hs5⟩ - -
  replace hz2 : H5.size = _ := hs5.1.trans hz2
  have v5_z := v4_z.kept (hs5.2 _ (by omega))
  have v5_q := v4_q.kept (hs5.2 _ (by omega))
  refine x_putF (C := "GliderDay") (T := TX3) (N := 13) F hE rfl v5_q hA rfl (j := 1) (by decide) inX3 tyX3 tyX3_ok nmX3 mw_82 (Or.inl rfl) rfl rfl rfl rfl rfl (Nat.le_of_ble_eq_true rfl) dX3_init_23 (fun H6 v6 hs6 => ?_)
  replace hz2 : H6.size = _ := hs6.1.trans hz2
  have v6_z := v5_z.kept (hs6.2 _ (by omega))
  have v6_z1 := v5.kept (hs6.2 _ (by omega))
  refine x_aload_n F dX3_init_26 0 rfl rfl ?_
  refine y_newL F mw_55 (Nat.le_of_ble_eq_true rfl) (Nat.le_of_ble_eq_true rfl) dX3_init_27 (fun H7 v7 hn7 => ?_)
  rw [hz2] at v7 ⊢
  have hz3 : H7.size = z + 3 := by rw [hn7.1, hz2]
  have v7_z := v6_z.kept (hn7.2 _ v6_z.lt)
  have v7_z1 := v6_z1.kept (hn7.2 _ v6_z1.lt)
  have v7_q := v6.kept (hn7.2 _ v6.lt)
  refine x_dup F dX3_init_30 rfl ?_
  refine x_callIs (nA := 0) (rest := [.ref (z + 2), .ref q]) F (c_lInit l G A (z + 2) 0 .null (.int 0)) mw_57 mw_58 mw_31 mw_59 rfl ⟨by decide +kernel, by decide +kernel, by decide +kernel⟩ ⟨⟨(Nat.le_of_ble_eq_true rfl), (Nat.le_of_ble_eq_true rfl)⟩, (Nat.le_of_ble_eq_true rfl), (Nat.le_of_ble_eq_true rfl)⟩ dX3_init_31 rfl rfl (Nat.le_of_ble_eq_true rfl) ⟨v7, hfr _ (by omega)⟩ ?_
  rintro _ H8 ⟨rfl, v8, hs8⟩ - -
  replace hz3 : H8.size = _ := hs8.1.trans hz3
  have v8_z := v7_z.kept (hs8.2 _ (by omega))
  have v8_z1 := v7_z1.kept (hs8.2 _ (by omega))
  have v8_q := v7_q.kept (hs8.2 _ (by omega))
  refine x_putF (C := "GliderDay") (T := TX3) (N := 13) F hE rfl v8_q hA rfl (j := 2) (by decide) inX3 tyX3 tyX3_ok nmX3 mw_83 (Or.inl rfl) rfl rfl rfl rfl rfl (Nat.le_of_ble_eq_true rfl) dX3_init_34 (fun H9 v9 hs9 => ?_)
  replace hz3 : H9.size = _ := hs9.1.trans hz3
  have v9_z := v8_z.kept (hs9.2 _ (by omega))
  have v9_z1 := v8_z1.kept (hs9.2 _ (by omega))
  have v9_z2 := v8.kept (hs9.2 _ (by omega))
  refine x_aload_n F dX3_init_37 0 rfl rfl ?_
  refine y_newL F mw_55 (Nat.le_of_ble_eq_true rfl) (Nat.le_of_ble_eq_true rfl) dX3_init_38 (fun H10 v10 hn10 => ?_)
  rw [hz3] at v10 ⊢
  have hz4 : H10.size = z + 4 := by rw [hn10.1, hz3]
  have v10_z := v9_z.kept (hn10.2 _ v9_z.lt)
  have v10_z1 := v9_z1.kept (hn10.2 _ v9_z1.lt)
  have v10_z2 := v9_z2.kept (hn10.2 _ v9_z2.lt)
  have v10_q := v9.kept (hn10.2 _ v9.lt)
  refine x_dup F dX3_init_41 rfl ?_
  refine x_callIs (nA := 0) (rest := [.ref (z + 3), .ref q]) F (c_lInit l G A (z + 3) 0 .null (.int 0)) mw_57 mw_58 mw_31 mw_59 rfl ⟨by decide +kernel, by decide +kernel, by decide +kernel⟩ ⟨⟨(Nat.le_of_ble_eq_true rfl), (Nat.le_of_ble_eq_true rfl)⟩, (Nat.le_of_ble_eq_true rfl), (Nat.le_of_ble_eq_true rfl)⟩ dX3_init_42 rfl rfl (Nat.le_of_ble_eq_true rfl) ⟨v10, hfr _ (by omega)⟩ ?_
  rintro _ H11 ⟨rfl, v11, hs11⟩ - -
  replace hz4 : H11.size = _ := hs11.1.trans hz4
  have v11_z := v10_z.kept (hs11.2 _ (by omega))
  have v11_z1 := v10_z1.kept (hs11.2 _ (by omega))
  have v11_z2 := v10_z2.kept (hs11.2 _ (by omega))
  have v11_q := v10_q.kept (hs11.2 _ (by omega))
  refine x_putF (C := "GliderDay") (T := TX3) (N := 13) F hE rfl v11_q hA rfl (j := 3) (by decide) inX3 tyX3 tyX3_ok nmX3 mw_84 (Or.inl rfl) rfl rfl rfl rfl rfl (Nat.le_of_ble_eq_true rfl) dX3_init_45 (fun H12 v12 hs12 => ?_)
  replace hz4 : H12.size = _ := hs12.1.trans hz4
  have v12_z := v11_z.kept (hs12.2 _ (by omega))
  have v12_z1 := v11_z1.kept (hs12.2 _ (by omega))
  have v12_z2 := v11_z2.kept (hs12.2 _ (by omega))
  have v12_z3 := v11.kept (hs12.2 _ (by omega))
  refine x_aload_n F dX3_init_48 0 rfl rfl ?_
  refine y_newL F mw_55 (Nat.le_of_ble_eq_true rfl) (Nat.le_of_ble_eq_true rfl) dX3_init_49 (fun H13 v13 hn13 => ?_)
  rw [hz4] at v13 ⊢
  have hz5 : H13.size = z + 5 := by rw [hn13.1, hz4]
  have v13_z := v12_z.kept (hn13.2 _ v12_z.lt)
  have v13_z1 := v12_z1.kept (hn13.2 _ v12_z1.lt)
  have v13_z2 := v12_z2.kept (hn13.2 _ v12_z2.lt)
  have v13_z3 := v12_z3.kept (hn13.2 _ v12_z3.lt)
  have v13_q := v12.kept (hn13.2 _ v12.lt)
  refine x_dup F dX3_init_52 rfl ?_
  refine x_callIs (nA := 0) (rest := [.ref (z + 4), .ref q]) F (c_lInit l G A (z + 4) 0 .null (.int 0)) mw_57 mw_58 mw_31 mw_59 rfl ⟨by decide +kernel, by decide +kernel, by decide +kernel⟩ ⟨⟨(Nat.le_of_ble_eq_true rfl), (Nat.le_of_ble_eq_true rfl)⟩, (Nat.le_of_ble_eq_true rfl), (Nat.le_of_ble_eq_true rfl)⟩ dX3_init_53 rfl rfl (Nat.le_of_ble_eq_true rfl) ⟨v13, hfr _ (by omega)⟩ ?_
  rintro _ H14 ⟨rfl, v14, hs14⟩ - -
  replace hz5 : H14.size = _ := hs14.1.trans hz5
  have v14_z := v13_z.kept (hs14.2 _ (by omega))
  have v14_z1 := v13_z1.kept (hs14.2 _ (by omega))
  have v14_z2 := v13_z2.kept (hs14.2 _ (by omega))
  have v14_z3 := v13_z3.kept (hs14.2 _ (by omega))
  have v14_q := v13_q.kept (hs14.2 _ (by omega))
  refine x_putF (C := "GliderDay") (T := TX3) (N := 13) F hE rfl v14_q hA rfl (j := 4) (by decide) inX3 tyX3 tyX3_ok nmX3 mw_85 (Or.inl rfl) rfl rfl rfl rfl rfl (Nat.le_of_ble_eq_true rfl) dX3_init_56 (fun H15 v15 hs15 => ?_)
  replace hz5 : H15.size = _ := hs15.1.trans hz5
  have v15_z := v14_z.kept (hs15.2 _ (by omega))
  have v15_z1 := v14_z1.kept (hs15.2 _ (by omega))
  have v15_z2 := v14_z2.kept (hs15.2 _ (by omega))
  have v15_z3 := v14_z3.kept (hs15.2 _ (by omega))
  have v15_z4 := v14.kept (hs15.2 _ (by omega))
  refine x_aload_n F dX3_init_59 0 rfl rfl ?_
  refine x_iconst (v := 2) F rfl dX3_init_60 ?_
  refine x_newaI (N' := 2) F (by decide) rfl (by decide) (Nat.le_of_ble_eq_true rfl) (Nat.le_of_ble_eq_true rfl) dX3_init_61 (fun H16 v16 hn16 => ?_)
  rw [hz5] at v16 ⊢
  have hz6 : H16.size = z + 6 := by rw [hn16.1, hz5]
  have v16_z := v15_z.kept (hn16.2 _ v15_z.lt)
  have v16_z1 := v15_z1.kept (hn16.2 _ v15_z1.lt)
  have v16_z2 := v15_z2.kept (hn16.2 _ v15_z2.lt)
  have v16_z3 := v15_z3.kept (hn16.2 _ v15_z3.lt)
  have v16_z4 := v15_z4.kept (hn16.2 _ v15_z4.lt)
  have v16_q := v15.kept (hn16.2 _ v15.lt)
  refine x_putF (C := "GliderDay") (T := TX3) (N := 13) F hE rfl v16_q hA rfl (j := 5) (by decide) inX3 tyX3 tyX3_ok nmX3 mw_86 (Or.inl rfl) rfl rfl rfl rfl rfl (Nat.le_of_ble_eq_true rfl) dX3_init_63 (fun H17 v17 hs17 => ?_)
  replace hz6 : H17.size = _ := hs17.1.trans hz6
  have v17_z := v16_z.kept (hs17.2 _ (by omega))
  have v17_z1 := v16_z1.kept (hs17.2 _ (by omega))
  have v17_z2 := v16_z2.kept (hs17.2 _ (by omega))
  have v17_z3 := v16_z3.kept (hs17.2 _ (by omega))
  have v17_z4 := v16_z4.kept (hs17.2 _ (by omega))
  have v17_z5 := v16.kept (hs17.2 _ (by omega))
  refine x_aload_n F dX3_init_66 0 rfl rfl ?_
  refine x_iconst (v := 1) F rfl dX3_init_67 ?_
  refine x_put (C := "GliderDay") (T := TX3) (N := 13) F v17 hA rfl (j := 6) (by decide) inX3 tyX3 tyX3_ok nmX3 mw_87 (Or.inl rfl) rfl rfl rfl rfl (Nat.le_of_ble_eq_true rfl) dX3_init_68 (fun H18 v18 hs18 => ?_)
  replace hz6 : H18.size = _ := hs18.1.trans hz6
  have v18_z := v17_z.kept (hs18.2 _ (by omega))
  have v18_z1 := v17_z1.kept (hs18.2 _ (by omega))
  have v18_z2 := v17_z2.kept (hs18.2 _ (by omega))
  have v18_z3 := v17_z3.kept (hs18.2 _ (by omega))
  have v18_z4 := v17_z4.kept (hs18.2 _ (by omega))
  have v18_z5 := v17_z5.kept (hs18.2 _ (by omega))
  refine x_aload_n F dX3_init_71 0 rfl rfl ?_
  refine x_iconst (v := 0) F rfl dX3_init_72 ?_
  refine x_put (C := "GliderDay") (T := TX3) (N := 13) F v18 hA rfl (j := 7) (by decide) inX3 tyX3 tyX3_ok nmX3 mw_88 (Or.inl rfl) rfl rfl rfl rfl (Nat.le_of_ble_eq_true rfl) dX3_init_73 (fun H19 v19 hs19 => ?_)
  replace hz6 : H19.size = _ := hs19.1.trans hz6
  have v19_z := v18_z.kept (hs19.2 _ (by omega))
  have v19_z1 := v18_z1.kept (hs19.2 _ (by omega))
  have v19_z2 := v18_z2.kept (hs19.2 _ (by omega))
  have v19_z3 := v18_z3.kept (hs19.2 _ (by omega))
  have v19_z4 := v18_z4.kept (hs19.2 _ (by omega))
  have v19_z5 := v18_z5.kept (hs19.2 _ (by omega))
  refine x_aload_n F dX3_init_76 0 rfl rfl ?_
  refine x_iconst (v := 0) F rfl dX3_init_77 ?_
  refine x_put (C := "GliderDay") (T := TX3) (N := 13) F v19 hA rfl (j := 8) (by decide) inX3 tyX3 tyX3_ok nmX3 mw_89 (Or.inl rfl) rfl rfl rfl rfl (Nat.le_of_ble_eq_true rfl) dX3_init_78 (fun H20 v20 hs20 => ?_)
  replace hz6 : H20.size = _ := hs20.1.trans hz6
  have v20_z := v19_z.kept (hs20.2 _ (by omega))
  have v20_z1 := v19_z1.kept (hs20.2 _ (by omega))
  have v20_z2 := v19_z2.kept (hs20.2 _ (by omega))
  have v20_z3 := v19_z3.kept (hs20.2 _ (by omega))
  have v20_z4 := v19_z4.kept (hs20.2 _ (by omega))
  have v20_z5 := v19_z5.kept (hs20.2 _ (by omega))
  refine x_aload_n F dX3_init_81 0 rfl rfl ?_
  refine x_iconst (v := 0) F rfl dX3_init_82 ?_
  refine x_put (C := "GliderDay") (T := TX3) (N := 13) F v20 hA rfl (j := 9) (by decide) inX3 tyX3 tyX3_ok nmX3 mw_90 (Or.inl rfl) rfl rfl rfl rfl (Nat.le_of_ble_eq_true rfl) dX3_init_83 (fun H21 v21 hs21 => ?_)
  replace hz6 : H21.size = _ := hs21.1.trans hz6
  have v21_z := v20_z.kept (hs21.2 _ (by omega))
  have v21_z1 := v20_z1.kept (hs21.2 _ (by omega))
  have v21_z2 := v20_z2.kept (hs21.2 _ (by omega))
  have v21_z3 := v20_z3.kept (hs21.2 _ (by omega))
  have v21_z4 := v20_z4.kept (hs21.2 _ (by omega))
  have v21_z5 := v20_z5.kept (hs21.2 _ (by omega))
  refine x_aload_n F dX3_init_86 0 rfl rfl ?_
  refine x_bipush (v := 10) F rfl dX3_init_87 ?_
  refine x_put (C := "GliderDay") (T := TX3) (N := 13) F v21 hA rfl (j := 10) (by decide) inX3 tyX3 tyX3_ok nmX3 mw_91 (Or.inl rfl) rfl rfl rfl rfl (Nat.le_of_ble_eq_true rfl) dX3_init_89 (fun H22 v22 hs22 => ?_)
  replace hz6 : H22.size = _ := hs22.1.trans hz6
  have v22_z := v21_z.kept (hs22.2 _ (by omega))
  have v22_z1 := v21_z1.kept (hs22.2 _ (by omega))
  have v22_z2 := v21_z2.kept (hs22.2 _ (by omega))
  have v22_z3 := v21_z3.kept (hs22.2 _ (by omega))
  have v22_z4 := v21_z4.kept (hs22.2 _ (by omega))
  have v22_z5 := v21_z5.kept (hs22.2 _ (by omega))
  refine x_aload_n F dX3_init_92 0 rfl rfl ?_
  refine x_sipush (v := 600) F rfl dX3_init_93 ?_
  refine x_put (C := "GliderDay") (T := TX3) (N := 13) F v22 hA rfl (j := 11) (by decide) inX3 tyX3 tyX3_ok nmX3 mw_92 (Or.inl rfl) rfl rfl rfl rfl (Nat.le_of_ble_eq_true rfl) dX3_init_96 (fun H23 v23 hs23 => ?_)
  replace hz6 : H23.size = _ := hs23.1.trans hz6
  have v23_z := v22_z.kept (hs23.2 _ (by omega))
  have v23_z1 := v22_z1.kept (hs23.2 _ (by omega))
  have v23_z2 := v22_z2.kept (hs23.2 _ (by omega))
  have v23_z3 := v22_z3.kept (hs23.2 _ (by omega))
  have v23_z4 := v22_z4.kept (hs23.2 _ (by omega))
  have v23_z5 := v22_z5.kept (hs23.2 _ (by omega))
  refine x_aload_n F dX3_init_99 0 rfl rfl ?_
  refine x_iconst (v := 0) F rfl dX3_init_100 ?_
  refine x_put (C := "GliderDay") (T := TX3) (N := 13) F v23 hA rfl (j := 12) (by decide) inX3 tyX3 tyX3_ok nmX3 mw_93 (Or.inl rfl) rfl rfl rfl rfl (Nat.le_of_ble_eq_true rfl) dX3_init_101 (fun H24 v24 hs24 => ?_)
  replace hz6 : H24.size = _ := hs24.1.trans hz6
  have v24_z := v23_z.kept (hs24.2 _ (by omega))
  have v24_z1 := v23_z1.kept (hs24.2 _ (by omega))
  have v24_z2 := v23_z2.kept (hs24.2 _ (by omega))
  have v24_z3 := v23_z3.kept (hs24.2 _ (by omega))
  have v24_z4 := v23_z4.kept (hs24.2 _ (by omega))
  have v24_z5 := v23_z5.kept (hs24.2 _ (by omega))
  have hl : ∀ k, k < 5 → vt G (z + k) (.inr (0, [.int 0, .ref G.2.2.1.1, .int 0])) H24 := fun k hk => by
    rcases (show k = 0 ∨ k = 1 ∨ k = 2 ∨ k = 3 ∨ k = 4 by omega) with rfl | rfl | rfl | rfl | rfl
    · exact v24_z
    · exact v24_z1
    · exact v24_z2
    · exact v24_z3
    · exact v24_z4
  exact x_vret F hE dX3_init_104 (Nat.le_of_ble_eq_true rfl) (Nat.le_of_ble_eq_true rfl) (⟨rfl, a00 q z, rfl, rep00 hqz hz6 hA hfr v24 hl v24_z5⟩)
end CL7
