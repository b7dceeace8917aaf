/-! a begin -/
section RE9
variable {c : CS} {m : MS}
theorem rea_0 {f : Nat} (h : s_rea c f = 0) : s_flyM c f = false ∧ cG c (cR c f).2.2 4 = 0 ∧ ¬ ((cF c f 4 = 0 ∧ 2 ≤ cD c 7) ∨ (¬ cF c f 4 = 0 ∧ s_ft c ≤ 0)) := by
  unfold s_rea at h
  by_cases h1 : s_flyM c f = true
  · rw [if_pos h1] at h; exact absurd h (by decide)
  rw [if_neg h1] at h
  by_cases h2 : ¬ cG c (cR c f).2.2 4 = 0 ∨ ¬ cG c (cR c f).2.2 5 = 0
  · rw [if_pos h2] at h; exact absurd h (by decide)
  rw [if_neg h2] at h
  by_cases h3 : ¬ (cR c f).2.1 = none ∧ cG c (cR c f).2.2 1 = 1
  · rw [if_pos h3] at h; exact absurd h (by decide)
  rw [if_neg h3] at h
  by_cases h4 : (cM c (cR c f).1 1 = 0 ∨ (cM c (cR c f).1 1 = 1 ∧ cM c (cR c f).1 5 = 0)) ∧ ¬ s_hasT c f = true
  · rw [if_pos h4] at h; exact absurd h (by decide)
  rw [if_neg h4] at h
  by_cases h5 : cG c (cR c f).2.2 3 < cD c 10 ∨ s_wind (if s_hasT c f = true then 3 else cM c (cR c f).1 1) < cD c 10
  · rw [if_pos h5] at h; exact absurd h (by decide)
  rw [if_neg h5] at h
  by_cases h6 : cD c 11 - cD c 9 < 10
  · rw [if_pos h6] at h; exact absurd h (by decide)
  rw [if_neg h6] at h
  by_cases h7 : (cF c f 4 = 0 ∧ 2 ≤ cD c 7) ∨ (¬ cF c f 4 = 0 ∧ s_ft c ≤ 0)
  · rw [if_pos h7] at h; exact absurd h (by decide)
  exact ⟨Bool.eq_false_iff.mpr h1, Decidable.not_not.mp (fun q => h2 (Or.inl q)), h7⟩
theorem fly_0 (hr : I_ref c) (hy : I_fly c) {f i : Nat} (h : f < nf c) (h1 : s_flyM c f = false) (hi : fHas c f i = true) : i < nm c ∧ cM c i 2 = 0 := by
  obtain ⟨g1, g2, g3, -⟩ := hr.2 f h
  unfold fHas at hi
  rw [decide_eq_true_eq] at hi
  unfold s_flyM at h1
  rw [Bool.or_eq_false_iff] at h1
  rcases hi with e | e
  · rw [← e]
    exact ⟨g1, Decidable.not_not.mp (of_decide_eq_false h1.1)⟩
  · rw [e] at h1
    exact ⟨(g3 i e).1, Decidable.not_not.mp (of_decide_eq_false h1.2)⟩
theorem T4_core (hI : IC c) (hR : Rl c m) {f : Nat} (f1 : f < nf c) (f2 : cF c f 6 = 0) (f3 : s_flyM c f = false) (f4 : cG c (cR c f).2.2 4 = 0) {c' : CS} {m' : MS}
    (vF : ∀ q j, cF c' q j = if j = 8 ∧ q = f then cD c 9 else if j = 6 ∧ q = f then 1 else cF c q j) (vM : ∀ i j, cM c' i j = if j = 2 ∧ fHas c f i = true then 1 else cM c i j) (vG : ∀ q j, cG c' q j = if j = 4 ∧ q = (cR c f).2.2 then 1 else cG c q j) (vgF : ∀ q, cgF c' q = if q = (cR c f).2.2 then some f else cgF c q)
    (eM : cR c' = cR c ∧ nm c' = nm c ∧ ng c' = ng c ∧ nf c' = nf c ∧ lst c' = (List.range (nf c)).filter (fun q => p0 c q && decide (q ≠ f)) ∧ wtg c' = wtg c ∧ cD c' 9 = cD c 9)
    (hZ : ∀ j q, j ≠ 8 → mZ m' j q = if j = 17 ∧ q = (cR c f).2.2 then 0 else if j = 27 ∧ q = f then mY m 1 else if j = 29 ∧ q = f then 1 else mZ m j q) (hY : mY m' 19 = mY m 19) (hrng : I_rng c') (hsc : Rsc c' m') : IC c' ∧ Rl c' m' := by
  obtain ⟨i1, i2, i3, i4, i5, i6, i7, i8, i9, i10, i11⟩ := id hI
  obtain ⟨a1, a2, a3, a4, a5⟩ := id hR
  obtain ⟨m4, m5, m6, m7, m8, m9, m10⟩ := eM
  have g2 := (i2.2 f f1).2.1
  have gn : cgF c (cR c f).2.2 = none := (g4_0 i8 g2).mp f4
  have gw : (cR c f).2.2 ∉ wtg c := fun q => (i8.2.1 _ q).2 gn
  have vS : ∀ q, cF c' q 6 = if q = f then 1 else cF c q 6 := fun q => by rw [vF]; simp
  have v8 : ∀ q, cF c' q 8 = if q = f then cD c 9 else cF c q 8 := fun q => by rw [vF]; simp
  have vo : ∀ q j, j ≠ 6 → j ≠ 8 → cF c' q j = cF c q j := fun q j h1 h2 => by rw [vF, if_neg (fun x => h2 x.1), if_neg (fun x => h1 x.1)]
  have hH : ∀ q i, fHas c' q i = fHas c q i := fun q i => by unfold fHas; rw [m4]
  have mo : ∀ i j, j ≠ 2 → cM c' i j = cM c i j := fun i j h => by rw [vM, if_neg (fun x => h x.1)]
  have m2v : ∀ i, cM c' i 2 = if fHas c f i = true then 1 else cM c i 2 := fun i => by rw [vM]; simp
  have go : ∀ q j, j ≠ 4 → cG c' q j = cG c q j := fun i j h => by rw [vG, if_neg (fun x => h x.1)]
  have g4v : ∀ q, cG c' q 4 = if q = (cR c f).2.2 then 1 else cG c q 4 := fun q => by rw [vG]; simp
  have hT : ∀ q, s_hasT c' q = s_hasT c q := fun q => by
    unfold s_hasT
    rw [m4]
    cases (cR c q).2.1 with
    | none => rfl
    | some s => show decide (cM c' s 1 = 3) = decide (cM c s 1 = 3); rw [mo s 1 (by decide)]
  have s1 : ∀ q, cF c' q 6 = 1 ↔ q = f ∨ cF c q 6 = 1 := fun q => by
    rw [vS]
    by_cases e : q = f
    · rw [if_pos e]
      exact ⟨fun _ => Or.inl e, fun _ => rfl⟩
    · rw [if_neg e]
      exact ⟨Or.inr, fun x => x.resolve_left e⟩
  have s2 : ∀ q, cF c' q 6 = 2 ↔ cF c q 6 = 2 := fun q => by
    rw [vS]
    by_cases e : q = f
    · rw [if_pos e, e, f2]; decide
    · rw [if_neg e]
  have ne2 : ∀ q, cF c q 6 = 2 → q ≠ f := fun q h e => by rw [e, f2] at h; exact absurd h (by decide)
  have g3 : ∀ i q, k3 c' i q = k3 c i q := fun i q => by unfold k3; rw [hH]; exact ite_cg (and_congr (s2 q) Iff.rfl) rfl rfl
  have d8 : ∀ q, cF c q 6 = 2 → cF c' q 9 - cF c' q 8 = cF c q 9 - cF c q 8 := fun q h => by rw [vo q 9 (by decide) (by decide), v8, if_neg (ne2 q h)]
  have g4 : ∀ i q, k4 c' i q = k4 c i q := fun i q => by
    unfold k4
    rw [hH]
    by_cases h : cF c q 6 = 2 ∧ fHas c q i = true
    · rw [if_pos h, if_pos ⟨(s2 q).mpr h.1, h.2⟩, d8 q h.1]
    · rw [if_neg h, if_neg (fun x => h ⟨(s2 q).mp x.1, x.2⟩)]
  have g5 : ∀ i q, k5 c' i q = k5 c i q := fun i q => by unfold k5; rw [hT, m4]; exact ite_cg (and_congr (s2 q) Iff.rfl) rfl rfl
  have g6 : ∀ i q, k6 c' i q = k6 c i q := fun i q => by unfold k6; rw [m4]; exact ite_cg (and_congr (s2 q) Iff.rfl) rfl rfl
  have g7 : ∀ i q, k7 c' i q = k7 c i q := fun i q => by unfold k7; rw [m4]; exact ite_cg (and_congr (s2 q) Iff.rfl) rfl rfl
  have g8 : ∀ i q, k8 c' i q = k8 c i q := fun i q => by
    unfold k8
    rw [m4]
    by_cases h : cF c q 6 = 2 ∧ (cR c q).2.2 = i
    · rw [if_pos h, if_pos ⟨(s2 q).mpr h.1, h.2⟩, d8 q h.1]
    · rw [if_neg h, if_neg (fun x => h ⟨(s2 q).mp x.1, x.2⟩)]
  have gb : ∀ i q, kb c' i q = kb c i q := fun i q => by unfold kb; rw [m4, vo q 10 (by decide) (by decide)]
  refine ⟨⟨hrng, ?_, ?_, ?_, ?_, ?_, ?_, ?_, ?_, ?_, ?_⟩, hsc, ?_, ?_, ?_, ?_⟩
  · unfold I_ref; rw [m4, m5, m6, m7]
    exact ⟨i2.1, fun q hq => by rw [vo q 4 (by decide) (by decide)]; exact i2.2 q hq⟩
  · unfold I_fly; rw [m5, m7]
    intro i hi
    rw [m2v]
    by_cases e : fHas c f i = true
    · rw [if_pos e]
      exact ⟨Or.inr rfl, fun _ => ⟨f, f1, (s1 f).mpr (Or.inl rfl), by rw [hH]; exact e⟩, fun _ => rfl⟩
    · rw [if_neg e]
      refine ⟨(i3 i hi).1, (i3 i hi).2.trans ?_⟩
      constructor
      · rintro ⟨q, q1, q2, q3⟩
        exact ⟨q, q1, (s1 q).mpr (Or.inr q2), by rw [hH]; exact q3⟩
      · rintro ⟨q, q1, q2, q3⟩
        rw [hH] at q3
        rcases (s1 q).mp q2 with x | x
        · rw [x] at q3
          exact absurd q3 e
        · exact ⟨q, q1, x, q3⟩
  · unfold I_gli; rw [m6, m7, m4]
    intro j hj q
    rw [vgF, s1]
    by_cases e : j = (cR c f).2.2
    · rw [if_pos e]
      constructor
      · intro x
        cases x
        exact ⟨f1, Or.inl rfl, e.symm⟩
      · rintro ⟨q1, q2, q3⟩
        rcases q2 with x | x
        · rw [x]
        · have := (i4 j hj q).mpr ⟨q1, x, q3⟩
          rw [e, gn] at this
          cases this
    · rw [if_neg e, i4 j hj q]
      constructor
      · rintro ⟨q1, q2, q3⟩
        exact ⟨q1, Or.inr q2, q3⟩
      · rintro ⟨q1, q2, q3⟩
        rcases q2 with x | x
        · rw [x] at q3
          exact absurd q3.symm e
        · exact ⟨q1, x, q3⟩
  · unfold I_one; rw [m7]
    intro x1 q1 x2 q2 q3 q4 i q5 q6
    rw [s1] at q3 q4
    rw [hH] at q5 q6
    rcases q3 with e1 | e1
    · rcases q4 with e2 | e2
      · rw [e1, e2]
      · rw [e1] at q5
        obtain ⟨y1, y2⟩ := fly_0 i2 i3 f1 f3 q5
        have := (i3 i y1).2.mpr ⟨x2, q2, e2, q6⟩
        rw [y2] at this
        exact absurd this (by decide)
    · rcases q4 with e2 | e2
      · rw [e2] at q6
        obtain ⟨y1, y2⟩ := fly_0 i2 i3 f1 f3 q6
        have := (i3 i y1).2.mpr ⟨x1, q1, e1, q5⟩
        rw [y2] at this
        exact absurd this (by decide)
      · exact i5 x1 q1 x2 q2 e1 e2 i q5 q6
  · unfold I_cnt; rw [m5, m7]
    intro i hi
    rw [funext (g3 i), funext (g4 i), funext (g5 i), funext (g6 i), mo i 3 (by decide), mo i 4 (by decide), mo i 5 (by decide), mo i 6 (by decide)]
    exact i6 i hi
  · unfold I_lst; rw [m8, m7]
    refine List.filter_congr (fun q _ => ?_)
    rw [vS]
    unfold p0
    by_cases e : q = f
    · simp [e]
    · simp [e]
  · unfold I_wtg; rw [m9, m6, m7]
    refine ⟨i8.1, fun q hq => ⟨(i8.2.1 q hq).1, ?_⟩, fun q hq => ?_, ?_⟩
    · rw [vgF, if_neg (fun x : q = (cR c f).2.2 => gw (by rw [← x]; exact hq))]
      exact (i8.2.1 q hq).2
    · rw [g4v, vgF]
      by_cases e : q = (cR c f).2.2
      · rw [if_pos e, if_pos e, e, if_neg gw, if_neg (fun x => by cases x)]
      · rw [if_neg e, if_neg e]
        exact i8.2.2.1 q hq
    · have ha : s_air c' = s_air c + (1 - 0) := by
        unfold s_air
        rw [m6]
        refine sumN_at (h := fun g => if cG c g 4 = 0 then 0 else 1) g2 (fun q _ e => ?_) ?_ ?_
        · show (if cG c' q 4 = 0 then (0 : Int32) else 1) = if cG c q 4 = 0 then 0 else 1
          rw [g4v, if_neg e]
        · show (if cG c' (cR c f).2.2 4 = 0 then (0 : Int32) else 1) = 1
          rw [g4v, if_pos rfl]
          rfl
        · show (if cG c (cR c f).2.2 4 = 0 then (0 : Int32) else 1) = 0
          rw [f4]
          rfl
      rw [ha, i8.2.2.2]
      refine (sumN_at (h := fun f => if cF c f 6 = 1 then 1 else 0) f1 (fun q _ e => ?_) ?_ ?_).symm
      · show (if cF c' q 6 = 1 then (1 : Int32) else 0) = if cF c q 6 = 1 then 1 else 0
        rw [vS, if_neg e]
      · show (if cF c' f 6 = 1 then (1 : Int32) else 0) = 1
        rw [vS, if_pos rfl]
        rfl
      · show (if cF c f 6 = 1 then (1 : Int32) else 0) = 0
        rw [f2]
        rfl
  · unfold I_gct; rw [m6, m7]
    intro j hj
    rw [funext (g7 j), funext (g8 j), go j 7 (by decide), go j 8 (by decide)]
    exact i9 j hj
  · unfold I_cst; rw [m7]
    intro q hq
    rw [vo q 10 (by decide) (by decide), i10 q hq]
    unfold kc
    rw [m4, go _ 2 (by decide), vo q 4 (by decide) (by decide)]
    by_cases h : cF c q 6 = 2
    · rw [if_pos h, if_pos ((s2 q).mpr h), d8 q h]
    · rw [if_neg h, if_neg (fun x => h ((s2 q).mp x))]
  · unfold I_clr; rw [m6]
    intro j hj
    rw [go j 5 (by decide), go j 6 (by decide), vgF]
    refine ⟨(i11 j hj).1, fun x => ?_⟩
    by_cases e : j = (cR c f).2.2
    · rw [if_pos e] at x
      cases x
    · rw [if_neg e] at x
      exact (i11 j hj).2 x
  · unfold Rme; rw [m5, m7]
    have z : ∀ k i, k = 10 ∨ k = 11 → mZ m' k i = mZ m k i := fun k i hk => by
      rw [hZ k i (by omega), if_neg (by omega), if_neg (by omega), if_neg (by omega)]
    refine ⟨fun i hi => ?_, fun i hi => by rw [z 11 i (by decide)]; exact a2.2 i hi⟩
    rw [z 10 i (by decide), z 11 i (by decide), mo i 1 (by decide), mo i 7 (by decide), funext (gb i)]
    exact a2.1 i hi
  · unfold Rgl; rw [m6]
    have z : ∀ k i, k = 13 ∨ k = 14 ∨ k = 15 ∨ k = 16 → mZ m' k i = mZ m k i := fun k i hk => by
      rw [hZ k i (by omega), if_neg (by omega), if_neg (by omega), if_neg (by omega)]
    refine ⟨fun j hj => ?_, fun j hj => by rw [z 16 j (by decide)]; exact a3.2 j hj⟩
    obtain ⟨d1, d2, d3, d4, d5⟩ := a3.1 j hj
    rw [z 13 j (by decide), z 14 j (by decide), z 15 j (by decide), z 16 j (by decide), go j 1 (by decide), go j 2 (by decide), go j 3 (by decide), go j 5 (by decide), go j 6 (by decide), vgF]
    refine ⟨d1, d2, d3, d4, fun x => ?_⟩
    have z17 : mZ m' 17 j = if j = (cR c f).2.2 then 0 else mZ m 17 j := by rw [hZ 17 j (by decide)]; simp
    rw [z17]
    by_cases e : j = (cR c f).2.2
    · rw [if_pos e, e]
      exact ((i11 _ g2).2 gn).symm
    · rw [if_neg e] at x ⊢
      exact d5 x
  · unfold Rwt
    rw [m9, hY, m10, show mZ m' 18 = mZ m 18 from funext (fun q => by rw [hZ 18 q (by decide)]; simp)]
    exact a4
  · unfold Rfl; rw [m7, m4]
    intro q hq
    obtain ⟨d1, d2, d3, d4, d5, d6, d7, d8, d9⟩ := a5 q hq
    have z : ∀ k, k = 21 ∨ k = 22 ∨ k = 23 ∨ k = 24 ∨ k = 25 ∨ k = 26 ∨ k = 28 → mZ m' k q = mZ m k q := fun k hk => by
      rw [hZ k q (by omega), if_neg (by omega), if_neg (by omega), if_neg (by omega)]
    have z27 : mZ m' 27 q = if q = f then mY m 1 else mZ m 27 q := by rw [hZ 27 q (by decide)]; simp
    have z29 : mZ m' 29 q = if q = f then 1 else mZ m 29 q := by rw [hZ 29 q (by decide)]; simp
    rw [z 21 (by decide), z 22 (by decide), z 23 (by decide), z 24 (by decide), z 25 (by decide), z 26 (by decide), z 28 (by decide), z27, z29, vo q 4 (by decide) (by decide), vo q 5 (by decide) (by decide), vo q 7 (by decide) (by decide), vo q 9 (by decide) (by decide), v8, vS, d7, d9, a1.2.1]
    exact ⟨d1, d2, d3, d4, d5, d6, rfl, d8, rfl⟩
theorem div100 : ∀ k, k < 1501 → nI k / 100 = nI (k / 100) := by decide +kernel
theorem due_ok {t h : Int32} (ht : t = nI (tN t) ∧ tN t ≤ 1500) (hh : 0 ≤ h ∧ h ≤ 1500) : 0 ≤ t + 4 + h / 100 := by
  obtain ⟨j, hj, rfl⟩ := nI_of (Int32.not_lt.mpr hh.1)
  have hj2 : j ≤ 1500 := (nI_leI hj (by decide)).mp (show nI j ≤ nI 1500 from hh.2)
  rw [ht.1, div100 j (by omega), show (4 : Int32) = nI 4 by decide, nI_add, nI_add]
  exact nI_pos' (by have := ht.2; omega)
theorem T4_start (hI : IC c) (hR : Rl c m) {f k : Nat} (f1 : f < nf c) (f2 : cF c f 6 = 0) (hr : s_rea c f = 0) (hk : (lst c).eraseIdx k = (List.range (nf c)).filter (fun q => p0 c q && decide (q ≠ f))) : IC (u_start (sL c ((lst c).eraseIdx k)) f) ∧ Rl (u_start (sL c ((lst c).eraseIdx k)) f) (n_begin m f) := by
  obtain ⟨f3, f4, f5⟩ := rea_0 hr
  obtain ⟨i1, i2, i3, i4, i5, i6, i7, i8, i9, i10, i11⟩ := id hI
  obtain ⟨a1, a2, a3, a4, a5⟩ := id hR
  obtain ⟨t1, t3, t4, t5, t6, t7⟩ := id i1
  obtain ⟨s0, s1, s2, s3, s4, s5, s6, s7, s8, s9⟩ := id a1
  have b2 := i2.1.2.1
  have hh := (i2.2 f f1).2.2.2
  have e24 : mZ m 24 f = cF c f 4 := (a5 f f1).2.2.2.1
  have e23 : tN (mZ m 23 f) = (cR c f).2.2 := by
    rw [(a5 f f1).2.2.1]
    have := (i2.2 f f1).2.1
    exact tN_nI (by omega)
  have hlen : ((lst c).eraseIdx k).length ≤ 30 := Nat.le_trans (List.length_eraseIdx_le _ _) t7
  have hb3 : ∀ j q, mZ (n_b3 m f) j q = if j = 17 ∧ q = (cR c f).2.2 then 0 else if j = 27 ∧ q = f then mY m 1 else if j = 29 ∧ q = f then 1 else mZ m j q := fun j q => by
    unfold n_b3
    rw [e23]
    rfl
  have vM : ∀ i j, cM (u_start (sL c ((lst c).eraseIdx k)) f) i j = if j = 2 ∧ fHas c f i = true then 1 else cM c i j := fun i j => by
    have e : cM (u_start (sL c ((lst c).eraseIdx k)) f) i j = cM (u_st2 (sL c ((lst c).eraseIdx k)) f) i j := rfl
    rw [e]
    unfold u_st2 fHas
    show cM (setM _ (match (cR c f).2.1 with | none => _ | some s => _)) i j = _
    cases hq : (cR c f).2.1 with
    | none =>
      show (if j = 2 ∧ i = (cR c f).1 then (1 : Int32) else cM c i j) = _
      refine ite_cg (and_congr Iff.rfl ?_) rfl rfl
      rw [decide_eq_true_eq]
      exact ⟨fun x => Or.inl x.symm, fun x => x.elim Eq.symm (fun y => by cases y)⟩
    | some s =>
      show (if j = 2 ∧ i = s then (1 : Int32) else if j = 2 ∧ i = (cR c f).1 then 1 else cM c i j) = _
      by_cases h2 : j = 2
      · by_cases h3 : i = s
        · subst h3; simp [h2]
        · have h5 : ¬ s = i := fun x => h3 x.symm
          by_cases h4 : i = (cR c f).1
          · subst h4; simp [h2, h3]
          · have h6 : ¬ (cR c f).1 = i := fun x => h4 x.symm
            simp [h2, h3, h4, h5, h6]
      · simp [h2]
  have vF : ∀ q j, cF (u_start (sL c ((lst c).eraseIdx k)) f) q j = if j = 8 ∧ q = f then cD c 9 else if j = 6 ∧ q = f then 1 else cF c q j := fun _ _ => rfl
  have vG : ∀ q j, cG (u_start (sL c ((lst c).eraseIdx k)) f) q j = if j = 4 ∧ q = (cR c f).2.2 then 1 else cG c q j := fun _ _ => rfl
  have vgF : ∀ q, cgF (u_start (sL c ((lst c).eraseIdx k)) f) q = if q = (cR c f).2.2 then some f else cgF c q := fun _ => rfl
  have vl : lst (u_start (sL c ((lst c).eraseIdx k)) f) = (lst c).eraseIdx k := rfl
  have vD : ∀ j, cD (u_start (sL c ((lst c).eraseIdx k)) f) j = if cF c f 4 = 0 then (if j = 12 then cD c 9 + 2 else if j = 8 then (if 2 ≤ cD c 7 + 1 then cD c 9 + 10 else cD c 8) else if j = 7 then cD c 7 + 1 else cD c j) else (if j = 12 then cD c 9 + 3 else if j = 14 then (if ¬ cD c 13 = 0 ∧ cD c 14 = 0 then cD c 9 + 4 + cF c f 4 / 100 else cD c 14) else if j = 13 then (if cD c 13 = 0 then cD c 9 + 4 + cF c f 4 / 100 else cD c 13) else cD c j) := fun j => by
    show (if cF c f 4 = 0 then _ else _ : Nat → Int32) j = _
    split <;> rfl
  by_cases h : cF c f 4 = 0
  · have hn : n_begin m f = sY (sY (sY (n_b3 m f) 5 (mY m 5 - 1)) 6 (mY m 1 + 10)) 4 (mY m 1 + 2) := by
      unfold n_begin
      rw [e24, h, if_neg (by decide)]
    have hne : ¬ 2 ≤ cD c 7 := fun q => f5 (Or.inl ⟨h, q⟩)
    have vD2 : ∀ j, cD (u_start (sL c ((lst c).eraseIdx k)) f) j = if j = 12 then cD c 9 + 2 else if j = 8 then (if 2 ≤ cD c 7 + 1 then cD c 9 + 10 else cD c 8) else if j = 7 then cD c 7 + 1 else cD c j := fun j => by rw [vD, if_pos h]
    rw [hn]
    refine T4_core hI hR f1 f2 f3 f4 vF vM vG vgF ⟨rfl, rfl, rfl, rfl, vl.trans hk, rfl, vD2 9⟩ (fun j q _ => hb3 j q) rfl ⟨?_, ?_, ?_, ?_, ?_, ?_⟩ ⟨s0, ?_, ?_, ?_, ?_, ?_, ?_, ?_, ?_, ?_⟩
    · rw [vD2]; exact t1
    · rw [vD2]
      show cD c 7 + 1 = 0 ∨ cD c 7 + 1 = 1 ∨ cD c 7 + 1 = 2
      rcases t3 with q | q | q
      · rw [q]; decide
      · rw [q]; decide
      · rw [q] at hne; exact absurd (by decide) hne
    · rw [vD2]; exact t4
    · rw [vD2]; exact t5
    · rw [vD2]; exact t6
    · rw [vl]; exact hlen
    · rw [vD2]; exact s1
    · rw [vD2]; exact s2
    · rw [vD2]; exact s3
    · rw [vD2]
      show mY m 1 + 2 = cD c 9 + 2
      rw [s1]
    · rw [vD2]
      show mY m 5 - 1 = 2 - (cD c 7 + 1)
      rw [s5]
      grind
    · rw [vD2, vD2]
      show cD c 7 + 1 = 2 → mY m 1 + 10 = if 2 ≤ cD c 7 + 1 then cD c 9 + 10 else cD c 8
      intro q
      rw [q, s1]
      rfl
    · rw [vD2]; exact s7
    · rw [vD2]
      show mZ (n_b3 m f) 8 0 = _
      rw [hb3]
      exact s8
    · rw [vD2]
      show mZ (n_b3 m f) 8 1 = _
      rw [hb3]
      exact s9
  · have hpos : 0 < cF c f 4 := (pos_ne hh.1).mpr h
    have hn : n_begin m f = sY (sZ (n_b3 m f) 8 (if cD c 13 = 0 then 0 else 1) (cD c 9 + 4 + cF c f 4 / 100)) 4 (cD c 9 + 3) := by
      unfold n_begin
      rw [e24, if_pos hpos, s8, s1]
    have hft : ¬ s_ft c ≤ 0 := fun q => f5 (Or.inr ⟨h, q⟩)
    have h14 : ¬ cD c 13 = 0 → cD c 14 = 0 := fun q => Decidable.byContradiction (fun q2 => hft (by
      unfold s_ft s_tk
      rw [if_neg q, if_neg q2]
      rcases t4 with x | x | x <;> rw [x] <;> decide))
    have hdue := due_ok t1 hh
    have vD2 : ∀ j, cD (u_start (sL c ((lst c).eraseIdx k)) f) j = if j = 12 then cD c 9 + 3 else if j = 14 then (if ¬ cD c 13 = 0 ∧ cD c 14 = 0 then cD c 9 + 4 + cF c f 4 / 100 else cD c 14) else if j = 13 then (if cD c 13 = 0 then cD c 9 + 4 + cF c f 4 / 100 else cD c 13) else cD c j := fun j => by rw [vD, if_neg h]
    generalize hdd : cD c 9 + 4 + cF c f 4 / 100 = due at hdue vD2 hn
    rw [hn]
    have h8 : ∀ q, mZ (sY (sZ (n_b3 m f) 8 (if cD c 13 = 0 then 0 else 1) due) 4 (cD c 9 + 3)) 8 q = if q = (if cD c 13 = 0 then 0 else 1) then due else mZ m 8 q := fun q => by
      show (if 8 = 8 ∧ q = (if cD c 13 = 0 then 0 else 1) then due else mZ (n_b3 m f) 8 q) = _
      rw [hb3]
      simp
    refine T4_core hI hR f1 f2 f3 f4 vF vM vG vgF ⟨rfl, rfl, rfl, rfl, vl.trans hk, rfl, vD2 9⟩ (fun j q hj => ?_) rfl ⟨?_, ?_, ?_, ?_, ?_, ?_⟩ ⟨s0, ?_, ?_, ?_, ?_, ?_, ?_, ?_, ?_, ?_⟩
    · rw [← hb3]
      exact if_neg (fun x => hj x.1)
    · rw [vD2]; exact t1
    · rw [vD2]; exact t3
    · rw [vD2]; exact t4
    · rw [vD2]
      show 0 ≤ if cD c 13 = 0 then due else cD c 13
      split
      · exact hdue
      · exact t5
    · rw [vD2]
      show 0 ≤ if ¬ cD c 13 = 0 ∧ cD c 14 = 0 then due else cD c 14
      split
      · exact hdue
      · exact t6
    · rw [vl]; exact hlen
    · rw [vD2]; exact s1
    · rw [vD2]; exact s2
    · rw [vD2]; exact s3
    · rw [vD2]; rfl
    · rw [vD2]; exact s5
    · rw [vD2, vD2]; exact s6
    · rw [vD2]; exact s7
    · rw [vD2, h8]
      show _ = if cD c 13 = 0 then due else cD c 13
      by_cases q : cD c 13 = 0
      · rw [if_pos q, if_pos q, if_pos rfl]
      · rw [if_neg q, if_neg q, if_neg (by decide)]
        exact s8
    · rw [vD2, h8]
      show _ = if ¬ cD c 13 = 0 ∧ cD c 14 = 0 then due else cD c 14
      by_cases q : cD c 13 = 0
      · rw [if_pos q, if_neg (by decide), if_neg (fun x => x.1 q)]
        exact s9
      · rw [if_neg q, if_pos rfl, if_pos ⟨q, h14 q⟩]
theorem can_no : ∀ (l : List Nat) (p : Nat), s_can c p l = none → ∀ q, q ∈ l → ¬ s_rea c q = 0
  | [], _, _ => fun q hq => absurd hq List.not_mem_nil
  | a :: l, p, h => by
    by_cases e : s_rea c a = 0
    · have h2 : s_can c p (a :: l) = some (p, a) := if_pos e
      rw [h2] at h
      cases h
    · have h2 : s_can c p (a :: l) = s_can c (p + 1) l := if_neg e
      rw [h2] at h
      intro q hq
      rcases List.mem_cons.mp hq with x | x
      · rw [x]; exact e
      · exact can_no l (p + 1) h q x
theorem can_some : ∀ (l : List Nat) (p k f : Nat), s_can c p l = some (k, f) → ∃ l1 l2, l = l1 ++ f :: l2 ∧ k = p + l1.length ∧ s_rea c f = 0 ∧ ∀ q, q ∈ l1 → ¬ s_rea c q = 0
  | [], _, _, _, h => by cases h
  | a :: l, p, k, f, h => by
    by_cases e : s_rea c a = 0
    · have h2 : s_can c p (a :: l) = some (p, a) := if_pos e
      rw [h2] at h
      cases h
      exact ⟨[], l, rfl, rfl, e, fun q hq => absurd hq List.not_mem_nil⟩
    · have h2 : s_can c p (a :: l) = s_can c (p + 1) l := if_neg e
      rw [h2] at h
      obtain ⟨l1, l2, e1, e2, e3, e4⟩ := can_some l (p + 1) k f h
      refine ⟨a :: l1, l2, by rw [e1]; rfl, by rw [e2, List.length_cons]; omega, e3, fun q hq => ?_⟩
      rcases List.mem_cons.mp hq with x | x
      · rw [x]; exact e
      · exact e4 q x
theorem T4 (hI : IC c) (hR : Rl c m) (hb : ¬ cD c 9 < cD c 12) : IC (u_sf c).2 ∧ Rl (u_sf c).2 (n_go m).2 ∧ (u_sf c).1 = (n_go m).1 := by
  obtain ⟨i1, i2, i3, i4, i5, i6, i7, i8, i9, i10, i11⟩ := id hI
  obtain ⟨a1, a2, a3, a4, a5⟩ := id hR
  have b3 := i2.1.2.2
  have hbm : ¬ mY m 1 < mY m 4 := fun q => hb (by rw [← a1.2.1, ← a1.2.2.2.2.1]; exact q)
  have hp : ∀ f, f < nf c → (p_can m f = true ↔ f ∈ lst c ∧ s_rea c f = 0) := fun f h => by
    obtain ⟨-, -, -, -, -, -, -, -, h9⟩ := a5 f h
    unfold p_can
    rw [decide_eq_true_eq, h9, r_rea hI hR h, i7, List.mem_filter, List.mem_range, decide_eq_true_eq]
    exact ⟨fun q => ⟨⟨h, q.1⟩, q.2⟩, fun q => ⟨q.1.2, q.2⟩⟩
  unfold n_go u_sf
  rw [if_neg hbm, (r_n i2 a1).2.2]
  cases hs : s_can c 0 (lst c) with
  | none =>
    have h1 := can_no _ _ hs
    have h2 : fgo (p_can m) (nf c) 0 = -1 := fgo_no _ _ (fun q _ hq => Bool.eq_false_iff.mpr (fun h3 => by
      obtain ⟨h4, h5⟩ := (hp q (by omega)).mp h3
      exact h1 q h4 h5))
    rw [if_pos h2]
    exact ⟨hI, hR, rfl⟩
  | some kf =>
    obtain ⟨k, f⟩ := kf
    obtain ⟨l1, l2, e1, e2, e3, e4⟩ := can_some _ _ _ _ hs
    have hfl : f ∈ lst c := by rw [e1]; exact List.mem_append_right _ List.mem_cons_self
    have hf9 := hfl
    rw [i7, List.mem_filter, List.mem_range, decide_eq_true_eq] at hf9
    have hsrt : (lst c).Pairwise (· < ·) := by rw [i7]; exact List.pairwise_lt_range.filter _
    have hsrt2 := hsrt
    rw [e1, List.pairwise_append] at hsrt2
    obtain ⟨p1, p2, p3⟩ := hsrt2
    have p4 := (List.pairwise_cons.mp p2).1
    have h2 : fgo (p_can m) (nf c) 0 = nI f := by
      refine fgo_one _ _ (Nat.zero_le _) (by omega) ((hp f hf9.1).mpr ⟨hfl, e3⟩) (fun q _ hq => Bool.eq_false_iff.mpr (fun h3 => ?_))
      obtain ⟨h4, h5⟩ := (hp q (by omega)).mp h3
      rw [e1, List.mem_append, List.mem_cons] at h4
      rcases h4 with x | x | x
      · exact e4 q x h5
      · omega
      · have := p4 q x
        omega
    rw [if_neg (by rw [h2]; exact nI_m1' (by omega)), h2, tN_nI (by omega)]
    have hk : (lst c).eraseIdx k = (List.range (nf c)).filter (fun q => p0 c q && decide (q ≠ f)) := by
      have x1 : (lst c).eraseIdx k = l1 ++ l2 := by
        rw [e1, e2, Nat.zero_add, List.eraseIdx_append_of_length_le (Nat.le_refl _), Nat.sub_self]
        rfl
      have x2 : (List.range (nf c)).filter (fun q => p0 c q && decide (q ≠ f)) = (lst c).filter (fun q => decide (q ≠ f)) := by
        rw [i7, List.filter_filter]
        refine List.filter_congr (fun q _ => ?_)
        unfold p0
        rw [Bool.and_comm]
      rw [x1, x2, e1, List.filter_append, List.filter_cons, if_neg (by simp)]
      rw [List.filter_eq_self.mpr (fun q hq => by have := p3 q hq f List.mem_cons_self; simp; omega), List.filter_eq_self.mpr (fun q hq => by have := p4 q hq; simp; omega)]
    obtain ⟨y1, y2⟩ := T4_start hI hR hf9.1 hf9.2 e3 hk
    exact ⟨y1, y2, rfl⟩
end RE9
