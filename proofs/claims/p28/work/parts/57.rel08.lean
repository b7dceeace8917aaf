/-! a landing -/
section RE8
variable {c : CS} {m : MS}
theorem sumN_at {g h : Nat → Int32} {n f0 : Nat} {a b : Int32} (hf : f0 < n) (e : ∀ f, f < n → f ≠ f0 → g f = h f) (ha : g f0 = a) (hb : h f0 = b) : sumN n g = sumN n h + (a - b) := by
  rw [sumN_upd n hf e, ha, hb]
theorem cM_sM (c : CS) (i j : Nat) (v : Int32) (a b : Nat) : cM (sM c i j v) a b = if b = j ∧ a = i then v else cM c a b := rfl
theorem cM_dn (c : CS) (i : Nat) (d : Int32) (a b : Nat) : cM (u_dn c i d) a b = if b = 4 ∧ a = i then cM c i 4 + d else if b = 3 ∧ a = i then cM c i 3 + 1 else if b = 2 ∧ a = i then 0 else cM c a b := rfl
theorem cM_wd (c : CS) (f : Nat) (d : Int32) (hs : ∀ s, (cR c f).2.1 = some s → s ≠ (cR c f).1) (i : Nat) :
    cM (u_wd c f d) i 1 = cM c i 1 ∧ cM (u_wd c f d) i 2 = (if fHas c f i = true then 0 else cM c i 2) ∧ cM (u_wd c f d) i 3 = (if fHas c f i = true then cM c i 3 + 1 else cM c i 3) ∧ cM (u_wd c f d) i 4 = (if fHas c f i = true then cM c i 4 + d else cM c i 4) ∧ cM (u_wd c f d) i 5 = (if (cR c f).1 = i ∧ s_hasT c f = true then cM c i 5 + 1 else cM c i 5) ∧ cM (u_wd c f d) i 6 = (if (cR c f).1 = i ∧ (cR c f).2.1 = none then cM c i 6 + 1 else cM c i 6) ∧ cM (u_wd c f d) i 7 = (if (cR c f).1 = i then cM c i 7 + cF c f 10 else cM c i 7) := by
  unfold fHas s_hasT
  cases hq : (cR c f).2.1 with
  | none =>
    have e : ∀ j, cM (u_wd c f d) i j = cM (sM (u_wd1 c f d) (cR c f).1 6 (cM (u_wd1 c f d) (cR c f).1 6 + 1)) i j := fun j => by
      unfold u_wd
      rw [hq]
      rfl
    rw [e, e, e, e, e, e, e]
    unfold u_wd1
    simp only [cM_sM, cM_dn]
    by_cases q : i = (cR c f).1
    · subst q; simp
    · have q2 : ¬ (cR c f).1 = i := fun w => q w.symm
      simp [q, q2]
  | some s =>
    have hne := hs s hq
    have hne2 : ¬ (cR c f).1 = s := fun w => hne w.symm
    have e : ∀ j, cM (u_wd c f d) i j = cM (if cM (u_dn (u_wd1 c f d) s d) s 1 = 3 then sM (u_dn (u_wd1 c f d) s d) (cR c f).1 5 (cM (u_dn (u_wd1 c f d) s d) (cR c f).1 5 + 1) else u_dn (u_wd1 c f d) s d) i j := fun j => by
      unfold u_wd
      rw [hq]
      show (if cM (u_dn (u_wd1 c f d) s d) s 1 = 3 then _ else _ : Nat → Nat → Int32) i j = _
      split <;> rfl
    have e1 : cM (u_dn (u_wd1 c f d) s d) s 1 = cM c s 1 := rfl
    rw [e, e, e, e, e, e, e, e1]
    by_cases h3 : cM c s 1 = 3
    · rw [if_pos h3]
      unfold u_wd1
      simp only [cM_sM, cM_dn]
      by_cases q : i = (cR c f).1
      · subst q; simp [hne, hne2, h3]
      · have q2 : ¬ (cR c f).1 = i := fun w => q w.symm
        by_cases q3 : i = s
        · subst q3; simp [q, q2]
        · have q4 : ¬ s = i := fun w => q3 w.symm
          simp [q, q2, q3, q4]
    · rw [if_neg h3]
      unfold u_wd1
      simp only [cM_sM, cM_dn]
      by_cases q : i = (cR c f).1
      · subst q; simp [hne, hne2, h3]
      · have q2 : ¬ (cR c f).1 = i := fun w => q w.symm
        by_cases q3 : i = s
        · subst q3; simp [q, q2]
        · have q4 : ¬ s = i := fun w => q3 w.symm
          simp [q, q2, q3, q4]
theorem T3_land (hI : IC c) (hR : Rl c m) {g f : Nat} {w : List Nat} (hw : wtg c = g :: w) (hg : g < ng c) (hf : cgF c g = some f) : IC (u_land (sW c w) g f) ∧ Rl (u_land (sW c w) g f) (n_land m g) := by
  have efo : tN (m_fo m (nI g)) = f := by
    rw [r_fo hI.2.1 hI.2.2.2.1 hR.1 hR.2.2.2.2 hg, hf]
    have := ((hI.2.2.2.1 g hg f).mp hf).1
    have := hI.2.1.1.2.2
    exact tN_nI (by omega)
  obtain ⟨i1, i2, i3, i4, i5, i6, i7, i8, i9, i10, i11⟩ := id hI
  obtain ⟨a1, a2, a3, a4, a5⟩ := id hR
  obtain ⟨f1, f2, f3⟩ := (i4 g hg f).mp hf
  have hZ : ∀ j q, mZ (n_land m g) j q = if j = 18 ∧ q = g then 0 else if j = 28 ∧ q = f then mY m 1 else if j = 29 ∧ q = f then 2 else mZ m j q := fun j q => by
    unfold n_land
    rw [efo]
    rfl
  have hY : ∀ j, mY (n_land m g) j = if j = 4 then mY m 1 + 2 else mY m j := fun j => rfl
  generalize n_land m g = m' at hZ hY ⊢
  have vD : ∀ j, cD (u_land (sW c w) g f) j = if j = 12 then cD c 9 + 2 else cD c j := fun j => rfl
  have vF : ∀ q j, cF (u_land (sW c w) g f) q j = if j = 10 ∧ q = f then s_price (cF c f 4) + cG c g 2 * s_cap (cD c 9 - cF c f 8) else if j = 9 ∧ q = f then cD c 9 else if j = 6 ∧ q = f then 2 else cF c q j := fun q j => rfl
  have vG : ∀ q j, cG (u_land (sW c w) g f) q j = if j = 8 ∧ q = g then cG c g 8 + (cD c 9 - cF c f 8) else if j = 7 ∧ q = g then cG c g 7 + 1 else if j = 6 ∧ q = g then 0 else if j = 4 ∧ q = g then 0 else cG c q j := fun q j => rfl
  have vgF : ∀ q, cgF (u_land (sW c w) g f) q = if q = g then none else cgF c q := fun q => rfl
  have vM := fun i => cM_wd (u_ld2 (sW c w) g f) f (cD c 9 - cF c f 8) (fun s hs => ((i2.2 f f1).2.2.1 s hs).2) i
  have vM2 : ∀ i j, cM (u_wd (u_ld2 (sW c w) g f) f (cD c 9 - cF c f 8)) i j = cM (u_land (sW c w) g f) i j := fun _ _ => rfl
  have vM3 : ∀ i j, cM (u_ld2 (sW c w) g f) i j = cM c i j := fun _ _ => rfl
  have vM4 : ∀ i, fHas (u_ld2 (sW c w) g f) f i = fHas c f i := fun _ => rfl
  have vM5 : s_hasT (u_ld2 (sW c w) g f) f = s_hasT c f := rfl
  have vM6 : cR (u_ld2 (sW c w) g f) f = cR c f := rfl
  have vM7 : cF (u_ld2 (sW c w) g f) f 10 = s_price (cF c f 4) + cG c g 2 * s_cap (cD c 9 - cF c f 8) := by
    show (if 10 = 10 ∧ f = f then _ else _) = _
    exact if_pos ⟨rfl, rfl⟩
  simp only [vM2, vM3, vM4, vM5, vM6, vM7] at vM
  have eM : cR (u_land (sW c w) g f) = cR c ∧ nm (u_land (sW c w) g f) = nm c ∧ ng (u_land (sW c w) g f) = ng c ∧ nf (u_land (sW c w) g f) = nf c ∧ lst (u_land (sW c w) g f) = lst c ∧ wtg (u_land (sW c w) g f) = w := ⟨rfl, rfl, rfl, rfl, rfl, rfl⟩
  clear vM2 vM3 vM4 vM5 vM6 vM7
  generalize u_land (sW c w) g f = c' at vD vF vG vgF vM eM ⊢
  generalize hp : s_price (cF c f 4) + cG c g 2 * s_cap (cD c 9 - cF c f 8) = p at vF vM
  obtain ⟨m4, m5, m6, m7, m8, m9⟩ := eM
  have vS : ∀ q, cF c' q 6 = if q = f then 2 else cF c q 6 := fun q => by rw [vF]; simp
  have v4 : ∀ q, cF c' q 4 = cF c q 4 := fun q => by rw [vF]; simp
  have v5 : ∀ q, cF c' q 5 = cF c q 5 := fun q => by rw [vF]; simp
  have v7 : ∀ q, cF c' q 7 = cF c q 7 := fun q => by rw [vF]; simp
  have v8 : ∀ q, cF c' q 8 = cF c q 8 := fun q => by rw [vF]; simp
  have v9 : ∀ q, cF c' q 9 = if q = f then cD c 9 else cF c q 9 := fun q => by rw [vF]; simp
  have v10 : ∀ q, cF c' q 10 = if q = f then p else cF c q 10 := fun q => by rw [vF]; simp
  have hH : ∀ q i, fHas c' q i = fHas c q i := fun q i => by unfold fHas; rw [m4]
  have hT : ∀ q, s_hasT c' q = s_hasT c q := fun q => by
    unfold s_hasT
    rw [m4]
    cases (cR c q).2.1 with
    | none => rfl
    | some s => show decide (cM c' s 1 = 3) = decide (cM c s 1 = 3); rw [(vM s).1]
  have s1 : ∀ q, cF c' q 6 = 1 ↔ q ≠ f ∧ cF c q 6 = 1 := fun q => by
    rw [vS]
    by_cases e : q = f
    · rw [if_pos e]
      exact ⟨fun x => absurd x (by decide), fun x => absurd e x.1⟩
    · rw [if_neg e]
      exact ⟨fun x => ⟨e, x⟩, fun x => x.2⟩
  have n2 : ¬ cF c f 6 = 2 := by rw [f2]; decide
  have sS : ∀ q, q ≠ f → cF c' q 6 = cF c q 6 := fun q e => by rw [vS, if_neg e]
  have s9 : ∀ q, q ≠ f → cF c' q 9 = cF c q 9 := fun q e => by rw [v9, if_neg e]
  have sF2 : cF c' f 6 = 2 := by rw [vS, if_pos rfl]
  have sF9 : cF c' f 9 = cD c 9 := by rw [v9, if_pos rfl]
  have g3 : ∀ i, sumN (nf c) (k3 c' i) = sumN (nf c) (k3 c i) + ((if fHas c f i = true then 1 else 0) - 0) := fun i => by
    refine sumN_at (h := k3 c i) f1 (fun q _ e => ?_) ?_ ?_
    · unfold k3; rw [sS q e, hH]
    · unfold k3; rw [sF2, hH]; simp
    · exact if_neg (fun x => n2 x.1)
  have g4 : ∀ i, sumN (nf c) (k4 c' i) = sumN (nf c) (k4 c i) + ((if fHas c f i = true then cD c 9 - cF c f 8 else 0) - 0) := fun i => by
    refine sumN_at (h := k4 c i) f1 (fun q _ e => ?_) ?_ ?_
    · unfold k4; rw [sS q e, hH, s9 q e, v8]
    · unfold k4; rw [sF2, hH, sF9, v8]; simp
    · exact if_neg (fun x => n2 x.1)
  have g5 : ∀ i, sumN (nf c) (k5 c' i) = sumN (nf c) (k5 c i) + ((if (cR c f).1 = i ∧ s_hasT c f = true then 1 else 0) - 0) := fun i => by
    refine sumN_at (h := k5 c i) f1 (fun q _ e => ?_) ?_ ?_
    · unfold k5; rw [sS q e, hT, m4]
    · unfold k5; rw [sF2, hT, m4]; simp
    · exact if_neg (fun x => n2 x.1)
  have g6 : ∀ i, sumN (nf c) (k6 c' i) = sumN (nf c) (k6 c i) + ((if (cR c f).1 = i ∧ (cR c f).2.1 = none then 1 else 0) - 0) := fun i => by
    refine sumN_at (h := k6 c i) f1 (fun q _ e => ?_) ?_ ?_
    · unfold k6; rw [sS q e, m4]
    · unfold k6; rw [sF2, m4]; simp
    · exact if_neg (fun x => n2 x.1)
  have g7 : ∀ i, sumN (nf c) (k7 c' i) = sumN (nf c) (k7 c i) + ((if g = i then 1 else 0) - 0) := fun i => by
    refine sumN_at (h := k7 c i) f1 (fun q _ e => ?_) ?_ ?_
    · unfold k7; rw [sS q e, m4]
    · unfold k7; rw [sF2, m4, f3]; simp
    · exact if_neg (fun x => n2 x.1)
  have g8 : ∀ i, sumN (nf c) (k8 c' i) = sumN (nf c) (k8 c i) + ((if g = i then cD c 9 - cF c f 8 else 0) - 0) := fun i => by
    refine sumN_at (h := k8 c i) f1 (fun q _ e => ?_) ?_ ?_
    · unfold k8; rw [sS q e, m4, s9 q e, v8]
    · unfold k8; rw [sF2, m4, sF9, v8, f3]; simp
    · exact if_neg (fun x => n2 x.1)
  have c10 : cF c f 10 = 0 := by rw [i10 f f1]; exact if_neg n2
  have gb : ∀ i, sumN (nf c) (kb c' i) = sumN (nf c) (kb c i) + ((if (cR c f).1 = i then p else 0) - 0) := fun i => by
    refine sumN_at (h := kb c i) f1 (fun q _ e => ?_) ?_ ?_
    · unfold kb; rw [m4, v10, if_neg e]
    · unfold kb; rw [m4, v10, if_pos rfl]
    · unfold kb; rw [c10]; simp
  have hgw : g ∉ w := by
    have := i8.1
    rw [hw] at this
    exact (List.nodup_cons.mp this).1
  have hwn : w.Nodup := by
    have := i8.1
    rw [hw] at this
    exact (List.nodup_cons.mp this).2
  have v84 : ∀ q, cG c' q 4 = if q = g then 0 else cG c q 4 := fun q => by rw [vG]; simp
  have v82 : ∀ q, cG c' q 2 = cG c q 2 := fun q => by rw [vG]; simp
  have add0 : ∀ x : Int32, x - 0 = x := fun x => by grind
  refine ⟨⟨?_, ?_, ?_, ?_, ?_, ?_, ?_, ?_, ?_, ?_, ?_⟩, ?_, ?_, ?_, ?_, ?_⟩
  · unfold I_rng; rw [m8, vD, vD, vD, vD, vD]; exact i1
  · unfold I_ref; rw [m4, m5, m6, m7]
    exact ⟨i2.1, fun q hq => by rw [v4]; exact i2.2 q hq⟩
  · unfold I_fly; rw [m5, m7]
    intro i hi
    rw [(vM i).2.1]
    by_cases e : fHas c f i = true
    · rw [if_pos e]
      refine ⟨Or.inl rfl, fun x => absurd x (by decide), ?_⟩
      rintro ⟨q, q1, q2, q3⟩
      rw [s1] at q2
      rw [hH] at q3
      exact absurd (i5 q q1 f f1 q2.2 f2 i q3 e) q2.1
    · rw [if_neg e]
      refine ⟨(i3 i hi).1, (i3 i hi).2.trans ?_⟩
      constructor
      · rintro ⟨q, q1, q2, q3⟩
        exact ⟨q, q1, (s1 q).mpr ⟨fun x => e (by rw [← x]; exact q3), q2⟩, by rw [hH]; exact q3⟩
      · rintro ⟨q, q1, q2, q3⟩
        rw [s1] at q2
        rw [hH] at q3
        exact ⟨q, q1, q2.2, q3⟩
  · unfold I_gli; rw [m6, m7, m4]
    intro j hj q
    rw [vgF, s1]
    by_cases e : j = g
    · rw [if_pos e, e]
      refine ⟨(fun x => by cases x), ?_⟩
      rintro ⟨q1, q2, q3⟩
      have := (i4 g hg q).mpr ⟨q1, q2.2, q3⟩
      rw [hf] at this
      cases this
      exact absurd rfl q2.1
    · rw [if_neg e, i4 j hj q]
      constructor
      · rintro ⟨q1, q2, q3⟩
        exact ⟨q1, ⟨fun x => e (by rw [← q3, x, f3]), q2⟩, q3⟩
      · rintro ⟨q1, q2, q3⟩
        exact ⟨q1, q2.2, q3⟩
  · unfold I_one; rw [m7]
    intro x1 q1 x2 q2 q3 q4 i q5 q6
    rw [s1] at q3 q4
    rw [hH] at q5 q6
    exact i5 x1 q1 x2 q2 q3.2 q4.2 i q5 q6
  · unfold I_cnt; rw [m5, m7]
    intro i hi
    obtain ⟨-, -, e3, e4, e5, e6, -⟩ := vM i
    obtain ⟨d3, d4, d5, d6⟩ := i6 i hi
    rw [g3, g4, g5, g6, e3, e4, e5, e6, d3, d4, d5, d6, add0, add0, add0, add0]
    refine ⟨?_, ?_, ?_, ?_⟩ <;> split <;> simp
  · unfold I_lst; rw [m8, m7, i7]
    refine List.filter_congr (fun q _ => ?_)
    rw [vS]
    by_cases e : q = f
    · rw [if_pos e, e, f2]; rfl
    · rw [if_neg e]
  · unfold I_wtg; rw [m9, m6, m7]
    refine ⟨hwn, fun q hq => ?_, fun q hq => ?_, ?_⟩
    · have hq2 : q ∈ wtg c := by rw [hw]; exact List.mem_cons_of_mem _ hq
      rw [vgF, if_neg (fun x : q = g => hgw (by rw [← x]; exact hq))]
      exact i8.2.1 q hq2
    · rw [v84, vgF]
      by_cases e : q = g
      · rw [if_pos e, if_pos e, e, if_neg hgw]
        rfl
      · rw [if_neg e, if_neg e, i8.2.2.1 q hq, hw]
        refine ite_cg ?_ rfl rfl
        rw [List.mem_cons]
        exact ⟨fun x => x.resolve_left e, Or.inr⟩
    · have ha : s_air c' = s_air c + (0 - 1) := by
        unfold s_air
        rw [m6]
        refine (sumN_upd (g := fun g => if cG c' g 4 = 0 then 0 else 1) (h := fun g => if cG c g 4 = 0 then 0 else 1) (ng c) hg (fun q _ e => ?_)).trans ?_
        · show (if cG c' q 4 = 0 then (0 : Int32) else 1) = if cG c q 4 = 0 then 0 else 1
          rw [v84, if_neg e]
        · show _ + ((if cG c' g 4 = 0 then (0 : Int32) else 1) - (if cG c g 4 = 0 then (0 : Int32) else 1)) = _
          rw [v84, if_pos rfl, if_pos rfl, i8.2.2.1 g hg, hw, if_pos List.mem_cons_self]
          rfl
      rw [ha, i8.2.2.2]
      refine ((sumN_upd (g := fun f => if cF c' f 6 = 1 then 1 else 0) (h := fun f => if cF c f 6 = 1 then 1 else 0) (nf c) f1 (fun q _ e => ?_)).trans ?_).symm
      · show (if cF c' q 6 = 1 then (1 : Int32) else 0) = if cF c q 6 = 1 then 1 else 0
        rw [sS q e]
      · show _ + ((if cF c' f 6 = 1 then (1 : Int32) else 0) - (if cF c f 6 = 1 then (1 : Int32) else 0)) = _
        rw [sF2, f2]
        rfl
  · unfold I_gct; rw [m6, m7]
    intro j hj
    have e7 : cG c' j 7 = if g = j then cG c j 7 + 1 else cG c j 7 := by
      rw [vG]
      by_cases e : j = g
      · subst e; simp
      · have e2 : ¬ g = j := fun x => e x.symm
        simp [e, e2]
    have e8 : cG c' j 8 = if g = j then cG c j 8 + (cD c 9 - cF c f 8) else cG c j 8 := by
      rw [vG]
      by_cases e : j = g
      · subst e; simp
      · have e2 : ¬ g = j := fun x => e x.symm
        simp [e, e2]
    rw [g7, g8, e7, e8, (i9 j hj).1, (i9 j hj).2, add0, add0]
    refine ⟨?_, ?_⟩ <;> split <;> simp
  · unfold I_cst; rw [m7]
    intro q hq
    unfold kc
    rw [v10, v4, m4, v82, v9, v8, vS]
    by_cases e : q = f
    · rw [if_pos e, if_pos e, if_pos e, e, f3, if_pos rfl]
      exact hp.symm
    · rw [if_neg e, if_neg e, if_neg e]
      exact i10 q hq
  · unfold I_clr; rw [m6]
    intro j hj
    have e5 : cG c' j 5 = cG c j 5 := by rw [vG]; simp
    have e6 : cG c' j 6 = if j = g then 0 else cG c j 6 := by rw [vG]; simp
    rw [e5, e6, vgF]
    refine ⟨(i11 j hj).1, fun x => ?_⟩
    by_cases e : j = g
    · rw [if_pos e]
    · rw [if_neg e] at x ⊢
      exact (i11 j hj).2 x
  · unfold Rsc; rw [m5, m6, m7, vD, vD, vD, vD, vD, vD, vD, vD, vD]
    simp only [hY, hZ]
    obtain ⟨b0, b1, b2, b3, b4, b5⟩ := a1
    exact ⟨b0, b1, b2, b3, by rw [← b1]; rfl, b5⟩
  · unfold Rme; rw [m5, m7]
    refine ⟨fun i hi => ?_, fun i hi => ?_⟩
    · obtain ⟨e1, -, -, -, -, -, e7⟩ := vM i
      rw [e1, e7, gb, add0]
      have z10 : mZ m' 10 i = mZ m 10 i := by rw [hZ]; simp
      have z11 : mZ m' 11 i = mZ m 11 i := by rw [hZ]; simp
      rw [z10, z11]
      refine ⟨(a2.1 i hi).1, ?_⟩
      rw [(a2.1 i hi).2]
      split <;> grind
    · have z11 : mZ m' 11 i = mZ m 11 i := by rw [hZ]; simp
      rw [z11]
      exact a2.2 i hi
  · unfold Rgl; rw [m6]
    refine ⟨fun j hj => ?_, fun j hj => ?_⟩
    · obtain ⟨d1, d2, d3, d4, d5⟩ := a3.1 j hj
      have z : ∀ k, k = 13 ∨ k = 14 ∨ k = 15 ∨ k = 16 ∨ k = 17 → mZ m' k j = mZ m k j := fun k hk => by
        rw [hZ, if_neg (by omega), if_neg (by omega), if_neg (by omega)]
      have y : ∀ k, k = 1 ∨ k = 2 ∨ k = 3 ∨ k = 5 → cG c' j k = cG c j k := fun k hk => by
        rw [vG, if_neg (by omega), if_neg (by omega), if_neg (by omega), if_neg (by omega)]
      rw [z 13 (by decide), z 14 (by decide), z 15 (by decide), z 16 (by decide), z 17 (by decide), y 1 (by decide), y 2 (by decide), y 3 (by decide), y 5 (by decide), vgF]
      refine ⟨d1, d2, d3, d4, fun x => ?_⟩
      by_cases e : j = g
      · rw [if_pos e] at x
        exact absurd rfl x
      · rw [if_neg e] at x
        rw [d5 x, vG]
        simp [e]
    · have z16 : mZ m' 16 j = mZ m 16 j := by rw [hZ]; simp
      rw [z16]
      exact a3.2 j hj
  · obtain ⟨l1, l2, l3⟩ := a4
    have z18 : ∀ q, mZ m' 18 q = if q = g then 0 else mZ m 18 q := fun q => by rw [hZ]; simp
    have y19 : mY m' 19 = mY m 19 := by rw [hY]; rfl
    have d9 : cD c' 9 = cD c 9 := by rw [vD]; rfl
    rw [hw] at l3
    obtain ⟨l4, l5⟩ := List.pairwise_cons.mp l3
    unfold Rwt
    rw [m9, y19, d9]
    refine ⟨l1, fun q => ?_, l5.imp_of_mem (fun {a b} ha hb x => ?_)⟩
    · obtain ⟨d1, d2, d3⟩ := l2 q
      rw [z18]
      by_cases e : q = g
      · rw [if_pos e, e]
        have t0 : tN 0 = 0 := by decide
        rw [t0]
        exact ⟨nI_0.symm, Nat.zero_le _, ⟨fun x => absurd x (Nat.lt_irrefl _), fun x => absurd x hgw⟩⟩
      · rw [if_neg e]
        refine ⟨d1, d2, d3.trans ?_⟩
        rw [hw, List.mem_cons]
        exact ⟨fun x => x.resolve_left e, Or.inr⟩
    · rw [z18, z18, if_neg (fun y : a = g => hgw (by rw [← y]; exact ha)), if_neg (fun y : b = g => hgw (by rw [← y]; exact hb))]
      exact x
  · unfold Rfl; rw [m7, m4]
    intro q hq
    obtain ⟨d1, d2, d3, d4, d5, d6, d7, d8, d9⟩ := a5 q hq
    have z : ∀ k, k = 21 ∨ k = 22 ∨ k = 23 ∨ k = 24 ∨ k = 25 ∨ k = 26 ∨ k = 27 → mZ m' k q = mZ m k q := fun k hk => by
      rw [hZ, if_neg (by omega), if_neg (by omega), if_neg (by omega)]
    have z28 : mZ m' 28 q = if q = f then mY m 1 else mZ m 28 q := by rw [hZ]; simp
    have z29 : mZ m' 29 q = if q = f then 2 else mZ m 29 q := by rw [hZ]; simp
    rw [z 21 (by decide), z 22 (by decide), z 23 (by decide), z 24 (by decide), z 25 (by decide), z 26 (by decide), z 27 (by decide), z28, z29, v4, v5, v7, v8, v9, vS, d8, d9, a1.2.1]
    exact ⟨d1, d2, d3, d4, d5, d6, d7, rfl, rfl⟩
/-- who waits longest -/
theorem nx_spec : ∀ n, n ≤ 1000 → (n_nx m n = -1 ∧ ∀ q, q < n → ¬ 0 < mZ m 18 q) ∨ ∃ g, g < n ∧ n_nx m n = nI g ∧ 0 < mZ m 18 g ∧ ∀ q, q < n → 0 < mZ m 18 q → ¬ mZ m 18 q < mZ m 18 g
  | 0, _ => Or.inl ⟨rfl, fun q hq => absurd hq (Nat.not_lt_zero q)⟩
  | n + 1, hb => by
    by_cases h : 0 < mZ m 18 n ∧ (n_nx m n = -1 ∨ mZ m 18 n < mZ m 18 (tN (n_nx m n)))
    · have e : n_nx m (n + 1) = nI n := if_pos h
      refine Or.inr ⟨n, Nat.lt_succ_self n, e, h.1, fun q hq hq2 hq3 => ?_⟩
      by_cases eq : q = n
      · rw [eq] at hq3
        exact Int32.lt_irrefl hq3
      · rcases nx_spec n (by omega) with ⟨h1, h2⟩ | ⟨g, h1, h2, h3, h4⟩
        · exact h2 q (by omega) hq2
        · rcases h.2 with h5 | h5
          · rw [h2] at h5
            exact absurd h5 (nI_m1' (by omega))
          · rw [h2, tN_nI (by omega)] at h5
            exact h4 q (by omega) hq2 (Int32.lt_trans hq3 h5)
    · have e : n_nx m (n + 1) = n_nx m n := if_neg h
      rcases nx_spec n (by omega) with ⟨h1, h2⟩ | ⟨g, h1, h2, h3, h4⟩
      · refine Or.inl ⟨e.trans h1, fun q hq hq2 => ?_⟩
        by_cases eq : q = n
        · rw [eq] at hq2
          exact h ⟨hq2, Or.inl h1⟩
        · exact h2 q (by omega) hq2
      · refine Or.inr ⟨g, by omega, e.trans h2, h3, fun q hq hq2 hq3 => ?_⟩
        by_cases eq : q = n
        · rw [eq] at hq2 hq3
          exact h ⟨hq2, Or.inr (by rw [h2, tN_nI (by omega)]; exact hq3)⟩
        · exact h4 q (by omega) hq2 hq3
theorem T3 (hI : IC c) (hR : Rl c m) : IC (u_m2 c) ∧ Rl (u_m2 c) (n_m3 m) := by
  obtain ⟨i1, i2, i3, i4, i5, i6, i7, i8, i9, i10, i11⟩ := id hI
  obtain ⟨a1, a2, a3, a4, a5⟩ := id hR
  have eb : mY m 1 < mY m 4 ↔ cD c 9 < cD c 12 := by rw [a1.2.1, a1.2.2.2.2.1]
  have eg := (r_n i2 a1).2.1
  have bb := i2.1.2.1
  unfold u_m2 n_m3
  rw [eg]
  by_cases h : cD c 9 < cD c 12
  · rw [if_pos h, if_neg (fun q => q.1 (eb.mpr h))]
    exact ⟨hI, hR⟩
  · rw [if_neg h]
    have hb : ¬ mY m 1 < mY m 4 := fun q => h (eb.mp q)
    have wp := fun g => w_pos a4 i1 g
    unfold u_lfw
    cases hw : wtg c with
    | nil =>
      rcases nx_spec (m := m) (ng c) (by omega) with ⟨h1, h2⟩ | ⟨g, h1, h2, h3, h4⟩
      · rw [if_neg (fun q => q.2 h1)]
        exact ⟨hI, hR⟩
      · rw [wp, hw] at h3
        exact absurd h3 List.not_mem_nil
    | cons g w =>
      have hgm : g ∈ wtg c := by rw [hw]; exact List.mem_cons_self
      obtain ⟨hg, hfn⟩ := i8.2.1 g hgm
      have hnx : n_nx m (ng c) = nI g := by
        rcases nx_spec (m := m) (ng c) (by omega) with ⟨h1, h2⟩ | ⟨q, h1, h2, h3, h4⟩
        · exact absurd ((wp g).mpr hgm) (h2 g hg)
        · have h5 := h4 g hg ((wp g).mpr hgm)
          have hq := (wp q).mp h3
          rw [hw] at hq
          rcases List.mem_cons.mp hq with e | e
          · rw [h2, e]
          · have l3 := a4.2.2
            rw [hw] at l3
            have h6 := (List.pairwise_cons.mp l3).1 q e
            have t2 := i1.1.2
            have b1 := a4.1.2
            have b2 := (a4.2.1 q).2.1
            exfalso
            apply h5
            rw [(a4.2.1 g).1, (a4.2.1 q).1]
            exact nI_lt h6 (by omega)
      have hne : ¬ n_nx m (ng c) = -1 := by rw [hnx]; exact nI_m1' (by omega)
      rw [if_pos ⟨hb, hne⟩, hnx, tN_nI (by omega)]
      cases hf : cgF c g with
      | none => exact absurd hf hfn
      | some f =>
        simp only [hf]
        exact T3_land hI hR hw hg hf
end RE8
