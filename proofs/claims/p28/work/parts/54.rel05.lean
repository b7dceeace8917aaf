/-! members, gliders, flights asked for and dropped -/
section RE5
variable {c : CS} {m : MS}
theorem fHas_new (hr : I_ref c) {f : Nat} (h : f < nf c) : fHas c f (nm c) = false := by
  obtain ⟨g1, g2, g3, -⟩ := hr.2 f h
  unfold fHas
  rw [decide_eq_false_iff_not]
  rintro (q | q)
  · omega
  · have := (g3 _ q).1
    omega
theorem a_addMember (hI : IC c) (hR : Rl c m) (h0 : mY m 0 = 0) (v : Int32) (a : Nat) : Agr (o_addMember c v a) (q_addMember m v) wA := by
  unfold o_addMember q_addMember
  rw [hR.1.1.1, (r_n hI.2.1 hR.1).1]
  have bb := hI.2.1.1
  by_cases h : 0 ≤ v ∧ v ≤ 3
  · rw [if_pos h, if_pos h]
    have e16 : 16 ≤ nI (nm c) ↔ nI (nm c) = 16 := by
      rw [show (16 : Int32) = nI 16 by decide, nI_leI (by decide) (by omega), nI_eq (by omega) (by decide)]
      omega
    by_cases h2 : 16 ≤ nI (nm c)
    · rw [if_pos h2, if_pos (e16.mp h2)]
      exact Agr.no hI hR rfl (by decide) (by decide)
    · rw [if_neg h2, if_neg (fun q => h2 (e16.mpr q))]
      have hlt : nm c < 16 := Nat.lt_of_not_le (fun q => h2 (by rw [show (16 : Int32) = nI 16 by decide]; exact nI_le q (by omega)))
      obtain ⟨i1, i2, i3, i4, i5, i6, i7, i8, i9, i10, i11⟩ := id hI
      obtain ⟨⟨⟨a1, a1'⟩, a1''⟩, ⟨a2, a2'⟩, a3, a4, a5⟩ := id hR
      have hM : ∀ i j, i ≠ nm c → cM (e_mem c v a) i j = cM c i j := fun i j q => if_neg q
      have hN : ∀ j, cM (e_mem c v a) (nm c) j = if j = 1 then v else 0 := fun j => if_pos rfl
      have hT : ∀ f, f < nf c → s_hasT (e_mem c v a) f = s_hasT c f := fun f hf => by
        unfold s_hasT
        show (match (cR c f).2.1 with | none => false | some s => decide (cM (e_mem c v a) s 1 = 3)) = _
        cases hq : (cR c f).2.1 with
        | none => rfl
        | some s =>
          have := ((i2.2 f hf).2.2.1 s hq).1
          show decide (cM (e_mem c v a) s 1 = 3) = decide (cM c s 1 = 3)
          rw [hM s 1 (by omega)]
      have hk5 : ∀ i, sumN (nf c) (k5 (e_mem c v a) i) = sumN (nf c) (k5 c i) := fun i => sumN_congr _ (fun f hf => by
        unfold k5
        rw [hT f hf]
        rfl)
      have hz : ∀ f, f < nf c → ¬ (cR c f).1 = nm c := fun f hf q => by have := (i2.2 f hf).1; omega
      refine Agr.ok ⟨i1, ⟨⟨by show nm c + 1 ≤ 16; omega, i2.1.2⟩, fun f hf => ?_⟩, fun i hi => ?_, i4, i5, fun i hi => ?_, i7, i8, i9, i10, i11⟩ ⟨⟨⟨?_, a1'⟩, a1''⟩, ⟨fun i hi => ?_, fun i hi => a2' i (by have : nm c + 1 ≤ i := hi; omega)⟩, a3, a4, a5⟩ h0 ?_ rfl
      · obtain ⟨g1, g2, g3, g4⟩ := i2.2 f hf
        exact ⟨Nat.lt_succ_of_lt g1, g2, fun s hs => ⟨Nat.lt_succ_of_lt (g3 s hs).1, (g3 s hs).2⟩, g4⟩
      · by_cases q : i = nm c
        · subst q
          rw [hN]
          refine ⟨Or.inl rfl, (fun e => absurd (show (0 : Int32) = 1 from e) (by decide)), fun ⟨f, h1, h2, h3⟩ => ?_⟩
          have h4 : fHas c f (nm c) = true := h3
          rw [fHas_new i2 h1] at h4
          cases h4
        · rw [hM i 2 q]
          exact i3 i (by have : i < nm c + 1 := hi; omega)
      · show _ ∧ _ ∧ cM (e_mem c v a) i 5 = sumN (nf c) (k5 (e_mem c v a) i) ∧ _
        rw [hk5]
        by_cases q : i = nm c
        · subst q
          rw [hN, hN, hN, hN]
          refine ⟨(sumN_0 _ (fun f hf => ?_)).symm, (sumN_0 _ (fun f hf => ?_)).symm, (sumN_0 _ (fun f hf => ?_)).symm, (sumN_0 _ (fun f hf => ?_)).symm⟩
          · exact if_neg (fun x => by have h4 : fHas c f (nm c) = true := x.2; rw [fHas_new i2 hf] at h4; cases h4)
          · exact if_neg (fun x => by have h4 : fHas c f (nm c) = true := x.2; rw [fHas_new i2 hf] at h4; cases h4)
          · exact if_neg (fun x => hz f hf x.2.1)
          · exact if_neg (fun x => hz f hf x.2.1)
        · rw [hM i 3 q, hM i 4 q, hM i 5 q, hM i 6 q]
          exact i6 i (by have : i < nm c + 1 := hi; omega)
      · show nI (nm c) + 1 = nI (nm c + 1)
        rw [nI_1]
      · show (if 10 = 10 ∧ i = nm c then v else mZ m 10 i) = _ ∧ _ = -(mZ m 11 i) + sumN (nf c) (kb c i)
        by_cases q : i = nm c
        · subst q
          rw [hN, hN, if_pos ⟨rfl, rfl⟩, a2' _ (Nat.le_refl _), sumN_0 (g := kb c (nm c)) (nf c) (fun f hf => if_neg (hz f hf))]
          exact ⟨rfl, rfl⟩
        · rw [hM i 1 q, hM i 7 q, if_neg (fun e => q e.2)]
          exact a2 i (by have : i < nm c + 1 := hi; omega)
      · rw [nI_1, nI_pred]
  · rw [if_neg h, if_neg h]
    exact Agr.no hI hR rfl (by decide) (by decide)
theorem a_addGlider (hI : IC c) (hR : Rl c m) (h0 : mY m 0 = 0) (s1 r1 l1 : Int32) (a : Nat) : Agr (o_addGlider c s1 r1 l1 a) (q_addGlider m s1 r1 l1) wA := by
  unfold o_addGlider q_addGlider
  rw [hR.1.1.2.1, (r_n hI.2.1 hR.1).2.1]
  have bb := hI.2.1.1
  by_cases h : (1 ≤ s1 ∧ s1 ≤ 2) ∧ (1 ≤ r1 ∧ r1 ≤ 50) ∧ (5 ≤ l1 ∧ l1 ≤ 40)
  · rw [if_pos h, if_pos h]
    have e8 : 8 ≤ nI (ng c) ↔ nI (ng c) = 8 := by
      rw [show (8 : Int32) = nI 8 by decide, nI_leI (by decide) (by omega), nI_eq (by omega) (by decide)]
      omega
    by_cases h2 : 8 ≤ nI (ng c)
    · rw [if_pos h2, if_pos (e8.mp h2)]
      exact Agr.no hI hR rfl (by decide) (by decide)
    · rw [if_neg h2, if_neg (fun q => h2 (e8.mpr q))]
      have hlt : ng c < 8 := Nat.lt_of_not_le (fun q => h2 (by rw [show (8 : Int32) = nI 8 by decide]; exact nI_le q (by omega)))
      obtain ⟨i1, i2, i3, i4, i5, i6, i7, i8, i9, i10, i11⟩ := id hI
      obtain ⟨⟨⟨a1, a1', a1'''⟩, a1''⟩, a2, ⟨a3, a3'⟩, a4, a5⟩ := id hR
      have hG : ∀ g j, g ≠ ng c → cG (e_gli c s1 r1 l1 a) g j = cG c g j := fun g j q => if_neg q
      have hN : ∀ j, cG (e_gli c s1 r1 l1 a) (ng c) j = if j = 1 then s1 else if j = 2 then r1 else if j = 3 then l1 else 0 := fun j => if_pos rfl
      have hF : ∀ g, g ≠ ng c → cgF (e_gli c s1 r1 l1 a) g = cgF c g := fun g q => if_neg q
      have hF0 : cgF (e_gli c s1 r1 l1 a) (ng c) = none := if_pos rfl
      have hz : ∀ f, f < nf c → ¬ (cR c f).2.2 = ng c := fun f hf q => by have := (i2.2 f hf).2.1; omega
      have hnw : ng c ∉ wtg c := fun q => absurd (i8.2.1 _ q).1 (Nat.lt_irrefl _)
      refine Agr.ok ⟨i1, ⟨⟨i2.1.1, by show ng c + 1 ≤ 8; omega, i2.1.2.2⟩, fun f hf => ?_⟩, i3, fun g hg f => ?_, i5, i6, i7, ⟨i8.1, fun g hg => ?_, fun g hg => ?_, ?_⟩, fun g hg => ?_, fun f hf => ?_, fun g hg => ?_⟩ ⟨⟨⟨a1, ?_, a1'''⟩, a1''⟩, a2, ⟨fun g hg => ?_, fun g hg => a3' g (by have : ng c + 1 ≤ g := hg; omega)⟩, a4, a5⟩ h0 ?_ rfl
      · obtain ⟨g1, g2, g3⟩ := i2.2 f hf
        exact ⟨g1, Nat.lt_succ_of_lt g2, g3⟩
      · have hg2 : g < ng c + 1 := hg
        by_cases q : g = ng c
        · subst q
          rw [hF0]
          exact ⟨(fun e => by cases e), fun e => absurd e.2.2 (hz f e.1)⟩
        · rw [hF g q]
          exact i4 g (by omega) f
      · obtain ⟨h3, h4⟩ := i8.2.1 g hg
        refine ⟨Nat.lt_succ_of_lt h3, ?_⟩
        rw [hF g (by omega)]
        exact h4
      · have hg2 : g < ng c + 1 := hg
        show _ = if g ∈ wtg c then 2 else _
        by_cases q : g = ng c
        · subst q
          rw [hN, hF0, if_neg hnw]
          rfl
        · rw [hG g 4 q, hF g q]
          exact i8.2.2.1 g (by omega)
      · refine Eq.trans ?_ i8.2.2.2
        show sumN (ng c) _ + (if cG (e_gli c s1 r1 l1 a) (ng c) 4 = 0 then 0 else 1) = _
        rw [hN, if_pos (show (if 4 = 1 then s1 else if 4 = 2 then r1 else if 4 = 3 then l1 else (0 : Int32)) = 0 from rfl), Int32.add_zero]
        exact sumN_congr _ (fun g hg => by rw [hG g 4 (by omega)])
      · have hg2 : g < ng c + 1 := hg
        show _ = sumN (nf c) (k7 c g) ∧ _ = sumN (nf c) (k8 c g)
        by_cases q : g = ng c
        · subst q
          rw [hN, hN, sumN_0 (g := k7 c (ng c)) (nf c) (fun f hf => if_neg (fun x => hz f hf x.2)), sumN_0 (g := k8 c (ng c)) (nf c) (fun f hf => if_neg (fun x => hz f hf x.2))]
          exact ⟨rfl, rfl⟩
        · rw [hG g 7 q, hG g 8 q]
          exact i9 g (by omega)
      · refine (i10 f hf).trans ?_
        unfold kc
        rw [hG _ 2 (by show (cR c f).2.2 ≠ ng c; exact hz f hf)]
        rfl
      · have hg2 : g < ng c + 1 := hg
        by_cases q : g = ng c
        · subst q
          rw [hN, hN]
          exact ⟨Or.inl rfl, fun _ => rfl⟩
        · rw [hG g 5 q, hG g 6 q, hF g q]
          exact i11 g (by omega)
      · show nI (ng c) + 1 = nI (ng c + 1)
        rw [nI_1]
      · have hg2 : g < ng c + 1 := hg
        show (if 13 = 13 ∧ g = ng c then s1 else mZ m 13 g) = _ ∧ (if 14 = 14 ∧ g = ng c then r1 else mZ m 14 g) = _ ∧ (if 15 = 15 ∧ g = ng c then l1 else mZ m 15 g) = _ ∧ mZ m 16 g = _ ∧ (_ → mZ m 17 g = _)
        by_cases q : g = ng c
        · subst q
          rw [hN, hN, hN, hN, hF0, a3' _ (Nat.le_refl _)]
          exact ⟨if_pos ⟨rfl, rfl⟩, if_pos ⟨rfl, rfl⟩, if_pos ⟨rfl, rfl⟩, rfl, fun e => absurd rfl e⟩
        · rw [hG g 1 q, hG g 2 q, hG g 3 q, hG g 5 q, hG g 6 q, hF g q, if_neg (fun e => q e.2), if_neg (fun e => q e.2), if_neg (fun e => q e.2)]
          exact a3 g (by omega)
      · rw [nI_1, nI_pred]
  · rw [if_neg h, if_neg h]
    exact Agr.no hI hR rfl (by decide) (by decide)
end RE5
