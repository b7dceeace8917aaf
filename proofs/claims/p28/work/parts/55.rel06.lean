/-! a flight is asked for -/
section RE6
variable {c : CS} {m : MS}
theorem sumN_s {g h : Nat → Int32} {n : Nat} (e : ∀ f, f < n → g f = h f) (z : g n = 0) : sumN (n + 1) g = sumN n h := by
  show sumN n g + g n = _
  rw [z, Int32.add_zero]
  exact sumN_congr n e
theorem ask_new (hI : IC c) (hR : Rl c m) {i g : Nat} {so : Option Nat} {s h n : Int32} {a : Nat} (hi : i < nm c) (hg : g < ng c) (hs : ∀ s, so = some s → s < nm c ∧ s ≠ i) (hso : s = oI so) (hh : 0 ≤ h ∧ h ≤ 1500) (hl : (lst c).length < 30) (hn : nf c < 100) : IC (sL (e_fli c i so g h n a) (lst c ++ [nf c])) ∧ Rl (sL (e_fli c i so g h n a) (lst c ++ [nf c])) (m_ask m (nI i) s (nI g) h n) := by
  obtain ⟨i1, i2, i3, i4, i5, i6, i7, i8, i9, i10, i11⟩ := id hI
  obtain ⟨a1, a2, a3, a4, a5⟩ := id hR
  have emf := (r_n i2 a1).2.2
  have hm' : ∀ j, mZ (m_ask m (nI i) s (nI g) h n) j (nf c) = if j = 29 then 0 else if j = 28 then -1 else if j = 27 then -1 else if j = 26 then mY m 1 else if j = 25 then n else if j = 24 then h else if j = 23 then nI g else if j = 22 then s else if j = 21 then nI i else mZ m j (nf c) := fun j => by
    unfold m_ask
    rw [emf]
    show (if j = 29 ∧ nf c = nf c then (0 : Int32) else if j = 28 ∧ nf c = nf c then -1 else if j = 27 ∧ nf c = nf c then -1 else if j = 26 ∧ nf c = nf c then mY m 1 else if j = 25 ∧ nf c = nf c then n else if j = 24 ∧ nf c = nf c then h else if j = 23 ∧ nf c = nf c then nI g else if j = 22 ∧ nf c = nf c then s else if j = 21 ∧ nf c = nf c then nI i else mZ m j (nf c)) = _
    simp only [and_true]
  have hm2 : ∀ j q, q ≠ nf c → mZ (m_ask m (nI i) s (nI g) h n) j q = mZ m j q := fun j q hq => by
    unfold m_ask
    rw [emf]
    show (if j = 29 ∧ q = nf c then (0 : Int32) else if j = 28 ∧ q = nf c then -1 else if j = 27 ∧ q = nf c then -1 else if j = 26 ∧ q = nf c then mY m 1 else if j = 25 ∧ q = nf c then n else if j = 24 ∧ q = nf c then h else if j = 23 ∧ q = nf c then nI g else if j = 22 ∧ q = nf c then s else if j = 21 ∧ q = nf c then nI i else mZ m j q) = _
    simp [hq]
  have hm3 : ∀ j, j < 21 → ∀ q, mZ (m_ask m (nI i) s (nI g) h n) j q = mZ m j q := fun j hj q => by
    by_cases e : q = nf c
    · rw [e, hm' j]
      rw [if_neg (by omega), if_neg (by omega), if_neg (by omega), if_neg (by omega), if_neg (by omega), if_neg (by omega), if_neg (by omega), if_neg (by omega), if_neg (by omega)]
    · exact hm2 j q e
  have hY : ∀ j, j ≠ 20 → mY (m_ask m (nI i) s (nI g) h n) j = mY m j := fun j hj => if_neg hj
  have hY20 : mY (m_ask m (nI i) s (nI g) h n) 20 = mY m 20 + 1 := by unfold m_ask; rfl
  generalize m_ask m (nI i) s (nI g) h n = m' at hm' hm2 hm3 hY hY20 ⊢
  have f1 : ∀ q j, q ≠ nf c → cF (sL (e_fli c i so g h n a) (lst c ++ [nf c])) q j = cF c q j := fun q j hq => if_neg hq
  have f2 : ∀ j, cF (sL (e_fli c i so g h n a) (lst c ++ [nf c])) (nf c) j = if j = 4 then h else if j = 5 then n else if j = 7 then cD c 9 else if j = 8 then -1 else if j = 9 then -1 else 0 := fun j => if_pos rfl
  have r1 : ∀ q, q ≠ nf c → cR (sL (e_fli c i so g h n a) (lst c ++ [nf c])) q = cR c q := fun q hq => if_neg hq
  have r2 : cR (sL (e_fli c i so g h n a) (lst c ++ [nf c])) (nf c) = (i, so, g) := if_pos rfl
  have eM : cM (sL (e_fli c i so g h n a) (lst c ++ [nf c])) = cM c ∧ cG (sL (e_fli c i so g h n a) (lst c ++ [nf c])) = cG c ∧ cgF (sL (e_fli c i so g h n a) (lst c ++ [nf c])) = cgF c ∧ nm (sL (e_fli c i so g h n a) (lst c ++ [nf c])) = nm c ∧ ng (sL (e_fli c i so g h n a) (lst c ++ [nf c])) = ng c ∧ nf (sL (e_fli c i so g h n a) (lst c ++ [nf c])) = nf c + 1 ∧ wtg (sL (e_fli c i so g h n a) (lst c ++ [nf c])) = wtg c ∧ cD (sL (e_fli c i so g h n a) (lst c ++ [nf c])) = cD c ∧ lst (sL (e_fli c i so g h n a) (lst c ++ [nf c])) = lst c ++ [nf c] := ⟨rfl, rfl, rfl, rfl, rfl, rfl, rfl, rfl, rfl⟩
  generalize sL (e_fli c i so g h n a) (lst c ++ [nf c]) = c' at f1 f2 r1 r2 eM ⊢
  obtain ⟨m1, m2, m3, m4, m5, m6, m7, m8, m9⟩ := eM
  have lt : ∀ {q}, q < nf c → q ≠ nf c := fun h => Nat.ne_of_lt h
  have st : cF c' (nf c) 6 = 0 := f2 6
  have hH : ∀ q j, q < nf c → fHas c' q j = fHas c q j := fun q j hq => by unfold fHas; rw [r1 q (lt hq)]
  have hT : ∀ q, q < nf c → s_hasT c' q = s_hasT c q := fun q hq => by unfold s_hasT; rw [r1 q (lt hq), m1]
  have z2 : ¬ cF c' (nf c) 6 = 2 := by rw [st]; decide
  have g3 : ∀ j, sumN (nf c + 1) (k3 c' j) = sumN (nf c) (k3 c j) := fun j => sumN_s (fun q hq => by unfold k3; rw [f1 q 6 (lt hq), hH q j hq]) (if_neg (fun x => z2 x.1))
  have g4 : ∀ j, sumN (nf c + 1) (k4 c' j) = sumN (nf c) (k4 c j) := fun j => sumN_s (fun q hq => by unfold k4; rw [f1 q 6 (lt hq), f1 q 8 (lt hq), f1 q 9 (lt hq), hH q j hq]) (if_neg (fun x => z2 x.1))
  have g5 : ∀ j, sumN (nf c + 1) (k5 c' j) = sumN (nf c) (k5 c j) := fun j => sumN_s (fun q hq => by unfold k5; rw [f1 q 6 (lt hq), r1 q (lt hq), hT q hq]) (if_neg (fun x => z2 x.1))
  have g6 : ∀ j, sumN (nf c + 1) (k6 c' j) = sumN (nf c) (k6 c j) := fun j => sumN_s (fun q hq => by unfold k6; rw [f1 q 6 (lt hq), r1 q (lt hq)]) (if_neg (fun x => z2 x.1))
  have g7 : ∀ j, sumN (nf c + 1) (k7 c' j) = sumN (nf c) (k7 c j) := fun j => sumN_s (fun q hq => by unfold k7; rw [f1 q 6 (lt hq), r1 q (lt hq)]) (if_neg (fun x => z2 x.1))
  have g8 : ∀ j, sumN (nf c + 1) (k8 c' j) = sumN (nf c) (k8 c j) := fun j => sumN_s (fun q hq => by unfold k8; rw [f1 q 6 (lt hq), f1 q 8 (lt hq), f1 q 9 (lt hq), r1 q (lt hq)]) (if_neg (fun x => z2 x.1))
  have gb : ∀ j, sumN (nf c + 1) (kb c' j) = sumN (nf c) (kb c j) := fun j => sumN_s (fun q hq => by unfold kb; rw [f1 q 10 (lt hq), r1 q (lt hq)]) (by unfold kb; rw [f2 10]; split <;> rfl)
  refine ⟨⟨?_, ?_, ?_, ?_, ?_, ?_, ?_, ?_, ?_, ?_, ?_⟩, ?_, ?_, ?_, ?_, ?_⟩
  · unfold I_rng; rw [m8, m9]
    exact ⟨i1.1, i1.2.1, i1.2.2.1, i1.2.2.2.1, i1.2.2.2.2.1, by rw [List.length_append]; show _ + 1 ≤ 30; omega⟩
  · unfold I_ref; rw [m4, m5, m6]
    refine ⟨⟨i2.1.1, i2.1.2.1, by omega⟩, fun q hq => ?_⟩
    by_cases e : q = nf c
    · rw [e, r2, f2]
      exact ⟨hi, hg, hs, hh⟩
    · rw [r1 q e, f1 q 4 e]
      exact i2.2 q (by omega)
  · unfold I_fly; rw [m4, m6, m1]
    refine fun j hj => ⟨(i3 j hj).1, (i3 j hj).2.trans ?_⟩
    constructor
    · rintro ⟨q, q1, q2, q3⟩
      exact ⟨q, by omega, by rw [f1 q 6 (lt q1)]; exact q2, by rw [hH q j q1]; exact q3⟩
    · rintro ⟨q, q1, q2, q3⟩
      by_cases e : q = nf c
      · rw [e, st] at q2
        exact absurd q2 (by decide)
      · rw [f1 q 6 e] at q2
        rw [hH q j (by omega)] at q3
        exact ⟨q, by omega, q2, q3⟩
  · unfold I_gli; rw [m5, m6, m3]
    intro j hj q
    rw [i4 j hj q]
    constructor
    · rintro ⟨q1, q2, q3⟩
      rw [f1 q 6 (lt q1), r1 q (lt q1)]
      exact ⟨by omega, q2, q3⟩
    · rintro ⟨q1, q2, q3⟩
      by_cases e : q = nf c
      · rw [e, st] at q2
        exact absurd q2 (by decide)
      · rw [f1 q 6 e] at q2
        rw [r1 q e] at q3
        exact ⟨by omega, q2, q3⟩
  · unfold I_one; rw [m6]
    intro x1 q1 x2 q2 q3 q4 j q5 q6
    by_cases e1 : x1 = nf c
    · rw [e1, st] at q3
      exact absurd q3 (by decide)
    · by_cases e2 : x2 = nf c
      · rw [e2, st] at q4
        exact absurd q4 (by decide)
      · rw [f1 x1 6 e1] at q3
        rw [f1 x2 6 e2] at q4
        rw [hH x1 j (by omega)] at q5
        rw [hH x2 j (by omega)] at q6
        exact i5 x1 (by omega) x2 (by omega) q3 q4 j q5 q6
  · unfold I_cnt; rw [m4, m6, m1]
    intro j hj
    rw [g3, g4, g5, g6]
    exact i6 j hj
  · unfold I_lst; rw [m9, m6, List.range_succ, List.filter_append, i7]
    have e1 : (List.range (nf c)).filter (fun f => decide (cF c' f 6 = 0)) = (List.range (nf c)).filter (fun f => decide (cF c f 6 = 0)) := List.filter_congr (fun q hq => by rw [f1 q 6 (lt (List.mem_range.mp hq))])
    rw [e1]
    simp [st]
  · unfold I_wtg; rw [m7, m5, m3, m2, m6]
    refine ⟨i8.1, i8.2.1, i8.2.2.1, ?_⟩
    have h8 : s_air c' = s_air c := by unfold s_air; rw [m2, m5]
    rw [h8, i8.2.2.2]
    exact (sumN_s (fun q hq => by rw [f1 q 6 (lt hq)]) (by rw [st]; rfl)).symm
  · unfold I_gct; rw [m5, m2, m6]
    intro j hj
    rw [g7, g8]
    exact i9 j hj
  · unfold I_cst; rw [m6]
    intro q hq
    by_cases e : q = nf c
    · rw [e, f2]
      exact (if_neg z2).symm
    · rw [f1 q 10 e, i10 q (by omega)]
      unfold kc
      rw [f1 q 6 e, f1 q 4 e, f1 q 8 e, f1 q 9 e, r1 q e, m2]
  · unfold I_clr; rw [m5, m2, m3]; exact i11
  · unfold Rsc; rw [m4, m5, m6, m8, hY 9 (by decide), hY 12 (by decide), hY20, hY 1 (by decide), hY 2 (by decide), hY 3 (by decide), hY 4 (by decide), hY 5 (by decide), hY 6 (by decide), hY 7 (by decide), hm3 8 (by decide), hm3 8 (by decide)]
    exact ⟨⟨a1.1.1, a1.1.2.1, by rw [a1.1.2.2, nI_1]⟩, a1.2⟩
  · unfold Rme; rw [m4, m6, m1]
    refine ⟨fun j hj => ?_, fun j hj => by rw [hm3 11 (by decide)]; exact a2.2 j hj⟩
    rw [gb, hm3 10 (by decide), hm3 11 (by decide)]
    exact a2.1 j hj
  · unfold Rgl; rw [m5, m2, m3]
    refine ⟨fun j hj => ?_, fun j hj => by rw [hm3 16 (by decide)]; exact a3.2 j hj⟩
    rw [hm3 13 (by decide), hm3 14 (by decide), hm3 15 (by decide), hm3 16 (by decide), hm3 17 (by decide)]
    exact a3.1 j hj
  · unfold Rwt; rw [m7, m8, hY 19 (by decide), show mZ m' 18 = mZ m 18 from funext (hm3 18 (by decide))]
    exact a4
  · unfold Rfl; rw [m6]
    intro q hq
    by_cases e : q = nf c
    · rw [e, r2, hm', hm', hm', hm', hm', hm', hm', hm', hm', f2, f2, f2, f2, f2, f2]
      exact ⟨rfl, hso, rfl, rfl, rfl, a1.2.1, rfl, rfl, rfl⟩
    · rw [r1 q e, hm2 21 q e, hm2 22 q e, hm2 23 q e, hm2 24 q e, hm2 25 q e, hm2 26 q e, hm2 27 q e, hm2 28 q e, hm2 29 q e, f1 q 4 e, f1 q 5 e, f1 q 6 e, f1 q 7 e, f1 q 8 e, f1 q 9 e]
      exact a5 q (by omega)
theorem a_ask (hI : IC c) (hR : Rl c m) (h0 : mY m 0 = 0) (x s g h n : Int32) (a : Nat) : Agr (o_ask c x s g h n a) (q_ask m x s g h n) wC := by
  unfold o_ask q_ask m_cnt2
  obtain ⟨b1, b2, b3⟩ := hI.2.1.1
  rw [r_lst hI.2.2.2.2.2.2.1 hI.2.1 hR.1 hR.2.2.2.2, hR.1.1.1, hR.1.1.2.1, hR.1.1.2.2]
  have hl := hI.1.2.2.2.2.2
  by_cases h1 : 0 ≤ x ∧ x < nI (nm c)
  · rw [if_pos h1]
    by_cases h2 : s = -1 ∨ (0 ≤ s ∧ s < nI (nm c))
    · rw [if_pos h2]
      by_cases h3 : 0 ≤ g ∧ g < nI (ng c)
      · have hC : ((0 ≤ x ∧ x ≤ nI (nm c) - 1) ∧ (0 ≤ g ∧ g ≤ nI (ng c) - 1)) ∧ (s = -1 ∨ (0 ≤ s ∧ s ≤ nI (nm c) - 1)) := ⟨⟨(idx (by omega)).mpr h1, (idx (by omega)).mpr h3⟩, h2.imp id (idx (by omega)).mpr⟩
        rw [if_pos h3, if_pos hC]
        by_cases h4 : x = s ∨ ¬ (h = 0 ∨ (200 ≤ h ∧ h ≤ 1500)) ∨ ¬ (2 ≤ n ∧ n ≤ 300)
        · rw [if_pos h4, if_neg (fun q => h4.elim q.1 (fun w => w.elim (fun w => w q.2.1) (fun w => w q.2.2)))]
          exact Agr.no hI hR rfl (by decide) (by decide)
        · have h5 : ¬ x = s ∧ (h = 0 ∨ (200 ≤ h ∧ h ≤ 1500)) ∧ (2 ≤ n ∧ n ≤ 300) := ⟨fun q => h4 (Or.inl q), Decidable.not_not.mp (fun q => h4 (Or.inr (Or.inl q))), Decidable.not_not.mp (fun q => h4 (Or.inr (Or.inr q)))⟩
          rw [if_neg h4, if_pos h5]
          have e6 : (30 ≤ nI (lst c).length ∨ 100 ≤ nI (nf c)) ↔ (nI (lst c).length = 30 ∨ nI (nf c) = 100) := by
            rw [show (30 : Int32) = nI 30 by decide, show (100 : Int32) = nI 100 by decide, nI_leI (by decide) (by omega), nI_leI (by decide) (by omega), nI_eq (by omega) (by decide), nI_eq (by omega) (by decide)]
            omega
          by_cases h6 : 30 ≤ nI (lst c).length ∨ 100 ≤ nI (nf c)
          · rw [if_pos h6, if_pos (e6.mp h6)]
            exact Agr.no hI hR rfl (by decide) (by decide)
          · rw [if_neg h6, if_neg (fun q => h6 (e6.mpr q))]
            have h7 : (lst c).length < 30 ∧ nf c < 100 := by
              rw [show (30 : Int32) = nI 30 by decide, show (100 : Int32) = nI 100 by decide, nI_leI (by decide) (by omega), nI_leI (by decide) (by omega)] at h6
              omega
            obtain ⟨i, hi, e1, e2⟩ := idx_of (by omega) h1
            obtain ⟨j, hj, e3, e4⟩ := idx_of (by omega) h3
            have hh : 0 ≤ h ∧ h ≤ 1500 := by
              rcases h5.2.1 with q | q
              · rw [q]; decide
              · exact ⟨Int32.le_trans (by decide) q.1, q.2⟩
            have hk : (∀ s2, (if s = -1 then none else some (tN s)) = some s2 → s2 < nm c ∧ s2 ≠ i) ∧ s = oI (if s = -1 then none else some (tN s)) := by
              by_cases q : s = -1
              · rw [if_pos q]
                exact ⟨(fun s2 w => by cases w), q⟩
              · rw [if_neg q]
                obtain ⟨k, k1, k2, k3⟩ := idx_of (by omega) (h2.resolve_left q)
                rw [k3]
                refine ⟨fun s2 w => ?_, k2⟩
                cases w
                exact ⟨k1, fun w => h5.1 (by rw [e1, k2, w])⟩
            obtain ⟨n1, n2⟩ := ask_new (n := n) (a := a) hI hR hi hj hk.1 hk.2 hh h7.1 h7.2
            rw [e2, e4, e1, e3]
            exact Agr.ok n1 n2 h0 (by rw [nI_1, nI_pred]) rfl
      · rw [if_neg h3, if_neg (fun q => h3 ((idx (by omega)).mp q.1.2))]
        exact Agr.no hI hR rfl (by decide) (by decide)
    · rw [if_neg h2, if_neg (fun q => h2 (q.2.imp id (idx (by omega)).mp))]
      exact Agr.no hI hR rfl (by decide) (by decide)
  · rw [if_neg h1, if_neg (fun q => h1 ((idx (by omega)).mp q.1.1))]
    exact Agr.no hI hR rfl (by decide) (by decide)
end RE6
