/-! a minute: time, cables and tugs; who begins to wait -/
section RE7
variable {c : CS} {m : MS}
theorem T1 (hI : IC c) (hR : Rl c m) (ht : tN (cD c 9) < 1500) : IC (u_tgs (u_cab (sD c 9 (cD c 9 + 1)))) ∧ Rl (u_tgs (u_cab (sD c 9 (cD c 9 + 1)))) (n_m2 m) ∧ tN (mY (n_m2 m) 19) ≤ 8 * tN (cD c 9) ∧ tN (cD (u_tgs (u_cab (sD c 9 (cD c 9 + 1)))) 9) = tN (cD c 9) + 1 := by
  obtain ⟨i1, i2, i3, i4, i5, i6, i7, i8, i9, i10, i11⟩ := id hI
  obtain ⟨a1, a2, a3, a4, a5⟩ := id hR
  obtain ⟨⟨t1, t2⟩, t3, t4, t5, t6, t7⟩ := id i1
  obtain ⟨s0, s1, s2, s3, s4, s5, s6, s7, s8, s9⟩ := id a1
  have e9 : cD (u_tgs (u_cab (sD c 9 (cD c 9 + 1)))) 9 = cD c 9 + 1 := rfl
  have n9 : cD c 9 + 1 = nI (tN (cD c 9) + 1) := by
    have h := nI_1 (tN (cD c 9))
    rw [← t1] at h
    exact h
  have k9 : tN (cD c 9 + 1) = tN (cD c 9) + 1 := by rw [n9]; exact tN_nI (by omega)
  have e7 : cD (u_tgs (u_cab (sD c 9 (cD c 9 + 1)))) 7 = if 2 ≤ cD c 7 ∧ cD c 8 ≤ cD c 9 + 1 then 0 else cD c 7 := rfl
  have e13 : cD (u_tgs (u_cab (sD c 9 (cD c 9 + 1)))) 13 = if cD c 13 ≤ cD c 9 + 1 then 0 else cD c 13 := rfl
  have e14 : cD (u_tgs (u_cab (sD c 9 (cD c 9 + 1)))) 14 = if cD c 14 ≤ cD c 9 + 1 then 0 else cD c 14 := rfl
  have h13 : 0 ≤ (if cD c 13 ≤ cD c 9 + 1 then 0 else cD c 13) := by split <;> first | exact t5 | decide
  have h14 : 0 ≤ (if cD c 14 ≤ cD c 9 + 1 then 0 else cD c 14) := by split <;> first | exact t6 | decide
  have h7 : (if 2 ≤ cD c 7 ∧ cD c 8 ≤ cD c 9 + 1 then 0 else cD c 7) = 0 ∨ (if 2 ≤ cD c 7 ∧ cD c 8 ≤ cD c 9 + 1 then 0 else cD c 7) = 1 ∨ (if 2 ≤ cD c 7 ∧ cD c 8 ≤ cD c 9 + 1 then 0 else cD c 7) = 2 := by
    by_cases q : 2 ≤ cD c 7 ∧ cD c 8 ≤ cD c 9 + 1
    · rw [if_pos q]; exact Or.inl rfl
    · rw [if_neg q]; exact t3
  have f1 : mY (n_m2 m) 1 = mY m 1 + 1 := rfl
  have f5 : mY (n_m2 m) 5 = if mY m 5 = 0 ∧ mY m 6 ≤ mY m 1 + 1 then 2 else mY m 5 := rfl
  have f80 : mZ (n_m2 m) 8 0 = if mZ m 8 0 ≤ mY m 1 + 1 then 0 else mZ m 8 0 := rfl
  have f81 : mZ (n_m2 m) 8 1 = if mZ m 8 1 ≤ mY m 1 + 1 then 0 else mZ m 8 1 := rfl
  have g7 : (2 ≤ cD c 7) ↔ cD c 7 = 2 := by rcases t3 with q | q | q <;> rw [q] <;> decide
  have g5 : (mY m 5 = 0) ↔ cD c 7 = 2 := by rw [s5]; rcases t3 with q | q | q <;> rw [q] <;> decide
  refine ⟨⟨⟨⟨by rw [e9, k9]; exact n9, by rw [e9, k9]; omega⟩, by rw [e7]; exact h7, t4, by rw [e13]; exact h13, by rw [e14]; exact h14, t7⟩, i2, i3, i4, i5, i6, i7, i8, i9, i10, i11⟩, ⟨⟨s0, ?_, s2, s3, s4, ?_, ?_, s7, ?_, ?_⟩, a2, a3, ⟨⟨a4.1.1, ?_⟩, a4.2⟩, a5⟩, a4.1.2, by rw [e9, k9]⟩
  · rw [f1, e9, s1]
  · rw [f5, e7, s1]
    by_cases q : cD c 7 = 2
    · have e6 := s6 q
      rw [e6]
      by_cases q2 : cD c 8 ≤ cD c 9 + 1
      · rw [if_pos ⟨g5.mpr q, q2⟩, if_pos ⟨g7.mpr q, q2⟩]
        rfl
      · rw [if_neg (fun w => q2 w.2), if_neg (fun w => q2 w.2)]
        exact s5
    · rw [if_neg (fun w => q (g5.mp w.1)), if_neg (fun w => q (g7.mp w.1))]
      exact s5
  · rw [e7]
    intro h
    refine s6 ?_
    by_cases q : 2 ≤ cD c 7 ∧ cD c 8 ≤ cD c 9 + 1
    · rw [if_pos q] at h
      exact absurd h (by decide)
    · rw [if_neg q] at h
      exact h
  · rw [f80, e13, s8, s1]
  · rw [f81, e14, s9, s1]
  · rw [e9, k9]
    exact Nat.le_trans a4.1.2 (by omega)
theorem w1_no_ {g : Nat} (h : w_must c g = false) : u_w1 c g = c := by
  unfold u_w1
  rw [h]
  show sWo (sG c g 4 (cG c g 4)) (wtg c) (ow c || false) = c
  rw [Bool.or_false, sG_self]
  rfl
theorem w1_yes_ {g : Nat} (h : w_must c g = true) : u_w1 c g = sWa (sG c g 4 2) (wtg c ++ [g]) := by
  unfold u_w1
  rw [h, Bool.or_true]
  rfl
theorem must_eq (hI : IC c) (hR : Rl c m) {g : Nat} (h : g < ng c) : w_mst m g = w_must c g := by
  have ef := r_fo hI.2.1 hI.2.2.2.1 hR.1 hR.2.2.2.2 h
  have en := r_fon hI hR h
  have ew := w_pos hR.2.2.2.1 hI.1 g
  obtain ⟨i1, i2, i3, i4, i5, i6, i7, i8, i9, i10, i11⟩ := id hI
  obtain ⟨a1, a2, a3, a4, a5⟩ := id hR
  have e4 := i8.2.2.1 g h
  unfold w_mst w_must s_must
  cases hq : cgF c g with
  | none =>
    rw [decide_eq_false (fun q => q.1 (en.mpr hq))]
    show false = (_ && false)
    rw [Bool.and_false]
  | some f =>
    have hf := ((i4 g h f).mp hq).1
    have bb := i2.1.2.2
    obtain ⟨-, -, -, -, d5, -, d7, -, -⟩ := a5 f hf
    have d17 := (a3.1 g h).2.2.2.2 (by rw [hq]; intro w; cases w)
    have hne : ¬ m_fo m (nI g) = -1 := fun w => by rw [en, hq] at w; cases w
    rw [ef, hq]
    show decide (¬ oI (some f) = -1 ∧ ¬ 0 < mZ m 18 g ∧ ¬ (mY m 1 - mZ m 27 (tN (nI f)) < mZ m 25 (tN (nI f)) ∧ mY m 1 < mY m 3 ∧ mZ m 17 g = 0)) = (decide (cG c g 4 = 1) && decide (¬ cG c g 6 = 0 ∨ cD c 11 ≤ cD c 9 ∨ cF c f 5 ≤ cD c 9 - cF c f 8))
    rw [tN_nI (by omega), d5, d7, d17, a1.2.1, a1.2.2.2.1, ← Bool.decide_and]
    refine decide_eq_decide.mpr ?_
    rw [hq] at e4
    have e41 : cG c g 4 = 1 ↔ ¬ g ∈ wtg c := by
      rw [e4]
      by_cases q : g ∈ wtg c
      · rw [if_pos q]
        exact ⟨fun w => absurd w (by decide), fun w => absurd q w⟩
      · rw [if_neg q, if_neg (fun w => by cases w)]
        exact ⟨fun _ => q, fun _ => rfl⟩
    rw [ew, e41, ← Int32.not_lt, ← Int32.not_lt]
    have hne2 : ¬ oI (some f) = -1 := nI_m1' (by omega)
    constructor
    · rintro ⟨-, q2, q3⟩
      refine ⟨q2, ?_⟩
      by_cases w1 : cG c g 6 = 0
      · by_cases w2 : cD c 9 < cD c 11
        · exact Or.inr (Or.inr (fun w3 => q3 ⟨w3, w2, w1⟩))
        · exact Or.inr (Or.inl w2)
      · exact Or.inl w1
    · rintro ⟨q2, q3⟩
      exact ⟨hne2, q2, fun w => q3.elim (fun u => u w.2.2) (fun u => u.elim (fun u => u w.2.1) (fun u => u w.1))⟩
theorem T2_1 (hI : IC c) (hR : Rl c m) {g : Nat} (h : g < ng c) (hb : tN (mY m 19) + 1 ≤ 8 * tN (cD c 9)) : IC (u_w1 c g) ∧ Rl (u_w1 c g) (n_w1 m g) ∧ tN (mY (n_w1 m g) 19) ≤ tN (mY m 19) + 1 := by
  have em := must_eq hI hR h
  obtain ⟨i1, i2, i3, i4, i5, i6, i7, i8, i9, i10, i11⟩ := id hI
  obtain ⟨a1, a2, a3, ⟨⟨l1, l2⟩, l3, l4⟩, a5⟩ := id hR
  unfold n_w1
  cases hw : w_must c g with
  | false =>
    rw [em, hw, w1_no_ hw, if_neg (by decide)]
    exact ⟨hI, hR, by omega⟩
  | true =>
    rw [em, hw, w1_yes_ hw, if_pos rfl]
    have hw2 := hw
    unfold w_must at hw2
    rw [Bool.and_eq_true, decide_eq_true_eq] at hw2
    have e4 := i8.2.2.1 g h
    rw [hw2.1] at e4
    have hng : g ∉ wtg c := fun q => by rw [if_pos q] at e4; exact absurd e4 (by decide)
    rw [if_neg hng] at e4
    have hfl : cgF c g ≠ none := fun q => by rw [if_pos q] at e4; exact absurd e4 (by decide)
    have t2 := i1.1.2
    have n19 : mY m 19 + 1 = nI (tN (mY m 19) + 1) := by
      have h := nI_1 (tN (mY m 19))
      rw [← l1] at h
      exact h
    have k19 : tN (mY m 19 + 1) = tN (mY m 19) + 1 := by rw [n19]; exact tN_nI (by omega)
    have z18 : ∀ q, mZ (sZ (sY m 19 (mY m 19 + 1)) 18 g (mY m 19 + 1)) 18 q = if q = g then mY m 19 + 1 else mZ m 18 q := fun q => by
      show (if 18 = 18 ∧ q = g then mY m 19 + 1 else mZ m 18 q) = _
      simp
    have y19 : mY (sZ (sY m 19 (mY m 19 + 1)) 18 g (mY m 19 + 1)) 19 = mY m 19 + 1 := rfl
    have g4 : ∀ q, cG (sWa (sG c g 4 2) (wtg c ++ [g])) q 4 = if q = g then 2 else cG c q 4 := fun q => by
      show (if 4 = 4 ∧ q = g then (2 : Int32) else cG c q 4) = _
      simp
    refine ⟨⟨i1, i2, i3, i4, i5, i6, i7, ⟨?_, fun q hq => ?_, fun q hq => ?_, ?_⟩, i9, i10, i11⟩, ⟨a1, a2, a3, ⟨⟨?_, ?_⟩, fun q => ?_, ?_⟩, a5⟩, ?_⟩
    · show (wtg c ++ [g]).Nodup
      rw [List.nodup_append]
      refine ⟨i8.1, List.nodup_cons.mpr ⟨List.not_mem_nil, List.nodup_nil⟩, fun a ha b hb2 e => hng ?_⟩
      rw [List.mem_singleton] at hb2
      rw [← hb2, ← e]
      exact ha
    · rcases List.mem_append.mp hq with q1 | q1
      · exact i8.2.1 q q1
      · rw [List.mem_singleton.mp q1]
        exact ⟨h, hfl⟩
    · rw [g4]
      show _ = if q ∈ wtg c ++ [g] then 2 else if cgF c q = none then 0 else 1
      by_cases e : q = g
      · rw [if_pos e, if_pos (by rw [e]; exact List.mem_append_right _ (List.mem_singleton.mpr rfl))]
      · rw [if_neg e, i8.2.2.1 q hq]
        refine ite_cg ?_ rfl rfl
        rw [List.mem_append, List.mem_singleton]
        exact ⟨Or.inl, fun w => w.resolve_right e⟩
    · refine Eq.trans ?_ i8.2.2.2
      refine sumN_congr _ (fun q _ => ?_)
      show (if cG (sWa (sG c g 4 2) (wtg c ++ [g])) q 4 = 0 then (0 : Int32) else 1) = if cG c q 4 = 0 then 0 else 1
      rw [g4]
      by_cases e : q = g
      · rw [if_pos e, e, hw2.1]
        decide
      · rw [if_neg e]
    · rw [y19, k19]
      exact n19
    · rw [y19, k19]
      exact hb
    · obtain ⟨d1, d2, d3⟩ := l3 q
      rw [y19, z18, k19]
      show _ ∧ _ ∧ (_ ↔ q ∈ wtg c ++ [g])
      rw [List.mem_append, List.mem_singleton]
      by_cases e : q = g
      · rw [if_pos e, k19]
        exact ⟨n19, Nat.le_refl _, ⟨fun _ => Or.inr e, fun _ => by omega⟩⟩
      · rw [if_neg e]
        refine ⟨d1, by omega, d3.trans ⟨Or.inl, fun w => w.resolve_right e⟩⟩
    · show (wtg c ++ [g]).Pairwise _
      rw [List.pairwise_append]
      refine ⟨l4.imp_of_mem (fun {a b} ha hb2 q => ?_), List.pairwise_singleton _ _, fun a ha b hb2 => ?_⟩
      · rw [z18, z18, if_neg (fun w : a = g => hng (by rw [← w]; exact ha)), if_neg (fun w : b = g => hng (by rw [← w]; exact hb2))]
        exact q
      · rw [List.mem_singleton] at hb2
        rw [z18, z18, hb2, if_pos rfl, if_neg (fun w : a = g => hng (by rw [← w]; exact ha)), k19]
        have := (l3 a).2.1
        omega
    · rw [y19, k19]
      exact Nat.le_refl _
theorem T2 (hI : IC c) (hR : Rl c m) (hb : tN (mY m 19) + ng c ≤ 8 * tN (cD c 9)) : ∀ n, n ≤ ng c → IC (u_wN c n) ∧ Rl (u_wN c n) (n_wN m n) ∧ tN (mY (n_wN m n) 19) ≤ tN (mY m 19) + n
  | 0, _ => ⟨hI, hR, Nat.le_refl _⟩
  | n + 1, h => by
    obtain ⟨h1, h2, h3⟩ := T2 hI hR hb n (by omega)
    obtain ⟨e1, -, e3, -, -, e6, -⟩ := ad_wN c n
    obtain ⟨h4, h5, h6⟩ := T2_1 h1 h2 (g := n) (by rw [e3]; omega) (by rw [e6]; omega)
    exact ⟨h4, h5, by show tN (mY (n_w1 (n_wN m n) n) 19) ≤ _; omega⟩
end RE7
