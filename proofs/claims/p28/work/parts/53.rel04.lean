/-! the calls that change little -/
section RE4
variable {c : CS} {m : MS}
def wA : Nat → Int32
  | 0 => 0
  | 1 => 1
  | 2 => 2
  | _ => 9
def wC : Nat → Int32
  | 0 => 0
  | 1 => 2
  | 2 => 3
  | 3 => 1
  | _ => 9
/-- a call of both: they stay tied, the same is thrown, the same answered -/
def Agr (o : Nat × Int32 × CS) (q : Int32 × MS) (w : Nat → Int32) : Prop := IC o.2.2 ∧ Rl o.2.2 q.2 ∧ mY q.2 0 = w o.1 ∧ (o.1 = 0 → o.2.1 = q.1) ∧ w o.1 ≠ 9
theorem Agr.no (hI : IC c) (hR : Rl c m) {k : Nat} {v b x : Int32} {w : Nat → Int32} (hv : v = w k) (hk : k ≠ 0) (h9 : v ≠ 9) : Agr (k, x, c) (b, sY m 0 v) w :=
  ⟨hI, hR.t, hv, fun q => absurd q hk, hv ▸ h9⟩
theorem Agr.ok {c' : CS} {m' : MS} {v b : Int32} {w : Nat → Int32} (hI : IC c') (hR : Rl c' m') (h0 : mY m' 0 = 0) (e : v = b) (hw : w 0 = 0) : Agr (0, v, c') (b, m') w :=
  ⟨hI, hR, h0.trans hw.symm, fun _ => e, by show w 0 ≠ 9; rw [hw]; decide⟩
theorem idx {x : Int32} {n : Nat} (hn : n ≤ 1000) : (0 ≤ x ∧ x ≤ nI n - 1) ↔ (0 ≤ x ∧ x < nI n) := by
  refine and_congr_right (fun h => ?_)
  obtain ⟨j, hj, rfl⟩ := nI_of (Int32.not_lt.mpr h)
  rcases n with _ | n
  · rw [nI_0]
    exact ⟨fun q => absurd (Int32.le_trans h q) (by decide), fun q => absurd (Int32.lt_of_le_of_lt h q) (by decide)⟩
  · rw [nI_pred, nI_leI hj (by omega), nI_ltI hj (by omega)]
    omega
theorem idx_of {x : Int32} {n : Nat} (hn : n ≤ 1000) (h : 0 ≤ x ∧ x < nI n) : ∃ j, j < n ∧ x = nI j ∧ tN x = j := by
  obtain ⟨h1, h2⟩ := tN_ok h.1 h.2 (by omega)
  exact ⟨tN x, h1, h2.symm, rfl⟩
theorem a_setWind (hI : IC c) (hR : Rl c m) (h0 : mY m 0 = 0) (x : Int32) : Agr (o_setWind c x) (q_setWind m x) wA := by
  unfold o_setWind q_setWind
  by_cases h : 0 ≤ x ∧ x ≤ 40
  · rw [if_pos h, if_pos h]
    obtain ⟨⟨a1, a2, a3, a4, a5⟩, a6⟩ := id hR
    exact Agr.ok hI ⟨⟨a1, a2, rfl, a4, a5.1, a5.2⟩, a6⟩ h0 a3.symm rfl
  · rw [if_neg h, if_neg h]
    exact Agr.no hI hR rfl (by decide) (by decide)
theorem w3 {w : Int32} (h : 0 ≤ w ∧ w ≤ 2) : w = 0 ∨ w = 1 ∨ w = 2 := by
  obtain ⟨h1, h2⟩ := tN_ok (n := 3) h.1 (Int32.lt_of_le_of_lt h.2 (by decide)) (by decide)
  rw [← h2]
  rcases (show tN w = 0 ∨ tN w = 1 ∨ tN w = 2 by omega) with e | e | e <;> rw [e] <;> decide
theorem a_setTugs (hI : IC c) (hR : Rl c m) (h0 : mY m 0 = 0) (x : Int32) : Agr (o_setTugs c x) (q_setTugs m x) wA := by
  unfold o_setTugs q_setTugs
  rw [r_tk hI.1 hR.1]
  by_cases h : 0 ≤ x ∧ x ≤ 2
  · rw [if_pos h, if_pos h]
    by_cases h2 : x < s_tk c
    · rw [if_pos h2, if_pos h2]
      exact Agr.no hI hR rfl (by decide) (by decide)
    · rw [if_neg h2, if_neg h2]
      obtain ⟨⟨a1, a2, a3, a4, a5, a6, a7, a8, a9⟩, a10⟩ := id hR
      obtain ⟨⟨i1, i2, i3, i4⟩, i5⟩ := id hI
      exact Agr.ok ⟨⟨i1, i2, w3 h, i4⟩, i5⟩ ⟨⟨a1, a2, a3, a4, a5, a6, a7, rfl, a9⟩, a10⟩ h0 rfl rfl
  · rw [if_neg h, if_neg h]
    exact Agr.no hI hR rfl (by decide) (by decide)
theorem r_fon (hI : IC c) (hR : Rl c m) {g : Nat} (h : g < ng c) : m_fo m (nI g) = -1 ↔ cgF c g = none := by
  rw [r_fo hI.2.1 hI.2.2.2.1 hR.1 hR.2.2.2.2 h]
  exact oI_m1 (fun s hs2 => by have := ((hI.2.2.2.1 g h s).mp hs2).1; have := hI.2.1.1.2.2; omega)
end RE4
