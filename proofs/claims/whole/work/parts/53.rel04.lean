/-! the calls that change little -/
section RE4
variable {c : CS} {m : MS}
def wA : Nat → Int32
  | 0 => 0
  | 1 => 1
  | 2 => 2
  | _ => 9
def wB : Nat → Int32
  | 0 => 0
  | 2 => 2
  | 3 => 1
  | _ => 9
def wC : Nat → Int32
  | 0 => 0
  | 1 => 2
  | 2 => 3
  | 3 => 1
  | _ => 9
/-- a call of both: they stay tied, the same is thrown, the same answered -/
def Agr (o : Nat × Int32 × CS) (q : Int32 × MS) (w : Nat → Int32) : Prop := IC o.2.2 ∧ Rl o.2.2 q.2 ∧ mY q.2 0 = w o.1 ∧ (o.1 = 0 → o.2.1 = q.1) ∧ w o.1 ≠ 9
theorem Agr.no (hI : IC c) (hR : Rl c m) {k : Nat} {v b x : Int32} {w : Nat → Int32} (hv : v = w k) (hk : k ≠ 0) (h9 : v ≠ 9) : Agr (k, x, c) (b, sY m 0 v) w :=
  ⟨hI, hR.t, hv, fun q => absurd q hk, hv ▸ h9⟩
theorem Agr.ok {c' : CS} {m' : MS} {v b : Int32} {w : Nat → Int32} (hI : IC c') (hR : Rl c' m') (h0 : mY m' 0 = 0) (e : v = b) (hw : w 0 = 0) : Agr (0, v, c') (b, m') w :=
  ⟨hI, hR, h0.trans hw.symm, fun _ => e, by show w 0 ≠ 9; rw [hw]; decide⟩
theorem idx {x : Int32} {n : Nat} (hn : n ≤ 1000) : (0 ≤ x ∧ x ≤ nI n - 1) ↔ (0 ≤ x ∧ x < nI n) := by
  refine and_congr_right (fun h => ?_)
  obtain ⟨j, hj, rfl⟩ := nI_of (Int32.not_lt.mpr h)
  rcases n with _ | n
  · rw [nI_0]
    exact ⟨fun q => absurd (Int32.le_trans h q) (by decide), fun q => absurd (Int32.lt_of_le_of_lt h q) (by decide)⟩
  · rw [nI_pred, nI_leI hj (by omega), nI_ltI hj (by omega)]
    omega
theorem idx_of {x : Int32} {n : Nat} (hn : n ≤ 1000) (h : 0 ≤ x ∧ x < nI n) : ∃ j, j < n ∧ x = nI j ∧ tN x = j := by
  obtain ⟨h1, h2⟩ := tN_ok h.1 h.2 (by omega)
  exact ⟨tN x, h1, h2.symm, rfl⟩
theorem a_setWind (hI : IC c) (hR : Rl c m) (h0 : mY m 0 = 0) (x : Int32) : Agr (o_setWind c x) (q_setWind m x) wA := by
  unfold o_setWind q_setWind
  by_cases h : 0 ≤ x ∧ x ≤ 40
  · rw [if_pos h, if_pos h]
    obtain ⟨⟨a1, a2, a3, a4, a5⟩, a6⟩ := id hR
    exact Agr.ok hI ⟨⟨a1, a2, rfl, a4, a5.1, a5.2⟩, a6⟩ h0 a3.symm rfl
  · rw [if_neg h, if_neg h]
    exact Agr.no hI hR rfl (by decide) (by decide)
theorem a_setSunset (hI : IC c) (hR : Rl c m) (h0 : mY m 0 = 0) (x : Int32) : Agr (o_setSunset c x) (q_setSunset m x) wA := by
  unfold o_setSunset q_setSunset
  by_cases h : 0 ≤ x ∧ x ≤ 1500
  · rw [if_pos h, if_pos h]
    obtain ⟨⟨a1, a2, a3, a4, a5⟩, a6⟩ := id hR
    exact Agr.ok hI ⟨⟨a1, a2, a3, rfl, a5⟩, a6⟩ h0 a4.symm rfl
  · rw [if_neg h, if_neg h]
    exact Agr.no hI hR rfl (by decide) (by decide)
theorem w3 {w : Int32} (h : 0 ≤ w ∧ w ≤ 2) : w = 0 ∨ w = 1 ∨ w = 2 := by
  obtain ⟨h1, h2⟩ := tN_ok (n := 3) h.1 (Int32.lt_of_le_of_lt h.2 (by decide)) (by decide)
  rw [← h2]
  rcases (show tN w = 0 ∨ tN w = 1 ∨ tN w = 2 by omega) with e | e | e <;> rw [e] <;> decide
theorem a_setTugs (hI : IC c) (hR : Rl c m) (h0 : mY m 0 = 0) (x : Int32) : Agr (o_setTugs c x) (q_setTugs m x) wA := by
  unfold o_setTugs q_setTugs
  rw [r_tk hI.1 hR.1]
  by_cases h : 0 ≤ x ∧ x ≤ 2
  · rw [if_pos h, if_pos h]
    by_cases h2 : x < s_tk c
    · rw [if_pos h2, if_pos h2]
      exact Agr.no hI hR rfl (by decide) (by decide)
    · rw [if_neg h2, if_neg h2]
      obtain ⟨⟨a1, a2, a3, a4, a5, a6, a7, a8, a9⟩, a10⟩ := id hR
      obtain ⟨⟨i1, i2, i3, i4⟩, i5⟩ := id hI
      exact Agr.ok ⟨⟨i1, i2, w3 h, i4⟩, i5⟩ ⟨⟨a1, a2, a3, a4, a5, a6, a7, rfl, a9⟩, a10⟩ h0 rfl rfl
  · rw [if_neg h, if_neg h]
    exact Agr.no hI hR rfl (by decide) (by decide)
theorem a_bill (hI : IC c) (hR : Rl c m) (h0 : mY m 0 = 0) (x : Int32) : Agr (o_bill c x) (q_bill m x) wB := by
  unfold o_bill q_bill
  rw [hR.1.1.1]
  have b := hI.2.1.1
  by_cases h : 0 ≤ x ∧ x < nI (nm c)
  · rw [if_pos h, if_pos ((idx (by omega)).mpr h)]
    obtain ⟨j, hj, -, e⟩ := idx_of (by omega) h
    rw [e]
    exact Agr.ok hI hR h0 (r_bill hI.2.1 hI.2.2.2.2.2.2.2.2.2.1 hR.1 hR.2.1 hR.2.2.1 hR.2.2.2.2 hj).symm rfl
  · rw [if_neg h, if_neg (fun q => h ((idx (by omega)).mp q))]
    exact Agr.no hI hR rfl (by decide) (by decide)
theorem a_member (hI : IC c) (hR : Rl c m) (h0 : mY m 0 = 0) (x w : Int32) : Agr (o_member c x w) (q_member m x w) wB := by
  unfold o_member q_member
  rw [hR.1.1.1]
  have b := hI.2.1.1
  by_cases h : 0 ≤ x ∧ x < nI (nm c)
  · rw [if_pos h]
    by_cases h2 : 0 ≤ w ∧ w ≤ 5
    · rw [if_pos h2, if_pos ⟨(idx (by omega)).mpr h, h2⟩]
      obtain ⟨j, hj, -, e⟩ := idx_of (by omega) h
      rw [e]
      exact Agr.ok hI hR h0 (r_tm hI.2.1 hI.2.2.1 hI.2.2.2.2.2.1 hR.1 hR.2.1 hR.2.2.2.2 hj w).symm rfl
    · rw [if_neg h2, if_neg (fun q => h2 q.2)]
      exact Agr.no hI hR rfl (by decide) (by decide)
  · rw [if_neg h, if_neg (fun q => h ((idx (by omega)).mp q.1))]
    exact Agr.no hI hR rfl (by decide) (by decide)
theorem a_glider (hI : IC c) (hR : Rl c m) (h0 : mY m 0 = 0) (x w : Int32) : Agr (o_glider c x w) (q_glider m x w) wB := by
  unfold o_glider q_glider
  rw [hR.1.1.2.1]
  have b := hI.2.1.1
  by_cases h : 0 ≤ x ∧ x < nI (ng c)
  · rw [if_pos h]
    by_cases h2 : 0 ≤ w ∧ w ≤ 4
    · rw [if_pos h2, if_pos ⟨(idx (by omega)).mpr h, h2⟩]
      obtain ⟨j, hj, -, e⟩ := idx_of (by omega) h
      rw [e]
      exact Agr.ok hI hR h0 (r_tg hI hR hj h2).symm rfl
    · rw [if_neg h2, if_neg (fun q => h2 q.2)]
      exact Agr.no hI hR rfl (by decide) (by decide)
  · rw [if_neg h, if_neg (fun q => h ((idx (by omega)).mp q.1))]
    exact Agr.no hI hR rfl (by decide) (by decide)
theorem a_flight (hI : IC c) (hR : Rl c m) (h0 : mY m 0 = 0) (x w : Int32) : Agr (o_flight c x w) (q_flight m x w) wB := by
  unfold o_flight q_flight
  rw [hR.1.1.2.2]
  have b := hI.2.1.1
  by_cases h : 0 ≤ x ∧ x < nI (nf c)
  · rw [if_pos h]
    by_cases h2 : 0 ≤ w ∧ w ≤ 7
    · rw [if_pos h2, if_pos ⟨(idx (by omega)).mpr h, h2⟩]
      obtain ⟨j, hj, -, e⟩ := idx_of (by omega) h
      obtain ⟨h3, h4⟩ := w8_ok h2
      have e2 := r_tf hI hR hj h3
      rw [h4] at e2
      rw [e]
      exact Agr.ok hI hR h0 e2.symm rfl
    · rw [if_neg h2, if_neg (fun q => h2 q.2)]
      exact Agr.no hI hR rfl (by decide) (by decide)
  · rw [if_neg h, if_neg (fun q => h ((idx (by omega)).mp q.1))]
    exact Agr.no hI hR rfl (by decide) (by decide)
theorem a_count (hI : IC c) (hR : Rl c m) (h0 : mY m 0 = 0) (x : Int32) : Agr (o_count c x) (q_count m x) wB := by
  unfold o_count q_count
  by_cases h : 0 ≤ x ∧ x ≤ 7
  · rw [if_pos h, if_pos h]
    exact Agr.ok hI hR h0 (r_cntw hI hR h).symm rfl
  · rw [if_neg h, if_neg h]
    exact Agr.no hI hR rfl (by decide) (by decide)
theorem a_list (hI : IC c) (hR : Rl c m) (h0 : mY m 0 = 0) (x : Int32) : Agr (o_list c x) (q_list m x) wB := by
  unfold o_list q_list
  by_cases h : 0 ≤ x
  · rw [if_neg (Int32.not_lt.mpr h), if_pos h, r_list hI hR h]
    by_cases h2 : nI (lst c).length ≤ x
    · rw [if_pos h2, if_pos h2]
      exact Agr.ok hI hR h0 rfl rfl
    · rw [if_neg h2, if_neg h2]
      exact Agr.ok hI hR h0 rfl rfl
  · rw [if_pos (Int32.not_le.mp h), if_neg h]
    exact Agr.no hI hR rfl (by decide) (by decide)
theorem a_reason (hI : IC c) (hR : Rl c m) (h0 : mY m 0 = 0) (x : Int32) : Agr (o_reason c x) (q_reason m x) wB := by
  unfold o_reason q_reason
  rw [hR.1.1.2.2]
  have b := hI.2.1.1
  by_cases h : 0 ≤ x ∧ x < nI (nf c)
  · rw [if_pos h, if_pos ((idx (by omega)).mpr h)]
    obtain ⟨j, hj, -, e⟩ := idx_of (by omega) h
    obtain ⟨-, -, -, -, -, -, -, -, h9⟩ := hR.2.2.2.2 j hj
    rw [e, h9]
    by_cases h2 : cF c j 6 = 0
    · rw [if_pos h2, if_pos h2]
      exact Agr.ok hI hR h0 (r_rea hI hR hj).symm rfl
    · rw [if_neg h2, if_neg h2]
      exact Agr.no hI hR rfl (by decide) (by decide)
  · rw [if_neg h, if_neg (fun q => h ((idx (by omega)).mp q))]
    exact Agr.no hI hR rfl (by decide) (by decide)
theorem r_fon (hI : IC c) (hR : Rl c m) {g : Nat} (h : g < ng c) : m_fo m (nI g) = -1 ↔ cgF c g = none := by
  rw [r_fo hI.2.1 hI.2.2.2.1 hR.1 hR.2.2.2.2 h]
  exact oI_m1 (fun s hs2 => by have := ((hI.2.2.2.1 g h s).mp hs2).1; have := hI.2.1.1.2.2; omega)
theorem a_call (hI : IC c) (hR : Rl c m) (h0 : mY m 0 = 0) (x : Int32) : Agr (o_call c x) (q_call m x) wB := by
  unfold o_call q_call
  rw [hR.1.1.2.1]
  have b := hI.2.1.1
  by_cases h : 0 ≤ x ∧ x < nI (ng c)
  · rw [if_pos h, if_pos ((idx (by omega)).mpr h)]
    obtain ⟨g, hg, e0, e⟩ := idx_of (by omega) h
    rw [e, e0]
    have ef := r_fo hI.2.1 hI.2.2.2.1 hR.1 hR.2.2.2.2 hg
    have en := r_fon hI hR hg
    cases hq : cgF c g with
    | none =>
      rw [if_pos (en.mpr hq)]
      exact Agr.no hI hR rfl (by decide) (by decide)
    | some f =>
      rw [if_neg (fun q => by rw [en, hq] at q; cases q), ef, hq]
      have hf := ((hI.2.2.2.1 g hg f).mp hq).1
      obtain ⟨-, -, -, -, -, -, h7, -, -⟩ := hR.2.2.2.2 f hf
      show Agr (0, cD c 9 - cF c f 8, sG c g 6 1) (mY m 1 - mZ m 27 (tN (nI f)), sZ m 17 g 1) wB
      rw [tN_nI (by omega), h7, hR.1.2.1]
      obtain ⟨i1, i2, i3, i4, i5, i6, i7, i8, i9, i10, i11⟩ := id hI
      obtain ⟨a1, a2, ⟨a3, a3'⟩, a4, a5⟩ := id hR
      refine Agr.ok ⟨i1, i2, i3, i4, i5, i6, i7, i8, i9, i10, fun g2 h2 => ⟨(i11 g2 h2).1, fun h3 => ?_⟩⟩ ⟨a1, a2, ⟨fun g2 h2 => ?_, a3'⟩, a4, a5⟩ h0 rfl rfl
      · show (if 6 = 6 ∧ g2 = g then (1 : Int32) else cG c g2 6) = 0
        rw [if_neg (fun q => by rw [q.2] at h3; rw [show cgF c g = none from h3] at hq; cases hq)]
        exact (i11 g2 h2).2 h3
      · obtain ⟨d1, d2, d3, d4, d5⟩ := a3 g2 h2
        refine ⟨d1, d2, d3, d4, fun h3 => ?_⟩
        show (if 17 = 17 ∧ g2 = g then (1 : Int32) else mZ m 17 g2) = if 6 = 6 ∧ g2 = g then (1 : Int32) else cG c g2 6
        by_cases q : g2 = g
        · rw [if_pos ⟨rfl, q⟩, if_pos ⟨rfl, q⟩]
        · rw [if_neg (fun e => q e.2), if_neg (fun e => q e.2)]
          exact d5 h3
  · rw [if_neg h, if_neg (fun q => h ((idx (by omega)).mp q))]
    exact Agr.no hI hR rfl (by decide) (by decide)
theorem a_bar (hI : IC c) (hR : Rl c m) (x b : Int32) (hb : b = 0 ∨ b = 1) : Agr (o_bar c x b) (q_bar m x b) wB := by
  unfold o_bar q_bar
  rw [hR.1.1.2.1]
  have bb := hI.2.1.1
  by_cases h : 0 ≤ x ∧ x < nI (ng c)
  · rw [if_pos h, if_pos ((idx (by omega)).mpr h)]
    obtain ⟨g, hg, e0, e⟩ := idx_of (by omega) h
    rw [e, e0]
    have en := (r_fon hI hR hg).trans (g4_0 hI.2.2.2.2.2.2.2.1 hg).symm
    by_cases h2 : cG c g 4 = 0
    · rw [if_pos h2, if_pos (en.mpr h2)]
      obtain ⟨i1, i2, i3, i4, i5, i6, i7, i8, i9, i10, i11⟩ := id hI
      obtain ⟨a1, a2, ⟨a3, a3'⟩, a4, a5⟩ := id hR
      refine Agr.ok ⟨i1, i2, i3, i4, i5, i6, i7, i8, i9, i10, fun g2 h2 => ⟨?_, (i11 g2 h2).2⟩⟩ ⟨a1, a2, ⟨fun g2 h2 => ?_, fun g2 h2 => ?_⟩, a4, a5⟩ rfl (a3 g hg).2.2.2.1.symm rfl
      · show (if 5 = 5 ∧ g2 = g then b else cG c g2 5) = 0 ∨ (if 5 = 5 ∧ g2 = g then b else cG c g2 5) = 1
        by_cases q : g2 = g
        · rw [if_pos ⟨rfl, q⟩]
          exact hb
        · rw [if_neg (fun e => q e.2)]
          exact (i11 g2 h2).1
      · obtain ⟨d1, d2, d3, d4, d5⟩ := a3 g2 h2
        refine ⟨d1, d2, d3, ?_, d5⟩
        show (if 16 = 16 ∧ g2 = g then b else mZ m 16 g2) = if 5 = 5 ∧ g2 = g then b else cG c g2 5
        by_cases q : g2 = g
        · rw [if_pos ⟨rfl, q⟩, if_pos ⟨rfl, q⟩]
        · rw [if_neg (fun e => q e.2), if_neg (fun e => q e.2)]
          exact d4
      · show (if 16 = 16 ∧ g2 = g then b else mZ m 16 g2) = 0
        have h3 : ng c ≤ g2 := h2
        rw [if_neg (fun e => by omega)]
        exact a3' g2 h2
    · rw [if_neg h2, if_neg (fun q => h2 (en.mp q))]
      exact Agr.no hI hR rfl (by decide) (by decide)
  · rw [if_neg h, if_neg (fun q => h ((idx (by omega)).mp q))]
    exact Agr.no hI hR rfl (by decide) (by decide)
theorem a_pay (hI : IC c) (hR : Rl c m) (h0 : mY m 0 = 0) (x a : Int32) : Agr (o_pay c x a) (q_pay m x a) wC := by
  unfold o_pay q_pay
  rw [hR.1.1.1]
  have bb := hI.2.1.1
  by_cases h : 0 ≤ x ∧ x < nI (nm c)
  · rw [if_pos h, if_pos ((idx (by omega)).mpr h)]
    obtain ⟨i, hi, e0, e⟩ := idx_of (by omega) h
    rw [e]
    by_cases h2 : 1 ≤ a ∧ a ≤ 100000
    · rw [if_pos h2, if_pos h2]
      obtain ⟨i1, i2, i3, i4, i5, i6, i7, i8, i9, i10, i11⟩ := id hI
      obtain ⟨a1, ⟨a2, a2'⟩, a3, a4, a5⟩ := id hR
      have hR2 : Rl (sM c i 7 (cM c i 7 - a)) (sZ m 11 i (mZ m 11 i + a)) := by
        refine ⟨a1, ⟨fun j hj => ⟨(a2 j hj).1, ?_⟩, fun j hj => ?_⟩, a3, a4, a5⟩
        · show (if 7 = 7 ∧ j = i then cM c i 7 - a else cM c j 7) = -(if 11 = 11 ∧ j = i then mZ m 11 i + a else mZ m 11 j) + sumN (nf c) (kb c j)
          by_cases q : j = i
          · rw [if_pos ⟨rfl, q⟩, if_pos ⟨rfl, q⟩, q, (a2 i hi).2]
            grind
          · rw [if_neg (fun e => q e.2), if_neg (fun e => q e.2)]
            exact (a2 j hj).2
        · show (if 11 = 11 ∧ j = i then mZ m 11 i + a else mZ m 11 j) = 0
          have h3 : nm c ≤ j := hj
          rw [if_neg (fun e => by omega)]
          exact a2' j hj
      have hI2 : IC (sM c i 7 (cM c i 7 - a)) := ⟨i1, i2, i3, i4, i5, i6, i7, i8, i9, i10, i11⟩
      refine Agr.ok hI2 hR2 h0 ?_ rfl
      rw [r_bill hI2.2.1 hI2.2.2.2.2.2.2.2.2.2.1 hR2.1 hR2.2.1 hR2.2.2.1 hR2.2.2.2.2 hi]
      exact (if_pos ⟨rfl, rfl⟩).symm
    · rw [if_neg h2, if_neg h2]
      exact Agr.no hI hR rfl (by decide) (by decide)
  · rw [if_neg h, if_neg (fun q => h ((idx (by omega)).mp q))]
    exact Agr.no hI hR rfl (by decide) (by decide)
theorem a_promote (hI : IC c) (hR : Rl c m) (h0 : mY m 0 = 0) (x : Int32) : Agr (o_promote c x) (q_promote m x) wB := by
  unfold o_promote q_promote
  rw [hR.1.1.1]
  have bb := hI.2.1.1
  by_cases h : 0 ≤ x ∧ x < nI (nm c)
  · rw [if_pos h, if_pos ((idx (by omega)).mpr h)]
    obtain ⟨i, hi, e0, e⟩ := idx_of (by omega) h
    rw [e, e0]
    obtain ⟨i1, i2, i3, i4, i5, i6, i7, i8, i9, i10, i11⟩ := id hI
    obtain ⟨a1, ⟨a2, a2'⟩, a3, a4, a5⟩ := id hR
    rw [r_ld i2 i6 a1 ⟨a2, a2'⟩ a5 hi, r_ld i2 i6 a1 ⟨a2, a2'⟩ a5 hi, (a2 i hi).1]
    have e1 : (m_fl m (nI i) = false ∧ ((cM c i 1 = 0 ∧ 3 ≤ (if (4 : Int32) = 2 then cM c i 3 else if (4 : Int32) = 3 then cM c i 4 else if (4 : Int32) = 4 then cM c i 5 else cM c i 6)) ∨ (cM c i 1 = 1 ∧ 5 ≤ (if (5 : Int32) = 2 then cM c i 3 else if (5 : Int32) = 3 then cM c i 4 else if (5 : Int32) = 4 then cM c i 5 else cM c i 6)))) ↔ (cM c i 2 = 0 ∧ ((cM c i 1 = 0 ∧ 3 ≤ cM c i 5) ∨ (cM c i 1 = 1 ∧ 5 ≤ cM c i 6))) := by
      rw [r_fl0 i2 i3 a1 a5 hi]
      exact Iff.rfl
    by_cases h2 : cM c i 2 = 0 ∧ ((cM c i 1 = 0 ∧ 3 ≤ cM c i 5) ∨ (cM c i 1 = 1 ∧ 5 ≤ cM c i 6))
    · rw [if_pos h2, if_pos (e1.mpr h2)]
      have hl : cM c i 1 = 0 ∨ cM c i 1 = 1 := h2.2.imp And.left And.left
      have hT : ∀ f, s_hasT (sM c i 1 (cM c i 1 + 1)) f = s_hasT c f := fun f => by
        unfold s_hasT
        show (match (cR c f).2.1 with | none => false | some s => decide ((if 1 = 1 ∧ s = i then cM c i 1 + 1 else cM c s 1) = 3)) = _
        cases (cR c f).2.1 with
        | none => rfl
        | some s =>
          show decide ((if 1 = 1 ∧ s = i then cM c i 1 + 1 else cM c s 1) = 3) = decide (cM c s 1 = 3)
          by_cases q : s = i
          · rw [if_pos ⟨rfl, q⟩, q]
            rcases hl with e | e <;> rw [e] <;> decide
          · rw [if_neg (fun e => q e.2)]
      refine Agr.ok ⟨i1, i2, i3, i4, i5, fun j hj => ⟨(i6 j hj).1, (i6 j hj).2.1, ?_, (i6 j hj).2.2.2⟩, i7, i8, i9, i10, i11⟩ ⟨a1, ⟨fun j hj => ⟨?_, (a2 j hj).2⟩, a2'⟩, a3, a4, a5⟩ h0 rfl rfl
      · refine ((i6 j hj).2.2.1).trans (sumN_congr (nf c) (fun f _ => ?_))
        unfold k5
        rw [hT]
        rfl
      · show (if 10 = 10 ∧ j = i then cM c i 1 + 1 else mZ m 10 j) = if 1 = 1 ∧ j = i then cM c i 1 + 1 else cM c j 1
        by_cases q : j = i
        · rw [if_pos ⟨rfl, q⟩, if_pos ⟨rfl, q⟩]
        · rw [if_neg (fun e => q e.2), if_neg (fun e => q e.2)]
          exact (a2 j hj).1
    · rw [if_neg h2, if_neg (fun q => h2 (e1.mp q))]
      exact Agr.no hI hR rfl (by decide) (by decide)
  · rw [if_neg h, if_neg (fun q => h ((idx (by omega)).mp q))]
    exact Agr.no hI hR rfl (by decide) (by decide)
end RE4
