/-! minutes; a new day -/
section REA
variable {c : CS} {m : MS}
theorem nodup_le : ∀ (n : Nat) (l : List Nat), l.Nodup → (∀ q, q ∈ l → q < n) → l.length ≤ n
  | 0, l, _, h => by
    cases l with
    | nil => exact Nat.le_refl _
    | cons a l => exact absurd (h a List.mem_cons_self) (Nat.not_lt_zero a)
  | n + 1, l, hn, h => by
    have h1 := nodup_le n (l.erase n) (hn.erase n) (fun q hq => by
      have h2 := (List.Nodup.mem_erase_iff hn).mp hq
      have h3 := h q h2.2
      have h4 := h2.1
      omega)
    rw [List.length_erase] at h1
    split at h1 <;> omega
theorem wt8 (hI : IC c) : (wtg c).length < 10 := by
  have h := nodup_le 8 (wtg c) hI.2.2.2.2.2.2.2.1.1 (fun q hq => by
    have := (hI.2.2.2.2.2.2.2.1.2.1 q hq).1
    have := hI.2.1.1.2.1
    omega)
  omega
theorem T5 (hI : IC c) (hR : Rl c m) (ht : tN (cD c 9) < 1500) : IC (u_m1 c) ∧ Rl (u_m1 c) (n_wN (n_m2 m) (mg m)) ∧ (∀ g, g < ng c → (wtg (u_wN (u_tgs (u_cab (sD c 9 (cD c 9 + 1)))) g)).length < 10) ∧ ∀ g, g < mg m → 0 < mZ (n_wN (n_m2 m) (mg m)) 18 g → ¬ m_fo (n_wN (n_m2 m) (mg m)) (nI g) = -1 := by
  obtain ⟨h1, h2, h3, h4⟩ := T1 hI hR ht
  have hng : ng (u_tgs (u_cab (sD c 9 (cD c 9 + 1)))) = ng c := rfl
  have b2 := hI.2.1.1.2.1
  have eg := (r_n hI.2.1 hR.1).2.1
  have hT := T2 h1 h2 (by rw [hng, h4]; omega)
  obtain ⟨h5, h6, -⟩ := hT (ng c) (by rw [hng]; exact Nat.le_refl _)
  rw [eg]
  refine ⟨h5, h6, fun g hg => wt8 (hT g (by rw [hng]; omega)).1, fun g hg h7 => ?_⟩
  have h8 := (w_pos h6.2.2.2.1 h5.1 g).mp h7
  obtain ⟨h9, h10⟩ := h5.2.2.2.2.2.2.2.1.2.1 g h8
  rw [r_fon h5 h6 h9]
  exact h10
theorem D9_lfw (c : CS) : cD (u_m2 c) 9 = cD c 9 := by
  unfold u_m2 u_lfw
  split
  · rfl
  · cases wtg c with
    | nil => rfl
    | cons g w =>
      cases h : cgF c g with
      | none => simp only [h]; rfl
      | some f => simp only [h]; rfl
theorem D9_sf (c : CS) : cD (u_sf c).2 9 = cD c 9 := by
  unfold u_sf
  cases s_can c 0 (lst c) with
  | none => rfl
  | some kf =>
    show (if cF c kf.2 4 = 0 then _ else _ : Nat → Int32) 9 = _
    split <;> rfl
theorem T6 (hI : IC c) (hR : Rl c m) (ht : tN (cD c 9) < 1500) : IC (u_min c).2 ∧ Rl (u_min c).2 (n_min m).2 ∧ (u_min c).1 = (n_min m).1 ∧ tN (cD (u_min c).2 9) = tN (cD c 9) + 1 := by
  obtain ⟨h1, h2, -⟩ := T5 hI hR ht
  obtain ⟨h3, h4⟩ := T3 h1 h2
  have e9 : cD (u_m1 c) 9 = cD c 9 + 1 := by
    unfold u_m1
    rw [(ad_wN _ _).2.2.2.2.2.1]
    rfl
  have t1 : tN (cD c 9 + 1) = tN (cD c 9) + 1 := by
    have h := nI_1 (tN (cD c 9))
    rw [← hI.1.1.1] at h
    rw [h]
    exact tN_nI (by omega)
  unfold u_min n_min
  simp only []
  by_cases hb : cD (u_m2 (u_m1 c)) 9 < cD (u_m2 (u_m1 c)) 12
  · rw [if_pos hb]
    unfold n_go
    have hbm : mY (n_m3 (n_wN (n_m2 m) (mg m))) 1 < mY (n_m3 (n_wN (n_m2 m) (mg m))) 4 := by rw [h4.1.2.1, h4.1.2.2.2.2.1]; exact hb
    rw [if_pos hbm]
    exact ⟨h3, h4, rfl, by rw [D9_lfw, e9, t1]⟩
  · rw [if_neg hb]
    obtain ⟨h5, h6, h7⟩ := T4 h3 h4 hb
    exact ⟨h5, h6, h7, by rw [D9_sf, D9_lfw, e9, t1]⟩
theorem T7 (hI : IC c) (hR : Rl c m) : ∀ n, tN (cD c 9) + n ≤ 1500 → IC (u_tick n c).2 ∧ Rl (u_tick n c).2 (n_tick n m).2 ∧ (u_tick n c).1 = (n_tick n m).1 ∧ tN (cD (u_tick n c).2 9) = tN (cD c 9) + n
  | 0, _ => ⟨hI, hR, rfl, rfl⟩
  | n + 1, h => by
    obtain ⟨h1, h2, h3, h4⟩ := T7 hI hR n (by omega)
    obtain ⟨h5, h6, h7, h8⟩ := T6 h1 h2 (by omega)
    refine ⟨h5, h6, ?_, ?_⟩
    · show (u_tick n c).1 + (u_min (u_tick n c).2).1 = (n_tick n m).1 + (n_min (n_tick n m).2).1
      rw [h3, h7]
    · show tN (cD (u_min (u_tick n c).2).2 9) = _
      rw [h8, h4]
      omega
theorem tick_x (hI : IC c) {x : Int32} (h : (1 ≤ x ∧ x ≤ 300) ∧ cD c 9 + x ≤ 1500) : tN (cD c 9) + tN x ≤ 1500 := by
  obtain ⟨h1, h2⟩ := tN_ok (n := 301) (Int32.le_trans (by decide) h.1.1) (Int32.lt_of_le_of_lt h.1.2 (by decide)) (by decide)
  have t := hI.1.1
  have e : cD c 9 + x = nI (tN (cD c 9) + tN x) := by
    have h3 := nI_add (tN (cD c 9)) (tN x)
    rw [← t.1, h2] at h3
    exact h3
  have h4 := h.2
  rw [e] at h4
  exact (nI_leI (by omega) (by decide)).mp (show nI _ ≤ nI 1500 from h4)
/-- what a tick that goes wants of both -/
theorem tick_ok (hI : IC c) (hR : Rl c m) {x : Int32} (h : (1 ≤ x ∧ x ≤ 300) ∧ cD c 9 + x ≤ 1500) : (∀ i, i < tN x → ∀ g, g < ng c → (wtg (u_wN (u_tgs (u_cab (sD (u_tick i c).2 9 (cD (u_tick i c).2 9 + 1)))) g)).length < 10) ∧ ∀ i, i < tN x → ∀ g, g < mg (n_tick i m).2 → 0 < mZ (n_wN (n_m2 (n_tick i m).2) (mg (n_tick i m).2)) 18 g → ¬ m_fo (n_wN (n_m2 (n_tick i m).2) (mg (n_tick i m).2)) (nI g) = -1 := by
  have hx := tick_x hI h
  refine ⟨fun i hi g hg => ?_, fun i hi => ?_⟩
  · obtain ⟨h1, h2, -, h4⟩ := T7 hI hR i (by omega)
    exact (T5 h1 h2 (by omega)).2.2.1 g (by rw [(ad_tick c i).2.2.1]; exact hg)
  · obtain ⟨h1, h2, -, h4⟩ := T7 hI hR i (by omega)
    exact (T5 h1 h2 (by omega)).2.2.2
theorem a_tick (hI : IC c) (hR : Rl c m) (h0 : mY m 0 = 0) (h0t : ∀ n, mY (n_tick n m).2 0 = mY m 0) (x : Int32) : Agr (o_tick c x) (q_tick m x) wA := by
  unfold o_tick q_tick
  rw [hR.1.2.1]
  by_cases h : (1 ≤ x ∧ x ≤ 300) ∧ cD c 9 + x ≤ 1500
  · rw [if_pos h, if_pos h]
    obtain ⟨h1, h2, h3, -⟩ := T7 hI hR (tN x) (tick_x hI h)
    have e : n_tick (tN x) m = ((n_tick (tN x) m).1, (n_tick (tN x) m).2) := rfl
    rw [e]
    exact Agr.ok h1 h2 ((h0t _).trans h0) h3 rfl
  · rw [if_neg h, if_neg h]
    exact Agr.no hI hR rfl (by decide) (by decide)
theorem Y0_w1 (m : MS) (g : Nat) : mY (n_w1 m g) 0 = mY m 0 := by
  unfold n_w1
  split <;> rfl
theorem Y0_wN (m : MS) : ∀ n, mY (n_wN m n) 0 = mY m 0
  | 0 => rfl
  | n + 1 => (Y0_w1 _ _).trans (Y0_wN m n)
theorem Y0_m3 (m : MS) : mY (n_m3 m) 0 = mY m 0 := by
  unfold n_m3
  split <;> rfl
theorem Y0_go (m : MS) : mY (n_go m).2 0 = mY m 0 := by
  unfold n_go
  split
  · rfl
  · split
    · rfl
    · unfold n_begin
      split <;> rfl
theorem Y0_min (m : MS) : mY (n_min m).2 0 = mY m 0 := (Y0_go _).trans ((Y0_m3 _).trans ((Y0_wN _ _).trans rfl))
theorem Y0_tick (m : MS) : ∀ n, mY (n_tick n m).2 0 = mY m 0
  | 0 => rfl
  | n + 1 => (Y0_min _).trans (Y0_tick m n)
theorem IC00 (f : Nat → Nat → Nat) : IC (c00 f) := by
  refine ⟨⟨show (0 : Int32) = nI (tN 0) ∧ tN 0 ≤ 1500 by decide, Or.inl rfl, Or.inr (Or.inl rfl), show (0 : Int32) ≤ 0 by decide, show (0 : Int32) ≤ 0 by decide, Nat.zero_le _⟩, ⟨⟨Nat.zero_le _, Nat.zero_le _, Nat.zero_le _⟩, fun q hq => absurd hq (Nat.not_lt_zero q)⟩, fun q hq => absurd hq (Nat.not_lt_zero q), fun q hq => absurd hq (Nat.not_lt_zero q), fun q hq => absurd hq (Nat.not_lt_zero q), fun q hq => absurd hq (Nat.not_lt_zero q), rfl, ⟨List.nodup_nil, fun q hq => absurd hq List.not_mem_nil, fun q hq => absurd hq (Nat.not_lt_zero q), rfl⟩, fun q hq => absurd hq (Nat.not_lt_zero q), fun q hq => absurd hq (Nat.not_lt_zero q), fun q hq => absurd hq (Nat.not_lt_zero q)⟩
theorem Rl00 (f : Nat → Nat → Nat) (g : Nat → Nat) : Rl (c00 f) (m00 g) := by
  have t0 : tN 0 = 0 := by decide
  refine ⟨⟨⟨nI_0.symm, nI_0.symm, nI_0.symm⟩, rfl, rfl, rfl, rfl, show (2 : Int32) = 2 - 0 by decide, fun h => absurd (show (0 : Int32) = 2 from h) (by decide), rfl, rfl, rfl⟩, ⟨fun q hq => absurd hq (Nat.not_lt_zero q), fun _ _ => rfl⟩, ⟨fun q hq => absurd hq (Nat.not_lt_zero q), fun _ _ => rfl⟩, ⟨⟨?_, ?_⟩, fun q => ⟨?_, ?_, ?_⟩, List.Pairwise.nil⟩, fun q hq => absurd hq (Nat.not_lt_zero q)⟩
  · show (0 : Int32) = nI (tN 0)
    rw [t0]
    exact nI_0.symm
  · show tN 0 ≤ _
    rw [t0]
    exact Nat.zero_le _
  · show (0 : Int32) = nI (tN 0)
    rw [t0]
    exact nI_0.symm
  · exact Nat.le_refl (tN 0)
  · show 0 < tN 0 ↔ _
    rw [t0]
    exact ⟨fun h => absurd h (Nat.lt_irrefl _), fun h => absurd h List.not_mem_nil⟩
end REA
