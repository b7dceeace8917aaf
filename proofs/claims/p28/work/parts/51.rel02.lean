/-! the two answer alike -/
section RE2
variable {c : CS} {m : MS}
theorem r_n (hr : I_ref c) (hs : Rsc c m) : mm m = nm c ∧ mg m = ng c ∧ mf m = nf c := by
  unfold mm mg mf
  rw [hs.1.1, hs.1.2.1, hs.1.2.2]
  exact ⟨nI_clamp (by have := hr.1.1; omega), nI_clamp (by have := hr.1.2.1; omega), nI_clamp (by have := hr.1.2.2; omega)⟩
theorem tN_nI {n : Nat} (h : n ≤ 100000) : tN (nI n) = n := nI_clamp (by omega)
theorem r_tk (hr : I_rng c) (hs : Rsc c m) : m_tk m = s_tk c := by
  obtain ⟨-, -, -, -, -, -, -, -, h1, h2⟩ := hs
  unfold m_tk s_tk
  rw [h1, h2]
  have a1 := pos_ne hr.2.2.2.1
  have a2 := pos_ne hr.2.2.2.2.1
  by_cases q1 : cD c 13 = 0 <;> by_cases q2 : cD c 14 = 0 <;> simp [a1, a2, q1, q2]
theorem p_fl_iff (hr : I_ref c) (hf : Rfl c m) {f i : Nat} (h : f < nf c) (hi : i < nm c) : p_fl m (nI i) f = true ↔ cF c f 6 = 1 ∧ fHas c f i = true := by
  obtain ⟨h1, h2, -, -, -, -, -, -, h9⟩ := hf f h
  obtain ⟨g1, g2, g3, -⟩ := hr.2 f h
  have b1 := hr.1.1
  unfold p_fl fHas
  rw [decide_eq_true_eq, decide_eq_true_eq, h9, h1, h2, nI_inj (by omega) (by omega), oI_eq (fun s hs => by have := (g3 s hs).1; omega) (by omega)]
theorem r_fl (hr : I_ref c) (hy : I_fly c) (hs : Rsc c m) (hf : Rfl c m) {i : Nat} (hi : i < nm c) : m_fl m (nI i) = true ↔ cM c i 2 = 1 := by
  unfold m_fl
  rw [anyB_iff, (r_n hr hs).2.2, (hy i hi).2]
  constructor
  · rintro ⟨f, h1, h2⟩
    exact ⟨f, h1, (p_fl_iff hr hf h1 hi).mp h2⟩
  · rintro ⟨f, h1, h2⟩
    exact ⟨f, h1, (p_fl_iff hr hf h1 hi).mpr h2⟩
theorem r_fo (hr : I_ref c) (hg : I_gli c) (hs : Rsc c m) (hf : Rfl c m) {g : Nat} (h : g < ng c) : m_fo m (nI g) = oI (cgF c g) := by
  have b2 := hr.1.2.1
  have hp : ∀ f, f < nf c → (p_fo m (nI g) f = true ↔ cgF c g = some f) := fun f h1 => by
    obtain ⟨-, -, e3, -, -, -, -, -, e9⟩ := hf f h1
    have g2 := (hr.2 f h1).2.1
    unfold p_fo
    rw [decide_eq_true_eq, e9, e3, nI_inj (by omega) (by omega), hg g h f]
    exact ⟨fun q => ⟨h1, q⟩, fun q => q.2⟩
  unfold m_fo
  rw [(r_n hr hs).2.2]
  cases hq : cgF c g with
  | none => exact fgo_no _ _ (fun q _ h2 => Bool.eq_false_iff.mpr (fun h3 => by rw [hp q (by omega), hq] at h3; cases h3))
  | some f =>
    have h9 := (hg g h f).mp hq
    refine fgo_one _ _ (Nat.zero_le _) (by omega) ((hp f h9.1).mpr hq) (fun q _ h2 => Bool.eq_false_iff.mpr (fun h3 => ?_))
    rw [hp q (by omega), hq] at h3
    cases h3
    exact absurd h2 (Nat.lt_irrefl _)
theorem r_wt (hr : I_ref c) (hm : Rme c m) (hf : Rfl c m) {f : Nat} (h : f < nf c) : m_wt m f = s_hasT c f := by
  obtain ⟨-, h2, -⟩ := hf f h
  have b1 := hr.1.1
  unfold m_wt s_hasT
  rw [h2]
  cases hq : (cR c f).2.1 with
  | none => rfl
  | some s =>
    have h9 := ((hr.2 f h).2.2.1 s hq).1
    show decide (¬ nI s = -1 ∧ mZ m 10 (tN (nI s)) = 3) = decide (cM c s 1 = 3)
    rw [tN_nI (by omega), (hm.1 s h9).1]
    simp [nI_m1' (i := s) (by omega)]
theorem r_ls (hr : I_ref c) (hm : Rme c m) (hf : Rfl c m) {f i : Nat} (h : f < nf c) (hi : i < nm c) (w : Int32) : m_ls m (nI i) w f = if w = 2 then k3 c i f else if w = 3 then k4 c i f else if w = 4 then k5 c i f else k6 c i f := by
  obtain ⟨h1, h2, -, -, -, -, h7, h8, h9⟩ := hf f h
  obtain ⟨g1, g2, g3, -⟩ := hr.2 f h
  have b1 := hr.1.1
  have e1 : mZ m 21 f = nI i ↔ (cR c f).1 = i := by rw [h1]; exact nI_inj (by omega) (by omega)
  have e2 : mZ m 22 f = nI i ↔ (cR c f).2.1 = some i := by rw [h2]; exact oI_eq (fun s hs => by have := (g3 s hs).1; omega) (by omega)
  have e3 : mZ m 22 f = -1 ↔ (cR c f).2.1 = none := by rw [h2]; exact oI_m1 (fun s hs => by have := (g3 s hs).1; omega)
  unfold m_ls k3 k4 k5 k6 fHas
  rw [r_wt hr hm hf h, h7, h8, h9]
  simp only [e1, e2, e3, decide_eq_true_eq]
  by_cases q1 : cF c f 6 = 2 <;> by_cases q2 : (cR c f).1 = i <;> by_cases q3 : (cR c f).2.1 = some i <;> simp [q1, q2, q3]
theorem r_ld (hr : I_ref c) (hc : I_cnt c) (hs : Rsc c m) (hm : Rme c m) (hf : Rfl c m) {i : Nat} (hi : i < nm c) (w : Int32) : m_ld m (nI i) w = if w = 2 then cM c i 3 else if w = 3 then cM c i 4 else if w = 4 then cM c i 5 else cM c i 6 := by
  obtain ⟨c3, c4, c5, c6⟩ := hc i hi
  unfold m_ld
  rw [(r_n hr hs).2.2, sumN_congr (nf c) (fun f h => r_ls hr hm hf h hi w), c3, c4, c5, c6]
  by_cases q2 : w = 2
  · simp [q2]
  · by_cases q3 : w = 3
    · simp [q3]
    · by_cases q4 : w = 4
      · simp [q4]
      · simp [q2, q3, q4]
theorem g4_0 (hw : I_wtg c) {g : Nat} (h : g < ng c) : cG c g 4 = 0 ↔ cgF c g = none := by
  rw [hw.2.2.1 g h]
  by_cases q : g ∈ wtg c
  · rw [if_pos q]
    exact ⟨fun e => absurd e (by decide), fun e => absurd e (hw.2.1 g q).2⟩
  · rw [if_neg q]
    by_cases q2 : cgF c g = none
    · rw [if_pos q2]
      exact ⟨fun _ => q2, fun _ => rfl⟩
    · rw [if_neg q2]
      exact ⟨fun e => absurd e (by decide), fun e => absurd e q2⟩
theorem w_pos (hw : Rwt c m) (hr : I_rng c) (g : Nat) : 0 < mZ m 18 g ↔ g ∈ wtg c := by
  obtain ⟨h1, h2, h3⟩ := hw.2.1 g
  have h4 := hw.1.2
  have h5 := hr.1.2
  rw [← h3, h1, tN_nI (by omega), show (0 : Int32) = nI 0 from nI_0.symm, nI_ltI (by omega) (by omega)]
theorem Rl.t {v : Int32} (h : Rl c m) : Rl c (sY m 0 v) := h
end RE2
