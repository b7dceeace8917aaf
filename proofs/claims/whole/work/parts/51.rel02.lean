/-! the two answer alike -/
section RE2
variable {c : CS} {m : MS}
theorem r_n (hr : I_ref c) (hs : Rsc c m) : mm m = nm c ∧ mg m = ng c ∧ mf m = nf c := by
  unfold mm mg mf
  rw [hs.1.1, hs.1.2.1, hs.1.2.2]
  exact ⟨nI_clamp (by have := hr.1.1; omega), nI_clamp (by have := hr.1.2.1; omega), nI_clamp (by have := hr.1.2.2; omega)⟩
theorem tN_nI {n : Nat} (h : n ≤ 100000) : tN (nI n) = n := nI_clamp (by omega)
theorem r_wf (hr : I_ref c) (hs : Rsc c m) (hf : Rfl c m) : WfM m := by
  obtain ⟨e1, e2, e3⟩ := r_n hr hs
  unfold WfM
  rw [e1, e2, e3]
  refine ⟨⟨hs.1.1, hr.1.1⟩, ⟨hs.1.2.1, hr.1.2.1⟩, ⟨hs.1.2.2, hr.1.2.2⟩, fun f h => ?_⟩
  obtain ⟨h1, h2, h3, -⟩ := hf f h
  obtain ⟨g1, g2, g3, -⟩ := hr.2 f h
  have b1 := hr.1.1
  have b2 := hr.1.2.1
  rw [h1, h2, h3, tN_nI (by omega), tN_nI (by omega)]
  refine ⟨⟨rfl, g1⟩, ?_, rfl, g2⟩
  cases hq : (cR c f).2.1 with
  | none => exact Or.inl rfl
  | some s =>
    have h9 := (g3 s hq).1
    exact Or.inr ⟨by show nI s = nI (tN (nI s)); rw [tN_nI (by omega)], by show tN (nI s) < _; rw [tN_nI (by omega)]; exact h9⟩
theorem r_tk (hr : I_rng c) (hs : Rsc c m) : m_tk m = s_tk c := by
  obtain ⟨-, -, -, -, -, -, -, -, h1, h2⟩ := hs
  unfold m_tk s_tk
  rw [h1, h2]
  have a1 := pos_ne hr.2.2.2.1
  have a2 := pos_ne hr.2.2.2.2.1
  by_cases q1 : cD c 13 = 0 <;> by_cases q2 : cD c 14 = 0 <;> simp [a1, a2, q1, q2]
theorem p_fl_iff (hr : I_ref c) (hf : Rfl c m) {f i : Nat} (h : f < nf c) (hi : i < nm c) : p_fl m (nI i) f = true ↔ cF c f 6 = 1 ∧ fHas c f i = true := by
  obtain ⟨h1, h2, -, -, -, -, -, -, h9⟩ := hf f h
  obtain ⟨g1, g2, g3, -⟩ := hr.2 f h
  have b1 := hr.1.1
  unfold p_fl fHas
  rw [decide_eq_true_eq, decide_eq_true_eq, h9, h1, h2, nI_inj (by omega) (by omega), oI_eq (fun s hs => by have := (g3 s hs).1; omega) (by omega)]
theorem r_fl (hr : I_ref c) (hy : I_fly c) (hs : Rsc c m) (hf : Rfl c m) {i : Nat} (hi : i < nm c) : m_fl m (nI i) = true ↔ cM c i 2 = 1 := by
  unfold m_fl
  rw [anyB_iff, (r_n hr hs).2.2, (hy i hi).2]
  constructor
  · rintro ⟨f, h1, h2⟩
    exact ⟨f, h1, (p_fl_iff hr hf h1 hi).mp h2⟩
  · rintro ⟨f, h1, h2⟩
    exact ⟨f, h1, (p_fl_iff hr hf h1 hi).mpr h2⟩
theorem r_fl0 (hr : I_ref c) (hy : I_fly c) (hs : Rsc c m) (hf : Rfl c m) {i : Nat} (hi : i < nm c) : m_fl m (nI i) = false ↔ cM c i 2 = 0 := by
  rcases (hy i hi).1 with h | h
  · refine ⟨fun _ => h, fun _ => Bool.eq_false_iff.mpr (fun q => ?_)⟩
    rw [r_fl hr hy hs hf hi, h] at q
    exact absurd q (by decide)
  · refine ⟨fun q => ?_, fun q => ?_⟩
    · rw [(r_fl hr hy hs hf hi).mpr h] at q
      cases q
    · rw [h] at q
      exact absurd q (by decide)
theorem r_fo (hr : I_ref c) (hg : I_gli c) (hs : Rsc c m) (hf : Rfl c m) {g : Nat} (h : g < ng c) : m_fo m (nI g) = oI (cgF c g) := by
  have b2 := hr.1.2.1
  have hp : ∀ f, f < nf c → (p_fo m (nI g) f = true ↔ cgF c g = some f) := fun f h1 => by
    obtain ⟨-, -, e3, -, -, -, -, -, e9⟩ := hf f h1
    have g2 := (hr.2 f h1).2.1
    unfold p_fo
    rw [decide_eq_true_eq, e9, e3, nI_inj (by omega) (by omega), hg g h f]
    exact ⟨fun q => ⟨h1, q⟩, fun q => q.2⟩
  unfold m_fo
  rw [(r_n hr hs).2.2]
  cases hq : cgF c g with
  | none => exact fgo_no _ _ (fun q _ h2 => Bool.eq_false_iff.mpr (fun h3 => by rw [hp q (by omega), hq] at h3; cases h3))
  | some f =>
    have h9 := (hg g h f).mp hq
    refine fgo_one _ _ (Nat.zero_le _) (by omega) ((hp f h9.1).mpr hq) (fun q _ h2 => Bool.eq_false_iff.mpr (fun h3 => ?_))
    rw [hp q (by omega), hq] at h3
    cases h3
    exact absurd h2 (Nat.lt_irrefl _)
theorem r_wt (hr : I_ref c) (hm : Rme c m) (hf : Rfl c m) {f : Nat} (h : f < nf c) : m_wt m f = s_hasT c f := by
  obtain ⟨-, h2, -⟩ := hf f h
  have b1 := hr.1.1
  unfold m_wt s_hasT
  rw [h2]
  cases hq : (cR c f).2.1 with
  | none => rfl
  | some s =>
    have h9 := ((hr.2 f h).2.2.1 s hq).1
    show decide (¬ nI s = -1 ∧ mZ m 10 (tN (nI s)) = 3) = decide (cM c s 1 = 3)
    rw [tN_nI (by omega), (hm.1 s h9).1]
    simp [nI_m1' (i := s) (by omega)]
theorem r_ls (hr : I_ref c) (hm : Rme c m) (hf : Rfl c m) {f i : Nat} (h : f < nf c) (hi : i < nm c) (w : Int32) : m_ls m (nI i) w f = if w = 2 then k3 c i f else if w = 3 then k4 c i f else if w = 4 then k5 c i f else k6 c i f := by
  obtain ⟨h1, h2, -, -, -, -, h7, h8, h9⟩ := hf f h
  obtain ⟨g1, g2, g3, -⟩ := hr.2 f h
  have b1 := hr.1.1
  have e1 : mZ m 21 f = nI i ↔ (cR c f).1 = i := by rw [h1]; exact nI_inj (by omega) (by omega)
  have e2 : mZ m 22 f = nI i ↔ (cR c f).2.1 = some i := by rw [h2]; exact oI_eq (fun s hs => by have := (g3 s hs).1; omega) (by omega)
  have e3 : mZ m 22 f = -1 ↔ (cR c f).2.1 = none := by rw [h2]; exact oI_m1 (fun s hs => by have := (g3 s hs).1; omega)
  unfold m_ls k3 k4 k5 k6 fHas
  rw [r_wt hr hm hf h, h7, h8, h9]
  simp only [e1, e2, e3, decide_eq_true_eq]
  by_cases q1 : cF c f 6 = 2 <;> by_cases q2 : (cR c f).1 = i <;> by_cases q3 : (cR c f).2.1 = some i <;> simp [q1, q2, q3]
theorem r_ld (hr : I_ref c) (hc : I_cnt c) (hs : Rsc c m) (hm : Rme c m) (hf : Rfl c m) {i : Nat} (hi : i < nm c) (w : Int32) : m_ld m (nI i) w = if w = 2 then cM c i 3 else if w = 3 then cM c i 4 else if w = 4 then cM c i 5 else cM c i 6 := by
  obtain ⟨c3, c4, c5, c6⟩ := hc i hi
  unfold m_ld
  rw [(r_n hr hs).2.2, sumN_congr (nf c) (fun f h => r_ls hr hm hf h hi w), c3, c4, c5, c6]
  by_cases q2 : w = 2
  · simp [q2]
  · by_cases q3 : w = 3
    · simp [q3]
    · by_cases q4 : w = 4
      · simp [q4]
      · simp [q2, q3, q4]
theorem cap_eq (d : Int32) : (if d < 180 then d else 180) = s_cap d := by
  unfold s_cap
  by_cases h : d < 180
  · rw [if_pos h, if_neg (Int32.not_lt.mpr (Int32.le_of_lt h))]
  · rw [if_neg h]
    by_cases h2 : (180 : Int32) < d
    · rw [if_pos h2]
    · rw [if_neg h2]
      exact Int32.le_antisymm (Int32.not_lt.mp h) (Int32.not_lt.mp h2)
theorem r_cost (hr : I_ref c) (hc : I_cst c) (hg : Rgl c m) (hf : Rfl c m) {f : Nat} (h : f < nf c) : m_cost m f = cF c f 10 := by
  obtain ⟨-, -, h3, h4, -, -, h7, h8, h9⟩ := hf f h
  have g2 := (hr.2 f h).2.1
  have b2 := hr.1.2.1
  rw [hc f h]
  unfold m_cost kc
  rw [h9, h4, h3, h7, h8, tN_nI (by omega), (hg.1 _ g2).2.1, cap_eq]
theorem r_bill (hr : I_ref c) (hc : I_cst c) (hs : Rsc c m) (hm : Rme c m) (hg : Rgl c m) (hf : Rfl c m) {i : Nat} (hi : i < nm c) : m_bill m i = cM c i 7 := by
  have b1 := hr.1.1
  unfold m_bill
  rw [(hm.1 i hi).2, (r_n hr hs).2.2, sumN_congr (nf c) (h := kb c i) (fun f h => ?_)]
  obtain ⟨h1, -⟩ := hf f h
  have g1 := (hr.2 f h).1
  unfold kb
  rw [h1, r_cost hr hc hg hf h]
  exact ite_cg (nI_inj (by omega) (by omega)) rfl rfl
theorem r_tm (hr : I_ref c) (hy : I_fly c) (hc : I_cnt c) (hs : Rsc c m) (hm : Rme c m) (hf : Rfl c m) {i : Nat} (hi : i < nm c) (w : Int32) : m_tm m i w = s_mem c i w := by
  unfold m_tm s_mem
  rw [(hm.1 i hi).1, r_ld hr hc hs hm hf hi]
  refine ite_cg Iff.rfl rfl (ite_cg Iff.rfl ?_ rfl)
  rcases (hy i hi).1 with h | h
  · rw [if_neg (by rw [(r_fl0 hr hy hs hf hi).mpr h]; decide), if_pos h]
  · rw [if_pos ((r_fl hr hy hs hf hi).mpr h), if_neg (by rw [h]; decide)]
theorem g4_0 (hw : I_wtg c) {g : Nat} (h : g < ng c) : cG c g 4 = 0 ↔ cgF c g = none := by
  rw [hw.2.2.1 g h]
  by_cases q : g ∈ wtg c
  · rw [if_pos q]
    exact ⟨fun e => absurd e (by decide), fun e => absurd e (hw.2.1 g q).2⟩
  · rw [if_neg q]
    by_cases q2 : cgF c g = none
    · rw [if_pos q2]
      exact ⟨fun _ => q2, fun _ => rfl⟩
    · rw [if_neg q2]
      exact ⟨fun e => absurd e (by decide), fun e => absurd e q2⟩
theorem w_pos (hw : Rwt c m) (hr : I_rng c) (g : Nat) : 0 < mZ m 18 g ↔ g ∈ wtg c := by
  obtain ⟨h1, h2, h3⟩ := hw.2.1 g
  have h4 := hw.1.2
  have h5 := hr.1.2
  rw [← h3, h1, tN_nI (by omega), show (0 : Int32) = nI 0 from nI_0.symm, nI_ltI (by omega) (by omega)]
theorem r_gs (hr : I_ref c) (hf : Rfl c m) {f g : Nat} (h : f < nf c) (hi : g < ng c) (w : Int32) : m_gs m (nI g) w f = if w = 2 then k7 c g f else k8 c g f := by
  obtain ⟨-, -, h3, -, -, -, h7, h8, h9⟩ := hf f h
  have g2 := (hr.2 f h).2.1
  have b2 := hr.1.2.1
  unfold m_gs k7 k8
  rw [h9, h3, h7, h8]
  simp only [nI_inj (show (cR c f).2.2 ≤ 1000 by omega) (show g ≤ 1000 by omega)]
  by_cases q1 : cF c f 6 = 2 <;> by_cases q2 : (cR c f).2.2 = g <;> by_cases q3 : w = 2 <;> simp [q1, q2, q3]
theorem w5 {w : Int32} (h : 0 ≤ w ∧ w ≤ 4) : w = 0 ∨ w = 1 ∨ w = 2 ∨ w = 3 ∨ w = 4 := by
  obtain ⟨h1, h2⟩ := tN_ok (n := 5) h.1 (Int32.lt_of_le_of_lt h.2 (by decide)) (by decide)
  rw [← h2]
  rcases (show tN w = 0 ∨ tN w = 1 ∨ tN w = 2 ∨ tN w = 3 ∨ tN w = 4 by omega) with e | e | e | e | e <;> rw [e] <;> decide
theorem w8 {w : Int32} (h : 0 ≤ w ∧ w ≤ 7) : w = 0 ∨ w = 1 ∨ w = 2 ∨ w = 3 ∨ w = 4 ∨ w = 5 ∨ w = 6 ∨ w = 7 := by
  obtain ⟨h1, h2⟩ := w8_ok h
  rw [← h2]
  rcases (show tN w = 0 ∨ tN w = 1 ∨ tN w = 2 ∨ tN w = 3 ∨ tN w = 4 ∨ tN w = 5 ∨ tN w = 6 ∨ tN w = 7 by omega) with e | e | e | e | e | e | e | e <;> rw [e] <;> decide
theorem r_tg (hI : IC c) (hR : Rl c m) {g : Nat} (h : g < ng c) {w : Int32} (hw5 : 0 ≤ w ∧ w ≤ 4) : m_tg m g w = s_gli c g w := by
  obtain ⟨hrng, hr, hy, hg, -, hc, -, hw, hgc, -, -⟩ := hI
  obtain ⟨hs, hm, hgl, hwt, hf⟩ := hR
  have hsum : ∀ w : Int32, sumN (mf m) (m_gs m (nI g) w) = if w = 2 then cG c g 7 else cG c g 8 := fun w => by
    rw [(r_n hr hs).2.2, sumN_congr (nf c) (fun f hf2 => r_gs hr hf hf2 h w), (hgc g h).1, (hgc g h).2]
    by_cases q : w = 2 <;> simp [q]
  unfold m_tg s_gli
  rw [hsum, r_fo hr hg hs hf h, (hgl.1 g h).2.2.2.1]
  rcases w5 hw5 with rfl | rfl | rfl | rfl | rfl
  · show (if 0 < mZ m 18 g then (2 : Int32) else if oI (cgF c g) = -1 then 0 else 1) = cG c g 4
    rw [hw.2.2.1 g h]
    have e : oI (cgF c g) = -1 ↔ cgF c g = none := oI_m1 (fun s hs2 => by have := ((hg g h s).mp hs2).1; have := hr.1.2.2; omega)
    exact ite_cg (w_pos hwt hrng g) rfl (ite_cg e rfl rfl)
  · rfl
  · rfl
  · rfl
  · show oI (cgF c g) = match cgF c g with | none => -1 | some f => nI f
    cases cgF c g <;> rfl
theorem Rl.t {v : Int32} (h : Rl c m) : Rl c (sY m 0 v) := h
end RE2
