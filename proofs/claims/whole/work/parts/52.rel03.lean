/-! lists; the reason; the digest -/
section RE3
variable {c : CS} {m : MS}
theorem flt_split (p : Nat → Bool) {f : Nat} (hp : p f = true) : ∀ n, f < n → ∃ t, (List.range n).filter p = (List.range f).filter p ++ f :: t ∧ (List.range n).filter (fun q => p q && decide (q ≠ f)) = (List.range f).filter p ++ t ∧ (∀ q, q ∈ t → f < q)
  | 0, h => absurd h (Nat.not_lt_zero f)
  | n + 1, h => by
    by_cases e : f = n
    · subst e
      refine ⟨[], ?_, ?_, fun q hq => absurd hq List.not_mem_nil⟩
      · rw [List.range_succ, List.filter_append]
        simp [hp]
      · rw [List.range_succ, List.filter_append]
        simp only [List.append_nil]
        rw [show (List.filter (fun q => p q && decide (q ≠ f)) [f]) = [] by simp, List.append_nil]
        exact List.filter_congr (fun q hq => by
          have : q ≠ f := Nat.ne_of_lt (List.mem_range.mp hq)
          simp [this])
    · obtain ⟨t, h1, h2, h3⟩ := flt_split p hp n (by omega)
      have e3 : ¬ n = f := fun q => e q.symm
      by_cases hn : p n = true
      · refine ⟨t ++ [n], ?_, ?_, fun q hq => ?_⟩
        · rw [List.range_succ, List.filter_append, h1]
          simp [hn]
        · rw [List.range_succ, List.filter_append, h2]
          simp [hn, e3]
        · rcases List.mem_append.mp hq with h9 | h9
          · exact h3 q h9
          · rw [List.mem_singleton.mp h9]
            omega
      · refine ⟨t, ?_, ?_, h3⟩
        · rw [List.range_succ, List.filter_append, h1]
          simp [hn]
        · rw [List.range_succ, List.filter_append, h2]
          simp [hn]
theorem flt_at (p : Nat → Bool) : ∀ n k, k < ((List.range n).filter p).length → ∃ f, f < n ∧ p f = true ∧ ((List.range f).filter p).length = k
  | 0, k, h => absurd h (Nat.not_lt_zero k)
  | n + 1, k, h => by
    by_cases hk : k < ((List.range n).filter p).length
    · obtain ⟨f, h1, h2, h3⟩ := flt_at p n k hk
      exact ⟨f, by omega, h2, h3⟩
    · rw [List.range_succ, List.filter_append, List.length_append] at h
      by_cases hn : p n = true
      · simp [hn] at h
        exact ⟨n, by omega, hn, by omega⟩
      · simp [hn] at h
        exact absurd h hk
theorem flt_mono (p : Nat → Bool) {a : Nat} : ∀ b, a ≤ b → ((List.range a).filter p).length ≤ ((List.range b).filter p).length
  | 0, h => by rw [show a = 0 by omega]; exact Nat.le_refl _
  | b + 1, h => by
    by_cases e : a = b + 1
    · rw [e]; exact Nat.le_refl _
    · refine Nat.le_trans (flt_mono p b (by omega)) ?_
      rw [List.range_succ, List.filter_append, List.length_append]
      omega
theorem flt_lt (p : Nat → Bool) {a b : Nat} (h : a < b) (hp : p a = true) : ((List.range a).filter p).length < ((List.range b).filter p).length := by
  obtain ⟨t, h1, -⟩ := flt_split p hp b h
  rw [h1, List.length_append, List.length_cons]
  omega
theorem flt_le (p : Nat → Bool) (n : Nat) : ((List.range n).filter p).length ≤ n := Nat.le_trans (List.length_filter_le _ _) (by rw [List.length_range]; exact Nat.le_refl _)
theorem flt_not (p : Nat → Bool) (n : Nat) : n ∉ (List.range n).filter p := fun h => absurd (List.mem_range.mp (List.mem_filter.mp h).1) (Nat.lt_irrefl _)
theorem plc_at {f : Nat} : ∀ (l1 l2 : List Nat) (p : Nat), f ∉ l1 → s_plc f (l1 ++ f :: l2) p = nI (p + l1.length)
  | [], l2, p, _ => if_pos rfl
  | a :: l1, l2, p, h => by
    show (if a = f then nI p else s_plc f (l1 ++ f :: l2) (p + 1)) = _
    rw [if_neg (fun e : a = f => h (by rw [e]; exact List.mem_cons_self)), plc_at l1 l2 (p + 1) (fun q => h (List.mem_cons_of_mem _ q)), List.length_cons]
    exact congrArg nI (by omega)
def p0 (c : CS) (f : Nat) : Bool := decide (cF c f 6 = 0)
/-- the place of flight f on the list -/
def s_pos (c : CS) (f : Nat) : Nat := ((List.range f).filter (p0 c)).length
theorem r_cnt0 (hf : Rfl c m) {n : Nat} (h : n ≤ nf c) : sumN n (fun f => if mZ m 29 f = 0 then 1 else 0) = nI ((List.range n).filter (p0 c)).length := by
  rw [sumN_len]
  refine sumN_congr n (fun f hf2 => ?_)
  obtain ⟨-, -, -, -, -, -, -, -, h9⟩ := hf f (by omega)
  show (if mZ m 29 f = 0 then (1 : Int32) else 0) = if p0 c f = true then 1 else 0
  rw [h9]
  exact ite_cg (by unfold p0; rw [decide_eq_true_eq]) rfl rfl
theorem r_lst (hl : I_lst c) (hr : I_ref c) (hs : Rsc c m) (hf : Rfl c m) : sumN (mf m) (fun f => if mZ m 29 f = 0 then 1 else 0) = nI (lst c).length := by
  rw [(r_n hr hs).2.2, r_cnt0 hf (Nat.le_refl _), hl]
  rfl
theorem r_plc (hl : I_lst c) {f : Nat} (h : f < nf c) (h0 : cF c f 6 = 0) : s_plc f (lst c) 0 = nI (s_pos c f) ∧ (lst c).eraseIdx (s_pos c f) = (List.range (nf c)).filter (fun q => p0 c q && decide (q ≠ f)) ∧ s_pos c f < (lst c).length := by
  obtain ⟨t, h1, h2, -⟩ := flt_split (p0 c) (by unfold p0; exact decide_eq_true h0) (nf c) h
  have e : lst c = (List.range f).filter (p0 c) ++ f :: t := hl.trans h1
  rw [e, plc_at _ _ _ (flt_not _ _), Nat.zero_add, h2]
  refine ⟨rfl, ?_, ?_⟩
  · unfold s_pos
    rw [List.eraseIdx_append_of_length_le (Nat.le_refl _), Nat.sub_self]
    rfl
  · unfold s_pos
    rw [List.length_append, List.length_cons]
    omega
theorem r_list (hI : IC c) (hR : Rl c m) {x : Int32} (hx : 0 ≤ x) : fgo (p_li m x) (mf m) 0 = if nI (lst c).length ≤ x then -1 else nI ((lst c)[tN x]?.getD 0) := by
  obtain ⟨-, hr, -, -, -, -, hl, -, -, -, -⟩ := hI
  obtain ⟨hs, -, -, -, hf⟩ := hR
  have b3 := hr.1.2.2
  obtain ⟨j, hj, rfl⟩ := nI_of (Int32.not_lt.mpr hx)
  rw [(r_n hr hs).2.2]
  have hlen : (lst c).length ≤ 100 := by rw [hl]; exact Nat.le_trans (flt_le _ _) b3
  have hp : ∀ f, f < nf c → (p_li m (nI j) f = true ↔ p0 c f = true ∧ s_pos c f = j) := fun f h => by
    obtain ⟨-, -, -, -, -, -, -, -, h9⟩ := hf f h
    unfold p_li p0
    have b := flt_le (p0 c) f
    rw [decide_eq_true_eq, decide_eq_true_eq, h9, r_cnt0 hf (by omega), nI_eq (by omega) hj]
    rfl
  by_cases hq : nI (lst c).length ≤ nI j
  · rw [if_pos hq]
    have h9 := (nI_leI (by omega) hj).mp hq
    refine fgo_no _ _ (fun q _ h2 => Bool.eq_false_iff.mpr (fun h3 => ?_))
    obtain ⟨h4, h5⟩ := (hp q (by omega)).mp h3
    have h6 := (r_plc (f := q) hl (by omega) (by unfold p0 at h4; exact of_decide_eq_true h4)).2.2
    omega
  · rw [if_neg hq]
    have h9 : j < (lst c).length := Nat.lt_of_not_le (fun q => hq ((nI_leI (by omega) hj).mpr q))
    rw [show tN (nI j) = j from nI_clamp hj]
    obtain ⟨f, h1, h2, h3⟩ := flt_at (p0 c) (nf c) j (by rw [hl] at h9; exact h9)
    obtain ⟨t, h4, -, -⟩ := flt_split (p0 c) h2 (nf c) h1
    have e : (lst c)[j]? = some f := by
      rw [hl.trans h4, List.getElem?_append_right (by rw [← h3]; exact Nat.le_refl _), ← h3]
      simp
    rw [e]
    show fgo (p_li m (nI j)) (nf c) 0 = nI f
    refine fgo_one _ _ (Nat.zero_le _) (by omega) ((hp f h1).mpr ⟨h2, h3⟩) (fun q _ h5 => Bool.eq_false_iff.mpr (fun h6 => ?_))
    obtain ⟨h7, h8⟩ := (hp q (by omega)).mp h6
    have h10 := flt_lt (p0 c) h5 h7
    unfold s_pos at h8
    omega
theorem s_tk3 (c : CS) : s_tk c = 0 ∨ s_tk c = 1 ∨ s_tk c = 2 := by
  unfold s_tk
  by_cases a : cD c 13 = 0 <;> by_cases b : cD c 14 = 0 <;> simp [a, b]
theorem r_rea (hI : IC c) (hR : Rl c m) {f : Nat} (h : f < nf c) : m_rea m f = s_rea c f := by
  obtain ⟨hrng, hr, hy, hg, -, hc, -, hw, -, -, -⟩ := hI
  obtain ⟨hs, hm, hgl, hwt, hf⟩ := hR
  obtain ⟨h1, h2, h3, h4, -, -, -, -, -⟩ := hf f h
  obtain ⟨g1, g2, g3, -, -⟩ := hr.2 f h
  obtain ⟨b1, b2, b3⟩ := hr.1
  obtain ⟨-, s1, s2, s3, s4, s5, -, s7, -, -⟩ := id hs
  have e2 : mZ m 22 f = -1 ↔ (cR c f).2.1 = none := by rw [h2]; exact oI_m1 (fun s hs => by have := (g3 s hs).1; omega)
  have e3 : tN (mZ m 23 f) = (cR c f).2.2 := by rw [h3]; exact tN_nI (by omega)
  have e1 : tN (mZ m 21 f) = (cR c f).1 := by rw [h1]; exact tN_nI (by omega)
  have ef : m_fl m (mZ m 21 f) = true ↔ cM c (cR c f).1 2 = 1 := by rw [h1]; exact r_fl hr hy hs hf g1
  have eo : m_fo m (mZ m 23 f) = -1 ↔ cG c (cR c f).2.2 4 = 0 := by
    rw [h3, r_fo hr hg hs hf g2, g4_0 hw g2]
    exact oI_m1 (fun s hs2 => by have := ((hg _ g2 s).mp hs2).1; omega)
  unfold m_rea s_rea
  rw [e1, e3, r_wt hr hm hf h, (hm.1 _ g1).1, h1, r_ld hr hc hs hm hf g1, h4, s1, s2, s3, s4, s7, s5, (hgl.1 _ g2).1, (hgl.1 _ g2).2.2.1, (hgl.1 _ g2).2.2.2.1, r_tk hrng hs]
  rw [h1] at ef
  rw [h3] at eo
  refine ite_cg ?_ rfl (ite_cg ?_ rfl (ite_cg ?_ rfl (ite_cg ?_ rfl (ite_cg Iff.rfl rfl (ite_cg Iff.rfl rfl (ite_cg ?_ rfl rfl))))))
  · unfold s_flyM
    rw [ef, Bool.or_eq_true, decide_eq_true_eq]
    have a1 : ∀ i, i < nm c → (cM c i 2 = 1 ↔ ¬ cM c i 2 = 0) := fun i hi => by
      rcases (hy i hi).1 with q | q <;> rw [q] <;> decide
    rw [a1 _ g1, h2]
    cases hq : (cR c f).2.1 with
    | none => simp [oI]
    | some s =>
      have h9 := (g3 s hq).1
      show _ ∨ (¬ nI s = -1 ∧ m_fl m (nI s) = true) ↔ _ ∨ decide _ = true
      rw [decide_eq_true_eq, r_fl hr hy hs hf h9, a1 s h9]
      simp [nI_m1' (i := s) (by omega)]
  · rw [h3, eo]
  · rw [e2]
  · exact ⟨fun q => ⟨q.2, q.1⟩, fun q => ⟨q.2, q.1⟩⟩
  · unfold s_ft
    refine or_congr (and_congr Iff.rfl ?_) (and_congr Iff.rfl ?_)
    · rcases hrng.2.1 with q | q | q <;> rw [q] <;> decide
    · rcases hrng.2.2.1 with q | q | q <;> rcases s_tk3 c with q2 | q2 | q2 <;> rw [q, q2] <;> decide
theorem r_wc (hI : IC c) (hR : Rl c m) : m_wc m 8 = nI (wtg c).length := by
  obtain ⟨hrng, hr, -, -, -, -, -, hw, -, -, -⟩ := hI
  obtain ⟨hs, hm, hgl, hwt, hf⟩ := hR
  rw [← sumN_mem (n := 8) (wtg c) hw.1 (fun g hg => by have := (hw.2.1 g hg).1; have := hr.1.2.1; omega)]
  exact sumN_congr 8 (fun g _ => ite_cg (w_pos hwt hrng g) rfl rfl)
theorem r_cntw (hI : IC c) (hR : Rl c m) {w : Int32} (hw8 : 0 ≤ w ∧ w ≤ 7) : m_cnt m w = s_cnt c w := by
  have e5 := r_wc hI hR
  obtain ⟨hrng, hr, -, -, -, -, hl, hw, -, -, -⟩ := hI
  obtain ⟨hs, hm, hgl, hwt, hf⟩ := hR
  have e3 := r_lst hl hr hs hf
  have e4 : sumN (mf m) (fun f => if mZ m 29 f = 1 then 1 else 0) = s_air c := by
    rw [(r_n hr hs).2.2, hw.2.2.2]
    refine sumN_congr _ (fun f h => ?_)
    obtain ⟨-, -, -, -, -, -, -, -, h9⟩ := hf f h
    rw [h9]
  unfold m_cnt s_cnt s_ft
  rw [e3, e4, e5, r_tk hrng hs, hs.1.1, hs.1.2.1, hs.1.2.2, hs.2.2.2.2.2.1, hs.2.2.2.2.2.2.2.1]
  rcases w8 hw8 with rfl | rfl | rfl | rfl | rfl | rfl | rfl | rfl <;> rfl
theorem r_tf (hI : IC c) (hR : Rl c m) {f : Nat} (h : f < nf c) {j : Nat} (hj : j < 8) : m_tf m f j = s_fli c f (nI j) := by
  obtain ⟨-, hr, -, -, -, -, -, -, -, hc, -⟩ := hI
  obtain ⟨hs, hm, hgl, hwt, hf⟩ := hR
  have e7 := r_cost hr hc hgl hf h
  obtain ⟨h1, h2, h3, h4, h5, h6, h7, h8, h9⟩ := hf f h
  unfold m_tf s_fli
  rw [e7, h1, h2, h3, h4, h7, h8, h9]
  have n0 : nI 0 = 0 := by decide
  have n1 : nI 1 = 1 := by decide
  have n2 : nI 2 = 2 := by decide
  have n3 : nI 3 = 3 := by decide
  have n4 : nI 4 = 4 := by decide
  have n5 : nI 5 = 5 := by decide
  have n6 : nI 6 = 6 := by decide
  have n7 : nI 7 = 7 := by decide
  rcases (show j = 0 ∨ j = 1 ∨ j = 2 ∨ j = 3 ∨ j = 4 ∨ j = 5 ∨ j = 6 ∨ j = 7 by omega) with rfl | rfl | rfl | rfl | rfl | rfl | rfl | rfl
  · rw [n0]; rfl
  · rw [n1]; rfl
  · rw [n2]
    show oI (cR c f).2.1 = match (cR c f).2.1 with | none => -1 | some s => nI s
    cases (cR c f).2.1 <;> rfl
  · rw [n3]; rfl
  · rw [n4]; rfl
  · rw [n5]; rfl
  · rw [n6]; rfl
  · rw [n7]; rfl
theorem r_inc (hI : IC c) (hR : Rl c m) : sumN (mf m) (m_cost m) = s_inc c := by
  obtain ⟨-, hr, -, -, -, -, -, -, -, hc, -⟩ := hI
  obtain ⟨hs, hm, hgl, hwt, hf⟩ := hR
  rw [(r_n hr hs).2.2]
  exact sumN_congr _ (fun f h => r_cost hr hc hgl hf h)
theorem r_lng (hr : I_ref c) (hf : Rfl c m) : ∀ n, n ≤ nf c → m_lng m n = (s_lng c n).1 ∧ (¬ m_lng m n = -1 → (s_lng c n).2 = mZ m 28 (tN (m_lng m n)) - mZ m 27 (tN (m_lng m n)))
  | 0, _ => ⟨rfl, fun h => absurd rfl h⟩
  | n + 1, h => by
    obtain ⟨i1, i2⟩ := r_lng hr hf n (by omega)
    obtain ⟨-, -, -, -, -, -, h7, h8, h9⟩ := hf n (by omega)
    have b3 := hr.1.2.2
    have e : (mZ m 29 n = 2 ∧ (m_lng m n = -1 ∨ mZ m 28 (tN (m_lng m n)) - mZ m 27 (tN (m_lng m n)) < mZ m 28 n - mZ m 27 n)) ↔ (cF c n 6 = 2 ∧ ((s_lng c n).1 = -1 ∨ (s_lng c n).2 < cF c n 9 - cF c n 8)) := by
      rw [h9, h7, h8, ← i1]
      refine and_congr Iff.rfl ?_
      by_cases q : m_lng m n = -1
      · simp [q]
      · rw [i2 q]
    by_cases q : cF c n 6 = 2 ∧ ((s_lng c n).1 = -1 ∨ (s_lng c n).2 < cF c n 9 - cF c n 8)
    · have e1 : m_lng m (n + 1) = nI n := if_pos (e.mpr q)
      have e2 : s_lng c (n + 1) = (nI n, cF c n 9 - cF c n 8) := if_pos q
      rw [e1, e2, tN_nI (by omega), h7, h8]
      exact ⟨rfl, fun _ => rfl⟩
    · have e1 : m_lng m (n + 1) = m_lng m n := if_neg (fun x => q (e.mp x))
      have e2 : s_lng c (n + 1) = s_lng c n := if_neg q
      rw [e1, e2]
      exact ⟨i1, i2⟩
theorem r_wai (hr : I_ref c) (hs : Rsc c m) (hf : Rfl c m) : m_wai m = s_wai c := by
  have e1 : m_wb m (mf m) = s_wb c (nf c) := by
    unfold m_wb s_wb
    rw [(r_n hr hs).2.2]
    refine sumN_congr _ (fun f h => ?_)
    obtain ⟨-, -, -, -, -, -, h7, h8, h9⟩ := hf f h
    rw [h7]
  have e2 : m_ws m (mf m) = s_ws c (nf c) := by
    unfold m_ws s_ws
    rw [(r_n hr hs).2.2]
    refine sumN_congr _ (fun f h => ?_)
    obtain ⟨-, -, -, -, -, h6, h7, h8, h9⟩ := hf f h
    rw [h7, h6]
  unfold m_wai s_wai
  rw [e1, e2]
theorem foldL_cg {f g : Nat → Int64 → Int64} : ∀ n d, (∀ i, i < n → ∀ d, f i d = g i d) → foldL f n d = foldL g n d
  | 0, _, _ => rfl
  | n + 1, d, h => by
    rw [foldL_s, foldL_s, foldL_cg n d (fun i hi => h i (by omega)), h n (Nat.lt_succ_self n)]
theorem fold_flt (p : Nat → Bool) (d : Int64) : ∀ n, foldL (fun i d => if p i = true then mixL d (nI i) else d) n d = ((List.range n).filter p).foldl (fun d f => mixL d (nI f)) d
  | 0 => rfl
  | n + 1 => by
    rw [foldL_s, fold_flt p d n, List.range_succ, List.filter_append, List.foldl_append]
    by_cases h : p n = true
    · simp [h]
    · simp [h]
theorem r_dig (hI : IC c) (hR : Rl c m) : m_dig m = s_dig c := by
  have hcn := fun w (h : 0 ≤ w ∧ w ≤ 7) => r_cntw hI hR (w := w) h
  have htg := fun g h w hw => r_tg hI hR (g := g) h (w := w) hw
  have htf := fun f h j hj => r_tf hI hR (f := f) h (j := j) hj
  obtain ⟨hrng, hr, hy, hg, -, hc, hl, hw, -, hcst, -⟩ := hI
  obtain ⟨hs, hm, hgl, hwt, hf⟩ := hR
  obtain ⟨n1, n2, n3⟩ := r_n hr hs
  have d1 : m_dg1 m 8 = foldL (fun w d => mixL d (s_cnt c (nI w))) 8 (mixL 317 (cD c 9)) := by
    unfold m_dg1
    rw [hs.2.1, show mixL 317 (cD c 9) = 9827 + (cD c 9).toInt64 by rw [mixL_e]; rfl]
    refine foldL_cg 8 _ (fun w h d => ?_)
    rw [hcn _ ⟨nI_pos' (by omega), nI_le (show w ≤ 7 by omega) (by decide)⟩]
  have d2 : m_dg2 m (nm c) = foldL (s_dm c) (nm c) (m_dg1 m 8) := by
    unfold m_dg2
    refine foldL_cg _ _ (fun i hi d => ?_)
    unfold m_dm s_dm
    rw [r_bill hr hcst hs hm hgl hf hi]
    exact congrArg (mixL · _) (foldL_cg 6 d (fun w _ d => by rw [r_tm hr hy hc hs hm hf hi]))
  have d3 : m_dg3 m (ng c) = foldL (s_dg c) (ng c) (m_dg2 m (mm m)) := by
    unfold m_dg3
    refine foldL_cg _ _ (fun i hi d => ?_)
    unfold m_dg s_dg
    refine foldL_cg 5 d (fun w h d => ?_)
    rw [htg i hi _ ⟨nI_pos' (by omega), nI_le (show w ≤ 4 by omega) (by decide)⟩]
  have d4 : m_dg4 m (nf c) = foldL (s_df c) (nf c) (m_dg3 m (mg m)) := by
    unfold m_dg4
    refine foldL_cg _ _ (fun i hi d => ?_)
    unfold m_df s_df
    refine foldL_cg 8 d (fun w h d => ?_)
    rw [htf i hi w h]
  unfold m_dig m_dg5 s_dig
  rw [n3, d4, n2, d3, n1, d2, d1, hl]
  show foldL (m_dl m) (nf c) _ = List.foldl _ (foldL (s_df c) (nf c) _) _
  rw [← fold_flt]
  refine foldL_cg _ _ (fun i hi d => ?_)
  obtain ⟨-, -, -, -, -, -, -, -, h9⟩ := hf i hi
  unfold m_dl
  rw [h9]
  exact ite_cg (by rw [decide_eq_true_eq]) rfl rfl
end RE3
