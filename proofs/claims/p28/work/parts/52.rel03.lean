/-! lists; the reason; the digest -/
section RE3
variable {c : CS} {m : MS}
theorem flt_at (p : Nat → Bool) : ∀ n k, k < ((List.range n).filter p).length → ∃ f, f < n ∧ p f = true ∧ ((List.range f).filter p).length = k
  | 0, k, h => absurd h (Nat.not_lt_zero k)
  | n + 1, k, h => by
    by_cases hk : k < ((List.range n).filter p).length
    · obtain ⟨f, h1, h2, h3⟩ := flt_at p n k hk
      exact ⟨f, by omega, h2, h3⟩
    · rw [List.range_succ, List.filter_append, List.length_append] at h
      by_cases hn : p n = true
      · simp [hn] at h
        exact ⟨n, by omega, hn, by omega⟩
      · simp [hn] at h
        exact absurd h hk
theorem plc_at {f : Nat} : ∀ (l1 l2 : List Nat) (p : Nat), f ∉ l1 → s_plc f (l1 ++ f :: l2) p = nI (p + l1.length)
  | [], l2, p, _ => if_pos rfl
  | a :: l1, l2, p, h => by
    show (if a = f then nI p else s_plc f (l1 ++ f :: l2) (p + 1)) = _
    rw [if_neg (fun e : a = f => h (by rw [e]; exact List.mem_cons_self)), plc_at l1 l2 (p + 1) (fun q => h (List.mem_cons_of_mem _ q)), List.length_cons]
    exact congrArg nI (by omega)
def p0 (c : CS) (f : Nat) : Bool := decide (cF c f 6 = 0)
theorem r_cnt0 (hf : Rfl c m) {n : Nat} (h : n ≤ nf c) : sumN n (fun f => if mZ m 29 f = 0 then 1 else 0) = nI ((List.range n).filter (p0 c)).length := by
  rw [sumN_len]
  refine sumN_congr n (fun f hf2 => ?_)
  obtain ⟨-, -, -, -, -, -, -, -, h9⟩ := hf f (by omega)
  show (if mZ m 29 f = 0 then (1 : Int32) else 0) = if p0 c f = true then 1 else 0
  rw [h9]
  exact ite_cg (by unfold p0; rw [decide_eq_true_eq]) rfl rfl
theorem r_lst (hl : I_lst c) (hr : I_ref c) (hs : Rsc c m) (hf : Rfl c m) : sumN (mf m) (fun f => if mZ m 29 f = 0 then 1 else 0) = nI (lst c).length := by
  rw [(r_n hr hs).2.2, r_cnt0 hf (Nat.le_refl _), hl]
  rfl
theorem s_tk3 (c : CS) : s_tk c = 0 ∨ s_tk c = 1 ∨ s_tk c = 2 := by
  unfold s_tk
  by_cases a : cD c 13 = 0 <;> by_cases b : cD c 14 = 0 <;> simp [a, b]
theorem r_rea (hI : IC c) (hR : Rl c m) {f : Nat} (h : f < nf c) : m_rea m f = s_rea c f := by
  obtain ⟨hrng, hr, hy, hg, -, hc, -, hw, -, -, -⟩ := hI
  obtain ⟨hs, hm, hgl, hwt, hf⟩ := hR
  obtain ⟨h1, h2, h3, h4, -, -, -, -, -⟩ := hf f h
  obtain ⟨g1, g2, g3, -, -⟩ := hr.2 f h
  obtain ⟨b1, b2, b3⟩ := hr.1
  obtain ⟨-, s1, s2, s3, s4, s5, -, s7, -, -⟩ := id hs
  have e2 : mZ m 22 f = -1 ↔ (cR c f).2.1 = none := by rw [h2]; exact oI_m1 (fun s hs => by have := (g3 s hs).1; omega)
  have e3 : tN (mZ m 23 f) = (cR c f).2.2 := by rw [h3]; exact tN_nI (by omega)
  have e1 : tN (mZ m 21 f) = (cR c f).1 := by rw [h1]; exact tN_nI (by omega)
  have ef : m_fl m (mZ m 21 f) = true ↔ cM c (cR c f).1 2 = 1 := by rw [h1]; exact r_fl hr hy hs hf g1
  have eo : m_fo m (mZ m 23 f) = -1 ↔ cG c (cR c f).2.2 4 = 0 := by
    rw [h3, r_fo hr hg hs hf g2, g4_0 hw g2]
    exact oI_m1 (fun s hs2 => by have := ((hg _ g2 s).mp hs2).1; omega)
  unfold m_rea s_rea
  rw [e1, e3, r_wt hr hm hf h, (hm.1 _ g1).1, h1, r_ld hr hc hs hm hf g1, h4, s1, s2, s3, s4, s7, s5, (hgl.1 _ g2).1, (hgl.1 _ g2).2.2.1, (hgl.1 _ g2).2.2.2.1, r_tk hrng hs]
  rw [h1] at ef
  rw [h3] at eo
  refine ite_cg ?_ rfl (ite_cg ?_ rfl (ite_cg ?_ rfl (ite_cg ?_ rfl (ite_cg Iff.rfl rfl (ite_cg Iff.rfl rfl (ite_cg ?_ rfl rfl))))))
  · unfold s_flyM
    rw [ef, Bool.or_eq_true, decide_eq_true_eq]
    have a1 : ∀ i, i < nm c → (cM c i 2 = 1 ↔ ¬ cM c i 2 = 0) := fun i hi => by
      rcases (hy i hi).1 with q | q <;> rw [q] <;> decide
    rw [a1 _ g1, h2]
    cases hq : (cR c f).2.1 with
    | none => simp [oI]
    | some s =>
      have h9 := (g3 s hq).1
      show _ ∨ (¬ nI s = -1 ∧ m_fl m (nI s) = true) ↔ _ ∨ decide _ = true
      rw [decide_eq_true_eq, r_fl hr hy hs hf h9, a1 s h9]
      simp [nI_m1' (i := s) (by omega)]
  · rw [h3, eo]
  · rw [e2]
  · exact ⟨fun q => ⟨q.2, q.1⟩, fun q => ⟨q.2, q.1⟩⟩
  · unfold s_ft
    refine or_congr (and_congr Iff.rfl ?_) (and_congr Iff.rfl ?_)
    · rcases hrng.2.1 with q | q | q <;> rw [q] <;> decide
    · rcases hrng.2.2.1 with q | q | q <;> rcases s_tk3 c with q2 | q2 | q2 <;> rw [q, q2] <;> decide
end RE3
