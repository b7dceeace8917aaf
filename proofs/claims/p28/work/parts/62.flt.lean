/-! the mean waiting: at least 1.0 where anything has begun -/
section FLT
theorem pow_key {c d A B : Nat} {q r e0 : Int} (hA : c * 2 ^ q.toNat = A * 2 ^ (-q).toNat) (hB : d * 2 ^ r.toNat = B * 2 ^ (-r).toNat) (hAB : B ≤ A) (h0 : e0 ≤ 0) (h1 : e0 ≤ q - r) : 2 ^ (-e0).toNat * d ≤ c * 2 ^ (q - r - e0).toNat := by
  refine Nat.le_of_mul_le_mul_right (c := 2 ^ (r.toNat + (-q).toNat)) ?_ (Nat.two_pow_pos _)
  have e1 : (q - r - e0).toNat + (r.toNat + (-q).toNat) = q.toNat + (-r).toNat + (-e0).toNat := by omega
  have l : 2 ^ (-e0).toNat * d * 2 ^ (r.toNat + (-q).toNat) = 2 ^ (-e0).toNat * (d * 2 ^ r.toNat * 2 ^ (-q).toNat) := by
    rw [Nat.pow_add]
    ac_rfl
  have rr : c * 2 ^ (q - r - e0).toNat * 2 ^ (r.toNat + (-q).toNat) = 2 ^ (-e0).toNat * (c * 2 ^ q.toNat * 2 ^ (-r).toNat) := by
    rw [Nat.mul_assoc, ← Nat.pow_add, e1, Nat.pow_add, Nat.pow_add]
    ac_rfl
  rw [l, rr]
  refine Nat.mul_le_mul_left _ ?_
  rw [hA, hB]
  have e2 : B * 2 ^ (-r).toNat * 2 ^ (-q).toNat = B * (2 ^ (-q).toNat * 2 ^ (-r).toNat) := by ac_rfl
  rw [e2, Nat.mul_assoc]
  exact Nat.mul_le_mul_right _ hAB
theorem whole_pos {i : Int} {d : FP.Core.Datum} (h : FP.Core.Whole i d) (hi : 1 ≤ i) : ∃ c q, d = .fin false c q ∧ c * 2 ^ q.toNat = i.toNat * 2 ^ (-q).toNat ∧ 0 < c := by
  cases d with
  | nan => exact absurd h id
  | inf s => exact absurd h id
  | fin s c q =>
    have h2 : FP.Core.signed s (c * 2 ^ q.toNat) = i * ((2 ^ (-q).toNat : Nat) : Int) := h
    have hp : 0 < 2 ^ (-q).toNat := Nat.two_pow_pos _
    generalize hP : 2 ^ (-q).toNat = P at h2 hp
    have h3 : (1 : Int) ≤ i * (P : Int) := by
      have := Int.mul_le_mul hi (show (1 : Int) ≤ (P : Int) by omega) (by decide) (by omega)
      omega
    cases s with
    | true =>
      have h4 : -((c * 2 ^ q.toNat : Nat) : Int) = i * (P : Int) := h2
      omega
    | false =>
      have h4 : ((c * 2 ^ q.toNat : Nat) : Int) = i * (P : Int) := h2
      have h5 : ((i.toNat * P : Nat) : Int) = i * (P : Int) := by
        rw [Int.natCast_mul, Int.toNat_of_nonneg (by omega)]
      refine ⟨c, q, rfl, ?_, ?_⟩
      · rw [hP]
        omega
      · refine Nat.pos_of_ne_zero (fun hc => ?_)
        rw [hc, Nat.zero_mul] at h4
        omega
theorem div_ge1 {a b : Int32} (hb : 1 ≤ b.toInt) (hab : b.toInt ≤ a.toInt) : FP.Core.val64 (FP.ddiv (FP.i2d a) (FP.i2d b)) ≠ .nan ∧ FP.Core.zval FP.Core.b64 (FP.Core.val64 FP.Core.dconst1) ≤ FP.Core.zval FP.Core.b64 (FP.Core.val64 (FP.ddiv (FP.i2d a) (FP.i2d b))) := by
  obtain ⟨c, q, e1, e2, e3⟩ := whole_pos (FP.Core.i2d_int a) (by omega)
  obtain ⟨d, r, k1, k2, k3⟩ := whole_pos (FP.Core.i2d_int b) hb
  have e : FP.Core.val64 (FP.ddiv (FP.i2d a) (FP.i2d b)) = FP.Core.roundRatio FP.Core.b64 false c d (q - r) := by
    rw [FP.ddiv_core, FP.i2d_core, FP.Core.val64_ddiv, e1, k1]
    show (if d = 0 then _ else _) = _
    rw [if_neg (by omega)]
    rfl
  rw [e]
  refine ⟨FP.Core.roundRatio_ne_nan _ _ _ _ _, ?_⟩
  have hfit := FP.Core.val64_fits FP.Core.dconst1
  have hz : FP.Core.zmag FP.Core.b64 (FP.Core.val64 FP.Core.dconst1) = 2 ^ 1074 := by
    rw [FP.Core.val64_dconst1]
    show FP.Core.inUnits (2 ^ 52) (-52) FP.Core.b64.qmin = _
    rw [FP.Core.qmin_b64]
    unfold FP.Core.inUnits
    rw [← Nat.pow_add]
    exact congrArg (fun k => 2 ^ k) (show 52 + ((-52 : Int) - -1074).toNat = 1074 by decide)
  have hmin : ∃ e0 : Int, e0 ≤ -1074 ∧ e0 ≤ q - r := ⟨min (-1074) (q - r), Int.min_le_left _ _, Int.min_le_right _ _⟩
  obtain ⟨e0, h0, h1⟩ := hmin
  have hg := FP.Core.zmag_roundRatio_ge FP.Core.good_b64 (s := false) (A := c) (B := d) (e := q - r) (e0 := e0) k3 hfit (by rw [FP.Core.qmin_b64]; exact h0) h1 (by
    rw [hz, FP.Core.qmin_b64, ← Nat.pow_add, show 1074 + (-1074 - e0).toNat = (-e0).toNat by omega]
    exact pow_key e2 k2 (by omega) (by omega) h1)
  have s1 : FP.Core.zval FP.Core.b64 (FP.Core.roundRatio FP.Core.b64 false c d (q - r)) = (FP.Core.zmag FP.Core.b64 (FP.Core.roundRatio FP.Core.b64 false c d (q - r)) : Int) := by
    unfold FP.Core.zval
    rw [FP.Core.sgn_roundRatio]
    rfl
  have s2 : FP.Core.zval FP.Core.b64 (FP.Core.val64 FP.Core.dconst1) = (FP.Core.zmag FP.Core.b64 (FP.Core.val64 FP.Core.dconst1) : Int) := by
    unfold FP.Core.zval
    rw [FP.Core.val64_dconst1]
    rfl
  rw [s1, s2]
  exact Int.ofNat_le.mpr hg
theorem cmp_ge {x y : UInt64} (hx : FP.Core.val64 x ≠ .nan) (hy : FP.Core.val64 y ≠ .nan) (h : FP.Core.zval FP.Core.b64 (FP.Core.val64 y) ≤ FP.Core.zval FP.Core.b64 (FP.Core.val64 x)) : ¬ Op.cmpValue (FP.dcmp x y) .l < 0 := by
  rw [FP.dcmp_core]
  rcases (FP.Core.dcmp_ge (a := x) (b := y)).mpr ⟨hx, hy, h⟩ with e | e <;> rw [e] <;> decide
theorem zv_0 : FP.Core.zval FP.Core.b64 (FP.Core.val64 FP.Core.dconst0) = 0 := by
  unfold FP.Core.zval
  rw [FP.Core.val64_dconst0]
  show FP.Core.signed false (FP.Core.inUnits 0 _ _) = 0
  unfold FP.Core.inUnits
  rw [Nat.zero_mul]
  rfl
theorem zv_01 : FP.Core.zval FP.Core.b64 (FP.Core.val64 FP.Core.dconst0) ≤ FP.Core.zval FP.Core.b64 (FP.Core.val64 FP.Core.dconst1) := by
  rw [zv_0]
  unfold FP.Core.zval
  rw [FP.Core.val64_dconst1]
  exact Int.natCast_nonneg _
variable {c : CS}
theorem pl_sums (h : JJ c) : ∀ n, n ≤ nf c → 0 ≤ (s_wb c n).toInt ∧ (s_wb c n).toInt ≤ n ∧ (s_wb c n).toInt ≤ (s_ws c n).toInt ∧ (s_ws c n).toInt ≤ 1500 * n
  | 0, _ => ⟨(show (0 : Int) ≤ (0 : Int32).toInt by decide), (show (0 : Int32).toInt ≤ ((0 : Nat) : Int) by decide), Int.le_refl _, (show (0 : Int32).toInt ≤ 1500 * ((0 : Nat) : Int) by decide)⟩
  | n + 1, hn => by
    obtain ⟨a1, a2, a3, a4⟩ := pl_sums h n (by omega)
    obtain ⟨⟨⟨⟨t0, t1, -⟩, x1, -⟩, -⟩, hI, -⟩ := id h
    have b3 := hI.2.1.1.2.2
    obtain ⟨y1, y2, y3, -⟩ := x1 n (by omega)
    have eb : s_wb c (n + 1) = s_wb c n + (if cF c n 8 = -1 then 0 else 1) := rfl
    have es : s_ws c (n + 1) = s_ws c n + (if cF c n 8 = -1 then 0 else cF c n 8 - cF c n 7) := rfl
    rw [eb, es]
    by_cases e : cF c n 8 = -1
    · rw [if_pos e, if_pos e, Int32.add_zero, Int32.add_zero]
      omega
    · rw [if_neg e, if_neg e]
      have hb : 0 ≤ (cF c n 8).toInt := by
        rcases y1 with q | q | q
        · exact absurd (Int32.toInt_inj.mp (show (cF c n 8).toInt = (-1 : Int32).toInt by rw [q.2.1]; decide)) e
        · exact q.2.1
        · exact q.2.1
      have y4 := y3 hb
      have k1 := iv_sub (x := cF c n 8) (y := cF c n 7) (by omega) (by omega)
      have k2 := iv_add (x := s_ws c n) (y := cF c n 8 - cF c n 7) (by omega) (by omega)
      have o1 : (1 : Int32).toInt = 1 := by decide
      have k3 := iv_add (x := s_wb c n) (y := 1) (by omega) (by omega)
      rw [k2, k3, k1, o1]
      omega
theorem pl_none (h : JJ c) (hz : s_wb c (nf c) = 0) : s_cnt c 4 + s_inc c ≤ 0 := by
  have hI := h.2.1
  have h0 : ∀ n, n ≤ nf c → s_wb c n = 0 → ∀ f, f < n → cF c f 8 = -1 := by
    intro n
    induction n with
    | zero => exact fun _ _ f hf => absurd hf (Nat.not_lt_zero f)
    | succ n ih =>
      intro hn e f hf
      obtain ⟨a1, a2, -⟩ := pl_sums h n (by omega)
      have b3 := hI.2.1.1.2.2
      have eb : s_wb c (n + 1) = s_wb c n + (if cF c n 8 = -1 then 0 else 1) := rfl
      rw [eb] at e
      by_cases q : cF c n 8 = -1
      · rw [if_pos q, Int32.add_zero] at e
        by_cases k : f = n
        · rw [k]; exact q
        · exact ih (by omega) e f (by omega)
      · rw [if_neg q] at e
        have o1 : (1 : Int32).toInt = 1 := by decide
        have k3 := iv_add (x := s_wb c n) (y := 1) (by omega) (by omega)
        rw [e, o1, show (0 : Int32).toInt = 0 by decide] at k3
        omega
  have h1 := h0 (nf c) (Nat.le_refl _) hz
  have hs : ∀ f, f < nf c → cF c f 6 = 0 := fun f hf => by
    obtain ⟨y1, -⟩ := h.1.1.2.1 f hf
    have e : (cF c f 8).toInt = -1 := by rw [h1 f hf]; decide
    rcases y1 with q | q | q
    · exact q.1
    · omega
    · omega
  have e1 : s_cnt c 4 = 0 := by
    rw [pl_air hI]
    exact sum_no (fun f hf q => absurd q (by rw [hs f hf]; decide))
  have e2 : s_inc c = 0 := sumN_0 _ (fun f hf => by
    rw [hI.2.2.2.2.2.2.2.2.2.1 f hf]
    exact if_neg (by rw [hs f hf]; decide))
  rw [e1, e2]
  decide
theorem nn_0 : FP.Core.val64 FP.Core.dconst0 ≠ .nan := by
  rw [FP.Core.val64_dconst0]
  exact fun q => by cases q
theorem nn_1 : FP.Core.val64 FP.Core.dconst1 ≠ .nan := by
  rw [FP.Core.val64_dconst1]
  exact fun q => by cases q
theorem pl_big (h : JJ c) (hz : ¬ s_wb c (nf c) = 0) : FP.Core.val64 (s_wai c) ≠ .nan ∧ FP.Core.zval FP.Core.b64 (FP.Core.val64 FP.Core.dconst1) ≤ FP.Core.zval FP.Core.b64 (FP.Core.val64 (s_wai c)) := by
  obtain ⟨a1, a2, a3, a4⟩ := pl_sums h (nf c) (Nat.le_refl _)
  unfold s_wai
  rw [if_neg hz]
  refine div_ge1 ?_ a3
  have : (s_wb c (nf c)).toInt ≠ 0 := fun q => hz (Int32.toInt_inj.mp (by rw [q]; decide))
  omega
theorem pl_w1 (h : JJ c) (hp : ¬ s_cnt c 4 + s_inc c ≤ 0) : ¬ Op.cmpValue (FP.dcmp (s_wai c) FP.dconst1) .l < 0 := by
  have hb := pl_big h (fun q => hp (pl_none h q))
  exact cmp_ge hb.1 nn_1 hb.2
theorem pl_w0 (h : JJ c) : ¬ Op.cmpValue (FP.dcmp (s_wai c) FP.dconst0) .l < 0 := by
  by_cases hz : s_wb c (nf c) = 0
  · have e : s_wai c = FP.dconst0 := if_pos hz
    rw [e]
    exact cmp_ge nn_0 nn_0 (Int.le_refl _)
  · have hb := pl_big h hz
    exact cmp_ge hb.1 nn_0 (Int.le_trans zv_01 hb.2)
end FLT
