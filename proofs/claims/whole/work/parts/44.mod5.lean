/-! the reference's minute -/
section MD5
def n_m1 (m : MS) : MS := sY (sY m 1 (mY m 1 + 1)) 5 (if mY m 5 = 0 ∧ mY m 6 ≤ mY m 1 + 1 then 2 else mY m 5)
def n_tu (m : MS) (k : Nat) : MS := sZ m 8 k (if mZ m 8 k ≤ mY m 1 then 0 else mZ m 8 k)
def n_m2 (m : MS) : MS := n_tu (n_tu (n_m1 m) 0) 1
def w_mst (m : MS) (g : Nat) : Bool := decide (¬ m_fo m (nI g) = -1 ∧ ¬ 0 < mZ m 18 g ∧ ¬ (mY m 1 - mZ m 27 (tN (m_fo m (nI g))) < mZ m 25 (tN (m_fo m (nI g))) ∧ mY m 1 < mY m 3 ∧ mZ m 17 g = 0))
def n_w1 (m : MS) (g : Nat) : MS := if w_mst m g = true then sZ (sY m 19 (mY m 19 + 1)) 18 g (mY m 19 + 1) else m
def n_wN (m : MS) : Nat → MS
  | 0 => m
  | g + 1 => n_w1 (n_wN m g) g
/-- the glider, of the first n, that waits longest; -1 -/
def n_nx (m : MS) : Nat → Int32
  | 0 => -1
  | g + 1 => if 0 < mZ m 18 g ∧ (n_nx m g = -1 ∨ mZ m 18 g < mZ m 18 (tN (n_nx m g))) then nI g else n_nx m g
def n_m3 (m : MS) : MS := if ¬ mY m 1 < mY m 4 ∧ ¬ n_nx m (mg m) = -1 then n_land m (tN (n_nx m (mg m))) else m
def p_can (m : MS) (f : Nat) : Bool := decide (mZ m 29 f = 0 ∧ m_rea m f = 0)
def n_go (m : MS) : Int32 × MS := if mY m 1 < mY m 4 then (0, m) else if fgo (p_can m) (mf m) 0 = -1 then (0, m) else (1, n_begin m (tN (fgo (p_can m) (mf m) 0)))
def n_min (m : MS) : Int32 × MS := n_go (n_m3 (n_wN (n_m2 m) (mg m)))
def n_tick : Nat → MS → Int32 × MS
  | 0, m => (0, m)
  | n + 1, m => ((n_tick n m).1 + (n_min (n_tick n m).2).1, (n_min (n_tick n m).2).2)
/-- what a minute leaves: who and what there is -/
def Same (m m' : MS) : Prop := ma m' = ma m ∧ mY m' 9 = mY m 9 ∧ mY m' 12 = mY m 12 ∧ mY m' 20 = mY m 20 ∧ mZ m' 21 = mZ m 21 ∧ mZ m' 22 = mZ m 22 ∧ mZ m' 23 = mZ m 23
theorem Same.rf {m : MS} : Same m m := ⟨rfl, rfl, rfl, rfl, rfl, rfl, rfl⟩
theorem Same.tr {a b d : MS} (h : Same a b) (h2 : Same b d) : Same a d := ⟨h2.1.trans h.1, h2.2.1.trans h.2.1, h2.2.2.1.trans h.2.2.1, h2.2.2.2.1.trans h.2.2.2.1, h2.2.2.2.2.1.trans h.2.2.2.2.1, h2.2.2.2.2.2.1.trans h.2.2.2.2.2.1, h2.2.2.2.2.2.2.trans h.2.2.2.2.2.2⟩
theorem Same.wf {a b : MS} (h : Same a b) (hW : WfM a) : WfM b := by
  obtain ⟨-, h9, h12, h20, h21, h22, h23⟩ := h
  unfold WfM mm mg mf
  rw [h9, h12, h20, h21, h22, h23]
  exact hW
theorem Same.Z {m : MS} {j i : Nat} {v : Int32} (hj : j ≠ 21 ∧ j ≠ 22 ∧ j ≠ 23) : Same m (sZ m j i v) :=
  ⟨rfl, rfl, rfl, rfl, funext fun b => if_neg (fun q => hj.1 q.1.symm), funext fun b => if_neg (fun q => hj.2.1 q.1.symm), funext fun b => if_neg (fun q => hj.2.2 q.1.symm)⟩
theorem Same.Y {m : MS} {j : Nat} {v : Int32} (hj : j ≠ 9 ∧ j ≠ 12 ∧ j ≠ 20) : Same m (sY m j v) :=
  ⟨rfl, if_neg (Ne.symm hj.1), if_neg (Ne.symm hj.2.1), if_neg (Ne.symm hj.2.2), rfl, rfl, rfl⟩
theorem same_m2 (m : MS) : Same m (n_m2 m) := ((((Same.Y (by decide)).tr (Same.Y (by decide))).tr (Same.Z (by decide))).tr (Same.Z (by decide)))
theorem same_w1 (m : MS) (g : Nat) : Same m (n_w1 m g) := by
  unfold n_w1
  split
  · exact (Same.Y (by decide)).tr (Same.Z (by decide))
  · exact Same.rf
theorem same_wN (m : MS) (n : Nat) : Same m (n_wN m n) := by
  induction n with
  | zero => exact Same.rf
  | succ n ih => exact ih.tr (same_w1 _ _)
theorem same_land (m : MS) (g : Nat) : Same m (n_land m g) := (((Same.Z (by decide)).tr (Same.Z (by decide))).tr (Same.Z (by decide))).tr (Same.Y (by decide))
theorem same_m3 (m : MS) : Same m (n_m3 m) := by
  unfold n_m3
  split
  · exact same_land _ _
  · exact Same.rf
theorem same_begin (m : MS) (f : Nat) : Same m (n_begin m f) := by
  have h3 : Same m (n_b3 m f) := ((Same.Z (by decide)).tr (Same.Z (by decide))).tr (Same.Z (by decide))
  unfold n_begin
  split
  · exact (h3.tr (Same.Z (by decide))).tr (Same.Y (by decide))
  · exact ((h3.tr (Same.Y (by decide))).tr (Same.Y (by decide))).tr (Same.Y (by decide))
theorem same_go (m : MS) : Same m (n_go m).2 := by
  unfold n_go
  split
  · exact Same.rf
  · split
    · exact Same.rf
    · exact same_begin _ _
theorem same_min (m : MS) : Same m (n_min m).2 := (((same_m2 m).tr (same_wN _ _)).tr (same_m3 _)).tr (same_go _)
theorem same_tick (m : MS) (n : Nat) : Same m (n_tick n m).2 := by
  induction n with
  | zero => exact Same.rf
  | succ n ih => exact ih.tr (same_min _)
end MD5
