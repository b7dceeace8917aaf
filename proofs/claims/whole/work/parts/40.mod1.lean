/-! the reference as numbers (MS), and the heap that holds it (RepM) -/
section MD1
/-- numbers by slot, rows by slot and index, addresses by slot (30: the object) -/
abbrev MS : Type := (Nat → Int32) × (Nat → Nat → Int32) × (Nat → Nat)
def mY (m : MS) : Nat → Int32 := m.1
def mZ (m : MS) : Nat → Nat → Int32 := m.2.1
def ma (m : MS) : Nat → Nat := m.2.2
def upz (f : Nat → Nat → Int32) (j i : Nat) (v : Int32) : Nat → Nat → Int32 := fun a b => if a = j ∧ b = i then v else f a b
def sY (m : MS) (j : Nat) (v : Int32) : MS := (fun k => if k = j then v else m.1 k, m.2)
def sZ (m : MS) (j i : Nat) (v : Int32) : MS := (m.1, upz m.2.1 j i v, m.2.2)
def mlen : Nat → Nat
  | 8 => 2
  | 10 => 16
  | 11 => 16
  | 13 => 8
  | 14 => 8
  | 15 => 8
  | 16 => 8
  | 17 => 8
  | 18 => 8
  | _ => 100
def mcl (G : GT) : Nat → ClassId
  | 16 => G.2.1.2.1
  | 17 => G.2.1.2.1
  | _ => G.2.1.1
/-- the slots that are rows -/
def mar : List Nat := [8, 10, 11, 13, 14, 15, 16, 17, 18, 21, 22, 23, 24, 25, 26, 27, 28, 29]
def modV (m : MS) : List Value := [.int (mY m 0), .int (mY m 1), .int (mY m 2), .int (mY m 3), .int (mY m 4), .int (mY m 5), .int (mY m 6), .int (mY m 7), .ref (ma m 8), .int (mY m 9), .ref (ma m 10), .ref (ma m 11), .int (mY m 12), .ref (ma m 13), .ref (ma m 14), .ref (ma m 15), .ref (ma m 16), .ref (ma m 17), .ref (ma m 18), .int (mY m 19), .int (mY m 20), .ref (ma m 21), .ref (ma m 22), .ref (ma m 23), .ref (ma m 24), .ref (ma m 25), .ref (ma m 26), .ref (ma m 27), .ref (ma m 28), .ref (ma m 29)]
def RepM (G : GT) (A : Nat → Prop) (m : MS) (H : Heap) : Prop := (A (ma m 30) ∧ ∀ j, j ∈ mar → A (ma m j)) ∧ ((∀ j, j ∈ mar → ma m j ≠ ma m 30) ∧ ∀ i, i ∈ mar → ∀ j, j ∈ mar → ma m i = ma m j → i = j) ∧ vt G (ma m 30) (.inr (5, modV m)) H ∧ ∀ j, j ∈ mar → vt G (ma m j) (.inl (mcl G j, mlen j, .inl (mZ m j))) H
section
variable {L : Launch} {rm r2 : Room} {G : GT} {A A1 : Nat → Prop} {H0 : Heap} {n0 : Nat} {cc bytes : ByteArray} {own : String} {E : WE} {H H1 : Heap} {k n pc maxL nA idx : Nat} {lv lv' : List (Nat × Value)} {st rest As : List Value} {m : MS}
theorem RepM.kept (h : RepM G A m H) (hq : ∀ q, A q → (q = ma m 30 ∨ ∃ j, j ∈ mar ∧ q = ma m j) → H1[q]? = H[q]?) : RepM G A m H1 :=
  ⟨h.1, h.2.1, h.2.2.1.kept (hq _ h.1.1 (Or.inl rfl)), fun j hj => (h.2.2.2 j hj).kept (hq _ (h.1.2 j hj) (Or.inr ⟨j, hj, rfl⟩))⟩
theorem RepM.lt (h : RepM G A m H) {j : Nat} (hj : j ∈ mar) : ma m j < H.size := (h.2.2.2 j hj).lt
theorem RepM.ext (h : RepM G A m H) (hn : ∀ q, q < H.size → H1[q]? = H[q]?) : RepM G A m H1 := h.kept (fun q _ hq => hn q (by
  rcases hq with rfl | ⟨j, hj, rfl⟩
  · exact h.2.2.1.lt
  · exact h.lt hj))
theorem RepM.putY (h : RepM G A m H) {j : Nat} {v : Int32} (hs : hset H (ma m 30) H1) (hv : vt G (ma m 30) (.inr (5, modV (sY m j v))) H1) : RepM G A (sY m j v) H1 :=
  ⟨h.1, h.2.1, hv, fun i hi => (h.2.2.2 i hi).kept (hs.2 _ (h.2.1.1 i hi))⟩
theorem RepM.putZ (h : RepM G A m H) {j i : Nat} {v : Int32} (hj : j ∈ mar) (hs : hset H (ma m j) H1) (hv : vt G (ma m j) (.inl (mcl G j, mlen j, .inl (upd (mZ m j) i v))) H1) : RepM G A (sZ m j i v) H1 := by
  refine ⟨h.1, h.2.1, h.2.2.1.kept (hs.2 _ (fun e => h.2.1.1 j hj e.symm)), fun i2 hi2 => ?_⟩
  by_cases e : i2 = j
  · subst e
    have e2 : mZ (sZ m i2 i v) i2 = upd (mZ m i2) i v := by
      funext b
      show (if i2 = i2 ∧ b = i then v else m.2.1 i2 b) = if b = i then v else m.2.1 i2 b
      by_cases hb : b = i
      · rw [if_pos hb, if_pos ⟨rfl, hb⟩]
      · rw [if_neg hb, if_neg (fun q => hb q.2)]
    rw [e2]
    exact hv
  · have e2 : mZ (sZ m j i v) i2 = mZ m i2 := by
      funext b
      exact if_neg (fun q => e q.1)
    rw [e2]
    exact (h.2.2.2 i2 hi2).kept (hs.2 _ (fun q => e (h.2.1.2 i2 hi2 j hj q)))
theorem z_get (F : fx L rm G A H0 n0 cc "GliderDayModel" E) (hR : RepM G A m H) {j : Nat} {v : Value} (hl : Cond.fieldLink "GliderDayModel" idx "GliderDayModel" (TX4 j).2.1 (TX4 j).2.2.1 ∈ WALL) (hv : (modV m)[j]? = some v) (hj : j < 30) (hsm : (TX4 j).1 = "GliderDayModel") (hd : decode cc pc = .ok (.getfield idx, 3)) (kk : wx E H k n (pc + 3) lv (v :: st)) : wx E H k n pc lv (.ref (ma m 30) :: st) :=
  x_get (C := "GliderDayModel") (T := TX4) (N := 30) F hR.2.2.1 rfl hj inX4 hl (Or.inl hsm) hv hd kk
theorem z_put (F : fx L rm G A H0 n0 cc "GliderDayModel" E) (hR : RepM G A m H) {j : Nat} {v : Int32} (hl : Cond.fieldLink "GliderDayModel" idx "GliderDayModel" (TX4 j).2.1 (TX4 j).2.2.1 ∈ WALL) (he : (modV m).set j (.int v) = modV (sY m j v)) (hj : j < 30) (hsm : (TX4 j).1 = "GliderDayModel") (hfin : (TX4 j).2.2.2 = false) (hpd : parseFieldDescriptor (TX4 j).2.2.1 = some .int) (hd : decode cc pc = .ok (.putfield idx, 3)) (kk : ∀ H1 : Heap, RepM G A (sY m j v) H1 → wx E H1 k n (pc + 3) lv st) : wx E H k n pc lv (.int v :: .ref (ma m 30) :: st) :=
  x_put (C := "GliderDayModel") (T := TX4) (N := 30) F hR.2.2.1 hR.1.1 rfl hj inX4 tyX4 tyX4_ok nmX4 hl (Or.inl hsm) hfin hpd rfl rfl hj hd (fun H1 h1 h2 => kk H1 (hR.putY h2 (he ▸ h1)))
theorem z_ildX (F : fx L rm G A H0 n0 cc own E) (hR : RepM G A m H) {j : Nat} (hj : j ∈ mar) (hc : mcl G j = G.2.1.1) {x : Int32} (hx : vp_in x (mlen j)) (hd : decode cc pc = .ok (.iaload, 1)) (kk : wx E H k n (pc + 1) lv (.int (mZ m j (tN x)) :: st)) : wx E H k n pc lv (.int x :: .ref (ma m j) :: st) :=
  x_iald F (hc ▸ hR.2.2.2 j hj) hx hd kk
theorem z_ildN (F : fx L rm G A H0 n0 cc own E) (hR : RepM G A m H) {j : Nat} (hj : j ∈ mar) (hc : mcl G j = G.2.1.1) {i N : Nat} (hN : mlen j = N) (hi : i < N) (hN2 : N < 2 ^ 31) (hd : decode cc pc = .ok (.iaload, 1)) (kk : wx E H k n (pc + 1) lv (.int (mZ m j i) :: st)) : wx E H k n pc lv (.int (nI i) :: .ref (ma m j) :: st) := by
  subst hN
  refine z_ildX F hR hj hc (vp_in_nI hi hN2) hd ?_
  rw [show tN (nI i) = i from nI_clamp (by omega)]
  exact kk
theorem z_zldN (F : fx L rm G A H0 n0 cc own E) (hR : RepM G A m H) {j : Nat} (hj : j ∈ mar) (hc : mcl G j = G.2.1.2.1) {i N : Nat} (hN : mlen j = N) (hi : i < N) (hN2 : N < 2 ^ 31) (hd : decode cc pc = .ok (.baload, 1)) (kk : wx E H k n (pc + 1) lv (.int (mZ m j i) :: st)) : wx E H k n pc lv (.int (nI i) :: .ref (ma m j) :: st) := by
  subst hN
  refine x_zald F (hc ▸ hR.2.2.2 j hj) (vp_in_nI hi hN2) hd ?_
  rw [nI_clamp (by omega)]
  exact kk
theorem z_istN (F : fx L rm G A H0 n0 cc own E) (hR : RepM G A m H) {j : Nat} (hj : j ∈ mar) (hc : mcl G j = G.2.1.1) {i N : Nat} {v : Int32} (hN : mlen j = N) (hi : i < N) (hN2 : N < 2 ^ 31) (hd : decode cc pc = .ok (.iastore, 1)) (kk : ∀ H1 : Heap, RepM G A (sZ m j i v) H1 → wx E H1 k n (pc + 1) lv st) : wx E H k n pc lv (.int v :: .int (nI i) :: .ref (ma m j) :: st) := by
  subst hN
  refine x_iast F (hc ▸ hR.2.2.2 j hj) (hR.1.2 j hj) (vp_in_nI hi hN2) hd (fun H1 h1 h2 => kk H1 (hR.putZ hj h2 ?_))
  rw [nI_clamp (by omega)] at h1
  rw [hc]
  exact h1
theorem z_zstN (F : fx L rm G A H0 n0 cc own E) (hR : RepM G A m H) {j : Nat} (hj : j ∈ mar) (hc : mcl G j = G.2.1.2.1) {i N : Nat} {v : Int32} (hN : mlen j = N) (hi : i < N) (hN2 : N < 2 ^ 31) (hv : v = 0 ∨ v = 1) (hd : decode cc pc = .ok (.bastore, 1)) (kk : ∀ H1 : Heap, RepM G A (sZ m j i v) H1 → wx E H1 k n (pc + 1) lv st) : wx E H k n pc lv (.int v :: .int (nI i) :: .ref (ma m j) :: st) := by
  subst hN
  refine x_zast F (hc ▸ hR.2.2.2 j hj) (hR.1.2 j hj) (vp_in_nI hi hN2) (nb_ hv) hd (fun H1 h1 h2 => kk H1 (hR.putZ hj h2 ?_))
  rw [nI_clamp (by omega)] at h1
  rw [hc]
  exact h1
end
end MD1
