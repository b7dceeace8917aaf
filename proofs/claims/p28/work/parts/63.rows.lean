/-! the law's world: the day, its arrays; rows over them -/
section LR1
abbrev iA (G : GT) (N : Nat) (f : Nat → Int32) : va_E := .inl (G.2.1.1, N, .inl f)
/-- what the day may have: whatever is new, but the law's own arrays -/
def Bx (z : Nat) (ex : List Nat) (q : Nat) : Prop := z ≤ q ∧ q ∉ ex
section
variable {L : Launch} {rm r2 : Room} {G : GT} {A A1 B : Nat → Prop} {H0 : Heap} {n0 : Nat} {cc bytes : ByteArray} {own : String} {E : WE} {H H1 : Heap} {k n pc maxL nA idx : Nat} {lv lv' : List (Nat × Value)} {st rest As : List Value} {ret ret2 : Option FieldType} {nm_ : String} {Post Post2 : Heap → Option Value → Heap → Prop} {PX PX2 : Heap → String → Heap → Prop} {Pre : Heap → Prop} {y : MethodName} {c : CS} {z : Nat} {ex : List Nat}
theorem Rep.reg {c : CS} (h : Rep G A c H) (hAB : ∀ q, A q → B q) : Rep G B c H := by
  obtain ⟨T, bA, cp, mo, h1, h2⟩ := h
  exact ⟨T, bA, cp, mo, fun a ha => ⟨hAB a (h1 a ha).1, (h1 a ha).2⟩, h2⟩
theorem Rep.cut {c : CS} (h : Rep G A c H) : Rep G (fun q => A q ∧ q < H.size) c H := by
  obtain ⟨T, bA, cp, mo, h1, h2⟩ := h
  exact ⟨T, bA, cp, mo, fun a ha => ⟨h1 a ha, (h1 a ha).2⟩, h2⟩
/-- a new array: none of the day's -/
theorem Rep.frs (h : Rep G (Bx z ex) c H) {a : Nat} (ha : H.size ≤ a) : Rep G (Bx z (a :: ex)) c H := h.cut.reg (fun q hq => ⟨hq.1.1, fun x => by
  rcases List.mem_cons.mp x with e | e
  · have := hq.2; omega
  · exact hq.1.2 e⟩)
/-- an array of the law is written -/
theorem Rep.arr (h : Rep G (Bx z ex) c H) {a : Nat} (ha : a ∈ ex) (hs : hset H a H1) : Rep G (Bx z ex) c H1 := h.kept (Nat.le_of_eq hs.1.symm) (fun q hq _ _ => hs.2 q (fun e => hq.2 (e ▸ ha)))
theorem Rep.all (h : Rep G (Bx z ex) c H) : Rep G (fun q => z ≤ q) c H := h.reg (fun _ hq => hq.1)
/-- what the day's calls leave alone -/
theorem vt.oth {a : Nat} {e : va_E} (h : vt G a e H) (ha : a ∈ ex) (hk : ∀ q : Nat, q < H.size → ¬ Bx z ex q → H1[q]? = H[q]?) : vt G a e H1 := h.kept (hk _ h.lt (fun x => x.2 ha))
theorem vt.oth2 {a a2 : Nat} {e : va_E} (h : vt G a e H) (ha : a ≠ a2) (hs : hset H a2 H1) : vt G a e H1 := h.kept (hs.2 _ ha)
theorem vt.new {a : Nat} {e : va_E} (h : vt G a e H) (hn : hnew H H1) : vt G a e H1 := h.kept (hn.2 _ h.lt)
theorem x_ld (F : fx L rm G A H0 n0 cc own E) {a N j : Nat} {f : Nat → Int32} (hv : vt G a (iA G N f) H) (hj : j < N) (hN : N < 2 ^ 31) (hd : decode cc pc = .ok (.iaload, 1)) (kk : wx E H k n (pc + 1) lv (.int (f j) :: st)) : wx E H k n pc lv (.int (nI j) :: .ref a :: st) := by
  refine x_iald F hv (vp_in_nI hj hN) hd ?_
  have e : (nI j).toNatClampNeg = j := nI_clamp (by omega)
  rw [e]
  exact kk
theorem x_st (F : fx L rm G A H0 n0 cc own E) {a N j : Nat} {f : Nat → Int32} (hv : vt G a (iA G N f) H) (hAa : A a) {x : Int32} (hj : j < N) (hN : N < 2 ^ 31) (hd : decode cc pc = .ok (.iastore, 1)) (kk : ∀ H1 : Heap, vt G a (iA G N (upd f j x)) H1 → hset H a H1 → wx E H1 k n (pc + 1) lv st) : wx E H k n pc lv (.int x :: .int (nI j) :: .ref a :: st) := by
  refine x_iast F hv hAa (vp_in_nI hj hN) hd (fun H1 v1 s1 => kk H1 ?_ s1)
  have e : (nI j).toNatClampNeg = j := nI_clamp (by omega)
  rw [e] at v1
  exact v1
theorem x_len (F : fx L rm G A H0 n0 cc own E) {a N : Nat} {f : Nat → Int32} (hv : vt G a (iA G N f) H) (hd : decode cc pc = .ok (.arraylength, 1)) (kk : wx E H k n (pc + 1) lv (.int (nI N) :: st)) : wx E H k n pc lv (.ref a :: st) :=
  x_alen F hv (show hA_ G G.2.1.1 .int from List.mem_cons_self) rfl hd kk
theorem x_callVXo (F : fx L rm G A H0 n0 cc own E) {b ci : Nat} {fs : List Value} {r : vw_C} (hv : vt G b (.inr (ci, fs)) H) (hcl : vwCl[ci]? = some r) (hC : Cx L y bytes maxL ret2 r2 G A1 (.ref b :: As) Pre Post2 PX2) (cw : cwV_ own idx r.1 y bytes maxL ret2 nA) (hR : rok rm r2 maxL k n) (hd : decode cc pc = .ok (.invokevirtual idx, 3)) (hnA : As.length = nA) (hst : st = As.reverse ++ .ref b :: rest) (hcat : (rest.map fun v => v.category).sum ≤ 8) (hA1 : ∀ q, A1 q → A q) (hfr : ∀ q, H.size ≤ q → A1 q) (hpre : Pre H) (hno : ∀ H1 X, ¬ PX2 H X H1) (kk : kRet E H A1 Post2 (k + r2.cells) (n + r2.slots) (pc + 3) lv rest) : wx E H k n pc lv st :=
  x_callVX F hv hcl hC cw.1 cw.2.1 cw.2.2.1 cw.2.2.2.1 cw.2.2.2.2.1 cw.2.2.2.2.2 hR hd hnA hst hcat hA1 hfr hpre kk (fun q X H1 h => absurd h (hno H1 X))
theorem wx_st {st' : List Value} (h : st = st') (kk : wx E H k n pc lv st') : wx E H k n pc lv st := h ▸ kk
theorem wx_wd {k2 n2 : Nat} (h1 : k ≤ k2) (h2 : n ≤ n2) (kk : wx E H k2 n2 pc lv st) : wx E H k n pc lv st := by
  obtain ⟨p, l, e, R, s, m, args, below, meth, c, A1, nL, Q⟩ := E
  intro locs ls hS hl
  exact W.widen h1 h2 (kk locs ls hS hl)
end
/-! numbers -/
theorem rem_nI {a b : Nat} (ha : a < 2 ^ 31) (hb : b < 2 ^ 31) : nI a - nI a / nI b * nI b = nI (a % b) := by
  rw [irem_eq_mod]
  apply Int32.toInt_inj.mp
  have h3 : a % b < 2 ^ 31 := Nat.lt_of_le_of_lt (Nat.mod_le a b) ha
  rw [Int32.toInt_mod, nI_toInt ha, nI_toInt hb, nI_toInt h3, Int.tmod_eq_emod_of_nonneg (Int.natCast_nonneg a)]
  rfl
theorem bl_in (x : Int32) {b : Nat} {n : Int32} (e : n = nI b) (h0 : 0 < b) (hb : b < 2 ^ 31) : ∃ r, r < b ∧ bl x n = nI r := by
  obtain ⟨j, hj, h⟩ := pk_andE x (m := 2147483647) 31 (by decide)
  refine ⟨j % b, Nat.mod_lt _ h0, ?_⟩
  unfold bl
  rw [e, h]
  exact rem_nI hj hb
theorem nI_nz {n : Int32} {b : Nat} (e : n = nI b) (h0 : 0 < b) (hb : b < 2 ^ 31) : ¬ n = 0 := by
  rw [e, ← nI_0, nI_eq hb (by decide)]
  omega
/-! the counts of the law's arrays -/
section
variable {c : CS} {k : Nat}
theorem sF1_0 (c : CS) : sF1 c 0 = fun _ => 0 := rfl
theorem sG1_0 (c : CS) : sG1 c 0 = fun _ => 0 := rfl
theorem sF1_no (h : ¬ cF c k 6 = 1) : sF1 c (k + 1) = sF1 c k := by
  funext i
  show sF1 c k i + (if cF c k 6 = 1 ∧ fHas c k i = true then 1 else 0) = _
  rw [if_neg (fun q => h q.1), Int32.add_zero]
theorem sG1_no (h : ¬ cF c k 6 = 1) : sG1 c (k + 1) = sG1 c k := by
  funext i
  show sG1 c k i + (if cF c k 6 = 1 ∧ (cR c k).2.2 = i then 1 else 0) = _
  rw [if_neg (fun q => h q.1), Int32.add_zero]
theorem sA1_no (h : ¬ cF c k 6 = 1) : sA1 c (k + 1) = sA1 c k := by
  show sA1 c k + (if cF c k 6 = 1 then 1 else 0) = _
  rw [if_neg h, Int32.add_zero]
theorem sA1_1 (h : cF c k 6 = 1) : sA1 c k + 1 = sA1 c (k + 1) := by
  show _ = sA1 c k + (if cF c k 6 = 1 then 1 else 0)
  rw [if_pos h]
theorem sF1_1 (h : cF c k 6 = 1) (hq : (cR c k).2.1 = none) : sF1 c (k + 1) = upd (sF1 c k) (cR c k).1 (sF1 c k (cR c k).1 + 1) := by
  funext i
  show sF1 c k i + (if cF c k 6 = 1 ∧ fHas c k i = true then 1 else 0) = if i = (cR c k).1 then sF1 c k (cR c k).1 + 1 else sF1 c k i
  by_cases e : i = (cR c k).1
  · rw [if_pos e, if_pos ⟨h, by unfold fHas; rw [decide_eq_true_eq]; exact Or.inl e.symm⟩, e]
  · rw [if_neg e, if_neg (fun q => by
      have w := q.2
      unfold fHas at w
      rw [decide_eq_true_eq, hq] at w
      rcases w with w | w
      · exact e w.symm
      · cases w), Int32.add_zero]
theorem sF1_2 (h : cF c k 6 = 1) {s : Nat} (hq : (cR c k).2.1 = some s) (hne : s ≠ (cR c k).1) : sF1 c (k + 1) = upd (upd (sF1 c k) (cR c k).1 (sF1 c k (cR c k).1 + 1)) s (upd (sF1 c k) (cR c k).1 (sF1 c k (cR c k).1 + 1) s + 1) := by
  have es : upd (sF1 c k) (cR c k).1 (sF1 c k (cR c k).1 + 1) s = sF1 c k s := if_neg hne
  rw [es]
  funext i
  show sF1 c k i + (if cF c k 6 = 1 ∧ fHas c k i = true then 1 else 0) = if i = s then sF1 c k s + 1 else if i = (cR c k).1 then sF1 c k (cR c k).1 + 1 else sF1 c k i
  by_cases e2 : i = s
  · rw [if_pos e2, if_pos ⟨h, by unfold fHas; rw [decide_eq_true_eq]; exact Or.inr (by rw [hq, e2])⟩, e2]
  · rw [if_neg e2]
    by_cases e : i = (cR c k).1
    · rw [if_pos e, if_pos ⟨h, by unfold fHas; rw [decide_eq_true_eq]; exact Or.inl e.symm⟩, e]
    · rw [if_neg e, if_neg (fun q => by
        have w := q.2
        unfold fHas at w
        rw [decide_eq_true_eq, hq] at w
        rcases w with w | w
        · exact e w.symm
        · exact e2 (Option.some.inj w).symm), Int32.add_zero]
theorem sG1_1 (h : cF c k 6 = 1) : sG1 c (k + 1) = upd (sG1 c k) (cR c k).2.2 (sG1 c k (cR c k).2.2 + 1) := by
  funext i
  show sG1 c k i + (if cF c k 6 = 1 ∧ (cR c k).2.2 = i then 1 else 0) = if i = (cR c k).2.2 then sG1 c k (cR c k).2.2 + 1 else sG1 c k i
  by_cases e : i = (cR c k).2.2
  · rw [if_pos e, if_pos ⟨h, e.symm⟩, e]
  · rw [if_neg e, if_neg (fun q => e q.2.symm), Int32.add_zero]
theorem sW1_y (h : cG c k 4 = 2) : sW1 c k + 1 = sW1 c (k + 1) := by
  show _ = sW1 c k + (if cG c k 4 = 2 then 1 else 0)
  rw [if_pos h]
theorem sW1_n (h : ¬ cG c k 4 = 2) : sW1 c k + 0 = sW1 c (k + 1) := by
  show _ = sW1 c k + (if cG c k 4 = 2 then 1 else 0)
  rw [if_neg h]
end
/-- the outer loop's world -/
def WL (G : GT) (z xa la sa : Nat) (c : CS) (H : Heap) : Prop := Rep G (Bx z [la, sa]) c H ∧ (∃ f, vt G la (iA G (nm c) f) H ∧ ∀ i, i < nm c → f i = cM c i 1) ∧ (∃ f, vt G sa (iA G (ng c) f) H ∧ ∀ g, g < ng c → f g = cG c g 1) ∧ JJ c ∧ ad c 0 0 = xa ∧ (1 ≤ nm c ∧ 1 ≤ ng c)
/-- the inner loops' world: behind a tick, with two arrays more -/
def WI (G : GT) (z xa la sa fl ow : Nat) (c : CS) (ff fo : Nat → Int32) (H : Heap) : Prop := Rep G (Bx z [fl, ow, la, sa]) c H ∧ (∃ f, vt G la (iA G (nm c) f) H ∧ ∀ i, i < nm c → f i = cM c i 1) ∧ (∃ f, vt G sa (iA G (ng c) f) H ∧ ∀ g, g < ng c → f g = cG c g 1) ∧ JJ c ∧ ad c 0 0 = xa ∧ (1 ≤ nm c ∧ 1 ≤ ng c) ∧ vt G fl (iA G 16 ff) H ∧ vt G ow (iA G 8 fo) H ∧ (fl ≠ ow ∧ la ≠ fl ∧ la ≠ ow ∧ sa ≠ fl ∧ sa ≠ ow) ∧ z ≤ fl ∧ z ≤ ow
section
variable {G : GT} {z xa la sa fl ow : Nat} {c : CS} {ff fo ff' fo' : Nat → Int32} {H H1 : Heap}
theorem WI.setF (h : WI G z xa la sa fl ow c ff fo H) (hs : hset H fl H1) (hv : vt G fl (iA G 16 ff') H1) : WI G z xa la sa fl ow c ff' fo H1 := by
  obtain ⟨h1, ⟨f, h2, h3⟩, ⟨g, h4, h5⟩, h6, h7, h8, h9, h10, h11, h12⟩ := h
  exact ⟨h1.arr List.mem_cons_self hs, ⟨f, h2.oth2 h11.2.1 hs, h3⟩, ⟨g, h4.oth2 h11.2.2.2.1 hs, h5⟩, h6, h7, h8, hv, h10.oth2 h11.1.symm hs, h11, h12⟩
theorem WI.setO (h : WI G z xa la sa fl ow c ff fo H) (hs : hset H ow H1) (hv : vt G ow (iA G 8 fo') H1) : WI G z xa la sa fl ow c ff fo' H1 := by
  obtain ⟨h1, ⟨f, h2, h3⟩, ⟨g, h4, h5⟩, h6, h7, h8, h9, h10, h11, h12⟩ := h
  exact ⟨h1.arr (List.mem_cons_of_mem _ List.mem_cons_self) hs, ⟨f, h2.oth2 h11.2.2.1 hs, h3⟩, ⟨g, h4.oth2 h11.2.2.2.2 hs, h5⟩, h6, h7, h8, h9.oth2 h11.1 hs, hv, h11, h12⟩
theorem WI.out (h : WI G z xa la sa fl ow c ff fo H) : WL G z xa la sa c H :=
  ⟨h.1.reg (fun _ hq => ⟨hq.1, fun x => hq.2 (List.mem_cons_of_mem _ (List.mem_cons_of_mem _ x))⟩), h.2.1, h.2.2.1, h.2.2.2.1, h.2.2.2.2.1, h.2.2.2.2.2.1⟩
theorem WL.bd (h : WL G z xa la sa c H) : nm c ≤ 16 ∧ ng c ≤ 8 ∧ nf c ≤ 100 := h.2.2.2.1.2.1.2.1.1
theorem WI.bd (h : WI G z xa la sa fl ow c ff fo H) : nm c ≤ 16 ∧ ng c ≤ 8 ∧ nf c ≤ 100 := h.out.bd
end
end LR1
