/-! rows over a day: its lists, its fields -/
section DR
variable {L : Launch} {rm r2 : Room} {G : GT} {A A1 : Nat → Prop} {H0 : Heap} {n0 : Nat} {cc bytes : ByteArray} {own : String} {E : WE} {H H1 : Heap} {k n pc maxL nA idx : Nat} {lv lv' : List (Nat × Value)} {st rest As : List Value} {ret ret2 : Option FieldType} {nm_ : String} {Post Post2 : Heap → Option Value → Heap → Prop} {PX PX2 : Heap → String → Heap → Prop} {Pre : Heap → Prop} {y : MethodName} {c : CS} {T : Nat → Nat} {bA cp : Nat → Nat} {mo : Nat → Int32}
/-- a list of the day is another; a thing e may have come into the day with it (te: its kind) -/
theorem RepX.lput (hX : RepX G A c H T bA cp mo) {k0 b' cap' e te : Nat} {mo' : Int32} {c' : CS} (hk0 : k0 < 5) (hz : H.size ≤ H1.size) (hfrm : ∀ q, q < H.size → q ≠ ad c 1 k0 → (T (bA k0) = 20 + k0 → q ≠ bA k0) → H1[q]? = H[q]?)
    (hb' : T b' = 20 + k0 ∨ (H.size ≤ b' ∧ b' < H1.size ∧ A b')) (hcap : 10 ≤ cap' ∧ cap' ≤ 200 ∧ (els c' k0).length ≤ cap') (hl : vt G (ad c 1 k0) (oL mo' b' (els c' k0).length) H1) (ha : vt G b' (aO G cap' (fun i => (els c' k0)[i]?)) H1)
    (he : 100 ≤ te ∧ (T e = te ∨ T e = 0) ∧ e < H.size ∧ A e)
    (had : ad c' 0 0 = ad c 0 0 ∧ ad c' 2 0 = ad c 2 0 ∧ ∀ k, ad c' 1 k = ad c 1 k) (hel : ∀ k, k < 5 → k ≠ k0 → els c' k = els c k) (hday : dayV c' = dayV c) (htug : ∀ i, cD c' (13 + i) = cD c (13 + i))
    (hmem : ∀ i, i < nm c' → (i < nm c ∧ ad c' 3 i = ad c 3 i ∧ memV c' i = memV c i) ∨ (ad c' 3 i = e ∧ te = 100 + 3 * i ∧ vt G e (.inr (3, memV c' i)) H))
    (hgli : ∀ i, i < ng c' → (i < ng c ∧ ad c' 4 i = ad c 4 i ∧ gliV c' i = gliV c i) ∨ (ad c' 4 i = e ∧ te = 101 + 3 * i ∧ vt G e (.inr (2, gliV c' i)) H))
    (hfli : ∀ i, i < nf c' → (i < nf c ∧ ad c' 5 i = ad c 5 i ∧ fliV c' i = fliV c i) ∨ (ad c' 5 i = e ∧ te = 102 + 3 * i ∧ vt G e (.inr (1, fliV c' i)) H)) (hw : Wf c') (hown : k0 = 4 ∨ ow c' = ow c) : Rep G A c' H1 := by
  obtain ⟨h1, h2, h3, h4, h5, h6, h7, -, how⟩ := hX
  have hlo := (h4 k0 hk0).1
  have hbs : ∀ q, q < H.size → q ≠ b' ∨ T q = 20 + k0 := fun q hq => by
    rcases hb' with hb | hb
    · by_cases h : q = b'
      · exact Or.inr (by rw [h]; exact hb)
      · exact Or.inl h
    · exact Or.inl (by omega)
  have hT : ∀ q t, T q = t → 0 < t → t ≠ 20 + k0 → (fun a => if a = b' then 20 + k0 else if a = e then te else T a) q = t := by
    intro q t hq h0 hne
    have hlt := (h1 q (by omega)).2
    have hqb : q ≠ b' := by
      rcases hbs q hlt with h | h
      · exact h
      · omega
    show (if q = b' then 20 + k0 else if q = e then te else T q) = t
    rw [if_neg hqb]
    by_cases h : q = e
    · rw [if_pos h]
      rcases he.2.1 with g | g
      · rw [← g, ← h, hq]
      · rw [← h, hq] at g; omega
    · rw [if_neg h, hq]
  have hTe : (fun a => if a = b' then 20 + k0 else if a = e then te else T a) e = te := by
    have hqb : e ≠ b' := by
      rcases hbs e he.2.2.1 with h | h
      · exact h
      · rcases he.2.1 with g | g <;> omega
    show (if e = b' then 20 + k0 else if e = e then te else T e) = te
    rw [if_neg hqb, if_pos rfl]
  have hTb : (fun a => if a = b' then 20 + k0 else if a = e then te else T a) b' = 20 + k0 := if_pos rfl
  have hkp : ∀ q t, T q = t → 0 < t → t ≠ 10 + k0 → t ≠ 20 + k0 → H1[q]? = H[q]? := fun q t hq h0 ha hb => hfrm q (h1 q (by omega)).2 (fun g => ha (by rw [← hq, g]; exact hlo)) (fun g1 g2 => hb (by rw [← hq, g2]; exact g1))
  have hke : H1[e]? = H[e]? := hfrm e he.2.2.1 (fun g => by rcases he.2.1 with q | q <;> rw [g, hlo] at q <;> omega) (fun g1 g2 => by rcases he.2.1 with q | q <;> rw [g2, g1] at q <;> omega)
  refine ⟨fun a => if a = b' then 20 + k0 else if a = e then te else T a, fun k => if k = k0 then b' else bA k, fun k => if k = k0 then cap' else cp k, fun k => if k = k0 then mo' else mo k, ?_, ?_, ?_, ?_, ?_, ?_, ?_, hw, ?_⟩
  · intro a hne
    by_cases hab : a = b'
    · subst hab
      rcases hb' with hb | hb
      · exact ⟨(h1 a (by omega)).1, Nat.lt_of_lt_of_le (h1 a (by omega)).2 hz⟩
      · exact ⟨hb.2.2, hb.2.1⟩
    · by_cases hae : a = e
      · subst hae
        exact ⟨he.2.2.2, Nat.lt_of_lt_of_le he.2.2.1 hz⟩
      · have h9 : (if a = b' then 20 + k0 else if a = e then te else T a) ≠ 0 := hne
        rw [if_neg hab, if_neg hae] at h9
        exact ⟨(h1 a h9).1, Nat.lt_of_lt_of_le (h1 a h9).2 hz⟩
  · rw [had.1, hday]
    exact ⟨hT _ 1 h2.1 (by omega) (by omega), h2.2.kept (hkp _ 1 h2.1 (by omega) (by omega) (by omega))⟩
  · rw [had.2.1, show (fun i => cD c' (13 + i)) = (fun i => cD c (13 + i)) from funext htug]
    exact ⟨hT _ 2 h3.1 (by omega) (by omega), h3.2.kept (hkp _ 2 h3.1 (by omega) (by omega) (by omega))⟩
  · intro k hk
    rw [had.2.2]
    by_cases hkk : k = k0
    · subst hkk
      refine ⟨hT _ _ (h4 k hk).1 (by omega) (by omega), ?_⟩
      simp only [if_pos]
      exact ⟨hl, Or.inr ⟨trivial, hcap.1, hcap.2.1, hcap.2.2, ha⟩⟩
    · refine ⟨hT _ _ (h4 k hk).1 (by omega) (by omega), ?_⟩
      simp only [if_neg hkk]
      rw [hel k hk hkk]
      obtain ⟨g1, g2⟩ := (h4 k hk).2
      refine ⟨g1.kept (hkp _ _ (h4 k hk).1 (by omega) (by omega) (by omega)), ?_⟩
      rcases g2 with g2 | ⟨p, q1, q2, q3, q4⟩
      · exact Or.inl g2
      · exact Or.inr ⟨hT _ _ p (by omega) (by omega), q1, q2, q3, q4.kept (hkp _ _ p (by omega) (by omega) (by omega))⟩
  · intro i hi
    rcases hmem i hi with ⟨g1, g2, g3⟩ | ⟨g1, g2, g3⟩
    · rw [g2, g3]
      exact ⟨hT _ _ (h5 i g1).1 (by omega) (by omega), (h5 i g1).2.kept (hkp _ _ (h5 i g1).1 (by omega) (by omega) (by omega))⟩
    · rw [g1]
      exact ⟨by rw [hTe, g2], g3.kept hke⟩
  · intro i hi
    rcases hgli i hi with ⟨g1, g2, g3⟩ | ⟨g1, g2, g3⟩
    · rw [g2, g3]
      exact ⟨hT _ _ (h6 i g1).1 (by omega) (by omega), (h6 i g1).2.kept (hkp _ _ (h6 i g1).1 (by omega) (by omega) (by omega))⟩
    · rw [g1]
      exact ⟨by rw [hTe, g2], g3.kept hke⟩
  · intro i hi
    rcases hfli i hi with ⟨g1, g2, g3⟩ | ⟨g1, g2, g3⟩
    · rw [g2, g3]
      exact ⟨hT _ _ (h7 i g1).1 (by omega) (by omega), (h7 i g1).2.kept (hkp _ _ (h7 i g1).1 (by omega) (by omega) (by omega))⟩
    · rw [g1]
      exact ⟨by rw [hTe, g2], g3.kept hke⟩
  · intro ho
    by_cases h40 : 4 = k0
    · simp only [if_pos h40]
      exact hcap.1
    · simp only [if_neg h40]
      rcases hown with h | h
      · exact absurd h.symm h40
      · exact how (by rw [← h]; exact ho)
theorem y_lsize (F : fx L rm G A H0 n0 cc own E) (hR : Rep G A c H) {k5 : Nat} (hk5 : k5 < 5) (cw : cwV_ own idx "java/util/ArrayList" yJx4a65c_size_8abf5 cJx4a65c_size_8abf5 1 (some .int) 0) (hf : 1 ≤ rm.frames ∧ 20 ≤ rm.locals) (hk : k ≤ rm.cells) (hn : n ≤ rm.slots) (hd : decode cc pc = .ok (.invokevirtual idx, 3)) (hcat : (st.map fun v => v.category).sum ≤ 8) (kk : wx E H k n (pc + 3) lv (.int (nI (els c k5).length) :: st)) : wx E H k n pc lv (.ref (ad c 1 k5) :: st) := by
  obtain ⟨T, bA, cp, mo, hX⟩ := id hR
  have hv := (hX.2.2.2.1 k5 hk5).2.1
  exact x_callVp (rest := st) (As := []) F hv rfl (c_lsize L G A _ _ _ _) cw ⟨hf.1, hf.2, rfl, rfl⟩ hk hn hd rfl rfl hcat hv kk
theorem y_lempty (F : fx L rm G A H0 n0 cc own E) (hR : Rep G A c H) {k5 : Nat} (hk5 : k5 < 5) (cw : cwV_ own idx "java/util/ArrayList" yJx4a65c_isEmpty_aae02 cJx4a65c_isEmpty_aae02 1 (some .boolean) 0) (hf : 1 ≤ rm.frames ∧ 20 ≤ rm.locals) (hk : k ≤ rm.cells) (hn : n ≤ rm.slots) (hd : decode cc pc = .ok (.invokevirtual idx, 3)) (hcat : (st.map fun v => v.category).sum ≤ 8) (kk : wx E H k n (pc + 3) lv (.int (bI (nI (els c k5).length = 0)) :: st)) : wx E H k n pc lv (.ref (ad c 1 k5) :: st) := by
  obtain ⟨T, bA, cp, mo, hX⟩ := id hR
  have hv := (hX.2.2.2.1 k5 hk5).2.1
  exact x_callVp (rest := st) (As := []) F hv rfl (c_lempty L G A _ _ _ _) cw ⟨hf.1, hf.2, rfl, rfl⟩ hk hn hd rfl rfl hcat hv kk
theorem y_lget (F : fx L rm G A H0 n0 cc own E) (hR : Rep G A c H) {k5 i e : Nat} (hk5 : k5 < 5) (he : (els c k5)[i]? = some e) (cw : cwV_ own idx "java/util/ArrayList" yJx4a65c_get_915e3 cJx4a65c_get_915e3 2 (some (.object "java/lang/Object")) 1) (hf : 3 ≤ rm.frames ∧ 64 ≤ rm.locals) (hk : k ≤ rm.cells) (hn : n ≤ rm.slots) (hd : decode cc pc = .ok (.invokevirtual idx, 3)) (hcat : (st.map fun v => v.category).sum ≤ 8) (kk : wx E H k n (pc + 3) lv (.ref e :: st)) : wx E H k n pc lv (.int (nI i) :: .ref (ad c 1 k5) :: st) := by
  obtain ⟨T, bA, cp, mo, hX⟩ := id hR
  obtain ⟨hv, hc⟩ := (hX.2.2.2.1 k5 hk5).2
  have hi : i < (els c k5).length := (List.getElem?_eq_some_iff.mp he).1
  rcases hc with ⟨-, -, h0⟩ | ⟨-, g1, g2, g3, g4⟩
  · rw [h0] at hi
    exact absurd hi (Nat.not_lt_zero _)
  · exact x_callVp (rest := st) (As := [.int (nI i)]) F hv rfl (c_lget L G A _ _ _ _ i e _ _ hi g3 (by omega) he) cw ⟨hf.1, hf.2, rfl, rfl⟩ hk hn hd rfl rfl hcat ⟨hv, g4⟩ kk
/-- add(e): the list holds one more -/
theorem y_ladd (F : fx L rm G A H0 n0 cc own E) (hX : RepX G A c H T bA cp mo) {k5 e te : Nat} {c' : CS} (hk5 : k5 < 5) (hlen : (els c k5).length < 130) (cw : cwV_ own idx "java/util/ArrayList" yJx4a65c_add_9ea2d cJx4a65c_add_9ea2d 2 (some .boolean) 1) (hf : 7 ≤ rm.frames ∧ 171 ≤ rm.locals) (hk : k + 1 ≤ rm.cells) (hn : n + 300 ≤ rm.slots) (hd : decode cc pc = .ok (.invokevirtual idx, 3)) (hcat : (st.map fun v => v.category).sum ≤ 8)
    (hob : ob G e H) (he : 100 ≤ te ∧ (T e = te ∨ T e = 0) ∧ A e) (heq : els c' k5 = els c k5 ++ [e])
    (had : ad c' 0 0 = ad c 0 0 ∧ ad c' 2 0 = ad c 2 0 ∧ ∀ k, ad c' 1 k = ad c 1 k) (hel : ∀ k, k < 5 → k ≠ k5 → els c' k = els c k) (hday : dayV c' = dayV c) (htug : ∀ i, cD c' (13 + i) = cD c (13 + i))
    (hmem : ∀ i, i < nm c' → (i < nm c ∧ ad c' 3 i = ad c 3 i ∧ memV c' i = memV c i) ∨ (ad c' 3 i = e ∧ te = 100 + 3 * i ∧ vt G e (.inr (3, memV c' i)) H))
    (hgli : ∀ i, i < ng c' → (i < ng c ∧ ad c' 4 i = ad c 4 i ∧ gliV c' i = gliV c i) ∨ (ad c' 4 i = e ∧ te = 101 + 3 * i ∧ vt G e (.inr (2, gliV c' i)) H))
    (hfli : ∀ i, i < nf c' → (i < nf c ∧ ad c' 5 i = ad c 5 i ∧ fliV c' i = fliV c i) ∨ (ad c' 5 i = e ∧ te = 102 + 3 * i ∧ vt G e (.inr (1, fliV c' i)) H)) (hw : Wf c') (hown : k5 = 4 ∨ ow c' = ow c)
    (kk : ∀ H1 : Heap, Rep G A c' H1 → H.size ≤ H1.size → wx E H1 (k + 1) (n + 300) (pc + 3) lv (.int 1 :: st)) : wx E H k n pc lv (.ref e :: .ref (ad c 1 k5) :: st) := by
  have hX0 := id hX
  obtain ⟨hT, -, -, h4, -⟩ := hX0
  obtain ⟨hlo, hv, hc⟩ := h4 k5 hk5
  have hloA := hT (ad c 1 k5) (by omega)
  have heT : e ≠ ad c 1 k5 := fun g => by rcases he.2.1 with q | q <;> rw [g, hlo] at q <;> omega
  have hlen' : (els c' k5).length = (els c k5).length + 1 := by rw [heq, List.length_append]; rfl
  have hobs : ∀ y, y ∈ els c k5 → ob G y H ∧ y ≠ ad c 1 k5 := fun y hy => ⟨(hX.el hk5 hy).1, fun g => by have q := (hX.el hk5 hy).2; rw [g, hlo] at q; omega⟩
  rcases hc with ⟨hb0, -, h0⟩ | ⟨hb, g1, g2, g3, g4⟩
  · rw [hb0, h0] at hv
    refine fr_of F fun hfr => x_callV (rest := st) (As := [.ref e]) (A1 := fun q => q = ad c 1 k5 ∨ H.size ≤ q) F hv rfl (c_addE L G _ (ad c 1 k5) e (mo k5) (Or.inl rfl) (fun q => q.elim heT (fun z => absurd hob.lt (Nat.not_lt.mpr z))) heT) cw.1 cw.2.1 cw.2.2.1 cw.2.2.2.1 cw.2.2.2.2.1 cw.2.2.2.2.2 ⟨⟨hf.1, hf.2⟩, hk, hn⟩ hd rfl rfl hcat (fun q q1 => q1.elim (fun z => z ▸ hloA.1) (hfr q)) (fun q h => Or.inr h) ⟨hv, hob⟩ ?_
    rintro r H1 ⟨rfl, q, hq0, hv1, hq⟩ hz hfrm
    refine kk H1 (hX.lput (b' := q) (cap' := 10) (te := te) (e := e) hk5 hz (fun x h1 h2 _ => hfrm x h1 (fun z => z.elim h2 (fun z => absurd h1 (Nat.not_lt.mpr z)))) (Or.inr ⟨hq0, hq.lt, hfr q hq0⟩) ⟨by omega, by omega, by rw [hlen', h0]; decide⟩ (by rw [hlen', h0]; exact hv1) ?_ ⟨he.1, he.2.1, hob.lt, he.2.2⟩ had hel hday htug hmem hgli hfli hw hown) hz
    have e1 := up_app (els c k5) e
    rw [h0] at e1
    rw [heq, h0, ← e1]
    exact hq
  · by_cases hfull : (els c k5).length = cp k5
    · rw [hfull] at hv
      refine fr_of F fun hfr => x_callV (rest := st) (As := [.ref e]) (A1 := fun q => q = ad c 1 k5 ∨ q = bA k5 ∨ H.size ≤ q) F hv rfl (c_addF L G _ (ad c 1 k5) (bA k5) e (cp k5) (mo k5) (fun i => (els c k5)[i]?) (by omega) g2 (Or.inl rfl) (Or.inr (Or.inl rfl)) (fun g => by rw [← g, hlo] at hb; omega) (fun q => q.elim heT (fun z => z.elim (fun z => by rcases he.2.1 with q | q <;> rw [z, hb] at q <;> omega) (fun z => absurd hob.lt (Nat.not_lt.mpr z)))) heT (fun i _ y hy => (hobs y (List.mem_of_getElem? hy)).2)) cw.1 cw.2.1 cw.2.2.1 cw.2.2.2.1 cw.2.2.2.2.1 cw.2.2.2.2.2 ⟨⟨hf.1, hf.2⟩, hk, hn⟩ hd rfl rfl hcat (fun q q1 => q1.elim (fun z => z ▸ hloA.1) (fun z => z.elim (fun z => z ▸ (hT _ (by omega)).1) (hfr q))) (fun q h => Or.inr (Or.inr h)) ⟨hv, g4, fun i _ y hy => (hobs y (List.mem_of_getElem? hy)).1, hob⟩ ?_
      rintro r H1 ⟨rfl, q, hq0, hv1, hq⟩ hz hfrm
      refine kk H1 (hX.lput (b' := q) (cap' := cp k5 + cp k5 / 2) (te := te) (e := e) hk5 hz (fun x h1 h2 h3 => hfrm x h1 (fun z => z.elim h2 (fun z => z.elim (h3 hb) (fun z => absurd h1 (Nat.not_lt.mpr z))))) (Or.inr ⟨hq0, hq.lt, hfr q hq0⟩) ⟨by omega, by omega, by rw [hlen', hfull]; omega⟩ (by rw [hlen', hfull]; exact hv1) ?_ ⟨he.1, he.2.1, hob.lt, he.2.2⟩ had hel hday htug hmem hgli hfli hw hown) hz
      have e1 := up_app (els c k5) e
      rw [heq, ← e1, hfull]
      have e2 : (fun i => if i < cp k5 then (els c k5)[i]? else none) = (fun i => (els c k5)[i]?) := by
        funext i
        by_cases hi : i < cp k5
        · rw [if_pos hi]
        · rw [if_neg hi, List.getElem?_eq_none (by omega)]
      rw [e2] at hq
      exact hq
    · refine fr_of F fun hfr => x_callV (rest := st) (As := [.ref e]) (A1 := fun q => q = ad c 1 k5 ∨ q = bA k5 ∨ H.size ≤ q) F hv rfl (c_addN L G _ (ad c 1 k5) (bA k5) e (els c k5).length (cp k5) (by omega) (mo k5) (fun i => (els c k5)[i]?) g2 (Or.inl rfl) (Or.inr (Or.inl rfl)) (fun g => by rw [← g, hlo] at hb; omega) heT) cw.1 cw.2.1 cw.2.2.1 cw.2.2.2.1 cw.2.2.2.2.1 cw.2.2.2.2.2 ⟨⟨hf.1, hf.2⟩, (by show k + 0 ≤ _; omega), (by show n + 0 ≤ _; omega)⟩ hd rfl rfl hcat (fun q q1 => q1.elim (fun z => z ▸ hloA.1) (fun z => z.elim (fun z => z ▸ (hT _ (by omega)).1) (hfr q))) (fun q h => Or.inr (Or.inr h)) ⟨hv, g4, hob⟩ ?_
      rintro r H1 ⟨rfl, hv1, hq⟩ hz hfrm
      refine wx_widen (k2 := k + 1) (n2 := n + 300) (by show k + 0 ≤ _; omega) (by show n + 0 ≤ _; omega) (kk H1 (hX.lput (b' := bA k5) (cap' := cp k5) (te := te) (e := e) hk5 hz (fun x h1 h2 h3 => hfrm x h1 (fun z => z.elim h2 (fun z => z.elim (h3 hb) (fun z => absurd h1 (Nat.not_lt.mpr z))))) (Or.inl hb) ⟨g1, g2, by rw [hlen']; omega⟩ (by rw [hlen']; exact hv1) ?_ ⟨he.1, he.2.1, hob.lt, he.2.2⟩ had hel hday htug hmem hgli hfli hw hown) hz)
      rw [heq, ← up_app]
      exact hq
/-- add(e) to the waiting list that has an array of its own and room: nothing is made -/
theorem y_ladd0 (F : fx L rm G A H0 n0 cc own E) (hR : Rep G A c H) {g : Nat} {c' : CS} (ho : ow c = true) (hlen : (wtg c).length < 10) (hg : g < ng c) (cw : cwV_ own idx "java/util/ArrayList" yJx4a65c_add_9ea2d cJx4a65c_add_9ea2d 2 (some .boolean) 1) (hf : 7 ≤ rm.frames ∧ 171 ≤ rm.locals) (hk : k ≤ rm.cells) (hn : n ≤ rm.slots) (hd : decode cc pc = .ok (.invokevirtual idx, 3)) (hcat : (st.map fun v => v.category).sum ≤ 8)
    (hc' : c' = sWa c (wtg c ++ [g]))
    (kk : ∀ H1 : Heap, Rep G A c' H1 → wx E H1 k n (pc + 3) lv (.int 1 :: st)) : wx E H k n pc lv (.ref (ad c 4 g) :: .ref (ad c 1 4) :: st) := by
  subst hc'
  obtain ⟨T, bA, cp, mo, hX⟩ := id hR
  have hX0 := id hX
  obtain ⟨hT, -, -, h4, -, h6, -, hw, how⟩ := hX0
  obtain ⟨hlo, hv, hc⟩ := h4 4 (by decide)
  have hc10 := how ho
  have hloA := hT (ad c 1 4) (by omega)
  have he := h6 g hg
  have hob : ob G (ad c 4 g) H := ⟨2, _, by decide, by decide, he.2⟩
  have heT : ad c 4 g ≠ ad c 1 4 := fun q => by have := he.1; rw [q, hlo] at this; omega
  have hel4 : (els c 4).length = (wtg c).length := List.length_map _
  rcases hc with ⟨-, g2, h0⟩ | ⟨hb, g1, g2, g3, g4⟩
  · omega
  · refine fr_of F fun hfr => x_callV (rest := st) (As := [.ref (ad c 4 g)]) (A1 := fun q => q = ad c 1 4 ∨ q = bA 4 ∨ H.size ≤ q) F hv rfl (c_addN L G _ (ad c 1 4) (bA 4) (ad c 4 g) (els c 4).length (cp 4) (by omega) (mo 4) (fun i => (els c 4)[i]?) g2 (Or.inl rfl) (Or.inr (Or.inl rfl)) (fun q => by rw [← q, hlo] at hb; omega) heT) cw.1 cw.2.1 cw.2.2.1 cw.2.2.2.1 cw.2.2.2.2.1 cw.2.2.2.2.2 ⟨⟨hf.1, hf.2⟩, hk, hn⟩ hd rfl rfl hcat (fun q q1 => q1.elim (fun z => z ▸ hloA.1) (fun z => z.elim (fun z => z ▸ (hT _ (by omega)).1) (hfr q))) (fun q h => Or.inr (Or.inr h)) ⟨hv, g4, hob⟩ ?_
    rintro r H1 ⟨rfl, hv1, hq⟩ hz hfrm
    have hel' : els (sWa c (wtg c ++ [g])) 4 = els c 4 ++ [ad c 4 g] := by
      show (wtg c ++ [g]).map (ad c 4) = (wtg c).map (ad c 4) ++ [ad c 4 g]
      rw [List.map_append]
      rfl
    have hlen' : (els (sWa c (wtg c ++ [g])) 4).length = (els c 4).length + 1 := by rw [hel', List.length_append]; rfl
    refine kk H1 (hX.lput (c' := sWa c (wtg c ++ [g])) (b' := bA 4) (cap' := cp 4) (te := T (ad c 4 g)) (e := ad c 4 g) (k0 := 4) (by decide) hz (fun x h1 h2 h3 => hfrm x h1 (fun z => z.elim h2 (fun z => z.elim (h3 hb) (fun z => absurd h1 (Nat.not_lt.mpr z))))) (Or.inl hb) ⟨g1, g2, by rw [hlen']; omega⟩ (by rw [hlen']; exact hv1) ?_ ⟨by rw [he.1]; omega, Or.inl rfl, hob.lt, (hT _ (by rw [he.1]; omega)).1⟩ ⟨rfl, rfl, fun _ => rfl⟩ (fun k hk hkk => by rcases (show k = 0 ∨ k = 1 ∨ k = 2 ∨ k = 3 by omega) with rfl | rfl | rfl | rfl <;> rfl) rfl (fun _ => rfl) (fun j hj => Or.inl ⟨hj, rfl, rfl⟩) (fun j hj => Or.inl ⟨hj, rfl, rfl⟩) (fun j hj => Or.inl ⟨hj, rfl, rfl⟩) ⟨hw.1, hw.2.1, hw.2.2.1, hw.2.2.2.1, fun q hq => ?_, ?_⟩ (Or.inl rfl))
    · rw [hel', ← up_app]
      exact hq
    · rcases List.mem_append.mp hq with q1 | q1
      · exact hw.2.2.2.2.1 q q1
      · rw [List.mem_singleton.mp q1]; exact hg
    · show (wtg c ++ [g]).length ≤ 100
      rw [List.length_append]
      show (wtg c).length + 1 ≤ 100
      omega
/-- remove(i) of one of the day's lists -/
theorem y_lrem (F : fx L rm G A H0 n0 cc own E) (hR : Rep G A c H) {k5 i e : Nat} {c' : CS} (hk5 : k5 < 5) (he : (els c k5)[i]? = some e) (cw : cwV_ own idx "java/util/ArrayList" yJx4a65c_remove_915e3 cJx4a65c_remove_915e3 4 (some (.object "java/lang/Object")) 1) (hf : 3 ≤ rm.frames ∧ 86 ≤ rm.locals) (hk : k ≤ rm.cells) (hn : n ≤ rm.slots) (hd : decode cc pc = .ok (.invokevirtual idx, 3)) (hcat : (st.map fun v => v.category).sum ≤ 8)
    (heq : els c' k5 = (els c k5).eraseIdx i) (had : ad c' = ad c) (hnum : nm c' = nm c ∧ ng c' = ng c ∧ nf c' = nf c ∧ ow c' = ow c) (hel : ∀ k, k < 5 → k ≠ k5 → els c' k = els c k) (hday : dayV c' = dayV c) (htug : ∀ i, cD c' (13 + i) = cD c (13 + i)) (hV : memV c' = memV c ∧ gliV c' = gliV c ∧ fliV c' = fliV c) (hw : Wf c')
    (kk : ∀ H1 : Heap, Rep G A c' H1 → wx E H1 k n (pc + 3) lv (.ref e :: st)) : wx E H k n pc lv (.int (nI i) :: .ref (ad c 1 k5) :: st) := by
  obtain ⟨T, bA, cp, mo, hX⟩ := id hR
  have hX0 := id hX
  obtain ⟨hT, -, -, h4, -⟩ := hX0
  obtain ⟨hlo, hv, hc⟩ := h4 k5 hk5
  have hloA := hT (ad c 1 k5) (by omega)
  have hi : i < (els c k5).length := (List.getElem?_eq_some_iff.mp he).1
  rcases hc with ⟨-, -, h0⟩ | ⟨hb, g1, g2, g3, g4⟩
  · rw [h0] at hi
    exact absurd hi (Nat.not_lt_zero _)
  · obtain ⟨m1, hm1⟩ : ∃ m1, (els c k5).length = m1 + 1 := ⟨(els c k5).length - 1, by omega⟩
    have hobs : ∀ y, y ∈ els c k5 → ob G y H ∧ y ≠ ad c 1 k5 := fun y hy => ⟨(hX.el hk5 hy).1, fun g => by have q := (hX.el hk5 hy).2; rw [g, hlo] at q; omega⟩
    have hxe := hX.el hk5 (List.mem_of_getElem? he)
    rw [hm1] at hv
    refine fr_of F fun hfr => x_callV (rest := st) (As := [.int (nI i)]) (A1 := fun q => q = ad c 1 k5 ∨ q = bA k5 ∨ H.size ≤ q) F hv rfl (c_lremove L G _ (ad c 1 k5) (bA k5) m1 (cp k5) i e (mo k5) (fun i => (els c k5)[i]?) he (by omega) (by omega) g2 (Or.inl rfl) (Or.inr (Or.inl rfl)) (fun g => by rw [← g, hlo] at hb; omega) (fun i _ y hy => (hobs y (List.mem_of_getElem? hy)).2)) cw.1 cw.2.1 cw.2.2.1 cw.2.2.2.1 cw.2.2.2.2.1 cw.2.2.2.2.2 ⟨⟨hf.1, hf.2⟩, hk, hn⟩ hd rfl rfl hcat (fun q q1 => q1.elim (fun z => z ▸ hloA.1) (fun z => z.elim (fun z => z ▸ (hT _ (by omega)).1) (hfr q))) (fun q h => Or.inr (Or.inr h)) ⟨hv, g4, fun i _ y hy => (hobs y (List.mem_of_getElem? hy)).1⟩ ?_
    rintro r H1 ⟨rfl, hv1, hq⟩ hz hfrm
    have hl' : (els c' k5).length = m1 := by rw [heq, List.length_eraseIdx, if_pos hi, hm1]; rfl
    refine kk H1 (hX.lput (b' := bA k5) (cap' := cp k5) (e := e) (te := T e) hk5 hz (fun x h1 h2 h3 => hfrm x h1 (fun z => z.elim h2 (fun z => z.elim (h3 hb) (fun z => absurd h1 (Nat.not_lt.mpr z))))) (Or.inl hb) ⟨g1, g2, by rw [hl']; omega⟩ (by rw [hl']; exact hv1) ?_ ⟨hxe.2, Or.inl rfl, hxe.1.lt, (hT e (by omega)).1⟩ ⟨by rw [had], by rw [had], fun k => by rw [had]⟩ hel hday htug (fun j hj => Or.inl ⟨by rw [← hnum.1]; exact hj, by rw [had], by rw [hV.1]⟩) (fun j hj => Or.inl ⟨by rw [← hnum.2.1]; exact hj, by rw [had], by rw [hV.2.1]⟩) (fun j hj => Or.inl ⟨by rw [← hnum.2.2.1]; exact hj, by rw [had], by rw [hV.2.2]⟩) hw (Or.inr hnum.2.2.2))
    rw [heq, ← rmf_list _ m1 i hm1 (by omega)]
    exact hq
end DR
