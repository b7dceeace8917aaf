/-! throw new X("text") in GliderDay; an exception caught in the law's class -/
section TH
abbrev nE : List String := ["java/lang/RuntimeException", "java/lang/Exception"]
set_option maxRecDepth 100000 in
theorem at62g : ∀ w ∈ (vx_atS "GliderDay" 62 "java/lang/IllegalArgumentException" nE).filter goodWord, w ∈ lw_tbl := by decide +kernel
set_option maxRecDepth 100000 in
theorem at73g : ∀ w ∈ (vx_atS "GliderDay" 73 "java/lang/IllegalStateException" nE).filter goodWord, w ∈ lw_tbl := by decide +kernel
set_option maxRecDepth 100000 in
theorem at139g : ∀ w ∈ (vx_atS "GliderDay" 139 "java/lang/IndexOutOfBoundsException" nE).filter goodWord, w ∈ lw_tbl := by decide +kernel
theorem at62n : ∀ w ∈ (vx_atS "GliderDay" 62 "java/lang/IllegalArgumentException" nE).filter (fun w => !goodWord w), w ∈ nestW := by decide +kernel
theorem at73n : ∀ w ∈ (vx_atS "GliderDay" 73 "java/lang/IllegalStateException" nE).filter (fun w => !goodWord w), w ∈ nestW := by decide +kernel
theorem at139n : ∀ w ∈ (vx_atS "GliderDay" 139 "java/lang/IndexOutOfBoundsException" nE).filter (fun w => !goodWord w), w ∈ nestW := by decide +kernel
theorem nest_tab : ∀ w ∈ nestW, w.onTables = true := by decide +kernel
theorem at62o : ∀ w ∈ Cond.classLink "GliderDay" 58 "java/lang/IllegalArgumentException" :: Cond.initialized "java/lang/IllegalArgumentException" :: vx_atS "GliderDay" 62 "java/lang/IllegalArgumentException" nE, vx_ot w = true := by decide +kernel
theorem at73o : ∀ w ∈ Cond.classLink "GliderDay" 69 "java/lang/IllegalStateException" :: Cond.initialized "java/lang/IllegalStateException" :: vx_atS "GliderDay" 73 "java/lang/IllegalStateException" nE, vx_ot w = true := by decide +kernel
theorem at139o : ∀ w ∈ Cond.classLink "GliderDay" 135 "java/lang/IndexOutOfBoundsException" :: Cond.initialized "java/lang/IndexOutOfBoundsException" :: vx_atS "GliderDay" 139 "java/lang/IndexOutOfBoundsException" nE, vx_ot w = true := by decide +kernel
variable {L : Launch} {rm r2 : Room} {G : GT} {A A1 : Nat → Prop} {H0 : Heap} {n0 : Nat} {cc bytes : ByteArray} {own : String} {E : WE} {H : Heap} {k n pc maxL nA idx : Nat} {lv lv' : List (Nat × Value)} {st rest As : List Value} {ret ret2 : Option FieldType} {nm : String} {Post Post2 : Heap → Option Value → Heap → Prop} {PX PX2 : Heap → String → Heap → Prop} {Pre : Heap → Prop} {y : MethodName}
/-- what is needed of the class X that is thrown out of GliderDay -/
def thr (ik ic : Nat) (X : String) : Prop := Bundle.fit X = true ∧ Cond.classLink "GliderDay" ik X ∈ WALL ∧ Cond.initialized X ∈ WALL ∧ (∀ w ∈ (vx_atS "GliderDay" ic X nE).filter goodWord, w ∈ lw_tbl) ∧ (∀ w ∈ (vx_atS "GliderDay" ic X nE).filter (fun w => !goodWord w), w ∈ nestW) ∧ ∀ w ∈ Cond.classLink "GliderDay" ik X :: Cond.initialized X :: vx_atS "GliderDay" ic X nE, vx_ot w = true
theorem x_throw (F : fx L rm G A H0 n0 cc "GliderDay" E) (hX : fX rm A Post PX E) (hL0 : L.stackTraces = false) {ik ic is : Nat} {X text : String} (hT : thr ik ic X) (hst : (is, text) ∈ strW)
    (d0 : decode cc pc = .ok (.new ik, 3)) (d3 : decode cc (pc + 3) = .ok (.dup, 1)) (d4 : decode cc (pc + 4) = .ok (.ldc is, 2)) (d6 : decode cc (pc + 6) = .ok (.invokespecial ic, 3)) (d9 : decode cc (pc + 9) = .ok (.athrow, 1))
    (hf : 5 < rm.frames) (hlo : (rest.map fun v => v.category).sum + 82 ≤ rm.locals) (hk : k + 1 ≤ rm.cells) (hn : n + 6 ≤ rm.slots) (hp : ∀ H1 : Heap, H.size ≤ H1.size → (∀ q : Nat, q < H.size → H1[q]? = H[q]?) → PX H0 X H1) : wx E H k n pc lv rest := by
  obtain ⟨p, l, e, R, s, m, args, below, meth, c, A9, nL, Q⟩ := E
  obtain ⟨⟨hx, hb, hml, hown, hts⟩, hL, hRR, hAA, hH0, hnL, hKt, hKh, hfr9, hlk⟩ := F
  obtain ⟨hQ, hex⟩ := hX
  subst hL hRR hAA hH0 hQ
  intro locs ls hS hlv
  exact vx_throwS hx hb hL0 (names := nE) hown hT.1 (by decide +kernel) (hts _ hT.2.1) (hts _ hT.2.2.1) (hKt.2.2.1 _ hst)
    (hat_of hKt hts (fun w hw => List.mem_filter.mpr ⟨hT.2.2.2.1 w hw, (List.mem_filter.mp hw).2⟩) hT.2.2.2.2.1 nest_tab) hT.2.2.2.2.2 hKh.1 hKh.2.1 hS (hlv.1.trans hml.symm) d0 d3 d4 d6 d9 (fun x hx => absurd (hex x hx) id) hf hlo hk hn hlk
    (fun t hA hz ho => ⟨hp _ hz ho, Nat.le_trans hS.1 hz, fun q h1 h2 => (ho q (Nat.lt_of_lt_of_le h1 hS.1)).trans (hS.2.1 q h1 h2)⟩) hS.2.2 hk hn
end TH
