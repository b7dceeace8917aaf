/-! the day's own methods: those that make members, gliders, flights -/
section CL6
section
variable {L : Launch} {rm r2 : Room} {G : GT} {A A1 : Nat → Prop} {H0 : Heap} {n0 : Nat} {cc bytes : ByteArray} {own : String} {E : WE} {H H1 : Heap} {k n pc maxL nA idx : Nat} {lv lv' : List (Nat × Value)} {st rest As : List Value} {ret ret2 : Option FieldType} {nm_ : String} {Post Post2 : Heap → Option Value → Heap → Prop} {Pre : Heap → Prop} {y : MethodName} {c : CS} {T : Nat → Nat} {bA cp : Nat → Nat} {mo : Nat → Int32}
theorem RepX.ext (h : RepX G A c H T bA cp mo) (hz : H.size ≤ H1.size) (hn : ∀ q, q < H.size → H1[q]? = H[q]?) : RepX G A c H1 T bA cp mo := by
  have hk : ∀ q, T q ≠ 0 → H1[q]? = H[q]? := fun q hT => hn q (h.1 q hT).2
  obtain ⟨h1, h2, h3, h4, h5, h6, h7, hw, how⟩ := h
  exact ⟨fun a ha => ⟨(h1 a ha).1, Nat.lt_of_lt_of_le (h1 a ha).2 hz⟩, ⟨h2.1, h2.2.kept (hk _ (by rw [h2.1]; decide))⟩, ⟨h3.1, h3.2.kept (hk _ (by rw [h3.1]; decide))⟩, fun k hk5 => ⟨(h4 k hk5).1, (h4 k hk5).2.kept (hk _ (by rw [(h4 k hk5).1]; omega)) (fun p => hk _ (by rw [p]; omega))⟩, fun i hi => ⟨(h5 i hi).1, (h5 i hi).2.kept (hk _ (by rw [(h5 i hi).1]; omega))⟩, fun i hi => ⟨(h6 i hi).1, (h6 i hi).2.kept (hk _ (by rw [(h6 i hi).1]; omega))⟩, fun i hi => ⟨(h7 i hi).1, (h7 i hi).2.kept (hk _ (by rw [(h7 i hi).1]; omega))⟩, hw, how⟩
theorem RepX.free (h : RepX G A c H T bA cp mo) {q : Nat} (hq : H.size ≤ q) : T q = 0 := by
  refine Decidable.byContradiction fun e => ?_
  have := (h.1 q e).2
  omega
theorem x_callINs (F : fx L rm G A H0 n0 cc own E) {b : Nat} {host : String} (hC : Ct L y bytes maxL none r2 G A (.ref b :: As) Pre Post2) (hl : Cond.methodLinkNest own idx y host ∈ nestW) (hs : Cond.instanceMethod y ∈ WALL) (hi : Cond.initialized y.cls ∈ WALL) (hc : Cond.code y bytes maxL none ∈ WALL) (hyn : y.name = "<init>") (hy : mhd y nA) (hR : rok rm r2 maxL k n) (hd : decode cc pc = .ok (.invokespecial idx, 3)) (hn : As.length = nA) (hst : st = As.reverse ++ .ref b :: rest) (hcat : (rest.map fun v => v.category).sum ≤ 8) (hpre : Pre H)
    (kk : kRet E H A Post2 (k + r2.cells) (n + r2.slots) (pc + 3) lv rest) : wx E H k n pc lv st :=
  fr_of F fun hfr => x_callIN F hC hl hs hi hc hyn hy hR hd hn hst hcat (fun _ h => h) hfr hpre kk
theorem y_newM (F : fx L rm G A H0 n0 cc own E) (hcl : Cond.classLink own idx "GliderDay$Member" ∈ WALL) (hk : k + 1 ≤ rm.cells) (hn : n + 8 ≤ rm.slots) (hd : decode cc pc = .ok (.new idx, 3)) (kk : ∀ H1 : Heap, vt G H.size (.inr (3, [.int 0, .int 0, .int 0, .int 0, .int 0, .int 0, .int 0, .int 0])) H1 → hnew H H1 → wx E H1 (k + 1) (n + 8) (pc + 3) lv (.ref H.size :: st)) : wx E H k n pc lv st :=
  x_new (C := "GliderDay$Member") (T := TX2) (N := 8) F rfl inX2 tyX2 tyX2_ok hcl mw_555 mw_37 (fun j hj => match j, hj with | 0, _ => rfl | 1, _ => rfl | 2, _ => rfl | 3, _ => rfl | 4, _ => rfl | 5, _ => rfl | 6, _ => rfl | 7, _ => rfl | j + 8, hj => absurd hj (by omega)) hk hn hd kk
theorem y_newG (F : fx L rm G A H0 n0 cc own E) (hcl : Cond.classLink own idx "GliderDay$Glider" ∈ WALL) (hk : k + 1 ≤ rm.cells) (hn : n + 10 ≤ rm.slots) (hd : decode cc pc = .ok (.new idx, 3)) (kk : ∀ H1 : Heap, vt G H.size (.inr (2, [.int 0, .int 0, .int 0, .int 0, .int 0, .int 0, .int 0, .int 0, .int 0, .null])) H1 → hnew H H1 → wx E H1 (k + 1) (n + 10) (pc + 3) lv (.ref H.size :: st)) : wx E H k n pc lv st :=
  x_new (C := "GliderDay$Glider") (T := TX1) (N := 10) F rfl inX1 tyX1 tyX1_ok hcl mw_593 mw_42 (fun j hj => match j, hj with | 0, _ => rfl | 1, _ => rfl | 2, _ => rfl | 3, _ => rfl | 4, _ => rfl | 5, _ => rfl | 6, _ => rfl | 7, _ => rfl | 8, _ => rfl | 9, _ => rfl | j + 10, hj => absurd hj (by omega)) hk hn hd kk
theorem y_newF (F : fx L rm G A H0 n0 cc own E) (hcl : Cond.classLink own idx "GliderDay$Flight" ∈ WALL) (hk : k + 1 ≤ rm.cells) (hn : n + 11 ≤ rm.slots) (hd : decode cc pc = .ok (.new idx, 3)) (kk : ∀ H1 : Heap, vt G H.size (.inr (1, [.int 0, .null, .null, .null, .int 0, .int 0, .int 0, .int 0, .int 0, .int 0, .int 0])) H1 → hnew H H1 → wx E H1 (k + 1) (n + 11) (pc + 3) lv (.ref H.size :: st)) : wx E H k n pc lv st :=
  x_new (C := "GliderDay$Flight") (T := TX0) (N := 11) F rfl inX0 tyX0 tyX0_ok hcl mw_296 mw_46 (fun j hj => match j, hj with | 0, _ => rfl | 1, _ => rfl | 2, _ => rfl | 3, _ => rfl | 4, _ => rfl | 5, _ => rfl | 6, _ => rfl | 7, _ => rfl | 8, _ => rfl | 9, _ => rfl | 10, _ => rfl | j + 11, hj => absurd hj (by omega)) hk hn hd kk
end
def adn (c : CS) (t i a : Nat) : Nat → Nat → Nat := fun t2 i2 => if t2 = t ∧ i2 = i then a else ad c t2 i2
theorem adn_t {c : CS} {t i a t2 : Nat} (h : t2 ≠ t) : adn c t i a t2 = ad c t2 := by
  funext i2
  exact if_neg (fun q => h q.1)
theorem adn_i {c : CS} {t i a i2 : Nat} (h : i2 ≠ i) : adn c t i a t i2 = ad c t i2 := if_neg (fun q => h q.2)
theorem adn_s {c : CS} {t i a : Nat} : adn c t i a t i = a := if_pos ⟨rfl, rfl⟩
/-- a new member, a new glider, a new flight -/
def e_mem (c : CS) (v : Int32) (a : Nat) : CS := (c.1, fun i j => if i = nm c then (if j = 1 then v else 0) else cM c i j, cG c, cF c, cgF c, cR c, (nm c + 1, ng c, nf c, ow c), (lst c, wtg c), adn c 3 (nm c) a)
def e_gli (c : CS) (s1 r1 m1 : Int32) (a : Nat) : CS := (c.1, cM c, fun i j => if i = ng c then (if j = 1 then s1 else if j = 2 then r1 else if j = 3 then m1 else 0) else cG c i j, cF c, fun i => if i = ng c then none else cgF c i, cR c, (nm c, ng c + 1, nf c, ow c), (lst c, wtg c), adn c 4 (ng c) a)
def e_fli (c : CS) (m1 : Nat) (s1 : Option Nat) (g1 : Nat) (h1 n1 : Int32) (a : Nat) : CS := (c.1, cM c, cG c, fun i j => if i = nf c then (if j = 4 then h1 else if j = 5 then n1 else if j = 7 then cD c 9 else if j = 8 then -1 else if j = 9 then -1 else 0) else cF c i j, cgF c, fun i => if i = nf c then (m1, s1, g1) else cR c i, (nm c, ng c, nf c + 1, ow c), (lst c, wtg c), adn c 5 (nf c) a)
theorem rng_app (f g : Nat → Nat) (n a : Nat) (h : ∀ i, i < n → f i = g i) (ha : f n = a) : (List.range (n + 1)).map f = (List.range n).map g ++ [a] := by
  rw [List.range_succ, List.map_append, List.map_congr_left (fun i hi => h i (List.mem_range.mp hi))]
  show _ ++ [f n] = _
  rw [ha]
theorem opt_map {o : Option Nat} {f g : Nat → Nat} (h : ∀ s, o = some s → f s = g s) : o.map f = o.map g := by
  cases o with
  | none => rfl
  | some s => exact congrArg some (h s rfl)
theorem lt_of_nI {a b : Nat} (h : nI a < nI b) (ha : a < 2 ^ 31) (hb : b < 2 ^ 31) : a < b := Nat.lt_of_not_le (fun q => Int32.not_le.mpr h (nI_le q ha))
section
variable {c : CS}
theorem e_mem_fli (hw : Wf c) {v : Int32} {a i : Nat} (hi : i < nf c) : fliV (e_mem c v a) i = fliV c i := by
  have h1 : adn c 3 (nm c) a 3 (cR c i).1 = ad c 3 (cR c i).1 := adn_i (Nat.ne_of_lt (hw.2.1 i hi).1)
  have h2 : (cR c i).2.1.map (adn c 3 (nm c) a 3) = (cR c i).2.1.map (ad c 3) := opt_map (fun s hs => adn_i (Nat.ne_of_lt ((hw.2.1 i hi).2.2 s hs)))
  have h3 : adn c 3 (nm c) a 4 = ad c 4 := adn_t (by decide)
  unfold fliV
  show [_, .ref (adn c 3 (nm c) a 3 (cR c i).1), va_rf ((cR c i).2.1.map (adn c 3 (nm c) a 3)), .ref (adn c 3 (nm c) a 4 (cR c i).2.2), _, _, _, _, _, _, _] = _
  rw [h1, h2, h3]
  rfl
theorem e_mem_gli {v : Int32} {a i : Nat} : gliV (e_mem c v a) i = gliV c i := by
  have h3 : adn c 3 (nm c) a 5 = ad c 5 := adn_t (by decide)
  unfold gliV
  show [_, _, _, _, _, _, _, _, _, va_rf ((cgF c i).map (adn c 3 (nm c) a 5))] = _
  rw [h3]
  rfl
theorem e_mem_mem {v : Int32} {a i : Nat} (hi : i < nm c) : memV (e_mem c v a) i = memV c i := by
  have h : ∀ j, cM (e_mem c v a) i j = cM c i j := fun j => if_neg (Nat.ne_of_lt hi)
  unfold memV
  simp only [h]
theorem e_mem_new {v : Int32} {a : Nat} : memV (e_mem c v a) (nm c) = [.int (nI (nm c)), .int v, .int 0, .int 0, .int 0, .int 0, .int 0, .int 0] := by
  have h : ∀ j, cM (e_mem c v a) (nm c) j = if j = 1 then v else 0 := fun j => if_pos rfl
  unfold memV
  simp only [h]
  rfl
theorem e_mem_wf (hw : Wf c) (hn : nm c < 16) {v : Int32} {a : Nat} : Wf (e_mem c v a) :=
  ⟨⟨hn, hw.1.2⟩, fun f hf => ⟨Nat.lt_succ_of_lt (hw.2.1 f hf).1, (hw.2.1 f hf).2.1, fun s hs => Nat.lt_succ_of_lt ((hw.2.1 f hf).2.2 s hs)⟩, hw.2.2⟩
theorem e_gli_gli {s1 r1 m1 : Int32} {a i : Nat} (hi : i < ng c) : gliV (e_gli c s1 r1 m1 a) i = gliV c i := by
  have h : ∀ j, cG (e_gli c s1 r1 m1 a) i j = cG c i j := fun j => if_neg (Nat.ne_of_lt hi)
  have h2 : cgF (e_gli c s1 r1 m1 a) i = cgF c i := if_neg (Nat.ne_of_lt hi)
  have h3 : ad (e_gli c s1 r1 m1 a) 5 = ad c 5 := (adn_t (by decide) : adn c 4 (ng c) a 5 = ad c 5)
  unfold gliV
  simp only [h, h2, h3]
theorem e_gli_new {s1 r1 m1 : Int32} {a : Nat} : gliV (e_gli c s1 r1 m1 a) (ng c) = [.int (nI (ng c)), .int s1, .int r1, .int m1, .int 0, .int 0, .int 0, .int 0, .int 0, .null] := by
  have h : ∀ j, cG (e_gli c s1 r1 m1 a) (ng c) j = if j = 1 then s1 else if j = 2 then r1 else if j = 3 then m1 else 0 := fun j => if_pos rfl
  have h2 : cgF (e_gli c s1 r1 m1 a) (ng c) = none := if_pos rfl
  unfold gliV
  simp only [h, h2]
  rfl
theorem e_gli_fli (hw : Wf c) {s1 r1 m1 : Int32} {a i : Nat} (hi : i < nf c) : fliV (e_gli c s1 r1 m1 a) i = fliV c i := by
  have h1 : adn c 4 (ng c) a 4 (cR c i).2.2 = ad c 4 (cR c i).2.2 := adn_i (Nat.ne_of_lt (hw.2.1 i hi).2.1)
  have h3 : adn c 4 (ng c) a 3 = ad c 3 := adn_t (by decide)
  unfold fliV
  show [_, .ref (adn c 4 (ng c) a 3 (cR c i).1), va_rf ((cR c i).2.1.map (adn c 4 (ng c) a 3)), .ref (adn c 4 (ng c) a 4 (cR c i).2.2), _, _, _, _, _, _, _] = _
  rw [h1, h3]
  rfl
theorem e_gli_wf (hw : Wf c) (hn : ng c < 8) {s1 r1 m1 : Int32} {a : Nat} : Wf (e_gli c s1 r1 m1 a) :=
  ⟨⟨hw.1.1, hn, hw.1.2.2⟩, fun f hf => ⟨(hw.2.1 f hf).1, Nat.lt_succ_of_lt (hw.2.1 f hf).2.1, (hw.2.1 f hf).2.2⟩, fun g hg f hf => by
    have hf2 : (if g = ng c then none else cgF c g) = some f := hf
    by_cases e : g = ng c
    · rw [if_pos e] at hf2; cases hf2
    · rw [if_neg e] at hf2; exact hw.2.2.1 g (Nat.lt_of_le_of_ne (Nat.le_of_lt_succ hg) e) f hf2, hw.2.2.2.1, fun g hg => Nat.lt_succ_of_lt (hw.2.2.2.2.1 g hg), hw.2.2.2.2.2⟩
theorem e_fli_fli {m1 g1 : Nat} {s1 : Option Nat} {h1 n1 : Int32} {a i : Nat} (hi : i < nf c) : fliV (e_fli c m1 s1 g1 h1 n1 a) i = fliV c i := by
  have h : ∀ j, cF (e_fli c m1 s1 g1 h1 n1 a) i j = cF c i j := fun j => if_neg (Nat.ne_of_lt hi)
  have h2 : cR (e_fli c m1 s1 g1 h1 n1 a) i = cR c i := if_neg (Nat.ne_of_lt hi)
  have h3 : ad (e_fli c m1 s1 g1 h1 n1 a) 3 = ad c 3 := (adn_t (by decide) : adn c 5 (nf c) a 3 = ad c 3)
  have h4 : ad (e_fli c m1 s1 g1 h1 n1 a) 4 = ad c 4 := (adn_t (by decide) : adn c 5 (nf c) a 4 = ad c 4)
  unfold fliV
  simp only [h, h2, h3, h4]
theorem e_fli_new {m1 g1 : Nat} {s1 : Option Nat} {h1 n1 : Int32} {a : Nat} : fliV (e_fli c m1 s1 g1 h1 n1 a) (nf c) = [.int (nI (nf c)), .ref (ad c 3 m1), va_rf (s1.map (ad c 3)), .ref (ad c 4 g1), .int h1, .int n1, .int 0, .int (cD c 9), .int (-1), .int (-1), .int 0] := by
  have h : ∀ j, cF (e_fli c m1 s1 g1 h1 n1 a) (nf c) j = if j = 4 then h1 else if j = 5 then n1 else if j = 7 then cD c 9 else if j = 8 then -1 else if j = 9 then -1 else 0 := fun j => if_pos rfl
  have h2 : cR (e_fli c m1 s1 g1 h1 n1 a) (nf c) = (m1, s1, g1) := if_pos rfl
  have h3 : ad (e_fli c m1 s1 g1 h1 n1 a) 3 = ad c 3 := (adn_t (by decide) : adn c 5 (nf c) a 3 = ad c 3)
  have h4 : ad (e_fli c m1 s1 g1 h1 n1 a) 4 = ad c 4 := (adn_t (by decide) : adn c 5 (nf c) a 4 = ad c 4)
  unfold fliV
  simp only [h, h2, h3, h4]
  rfl
theorem e_fli_gli (hw : Wf c) {m1 g1 : Nat} {s1 : Option Nat} {h1 n1 : Int32} {a i : Nat} (hi : i < ng c) : gliV (e_fli c m1 s1 g1 h1 n1 a) i = gliV c i := by
  have h3 : (cgF c i).map (adn c 5 (nf c) a 5) = (cgF c i).map (ad c 5) := opt_map (fun s hs => adn_i (Nat.ne_of_lt (hw.2.2.1 i hi s hs)))
  unfold gliV
  show [_, _, _, _, _, _, _, _, _, va_rf ((cgF c i).map (adn c 5 (nf c) a 5))] = _
  rw [h3]
  rfl
theorem e_fli_wf (hw : Wf c) (hn : nf c < 100) {m1 g1 : Nat} {s1 : Option Nat} (hm : m1 < nm c) (hg : g1 < ng c) (hs : ∀ s, s1 = some s → s < nm c) {h1 n1 : Int32} {a : Nat} : Wf (e_fli c m1 s1 g1 h1 n1 a) :=
  ⟨⟨hw.1.1, hw.1.2.1, hn⟩, fun f hf => by
    show ((if f = nf c then (m1, s1, g1) else cR c f).1 < nm c ∧ (if f = nf c then (m1, s1, g1) else cR c f).2.2 < ng c ∧ ∀ s, (if f = nf c then (m1, s1, g1) else cR c f).2.1 = some s → s < nm c)
    by_cases e : f = nf c
    · rw [if_pos e]; exact ⟨hm, hg, hs⟩
    · rw [if_neg e]; exact hw.2.1 f (Nat.lt_of_le_of_ne (Nat.le_of_lt_succ hf) e), fun g hg f hf => Nat.lt_succ_of_lt (hw.2.2.1 g hg f hf), ⟨fun f hf => Nat.lt_succ_of_lt (hw.2.2.2.1.1 f hf), hw.2.2.2.1.2⟩, hw.2.2.2.2⟩
theorem els_e_fli (hw : Wf c) {m1 g1 : Nat} {s1 : Option Nat} {h1 n1 : Int32} {a : Nat} : els (e_fli c m1 s1 g1 h1 n1 a) 3 = els c 3 :=
  List.map_congr_left (fun f hf => adn_i (Nat.ne_of_lt (hw.2.2.2.1.1 f hf)))
theorem els_e_gli (hw : Wf c) {s1 r1 m1 : Int32} {a : Nat} : els (e_gli c s1 r1 m1 a) 4 = els c 4 :=
  List.map_congr_left (fun f hf => adn_i (Nat.ne_of_lt (hw.2.2.2.2.1 f hf)))
end
def o_addMember (c : CS) (v : Int32) (a : Nat) : Nat × Int32 × CS := if 0 ≤ v ∧ v ≤ 3 then (if 16 ≤ nI (nm c) then (2, 0, c) else (0, nI (nm c), e_mem c v a)) else (1, 0, c)
def o_addGlider (c : CS) (s1 r1 m1 : Int32) (a : Nat) : Nat × Int32 × CS := if (1 ≤ s1 ∧ s1 ≤ 2) ∧ (1 ≤ r1 ∧ r1 ≤ 50) ∧ (5 ≤ m1 ∧ m1 ≤ 40) then (if 8 ≤ nI (ng c) then (2, 0, c) else (0, nI (ng c), e_gli c s1 r1 m1 a)) else (1, 0, c)
def o_ask (c : CS) (x s2 g h n : Int32) (a : Nat) : Nat × Int32 × CS :=
  if 0 ≤ x ∧ x < nI (nm c) then (if s2 = -1 ∨ (0 ≤ s2 ∧ s2 < nI (nm c)) then (if 0 ≤ g ∧ g < nI (ng c) then (if x = s2 ∨ ¬ (h = 0 ∨ (200 ≤ h ∧ h ≤ 1500)) ∨ ¬ (2 ≤ n ∧ n ≤ 300) then (1, 0, c)
    else if 30 ≤ nI (lst c).length ∨ 100 ≤ nI (nf c) then (2, 0, c) else (0, nI (nf c), sL (e_fli c (tN x) (if s2 = -1 then none else some (tN s2)) (tN g) h n a) (lst c ++ [nf c]))) else (3, 0, c)) else (3, 0, c)) else (3, 0, c)
theorem k_X3_148 : cwS_ "GliderDay" 148 yX3_isHeight cX3_isHeight 1 (some .boolean) 1 := ⟨mw_290, mw_291, mw_28, mw_292, ⟨by decide +kernel, by decide +kernel, by decide +kernel⟩⟩
set_option maxHeartbeats 4000000 in
set_option maxRecDepth 100000 in
theorem c_newM (l : Launch) (G : GT) (A : Nat → Prop) (q : Nat) (i v : Int32) : Ct l yX2_init cX2_init 3 none ({ frames := 1, cells := 0, slots := 0, locals := 14 } : Room) G A [.ref q, .int i, .int v] (fun H => vt G q (.inr (3, [.int 0, .int 0, .int 0, .int 0, .int 0, .int 0, .int 0, .int 0])) H ∧ A q) (fun H r H1 => r = none ∧ vt G q (.inr (3, [.int i, .int v, .int 0, .int 0, .int 0, .int 0, .int 0, .int 0])) H1 ∧ hset H q H1) := by
  refine ct_of (own := "GliderDay$Member") (by decide +kernel) rfl (Nat.le_of_ble_eq_true rfl) (fun E H0 F hE hp => ?_)
  obtain ⟨hv, hA⟩ := hp
  show wx E H0 0 0 0 [(0, .ref q), (1, .int i), (2, .int v)] []
  refine x_aload_n F dX2_init_0 0 rfl rfl ?_
  refine x_objInit F mw_559 mw_53 mw_54 dX2_init_1 (Nat.le_of_ble_eq_true rfl) (Nat.le_of_ble_eq_true rfl) ?_
  refine x_aload_n F dX2_init_4 0 rfl rfl ?_
  refine x_iload_n F dX2_init_5 1 rfl rfl ?_
  refine x_putF (C := "GliderDay$Member") (T := TX2) (N := 8) F hE rfl hv hA rfl (j := 0) (by decide) inX2 tyX2 tyX2_ok nmX2 mw_560 (Or.inl rfl) rfl rfl rfl rfl rfl (Nat.le_of_ble_eq_true rfl) dX2_init_6 (fun H1 hv1 hs1 => ?_)
  refine x_aload_n F dX2_init_9 0 rfl rfl ?_
  refine x_iload_n F dX2_init_10 2 rfl rfl ?_
  refine x_put (C := "GliderDay$Member") (T := TX2) (N := 8) F hv1 hA rfl (j := 1) (by decide) inX2 tyX2 tyX2_ok nmX2 mw_562 (Or.inl rfl) rfl rfl rfl rfl (Nat.le_of_ble_eq_true rfl) dX2_init_11 (fun H2 hv2 hs2 => ?_)
  exact x_vret F hE dX2_init_14 (Nat.le_of_ble_eq_true rfl) (Nat.le_of_ble_eq_true rfl) (⟨rfl, hv2, hs2.1.trans hs1.1, fun q h => (hs2.2 q h).trans (hs1.2 q h)⟩)
set_option maxHeartbeats 4000000 in
set_option maxRecDepth 100000 in
theorem c_newG (l : Launch) (G : GT) (A : Nat → Prop) (q : Nat) (i s1 r1 m1 : Int32) : Ct l yX1_init cX1_init 5 none ({ frames := 1, cells := 0, slots := 0, locals := 14 } : Room) G A [.ref q, .int i, .int s1, .int r1, .int m1] (fun H => vt G q (.inr (2, [.int 0, .int 0, .int 0, .int 0, .int 0, .int 0, .int 0, .int 0, .int 0, .null])) H ∧ A q) (fun H r H1 => r = none ∧ vt G q (.inr (2, [.int i, .int s1, .int r1, .int m1, .int 0, .int 0, .int 0, .int 0, .int 0, .null])) H1 ∧ hset H q H1) := by
  refine ct_of (own := "GliderDay$Glider") (by decide +kernel) rfl (Nat.le_of_ble_eq_true rfl) (fun E H0 F hE hp => ?_)
  obtain ⟨hv, hA⟩ := hp
  show wx E H0 0 0 0 [(0, .ref q), (1, .int i), (2, .int s1), (3, .int r1), (4, .int m1)] []
  refine x_aload_n F dX1_init_0 0 rfl rfl ?_
  refine x_objInit F mw_597 mw_53 mw_54 dX1_init_1 (Nat.le_of_ble_eq_true rfl) (Nat.le_of_ble_eq_true rfl) ?_
  refine x_aload_n F dX1_init_4 0 rfl rfl ?_
  refine x_iload_n F dX1_init_5 1 rfl rfl ?_
  refine x_putF (C := "GliderDay$Glider") (T := TX1) (N := 10) F hE rfl hv hA rfl (j := 0) (by decide) inX1 tyX1 tyX1_ok nmX1 mw_598 (Or.inl rfl) rfl rfl rfl rfl rfl (Nat.le_of_ble_eq_true rfl) dX1_init_6 (fun H1 hv1 hs1 => ?_)
  refine x_aload_n F dX1_init_9 0 rfl rfl ?_
  refine x_iload_n F dX1_init_10 2 rfl rfl ?_
  refine x_putF (C := "GliderDay$Glider") (T := TX1) (N := 10) F hE rfl hv1 hA rfl (j := 1) (by decide) inX1 tyX1 tyX1_ok nmX1 mw_600 (Or.inl rfl) rfl rfl rfl rfl rfl (Nat.le_of_ble_eq_true rfl) dX1_init_11 (fun H2 hv2 hs2 => ?_)
  refine x_aload_n F dX1_init_14 0 rfl rfl ?_
  refine x_iload_n F dX1_init_15 3 rfl rfl ?_
  refine x_putF (C := "GliderDay$Glider") (T := TX1) (N := 10) F hE rfl hv2 hA rfl (j := 2) (by decide) inX1 tyX1 tyX1_ok nmX1 mw_602 (Or.inl rfl) rfl rfl rfl rfl rfl (Nat.le_of_ble_eq_true rfl) dX1_init_16 (fun H3 hv3 hs3 => ?_)
  refine x_aload_n F dX1_init_19 0 rfl rfl ?_
  refine x_iload F dX1_init_20 4 rfl ?_
  refine x_putF (C := "GliderDay$Glider") (T := TX1) (N := 10) F hE rfl hv3 hA rfl (j := 3) (by decide) inX1 tyX1 tyX1_ok nmX1 mw_604 (Or.inl rfl) rfl rfl rfl rfl rfl (Nat.le_of_ble_eq_true rfl) dX1_init_22 (fun H4 hv4 hs4 => ?_)
  refine x_aload_n F dX1_init_25 0 rfl rfl ?_
  refine x_iconst (v := 0) F rfl dX1_init_26 ?_
  refine x_put (C := "GliderDay$Glider") (T := TX1) (N := 10) F hv4 hA rfl (j := 4) (by decide) inX1 tyX1 tyX1_ok nmX1 mw_606 (Or.inl rfl) rfl rfl rfl rfl (Nat.le_of_ble_eq_true rfl) dX1_init_27 (fun H5 hv5 hs5 => ?_)
  exact x_vret F hE dX1_init_30 (Nat.le_of_ble_eq_true rfl) (Nat.le_of_ble_eq_true rfl) (⟨rfl, hv5, (hs5.1.trans (hs4.1.trans (hs3.1.trans (hs2.1.trans hs1.1)))), fun q h => ((hs5.2 q h).trans ((hs4.2 q h).trans ((hs3.2 q h).trans ((hs2.2 q h).trans (hs1.2 q h)))))⟩)
set_option maxHeartbeats 4000000 in
set_option maxRecDepth 100000 in
theorem c_newF0 (l : Launch) (G : GT) (A : Nat → Prop) (q : Nat) (i : Int32) (m1 g1 : Nat) : Ct l yX0_init cX0_init 5 none ({ frames := 1, cells := 0, slots := 0, locals := 14 } : Room) G A [.ref q, .int i, .ref m1, .null, .ref g1] (fun H => vt G q (.inr (1, [.int 0, .null, .null, .null, .int 0, .int 0, .int 0, .int 0, .int 0, .int 0, .int 0])) H ∧ A q) (fun H r H1 => r = none ∧ vt G q (.inr (1, [.int i, .ref m1, .null, .ref g1, .int 0, .int 0, .int 0, .int 0, .int (-1), .int (-1), .int 0])) H1 ∧ hset H q H1) := by
  refine ct_of (own := "GliderDay$Flight") (by decide +kernel) rfl (Nat.le_of_ble_eq_true rfl) (fun E H0 F hE hp => ?_)
  obtain ⟨hv, hA⟩ := hp
  show wx E H0 0 0 0 [(0, .ref q), (1, .int i), (2, .ref m1), (3, .null), (4, .ref g1)] []
  refine x_aload_n F dX0_init_0 0 rfl rfl ?_
  refine x_objInit F mw_300 mw_53 mw_54 dX0_init_1 (Nat.le_of_ble_eq_true rfl) (Nat.le_of_ble_eq_true rfl) ?_
  refine x_aload_n F dX0_init_4 0 rfl rfl ?_
  refine x_iload_n F dX0_init_5 1 rfl rfl ?_
  refine x_putF (C := "GliderDay$Flight") (T := TX0) (N := 11) F hE rfl hv hA rfl (j := 0) (by decide) inX0 tyX0 tyX0_ok nmX0 mw_301 (Or.inl rfl) rfl rfl rfl rfl rfl (Nat.le_of_ble_eq_true rfl) dX0_init_6 (fun H1 hv1 hs1 => ?_)
  refine x_aload_n F dX0_init_9 0 rfl rfl ?_
  refine x_aload_n F dX0_init_10 2 rfl rfl ?_
  refine x_putF (C := "GliderDay$Flight") (T := TX0) (N := 11) F hE rfl hv1 hA rfl (j := 1) (by decide) inX0 tyX0 tyX0_ok nmX0 mw_303 (Or.inl rfl) rfl rfl rfl rfl rfl (Nat.le_of_ble_eq_true rfl) dX0_init_11 (fun H2 hv2 hs2 => ?_)
  refine x_aload_n F dX0_init_14 0 rfl rfl ?_
  refine x_aload_nN F dX0_init_15 3 rfl rfl ?_
  refine x_putF (C := "GliderDay$Flight") (T := TX0) (N := 11) F hE rfl hv2 hA rfl (j := 2) (by decide) inX0 tyX0 tyX0_ok nmX0 mw_305 (Or.inl rfl) rfl rfl rfl rfl rfl (Nat.le_of_ble_eq_true rfl) dX0_init_16 (fun H3 hv3 hs3 => ?_)
  refine x_aload_n F dX0_init_19 0 rfl rfl ?_
  refine x_aload F dX0_init_20 4 rfl ?_
  refine x_putF (C := "GliderDay$Flight") (T := TX0) (N := 11) F hE rfl hv3 hA rfl (j := 3) (by decide) inX0 tyX0 tyX0_ok nmX0 mw_307 (Or.inl rfl) rfl rfl rfl rfl rfl (Nat.le_of_ble_eq_true rfl) dX0_init_22 (fun H4 hv4 hs4 => ?_)
  refine x_aload_n F dX0_init_25 0 rfl rfl ?_
  refine x_iconst (v := 0) F rfl dX0_init_26 ?_
  refine x_put (C := "GliderDay$Flight") (T := TX0) (N := 11) F hv4 hA rfl (j := 6) (by decide) inX0 tyX0 tyX0_ok nmX0 mw_311 (Or.inl rfl) rfl rfl rfl rfl (Nat.le_of_ble_eq_true rfl) dX0_init_27 (fun H5 hv5 hs5 => ?_)
  refine x_aload_n F dX0_init_30 0 rfl rfl ?_
  refine x_iconst (v := (-1)) F rfl dX0_init_31 ?_
  refine x_put (C := "GliderDay$Flight") (T := TX0) (N := 11) F hv5 hA rfl (j := 8) (by decide) inX0 tyX0 tyX0_ok nmX0 mw_314 (Or.inl rfl) rfl rfl rfl rfl (Nat.le_of_ble_eq_true rfl) dX0_init_32 (fun H6 hv6 hs6 => ?_)
  refine x_aload_n F dX0_init_35 0 rfl rfl ?_
  refine x_iconst (v := (-1)) F rfl dX0_init_36 ?_
  refine x_put (C := "GliderDay$Flight") (T := TX0) (N := 11) F hv6 hA rfl (j := 9) (by decide) inX0 tyX0 tyX0_ok nmX0 mw_316 (Or.inl rfl) rfl rfl rfl rfl (Nat.le_of_ble_eq_true rfl) dX0_init_37 (fun H7 hv7 hs7 => ?_)
  exact x_vret F hE dX0_init_40 (Nat.le_of_ble_eq_true rfl) (Nat.le_of_ble_eq_true rfl) (⟨rfl, hv7, (hs7.1.trans (hs6.1.trans (hs5.1.trans (hs4.1.trans (hs3.1.trans (hs2.1.trans hs1.1)))))), fun q h => ((hs7.2 q h).trans ((hs6.2 q h).trans ((hs5.2 q h).trans ((hs4.2 q h).trans ((hs3.2 q h).trans ((hs2.2 q h).trans (hs1.2 q h)))))))⟩)
set_option maxHeartbeats 4000000 in
set_option maxRecDepth 100000 in
theorem c_newF1 (l : Launch) (G : GT) (A : Nat → Prop) (q : Nat) (i : Int32) (m1 s1 g1 : Nat) : Ct l yX0_init cX0_init 5 none ({ frames := 1, cells := 0, slots := 0, locals := 14 } : Room) G A [.ref q, .int i, .ref m1, .ref s1, .ref g1] (fun H => vt G q (.inr (1, [.int 0, .null, .null, .null, .int 0, .int 0, .int 0, .int 0, .int 0, .int 0, .int 0])) H ∧ A q) (fun H r H1 => r = none ∧ vt G q (.inr (1, [.int i, .ref m1, .ref s1, .ref g1, .int 0, .int 0, .int 0, .int 0, .int (-1), .int (-1), .int 0])) H1 ∧ hset H q H1) := by
  refine ct_of (own := "GliderDay$Flight") (by decide +kernel) rfl (Nat.le_of_ble_eq_true rfl) (fun E H0 F hE hp => ?_)
  obtain ⟨hv, hA⟩ := hp
  show wx E H0 0 0 0 [(0, .ref q), (1, .int i), (2, .ref m1), (3, .ref s1), (4, .ref g1)] []
  refine x_aload_n F dX0_init_0 0 rfl rfl ?_
  refine x_objInit F mw_300 mw_53 mw_54 dX0_init_1 (Nat.le_of_ble_eq_true rfl) (Nat.le_of_ble_eq_true rfl) ?_
  refine x_aload_n F dX0_init_4 0 rfl rfl ?_
  refine x_iload_n F dX0_init_5 1 rfl rfl ?_
  refine x_putF (C := "GliderDay$Flight") (T := TX0) (N := 11) F hE rfl hv hA rfl (j := 0) (by decide) inX0 tyX0 tyX0_ok nmX0 mw_301 (Or.inl rfl) rfl rfl rfl rfl rfl (Nat.le_of_ble_eq_true rfl) dX0_init_6 (fun H1 hv1 hs1 => ?_)
  refine x_aload_n F dX0_init_9 0 rfl rfl ?_
  refine x_aload_n F dX0_init_10 2 rfl rfl ?_
  refine x_putF (C := "GliderDay$Flight") (T := TX0) (N := 11) F hE rfl hv1 hA rfl (j := 1) (by decide) inX0 tyX0 tyX0_ok nmX0 mw_303 (Or.inl rfl) rfl rfl rfl rfl rfl (Nat.le_of_ble_eq_true rfl) dX0_init_11 (fun H2 hv2 hs2 => ?_)
  refine x_aload_n F dX0_init_14 0 rfl rfl ?_
  refine x_aload_n F dX0_init_15 3 rfl rfl ?_
  refine x_putF (C := "GliderDay$Flight") (T := TX0) (N := 11) F hE rfl hv2 hA rfl (j := 2) (by decide) inX0 tyX0 tyX0_ok nmX0 mw_305 (Or.inl rfl) rfl rfl rfl rfl rfl (Nat.le_of_ble_eq_true rfl) dX0_init_16 (fun H3 hv3 hs3 => ?_)
  refine x_aload_n F dX0_init_19 0 rfl rfl ?_
  refine x_aload F dX0_init_20 4 rfl ?_
  refine x_putF (C := "GliderDay$Flight") (T := TX0) (N := 11) F hE rfl hv3 hA rfl (j := 3) (by decide) inX0 tyX0 tyX0_ok nmX0 mw_307 (Or.inl rfl) rfl rfl rfl rfl rfl (Nat.le_of_ble_eq_true rfl) dX0_init_22 (fun H4 hv4 hs4 => ?_)
  refine x_aload_n F dX0_init_25 0 rfl rfl ?_
  refine x_iconst (v := 0) F rfl dX0_init_26 ?_
  refine x_put (C := "GliderDay$Flight") (T := TX0) (N := 11) F hv4 hA rfl (j := 6) (by decide) inX0 tyX0 tyX0_ok nmX0 mw_311 (Or.inl rfl) rfl rfl rfl rfl (Nat.le_of_ble_eq_true rfl) dX0_init_27 (fun H5 hv5 hs5 => ?_)
  refine x_aload_n F dX0_init_30 0 rfl rfl ?_
  refine x_iconst (v := (-1)) F rfl dX0_init_31 ?_
  refine x_put (C := "GliderDay$Flight") (T := TX0) (N := 11) F hv5 hA rfl (j := 8) (by decide) inX0 tyX0 tyX0_ok nmX0 mw_314 (Or.inl rfl) rfl rfl rfl rfl (Nat.le_of_ble_eq_true rfl) dX0_init_32 (fun H6 hv6 hs6 => ?_)
  refine x_aload_n F dX0_init_35 0 rfl rfl ?_
  refine x_iconst (v := (-1)) F rfl dX0_init_36 ?_
  refine x_put (C := "GliderDay$Flight") (T := TX0) (N := 11) F hv6 hA rfl (j := 9) (by decide) inX0 tyX0 tyX0_ok nmX0 mw_316 (Or.inl rfl) rfl rfl rfl rfl (Nat.le_of_ble_eq_true rfl) dX0_init_37 (fun H7 hv7 hs7 => ?_)
  exact x_vret F hE dX0_init_40 (Nat.le_of_ble_eq_true rfl) (Nat.le_of_ble_eq_true rfl) (⟨rfl, hv7, (hs7.1.trans (hs6.1.trans (hs5.1.trans (hs4.1.trans (hs3.1.trans (hs2.1.trans hs1.1)))))), fun q h => ((hs7.2 q h).trans ((hs6.2 q h).trans ((hs5.2 q h).trans ((hs4.2 q h).trans ((hs3.2 q h).trans ((hs2.2 q h).trans (hs1.2 q h)))))))⟩)
set_option maxHeartbeats 4000000 in
set_option maxRecDepth 100000 in
theorem c_X3_addMember (l : Launch) (G : GT) (A : Nat → Prop) (c : CS) (v : Int32) (hL0 : l.stackTraces = false) : Cx l yX3_addMember cX3_addMember 3 (some .int) ({ frames := 7, cells := 2, slots := 308, locals := 171 } : Room) G A [.ref (ad c 0 0), .int v] (fun H => Rep G A c H) (fun H r H1 => ∃ q, (o_addMember c v q).1 = 0 ∧ r = some (.int (o_addMember c v q).2.1) ∧ Rep G A (o_addMember c v q).2.2 H1) (fun H X H1 => X = xN (o_addMember c v 0).1 ∧ (o_addMember c v 0).1 ≠ 0 ∧ Rep G A c H1) := by
  refine cx_of (own := "GliderDay") (by decide +kernel) rfl (Nat.le_of_ble_eq_true rfl) (fun E H0 F hE hX hR => ?_)
  show wx E H0 0 0 0 [(0, .ref (ad c 0 0)), (1, .int v)] []
  refine x_iload_n F dX3_addMember_0 1 rfl rfl ?_
  refine x_iconst (v := 0) F rfl dX3_addMember_1 ?_
  refine x_iconst (v := 3) F rfl dX3_addMember_2 ?_
  refine x_callSp (rest := []) F (c_X3_isWithin l G A v 0 3) k_X3_54 ⟨(Nat.le_of_ble_eq_true rfl), (Nat.le_of_ble_eq_true rfl), rfl, rfl⟩ (Nat.le_of_ble_eq_true rfl) (Nat.le_of_ble_eq_true rfl) dX3_addMember_3 rfl rfl (Nat.le_of_ble_eq_true rfl) trivial ?_
  refine x_if_ne F dX3_addMember_6 (tgt := 19) (by decide) (fun h1 => ?_) (fun h1 => ?_)
  · replace h1 := bI_ne.mp h1
    refine x_aload_n F dX3_addMember_19 0 rfl rfl ?_
    refine y_getD (c := c) (j := 0) (v := .ref (ad c 1 0)) F hR mw_81 rfl (by decide) rfl dX3_addMember_20 ?_
    refine y_lsize (c := c) (k5 := 0) F hR (by decide) k_X3_65 ⟨(Nat.le_of_ble_eq_true rfl), (Nat.le_of_ble_eq_true rfl)⟩ (Nat.le_of_ble_eq_true rfl) (Nat.le_of_ble_eq_true rfl) dX3_addMember_23 (Nat.le_of_ble_eq_true rfl) ?_
    refine wx_i (y := nI (nm c)) (congrArg nI (els_0 _)) ?_
    refine x_bipush (v := 16) F rfl dX3_addMember_26 ?_
    refine x_icmp_lt F dX3_addMember_28 (tgt := 41) (by decide) (fun h2 => ?_) (fun h2 => ?_)
    · have h2' := Int32.not_le.mpr h2
      refine x_aload_n F dX3_addMember_41 0 rfl rfl ?_
      refine y_getD (c := c) (j := 0) (v := .ref (ad c 1 0)) F hR mw_81 rfl (by decide) rfl dX3_addMember_42 ?_
      refine y_lsize (c := c) (k5 := 0) F hR (by decide) k_X3_65 ⟨(Nat.le_of_ble_eq_true rfl), (Nat.le_of_ble_eq_true rfl)⟩ (Nat.le_of_ble_eq_true rfl) (Nat.le_of_ble_eq_true rfl) dX3_addMember_45 (Nat.le_of_ble_eq_true rfl) ?_
      refine wx_i (y := nI (nm c)) (congrArg nI (els_0 _)) ?_
      refine x_istore_n (lv' := [(2, .int (nI (nm c))), (0, .ref (ad c 0 0)), (1, .int v)]) F dX3_addMember_48 rfl (by decide) rfl ?_
      refine x_aload_n F dX3_addMember_49 1 rfl rfl ?_
      refine y_getD (c := c) (j := 0) (v := .ref (ad c 1 0)) F hR mw_81 rfl (by decide) rfl dX3_addMember_50 ?_
      obtain ⟨T, bA, cp, mo, hX1⟩ := id hR
      refine fr_of F fun hfr => ?_
      refine y_newM F mw_268 (Nat.le_of_ble_eq_true rfl) (Nat.le_of_ble_eq_true rfl) dX3_addMember_53 (fun HN hvN hnN => ?_)
      generalize hq : H0.size = q at hvN ⊢
      have hqA : A q := hfr q (Nat.le_of_eq hq)
      have hTq : T q = 0 := hX1.free (Nat.le_of_eq hq)
      have hX0 := hX1
      have hRN : Rep G A c HN := ⟨T, bA, cp, mo, hX1.ext (by rw [hnN.1]; exact Nat.le_succ _) hnN.2⟩
      refine x_dup F dX3_addMember_56 rfl ?_
      refine x_iload_n F dX3_addMember_57 0 rfl rfl ?_
      refine x_iload_n F dX3_addMember_58 2 rfl rfl ?_
      refine x_callINs (nA := 2) (rest := [.ref q, .ref (ad c 1 0)]) F (c_newM l G A q (nI (nm c)) v) nw_76 mw_557 mw_37 mw_558 rfl ⟨by decide +kernel, by decide +kernel, by decide +kernel⟩ ⟨⟨(Nat.le_of_ble_eq_true rfl), (Nat.le_of_ble_eq_true rfl)⟩, (Nat.le_of_ble_eq_true rfl), (Nat.le_of_ble_eq_true rfl)⟩ dX3_addMember_59 rfl rfl (Nat.le_of_ble_eq_true rfl) ⟨hvN, hqA⟩ ?_
      rintro _ HI ⟨rfl, hvI, hsI⟩ - -
      have hzI : H0.size ≤ HI.size := by rw [hsI.1, hnN.1]; exact Nat.le_succ _
      have hfI : ∀ p, p < H0.size → HI[p]? = H0[p]? := fun p hp => (hsI.2 p (by omega)).trans (hnN.2 p hp)
      replace hX1 := hX1.ext hzI hfI
      have hT0 := hTq
      have hwf := hX1.2.2.2.2.2.2.2.1
      have hn16 : nm c < 16 := lt_of_nI (show nI (nm c) < nI 16 from h2) (bnd hwf).1 (by decide)
      refine y_ladd (c := c) (st := []) (c' := e_mem c v q) (te := 100 + 3 * nm c) (e := q) (k5 := 0) F hX1 (by decide) (by rw [els_0]; omega) k_X3_79 ⟨(Nat.le_of_ble_eq_true rfl), (Nat.le_of_ble_eq_true rfl)⟩ (Nat.le_of_ble_eq_true rfl) (Nat.le_of_ble_eq_true rfl) dX3_addMember_62 (Nat.le_of_ble_eq_true rfl) ⟨3, _, by decide, by decide, hvI⟩ ⟨by omega, Or.inr hTq, hqA⟩ (rng_app (adn c 3 (nm c) q 3) (ad c 3) (nm c) q (fun i hi => adn_i (Nat.ne_of_lt hi)) adn_s) ⟨congrFun (adn_t (by decide) : adn c 3 (nm c) q 0 = ad c 0) 0, congrFun (adn_t (by decide) : adn c 3 (nm c) q 2 = ad c 2) 0, fun k => congrFun (adn_t (by decide) : adn c 3 (nm c) q 1 = ad c 1) k⟩ (fun k hk hkk => ?_) ?_ (fun _ => rfl) (fun i hi => ?_) (fun i hi => Or.inl ⟨hi, congrFun (adn_t (by decide) : adn c 3 (nm c) q 4 = ad c 4) i, e_mem_gli⟩) (fun i hi => Or.inl ⟨hi, congrFun (adn_t (by decide) : adn c 3 (nm c) q 5 = ad c 5) i, e_mem_fli hwf hi⟩) (e_mem_wf hwf hn16) (Or.inr rfl) (fun H9 hR9 hz9 => ?_)
      · rcases (show k = 1 ∨ k = 2 ∨ k = 3 ∨ k = 4 by omega) with rfl | rfl | rfl | rfl
        · show List.map (adn c 3 (nm c) q 4) _ = List.map (ad c 4) _; rw [(adn_t (by decide) : adn c 3 (nm c) q 4 = ad c 4)]; rfl
        · show List.map (adn c 3 (nm c) q 5) _ = List.map (ad c 5) _; rw [(adn_t (by decide) : adn c 3 (nm c) q 5 = ad c 5)]; rfl
        · show List.map (adn c 3 (nm c) q 5) _ = List.map (ad c 5) _; rw [(adn_t (by decide) : adn c 3 (nm c) q 5 = ad c 5)]; rfl
        · show List.map (adn c 3 (nm c) q 4) _ = List.map (ad c 4) _; rw [(adn_t (by decide) : adn c 3 (nm c) q 4 = ad c 4)]; rfl
      · unfold dayV; rw [show ad (e_mem c v q) 1 = ad c 1 from (adn_t (by decide) : adn c 3 (nm c) q 1 = ad c 1), show ad (e_mem c v q) 2 = ad c 2 from (adn_t (by decide) : adn c 3 (nm c) q 2 = ad c 2)]; rfl
      · rcases Nat.lt_or_ge i (nm c) with h9 | h9
        · exact Or.inl ⟨h9, adn_i (Nat.ne_of_lt h9), e_mem_mem h9⟩
        · have hi2 : i < nm c + 1 := hi
          obtain rfl : i = nm c := by omega
          exact Or.inr ⟨adn_s, rfl, by rw [e_mem_new]; exact hvI⟩
      refine x_pop F dX3_addMember_65 rfl ?_
      refine x_iload_n F dX3_addMember_66 0 rfl rfl ?_
      have ho : o_addMember c v q = (0, nI (nm c), e_mem c v q) := by simp [o_addMember, h1, h2, h2']
      exact x_iret F hE dX3_addMember_67 (Nat.le_of_ble_eq_true rfl) (Nat.le_of_ble_eq_true rfl) (⟨q, by rw [ho], by rw [ho], by rw [ho]; exact hR9⟩)
    · have h2' := Int32.not_lt.mp h2
      refine x_throw F hX hL0 thr_2 st_71 dX3_addMember_31 dX3_addMember_34 dX3_addMember_35 dX3_addMember_37 dX3_addMember_40 (Nat.le_of_ble_eq_true rfl) (Nat.le_of_ble_eq_true rfl) (Nat.le_of_ble_eq_true rfl) (Nat.le_of_ble_eq_true rfl) (fun H9 hz9 ho9 => ?_)
      have ho : (o_addMember c v 0).1 = 2 := by simp [o_addMember, h1, h2, h2']
      exact ⟨(congrArg xN ho).symm, by rw [ho]; decide, hR.ext hz9 ho9⟩
  · replace h1 := bI_0.mp h1
    refine x_throw F hX hL0 thr_1 st_60 dX3_addMember_9 dX3_addMember_12 dX3_addMember_13 dX3_addMember_15 dX3_addMember_18 (Nat.le_of_ble_eq_true rfl) (Nat.le_of_ble_eq_true rfl) (Nat.le_of_ble_eq_true rfl) (Nat.le_of_ble_eq_true rfl) (fun H9 hz9 ho9 => ?_)
    have ho : (o_addMember c v 0).1 = 1 := by simp [o_addMember, h1]
    exact ⟨(congrArg xN ho).symm, by rw [ho]; decide, hR.ext hz9 ho9⟩
set_option maxHeartbeats 4000000 in
set_option maxRecDepth 100000 in
theorem c_X3_addGlider (l : Launch) (G : GT) (A : Nat → Prop) (c : CS) (s1 r1 m1 : Int32) (hL0 : l.stackTraces = false) : Cx l yX3_addGlider cX3_addGlider 5 (some .int) ({ frames := 7, cells := 2, slots := 310, locals := 171 } : Room) G A [.ref (ad c 0 0), .int s1, .int r1, .int m1] (fun H => Rep G A c H) (fun H r H1 => ∃ q, (o_addGlider c s1 r1 m1 q).1 = 0 ∧ r = some (.int (o_addGlider c s1 r1 m1 q).2.1) ∧ Rep G A (o_addGlider c s1 r1 m1 q).2.2 H1) (fun H X H1 => X = xN (o_addGlider c s1 r1 m1 0).1 ∧ (o_addGlider c s1 r1 m1 0).1 ≠ 0 ∧ Rep G A c H1) := by
  refine cx_of (own := "GliderDay") (by decide +kernel) rfl (Nat.le_of_ble_eq_true rfl) (fun E H0 F hE hX hR => ?_)
  show wx E H0 0 0 0 [(0, .ref (ad c 0 0)), (1, .int s1), (2, .int r1), (3, .int m1)] []
  refine x_iload_n F dX3_addGlider_0 1 rfl rfl ?_
  refine x_iconst (v := 1) F rfl dX3_addGlider_1 ?_
  refine x_iconst (v := 2) F rfl dX3_addGlider_2 ?_
  refine x_callSp (rest := []) F (c_X3_isWithin l G A s1 1 2) k_X3_54 ⟨(Nat.le_of_ble_eq_true rfl), (Nat.le_of_ble_eq_true rfl), rfl, rfl⟩ (Nat.le_of_ble_eq_true rfl) (Nat.le_of_ble_eq_true rfl) dX3_addGlider_3 rfl rfl (Nat.le_of_ble_eq_true rfl) trivial ?_
  refine x_if_eq F dX3_addGlider_6 (tgt := 29) (by decide) (fun h1 => ?_) (fun h1 => ?_)
  · replace h1 := bI_0.mp h1
    refine x_throw F hX hL0 thr_1 st_83 dX3_addGlider_29 dX3_addGlider_32 dX3_addGlider_33 dX3_addGlider_35 dX3_addGlider_38 (Nat.le_of_ble_eq_true rfl) (Nat.le_of_ble_eq_true rfl) (Nat.le_of_ble_eq_true rfl) (Nat.le_of_ble_eq_true rfl) (fun H9 hz9 ho9 => ?_)
    have ho : (o_addGlider c s1 r1 m1 0).1 = 1 := by simp [o_addGlider, h1]
    exact ⟨(congrArg xN ho).symm, by rw [ho]; decide, hR.ext hz9 ho9⟩
  · replace h1 := bI_ne.mp h1
    refine x_iload_n F dX3_addGlider_9 2 rfl rfl ?_
    refine x_iconst (v := 1) F rfl dX3_addGlider_10 ?_
    refine x_bipush (v := 50) F rfl dX3_addGlider_11 ?_
    refine x_callSp (rest := []) F (c_X3_isWithin l G A r1 1 50) k_X3_54 ⟨(Nat.le_of_ble_eq_true rfl), (Nat.le_of_ble_eq_true rfl), rfl, rfl⟩ (Nat.le_of_ble_eq_true rfl) (Nat.le_of_ble_eq_true rfl) dX3_addGlider_13 rfl rfl (Nat.le_of_ble_eq_true rfl) trivial ?_
    refine x_if_eq F dX3_addGlider_16 (tgt := 29) (by decide) (fun h2 => ?_) (fun h2 => ?_)
    · replace h2 := bI_0.mp h2
      refine x_throw F hX hL0 thr_1 st_83 dX3_addGlider_29 dX3_addGlider_32 dX3_addGlider_33 dX3_addGlider_35 dX3_addGlider_38 (Nat.le_of_ble_eq_true rfl) (Nat.le_of_ble_eq_true rfl) (Nat.le_of_ble_eq_true rfl) (Nat.le_of_ble_eq_true rfl) (fun H9 hz9 ho9 => ?_)
      have ho : (o_addGlider c s1 r1 m1 0).1 = 1 := by simp [o_addGlider, h1, h2]
      exact ⟨(congrArg xN ho).symm, by rw [ho]; decide, hR.ext hz9 ho9⟩
    · replace h2 := bI_ne.mp h2
      refine x_iload_n F dX3_addGlider_19 3 rfl rfl ?_
      refine x_iconst (v := 5) F rfl dX3_addGlider_20 ?_
      refine x_bipush (v := 40) F rfl dX3_addGlider_21 ?_
      refine x_callSp (rest := []) F (c_X3_isWithin l G A m1 5 40) k_X3_54 ⟨(Nat.le_of_ble_eq_true rfl), (Nat.le_of_ble_eq_true rfl), rfl, rfl⟩ (Nat.le_of_ble_eq_true rfl) (Nat.le_of_ble_eq_true rfl) dX3_addGlider_23 rfl rfl (Nat.le_of_ble_eq_true rfl) trivial ?_
      refine x_if_ne F dX3_addGlider_26 (tgt := 39) (by decide) (fun h3 => ?_) (fun h3 => ?_)
      · replace h3 := bI_ne.mp h3
        refine x_aload_n F dX3_addGlider_39 0 rfl rfl ?_
        refine y_getD (c := c) (j := 1) (v := .ref (ad c 1 1)) F hR mw_82 rfl (by decide) rfl dX3_addGlider_40 ?_
        refine y_lsize (c := c) (k5 := 1) F hR (by decide) k_X3_65 ⟨(Nat.le_of_ble_eq_true rfl), (Nat.le_of_ble_eq_true rfl)⟩ (Nat.le_of_ble_eq_true rfl) (Nat.le_of_ble_eq_true rfl) dX3_addGlider_43 (Nat.le_of_ble_eq_true rfl) ?_
        refine wx_i (y := nI (ng c)) (congrArg nI (els_1 _)) ?_
        refine x_bipush (v := 8) F rfl dX3_addGlider_46 ?_
        refine x_icmp_lt F dX3_addGlider_48 (tgt := 61) (by decide) (fun h4 => ?_) (fun h4 => ?_)
        · have h4' := Int32.not_le.mpr h4
          refine x_aload_n F dX3_addGlider_61 0 rfl rfl ?_
          refine y_getD (c := c) (j := 1) (v := .ref (ad c 1 1)) F hR mw_82 rfl (by decide) rfl dX3_addGlider_62 ?_
          refine y_lsize (c := c) (k5 := 1) F hR (by decide) k_X3_65 ⟨(Nat.le_of_ble_eq_true rfl), (Nat.le_of_ble_eq_true rfl)⟩ (Nat.le_of_ble_eq_true rfl) (Nat.le_of_ble_eq_true rfl) dX3_addGlider_65 (Nat.le_of_ble_eq_true rfl) ?_
          refine wx_i (y := nI (ng c)) (congrArg nI (els_1 _)) ?_
          refine x_istore (lv' := [(4, .int (nI (ng c))), (0, .ref (ad c 0 0)), (1, .int s1), (2, .int r1), (3, .int m1)]) F dX3_addGlider_68 (by decide) rfl ?_
          refine x_aload_n F dX3_addGlider_70 1 rfl rfl ?_
          refine y_getD (c := c) (j := 1) (v := .ref (ad c 1 1)) F hR mw_82 rfl (by decide) rfl dX3_addGlider_71 ?_
          obtain ⟨T, bA, cp, mo, hX1⟩ := id hR
          refine fr_of F fun hfr => ?_
          refine y_newG F mw_282 (Nat.le_of_ble_eq_true rfl) (Nat.le_of_ble_eq_true rfl) dX3_addGlider_74 (fun HN hvN hnN => ?_)
          generalize hq : H0.size = q at hvN ⊢
          have hqA : A q := hfr q (Nat.le_of_eq hq)
          have hTq : T q = 0 := hX1.free (Nat.le_of_eq hq)
          have hX0 := hX1
          have hRN : Rep G A c HN := ⟨T, bA, cp, mo, hX1.ext (by rw [hnN.1]; exact Nat.le_succ _) hnN.2⟩
          refine x_dup F dX3_addGlider_77 rfl ?_
          refine x_iload F dX3_addGlider_78 0 rfl ?_
          refine x_iload_n F dX3_addGlider_80 2 rfl rfl ?_
          refine x_iload_n F dX3_addGlider_81 3 rfl rfl ?_
          refine x_iload_n F dX3_addGlider_82 4 rfl rfl ?_
          refine x_callINs (nA := 4) (rest := [.ref q, .ref (ad c 1 1)]) F (c_newG l G A q (nI (ng c)) s1 r1 m1) nw_89 mw_595 mw_42 mw_596 rfl ⟨by decide +kernel, by decide +kernel, by decide +kernel⟩ ⟨⟨(Nat.le_of_ble_eq_true rfl), (Nat.le_of_ble_eq_true rfl)⟩, (Nat.le_of_ble_eq_true rfl), (Nat.le_of_ble_eq_true rfl)⟩ dX3_addGlider_83 rfl rfl (Nat.le_of_ble_eq_true rfl) ⟨hvN, hqA⟩ ?_
          rintro _ HI ⟨rfl, hvI, hsI⟩ - -
          have hzI : H0.size ≤ HI.size := by rw [hsI.1, hnN.1]; exact Nat.le_succ _
          have hfI : ∀ p, p < H0.size → HI[p]? = H0[p]? := fun p hp => (hsI.2 p (by omega)).trans (hnN.2 p hp)
          replace hX1 := hX1.ext hzI hfI
          have hT0 := hTq
          have hwf := hX1.2.2.2.2.2.2.2.1
          have hn16 : ng c < 8 := lt_of_nI (show nI (ng c) < nI 8 from h4) (bnd hwf).2.1 (by decide)
          refine y_ladd (c := c) (st := []) (c' := e_gli c s1 r1 m1 q) (te := 101 + 3 * ng c) (e := q) (k5 := 1) F hX1 (by decide) (by rw [els_1]; omega) k_X3_79 ⟨(Nat.le_of_ble_eq_true rfl), (Nat.le_of_ble_eq_true rfl)⟩ (Nat.le_of_ble_eq_true rfl) (Nat.le_of_ble_eq_true rfl) dX3_addGlider_86 (Nat.le_of_ble_eq_true rfl) ⟨2, _, by decide, by decide, hvI⟩ ⟨by omega, Or.inr hTq, hqA⟩ (rng_app (adn c 4 (ng c) q 4) (ad c 4) (ng c) q (fun i hi => adn_i (Nat.ne_of_lt hi)) adn_s) ⟨congrFun (adn_t (by decide) : adn c 4 (ng c) q 0 = ad c 0) 0, congrFun (adn_t (by decide) : adn c 4 (ng c) q 2 = ad c 2) 0, fun k => congrFun (adn_t (by decide) : adn c 4 (ng c) q 1 = ad c 1) k⟩ (fun k hk hkk => ?_) ?_ (fun _ => rfl) (fun i hi => Or.inl ⟨hi, congrFun (adn_t (by decide) : adn c 4 (ng c) q 3 = ad c 3) i, rfl⟩) (fun i hi => ?_) (fun i hi => Or.inl ⟨hi, congrFun (adn_t (by decide) : adn c 4 (ng c) q 5 = ad c 5) i, e_gli_fli hwf hi⟩) (e_gli_wf hwf hn16) (Or.inr rfl) (fun H9 hR9 hz9 => ?_)
          · rcases (show k = 0 ∨ k = 2 ∨ k = 3 ∨ k = 4 by omega) with rfl | rfl | rfl | rfl
            · show List.map (adn c 4 (ng c) q 3) _ = List.map (ad c 3) _; rw [(adn_t (by decide) : adn c 4 (ng c) q 3 = ad c 3)]; rfl
            · show List.map (adn c 4 (ng c) q 5) _ = List.map (ad c 5) _; rw [(adn_t (by decide) : adn c 4 (ng c) q 5 = ad c 5)]; rfl
            · show List.map (adn c 4 (ng c) q 5) _ = List.map (ad c 5) _; rw [(adn_t (by decide) : adn c 4 (ng c) q 5 = ad c 5)]; rfl
            · exact els_e_gli hwf
          · unfold dayV; rw [show ad (e_gli c s1 r1 m1 q) 1 = ad c 1 from (adn_t (by decide) : adn c 4 (ng c) q 1 = ad c 1), show ad (e_gli c s1 r1 m1 q) 2 = ad c 2 from (adn_t (by decide) : adn c 4 (ng c) q 2 = ad c 2)]; rfl
          · rcases Nat.lt_or_ge i (ng c) with h9 | h9
            · exact Or.inl ⟨h9, adn_i (Nat.ne_of_lt h9), e_gli_gli h9⟩
            · have hi2 : i < ng c + 1 := hi
              obtain rfl : i = ng c := by omega
              exact Or.inr ⟨adn_s, rfl, by rw [e_gli_new]; exact hvI⟩
          refine x_pop F dX3_addGlider_89 rfl ?_
          refine x_iload F dX3_addGlider_90 0 rfl ?_
          have ho : o_addGlider c s1 r1 m1 q = (0, nI (ng c), e_gli c s1 r1 m1 q) := by simp [o_addGlider, h1, h2, h3, h4, h4']
          exact x_iret F hE dX3_addGlider_92 (Nat.le_of_ble_eq_true rfl) (Nat.le_of_ble_eq_true rfl) (⟨q, by rw [ho], by rw [ho], by rw [ho]; exact hR9⟩)
        · have h4' := Int32.not_lt.mp h4
          refine x_throw F hX hL0 thr_2 st_85 dX3_addGlider_51 dX3_addGlider_54 dX3_addGlider_55 dX3_addGlider_57 dX3_addGlider_60 (Nat.le_of_ble_eq_true rfl) (Nat.le_of_ble_eq_true rfl) (Nat.le_of_ble_eq_true rfl) (Nat.le_of_ble_eq_true rfl) (fun H9 hz9 ho9 => ?_)
          have ho : (o_addGlider c s1 r1 m1 0).1 = 2 := by simp [o_addGlider, h1, h2, h3, h4, h4']
          exact ⟨(congrArg xN ho).symm, by rw [ho]; decide, hR.ext hz9 ho9⟩
      · replace h3 := bI_0.mp h3
        refine x_throw F hX hL0 thr_1 st_83 dX3_addGlider_29 dX3_addGlider_32 dX3_addGlider_33 dX3_addGlider_35 dX3_addGlider_38 (Nat.le_of_ble_eq_true rfl) (Nat.le_of_ble_eq_true rfl) (Nat.le_of_ble_eq_true rfl) (Nat.le_of_ble_eq_true rfl) (fun H9 hz9 ho9 => ?_)
        have ho : (o_addGlider c s1 r1 m1 0).1 = 1 := by simp [o_addGlider, h1, h2, h3]
        exact ⟨(congrArg xN ho).symm, by rw [ho]; decide, hR.ext hz9 ho9⟩
set_option maxHeartbeats 4000000 in
set_option maxRecDepth 100000 in
theorem c_X3_ask (l : Launch) (G : GT) (A : Nat → Prop) (c : CS) (x s2 g h n : Int32) (hL0 : l.stackTraces = false) : Cx l yX3_ask cX3_ask 10 (some .int) ({ frames := 7, cells := 6, slots := 629, locals := 171 } : Room) G A [.ref (ad c 0 0), .int x, .int s2, .int g, .int h, .int n] (fun H => Rep G A c H) (fun H r H1 => ∃ q, (o_ask c x s2 g h n q).1 = 0 ∧ r = some (.int (o_ask c x s2 g h n q).2.1) ∧ Rep G A (o_ask c x s2 g h n q).2.2 H1) (fun H X H1 => X = xN (o_ask c x s2 g h n 0).1 ∧ (o_ask c x s2 g h n 0).1 ≠ 0 ∧ Rep G A c H1) := by
  refine cx_of (own := "GliderDay") (by decide +kernel) rfl (Nat.le_of_ble_eq_true rfl) (fun E H0 F hE hX hR => ?_)
  show wx E H0 0 0 0 [(0, .ref (ad c 0 0)), (1, .int x), (2, .int s2), (3, .int g), (4, .int h), (5, .int n)] []
  refine x_aload_n F dX3_ask_0 0 rfl rfl ?_
  refine x_iload_n F dX3_ask_1 1 rfl rfl ?_
  refine x_callVXs (rest := []) F hR.day rfl (c_X3_memberAt l G A c x hL0) k_X3_119 ⟨⟨(Nat.le_of_ble_eq_true rfl), (Nat.le_of_ble_eq_true rfl)⟩, (Nat.le_of_ble_eq_true rfl), (Nat.le_of_ble_eq_true rfl)⟩ dX3_ask_2 rfl rfl (Nat.le_of_ble_eq_true rfl) hR ?_ ?_
  · rintro q Ex H9 ⟨rfl, hn1, hR2⟩ hq - -
    refine x_out F hX hq ?_ (Nat.le_of_ble_eq_true rfl) (Nat.le_of_ble_eq_true rfl)
    have ho : (o_ask c x s2 g h n 0).1 = 3 := by unfold o_ask; rw [if_neg hn1]
    exact ⟨(congrArg xN ho).symm, by rw [ho]; decide, hR2⟩
  rintro _ Hx ⟨rfl, hHx, hb3, hi4, hx5⟩ - -
  rw [hHx]
  refine x_astore (lv' := [(6, .ref (ad c 3 (tN x))), (0, .ref (ad c 0 0)), (1, .int x), (2, .int s2), (3, .int g), (4, .int h), (5, .int n)]) F dX3_ask_5 (by decide) rfl ?_
  refine x_iload_n F dX3_ask_7 3 rfl rfl ?_
  refine x_iconst (v := (-1)) F rfl dX3_ask_8 ?_
  refine x_icmp_ne F dX3_ask_9 (tgt := 16) (by decide) (fun h6 => ?_) (fun h6 => ?_)
  · refine x_aload_n F dX3_ask_16 1 rfl rfl ?_
    refine x_iload_n F dX3_ask_17 3 rfl rfl ?_
    refine x_callVXs (rest := []) F hR.day rfl (c_X3_memberAt l G A c s2 hL0) k_X3_119 ⟨⟨(Nat.le_of_ble_eq_true rfl), (Nat.le_of_ble_eq_true rfl)⟩, (Nat.le_of_ble_eq_true rfl), (Nat.le_of_ble_eq_true rfl)⟩ dX3_ask_18 rfl rfl (Nat.le_of_ble_eq_true rfl) hR ?_ ?_
    · rintro q Ex H9 ⟨rfl, hn7, hR8⟩ hq - -
      refine x_out F hX hq ?_ (Nat.le_of_ble_eq_true rfl) (Nat.le_of_ble_eq_true rfl)
      have ho : (o_ask c x s2 g h n 0).1 = 3 := by unfold o_ask; rw [if_pos hb3, if_neg (fun q => q.elim h6 hn7)]
      exact ⟨(congrArg xN ho).symm, by rw [ho]; decide, hR8⟩
    rintro _ Hx ⟨rfl, hHx, hb9, hi10, hx11⟩ - -
    rw [hHx]
    refine x_astore (lv' := [(7, .ref (ad c 3 (tN s2))), (6, .ref (ad c 3 (tN x))), (0, .ref (ad c 0 0)), (1, .int x), (2, .int s2), (3, .int g), (4, .int h), (5, .int n)]) F dX3_ask_21 (by decide) rfl ?_
    refine x_aload_n F dX3_ask_23 2 rfl rfl ?_
    refine x_iload_n F dX3_ask_24 5 rfl rfl ?_
    refine x_callVXs (rest := []) F hR.day rfl (c_X3_gliderAt l G A c g hL0) k_X3_106 ⟨⟨(Nat.le_of_ble_eq_true rfl), (Nat.le_of_ble_eq_true rfl)⟩, (Nat.le_of_ble_eq_true rfl), (Nat.le_of_ble_eq_true rfl)⟩ dX3_ask_25 rfl rfl (Nat.le_of_ble_eq_true rfl) hR ?_ ?_
    · rintro q Ex H9 ⟨rfl, hn12, hR13⟩ hq - -
      refine x_out F hX hq ?_ (Nat.le_of_ble_eq_true rfl) (Nat.le_of_ble_eq_true rfl)
      have ho : (o_ask c x s2 g h n 0).1 = 3 := by unfold o_ask; rw [if_pos hb3, if_pos (Or.inr hb9), if_neg hn12]
      exact ⟨(congrArg xN ho).symm, by rw [ho]; decide, hR13⟩
    rintro _ Hx ⟨rfl, hHx, hb14, hi15, hx16⟩ - -
    rw [hHx]
    refine x_astore (lv' := [(8, .ref (ad c 4 (tN g))), (7, .ref (ad c 3 (tN s2))), (6, .ref (ad c 3 (tN x))), (0, .ref (ad c 0 0)), (1, .int x), (2, .int s2), (3, .int g), (4, .int h), (5, .int n)]) F dX3_ask_28 (by decide) rfl ?_
    refine x_iload_n F dX3_ask_30 4 rfl rfl ?_
    refine x_iload_n F dX3_ask_31 5 rfl rfl ?_
    refine x_icmp_eq F dX3_ask_32 (tgt := 55) (by decide) (fun h17 => ?_) (fun h17 => ?_)
    · refine x_throw F hX hL0 thr_1 st_152 dX3_ask_55 dX3_ask_58 dX3_ask_59 dX3_ask_61 dX3_ask_64 (Nat.le_of_ble_eq_true rfl) (Nat.le_of_ble_eq_true rfl) (Nat.le_of_ble_eq_true rfl) (Nat.le_of_ble_eq_true rfl) (fun H9 hz9 ho9 => ?_)
      have ho : (o_ask c x s2 g h n 0).1 = 1 := by unfold o_ask; rw [if_pos hb3, if_pos (Or.inr hb9), if_pos hb14, if_pos (Or.inl h17)]
      exact ⟨(congrArg xN ho).symm, by rw [ho]; decide, hR.ext hz9 ho9⟩
    · refine x_iload F dX3_ask_35 7 rfl ?_
      refine x_callSp (rest := []) F (c_X3_isHeight l G A h) k_X3_148 ⟨(Nat.le_of_ble_eq_true rfl), (Nat.le_of_ble_eq_true rfl), rfl, rfl⟩ (Nat.le_of_ble_eq_true rfl) (Nat.le_of_ble_eq_true rfl) dX3_ask_37 rfl rfl (Nat.le_of_ble_eq_true rfl) trivial ?_
      refine x_if_eq F dX3_ask_40 (tgt := 55) (by decide) (fun h18 => ?_) (fun h18 => ?_)
      · replace h18 := bI_0.mp h18
        refine x_throw F hX hL0 thr_1 st_152 dX3_ask_55 dX3_ask_58 dX3_ask_59 dX3_ask_61 dX3_ask_64 (Nat.le_of_ble_eq_true rfl) (Nat.le_of_ble_eq_true rfl) (Nat.le_of_ble_eq_true rfl) (Nat.le_of_ble_eq_true rfl) (fun H9 hz9 ho9 => ?_)
        have ho : (o_ask c x s2 g h n 0).1 = 1 := by unfold o_ask; rw [if_pos hb3, if_pos (Or.inr hb9), if_pos hb14, if_pos (Or.inr (Or.inl h18))]
        exact ⟨(congrArg xN ho).symm, by rw [ho]; decide, hR.ext hz9 ho9⟩
      · replace h18 := bI_ne.mp h18
        refine x_iload F dX3_ask_43 8 rfl ?_
        refine x_iconst (v := 2) F rfl dX3_ask_45 ?_
        refine x_sipush (v := 300) F rfl dX3_ask_46 ?_
        refine x_callSp (rest := []) F (c_X3_isWithin l G A n 2 300) k_X3_54 ⟨(Nat.le_of_ble_eq_true rfl), (Nat.le_of_ble_eq_true rfl), rfl, rfl⟩ (Nat.le_of_ble_eq_true rfl) (Nat.le_of_ble_eq_true rfl) dX3_ask_49 rfl rfl (Nat.le_of_ble_eq_true rfl) trivial ?_
        refine x_if_ne F dX3_ask_52 (tgt := 65) (by decide) (fun h19 => ?_) (fun h19 => ?_)
        · replace h19 := bI_ne.mp h19
          refine x_aload_n F dX3_ask_65 3 rfl rfl ?_
          refine y_getD (c := c) (j := 3) (v := .ref (ad c 1 3)) F hR mw_84 rfl (by decide) rfl dX3_ask_66 ?_
          refine y_lsize (c := c) (k5 := 3) F hR (by decide) k_X3_65 ⟨(Nat.le_of_ble_eq_true rfl), (Nat.le_of_ble_eq_true rfl)⟩ (Nat.le_of_ble_eq_true rfl) (Nat.le_of_ble_eq_true rfl) dX3_ask_69 (Nat.le_of_ble_eq_true rfl) ?_
          refine wx_i (y := nI (lst c).length) (congrArg nI (els_3 _)) ?_
          refine x_bipush (v := 30) F rfl dX3_ask_72 ?_
          refine x_icmp_ge F dX3_ask_74 (tgt := 89) (by decide) (fun h20 => ?_) (fun h20 => ?_)
          · have h20' := Int32.not_lt.mpr h20
            refine x_throw F hX hL0 thr_2 st_154 dX3_ask_89 dX3_ask_92 dX3_ask_93 dX3_ask_95 dX3_ask_98 (Nat.le_of_ble_eq_true rfl) (Nat.le_of_ble_eq_true rfl) (Nat.le_of_ble_eq_true rfl) (Nat.le_of_ble_eq_true rfl) (fun H9 hz9 ho9 => ?_)
            have ho : (o_ask c x s2 g h n 0).1 = 2 := by unfold o_ask; rw [if_pos hb3, if_pos (Or.inr hb9), if_pos hb14, if_neg (fun q => q.elim h17 (fun q => q.elim (fun q => q h18) (fun q => q h19))), if_pos (Or.inl h20)]
            exact ⟨(congrArg xN ho).symm, by rw [ho]; decide, hR.ext hz9 ho9⟩
          · have h20' := Int32.not_le.mp h20
            refine x_aload_n F dX3_ask_77 3 rfl rfl ?_
            refine y_getD (c := c) (j := 2) (v := .ref (ad c 1 2)) F hR mw_83 rfl (by decide) rfl dX3_ask_78 ?_
            refine y_lsize (c := c) (k5 := 2) F hR (by decide) k_X3_65 ⟨(Nat.le_of_ble_eq_true rfl), (Nat.le_of_ble_eq_true rfl)⟩ (Nat.le_of_ble_eq_true rfl) (Nat.le_of_ble_eq_true rfl) dX3_ask_81 (Nat.le_of_ble_eq_true rfl) ?_
            refine wx_i (y := nI (nf c)) (congrArg nI (els_2 _)) ?_
            refine x_bipush (v := 100) F rfl dX3_ask_84 ?_
            refine x_icmp_lt F dX3_ask_86 (tgt := 99) (by decide) (fun h21 => ?_) (fun h21 => ?_)
            · have h21' := Int32.not_le.mpr h21
              obtain ⟨T, bA, cp, mo, hX1⟩ := id hR
              refine fr_of F fun hfr => ?_
              refine y_newF F mw_295 (Nat.le_of_ble_eq_true rfl) (Nat.le_of_ble_eq_true rfl) dX3_ask_99 (fun HN hvN hnN => ?_)
              generalize hq : H0.size = q at hvN ⊢
              have hqA : A q := hfr q (Nat.le_of_eq hq)
              have hTq : T q = 0 := hX1.free (Nat.le_of_eq hq)
              have hX0 := hX1
              have hRN : Rep G A c HN := ⟨T, bA, cp, mo, hX1.ext (by rw [hnN.1]; exact Nat.le_succ _) hnN.2⟩
              refine x_dup F dX3_ask_102 rfl ?_
              refine x_aload_n F dX3_ask_103 3 rfl rfl ?_
              refine y_getD (c := c) (j := 2) (v := .ref (ad c 1 2)) F hRN mw_83 rfl (by decide) rfl dX3_ask_104 ?_
              refine y_lsize (c := c) (k5 := 2) F hRN (by decide) k_X3_65 ⟨(Nat.le_of_ble_eq_true rfl), (Nat.le_of_ble_eq_true rfl)⟩ (Nat.le_of_ble_eq_true rfl) (Nat.le_of_ble_eq_true rfl) dX3_ask_107 (Nat.le_of_ble_eq_true rfl) ?_
              refine wx_i (y := nI (nf c)) (congrArg nI (els_2 _)) ?_
              refine x_aload F dX3_ask_110 2 rfl ?_
              refine x_aload F dX3_ask_112 1 rfl ?_
              refine x_aload F dX3_ask_114 0 rfl ?_
              refine x_callINs (nA := 4) (rest := [.ref q]) F (c_newF1 l G A q (nI (nf c)) (ad c 3 (tN x)) (ad c 3 (tN s2)) (ad c 4 (tN g))) nw_158 mw_298 mw_46 mw_299 rfl ⟨by decide +kernel, by decide +kernel, by decide +kernel⟩ ⟨⟨(Nat.le_of_ble_eq_true rfl), (Nat.le_of_ble_eq_true rfl)⟩, (Nat.le_of_ble_eq_true rfl), (Nat.le_of_ble_eq_true rfl)⟩ dX3_ask_116 rfl rfl (Nat.le_of_ble_eq_true rfl) ⟨hvN, hqA⟩ ?_
              rintro _ HI ⟨rfl, hvI, hsI⟩ - -
              have hzI : H0.size ≤ HI.size := by rw [hsI.1, hnN.1]; exact Nat.le_succ _
              have hfI : ∀ p, p < H0.size → HI[p]? = H0[p]? := fun p hp => (hsI.2 p (by omega)).trans (hnN.2 p hp)
              replace hX1 := hX1.ext hzI hfI
              have hT0 := hTq
              have hRI : Rep G A c HI := ⟨T, bA, cp, mo, hX1⟩
              refine x_astore (lv' := [(9, .ref q), (8, .ref (ad c 4 (tN g))), (7, .ref (ad c 3 (tN s2))), (6, .ref (ad c 3 (tN x))), (0, .ref (ad c 0 0)), (1, .int x), (2, .int s2), (3, .int g), (4, .int h), (5, .int n)]) F dX3_ask_119 (by decide) rfl ?_
              refine x_aload F dX3_ask_121 0 rfl ?_
              refine x_iload F dX3_ask_123 8 rfl ?_
              refine x_putN (C := "GliderDay$Flight") (T := TX0) (N := 11) F hvI hqA rfl (j := 4) (by decide) inX0 tyX0 tyX0_ok nmX0 nw_161 (Or.inl rfl) rfl rfl rfl rfl (Nat.le_of_ble_eq_true rfl) dX3_ask_125 (fun Hp1 hvp1 hsp1 => ?_)
              have hzp1 := Nat.le_trans hzI (Nat.le_of_eq hsp1.1.symm)
              have hfp1 : ∀ p, p < H0.size → Hp1[p]? = H0[p]? := fun p hp => (hsp1.2 p (by omega)).trans (hfI p hp)
              have hRp1 : Rep G A c Hp1 := ⟨T, bA, cp, mo, hX0.ext hzp1 hfp1⟩
              refine x_aload F dX3_ask_128 0 rfl ?_
              refine x_iload F dX3_ask_130 9 rfl ?_
              refine x_putN (C := "GliderDay$Flight") (T := TX0) (N := 11) F hvp1 hqA rfl (j := 5) (by decide) inX0 tyX0 tyX0_ok nmX0 nw_164 (Or.inl rfl) rfl rfl rfl rfl (Nat.le_of_ble_eq_true rfl) dX3_ask_132 (fun Hp2 hvp2 hsp2 => ?_)
              have hzp2 := Nat.le_trans hzp1 (Nat.le_of_eq hsp2.1.symm)
              have hfp2 : ∀ p, p < H0.size → Hp2[p]? = H0[p]? := fun p hp => (hsp2.2 p (by omega)).trans (hfp1 p hp)
              have hRp2 : Rep G A c Hp2 := ⟨T, bA, cp, mo, hX0.ext hzp2 hfp2⟩
              refine x_aload F dX3_ask_135 0 rfl ?_
              refine x_aload_n F dX3_ask_137 4 rfl rfl ?_
              refine y_getD (c := c) (j := 9) (v := .int (cD c 9)) F hRp2 mw_90 rfl (by decide) rfl dX3_ask_138 ?_
              refine x_putN (C := "GliderDay$Flight") (T := TX0) (N := 11) F hvp2 hqA rfl (j := 7) (by decide) inX0 tyX0 tyX0_ok nmX0 nw_167 (Or.inl rfl) rfl rfl rfl rfl (Nat.le_of_ble_eq_true rfl) dX3_ask_141 (fun Hp3 hvp3 hsp3 => ?_)
              have hzp3 := Nat.le_trans hzp2 (Nat.le_of_eq hsp3.1.symm)
              have hfp3 : ∀ p, p < H0.size → Hp3[p]? = H0[p]? := fun p hp => (hsp3.2 p (by omega)).trans (hfp2 p hp)
              have hRp3 : Rep G A c Hp3 := ⟨T, bA, cp, mo, hX0.ext hzp3 hfp3⟩
              refine x_aload_n F dX3_ask_144 4 rfl rfl ?_
              refine y_getD (c := c) (j := 2) (v := .ref (ad c 1 2)) F hRp3 mw_83 rfl (by decide) rfl dX3_ask_145 ?_
              refine x_aload F dX3_ask_148 0 rfl ?_
              have hXa : RepX G A c Hp3 T bA cp mo := hX0.ext hzp3 hfp3
              have hwf := hX0.2.2.2.2.2.2.2.1
              have hn16 : nf c < 100 := lt_of_nI (show nI (nf c) < nI 100 from h21) (bnd hwf).2.2.1 (by decide)
              refine y_ladd (c := c) (st := []) (c' := (e_fli c (tN x) (some (tN s2)) (tN g) h n q)) (te := 102 + 3 * nf c) (e := q) (k5 := 2) F hXa (by decide) (by rw [els_2]; omega) k_X3_79 ⟨(Nat.le_of_ble_eq_true rfl), (Nat.le_of_ble_eq_true rfl)⟩ (Nat.le_of_ble_eq_true rfl) (Nat.le_of_ble_eq_true rfl) dX3_ask_150 (Nat.le_of_ble_eq_true rfl) ⟨1, _, by decide, by decide, hvp3⟩ ⟨by omega, Or.inr hTq, hqA⟩ (rng_app (adn c 5 (nf c) q 5) (ad c 5) (nf c) q (fun i hi => adn_i (Nat.ne_of_lt hi)) adn_s) ⟨congrFun (adn_t (by decide) : adn c 5 (nf c) q 0 = ad c 0) 0, congrFun (adn_t (by decide) : adn c 5 (nf c) q 2 = ad c 2) 0, fun k => congrFun (adn_t (by decide) : adn c 5 (nf c) q 1 = ad c 1) k⟩ (fun k hk hkk => ?_) ?_ (fun _ => rfl) (fun i hi => Or.inl ⟨hi, congrFun (adn_t (by decide) : adn c 5 (nf c) q 3 = ad c 3) i, rfl⟩) (fun i hi => Or.inl ⟨hi, congrFun (adn_t (by decide) : adn c 5 (nf c) q 4 = ad c 4) i, e_fli_gli hwf hi⟩) (fun i hi => ?_) (e_fli_wf hwf hn16 hi4 hi15 (fun s hs => by cases hs; exact hi10)) (Or.inr rfl) (fun H9 hR9 hz9 => ?_)
              · rcases (show k = 0 ∨ k = 1 ∨ k = 3 ∨ k = 4 by omega) with rfl | rfl | rfl | rfl
                · show List.map (adn c 5 (nf c) q 3) _ = List.map (ad c 3) _; rw [(adn_t (by decide) : adn c 5 (nf c) q 3 = ad c 3)]; rfl
                · show List.map (adn c 5 (nf c) q 4) _ = List.map (ad c 4) _; rw [(adn_t (by decide) : adn c 5 (nf c) q 4 = ad c 4)]; rfl
                · exact els_e_fli hwf
                · show List.map (adn c 5 (nf c) q 4) _ = List.map (ad c 4) _; rw [(adn_t (by decide) : adn c 5 (nf c) q 4 = ad c 4)]; rfl
              · unfold dayV; rw [show ad (e_fli c (tN x) (some (tN s2)) (tN g) h n q) 1 = ad c 1 from (adn_t (by decide) : adn c 5 (nf c) q 1 = ad c 1), show ad (e_fli c (tN x) (some (tN s2)) (tN g) h n q) 2 = ad c 2 from (adn_t (by decide) : adn c 5 (nf c) q 2 = ad c 2)]; rfl
              · rcases Nat.lt_or_ge i (nf c) with h9 | h9
                · exact Or.inl ⟨h9, adn_i (Nat.ne_of_lt h9), e_fli_fli h9⟩
                · have hi2 : i < nf c + 1 := hi
                  obtain rfl : i = nf c := by omega
                  exact Or.inr ⟨adn_s, rfl, by rw [e_fli_new]; exact hvp3⟩
              have hq5 : ad (e_fli c (tN x) (some (tN s2)) (tN g) h n q) 5 (nf c) = q := (adn_s : adn c 5 (nf c) q 5 (nf c) = q)
              have had0 : ad (e_fli c (tN x) (some (tN s2)) (tN g) h n q) 0 = ad c 0 := (adn_t (by decide) : adn c 5 (nf c) q 0 = ad c 0)
              refine wx_lv (lv' := [(9, .ref (ad (e_fli c (tN x) (some (tN s2)) (tN g) h n q) 5 (nf c))), (8, .ref (ad c 4 (tN g))), (7, .ref (ad c 3 (tN s2))), (6, .ref (ad c 3 (tN x))), (0, .ref (ad (e_fli c (tN x) (some (tN s2)) (tN g) h n q) 0 0)), (1, .int x), (2, .int s2), (3, .int g), (4, .int h), (5, .int n)]) (by rw [hq5, had0]) ?_
              refine x_pop F dX3_ask_153 rfl ?_
              refine x_aload_n F dX3_ask_154 4 rfl rfl ?_
              refine y_getD (c := (e_fli c (tN x) (some (tN s2)) (tN g) h n q)) (j := 3) (v := .ref (ad (e_fli c (tN x) (some (tN s2)) (tN g) h n q) 1 3)) F hR9 mw_84 rfl (by decide) rfl dX3_ask_155 ?_
              refine x_aload F dX3_ask_158 0 rfl ?_
              obtain ⟨T2, bA2, cp2, mo2, hX2⟩ := id hR9
              have hwf2 := hX2.2.2.2.2.2.2.2.1
              have hf7 := hX2.2.2.2.2.2.2.1 (nf c) (Nat.lt_succ_self _)
              have hl30 : (lst c).length < 30 := lt_of_nI (show nI (lst c).length < nI 30 from Int32.not_le.mp h20) (bnd hwf).2.2.2.1 (by decide)
              refine y_ladd (c := (e_fli c (tN x) (some (tN s2)) (tN g) h n q)) (st := []) (c' := (sL (e_fli c (tN x) (some (tN s2)) (tN g) h n q) (lst c ++ [nf c]))) (te := T2 (ad (e_fli c (tN x) (some (tN s2)) (tN g) h n q) 5 (nf c))) (e := ad (e_fli c (tN x) (some (tN s2)) (tN g) h n q) 5 (nf c)) (k5 := 3) F hX2 (by decide) (by rw [els_3]; show (lst c).length < 130; omega) k_X3_79 ⟨(Nat.le_of_ble_eq_true rfl), (Nat.le_of_ble_eq_true rfl)⟩ (Nat.le_of_ble_eq_true rfl) (Nat.le_of_ble_eq_true rfl) dX3_ask_160 (Nat.le_of_ble_eq_true rfl) ⟨1, _, by decide, by decide, hf7.2⟩ ⟨by rw [hf7.1]; omega, Or.inl rfl, hR9.inA.2.2.2.2 (nf c) (Nat.lt_succ_self _)⟩ (by show (lst c ++ [nf c]).map _ = (lst c).map _ ++ _; rw [List.map_append]; rfl) ⟨rfl, rfl, fun _ => rfl⟩ (fun k hk hkk => by rcases (show k = 0 ∨ k = 1 ∨ k = 2 ∨ k = 4 by omega) with rfl | rfl | rfl | rfl <;> rfl) rfl (fun _ => rfl) (fun j hj => Or.inl ⟨hj, rfl, rfl⟩) (fun j hj => Or.inl ⟨hj, rfl, rfl⟩) (fun j hj => Or.inl ⟨hj, rfl, rfl⟩) ⟨hwf2.1, hwf2.2.1, hwf2.2.2.1, ⟨fun q9 hq9 => ?_, ?_⟩, hwf2.2.2.2.2⟩ (Or.inr rfl) (fun H8 hR8 hz8 => ?_)
              · rcases List.mem_append.mp hq9 with q1 | q1
                · exact hwf2.2.2.2.1.1 q9 q1
                · rw [List.mem_singleton.mp q1]; exact Nat.lt_succ_self _
              · show (lst c ++ [nf c]).length ≤ 100; rw [List.length_append]; show (lst c).length + 1 ≤ 100; omega
              refine x_pop F dX3_ask_163 rfl ?_
              refine x_aload F dX3_ask_164 0 rfl ?_
              refine y_getF (c := (sL (e_fli c (tN x) (some (tN s2)) (tN g) h n q) (lst c ++ [nf c]))) (i := (nf c)) (j := 0) (v := .int (nI (nf c))) F hR8 (Nat.lt_succ_self _) nw_170 rfl (by decide) rfl dX3_ask_166 ?_
              have ho : o_ask c x s2 g h n q = (0, nI (nf c), (sL (e_fli c (tN x) (some (tN s2)) (tN g) h n q) (lst c ++ [nf c]))) := by unfold o_ask; rw [if_pos hb3, if_pos (Or.inr hb9), if_pos hb14, if_neg (fun q => q.elim h17 (fun q => q.elim (fun q => q h18) (fun q => q h19))), if_neg (fun q => q.elim h20 (fun q => Int32.not_lt.mpr q h21)), if_neg h6]
              exact x_iret F hE dX3_ask_169 (Nat.le_of_ble_eq_true rfl) (Nat.le_of_ble_eq_true rfl) (⟨q, by rw [ho], by rw [ho], by rw [ho]; exact hR8⟩)
            · have h21' := Int32.not_lt.mp h21
              refine x_throw F hX hL0 thr_2 st_154 dX3_ask_89 dX3_ask_92 dX3_ask_93 dX3_ask_95 dX3_ask_98 (Nat.le_of_ble_eq_true rfl) (Nat.le_of_ble_eq_true rfl) (Nat.le_of_ble_eq_true rfl) (Nat.le_of_ble_eq_true rfl) (fun H9 hz9 ho9 => ?_)
              have ho : (o_ask c x s2 g h n 0).1 = 2 := by unfold o_ask; rw [if_pos hb3, if_pos (Or.inr hb9), if_pos hb14, if_neg (fun q => q.elim h17 (fun q => q.elim (fun q => q h18) (fun q => q h19))), if_pos (Or.inr (Int32.not_lt.mp h21))]
              exact ⟨(congrArg xN ho).symm, by rw [ho]; decide, hR.ext hz9 ho9⟩
        · replace h19 := bI_0.mp h19
          refine x_throw F hX hL0 thr_1 st_152 dX3_ask_55 dX3_ask_58 dX3_ask_59 dX3_ask_61 dX3_ask_64 (Nat.le_of_ble_eq_true rfl) (Nat.le_of_ble_eq_true rfl) (Nat.le_of_ble_eq_true rfl) (Nat.le_of_ble_eq_true rfl) (fun H9 hz9 ho9 => ?_)
          have ho : (o_ask c x s2 g h n 0).1 = 1 := by unfold o_ask; rw [if_pos hb3, if_pos (Or.inr hb9), if_pos hb14, if_pos (Or.inr (Or.inr h19))]
          exact ⟨(congrArg xN ho).symm, by rw [ho]; decide, hR.ext hz9 ho9⟩
  · refine x_null F dX3_ask_12 ?_
    refine x_goto F dX3_ask_13 (tgt := 21) (by decide) ?_
    refine x_astoreN (lv' := [(7, .null), (6, .ref (ad c 3 (tN x))), (0, .ref (ad c 0 0)), (1, .int x), (2, .int s2), (3, .int g), (4, .int h), (5, .int n)]) F dX3_ask_21 (by decide) rfl ?_
    refine x_aload_n F dX3_ask_23 2 rfl rfl ?_
    refine x_iload_n F dX3_ask_24 5 rfl rfl ?_
    refine x_callVXs (rest := []) F hR.day rfl (c_X3_gliderAt l G A c g hL0) k_X3_106 ⟨⟨(Nat.le_of_ble_eq_true rfl), (Nat.le_of_ble_eq_true rfl)⟩, (Nat.le_of_ble_eq_true rfl), (Nat.le_of_ble_eq_true rfl)⟩ dX3_ask_25 rfl rfl (Nat.le_of_ble_eq_true rfl) hR ?_ ?_
    · rintro q Ex H9 ⟨rfl, hn22, hR23⟩ hq - -
      refine x_out F hX hq ?_ (Nat.le_of_ble_eq_true rfl) (Nat.le_of_ble_eq_true rfl)
      have ho : (o_ask c x s2 g h n 0).1 = 3 := by unfold o_ask; rw [if_pos hb3, if_pos (Or.inl h6), if_neg hn22]
      exact ⟨(congrArg xN ho).symm, by rw [ho]; decide, hR23⟩
    rintro _ Hx ⟨rfl, hHx, hb24, hi25, hx26⟩ - -
    rw [hHx]
    refine x_astore (lv' := [(8, .ref (ad c 4 (tN g))), (7, .null), (6, .ref (ad c 3 (tN x))), (0, .ref (ad c 0 0)), (1, .int x), (2, .int s2), (3, .int g), (4, .int h), (5, .int n)]) F dX3_ask_28 (by decide) rfl ?_
    refine x_iload_n F dX3_ask_30 4 rfl rfl ?_
    refine x_iload_n F dX3_ask_31 5 rfl rfl ?_
    refine x_icmp_eq F dX3_ask_32 (tgt := 55) (by decide) (fun h27 => ?_) (fun h27 => ?_)
    · refine x_throw F hX hL0 thr_1 st_152 dX3_ask_55 dX3_ask_58 dX3_ask_59 dX3_ask_61 dX3_ask_64 (Nat.le_of_ble_eq_true rfl) (Nat.le_of_ble_eq_true rfl) (Nat.le_of_ble_eq_true rfl) (Nat.le_of_ble_eq_true rfl) (fun H9 hz9 ho9 => ?_)
      have ho : (o_ask c x s2 g h n 0).1 = 1 := by unfold o_ask; rw [if_pos hb3, if_pos (Or.inl h6), if_pos hb24, if_pos (Or.inl h27)]
      exact ⟨(congrArg xN ho).symm, by rw [ho]; decide, hR.ext hz9 ho9⟩
    · refine x_iload F dX3_ask_35 7 rfl ?_
      refine x_callSp (rest := []) F (c_X3_isHeight l G A h) k_X3_148 ⟨(Nat.le_of_ble_eq_true rfl), (Nat.le_of_ble_eq_true rfl), rfl, rfl⟩ (Nat.le_of_ble_eq_true rfl) (Nat.le_of_ble_eq_true rfl) dX3_ask_37 rfl rfl (Nat.le_of_ble_eq_true rfl) trivial ?_
      refine x_if_eq F dX3_ask_40 (tgt := 55) (by decide) (fun h28 => ?_) (fun h28 => ?_)
      · replace h28 := bI_0.mp h28
        refine x_throw F hX hL0 thr_1 st_152 dX3_ask_55 dX3_ask_58 dX3_ask_59 dX3_ask_61 dX3_ask_64 (Nat.le_of_ble_eq_true rfl) (Nat.le_of_ble_eq_true rfl) (Nat.le_of_ble_eq_true rfl) (Nat.le_of_ble_eq_true rfl) (fun H9 hz9 ho9 => ?_)
        have ho : (o_ask c x s2 g h n 0).1 = 1 := by unfold o_ask; rw [if_pos hb3, if_pos (Or.inl h6), if_pos hb24, if_pos (Or.inr (Or.inl h28))]
        exact ⟨(congrArg xN ho).symm, by rw [ho]; decide, hR.ext hz9 ho9⟩
      · replace h28 := bI_ne.mp h28
        refine x_iload F dX3_ask_43 8 rfl ?_
        refine x_iconst (v := 2) F rfl dX3_ask_45 ?_
        refine x_sipush (v := 300) F rfl dX3_ask_46 ?_
        refine x_callSp (rest := []) F (c_X3_isWithin l G A n 2 300) k_X3_54 ⟨(Nat.le_of_ble_eq_true rfl), (Nat.le_of_ble_eq_true rfl), rfl, rfl⟩ (Nat.le_of_ble_eq_true rfl) (Nat.le_of_ble_eq_true rfl) dX3_ask_49 rfl rfl (Nat.le_of_ble_eq_true rfl) trivial ?_
        refine x_if_ne F dX3_ask_52 (tgt := 65) (by decide) (fun h29 => ?_) (fun h29 => ?_)
        · replace h29 := bI_ne.mp h29
          refine x_aload_n F dX3_ask_65 3 rfl rfl ?_
          refine y_getD (c := c) (j := 3) (v := .ref (ad c 1 3)) F hR mw_84 rfl (by decide) rfl dX3_ask_66 ?_
          refine y_lsize (c := c) (k5 := 3) F hR (by decide) k_X3_65 ⟨(Nat.le_of_ble_eq_true rfl), (Nat.le_of_ble_eq_true rfl)⟩ (Nat.le_of_ble_eq_true rfl) (Nat.le_of_ble_eq_true rfl) dX3_ask_69 (Nat.le_of_ble_eq_true rfl) ?_
          refine wx_i (y := nI (lst c).length) (congrArg nI (els_3 _)) ?_
          refine x_bipush (v := 30) F rfl dX3_ask_72 ?_
          refine x_icmp_ge F dX3_ask_74 (tgt := 89) (by decide) (fun h30 => ?_) (fun h30 => ?_)
          · have h30' := Int32.not_lt.mpr h30
            refine x_throw F hX hL0 thr_2 st_154 dX3_ask_89 dX3_ask_92 dX3_ask_93 dX3_ask_95 dX3_ask_98 (Nat.le_of_ble_eq_true rfl) (Nat.le_of_ble_eq_true rfl) (Nat.le_of_ble_eq_true rfl) (Nat.le_of_ble_eq_true rfl) (fun H9 hz9 ho9 => ?_)
            have ho : (o_ask c x s2 g h n 0).1 = 2 := by unfold o_ask; rw [if_pos hb3, if_pos (Or.inl h6), if_pos hb24, if_neg (fun q => q.elim h27 (fun q => q.elim (fun q => q h28) (fun q => q h29))), if_pos (Or.inl h30)]
            exact ⟨(congrArg xN ho).symm, by rw [ho]; decide, hR.ext hz9 ho9⟩
          · have h30' := Int32.not_le.mp h30
            refine x_aload_n F dX3_ask_77 3 rfl rfl ?_
            refine y_getD (c := c) (j := 2) (v := .ref (ad c 1 2)) F hR mw_83 rfl (by decide) rfl dX3_ask_78 ?_
            refine y_lsize (c := c) (k5 := 2) F hR (by decide) k_X3_65 ⟨(Nat.le_of_ble_eq_true rfl), (Nat.le_of_ble_eq_true rfl)⟩ (Nat.le_of_ble_eq_true rfl) (Nat.le_of_ble_eq_true rfl) dX3_ask_81 (Nat.le_of_ble_eq_true rfl) ?_
            refine wx_i (y := nI (nf c)) (congrArg nI (els_2 _)) ?_
            refine x_bipush (v := 100) F rfl dX3_ask_84 ?_
            refine x_icmp_lt F dX3_ask_86 (tgt := 99) (by decide) (fun h31 => ?_) (fun h31 => ?_)
            · have h31' := Int32.not_le.mpr h31
              obtain ⟨T, bA, cp, mo, hX1⟩ := id hR
              refine fr_of F fun hfr => ?_
              refine y_newF F mw_295 (Nat.le_of_ble_eq_true rfl) (Nat.le_of_ble_eq_true rfl) dX3_ask_99 (fun HN hvN hnN => ?_)
              generalize hq : H0.size = q at hvN ⊢
              have hqA : A q := hfr q (Nat.le_of_eq hq)
              have hTq : T q = 0 := hX1.free (Nat.le_of_eq hq)
              have hX0 := hX1
              have hRN : Rep G A c HN := ⟨T, bA, cp, mo, hX1.ext (by rw [hnN.1]; exact Nat.le_succ _) hnN.2⟩
              refine x_dup F dX3_ask_102 rfl ?_
              refine x_aload_n F dX3_ask_103 3 rfl rfl ?_
              refine y_getD (c := c) (j := 2) (v := .ref (ad c 1 2)) F hRN mw_83 rfl (by decide) rfl dX3_ask_104 ?_
              refine y_lsize (c := c) (k5 := 2) F hRN (by decide) k_X3_65 ⟨(Nat.le_of_ble_eq_true rfl), (Nat.le_of_ble_eq_true rfl)⟩ (Nat.le_of_ble_eq_true rfl) (Nat.le_of_ble_eq_true rfl) dX3_ask_107 (Nat.le_of_ble_eq_true rfl) ?_
              refine wx_i (y := nI (nf c)) (congrArg nI (els_2 _)) ?_
              refine x_aload F dX3_ask_110 2 rfl ?_
              refine x_aloadN F dX3_ask_112 1 rfl ?_
              refine x_aload F dX3_ask_114 0 rfl ?_
              refine x_callINs (nA := 4) (rest := [.ref q]) F (c_newF0 l G A q (nI (nf c)) (ad c 3 (tN x)) (ad c 4 (tN g))) nw_158 mw_298 mw_46 mw_299 rfl ⟨by decide +kernel, by decide +kernel, by decide +kernel⟩ ⟨⟨(Nat.le_of_ble_eq_true rfl), (Nat.le_of_ble_eq_true rfl)⟩, (Nat.le_of_ble_eq_true rfl), (Nat.le_of_ble_eq_true rfl)⟩ dX3_ask_116 rfl rfl (Nat.le_of_ble_eq_true rfl) ⟨hvN, hqA⟩ ?_
              rintro _ HI ⟨rfl, hvI, hsI⟩ - -
              have hzI : H0.size ≤ HI.size := by rw [hsI.1, hnN.1]; exact Nat.le_succ _
              have hfI : ∀ p, p < H0.size → HI[p]? = H0[p]? := fun p hp => (hsI.2 p (by omega)).trans (hnN.2 p hp)
              replace hX1 := hX1.ext hzI hfI
              have hT0 := hTq
              have hRI : Rep G A c HI := ⟨T, bA, cp, mo, hX1⟩
              refine x_astore (lv' := [(9, .ref q), (8, .ref (ad c 4 (tN g))), (7, .null), (6, .ref (ad c 3 (tN x))), (0, .ref (ad c 0 0)), (1, .int x), (2, .int s2), (3, .int g), (4, .int h), (5, .int n)]) F dX3_ask_119 (by decide) rfl ?_
              refine x_aload F dX3_ask_121 0 rfl ?_
              refine x_iload F dX3_ask_123 8 rfl ?_
              refine x_putN (C := "GliderDay$Flight") (T := TX0) (N := 11) F hvI hqA rfl (j := 4) (by decide) inX0 tyX0 tyX0_ok nmX0 nw_161 (Or.inl rfl) rfl rfl rfl rfl (Nat.le_of_ble_eq_true rfl) dX3_ask_125 (fun Hp1 hvp1 hsp1 => ?_)
              have hzp1 := Nat.le_trans hzI (Nat.le_of_eq hsp1.1.symm)
              have hfp1 : ∀ p, p < H0.size → Hp1[p]? = H0[p]? := fun p hp => (hsp1.2 p (by omega)).trans (hfI p hp)
              have hRp1 : Rep G A c Hp1 := ⟨T, bA, cp, mo, hX0.ext hzp1 hfp1⟩
              refine x_aload F dX3_ask_128 0 rfl ?_
              refine x_iload F dX3_ask_130 9 rfl ?_
              refine x_putN (C := "GliderDay$Flight") (T := TX0) (N := 11) F hvp1 hqA rfl (j := 5) (by decide) inX0 tyX0 tyX0_ok nmX0 nw_164 (Or.inl rfl) rfl rfl rfl rfl (Nat.le_of_ble_eq_true rfl) dX3_ask_132 (fun Hp2 hvp2 hsp2 => ?_)
              have hzp2 := Nat.le_trans hzp1 (Nat.le_of_eq hsp2.1.symm)
              have hfp2 : ∀ p, p < H0.size → Hp2[p]? = H0[p]? := fun p hp => (hsp2.2 p (by omega)).trans (hfp1 p hp)
              have hRp2 : Rep G A c Hp2 := ⟨T, bA, cp, mo, hX0.ext hzp2 hfp2⟩
              refine x_aload F dX3_ask_135 0 rfl ?_
              refine x_aload_n F dX3_ask_137 4 rfl rfl ?_
              refine y_getD (c := c) (j := 9) (v := .int (cD c 9)) F hRp2 mw_90 rfl (by decide) rfl dX3_ask_138 ?_
              refine x_putN (C := "GliderDay$Flight") (T := TX0) (N := 11) F hvp2 hqA rfl (j := 7) (by decide) inX0 tyX0 tyX0_ok nmX0 nw_167 (Or.inl rfl) rfl rfl rfl rfl (Nat.le_of_ble_eq_true rfl) dX3_ask_141 (fun Hp3 hvp3 hsp3 => ?_)
              have hzp3 := Nat.le_trans hzp2 (Nat.le_of_eq hsp3.1.symm)
              have hfp3 : ∀ p, p < H0.size → Hp3[p]? = H0[p]? := fun p hp => (hsp3.2 p (by omega)).trans (hfp2 p hp)
              have hRp3 : Rep G A c Hp3 := ⟨T, bA, cp, mo, hX0.ext hzp3 hfp3⟩
              refine x_aload_n F dX3_ask_144 4 rfl rfl ?_
              refine y_getD (c := c) (j := 2) (v := .ref (ad c 1 2)) F hRp3 mw_83 rfl (by decide) rfl dX3_ask_145 ?_
              refine x_aload F dX3_ask_148 0 rfl ?_
              have hXa : RepX G A c Hp3 T bA cp mo := hX0.ext hzp3 hfp3
              have hwf := hX0.2.2.2.2.2.2.2.1
              have hn16 : nf c < 100 := lt_of_nI (show nI (nf c) < nI 100 from h31) (bnd hwf).2.2.1 (by decide)
              refine y_ladd (c := c) (st := []) (c' := (e_fli c (tN x) none (tN g) h n q)) (te := 102 + 3 * nf c) (e := q) (k5 := 2) F hXa (by decide) (by rw [els_2]; omega) k_X3_79 ⟨(Nat.le_of_ble_eq_true rfl), (Nat.le_of_ble_eq_true rfl)⟩ (Nat.le_of_ble_eq_true rfl) (Nat.le_of_ble_eq_true rfl) dX3_ask_150 (Nat.le_of_ble_eq_true rfl) ⟨1, _, by decide, by decide, hvp3⟩ ⟨by omega, Or.inr hTq, hqA⟩ (rng_app (adn c 5 (nf c) q 5) (ad c 5) (nf c) q (fun i hi => adn_i (Nat.ne_of_lt hi)) adn_s) ⟨congrFun (adn_t (by decide) : adn c 5 (nf c) q 0 = ad c 0) 0, congrFun (adn_t (by decide) : adn c 5 (nf c) q 2 = ad c 2) 0, fun k => congrFun (adn_t (by decide) : adn c 5 (nf c) q 1 = ad c 1) k⟩ (fun k hk hkk => ?_) ?_ (fun _ => rfl) (fun i hi => Or.inl ⟨hi, congrFun (adn_t (by decide) : adn c 5 (nf c) q 3 = ad c 3) i, rfl⟩) (fun i hi => Or.inl ⟨hi, congrFun (adn_t (by decide) : adn c 5 (nf c) q 4 = ad c 4) i, e_fli_gli hwf hi⟩) (fun i hi => ?_) (e_fli_wf hwf hn16 hi4 hi25 (fun s hs => by cases hs)) (Or.inr rfl) (fun H9 hR9 hz9 => ?_)
              · rcases (show k = 0 ∨ k = 1 ∨ k = 3 ∨ k = 4 by omega) with rfl | rfl | rfl | rfl
                · show List.map (adn c 5 (nf c) q 3) _ = List.map (ad c 3) _; rw [(adn_t (by decide) : adn c 5 (nf c) q 3 = ad c 3)]; rfl
                · show List.map (adn c 5 (nf c) q 4) _ = List.map (ad c 4) _; rw [(adn_t (by decide) : adn c 5 (nf c) q 4 = ad c 4)]; rfl
                · exact els_e_fli hwf
                · show List.map (adn c 5 (nf c) q 4) _ = List.map (ad c 4) _; rw [(adn_t (by decide) : adn c 5 (nf c) q 4 = ad c 4)]; rfl
              · unfold dayV; rw [show ad (e_fli c (tN x) none (tN g) h n q) 1 = ad c 1 from (adn_t (by decide) : adn c 5 (nf c) q 1 = ad c 1), show ad (e_fli c (tN x) none (tN g) h n q) 2 = ad c 2 from (adn_t (by decide) : adn c 5 (nf c) q 2 = ad c 2)]; rfl
              · rcases Nat.lt_or_ge i (nf c) with h9 | h9
                · exact Or.inl ⟨h9, adn_i (Nat.ne_of_lt h9), e_fli_fli h9⟩
                · have hi2 : i < nf c + 1 := hi
                  obtain rfl : i = nf c := by omega
                  exact Or.inr ⟨adn_s, rfl, by rw [e_fli_new]; exact hvp3⟩
              have hq5 : ad (e_fli c (tN x) none (tN g) h n q) 5 (nf c) = q := (adn_s : adn c 5 (nf c) q 5 (nf c) = q)
              have had0 : ad (e_fli c (tN x) none (tN g) h n q) 0 = ad c 0 := (adn_t (by decide) : adn c 5 (nf c) q 0 = ad c 0)
              refine wx_lv (lv' := [(9, .ref (ad (e_fli c (tN x) none (tN g) h n q) 5 (nf c))), (8, .ref (ad c 4 (tN g))), (7, .null), (6, .ref (ad c 3 (tN x))), (0, .ref (ad (e_fli c (tN x) none (tN g) h n q) 0 0)), (1, .int x), (2, .int s2), (3, .int g), (4, .int h), (5, .int n)]) (by rw [hq5, had0]) ?_
              refine x_pop F dX3_ask_153 rfl ?_
              refine x_aload_n F dX3_ask_154 4 rfl rfl ?_
              refine y_getD (c := (e_fli c (tN x) none (tN g) h n q)) (j := 3) (v := .ref (ad (e_fli c (tN x) none (tN g) h n q) 1 3)) F hR9 mw_84 rfl (by decide) rfl dX3_ask_155 ?_
              refine x_aload F dX3_ask_158 0 rfl ?_
              obtain ⟨T2, bA2, cp2, mo2, hX2⟩ := id hR9
              have hwf2 := hX2.2.2.2.2.2.2.2.1
              have hf7 := hX2.2.2.2.2.2.2.1 (nf c) (Nat.lt_succ_self _)
              have hl30 : (lst c).length < 30 := lt_of_nI (show nI (lst c).length < nI 30 from Int32.not_le.mp h30) (bnd hwf).2.2.2.1 (by decide)
              refine y_ladd (c := (e_fli c (tN x) none (tN g) h n q)) (st := []) (c' := (sL (e_fli c (tN x) none (tN g) h n q) (lst c ++ [nf c]))) (te := T2 (ad (e_fli c (tN x) none (tN g) h n q) 5 (nf c))) (e := ad (e_fli c (tN x) none (tN g) h n q) 5 (nf c)) (k5 := 3) F hX2 (by decide) (by rw [els_3]; show (lst c).length < 130; omega) k_X3_79 ⟨(Nat.le_of_ble_eq_true rfl), (Nat.le_of_ble_eq_true rfl)⟩ (Nat.le_of_ble_eq_true rfl) (Nat.le_of_ble_eq_true rfl) dX3_ask_160 (Nat.le_of_ble_eq_true rfl) ⟨1, _, by decide, by decide, hf7.2⟩ ⟨by rw [hf7.1]; omega, Or.inl rfl, hR9.inA.2.2.2.2 (nf c) (Nat.lt_succ_self _)⟩ (by show (lst c ++ [nf c]).map _ = (lst c).map _ ++ _; rw [List.map_append]; rfl) ⟨rfl, rfl, fun _ => rfl⟩ (fun k hk hkk => by rcases (show k = 0 ∨ k = 1 ∨ k = 2 ∨ k = 4 by omega) with rfl | rfl | rfl | rfl <;> rfl) rfl (fun _ => rfl) (fun j hj => Or.inl ⟨hj, rfl, rfl⟩) (fun j hj => Or.inl ⟨hj, rfl, rfl⟩) (fun j hj => Or.inl ⟨hj, rfl, rfl⟩) ⟨hwf2.1, hwf2.2.1, hwf2.2.2.1, ⟨fun q9 hq9 => ?_, ?_⟩, hwf2.2.2.2.2⟩ (Or.inr rfl) (fun H8 hR8 hz8 => ?_)
              · rcases List.mem_append.mp hq9 with q1 | q1
                · exact hwf2.2.2.2.1.1 q9 q1
                · rw [List.mem_singleton.mp q1]; exact Nat.lt_succ_self _
              · show (lst c ++ [nf c]).length ≤ 100; rw [List.length_append]; show (lst c).length + 1 ≤ 100; omega
              refine x_pop F dX3_ask_163 rfl ?_
              refine x_aload F dX3_ask_164 0 rfl ?_
              refine y_getF (c := (sL (e_fli c (tN x) none (tN g) h n q) (lst c ++ [nf c]))) (i := (nf c)) (j := 0) (v := .int (nI (nf c))) F hR8 (Nat.lt_succ_self _) nw_170 rfl (by decide) rfl dX3_ask_166 ?_
              have ho : o_ask c x s2 g h n q = (0, nI (nf c), (sL (e_fli c (tN x) none (tN g) h n q) (lst c ++ [nf c]))) := by unfold o_ask; rw [if_pos hb3, if_pos (Or.inl h6), if_pos hb24, if_neg (fun q => q.elim h27 (fun q => q.elim (fun q => q h28) (fun q => q h29))), if_neg (fun q => q.elim h30 (fun q => Int32.not_lt.mpr q h31)), if_pos h6]
              exact x_iret F hE dX3_ask_169 (Nat.le_of_ble_eq_true rfl) (Nat.le_of_ble_eq_true rfl) (⟨q, by rw [ho], by rw [ho], by rw [ho]; exact hR8⟩)
            · have h31' := Int32.not_lt.mp h31
              refine x_throw F hX hL0 thr_2 st_154 dX3_ask_89 dX3_ask_92 dX3_ask_93 dX3_ask_95 dX3_ask_98 (Nat.le_of_ble_eq_true rfl) (Nat.le_of_ble_eq_true rfl) (Nat.le_of_ble_eq_true rfl) (Nat.le_of_ble_eq_true rfl) (fun H9 hz9 ho9 => ?_)
              have ho : (o_ask c x s2 g h n 0).1 = 2 := by unfold o_ask; rw [if_pos hb3, if_pos (Or.inl h6), if_pos hb24, if_neg (fun q => q.elim h27 (fun q => q.elim (fun q => q h28) (fun q => q h29))), if_pos (Or.inr (Int32.not_lt.mp h31))]
              exact ⟨(congrArg xN ho).symm, by rw [ho]; decide, hR.ext hz9 ho9⟩
        · replace h29 := bI_0.mp h29
          refine x_throw F hX hL0 thr_1 st_152 dX3_ask_55 dX3_ask_58 dX3_ask_59 dX3_ask_61 dX3_ask_64 (Nat.le_of_ble_eq_true rfl) (Nat.le_of_ble_eq_true rfl) (Nat.le_of_ble_eq_true rfl) (Nat.le_of_ble_eq_true rfl) (fun H9 hz9 ho9 => ?_)
          have ho : (o_ask c x s2 g h n 0).1 = 1 := by unfold o_ask; rw [if_pos hb3, if_pos (Or.inl h6), if_pos hb24, if_pos (Or.inr (Or.inr h29))]
          exact ⟨(congrArg xN ho).symm, by rw [ho]; decide, hR.ext hz9 ho9⟩
end CL6
