/-! the day as numbers (CS), and the heap that holds it (Rep) -/
section RP
/-- ints of the day by slot (6 tugs .. 12 busyUntil; 13, 14 the tugs' due times), ints of members, gliders, flights by number and slot, what a glider flies, whom and what a flight has, how many, the list and the waiting, the addresses (0 the day, 1 its lists, 2 the due times, 3 members, 4 gliders, 5 flights) -/
abbrev CS : Type := (Nat → Int32) × (Nat → Nat → Int32) × (Nat → Nat → Int32) × (Nat → Nat → Int32) × (Nat → Option Nat) × (Nat → Nat × Option Nat × Nat) × (Nat × Nat × Nat × Bool) × (List Nat × List Nat) × (Nat → Nat → Nat)
def cD (c : CS) : Nat → Int32 := c.1
def cM (c : CS) : Nat → Nat → Int32 := c.2.1
def cG (c : CS) : Nat → Nat → Int32 := c.2.2.1
def cF (c : CS) : Nat → Nat → Int32 := c.2.2.2.1
def cgF (c : CS) : Nat → Option Nat := c.2.2.2.2.1
def cR (c : CS) : Nat → Nat × Option Nat × Nat := c.2.2.2.2.2.1
def nm (c : CS) : Nat := c.2.2.2.2.2.2.1.1
def ng (c : CS) : Nat := c.2.2.2.2.2.2.1.2.1
def nf (c : CS) : Nat := c.2.2.2.2.2.2.1.2.2.1
/-- the waiting list has an array of its own -/
def ow (c : CS) : Bool := c.2.2.2.2.2.2.1.2.2.2
def lst (c : CS) : List Nat := c.2.2.2.2.2.2.2.1.1
def wtg (c : CS) : List Nat := c.2.2.2.2.2.2.2.1.2
def ad (c : CS) : Nat → Nat → Nat := c.2.2.2.2.2.2.2.2
def up2 (f : Nat → Nat → Int32) (i j : Nat) (v : Int32) : Nat → Nat → Int32 := fun a b => if b = j ∧ a = i then v else f a b
def sD (c : CS) (j : Nat) (v : Int32) : CS := (fun k => if k = j then v else c.1 k, c.2)
def sM (c : CS) (i j : Nat) (v : Int32) : CS := (c.1, up2 c.2.1 i j v, c.2.2)
def sG (c : CS) (i j : Nat) (v : Int32) : CS := (c.1, c.2.1, up2 c.2.2.1 i j v, c.2.2.2)
def sF (c : CS) (i j : Nat) (v : Int32) : CS := (c.1, c.2.1, c.2.2.1, up2 c.2.2.2.1 i j v, c.2.2.2.2)
def sgF (c : CS) (i : Nat) (o : Option Nat) : CS := (c.1, c.2.1, c.2.2.1, c.2.2.2.1, fun g => if g = i then o else c.2.2.2.2.1 g, c.2.2.2.2.2)
def sL (c : CS) (l : List Nat) : CS := (c.1, c.2.1, c.2.2.1, c.2.2.2.1, c.2.2.2.2.1, c.2.2.2.2.2.1, c.2.2.2.2.2.2.1, (l, c.2.2.2.2.2.2.2.1.2), c.2.2.2.2.2.2.2.2)
def sW (c : CS) (l : List Nat) : CS := (c.1, c.2.1, c.2.2.1, c.2.2.2.1, c.2.2.2.2.1, c.2.2.2.2.2.1, c.2.2.2.2.2.2.1, (c.2.2.2.2.2.2.2.1.1, l), c.2.2.2.2.2.2.2.2)
/-- the waiting list grew -/
def sWa (c : CS) (l : List Nat) : CS := (c.1, c.2.1, c.2.2.1, c.2.2.2.1, c.2.2.2.2.1, c.2.2.2.2.2.1, (c.2.2.2.2.2.2.1.1, c.2.2.2.2.2.2.1.2.1, c.2.2.2.2.2.2.1.2.2.1, true), (c.2.2.2.2.2.2.2.1.1, l), c.2.2.2.2.2.2.2.2)
def dayV (c : CS) : List Value := [.ref (ad c 1 0), .ref (ad c 1 1), .ref (ad c 1 2), .ref (ad c 1 3), .ref (ad c 1 4), .ref (ad c 2 0), .int (cD c 6), .int (cD c 7), .int (cD c 8), .int (cD c 9), .int (cD c 10), .int (cD c 11), .int (cD c 12)]
def memV (c : CS) (i : Nat) : List Value := [.int (nI i), .int (cM c i 1), .int (cM c i 2), .int (cM c i 3), .int (cM c i 4), .int (cM c i 5), .int (cM c i 6), .int (cM c i 7)]
def gliV (c : CS) (i : Nat) : List Value := [.int (nI i), .int (cG c i 1), .int (cG c i 2), .int (cG c i 3), .int (cG c i 4), .int (cG c i 5), .int (cG c i 6), .int (cG c i 7), .int (cG c i 8), va_rf ((cgF c i).map (ad c 5))]
def fliV (c : CS) (i : Nat) : List Value := [.int (nI i), .ref (ad c 3 (cR c i).1), va_rf ((cR c i).2.1.map (ad c 3)), .ref (ad c 4 (cR c i).2.2), .int (cF c i 4), .int (cF c i 5), .int (cF c i 6), .int (cF c i 7), .int (cF c i 8), .int (cF c i 9), .int (cF c i 10)]
def els (c : CS) (k : Nat) : List Nat := match k with
  | 0 => (List.range (nm c)).map (ad c 3)
  | 1 => (List.range (ng c)).map (ad c 4)
  | 2 => (List.range (nf c)).map (ad c 5)
  | 3 => (lst c).map (ad c 5)
  | _ => (wtg c).map (ad c 4)
def Wf (c : CS) : Prop := (nm c ≤ 16 ∧ ng c ≤ 8 ∧ nf c ≤ 100) ∧ (∀ f, f < nf c → (cR c f).1 < nm c ∧ (cR c f).2.2 < ng c ∧ ∀ s, (cR c f).2.1 = some s → s < nm c) ∧ (∀ g, g < ng c → ∀ f, cgF c g = some f → f < nf c) ∧ ((∀ f ∈ lst c, f < nf c) ∧ (lst c).length ≤ 100) ∧ ((∀ g ∈ wtg c, g < ng c) ∧ (wtg c).length ≤ 100)
/-- a list: its object, and its array (P: what is said of an array of its own), or the empty array of all -/
def LsP (G : GT) (P : Prop) (lo b cap : Nat) (mo : Int32) (xs : List Nat) (H : Heap) : Prop := vt G lo (oL mo b xs.length) H ∧ ((b = G.2.2.1.1 ∧ cap = 0 ∧ xs = []) ∨ (P ∧ 10 ≤ cap ∧ cap ≤ 200 ∧ xs.length ≤ cap ∧ vt G b (aO G cap (fun i => xs[i]?)) H))
def RepX (G : GT) (A : Nat → Prop) (c : CS) (H : Heap) (T : Nat → Nat) (bA cp : Nat → Nat) (mo : Nat → Int32) : Prop :=
  (∀ a, T a ≠ 0 → A a ∧ a < H.size) ∧ (T (ad c 0 0) = 1 ∧ vt G (ad c 0 0) (.inr (4, dayV c)) H) ∧ (T (ad c 2 0) = 2 ∧ vt G (ad c 2 0) (.inl (G.2.1.1, 2, .inl (fun i => cD c (13 + i)))) H) ∧
  (∀ k, k < 5 → T (ad c 1 k) = 10 + k ∧ LsP G (T (bA k) = 20 + k) (ad c 1 k) (bA k) (cp k) (mo k) (els c k) H) ∧
  (∀ i, i < nm c → T (ad c 3 i) = 100 + 3 * i ∧ vt G (ad c 3 i) (.inr (3, memV c i)) H) ∧ (∀ i, i < ng c → T (ad c 4 i) = 101 + 3 * i ∧ vt G (ad c 4 i) (.inr (2, gliV c i)) H) ∧ (∀ i, i < nf c → T (ad c 5 i) = 102 + 3 * i ∧ vt G (ad c 5 i) (.inr (1, fliV c i)) H) ∧ Wf c ∧ (ow c = true → 10 ≤ cp 4)
def Rep (G : GT) (A : Nat → Prop) (c : CS) (H : Heap) : Prop := ∃ (T : Nat → Nat) (bA cp : Nat → Nat) (mo : Nat → Int32), RepX G A c H T bA cp mo
variable {G : GT} {A : Nat → Prop} {c : CS} {H H1 : Heap} {T : Nat → Nat} {bA cp : Nat → Nat} {mo : Nat → Int32}
theorem Rep.day (h : Rep G A c H) : vt G (ad c 0 0) (.inr (4, dayV c)) H := by
  obtain ⟨T, bA, cp, mo, h⟩ := h
  exact h.2.1.2
theorem Rep.tug (h : Rep G A c H) : vt G (ad c 2 0) (.inl (G.2.1.1, 2, .inl (fun i => cD c (13 + i)))) H := by
  obtain ⟨T, bA, cp, mo, h⟩ := h
  exact h.2.2.1.2
theorem Rep.mem (h : Rep G A c H) {i : Nat} (hi : i < nm c) : vt G (ad c 3 i) (.inr (3, memV c i)) H := by
  obtain ⟨T, bA, cp, mo, h⟩ := h
  exact (h.2.2.2.2.1 i hi).2
theorem Rep.gli (h : Rep G A c H) {i : Nat} (hi : i < ng c) : vt G (ad c 4 i) (.inr (2, gliV c i)) H := by
  obtain ⟨T, bA, cp, mo, h⟩ := h
  exact (h.2.2.2.2.2.1 i hi).2
theorem Rep.fli (h : Rep G A c H) {i : Nat} (hi : i < nf c) : vt G (ad c 5 i) (.inr (1, fliV c i)) H := by
  obtain ⟨T, bA, cp, mo, h⟩ := h
  exact (h.2.2.2.2.2.2.1 i hi).2
theorem Rep.wf (h : Rep G A c H) : Wf c := by
  obtain ⟨T, bA, cp, mo, h⟩ := h
  exact h.2.2.2.2.2.2.2.1
theorem RepX.el (h : RepX G A c H T bA cp mo) {k : Nat} (hk : k < 5) {e : Nat} (he : e ∈ els c k) : ob G e H ∧ 100 ≤ T e := by
  obtain ⟨h1, h2, h3, h4, h5, h6, h7, hw, -⟩ := h
  have hm : ∀ i, i < nm c → ob G (ad c 3 i) H ∧ 100 ≤ T (ad c 3 i) := fun i hi => ⟨⟨3, _, by omega, by omega, (h5 i hi).2⟩, by rw [(h5 i hi).1]; omega⟩
  have hg : ∀ i, i < ng c → ob G (ad c 4 i) H ∧ 100 ≤ T (ad c 4 i) := fun i hi => ⟨⟨2, _, by omega, by omega, (h6 i hi).2⟩, by rw [(h6 i hi).1]; omega⟩
  have hf : ∀ i, i < nf c → ob G (ad c 5 i) H ∧ 100 ≤ T (ad c 5 i) := fun i hi => ⟨⟨1, _, by omega, by omega, (h7 i hi).2⟩, by rw [(h7 i hi).1]; omega⟩
  rcases (show k = 0 ∨ k = 1 ∨ k = 2 ∨ k = 3 ∨ k = 4 by omega) with rfl | rfl | rfl | rfl | rfl
  · obtain ⟨i, hi, rfl⟩ := List.mem_map.mp he
    exact hm i (List.mem_range.mp hi)
  · obtain ⟨i, hi, rfl⟩ := List.mem_map.mp he
    exact hg i (List.mem_range.mp hi)
  · obtain ⟨i, hi, rfl⟩ := List.mem_map.mp he
    exact hf i (List.mem_range.mp hi)
  · obtain ⟨i, hi, rfl⟩ := List.mem_map.mp he
    exact hf i (hw.2.2.2.1.1 i hi)
  · obtain ⟨i, hi, rfl⟩ := List.mem_map.mp he
    exact hg i (hw.2.2.2.2.1 i hi)
theorem LsP.kept {P : Prop} {lo b cap : Nat} {m : Int32} {xs : List Nat} (h : LsP G P lo b cap m xs H) (h1 : H1[lo]? = H[lo]?) (h2 : P → H1[b]? = H[b]?) : LsP G P lo b cap m xs H1 := by
  obtain ⟨g1, g2⟩ := h
  refine ⟨g1.kept h1, ?_⟩
  rcases g2 with g2 | ⟨p, q1, q2, q3, q4⟩
  · exact Or.inl g2
  · exact Or.inr ⟨p, q1, q2, q3, q4.kept (h2 p)⟩
/-- nothing of the day is touched -/
theorem Rep.kept (h : Rep G A c H) (hz : H.size ≤ H1.size) (hq : ∀ q, A q → q < H.size → (∃ (T : Nat → Nat) (bA cp : Nat → Nat) (mo : Nat → Int32), RepX G A c H T bA cp mo ∧ T q ≠ 0) → H1[q]? = H[q]?) : Rep G A c H1 := by
  obtain ⟨T, bA, cp, mo, h⟩ := h
  have hk : ∀ q, T q ≠ 0 → H1[q]? = H[q]? := fun q hT => hq q (h.1 q hT).1 (h.1 q hT).2 ⟨T, bA, cp, mo, h, hT⟩
  obtain ⟨h1, h2, h3, h4, h5, h6, h7, hw, how⟩ := h
  refine ⟨T, bA, cp, mo, fun a ha => ⟨(h1 a ha).1, Nat.lt_of_lt_of_le (h1 a ha).2 hz⟩, ⟨h2.1, h2.2.kept (hk _ (by rw [h2.1]; decide))⟩, ⟨h3.1, h3.2.kept (hk _ (by rw [h3.1]; decide))⟩, fun k hk5 => ⟨(h4 k hk5).1, (h4 k hk5).2.kept (hk _ (by rw [(h4 k hk5).1]; omega)) (fun p => hk _ (by rw [p]; omega))⟩, fun i hi => ⟨(h5 i hi).1, (h5 i hi).2.kept (hk _ (by rw [(h5 i hi).1]; omega))⟩, fun i hi => ⟨(h6 i hi).1, (h6 i hi).2.kept (hk _ (by rw [(h6 i hi).1]; omega))⟩, fun i hi => ⟨(h7 i hi).1, (h7 i hi).2.kept (hk _ (by rw [(h7 i hi).1]; omega))⟩, hw, how⟩
theorem Rep.new (h : Rep G A c H) (hn : hnew H H1) : Rep G A c H1 := h.kept (by have := hn.1; omega) (fun q _ hq _ => hn.2 q hq)
theorem Rep.ext (h : Rep G A c H) (hz : H.size ≤ H1.size) (hn : ∀ q, q < H.size → H1[q]? = H[q]?) : Rep G A c H1 := h.kept hz (fun q _ hq _ => hn q hq)
/-- one cell of the day is written: of its own object, the due times, a member, a glider, a flight -/
theorem Rep.put {a : Nat} {c' : CS} (h : Rep G A c H) (hs : hset H a H1) (had : ad c' = ad c) (hnum : nm c' = nm c ∧ ng c' = ng c ∧ nf c' = nf c ∧ ow c' = ow c) (hls : lst c' = lst c ∧ wtg c' = wtg c) (hw : Wf c')
    (hday : (a = ad c 0 0 ∧ vt G a (.inr (4, dayV c')) H1) ∨ (a ≠ ad c 0 0 ∧ dayV c' = dayV c))
    (htug : (a = ad c 2 0 ∧ vt G a (.inl (G.2.1.1, 2, .inl (fun i => cD c' (13 + i)))) H1) ∨ (a ≠ ad c 2 0 ∧ ∀ i, cD c' (13 + i) = cD c (13 + i)))
    (hmem : ∀ i, i < nm c → (a = ad c 3 i ∧ vt G a (.inr (3, memV c' i)) H1) ∨ (a ≠ ad c 3 i ∧ memV c' i = memV c i))
    (hgli : ∀ i, i < ng c → (a = ad c 4 i ∧ vt G a (.inr (2, gliV c' i)) H1) ∨ (a ≠ ad c 4 i ∧ gliV c' i = gliV c i))
    (hfli : ∀ i, i < nf c → (a = ad c 5 i ∧ vt G a (.inr (1, fliV c' i)) H1) ∨ (a ≠ ad c 5 i ∧ fliV c' i = fliV c i))
    (hlis : ∀ (T : Nat → Nat) (bA cp : Nat → Nat) (mo : Nat → Int32), RepX G A c H T bA cp mo → T a < 10 ∨ 100 ≤ T a) : Rep G A c' H1 := by
  obtain ⟨T, bA, cp, mo, h⟩ := h
  have hTa := hlis T bA cp mo h
  obtain ⟨h1, h2, h3, h4, h5, h6, h7, -, how⟩ := h
  obtain ⟨n1, n2, n3, n4⟩ := hnum
  have hel : ∀ k, els c' k = els c k := by
    intro k
    unfold els
    rw [n1, n2, n3, hls.1, hls.2, had]
  refine ⟨T, bA, cp, mo, fun x hx => ⟨(h1 x hx).1, by rw [hs.1]; exact (h1 x hx).2⟩, ?_, ?_, ?_, ?_, ?_, ?_, hw, by rw [n4]; exact how⟩
  · rw [had]
    refine ⟨h2.1, ?_⟩
    rcases hday with ⟨e, hv⟩ | ⟨e, hv⟩
    · rw [← e]; exact hv
    · rw [hv]; exact h2.2.kept (hs.2 _ (Ne.symm e))
  · rw [had]
    refine ⟨h3.1, ?_⟩
    rcases htug with ⟨e, hv⟩ | ⟨e, hv⟩
    · rw [← e]; exact hv
    · rw [show (fun i => cD c' (13 + i)) = (fun i => cD c (13 + i)) from funext hv]; exact h3.2.kept (hs.2 _ (Ne.symm e))
  · intro k hk
    rw [had, hel]
    refine ⟨(h4 k hk).1, (h4 k hk).2.kept (hs.2 _ (fun e => ?_)) (fun p => hs.2 _ (fun e => ?_))⟩
    · have := (h4 k hk).1; rw [e] at this; omega
    · rw [e] at p; omega
  · intro i hi
    rw [n1] at hi
    rw [had]
    refine ⟨(h5 i hi).1, ?_⟩
    rcases hmem i hi with ⟨e, hv⟩ | ⟨e, hv⟩
    · rw [← e]; exact hv
    · rw [hv]; exact (h5 i hi).2.kept (hs.2 _ (Ne.symm e))
  · intro i hi
    rw [n2] at hi
    rw [had]
    refine ⟨(h6 i hi).1, ?_⟩
    rcases hgli i hi with ⟨e, hv⟩ | ⟨e, hv⟩
    · rw [← e]; exact hv
    · rw [hv]; exact (h6 i hi).2.kept (hs.2 _ (Ne.symm e))
  · intro i hi
    rw [n3] at hi
    rw [had]
    refine ⟨(h7 i hi).1, ?_⟩
    rcases hfli i hi with ⟨e, hv⟩ | ⟨e, hv⟩
    · rw [← e]; exact hv
    · rw [hv]; exact (h7 i hi).2.kept (hs.2 _ (Ne.symm e))
theorem RepX.apart (h : RepX G A c H T bA cp mo) : (∀ i, i < nm c → ad c 0 0 ≠ ad c 3 i ∧ ad c 2 0 ≠ ad c 3 i ∧ (∀ j, j < ng c → ad c 4 j ≠ ad c 3 i) ∧ (∀ j, j < nf c → ad c 5 j ≠ ad c 3 i) ∧ ∀ j, j < nm c → ad c 3 j = ad c 3 i → j = i) ∧ (∀ i, i < ng c → ad c 0 0 ≠ ad c 4 i ∧ ad c 2 0 ≠ ad c 4 i ∧ (∀ j, j < nf c → ad c 5 j ≠ ad c 4 i) ∧ ∀ j, j < ng c → ad c 4 j = ad c 4 i → j = i) ∧ (∀ i, i < nf c → ad c 0 0 ≠ ad c 5 i ∧ ad c 2 0 ≠ ad c 5 i ∧ ∀ j, j < nf c → ad c 5 j = ad c 5 i → j = i) ∧ ad c 0 0 ≠ ad c 2 0 := by
  obtain ⟨h1, h2, h3, h4, h5, h6, h7, -⟩ := h
  have nn : ∀ {x y : Nat} {u v : Nat}, T x = u → T y = v → u ≠ v → x ≠ y := fun hx hy huv e => huv (by rw [← hx, ← hy, e])
  refine ⟨fun i hi => ⟨nn h2.1 (h5 i hi).1 (by omega), nn h3.1 (h5 i hi).1 (by omega), fun j hj => nn (h6 j hj).1 (h5 i hi).1 (by omega), fun j hj => nn (h7 j hj).1 (h5 i hi).1 (by omega), fun j hj e => ?_⟩, fun i hi => ⟨nn h2.1 (h6 i hi).1 (by omega), nn h3.1 (h6 i hi).1 (by omega), fun j hj => nn (h7 j hj).1 (h6 i hi).1 (by omega), fun j hj e => ?_⟩, fun i hi => ⟨nn h2.1 (h7 i hi).1 (by omega), nn h3.1 (h7 i hi).1 (by omega), fun j hj e => ?_⟩, nn h2.1 h3.1 (by decide)⟩
  · have e1 := (h5 j hj).1; rw [e, (h5 i hi).1] at e1; omega
  · have e1 := (h6 j hj).1; rw [e, (h6 i hi).1] at e1; omega
  · have e1 := (h7 j hj).1; rw [e, (h7 i hi).1] at e1; omega
theorem Rep.putD (h : Rep G A c H) {j : Nat} {v : Int32} (hj : j < 13) (hs : hset H (ad c 0 0) H1) (hv : vt G (ad c 0 0) (.inr (4, dayV (sD c j v))) H1) : Rep G A (sD c j v) H1 := by
  have hw := h.wf
  obtain ⟨T, bA, cp, mo, hX⟩ := id h
  obtain ⟨a1, a2, a3, a4⟩ := hX.apart
  exact h.put hs rfl ⟨rfl, rfl, rfl, rfl⟩ ⟨rfl, rfl⟩ hw (Or.inl ⟨rfl, hv⟩) (Or.inr ⟨a4, fun i => if_neg (by omega)⟩) (fun i hi => Or.inr ⟨(a1 i hi).1, rfl⟩) (fun i hi => Or.inr ⟨(a2 i hi).1, rfl⟩) (fun i hi => Or.inr ⟨(a3 i hi).1, rfl⟩) (fun T bA cp mo q => Or.inl (by rw [q.2.1.1]; decide))
theorem Rep.putT (h : Rep G A c H) {j : Nat} {v : Int32} (hs : hset H (ad c 2 0) H1) (hv : vt G (ad c 2 0) (.inl (G.2.1.1, 2, .inl (upd (fun i => cD c (13 + i)) j v))) H1) : Rep G A (sD c (13 + j) v) H1 := by
  have hw := h.wf
  obtain ⟨T, bA, cp, mo, hX⟩ := id h
  obtain ⟨a1, a2, a3, a4⟩ := hX.apart
  refine h.put hs rfl ⟨rfl, rfl, rfl, rfl⟩ ⟨rfl, rfl⟩ hw (Or.inr ⟨Ne.symm a4, ?_⟩) (Or.inl ⟨rfl, ?_⟩) (fun i hi => Or.inr ⟨(a1 i hi).2.1, rfl⟩) (fun i hi => Or.inr ⟨(a2 i hi).2.1, rfl⟩) (fun i hi => Or.inr ⟨(a3 i hi).2.1, rfl⟩) (fun T bA cp mo q => Or.inl (by rw [q.2.2.1.1]; decide))
  · have e : ∀ k, k < 13 → cD (sD c (13 + j) v) k = cD c k := fun k hk => if_neg (by omega)
    unfold dayV
    rw [e 6 (by omega), e 7 (by omega), e 8 (by omega), e 9 (by omega), e 10 (by omega), e 11 (by omega), e 12 (by omega)]
    rfl
  · have e : (fun i => cD (sD c (13 + j) v) (13 + i)) = upd (fun i => cD c (13 + i)) j v := by
      funext i
      show (if 13 + i = 13 + j then v else c.1 (13 + i)) = if i = j then v else c.1 (13 + i)
      by_cases hij : i = j
      · rw [if_pos hij, if_pos (by omega)]
      · rw [if_neg hij, if_neg (by omega)]
    rw [e]
    exact hv
theorem up2_ne {f : Nat → Nat → Int32} {i j a b : Nat} {v : Int32} (h : a ≠ i) : up2 f i j v a b = f a b := if_neg (fun q => h q.2)
theorem Rep.putM (h : Rep G A c H) {i j : Nat} {v : Int32} (hi : i < nm c) (hs : hset H (ad c 3 i) H1) (hv : vt G (ad c 3 i) (.inr (3, memV (sM c i j v) i)) H1) : Rep G A (sM c i j v) H1 := by
  have hw := h.wf
  obtain ⟨T, bA, cp, mo, hX⟩ := id h
  obtain ⟨a1, a2, a3, a4⟩ := hX.apart
  refine h.put hs rfl ⟨rfl, rfl, rfl, rfl⟩ ⟨rfl, rfl⟩ hw (Or.inr ⟨Ne.symm (a1 i hi).1, rfl⟩) (Or.inr ⟨Ne.symm (a1 i hi).2.1, fun _ => rfl⟩) (fun k hk => ?_) (fun k hk => Or.inr ⟨fun e => (a1 i hi).2.2.1 k hk e.symm, rfl⟩) (fun k hk => Or.inr ⟨fun e => (a1 i hi).2.2.2.1 k hk e.symm, rfl⟩) (fun T bA cp mo q => Or.inr (by rw [(q.2.2.2.2.1 i hi).1]; omega))
  by_cases e : k = i
  · subst e; exact Or.inl ⟨rfl, hv⟩
  · refine Or.inr ⟨fun q => e ((a1 i hi).2.2.2.2 k hk q.symm), ?_⟩
    have e2 : ∀ b, cM (sM c i j v) k b = cM c k b := fun b => up2_ne e
    unfold memV
    simp only [e2]
theorem Rep.putG (h : Rep G A c H) {i j : Nat} {v : Int32} (hi : i < ng c) (hs : hset H (ad c 4 i) H1) (hv : vt G (ad c 4 i) (.inr (2, gliV (sG c i j v) i)) H1) : Rep G A (sG c i j v) H1 := by
  have hw := h.wf
  obtain ⟨T, bA, cp, mo, hX⟩ := id h
  obtain ⟨a1, a2, a3, a4⟩ := hX.apart
  refine h.put hs rfl ⟨rfl, rfl, rfl, rfl⟩ ⟨rfl, rfl⟩ hw (Or.inr ⟨Ne.symm (a2 i hi).1, rfl⟩) (Or.inr ⟨Ne.symm (a2 i hi).2.1, fun _ => rfl⟩) (fun k hk => Or.inr ⟨(a1 k hk).2.2.1 i hi, rfl⟩) (fun k hk => ?_) (fun k hk => Or.inr ⟨fun e => (a2 i hi).2.2.1 k hk e.symm, rfl⟩) (fun T bA cp mo q => Or.inr (by rw [(q.2.2.2.2.2.1 i hi).1]; omega))
  by_cases e : k = i
  · subst e; exact Or.inl ⟨rfl, hv⟩
  · refine Or.inr ⟨fun q => e ((a2 i hi).2.2.2 k hk q.symm), ?_⟩
    have e2 : ∀ b, cG (sG c i j v) k b = cG c k b := fun b => up2_ne e
    unfold gliV
    simp only [e2]
    rfl
theorem Rep.putGF (h : Rep G A c H) {i : Nat} {o : Option Nat} (hi : i < ng c) (ho : ∀ f, o = some f → f < nf c) (hs : hset H (ad c 4 i) H1) (hv : vt G (ad c 4 i) (.inr (2, gliV (sgF c i o) i)) H1) : Rep G A (sgF c i o) H1 := by
  have hw := h.wf
  obtain ⟨T, bA, cp, mo, hX⟩ := id h
  obtain ⟨a1, a2, a3, a4⟩ := hX.apart
  refine h.put hs rfl ⟨rfl, rfl, rfl, rfl⟩ ⟨rfl, rfl⟩ ⟨hw.1, hw.2.1, fun g hg f hf => ?_, hw.2.2.2⟩ (Or.inr ⟨Ne.symm (a2 i hi).1, rfl⟩) (Or.inr ⟨Ne.symm (a2 i hi).2.1, fun _ => rfl⟩) (fun k hk => Or.inr ⟨(a1 k hk).2.2.1 i hi, rfl⟩) (fun k hk => ?_) (fun k hk => Or.inr ⟨fun e => (a2 i hi).2.2.1 k hk e.symm, rfl⟩) (fun T bA cp mo q => Or.inr (by rw [(q.2.2.2.2.2.1 i hi).1]; omega))
  · have hf2 : (if g = i then o else cgF c g) = some f := hf
    by_cases e : g = i
    · rw [if_pos e] at hf2; exact ho f hf2
    · rw [if_neg e] at hf2; exact hw.2.2.1 g hg f hf2
  · by_cases e : k = i
    · subst e; exact Or.inl ⟨rfl, hv⟩
    · refine Or.inr ⟨fun q => e ((a2 i hi).2.2.2 k hk q.symm), ?_⟩
      have e2 : cgF (sgF c i o) k = cgF c k := if_neg e
      unfold gliV
      rw [e2]
      rfl
theorem Rep.putF (h : Rep G A c H) {i j : Nat} {v : Int32} (hi : i < nf c) (hs : hset H (ad c 5 i) H1) (hv : vt G (ad c 5 i) (.inr (1, fliV (sF c i j v) i)) H1) : Rep G A (sF c i j v) H1 := by
  have hw := h.wf
  obtain ⟨T, bA, cp, mo, hX⟩ := id h
  obtain ⟨a1, a2, a3, a4⟩ := hX.apart
  refine h.put hs rfl ⟨rfl, rfl, rfl, rfl⟩ ⟨rfl, rfl⟩ hw (Or.inr ⟨Ne.symm (a3 i hi).1, rfl⟩) (Or.inr ⟨Ne.symm (a3 i hi).2.1, fun _ => rfl⟩) (fun k hk => Or.inr ⟨(a1 k hk).2.2.2.1 i hi, rfl⟩) (fun k hk => Or.inr ⟨(a2 k hk).2.2.1 i hi, rfl⟩) (fun k hk => ?_) (fun T bA cp mo q => Or.inr (by rw [(q.2.2.2.2.2.2.1 i hi).1]; omega))
  by_cases e : k = i
  · subst e; exact Or.inl ⟨rfl, hv⟩
  · refine Or.inr ⟨fun q => e ((a3 i hi).2.2 k hk q.symm), ?_⟩
    have e2 : ∀ b, cF (sF c i j v) k b = cF c k b := fun b => up2_ne e
    unfold fliV
    simp only [e2]
    rfl
end RP
