/-! rows that read and write single cells: what the other cells hold stays -/
section CE
variable {L : Launch} {rm : Room} {G : GT} {A : Nat → Prop} {H0 : Heap} {n0 : Nat} {cc : ByteArray} {own : String} {E : WE} {H : Heap} {k n pc : Nat} {lv lv' : List (Nat × Value)} {st : List Value} {ret : Option FieldType} {nm : String} {Post : Heap → Option Value → Heap → Prop}
/-- a thing lies at a -/
def vt (G : GT) (a : Nat) (e : va_E) (H : Heap) : Prop := va_at G.1 vwCl (a, e) H
def hset (H : Heap) (a : Nat) (H1 : Heap) : Prop := H1.size = H.size ∧ ∀ q : Nat, q ≠ a → H1[q]? = H[q]?
def hnew (H H1 : Heap) : Prop := H1.size = H.size + 1 ∧ ∀ q : Nat, q < H.size → H1[q]? = H[q]?
theorem vt.kept {a : Nat} {e : va_E} {H1 : Heap} (h : vt G a e H) (hq : H1[a]? = H[a]?) : vt G a e H1 := va_at.kept h hq
theorem vt.lt {a : Nat} {e : va_E} (h : vt G a e H) : a < H.size := va_at.lt h
theorem vt.P {a : Nat} {e : va_E} (h : vt G a e H) : va_P G.1 vwCl [(a, e)] H := fun i q hq => by
  rcases i with _ | i
  · simp at hq
    subst hq
    exact h
  · simp at hq
theorem va_S.new {H1 : Heap} {s : State} {locs : List Loc} (hS : va_S A s.heap H locs) (h : hnew H H1) : va_S A s.heap H1 locs :=
  ⟨Nat.le_trans hS.1 (by have := h.1; omega), fun q h1 h2 => (h.2 q (Nat.lt_of_lt_of_le h1 hS.1)).trans (hS.2.1 q h1 h2), hS.2.2⟩
theorem sm_ {s : State} {args : Array Value} {a b c d : String} (hts : ∀ w ∈ WALL, w.before args s = true) (h : a = b ∨ Cond.sameField b a c d ∈ WALL) : ∀ x, s.fieldFound? a c d = some x → s.fieldFound? b c d = some x := fun x hx => by
  rcases h with h | h
  · rw [← h]; exact hx
  · exact u_same (hts _ h) x hx
theorem x_get (F : fx L rm G A H0 n0 cc own E) {a ci j idx N : Nat} {C ref : String} {T : u_T} {fs : List Value} {v : Value} (hv : vt G a (.inr (ci, fs)) H) (hc : vwCl[ci]? = some (C, T, N)) (hj : j < N) (hin : ∀ w ∈ u_ws C T N, w ∈ WALL) (hl : Cond.fieldLink own idx ref (T j).2.1 (T j).2.2.1 ∈ WALL) (hsame : (T j).1 = ref ∨ Cond.sameField ref (T j).1 (T j).2.1 (T j).2.2.1 ∈ WALL) (hf : fs[j]? = some v) (hd : decode cc pc = .ok (.getfield idx, 3))
    (kk : wx E H k n (pc + 3) lv (v :: st)) : wx E H k n pc lv (.ref a :: st) := by
  obtain ⟨p, l, e, R, s, m, args, below, meth, c, A1, nL, Q⟩ := E
  obtain ⟨⟨hx, hb, hml, hown, hts⟩, hL, hR, hAA, hH0, hnL, hKt, hKh, hfr, hlk⟩ := F
  intro locs ls hS hl2
  exact va_get hx hb hts hin hown hKt.1 hv.P 0 rfl hc j hj (hts _ hl) (sm_ hts hsame) hf hd (kk locs ls hS hl2)
theorem x_getN (F : fx L rm G A H0 n0 cc own E) {a ci j idx N : Nat} {C ref host : String} {T : u_T} {fs : List Value} {v : Value} (hv : vt G a (.inr (ci, fs)) H) (hc : vwCl[ci]? = some (C, T, N)) (hj : j < N) (hin : ∀ w ∈ u_ws C T N, w ∈ WALL) (hl : Cond.fieldLinkNest own idx ref (T j).2.1 (T j).2.2.1 host ∈ nestW) (hsame : (T j).1 = ref ∨ Cond.sameField ref (T j).1 (T j).2.1 (T j).2.2.1 ∈ WALL) (hf : fs[j]? = some v) (hd : decode cc pc = .ok (.getfield idx, 3))
    (kk : wx E H k n (pc + 3) lv (v :: st)) : wx E H k n pc lv (.ref a :: st) := by
  obtain ⟨p, l, e, R, s, m, args, below, meth, c, A1, nL, Q⟩ := E
  obtain ⟨⟨hx, hb, hml, hown, hts⟩, hL, hR, hAA, hH0, hnL, hKt, hKh, hfr, hlk⟩ := F
  intro locs ls hS hl2
  exact va_getN hx hb hts hin hown hKt.1 hv.P 0 rfl hc j hj (va_Nw.use rfl (hKt.2.1 _ hl)) (sm_ hts hsame) hf hd (kk locs ls hS hl2)
theorem x_put (F : fx L rm G A H0 n0 cc own E) {a ci j idx N : Nat} {C ref : String} {T : u_T} {fs : List Value} {v : Value} {ty : FieldType} (hv : vt G a (.inr (ci, fs)) H) (hAa : A a) (hc : vwCl[ci]? = some (C, T, N)) (hj : j < N) (hin : ∀ w ∈ u_ws C T N, w ∈ WALL) (ty0 : Nat → FieldType) (hty : ∀ k, k < N → parseFieldDescriptor (T k).2.2.1 = some (ty0 k)) (hnm : ∀ a, a < N → ∀ b, b < N → a ≠ b → (T a).2.1 ≠ (T b).2.1) (hl : Cond.fieldLink own idx ref (T j).2.1 (T j).2.2.1 ∈ WALL) (hsame : (T j).1 = ref ∨ Cond.sameField ref (T j).1 (T j).2.1 (T j).2.2.1 ∈ WALL) (hfin : (T j).2.2.2 = false) (hpd : parseFieldDescriptor (T j).2.2.1 = some ty) (hn : narrow ty v = v) (hfit : fits ty v = true) (hlen : j < fs.length) (hd : decode cc pc = .ok (.putfield idx, 3))
    (kk : ∀ H1 : Heap, vt G a (.inr (ci, fs.set j v)) H1 → hset H a H1 → wx E H1 k n (pc + 3) lv st) : wx E H k n pc lv (v :: .ref a :: st) := by
  obtain ⟨p, l, e, R, s, m, args, below, meth, c, A1, nL, Q⟩ := E
  obtain ⟨⟨hx, hb, hml, hown, hts⟩, hL, hR, hAA, hH0, hnL, hKt, hKh, hfr, hlk⟩ := F
  subst hAA
  intro locs ls hS hl2
  have hK := hKt.1
  have hap := va_apart (own := own) hts hin ty0 hty hnm hK hc
  obtain ⟨r, h1, cell, q1, q2, q3, q4⟩ := hv
  obtain rfl : r = (C, T, N) := Option.some.inj (h1.symm.trans hc)
  obtain ⟨hSl, hfc, kC, hkC, hkind⟩ := hK.1 ci _ hc
  obtain ⟨cf, kf, fi, f, hi, hsl⟩ := hSl j hj
  have hlay := hts _ (hin _ (u_in_lay hj))
  unfold u_lay at hlay
  rw [if_neg (by rw [hfin]; decide)] at hlay
  have hst := (u_facts hfc hkC (u_lays hts hin hj) hi).1
  have h6 := u_store hfc hkC hkind hlay hi hpd hn hfit
  refine W.putK hx hb (f := f) ⟨hown, hts _ hl, ⟨_, _, _, sm_ hts hsame _ hi⟩, hst⟩ (by rw [q2]; exact h6) q1 q3 (by rw [hsl]; exact k2_hasslot (q4 j hj)) rfl rfl hd fun H' e1 e2 e3 => ?_
  rw [hsl] at e1 ⊢
  exact kk H' ⟨_, hc, t_OB.to (V := updV (vp_V fs) j v) ⟨_, e1, q2, q3, t_set q4 hap hj v⟩ (fun i _ => vp_updV_set hlen v i)⟩ ⟨e2, e3⟩ _ ls (hS.put e2 e3 hAa) hl2
theorem x_putN (F : fx L rm G A H0 n0 cc own E) {a ci j idx N : Nat} {C ref host : String} {T : u_T} {fs : List Value} {v : Value} {ty : FieldType} (hv : vt G a (.inr (ci, fs)) H) (hAa : A a) (hc : vwCl[ci]? = some (C, T, N)) (hj : j < N) (hin : ∀ w ∈ u_ws C T N, w ∈ WALL) (ty0 : Nat → FieldType) (hty : ∀ k, k < N → parseFieldDescriptor (T k).2.2.1 = some (ty0 k)) (hnm : ∀ a, a < N → ∀ b, b < N → a ≠ b → (T a).2.1 ≠ (T b).2.1) (hl : Cond.fieldLinkNest own idx ref (T j).2.1 (T j).2.2.1 host ∈ nestW) (hsame : (T j).1 = ref ∨ Cond.sameField ref (T j).1 (T j).2.1 (T j).2.2.1 ∈ WALL) (hfin : (T j).2.2.2 = false) (hpd : parseFieldDescriptor (T j).2.2.1 = some ty) (hn : narrow ty v = v) (hfit : fits ty v = true) (hlen : j < fs.length) (hd : decode cc pc = .ok (.putfield idx, 3))
    (kk : ∀ H1 : Heap, vt G a (.inr (ci, fs.set j v)) H1 → hset H a H1 → wx E H1 k n (pc + 3) lv st) : wx E H k n pc lv (v :: .ref a :: st) := by
  obtain ⟨p, l, e, R, s, m, args, below, meth, c, A1, nL, Q⟩ := E
  obtain ⟨⟨hx, hb, hml, hown, hts⟩, hL, hR, hAA, hH0, hnL, hKt, hKh, hfr, hlk⟩ := F
  subst hAA
  intro locs ls hS hl2
  have hK := hKt.1
  have hap := va_apart (own := own) hts hin ty0 hty hnm hK hc
  obtain ⟨r, h1, cell, q1, q2, q3, q4⟩ := hv
  obtain rfl : r = (C, T, N) := Option.some.inj (h1.symm.trans hc)
  obtain ⟨hSl, hfc, kC, hkC, hkind⟩ := hK.1 ci _ hc
  obtain ⟨cf, kf, fi, f, hi, hsl⟩ := hSl j hj
  have hlay := hts _ (hin _ (u_in_lay hj))
  unfold u_lay at hlay
  rw [if_neg (by rw [hfin]; decide)] at hlay
  have hst := (u_facts hfc hkC (u_lays hts hin hj) hi).1
  have h6 := u_store hfc hkC hkind hlay hi hpd hn hfit
  refine va_WputK hx hb (f := f) hown (va_Nw.use rfl (hKt.2.1 _ hl)) (sm_ hts hsame _ hi) hst (by rw [q2]; exact h6) q1 q3 (by rw [hsl]; exact k2_hasslot (q4 j hj)) rfl rfl hd fun H' e1 e2 e3 => ?_
  rw [hsl] at e1 ⊢
  exact kk H' ⟨_, hc, t_OB.to (V := updV (vp_V fs) j v) ⟨_, e1, q2, q3, t_set q4 hap hj v⟩ (fun i _ => vp_updV_set hlen v i)⟩ ⟨e2, e3⟩ _ ls (hS.put e2 e3 hAa) hl2
theorem x_putF (F : fx L rm G A H0 n0 cc own E) (hE : fe rm A Post ret nm E) (hnmI : nm = "<init>") {a ci j idx N : Nat} {C ref : String} {T : u_T} {fs : List Value} {v : Value} {ty : FieldType} (hv : vt G a (.inr (ci, fs)) H) (hAa : A a) (hc : vwCl[ci]? = some (C, T, N)) (hj : j < N) (hin : ∀ w ∈ u_ws C T N, w ∈ WALL) (ty0 : Nat → FieldType) (hty : ∀ k, k < N → parseFieldDescriptor (T k).2.2.1 = some (ty0 k)) (hnm : ∀ a, a < N → ∀ b, b < N → a ≠ b → (T a).2.1 ≠ (T b).2.1) (hl : Cond.fieldLink own idx ref (T j).2.1 (T j).2.2.1 ∈ WALL) (hsame : (T j).1 = ref ∨ Cond.sameField ref (T j).1 (T j).2.1 (T j).2.2.1 ∈ WALL) (hfin : (T j).2.2.2 = true) (hdecl : (T j).1 = own) (hpd : parseFieldDescriptor (T j).2.2.1 = some ty) (hn : narrow ty v = v) (hfit : fits ty v = true) (hlen : j < fs.length) (hd : decode cc pc = .ok (.putfield idx, 3))
    (kk : ∀ H1 : Heap, vt G a (.inr (ci, fs.set j v)) H1 → hset H a H1 → wx E H1 k n (pc + 3) lv st) : wx E H k n pc lv (v :: .ref a :: st) := by
  obtain ⟨p, l, e, R, s, m, args, below, meth, c, A1, nL, Q⟩ := E
  obtain ⟨⟨hx, hb, hml, hown, hts⟩, hL, hR, hAA, hH0, hnL, hKt, hKh, hfr, hlk⟩ := F
  obtain ⟨hQ, hr, hnmm⟩ := hE
  subst hAA
  intro locs ls hS hl2
  have hK := hKt.1
  have hap := va_apart (own := own) hts hin ty0 hty hnm hK hc
  obtain ⟨r, h1, cell, q1, q2, q3, q4⟩ := hv
  obtain rfl : r = (C, T, N) := Option.some.inj (h1.symm.trans hc)
  obtain ⟨hSl, hfc, kC, hkC, hkind⟩ := hK.1 ci _ hc
  obtain ⟨cf, kf, fi, f, hi, hsl⟩ := hSl j hj
  have hlay := hts _ (hin _ (u_in_lay hj))
  unfold u_lay at hlay
  rw [if_pos hfin] at hlay
  have hst := (u_facts hfc hkC (u_lays hts hin hj) hi).1
  have hcf : m.cls = cf := by
    obtain ⟨_, _, c', _, _, _, -, -, hf', -, -, -, hown2, -⟩ := Cond.laysFinal_spec hlay
    have e1 : c' = cf := by have := hi.symm.trans hf'; simp at this; exact this.1.symm
    rw [hdecl] at hown2
    rw [← e1]
    exact Option.some.inj (hown.symm.trans hown2)
  have h6 := u_fits hfc hkC hkind (Or.inr hlay) hi hpd hn hfit
  refine W.putFinK hx hb hown (hts _ hl) (sm_ hts hsame _ hi) hst hcf (by rw [hnmm]; exact hnmI) (by rw [q2]; exact h6) q1 q3 (by rw [hsl]; exact k2_hasslot (q4 j hj)) rfl rfl hd fun H' e1 e2 e3 => ?_
  rw [hsl] at e1 ⊢
  exact kk H' ⟨_, hc, t_OB.to (V := updV (vp_V fs) j v) ⟨_, e1, q2, q3, t_set q4 hap hj v⟩ (fun i _ => vp_updV_set hlen v i)⟩ ⟨e2, e3⟩ _ ls (hS.put e2 e3 hAa) hl2
theorem x_new (F : fx L rm G A H0 n0 cc own E) {ci idx N : Nat} {C : String} {T : u_T} {fs : List Value} (hc : vwCl[ci]? = some (C, T, N)) (hin : ∀ w ∈ u_ws C T N, w ∈ WALL) (ty : Nat → FieldType) (hty : ∀ k, k < N → parseFieldDescriptor (T k).2.2.1 = some (ty k)) (hcl : Cond.classLink own idx C ∈ WALL) (hins : Cond.instantiable C N ∈ WALL) (hini : Cond.initialized C ∈ WALL) (hfs : ∀ j, j < N → defaultValue (ty j) = vp_V fs j) (hk : k + 1 ≤ rm.cells) (hn : n + N ≤ rm.slots) (hd : decode cc pc = .ok (.new idx, 3))
    (kk : ∀ H1 : Heap, vt G H.size (.inr (ci, fs)) H1 → hnew H H1 → wx E H1 (k + 1) (n + N) (pc + 3) lv (.ref H.size :: st)) : wx E H k n pc lv st := by
  obtain ⟨p, l, e, R, s, m, args, below, meth, c, A1, nL, Q⟩ := E
  obtain ⟨⟨hx, hb, hml, hown, hts⟩, hL, hR, hAA, hH0, hnL, hKt, hKh, hfr, hlk⟩ := F
  subst hR
  intro locs ls hS hl2
  have hKn := hKt.1.1 ci _ hc
  refine W.newcK hx hb hown (hts _ hcl) (hts _ hins) (hts _ hini) rfl hd hk hn hKn.2.1 rfl fun H1 kC hkC e1 z1 o1 => ?_
  exact kk H1 ⟨_, hc, (u_born ty hts hin hKn hkC e1 hty).to hfs⟩ ⟨z1, o1⟩ locs ls (va_S.new hS ⟨z1, o1⟩) hl2
/-- an array's class and what the tables say of it -/
def hA_ (G : GT) (cA : ClassId) (ty : FieldType) : Prop := (cA, ty) ∈ [(G.2.1.1, FieldType.int), (G.2.1.1, .int), (G.2.1.2.2.1, .object "java/lang/Object")]
theorem Kt.arr {s : State} (h : Kt G s) {cA : ClassId} {ty : FieldType} (q : hA_ G cA ty) : ArrOfT s cA ty ∧ va_RA s cA ty := by
  obtain ⟨i, hi⟩ := List.getElem?_of_mem q
  exact h.1.2 i _ hi
theorem x_iald (F : fx L rm G A H0 n0 cc own E) {a N : Nat} {f : Nat → Int32} (hv : vt G a (.inl (G.2.1.1, N, .inl f)) H) {i : Int32} (hin : vp_in i N) (hd : decode cc pc = .ok (.iaload, 1)) (kk : wx E H k n (pc + 1) lv (.int (f i.toNatClampNeg) :: st)) : wx E H k n pc lv (.int i :: .ref a :: st) := by
  obtain ⟨p, l, e, R, s, m, args, below, meth, c, A1, nL, Q⟩ := E
  obtain ⟨⟨hx, hb, hml, hown, hts⟩, hL, hR, hAA, hH0, hnL, hKt, hKh, hfr, hlk⟩ := F
  intro locs ls hS hl2
  exact va_iald hx hb hKt.1 hv.P 0 0 rfl rfl hin hd (kk locs ls hS hl2)
theorem x_aald (F : fx L rm G A H0 n0 cc own E) {a N : Nat} {f : Nat → Option Nat} (hv : vt G a (.inl (G.2.1.2.2.1, N, .inr (.inr (.inr (.inr f))))) H) {i : Int32} (hin : vp_in i N) (hd : decode cc pc = .ok (.aaload, 1)) (kk : wx E H k n (pc + 1) lv (va_rf (f i.toNatClampNeg) :: st)) : wx E H k n pc lv (.int i :: .ref a :: st) := by
  obtain ⟨p, l, e, R, s, m, args, below, meth, c, A1, nL, Q⟩ := E
  obtain ⟨⟨hx, hb, hml, hown, hts⟩, hL, hR, hAA, hH0, hnL, hKt, hKh, hfr, hlk⟩ := F
  intro locs ls hS hl2
  exact va_aldq hx hb hKt.1 hv.P 0 2 rfl rfl hin hd (kk locs ls hS hl2)
theorem x_alen (F : fx L rm G A H0 n0 cc own E) {a : Nat} {cA : ClassId} {x : vp_A} {ty : FieldType} (hv : vt G a (.inl (cA, x)) H) (hq : hA_ G cA ty) {v : Int32} (hvv : Int32.ofNat x.1 = v) (hd : decode cc pc = .ok (.arraylength, 1)) (kk : wx E H k n (pc + 1) lv (.int v :: st)) : wx E H k n pc lv (.ref a :: st) := by
  obtain ⟨p, l, e, R, s, m, args, below, meth, c, A1, nL, Q⟩ := E
  obtain ⟨⟨hx, hb, hml, hown, hts⟩, hL, hR, hAA, hH0, hnL, hKt, hKh, hfr, hlk⟩ := F
  intro locs ls hS hl2
  obtain ⟨i, hi⟩ := List.getElem?_of_mem hq
  exact va_alen hx hb hKt.1 hv.P 0 i rfl hi hvv hd (kk locs ls hS hl2)
theorem x_iast (F : fx L rm G A H0 n0 cc own E) {a N : Nat} {f : Nat → Int32} (hv : vt G a (.inl (G.2.1.1, N, .inl f)) H) (hAa : A a) {i x : Int32} (hin : vp_in i N) (hd : decode cc pc = .ok (.iastore, 1)) (kk : ∀ H1 : Heap, vt G a (.inl (G.2.1.1, N, .inl (upd f i.toNatClampNeg x))) H1 → hset H a H1 → wx E H1 k n (pc + 1) lv st) : wx E H k n pc lv (.int x :: .int i :: .ref a :: st) := by
  obtain ⟨p, l, e, R, s, m, args, below, meth, c, A1, nL, Q⟩ := E
  obtain ⟨⟨hx, hb, hml, hown, hts⟩, hL, hR, hAA, hH0, hnL, hKt, hKh, hfr, hlk⟩ := F
  subst hAA
  intro locs ls hS hl2
  refine W.iast hx hb hv ((hKt.1.2 0 _ rfl).1 N (fun j => .int (f j))) (fun q => by cases q) (by show ¬ (i < 0 ∨ (arrV _ _ _).slots.size ≤ _); rw [arrV_size]; exact hin) rfl rfl hd fun H1 e1 z oq => ?_
  refine kk H1 ?_ ⟨z, oq⟩ _ ls (hS.put z oq hAa) hl2
  show H1[a]? = some (vp_cell _ _)
  rw [e1]
  show some ((vp_cell _ _).setSlot _ _) = _
  rw [vp_cell_i, vp_cell_i, arrV_store]
  congr 2
  funext q
  by_cases hq : q = i.toNatClampNeg
  · subst hq
    simp [updV, upd]
  · simp [updV, upd, hq]
/-- Object[]'s store of an object v, or of null -/
theorem x_aast (F : fx L rm G A H0 n0 cc own E) {a N v : Nat} {f : Nat → Option Nat} (hv : vt G a (.inl (G.2.1.2.2.1, N, .inr (.inr (.inr (.inr f))))) H) (hAa : A a) {i : Int32} (hin : vp_in i N) (hob : ∀ s : State, Kt G s → va_Any "java/lang/Object" s H v) (hd : decode cc pc = .ok (.aastore, 1)) (kk : ∀ H1 : Heap, vt G a (.inl (G.2.1.2.2.1, N, .inr (.inr (.inr (.inr (va_up f i.toNatClampNeg (some v))))))) H1 → hset H a H1 → wx E H1 k n (pc + 1) lv st) : wx E H k n pc lv (.ref v :: .int i :: .ref a :: st) := by
  obtain ⟨p, l, e, R, s, m, args, below, meth, c, A1, nL, Q⟩ := E
  obtain ⟨⟨hx, hb, hml, hown, hts⟩, hL, hR, hAA, hH0, hnL, hKt, hKh, hfr, hlk⟩ := F
  subst hAA
  intro locs ls hS hl2
  have hlt : i.toNatClampNeg < N := Nat.not_le.mp fun q => hin (Or.inr q)
  have h0 : ¬ i < 0 := fun q => hin (Or.inl q)
  obtain ⟨cellV, g1, g3, ⟨kC, hkC⟩, hasg⟩ := hob s hKt
  obtain ⟨kA, comp, k1, k2, k3, -⟩ := (hKt.1.2 2 _ rfl).2
  obtain ⟨kE, hkE, -⟩ := Vm.findClass_spec k3
  refine W.aast hx hb hv (fun q h => by cases h) (fun h => by cases h) k1 k2 rfl hkE ⟨h0, by show _ < (arrV _ _ _).slots.size; rw [arrV_size]; exact hlt⟩ g1 (fun q h => by rw [h] at g3; cases g3) hkC (hasg _ k3) rfl rfl hd fun H1 e1 z oq => ?_
  refine kk H1 ?_ ⟨z, oq⟩ _ ls (hS.put z oq hAa) hl2
  show H1[a]? = some (vp_cell _ _)
  rw [e1]
  show some ((vp_cell _ _).setSlot _ _) = _
  rw [vp_cell_q, vp_cell_q, arrV_store]
  congr 2
  funext q
  by_cases hq : q = i.toNatClampNeg
  · subst hq
    simp [updV, va_up, va_rf]
  · simp [updV, va_up, hq]
/-- rows of lists' own code -/
theorem x_getsE (F : fx L rm G A H0 n0 cc "java/util/ArrayList" E) {idx : Nat} (hl : Cond.fieldLink "java/util/ArrayList" idx "java/util/ArrayList" "DEFAULTCAPACITY_EMPTY_ELEMENTDATA" "[Ljava/lang/Object;" ∈ WALL) (hd : decode cc pc = .ok (.getstatic idx, 3)) (kk : wx E H k n (pc + 3) lv (.ref G.2.2.1.1 :: st)) : wx E H k n pc lv st := by
  obtain ⟨p, l, e, R, s, m, args, below, meth, c, A1, nL, Q⟩ := E
  obtain ⟨⟨hx, hb, hml, hown, hts⟩, hL, hR, hAA, hH0, hnL, hKt, hKh, hfr, hlk⟩ := F
  subst hAA hH0
  intro locs ls hS hl2
  exact va_gets hx hb hKh.2.2.1 hS hown (hts _ hl) (fun _ h => h) hd (kk locs ls hS hl2)
theorem x_acmp_eq (F : fx L rm G A H0 n0 cc own E) {rx ry : Option Nat} {off : Int} {tgt : Nat} (hd : decode cc pc = .ok (.if_acmp .eq off, 3)) (ht : (pc : Int) + off = (tgt : Int)) (k1 : rx = ry → wx E H k n tgt lv st) (k2 : ¬ rx = ry → wx E H k n (pc + 3) lv st) : wx E H k n pc lv (va_rf ry :: va_rf rx :: st) := by
  obtain ⟨p, l, e, R, s, m, args, below, meth, c, A1, nL, Q⟩ := E
  obtain ⟨⟨hx, hb, hml, hown, hts⟩, hL, hR, hAA, hH0, hnL, hKt, hKh, hfr, hlk⟩ := F
  intro locs ls hS hl2
  exact lv_acmp_eq hx hb hd ht (fun h => k1 h locs ls hS hl2) (fun h => k2 h locs ls hS hl2)
theorem x_acmp_ne (F : fx L rm G A H0 n0 cc own E) {rx ry : Option Nat} {off : Int} {tgt : Nat} (hd : decode cc pc = .ok (.if_acmp .ne off, 3)) (ht : (pc : Int) + off = (tgt : Int)) (k1 : ¬ rx = ry → wx E H k n tgt lv st) (k2 : rx = ry → wx E H k n (pc + 3) lv st) : wx E H k n pc lv (va_rf ry :: va_rf rx :: st) := by
  obtain ⟨p, l, e, R, s, m, args, below, meth, c, A1, nL, Q⟩ := E
  obtain ⟨⟨hx, hb, hml, hown, hts⟩, hL, hR, hAA, hH0, hnL, hKt, hKh, hfr, hlk⟩ := F
  intro locs ls hS hl2
  exact lv_acmp_ne hx hb hd ht (fun h => k1 h locs ls hS hl2) (fun h => k2 h locs ls hS hl2)
end CE
