/-! the property's own invariants: begins and landings apart, who may fly, the bills -/
section IV1
/-- of the flights: state, when asked, begin, landing; t the time, z until when the field is busy; whatever is asked for is d minutes old -/
def XE (n : Nat) (F : Nat → Nat → Int32) (t z d : Int) : Prop :=
  (0 ≤ t ∧ t ≤ 1500 ∧ z ≤ t + 3) ∧
  (∀ f, f < n → ((F f 6 = 0 ∧ (F f 8).toInt = -1 ∧ (F f 9).toInt = -1) ∨ (F f 6 = 1 ∧ 0 ≤ (F f 8).toInt ∧ (F f 9).toInt = -1) ∨ (F f 6 = 2 ∧ 0 ≤ (F f 8).toInt ∧ 0 ≤ (F f 9).toInt)) ∧ (0 ≤ (F f 7).toInt ∧ (F f 7).toInt + d ≤ t) ∧ (0 ≤ (F f 8).toInt → (F f 7).toInt + 1 ≤ (F f 8).toInt ∧ (F f 8).toInt + 2 ≤ z ∧ (F f 8).toInt ≤ t) ∧ (0 ≤ (F f 9).toInt → (F f 9).toInt + 2 ≤ z ∧ (F f 9).toInt ≤ t)) ∧
  (∀ f, f < n → ∀ g, g < n → f ≠ g → 0 ≤ (F f 8).toInt → 0 ≤ (F g 8).toInt → (F f 8).toInt + 2 ≤ (F g 8).toInt ∨ (F g 8).toInt + 2 ≤ (F f 8).toInt) ∧
  (∀ f, f < n → ∀ g, g < n → 0 ≤ (F f 8).toInt → 0 ≤ (F g 9).toInt → (F f 8).toInt + 2 ≤ (F g 9).toInt ∨ (F g 9).toInt + 2 ≤ (F f 8).toInt) ∧
  (∀ f, f < n → ∀ g, g < n → f ≠ g → 0 ≤ (F f 9).toInt → 0 ≤ (F g 9).toInt → (F f 9).toInt + 2 ≤ (F g 9).toInt ∨ (F g 9).toInt + 2 ≤ (F f 9).toInt)
section
variable {n : Nat} {F F' : Nat → Nat → Int32} {t z d : Int}
theorem XE.s0 (h : XE n F t z d) {f : Nat} (hf : f < n) (h0 : F f 6 = 0) : (F f 8).toInt = -1 ∧ (F f 9).toInt = -1 := by
  rcases (h.2.1 f hf).1 with q | q | q
  · exact q.2
  · rw [h0] at q; exact absurd q.1 (by decide)
  · rw [h0] at q; exact absurd q.1 (by decide)
theorem XE.s1 (h : XE n F t z d) {f : Nat} (hf : f < n) (h0 : F f 6 = 1) : 0 ≤ (F f 8).toInt ∧ (F f 9).toInt = -1 := by
  rcases (h.2.1 f hf).1 with q | q | q
  · rw [h0] at q; exact absurd q.1 (by decide)
  · exact q.2
  · rw [h0] at q; exact absurd q.1 (by decide)
theorem XE.time (h : XE n F t z 0) (ht : t + 1 ≤ 1500) : XE n F (t + 1) z 1 := by
  obtain ⟨h1, h2, h3⟩ := h
  refine ⟨by omega, fun f hf => ?_, h3⟩
  obtain ⟨a1, a2, a3, a4⟩ := h2 f hf
  exact ⟨a1, by omega, fun q => by have := a3 q; omega, fun q => by have := a4 q; omega⟩
theorem XE.weak (h : XE n F t z 1) : XE n F t z 0 := by
  obtain ⟨h1, h2, h3⟩ := h
  refine ⟨h1, fun f hf => ?_, h3⟩
  obtain ⟨a1, a2, a3, a4⟩ := h2 f hf
  exact ⟨a1, by omega, a3, a4⟩
theorem XE.start {f0 : Nat} {z' : Int} (h : XE n F t z d) (hf : f0 < n) (h0 : F f0 6 = 0) (hd : 1 ≤ d) (hz : z ≤ t) (hz' : t + 2 ≤ z' ∧ z' ≤ t + 3) (e6 : F' f0 6 = 1) (e8 : (F' f0 8).toInt = t) (e9 : F' f0 9 = F f0 9) (e7 : F' f0 7 = F f0 7) (e : ∀ f, f ≠ f0 → ∀ j, 6 ≤ j → j ≤ 9 → F' f j = F f j) : XE n F' t z' d := by
  obtain ⟨b8, b9⟩ := h.s0 hf h0
  obtain ⟨h1, h2, h3, h4, h5⟩ := h
  obtain ⟨-, o2, -, -⟩ := h2 f0 hf
  have c9 : (F' f0 9).toInt = -1 := by rw [e9]; exact b9
  have n6 : ∀ f, f ≠ f0 → F' f 6 = F f 6 := fun f q => e f q 6 (by omega) (by omega)
  have n7 : ∀ f, f ≠ f0 → F' f 7 = F f 7 := fun f q => e f q 7 (by omega) (by omega)
  have n8 : ∀ f, f ≠ f0 → F' f 8 = F f 8 := fun f q => e f q 8 (by omega) (by omega)
  have n9 : ∀ f, f ≠ f0 → F' f 9 = F f 9 := fun f q => e f q 9 (by omega) (by omega)
  refine ⟨by omega, fun f hf' => ?_, fun f hf' g hg hne p1 p2 => ?_, fun f hf' g hg p1 p2 => ?_, fun f hf' g hg hne p1 p2 => ?_⟩
  · by_cases q : f = f0
    · rw [q, e6, e7, e8, c9]
      exact ⟨Or.inr (Or.inl ⟨rfl, h1.1, rfl⟩), o2, fun _ => by omega, fun x => absurd x (by decide)⟩
    · rw [n6 f q, n7 f q, n8 f q, n9 f q]
      obtain ⟨a1, a2, a3, a4⟩ := h2 f hf'
      exact ⟨a1, a2, fun x => by have := a3 x; omega, fun x => by have := a4 x; omega⟩
  · by_cases qf : f = f0
    · by_cases qg : g = f0
      · exact absurd (qf.trans qg.symm) hne
      · rw [n8 g qg] at p2 ⊢
        rw [qf, e8]
        have := (h2 g hg).2.2.1 p2
        omega
    · by_cases qg : g = f0
      · rw [n8 f qf] at p1 ⊢
        rw [qg, e8]
        have := (h2 f hf').2.2.1 p1
        omega
      · rw [n8 f qf] at p1 ⊢
        rw [n8 g qg] at p2 ⊢
        exact h3 f hf' g hg hne p1 p2
  · by_cases qg : g = f0
    · rw [qg, c9] at p2
      exact absurd p2 (by decide)
    · rw [n9 g qg] at p2 ⊢
      by_cases qf : f = f0
      · rw [qf, e8]
        have := (h2 g hg).2.2.2 p2
        omega
      · rw [n8 f qf] at p1 ⊢
        exact h4 f hf' g hg p1 p2
  · by_cases qf : f = f0
    · rw [qf, c9] at p1
      exact absurd p1 (by decide)
    · by_cases qg : g = f0
      · rw [qg, c9] at p2
        exact absurd p2 (by decide)
      · rw [n9 f qf] at p1 ⊢
        rw [n9 g qg] at p2 ⊢
        exact h5 f hf' g hg hne p1 p2
theorem XE.land {f0 : Nat} {z' : Int} (h : XE n F t z d) (hf : f0 < n) (h0 : F f0 6 = 1) (hz : z ≤ t) (hz' : t + 2 ≤ z' ∧ z' ≤ t + 3) (e6 : F' f0 6 = 2) (e9 : (F' f0 9).toInt = t) (e8 : F' f0 8 = F f0 8) (e7 : F' f0 7 = F f0 7) (e : ∀ f, f ≠ f0 → ∀ j, 6 ≤ j → j ≤ 9 → F' f j = F f j) : XE n F' t z' d := by
  obtain ⟨b8, b9⟩ := h.s1 hf h0
  obtain ⟨h1, h2, h3, h4, h5⟩ := h
  obtain ⟨-, o2, o3, -⟩ := h2 f0 hf
  have o4 := o3 b8
  have n6 : ∀ f, f ≠ f0 → F' f 6 = F f 6 := fun f q => e f q 6 (by omega) (by omega)
  have n7 : ∀ f, f ≠ f0 → F' f 7 = F f 7 := fun f q => e f q 7 (by omega) (by omega)
  have n8 : ∀ f, F' f 8 = F f 8 := fun f => by
    by_cases q : f = f0
    · rw [q]; exact e8
    · exact e f q 8 (by omega) (by omega)
  have n9 : ∀ f, f ≠ f0 → F' f 9 = F f 9 := fun f q => e f q 9 (by omega) (by omega)
  refine ⟨by omega, fun f hf' => ?_, fun f hf' g hg hne p1 p2 => ?_, fun f hf' g hg p1 p2 => ?_, fun f hf' g hg hne p1 p2 => ?_⟩
  · by_cases q : f = f0
    · rw [q, e6, e7, e8, e9]
      exact ⟨Or.inr (Or.inr ⟨rfl, b8, h1.1⟩), o2, fun _ => by omega, fun _ => by omega⟩
    · rw [n6 f q, n7 f q, n8 f, n9 f q]
      obtain ⟨a1, a2, a3, a4⟩ := h2 f hf'
      exact ⟨a1, a2, fun x => by have := a3 x; omega, fun x => by have := a4 x; omega⟩
  · rw [n8 f] at p1 ⊢
    rw [n8 g] at p2 ⊢
    exact h3 f hf' g hg hne p1 p2
  · rw [n8 f] at p1 ⊢
    by_cases qg : g = f0
    · rw [qg, e9]
      have := (h2 f hf').2.2.1 p1
      omega
    · rw [n9 g qg] at p2 ⊢
      exact h4 f hf' g hg p1 p2
  · by_cases qf : f = f0
    · by_cases qg : g = f0
      · exact absurd (qf.trans qg.symm) hne
      · rw [n9 g qg] at p2 ⊢
        rw [qf, e9]
        have := (h2 g hg).2.2.2 p2
        omega
    · by_cases qg : g = f0
      · rw [n9 f qf] at p1 ⊢
        rw [qg, e9]
        have := (h2 f hf').2.2.2 p1
        omega
      · rw [n9 f qf] at p1 ⊢
        rw [n9 g qg] at p2 ⊢
        exact h5 f hf' g hg hne p1 p2
theorem XE.new (h : XE n F t z 0) (e : ∀ f, f < n → ∀ j, F' f j = F f j) (e6 : F' n 6 = 0) (e7 : (F' n 7).toInt = t) (e8 : (F' n 8).toInt = -1) (e9 : (F' n 9).toInt = -1) : XE (n + 1) F' t z 0 := by
  obtain ⟨h1, h2, h3, h4, h5⟩ := h
  have lt : ∀ f, f < n + 1 → f ≠ n → f < n := fun f a b => by omega
  have k8 : ∀ f, f < n + 1 → 0 ≤ (F' f 8).toInt → f < n := fun f a p => lt f a (fun q => by rw [q, e8] at p; exact absurd p (by decide))
  have k9 : ∀ f, f < n + 1 → 0 ≤ (F' f 9).toInt → f < n := fun f a p => lt f a (fun q => by rw [q, e9] at p; exact absurd p (by decide))
  refine ⟨h1, fun f hf' => ?_, fun f hf' g hg hne p1 p2 => ?_, fun f hf' g hg p1 p2 => ?_, fun f hf' g hg hne p1 p2 => ?_⟩
  · by_cases q : f = n
    · rw [q, e6, e7, e8, e9]
      exact ⟨Or.inl ⟨rfl, rfl, rfl⟩, by omega, fun x => absurd x (by decide), fun x => absurd x (by decide)⟩
    · have a := lt f hf' q
      rw [e f a, e f a, e f a, e f a]
      exact h2 f a
  · have a := k8 f hf' p1
    have b := k8 g hg p2
    rw [e f a] at p1 ⊢
    rw [e g b] at p2 ⊢
    exact h3 f a g b hne p1 p2
  · have a := k8 f hf' p1
    have b := k9 g hg p2
    rw [e f a] at p1 ⊢
    rw [e g b] at p2 ⊢
    exact h4 f a g b p1 p2
  · have a := k9 f hf' p1
    have b := k9 g hg p2
    rw [e f a] at p1 ⊢
    rw [e g b] at p2 ⊢
    exact h5 f a g b hne p1 p2
end
def okF (c : CS) (f : Nat) : Prop := ¬ (cM c (cR c f).1 1 = 0 ∧ ¬ s_hasT c f = true) ∧ ((cR c f).2.1 ≠ none → ¬ cG c (cR c f).2.2 1 = 1)
def XO (c : CS) : Prop := ∀ f, f < nf c → ¬ cF c f 6 = 0 → okF c f
def XT (c : CS) : Prop := s_tk c ≤ cD c 6
def XS (c : CS) : Prop := sumN (nm c) (fun i => cM c i 7) = sumN (nf c) (fun f => cF c f 10)
def IX (c : CS) (d : Int) : Prop := XE (nf c) (cF c) (cD c 9).toInt (cD c 12).toInt d ∧ XO c ∧ XT c ∧ XS c
/-- levels, seats, whose flights they are, how many: they stay -/
def Sam (c c' : CS) : Prop := (∀ i, cM c' i 1 = cM c i 1) ∧ (∀ g, cG c' g 1 = cG c g 1) ∧ cR c' = cR c ∧ nm c' = nm c ∧ ng c' = ng c ∧ nf c' = nf c
theorem Sam.same (c : CS) : Sam c c := ⟨fun _ => rfl, fun _ => rfl, rfl, rfl, rfl, rfl⟩
theorem Sam.trans {a b c : CS} (h : Sam a b) (k : Sam b c) : Sam a c := ⟨fun i => (k.1 i).trans (h.1 i), fun i => (k.2.1 i).trans (h.2.1 i), k.2.2.1.trans h.2.2.1, k.2.2.2.1.trans h.2.2.2.1, k.2.2.2.2.1.trans h.2.2.2.2.1, k.2.2.2.2.2.trans h.2.2.2.2.2⟩
theorem okF_of {c c' : CS} {f : Nat} (h1 : ∀ i, cM c' i 1 = cM c i 1) (h2 : ∀ g, cG c' g 1 = cG c g 1) (h3 : cR c' f = cR c f) (k : okF c f) : okF c' f := by
  have hT : s_hasT c' f = s_hasT c f := by
    unfold s_hasT
    rw [h3]
    cases (cR c f).2.1 with
    | none => rfl
    | some s => show decide (cM c' s 1 = 3) = decide (cM c s 1 = 3); rw [h1]
  unfold okF at k ⊢
  rw [hT, h3, h1, h2]
  exact k
theorem Sam.ok {c c' : CS} (h : Sam c c') {f : Nat} (k : okF c f) : okF c' f := okF_of h.1 h.2.1 (congrFun h.2.2.1 f) k
theorem tI_add {x : Int32} {a k : Nat} (h : x = nI a) (ha : a + k < 2 ^ 31) : (x + nI k).toInt = x.toInt + k := by
  rw [h, nI_add, nI_toInt ha, nI_toInt (by omega)]
  omega
def tkb (x : Int32) : Int32 := if x = 0 then 0 else 1
theorem tkb_0 : tkb 0 = 0 := if_pos rfl
theorem tkb_01 (x : Int32) : tkb x = 0 ∨ tkb x = 1 := by
  unfold tkb
  by_cases h : x = 0
  · rw [if_pos h]; exact Or.inl rfl
  · rw [if_neg h]; exact Or.inr rfl
theorem tk_b (c : CS) : s_tk c = tkb (cD c 13) + tkb (cD c 14) := rfl
theorem tk_le {a b a' b' : Int32} (ha : a' = 0 ∨ a' = a) (hb : b' = 0 ∨ b' = b) : tkb a' + tkb b' ≤ tkb a + tkb b := by
  rcases ha with h | h <;> rcases hb with k | k <;> rw [h, k] <;> rcases tkb_01 a with p | p <;> rcases tkb_01 b with q | q <;> rw [p, q] <;> first | decide | (rw [tkb_0]; decide)
theorem wN_G (c : CS) (n g j : Nat) (hj : j ≠ 4) : cG (u_wN c n) g j = cG c g j := by
  induction n with
  | zero => rfl
  | succ n ih =>
    show (if j = 4 ∧ g = n then _ else cG (u_wN c n) g j) = _
    rw [if_neg (fun q => hj q.1)]
    exact ih
variable {c : CS} {m : MS}
theorem ite_01 {P : Prop} [Decidable P] (x : Int32) : (if P then 0 else x) = 0 ∨ (if P then 0 else x) = x := by
  by_cases h : P
  · rw [if_pos h]; exact Or.inl rfl
  · rw [if_neg h]; exact Or.inr rfl
theorem IX_m1 (hI : IC c) (h : IX c 0) (ht : tN (cD c 9) < 1500) : IX (u_m1 c) 1 ∧ Sam c (u_m1 c) := by
  obtain ⟨x1, x2, x3, x4⟩ := h
  have w := ad_wN (u_tgs (u_cab (sD c 9 (cD c 9 + 1)))) (ng c)
  have eD : cD (u_m1 c) = cD (u_tgs (u_cab (sD c 9 (cD c 9 + 1)))) := w.2.2.2.2.2.1
  have e9 : cD (u_m1 c) 9 = cD c 9 + 1 := by rw [eD]; rfl
  have e12 : cD (u_m1 c) 12 = cD c 12 := by rw [eD]; rfl
  have e6 : cD (u_m1 c) 6 = cD c 6 := by rw [eD]; rfl
  have e13 : cD (u_m1 c) 13 = if cD c 13 ≤ cD c 9 + 1 then 0 else cD c 13 := by rw [eD]; rfl
  have e14 : cD (u_m1 c) 14 = if cD c 14 ≤ cD c 9 + 1 then 0 else cD c 14 := by rw [eD]; rfl
  have eF : cF (u_m1 c) = cF c := w.2.2.2.2.2.2.2.2.1
  have eM : cM (u_m1 c) = cM c := w.2.2.2.2.2.2.2.1
  have en : nf (u_m1 c) = nf c := w.2.2.2.1
  have em : nm (u_m1 c) = nm c := w.2.1
  have hS : Sam c (u_m1 c) := ⟨fun i => by rw [eM], fun g => wN_G _ _ g 1 (by decide), w.2.2.2.2.1, em, w.2.2.1, en⟩
  refine ⟨⟨?_, fun f hf hs => hS.ok (x2 f (by rw [← en]; exact hf) (by rw [← eF]; exact hs)), ?_, ?_⟩, hS⟩
  · rw [en, eF, e9, e12]
    have e := tI_add (k := 1) hI.1.1.1 (by omega)
    rw [show cD c 9 + 1 = cD c 9 + nI 1 from rfl, e]
    refine x1.time ?_
    have e2 := nI_toInt (n := tN (cD c 9)) (by omega)
    rw [← hI.1.1.1] at e2
    omega
  · unfold XT at x3 ⊢
    rw [tk_b, e6, e13, e14]
    rw [tk_b] at x3
    exact Int32.le_trans (tk_le (ite_01 _) (ite_01 _)) x3
  · unfold XS at x4 ⊢
    rw [em, en, eM, eF]
    exact x4
theorem IX_land (hI : IC c) (h : IX c 1) (hb : ¬ cD c 9 < cD c 12) {g f : Nat} {w : List Nat} (hg : g < ng c) (hf : cgF c g = some f) : IX (u_land (sW c w) g f) 1 ∧ Sam c (u_land (sW c w) g f) := by
  obtain ⟨i1, i2, i3, i4, i5, i6, i7, i8, i9, i10, i11⟩ := id hI
  obtain ⟨x1, x2, x3, x4⟩ := h
  obtain ⟨f1, f2, f3⟩ := (i4 g hg f).mp hf
  have vD : ∀ j, cD (u_land (sW c w) g f) j = if j = 12 then cD c 9 + 2 else cD c j := fun j => rfl
  have vF : ∀ q j, cF (u_land (sW c w) g f) q j = if j = 10 ∧ q = f then s_price (cF c f 4) + cG c g 2 * s_cap (cD c 9 - cF c f 8) else if j = 9 ∧ q = f then cD c 9 else if j = 6 ∧ q = f then 2 else cF c q j := fun q j => rfl
  have vG : ∀ q j, cG (u_land (sW c w) g f) q j = if j = 8 ∧ q = g then cG c g 8 + (cD c 9 - cF c f 8) else if j = 7 ∧ q = g then cG c g 7 + 1 else if j = 6 ∧ q = g then 0 else if j = 4 ∧ q = g then 0 else cG c q j := fun q j => rfl
  have vM := fun i => cM_wd (u_ld2 (sW c w) g f) f (cD c 9 - cF c f 8) (fun s hs => ((i2.2 f f1).2.2.1 s hs).2) i
  have vM2 : ∀ i j, cM (u_wd (u_ld2 (sW c w) g f) f (cD c 9 - cF c f 8)) i j = cM (u_land (sW c w) g f) i j := fun _ _ => rfl
  have vM3 : ∀ i j, cM (u_ld2 (sW c w) g f) i j = cM c i j := fun _ _ => rfl
  have vM6 : cR (u_ld2 (sW c w) g f) f = cR c f := rfl
  have vM7 : cF (u_ld2 (sW c w) g f) f 10 = s_price (cF c f 4) + cG c g 2 * s_cap (cD c 9 - cF c f 8) := by
    show (if 10 = 10 ∧ f = f then _ else _) = _
    exact if_pos ⟨rfl, rfl⟩
  have u1 : ∀ i, cM (u_land (sW c w) g f) i 1 = cM c i 1 := fun i => by rw [← vM2, (vM i).1, vM3]
  have u7 : ∀ i, cM (u_land (sW c w) g f) i 7 = if (cR c f).1 = i then cM c i 7 + (s_price (cF c f 4) + cG c g 2 * s_cap (cD c 9 - cF c f 8)) else cM c i 7 := fun i => by
    have q := (vM i).2.2.2.2.2.2
    rw [vM2, vM3, vM6, vM7] at q
    exact q
  have hS : Sam c (u_land (sW c w) g f) := ⟨u1, fun q => by rw [vG]; simp, rfl, rfl, rfl, rfl⟩
  have en : nf (u_land (sW c w) g f) = nf c := rfl
  have em : nm (u_land (sW c w) g f) = nm c := rfl
  clear vM vM2 vM3 vM6 vM7 vG
  generalize u_land (sW c w) g f = c' at vD vF u7 hS en em ⊢
  generalize hp : s_price (cF c f 4) + cG c g 2 * s_cap (cD c 9 - cF c f 8) = p at vF u7
  have vS : ∀ q, cF c' q 6 = if q = f then 2 else cF c q 6 := fun q => by rw [vF]; simp
  have v7 : ∀ q, cF c' q 7 = cF c q 7 := fun q => by rw [vF]; simp
  have v8 : ∀ q, cF c' q 8 = cF c q 8 := fun q => by rw [vF]; simp
  have v9 : ∀ q, cF c' q 9 = if q = f then cD c 9 else cF c q 9 := fun q => by rw [vF]; simp
  have v10 : ∀ q, cF c' q 10 = if q = f then p else cF c q 10 := fun q => by rw [vF]; simp
  have d9 : cD c' 9 = cD c 9 := vD 9
  have d12 : cD c' 12 = cD c 9 + nI 2 := vD 12
  have d6 : cD c' 6 = cD c 6 := vD 6
  have d13 : cD c' 13 = cD c 13 := vD 13
  have d14 : cD c' 14 = cD c 14 := vD 14
  have hz : (cD c 12).toInt ≤ (cD c 9).toInt := Int32.le_iff_toInt_le.mp (Int32.not_lt.mp hb)
  have ez := tI_add (k := 2) i1.1.1 (by have := i1.1.2; omega)
  refine ⟨⟨?_, fun q hq hs => hS.ok ?_, ?_, ?_⟩, hS⟩
  · rw [en, d9, d12, ez]
    refine x1.land f1 f2 hz (by omega) (by rw [vS, if_pos rfl]) (by rw [v9, if_pos rfl]) (v8 f) (v7 f) (fun q hq j h6 h9 => ?_)
    rw [vF, if_neg (fun x => hq x.2), if_neg (fun x => hq x.2), if_neg (fun x => hq x.2)]
  · rw [en] at hq
    by_cases e : q = f
    · rw [e]
      exact x2 f f1 (by rw [f2]; decide)
    · rw [vS, if_neg e] at hs
      exact x2 q hq hs
  · unfold XT at x3 ⊢
    rw [tk_b, d6, d13, d14]
    exact x3
  · unfold XS at x4 ⊢
    rw [em, en]
    have z10 : cF c f 10 = 0 := by
      rw [i10 f f1]
      exact if_neg (by rw [f2]; decide)
    have s1 := sumN_at (g := fun i => cM c' i 7) (h := fun i => cM c i 7) (f0 := (cR c f).1) (n := nm c) (i2.2 f f1).1 (fun i _ hi => by
      show cM c' i 7 = cM c i 7
      rw [u7, if_neg (fun x => hi x.symm)]) (by
      show cM c' (cR c f).1 7 = cM c (cR c f).1 7 + p
      rw [u7, if_pos rfl]) (rfl : cM c (cR c f).1 7 = cM c (cR c f).1 7)
    have s2 := sumN_at (g := fun q => cF c' q 10) (h := fun q => cF c q 10) (f0 := f) (n := nf c) f1 (fun i _ hi => by
      show cF c' i 10 = cF c i 10
      rw [v10, if_neg hi]) (by
      show cF c' f 10 = p
      rw [v10, if_pos rfl]) z10
    rw [s1, s2, x4]
    grind
theorem IX_m2 (hI : IC c) (h : IX c 1) : IX (u_m2 c) 1 ∧ Sam c (u_m2 c) := by
  obtain ⟨i1, i2, i3, i4, i5, i6, i7, i8, i9, i10, i11⟩ := id hI
  unfold u_m2
  by_cases hb : cD c 9 < cD c 12
  · rw [if_pos hb]
    exact ⟨h, Sam.same c⟩
  · rw [if_neg hb]
    unfold u_lfw
    cases hw : wtg c with
    | nil => exact ⟨h, Sam.same c⟩
    | cons g w =>
      obtain ⟨hg, hfn⟩ := i8.2.1 g (by rw [hw]; exact List.mem_cons_self)
      cases hf : cgF c g with
      | none => exact absurd hf hfn
      | some f =>
        simp only [hf]
        exact IX_land hI h hb hg hf
theorem rea_34 {f : Nat} (h : s_rea c f = 0) : okF c f := by
  unfold s_rea at h
  by_cases h1 : s_flyM c f = true
  · rw [if_pos h1] at h; exact absurd h (by decide)
  rw [if_neg h1] at h
  by_cases h2 : ¬ cG c (cR c f).2.2 4 = 0 ∨ ¬ cG c (cR c f).2.2 5 = 0
  · rw [if_pos h2] at h; exact absurd h (by decide)
  rw [if_neg h2] at h
  by_cases h3 : ¬ (cR c f).2.1 = none ∧ cG c (cR c f).2.2 1 = 1
  · rw [if_pos h3] at h; exact absurd h (by decide)
  rw [if_neg h3] at h
  by_cases h4 : (cM c (cR c f).1 1 = 0 ∨ (cM c (cR c f).1 1 = 1 ∧ cM c (cR c f).1 5 = 0)) ∧ ¬ s_hasT c f = true
  · rw [if_pos h4] at h; exact absurd h (by decide)
  exact ⟨fun q => h4 ⟨Or.inl q.1, q.2⟩, fun q e => h3 ⟨q, e⟩⟩
theorem IX_sf (hI : IC c) (h : IX c 1) (hb : ¬ cD c 9 < cD c 12) : IX (u_sf c).2 1 ∧ Sam c (u_sf c).2 := by
  obtain ⟨i1, i2, i3, i4, i5, i6, i7, i8, i9, i10, i11⟩ := id hI
  unfold u_sf
  cases hs : s_can c 0 (lst c) with
  | none => exact ⟨h, Sam.same c⟩
  | some kf =>
    obtain ⟨k, f⟩ := kf
    obtain ⟨l1, l2, e1, e2, e3, e4⟩ := can_some _ _ _ _ hs
    have hfl : f ∈ lst c := by rw [e1]; exact List.mem_append_right _ List.mem_cons_self
    rw [i7, List.mem_filter, List.mem_range, decide_eq_true_eq] at hfl
    obtain ⟨f1, f2⟩ := hfl
    show IX (u_start (sL c ((lst c).eraseIdx k)) f) 1 ∧ Sam c (u_start (sL c ((lst c).eraseIdx k)) f)
    have vM : ∀ i j, j ≠ 2 → cM (u_start (sL c ((lst c).eraseIdx k)) f) i j = cM c i j := fun i j hj => by
      have e : cM (u_start (sL c ((lst c).eraseIdx k)) f) i j = cM (u_st2 (sL c ((lst c).eraseIdx k)) f) i j := rfl
      rw [e]
      unfold u_st2
      show cM (setM _ (match (cR c f).2.1 with | none => _ | some s => _)) i j = _
      cases hq : (cR c f).2.1 with
      | none =>
        show (if j = 2 ∧ i = (cR c f).1 then (1 : Int32) else cM c i j) = _
        exact if_neg (fun x => hj x.1)
      | some s =>
        show (if j = 2 ∧ i = s then (1 : Int32) else if j = 2 ∧ i = (cR c f).1 then 1 else cM c i j) = _
        rw [if_neg (fun x => hj x.1), if_neg (fun x => hj x.1)]
    have vF : ∀ q j, cF (u_start (sL c ((lst c).eraseIdx k)) f) q j = if j = 8 ∧ q = f then cD c 9 else if j = 6 ∧ q = f then 1 else cF c q j := fun _ _ => rfl
    have vG : ∀ q j, cG (u_start (sL c ((lst c).eraseIdx k)) f) q j = if j = 4 ∧ q = (cR c f).2.2 then 1 else cG c q j := fun _ _ => rfl
    have vD : ∀ j, cD (u_start (sL c ((lst c).eraseIdx k)) f) j = if cF c f 4 = 0 then (if j = 12 then cD c 9 + 2 else if j = 8 then (if 2 ≤ cD c 7 + 1 then cD c 9 + 10 else cD c 8) else if j = 7 then cD c 7 + 1 else cD c j) else (if j = 12 then cD c 9 + 3 else if j = 14 then (if ¬ cD c 13 = 0 ∧ cD c 14 = 0 then cD c 9 + 4 + cF c f 4 / 100 else cD c 14) else if j = 13 then (if cD c 13 = 0 then cD c 9 + 4 + cF c f 4 / 100 else cD c 13) else cD c j) := fun j => by
      show (if cF c f 4 = 0 then _ else _ : Nat → Int32) j = _
      split <;> rfl
    have hS : Sam c (u_start (sL c ((lst c).eraseIdx k)) f) := ⟨fun i => vM i 1 (by decide), fun q => by rw [vG, if_neg (by simp)], rfl, rfl, rfl, rfl⟩
    have en : nf (u_start (sL c ((lst c).eraseIdx k)) f) = nf c := rfl
    have em : nm (u_start (sL c ((lst c).eraseIdx k)) f) = nm c := rfl
    obtain ⟨x1, x2, x3, x4⟩ := h
    generalize u_start (sL c ((lst c).eraseIdx k)) f = c' at vM vD vF hS en em ⊢
    have v6 : ∀ q, cF c' q 6 = if q = f then 1 else cF c q 6 := fun q => by rw [vF]; simp
    have v7 : ∀ q, cF c' q 7 = cF c q 7 := fun q => by rw [vF]; simp
    have v8 : ∀ q, cF c' q 8 = if q = f then cD c 9 else cF c q 8 := fun q => by rw [vF]; simp
    have v9 : ∀ q, cF c' q 9 = cF c q 9 := fun q => by rw [vF]; simp
    have v10 : ∀ q, cF c' q 10 = cF c q 10 := fun q => by rw [vF]; simp
    have hz : (cD c 12).toInt ≤ (cD c 9).toInt := Int32.le_iff_toInt_le.mp (Int32.not_lt.mp hb)
    have ez2 := tI_add (k := 2) i1.1.1 (by have := i1.1.2; omega)
    have ez3 := tI_add (k := 3) i1.1.1 (by have := i1.1.2; omega)
    have d9 : cD c' 9 = cD c 9 := by rw [vD]; split <;> rfl
    have d6 : cD c' 6 = cD c 6 := by rw [vD]; split <;> rfl
    have d12 : (cD c' 12).toInt = (cD c 9).toInt + 2 ∨ (cD c' 12).toInt = (cD c 9).toInt + 3 := by
      rw [vD]
      split
      · exact Or.inl ez2
      · exact Or.inr ez3
    refine ⟨⟨?_, fun q hq hs => hS.ok ?_, ?_, ?_⟩, hS⟩
    · rw [en, d9]
      refine x1.start f1 f2 (by decide) hz (by omega) (by rw [v6, if_pos rfl]) (by rw [v8, if_pos rfl]) (v9 f) (v7 f) (fun q hq j h6 h9 => ?_)
      rw [vF, if_neg (fun x => hq x.2), if_neg (fun x => hq x.2)]
    · rw [en] at hq
      by_cases e : q = f
      · rw [e]
        exact rea_34 e3
      · rw [v6, if_neg e] at hs
        exact x2 q hq hs
    · unfold XT at x3 ⊢
      rw [tk_b, d6]
      rw [tk_b] at x3
      by_cases h4 : cF c f 4 = 0
      · have d13 : cD c' 13 = cD c 13 := by rw [vD, if_pos h4]; rfl
        have d14 : cD c' 14 = cD c 14 := by rw [vD, if_pos h4]; rfl
        rw [d13, d14]
        exact x3
      · have d13 : cD c' 13 = if cD c 13 = 0 then cD c 9 + 4 + cF c f 4 / 100 else cD c 13 := by rw [vD, if_neg h4]; rfl
        have d14 : cD c' 14 = if ¬ cD c 13 = 0 ∧ cD c 14 = 0 then cD c 9 + 4 + cF c f 4 / 100 else cD c 14 := by rw [vD, if_neg h4]; rfl
        have hft : ¬ cD c 6 - (tkb (cD c 13) + tkb (cD c 14)) ≤ 0 := fun q => (rea_0 e3).2.2 (Or.inr ⟨h4, q⟩)
        generalize cD c 9 + 4 + cF c f 4 / 100 = due at d13 d14
        rw [d13, d14]
        obtain ⟨-, -, t4, -⟩ := i1
        by_cases q1 : cD c 13 = 0
        · rw [if_pos q1, if_neg (fun x => x.1 q1)]
          rw [q1, tkb_0] at hft
          rcases tkb_01 due with a | a <;> rcases tkb_01 (cD c 14) with b | b <;> rcases t4 with x | x | x <;> rw [b, x] at hft <;> rw [a, b, x] <;> first | decide | exact absurd (by decide) hft
        · rw [if_neg q1]
          by_cases q2 : cD c 14 = 0
          · rw [if_pos ⟨q1, q2⟩]
            rw [q2, tkb_0] at hft
            have q3 : tkb (cD c 13) = 1 := if_neg q1
            rcases tkb_01 due with a | a <;> rcases t4 with x | x | x <;> rw [q3, x] at hft <;> rw [a, q3, x] <;> first | decide | exact absurd (by decide) hft
          · rw [if_neg (fun x => q2 x.2)]
            exact x3
    · unfold XS at x4 ⊢
      rw [em, en, sumN_congr (g := fun i => cM c' i 7) (h := fun i => cM c i 7) _ (fun i _ => vM i 7 (by decide)), sumN_congr (g := fun i => cF c' i 10) (h := fun i => cF c i 10) _ (fun i _ => v10 i)]
      exact x4
theorem IX.weak (h : IX c 1) : IX c 0 := ⟨h.1.weak, h.2⟩
theorem IX_min (hI : IC c) (hR : Rl c m) (h : IX c 0) (ht : tN (cD c 9) < 1500) : IX (u_min c).2 0 ∧ Sam c (u_min c).2 := by
  obtain ⟨h1, h2, -⟩ := T5 hI hR ht
  obtain ⟨h3, h4⟩ := T3 h1 h2
  obtain ⟨a1, s1⟩ := IX_m1 hI h ht
  obtain ⟨a2, s2⟩ := IX_m2 h1 a1
  unfold u_min
  simp only []
  by_cases hb : cD (u_m2 (u_m1 c)) 9 < cD (u_m2 (u_m1 c)) 12
  · rw [if_pos hb]
    exact ⟨a2.weak, s1.trans s2⟩
  · rw [if_neg hb]
    obtain ⟨a3, s3⟩ := IX_sf h3 a2 hb
    exact ⟨a3.weak, (s1.trans s2).trans s3⟩
theorem IX_tick (hI : IC c) (hR : Rl c m) (h : IX c 0) : ∀ n, tN (cD c 9) + n ≤ 1500 → IX (u_tick n c).2 0 ∧ Sam c (u_tick n c).2
  | 0, _ => ⟨h, Sam.same c⟩
  | n + 1, hn => by
    obtain ⟨h1, h2, -, h4⟩ := T7 hI hR n (by omega)
    obtain ⟨a1, s1⟩ := IX_tick hI hR h n (by omega)
    obtain ⟨a2, s2⟩ := IX_min h1 h2 a1 (by omega)
    exact ⟨a2, s1.trans s2⟩
end IV1
