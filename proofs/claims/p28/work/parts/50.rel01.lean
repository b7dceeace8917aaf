/-! class and reference as numbers: what holds of the class's day alone (IC), and what ties the two (Rl) -/
section RE1
/-- flight f has member i -/
def fHas (c : CS) (f i : Nat) : Bool := decide ((cR c f).1 = i ∨ (cR c f).2.1 = some i)
def k3 (c : CS) (i f : Nat) : Int32 := if cF c f 6 = 2 ∧ fHas c f i = true then 1 else 0
def k4 (c : CS) (i f : Nat) : Int32 := if cF c f 6 = 2 ∧ fHas c f i = true then cF c f 9 - cF c f 8 else 0
def k5 (c : CS) (i f : Nat) : Int32 := if cF c f 6 = 2 ∧ (cR c f).1 = i ∧ s_hasT c f = true then 1 else 0
def k6 (c : CS) (i f : Nat) : Int32 := if cF c f 6 = 2 ∧ (cR c f).1 = i ∧ (cR c f).2.1 = none then 1 else 0
def k7 (c : CS) (g f : Nat) : Int32 := if cF c f 6 = 2 ∧ (cR c f).2.2 = g then 1 else 0
def k8 (c : CS) (g f : Nat) : Int32 := if cF c f 6 = 2 ∧ (cR c f).2.2 = g then cF c f 9 - cF c f 8 else 0
def kb (c : CS) (i f : Nat) : Int32 := if (cR c f).1 = i then cF c f 10 else 0
def kc (c : CS) (f : Nat) : Int32 := if cF c f 6 = 2 then s_price (cF c f 4) + cG c (cR c f).2.2 2 * s_cap (cF c f 9 - cF c f 8) else 0
def oI : Option Nat → Int32
  | none => -1
  | some f => nI f
def I_rng (c : CS) : Prop := (cD c 9 = nI (tN (cD c 9)) ∧ tN (cD c 9) ≤ 1500) ∧ (cD c 7 = 0 ∨ cD c 7 = 1 ∨ cD c 7 = 2) ∧ (cD c 6 = 0 ∨ cD c 6 = 1 ∨ cD c 6 = 2) ∧ 0 ≤ cD c 13 ∧ 0 ≤ cD c 14 ∧ (lst c).length ≤ 30
def I_ref (c : CS) : Prop := (nm c ≤ 16 ∧ ng c ≤ 8 ∧ nf c ≤ 100) ∧ ∀ f, f < nf c → (cR c f).1 < nm c ∧ (cR c f).2.2 < ng c ∧ (∀ s, (cR c f).2.1 = some s → s < nm c ∧ s ≠ (cR c f).1) ∧ 0 ≤ cF c f 4 ∧ cF c f 4 ≤ 1500
def I_fly (c : CS) : Prop := ∀ i, i < nm c → (cM c i 2 = 0 ∨ cM c i 2 = 1) ∧ (cM c i 2 = 1 ↔ ∃ f, f < nf c ∧ cF c f 6 = 1 ∧ fHas c f i = true)
def I_gli (c : CS) : Prop := ∀ g, g < ng c → ∀ f, cgF c g = some f ↔ f < nf c ∧ cF c f 6 = 1 ∧ (cR c f).2.2 = g
def I_one (c : CS) : Prop := ∀ f1, f1 < nf c → ∀ f2, f2 < nf c → cF c f1 6 = 1 → cF c f2 6 = 1 → ∀ i, fHas c f1 i = true → fHas c f2 i = true → f1 = f2
def I_cnt (c : CS) : Prop := ∀ i, i < nm c → cM c i 3 = sumN (nf c) (k3 c i) ∧ cM c i 4 = sumN (nf c) (k4 c i) ∧ cM c i 5 = sumN (nf c) (k5 c i) ∧ cM c i 6 = sumN (nf c) (k6 c i)
def I_lst (c : CS) : Prop := lst c = (List.range (nf c)).filter (fun f => decide (cF c f 6 = 0))
def I_wtg (c : CS) : Prop := (wtg c).Nodup ∧ (∀ g, g ∈ wtg c → g < ng c ∧ cgF c g ≠ none) ∧ (∀ g, g < ng c → cG c g 4 = if g ∈ wtg c then 2 else if cgF c g = none then 0 else 1) ∧ s_air c = sumN (nf c) (fun f => if cF c f 6 = 1 then 1 else 0)
def I_gct (c : CS) : Prop := ∀ g, g < ng c → cG c g 7 = sumN (nf c) (k7 c g) ∧ cG c g 8 = sumN (nf c) (k8 c g)
def I_cst (c : CS) : Prop := ∀ f, f < nf c → cF c f 10 = kc c f
def I_clr (c : CS) : Prop := ∀ g, g < ng c → (cG c g 5 = 0 ∨ cG c g 5 = 1) ∧ (cgF c g = none → cG c g 6 = 0)
def IC (c : CS) : Prop := I_rng c ∧ I_ref c ∧ I_fly c ∧ I_gli c ∧ I_one c ∧ I_cnt c ∧ I_lst c ∧ I_wtg c ∧ I_gct c ∧ I_cst c ∧ I_clr c
def Rsc (c : CS) (m : MS) : Prop := (mY m 9 = nI (nm c) ∧ mY m 12 = nI (ng c) ∧ mY m 20 = nI (nf c)) ∧ mY m 1 = cD c 9 ∧ mY m 2 = cD c 10 ∧ mY m 3 = cD c 11 ∧ mY m 4 = cD c 12 ∧ mY m 5 = 2 - cD c 7 ∧ (cD c 7 = 2 → mY m 6 = cD c 8) ∧ mY m 7 = cD c 6 ∧ mZ m 8 0 = cD c 13 ∧ mZ m 8 1 = cD c 14
def Rme (c : CS) (m : MS) : Prop := (∀ i, i < nm c → mZ m 10 i = cM c i 1 ∧ cM c i 7 = -(mZ m 11 i) + sumN (nf c) (kb c i)) ∧ ∀ i, nm c ≤ i → mZ m 11 i = 0
def Rgl (c : CS) (m : MS) : Prop := (∀ g, g < ng c → mZ m 13 g = cG c g 1 ∧ mZ m 14 g = cG c g 2 ∧ mZ m 15 g = cG c g 3 ∧ mZ m 16 g = cG c g 5 ∧ (cgF c g ≠ none → mZ m 17 g = cG c g 6)) ∧ ∀ g, ng c ≤ g → mZ m 16 g = 0
def Rwt (c : CS) (m : MS) : Prop := (mY m 19 = nI (tN (mY m 19)) ∧ tN (mY m 19) ≤ 8 * tN (cD c 9)) ∧ (∀ g, mZ m 18 g = nI (tN (mZ m 18 g)) ∧ tN (mZ m 18 g) ≤ tN (mY m 19) ∧ (0 < tN (mZ m 18 g) ↔ g ∈ wtg c)) ∧ (wtg c).Pairwise (fun a b => tN (mZ m 18 a) < tN (mZ m 18 b))
def Rfl (c : CS) (m : MS) : Prop := ∀ f, f < nf c → mZ m 21 f = nI (cR c f).1 ∧ mZ m 22 f = oI (cR c f).2.1 ∧ mZ m 23 f = nI (cR c f).2.2 ∧ mZ m 24 f = cF c f 4 ∧ mZ m 25 f = cF c f 5 ∧ mZ m 26 f = cF c f 7 ∧ mZ m 27 f = cF c f 8 ∧ mZ m 28 f = cF c f 9 ∧ mZ m 29 f = cF c f 6
def Rl (c : CS) (m : MS) : Prop := Rsc c m ∧ Rme c m ∧ Rgl c m ∧ Rwt c m ∧ Rfl c m
/-! sums -/
theorem sumN_congr {g h : Nat → Int32} : ∀ n, (∀ f, f < n → g f = h f) → sumN n g = sumN n h
  | 0, _ => rfl
  | n + 1, e => by
    show sumN n g + g n = sumN n h + h n
    rw [sumN_congr n (fun f hf => e f (Nat.lt_succ_of_lt hf)), e n (Nat.lt_succ_self n)]
theorem sumN_upd {g h : Nat → Int32} {f0 : Nat} : ∀ n, f0 < n → (∀ f, f < n → f ≠ f0 → g f = h f) → sumN n g = sumN n h + (g f0 - h f0)
  | 0, hf, _ => absurd hf (Nat.not_lt_zero _)
  | n + 1, hf, e => by
    show sumN n g + g n = sumN n h + h n + (g f0 - h f0)
    by_cases q : f0 = n
    · subst q
      rw [sumN_congr f0 (fun f hf => e f (Nat.lt_succ_of_lt hf) (Nat.ne_of_lt hf))]
      grind
    · rw [sumN_upd n (by omega) (fun f hf2 => e f (Nat.lt_succ_of_lt hf2)), e n (Nat.lt_succ_self n) (fun x => q x.symm)]
      grind
theorem sumN_0 {g : Nat → Int32} : ∀ n, (∀ f, f < n → g f = 0) → sumN n g = 0
  | 0, _ => rfl
  | n + 1, e => by
    show sumN n g + g n = 0
    rw [sumN_0 n (fun f hf => e f (Nat.lt_succ_of_lt hf)), e n (Nat.lt_succ_self n)]
    rfl
theorem sumN_len (p : Nat → Bool) : ∀ n, nI ((List.range n).filter p).length = sumN n (fun f => if p f = true then 1 else 0)
  | 0 => rfl
  | n + 1 => by
    show _ = sumN n _ + _
    rw [← sumN_len p n, List.range_succ, List.filter_append, List.length_append]
    show _ = _ + (if p n = true then 1 else 0)
    by_cases h : p n = true
    · rw [if_pos h, nI_1]
      simp [h]
    · rw [if_neg h, Int32.add_zero]
      simp [h]
theorem sumN_mem {n : Nat} : ∀ l : List Nat, l.Nodup → (∀ g, g ∈ l → g < n) → sumN n (fun g => if g ∈ l then 1 else 0) = nI l.length
  | [], _, _ => by
    rw [sumN_0 n (fun f _ => if_neg List.not_mem_nil)]
    exact nI_0.symm
  | a :: l, hn, hl => by
    obtain ⟨h1, h2⟩ := List.nodup_cons.mp hn
    have e := sumN_upd (g := fun g => if g ∈ a :: l then 1 else 0) (h := fun g => if g ∈ l then 1 else 0) (f0 := a) n (hl a List.mem_cons_self) (fun f _ hf => by
      show (if f ∈ a :: l then (1 : Int32) else 0) = if f ∈ l then 1 else 0
      simp [List.mem_cons, hf])
    rw [e, sumN_mem l h2 (fun g hg => hl g (List.mem_cons_of_mem _ hg)), List.length_cons, ← nI_1, if_pos List.mem_cons_self, if_neg h1]
    rfl
theorem anyB_iff {p : Nat → Bool} : ∀ n, anyB p n = true ↔ ∃ f, f < n ∧ p f = true
  | 0 => ⟨(fun h => by cases h), fun ⟨f, hf, _⟩ => absurd hf (Nat.not_lt_zero f)⟩
  | n + 1 => by
    show (anyB p n || p n) = true ↔ _
    rw [Bool.or_eq_true, anyB_iff n]
    constructor
    · rintro (⟨f, h1, h2⟩ | h)
      · exact ⟨f, Nat.lt_succ_of_lt h1, h2⟩
      · exact ⟨n, Nat.lt_succ_self n, h⟩
    · rintro ⟨f, h1, h2⟩
      by_cases e : f = n
      · exact Or.inr (e ▸ h2)
      · exact Or.inl ⟨f, by omega, h2⟩
theorem fgo_one {p : Nat → Bool} {f : Nat} : ∀ k i, i ≤ f → f < i + k → p f = true → (∀ q, i ≤ q → q < f → p q = false) → fgo p k i = nI f
  | 0, i, h1, h2, _, _ => absurd h2 (by omega)
  | k + 1, i, h1, h2, h3, h4 => by
    show (if p i = true then nI i else fgo p k (i + 1)) = nI f
    by_cases e : i = f
    · rw [e, if_pos h3]
    · rw [if_neg (by rw [h4 i (Nat.le_refl _) (by omega)]; decide), fgo_one k (i + 1) (by omega) (by omega) h3 (fun q hq => h4 q (by omega))]
theorem fgo_no {p : Nat → Bool} : ∀ k i, (∀ q, i ≤ q → q < i + k → p q = false) → fgo p k i = -1
  | 0, i, _ => rfl
  | k + 1, i, h => by
    show (if p i = true then nI i else fgo p k (i + 1)) = -1
    rw [if_neg (by rw [h i (Nat.le_refl _) (by omega)]; decide), fgo_no k (i + 1) (fun q h1 h2 => h q (by omega) (by omega))]
theorem nI_inj {a b : Nat} (ha : a ≤ 1000) (hb : b ≤ 1000) : nI a = nI b ↔ a = b := nI_eq (by omega) (by omega)
theorem nI_m1' {i : Nat} (h : i ≤ 1000) : ¬ nI i = -1 := nI_m1 (by omega)
theorem oI_m1 {o : Option Nat} (h : ∀ s, o = some s → s ≤ 1000) : oI o = -1 ↔ o = none := by
  cases o with
  | none => exact ⟨fun _ => rfl, fun _ => rfl⟩
  | some s => exact ⟨fun q => absurd q (nI_m1' (h s rfl)), fun q => by cases q⟩
theorem oI_eq {o : Option Nat} {i : Nat} (h : ∀ s, o = some s → s ≤ 1000) (hi : i ≤ 1000) : oI o = nI i ↔ o = some i := by
  cases o with
  | none => exact ⟨fun q => absurd q.symm (nI_m1' hi), fun q => by cases q⟩
  | some s => exact (nI_inj (h s rfl) hi).trans ⟨fun q => by rw [q], fun q => by cases q; rfl⟩
theorem ite_cg {α : Type} {P Q : Prop} [Decidable P] [Decidable Q] {x y u v : α} (h : P ↔ Q) (h1 : x = u) (h2 : y = v) : (if P then x else y) = if Q then u else v := by
  rw [h1, h2]
  by_cases q : P
  · rw [if_pos q, if_pos (h.mp q)]
  · rw [if_neg q, if_neg (fun e => q (h.mpr e))]
theorem pos_ne {x : Int32} (h : 0 ≤ x) : 0 < x ↔ ¬ x = 0 := by
  constructor
  · intro q e
    rw [e] at q
    exact absurd q (by decide)
  · intro q
    exact Int32.lt_of_le_of_ne h (fun e => q e.symm)
end RE1
