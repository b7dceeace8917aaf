/-! the reference as numbers (MS), and the heap that holds it (RepM) -/
section MD1
/-- numbers by slot, rows by slot and index, addresses by slot (30: the object) -/
abbrev MS : Type := (Nat → Int32) × (Nat → Nat → Int32) × (Nat → Nat)
def mY (m : MS) : Nat → Int32 := m.1
def mZ (m : MS) : Nat → Nat → Int32 := m.2.1
def upz (f : Nat → Nat → Int32) (j i : Nat) (v : Int32) : Nat → Nat → Int32 := fun a b => if a = j ∧ b = i then v else f a b
def sY (m : MS) (j : Nat) (v : Int32) : MS := (fun k => if k = j then v else m.1 k, m.2)
def sZ (m : MS) (j i : Nat) (v : Int32) : MS := (m.1, upz m.2.1 j i v, m.2.2)
section
variable {L : Launch} {rm r2 : Room} {G : GT} {A A1 : Nat → Prop} {H0 : Heap} {n0 : Nat} {cc bytes : ByteArray} {own : String} {E : WE} {H H1 : Heap} {k n pc maxL nA idx : Nat} {lv lv' : List (Nat × Value)} {st rest As : List Value} {m : MS}
end
end MD1
/-! the reference's own methods -/
section MD2
def mm (m : MS) : Nat := tN (mY m 9)
def mg (m : MS) : Nat := tN (mY m 12)
def mf (m : MS) : Nat := tN (mY m 20)
/-- the first number from i on, of k, of which p holds; -1 -/
def fgo (p : Nat → Bool) : Nat → Nat → Int32
  | 0, _ => -1
  | k + 1, i => if p i = true then nI i else fgo p k (i + 1)
def anyB (p : Nat → Bool) : Nat → Bool
  | 0 => false
  | n + 1 => anyB p n || p n
def m_tk (m : MS) : Int32 := (if 0 < mZ m 8 0 then 1 else 0) + (if 0 < mZ m 8 1 then 1 else 0)
def p_fo (m : MS) (x : Int32) (f : Nat) : Bool := decide (mZ m 29 f = 1 ∧ mZ m 23 f = x)
/-- the flight that a glider makes -/
def m_fo (m : MS) (x : Int32) : Int32 := fgo (p_fo m x) (mf m) 0
def p_fl (m : MS) (x : Int32) (f : Nat) : Bool := decide (mZ m 29 f = 1 ∧ (mZ m 21 f = x ∨ mZ m 22 f = x))
def m_fl (m : MS) (x : Int32) : Bool := anyB (p_fl m x) (mf m)
def m_wt (m : MS) (f : Nat) : Bool := decide (¬ mZ m 22 f = -1 ∧ mZ m 10 (tN (mZ m 22 f)) = 3)
end MD2
/-! the reference's own methods: sums, costs, reasons -/
section MD3
/-- what a flight counts for a member: 2 landings, 3 minutes, 4 with a teacher, 5 alone -/
def m_ls (m : MS) (x w : Int32) (f : Nat) : Int32 := if mZ m 29 f = 2 ∧ (mZ m 21 f = x ∨ mZ m 22 f = x) then (if w = 2 then 1 else if w = 3 then mZ m 28 f - mZ m 27 f else if w = 4 then (if mZ m 21 f = x ∧ m_wt m f = true then 1 else 0) else (if mZ m 21 f = x ∧ mZ m 22 f = -1 then 1 else 0)) else 0
def m_ld (m : MS) (x w : Int32) : Int32 := sumN (mf m) (m_ls m x w)
def m_rea (m : MS) (f : Nat) : Int32 :=
  if m_fl m (mZ m 21 f) = true ∨ (¬ mZ m 22 f = -1 ∧ m_fl m (mZ m 22 f) = true) then 1
  else if ¬ m_fo m (mZ m 23 f) = -1 ∨ ¬ mZ m 16 (tN (mZ m 23 f)) = 0 then 2
  else if ¬ mZ m 22 f = -1 ∧ mZ m 13 (tN (mZ m 23 f)) = 1 then 3
  else if ¬ m_wt m f = true ∧ (mZ m 10 (tN (mZ m 21 f)) = 0 ∨ (mZ m 10 (tN (mZ m 21 f)) = 1 ∧ m_ld m (mZ m 21 f) 4 = 0)) then 4
  else if mZ m 15 (tN (mZ m 23 f)) < mY m 2 ∨ s_wind (if m_wt m f = true then 3 else mZ m 10 (tN (mZ m 21 f))) < mY m 2 then 5
  else if mY m 3 - mY m 1 < 10 then 6
  else if (mZ m 24 f = 0 ∧ mY m 5 = 0) ∨ (¬ mZ m 24 f = 0 ∧ mY m 7 ≤ m_tk m) then 7
  else if mY m 1 < mY m 4 then 8 else 0
end MD3
/-! the reference's own methods: a minute -/
section MD4
def n_b3 (m : MS) (f : Nat) : MS := sZ (sZ (sZ m 29 f 1) 27 f (mY m 1)) 17 (tN (mZ m 23 f)) 0
/-- flight f begins -/
def n_begin (m : MS) (f : Nat) : MS := if 0 < mZ m 24 f then sY (sZ (n_b3 m f) 8 (if mZ m 8 0 = 0 then 0 else 1) (mY m 1 + 4 + mZ m 24 f / 100)) 4 (mY m 1 + 3) else sY (sY (sY (n_b3 m f) 5 (mY m 5 - 1)) 6 (mY m 1 + 10)) 4 (mY m 1 + 2)
/-- glider g lands -/
def n_land (m : MS) (g : Nat) : MS := sY (sZ (sZ (sZ m 29 (tN (m_fo m (nI g))) 2) 28 (tN (m_fo m (nI g))) (mY m 1)) 18 g 0) 4 (mY m 1 + 2)
end MD4
/-! the reference's minute -/
section MD5
def n_m1 (m : MS) : MS := sY (sY m 1 (mY m 1 + 1)) 5 (if mY m 5 = 0 ∧ mY m 6 ≤ mY m 1 + 1 then 2 else mY m 5)
def n_tu (m : MS) (k : Nat) : MS := sZ m 8 k (if mZ m 8 k ≤ mY m 1 then 0 else mZ m 8 k)
def n_m2 (m : MS) : MS := n_tu (n_tu (n_m1 m) 0) 1
def w_mst (m : MS) (g : Nat) : Bool := decide (¬ m_fo m (nI g) = -1 ∧ ¬ 0 < mZ m 18 g ∧ ¬ (mY m 1 - mZ m 27 (tN (m_fo m (nI g))) < mZ m 25 (tN (m_fo m (nI g))) ∧ mY m 1 < mY m 3 ∧ mZ m 17 g = 0))
def n_w1 (m : MS) (g : Nat) : MS := if w_mst m g = true then sZ (sY m 19 (mY m 19 + 1)) 18 g (mY m 19 + 1) else m
def n_wN (m : MS) : Nat → MS
  | 0 => m
  | g + 1 => n_w1 (n_wN m g) g
/-- the glider, of the first n, that waits longest; -1 -/
def n_nx (m : MS) : Nat → Int32
  | 0 => -1
  | g + 1 => if 0 < mZ m 18 g ∧ (n_nx m g = -1 ∨ mZ m 18 g < mZ m 18 (tN (n_nx m g))) then nI g else n_nx m g
def n_m3 (m : MS) : MS := if ¬ mY m 1 < mY m 4 ∧ ¬ n_nx m (mg m) = -1 then n_land m (tN (n_nx m (mg m))) else m
def p_can (m : MS) (f : Nat) : Bool := decide (mZ m 29 f = 0 ∧ m_rea m f = 0)
def n_go (m : MS) : Int32 × MS := if mY m 1 < mY m 4 then (0, m) else if fgo (p_can m) (mf m) 0 = -1 then (0, m) else (1, n_begin m (tN (fgo (p_can m) (mf m) 0)))
def n_min (m : MS) : Int32 × MS := n_go (n_m3 (n_wN (n_m2 m) (mg m)))
def n_tick : Nat → MS → Int32 × MS
  | 0, m => (0, m)
  | n + 1, m => ((n_tick n m).1 + (n_min (n_tick n m).2).1, (n_min (n_tick n m).2).2)
end MD5
/-! the reference's minute, walked -/
section MD6
theorem nI_m1 {i : Nat} (h : i < 2 ^ 31) : ¬ nI i = -1 := fun e => absurd (nI_pos' h) (by rw [e]; decide)
end MD6
/-! the reference's public methods -/
section MD7
/-! what they give and leave; m has thrown = 0 already -/
def q_setWind (m : MS) (x : Int32) : Int32 × MS := if 0 ≤ x ∧ x ≤ 40 then (mY m 2, sY m 2 x) else (0, sY m 0 1)
def q_setTugs (m : MS) (x : Int32) : Int32 × MS := if 0 ≤ x ∧ x ≤ 2 then (if x < m_tk m then (0, sY m 0 2) else (x - m_tk m, sY m 7 x)) else (0, sY m 0 1)
def q_addMember (m : MS) (v : Int32) : Int32 × MS := if 0 ≤ v ∧ v ≤ 3 then (if mY m 9 = 16 then (0, sY m 0 2) else (mY m 9 + 1 - 1, sY (sZ m 10 (mm m) v) 9 (mY m 9 + 1))) else (0, sY m 0 1)
def q_addGlider (m : MS) (s1 r1 l1 : Int32) : Int32 × MS := if (1 ≤ s1 ∧ s1 ≤ 2) ∧ (1 ≤ r1 ∧ r1 ≤ 50) ∧ (5 ≤ l1 ∧ l1 ≤ 40) then (if mY m 12 = 8 then (0, sY m 0 2) else (mY m 12 + 1 - 1, sY (sZ (sZ (sZ m 13 (mg m) s1) 14 (mg m) r1) 15 (mg m) l1) 12 (mY m 12 + 1))) else (0, sY m 0 1)
end MD7
/-! the reference's public methods, those that loop -/
section MD8
def m_cnt2 (m : MS) : Int32 := sumN (mf m) (fun f => if mZ m 29 f = 0 then 1 else 0)
def m_ask (m : MS) (x s g u w : Int32) : MS := sY (sZ (sZ (sZ (sZ (sZ (sZ (sZ (sZ (sZ m 21 (mf m) x) 22 (mf m) s) 23 (mf m) g) 24 (mf m) u) 25 (mf m) w) 26 (mf m) (mY m 1)) 27 (mf m) (-1)) 28 (mf m) (-1)) 29 (mf m) 0) 20 (mY m 20 + 1)
def q_ask (m : MS) (x s g u w : Int32) : Int32 × MS :=
  if ((0 ≤ x ∧ x ≤ mY m 9 - 1) ∧ (0 ≤ g ∧ g ≤ mY m 12 - 1)) ∧ (s = -1 ∨ (0 ≤ s ∧ s ≤ mY m 9 - 1)) then
    (if ¬ x = s ∧ (u = 0 ∨ (200 ≤ u ∧ u ≤ 1500)) ∧ (2 ≤ w ∧ w ≤ 300) then
      (if m_cnt2 m = 30 ∨ mY m 20 = 100 then (0, sY m 0 3) else (mY m 20 + 1 - 1, m_ask m x s g u w)) else (0, sY m 0 2)) else (0, sY m 0 1)
end MD8
/-! the reference's public methods: flights, time, the digest -/
section MD9
def q_tick (m : MS) (x : Int32) : Int32 × MS := if (1 ≤ x ∧ x ≤ 300) ∧ mY m 1 + x ≤ 1500 then n_tick (tN x) m else (0, sY m 0 1)
end MD9
/-! the reference: the digest; a new one -/
section MDA
def m00 (f : Nat → Nat) : MS := (fun j => if j = 2 then 10 else if j = 3 then 600 else if j = 5 then 2 else if j = 7 then 1 else 0, fun _ _ => 0, f)
end MDA
