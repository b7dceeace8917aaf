/-! what the day's methods give and do, over CS -/
section SP
def sumN (n : Nat) (f : Nat → Int32) : Int32 := match n with
  | 0 => 0
  | n + 1 => sumN n f + f n
def s_tk (c : CS) : Int32 := (if cD c 13 = 0 then 0 else 1) + (if cD c 14 = 0 then 0 else 1)
def s_ft (c : CS) : Int32 := cD c 6 - s_tk c
def s_air (c : CS) : Int32 := sumN (ng c) (fun g => if cG c g 4 = 0 then 0 else 1)
def s_mem (c : CS) (i : Nat) (w : Int32) : Int32 := if w = 0 then cM c i 1 else if w = 1 then (if cM c i 2 = 0 then 0 else 1) else if w = 2 then cM c i 3 else if w = 3 then cM c i 4 else if w = 4 then cM c i 5 else cM c i 6
def s_gli (c : CS) (i : Nat) (w : Int32) : Int32 := if w = 0 then cG c i 4 else if w = 1 then (if cG c i 5 = 0 then 0 else 1) else if w = 2 then cG c i 7 else if w = 3 then cG c i 8 else (match cgF c i with
  | none => -1
  | some f => nI f)
def s_fli (c : CS) (i : Nat) (w : Int32) : Int32 := if w = 0 then cF c i 6 else if w = 1 then nI (cR c i).1 else if w = 2 then (match (cR c i).2.1 with
  | none => -1
  | some s => nI s) else if w = 3 then nI (cR c i).2.2 else if w = 4 then cF c i 4 else if w = 5 then cF c i 8 else if w = 6 then cF c i 9 else cF c i 10
def s_cnt (c : CS) (w : Int32) : Int32 := if w = 0 then nI (nm c) else if w = 1 then nI (ng c) else if w = 2 then nI (nf c) else if w = 3 then nI (lst c).length else if w = 4 then s_air c else if w = 5 then nI (wtg c).length else if w = 6 then 2 - cD c 7 else s_ft c
def s_earn (c : CS) (i : Nat) : Prop := (cM c i 1 = 0 ∧ 3 ≤ cM c i 5) ∨ (cM c i 1 = 1 ∧ 5 ≤ cM c i 6)
def s_hasT (c : CS) (f : Nat) : Bool := match (cR c f).2.1 with
  | none => false
  | some s => decide (cM c s 1 = 3)
def s_wind (l : Int32) : Int32 := if l = 0 then 0 else if l = 1 then 12 else if l = 2 then 25 else 30
def s_flyM (c : CS) (f : Nat) : Bool := decide (¬ cM c (cR c f).1 2 = 0) || (match (cR c f).2.1 with
  | none => false
  | some s => decide (¬ cM c s 2 = 0))
def s_windy (c : CS) (f : Nat) : Prop := cG c (cR c f).2.2 3 < cD c 10 ∨ s_wind (if s_hasT c f = true then 3 else cM c (cR c f).1 1) < cD c 10
def s_noL (c : CS) (f : Nat) : Prop := (cF c f 4 = 0 ∧ 2 ≤ cD c 7) ∨ (¬ cF c f 4 = 0 ∧ s_ft c ≤ 0)
def s_needT (c : CS) (i : Nat) : Prop := cM c i 1 = 0 ∨ (cM c i 1 = 1 ∧ cM c i 5 = 0)
def s_rea (c : CS) (f : Nat) : Int32 :=
  if s_flyM c f = true then 1
  else if ¬ cG c (cR c f).2.2 4 = 0 ∨ ¬ cG c (cR c f).2.2 5 = 0 then 2
  else if ¬ (cR c f).2.1 = none ∧ cG c (cR c f).2.2 1 = 1 then 3
  else if (cM c (cR c f).1 1 = 0 ∨ (cM c (cR c f).1 1 = 1 ∧ cM c (cR c f).1 5 = 0)) ∧ ¬ s_hasT c f = true then 4
  else if cG c (cR c f).2.2 3 < cD c 10 ∨ s_wind (if s_hasT c f = true then 3 else cM c (cR c f).1 1) < cD c 10 then 5
  else if cD c 11 - cD c 9 < 10 then 6
  else if (cF c f 4 = 0 ∧ 2 ≤ cD c 7) ∨ (¬ cF c f 4 = 0 ∧ s_ft c ≤ 0) then 7
  else if cD c 9 < cD c 12 then 8 else 0
def s_must (c : CS) (g : Nat) : Bool := match cgF c g with
  | none => false
  | some f => decide (¬ cG c g 6 = 0 ∨ cD c 11 ≤ cD c 9 ∨ cF c f 5 ≤ cD c 9 - cF c f 8)
def s_price (h : Int32) : Int32 := if h = 0 then 8 else h / 20
def s_cap (m : Int32) : Int32 := if (180 : Int32) < m then 180 else m
theorem sD_self (c : CS) (j : Nat) : sD c j (cD c j) = c := by
  have e : (fun k => if k = j then cD c j else c.1 k) = c.1 := by
    funext k
    by_cases h : k = j
    · rw [if_pos h, h]; rfl
    · rw [if_neg h]
  show ((fun k => if k = j then cD c j else c.1 k), c.2) = c
  rw [e]
theorem sG_self (c : CS) (i j : Nat) : sG c i j (cG c i j) = c := by
  have e : up2 c.2.2.1 i j (cG c i j) = c.2.2.1 := by
    funext a b
    show (if b = j ∧ a = i then cG c i j else c.2.2.1 a b) = c.2.2.1 a b
    by_cases h : b = j ∧ a = i
    · rw [if_pos h, h.1, h.2]; rfl
    · rw [if_neg h]
  show (c.1, c.2.1, up2 c.2.2.1 i j (cG c i j), c.2.2.2) = c
  rw [e]
def setM (c : CS) (M : Nat → Nat → Int32) : CS := (c.1, M, c.2.2)
def setD (c : CS) (D : Nat → Int32) : CS := (D, c.2)
def sWo (c : CS) (l : List Nat) (o : Bool) : CS := (c.1, c.2.1, c.2.2.1, c.2.2.2.1, c.2.2.2.2.1, c.2.2.2.2.2.1, (c.2.2.2.2.2.2.1.1, c.2.2.2.2.2.2.1.2.1, c.2.2.2.2.2.2.1.2.2.1, o), (c.2.2.2.2.2.2.2.1.1, l), c.2.2.2.2.2.2.2.2)
def u_cab (c : CS) : CS := sD c 7 (if 2 ≤ cD c 7 ∧ cD c 8 ≤ cD c 9 then 0 else cD c 7)
def u_tg0 (c : CS) : CS := sD c 13 (if cD c 13 ≤ cD c 9 then 0 else cD c 13)
def u_tg1 (c : CS) : CS := sD c 14 (if cD c 14 ≤ cD c 9 then 0 else cD c 14)
def u_tgs (c : CS) : CS := u_tg1 (u_tg0 c)
/-- glider g begins to wait, if it must -/
def w_must (c : CS) (g : Nat) : Bool := decide (cG c g 4 = 1) && s_must c g
def u_w1 (c : CS) (g : Nat) : CS := sWo (sG c g 4 (if w_must c g = true then 2 else cG c g 4)) (if w_must c g = true then wtg c ++ [g] else wtg c) (ow c || w_must c g)
def u_wN (c : CS) : Nat → CS
  | 0 => c
  | g + 1 => u_w1 (u_wN c g) g
def u_dn (c : CS) (i : Nat) (m : Int32) : CS := sM (sM (sM c i 2 0) i 3 (cM c i 3 + 1)) i 4 (cM c i 4 + m)
def u_wd1 (c : CS) (f : Nat) (m : Int32) : CS := u_dn (sM c (cR c f).1 7 (cM c (cR c f).1 7 + cF c f 10)) (cR c f).1 m
def u_wd (c : CS) (f : Nat) (m : Int32) : CS := setM c (match (cR c f).2.1 with
  | none => (sM (u_wd1 c f m) (cR c f).1 6 (cM (u_wd1 c f m) (cR c f).1 6 + 1)).2.1
  | some s => if cM (u_dn (u_wd1 c f m) s m) s 1 = 3 then (sM (u_dn (u_wd1 c f m) s m) (cR c f).1 5 (cM (u_dn (u_wd1 c f m) s m) (cR c f).1 5 + 1)).2.1 else (u_dn (u_wd1 c f m) s m).2.1)
/-- glider g lands from flight f -/
def u_ld1 (c : CS) (g f : Nat) : CS := sF (sF (sF c f 6 2) f 9 (cD c 9)) f 10 (s_price (cF c f 4) + cG c g 2 * s_cap (cD c 9 - cF c f 8))
def u_ld2 (c : CS) (g f : Nat) : CS := sG (sG (sG (sgF (sG (u_ld1 c g f) g 4 0) g none) g 6 0) g 7 (cG c g 7 + 1)) g 8 (cG c g 8 + (cD c 9 - cF c f 8))
def u_land (c : CS) (g f : Nat) : CS := sD (u_wd (u_ld2 c g f) f (cD c 9 - cF c f 8)) 12 (cD c 9 + 2)
def u_lfw (c : CS) : CS := match wtg c with
  | [] => c
  | g :: w => match cgF c g with
    | none => sW c w
    | some f => u_land (sW c w) g f
def u_cbl (c : CS) : CS := sD (sD c 7 (cD c 7 + 1)) 8 (if 2 ≤ cD c 7 + 1 then cD c 9 + 10 else cD c 8)
def u_tug (c : CS) (h : Int32) : CS := sD (sD c 13 (if cD c 13 = 0 then cD c 9 + 4 + h / 100 else cD c 13)) 14 (if ¬ cD c 13 = 0 ∧ cD c 14 = 0 then cD c 9 + 4 + h / 100 else cD c 14)
/-- flight f begins -/
def u_st1 (c : CS) (f : Nat) : CS := sM (sF (sF c f 6 1) f 8 (cD c 9)) (cR c f).1 2 1
def u_st2 (c : CS) (f : Nat) : CS := setM (u_st1 c f) (match (cR c f).2.1 with
  | none => (u_st1 c f).2.1
  | some s => (sM (u_st1 c f) s 2 1).2.1)
def u_st3 (c : CS) (f : Nat) : CS := sgF (sG (u_st2 c f) (cR c f).2.2 4 1) (cR c f).2.2 (some f)
def u_start (c : CS) (f : Nat) : CS := setD (u_st3 c f) (if cF c f 4 = 0 then (sD (u_cbl (u_st3 c f)) 12 (cD c 9 + 2)).1 else (sD (u_tug (u_st3 c f) (cF c f 4)) 12 (cD c 9 + 3)).1)
def u_off (c : CS) (x : Int32) : CS := sL c (if 0 ≤ x ∧ x < nI (lst c).length then (lst c).eraseIdx x.toNatClampNeg else lst c)
theorem ad_wN (c : CS) (n : Nat) : ad (u_wN c n) = ad c ∧ nm (u_wN c n) = nm c ∧ ng (u_wN c n) = ng c ∧ nf (u_wN c n) = nf c ∧ cR (u_wN c n) = cR c ∧ cD (u_wN c n) = cD c ∧ lst (u_wN c n) = lst c ∧ cM (u_wN c n) = cM c ∧ cF (u_wN c n) = cF c ∧ cgF (u_wN c n) = cgF c := by
  induction n with
  | zero => exact ⟨rfl, rfl, rfl, rfl, rfl, rfl, rfl, rfl, rfl, rfl⟩
  | succ n ih => exact ih
theorem ad_lfw (c : CS) : ad (u_lfw c) = ad c ∧ nm (u_lfw c) = nm c ∧ ng (u_lfw c) = ng c ∧ nf (u_lfw c) = nf c ∧ cR (u_lfw c) = cR c ∧ lst (u_lfw c) = lst c ∧ ow (u_lfw c) = ow c := by
  unfold u_lfw
  cases wtg c with
  | nil => exact ⟨rfl, rfl, rfl, rfl, rfl, rfl, rfl⟩
  | cons g w =>
    cases h : cgF c g with
    | none => simp only [h]; exact ⟨rfl, rfl, rfl, rfl, rfl, rfl, rfl⟩
    | some f => simp only [h]; exact ⟨rfl, rfl, rfl, rfl, rfl, rfl, rfl⟩
theorem ow_w1 (c : CS) (g : Nat) (h : ow c = true) : ow (u_w1 c g) = true := by
  show (ow c || w_must c g) = true
  rw [h]
  rfl
theorem ow_wN (c : CS) (m n : Nat) (h : m ≤ n) (ho : ow (u_wN c m) = true) : ow (u_wN c n) = true := by
  induction n with
  | zero => rw [show m = 0 by omega] at ho; exact ho
  | succ n ih =>
    rcases Nat.lt_or_ge n m with q | q
    · rw [show m = n + 1 by omega] at ho; exact ho
    · exact ow_w1 _ _ (ih q)
/-- the place of the first flight on the list, from p on, that can begin -/
def s_can (c : CS) (p : Nat) : List Nat → Option (Nat × Nat)
  | [] => none
  | f :: l => if s_rea c f = 0 then some (p, f) else s_can c (p + 1) l
def u_sf (c : CS) : Int32 × CS := match s_can c 0 (lst c) with
  | none => (0, c)
  | some (p, f) => (1, u_start (sL c ((lst c).eraseIdx p)) f)
def s_busy (c : CS) : Prop := cD c 9 < cD c 12
/-- one minute up to the landing -/
def u_m1 (c : CS) : CS := u_wN (u_tgs (u_cab (sD c 9 (cD c 9 + 1)))) (ng c)
def u_m2 (c : CS) : CS := if cD c 9 < cD c 12 then c else u_lfw c
def u_min (c : CS) : Int32 × CS :=
  let c2 := u_m2 (u_m1 c)
  if cD c2 9 < cD c2 12 then (0, c2) else u_sf c2
def u_tick : Nat → CS → Int32 × CS
  | 0, c => (0, c)
  | n + 1, c => ((u_tick n c).1 + (u_min (u_tick n c).2).1, (u_min (u_tick n c).2).2)
def s_inc (c : CS) : Int32 := sumN (nf c) (fun f => cF c f 10)
/-- the longest of the first n flights: its number (-1 for none) and its minutes -/
def s_lng (c : CS) : Nat → Int32 × Int32
  | 0 => (-1, 0)
  | n + 1 => if cF c n 6 = 2 ∧ ((s_lng c n).1 = -1 ∨ (s_lng c n).2 < cF c n 9 - cF c n 8) then (nI n, cF c n 9 - cF c n 8) else s_lng c n
def s_wb (c : CS) (n : Nat) : Int32 := sumN n (fun f => if cF c f 8 = -1 then 0 else 1)
def s_ws (c : CS) (n : Nat) : Int32 := sumN n (fun f => if cF c f 8 = -1 then 0 else cF c f 8 - cF c f 7)
def mixL (d : Int64) (x : Int32) : Int64 := d * 31 + x.toInt64
def foldL (f : Nat → Int64 → Int64) : Nat → Int64 → Int64
  | 0, d => d
  | n + 1, d => f n (foldL f n d)
def s_dm (c : CS) (i : Nat) (d : Int64) : Int64 := mixL (foldL (fun w d => mixL d (s_mem c i (nI w))) 6 d) (cM c i 7)
def s_dg (c : CS) (i : Nat) (d : Int64) : Int64 := foldL (fun w d => mixL d (s_gli c i (nI w))) 5 d
def s_df (c : CS) (i : Nat) (d : Int64) : Int64 := foldL (fun w d => mixL d (s_fli c i (nI w))) 8 d
def s_dig (c : CS) : Int64 :=
  let d1 := foldL (fun w d => mixL d (s_cnt c (nI w))) 8 (mixL 317 (cD c 9))
  let d2 := foldL (s_df c) (nf c) (foldL (s_dg c) (ng c) (foldL (s_dm c) (nm c) d1))
  (lst c).foldl (fun d f => mixL d (nI f)) d2
end SP
