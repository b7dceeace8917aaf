/-! rows for longs and doubles -/
section R2
variable {L : Launch} {rm r2 : Room} {G : GT} {A A1 : Nat → Prop} {H0 : Heap} {n0 : Nat} {cc bytes : ByteArray} {own : String} {E : WE} {H : Heap} {k n pc maxL nA idx : Nat} {lv lv' : List (Nat × Value)} {st rest As : List Value} {ret ret2 : Option FieldType} {nm : String} {Post Post2 : Heap → Option Value → Heap → Prop}
theorem x_lstore_n (F : fx L rm G A H0 n0 cc own E) {q : Fin 4} {i : Nat} {x : Int64} (hd : decode cc pc = .ok (.lstore_n q, 1)) (hi : (q : Nat) = i) (hn : i + 1 < n0) (hl2 : (i, Value.long x) :: lv.filter (fun q => !(q.1 == i) && (!(q.1 == i + 1) && !(q.1 + 1 == i && q.2.category == 2))) = lv') (kk : wx E H k n (pc + 1) lv' st) : wx E H k n pc lv (.long x :: st) := by
  obtain ⟨p, l, e, R, s, m, args, below, meth, c, A1, nL, Q⟩ := E
  obtain ⟨⟨hx, hb, hml, hown, hts⟩, hL, hR, hAA, hH0, hnL, hKt, hKh, hfr, hlk⟩ := F
  intro locs ls hS hl
  exact lv_lstore_n hx hb hd hi hl (by rw [hnL]; exact hn) hl2 (fun ls2 hl3 => kk locs ls2 hS hl3)
theorem x_lstore (F : fx L rm G A H0 n0 cc own E) {i : Nat} {x : Int64} (hd : decode cc pc = .ok (.lstore i, 2)) (hn : i + 1 < n0) (hl2 : (i, Value.long x) :: lv.filter (fun q => !(q.1 == i) && (!(q.1 == i + 1) && !(q.1 + 1 == i && q.2.category == 2))) = lv') (kk : wx E H k n (pc + 2) lv' st) : wx E H k n pc lv (.long x :: st) := by
  obtain ⟨p, l, e, R, s, m, args, below, meth, c, A1, nL, Q⟩ := E
  obtain ⟨⟨hx, hb, hml, hown, hts⟩, hL, hR, hAA, hH0, hnL, hKt, hKh, hfr, hlk⟩ := F
  intro locs ls hS hl
  exact lv_lstore hx hb hd hl (by rw [hnL]; exact hn) hl2 (fun ls2 hl3 => kk locs ls2 hS hl3)
theorem x_dstore (F : fx L rm G A H0 n0 cc own E) {i : Nat} {x : UInt64} (hd : decode cc pc = .ok (.dstore i, 2)) (hn : i + 1 < n0) (hl2 : (i, Value.double x) :: lv.filter (fun q => !(q.1 == i) && (!(q.1 == i + 1) && !(q.1 + 1 == i && q.2.category == 2))) = lv') (kk : wx E H k n (pc + 2) lv' st) : wx E H k n pc lv (.double x :: st) := by
  obtain ⟨p, l, e, R, s, m, args, below, meth, c, A1, nL, Q⟩ := E
  obtain ⟨⟨hx, hb, hml, hown, hts⟩, hL, hR, hAA, hH0, hnL, hKt, hKh, hfr, hlk⟩ := F
  intro locs ls hS hl
  exact lv_dstore hx hb hd hl (by rw [hnL]; exact hn) hl2 (fun ls2 hl3 => kk locs ls2 hS hl3)
theorem x_ldc2 (F : fx L rm G A H0 n0 cc own E) {v : Int64} (hc : Cond.constantLong own idx v ∈ WALL) (hd : decode cc pc = .ok (.ldc2_w idx, 3)) (kk : wx E H k n (pc + 3) lv (.long v :: st)) : wx E H k n pc lv st := by
  obtain ⟨p, l, e, R, s, m, args, below, meth, c, A1, nL, Q⟩ := E
  obtain ⟨⟨hx, hb, hml, hown, hts⟩, hL, hR, hAA, hH0, hnL, hKt, hKh, hfr, hlk⟩ := F
  intro locs ls hS hl
  exact lv_ldc2 hx hb hown (hts _ hc) hd (kk locs ls hS hl)
theorem x_lconst (F : fx L rm G A H0 n0 cc own E) {q : Fin 2} {v : Int64} (hd : decode cc pc = .ok (.lconst q, 1)) (hv : Int64.ofNat (q : Nat) = v) (kk : wx E H k n (pc + 1) lv (.long v :: st)) : wx E H k n pc lv st := by
  obtain ⟨p, l, e, R, s, m, args, below, meth, c, A1, nL, Q⟩ := E
  obtain ⟨⟨hx, hb, hml, hown, hts⟩, hL, hR, hAA, hH0, hnL, hKt, hKh, hfr, hlk⟩ := F
  intro locs ls hS hl
  exact lv_lconst hx hb hd hv (kk locs ls hS hl)
theorem x_lcmp (F : fx L rm G A H0 n0 cc own E) {x y : Int64} (hd : decode cc pc = .ok (.lcmp, 1)) (kk : wx E H k n (pc + 1) lv (.int (lg_cmp x y) :: st)) : wx E H k n pc lv (.long y :: .long x :: st) := by
  obtain ⟨p, l, e, R, s, m, args, below, meth, c, A1, nL, Q⟩ := E
  obtain ⟨⟨hx, hb, hml, hown, hts⟩, hL, hR, hAA, hH0, hnL, hKt, hKh, hfr, hlk⟩ := F
  intro locs ls hS hl
  exact W.lcmp hx hb hd (kk locs ls hS hl)
theorem x_dconst0 (F : fx L rm G A H0 n0 cc own E) (hd : decode cc pc = .ok (.dconst 0, 1)) (kk : wx E H k n (pc + 1) lv (.double FP.dconst0 :: st)) : wx E H k n pc lv st := by
  obtain ⟨p, l, e, R, s, m, args, below, meth, c, A1, nL, Q⟩ := E
  obtain ⟨⟨hx, hb, hml, hown, hts⟩, hL, hR, hAA, hH0, hnL, hKt, hKh, hfr, hlk⟩ := F
  intro locs ls hS hl
  exact lv_dconst0 hx hb hd (kk locs ls hS hl)
theorem x_i2d (F : fx L rm G A H0 n0 cc own E) {x : Int32} (hd : decode cc pc = .ok (.i2d, 1)) (kk : wx E H k n (pc + 1) lv (.double (FP.i2d x) :: st)) : wx E H k n pc lv (.int x :: st) := by
  obtain ⟨p, l, e, R, s, m, args, below, meth, c, A1, nL, Q⟩ := E
  obtain ⟨⟨hx, hb, hml, hown, hts⟩, hL, hR, hAA, hH0, hnL, hKt, hKh, hfr, hlk⟩ := F
  intro locs ls hS hl
  exact lv_i2d hx hb hd (kk locs ls hS hl)
theorem x_dcmp (F : fx L rm G A H0 n0 cc own E) {x y : UInt64} {op : CmpOp} (hd : decode cc pc = .ok (.dcmp op, 1)) (kk : wx E H k n (pc + 1) lv (.int (Op.cmpValue (FP.dcmp x y) op) :: st)) : wx E H k n pc lv (.double y :: .double x :: st) := by
  obtain ⟨p, l, e, R, s, m, args, below, meth, c, A1, nL, Q⟩ := E
  obtain ⟨⟨hx, hb, hml, hown, hts⟩, hL, hR, hAA, hH0, hnL, hKt, hKh, hfr, hlk⟩ := F
  intro locs ls hS hl
  exact lv_dcmp hx hb hd (kk locs ls hS hl)
theorem ddiv_nn (a : Int32) {b : Int32} (h : ¬ b = 0) : FP.Core.dIsNaN (FP.Core.ddiv (FP.Core.i2d a) (FP.Core.i2d b)) = false := by
  refine FP.Core.ddiv_out ?_ (FP.Core.i2d_fin b) (fun hz => FP.Core.i2d_ne_zero h ((FP.Core.zero_bits2 _).mp hz))
  cases hn : FP.Core.dIsNaN (FP.Core.i2d a) with
  | false => rfl
  | true =>
    have h1 := (FP.Core.isNaN_bits _).mp hn
    have h2 := (FP.Core.fin_bits _).mp (FP.Core.i2d_fin a)
    omega
theorem nn_of {r : UInt64} (h : FP.Core.dIsNaN r = false) : vf_n64 r := by
  have h1 : ¬ 9218868437227405312 < r.toNat % 2 ^ 63 := fun q => by rw [(FP.Core.isNaN_bits r).mpr q] at h; cases h
  show r &&& 0x7fffffffffffffff ≤ 0x7ff0000000000000
  rw [UInt64.le_iff_toNat_le, UInt64.toNat_and]
  show r.toNat &&& (2 ^ 63 - 1) ≤ 9218868437227405312
  rw [Nat.and_two_pow_sub_one_eq_mod]
  omega
theorem x_ddiv (F : fx L rm G A H0 n0 cc own E) {a b : Int32} (h : ¬ b = 0) (hd : decode cc pc = .ok (.ddiv, 1)) (kk : wx E H k n (pc + 1) lv (.double (FP.ddiv (FP.i2d a) (FP.i2d b)) :: st)) : wx E H k n pc lv (.double (FP.i2d b) :: .double (FP.i2d a) :: st) := by
  obtain ⟨p, l, e, R, s, m, args, below, meth, c, A1, nL, Q⟩ := E
  obtain ⟨⟨hx, hb, hml, hown, hts⟩, hL, hR, hAA, hH0, hnL, hKt, hKh, hfr, hlk⟩ := F
  intro locs ls hS hl
  exact lv_ddiv hx hb hd (nn_of (ddiv_nn a h)) (kk locs ls hS hl)
theorem x_dret (F : fx L rm G A H0 n0 cc own E) {v : UInt64} (hE : fe rm A Post (some .double) nm E) (hd : decode cc pc = .ok (.dreturn, 1)) (hc : k ≤ rm.cells) (hs : n ≤ rm.slots) (hp : Post H0 (some (.double v)) H) : wx E H k n pc lv [.double v] := by
  obtain ⟨p, l, e, R, s, m, args, below, meth, c, A1, nL, Q⟩ := E
  obtain ⟨⟨hx, hb, hml, hown, hts⟩, hL, hR, hAA, hH0, hnL, hKt, hKh, hfr, hlk⟩ := F
  subst hL hR hAA hH0 hnL
  obtain ⟨hQ, hr, hnm⟩ := hE
  intro locs ls hS hl
  refine W.widen hc hs ?_
  rcases hQ with hQ | ⟨PX, hQ⟩
  · subst hQ
    exact W.dret hx hb hr (fun t ht hW => ⟨_, rfl, by rw [ht]; exact hp, hS.F ht⟩) hS.2.2 hd hlk
  · subst hQ
    exact vx_ret (W.dret hx hb hr (fun t ht hW => ⟨_, rfl, by rw [ht]; exact hp, hS.F ht⟩) hS.2.2 hd hlk)
theorem wx_lv (h : lv = lv') (kk : wx E H k n pc lv' st) : wx E H k n pc lv st := h ▸ kk
end R2
