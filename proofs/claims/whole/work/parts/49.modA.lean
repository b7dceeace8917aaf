/-! the reference: the digest; a new one -/
section MDA
def m_dm (m : MS) (i : Nat) (d : Int64) : Int64 := mixL (foldL (fun w d => mixL d (m_tm m i (nI w))) 6 d) (m_bill m i)
def m_dg (m : MS) (i : Nat) (d : Int64) : Int64 := foldL (fun w d => mixL d (m_tg m i (nI w))) 5 d
def m_df (m : MS) (i : Nat) (d : Int64) : Int64 := foldL (fun w d => mixL d (m_tf m i w)) 8 d
def m_dl (m : MS) (i : Nat) (d : Int64) : Int64 := if mZ m 29 i = 0 then mixL d (nI i) else d
def m_dg1 (m : MS) (n : Nat) : Int64 := foldL (fun w d => mixL d (m_cnt m (nI w))) n (9827 + (mY m 1).toInt64)
def m_dg2 (m : MS) (n : Nat) : Int64 := foldL (m_dm m) n (m_dg1 m 8)
def m_dg3 (m : MS) (n : Nat) : Int64 := foldL (m_dg m) n (m_dg2 m (mm m))
def m_dg4 (m : MS) (n : Nat) : Int64 := foldL (m_df m) n (m_dg3 m (mg m))
def m_dg5 (m : MS) (n : Nat) : Int64 := foldL (m_dl m) n (m_dg4 m (mf m))
def m_dig (m : MS) : Int64 := m_dg5 m (mf m)
theorem foldL_0 (f : Nat → Int64 → Int64) (d : Int64) : foldL f 0 d = d := rfl
theorem foldL_s (f : Nat → Int64 → Int64) (n : Nat) (d : Int64) : foldL f (n + 1) d = f n (foldL f n d) := rfl
theorem mixL_e (d : Int64) (x : Int32) : mixL d x = d * 31 + x.toInt64 := rfl
def m_i2 (m : MS) (i v : Nat) : Int64 := foldL (fun w d => mixL d (m_tm m i (nI w))) v (m_dg2 m i)
def m_i3 (m : MS) (i v : Nat) : Int64 := foldL (fun w d => mixL d (m_tg m i (nI w))) v (m_dg3 m i)
def m_i4 (m : MS) (i v : Nat) : Int64 := foldL (fun w d => mixL d (m_tf m i w)) v (m_dg4 m i)
theorem m_dg1_0 (m : MS) : m_dg1 m 0 = 9827 + (mY m 1).toInt64 := by unfold m_dg1; exact foldL_0 _ _
theorem m_dg2_0 (m : MS) : m_dg2 m 0 = m_dg1 m 8 := by unfold m_dg2; exact foldL_0 _ _
theorem m_dg3_0 (m : MS) : m_dg3 m 0 = m_dg2 m (mm m) := by unfold m_dg3; exact foldL_0 _ _
theorem m_dg4_0 (m : MS) : m_dg4 m 0 = m_dg3 m (mg m) := by unfold m_dg4; exact foldL_0 _ _
theorem m_dg5_0 (m : MS) : m_dg5 m 0 = m_dg4 m (mf m) := by unfold m_dg5; exact foldL_0 _ _
theorem m_i2_0 (m : MS) (i : Nat) : m_i2 m i 0 = m_dg2 m i := by unfold m_i2; exact foldL_0 _ _
theorem m_i3_0 (m : MS) (i : Nat) : m_i3 m i 0 = m_dg3 m i := by unfold m_i3; exact foldL_0 _ _
theorem m_i4_0 (m : MS) (i : Nat) : m_i4 m i 0 = m_dg4 m i := by unfold m_i4; exact foldL_0 _ _
theorem m_dg1_s (m : MS) (v : Nat) : m_dg1 m (v + 1) = m_dg1 m v * 31 + (m_cnt m (nI v)).toInt64 := by unfold m_dg1; rw [foldL_s, mixL_e]
theorem m_i2_s (m : MS) (i v : Nat) : m_i2 m i (v + 1) = m_i2 m i v * 31 + (m_tm m i (nI v)).toInt64 := by unfold m_i2; rw [foldL_s, mixL_e]
theorem m_i3_s (m : MS) (i v : Nat) : m_i3 m i (v + 1) = m_i3 m i v * 31 + (m_tg m i (nI v)).toInt64 := by unfold m_i3; rw [foldL_s, mixL_e]
theorem m_i4_s (m : MS) (i v : Nat) : m_i4 m i (v + 1) = m_i4 m i v * 31 + (m_tf m i v).toInt64 := by unfold m_i4; rw [foldL_s, mixL_e]
theorem m_dg2_s (m : MS) (i : Nat) : m_dg2 m (i + 1) = m_i2 m i 6 * 31 + (m_bill m i).toInt64 := by
  have e : m_dg2 m (i + 1) = m_dm m i (m_dg2 m i) := by unfold m_dg2; exact foldL_s _ _ _
  rw [e]; unfold m_dm m_i2; rw [mixL_e]
theorem m_dg3_s (m : MS) (i : Nat) : m_dg3 m (i + 1) = m_i3 m i 5 := by
  have e : m_dg3 m (i + 1) = m_dg m i (m_dg3 m i) := by unfold m_dg3; exact foldL_s _ _ _
  rw [e]; unfold m_dg m_i3; rfl
theorem m_dg4_s (m : MS) (i : Nat) : m_dg4 m (i + 1) = m_i4 m i 8 := by
  have e : m_dg4 m (i + 1) = m_df m i (m_dg4 m i) := by unfold m_dg4; exact foldL_s _ _ _
  rw [e]; unfold m_df m_i4; rfl
theorem m_dg5_s (m : MS) (i : Nat) : m_dg5 m (i + 1) = if mZ m 29 i = 0 then m_dg5 m i * 31 + (nI i).toInt64 else m_dg5 m i := by
  have e : m_dg5 m (i + 1) = m_dl m i (m_dg5 m i) := by unfold m_dg5; exact foldL_s _ _ _
  rw [e]; unfold m_dl; rw [mixL_e]
def m00 (f : Nat → Nat) : MS := (fun j => if j = 2 then 10 else if j = 3 then 600 else if j = 5 then 2 else if j = 7 then 1 else 0, fun _ _ => 0, f)
def m0a (q z : Nat) : Nat → Nat := fun j => if j = 30 then q else z + mar.idxOf j
def arV4 (G : GT) (t : Nat) : ClassId × vp_A := (mcl G (mar.getD t 0), mlen (mar.getD t 0), .inl (fun _ => 0))
def mI (G : GT) (z n : Nat) (H : Heap) : Prop := (∀ t, t < n → vt G (z + t) (.inl (arV4 G t)) H) ∧ H.size = z + n
theorem mI.one {G : GT} {z : Nat} {H : Heap} (hv : vt G (z + 0) (.inl (arV4 G 0)) H) (hs : H.size = z + 1) : mI G z 1 H := ⟨fun t ht => by rw [show t = 0 by omega]; exact hv, hs⟩
theorem mI.nw {G : GT} {z n : Nat} {H H1 : Heap} (h : mI G z n H) (hn : hnew H H1) (hv : vt G (z + n) (.inl (arV4 G n)) H1) : mI G z (n + 1) H1 := by
  refine ⟨fun t ht => ?_, by rw [hn.1, h.2]; rfl⟩
  by_cases e : t = n
  · rw [e]; exact hv
  · exact (h.1 t (by omega)).kept (hn.2 _ (by rw [h.2]; omega))
theorem mI.pt {G : GT} {z n q : Nat} {H H1 : Heap} (h : mI G z n H) (hs : hset H q H1) (hq : q < z) : mI G z n H1 :=
  ⟨fun t ht => (h.1 t ht).kept (hs.2 _ (by omega)), by rw [hs.1, h.2]⟩
theorem m0inj : ∀ i, i ∈ mar → ∀ j, j ∈ mar → mar.idxOf i = mar.idxOf j → i = j := by decide +kernel
theorem m0n30 : ∀ j, j ∈ mar → j ≠ 30 := by decide +kernel
theorem m0lt : ∀ j, j ∈ mar → mar.idxOf j < 18 ∧ mar.getD (mar.idxOf j) 0 = j := by decide +kernel
theorem repM0 {G : GT} {A : Nat → Prop} {H : Heap} {q z : Nat} (hq : q < z) (hI : mI G z 18 H) (hA : A q) (hfr : ∀ p, z ≤ p → A p) (hd : vt G q (.inr (5, modV (m00 (m0a q z)))) H) : RepM G A (m00 (m0a q z)) H := by
  have e : ∀ j, j ∈ mar → ma (m00 (m0a q z)) j = z + mar.idxOf j := fun j hj => if_neg (m0n30 j hj)
  have e30 : ma (m00 (m0a q z)) 30 = q := show (if (30 : Nat) = 30 then q else z + mar.idxOf 30) = q from if_pos rfl
  refine ⟨⟨by rw [e30]; exact hA, fun j hj => by rw [e j hj]; exact hfr _ (Nat.le_add_right _ _)⟩, ⟨fun j hj => by rw [e j hj, e30]; omega, fun i hi j hj h => m0inj i hi j hj (by rw [e i hi, e j hj] at h; omega)⟩, by rw [e30]; exact hd, fun j hj => ?_⟩
  rw [e j hj]
  have h9 := hI.1 _ (m0lt j hj).1
  unfold arV4 at h9
  rw [(m0lt j hj).2] at h9
  exact h9
theorem upd00 : upd (upd (fun _ => (0 : Int32)) 0 0) 1 0 = fun _ => 0 := by
  funext b
  show (if b = 1 then (0 : Int32) else if b = 0 then 0 else 0) = 0
  split
  · rfl
  · split <;> rfl
set_option maxHeartbeats 4000000 in
set_option maxRecDepth 100000 in
theorem c_X4_digest (l : Launch) (G : GT) (A : Nat → Prop) (m : MS) (hW : WfM m) : Ct l yX4_digest cX4_digest 5 (some .long) ({ frames := 3, cells := 800, slots := 6400, locals := 68 } : Room) G A [.ref (ma m 30)] (fun H => RepM G A m H) (fun H r H1 => r = some (.long (m_dig (sY m 0 0))) ∧ RepM G A (sY m 0 0) H1) := by
  refine ct_of (own := "GliderDayModel") (by decide +kernel) rfl (Nat.le_of_ble_eq_true rfl) (fun E H0 F hE hR => ?_)
  show wx E H0 0 0 0 [(0, .ref (ma m 30))] []
  refine x_aload_n F dX4_digest_0 0 rfl rfl ?_
  refine x_iconst (v := 0) F rfl dX4_digest_1 ?_
  refine z_put (m := m) (j := 0) (v := 0) F hR mw_799 rfl (by decide) rfl rfl rfl dX4_digest_2 (fun H1 hR2 => ?_)
  obtain ⟨z, hz⟩ : ∃ z, z = sY m 0 0 := ⟨_, rfl⟩
  have hW : WfM z := by rw [hz]; exact Same.wf (Same.Y (by decide)) hW
  rw [← hz] at hR2
  refine wx_lv (lv' := [(0, .ref (ma z 30))]) (by rw [hz]; rfl) ?_
  refine x_ldc2 F mw_1091 dX4_digest_5 ?_
  refine x_aload_n F dX4_digest_8 0 rfl rfl ?_
  refine z_get (m := z) (j := 1) (v := .int (mY z 1)) F hR2 mw_800 rfl (by decide) rfl dX4_digest_9 ?_
  refine x_i2l F dX4_digest_12 ?_
  refine x_ladd F dX4_digest_13 ?_
  refine x_lstore_n (lv' := [(1, .long (9827 + ((mY z 1).toInt64))), (0, .ref (ma z 30))]) F dX4_digest_14 rfl (by decide) rfl ?_
  refine x_iconst (v := 0) F rfl dX4_digest_15 ?_
  refine x_istore_n (lv' := [(3, .int 0), (1, .long (9827 + ((mY z 1).toInt64))), (0, .ref (ma z 30))]) F dX4_digest_16 rfl (by decide) rfl ?_
  refine wx_sub (lv' := [(0, .ref (ma z 30)), (1, .long (9827 + ((mY z 1).toInt64))), (3, .int 0)]) [2, 1, 0] rfl ?_
  refine wx_lv (lv' := [(0, .ref (ma z 30)), (1, .long (m_dg1 z 0)), (3, .int 0)]) (by rw [m_dg1_0]) ?_
  refine (loop_dn (N := 8) (P := fun v => wx E H1 0 0 17 [(0, .ref (ma z 30)), (1, .long (m_dg1 z v)), (3, .int (nI v))] []) ?_ ?_) 0 (Nat.zero_le _)
  · refine x_iload_n F dX4_digest_17 2 rfl rfl ?_
    refine x_bipush (v := 8) F rfl dX4_digest_18 ?_
    refine x_icmp_ge F dX4_digest_20 (tgt := 42) (by decide) (fun _ => ?_) (fun h3 => absurd (Int32.le_refl _) h3)
    refine x_iconst (v := 0) F rfl dX4_digest_42 ?_
    refine x_istore_n (lv' := [(3, .int 0), (0, .ref (ma z 30)), (1, .long (m_dg1 z 8))]) F dX4_digest_43 rfl (by decide) rfl ?_
    refine wx_sub (lv' := [(0, .ref (ma z 30)), (1, .long (m_dg1 z 8)), (3, .int 0)]) [1, 2, 0] rfl ?_
    refine wx_lv (lv' := [(0, .ref (ma z 30)), (1, .long (m_dg2 z 0)), (3, .int 0)]) (by rw [m_dg2_0]) ?_
    refine (loop_dn (N := (mm z)) (P := fun i => wx E H1 0 0 44 [(0, .ref (ma z 30)), (1, .long (m_dg2 z i)), (3, .int (nI i))] []) ?_ ?_) 0 (Nat.zero_le _)
    · refine x_iload_n F dX4_digest_44 2 rfl rfl ?_
      refine x_aload_n F dX4_digest_45 0 rfl rfl ?_
      refine z_get (m := z) (j := 9) (v := .int (mY z 9)) F hR2 mw_808 rfl (by decide) rfl dX4_digest_46 ?_
      refine wx_i (y := nI (mm z)) hW.1.1 ?_
      refine x_icmp_ge F dX4_digest_49 (tgt := 102) (by decide) (fun _ => ?_) (fun h4 => absurd (Int32.le_refl _) h4)
      refine x_iconst (v := 0) F rfl dX4_digest_102 ?_
      refine x_istore_n (lv' := [(3, .int 0), (0, .ref (ma z 30)), (1, .long (m_dg2 z (mm z)))]) F dX4_digest_103 rfl (by decide) rfl ?_
      refine wx_sub (lv' := [(0, .ref (ma z 30)), (1, .long (m_dg2 z (mm z))), (3, .int 0)]) [1, 2, 0] rfl ?_
      refine wx_lv (lv' := [(0, .ref (ma z 30)), (1, .long (m_dg3 z 0)), (3, .int 0)]) (by rw [m_dg3_0]) ?_
      refine (loop_dn (N := (mg z)) (P := fun i => wx E H1 0 0 104 [(0, .ref (ma z 30)), (1, .long (m_dg3 z i)), (3, .int (nI i))] []) ?_ ?_) 0 (Nat.zero_le _)
      · refine x_iload_n F dX4_digest_104 2 rfl rfl ?_
        refine x_aload_n F dX4_digest_105 0 rfl rfl ?_
        refine z_get (m := z) (j := 12) (v := .int (mY z 12)) F hR2 mw_811 rfl (by decide) rfl dX4_digest_106 ?_
        refine wx_i (y := nI (mg z)) hW.2.1.1 ?_
        refine x_icmp_ge F dX4_digest_109 (tgt := 148) (by decide) (fun _ => ?_) (fun h5 => absurd (Int32.le_refl _) h5)
        refine x_iconst (v := 0) F rfl dX4_digest_148 ?_
        refine x_istore_n (lv' := [(3, .int 0), (0, .ref (ma z 30)), (1, .long (m_dg3 z (mg z)))]) F dX4_digest_149 rfl (by decide) rfl ?_
        refine wx_sub (lv' := [(0, .ref (ma z 30)), (1, .long (m_dg3 z (mg z))), (3, .int 0)]) [1, 2, 0] rfl ?_
        have hmf := hW.2.2.1.2
        refine wx_lv (lv' := [(0, .ref (ma z 30)), (1, .long (m_dg4 z 0)), (3, .int 0)]) (by rw [m_dg4_0]) ?_
        refine wx_kn (k2 := 8 * 0) (n2 := 64 * 0) rfl rfl ?_
        refine (loop_dn (N := mf z) (P := fun i => ∀ H : Heap, RepM G A z H → wx E H (8 * i) (64 * i) 150 [(0, .ref (ma z 30)), (1, .long (m_dg4 z i)), (3, .int (nI i))] []) ?_ ?_) 0 (Nat.zero_le _) H1 hR2
        · intro H hR
          refine x_iload_n F dX4_digest_150 2 rfl rfl ?_
          refine x_aload_n F dX4_digest_151 0 rfl rfl ?_
          refine z_get (m := z) (j := 20) (v := .int (mY z 20)) F hR mw_819 rfl (by decide) rfl dX4_digest_152 ?_
          refine wx_i (y := nI (mf z)) hW.2.2.1.1 ?_
          refine x_icmp_ge F dX4_digest_155 (tgt := 195) (by decide) (fun _ => ?_) (fun h6 => absurd (Int32.le_refl _) h6)
          refine x_iconst (v := 0) F rfl dX4_digest_195 ?_
          refine x_istore_n (lv' := [(3, .int 0), (0, .ref (ma z 30)), (1, .long (m_dg4 z (mf z)))]) F dX4_digest_196 rfl (by decide) rfl ?_
          refine wx_sub (lv' := [(0, .ref (ma z 30)), (1, .long (m_dg4 z (mf z))), (3, .int 0)]) [1, 2, 0] rfl ?_
          refine wx_lv (lv' := [(0, .ref (ma z 30)), (1, .long (m_dg5 z 0)), (3, .int 0)]) (by rw [m_dg5_0]) ?_
          refine (loop_dn (N := (mf z)) (P := fun i => wx E H (8 * (mf z)) (64 * (mf z)) 197 [(0, .ref (ma z 30)), (1, .long (m_dg5 z i)), (3, .int (nI i))] []) ?_ ?_) 0 (Nat.zero_le _)
          · refine x_iload_n F dX4_digest_197 2 rfl rfl ?_
            refine x_aload_n F dX4_digest_198 0 rfl rfl ?_
            refine z_get (m := z) (j := 20) (v := .int (mY z 20)) F hR mw_819 rfl (by decide) rfl dX4_digest_199 ?_
            refine wx_i (y := nI (mf z)) hW.2.2.1.1 ?_
            refine x_icmp_ge F dX4_digest_202 (tgt := 229) (by decide) (fun _ => ?_) (fun h7 => absurd (Int32.le_refl _) h7)
            refine x_lload_n F dX4_digest_229 1 rfl rfl ?_
            exact x_lret F hE dX4_digest_230 (by first | exact Nat.le_of_ble_eq_true rfl | (show 8 * mf z ≤ 800; omega)) (by first | exact Nat.le_of_ble_eq_true rfl | (show 64 * mf z ≤ 6400; omega)) (⟨by rw [← hz]; rfl, by rw [← hz]; exact hR⟩)
          · intro i hi ih197
            refine x_iload_n F dX4_digest_197 2 rfl rfl ?_
            refine x_aload_n F dX4_digest_198 0 rfl rfl ?_
            refine z_get (m := z) (j := 20) (v := .int (mY z 20)) F hR mw_819 rfl (by decide) rfl dX4_digest_199 ?_
            refine wx_i (y := nI (mf z)) hW.2.2.1.1 ?_
            refine x_icmp_ge F dX4_digest_202 (tgt := 229) (by decide) (fun h8 => absurd h8 (nI_ge hi ((Nat.lt_of_le_of_lt hW.2.2.1.2 (by decide))))) (fun _ => ?_)
            refine x_aload_n F dX4_digest_205 0 rfl rfl ?_
            refine z_get (m := z) (j := 29) (v := .ref (ma z 29)) F hR mw_828 rfl (by decide) rfl dX4_digest_206 ?_
            refine x_iload_n F dX4_digest_209 2 rfl rfl ?_
            refine z_ildN (m := z) (j := 29) (i := i) F hR (by decide) rfl rfl (Nat.lt_of_lt_of_le hi hW.2.2.1.2) (by decide) dX4_digest_210 ?_
            refine x_if_ne F dX4_digest_211 (tgt := 223) (by decide) (fun h9 => ?_) (fun h9 => ?_)
            · refine x_iinc (j := 2) (v := nI (i + 1)) (lv' := [(3, .int (nI (i + 1))), (0, .ref (ma z 30)), (1, .long (m_dg5 z i))]) F dX4_digest_223 rfl (nI_1 _) (by decide) rfl ?_
              refine x_goto F dX4_digest_226 (tgt := 197) (by decide) ?_
              refine wx_sub (lv' := [(0, .ref (ma z 30)), (1, .long (m_dg5 z i)), (3, .int (nI (i + 1)))]) [1, 2, 0] rfl ?_
              refine wx_lv (lv' := [(0, .ref (ma z 30)), (1, .long (m_dg5 z (i + 1))), (3, .int (nI (i + 1)))]) (by rw [m_dg5_s]; simp [h9]) ?_
              exact ih197
            · refine x_lload_n F dX4_digest_214 1 rfl rfl ?_
              refine x_ldc2 F mw_1092 dX4_digest_215 ?_
              refine x_lmul F dX4_digest_218 ?_
              refine x_iload_n F dX4_digest_219 2 rfl rfl ?_
              refine x_i2l F dX4_digest_220 ?_
              refine x_ladd F dX4_digest_221 ?_
              refine x_lstore_n (lv' := [(1, .long (((m_dg5 z i) * 31) + ((nI i).toInt64))), (0, .ref (ma z 30)), (3, .int (nI i))]) F dX4_digest_222 rfl (by decide) rfl ?_
              refine x_iinc (j := 2) (v := nI (i + 1)) (lv' := [(3, .int (nI (i + 1))), (1, .long (((m_dg5 z i) * 31) + ((nI i).toInt64))), (0, .ref (ma z 30))]) F dX4_digest_223 rfl (nI_1 _) (by decide) rfl ?_
              refine x_goto F dX4_digest_226 (tgt := 197) (by decide) ?_
              refine wx_sub (lv' := [(0, .ref (ma z 30)), (1, .long (((m_dg5 z i) * 31) + ((nI i).toInt64))), (3, .int (nI (i + 1)))]) [2, 1, 0] rfl ?_
              refine wx_lv (lv' := [(0, .ref (ma z 30)), (1, .long (m_dg5 z (i + 1))), (3, .int (nI (i + 1)))]) (by rw [m_dg5_s]; simp [h9]) ?_
              exact ih197
        · intro i hi ih H hR
          refine x_iload_n F dX4_digest_150 2 rfl rfl ?_
          refine x_aload_n F dX4_digest_151 0 rfl rfl ?_
          refine z_get (m := z) (j := 20) (v := .int (mY z 20)) F hR mw_819 rfl (by decide) rfl dX4_digest_152 ?_
          refine wx_i (y := nI (mf z)) hW.2.2.1.1 ?_
          refine x_icmp_ge F dX4_digest_155 (tgt := 195) (by decide) (fun h10 => absurd h10 (nI_ge hi (Nat.lt_of_le_of_lt hW.2.2.1.2 (by decide)))) (fun _ => ?_)
          refine x_iconst (v := 0) F rfl dX4_digest_158 ?_
          refine x_istore (lv' := [(4, .int 0), (0, .ref (ma z 30)), (1, .long (m_dg4 z i)), (3, .int (nI i))]) F dX4_digest_159 (by decide) rfl ?_
          refine wx_sub (lv' := [(0, .ref (ma z 30)), (1, .long (m_dg4 z i)), (3, .int (nI i)), (4, .int 0)]) [1, 2, 3, 0] rfl ?_
          refine wx_lv (lv' := [(0, .ref (ma z 30)), (1, .long (m_i4 z i 0)), (3, .int (nI i)), (4, .int 0)]) (by rw [m_i4_0]) ?_
          refine wx_kn (k2 := 8 * i + 0) (n2 := 64 * i + 8 * 0) rfl rfl ?_
          refine (loop_dn (N := 8) (P := fun v => ∀ H : Heap, RepM G A z H → wx E H (8 * i + v) (64 * i + 8 * v) 161 [(0, .ref (ma z 30)), (1, .long (m_i4 z i v)), (3, .int (nI i)), (4, .int (nI v))] []) ?_ ?_) 0 (Nat.zero_le _) H hR
          · intro H hR
            refine x_iload F dX4_digest_161 3 rfl ?_
            refine x_bipush (v := 8) F rfl dX4_digest_163 ?_
            refine x_icmp_ge F dX4_digest_165 (tgt := 189) (by decide) (fun _ => ?_) (fun h11 => absurd (by decide) h11)
            refine x_iinc (j := 2) (v := nI (i + 1)) (lv' := [(3, .int (nI (i + 1))), (0, .ref (ma z 30)), (1, .long (m_i4 z i 8)), (4, .int (nI 8))]) F dX4_digest_189 rfl (nI_1 _) (by decide) rfl ?_
            refine x_goto F dX4_digest_192 (tgt := 150) (by decide) ?_
            refine wx_sub (lv' := [(0, .ref (ma z 30)), (1, .long (m_i4 z i 8)), (3, .int (nI (i + 1)))]) [1, 2, 0] rfl ?_
            exact wx_kn (by omega) (by omega) (wx_lv (by rw [m_dg4_s]) (ih H hR))
          · intro v hv ihv H hR
            refine x_iload F dX4_digest_161 3 rfl ?_
            refine x_bipush (v := 8) F rfl dX4_digest_163 ?_
            refine x_icmp_ge F dX4_digest_165 (tgt := 189) (by decide) (fun h12 => absurd h12 (nI_ge hv (by decide))) (fun _ => ?_)
            refine x_lload_n F dX4_digest_168 1 rfl rfl ?_
            refine x_ldc2 F mw_1092 dX4_digest_169 ?_
            refine x_lmul F dX4_digest_172 ?_
            refine x_aload_n F dX4_digest_173 0 rfl rfl ?_
            refine x_iload_n F dX4_digest_174 2 rfl rfl ?_
            refine x_iload F dX4_digest_175 3 rfl ?_
            refine x_callVs (rest := [.long ((m_i4 z i v) * 31)]) F hR.2.2.1 rfl (c_X4_toldOf l G A z i hi v hv hW) k_X4_177 ⟨⟨(Nat.le_of_ble_eq_true rfl), (Nat.le_of_ble_eq_true rfl)⟩, (by show 8 * i + v + 1 ≤ 800; omega), (by show 64 * i + 8 * v + 8 ≤ 6400; omega)⟩ dX4_digest_177 rfl rfl (Nat.le_of_ble_eq_true rfl) hR ?_
            rintro _ H2 ⟨rfl, hR2⟩ - -
            refine wx_kn (k2 := 8 * i + (v + 1)) (n2 := 64 * i + 8 * (v + 1)) (by show 8 * i + v + 1 = _; omega) (by show 64 * i + 8 * v + 8 = _; omega) ?_
            refine x_i2l F dX4_digest_180 ?_
            refine x_ladd F dX4_digest_181 ?_
            refine x_lstore_n (lv' := [(1, .long (((m_i4 z i v) * 31) + ((m_tf z i v).toInt64))), (0, .ref (ma z 30)), (3, .int (nI i)), (4, .int (nI v))]) F dX4_digest_182 rfl (by decide) rfl ?_
            refine x_iinc (j := 3) (v := nI (v + 1)) (lv' := [(4, .int (nI (v + 1))), (1, .long (((m_i4 z i v) * 31) + ((m_tf z i v).toInt64))), (0, .ref (ma z 30)), (3, .int (nI i))]) F dX4_digest_183 rfl (nI_1 _) (by decide) rfl ?_
            refine x_goto F dX4_digest_186 (tgt := 161) (by decide) ?_
            refine wx_sub (lv' := [(0, .ref (ma z 30)), (1, .long (((m_i4 z i v) * 31) + ((m_tf z i v).toInt64))), (3, .int (nI i)), (4, .int (nI (v + 1)))]) [2, 1, 3, 0] rfl ?_
            exact wx_lv (by rw [m_i4_s]) (ihv H2 hR2)
      · intro i hi ih104
        refine x_iload_n F dX4_digest_104 2 rfl rfl ?_
        refine x_aload_n F dX4_digest_105 0 rfl rfl ?_
        refine z_get (m := z) (j := 12) (v := .int (mY z 12)) F hR2 mw_811 rfl (by decide) rfl dX4_digest_106 ?_
        refine wx_i (y := nI (mg z)) hW.2.1.1 ?_
        refine x_icmp_ge F dX4_digest_109 (tgt := 148) (by decide) (fun h13 => absurd h13 (nI_ge hi ((Nat.lt_of_le_of_lt hW.2.1.2 (by decide))))) (fun _ => ?_)
        refine x_iconst (v := 0) F rfl dX4_digest_112 ?_
        refine x_istore (lv' := [(4, .int 0), (0, .ref (ma z 30)), (1, .long (m_dg3 z i)), (3, .int (nI i))]) F dX4_digest_113 (by decide) rfl ?_
        refine wx_sub (lv' := [(0, .ref (ma z 30)), (1, .long (m_dg3 z i)), (3, .int (nI i)), (4, .int 0)]) [1, 2, 3, 0] rfl ?_
        refine wx_lv (lv' := [(0, .ref (ma z 30)), (1, .long (m_i3 z i 0)), (3, .int (nI i)), (4, .int 0)]) (by rw [m_i3_0]) ?_
        refine (loop_dn (N := 5) (P := fun v => wx E H1 0 0 115 [(0, .ref (ma z 30)), (1, .long (m_i3 z i v)), (3, .int (nI i)), (4, .int (nI v))] []) ?_ ?_) 0 (Nat.zero_le _)
        · refine x_iload F dX4_digest_115 3 rfl ?_
          refine x_iconst (v := 5) F rfl dX4_digest_117 ?_
          refine x_icmp_ge F dX4_digest_118 (tgt := 142) (by decide) (fun _ => ?_) (fun h14 => absurd (Int32.le_refl _) h14)
          refine x_iinc (j := 2) (v := nI (i + 1)) (lv' := [(3, .int (nI (i + 1))), (0, .ref (ma z 30)), (1, .long (m_i3 z i 5)), (4, .int (nI 5))]) F dX4_digest_142 rfl (nI_1 _) (by decide) rfl ?_
          refine x_goto F dX4_digest_145 (tgt := 104) (by decide) ?_
          refine wx_sub (lv' := [(0, .ref (ma z 30)), (1, .long (m_i3 z i 5)), (3, .int (nI (i + 1)))]) [1, 2, 0] rfl ?_
          refine wx_lv (lv' := [(0, .ref (ma z 30)), (1, .long (m_dg3 z (i + 1))), (3, .int (nI (i + 1)))]) (by rw [m_dg3_s]) ?_
          exact ih104
        · intro v hv ih115
          refine x_iload F dX4_digest_115 3 rfl ?_
          refine x_iconst (v := 5) F rfl dX4_digest_117 ?_
          refine x_icmp_ge F dX4_digest_118 (tgt := 142) (by decide) (fun h15 => absurd h15 (nI_ge hv (by decide))) (fun _ => ?_)
          refine x_lload_n F dX4_digest_121 1 rfl rfl ?_
          refine x_ldc2 F mw_1092 dX4_digest_122 ?_
          refine x_lmul F dX4_digest_125 ?_
          refine x_aload_n F dX4_digest_126 0 rfl rfl ?_
          refine x_iload_n F dX4_digest_127 2 rfl rfl ?_
          refine x_iload F dX4_digest_128 3 rfl ?_
          refine x_callVp (rest := [.long ((m_i3 z i v) * 31)]) F hR2.2.2.1 rfl (c_X4_toldOfGlider l G A z i hi (nI v) hW) k_X4_125 ⟨(Nat.le_of_ble_eq_true rfl), (Nat.le_of_ble_eq_true rfl), rfl, rfl⟩ (by first | exact Nat.le_of_ble_eq_true rfl | (show 8 * mf z ≤ 800; omega)) (by first | exact Nat.le_of_ble_eq_true rfl | (show 64 * mf z ≤ 6400; omega)) dX4_digest_130 rfl rfl (Nat.le_of_ble_eq_true rfl) hR2 ?_
          refine x_i2l F dX4_digest_133 ?_
          refine x_ladd F dX4_digest_134 ?_
          refine x_lstore_n (lv' := [(1, .long (((m_i3 z i v) * 31) + ((m_tg z i (nI v)).toInt64))), (0, .ref (ma z 30)), (3, .int (nI i)), (4, .int (nI v))]) F dX4_digest_135 rfl (by decide) rfl ?_
          refine x_iinc (j := 3) (v := nI (v + 1)) (lv' := [(4, .int (nI (v + 1))), (1, .long (((m_i3 z i v) * 31) + ((m_tg z i (nI v)).toInt64))), (0, .ref (ma z 30)), (3, .int (nI i))]) F dX4_digest_136 rfl (nI_1 _) (by decide) rfl ?_
          refine x_goto F dX4_digest_139 (tgt := 115) (by decide) ?_
          refine wx_sub (lv' := [(0, .ref (ma z 30)), (1, .long (((m_i3 z i v) * 31) + ((m_tg z i (nI v)).toInt64))), (3, .int (nI i)), (4, .int (nI (v + 1)))]) [2, 1, 3, 0] rfl ?_
          refine wx_lv (lv' := [(0, .ref (ma z 30)), (1, .long (m_i3 z i (v + 1))), (3, .int (nI i)), (4, .int (nI (v + 1)))]) (by rw [m_i3_s]) ?_
          exact ih115
    · intro i hi ih44
      refine x_iload_n F dX4_digest_44 2 rfl rfl ?_
      refine x_aload_n F dX4_digest_45 0 rfl rfl ?_
      refine z_get (m := z) (j := 9) (v := .int (mY z 9)) F hR2 mw_808 rfl (by decide) rfl dX4_digest_46 ?_
      refine wx_i (y := nI (mm z)) hW.1.1 ?_
      refine x_icmp_ge F dX4_digest_49 (tgt := 102) (by decide) (fun h16 => absurd h16 (nI_ge hi ((Nat.lt_of_le_of_lt hW.1.2 (by decide))))) (fun _ => ?_)
      refine x_iconst (v := 0) F rfl dX4_digest_52 ?_
      refine x_istore (lv' := [(4, .int 0), (0, .ref (ma z 30)), (1, .long (m_dg2 z i)), (3, .int (nI i))]) F dX4_digest_53 (by decide) rfl ?_
      refine wx_sub (lv' := [(0, .ref (ma z 30)), (1, .long (m_dg2 z i)), (3, .int (nI i)), (4, .int 0)]) [1, 2, 3, 0] rfl ?_
      refine wx_lv (lv' := [(0, .ref (ma z 30)), (1, .long (m_i2 z i 0)), (3, .int (nI i)), (4, .int 0)]) (by rw [m_i2_0]) ?_
      refine (loop_dn (N := 6) (P := fun v => wx E H1 0 0 55 [(0, .ref (ma z 30)), (1, .long (m_i2 z i v)), (3, .int (nI i)), (4, .int (nI v))] []) ?_ ?_) 0 (Nat.zero_le _)
      · refine x_iload F dX4_digest_55 3 rfl ?_
        refine x_bipush (v := 6) F rfl dX4_digest_57 ?_
        refine x_icmp_ge F dX4_digest_59 (tgt := 83) (by decide) (fun _ => ?_) (fun h17 => absurd (Int32.le_refl _) h17)
        refine x_lload_n F dX4_digest_83 1 rfl rfl ?_
        refine x_ldc2 F mw_1092 dX4_digest_84 ?_
        refine x_lmul F dX4_digest_87 ?_
        refine x_aload_n F dX4_digest_88 0 rfl rfl ?_
        refine x_iload_n F dX4_digest_89 2 rfl rfl ?_
        refine x_callVp (rest := [.long ((m_i2 z i 6) * 31)]) F hR2.2.2.1 rfl (c_X4_billOf l G A z i hi hW) k_X4_183 ⟨(Nat.le_of_ble_eq_true rfl), (Nat.le_of_ble_eq_true rfl), rfl, rfl⟩ (by first | exact Nat.le_of_ble_eq_true rfl | (show 8 * mf z ≤ 800; omega)) (by first | exact Nat.le_of_ble_eq_true rfl | (show 64 * mf z ≤ 6400; omega)) dX4_digest_90 rfl rfl (Nat.le_of_ble_eq_true rfl) hR2 ?_
        refine x_i2l F dX4_digest_93 ?_
        refine x_ladd F dX4_digest_94 ?_
        refine x_lstore_n (lv' := [(1, .long (((m_i2 z i 6) * 31) + ((m_bill z i).toInt64))), (0, .ref (ma z 30)), (3, .int (nI i)), (4, .int (nI 6))]) F dX4_digest_95 rfl (by decide) rfl ?_
        refine x_iinc (j := 2) (v := nI (i + 1)) (lv' := [(3, .int (nI (i + 1))), (1, .long (((m_i2 z i 6) * 31) + ((m_bill z i).toInt64))), (0, .ref (ma z 30)), (4, .int (nI 6))]) F dX4_digest_96 rfl (nI_1 _) (by decide) rfl ?_
        refine x_goto F dX4_digest_99 (tgt := 44) (by decide) ?_
        refine wx_sub (lv' := [(0, .ref (ma z 30)), (1, .long (((m_i2 z i 6) * 31) + ((m_bill z i).toInt64))), (3, .int (nI (i + 1)))]) [2, 1, 0] rfl ?_
        refine wx_lv (lv' := [(0, .ref (ma z 30)), (1, .long (m_dg2 z (i + 1))), (3, .int (nI (i + 1)))]) (by rw [m_dg2_s]) ?_
        exact ih44
      · intro v hv ih55
        refine x_iload F dX4_digest_55 3 rfl ?_
        refine x_bipush (v := 6) F rfl dX4_digest_57 ?_
        refine x_icmp_ge F dX4_digest_59 (tgt := 83) (by decide) (fun h18 => absurd h18 (nI_ge hv (by decide))) (fun _ => ?_)
        refine x_lload_n F dX4_digest_62 1 rfl rfl ?_
        refine x_ldc2 F mw_1092 dX4_digest_63 ?_
        refine x_lmul F dX4_digest_66 ?_
        refine x_aload_n F dX4_digest_67 0 rfl rfl ?_
        refine x_iload_n F dX4_digest_68 2 rfl rfl ?_
        refine x_iload F dX4_digest_69 3 rfl ?_
        refine x_callVp (rest := [.long ((m_i2 z i v) * 31)]) F hR2.2.2.1 rfl (c_X4_toldOfMember l G A z i hi (nI v) hW) k_X4_122 ⟨(Nat.le_of_ble_eq_true rfl), (Nat.le_of_ble_eq_true rfl), rfl, rfl⟩ (by first | exact Nat.le_of_ble_eq_true rfl | (show 8 * mf z ≤ 800; omega)) (by first | exact Nat.le_of_ble_eq_true rfl | (show 64 * mf z ≤ 6400; omega)) dX4_digest_71 rfl rfl (Nat.le_of_ble_eq_true rfl) hR2 ?_
        refine x_i2l F dX4_digest_74 ?_
        refine x_ladd F dX4_digest_75 ?_
        refine x_lstore_n (lv' := [(1, .long (((m_i2 z i v) * 31) + ((m_tm z i (nI v)).toInt64))), (0, .ref (ma z 30)), (3, .int (nI i)), (4, .int (nI v))]) F dX4_digest_76 rfl (by decide) rfl ?_
        refine x_iinc (j := 3) (v := nI (v + 1)) (lv' := [(4, .int (nI (v + 1))), (1, .long (((m_i2 z i v) * 31) + ((m_tm z i (nI v)).toInt64))), (0, .ref (ma z 30)), (3, .int (nI i))]) F dX4_digest_77 rfl (nI_1 _) (by decide) rfl ?_
        refine x_goto F dX4_digest_80 (tgt := 55) (by decide) ?_
        refine wx_sub (lv' := [(0, .ref (ma z 30)), (1, .long (((m_i2 z i v) * 31) + ((m_tm z i (nI v)).toInt64))), (3, .int (nI i)), (4, .int (nI (v + 1)))]) [2, 1, 3, 0] rfl ?_
        refine wx_lv (lv' := [(0, .ref (ma z 30)), (1, .long (m_i2 z i (v + 1))), (3, .int (nI i)), (4, .int (nI (v + 1)))]) (by rw [m_i2_s]) ?_
        exact ih55
  · intro v hv ih17
    refine x_iload_n F dX4_digest_17 2 rfl rfl ?_
    refine x_bipush (v := 8) F rfl dX4_digest_18 ?_
    refine x_icmp_ge F dX4_digest_20 (tgt := 42) (by decide) (fun h19 => absurd h19 (nI_ge hv (by decide))) (fun _ => ?_)
    refine x_lload_n F dX4_digest_23 1 rfl rfl ?_
    refine x_ldc2 F mw_1092 dX4_digest_24 ?_
    refine x_lmul F dX4_digest_27 ?_
    refine x_aload_n F dX4_digest_28 0 rfl rfl ?_
    refine x_iload_n F dX4_digest_29 2 rfl rfl ?_
    refine x_callVp (rest := [.long ((m_dg1 z v) * 31)]) F hR2.2.2.1 rfl (c_X4_counted l G A z (nI v) hW) k_X4_180 ⟨(Nat.le_of_ble_eq_true rfl), (Nat.le_of_ble_eq_true rfl), rfl, rfl⟩ (by first | exact Nat.le_of_ble_eq_true rfl | (show 8 * mf z ≤ 800; omega)) (by first | exact Nat.le_of_ble_eq_true rfl | (show 64 * mf z ≤ 6400; omega)) dX4_digest_30 rfl rfl (Nat.le_of_ble_eq_true rfl) hR2 ?_
    refine x_i2l F dX4_digest_33 ?_
    refine x_ladd F dX4_digest_34 ?_
    refine x_lstore_n (lv' := [(1, .long (((m_dg1 z v) * 31) + ((m_cnt z (nI v)).toInt64))), (0, .ref (ma z 30)), (3, .int (nI v))]) F dX4_digest_35 rfl (by decide) rfl ?_
    refine x_iinc (j := 2) (v := nI (v + 1)) (lv' := [(3, .int (nI (v + 1))), (1, .long (((m_dg1 z v) * 31) + ((m_cnt z (nI v)).toInt64))), (0, .ref (ma z 30))]) F dX4_digest_36 rfl (nI_1 _) (by decide) rfl ?_
    refine x_goto F dX4_digest_39 (tgt := 17) (by decide) ?_
    refine wx_sub (lv' := [(0, .ref (ma z 30)), (1, .long (((m_dg1 z v) * 31) + ((m_cnt z (nI v)).toInt64))), (3, .int (nI (v + 1)))]) [2, 1, 0] rfl ?_
    refine wx_lv (lv' := [(0, .ref (ma z 30)), (1, .long (m_dg1 z (v + 1))), (3, .int (nI (v + 1)))]) (by rw [m_dg1_s]) ?_
    exact ih17
set_option maxHeartbeats 4000000 in
set_option maxRecDepth 100000 in
theorem c_newModel (l : Launch) (G : GT) (A : Nat → Prop) (q : Nat) : Ct l yX4_init cX4_init 1 none ({ frames := 1, cells := 18, slots := 982, locals := 14 } : Room) G A [.ref q] (fun H => vt G q (.inr (5, [.int 0, .int 0, .int 0, .int 0, .int 0, .int 0, .int 0, .int 0, .null, .int 0, .null, .null, .int 0, .null, .null, .null, .null, .null, .null, .int 0, .int 0, .null, .null, .null, .null, .null, .null, .null, .null, .null])) H ∧ A q) (fun H r H1 => r = none ∧ ∃ f, f 30 = q ∧ RepM G A (m00 f) H1) := by
  refine ct_of (own := "GliderDayModel") (by decide +kernel) rfl (Nat.le_of_ble_eq_true rfl) (fun E H0 F hE hp => ?_)
  obtain ⟨hv, hA⟩ := hp
  show wx E H0 0 0 0 [(0, .ref q)] []
  refine x_aload_n F dX4_init_0 0 rfl rfl ?_
  refine fr_of F fun hfr => ?_
  generalize hz0 : H0.size = z at hfr
  have hqz : q < z := by rw [← hz0]; exact hv.lt
  have hI : mI G z 0 H0 := ⟨fun t ht => absurd ht (Nat.not_lt_zero t), hz0⟩
  refine x_objInit F mw_798 mw_81 mw_82 dX4_init_1 (Nat.le_of_ble_eq_true rfl) (Nat.le_of_ble_eq_true rfl) ?_
  refine x_aload_n F dX4_init_4 0 rfl rfl ?_
  refine x_bipush (v := 10) F rfl dX4_init_5 ?_
  refine x_put (C := "GliderDayModel") (T := TX4) (N := 30) F hv hA rfl (j := 2) (by decide) inX4 tyX4 tyX4_ok nmX4 mw_801 (Or.inl rfl) rfl rfl rfl rfl (Nat.le_of_ble_eq_true rfl) dX4_init_7 (fun H1 hv hs1 => ?_)
  replace hv : vt G q (.inr (5, [.int 0, .int 0, .int 10, .int 0, .int 0, .int 0, .int 0, .int 0, .null, .int 0, .null, .null, .int 0, .null, .null, .null, .null, .null, .null, .int 0, .int 0, .null, .null, .null, .null, .null, .null, .null, .null, .null])) H1 := hv
  replace hI : mI G z 0 H1 := hI.pt hs1 hqz
  refine x_aload_n F dX4_init_10 0 rfl rfl ?_
  refine x_sipush (v := 600) F rfl dX4_init_11 ?_
  refine x_put (C := "GliderDayModel") (T := TX4) (N := 30) F hv hA rfl (j := 3) (by decide) inX4 tyX4 tyX4_ok nmX4 mw_802 (Or.inl rfl) rfl rfl rfl rfl (Nat.le_of_ble_eq_true rfl) dX4_init_14 (fun H2 hv hs2 => ?_)
  replace hv : vt G q (.inr (5, [.int 0, .int 0, .int 10, .int 600, .int 0, .int 0, .int 0, .int 0, .null, .int 0, .null, .null, .int 0, .null, .null, .null, .null, .null, .null, .int 0, .int 0, .null, .null, .null, .null, .null, .null, .null, .null, .null])) H2 := hv
  replace hI : mI G z 0 H2 := hI.pt hs2 hqz
  refine x_aload_n F dX4_init_17 0 rfl rfl ?_
  refine x_iconst (v := 2) F rfl dX4_init_18 ?_
  refine x_put (C := "GliderDayModel") (T := TX4) (N := 30) F hv hA rfl (j := 5) (by decide) inX4 tyX4 tyX4_ok nmX4 mw_804 (Or.inl rfl) rfl rfl rfl rfl (Nat.le_of_ble_eq_true rfl) dX4_init_19 (fun H3 hv hs3 => ?_)
  replace hv : vt G q (.inr (5, [.int 0, .int 0, .int 10, .int 600, .int 0, .int 2, .int 0, .int 0, .null, .int 0, .null, .null, .int 0, .null, .null, .null, .null, .null, .null, .int 0, .int 0, .null, .null, .null, .null, .null, .null, .null, .null, .null])) H3 := hv
  replace hI : mI G z 0 H3 := hI.pt hs3 hqz
  refine x_aload_n F dX4_init_22 0 rfl rfl ?_
  refine x_iconst (v := 1) F rfl dX4_init_23 ?_
  refine x_put (C := "GliderDayModel") (T := TX4) (N := 30) F hv hA rfl (j := 7) (by decide) inX4 tyX4 tyX4_ok nmX4 mw_806 (Or.inl rfl) rfl rfl rfl rfl (Nat.le_of_ble_eq_true rfl) dX4_init_24 (fun H4 hv hs4 => ?_)
  replace hv : vt G q (.inr (5, [.int 0, .int 0, .int 10, .int 600, .int 0, .int 2, .int 0, .int 1, .null, .int 0, .null, .null, .int 0, .null, .null, .null, .null, .null, .null, .int 0, .int 0, .null, .null, .null, .null, .null, .null, .null, .null, .null])) H4 := hv
  replace hI : mI G z 0 H4 := hI.pt hs4 hqz
  refine x_aload_n F dX4_init_27 0 rfl rfl ?_
  refine x_iconst (v := 2) F rfl dX4_init_28 ?_
  refine x_newaI (N' := 2) F (by decide) rfl (by decide) (Nat.le_of_ble_eq_true rfl) (Nat.le_of_ble_eq_true rfl) dX4_init_29 (fun H5 v5 hn5 => ?_)
  rw [hI.2] at v5 ⊢
  replace hv := hv.kept (hn5.2 _ hv.lt)
  have hsz5 : H5.size = z + 1 := by rw [hn5.1, hI.2]
  refine x_dup F dX4_init_31 rfl ?_
  refine x_iconst (v := 0) F rfl dX4_init_32 ?_
  refine x_iconst (v := 0) F rfl dX4_init_33 ?_
  refine x_iast (i := 0) (x := 0) F v5 (hfr _ (Nat.le_add_right _ _)) (vp_in_nI (n := 0) (by decide) (by decide)) dX4_init_34 (fun H6 v6 hs6 => ?_)
  replace hv := hv.kept (hs6.2 _ (by omega))
  have hsz6 : H6.size = z + 1 := hs6.1.trans hsz5
  refine x_dup F dX4_init_35 rfl ?_
  refine x_iconst (v := 1) F rfl dX4_init_36 ?_
  refine x_iconst (v := 0) F rfl dX4_init_37 ?_
  refine x_iast (i := 1) (x := 0) F v6 (hfr _ (Nat.le_add_right _ _)) (vp_in_nI (n := 1) (by decide) (by decide)) dX4_init_38 (fun H7 v7 hs7 => ?_)
  replace hv := hv.kept (hs7.2 _ (by omega))
  have hsz7 : H7.size = z + 1 := hs7.1.trans hsz6
  rw [show upd (upd (fun _ => (0 : Int32)) (Int32.toNatClampNeg 0) 0) (Int32.toNatClampNeg 1) 0 = fun _ => 0 from upd00] at v7
  replace v7 : vt G (z + 0) (.inl (arV4 G 0)) H7 := v7
  replace hI : mI G z 1 H7 := mI.one v7 hsz7
  refine x_putF (C := "GliderDayModel") (T := TX4) (N := 30) F hE rfl hv hA rfl (j := 8) (by decide) inX4 tyX4 tyX4_ok nmX4 mw_807 (Or.inl rfl) rfl rfl rfl rfl rfl (Nat.le_of_ble_eq_true rfl) dX4_init_39 (fun H8 hv hs8 => ?_)
  replace hv : vt G q (.inr (5, [.int 0, .int 0, .int 10, .int 600, .int 0, .int 2, .int 0, .int 1, .ref (z + 0), .int 0, .null, .null, .int 0, .null, .null, .null, .null, .null, .null, .int 0, .int 0, .null, .null, .null, .null, .null, .null, .null, .null, .null])) H8 := hv
  replace hI : mI G z 1 H8 := hI.pt hs8 hqz
  refine x_aload_n F dX4_init_42 0 rfl rfl ?_
  refine x_bipush (v := 16) F rfl dX4_init_43 ?_
  refine x_newaI (N' := 16) F (by decide) rfl (by decide) (Nat.le_of_ble_eq_true rfl) (Nat.le_of_ble_eq_true rfl) dX4_init_45 (fun H9 v9 hn9 => ?_)
  rw [hI.2] at v9 ⊢
  replace hI : mI G z 2 H9 := hI.nw hn9 v9
  replace hv := hv.kept (hn9.2 _ hv.lt)
  refine x_putF (C := "GliderDayModel") (T := TX4) (N := 30) F hE rfl hv hA rfl (j := 10) (by decide) inX4 tyX4 tyX4_ok nmX4 mw_809 (Or.inl rfl) rfl rfl rfl rfl rfl (Nat.le_of_ble_eq_true rfl) dX4_init_47 (fun H10 hv hs10 => ?_)
  replace hv : vt G q (.inr (5, [.int 0, .int 0, .int 10, .int 600, .int 0, .int 2, .int 0, .int 1, .ref (z + 0), .int 0, .ref (z + 1), .null, .int 0, .null, .null, .null, .null, .null, .null, .int 0, .int 0, .null, .null, .null, .null, .null, .null, .null, .null, .null])) H10 := hv
  replace hI : mI G z 2 H10 := hI.pt hs10 hqz
  refine x_aload_n F dX4_init_50 0 rfl rfl ?_
  refine x_bipush (v := 16) F rfl dX4_init_51 ?_
  refine x_newaI (N' := 16) F (by decide) rfl (by decide) (Nat.le_of_ble_eq_true rfl) (Nat.le_of_ble_eq_true rfl) dX4_init_53 (fun H11 v11 hn11 => ?_)
  rw [hI.2] at v11 ⊢
  replace hI : mI G z 3 H11 := hI.nw hn11 v11
  replace hv := hv.kept (hn11.2 _ hv.lt)
  refine x_putF (C := "GliderDayModel") (T := TX4) (N := 30) F hE rfl hv hA rfl (j := 11) (by decide) inX4 tyX4 tyX4_ok nmX4 mw_810 (Or.inl rfl) rfl rfl rfl rfl rfl (Nat.le_of_ble_eq_true rfl) dX4_init_55 (fun H12 hv hs12 => ?_)
  replace hv : vt G q (.inr (5, [.int 0, .int 0, .int 10, .int 600, .int 0, .int 2, .int 0, .int 1, .ref (z + 0), .int 0, .ref (z + 1), .ref (z + 2), .int 0, .null, .null, .null, .null, .null, .null, .int 0, .int 0, .null, .null, .null, .null, .null, .null, .null, .null, .null])) H12 := hv
  replace hI : mI G z 3 H12 := hI.pt hs12 hqz
  refine x_aload_n F dX4_init_58 0 rfl rfl ?_
  refine x_bipush (v := 8) F rfl dX4_init_59 ?_
  refine x_newaI (N' := 8) F (by decide) rfl (by decide) (Nat.le_of_ble_eq_true rfl) (Nat.le_of_ble_eq_true rfl) dX4_init_61 (fun H13 v13 hn13 => ?_)
  rw [hI.2] at v13 ⊢
  replace hI : mI G z 4 H13 := hI.nw hn13 v13
  replace hv := hv.kept (hn13.2 _ hv.lt)
  refine x_putF (C := "GliderDayModel") (T := TX4) (N := 30) F hE rfl hv hA rfl (j := 13) (by decide) inX4 tyX4 tyX4_ok nmX4 mw_812 (Or.inl rfl) rfl rfl rfl rfl rfl (Nat.le_of_ble_eq_true rfl) dX4_init_63 (fun H14 hv hs14 => ?_)
  replace hv : vt G q (.inr (5, [.int 0, .int 0, .int 10, .int 600, .int 0, .int 2, .int 0, .int 1, .ref (z + 0), .int 0, .ref (z + 1), .ref (z + 2), .int 0, .ref (z + 3), .null, .null, .null, .null, .null, .int 0, .int 0, .null, .null, .null, .null, .null, .null, .null, .null, .null])) H14 := hv
  replace hI : mI G z 4 H14 := hI.pt hs14 hqz
  refine x_aload_n F dX4_init_66 0 rfl rfl ?_
  refine x_bipush (v := 8) F rfl dX4_init_67 ?_
  refine x_newaI (N' := 8) F (by decide) rfl (by decide) (Nat.le_of_ble_eq_true rfl) (Nat.le_of_ble_eq_true rfl) dX4_init_69 (fun H15 v15 hn15 => ?_)
  rw [hI.2] at v15 ⊢
  replace hI : mI G z 5 H15 := hI.nw hn15 v15
  replace hv := hv.kept (hn15.2 _ hv.lt)
  refine x_putF (C := "GliderDayModel") (T := TX4) (N := 30) F hE rfl hv hA rfl (j := 14) (by decide) inX4 tyX4 tyX4_ok nmX4 mw_813 (Or.inl rfl) rfl rfl rfl rfl rfl (Nat.le_of_ble_eq_true rfl) dX4_init_71 (fun H16 hv hs16 => ?_)
  replace hv : vt G q (.inr (5, [.int 0, .int 0, .int 10, .int 600, .int 0, .int 2, .int 0, .int 1, .ref (z + 0), .int 0, .ref (z + 1), .ref (z + 2), .int 0, .ref (z + 3), .ref (z + 4), .null, .null, .null, .null, .int 0, .int 0, .null, .null, .null, .null, .null, .null, .null, .null, .null])) H16 := hv
  replace hI : mI G z 5 H16 := hI.pt hs16 hqz
  refine x_aload_n F dX4_init_74 0 rfl rfl ?_
  refine x_bipush (v := 8) F rfl dX4_init_75 ?_
  refine x_newaI (N' := 8) F (by decide) rfl (by decide) (Nat.le_of_ble_eq_true rfl) (Nat.le_of_ble_eq_true rfl) dX4_init_77 (fun H17 v17 hn17 => ?_)
  rw [hI.2] at v17 ⊢
  replace hI : mI G z 6 H17 := hI.nw hn17 v17
  replace hv := hv.kept (hn17.2 _ hv.lt)
  refine x_putF (C := "GliderDayModel") (T := TX4) (N := 30) F hE rfl hv hA rfl (j := 15) (by decide) inX4 tyX4 tyX4_ok nmX4 mw_814 (Or.inl rfl) rfl rfl rfl rfl rfl (Nat.le_of_ble_eq_true rfl) dX4_init_79 (fun H18 hv hs18 => ?_)
  replace hv : vt G q (.inr (5, [.int 0, .int 0, .int 10, .int 600, .int 0, .int 2, .int 0, .int 1, .ref (z + 0), .int 0, .ref (z + 1), .ref (z + 2), .int 0, .ref (z + 3), .ref (z + 4), .ref (z + 5), .null, .null, .null, .int 0, .int 0, .null, .null, .null, .null, .null, .null, .null, .null, .null])) H18 := hv
  replace hI : mI G z 6 H18 := hI.pt hs18 hqz
  refine x_aload_n F dX4_init_82 0 rfl rfl ?_
  refine x_bipush (v := 8) F rfl dX4_init_83 ?_
  refine x_newaZ (N' := 8) F (by decide) rfl (by decide) (Nat.le_of_ble_eq_true rfl) (Nat.le_of_ble_eq_true rfl) dX4_init_85 (fun H19 v19 hn19 => ?_)
  rw [hI.2] at v19 ⊢
  replace hI : mI G z 7 H19 := hI.nw hn19 v19
  replace hv := hv.kept (hn19.2 _ hv.lt)
  refine x_putF (C := "GliderDayModel") (T := TX4) (N := 30) F hE rfl hv hA rfl (j := 16) (by decide) inX4 tyX4 tyX4_ok nmX4 mw_815 (Or.inl rfl) rfl rfl rfl rfl rfl (Nat.le_of_ble_eq_true rfl) dX4_init_87 (fun H20 hv hs20 => ?_)
  replace hv : vt G q (.inr (5, [.int 0, .int 0, .int 10, .int 600, .int 0, .int 2, .int 0, .int 1, .ref (z + 0), .int 0, .ref (z + 1), .ref (z + 2), .int 0, .ref (z + 3), .ref (z + 4), .ref (z + 5), .ref (z + 6), .null, .null, .int 0, .int 0, .null, .null, .null, .null, .null, .null, .null, .null, .null])) H20 := hv
  replace hI : mI G z 7 H20 := hI.pt hs20 hqz
  refine x_aload_n F dX4_init_90 0 rfl rfl ?_
  refine x_bipush (v := 8) F rfl dX4_init_91 ?_
  refine x_newaZ (N' := 8) F (by decide) rfl (by decide) (Nat.le_of_ble_eq_true rfl) (Nat.le_of_ble_eq_true rfl) dX4_init_93 (fun H21 v21 hn21 => ?_)
  rw [hI.2] at v21 ⊢
  replace hI : mI G z 8 H21 := hI.nw hn21 v21
  replace hv := hv.kept (hn21.2 _ hv.lt)
  refine x_putF (C := "GliderDayModel") (T := TX4) (N := 30) F hE rfl hv hA rfl (j := 17) (by decide) inX4 tyX4 tyX4_ok nmX4 mw_816 (Or.inl rfl) rfl rfl rfl rfl rfl (Nat.le_of_ble_eq_true rfl) dX4_init_95 (fun H22 hv hs22 => ?_)
  replace hv : vt G q (.inr (5, [.int 0, .int 0, .int 10, .int 600, .int 0, .int 2, .int 0, .int 1, .ref (z + 0), .int 0, .ref (z + 1), .ref (z + 2), .int 0, .ref (z + 3), .ref (z + 4), .ref (z + 5), .ref (z + 6), .ref (z + 7), .null, .int 0, .int 0, .null, .null, .null, .null, .null, .null, .null, .null, .null])) H22 := hv
  replace hI : mI G z 8 H22 := hI.pt hs22 hqz
  refine x_aload_n F dX4_init_98 0 rfl rfl ?_
  refine x_bipush (v := 8) F rfl dX4_init_99 ?_
  refine x_newaI (N' := 8) F (by decide) rfl (by decide) (Nat.le_of_ble_eq_true rfl) (Nat.le_of_ble_eq_true rfl) dX4_init_101 (fun H23 v23 hn23 => ?_)
  rw [hI.2] at v23 ⊢
  replace hI : mI G z 9 H23 := hI.nw hn23 v23
  replace hv := hv.kept (hn23.2 _ hv.lt)
  refine x_putF (C := "GliderDayModel") (T := TX4) (N := 30) F hE rfl hv hA rfl (j := 18) (by decide) inX4 tyX4 tyX4_ok nmX4 mw_817 (Or.inl rfl) rfl rfl rfl rfl rfl (Nat.le_of_ble_eq_true rfl) dX4_init_103 (fun H24 hv hs24 => ?_)
  replace hv : vt G q (.inr (5, [.int 0, .int 0, .int 10, .int 600, .int 0, .int 2, .int 0, .int 1, .ref (z + 0), .int 0, .ref (z + 1), .ref (z + 2), .int 0, .ref (z + 3), .ref (z + 4), .ref (z + 5), .ref (z + 6), .ref (z + 7), .ref (z + 8), .int 0, .int 0, .null, .null, .null, .null, .null, .null, .null, .null, .null])) H24 := hv
  replace hI : mI G z 9 H24 := hI.pt hs24 hqz
  refine x_aload_n F dX4_init_106 0 rfl rfl ?_
  refine x_bipush (v := 100) F rfl dX4_init_107 ?_
  refine x_newaI (N' := 100) F (by decide) rfl (by decide) (Nat.le_of_ble_eq_true rfl) (Nat.le_of_ble_eq_true rfl) dX4_init_109 (fun H25 v25 hn25 => ?_)
  rw [hI.2] at v25 ⊢
  replace hI : mI G z 10 H25 := hI.nw hn25 v25
  replace hv := hv.kept (hn25.2 _ hv.lt)
  refine x_putF (C := "GliderDayModel") (T := TX4) (N := 30) F hE rfl hv hA rfl (j := 21) (by decide) inX4 tyX4 tyX4_ok nmX4 mw_820 (Or.inl rfl) rfl rfl rfl rfl rfl (Nat.le_of_ble_eq_true rfl) dX4_init_111 (fun H26 hv hs26 => ?_)
  replace hv : vt G q (.inr (5, [.int 0, .int 0, .int 10, .int 600, .int 0, .int 2, .int 0, .int 1, .ref (z + 0), .int 0, .ref (z + 1), .ref (z + 2), .int 0, .ref (z + 3), .ref (z + 4), .ref (z + 5), .ref (z + 6), .ref (z + 7), .ref (z + 8), .int 0, .int 0, .ref (z + 9), .null, .null, .null, .null, .null, .null, .null, .null])) H26 := hv
  replace hI : mI G z 10 H26 := hI.pt hs26 hqz
  refine x_aload_n F dX4_init_114 0 rfl rfl ?_
  refine x_bipush (v := 100) F rfl dX4_init_115 ?_
  refine x_newaI (N' := 100) F (by decide) rfl (by decide) (Nat.le_of_ble_eq_true rfl) (Nat.le_of_ble_eq_true rfl) dX4_init_117 (fun H27 v27 hn27 => ?_)
  rw [hI.2] at v27 ⊢
  replace hI : mI G z 11 H27 := hI.nw hn27 v27
  replace hv := hv.kept (hn27.2 _ hv.lt)
  refine x_putF (C := "GliderDayModel") (T := TX4) (N := 30) F hE rfl hv hA rfl (j := 22) (by decide) inX4 tyX4 tyX4_ok nmX4 mw_821 (Or.inl rfl) rfl rfl rfl rfl rfl (Nat.le_of_ble_eq_true rfl) dX4_init_119 (fun H28 hv hs28 => ?_)
  replace hv : vt G q (.inr (5, [.int 0, .int 0, .int 10, .int 600, .int 0, .int 2, .int 0, .int 1, .ref (z + 0), .int 0, .ref (z + 1), .ref (z + 2), .int 0, .ref (z + 3), .ref (z + 4), .ref (z + 5), .ref (z + 6), .ref (z + 7), .ref (z + 8), .int 0, .int 0, .ref (z + 9), .ref (z + 10), .null, .null, .null, .null, .null, .null, .null])) H28 := hv
  replace hI : mI G z 11 H28 := hI.pt hs28 hqz
  refine x_aload_n F dX4_init_122 0 rfl rfl ?_
  refine x_bipush (v := 100) F rfl dX4_init_123 ?_
  refine x_newaI (N' := 100) F (by decide) rfl (by decide) (Nat.le_of_ble_eq_true rfl) (Nat.le_of_ble_eq_true rfl) dX4_init_125 (fun H29 v29 hn29 => ?_)
  rw [hI.2] at v29 ⊢
  replace hI : mI G z 12 H29 := hI.nw hn29 v29
  replace hv := hv.kept (hn29.2 _ hv.lt)
  refine x_putF (C := "GliderDayModel") (T := TX4) (N := 30) F hE rfl hv hA rfl (j := 23) (by decide) inX4 tyX4 tyX4_ok nmX4 mw_822 (Or.inl rfl) rfl rfl rfl rfl rfl (Nat.le_of_ble_eq_true rfl) dX4_init_127 (fun H30 hv hs30 => ?_)
  replace hv : vt G q (.inr (5, [.int 0, .int 0, .int 10, .int 600, .int 0, .int 2, .int 0, .int 1, .ref (z + 0), .int 0, .ref (z + 1), .ref (z + 2), .int 0, .ref (z + 3), .ref (z + 4), .ref (z + 5), .ref (z + 6), .ref (z + 7), .ref (z + 8), .int 0, .int 0, .ref (z + 9), .ref (z + 10), .ref (z + 11), .null, .null, .null, .null, .null, .null])) H30 := hv
  replace hI : mI G z 12 H30 := hI.pt hs30 hqz
  refine x_aload_n F dX4_init_130 0 rfl rfl ?_
  refine x_bipush (v := 100) F rfl dX4_init_131 ?_
  refine x_newaI (N' := 100) F (by decide) rfl (by decide) (Nat.le_of_ble_eq_true rfl) (Nat.le_of_ble_eq_true rfl) dX4_init_133 (fun H31 v31 hn31 => ?_)
  rw [hI.2] at v31 ⊢
  replace hI : mI G z 13 H31 := hI.nw hn31 v31
  replace hv := hv.kept (hn31.2 _ hv.lt)
  refine x_putF (C := "GliderDayModel") (T := TX4) (N := 30) F hE rfl hv hA rfl (j := 24) (by decide) inX4 tyX4 tyX4_ok nmX4 mw_823 (Or.inl rfl) rfl rfl rfl rfl rfl (Nat.le_of_ble_eq_true rfl) dX4_init_135 (fun H32 hv hs32 => ?_)
  replace hv : vt G q (.inr (5, [.int 0, .int 0, .int 10, .int 600, .int 0, .int 2, .int 0, .int 1, .ref (z + 0), .int 0, .ref (z + 1), .ref (z + 2), .int 0, .ref (z + 3), .ref (z + 4), .ref (z + 5), .ref (z + 6), .ref (z + 7), .ref (z + 8), .int 0, .int 0, .ref (z + 9), .ref (z + 10), .ref (z + 11), .ref (z + 12), .null, .null, .null, .null, .null])) H32 := hv
  replace hI : mI G z 13 H32 := hI.pt hs32 hqz
  refine x_aload_n F dX4_init_138 0 rfl rfl ?_
  refine x_bipush (v := 100) F rfl dX4_init_139 ?_
  refine x_newaI (N' := 100) F (by decide) rfl (by decide) (Nat.le_of_ble_eq_true rfl) (Nat.le_of_ble_eq_true rfl) dX4_init_141 (fun H33 v33 hn33 => ?_)
  rw [hI.2] at v33 ⊢
  replace hI : mI G z 14 H33 := hI.nw hn33 v33
  replace hv := hv.kept (hn33.2 _ hv.lt)
  refine x_putF (C := "GliderDayModel") (T := TX4) (N := 30) F hE rfl hv hA rfl (j := 25) (by decide) inX4 tyX4 tyX4_ok nmX4 mw_824 (Or.inl rfl) rfl rfl rfl rfl rfl (Nat.le_of_ble_eq_true rfl) dX4_init_143 (fun H34 hv hs34 => ?_)
  replace hv : vt G q (.inr (5, [.int 0, .int 0, .int 10, .int 600, .int 0, .int 2, .int 0, .int 1, .ref (z + 0), .int 0, .ref (z + 1), .ref (z + 2), .int 0, .ref (z + 3), .ref (z + 4), .ref (z + 5), .ref (z + 6), .ref (z + 7), .ref (z + 8), .int 0, .int 0, .ref (z + 9), .ref (z + 10), .ref (z + 11), .ref (z + 12), .ref (z + 13), .null, .null, .null, .null])) H34 := hv
  replace hI : mI G z 14 H34 := hI.pt hs34 hqz
  refine x_aload_n F dX4_init_146 0 rfl rfl ?_
  refine x_bipush (v := 100) F rfl dX4_init_147 ?_
  refine x_newaI (N' := 100) F (by decide) rfl (by decide) (Nat.le_of_ble_eq_true rfl) (Nat.le_of_ble_eq_true rfl) dX4_init_149 (fun H35 v35 hn35 => ?_)
  rw [hI.2] at v35 ⊢
  replace hI : mI G z 15 H35 := hI.nw hn35 v35
  replace hv := hv.kept (hn35.2 _ hv.lt)
  refine x_putF (C := "GliderDayModel") (T := TX4) (N := 30) F hE rfl hv hA rfl (j := 26) (by decide) inX4 tyX4 tyX4_ok nmX4 mw_825 (Or.inl rfl) rfl rfl rfl rfl rfl (Nat.le_of_ble_eq_true rfl) dX4_init_151 (fun H36 hv hs36 => ?_)
  replace hv : vt G q (.inr (5, [.int 0, .int 0, .int 10, .int 600, .int 0, .int 2, .int 0, .int 1, .ref (z + 0), .int 0, .ref (z + 1), .ref (z + 2), .int 0, .ref (z + 3), .ref (z + 4), .ref (z + 5), .ref (z + 6), .ref (z + 7), .ref (z + 8), .int 0, .int 0, .ref (z + 9), .ref (z + 10), .ref (z + 11), .ref (z + 12), .ref (z + 13), .ref (z + 14), .null, .null, .null])) H36 := hv
  replace hI : mI G z 15 H36 := hI.pt hs36 hqz
  refine x_aload_n F dX4_init_154 0 rfl rfl ?_
  refine x_bipush (v := 100) F rfl dX4_init_155 ?_
  refine x_newaI (N' := 100) F (by decide) rfl (by decide) (Nat.le_of_ble_eq_true rfl) (Nat.le_of_ble_eq_true rfl) dX4_init_157 (fun H37 v37 hn37 => ?_)
  rw [hI.2] at v37 ⊢
  replace hI : mI G z 16 H37 := hI.nw hn37 v37
  replace hv := hv.kept (hn37.2 _ hv.lt)
  refine x_putF (C := "GliderDayModel") (T := TX4) (N := 30) F hE rfl hv hA rfl (j := 27) (by decide) inX4 tyX4 tyX4_ok nmX4 mw_826 (Or.inl rfl) rfl rfl rfl rfl rfl (Nat.le_of_ble_eq_true rfl) dX4_init_159 (fun H38 hv hs38 => ?_)
  replace hv : vt G q (.inr (5, [.int 0, .int 0, .int 10, .int 600, .int 0, .int 2, .int 0, .int 1, .ref (z + 0), .int 0, .ref (z + 1), .ref (z + 2), .int 0, .ref (z + 3), .ref (z + 4), .ref (z + 5), .ref (z + 6), .ref (z + 7), .ref (z + 8), .int 0, .int 0, .ref (z + 9), .ref (z + 10), .ref (z + 11), .ref (z + 12), .ref (z + 13), .ref (z + 14), .ref (z + 15), .null, .null])) H38 := hv
  replace hI : mI G z 16 H38 := hI.pt hs38 hqz
  refine x_aload_n F dX4_init_162 0 rfl rfl ?_
  refine x_bipush (v := 100) F rfl dX4_init_163 ?_
  refine x_newaI (N' := 100) F (by decide) rfl (by decide) (Nat.le_of_ble_eq_true rfl) (Nat.le_of_ble_eq_true rfl) dX4_init_165 (fun H39 v39 hn39 => ?_)
  rw [hI.2] at v39 ⊢
  replace hI : mI G z 17 H39 := hI.nw hn39 v39
  replace hv := hv.kept (hn39.2 _ hv.lt)
  refine x_putF (C := "GliderDayModel") (T := TX4) (N := 30) F hE rfl hv hA rfl (j := 28) (by decide) inX4 tyX4 tyX4_ok nmX4 mw_827 (Or.inl rfl) rfl rfl rfl rfl rfl (Nat.le_of_ble_eq_true rfl) dX4_init_167 (fun H40 hv hs40 => ?_)
  replace hv : vt G q (.inr (5, [.int 0, .int 0, .int 10, .int 600, .int 0, .int 2, .int 0, .int 1, .ref (z + 0), .int 0, .ref (z + 1), .ref (z + 2), .int 0, .ref (z + 3), .ref (z + 4), .ref (z + 5), .ref (z + 6), .ref (z + 7), .ref (z + 8), .int 0, .int 0, .ref (z + 9), .ref (z + 10), .ref (z + 11), .ref (z + 12), .ref (z + 13), .ref (z + 14), .ref (z + 15), .ref (z + 16), .null])) H40 := hv
  replace hI : mI G z 17 H40 := hI.pt hs40 hqz
  refine x_aload_n F dX4_init_170 0 rfl rfl ?_
  refine x_bipush (v := 100) F rfl dX4_init_171 ?_
  refine x_newaI (N' := 100) F (by decide) rfl (by decide) (Nat.le_of_ble_eq_true rfl) (Nat.le_of_ble_eq_true rfl) dX4_init_173 (fun H41 v41 hn41 => ?_)
  rw [hI.2] at v41 ⊢
  replace hI : mI G z 18 H41 := hI.nw hn41 v41
  replace hv := hv.kept (hn41.2 _ hv.lt)
  refine x_putF (C := "GliderDayModel") (T := TX4) (N := 30) F hE rfl hv hA rfl (j := 29) (by decide) inX4 tyX4 tyX4_ok nmX4 mw_828 (Or.inl rfl) rfl rfl rfl rfl rfl (Nat.le_of_ble_eq_true rfl) dX4_init_175 (fun H42 hv hs42 => ?_)
  replace hv : vt G q (.inr (5, [.int 0, .int 0, .int 10, .int 600, .int 0, .int 2, .int 0, .int 1, .ref (z + 0), .int 0, .ref (z + 1), .ref (z + 2), .int 0, .ref (z + 3), .ref (z + 4), .ref (z + 5), .ref (z + 6), .ref (z + 7), .ref (z + 8), .int 0, .int 0, .ref (z + 9), .ref (z + 10), .ref (z + 11), .ref (z + 12), .ref (z + 13), .ref (z + 14), .ref (z + 15), .ref (z + 16), .ref (z + 17)])) H42 := hv
  replace hI : mI G z 18 H42 := hI.pt hs42 hqz
  exact x_vret F hE dX4_init_178 (Nat.le_of_ble_eq_true rfl) (Nat.le_of_ble_eq_true rfl) (⟨rfl, m0a q z, rfl, repM0 hqz hI hA hfr hv⟩)
end MDA
