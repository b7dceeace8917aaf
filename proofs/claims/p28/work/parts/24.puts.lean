/-! fields of the day, its members, gliders, flights -/
section PU
theorem inX0 : ∀ w ∈ u_ws "GliderDay$Flight" TX0 11, w ∈ WALL := fun w hw => List.mem_filter.mpr ⟨(show ∀ w ∈ u_ws "GliderDay$Flight" TX0 11, w ∈ lw_tbl by decide +kernel) w hw, (show ∀ w ∈ u_ws "GliderDay$Flight" TX0 11, goodWord w = true by decide +kernel) w hw⟩
theorem inX1 : ∀ w ∈ u_ws "GliderDay$Glider" TX1 10, w ∈ WALL := fun w hw => List.mem_filter.mpr ⟨(show ∀ w ∈ u_ws "GliderDay$Glider" TX1 10, w ∈ lw_tbl by decide +kernel) w hw, (show ∀ w ∈ u_ws "GliderDay$Glider" TX1 10, goodWord w = true by decide +kernel) w hw⟩
theorem inX2 : ∀ w ∈ u_ws "GliderDay$Member" TX2 8, w ∈ WALL := fun w hw => List.mem_filter.mpr ⟨(show ∀ w ∈ u_ws "GliderDay$Member" TX2 8, w ∈ lw_tbl by decide +kernel) w hw, (show ∀ w ∈ u_ws "GliderDay$Member" TX2 8, goodWord w = true by decide +kernel) w hw⟩
theorem inX3 : ∀ w ∈ u_ws "GliderDay" TX3 13, w ∈ WALL := fun w hw => List.mem_filter.mpr ⟨(show ∀ w ∈ u_ws "GliderDay" TX3 13, w ∈ lw_tbl by decide +kernel) w hw, (show ∀ w ∈ u_ws "GliderDay" TX3 13, goodWord w = true by decide +kernel) w hw⟩
theorem nw_76 : Cond.methodLinkNest "GliderDay" 76 yX2_init "GliderDay" ∈ nestW := by decide +kernel
theorem nw_283 : Cond.fieldLinkNest "GliderDay" 283 "GliderDay$Member" "number" "I" "GliderDay" ∈ nestW := by decide +kernel
theorem nw_132 : Cond.fieldLinkNest "GliderDay" 132 "GliderDay$Member" "level" "I" "GliderDay" ∈ nestW := by decide +kernel
theorem nw_123 : Cond.fieldLinkNest "GliderDay" 123 "GliderDay$Member" "isFlying" "Z" "GliderDay" ∈ nestW := by decide +kernel
theorem nw_267 : Cond.fieldLinkNest "GliderDay" 267 "GliderDay$Member" "landings" "I" "GliderDay" ∈ nestW := by decide +kernel
theorem nw_270 : Cond.fieldLinkNest "GliderDay" 270 "GliderDay$Member" "minutes" "I" "GliderDay" ∈ nestW := by decide +kernel
theorem nw_271 : Cond.fieldLinkNest "GliderDay" 271 "GliderDay$Member" "lessons" "I" "GliderDay" ∈ nestW := by decide +kernel
theorem nw_274 : Cond.fieldLinkNest "GliderDay" 274 "GliderDay$Member" "solos" "I" "GliderDay" ∈ nestW := by decide +kernel
theorem nw_226 : Cond.fieldLinkNest "GliderDay" 226 "GliderDay$Member" "bill" "I" "GliderDay" ∈ nestW := by decide +kernel
theorem nw_89 : Cond.methodLinkNest "GliderDay" 89 yX1_init "GliderDay" ∈ nestW := by decide +kernel
theorem nw_291 : Cond.fieldLinkNest "GliderDay" 291 "GliderDay$Glider" "number" "I" "GliderDay" ∈ nestW := by decide +kernel
theorem nw_308 : Cond.fieldLinkNest "GliderDay" 308 "GliderDay$Glider" "seats" "I" "GliderDay" ∈ nestW := by decide +kernel
theorem nw_352 : Cond.fieldLinkNest "GliderDay" 352 "GliderDay$Glider" "rate" "I" "GliderDay" ∈ nestW := by decide +kernel
theorem nw_299 : Cond.fieldLinkNest "GliderDay" 299 "GliderDay$Glider" "limit" "I" "GliderDay" ∈ nestW := by decide +kernel
theorem nw_110 : Cond.fieldLinkNest "GliderDay" 110 "GliderDay$Glider" "state" "I" "GliderDay" ∈ nestW := by decide +kernel
theorem nw_115 : Cond.fieldLinkNest "GliderDay" 115 "GliderDay$Glider" "isBarred" "Z" "GliderDay" ∈ nestW := by decide +kernel
theorem nw_201 : Cond.fieldLinkNest "GliderDay" 201 "GliderDay$Glider" "isCalled" "Z" "GliderDay" ∈ nestW := by decide +kernel
theorem nw_277 : Cond.fieldLinkNest "GliderDay" 277 "GliderDay$Glider" "landings" "I" "GliderDay" ∈ nestW := by decide +kernel
theorem nw_278 : Cond.fieldLinkNest "GliderDay" 278 "GliderDay$Glider" "minutes" "I" "GliderDay" ∈ nestW := by decide +kernel
theorem nw_195 : Cond.fieldLinkNest "GliderDay" 195 "GliderDay$Glider" "flight" "LGliderDay$Flight;" "GliderDay" ∈ nestW := by decide +kernel
theorem nw_158 : Cond.methodLinkNest "GliderDay" 158 yX0_init "GliderDay" ∈ nestW := by decide +kernel
theorem nw_170 : Cond.fieldLinkNest "GliderDay" 170 "GliderDay$Flight" "number" "I" "GliderDay" ∈ nestW := by decide +kernel
theorem nw_279 : Cond.fieldLinkNest "GliderDay" 279 "GliderDay$Flight" "member" "LGliderDay$Member;" "GliderDay" ∈ nestW := by decide +kernel
theorem nw_284 : Cond.fieldLinkNest "GliderDay" 284 "GliderDay$Flight" "second" "LGliderDay$Member;" "GliderDay" ∈ nestW := by decide +kernel
theorem nw_287 : Cond.fieldLinkNest "GliderDay" 287 "GliderDay$Flight" "glider" "LGliderDay$Glider;" "GliderDay" ∈ nestW := by decide +kernel
theorem nw_161 : Cond.fieldLinkNest "GliderDay" 161 "GliderDay$Flight" "height" "I" "GliderDay" ∈ nestW := by decide +kernel
theorem nw_164 : Cond.fieldLinkNest "GliderDay" 164 "GliderDay$Flight" "minutes" "I" "GliderDay" ∈ nestW := by decide +kernel
theorem nw_185 : Cond.fieldLinkNest "GliderDay" 185 "GliderDay$Flight" "state" "I" "GliderDay" ∈ nestW := by decide +kernel
theorem nw_167 : Cond.fieldLinkNest "GliderDay" 167 "GliderDay$Flight" "askedAt" "I" "GliderDay" ∈ nestW := by decide +kernel
theorem nw_204 : Cond.fieldLinkNest "GliderDay" 204 "GliderDay$Flight" "begin" "I" "GliderDay" ∈ nestW := by decide +kernel
theorem nw_235 : Cond.fieldLinkNest "GliderDay" 235 "GliderDay$Flight" "landing" "I" "GliderDay" ∈ nestW := by decide +kernel
theorem nw_232 : Cond.fieldLinkNest "GliderDay" 232 "GliderDay$Flight" "cost" "I" "GliderDay" ∈ nestW := by decide +kernel
variable {L : Launch} {rm : Room} {G : GT} {A : Nat → Prop} {H0 : Heap} {n0 : Nat} {cc : ByteArray} {own : String} {E : WE} {H : Heap} {k n pc idx : Nat} {lv : List (Nat × Value)} {st : List Value} {c : CS}
theorem Rep.inA (h : Rep G A c H) : A (ad c 0 0) ∧ A (ad c 2 0) ∧ (∀ i, i < nm c → A (ad c 3 i)) ∧ (∀ i, i < ng c → A (ad c 4 i)) ∧ ∀ i, i < nf c → A (ad c 5 i) := by
  obtain ⟨T, bA, cp, mo, h1, h2, h3, h4, h5, h6, h7, -⟩ := h
  exact ⟨(h1 _ (by rw [h2.1]; decide)).1, (h1 _ (by rw [h3.1]; decide)).1, fun i hi => (h1 _ (by rw [(h5 i hi).1]; omega)).1, fun i hi => (h1 _ (by rw [(h6 i hi).1]; omega)).1, fun i hi => (h1 _ (by rw [(h7 i hi).1]; omega)).1⟩
theorem y_getD (F : fx L rm G A H0 n0 cc "GliderDay" E) (hR : Rep G A c H) {j : Nat} {v : Value} (hl : Cond.fieldLink "GliderDay" idx "GliderDay" (TX3 j).2.1 (TX3 j).2.2.1 ∈ WALL) (hv : (dayV c)[j]? = some v) (hj : j < 13) (hsm : (TX3 j).1 = "GliderDay") (hd : decode cc pc = .ok (.getfield idx, 3)) (kk : wx E H k n (pc + 3) lv (v :: st)) : wx E H k n pc lv (.ref (ad c 0 0) :: st) :=
  x_get (C := "GliderDay") (T := TX3) (N := 13) F hR.day rfl hj inX3 hl (Or.inl hsm) hv hd kk
theorem y_putD (F : fx L rm G A H0 n0 cc "GliderDay" E) (hR : Rep G A c H) {j : Nat} {v : Int32} (hl : Cond.fieldLink "GliderDay" idx "GliderDay" (TX3 j).2.1 (TX3 j).2.2.1 ∈ WALL) (he : (dayV c).set j (.int v) = dayV (sD c j v)) (hj : j < 13) (hsm : (TX3 j).1 = "GliderDay") (hfin : (TX3 j).2.2.2 = false) (hpd : parseFieldDescriptor (TX3 j).2.2.1 = some .int) (hd : decode cc pc = .ok (.putfield idx, 3)) (kk : ∀ H1 : Heap, Rep G A (sD c j v) H1 → wx E H1 k n (pc + 3) lv st) : wx E H k n pc lv (.int v :: .ref (ad c 0 0) :: st) :=
  x_put (C := "GliderDay") (T := TX3) (N := 13) F hR.day hR.inA.1 rfl hj inX3 tyX3 tyX3_ok nmX3 hl (Or.inl hsm) hfin hpd rfl rfl hj hd (fun H1 h1 h2 => kk H1 (hR.putD hj h2 (he ▸ h1)))
theorem y_getM (F : fx L rm G A H0 n0 cc "GliderDay" E) (hR : Rep G A c H) {i j : Nat} {v : Value} (hi : i < nm c) (hl : Cond.fieldLinkNest "GliderDay" idx "GliderDay$Member" (TX2 j).2.1 (TX2 j).2.2.1 "GliderDay" ∈ nestW) (hv : (memV c i)[j]? = some v) (hj : j < 8) (hsm : (TX2 j).1 = "GliderDay$Member") (hd : decode cc pc = .ok (.getfield idx, 3)) (kk : wx E H k n (pc + 3) lv (v :: st)) : wx E H k n pc lv (.ref (ad c 3 i) :: st) :=
  x_getN (C := "GliderDay$Member") (T := TX2) (N := 8) F (hR.mem hi) rfl hj inX2 hl (Or.inl hsm) hv hd kk
theorem y_putM (F : fx L rm G A H0 n0 cc "GliderDay" E) (hR : Rep G A c H) {i j : Nat} {v : Int32} {ty : FieldType} (hi : i < nm c) (hl : Cond.fieldLinkNest "GliderDay" idx "GliderDay$Member" (TX2 j).2.1 (TX2 j).2.2.1 "GliderDay" ∈ nestW) (he : (memV c i).set j (.int v) = memV (sM c i j v) i) (hj : j < 8) (hsm : (TX2 j).1 = "GliderDay$Member") (hfin : (TX2 j).2.2.2 = false) (hpd : parseFieldDescriptor (TX2 j).2.2.1 = some ty) (hna : narrow ty (.int v) = .int v) (hfi : fits ty (.int v) = true) (hd : decode cc pc = .ok (.putfield idx, 3)) (kk : ∀ H1 : Heap, Rep G A (sM c i j v) H1 → wx E H1 k n (pc + 3) lv st) : wx E H k n pc lv (.int v :: .ref (ad c 3 i) :: st) :=
  x_putN (C := "GliderDay$Member") (T := TX2) (N := 8) F (hR.mem hi) (hR.inA.2.2.1 i hi) rfl hj inX2 tyX2 tyX2_ok nmX2 hl (Or.inl hsm) hfin hpd hna hfi hj hd (fun H1 h1 h2 => kk H1 (hR.putM hi h2 (he ▸ h1)))
theorem y_getG (F : fx L rm G A H0 n0 cc "GliderDay" E) (hR : Rep G A c H) {i j : Nat} {v : Value} (hi : i < ng c) (hl : Cond.fieldLinkNest "GliderDay" idx "GliderDay$Glider" (TX1 j).2.1 (TX1 j).2.2.1 "GliderDay" ∈ nestW) (hv : (gliV c i)[j]? = some v) (hj : j < 10) (hsm : (TX1 j).1 = "GliderDay$Glider") (hd : decode cc pc = .ok (.getfield idx, 3)) (kk : wx E H k n (pc + 3) lv (v :: st)) : wx E H k n pc lv (.ref (ad c 4 i) :: st) :=
  x_getN (C := "GliderDay$Glider") (T := TX1) (N := 10) F (hR.gli hi) rfl hj inX1 hl (Or.inl hsm) hv hd kk
theorem y_putG (F : fx L rm G A H0 n0 cc "GliderDay" E) (hR : Rep G A c H) {i j : Nat} {v : Int32} {ty : FieldType} (hi : i < ng c) (hl : Cond.fieldLinkNest "GliderDay" idx "GliderDay$Glider" (TX1 j).2.1 (TX1 j).2.2.1 "GliderDay" ∈ nestW) (he : (gliV c i).set j (.int v) = gliV (sG c i j v) i) (hj : j < 10) (hsm : (TX1 j).1 = "GliderDay$Glider") (hfin : (TX1 j).2.2.2 = false) (hpd : parseFieldDescriptor (TX1 j).2.2.1 = some ty) (hna : narrow ty (.int v) = .int v) (hfi : fits ty (.int v) = true) (hd : decode cc pc = .ok (.putfield idx, 3)) (kk : ∀ H1 : Heap, Rep G A (sG c i j v) H1 → wx E H1 k n (pc + 3) lv st) : wx E H k n pc lv (.int v :: .ref (ad c 4 i) :: st) :=
  x_putN (C := "GliderDay$Glider") (T := TX1) (N := 10) F (hR.gli hi) (hR.inA.2.2.2.1 i hi) rfl hj inX1 tyX1 tyX1_ok nmX1 hl (Or.inl hsm) hfin hpd hna hfi hj hd (fun H1 h1 h2 => kk H1 (hR.putG hi h2 (he ▸ h1)))
theorem y_getF (F : fx L rm G A H0 n0 cc "GliderDay" E) (hR : Rep G A c H) {i j : Nat} {v : Value} (hi : i < nf c) (hl : Cond.fieldLinkNest "GliderDay" idx "GliderDay$Flight" (TX0 j).2.1 (TX0 j).2.2.1 "GliderDay" ∈ nestW) (hv : (fliV c i)[j]? = some v) (hj : j < 11) (hsm : (TX0 j).1 = "GliderDay$Flight") (hd : decode cc pc = .ok (.getfield idx, 3)) (kk : wx E H k n (pc + 3) lv (v :: st)) : wx E H k n pc lv (.ref (ad c 5 i) :: st) :=
  x_getN (C := "GliderDay$Flight") (T := TX0) (N := 11) F (hR.fli hi) rfl hj inX0 hl (Or.inl hsm) hv hd kk
theorem y_putF (F : fx L rm G A H0 n0 cc "GliderDay" E) (hR : Rep G A c H) {i j : Nat} {v : Int32} {ty : FieldType} (hi : i < nf c) (hl : Cond.fieldLinkNest "GliderDay" idx "GliderDay$Flight" (TX0 j).2.1 (TX0 j).2.2.1 "GliderDay" ∈ nestW) (he : (fliV c i).set j (.int v) = fliV (sF c i j v) i) (hj : j < 11) (hsm : (TX0 j).1 = "GliderDay$Flight") (hfin : (TX0 j).2.2.2 = false) (hpd : parseFieldDescriptor (TX0 j).2.2.1 = some ty) (hna : narrow ty (.int v) = .int v) (hfi : fits ty (.int v) = true) (hd : decode cc pc = .ok (.putfield idx, 3)) (kk : ∀ H1 : Heap, Rep G A (sF c i j v) H1 → wx E H1 k n (pc + 3) lv st) : wx E H k n pc lv (.int v :: .ref (ad c 5 i) :: st) :=
  x_putN (C := "GliderDay$Flight") (T := TX0) (N := 11) F (hR.fli hi) (hR.inA.2.2.2.2 i hi) rfl hj inX0 tyX0 tyX0_ok nmX0 hl (Or.inl hsm) hfin hpd hna hfi hj hd (fun H1 h1 h2 => kk H1 (hR.putF hi h2 (he ▸ h1)))
theorem y_putGF (F : fx L rm G A H0 n0 cc "GliderDay" E) (hR : Rep G A c H) {i : Nat} {o : Option Nat} {v : Value} (hi : i < ng c) (hv : v = va_rf (o.map (ad c 5))) (ho : ∀ f, o = some f → f < nf c) (hl : Cond.fieldLinkNest "GliderDay" idx "GliderDay$Glider" (TX1 9).2.1 (TX1 9).2.2.1 "GliderDay" ∈ nestW) (hd : decode cc pc = .ok (.putfield idx, 3)) (kk : ∀ H1 : Heap, Rep G A (sgF c i o) H1 → wx E H1 k n (pc + 3) lv st) : wx E H k n pc lv (v :: .ref (ad c 4 i) :: st) := by
  have hn : narrow (.object "GliderDay$Flight") v = v := by subst hv; cases o <;> rfl
  have hf : fits (.object "GliderDay$Flight") v = true := by subst hv; cases o <;> rfl
  refine x_putN (C := "GliderDay$Glider") (T := TX1) (N := 10) F (hR.gli hi) (hR.inA.2.2.2.1 i hi) rfl (j := 9) (by decide) inX1 tyX1 tyX1_ok nmX1 hl (Or.inl rfl) rfl rfl hn hf (Nat.le_of_ble_eq_true rfl) hd (fun H1 h1 h2 => kk H1 (hR.putGF hi ho h2 ?_))
  have e : (gliV c i).set 9 v = gliV (sgF c i o) i := by
    have e2 : cgF (sgF c i o) i = o := if_pos rfl
    unfold gliV
    rw [e2, hv]
    rfl
  exact e ▸ h1
theorem y_ildT (F : fx L rm G A H0 n0 cc "GliderDay" E) (hR : Rep G A c H) {i : Nat} (hi : i < 2) (hd : decode cc pc = .ok (.iaload, 1)) {v : Int32} (hv : v = cD c (13 + i)) (kk : wx E H k n (pc + 1) lv (.int v :: st)) : wx E H k n pc lv (.int (nI i) :: .ref (ad c 2 0) :: st) := by
  subst hv
  refine x_iald F hR.tug (vp_in_nI hi (by decide)) hd ?_
  rw [nI_clamp (by omega)]
  exact kk
theorem y_istT (F : fx L rm G A H0 n0 cc "GliderDay" E) (hR : Rep G A c H) {i : Nat} {v : Int32} (hi : i < 2) (hd : decode cc pc = .ok (.iastore, 1)) (kk : ∀ H1 : Heap, Rep G A (sD c (13 + i) v) H1 → wx E H1 k n (pc + 1) lv st) : wx E H k n pc lv (.int v :: .int (nI i) :: .ref (ad c 2 0) :: st) := by
  refine x_iast F hR.tug hR.inA.2.1 (vp_in_nI hi (by decide)) hd (fun H1 h1 h2 => kk H1 (hR.putT h2 ?_))
  rw [nI_clamp (by omega)] at h1
  exact h1
theorem y_lenT (F : fx L rm G A H0 n0 cc "GliderDay" E) (hR : Rep G A c H) (hd : decode cc pc = .ok (.arraylength, 1)) (kk : wx E H k n (pc + 1) lv (.int 2 :: st)) : wx E H k n pc lv (.ref (ad c 2 0) :: st) :=
  x_alen F hR.tug (show hA_ G G.2.1.1 .int from List.mem_cons_self) rfl hd kk
end PU
