/-! the standing facts, the walk at a place, and its rows -/
section FR0
abbrev GT : Type := va_G × (ClassId × ClassId × ClassId × ClassId) × (Nat × Nat) × (Nat → Nat)
/-- the words that are no good words, of the tables all the same -/
def nestW : List Cond := [(Cond.fieldLinkNest "GliderDay" 170 "GliderDay$Flight" "number" "I" "GliderDay"), (Cond.fieldLinkNest "GliderDay" 279 "GliderDay$Flight" "member" "LGliderDay$Member;" "GliderDay"), (Cond.fieldLinkNest "GliderDay" 284 "GliderDay$Flight" "second" "LGliderDay$Member;" "GliderDay"), (Cond.fieldLinkNest "GliderDay" 287 "GliderDay$Flight" "glider" "LGliderDay$Glider;" "GliderDay"), (Cond.fieldLinkNest "GliderDay" 161 "GliderDay$Flight" "height" "I" "GliderDay"), (Cond.fieldLinkNest "GliderDay" 164 "GliderDay$Flight" "minutes" "I" "GliderDay"), (Cond.fieldLinkNest "GliderDay" 185 "GliderDay$Flight" "state" "I" "GliderDay"), (Cond.fieldLinkNest "GliderDay" 167 "GliderDay$Flight" "askedAt" "I" "GliderDay"), (Cond.fieldLinkNest "GliderDay" 204 "GliderDay$Flight" "begin" "I" "GliderDay"), (Cond.fieldLinkNest "GliderDay" 235 "GliderDay$Flight" "landing" "I" "GliderDay"), (Cond.fieldLinkNest "GliderDay" 232 "GliderDay$Flight" "cost" "I" "GliderDay"), (Cond.fieldLinkNest "GliderDay" 283 "GliderDay$Member" "number" "I" "GliderDay"), (Cond.fieldLinkNest "GliderDay" 132 "GliderDay$Member" "level" "I" "GliderDay"), (Cond.fieldLinkNest "GliderDay" 123 "GliderDay$Member" "isFlying" "Z" "GliderDay"), (Cond.fieldLinkNest "GliderDay" 267 "GliderDay$Member" "landings" "I" "GliderDay"), (Cond.fieldLinkNest "GliderDay" 270 "GliderDay$Member" "minutes" "I" "GliderDay"), (Cond.fieldLinkNest "GliderDay" 271 "GliderDay$Member" "lessons" "I" "GliderDay"), (Cond.fieldLinkNest "GliderDay" 274 "GliderDay$Member" "solos" "I" "GliderDay"), (Cond.fieldLinkNest "GliderDay" 226 "GliderDay$Member" "bill" "I" "GliderDay"), (Cond.fieldLinkNest "GliderDay" 291 "GliderDay$Glider" "number" "I" "GliderDay"), (Cond.fieldLinkNest "GliderDay" 308 "GliderDay$Glider" "seats" "I" "GliderDay"), (Cond.fieldLinkNest "GliderDay" 352 "GliderDay$Glider" "rate" "I" "GliderDay"), (Cond.fieldLinkNest "GliderDay" 299 "GliderDay$Glider" "limit" "I" "GliderDay"), (Cond.fieldLinkNest "GliderDay" 110 "GliderDay$Glider" "state" "I" "GliderDay"), (Cond.fieldLinkNest "GliderDay" 115 "GliderDay$Glider" "isBarred" "Z" "GliderDay"), (Cond.fieldLinkNest "GliderDay" 201 "GliderDay$Glider" "isCalled" "Z" "GliderDay"), (Cond.fieldLinkNest "GliderDay" 277 "GliderDay$Glider" "landings" "I" "GliderDay"), (Cond.fieldLinkNest "GliderDay" 278 "GliderDay$Glider" "minutes" "I" "GliderDay"), (Cond.fieldLinkNest "GliderDay" 195 "GliderDay$Glider" "flight" "LGliderDay$Flight;" "GliderDay"), (Cond.methodLinkNest "GliderDay" 158 ({ cls := "GliderDay$Flight", name := "<init>", desc := "(ILGliderDay$Member;LGliderDay$Member;LGliderDay$Glider;)V" } : MethodName) "GliderDay"), (Cond.methodLinkNest "GliderDay" 76 ({ cls := "GliderDay$Member", name := "<init>", desc := "(II)V" } : MethodName) "GliderDay"), (Cond.methodLinkNest "GliderDay" 89 ({ cls := "GliderDay$Glider", name := "<init>", desc := "(IIII)V" } : MethodName) "GliderDay"), (Cond.castable "java/lang/IllegalArgumentException" "java/lang/IllegalArgumentException"), (Cond.castable "java/lang/IllegalStateException" "java/lang/IllegalStateException"), (Cond.castable "java/lang/IndexOutOfBoundsException" "java/lang/IndexOutOfBoundsException"), (Cond.castable "GliderDay" "java/lang/Object"), (Cond.castable "java/util/ArrayList" "java/lang/Object"), (Cond.castable "java/lang/IllegalArgumentException" "java/lang/Object"), (Cond.castable "java/lang/IllegalStateException" "java/lang/Object"), (Cond.castable "GliderDay$Member" "java/lang/Object"), (Cond.castable "GliderDay$Glider" "java/lang/Object"), (Cond.castable "java/lang/IndexOutOfBoundsException" "java/lang/Object"), (Cond.castable "GliderDay$Flight" "java/lang/Object"), (Cond.castable "java/lang/Throwable" "java/lang/Object"), (Cond.castable "java/lang/String" "java/lang/Object"), (Cond.castable "[I" "java/lang/Object"), (Cond.castable "[B" "java/lang/Object"), (Cond.castable "[Ljava/lang/Object;" "java/lang/Object"), (Cond.declares ({ cls := "java/lang/RuntimeException", name := "<init>", desc := "()V" } : MethodName)), (Cond.declares ({ cls := "java/lang/RuntimeException", name := "<init>", desc := "(Ljava/lang/String;)V" } : MethodName)), (Cond.declares ({ cls := "java/lang/Exception", name := "<init>", desc := "()V" } : MethodName)), (Cond.declares ({ cls := "java/lang/Exception", name := "<init>", desc := "(Ljava/lang/String;)V" } : MethodName)), (Cond.declares ({ cls := "java/lang/Throwable", name := "<init>", desc := "()V" } : MethodName)), (Cond.declares ({ cls := "java/lang/Throwable", name := "<init>", desc := "(Ljava/lang/String;)V" } : MethodName)), (Cond.declares ({ cls := "java/lang/Object", name := "getClass", desc := "()Ljava/lang/Class;" } : MethodName))]
def strW : List (Nat × String) := [(92, "no such wind"), (96, "no such number of tugs"), (101, "more tugs are taken"), (256, "no such member"), (137, "no such fact"), (258, "no such glider"), (152, "no such flight can be"), (154, "too many flights"), (207, "no such minutes"), (260, "no such flight"), (220, "no such count"), (60, "no such level"), (71, "too many members"), (83, "no such glider can be"), (85, "too many gliders")]
def nk (w : Cond) : Bool := match w with
  | .fieldLinkNest .. => true
  | .methodLinkNest .. => true
  | .castable .. => true
  | .declares .. => true
  | _ => false
theorem nk_all : nestW.all nk = true := by decide +kernel
theorem nk_warm {w : Cond} {s U : State} (h : nk w = true) (hW : s.WarmedH U.vm) (hw : va_Nw w s) : va_Nw w U := by
  cases w <;> first | exact va_Nw.warmF hW hw | exact va_Nw.warmM hW hw | exact va_Nw.warmC hW hw | exact va_Nw.warmD hW hw | cases h
/-- of the tables: the classes, the arrays' classes, the other words, the texts, Object's array, its mirror -/
def Kt (G : GT) (U : State) : Prop := va_K G.1 vwCl [(G.2.1.1, .int), (G.2.1.1, .int), (G.2.1.2.2.1, .object "java/lang/Object")] U ∧ (∀ w ∈ nestW, va_Nw w U) ∧ (∀ q ∈ strW, vk_R RX3 q.1 q.2 (G.2.2.2 q.1) U) ∧ va_AO "java/lang/Object" U ∧ va_Mi "[Ljava/lang/Object;" G.2.2.1.2 U 
/-- of the heap: three static fields, the empty array of all new lists -/
def Kh (G : GT) (A : Nat → Prop) (U : State) (H : Heap) : Prop := vx_Zq Bundle.tN "UNASSIGNED_STACK" Bundle.steD A U H ∧ vx_Zq Bundle.tN "SUPPRESSED_SENTINEL" Bundle.listD A U H ∧ va_Z "java/util/ArrayList" "DEFAULTCAPACITY_EMPTY_ELEMENTDATA" "[Ljava/lang/Object;" (.ref G.2.2.1.1) A U H ∧ va_T (.object "java/lang/Object") G.2.2.1.1 0 (fun _ => .null) A U H ∧ ∃ (N : Nat) (xs : Nat → Int32), N ≤ 260 ∧ va_T .int (G.2.2.2 0) N (fun j => .int (xs j)) A U H
theorem Kt.warm {G : GT} {s U : State} (hW : s.WarmedH U.vm) (h : Kt G s) : Kt G U := by
  obtain ⟨h1, h2, h3, h4, h5⟩ := h
  have hA := hW.alike
  exact ⟨va_K.moved hA h1, fun w hw => nk_warm (List.all_eq_true.mp nk_all w hw) hW (h2 w hw), fun q hq => vk_R.warm hW (h3 q hq), h4.moved hA, h5.moved hA⟩
theorem Kh.moved {G : GT} {A : Nat → Prop} {u U : State} {H : Heap} (hvm : u.vm.Alike U.vm) (h : Kh G A u H) : Kh G A U H := ⟨h.1.moved hvm, h.2.1.moved hvm, h.2.2.1.moved hvm, h.2.2.2.1.moved hvm, h.2.2.2.2.imp (fun _ h => h.imp (fun _ h => ⟨h.1, h.2.moved hvm⟩))⟩
theorem Kh.kept {G : GT} {A : Nat → Prop} {U : State} {H H1 : Heap} (h : Kh G A U H) (hq : ∀ a : Nat, a < H.size → ¬ A a → H1[a]? = H[a]?) : Kh G A U H1 := ⟨h.1.kept hq, h.2.1.kept hq, h.2.2.1.kept hq, h.2.2.2.1.kept hq, h.2.2.2.2.imp (fun _ h => h.imp (fun _ h => ⟨h.1, h.2.kept hq⟩))⟩
theorem Kh.narrow {G : GT} {A B : Nat → Prop} {U : State} {H : Heap} (h : Kh G A U H) (hAB : ∀ q, B q → A q) : Kh G B U H := ⟨h.1.narrow hAB, h.2.1.narrow hAB, h.2.2.1.narrow hAB, h.2.2.2.1.narrow hAB, h.2.2.2.2.imp (fun _ h => h.imp (fun _ h => ⟨h.1, h.2.narrow hAB⟩))⟩
abbrev WE : Type := Program × Launch × Env × Room × State × MethodId × Array Value × List Frame × Method × Code × (Nat → Prop) × Nat × (State → Prop)
/-- the walk at a place: heap H, room used, the locals lv, the stack st; nothing outside A has changed since the start -/
def wx : WE → Heap → Nat → Nat → Nat → List (Nat × Value) → List Value → Prop
  | (p, l, e, R, s, m, args, below, meth, c, A, nL, Q), H, k, n, pc, lv, st => ∀ (locs : List Loc) (ls : Array Slot), va_S A s.heap H locs → lv_has ls nL lv → W p l e R s m args below meth c H locs k n Q (F0 m pc ls st)
/-- the same with q thrown -/
def wt : WE → Heap → Nat → Nat → Nat → List (Nat × Value) → Addr → Prop
  | (p, l, e, R, s, m, args, below, meth, c, A, nL, Q), H, k, n, pc, lv, q => ∀ (locs : List Loc) (ls : Array Slot) (st : List Value), va_S A s.heap H locs → lv_has ls nL lv → vx_W p l e R s m args below meth c H locs k n Q (F0 m pc ls st) q
/-- what is fixed in a method's body -/
def fx (L : Launch) (rm : Room) (G : GT) (A : Nat → Prop) (H0 : Heap) (n0 : Nat) (cc : ByteArray) (own : String) : WE → Prop
  | (p, l, _, R, s, m, args, _, meth, c, A1, nL, _) => CallFix p m c cc nL s args WALL own ∧ l = L ∧ R = rm ∧ A1 = A ∧ s.heap = H0 ∧ nL = n0 ∧ Kt G s ∧ Kh G A s H0 ∧ (∀ q, H0.size ≤ q → A q) ∧ meth.locks = false
def ctQ (A : Nat → Prop) (Post : Heap → Option Value → Heap → Prop) : Array Value → State → Outcome → State → Prop := fun _ st o t => ∃ v, o = .returned v ∧ Post st.heap v t.heap ∧ va_F A st t
def ctX (A : Nat → Prop) (PX : Heap → String → Heap → Prop) : String → State → State → Prop := fun E st t => PX st.heap E t.heap ∧ va_F A st t
/-- what is owed at a return -/
def fe (rm : Room) (A : Nat → Prop) (Post : Heap → Option Value → Heap → Prop) (ret : Option FieldType) (nm : String) : WE → Prop
  | (_, _, _, _, s, _, args, below, meth, _, _, _, Q) => (Q = MQ below (ctQ A Post) args s rm.cells rm.slots A ∨ ∃ PX, Q = vx_MQ below (ctQ A Post) (ctX A PX) args s rm.cells rm.slots A) ∧ meth.sig.returnType = ret ∧ meth.name = nm
/-- what is owed at a throw that isn't caught -/
def fX (rm : Room) (A : Nat → Prop) (Post : Heap → Option Value → Heap → Prop) (PX : Heap → String → Heap → Prop) : WE → Prop
  | (_, _, _, _, s, _, args, below, _, c, _, _, Q) => Q = vx_MQ below (ctQ A Post) (ctX A PX) args s rm.cells rm.slots A ∧ ∀ x ∈ c.exceptionTable.toList, False
def ctP (G : GT) (A : Nat → Prop) (av : List Value) (Pre : Heap → Prop) : Array Value → State → Prop := va_Pc av (fun U => Kt G U ∧ Kh G A U U.heap ∧ (∀ q, U.heap.size ≤ q → A q) ∧ Pre U.heap)
/-- a contract: the method returns -/
def Ct (l : Launch) (y : MethodName) (cc : ByteArray) (maxL : Nat) (ret : Option FieldType) (rm : Room) (G : GT) (A : Nat → Prop) (av : List Value) (Pre : Heap → Prop) (Post : Heap → Option Value → Heap → Prop) : Prop :=
  Met l y (.code y cc maxL ret :: WALL) rm (ctP G A av Pre) (ctQ A Post) rm.cells rm.slots A
/-- a contract: the method returns or throws -/
def Cx (l : Launch) (y : MethodName) (cc : ByteArray) (maxL : Nat) (ret : Option FieldType) (rm : Room) (G : GT) (A : Nat → Prop) (av : List Value) (Pre : Heap → Prop) (Post : Heap → Option Value → Heap → Prop) (PX : Heap → String → Heap → Prop) : Prop :=
  vx_Met l y (.code y cc maxL ret :: WALL) rm (ctP G A av Pre) (ctQ A Post) (ctX A PX) rm.cells rm.slots A
theorem ctP_blind {G : GT} {A : Nat → Prop} {av : List Value} {Pre : Heap → Prop} : FrameBlind (ctP G A av Pre) := fun a U g mk q => by
  obtain ⟨h1, h2, h3, h4, h5⟩ := q
  exact ⟨h1, Kt.warm (s := U) (U := U.calling g mk a) (State.WarmedH.refl U) h2, Kh.moved (u := U) (U := U.calling g mk a) (Vm.Alike.refl U.vm) h3, h4, h5⟩
set_option maxHeartbeats 1000000 in
theorem ct_of {l : Launch} {y : MethodName} {cc : ByteArray} {maxL : Nat} {ret : Option FieldType} {rm : Room} {G : GT} {A : Nat → Prop} {av : List Value} {Pre : Heap → Prop} {Post : Heap → Option Value → Heap → Prop} {own : String} (hy : plainName y.cls = true) (hyo : y.cls = own) (hlen : (lg_sl av).length ≤ maxL)
    (body : ∀ (E : WE) (H0 : Heap), fx l rm G A H0 maxL cc own E → fe rm A Post ret y.name E → Pre H0 → wx E H0 0 0 0 (lv_args 0 av) []) : Ct l y cc maxL ret rm G A av Pre Post := by
  refine Met.ofW (cc := cc) (maxL := maxL) (ret := ret) hy rfl ?_
  intro p e s m args below meth c s₁ B hml hv
  obtain ⟨rfl, hKt, hKh, hfr, hpre⟩ := hv
  have hts := atoms_spec (ws := .code y cc maxL ret :: WALL) B.pre
  have hown : s.vm.findClass own = some m.cls := by rw [← hyo]; exact findClass_of_methodNamed B.named
  have K := body (p, l, e, rm, s, m, av.toArray, below, meth, c, A, maxL, MQ below (ctQ A Post) av.toArray s rm.cells rm.slots A) s.heap ⟨⟨B.exec, B.bytes, hml, hown, fun w h => hts w (List.mem_cons_of_mem _ h)⟩, rfl, rfl, rfl, rfl, rfl, hKt, hKh, hfr, B.notSynchronized⟩ ⟨Or.inl rfl, B.returns, (name_of_methodNamed B.named B.method).1⟩ hpre
  have hl := lv_entry av (n := maxL) hlen
  rw [lg_entry_eq]
  exact K [] _ va_S.rf hl
set_option maxHeartbeats 1000000 in
theorem cx_of {l : Launch} {y : MethodName} {cc : ByteArray} {maxL : Nat} {ret : Option FieldType} {rm : Room} {G : GT} {A : Nat → Prop} {av : List Value} {Pre : Heap → Prop} {Post : Heap → Option Value → Heap → Prop} {PX : Heap → String → Heap → Prop} {own : String} (hy : plainName y.cls = true) (hyo : y.cls = own) (hlen : (lg_sl av).length ≤ maxL)
    (body : ∀ (E : WE) (H0 : Heap), fx l rm G A H0 maxL cc own E → fe rm A Post ret y.name E → fX rm A Post PX E → Pre H0 → wx E H0 0 0 0 (lv_args 0 av) []) : Cx l y cc maxL ret rm G A av Pre Post PX := by
  refine vx_ofW (cc := cc) (maxL := maxL) (ret := ret) hy rfl ?_
  intro p e s m args below meth c s₁ B hml hex hv
  obtain ⟨rfl, hKt, hKh, hfr, hpre⟩ := hv
  have hts := atoms_spec (ws := .code y cc maxL ret :: WALL) B.pre
  have hown : s.vm.findClass own = some m.cls := by rw [← hyo]; exact findClass_of_methodNamed B.named
  have K := body (p, l, e, rm, s, m, av.toArray, below, meth, c, A, maxL, vx_MQ below (ctQ A Post) (ctX A PX) av.toArray s rm.cells rm.slots A) s.heap ⟨⟨B.exec, B.bytes, hml, hown, fun w h => hts w (List.mem_cons_of_mem _ h)⟩, rfl, rfl, rfl, rfl, rfl, hKt, hKh, hfr, B.notSynchronized⟩ ⟨Or.inr ⟨PX, rfl⟩, B.returns, (name_of_methodNamed B.named B.method).1⟩ ⟨rfl, hex⟩ hpre
  have hl := lv_entry av (n := maxL) hlen
  rw [lg_entry_eq]
  exact K [] _ va_S.rf hl
end FR0
section FR1
variable {L : Launch} {rm : Room} {G : GT} {A : Nat → Prop} {H0 : Heap} {n0 : Nat} {cc : ByteArray} {own : String} {E : WE} {H : Heap} {k n pc : Nat} {lv lv' : List (Nat × Value)} {st : List Value} {ret : Option FieldType} {nm : String} {Post : Heap → Option Value → Heap → Prop}
theorem x_iload_n (F : fx L rm G A H0 n0 cc own E) {q : Fin 4} {i : Nat} {x : Int32} (hd : decode cc pc = .ok (.iload_n q, 1)) (j : Nat) (hj : lv[j]? = some (i, .int x)) (hi : (q : Nat) = i) (kk : wx E H k n (pc + 1) lv (.int x :: st)) : wx E H k n pc lv st := by
  obtain ⟨p, l, e, R, s, m, args, below, meth, c, A1, nL, Q⟩ := E
  obtain ⟨⟨hx, hb, hml, hown, hts⟩, hL, hR, hAA, hH0, hnL, hKt, hKh, hfr, hlk⟩ := F
  intro locs ls hS hl
  exact lv_iload_n hx hb hd hi (lv_at hl j hj) (kk locs ls hS hl)
theorem x_iload (F : fx L rm G A H0 n0 cc own E) {i : Nat} {x : Int32} (hd : decode cc pc = .ok (.iload i, 2)) (j : Nat) (hj : lv[j]? = some (i, .int x)) (kk : wx E H k n (pc + 2) lv (.int x :: st)) : wx E H k n pc lv st := by
  obtain ⟨p, l, e, R, s, m, args, below, meth, c, A1, nL, Q⟩ := E
  obtain ⟨⟨hx, hb, hml, hown, hts⟩, hL, hR, hAA, hH0, hnL, hKt, hKh, hfr, hlk⟩ := F
  intro locs ls hS hl
  exact lv_iload hx hb hd (lv_at hl j hj) (kk locs ls hS hl)
theorem x_aload_n (F : fx L rm G A H0 n0 cc own E) {q : Fin 4} {i : Nat} {x : Nat} (hd : decode cc pc = .ok (.aload_n q, 1)) (j : Nat) (hj : lv[j]? = some (i, .ref x)) (hi : (q : Nat) = i) (kk : wx E H k n (pc + 1) lv (.ref x :: st)) : wx E H k n pc lv st := by
  obtain ⟨p, l, e, R, s, m, args, below, meth, c, A1, nL, Q⟩ := E
  obtain ⟨⟨hx, hb, hml, hown, hts⟩, hL, hR, hAA, hH0, hnL, hKt, hKh, hfr, hlk⟩ := F
  intro locs ls hS hl
  exact lv_aload_n hx hb hd hi (lv_at hl j hj) (kk locs ls hS hl)
theorem x_aload (F : fx L rm G A H0 n0 cc own E) {i : Nat} {x : Nat} (hd : decode cc pc = .ok (.aload i, 2)) (j : Nat) (hj : lv[j]? = some (i, .ref x)) (kk : wx E H k n (pc + 2) lv (.ref x :: st)) : wx E H k n pc lv st := by
  obtain ⟨p, l, e, R, s, m, args, below, meth, c, A1, nL, Q⟩ := E
  obtain ⟨⟨hx, hb, hml, hown, hts⟩, hL, hR, hAA, hH0, hnL, hKt, hKh, hfr, hlk⟩ := F
  intro locs ls hS hl
  exact lv_aload hx hb hd (lv_at hl j hj) (kk locs ls hS hl)
theorem x_lload_n (F : fx L rm G A H0 n0 cc own E) {q : Fin 4} {i : Nat} {x : Int64} (hd : decode cc pc = .ok (.lload_n q, 1)) (j : Nat) (hj : lv[j]? = some (i, .long x)) (hi : (q : Nat) = i) (kk : wx E H k n (pc + 1) lv (.long x :: st)) : wx E H k n pc lv st := by
  obtain ⟨p, l, e, R, s, m, args, below, meth, c, A1, nL, Q⟩ := E
  obtain ⟨⟨hx, hb, hml, hown, hts⟩, hL, hR, hAA, hH0, hnL, hKt, hKh, hfr, hlk⟩ := F
  intro locs ls hS hl
  exact lv_lload_n hx hb hd hi (lv_at hl j hj) (kk locs ls hS hl)
theorem x_lload (F : fx L rm G A H0 n0 cc own E) {i : Nat} {x : Int64} (hd : decode cc pc = .ok (.lload i, 2)) (j : Nat) (hj : lv[j]? = some (i, .long x)) (kk : wx E H k n (pc + 2) lv (.long x :: st)) : wx E H k n pc lv st := by
  obtain ⟨p, l, e, R, s, m, args, below, meth, c, A1, nL, Q⟩ := E
  obtain ⟨⟨hx, hb, hml, hown, hts⟩, hL, hR, hAA, hH0, hnL, hKt, hKh, hfr, hlk⟩ := F
  intro locs ls hS hl
  exact lv_lload hx hb hd (lv_at hl j hj) (kk locs ls hS hl)
theorem x_dload_n (F : fx L rm G A H0 n0 cc own E) {q : Fin 4} {i : Nat} {x : UInt64} (hd : decode cc pc = .ok (.dload_n q, 1)) (j : Nat) (hj : lv[j]? = some (i, .double x)) (hi : (q : Nat) = i) (kk : wx E H k n (pc + 1) lv (.double x :: st)) : wx E H k n pc lv st := by
  obtain ⟨p, l, e, R, s, m, args, below, meth, c, A1, nL, Q⟩ := E
  obtain ⟨⟨hx, hb, hml, hown, hts⟩, hL, hR, hAA, hH0, hnL, hKt, hKh, hfr, hlk⟩ := F
  intro locs ls hS hl
  exact lv_dload_n hx hb hd hi (lv_at hl j hj) (kk locs ls hS hl)
theorem x_dload (F : fx L rm G A H0 n0 cc own E) {i : Nat} {x : UInt64} (hd : decode cc pc = .ok (.dload i, 2)) (j : Nat) (hj : lv[j]? = some (i, .double x)) (kk : wx E H k n (pc + 2) lv (.double x :: st)) : wx E H k n pc lv st := by
  obtain ⟨p, l, e, R, s, m, args, below, meth, c, A1, nL, Q⟩ := E
  obtain ⟨⟨hx, hb, hml, hown, hts⟩, hL, hR, hAA, hH0, hnL, hKt, hKh, hfr, hlk⟩ := F
  intro locs ls hS hl
  exact lv_dload hx hb hd (lv_at hl j hj) (kk locs ls hS hl)
theorem x_istore_n (F : fx L rm G A H0 n0 cc own E) {q : Fin 4} {i : Nat} {x : Int32} (hd : decode cc pc = .ok (.istore_n q, 1)) (hi : (q : Nat) = i) (hn : i < n0) (hl2 : (i, Value.int x) :: lv.filter (fun q => !(q.1 == i) && !(q.1 + 1 == i && q.2.category == 2)) = lv') (kk : wx E H k n (pc + 1) lv' st) : wx E H k n pc lv (.int x :: st) := by
  obtain ⟨p, l, e, R, s, m, args, below, meth, c, A1, nL, Q⟩ := E
  obtain ⟨⟨hx, hb, hml, hown, hts⟩, hL, hR, hAA, hH0, hnL, hKt, hKh, hfr, hlk⟩ := F
  intro locs ls hS hl
  exact lv_istore_n hx hb hd hi hl (by rw [hnL]; exact hn) hl2 (fun ls2 hl3 => kk locs ls2 hS hl3)
theorem x_istore (F : fx L rm G A H0 n0 cc own E) {i : Nat} {x : Int32} (hd : decode cc pc = .ok (.istore i, 2)) (hn : i < n0) (hl2 : (i, Value.int x) :: lv.filter (fun q => !(q.1 == i) && !(q.1 + 1 == i && q.2.category == 2)) = lv') (kk : wx E H k n (pc + 2) lv' st) : wx E H k n pc lv (.int x :: st) := by
  obtain ⟨p, l, e, R, s, m, args, below, meth, c, A1, nL, Q⟩ := E
  obtain ⟨⟨hx, hb, hml, hown, hts⟩, hL, hR, hAA, hH0, hnL, hKt, hKh, hfr, hlk⟩ := F
  intro locs ls hS hl
  exact lv_istore hx hb hd hl (by rw [hnL]; exact hn) hl2 (fun ls2 hl3 => kk locs ls2 hS hl3)
theorem x_astore_n (F : fx L rm G A H0 n0 cc own E) {q : Fin 4} {i : Nat} {x : Nat} (hd : decode cc pc = .ok (.astore_n q, 1)) (hi : (q : Nat) = i) (hn : i < n0) (hl2 : (i, Value.ref x) :: lv.filter (fun q => !(q.1 == i) && !(q.1 + 1 == i && q.2.category == 2)) = lv') (kk : wx E H k n (pc + 1) lv' st) : wx E H k n pc lv (.ref x :: st) := by
  obtain ⟨p, l, e, R, s, m, args, below, meth, c, A1, nL, Q⟩ := E
  obtain ⟨⟨hx, hb, hml, hown, hts⟩, hL, hR, hAA, hH0, hnL, hKt, hKh, hfr, hlk⟩ := F
  intro locs ls hS hl
  exact lv_astore_n hx hb hd hi hl (by rw [hnL]; exact hn) hl2 (fun ls2 hl3 => kk locs ls2 hS hl3)
theorem x_astore (F : fx L rm G A H0 n0 cc own E) {i : Nat} {x : Nat} (hd : decode cc pc = .ok (.astore i, 2)) (hn : i < n0) (hl2 : (i, Value.ref x) :: lv.filter (fun q => !(q.1 == i) && !(q.1 + 1 == i && q.2.category == 2)) = lv') (kk : wx E H k n (pc + 2) lv' st) : wx E H k n pc lv (.ref x :: st) := by
  obtain ⟨p, l, e, R, s, m, args, below, meth, c, A1, nL, Q⟩ := E
  obtain ⟨⟨hx, hb, hml, hown, hts⟩, hL, hR, hAA, hH0, hnL, hKt, hKh, hfr, hlk⟩ := F
  intro locs ls hS hl
  exact lv_astore hx hb hd hl (by rw [hnL]; exact hn) hl2 (fun ls2 hl3 => kk locs ls2 hS hl3)
theorem x_iinc (F : fx L rm G A H0 n0 cc own E) {i j : Nat} {z : Int} {x v : Int32} (hd : decode cc pc = .ok (.iinc i z, 3)) (hj : lv[j]? = some (i, .int x)) (hv : x + Int32.ofInt z = v) (hn : i < n0) (hl2 : (i, Value.int v) :: lv.filter (fun q => !(q.1 == i) && !(q.1 + 1 == i && q.2.category == 2)) = lv') (kk : wx E H k n (pc + 3) lv' st) : wx E H k n pc lv st := by
  obtain ⟨p, l, e, R, s, m, args, below, meth, c, A1, nL, Q⟩ := E
  obtain ⟨⟨hx, hb, hml, hown, hts⟩, hL, hR, hAA, hH0, hnL, hKt, hKh, hfr, hlk⟩ := F
  intro locs ls hS hl
  exact lv_iinc hx hb hd hl hj hv (by rw [hnL]; exact hn) hl2 (fun ls2 hl3 => kk locs ls2 hS hl3)
theorem x_iconst (F : fx L rm G A H0 n0 cc own E) {z : Int} {v : Int32} (hv : Int32.ofInt z = v) (hd : decode cc pc = .ok (.iconst z, 1)) (kk : wx E H k n (pc + 1) lv (.int v :: st)) : wx E H k n pc lv (st) := by
  obtain ⟨p, l, e, R, s, m, args, below, meth, c, A1, nL, Q⟩ := E
  obtain ⟨⟨hx, hb, hml, hown, hts⟩, hL, hR, hAA, hH0, hnL, hKt, hKh, hfr, hlk⟩ := F
  intro locs ls hS hl
  exact lv_iconst hx hb hd hv (kk locs ls hS hl)
theorem x_bipush (F : fx L rm G A H0 n0 cc own E) {z : Int} {v : Int32} (hv : (Int8.ofInt z).toInt32 = v) (hd : decode cc pc = .ok (.bipush z, 2)) (kk : wx E H k n (pc + 2) lv (.int v :: st)) : wx E H k n pc lv (st) := by
  obtain ⟨p, l, e, R, s, m, args, below, meth, c, A1, nL, Q⟩ := E
  obtain ⟨⟨hx, hb, hml, hown, hts⟩, hL, hR, hAA, hH0, hnL, hKt, hKh, hfr, hlk⟩ := F
  intro locs ls hS hl
  exact lv_bipush hx hb hd hv (kk locs ls hS hl)
theorem x_sipush (F : fx L rm G A H0 n0 cc own E) {z : Int} {v : Int32} (hv : (Int16.ofInt z).toInt32 = v) (hd : decode cc pc = .ok (.sipush z, 3)) (kk : wx E H k n (pc + 3) lv (.int v :: st)) : wx E H k n pc lv (st) := by
  obtain ⟨p, l, e, R, s, m, args, below, meth, c, A1, nL, Q⟩ := E
  obtain ⟨⟨hx, hb, hml, hown, hts⟩, hL, hR, hAA, hH0, hnL, hKt, hKh, hfr, hlk⟩ := F
  intro locs ls hS hl
  exact lv_sipush hx hb hd hv (kk locs ls hS hl)
theorem x_ldc (F : fx L rm G A H0 n0 cc own E) {i : Nat} {v : Int32} (hc : Cond.constant own i v ∈ WALL) (hd : decode cc pc = .ok (.ldc i, 2)) (kk : wx E H k n (pc + 2) lv (.int v :: st)) : wx E H k n pc lv st := by
  obtain ⟨p, l, e, R, s, m, args, below, meth, c, A1, nL, Q⟩ := E
  obtain ⟨⟨hx, hb, hml, hown, hts⟩, hL, hR, hAA, hH0, hnL, hKt, hKh, hfr, hlk⟩ := F
  intro locs ls hS hl
  exact lv_ldc hx hb hown (hts _ hc) hd (kk locs ls hS hl)
theorem x_iadd (F : fx L rm G A H0 n0 cc own E) {x y : Int32} (hd : decode cc pc = .ok (.iadd, 1)) (kk : wx E H k n (pc + 1) lv (.int (x + y) :: st)) : wx E H k n pc lv (.int y :: .int x :: st) := by
  obtain ⟨p, l, e, R, s, m, args, below, meth, c, A1, nL, Q⟩ := E
  obtain ⟨⟨hx, hb, hml, hown, hts⟩, hL, hR, hAA, hH0, hnL, hKt, hKh, hfr, hlk⟩ := F
  intro locs ls hS hl
  exact lv_iadd hx hb hd (kk locs ls hS hl)
theorem x_isub (F : fx L rm G A H0 n0 cc own E) {x y : Int32} (hd : decode cc pc = .ok (.isub, 1)) (kk : wx E H k n (pc + 1) lv (.int (x - y) :: st)) : wx E H k n pc lv (.int y :: .int x :: st) := by
  obtain ⟨p, l, e, R, s, m, args, below, meth, c, A1, nL, Q⟩ := E
  obtain ⟨⟨hx, hb, hml, hown, hts⟩, hL, hR, hAA, hH0, hnL, hKt, hKh, hfr, hlk⟩ := F
  intro locs ls hS hl
  exact lv_isub hx hb hd (kk locs ls hS hl)
theorem x_imul (F : fx L rm G A H0 n0 cc own E) {x y : Int32} (hd : decode cc pc = .ok (.imul, 1)) (kk : wx E H k n (pc + 1) lv (.int (x * y) :: st)) : wx E H k n pc lv (.int y :: .int x :: st) := by
  obtain ⟨p, l, e, R, s, m, args, below, meth, c, A1, nL, Q⟩ := E
  obtain ⟨⟨hx, hb, hml, hown, hts⟩, hL, hR, hAA, hH0, hnL, hKt, hKh, hfr, hlk⟩ := F
  intro locs ls hS hl
  exact lv_imul hx hb hd (kk locs ls hS hl)
theorem x_iand (F : fx L rm G A H0 n0 cc own E) {x y : Int32} (hd : decode cc pc = .ok (.iand, 1)) (kk : wx E H k n (pc + 1) lv (.int (x &&& y) :: st)) : wx E H k n pc lv (.int y :: .int x :: st) := by
  obtain ⟨p, l, e, R, s, m, args, below, meth, c, A1, nL, Q⟩ := E
  obtain ⟨⟨hx, hb, hml, hown, hts⟩, hL, hR, hAA, hH0, hnL, hKt, hKh, hfr, hlk⟩ := F
  intro locs ls hS hl
  exact lv_iand hx hb hd (kk locs ls hS hl)
theorem x_idiv (F : fx L rm G A H0 n0 cc own E) {x y : Int32} (hd : decode cc pc = .ok (.idiv, 1)) (hne : ¬ y = 0) (kk : wx E H k n (pc + 1) lv (.int (x / y) :: st)) : wx E H k n pc lv (.int y :: .int x :: st) := by
  obtain ⟨p, l, e, R, s, m, args, below, meth, c, A1, nL, Q⟩ := E
  obtain ⟨⟨hx, hb, hml, hown, hts⟩, hL, hR, hAA, hH0, hnL, hKt, hKh, hfr, hlk⟩ := F
  intro locs ls hS hl
  exact lv_idiv hx hb hd hne (kk locs ls hS hl)
theorem x_ineg (F : fx L rm G A H0 n0 cc own E) {x : Int32} (hd : decode cc pc = .ok (.ineg, 1)) (kk : wx E H k n (pc + 1) lv (.int (-x) :: st)) : wx E H k n pc lv (.int x :: st) := by
  obtain ⟨p, l, e, R, s, m, args, below, meth, c, A1, nL, Q⟩ := E
  obtain ⟨⟨hx, hb, hml, hown, hts⟩, hL, hR, hAA, hH0, hnL, hKt, hKh, hfr, hlk⟩ := F
  intro locs ls hS hl
  exact lv_ineg hx hb hd (kk locs ls hS hl)
theorem x_ladd (F : fx L rm G A H0 n0 cc own E) {x y : Int64} (hd : decode cc pc = .ok (.ladd, 1)) (kk : wx E H k n (pc + 1) lv (.long (x + y) :: st)) : wx E H k n pc lv (.long y :: .long x :: st) := by
  obtain ⟨p, l, e, R, s, m, args, below, meth, c, A1, nL, Q⟩ := E
  obtain ⟨⟨hx, hb, hml, hown, hts⟩, hL, hR, hAA, hH0, hnL, hKt, hKh, hfr, hlk⟩ := F
  intro locs ls hS hl
  exact lv_ladd hx hb hd (kk locs ls hS hl)
theorem x_lmul (F : fx L rm G A H0 n0 cc own E) {x y : Int64} (hd : decode cc pc = .ok (.lmul, 1)) (kk : wx E H k n (pc + 1) lv (.long (x * y) :: st)) : wx E H k n pc lv (.long y :: .long x :: st) := by
  obtain ⟨p, l, e, R, s, m, args, below, meth, c, A1, nL, Q⟩ := E
  obtain ⟨⟨hx, hb, hml, hown, hts⟩, hL, hR, hAA, hH0, hnL, hKt, hKh, hfr, hlk⟩ := F
  intro locs ls hS hl
  exact lv_lmul hx hb hd (kk locs ls hS hl)
theorem x_i2l (F : fx L rm G A H0 n0 cc own E) {x : Int32} (hd : decode cc pc = .ok (.i2l, 1)) (kk : wx E H k n (pc + 1) lv (.long x.toInt64 :: st)) : wx E H k n pc lv (.int x :: st) := by
  obtain ⟨p, l, e, R, s, m, args, below, meth, c, A1, nL, Q⟩ := E
  obtain ⟨⟨hx, hb, hml, hown, hts⟩, hL, hR, hAA, hH0, hnL, hKt, hKh, hfr, hlk⟩ := F
  intro locs ls hS hl
  exact lv_i2l hx hb hd rfl (kk locs ls hS hl)
theorem x_dup (F : fx L rm G A H0 n0 cc own E) {v : Value} (hd : decode cc pc = .ok (.dup, 1)) (hv : v.category = 1) (kk : wx E H k n (pc + 1) lv (v :: v :: st)) : wx E H k n pc lv (v :: st) := by
  obtain ⟨p, l, e, R, s, m, args, below, meth, c, A1, nL, Q⟩ := E
  obtain ⟨⟨hx, hb, hml, hown, hts⟩, hL, hR, hAA, hH0, hnL, hKt, hKh, hfr, hlk⟩ := F
  intro locs ls hS hl
  exact lv_dup hx hb hd hv (kk locs ls hS hl)
theorem x_pop (F : fx L rm G A H0 n0 cc own E) {v : Value} (hd : decode cc pc = .ok (.pop, 1)) (hv : v.category = 1) (kk : wx E H k n (pc + 1) lv st) : wx E H k n pc lv (v :: st) := by
  obtain ⟨p, l, e, R, s, m, args, below, meth, c, A1, nL, Q⟩ := E
  obtain ⟨⟨hx, hb, hml, hown, hts⟩, hL, hR, hAA, hH0, hnL, hKt, hKh, hfr, hlk⟩ := F
  intro locs ls hS hl
  exact lv_pop hx hb hd hv (kk locs ls hS hl)
theorem x_icmp_eq (F : fx L rm G A H0 n0 cc own E) {x y : Int32} {off : Int} {tgt : Nat} (hd : decode cc pc = .ok (.if_icmp .eq off, 3)) (ht : (pc : Int) + off = (tgt : Int)) (k1 : x = y → wx E H k n tgt lv st) (k2 : ¬ x = y → wx E H k n (pc + 3) lv st) : wx E H k n pc lv (.int y :: .int x :: st) := by
  obtain ⟨p, l, e, R, s, m, args, below, meth, c, A1, nL, Q⟩ := E
  obtain ⟨⟨hx, hb, hml, hown, hts⟩, hL, hR, hAA, hH0, hnL, hKt, hKh, hfr, hlk⟩ := F
  intro locs ls hS hl
  exact lv_icmp_eq hx hb hd ht (fun h => k1 h locs ls hS hl) (fun h => k2 h locs ls hS hl)
theorem x_if_eq (F : fx L rm G A H0 n0 cc own E) {x : Int32} {off : Int} {tgt : Nat} (hd : decode cc pc = .ok (.ifCond .eq off, 3)) (ht : (pc : Int) + off = (tgt : Int)) (k1 : x = 0 → wx E H k n tgt lv st) (k2 : ¬ x = 0 → wx E H k n (pc + 3) lv st) : wx E H k n pc lv (.int x :: st) := by
  obtain ⟨p, l, e, R, s, m, args, below, meth, c, A1, nL, Q⟩ := E
  obtain ⟨⟨hx, hb, hml, hown, hts⟩, hL, hR, hAA, hH0, hnL, hKt, hKh, hfr, hlk⟩ := F
  intro locs ls hS hl
  exact lv_if_eq hx hb hd ht (fun h => k1 h locs ls hS hl) (fun h => k2 h locs ls hS hl)
theorem x_icmp_ne (F : fx L rm G A H0 n0 cc own E) {x y : Int32} {off : Int} {tgt : Nat} (hd : decode cc pc = .ok (.if_icmp .ne off, 3)) (ht : (pc : Int) + off = (tgt : Int)) (k1 : x ≠ y → wx E H k n tgt lv st) (k2 : x = y → wx E H k n (pc + 3) lv st) : wx E H k n pc lv (.int y :: .int x :: st) := by
  obtain ⟨p, l, e, R, s, m, args, below, meth, c, A1, nL, Q⟩ := E
  obtain ⟨⟨hx, hb, hml, hown, hts⟩, hL, hR, hAA, hH0, hnL, hKt, hKh, hfr, hlk⟩ := F
  intro locs ls hS hl
  exact lv_icmp_ne hx hb hd ht (fun h => k1 h locs ls hS hl) (fun h => k2 h locs ls hS hl)
theorem x_if_ne (F : fx L rm G A H0 n0 cc own E) {x : Int32} {off : Int} {tgt : Nat} (hd : decode cc pc = .ok (.ifCond .ne off, 3)) (ht : (pc : Int) + off = (tgt : Int)) (k1 : x ≠ 0 → wx E H k n tgt lv st) (k2 : x = 0 → wx E H k n (pc + 3) lv st) : wx E H k n pc lv (.int x :: st) := by
  obtain ⟨p, l, e, R, s, m, args, below, meth, c, A1, nL, Q⟩ := E
  obtain ⟨⟨hx, hb, hml, hown, hts⟩, hL, hR, hAA, hH0, hnL, hKt, hKh, hfr, hlk⟩ := F
  intro locs ls hS hl
  exact lv_if_ne hx hb hd ht (fun h => k1 h locs ls hS hl) (fun h => k2 h locs ls hS hl)
theorem x_icmp_lt (F : fx L rm G A H0 n0 cc own E) {x y : Int32} {off : Int} {tgt : Nat} (hd : decode cc pc = .ok (.if_icmp .lt off, 3)) (ht : (pc : Int) + off = (tgt : Int)) (k1 : x < y → wx E H k n tgt lv st) (k2 : ¬ x < y → wx E H k n (pc + 3) lv st) : wx E H k n pc lv (.int y :: .int x :: st) := by
  obtain ⟨p, l, e, R, s, m, args, below, meth, c, A1, nL, Q⟩ := E
  obtain ⟨⟨hx, hb, hml, hown, hts⟩, hL, hR, hAA, hH0, hnL, hKt, hKh, hfr, hlk⟩ := F
  intro locs ls hS hl
  exact lv_icmp_lt hx hb hd ht (fun h => k1 h locs ls hS hl) (fun h => k2 h locs ls hS hl)
theorem x_if_lt (F : fx L rm G A H0 n0 cc own E) {x : Int32} {off : Int} {tgt : Nat} (hd : decode cc pc = .ok (.ifCond .lt off, 3)) (ht : (pc : Int) + off = (tgt : Int)) (k1 : x < 0 → wx E H k n tgt lv st) (k2 : ¬ x < 0 → wx E H k n (pc + 3) lv st) : wx E H k n pc lv (.int x :: st) := by
  obtain ⟨p, l, e, R, s, m, args, below, meth, c, A1, nL, Q⟩ := E
  obtain ⟨⟨hx, hb, hml, hown, hts⟩, hL, hR, hAA, hH0, hnL, hKt, hKh, hfr, hlk⟩ := F
  intro locs ls hS hl
  exact lv_if_lt hx hb hd ht (fun h => k1 h locs ls hS hl) (fun h => k2 h locs ls hS hl)
theorem x_icmp_ge (F : fx L rm G A H0 n0 cc own E) {x y : Int32} {off : Int} {tgt : Nat} (hd : decode cc pc = .ok (.if_icmp .ge off, 3)) (ht : (pc : Int) + off = (tgt : Int)) (k1 : y ≤ x → wx E H k n tgt lv st) (k2 : ¬ y ≤ x → wx E H k n (pc + 3) lv st) : wx E H k n pc lv (.int y :: .int x :: st) := by
  obtain ⟨p, l, e, R, s, m, args, below, meth, c, A1, nL, Q⟩ := E
  obtain ⟨⟨hx, hb, hml, hown, hts⟩, hL, hR, hAA, hH0, hnL, hKt, hKh, hfr, hlk⟩ := F
  intro locs ls hS hl
  exact lv_icmp_ge hx hb hd ht (fun h => k1 h locs ls hS hl) (fun h => k2 h locs ls hS hl)
theorem x_if_ge (F : fx L rm G A H0 n0 cc own E) {x : Int32} {off : Int} {tgt : Nat} (hd : decode cc pc = .ok (.ifCond .ge off, 3)) (ht : (pc : Int) + off = (tgt : Int)) (k1 : 0 ≤ x → wx E H k n tgt lv st) (k2 : ¬ 0 ≤ x → wx E H k n (pc + 3) lv st) : wx E H k n pc lv (.int x :: st) := by
  obtain ⟨p, l, e, R, s, m, args, below, meth, c, A1, nL, Q⟩ := E
  obtain ⟨⟨hx, hb, hml, hown, hts⟩, hL, hR, hAA, hH0, hnL, hKt, hKh, hfr, hlk⟩ := F
  intro locs ls hS hl
  exact lv_if_ge hx hb hd ht (fun h => k1 h locs ls hS hl) (fun h => k2 h locs ls hS hl)
theorem x_icmp_gt (F : fx L rm G A H0 n0 cc own E) {x y : Int32} {off : Int} {tgt : Nat} (hd : decode cc pc = .ok (.if_icmp .gt off, 3)) (ht : (pc : Int) + off = (tgt : Int)) (k1 : y < x → wx E H k n tgt lv st) (k2 : ¬ y < x → wx E H k n (pc + 3) lv st) : wx E H k n pc lv (.int y :: .int x :: st) := by
  obtain ⟨p, l, e, R, s, m, args, below, meth, c, A1, nL, Q⟩ := E
  obtain ⟨⟨hx, hb, hml, hown, hts⟩, hL, hR, hAA, hH0, hnL, hKt, hKh, hfr, hlk⟩ := F
  intro locs ls hS hl
  exact lv_icmp_gt hx hb hd ht (fun h => k1 h locs ls hS hl) (fun h => k2 h locs ls hS hl)
theorem x_if_gt (F : fx L rm G A H0 n0 cc own E) {x : Int32} {off : Int} {tgt : Nat} (hd : decode cc pc = .ok (.ifCond .gt off, 3)) (ht : (pc : Int) + off = (tgt : Int)) (k1 : 0 < x → wx E H k n tgt lv st) (k2 : ¬ 0 < x → wx E H k n (pc + 3) lv st) : wx E H k n pc lv (.int x :: st) := by
  obtain ⟨p, l, e, R, s, m, args, below, meth, c, A1, nL, Q⟩ := E
  obtain ⟨⟨hx, hb, hml, hown, hts⟩, hL, hR, hAA, hH0, hnL, hKt, hKh, hfr, hlk⟩ := F
  intro locs ls hS hl
  exact lv_if_gt hx hb hd ht (fun h => k1 h locs ls hS hl) (fun h => k2 h locs ls hS hl)
theorem x_icmp_le (F : fx L rm G A H0 n0 cc own E) {x y : Int32} {off : Int} {tgt : Nat} (hd : decode cc pc = .ok (.if_icmp .le off, 3)) (ht : (pc : Int) + off = (tgt : Int)) (k1 : x ≤ y → wx E H k n tgt lv st) (k2 : ¬ x ≤ y → wx E H k n (pc + 3) lv st) : wx E H k n pc lv (.int y :: .int x :: st) := by
  obtain ⟨p, l, e, R, s, m, args, below, meth, c, A1, nL, Q⟩ := E
  obtain ⟨⟨hx, hb, hml, hown, hts⟩, hL, hR, hAA, hH0, hnL, hKt, hKh, hfr, hlk⟩ := F
  intro locs ls hS hl
  exact lv_icmp_le hx hb hd ht (fun h => k1 h locs ls hS hl) (fun h => k2 h locs ls hS hl)
theorem x_if_le (F : fx L rm G A H0 n0 cc own E) {x : Int32} {off : Int} {tgt : Nat} (hd : decode cc pc = .ok (.ifCond .le off, 3)) (ht : (pc : Int) + off = (tgt : Int)) (k1 : x ≤ 0 → wx E H k n tgt lv st) (k2 : ¬ x ≤ 0 → wx E H k n (pc + 3) lv st) : wx E H k n pc lv (.int x :: st) := by
  obtain ⟨p, l, e, R, s, m, args, below, meth, c, A1, nL, Q⟩ := E
  obtain ⟨⟨hx, hb, hml, hown, hts⟩, hL, hR, hAA, hH0, hnL, hKt, hKh, hfr, hlk⟩ := F
  intro locs ls hS hl
  exact lv_if_le hx hb hd ht (fun h => k1 h locs ls hS hl) (fun h => k2 h locs ls hS hl)
theorem x_goto (F : fx L rm G A H0 n0 cc own E) {off : Int} {tgt : Nat} (hd : decode cc pc = .ok (.goto off, 3)) (ht : (pc : Int) + off = (tgt : Int)) (kk : wx E H k n tgt lv st) : wx E H k n pc lv st := by
  obtain ⟨p, l, e, R, s, m, args, below, meth, c, A1, nL, Q⟩ := E
  obtain ⟨⟨hx, hb, hml, hown, hts⟩, hL, hR, hAA, hH0, hnL, hKt, hKh, hfr, hlk⟩ := F
  intro locs ls hS hl
  exact lv_goto hx hb hd ht (kk locs ls hS hl)
theorem x_ifnull (F : fx L rm G A H0 n0 cc own E) {x : Nat} {off : Int} (hd : decode cc pc = .ok (.ifnull off, 3)) (kk : wx E H k n (pc + 3) lv st) : wx E H k n pc lv (.ref x :: st) := by
  obtain ⟨p, l, e, R, s, m, args, below, meth, c, A1, nL, Q⟩ := E
  obtain ⟨⟨hx, hb, hml, hown, hts⟩, hL, hR, hAA, hH0, hnL, hKt, hKh, hfr, hlk⟩ := F
  intro locs ls hS hl
  exact lv_ifnull hx hb hd (kk locs ls hS hl)
theorem x_ifnullN (F : fx L rm G A H0 n0 cc own E) {off : Int} {tgt : Nat} (hd : decode cc pc = .ok (.ifnull off, 3)) (ht : (pc : Int) + off = (tgt : Int)) (kk : wx E H k n tgt lv st) : wx E H k n pc lv (.null :: st) := by
  obtain ⟨p, l, e, R, s, m, args, below, meth, c, A1, nL, Q⟩ := E
  obtain ⟨⟨hx, hb, hml, hown, hts⟩, hL, hR, hAA, hH0, hnL, hKt, hKh, hfr, hlk⟩ := F
  intro locs ls hS hl
  exact lv_ifnullN hx hb hd ht (kk locs ls hS hl)
theorem x_ifnonnull (F : fx L rm G A H0 n0 cc own E) {x : Nat} {off : Int} {tgt : Nat} (hd : decode cc pc = .ok (.ifnonnull off, 3)) (ht : (pc : Int) + off = (tgt : Int)) (kk : wx E H k n tgt lv st) : wx E H k n pc lv (.ref x :: st) := by
  obtain ⟨p, l, e, R, s, m, args, below, meth, c, A1, nL, Q⟩ := E
  obtain ⟨⟨hx, hb, hml, hown, hts⟩, hL, hR, hAA, hH0, hnL, hKt, hKh, hfr, hlk⟩ := F
  intro locs ls hS hl
  exact lv_ifnonnull hx hb hd ht (kk locs ls hS hl)
theorem x_ifnonnullN (F : fx L rm G A H0 n0 cc own E) {off : Int} (hd : decode cc pc = .ok (.ifnonnull off, 3)) (kk : wx E H k n (pc + 3) lv st) : wx E H k n pc lv (.null :: st) := by
  obtain ⟨p, l, e, R, s, m, args, below, meth, c, A1, nL, Q⟩ := E
  obtain ⟨⟨hx, hb, hml, hown, hts⟩, hL, hR, hAA, hH0, hnL, hKt, hKh, hfr, hlk⟩ := F
  intro locs ls hS hl
  exact lv_ifnonnullN hx hb hd (kk locs ls hS hl)
theorem x_null (F : fx L rm G A H0 n0 cc own E) (hd : decode cc pc = .ok (.aconst_null, 1)) (kk : wx E H k n (pc + 1) lv (.null :: st)) : wx E H k n pc lv st := by
  obtain ⟨p, l, e, R, s, m, args, below, meth, c, A1, nL, Q⟩ := E
  obtain ⟨⟨hx, hb, hml, hown, hts⟩, hL, hR, hAA, hH0, hnL, hKt, hKh, hfr, hlk⟩ := F
  intro locs ls hS hl
  exact lv_null hx hb hd (kk locs ls hS hl)
theorem x_tableIn (F : fx L rm G A H0 n0 cc own E) {dflt lo hi : Int} {offs : Array Int} {len : Nat} {x : Int32} {off : Int} {tgt : Nat} (hd : decode cc pc = .ok (.tableswitch dflt lo hi offs, len)) (h1 : ¬ x.toInt < lo) (h2 : ¬ hi < x.toInt) (ho : offs[(x.toInt - lo).toNat]? = some off) (ht : (pc : Int) + off = (tgt : Int)) (kk : wx E H k n tgt lv st) : wx E H k n pc lv (.int x :: st) := by
  obtain ⟨p, l, e, R, s, m, args, below, meth, c, A1, nL, Q⟩ := E
  obtain ⟨⟨hx, hb, hml, hown, hts⟩, hL, hR, hAA, hH0, hnL, hKt, hKh, hfr, hlk⟩ := F
  intro locs ls hS hl
  exact lv_tableIn hx hb hd h1 h2 ho ht (kk locs ls hS hl)
theorem x_tableOut (F : fx L rm G A H0 n0 cc own E) {dflt lo hi : Int} {offs : Array Int} {len : Nat} {x : Int32} {tgt : Nat} (hd : decode cc pc = .ok (.tableswitch dflt lo hi offs, len)) (h : x.toInt < lo ∨ hi < x.toInt) (ht : (pc : Int) + dflt = (tgt : Int)) (kk : wx E H k n tgt lv st) : wx E H k n pc lv (.int x :: st) := by
  obtain ⟨p, l, e, R, s, m, args, below, meth, c, A1, nL, Q⟩ := E
  obtain ⟨⟨hx, hb, hml, hown, hts⟩, hL, hR, hAA, hH0, hnL, hKt, hKh, hfr, hlk⟩ := F
  intro locs ls hS hl
  exact lv_tableOut hx hb hd h ht (kk locs ls hS hl)
theorem x_iret (F : fx L rm G A H0 n0 cc own E) {v : Int32}  (hE : fe rm A Post (some .int) nm E) (hd : decode cc pc = .ok (.ireturn, 1)) (hc : k ≤ rm.cells) (hs : n ≤ rm.slots) (hp : Post H0 (some (.int v)) H) : wx E H k n pc lv (.int v :: []) := by
  obtain ⟨p, l, e, R, s, m, args, below, meth, c, A1, nL, Q⟩ := E
  obtain ⟨⟨hx, hb, hml, hown, hts⟩, hL, hR, hAA, hH0, hnL, hKt, hKh, hfr, hlk⟩ := F
  subst hL hR hAA hH0 hnL
  obtain ⟨hQ, hr, hnm⟩ := hE
  intro locs ls hS hl
  refine W.widen hc hs ?_
  rcases hQ with hQ | ⟨PX, hQ⟩
  · subst hQ
    exact W.iret hx hb hr (fun t ht hW => ⟨_, rfl, by rw [ht]; exact hp, hS.F ht⟩) hS.2.2 hd hlk
  · subst hQ
    exact vx_ret (W.iret hx hb hr (fun t ht hW => ⟨_, rfl, by rw [ht]; exact hp, hS.F ht⟩) hS.2.2 hd hlk)
theorem x_zret (F : fx L rm G A H0 n0 cc own E) {v : Int32} {ty : FieldType} (hn : narrow ty (.int v) = .int v) (hE : fe rm A Post (some ty) nm E) (hd : decode cc pc = .ok (.ireturn, 1)) (hc : k ≤ rm.cells) (hs : n ≤ rm.slots) (hp : Post H0 (some (.int v)) H) : wx E H k n pc lv (.int v :: []) := by
  obtain ⟨p, l, e, R, s, m, args, below, meth, c, A1, nL, Q⟩ := E
  obtain ⟨⟨hx, hb, hml, hown, hts⟩, hL, hR, hAA, hH0, hnL, hKt, hKh, hfr, hlk⟩ := F
  subst hL hR hAA hH0 hnL
  obtain ⟨hQ, hr, hnm⟩ := hE
  intro locs ls hS hl
  refine W.widen hc hs ?_
  rcases hQ with hQ | ⟨PX, hQ⟩
  · subst hQ
    exact W.zret hx hb hr hn (fun t ht hW => ⟨_, rfl, by rw [ht]; exact hp, hS.F ht⟩) hS.2.2 hd hlk
  · subst hQ
    exact vx_ret (W.zret hx hb hr hn (fun t ht hW => ⟨_, rfl, by rw [ht]; exact hp, hS.F ht⟩) hS.2.2 hd hlk)
theorem x_lret (F : fx L rm G A H0 n0 cc own E) {v : Int64}  (hE : fe rm A Post (some .long) nm E) (hd : decode cc pc = .ok (.lreturn, 1)) (hc : k ≤ rm.cells) (hs : n ≤ rm.slots) (hp : Post H0 (some (.long v)) H) : wx E H k n pc lv (.long v :: []) := by
  obtain ⟨p, l, e, R, s, m, args, below, meth, c, A1, nL, Q⟩ := E
  obtain ⟨⟨hx, hb, hml, hown, hts⟩, hL, hR, hAA, hH0, hnL, hKt, hKh, hfr, hlk⟩ := F
  subst hL hR hAA hH0 hnL
  obtain ⟨hQ, hr, hnm⟩ := hE
  intro locs ls hS hl
  refine W.widen hc hs ?_
  rcases hQ with hQ | ⟨PX, hQ⟩
  · subst hQ
    exact W.lret hx hb hr (fun t ht hW => ⟨_, rfl, by rw [ht]; exact hp, hS.F ht⟩) hS.2.2 hd hlk
  · subst hQ
    exact vx_ret (W.lret hx hb hr (fun t ht hW => ⟨_, rfl, by rw [ht]; exact hp, hS.F ht⟩) hS.2.2 hd hlk)
theorem x_aret (F : fx L rm G A H0 n0 cc own E) {v : Value} {ty : FieldType} (hn : (∃ n, ty = .object n) ∨ ∃ t, ty = .array t) (hv : v = .null ∨ ∃ a, v = .ref a) (hE : fe rm A Post (some ty) nm E) (hd : decode cc pc = .ok (.areturn, 1)) (hc : k ≤ rm.cells) (hs : n ≤ rm.slots) (hp : Post H0 (some v) H) : wx E H k n pc lv (v :: []) := by
  obtain ⟨p, l, e, R, s, m, args, below, meth, c, A1, nL, Q⟩ := E
  obtain ⟨⟨hx, hb, hml, hown, hts⟩, hL, hR, hAA, hH0, hnL, hKt, hKh, hfr, hlk⟩ := F
  subst hL hR hAA hH0 hnL
  obtain ⟨hQ, hr, hnm⟩ := hE
  intro locs ls hS hl
  refine W.widen hc hs ?_
  rcases hQ with hQ | ⟨PX, hQ⟩
  · subst hQ
    exact W.aret hx hb hr hn hv (fun t ht hW => ⟨_, rfl, by rw [ht]; exact hp, hS.F ht⟩) hS.2.2 hd hlk
  · subst hQ
    exact vx_ret (W.aret hx hb hr hn hv (fun t ht hW => ⟨_, rfl, by rw [ht]; exact hp, hS.F ht⟩) hS.2.2 hd hlk)
theorem x_vret (F : fx L rm G A H0 n0 cc own E) (hE : fe rm A Post none nm E) (hd : decode cc pc = .ok (.return_, 1)) (hc : k ≤ rm.cells) (hs : n ≤ rm.slots) (hp : Post H0 none H) : wx E H k n pc lv [] := by
  obtain ⟨p, l, e, R, s, m, args, below, meth, c, A1, nL, Q⟩ := E
  obtain ⟨⟨hx, hb, hml, hown, hts⟩, hL, hR, hAA, hH0, hnL, hKt, hKh, hfr, hlk⟩ := F
  subst hL hR hAA hH0 hnL
  obtain ⟨hQ, hr, hnm⟩ := hE
  intro locs ls hS hl
  refine W.widen hc hs ?_
  rcases hQ with hQ | ⟨PX, hQ⟩
  · subst hQ
    exact W.vret hx hb hr (fun t ht hW => ⟨_, rfl, by rw [ht]; exact hp, hS.F ht⟩) hS.2.2 hd hlk
  · subst hQ
    exact vx_ret (W.vret hx hb hr (fun t ht hW => ⟨_, rfl, by rw [ht]; exact hp, hS.F ht⟩) hS.2.2 hd hlk)
theorem wx_widen {k2 n2 : Nat} (h1 : k ≤ k2) (h2 : n ≤ n2) (kk : wx E H k2 n2 pc lv st) : wx E H k n pc lv st := by
  obtain ⟨p, l, e, R, s, m, args, below, meth, c, A1, nL, Q⟩ := E
  intro locs ls hS hl
  exact W.widen h1 h2 (kk locs ls hS hl)
theorem wx_sub (ks : List Nat) (h : lv_pick lv ks = lv') (kk : wx E H k n pc lv' st) : wx E H k n pc lv st := by
  obtain ⟨p, l, e, R, s, m, args, below, meth, c, A1, nL, Q⟩ := E
  intro locs ls hS hl
  exact kk locs ls hS (lv_sub hl ks h)
end FR1
