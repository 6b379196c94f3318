-- spec lemmas: one step of a computation that may have no value
theorem sp_t {α : Type} {c : Prop} {i : Decidable c} {X Y : Option α} {o : α} (hc : c) (h : (@ite _ c i X Y) = some o) : X = some o := by rwa [if_pos hc] at h
theorem sp_f {α : Type} {c : Prop} {i : Decidable c} {X Y : Option α} {o : α} (hc : ¬ c) (h : (@ite _ c i X Y) = some o) : Y = some o := by rwa [if_neg hc] at h
theorem sp_g {α : Type} {i : Int32} {n : Nat} {X : Option α} {o : α} (h : (if i < 0 ∨ n ≤ i.toNatClampNeg then none else X) = some o) : vp_in i n ∧ X = some o := by
  by_cases hc : i < 0 ∨ n ≤ i.toNatClampNeg
  · rw [if_pos hc] at h; cases h
  · rw [if_neg hc] at h; exact ⟨hc, h⟩
theorem sp_b {α β : Type} {T : Option α} {k : α → Option β} {o : β} (h : T.bind k = some o) : ∃ v, T = some v ∧ k v = some o := by
  cases T with
  | none => cases h
  | some v => exact ⟨v, rfl, h⟩
theorem sp_s {α : Type} {a b : α} (h : some a = some b) : b = a := (Option.some.inj h).symm
theorem sp_c {α : Type} {c : Prop} {i : Decidable c} {X : Option α} {o : α} (h : (@ite _ c i X none) = some o) : c ∧ X = some o := by
  by_cases hc : c
  · rw [if_pos hc] at h; exact ⟨hc, h⟩
  · rw [if_neg hc] at h; cases h
theorem xk_nar {v : Int32} (h : v &&& 1 = v) : narrow .boolean (.int v) = .int v := by
  show Value.int (v &&& 1) = .int v
  rw [h]
theorem xk_in0_1 : vp_in (0 : Int32) 1 := by unfold vp_in; decide
def xk_us (x y : Int32) : Int32 := (x.toUInt32 >>> (y.toUInt32 &&& Int32.toUInt32 31)).toInt32
theorem sp_n {α : Type} {b : α} {P : Prop} (h : (none : Option α) = some b) : P := by cases h
-- the groups of cells
abbrev xG : Type := va_G × ClassId × ClassId × ClassId
abbrev xT (G : xG) : List (ClassId × FieldType) := [(G.2.1, .int), (G.2.2.1, .boolean), (G.2.2.2, .long)]
abbrev xF : Type := Nat → Int32
abbrev xSY : Type := Int32 × xF × xF × xF × xF × xF × xF × xF × xF
abbrev xPL : Type := xF × xF × xF × xF × xF × xF × Int32 × Int32 × Int32
abbrev wSYc (G : xG) (a : Nat → Nat) (c0 : Int32) (c1 : xF) (c2 : xF) (c3 : xF) (c4 : xF) (c5 : xF) (c6 : xF) (c7 : xF) (c8 : xF) : va_W := [(a 0, .inr (1, [.int c0, .ref (a 1), .ref (a 2), .ref (a 3), .ref (a 4), .ref (a 5), .ref (a 6), .ref (a 7), .ref (a 8)])), (a 1, .inl (G.2.1, 12, .inl c1)), (a 2, .inl (G.2.1, 12, .inl c2)), (a 3, .inl (G.2.1, 12, .inl c3)), (a 4, .inl (G.2.1, 12, .inl c4)), (a 5, .inl (G.2.1, 12, .inl c5)), (a 6, .inl (G.2.1, 12, .inl c6)), (a 7, .inl (G.2.1, 12, .inl c7)), (a 8, .inl (G.2.1, 12, .inl c8))]
abbrev wSY (G : xG) (a : Nat → Nat) (z : xSY) : va_W := wSYc G a z.1 z.2.1 z.2.2.1 z.2.2.2.1 z.2.2.2.2.1 z.2.2.2.2.2.1 z.2.2.2.2.2.2.1 z.2.2.2.2.2.2.2.1 z.2.2.2.2.2.2.2.2
abbrev wPLc (G : xG) (a : Nat → Nat) (c0 : xF) (c1 : xF) (c2 : xF) (c3 : xF) (c4 : xF) (c5 : xF) (c6 : Int32) (c7 : Int32) (c8 : Int32) : va_W := [(a 0, .inr (0, [.ref (a 1), .ref (a 2), .ref (a 3), .ref (a 4), .ref (a 5), .ref (a 6), .int c6, .int c7, .int c8])), (a 1, .inl (G.2.1, 100, .inl c0)), (a 2, .inl (G.2.1, 60, .inl c1)), (a 3, .inl (G.2.1, 36, .inl c2)), (a 4, .inl (G.2.1, 12, .inl c3)), (a 5, .inl (G.2.1, 12, .inl c4)), (a 6, .inl (G.2.1, 12, .inl c5))]
abbrev wPL (G : xG) (a : Nat → Nat) (z : xPL) : va_W := wPLc G a z.1 z.2.1 z.2.2.1 z.2.2.2.1 z.2.2.2.2.1 z.2.2.2.2.2.1 z.2.2.2.2.2.2.1 z.2.2.2.2.2.2.2.1 z.2.2.2.2.2.2.2.2
abbrev wLO (G : xG) (a : Nat) (f : xF) : va_W := [(a, .inl (G.2.2.1, 100, .inl f))]
abbrev wAR (G : xG) (a : Nat) (n : Nat) (f : xF) : va_W := [(a, .inl (G.2.1, n, .inl f))]
abbrev wOU (G : xG) (a : Nat) (f : Nat → Int64) : va_W := [(a, .inl (G.2.2.2, 2, .inr (.inl f)))]
abbrev wXO (a b c d e : Nat) : va_W := [(a, .inr (2, [.ref b, .ref c, .ref d, .ref e]))]
def xk_NE (U : State) : Prop := va_Nw (.fieldLinkNest RX2 47 "LessonWeave$Syllabus" "count" "I" "LessonWeave") U ∧ va_Nw (.fieldLinkNest RX0 73 "LessonWeave$Syllabus" "count" "I" "LessonWeave") U ∧ va_Nw (.fieldLinkNest RX0 84 "LessonWeave$Syllabus" "lessons" "[I" "LessonWeave") U ∧ va_Nw (.fieldLinkNest RX2 133 "LessonWeave$Syllabus" "lessons" "[I" "LessonWeave") U ∧ va_Nw (.fieldLinkNest RX0 99 "LessonWeave$Syllabus" "kit" "[I" "LessonWeave") U ∧ va_Nw (.fieldLinkNest RX2 108 "LessonWeave$Syllabus" "many" "[I" "LessonWeave") U ∧ va_Nw (.fieldLinkNest RX0 87 "LessonWeave$Syllabus" "many" "[I" "LessonWeave") U ∧ va_Nw (.fieldLinkNest RX2 111 "LessonWeave$Syllabus" "gap" "[I" "LessonWeave") U ∧ va_Nw (.fieldLinkNest RX0 93 "LessonWeave$Syllabus" "gap" "[I" "LessonWeave") U ∧ va_Nw (.fieldLinkNest RX2 74 "LessonWeave$Syllabus" "needs" "[I" "LessonWeave") U ∧ va_Nw (.fieldLinkNest RX2 116 "LessonWeave$Syllabus" "order" "[I" "LessonWeave") U ∧ va_Nw (.fieldLinkNest RX0 96 "LessonWeave$Syllabus" "order" "[I" "LessonWeave") U ∧ va_Nw (.fieldLinkNest RX2 130 "LessonWeave$Plan" "things" "[I" "LessonWeave") U ∧ va_Nw (.fieldLinkNest RX2 138 "LessonWeave$Plan" "lessonDays" "[I" "LessonWeave") U ∧ va_Nw (.fieldLinkNest RX2 143 "LessonWeave$Plan" "revisitDays" "[I" "LessonWeave") U ∧ va_Nw (.fieldLinkNest RX2 146 "LessonWeave$Plan" "laidCount" "I" "LessonWeave") U ∧ va_Nw (.fieldLinkNest RX2 149 "LessonWeave$Plan" "lateCount" "I" "LessonWeave") U ∧ va_Nw (.fieldLinkNest RX2 152 "LessonWeave$Plan" "lastUsed" "I" "LessonWeave") U ∧ va_Nw (.methodLinkNest RX1 47 yX2_has "LessonWeave") U
theorem xk_NE.warm {s U : State} (hW : s.WarmedH U.vm) (h : xk_NE s) : xk_NE U := ⟨va_Nw.warmF hW h.1, va_Nw.warmF hW h.2.1, va_Nw.warmF hW h.2.2.1, va_Nw.warmF hW h.2.2.2.1, va_Nw.warmF hW h.2.2.2.2.1, va_Nw.warmF hW h.2.2.2.2.2.1, va_Nw.warmF hW h.2.2.2.2.2.2.1, va_Nw.warmF hW h.2.2.2.2.2.2.2.1, va_Nw.warmF hW h.2.2.2.2.2.2.2.2.1, va_Nw.warmF hW h.2.2.2.2.2.2.2.2.2.1, va_Nw.warmF hW h.2.2.2.2.2.2.2.2.2.2.1, va_Nw.warmF hW h.2.2.2.2.2.2.2.2.2.2.2.1, va_Nw.warmF hW h.2.2.2.2.2.2.2.2.2.2.2.2.1, va_Nw.warmF hW h.2.2.2.2.2.2.2.2.2.2.2.2.2.1, va_Nw.warmF hW h.2.2.2.2.2.2.2.2.2.2.2.2.2.2.1, va_Nw.warmF hW h.2.2.2.2.2.2.2.2.2.2.2.2.2.2.2.1, va_Nw.warmF hW h.2.2.2.2.2.2.2.2.2.2.2.2.2.2.2.2.1, va_Nw.warmF hW h.2.2.2.2.2.2.2.2.2.2.2.2.2.2.2.2.2.1, va_Nw.warmM hW h.2.2.2.2.2.2.2.2.2.2.2.2.2.2.2.2.2.2⟩
theorem xk_NE.same {s U : State} (e : s.vm = U.vm) (h : xk_NE s) : xk_NE U := ⟨va_Nw.same rfl e (h.1), va_Nw.same rfl e (h.2.1), va_Nw.same rfl e (h.2.2.1), va_Nw.same rfl e (h.2.2.2.1), va_Nw.same rfl e (h.2.2.2.2.1), va_Nw.same rfl e (h.2.2.2.2.2.1), va_Nw.same rfl e (h.2.2.2.2.2.2.1), va_Nw.same rfl e (h.2.2.2.2.2.2.2.1), va_Nw.same rfl e (h.2.2.2.2.2.2.2.2.1), va_Nw.same rfl e (h.2.2.2.2.2.2.2.2.2.1), va_Nw.same rfl e (h.2.2.2.2.2.2.2.2.2.2.1), va_Nw.same rfl e (h.2.2.2.2.2.2.2.2.2.2.2.1), va_Nw.same rfl e (h.2.2.2.2.2.2.2.2.2.2.2.2.1), va_Nw.same rfl e (h.2.2.2.2.2.2.2.2.2.2.2.2.2.1), va_Nw.same rfl e (h.2.2.2.2.2.2.2.2.2.2.2.2.2.2.1), va_Nw.same rfl e (h.2.2.2.2.2.2.2.2.2.2.2.2.2.2.2.1), va_Nw.same rfl e (h.2.2.2.2.2.2.2.2.2.2.2.2.2.2.2.2.1), va_Nw.same rfl e (h.2.2.2.2.2.2.2.2.2.2.2.2.2.2.2.2.2.1), va_Nw.same rfl e (h.2.2.2.2.2.2.2.2.2.2.2.2.2.2.2.2.2.2)⟩
-- a contract: from any heap that holds wc; r comes back, the heap holds w1
def xk_CI (l : Launch) (y : MethodName) (ws : List Cond) (rm : Room) (mc ms : Nat) (As : List Value) (G : xG) (wc w1 : va_W) (r : Int32) : Prop :=
  ∀ sz : Nat, Met l y ws rm (va_Pc As (fun U => U.heap.size = sz ∧ va_P G.1 vwCl wc U.heap ∧ va_K G.1 vwCl (xT G) U ∧ va_D (fun _ => True) wc ∧ xk_NE U)) (va_Qi (fun (r' : Int32) (_ : Unit) => r' = r) (fun _ t => va_P G.1 vwCl w1 t.heap ∧ va_D (va_A wc sz) w1) (va_A wc sz)) mc ms (va_A wc sz)
def xk_CV (l : Launch) (y : MethodName) (ws : List Cond) (rm : Room) (mc ms : Nat) (As : List Value) (G : xG) (wc w1 : va_W) : Prop :=
  ∀ sz : Nat, Met l y ws rm (va_Pc As (fun U => U.heap.size = sz ∧ va_P G.1 vwCl wc U.heap ∧ va_K G.1 vwCl (xT G) U ∧ va_D (fun _ => True) wc ∧ xk_NE U)) (va_Qv (fun (_ : Unit) => True) (fun _ t => va_P G.1 vwCl w1 t.heap ∧ va_D (va_A wc sz) w1) (va_A wc sz)) mc ms (va_A wc sz)
theorem xk_CI.of {l : Launch} {y : MethodName} {ws ws' : List Cond} {rm : Room} {mc ms : Nat} {As : List Value} {G : xG} {wc w1 : va_W} {r : Int32} {cc : ByteArray} {maxL : Nat} {ret : Option FieldType} (hy : plainName y.cls = true) (hw : ws = Cond.code y cc maxL ret :: ws') (hlen : (lg_sl As).length ≤ maxL)
    (body : ∀ (p : Program) (e : Env) (s : State) (m : MethodId) (below : List Frame) (meth : Method) (c : Code) (A : Nat → Prop) (ls : Array Slot) (H : Heap) (locs : List Loc), p.tables.exec = Jvm.exec → c.code = cc → meth.sig.returnType = ret → c.maxLocals = maxL → (∀ w ∈ ws, w.before As.toArray s = true) → s.vm.findClass y.cls = some m.cls → meth.locks = false → (∀ q, s.heap.size ≤ q → A q) → va_P G.1 vwCl wc H → va_K G.1 vwCl (xT G) s → va_D A wc → xk_NE s → va_S A s.heap H locs → lv_has ls maxL (lv_args 0 As) →
      W p l e rm s m As.toArray below meth c H locs 0 0 (MQ below (va_Qi (fun (r' : Int32) (_ : Unit) => r' = r) (fun _ t => va_P G.1 vwCl w1 t.heap ∧ va_D A w1) A) As.toArray s mc ms A) (F0 m 0 ls [])) : xk_CI l y ws rm mc ms As G wc w1 r := by
  intro sz
  refine Met.ofW (cc := cc) (maxL := maxL) (ret := ret) hy hw ?_
  intro p e s m args below meth c s₁ B hml hv
  obtain ⟨rfl, rfl, hP, hK, hD0, hNE⟩ := hv
  rw [lg_entry_eq]
  exact body p e s m below meth c (va_A wc s.heap.size) _ _ _ B.exec B.bytes B.returns hml (atoms_spec (ws := ws) B.pre) (findClass_of_methodNamed B.named) B.notSynchronized (fun q h => Or.inr h) hP hK hD0.self hNE va_S.rf (lv_entry As hlen)
theorem xk_CV.of {l : Launch} {y : MethodName} {ws ws' : List Cond} {rm : Room} {mc ms : Nat} {As : List Value} {G : xG} {wc w1 : va_W} {cc : ByteArray} {maxL : Nat} {ret : Option FieldType} (hy : plainName y.cls = true) (hw : ws = Cond.code y cc maxL ret :: ws') (hlen : (lg_sl As).length ≤ maxL)
    (body : ∀ (p : Program) (e : Env) (s : State) (m : MethodId) (below : List Frame) (meth : Method) (c : Code) (A : Nat → Prop) (ls : Array Slot) (H : Heap) (locs : List Loc), p.tables.exec = Jvm.exec → c.code = cc → meth.sig.returnType = ret → c.maxLocals = maxL → (∀ w ∈ ws, w.before As.toArray s = true) → s.vm.findClass y.cls = some m.cls → meth.locks = false → (∀ q, s.heap.size ≤ q → A q) → va_P G.1 vwCl wc H → va_K G.1 vwCl (xT G) s → va_D A wc → xk_NE s → va_S A s.heap H locs → lv_has ls maxL (lv_args 0 As) →
      W p l e rm s m As.toArray below meth c H locs 0 0 (MQ below (va_Qv (fun (_ : Unit) => True) (fun _ t => va_P G.1 vwCl w1 t.heap ∧ va_D A w1) A) As.toArray s mc ms A) (F0 m 0 ls [])) : xk_CV l y ws rm mc ms As G wc w1 := by
  intro sz
  refine Met.ofW (cc := cc) (maxL := maxL) (ret := ret) hy hw ?_
  intro p e s m args below meth c s₁ B hml hv
  obtain ⟨rfl, rfl, hP, hK, hD0, hNE⟩ := hv
  rw [lg_entry_eq]
  exact body p e s m below meth c (va_A wc s.heap.size) _ _ _ B.exec B.bytes B.returns hml (atoms_spec (ws := ws) B.pre) (findClass_of_methodNamed B.named) B.notSynchronized (fun q h => Or.inr h) hP hK hD0.self hNE va_S.rf (lv_entry As hlen)
section XK
variable {p : Program} {l : Launch} {e : Env} {R : Room} {s : State} {m : MethodId} {args : Array Value} {below : List Frame} {meth : Method} {c : Code} {H H0 : Heap} {locs : List Loc} {cells slots mc ms : Nat} {Q : State → Prop} {cc : ByteArray} {pc : Nat} {ls : Array Slot} {A : Nat → Prop} {G : xG} {w1 wc w0 wr w2 : va_W} {r v : Int32} {rest st : List Value} {a : Array Value}
theorem xk_reI (hx : p.tables.exec = Jvm.exec) (hb : c.code = cc) (hr : meth.sig.returnType = some .int) (hlk : meth.locks = false) (hP : va_P G.1 vwCl w1 H) (hD : va_D A w1) (hS : va_S A s.heap H locs) (hv : v = r) (hdg : decode cc pc = .ok (.ireturn, 1)) :
    W p l e R s m args below meth c H locs cells slots (MQ below (va_Qi (fun (r' : Int32) (_ : Unit) => r' = r) (fun _ t => va_P G.1 vwCl w1 t.heap ∧ va_D A w1) A) args s cells slots A) (F0 m pc ls [.int v]) :=
  W.iret hx hb hr (fun t ht _ => ⟨⟨v, (), rfl, hv, by rw [ht]; exact hP, hD⟩, hS.F ht⟩) hS.2.2 hdg hlk
theorem xk_reZ (hx : p.tables.exec = Jvm.exec) (hb : c.code = cc) (hr : meth.sig.returnType = some .boolean) (hlk : meth.locks = false) (hn : narrow .boolean (.int v) = .int v) (hP : va_P G.1 vwCl w1 H) (hD : va_D A w1) (hS : va_S A s.heap H locs) (hv : v = r) (hdg : decode cc pc = .ok (.ireturn, 1)) :
    W p l e R s m args below meth c H locs cells slots (MQ below (va_Qi (fun (r' : Int32) (_ : Unit) => r' = r) (fun _ t => va_P G.1 vwCl w1 t.heap ∧ va_D A w1) A) args s cells slots A) (F0 m pc ls [.int v]) :=
  W.zret hx hb hr hn (fun t ht _ => ⟨⟨v, (), rfl, hv, by rw [ht]; exact hP, hD⟩, hS.F ht⟩) hS.2.2 hdg hlk
theorem xk_reV (hx : p.tables.exec = Jvm.exec) (hb : c.code = cc) (hr : meth.sig.returnType = none) (hlk : meth.locks = false) (hP : va_P G.1 vwCl w1 H) (hD : va_D A w1) (hS : va_S A s.heap H locs) (hdg : decode cc pc = .ok (.return_, 1)) :
    W p l e R s m args below meth c H locs cells slots (MQ below (va_Qv (fun (_ : Unit) => True) (fun _ t => va_P G.1 vwCl w1 t.heap ∧ va_D A w1) A) args s cells slots A) (F0 m pc ls []) :=
  W.vret hx hb hr (fun t ht _ => ⟨⟨(), rfl, trivial, by rw [ht]; exact hP, hD⟩, hS.F ht⟩) hS.2.2 hdg hlk
theorem xk_blind {As : List Value} {sz : Nat} : FrameBlind (va_Pc As (fun U => U.heap.size = sz ∧ va_P G.1 vwCl wc U.heap ∧ va_K G.1 vwCl (xT G) U ∧ va_D (fun _ => True) wc ∧ xk_NE U)) :=
  fun a U g mk q => by obtain ⟨q0, q1, qP, qK, qD, qN⟩ := q; exact ⟨q0, q1, qP, va_K.moved (u := U) (U := U.calling g mk a) (Vm.Alike.refl U.vm) qK, qD, xk_NE.same rfl qN⟩
theorem xk_preS {As : List Value} (hK : va_K G.1 vwCl (xT G) s) (hN : xk_NE s) (hP : va_P G.1 vwCl wc H) (hD : va_D A wc) : PreS s H (va_Pc As (fun U => U.heap.size = H.size ∧ va_P G.1 vwCl wc U.heap ∧ va_K G.1 vwCl (xT G) U ∧ va_D (fun _ => True) wc ∧ xk_NE U)) As :=
  ⟨xk_blind, fun U hU hW => ⟨rfl, by rw [hU], by rw [hU]; exact hP, va_K.moved hW.alike hK, hD.weaken (fun _ _ _ _ => trivial), xk_NE.warm hW hN⟩⟩
theorem xk_preV {b : Nat} {As : List Value} {ci : Nat} {q : vw_C} {fs : List Value} (hK : va_K G.1 vwCl (xT G) s) (hN : xk_NE s) (hP : va_P G.1 vwCl wc H) (hD : va_D A wc) (hc : vwCl[ci]? = some q) (he : wc[0]? = some (b, .inr (ci, fs))) : PreV s H q.1 b (va_Pc (.ref b :: As) (fun U => U.heap.size = H.size ∧ va_P G.1 vwCl wc U.heap ∧ va_K G.1 vwCl (xT G) U ∧ va_D (fun _ => True) wc ∧ xk_NE U)) As :=
  ⟨xk_blind, va_recv hK hP (ci := ci) (q0 := 0) hc he, (xk_preS (As := .ref b :: As) hK hN hP hD).2⟩
theorem xk_map_filter {α β : Type} {f : α → Option β} {l : List α} {w : List β} (h : l.map f = w.map some) : l.filterMap f = w := by
  induction l generalizing w with
  | nil => cases w with
    | nil => rfl
    | cons b w => cases h
  | cons a l ih => cases w with
    | nil => cases h
    | cons b w =>
      simp only [List.map_cons, List.cons.injEq] at h
      rw [List.filterMap_cons, h.1, ih h.2]
theorem xk_ci (hr : va_Run p l e R s m args below meth c H locs cells slots mc ms (F0 m pc ls st) rest (va_Qi (fun (r' : Int32) (_ : Unit) => r' = r) (fun _ t => va_P G.1 vwCl w1 t.heap ∧ va_D (va_A wc H.size) w1) (va_A wc H.size) a) (va_A wc H.size))
    (hP : va_P G.1 vwCl w0 H) (hD : va_D A w0) (hS : va_S A H0 H locs) (hA : ∀ q, H0.size ≤ q → A q) (isC isR isW : List Nat) (hC : isC.map (fun i => w0[i]?) = wc.map some) (hR : isR.map (fun i => w0[i]?) = (isR.filterMap (fun i => w0[i]?)).map some) (hnR : va_nd isR = true) (hdis : ∀ i ∈ isR, i ∉ isC) (hW2 : isW.map (fun i => (isR.filterMap (fun i => w0[i]?) ++ w1)[i]?) = (isW.filterMap (fun i => (isR.filterMap (fun i => w0[i]?) ++ w1)[i]?)).map some) (hnW : va_nd isW = true)
    (kk : ∀ (H1 : Heap) (locs1 : List Loc), va_P G.1 vwCl (isW.filterMap (fun i => (isR.filterMap (fun i => w0[i]?) ++ w1)[i]?)) H1 → va_D A (isW.filterMap (fun i => (isR.filterMap (fun i => w0[i]?) ++ w1)[i]?)) → va_S A H0 H1 locs1 → W p l e R s m args below meth c H1 locs1 (cells + mc) (slots + ms) Q (F0 m (pc + 3) ls (.int r :: rest))) : W p l e R s m args below meth c H locs cells slots Q (F0 m pc ls st) := by
  have hF := va_free (wc := wc) hD hS hA isC hC
  refine va_calli hr hS (fun q _ h => hF q h) hF (fun r' u t H1 locs1 ht hvm hw hB hz1 hk1 hS1 => ?_)
  obtain ⟨hP1, hD1⟩ := hB
  rw [ht] at hP1
  subst hw
  obtain ⟨hP2, hD2⟩ := va_join hP hD isC isR hC hR hnR hdis hk1 hF hP1 hD1
  exact kk H1 locs1 (hP2.sub isW (xk_map_filter hW2)) (hD2.sub isW hnW hW2) hS1
theorem xk_cv (hr : va_Run p l e R s m args below meth c H locs cells slots mc ms (F0 m pc ls st) rest (va_Qv (fun (_ : Unit) => True) (fun _ t => va_P G.1 vwCl w1 t.heap ∧ va_D (va_A wc H.size) w1) (va_A wc H.size) a) (va_A wc H.size))
    (hP : va_P G.1 vwCl w0 H) (hD : va_D A w0) (hS : va_S A H0 H locs) (hA : ∀ q, H0.size ≤ q → A q) (isC isR isW : List Nat) (hC : isC.map (fun i => w0[i]?) = wc.map some) (hR : isR.map (fun i => w0[i]?) = (isR.filterMap (fun i => w0[i]?)).map some) (hnR : va_nd isR = true) (hdis : ∀ i ∈ isR, i ∉ isC) (hW2 : isW.map (fun i => (isR.filterMap (fun i => w0[i]?) ++ w1)[i]?) = (isW.filterMap (fun i => (isR.filterMap (fun i => w0[i]?) ++ w1)[i]?)).map some) (hnW : va_nd isW = true)
    (kk : ∀ (H1 : Heap) (locs1 : List Loc), va_P G.1 vwCl (isW.filterMap (fun i => (isR.filterMap (fun i => w0[i]?) ++ w1)[i]?)) H1 → va_D A (isW.filterMap (fun i => (isR.filterMap (fun i => w0[i]?) ++ w1)[i]?)) → va_S A H0 H1 locs1 → W p l e R s m args below meth c H1 locs1 (cells + mc) (slots + ms) Q (F0 m (pc + 3) ls rest)) : W p l e R s m args below meth c H locs cells slots Q (F0 m pc ls st) := by
  have hF := va_free (wc := wc) hD hS hA isC hC
  refine va_callv hr hS (fun q _ h => hF q h) hF (fun u t H1 locs1 ht hvm hw hB hz1 hk1 hS1 => ?_)
  obtain ⟨hP1, hD1⟩ := hB
  rw [ht] at hP1
  obtain ⟨hP2, hD2⟩ := va_join hP hD isC isR hC hR hnR hdis hk1 hF hP1 hD1
  exact kk H1 locs1 (hP2.sub isW (xk_map_filter hW2)) (hD2.sub isW hnW hW2) hS1
/-- a place where ways meet -/
theorem xk_jn {g0 : JFrame} {Hc : Heap} {lc : List Loc} (G : xG) (A : Nat → Prop) (H0 : Heap) (wj : va_W) (nL : Nat) (lv : List (Nat × Value)) (pc : Nat) (st : List Value)
    (k : ∀ (H : Heap) (locs : List Loc), va_P G.1 vwCl wj H → va_D A wj → va_S A H0 H locs → ∀ ls, lv_has ls nL lv → W p l e R s m args below meth c H locs cells slots Q (F0 m pc ls st))
    (g : (∀ (H : Heap) (locs : List Loc), va_P G.1 vwCl wj H → va_D A wj → va_S A H0 H locs → ∀ ls, lv_has ls nL lv → W p l e R s m args below meth c H locs cells slots Q (F0 m pc ls st)) → W p l e R s m args below meth c Hc lc cells slots Q g0) : W p l e R s m args below meth c Hc lc cells slots Q g0 := g k
/-- a loop: n is what is left of its measure -/
theorem xk_lp {α : Type} {g0 : JFrame} {Hc : Heap} {lc : List Loc} (G : xG) (A : Nat → Prop) (H0 : Heap) (wl : α → va_W) (nL : Nat) (lv : α → List (Nat × Value)) (pc : Nat) (hyp : Nat → α → Prop)
    (z : ∀ a, hyp 0 a → False)
    (k : ∀ (n : Nat), (∀ (a : α), hyp n a → ∀ (H : Heap) (locs : List Loc), va_P G.1 vwCl (wl a) H → va_D A (wl a) → va_S A H0 H locs → ∀ ls, lv_has ls nL (lv a) → W p l e R s m args below meth c H locs cells slots Q (F0 m pc ls [])) →
      ∀ (a : α), hyp (n + 1) a → ∀ (H : Heap) (locs : List Loc), va_P G.1 vwCl (wl a) H → va_D A (wl a) → va_S A H0 H locs → ∀ ls, lv_has ls nL (lv a) → W p l e R s m args below meth c H locs cells slots Q (F0 m pc ls []))
    (g : (∀ (n : Nat) (a : α), hyp n a → ∀ (H : Heap) (locs : List Loc), va_P G.1 vwCl (wl a) H → va_D A (wl a) → va_S A H0 H locs → ∀ ls, lv_has ls nL (lv a) → W p l e R s m args below meth c H locs cells slots Q (F0 m pc ls [])) → W p l e R s m args below meth c Hc lc cells slots Q g0) : W p l e R s m args below meth c Hc lc cells slots Q g0 := by
  refine g (fun n => ?_)
  induction n with
  | zero => exact fun a h => absurd h (z a)
  | succ n ih => exact k n ih
end XK
