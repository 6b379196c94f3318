def xk_exn : Nat → String := fun k => match k with
  | 1 => "java/lang/IllegalArgumentException"
  | 2 => "java/lang/IllegalStateException"
  | 3 => "java/lang/IndexOutOfBoundsException"
  | _ => "java/util/NoSuchElementException"
abbrev xk_NM : List String := ["java/lang/RuntimeException", "java/lang/Exception"]
def xk_XB (U : State) : Prop := va_Nw (.declares (Bundle.initS "java/lang/RuntimeException")) U ∧ va_Nw (.declares (Bundle.initS "java/lang/Exception")) U ∧ va_Nw (.declares (Bundle.initS Bundle.tN)) U ∧ va_Nw (.castable "java/lang/IllegalArgumentException" "java/lang/IllegalArgumentException") U ∧ va_Nw (.castable "java/lang/IllegalStateException" "java/lang/IllegalStateException") U ∧ va_Nw (.castable "java/lang/IndexOutOfBoundsException" "java/lang/IndexOutOfBoundsException") U ∧ va_Nw (.castable "java/util/NoSuchElementException" "java/util/NoSuchElementException") U
theorem xk_XB.warm {s U : State} (hW : s.WarmedH U.vm) (h : xk_XB s) : xk_XB U := ⟨va_Nw.warmD hW h.1, va_Nw.warmD hW h.2.1, va_Nw.warmD hW h.2.2.1, va_Nw.warmC hW h.2.2.2.1, va_Nw.warmC hW h.2.2.2.2.1, va_Nw.warmC hW h.2.2.2.2.2.1, va_Nw.warmC hW h.2.2.2.2.2.2⟩
theorem xk_XB.same {s U : State} (e : s.vm = U.vm) (h : xk_XB s) : xk_XB U := ⟨va_Nw.same rfl e (h.1), va_Nw.same rfl e (h.2.1), va_Nw.same rfl e (h.2.2.1), va_Nw.same rfl e (h.2.2.2.1), va_Nw.same rfl e (h.2.2.2.2.1), va_Nw.same rfl e (h.2.2.2.2.2.1), va_Nw.same rfl e (h.2.2.2.2.2.2)⟩
def xk_S1 (k : Nat) (t : String) (U : State) : Prop := ∃ a : Nat, vk_R RX2 k t a U
theorem xk_S1.warm {k : Nat} {t : String} {s U : State} (hW : s.WarmedH U.vm) (h : xk_S1 k t s) : xk_S1 k t U := by
  obtain ⟨a, h⟩ := h
  exact ⟨a, vk_R.warm hW h⟩
theorem xk_S1.same {k : Nat} {t : String} {s U : State} (e : s.vm = U.vm) (h : xk_S1 k t s) : xk_S1 k t U := by
  obtain ⟨a, h⟩ := h
  exact ⟨a, vk_R.same e.symm h⟩
def xk_SR (U : State) : Prop := xk_S1 36 "an aim has 1 to 5 lessons" U ∧ xk_S1 41 "a kind is 0 to 3" U ∧ xk_S1 43 "a worth is 1 to 99" U ∧ xk_S1 45 "a kit is 0 to 2, or NONE" U ∧ xk_S1 53 "there are 12 aims already" U ∧ xk_S1 69 "there is no such aim" U ∧ xk_S1 72 "no aim needs itself" U ∧ xk_S1 82 "it needs the other one already" U ∧ xk_S1 88 "the other one needs it" U ∧ xk_S1 101 "it does not need the other one by itself" U ∧ xk_S1 104 "an aim has 0 to 3 revisits" U ∧ xk_S1 106 "a gap is 1 to 20" U ∧ xk_S1 114 "there are not so many aims" U ∧ xk_S1 122 "there is no such day" U ∧ xk_S1 124 "the day is lost already" U ∧ xk_S1 136 "the aim has no such lesson" U ∧ xk_S1 141 "the aim has no such revisit" U ∧ xk_S1 155 "a price is 0 to 99" U
theorem xk_SR.warm {s U : State} (hW : s.WarmedH U.vm) (h : xk_SR s) : xk_SR U := ⟨xk_S1.warm hW h.1, xk_S1.warm hW h.2.1, xk_S1.warm hW h.2.2.1, xk_S1.warm hW h.2.2.2.1, xk_S1.warm hW h.2.2.2.2.1, xk_S1.warm hW h.2.2.2.2.2.1, xk_S1.warm hW h.2.2.2.2.2.2.1, xk_S1.warm hW h.2.2.2.2.2.2.2.1, xk_S1.warm hW h.2.2.2.2.2.2.2.2.1, xk_S1.warm hW h.2.2.2.2.2.2.2.2.2.1, xk_S1.warm hW h.2.2.2.2.2.2.2.2.2.2.1, xk_S1.warm hW h.2.2.2.2.2.2.2.2.2.2.2.1, xk_S1.warm hW h.2.2.2.2.2.2.2.2.2.2.2.2.1, xk_S1.warm hW h.2.2.2.2.2.2.2.2.2.2.2.2.2.1, xk_S1.warm hW h.2.2.2.2.2.2.2.2.2.2.2.2.2.2.1, xk_S1.warm hW h.2.2.2.2.2.2.2.2.2.2.2.2.2.2.2.1, xk_S1.warm hW h.2.2.2.2.2.2.2.2.2.2.2.2.2.2.2.2.1, xk_S1.warm hW h.2.2.2.2.2.2.2.2.2.2.2.2.2.2.2.2.2⟩
theorem xk_SR.same {s U : State} (e : s.vm = U.vm) (h : xk_SR s) : xk_SR U := ⟨xk_S1.same e (h.1), xk_S1.same e (h.2.1), xk_S1.same e (h.2.2.1), xk_S1.same e (h.2.2.2.1), xk_S1.same e (h.2.2.2.2.1), xk_S1.same e (h.2.2.2.2.2.1), xk_S1.same e (h.2.2.2.2.2.2.1), xk_S1.same e (h.2.2.2.2.2.2.2.1), xk_S1.same e (h.2.2.2.2.2.2.2.2.1), xk_S1.same e (h.2.2.2.2.2.2.2.2.2.1), xk_S1.same e (h.2.2.2.2.2.2.2.2.2.2.1), xk_S1.same e (h.2.2.2.2.2.2.2.2.2.2.2.1), xk_S1.same e (h.2.2.2.2.2.2.2.2.2.2.2.2.1), xk_S1.same e (h.2.2.2.2.2.2.2.2.2.2.2.2.2.1), xk_S1.same e (h.2.2.2.2.2.2.2.2.2.2.2.2.2.2.1), xk_S1.same e (h.2.2.2.2.2.2.2.2.2.2.2.2.2.2.2.1), xk_S1.same e (h.2.2.2.2.2.2.2.2.2.2.2.2.2.2.2.2.1), xk_S1.same e (h.2.2.2.2.2.2.2.2.2.2.2.2.2.2.2.2.2)⟩
def xk_ZX (A : Nat → Prop) (U : State) (H : Heap) : Prop := vx_Zq Bundle.tN "UNASSIGNED_STACK" Bundle.steD A U H ∧ vx_Zq Bundle.tN "SUPPRESSED_SENTINEL" Bundle.listD A U H
theorem xk_ZX.moved {A : Nat → Prop} {u U : State} {H : Heap} (hvm : u.vm.Alike U.vm) (h : xk_ZX A u H) : xk_ZX A U H := ⟨vx_Zq.moved hvm h.1, vx_Zq.moved hvm h.2⟩
theorem xk_ZX.kept {A : Nat → Prop} {U : State} {H H1 : Heap} (h : xk_ZX A U H) (hq : ∀ a : Nat, a < H.size → ¬ A a → H1[a]? = H[a]?) : xk_ZX A U H1 := ⟨vx_Zq.kept h.1 hq, vx_Zq.kept h.2 hq⟩
theorem xk_ZX.narrow {A B : Nat → Prop} {U : State} {H : Heap} (h : xk_ZX A U H) (hAB : ∀ q, B q → A q) : xk_ZX B U H := ⟨vx_Zq.narrow h.1 hAB, vx_Zq.narrow h.2 hAB⟩
-- what is asked of the start: the world, and what a throw needs
abbrev xk_PX (As : List Value) (G : xG) (wc : va_W) (sz : Nat) : Array Value → State → Prop := va_Pc As (fun U => U.heap.size = sz ∧ va_P G.1 vwCl wc U.heap ∧ va_K G.1 vwCl (xT G) U ∧ va_D (fun _ => True) wc ∧ xk_NE U ∧ xk_XB U ∧ xk_SR U ∧ xk_ZX (va_A wc sz) U U.heap)
abbrev xk_QX (G : xG) (wc w1 : va_W) (k : Nat) (r : Int32) (A : Nat → Prop) : Array Value → State → Outcome → State → Prop := va_Qi (fun (r' : Int32) (_ : Unit) => k = 0 ∧ r' = r) (fun _ t => va_P G.1 vwCl w1 t.heap ∧ va_D A w1) A
abbrev xk_EX (G : xG) (wc : va_W) (k : Nat) (A : Nat → Prop) : String → State → State → Prop := vx_X (fun (_ : Unit) => ¬ k = 0) (fun E _ t => E = xk_exn k ∧ va_P G.1 vwCl wc t.heap ∧ va_D A wc) A
def xk_CX (l : Launch) (y : MethodName) (ws : List Cond) (rm : Room) (As : List Value) (G : xG) (wc w1 : va_W) (k : Nat) (r : Int32) : Prop :=
  ∀ sz : Nat, vx_Met l y ws rm (xk_PX As G wc sz) (xk_QX G wc w1 k r (va_A wc sz)) (xk_EX G wc k (va_A wc sz)) 1 6 (va_A wc sz)
def xk_CL (l : Launch) (y : MethodName) (ws : List Cond) (rm : Room) (As : List Value) (G : xG) (wc w1 : va_W) (r : Int32) : Prop :=
  ∀ sz : Nat, Met l y ws rm (xk_PX As G wc sz) (va_Qi (fun (r' : Int32) (_ : Unit) => r' = r) (fun _ t => va_P G.1 vwCl w1 t.heap ∧ va_D (va_A wc sz) w1) (va_A wc sz)) 1 6 (va_A wc sz)
theorem xk_CX.of {l : Launch} {y : MethodName} {ws ws' : List Cond} {rm : Room} {As : List Value} {G : xG} {wc w1 : va_W} {k : Nat} {r : Int32} {cc : ByteArray} {maxL : Nat} {ret : Option FieldType} (hy : plainName y.cls = true) (hw : ws = Cond.code y cc maxL ret :: ws') (hlen : (lg_sl As).length ≤ maxL)
    (body : ∀ (p : Program) (e : Env) (s : State) (m : MethodId) (below : List Frame) (meth : Method) (c : Code) (A : Nat → Prop) (ls : Array Slot) (H : Heap) (locs : List Loc), p.tables.exec = Jvm.exec → c.code = cc → meth.sig.returnType = ret → c.maxLocals = maxL → (∀ w ∈ ws, w.before As.toArray s = true) → s.vm.findClass y.cls = some m.cls → meth.locks = false → (∀ q, s.heap.size ≤ q → A q) → va_P G.1 vwCl wc H → va_K G.1 vwCl (xT G) s → va_D A wc → xk_NE s → va_S A s.heap H locs → lv_has ls maxL (lv_args 0 As) → xk_XB s → xk_SR s → xk_ZX A s s.heap → (∀ x ∈ c.exceptionTable.toList, False) →
      W p l e rm s m As.toArray below meth c H locs 0 0 (vx_MQ below (xk_QX G wc w1 k r A) (xk_EX G wc k A) As.toArray s 1 6 A) (F0 m 0 ls [])) : xk_CX l y ws rm As G wc w1 k r := by
  intro sz
  refine vx_ofW (cc := cc) (maxL := maxL) (ret := ret) hy hw ?_
  intro p e s m args below meth c s₁ B hml hxt hv
  obtain ⟨rfl, rfl, hP, hK, hD0, hNE, hXB, hSR, hZX⟩ := hv
  rw [lg_entry_eq]
  exact body p e s m below meth c (va_A wc s.heap.size) _ _ _ B.exec B.bytes B.returns hml (atoms_spec (ws := ws) B.pre) (findClass_of_methodNamed B.named) B.notSynchronized (fun q h => Or.inr h) hP hK hD0.self hNE va_S.rf (lv_entry As hlen) hXB hSR hZX hxt
theorem xk_CL.of {l : Launch} {y : MethodName} {ws ws' : List Cond} {rm : Room} {As : List Value} {G : xG} {wc w1 : va_W} {r : Int32} {cc : ByteArray} {maxL : Nat} {ret : Option FieldType} {hh : List (Nat × Nat × Nat × Nat)} (hy : plainName y.cls = true) (hw : ws = Cond.codeWith y cc maxL ret hh :: ws') (hlen : (lg_sl As).length ≤ maxL)
    (body : ∀ (p : Program) (e : Env) (s : State) (m : MethodId) (below : List Frame) (meth : Method) (c : Code) (A : Nat → Prop) (ls : Array Slot) (H : Heap) (locs : List Loc), p.tables.exec = Jvm.exec → c.code = cc → meth.sig.returnType = ret → c.maxLocals = maxL → (∀ w ∈ ws, w.before As.toArray s = true) → s.vm.findClass y.cls = some m.cls → meth.locks = false → (∀ q, s.heap.size ≤ q → A q) → va_P G.1 vwCl wc H → va_K G.1 vwCl (xT G) s → va_D A wc → xk_NE s → va_S A s.heap H locs → lv_has ls maxL (lv_args 0 As) → xk_XB s → xk_SR s → xk_ZX A s s.heap → c.exceptionTable.toList = tableOf hh →
      W p l e rm s m As.toArray below meth c H locs 0 0 (MQ below (va_Qi (fun (r' : Int32) (_ : Unit) => r' = r) (fun _ t => va_P G.1 vwCl w1 t.heap ∧ va_D A w1) A) As.toArray s 1 6 A) (F0 m 0 ls [])) : xk_CL l y ws rm As G wc w1 r := by
  intro sz
  refine va_MetW (cc := cc) (maxL := maxL) (ret := ret) (hh := hh) hy hw ?_
  intro p e s m args below meth c s₁ B hml hv
  obtain ⟨rfl, rfl, hP, hK, hD0, hNE, hXB, hSR, hZX⟩ := hv
  rw [lg_entry_eq]
  have ht : c.exceptionTable.toList = tableOf hh := vx_table (x := y) B (atoms_spec (ws := ws) B.pre _ (by rw [hw]; exact List.mem_cons_self))
  exact body p e s m below meth c (va_A wc s.heap.size) _ _ _ B.exec B.bytes B.returns hml (atoms_spec (ws := ws) B.pre) (findClass_of_methodNamed B.named) B.notSynchronized (fun q h => Or.inr h) hP hK hD0.self hNE va_S.rf (lv_entry As hlen) hXB hSR hZX ht
theorem xk_blindX {As : List Value} {G : xG} {wc : va_W} {sz : Nat} : FrameBlind (xk_PX As G wc sz) :=
  fun a U g mk q => by obtain ⟨q0, q1, qP, qK, qD, qN, qB, qS, qZ⟩ := q; exact ⟨q0, q1, qP, va_K.moved (u := U) (U := U.calling g mk a) (Vm.Alike.refl U.vm) qK, qD, xk_NE.same rfl qN, xk_XB.same rfl qB, xk_SR.same rfl qS, xk_ZX.moved (u := U) (U := U.calling g mk a) (Vm.Alike.refl U.vm) qZ⟩
theorem xk_pq (pa qa : Nat → Nat) (c : Prop) : ∃ p1 q1 : Nat → Nat, (c → p1 = qa ∧ q1 = pa) ∧ (¬ c → p1 = pa ∧ q1 = qa) := by
  by_cases h : c
  · exact ⟨qa, pa, fun _ => ⟨rfl, rfl⟩, fun k => absurd h k⟩
  · exact ⟨pa, qa, fun k => absurd k h, fun _ => ⟨rfl, rfl⟩⟩
section XX
variable {p : Program} {l : Launch} {e : Env} {R : Room} {s : State} {m : MethodId} {args : Array Value} {below : List Frame} {meth : Method} {c : Code} {H H0 : Heap} {locs : List Loc} {cells slots mc ms : Nat} {Q : State → Prop} {cc : ByteArray} {pc : Nat} {ls : Array Slot} {A : Nat → Prop} {G : xG} {w1 wc w0 : va_W} {r v : Int32} {rest st : List Value} {a : Array Value} {k : Nat}
theorem xk_preSX {As : List Value} (hK : va_K G.1 vwCl (xT G) s) (hN : xk_NE s) (hXB : xk_XB s) (hSR : xk_SR s) (hZX : xk_ZX A s s.heap) (hS : va_S A s.heap H locs) (hF : ∀ q, va_A wc H.size q → A q) (hP : va_P G.1 vwCl wc H) (hD : va_D A wc) : PreS s H (xk_PX As G wc H.size) As :=
  ⟨xk_blindX, fun U hU hW => ⟨rfl, by rw [hU], by rw [hU]; exact hP, va_K.moved hW.alike hK, hD.weaken (fun _ _ _ _ => trivial), xk_NE.warm hW hN, xk_XB.warm hW hXB, xk_SR.warm hW hSR, by rw [hU]; exact xk_ZX.moved hW.alike ((hZX.kept hS.2.1).narrow hF)⟩⟩
theorem xk_preVX {b : Nat} {As : List Value} {ci : Nat} {q : vw_C} {fs : List Value} (hK : va_K G.1 vwCl (xT G) s) (hN : xk_NE s) (hXB : xk_XB s) (hSR : xk_SR s) (hZX : xk_ZX A s s.heap) (hS : va_S A s.heap H locs) (hF : ∀ q, va_A wc H.size q → A q) (hP : va_P G.1 vwCl wc H) (hD : va_D A wc) (hc : vwCl[ci]? = some q) (he : wc[0]? = some (b, .inr (ci, fs))) : PreV s H q.1 b (xk_PX (.ref b :: As) G wc H.size) As :=
  ⟨xk_blindX, va_recv hK hP (ci := ci) (q0 := 0) hc he, (xk_preSX (As := .ref b :: As) hK hN hXB hSR hZX hS hF hP hD).2⟩
theorem xk_reX (hx : p.tables.exec = Jvm.exec) (hb : c.code = cc) (hr : meth.sig.returnType = some .int) (hlk : meth.locks = false) (hP : va_P G.1 vwCl w1 H) (hD : va_D A w1) (hS : va_S A s.heap H locs) (hk : k = 0) (hv : v = r) (hdg : decode cc pc = .ok (.ireturn, 1)) (h1 : cells ≤ 1) (h2 : slots ≤ 6) :
    W p l e R s m args below meth c H locs cells slots (vx_MQ below (xk_QX G wc w1 k r A) (xk_EX G wc k A) args s 1 6 A) (F0 m pc ls [.int v]) :=
  vx_ret (W.widen h1 h2 (W.iret hx hb hr (fun t ht _ => ⟨⟨v, (), rfl, ⟨hk, hv⟩, by rw [ht]; exact hP, hD⟩, hS.F ht⟩) hS.2.2 hdg hlk))
theorem xk_reL (hx : p.tables.exec = Jvm.exec) (hb : c.code = cc) (hr : meth.sig.returnType = some .int) (hlk : meth.locks = false) (hP : va_P G.1 vwCl w1 H) (hD : va_D A w1) (hS : va_S A s.heap H locs) (hv : v = r) (hdg : decode cc pc = .ok (.ireturn, 1)) (h1 : cells ≤ 1) (h2 : slots ≤ 6) :
    W p l e R s m args below meth c H locs cells slots (MQ below (va_Qi (fun (r' : Int32) (_ : Unit) => r' = r) (fun _ t => va_P G.1 vwCl w1 t.heap ∧ va_D A w1) A) args s 1 6 A) (F0 m pc ls [.int v]) :=
  W.widen h1 h2 (W.iret hx hb hr (fun t ht _ => ⟨⟨v, (), rfl, hv, by rw [ht]; exact hP, hD⟩, hS.F ht⟩) hS.2.2 hdg hlk)
theorem xk_throw {cls text : String} {ik is ic : Nat} (hx : p.tables.exec = Jvm.exec) (hb : c.code = cc) (hl : l.stackTraces = false) (hown : s.vm.findClass RX2 = some m.cls) (hcls : Bundle.fit cls = true) (hk : (Cond.classLink RX2 ik cls).before args s = true) (hini : (Cond.initialized cls).before args s = true) (hstr : xk_S1 is text s)
    (hw1 : ∀ w ∈ (vx_atS RX2 ic cls xk_NM).filter goodWord, w.before args s = true) (hXB : xk_XB s) (hca : va_Nw (.castable cls cls) s) (hng : ∀ w ∈ (vx_atS RX2 ic cls xk_NM).filter (fun w => !goodWord w), w ∈ [Cond.castable cls cls, .declares (Bundle.initS "java/lang/RuntimeException"), .declares (Bundle.initS "java/lang/Exception"), .declares (Bundle.initS Bundle.tN)])
    (hgood : ∀ w ∈ Cond.classLink RX2 ik cls :: Cond.initialized cls :: vx_atS RX2 ic cls xk_NM, vx_ot w = true) (hZX : xk_ZX A s s.heap) (hP : va_P G.1 vwCl wc H) (hD : va_D A wc) (hS : va_S A s.heap H locs) (hsize : ls.size = c.maxLocals)
    (d0 : decode cc pc = .ok (.new ik, 3)) (d3 : decode cc (pc + 3) = .ok (.dup, 1)) (d4 : decode cc (pc + 4) = .ok (.ldc is, 2)) (d6 : decode cc (pc + 6) = .ok (.invokespecial ic, 3)) (d9 : decode cc (pc + 9) = .ok (.athrow, 1))
    (hxt : ∀ x ∈ c.exceptionTable.toList, False) (hRf : 5 < R.frames) (hRl : (rest.map fun v => v.category).sum + 82 ≤ R.locals) (hRc : cells + 1 ≤ R.cells) (hRs : slots + 6 ≤ R.slots) (hlk : meth.locks = false) (hk0 : ¬ k = 0) (he : cls = xk_exn k) (hc : cells + 1 ≤ 1) (hs : slots + 6 ≤ 6) :
    W p l e R s m args below meth c H locs cells slots (vx_MQ below (xk_QX G wc w1 k r A) (xk_EX G wc k A) args s 1 6 A) (F0 m pc ls rest) := by
  obtain ⟨sa, hstr⟩ := hstr
  have hn : ∀ n ∈ xk_NM, Bundle.fit n = true := by decide +kernel
  refine vx_throwS (names := xk_NM) hx hb hl hown hcls hn hk hini hstr (vx_hat hw1 hng (vx_c (va_Nw.use rfl hca) (vx_c (va_Nw.use rfl hXB.1) (vx_c (va_Nw.use rfl hXB.2.1) (vx_c (va_Nw.use rfl hXB.2.2.1) vx_n))))) hgood hZX.1 hZX.2 hS hsize d0 d3 d4 d6 d9 (fun x hx => (hxt x hx).elim) hRf hRl hRc hRs hlk (fun t hvm hz hk9 => ?_) hS.2.2 hc hs
  exact ⟨(), hk0, ⟨he, hP.kept (fun i q hi => hk9 q.1 (hP i q hi).lt), hD⟩, Nat.le_trans hS.1 hz, fun q h1 h2 => (hk9 q (Nat.lt_of_lt_of_le h1 hS.1)).trans (hS.2.1 q h1 h2)⟩
/-- a call that returns or throws, caught or not -/
theorem xk_cx (hr : vx_Run p l e R s m args below meth c H locs cells slots mc ms (F0 m pc ls st) rest (xk_QX G wc w1 k r (va_A wc H.size) a) (xk_EX G wc k (va_A wc H.size)) (va_A wc H.size))
    (hP : va_P G.1 vwCl w0 H) (hD : va_D A w0) (hS : va_S A H0 H locs) (hA : ∀ q, H0.size ≤ q → A q) (isC isR isW isX : List Nat) (hC : isC.map (fun i => w0[i]?) = wc.map some) (hR : isR.map (fun i => w0[i]?) = (isR.filterMap (fun i => w0[i]?)).map some) (hnR : va_nd isR = true) (hdis : ∀ i ∈ isR, i ∉ isC) (hW2 : isW.map (fun i => (isR.filterMap (fun i => w0[i]?) ++ w1)[i]?) = (isW.filterMap (fun i => (isR.filterMap (fun i => w0[i]?) ++ w1)[i]?)).map some) (hnW : va_nd isW = true) (hX2 : isX.map (fun i => (isR.filterMap (fun i => w0[i]?) ++ wc)[i]?) = w0.map some) (hnX : va_nd isX = true)
    (kx : ∀ (ce : Cell) (q9 : Addr) (H1 : Heap) (locs1 : List Loc), ¬ k = 0 → va_P G.1 vwCl w0 H1 → va_D A w0 → va_S A H0 H1 locs1 → H1[q9]? = some ce → ce.vm = .none → s.vm.findClass (xk_exn k) = some ce.cls → vx_W p l e R s m args below meth c H1 locs1 (cells + mc) (slots + ms) Q (F0 m pc ls rest) q9)
    (kk : ∀ (H1 : Heap) (locs1 : List Loc), k = 0 → va_P G.1 vwCl (isW.filterMap (fun i => (isR.filterMap (fun i => w0[i]?) ++ w1)[i]?)) H1 → va_D A (isW.filterMap (fun i => (isR.filterMap (fun i => w0[i]?) ++ w1)[i]?)) → va_S A H0 H1 locs1 → W p l e R s m args below meth c H1 locs1 (cells + mc) (slots + ms) Q (F0 m (pc + 3) ls (.int r :: rest))) : W p l e R s m args below meth c H locs cells slots Q (F0 m pc ls st) := by
  have hF := va_free (wc := wc) hD hS hA isC hC
  refine vx_calli hr hS (fun q _ h => hF q h) hF (fun q _ h => hF q h) (fun E ce q9 u t H1 locs1 ht hvm hpx hBX hz1 hk1 hS1 hce hcv hcl => ?_) (fun r' u t H1 locs1 ht hvm hw hB hz1 hk1 hS1 => ?_)
  · obtain ⟨hE, hP1, hD1⟩ := hBX
    rw [ht] at hP1
    subst hE
    obtain ⟨hP2, hD2⟩ := va_join hP hD isC isR hC hR hnR hdis hk1 hF hP1 hD1
    exact kx ce q9 H1 locs1 hpx (hP2.sub isX (xk_map_filter hX2)) (hD2.sub isX hnX hX2) hS1 hce hcv hcl
  · obtain ⟨hP1, hD1⟩ := hB
    rw [ht] at hP1
    obtain ⟨hk0, hw⟩ := hw
    subst hw
    obtain ⟨hP2, hD2⟩ := va_join hP hD isC isR hC hR hnR hdis hk1 hF hP1 hD1
    exact kk H1 locs1 hk0 (hP2.sub isW (xk_map_filter hW2)) (hD2.sub isW hnW hW2) hS1
end XX
set_option maxRecDepth 20000 in
theorem xk_ng_IAE : ∀ w ∈ (vx_atS RX2 38 "java/lang/IllegalArgumentException" xk_NM).filter (fun w => !goodWord w), w ∈ [Cond.castable "java/lang/IllegalArgumentException" "java/lang/IllegalArgumentException", .declares (Bundle.initS "java/lang/RuntimeException"), .declares (Bundle.initS "java/lang/Exception"), .declares (Bundle.initS Bundle.tN)] := by decide +kernel
set_option maxRecDepth 20000 in
theorem xk_gd_IAE : ∀ w ∈ Cond.classLink RX2 34 "java/lang/IllegalArgumentException" :: Cond.initialized "java/lang/IllegalArgumentException" :: vx_atS RX2 38 "java/lang/IllegalArgumentException" xk_NM, vx_ot w = true := by decide +kernel
theorem xk_ft_IAE : Bundle.fit "java/lang/IllegalArgumentException" = true := by decide +kernel
set_option maxRecDepth 20000 in
theorem xk_ng_ISE : ∀ w ∈ (vx_atS RX2 55 "java/lang/IllegalStateException" xk_NM).filter (fun w => !goodWord w), w ∈ [Cond.castable "java/lang/IllegalStateException" "java/lang/IllegalStateException", .declares (Bundle.initS "java/lang/RuntimeException"), .declares (Bundle.initS "java/lang/Exception"), .declares (Bundle.initS Bundle.tN)] := by decide +kernel
set_option maxRecDepth 20000 in
theorem xk_gd_ISE : ∀ w ∈ Cond.classLink RX2 51 "java/lang/IllegalStateException" :: Cond.initialized "java/lang/IllegalStateException" :: vx_atS RX2 55 "java/lang/IllegalStateException" xk_NM, vx_ot w = true := by decide +kernel
theorem xk_ft_ISE : Bundle.fit "java/lang/IllegalStateException" = true := by decide +kernel
set_option maxRecDepth 20000 in
theorem xk_ng_IOB : ∀ w ∈ (vx_atS RX2 71 "java/lang/IndexOutOfBoundsException" xk_NM).filter (fun w => !goodWord w), w ∈ [Cond.castable "java/lang/IndexOutOfBoundsException" "java/lang/IndexOutOfBoundsException", .declares (Bundle.initS "java/lang/RuntimeException"), .declares (Bundle.initS "java/lang/Exception"), .declares (Bundle.initS Bundle.tN)] := by decide +kernel
set_option maxRecDepth 20000 in
theorem xk_gd_IOB : ∀ w ∈ Cond.classLink RX2 67 "java/lang/IndexOutOfBoundsException" :: Cond.initialized "java/lang/IndexOutOfBoundsException" :: vx_atS RX2 71 "java/lang/IndexOutOfBoundsException" xk_NM, vx_ot w = true := by decide +kernel
theorem xk_ft_IOB : Bundle.fit "java/lang/IndexOutOfBoundsException" = true := by decide +kernel
