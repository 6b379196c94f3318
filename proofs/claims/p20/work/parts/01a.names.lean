def lw_okq (q : MethodName × Nat) : Prop := (q.1.cls ≠ "java/lang/invoke/MethodHandle" ∧ q.1.cls ≠ "java/lang/invoke/VarHandle") ∧ Cond.instantiable q.1.cls q.2 ∈ tables_1 ∧ Cond.privateMethod q.1 ∈ tables_1 ∧ Cond.instanceMethod q.1 ∈ tables_1
theorem lw_p0 : lw_okq (⟨"LessonWeave$Plan", "clear", "()V"⟩, 9) := ⟨⟨by decide +kernel, by decide +kernel⟩, List.mem_of_getElem? (i := 72) (by decide +kernel), List.mem_of_getElem? (i := 78) (by decide +kernel), List.mem_of_getElem? (i := 79) (by decide +kernel)⟩
theorem lw_p1 : lw_okq (⟨"java/lang/Throwable", "fillInStackTrace", "(I)Ljava/lang/Throwable;"⟩, 6) := ⟨⟨by decide +kernel, by decide +kernel⟩, List.mem_of_getElem? (i := 189) (by decide +kernel), List.mem_of_getElem? (i := 187) (by decide +kernel), List.mem_of_getElem? (i := 188) (by decide +kernel)⟩
theorem lw_p2 : lw_okq (⟨"LessonWeave$Syllabus", "putInOrder", "()V"⟩, 9) := ⟨⟨by decide +kernel, by decide +kernel⟩, List.mem_of_getElem? (i := 25) (by decide +kernel), List.mem_of_getElem? (i := 243) (by decide +kernel), List.mem_of_getElem? (i := 244) (by decide +kernel)⟩
theorem lw_p3 : lw_okq (⟨"LessonWeave$Syllabus", "nextTaken", "(II)I"⟩, 9) := ⟨⟨by decide +kernel, by decide +kernel⟩, List.mem_of_getElem? (i := 25) (by decide +kernel), List.mem_of_getElem? (i := 247) (by decide +kernel), List.mem_of_getElem? (i := 248) (by decide +kernel)⟩
theorem lw_p4 : lw_okq (⟨"LessonWeave", "planAnew", "()V"⟩, 4) := ⟨⟨by decide +kernel, by decide +kernel⟩, List.mem_of_getElem? (i := 17) (by decide +kernel), List.mem_of_getElem? (i := 257) (by decide +kernel), List.mem_of_getElem? (i := 258) (by decide +kernel)⟩
theorem lw_p5 : lw_okq (⟨"LessonWeave$Plan", "layOn", "(ILLessonWeave$Syllabus;)V"⟩, 9) := ⟨⟨by decide +kernel, by decide +kernel⟩, List.mem_of_getElem? (i := 72) (by decide +kernel), List.mem_of_getElem? (i := 265) (by decide +kernel), List.mem_of_getElem? (i := 266) (by decide +kernel)⟩
theorem lw_p6 : lw_okq (⟨"LessonWeave$Plan", "mostPressing", "(ILLessonWeave$Syllabus;)I"⟩, 9) := ⟨⟨by decide +kernel, by decide +kernel⟩, List.mem_of_getElem? (i := 72) (by decide +kernel), List.mem_of_getElem? (i := 269) (by decide +kernel), List.mem_of_getElem? (i := 270) (by decide +kernel)⟩
theorem lw_p7 : lw_okq (⟨"LessonWeave$Plan", "isDue", "(IILLessonWeave$Syllabus;)Z"⟩, 9) := ⟨⟨by decide +kernel, by decide +kernel⟩, List.mem_of_getElem? (i := 72) (by decide +kernel), List.mem_of_getElem? (i := 273) (by decide +kernel), List.mem_of_getElem? (i := 274) (by decide +kernel)⟩
theorem lw_p8 : lw_okq (⟨"LessonWeave$Plan", "nextGap", "(ILLessonWeave$Syllabus;)I"⟩, 9) := ⟨⟨by decide +kernel, by decide +kernel⟩, List.mem_of_getElem? (i := 72) (by decide +kernel), List.mem_of_getElem? (i := 277) (by decide +kernel), List.mem_of_getElem? (i := 278) (by decide +kernel)⟩
theorem lw_p9 : lw_okq (⟨"LessonWeave$Plan", "lateFrom", "(ILLessonWeave$Syllabus;)I"⟩, 9) := ⟨⟨by decide +kernel, by decide +kernel⟩, List.mem_of_getElem? (i := 72) (by decide +kernel), List.mem_of_getElem? (i := 281) (by decide +kernel), List.mem_of_getElem? (i := 282) (by decide +kernel)⟩
theorem lw_p10 : lw_okq (⟨"LessonWeave$Plan", "layRevisit", "(IILLessonWeave$Syllabus;)V"⟩, 9) := ⟨⟨by decide +kernel, by decide +kernel⟩, List.mem_of_getElem? (i := 72) (by decide +kernel), List.mem_of_getElem? (i := 285) (by decide +kernel), List.mem_of_getElem? (i := 286) (by decide +kernel)⟩
theorem lw_p11 : lw_okq (⟨"LessonWeave$Plan", "use", "(III)V"⟩, 9) := ⟨⟨by decide +kernel, by decide +kernel⟩, List.mem_of_getElem? (i := 72) (by decide +kernel), List.mem_of_getElem? (i := 289) (by decide +kernel), List.mem_of_getElem? (i := 290) (by decide +kernel)⟩
theorem lw_p12 : lw_okq (⟨"LessonWeave$Plan", "firstUnfinished", "(LLessonWeave$Syllabus;)I"⟩, 9) := ⟨⟨by decide +kernel, by decide +kernel⟩, List.mem_of_getElem? (i := 72) (by decide +kernel), List.mem_of_getElem? (i := 293) (by decide +kernel), List.mem_of_getElem? (i := 294) (by decide +kernel)⟩
theorem lw_p13 : lw_okq (⟨"LessonWeave$Plan", "isKitTaken", "(IILLessonWeave$Syllabus;)Z"⟩, 9) := ⟨⟨by decide +kernel, by decide +kernel⟩, List.mem_of_getElem? (i := 72) (by decide +kernel), List.mem_of_getElem? (i := 297) (by decide +kernel), List.mem_of_getElem? (i := 298) (by decide +kernel)⟩
theorem lw_p14 : lw_okq (⟨"LessonWeave$Plan", "layLesson", "(II)V"⟩, 9) := ⟨⟨by decide +kernel, by decide +kernel⟩, List.mem_of_getElem? (i := 72) (by decide +kernel), List.mem_of_getElem? (i := 304) (by decide +kernel), List.mem_of_getElem? (i := 305) (by decide +kernel)⟩
theorem lw_p15 : lw_okq (⟨"LessonWeave", "isAim", "(I)Z"⟩, 4) := ⟨⟨by decide +kernel, by decide +kernel⟩, List.mem_of_getElem? (i := 17) (by decide +kernel), List.mem_of_getElem? (i := 315) (by decide +kernel), List.mem_of_getElem? (i := 316) (by decide +kernel)⟩
def lw_privs_1 : List (MethodName × Nat) := [(⟨"LessonWeave$Plan", "clear", "()V"⟩, 9), (⟨"java/lang/Throwable", "fillInStackTrace", "(I)Ljava/lang/Throwable;"⟩, 6), (⟨"LessonWeave$Syllabus", "putInOrder", "()V"⟩, 9), (⟨"LessonWeave$Syllabus", "nextTaken", "(II)I"⟩, 9), (⟨"LessonWeave", "planAnew", "()V"⟩, 4), (⟨"LessonWeave$Plan", "layOn", "(ILLessonWeave$Syllabus;)V"⟩, 9), (⟨"LessonWeave$Plan", "mostPressing", "(ILLessonWeave$Syllabus;)I"⟩, 9), (⟨"LessonWeave$Plan", "isDue", "(IILLessonWeave$Syllabus;)Z"⟩, 9), (⟨"LessonWeave$Plan", "nextGap", "(ILLessonWeave$Syllabus;)I"⟩, 9), (⟨"LessonWeave$Plan", "lateFrom", "(ILLessonWeave$Syllabus;)I"⟩, 9), (⟨"LessonWeave$Plan", "layRevisit", "(IILLessonWeave$Syllabus;)V"⟩, 9), (⟨"LessonWeave$Plan", "use", "(III)V"⟩, 9), (⟨"LessonWeave$Plan", "firstUnfinished", "(LLessonWeave$Syllabus;)I"⟩, 9), (⟨"LessonWeave$Plan", "isKitTaken", "(IILLessonWeave$Syllabus;)Z"⟩, 9), (⟨"LessonWeave$Plan", "layLesson", "(II)V"⟩, 9), (⟨"LessonWeave", "isAim", "(I)Z"⟩, 4)]
theorem lw_r1 : ∀ q ∈ lw_privs_1, lw_okq q := List.forall_mem_cons.mpr ⟨lw_p0, List.forall_mem_cons.mpr ⟨lw_p1, List.forall_mem_cons.mpr ⟨lw_p2, List.forall_mem_cons.mpr ⟨lw_p3, List.forall_mem_cons.mpr ⟨lw_p4, List.forall_mem_cons.mpr ⟨lw_p5, List.forall_mem_cons.mpr ⟨lw_p6, List.forall_mem_cons.mpr ⟨lw_p7, List.forall_mem_cons.mpr ⟨lw_p8, List.forall_mem_cons.mpr ⟨lw_p9, List.forall_mem_cons.mpr ⟨lw_p10, List.forall_mem_cons.mpr ⟨lw_p11, List.forall_mem_cons.mpr ⟨lw_p12, List.forall_mem_cons.mpr ⟨lw_p13, List.forall_mem_cons.mpr ⟨lw_p14, List.forall_mem_cons.mpr ⟨lw_p15, fun _ h => absurd h List.not_mem_nil⟩⟩⟩⟩⟩⟩⟩⟩⟩⟩⟩⟩⟩⟩⟩⟩
theorem lw_p16 : lw_okq (⟨"LessonWeave$Syllabus", "neededBy", "(I)I"⟩, 9) := ⟨⟨by decide +kernel, by decide +kernel⟩, List.mem_of_getElem? (i := 25) (by decide +kernel), List.mem_of_getElem? (i := 339) (by decide +kernel), List.mem_of_getElem? (i := 340) (by decide +kernel)⟩
theorem lw_p17 : lw_okq (⟨"LessonWeave$Syllabus", "isClosed", "(I)Z"⟩, 9) := ⟨⟨by decide +kernel, by decide +kernel⟩, List.mem_of_getElem? (i := 25) (by decide +kernel), List.mem_of_getElem? (i := 482) (by decide +kernel), List.mem_of_getElem? (i := 483) (by decide +kernel)⟩
def lw_privs_2 : List (MethodName × Nat) := [(⟨"LessonWeave$Syllabus", "neededBy", "(I)I"⟩, 9), (⟨"LessonWeave$Syllabus", "isClosed", "(I)Z"⟩, 9)]
theorem lw_r2 : ∀ q ∈ lw_privs_2, lw_okq q := List.forall_mem_cons.mpr ⟨lw_p16, List.forall_mem_cons.mpr ⟨lw_p17, fun _ h => absurd h List.not_mem_nil⟩⟩
def lw_privs : List (MethodName × Nat) := lw_privs_1 ++ (lw_privs_2)
def lw_tbl : List Cond := k2_sels lw_privs ++ tables_1
theorem lw_privs_ok : ∀ q ∈ lw_privs, lw_okq q := by
  show ∀ q ∈ lw_privs_1 ++ (lw_privs_2), lw_okq q
  exact List.forall_mem_append.mpr ⟨lw_r1, lw_r2⟩
theorem goodIn_r {big : List Cond} (ws : List Cond) (ps : List Nat) (hp : ws = ps.filterMap (fun i => big[i]?)) (h : ws.all goodWord = true) : GoodIn big ws := by
  intro w hw
  have h1 := List.all_eq_true.mp h w hw
  rw [hp] at hw
  obtain ⟨i, -, hi⟩ := List.mem_filterMap.mp hw
  have hm : w ∈ big := by first | exact List.mem_of_getElem? hi | exact List.getElem?_mem hi
  exact ⟨hm, good_of_word h1⟩
theorem goodIn_app {big a b : List Cond} (ha : GoodIn big a) (hb : GoodIn big b) : GoodIn big (a ++ b) := fun w h => (List.mem_append.mp h).elim (ha w) (hb w)
theorem goodIn_ca {big a b : List Cond} {c : Cond} (ha : GoodIn big (c :: a)) (hb : GoodIn big b) : GoodIn big (c :: (a ++ b)) := fun w h => (List.mem_cons.mp h).elim (fun e => ha w (List.mem_cons.mpr (Or.inl e))) (fun h => (List.mem_append.mp h).elim (fun h => ha w (List.mem_cons.mpr (Or.inr h))) (hb w))
theorem goodIn_hd {big ws : List Cond} {c : Cond} (h : c ∈ big) (hg : goodWord c = true) (h2 : GoodIn big ws) : GoodIn big (c :: ws) := fun w hw => (List.mem_cons.mp hw).elim (fun e => by rw [e]; exact ⟨h, good_of_word hg⟩) (fun hw => h2 w hw)
theorem goodIn_sub {big ws : List Cond} (hm : ∀ w ∈ ws, w ∈ big) (h : ws.all goodWord = true) : GoodIn big ws := fun w hw => ⟨hm w hw, good_of_word (List.all_eq_true.mp h w hw)⟩
section VXA
def vx_T (XC : String → State → State → Prop) (st : State) (q : Addr) (t : State) (mc ms : Nat) (free : Addr → Prop) : Prop :=
  ∃ (E : String) (ce : Cell) (L : List Loc), XC E st t ∧ t.heap[q]? = some ce ∧ ce.vm = .none ∧ st.vm.findClass E = some ce.cls ∧ st.WarmedH t.vm ∧ st.sameButNew ({ t with vm := st.vm } : State) L mc ms ∧ ∀ z ∈ L, free z.base
def vx_Q (Qc : Array Value → State → Outcome → State → Prop) (XC : String → State → State → Prop) (mc ms : Nat) (free : Addr → Prop) : Array Value → State → Outcome → State → Prop := fun a st o t =>
  (Qc a st o t ∧ ∃ L, FrameEnd st o t L mc ms ∧ ∀ q ∈ L, free q.base) ∨ ∃ q, o = .threw q ∧ vx_T XC st q t mc ms free
def vx_Met (l : Launch) (y : MethodName) (ws : List Cond) (rm : Room) (Pc : Array Value → State → Prop) (Qc : Array Value → State → Outcome → State → Prop) (XC : String → State → State → Prop) (mc ms : Nat) (free : Addr → Prop) : Prop :=
  MetFree l y (headSpec ws rm) Pc (fun _ _ _ _ _ => True) (vx_Q Qc XC mc ms free)
def vx_Post (XC : String → State → State → Prop) (mc ms : Nat) (free : Addr → Prop) : Pt → Array Value → Addr → Pt → Prop := fun A a q B =>
  ∃ (g : JFrame) (mk : MethodId) (t : State) (L : List Loc) (E : String) (ce : Cell), B.U.heap = t.heap ∧ B.U.vm = t.vm ∧ XC E (A.U.calling g mk a) t ∧ t.heap[q]? = some ce ∧ ce.vm = .none ∧ A.U.vm.findClass E = some ce.cls ∧ B.locs = A.locs ++ L ∧ (∀ z ∈ L, free z.base) ∧ B.cells = A.cells + mc ∧ B.slots = A.slots + ms
def vx_Back (l : Launch) (R : Room) (p : Program) (e : Env) (below : List Frame) (s : State) (sargs : Array Value) (y : MethodName) (len W9 : Nat)
    (Pre : Pt → Array Value → Prop) (Post : Pt → Array Value → Option Value → Pt → Prop) (PostX : Pt → Array Value → Addr → Pt → Prop) : Prop :=
  ∀ (m : MethodId) (meth : Method) (c : Code) (A : Pt) (g : JFrame) (ig : Instr) (mk : MethodId) (a : Array Value),
    Stand p l e R s m sargs below meth c A.U A.locs A.cells A.slots → g.method = m → g.locals.size = c.maxLocals → decode c.code g.pc = .ok (ig, len) →
    2 * g.monitorRoom + (g.stack.map fun v => v.category).sum ≤ W9 → A.U.methodNamed? y = some mk → Pre A a →
    (∃ (v : Option Value) (B : Pt), Stand p l e R s m sargs below meth c B.U B.locs B.cells B.slots ∧ Post A a v B ∧
      Steps p.tables e below (doInvoke e (A.U.setTop g) [] mk a).1 (B.U.setTop { g with pc := g.pc + len, stack := v.toList ++ g.stack })) ∨
    (∃ (q : Addr) (B : Pt), Stand p l e R s m sargs below meth c B.U B.locs B.cells B.slots ∧ PostX A a q B ∧
      Steps p.tables e below (doInvoke e (A.U.setTop g) [] mk a).1 ((B.U.setTop g).pushFrame (.throwing q)))
section Payer
variable {l : Launch} {R : Room} {p : Program} {e : Env} {below : List Frame} {s : State} {sargs : Array Value} {y : MethodName} {len W9 : Nat}
theorem vx_back {ws : List Cond} {rm : Room} {Pc : Array Value → State → Prop} {Qc : Array Value → State → Outcome → State → Prop} {XC : String → State → State → Prop} {mc ms : Nat} {free : Addr → Prop} {bytes : ByteArray} {maxL : Nat} {ret : Option FieldType}
    (hM : vx_Met l y ws rm Pc Qc XC mc ms free) (hblind : FrameBlind Pc) (hrc : rm.cells = mc) (hrs : rm.slots = ms)
    (hframes : rm.frames + 1 ≤ R.frames) (hlocals : W9 + (maxL + 11) + rm.locals ≤ R.locals)
    (hws : ∀ w ∈ ws, ∀ a' U, s.WarmedH U.vm → w.before a' U = true) (hcode : Cond.code y bytes maxL ret ∈ ws) (hinit : ∀ a' U, s.WarmedH U.vm → (Cond.initialized y.cls).before a' U = true) :
    vx_Back l R p e below s sargs y len W9 (PreOf R mc ms Pc) (PostOf Qc mc ms free) (vx_Post XC mc ms free) := by
  intro m meth c A g ig mk a X hg hsize hdg hW hn hp
  have h1 : (headSpec ws rm).pre.before a A.U = true := atoms_intro fun w hw => hws w hw _ _ X.warmed
  have h2 : (Cond.code y bytes maxL ret).before a A.U = true := hws _ hcode _ _ X.warmed
  have h3 : (Cond.initialized y.cls).before a A.U = true := hinit _ _ X.warmed
  have h4 : A.cells + (headSpec ws rm).room.cells ≤ R.cells := by rw [show (headSpec ws rm).room.cells = mc from hrc]; exact hp.1
  have h5 : A.slots + (headSpec ws rm).room.slots ≤ R.slots := by rw [show (headSpec ws rm).room.slots = ms from hrs]; exact hp.2.1
  have hPc : Pc a (A.U.calling g mk a) := hblind _ _ _ _ hp.2.2
  obtain ⟨U, Ls, c0, s0⟩ := A
  dsimp only [Pt.U, Pt.locs, Pt.cells, Pt.slots] at h1 h2 h3 h4 h5 X hn hPc ⊢
  obtain ⟨methY, cY, hmY, hcY, -, hlY, -, -, -, -⟩ := Cond.code_spec hn h2
  obtain ⟨kY, hkY, -⟩ := className_of_methodNamed hn
  have hinitY : kY.init = .initialized := Cond.initialized_spec (findClass_of_methodNamed hn) hkY h3
  have h : At U g.method c below := by rw [hg]; exact X.here
  have hlocals9 : W9 + (maxL + 11) + (headSpec ws rm).room.locals ≤ R.locals := hlocals
  have happ : (headSpec ws rm).appliesLoose y e.platform (U.calling g mk a) = true :=
    Spec.appliesLoose_calling (g := g) h hdg hn hkY hinitY
      (X.room_calling (g := g) (R' := (headSpec ws rm).room) hsize hmY hcY hframes (by rw [hlY]; omega) h4 h5) h1
  obtain ⟨mid, hmid⟩ := h.above
  have hfr : (U.setTop g).frames = (.java g :: mid) ++ below := by rw [State.frames_setTop' g h.top, hmid]; rfl
  obtain ⟨o, s₂, hsteps, -, hend, hq⟩ := Steps.callFree hM p X.admits X.cas X.clock (acts := []) hfr happ hPc trivial
  have hq' : vx_Q Qc XC mc ms free a (U.calling g mk a) o s₂ := hq
  rw [State.frames_setTop' g h.top] at hend
  obtain ⟨g₀, hg0⟩ := Option.isSome_iff_exists.mp h.top
  obtain ⟨r, hr⟩ := State.topJava?_eq_some.mp hg0
  have hr' : (({ U with heap := s₂.heap, slotsUsed := s₂.slotsUsed } : State).setVm s₂.vm).frames = .java g₀ :: r := hr
  rcases hq' with ⟨hqc, L, hfe, hL⟩ | ⟨q, rfl, E, ce, L, hx, hce, hcv, hcl, hW₂, hsm, hL⟩
  · obtain ⟨⟨v, rfl⟩, hW₂, e2, q2, q3, q4, q5, q6⟩ := id hfe
    have e3 : s₂ = ({ (U.calling g mk a).setFrames s₂.frames with heap := s₂.heap, slotsUsed := s₂.slotsUsed } : State).setVm s₂.vm := by
      have : s₂ = ({ s₂ with vm := (U.calling g mk a).vm } : State).setVm s₂.vm := rfl
      rw [e2] at this
      exact this
    obtain ⟨c₂, i₂, len₂, hc₂, hd₂, hf₂⟩ := hend
    have hW' : U.WarmedH s₂.vm := hW₂
    have hcc : c₂ = c := by
      have h1 : s₂.code? g.method = U.code? g.method := by
        rw [State.code?_eq, State.code?_eq, hW'.alike.method?]
      exact Option.some.inj (hc₂.symm.trans (h1.trans h.code))
    subst hcc
    have hlen : len₂ = len := by rw [hdg] at hd₂; cases hd₂; rfl
    subst hlen
    have hs₂ : s₂ = (({ U with heap := s₂.heap, slotsUsed := s₂.slotsUsed } : State).setVm s₂.vm).setTop { g with pc := g.pc + len₂, stack := v.toList ++ g.stack } := by
      refine e3.trans ?_
      rw [hf₂, State.calling_eq h.top, State.setFrames_setFrames, State.setTop_of_frames _ hr', hr]
      rfl
    have hsame : U.sameButNew ({ U with heap := s₂.heap, slotsUsed := s₂.slotsUsed } : State) L mc ms := by
      refine ⟨?_, q2, q3, q4, q5, q6⟩
      obtain ⟨t, ht, -⟩ := State.frames_cons hr
      show ({ U with heap := s₂.heap, slotsUsed := s₂.slotsUsed } : State) = { U.setFrames U.frames with heap := s₂.heap, slotsUsed := s₂.slotsUsed }
      rw [State.setFrames_self ht]
    subst hg
    refine Or.inl ⟨v, ⟨(({ U with heap := s₂.heap, slotsUsed := s₂.slotsUsed } : State).setVm s₂.vm), Ls ++ L, c0 + mc, s0 + ms⟩,
      ⟨X.admits, X.cas, X.clock, X.frames, X.room, X.hears, X.method, X.code, (X.here.setHeapUsed s₂.heap s₂.slotsUsed).setVm hW'.alike, X.tail, State.WarmedH.trans X.warmed hW', X.limits, X.bytes, X.same.trans (hsame.setVm s.vm)⟩,
      ⟨g, mk, s₂, L, rfl, rfl, hqc, rfl, hL, rfl, rfl⟩, ?_⟩
    show Steps p.tables e below _ ((({ U with heap := s₂.heap, slotsUsed := s₂.slotsUsed } : State).setVm s₂.vm).setTop { g with pc := g.pc + len₂, stack := v.toList ++ g.stack })
    rw [← hs₂]
    exact hsteps
  · obtain ⟨e2, q2, q3, q4, q5, q6⟩ := id hsm
    have e3 : s₂ = ({ (U.calling g mk a).setFrames s₂.frames with heap := s₂.heap, slotsUsed := s₂.slotsUsed } : State).setVm s₂.vm := by
      have : s₂ = ({ s₂ with vm := (U.calling g mk a).vm } : State).setVm s₂.vm := rfl
      rw [e2] at this
      exact this
    have hf₂ : s₂.frames = .throwing q :: .java g :: U.frames.tail := hend
    have hW' : U.WarmedH s₂.vm := hW₂
    have hs₂ : s₂ = ((({ U with heap := s₂.heap, slotsUsed := s₂.slotsUsed } : State).setVm s₂.vm).setTop g).pushFrame (.throwing q) := by
      refine e3.trans ?_
      rw [hf₂, State.calling_eq h.top, State.setFrames_setFrames, State.pushFrame, State.frames_setTop _ hr', State.setTop_of_frames _ hr', State.setFrames_setFrames, hr]
      rfl
    have hsame : U.sameButNew ({ U with heap := s₂.heap, slotsUsed := s₂.slotsUsed } : State) L mc ms := by
      refine ⟨?_, q2, q3, q4, q5, q6⟩
      obtain ⟨t, ht, -⟩ := State.frames_cons hr
      show ({ U with heap := s₂.heap, slotsUsed := s₂.slotsUsed } : State) = { U.setFrames U.frames with heap := s₂.heap, slotsUsed := s₂.slotsUsed }
      rw [State.setFrames_self ht]
    subst hg
    refine Or.inr ⟨q, ⟨(({ U with heap := s₂.heap, slotsUsed := s₂.slotsUsed } : State).setVm s₂.vm), Ls ++ L, c0 + mc, s0 + ms⟩,
      ⟨X.admits, X.cas, X.clock, X.frames, X.room, X.hears, X.method, X.code, (X.here.setHeapUsed s₂.heap s₂.slotsUsed).setVm hW'.alike, X.tail, State.WarmedH.trans X.warmed hW', X.limits, X.bytes, X.same.trans (hsame.setVm s.vm)⟩,
      ⟨g, mk, s₂, L, E, ce, rfl, rfl, hx, hce, hcv, hcl, rfl, hL, rfl, rfl⟩, ?_⟩
    show Steps p.tables e below _ (((({ U with heap := s₂.heap, slotsUsed := s₂.slotsUsed } : State).setVm s₂.vm).setTop g).pushFrame (.throwing q))
    rw [← hs₂]
    exact hsteps
end Payer
section Calls
variable {p : Program} {l : Launch} {e : Env} {R : Room} {s : State} {m : MethodId} {args : Array Value} {below : List Frame} {meth : Method} {c : Code} {T : State} {locs : List Loc} {cells slots : Nat}
theorem vx_callV (X : Stand p l e R s m args below meth c T locs cells slots) (hexec : p.tables.exec = Jvm.exec) {own C : String} {index : Nat} {y : MethodName} {bytes : ByteArray} {maxL : Nat} {ret : Option FieldType}
    (hown : s.vm.findClass own = some m.cls) (hlink : (Cond.methodLink own index y).before args s = true) (hinst : (Cond.instanceMethod y).before args s = true) (hsel : (Cond.selects C y y).before args s = true)
    (hcode : (Cond.code y bytes maxL ret).before args s = true) (hy : y.cls ≠ "java/lang/invoke/MethodHandle" ∧ y.cls ≠ "java/lang/invoke/VarHandle")
    {W9 : Nat} {Pre : Pt → Array Value → Prop} {Post : Pt → Array Value → Option Value → Pt → Prop} {PostX : Pt → Array Value → Addr → Pt → Prop} (hK : vx_Back l R p e below s args y 3 W9 Pre Post PostX)
    {b : Addr} {cellB : Cell} (hcell : T.heap[b]? = some cellB) (hobj : cellB.vm.isStatics = false) (hcls : s.vm.findClass C = some cellB.cls)
    {g : JFrame} (hg : g.method = m) (hsize : g.locals.size = c.maxLocals) {argsL rest : List Value} (hlen : ∀ sig, parseMethodDescriptor y.desc = some sig → argsL.length = sig.parameters.length)
    (hstack : g.stack = argsL.reverse ++ .ref b :: rest) (hW : 2 * g.monitorRoom + (rest.map fun v => v.category).sum ≤ W9) (hdg : decode c.code g.pc = .ok (.invokevirtual index, 3))
    (hpre : ∀ vm₁, s.WarmedH vm₁ → Pre ⟨T.setVm vm₁, locs, cells, slots⟩ (Value.ref b :: argsL).toArray) :
    (∃ (v : Option Value) (vm₁ : Vm) (B : Pt), s.WarmedH vm₁ ∧ Stand p l e R s m args below meth c B.U B.locs B.cells B.slots ∧ Post ⟨T.setVm vm₁, locs, cells, slots⟩ (Value.ref b :: argsL).toArray v B ∧
      ∀ target, Steps p.tables e below (B.U.setTop { g with pc := g.pc + 3, stack := v.toList ++ rest }) target → Steps p.tables e below (T.setTop g) target) ∨
    (∃ (q : Addr) (vm₁ : Vm) (B : Pt), s.WarmedH vm₁ ∧ Stand p l e R s m args below meth c B.U B.locs B.cells B.slots ∧ PostX ⟨T.setVm vm₁, locs, cells, slots⟩ (Value.ref b :: argsL).toArray q B ∧
      Steps p.tables e below (T.setTop g) ((B.U.setTop { g with stack := rest }).pushFrame (.throwing q))) := by
  obtain ⟨mk, methM, hnamed, hmethM, hstM, habM⟩ := Cond.instanceMethod_spec hinst
  obtain ⟨methM', cM, hmethM', -, -, -, -, -, -, hsigM⟩ := Cond.code_spec hnamed hcode
  cases hmethM.symm.trans hmethM'
  obtain ⟨c2, r2, m2, q1, q2, q3, q4, kP, hkP, hkPi⟩ := Cond.selects_spec hsel
  cases hcls.symm.trans q1
  cases (State.methodFound?_of_named hnamed hy).symm.trans q2
  cases hnamed.symm.trans q3
  have hselP : selectMethod e.platform s.vm cellB.cls mk = .method mk := by rw [Launch.admits_selectMethod X.admits]; exact q4
  obtain ⟨vm₁, X₁, hstep₁⟩ := X.invokevirtual hexec hown hlink hnamed hmethM hstM hkP hkPi hy (a := b) (cell := cellB) hcell
    (fun z h => by rw [h] at hobj; cases hobj) hselP hmethM habM hkP hkPi (g := g) hg (argsL := argsL) (rest := rest) (hlen _ hsigM) hstack hdg
  rcases hK m meth c ⟨T.setVm vm₁, locs, cells, slots⟩ { g with stack := rest } (.invokevirtual index) mk (Value.ref b :: argsL).toArray X₁ hg hsize hdg hW (X₁.named hnamed) (hpre vm₁ X₁.warmed) with ⟨v, B, X', hpost, hsteps⟩ | ⟨q, B, X', hpost, hsteps⟩
  · exact Or.inl ⟨v, vm₁, B, X₁.warmed, X', hpost, fun target h => hstep₁ _ fun acts => by rw [doInvoke_state]; exact hsteps.trans h⟩
  · exact Or.inr ⟨q, vm₁, B, X₁.warmed, X', hpost, hstep₁ _ fun acts => by rw [doInvoke_state]; exact hsteps⟩
theorem vx_callS (X : Stand p l e R s m args below meth c T locs cells slots) (hexec : p.tables.exec = Jvm.exec) {own : String} {index : Nat} {y : MethodName} {bytes : ByteArray} {maxL : Nat} {ret : Option FieldType}
    (hown : s.vm.findClass own = some m.cls) (hlink : (Cond.methodLink own index y).before args s = true) (hstat : (Cond.static y).before args s = true) (hinit : (Cond.initialized y.cls).before args s = true)
    (hcode : (Cond.code y bytes maxL ret).before args s = true) (hy : y.cls ≠ "java/lang/invoke/MethodHandle" ∧ y.cls ≠ "java/lang/invoke/VarHandle")
    {W9 : Nat} {Pre : Pt → Array Value → Prop} {Post : Pt → Array Value → Option Value → Pt → Prop} {PostX : Pt → Array Value → Addr → Pt → Prop} (hK : vx_Back l R p e below s args y 3 W9 Pre Post PostX)
    {g : JFrame} (hg : g.method = m) (hsize : g.locals.size = c.maxLocals) {argsL rest : List Value} (hlen : ∀ sig, parseMethodDescriptor y.desc = some sig → argsL.length = sig.parameters.length)
    (hstack : g.stack = argsL.reverse ++ rest) (hW : 2 * g.monitorRoom + (rest.map fun v => v.category).sum ≤ W9) (hdg : decode c.code g.pc = .ok (.invokestatic index, 3))
    (hpre : ∀ vm₁, s.WarmedH vm₁ → Pre ⟨T.setVm vm₁, locs, cells, slots⟩ argsL.toArray) :
    (∃ (v : Option Value) (vm₁ : Vm) (B : Pt), s.WarmedH vm₁ ∧ Stand p l e R s m args below meth c B.U B.locs B.cells B.slots ∧ Post ⟨T.setVm vm₁, locs, cells, slots⟩ argsL.toArray v B ∧
      ∀ target, Steps p.tables e below (B.U.setTop { g with pc := g.pc + 3, stack := v.toList ++ rest }) target → Steps p.tables e below (T.setTop g) target) ∨
    (∃ (q : Addr) (vm₁ : Vm) (B : Pt), s.WarmedH vm₁ ∧ Stand p l e R s m args below meth c B.U B.locs B.cells B.slots ∧ PostX ⟨T.setVm vm₁, locs, cells, slots⟩ argsL.toArray q B ∧
      Steps p.tables e below (T.setTop g) ((B.U.setTop { g with stack := rest }).pushFrame (.throwing q))) := by
  obtain ⟨mk, hnamed⟩ := Cond.code_named hcode
  obtain ⟨methM, cM, hmethM, -, -, -, -, -, -, hsigM⟩ := Cond.code_spec hnamed hcode
  have hstatic : methM.isStatic = true := Cond.static_spec hnamed hmethM hstat
  obtain ⟨kP, hkP, -⟩ := className_of_methodNamed hnamed
  have hinitP : kP.init = .initialized := Cond.initialized_spec (findClass_of_methodNamed hnamed) hkP hinit
  obtain ⟨vm₁, X₁, hstep₁⟩ := X.invokestatic hexec hown hlink hnamed hmethM hstatic hkP hinitP hy (g := g) hg (argsL := argsL) (rest := rest) (hlen _ hsigM) hstack hdg
  rcases hK m meth c ⟨T.setVm vm₁, locs, cells, slots⟩ { g with stack := rest } (.invokestatic index) mk argsL.toArray X₁ hg hsize hdg hW (X₁.named hnamed) (hpre vm₁ X₁.warmed) with ⟨v, B, X', hpost, hsteps⟩ | ⟨q, B, X', hpost, hsteps⟩
  · exact Or.inl ⟨v, vm₁, B, X₁.warmed, X', hpost, fun target h => hstep₁ _ fun acts => by rw [doInvoke_state]; exact hsteps.trans h⟩
  · exact Or.inr ⟨q, vm₁, B, X₁.warmed, X', hpost, hstep₁ _ fun acts => by rw [doInvoke_state]; exact hsteps⟩
end Calls
theorem vx_cls {s : State} {T : State} {vm₁ : Vm} {E : String} {k : ClassId} (hW : s.WarmedH vm₁) (h : (T.setVm vm₁).vm.findClass E = some k) : s.vm.findClass E = some k := by
  have h1 : vm₁.findClass E = some k := h
  rw [hW.alike.findClass] at h1
  exact h1
def vx_W (p : Program) (l : Launch) (e : Env) (R : Room) (s : State) (m : MethodId) (args : Array Value) (below : List Frame) (meth : Method) (c : Code) (H : Heap) (locs : List Loc) (cells slots : Nat) (Q : State → Prop) (g : JFrame) (q : Addr) : Prop :=
  ∀ T : State, T.heap = H → Stand p l e R s m args below meth c T locs cells slots → ∃ t, Steps p.tables e below ((T.setTop g).pushFrame (.throwing q)) t ∧ Q t
def vx_Run (p : Program) (l : Launch) (e : Env) (R : Room) (s : State) (m : MethodId) (args : Array Value) (below : List Frame) (meth : Method) (c : Code) (H : Heap) (locs : List Loc) (cells slots mc ms : Nat) (g : JFrame) (rest : List Value) (Qa : State → Outcome → State → Prop) (XC : String → State → State → Prop) (free : Addr → Prop) : Prop :=
  ∀ T : State, T.heap = H → Stand p l e R s m args below meth c T locs cells slots →
    (∃ (v : Option Value) (st₀ t T' : State) (L : List Loc), st₀.heap = H ∧ Stand p l e R s m args below meth c T' (locs ++ L) (cells + mc) (slots + ms) ∧ (∀ q ∈ L, free q.base) ∧ T'.heap = t.heap ∧ T'.vm = t.vm ∧ Qa st₀ (.returned v) t ∧
      Goes p e below T g T' { g with pc := g.pc + 3, stack := v.toList ++ rest }) ∨
    (∃ (q : Addr) (st₀ t T' : State) (L : List Loc) (E : String) (ce : Cell), st₀.heap = H ∧ Stand p l e R s m args below meth c T' (locs ++ L) (cells + mc) (slots + ms) ∧ (∀ z ∈ L, free z.base) ∧ T'.heap = t.heap ∧ T'.vm = t.vm ∧ XC E st₀ t ∧ t.heap[q]? = some ce ∧ ce.vm = .none ∧ s.vm.findClass E = some ce.cls ∧
      Steps p.tables e below (T.setTop g) ((T'.setTop { g with stack := rest }).pushFrame (.throwing q)))
def vx_X {S : Type} (px : S → Prop) (B : String → S → State → Prop) (A : Nat → Prop) : String → State → State → Prop := fun E st t => ∃ u : S, px u ∧ B E u t ∧ va_F A st t
section Runs
variable {p : Program} {l : Launch} {e : Env} {R : Room} {s : State} {m : MethodId} {args : Array Value} {below : List Frame} {meth : Method} {c : Code} {H : Heap} {locs : List Loc} {cells slots : Nat}
variable {y : MethodName} {bytes cc : ByteArray} {maxL nL mc ms n index : Nat} {ret : Option FieldType} {ws : List Cond} {rm : Room} {Pc : Array Value → State → Prop} {Qc : Array Value → State → Outcome → State → Prop} {XC : String → State → State → Prop} {free : Addr → Prop} {Ts : List Cond} {own C : String} {b : Addr} {As rest : List Value} {g : JFrame}
theorem vx_callBack (cb : CallB R s args own index y bytes maxL ret ws rm mc ms n) (hM : vx_Met l y ws rm Pc Qc XC mc ms free) (hbl : FrameBlind Pc) : vx_Back l R p e below s args y 3 8 (PreOf R mc ms Pc) (PostOf Qc mc ms free) (vx_Post XC mc ms free) := by
  obtain ⟨hrc, hrs, hfr, hlo, hws, hcw, -, hini, -⟩ := cb
  exact vx_back (bytes := bytes) (maxL := maxL) (ret := ret) hM hbl hrc hrs hfr hlo hws hcw (fun a' U hW => word_at hW (Or.inl (by first | rfl | simp [Cond.onTables, Cond.keeps, Cond.steady])) hini)
theorem vx_runV (S : CallFix p m c cc nL s args Ts own) (hM : vx_Met l y ws rm Pc Qc XC mc ms free) (cw : CallW R s args own C index y bytes maxL ret ws rm mc ms n) (hp : PreV s H C b Pc As)
    (hg : g.method = m) (hn : As.length = n) (hsize : g.locals.size = nL) (hstack : g.stack = As.reverse ++ .ref b :: rest) (hW : 2 * g.monitorRoom + (rest.map fun v => v.category).sum ≤ 8) (hdg : decode cc g.pc = .ok (.invokevirtual index, 3)) (hf : cells + mc ≤ R.cells ∧ slots + ms ≤ R.slots) :
    vx_Run p l e R s m args below meth c H locs cells slots mc ms g rest (Qc (Value.ref b :: As).toArray) XC free := by
  have hK : vx_Back l R p e below s args y 3 8 (PreOf R mc ms Pc) (PostOf Qc mc ms free) (vx_Post XC mc ms free) := vx_callBack cw.1 hM hp.1
  obtain ⟨⟨-, -, -, -, -, -, hcode, -, hy, hlen, hl⟩, hin, hse⟩ := cw
  obtain ⟨hx, hb, hml, ho, -⟩ := S
  obtain ⟨-, ⟨cellB, hcB, hoB, hclB⟩, hPc⟩ := hp
  intro T hT X
  rcases vx_callV X hx (C := C) (bytes := bytes) (maxL := maxL) (ret := ret) ho hl hin hse hcode hy hK (by rw [hT]; exact hcB) hoB hclB hg (hsize.trans hml.symm) (argsL := As) (rest := rest) (fun sig h => hn.trans (hlen sig h)) hstack hW (by rw [hb]; exact hdg)
    (fun vm₁ hW₁ => ⟨hf.1, hf.2, hPc (T.setVm vm₁) hT hW₁⟩) with ⟨v, vm₁, ⟨U', l2, c2, s2⟩, hW₁, X', ⟨g', mk, t, L, e1, e2, hq, h1, hL, h2, h3⟩, st⟩ | ⟨q, vm₁, ⟨U', l2, c2, s2⟩, hW₁, X', ⟨g', mk, t, L, E, ce, e1, e2, hq, hce, hcv, hcl, h1, hL, h2, h3⟩, st⟩
  · dsimp only [Pt.U, Pt.locs, Pt.cells, Pt.slots] at X' e1 e2 h1 h2 h3 st
    subst h1; subst h2; subst h3
    exact Or.inl ⟨v, (T.setVm vm₁).calling g' mk (Value.ref b :: As).toArray, t, U', L, hT, X', hL, e1, e2, hq, st⟩
  · dsimp only [Pt.U, Pt.locs, Pt.cells, Pt.slots] at X' e1 e2 h1 h2 h3 st hcl
    subst h1; subst h2; subst h3
    exact Or.inr ⟨q, (T.setVm vm₁).calling g' mk (Value.ref b :: As).toArray, t, U', L, E, ce, hT, X', hL, e1, e2, hq, hce, hcv, vx_cls hW₁ hcl, st⟩
theorem vx_runS (S : CallFix p m c cc nL s args Ts own) (hM : vx_Met l y ws rm Pc Qc XC mc ms free) (cw : CallB R s args own index y bytes maxL ret ws rm mc ms n ∧ (Cond.static y).before args s = true) (hp : PreS s H Pc As)
    (hg : g.method = m) (hn : As.length = n) (hsize : g.locals.size = nL) (hstack : g.stack = As.reverse ++ rest) (hW : 2 * g.monitorRoom + (rest.map fun v => v.category).sum ≤ 8) (hdg : decode cc g.pc = .ok (.invokestatic index, 3)) (hf : cells + mc ≤ R.cells ∧ slots + ms ≤ R.slots) :
    vx_Run p l e R s m args below meth c H locs cells slots mc ms g rest (Qc As.toArray) XC free := by
  have hK : vx_Back l R p e below s args y 3 8 (PreOf R mc ms Pc) (PostOf Qc mc ms free) (vx_Post XC mc ms free) := vx_callBack cw.1 hM hp.1
  obtain ⟨⟨-, -, -, -, -, -, hcode, hini, hy, hlen, hl⟩, hstt⟩ := cw
  obtain ⟨hx, hb, hml, ho, -⟩ := S
  intro T hT X
  rcases vx_callS X hx (bytes := bytes) (maxL := maxL) (ret := ret) ho hl hstt hini hcode hy hK hg (hsize.trans hml.symm) (argsL := As) (rest := rest) (fun sig h => hn.trans (hlen sig h)) hstack hW (by rw [hb]; exact hdg)
    (fun vm₁ hW₁ => ⟨hf.1, hf.2, hp.2 (T.setVm vm₁) hT hW₁⟩) with ⟨v, vm₁, ⟨U', l2, c2, s2⟩, hW₁, X', ⟨g', mk, t, L, e1, e2, hq, h1, hL, h2, h3⟩, st⟩ | ⟨q, vm₁, ⟨U', l2, c2, s2⟩, hW₁, X', ⟨g', mk, t, L, E, ce, e1, e2, hq, hce, hcv, hcl, h1, hL, h2, h3⟩, st⟩
  · dsimp only [Pt.U, Pt.locs, Pt.cells, Pt.slots] at X' e1 e2 h1 h2 h3 st
    subst h1; subst h2; subst h3
    exact Or.inl ⟨v, (T.setVm vm₁).calling g' mk As.toArray, t, U', L, hT, X', hL, e1, e2, hq, st⟩
  · dsimp only [Pt.U, Pt.locs, Pt.cells, Pt.slots] at X' e1 e2 h1 h2 h3 st hcl
    subst h1; subst h2; subst h3
    exact Or.inr ⟨q, (T.setVm vm₁).calling g' mk As.toArray, t, U', L, E, ce, hT, X', hL, e1, e2, hq, hce, hcv, vx_cls hW₁ hcl, st⟩
end Runs
section Rows
variable {p : Program} {l : Launch} {e : Env} {R : Room} {s : State} {m : MethodId} {args : Array Value} {below : List Frame} {meth : Method} {c : Code} {H : Heap} {locs : List Loc} {cells slots : Nat} {Q : State → Prop}
variable {mc ms : Nat} {free : Addr → Prop} {A0 A1 : Nat → Prop} {H0 : Heap} {a : Array Value} {pc : Nat} {ls : Array Slot} {st0 rest : List Value}
theorem vx_keep {st₀ t T' : State} {L : List Loc} (h0 : st₀.heap = H) (e1 : T'.heap = t.heap) (hS : va_S A0 H0 H locs) (hA : ∀ q, q < H.size → A1 q → A0 q) (hf : ∀ q, free q → A0 q) (hL : ∀ q ∈ L, free q.base) (hF : va_F A1 st₀ t) :
    H.size ≤ T'.heap.size ∧ (∀ q : Nat, q < H.size → ¬ A1 q → T'.heap[q]? = H[q]?) ∧ va_S A0 H0 T'.heap (locs ++ L) := by
  obtain ⟨hz, hk⟩ := hF
  rw [h0] at hz hk
  exact ⟨by rw [e1]; exact hz, fun q h1 h2 => by rw [e1]; exact hk q h1 h2,
    ⟨Nat.le_trans hS.1 (by rw [e1]; exact hz), fun q h1 h2 => by rw [e1, hk q (Nat.lt_of_lt_of_le h1 hS.1) (fun z => h2 (hA q (Nat.lt_of_lt_of_le h1 hS.1) z))]; exact hS.2.1 q h1 h2, fun q hq => by
      rcases List.mem_append.mp hq with h | h
      · exact hS.2.2 q h
      · exact hf _ (hL q h)⟩⟩
theorem vx_calli {S SX : Type} {post : Int32 → S → Prop} {px : SX → Prop} {B : S → State → Prop} {BX : String → SX → State → Prop} {AX : Nat → Prop} (hr : vx_Run p l e R s m args below meth c H locs cells slots mc ms (F0 m pc ls st0) rest (va_Qi post B A1 a) (vx_X px BX AX) free) (hS : va_S A0 H0 H locs) (hA : ∀ q, q < H.size → A1 q → A0 q) (hf : ∀ q, free q → A0 q) (hAX : ∀ q, q < H.size → AX q → A0 q)
    (kx : ∀ (E : String) (ce : Cell) (q9 : Addr) (u : SX) (t : State) (H1 : Heap) (locs1 : List Loc), t.heap = H1 → s.vm.Alike t.vm → px u → BX E u t → H.size ≤ H1.size → (∀ q : Nat, q < H.size → ¬ AX q → H1[q]? = H[q]?) → va_S A0 H0 H1 locs1 → H1[q9]? = some ce → ce.vm = .none → s.vm.findClass E = some ce.cls → vx_W p l e R s m args below meth c H1 locs1 (cells + mc) (slots + ms) Q (F0 m pc ls rest) q9)
    (kk : ∀ (r : Int32) (u : S) (t : State) (H1 : Heap) (locs1 : List Loc), t.heap = H1 → s.vm.Alike t.vm → post r u → B u t → H.size ≤ H1.size → (∀ q : Nat, q < H.size → ¬ A1 q → H1[q]? = H[q]?) → va_S A0 H0 H1 locs1 → W p l e R s m args below meth c H1 locs1 (cells + mc) (slots + ms) Q (F0 m (pc + 3) ls (.int r :: rest))) : W p l e R s m args below meth c H locs cells slots Q (F0 m pc ls st0) := by
  intro T hT X
  rcases hr T hT X with ⟨v, st₀, t, T', L, h0, X', hL, e1, e2, ⟨⟨r, u, hv, hp, hb⟩, hF⟩, st⟩ | ⟨q, st₀, t, T', L, E, ce, h0, X', hL, e1, e2, ⟨u, hp, hb, hF⟩, hce, hcv, hcl, st⟩
  · cases hv
    obtain ⟨k1, k2, k3⟩ := vx_keep h0 e1 hS hA hf hL hF
    obtain ⟨t2, a1, b1⟩ := kk r u t T'.heap (locs ++ L) e1.symm (by rw [← e2]; exact X'.warmed.alike) hp hb k1 k2 k3 T' rfl X'
    exact ⟨t2, st t2 a1, b1⟩
  · obtain ⟨k1, k2, k3⟩ := vx_keep h0 e1 hS hAX hf hL hF
    obtain ⟨t2, a1, b1⟩ := kx E ce q u t T'.heap (locs ++ L) e1.symm (by rw [← e2]; exact X'.warmed.alike) hp hb k1 k2 k3 (by rw [e1]; exact hce) hcv hcl T' rfl X'
    exact ⟨t2, st.trans a1, b1⟩
theorem vx_calll {S SX : Type} {post : Int64 → S → Prop} {px : SX → Prop} {B : S → State → Prop} {BX : String → SX → State → Prop} {AX : Nat → Prop} (hr : vx_Run p l e R s m args below meth c H locs cells slots mc ms (F0 m pc ls st0) rest (va_Ql post B A1 a) (vx_X px BX AX) free) (hS : va_S A0 H0 H locs) (hA : ∀ q, q < H.size → A1 q → A0 q) (hf : ∀ q, free q → A0 q) (hAX : ∀ q, q < H.size → AX q → A0 q)
    (kx : ∀ (E : String) (ce : Cell) (q9 : Addr) (u : SX) (t : State) (H1 : Heap) (locs1 : List Loc), t.heap = H1 → s.vm.Alike t.vm → px u → BX E u t → H.size ≤ H1.size → (∀ q : Nat, q < H.size → ¬ AX q → H1[q]? = H[q]?) → va_S A0 H0 H1 locs1 → H1[q9]? = some ce → ce.vm = .none → s.vm.findClass E = some ce.cls → vx_W p l e R s m args below meth c H1 locs1 (cells + mc) (slots + ms) Q (F0 m pc ls rest) q9)
    (kk : ∀ (r : Int64) (u : S) (t : State) (H1 : Heap) (locs1 : List Loc), t.heap = H1 → s.vm.Alike t.vm → post r u → B u t → H.size ≤ H1.size → (∀ q : Nat, q < H.size → ¬ A1 q → H1[q]? = H[q]?) → va_S A0 H0 H1 locs1 → W p l e R s m args below meth c H1 locs1 (cells + mc) (slots + ms) Q (F0 m (pc + 3) ls (.long r :: rest))) : W p l e R s m args below meth c H locs cells slots Q (F0 m pc ls st0) := by
  intro T hT X
  rcases hr T hT X with ⟨v, st₀, t, T', L, h0, X', hL, e1, e2, ⟨⟨r, u, hv, hp, hb⟩, hF⟩, st⟩ | ⟨q, st₀, t, T', L, E, ce, h0, X', hL, e1, e2, ⟨u, hp, hb, hF⟩, hce, hcv, hcl, st⟩
  · cases hv
    obtain ⟨k1, k2, k3⟩ := vx_keep h0 e1 hS hA hf hL hF
    obtain ⟨t2, a1, b1⟩ := kk r u t T'.heap (locs ++ L) e1.symm (by rw [← e2]; exact X'.warmed.alike) hp hb k1 k2 k3 T' rfl X'
    exact ⟨t2, st t2 a1, b1⟩
  · obtain ⟨k1, k2, k3⟩ := vx_keep h0 e1 hS hAX hf hL hF
    obtain ⟨t2, a1, b1⟩ := kx E ce q u t T'.heap (locs ++ L) e1.symm (by rw [← e2]; exact X'.warmed.alike) hp hb k1 k2 k3 (by rw [e1]; exact hce) hcv hcl T' rfl X'
    exact ⟨t2, st.trans a1, b1⟩
theorem vx_callf {S SX : Type} {post : UInt32 → S → Prop} {px : SX → Prop} {B : S → State → Prop} {BX : String → SX → State → Prop} {AX : Nat → Prop} (hr : vx_Run p l e R s m args below meth c H locs cells slots mc ms (F0 m pc ls st0) rest (va_Qf post B A1 a) (vx_X px BX AX) free) (hS : va_S A0 H0 H locs) (hA : ∀ q, q < H.size → A1 q → A0 q) (hf : ∀ q, free q → A0 q) (hAX : ∀ q, q < H.size → AX q → A0 q)
    (kx : ∀ (E : String) (ce : Cell) (q9 : Addr) (u : SX) (t : State) (H1 : Heap) (locs1 : List Loc), t.heap = H1 → s.vm.Alike t.vm → px u → BX E u t → H.size ≤ H1.size → (∀ q : Nat, q < H.size → ¬ AX q → H1[q]? = H[q]?) → va_S A0 H0 H1 locs1 → H1[q9]? = some ce → ce.vm = .none → s.vm.findClass E = some ce.cls → vx_W p l e R s m args below meth c H1 locs1 (cells + mc) (slots + ms) Q (F0 m pc ls rest) q9)
    (kk : ∀ (r : UInt32) (u : S) (t : State) (H1 : Heap) (locs1 : List Loc), t.heap = H1 → s.vm.Alike t.vm → post r u → B u t → H.size ≤ H1.size → (∀ q : Nat, q < H.size → ¬ A1 q → H1[q]? = H[q]?) → va_S A0 H0 H1 locs1 → W p l e R s m args below meth c H1 locs1 (cells + mc) (slots + ms) Q (F0 m (pc + 3) ls (.float r :: rest))) : W p l e R s m args below meth c H locs cells slots Q (F0 m pc ls st0) := by
  intro T hT X
  rcases hr T hT X with ⟨v, st₀, t, T', L, h0, X', hL, e1, e2, ⟨⟨r, u, hv, hp, hb⟩, hF⟩, st⟩ | ⟨q, st₀, t, T', L, E, ce, h0, X', hL, e1, e2, ⟨u, hp, hb, hF⟩, hce, hcv, hcl, st⟩
  · cases hv
    obtain ⟨k1, k2, k3⟩ := vx_keep h0 e1 hS hA hf hL hF
    obtain ⟨t2, a1, b1⟩ := kk r u t T'.heap (locs ++ L) e1.symm (by rw [← e2]; exact X'.warmed.alike) hp hb k1 k2 k3 T' rfl X'
    exact ⟨t2, st t2 a1, b1⟩
  · obtain ⟨k1, k2, k3⟩ := vx_keep h0 e1 hS hAX hf hL hF
    obtain ⟨t2, a1, b1⟩ := kx E ce q u t T'.heap (locs ++ L) e1.symm (by rw [← e2]; exact X'.warmed.alike) hp hb k1 k2 k3 (by rw [e1]; exact hce) hcv hcl T' rfl X'
    exact ⟨t2, st.trans a1, b1⟩
theorem vx_calld {S SX : Type} {post : UInt64 → S → Prop} {px : SX → Prop} {B : S → State → Prop} {BX : String → SX → State → Prop} {AX : Nat → Prop} (hr : vx_Run p l e R s m args below meth c H locs cells slots mc ms (F0 m pc ls st0) rest (va_Qd post B A1 a) (vx_X px BX AX) free) (hS : va_S A0 H0 H locs) (hA : ∀ q, q < H.size → A1 q → A0 q) (hf : ∀ q, free q → A0 q) (hAX : ∀ q, q < H.size → AX q → A0 q)
    (kx : ∀ (E : String) (ce : Cell) (q9 : Addr) (u : SX) (t : State) (H1 : Heap) (locs1 : List Loc), t.heap = H1 → s.vm.Alike t.vm → px u → BX E u t → H.size ≤ H1.size → (∀ q : Nat, q < H.size → ¬ AX q → H1[q]? = H[q]?) → va_S A0 H0 H1 locs1 → H1[q9]? = some ce → ce.vm = .none → s.vm.findClass E = some ce.cls → vx_W p l e R s m args below meth c H1 locs1 (cells + mc) (slots + ms) Q (F0 m pc ls rest) q9)
    (kk : ∀ (r : UInt64) (u : S) (t : State) (H1 : Heap) (locs1 : List Loc), t.heap = H1 → s.vm.Alike t.vm → post r u → B u t → H.size ≤ H1.size → (∀ q : Nat, q < H.size → ¬ A1 q → H1[q]? = H[q]?) → va_S A0 H0 H1 locs1 → W p l e R s m args below meth c H1 locs1 (cells + mc) (slots + ms) Q (F0 m (pc + 3) ls (.double r :: rest))) : W p l e R s m args below meth c H locs cells slots Q (F0 m pc ls st0) := by
  intro T hT X
  rcases hr T hT X with ⟨v, st₀, t, T', L, h0, X', hL, e1, e2, ⟨⟨r, u, hv, hp, hb⟩, hF⟩, st⟩ | ⟨q, st₀, t, T', L, E, ce, h0, X', hL, e1, e2, ⟨u, hp, hb, hF⟩, hce, hcv, hcl, st⟩
  · cases hv
    obtain ⟨k1, k2, k3⟩ := vx_keep h0 e1 hS hA hf hL hF
    obtain ⟨t2, a1, b1⟩ := kk r u t T'.heap (locs ++ L) e1.symm (by rw [← e2]; exact X'.warmed.alike) hp hb k1 k2 k3 T' rfl X'
    exact ⟨t2, st t2 a1, b1⟩
  · obtain ⟨k1, k2, k3⟩ := vx_keep h0 e1 hS hAX hf hL hF
    obtain ⟨t2, a1, b1⟩ := kx E ce q u t T'.heap (locs ++ L) e1.symm (by rw [← e2]; exact X'.warmed.alike) hp hb k1 k2 k3 (by rw [e1]; exact hce) hcv hcl T' rfl X'
    exact ⟨t2, st.trans a1, b1⟩
theorem vx_callv {S SX : Type} {post : S → Prop} {px : SX → Prop} {B : S → State → Prop} {BX : String → SX → State → Prop} {AX : Nat → Prop} (hr : vx_Run p l e R s m args below meth c H locs cells slots mc ms (F0 m pc ls st0) rest (va_Qv post B A1 a) (vx_X px BX AX) free) (hS : va_S A0 H0 H locs) (hA : ∀ q, q < H.size → A1 q → A0 q) (hf : ∀ q, free q → A0 q) (hAX : ∀ q, q < H.size → AX q → A0 q)
    (kx : ∀ (E : String) (ce : Cell) (q9 : Addr) (u : SX) (t : State) (H1 : Heap) (locs1 : List Loc), t.heap = H1 → s.vm.Alike t.vm → px u → BX E u t → H.size ≤ H1.size → (∀ q : Nat, q < H.size → ¬ AX q → H1[q]? = H[q]?) → va_S A0 H0 H1 locs1 → H1[q9]? = some ce → ce.vm = .none → s.vm.findClass E = some ce.cls → vx_W p l e R s m args below meth c H1 locs1 (cells + mc) (slots + ms) Q (F0 m pc ls rest) q9)
    (kk : ∀ (u : S) (t : State) (H1 : Heap) (locs1 : List Loc), t.heap = H1 → s.vm.Alike t.vm → post u → B u t → H.size ≤ H1.size → (∀ q : Nat, q < H.size → ¬ A1 q → H1[q]? = H[q]?) → va_S A0 H0 H1 locs1 → W p l e R s m args below meth c H1 locs1 (cells + mc) (slots + ms) Q (F0 m (pc + 3) ls (rest))) : W p l e R s m args below meth c H locs cells slots Q (F0 m pc ls st0) := by
  intro T hT X
  rcases hr T hT X with ⟨v, st₀, t, T', L, h0, X', hL, e1, e2, ⟨⟨u, hv, hp, hb⟩, hF⟩, st⟩ | ⟨q, st₀, t, T', L, E, ce, h0, X', hL, e1, e2, ⟨u, hp, hb, hF⟩, hce, hcv, hcl, st⟩
  · cases hv
    obtain ⟨k1, k2, k3⟩ := vx_keep h0 e1 hS hA hf hL hF
    obtain ⟨t2, a1, b1⟩ := kk u t T'.heap (locs ++ L) e1.symm (by rw [← e2]; exact X'.warmed.alike) hp hb k1 k2 k3 T' rfl X'
    exact ⟨t2, st t2 a1, b1⟩
  · obtain ⟨k1, k2, k3⟩ := vx_keep h0 e1 hS hAX hf hL hF
    obtain ⟨t2, a1, b1⟩ := kx E ce q u t T'.heap (locs ++ L) e1.symm (by rw [← e2]; exact X'.warmed.alike) hp hb k1 k2 k3 (by rw [e1]; exact hce) hcv hcl T' rfl X'
    exact ⟨t2, st.trans a1, b1⟩
theorem vx_catch {own name : String} {E : String} {ce : Cell} {q : Addr} (hown : s.vm.findClass own = some m.cls) (pre : List ExceptionTableEntry) (x : ExceptionTableEntry) (suf : List ExceptionTableEntry) (hsplit : c.exceptionTable.toList = pre ++ x :: suf)
    (hpass : ∀ z ∈ pre, covers z pc = false ∨ (z.catchType ≠ 0 ∧ ∃ nm : String, (Cond.classLink own z.catchType nm).before args s = true ∧ va_Nc E nm s)) (hx : covers x pc = true) (h0 : x.catchType ≠ 0)
    (hlink : (Cond.classLink own x.catchType name).before args s = true) (hcast : (Cond.castable E name).before args s = true) (hcell : H[q]? = some ce) (hv : ce.vm = .none) (hcl : s.vm.findClass E = some ce.cls)
    (kk : W p l e R s m args below meth c H locs cells slots Q (F0 m x.handlerPc ls [.ref q])) : vx_W p l e R s m args below meth c H locs cells slots Q (F0 m pc ls rest) q := by
  intro T hT X
  have hpl : e.platform.magicAccessors = ({} : Platform).magicAccessors := by rw [X.admits.platform]
  obtain ⟨c3, c4, hc3, hc4, hasg⟩ := Cond.castable_spec hcast
  cases Option.some.inj (hc3.symm.trans hcl)
  obtain ⟨c5, hc5, hcl5⟩ := Cond.classLink_spec hown hlink e.platform hpl
  cases Option.some.inj (hc4.symm.trans hc5)
  obtain ⟨vm', X', st⟩ := X.thenCaughtThrough q (g := F0 m pc ls rest) rfl (Steps.refl _) (by rw [hT]; exact hcell) (by rw [hv]; rfl) (by obtain ⟨k9, h9, -⟩ := Vm.findClass_spec hcl; exact ⟨k9, h9⟩) pre x suf hsplit
    (fun z hz => by
      rcases hpass z hz with h | ⟨hz0, nm, hl1, hn1⟩
      · exact Or.inl h
      · obtain ⟨c6, hc6, hcl6⟩ := Cond.classLink_spec hown hl1 e.platform hpl
        obtain ⟨a8, b8, h1, h2, h3⟩ := hn1
        cases Option.some.inj (h1.symm.trans hcl)
        cases Option.some.inj (h2.symm.trans hc6)
        exact Or.inr ⟨hz0, _, hcl6, h3⟩) hx (Or.inr ⟨h0, c4, hcl5, hasg⟩)
  obtain ⟨t, a1, b1⟩ := kk (T.setVm vm') hT X'
  exact ⟨t, st.trans a1, b1⟩
end Rows
section Ends
variable {p : Program} {l : Launch} {e : Env} {R : Room} {s : State} {m : MethodId} {args : Array Value} {below : List Frame} {meth : Method} {c : Code} {H : Heap} {locs : List Loc} {cells slots : Nat} {Q : State → Prop}
variable {mc ms : Nat} {free : Addr → Prop} {A0 A1 : Nat → Prop} {H0 : Heap} {a : Array Value} {ls : Array Slot} {st0 rest : List Value}
variable {Qc : Array Value → State → Outcome → State → Prop} {XC : String → State → State → Prop}
def vx_MQ (below : List Frame) (Qc : Array Value → State → Outcome → State → Prop) (XC : String → State → State → Prop) (a : Array Value) (s : State) (mc ms : Nat) (free : Addr → Prop) : State → Prop := fun t =>
  ∃ o, t.status = .running ∧ Ended t below o ∧ vx_Q Qc XC mc ms free a s o t
theorem vx_ret {g : JFrame} {mc ms : Nat} (k : W p l e R s m args below meth c H locs cells slots (MQ below Qc args s mc ms free) g) : W p l e R s m args below meth c H locs cells slots (vx_MQ below Qc XC args s mc ms free) g := by
  intro T hT X
  obtain ⟨t, a1, o, b1, b2, b3, b4⟩ := k T hT X
  exact ⟨t, a1, o, b1, b2, Or.inl ⟨b3, b4⟩⟩
theorem vx_widen {g : JFrame} {q : Addr} {k n : Nat} (h1 : cells ≤ k) (h2 : slots ≤ n) (kk : vx_W p l e R s m args below meth c H locs k n Q g q) : vx_W p l e R s m args below meth c H locs cells slots Q g q := fun T hT X => kk T hT (stand_widen X h1 h2)
theorem vx_out {pc : Nat} {E : String} {ce : Cell} {q : Addr} {mc ms : Nat} (hout : ∀ x ∈ c.exceptionTable.toList, covers x pc = false) (hlocks : meth.locks = false) (hcell : H[q]? = some ce) (hv : ce.vm = .none) (hcl : s.vm.findClass E = some ce.cls)
    (hx : ∀ t : State, t.heap = H → s.vm.Alike t.vm → XC E s t) (hf : ∀ z ∈ locs, free z.base) (hc : cells ≤ mc) (hs : slots ≤ ms) :
    vx_W p l e R s m args below meth c H locs cells slots (vx_MQ below Qc XC args s mc ms free) (F0 m pc ls rest) q := by
  intro T hT X
  obtain ⟨st1, hrun, hend, hW, hsm⟩ := X.leaveThrown q (g := F0 m pc ls rest) rfl rfl rfl hout hlocks
  have hcell9 : (T.setFrames (.throwing q :: below)).heap[q]? = some ce := by
    show T.heap[q]? = some ce
    rw [hT]; exact hcell
  exact ⟨_, st1, .threw q, hrun, hend, Or.inr ⟨q, rfl, E, ce, locs, hx _ hT hW.alike, hcell9, hv, hcl, hW, hsm.mono hc hs, hf⟩⟩
theorem vx_frame {U : State} {k n : Nat} (h : s.sameButNew ({ U with vm := s.vm } : State) locs k n) : s.heap.size ≤ U.heap.size ∧ ∀ q : Nat, q < s.heap.size → (∀ z ∈ locs, z.base ≠ q) → U.heap[q]? = s.heap[q]? := by
  obtain ⟨-, h2, -, -, -, h6⟩ := h
  refine ⟨h2, fun q hq hz => ?_⟩
  obtain ⟨c9, e1, e2, e3, e4⟩ := h6 q _ (Array.getElem?_eq_getElem hq)
  have hs : c9.slots = (s.heap[q]).slots := Array.ext_getElem? fun i => e4 i fun hm => hz _ hm rfl
  have h9 : c9 = s.heap[q] := by
    rw [hs] at e2
    exact e2
  have e5 : U.heap[q]? = some c9 := e1
  rw [e5, h9, Array.getElem?_eq_getElem hq]
def vx_no (w : Cond) : Bool := decide (w ≠ .isRef (.static Bundle.tN "UNASSIGNED_STACK" Bundle.steD)) && decide (w ≠ .isRef (.static Bundle.tN "SUPPRESSED_SENTINEL" Bundle.listD)) && decide (w ≠ .laysStatic Bundle.tN "UNASSIGNED_STACK" Bundle.steD) && decide (w ≠ .laysStatic Bundle.tN "SUPPRESSED_SENTINEL" Bundle.listD)
def vx_at0 (own : String) (ic : Nat) (X : String) (names : List String) : List Cond := (Bundle.ownAtoms0 own ic X names).filter vx_no
def vx_atS (own : String) (ic : Nat) (X : String) (names : List String) : List Cond := (Bundle.ownAtoms own ic X names).filter vx_no
def vx_ot (w : Cond) : Bool := w.onTables || goodWord w
theorem vx_ot_at {args a' : Array Value} {s U : State} {w : Cond} (hW : s.WarmedH U.vm) (hvm : s.vm = U.vm) (hg : vx_ot w = true) (h : w.before args s = true) : w.before a' U = true := by
  simp only [vx_ot, Bool.or_eq_true] at hg
  rcases hg with hg | hg
  · exact va_tabs hg hvm h
  · exact word_at hW (good_of_word hg) h
theorem vx_hat {args : Array Value} {s : State} {L B : List Cond} (h1 : ∀ w ∈ L.filter goodWord, w.before args s = true) (h2 : ∀ w ∈ L.filter (fun w => !goodWord w), w ∈ B) (h3 : ∀ w ∈ B, w.before args s = true) : ∀ w ∈ L, w.before args s = true := by
  intro w hw
  by_cases g : goodWord w = true
  · exact h1 w (List.mem_filter.mpr ⟨hw, g⟩)
  · refine h3 w (h2 w (List.mem_filter.mpr ⟨hw, ?_⟩))
    show (!goodWord w) = true
    cases hgw : goodWord w
    · rfl
    · exact absurd hgw g
theorem vx_c {args : Array Value} {s : State} {w : Cond} {B : List Cond} (h : w.before args s = true) (t : ∀ w ∈ B, w.before args s = true) : ∀ w' ∈ w :: B, w'.before args s = true := fun w' h' => (List.mem_cons.mp h').elim (fun e => by rw [e]; exact h) (t w')
theorem vx_n {args : Array Value} {s : State} : ∀ w ∈ ([] : List Cond), w.before args s = true := fun _ h => nomatch h
theorem vx_own {args : Array Value} {s : State} {L : List Cond} (h1 : ∀ w ∈ L.filter vx_no, w.before args s = true)
    (hU : (Cond.isRef (.static Bundle.tN "UNASSIGNED_STACK" Bundle.steD)).before args s = true) (hN : (Cond.isRef (.static Bundle.tN "SUPPRESSED_SENTINEL" Bundle.listD)).before args s = true)
    (lU : (Cond.laysStatic Bundle.tN "UNASSIGNED_STACK" Bundle.steD).before args s = true) (lN : (Cond.laysStatic Bundle.tN "SUPPRESSED_SENTINEL" Bundle.listD).before args s = true) : ∀ w ∈ L, w.before args s = true := by
  intro w hw
  by_cases e1 : w = .isRef (.static Bundle.tN "UNASSIGNED_STACK" Bundle.steD)
  · rw [e1]; exact hU
  · by_cases e2 : w = .isRef (.static Bundle.tN "SUPPRESSED_SENTINEL" Bundle.listD)
    · rw [e2]; exact hN
    · by_cases e3 : w = .laysStatic Bundle.tN "UNASSIGNED_STACK" Bundle.steD
      · rw [e3]; exact lU
      · by_cases e4 : w = .laysStatic Bundle.tN "SUPPRESSED_SENTINEL" Bundle.listD
        · rw [e4]; exact lN
        · exact h1 w (List.mem_filter.mpr ⟨hw, by unfold vx_no; rw [decide_eq_true e1, decide_eq_true e2, decide_eq_true e3, decide_eq_true e4]; rfl⟩)
def vx_L (C n d : String) (A : Nat → Prop) (U : State) (H : Heap) : Prop := ∃ (c : ClassId) (k : Class) (i : Nat) (f : Field) (a : Nat) (cell : Cell), U.vm.findClass C = some c ∧ U.fieldFound? C n d = some (c, k, i, f) ∧ f.isStatic = true ∧ k.statics = some a ∧ H[a]? = some cell ∧ cell.vm.isStatics = true ∧ cell.cls = c ∧ f.slot < cell.slots.size ∧ k.staticTypes[f.slot]? = some f.type ∧ ¬ A a
theorem vx_L.moved {C n d : String} {A : Nat → Prop} {u U : State} {H : Heap} (hvm : u.vm.Alike U.vm) (h : vx_L C n d A u H) : vx_L C n d A U H := by
  obtain ⟨c, k, i, f, a, cell, h1, h2, h3, h4, h5, h6, h7, h8, h9, h10⟩ := h
  obtain ⟨k', hi', he⟩ := State.fieldFound?_setVm hvm h2
  exact ⟨c, k', i, f, a, cell, by rw [hvm.findClass]; exact h1, hi', h3, by rw [he]; exact h4, h5, h6, h7, h8, by rw [he]; exact h9, h10⟩
theorem vx_L.kept {C n d : String} {A : Nat → Prop} {U : State} {H H1 : Heap} (h : vx_L C n d A U H) (hq : ∀ a : Nat, a < H.size → ¬ A a → H1[a]? = H[a]?) : vx_L C n d A U H1 := by
  obtain ⟨c, k, i, f, a, cell, h1, h2, h3, h4, h5, h6, h7, h8, h9, h10⟩ := h
  exact ⟨c, k, i, f, a, cell, h1, h2, h3, h4, by rw [hq a (Array.getElem?_eq_some_iff.mp h5).1 h10]; exact h5, h6, h7, h8, h9, h10⟩
theorem vx_L.narrow {C n d : String} {A B : Nat → Prop} {U : State} {H : Heap} (h : vx_L C n d A U H) (hAB : ∀ q, B q → A q) : vx_L C n d B U H := by
  obtain ⟨c, k, i, f, a, cell, h1, h2, h3, h4, h5, h6, h7, h8, h9, h10⟩ := h
  exact ⟨c, k, i, f, a, cell, h1, h2, h3, h4, h5, h6, h7, h8, h9, fun z => h10 (hAB _ z)⟩
theorem vx_L.word {C n d : String} {A : Nat → Prop} {s : State} {args : Array Value} (h : vx_L C n d A s s.heap) : (Cond.laysStatic C n d).before args s = true := by
  obtain ⟨c, k, i, f, a, cell, h1, h2, h3, h4, h5, h6, h7, h8, h9, -⟩ := h
  show (Cond.laysStatic C n d).holds args s none s [] = true
  exact Cond.laysStatic_of h1 h2 h3 h4 h5 h6 h7 h8 h9
def vx_Zq (C n d : String) (A : Nat → Prop) (U : State) (H : Heap) : Prop := va_Zq C n d A U H ∧ vx_L C n d A U H
theorem vx_Zq.moved {C n d : String} {A : Nat → Prop} {u U : State} {H : Heap} (hvm : u.vm.Alike U.vm) (h : vx_Zq C n d A u H) : vx_Zq C n d A U H := ⟨va_Zq.moved hvm h.1, vx_L.moved hvm h.2⟩
theorem vx_Zq.kept {C n d : String} {A : Nat → Prop} {U : State} {H H1 : Heap} (h : vx_Zq C n d A U H) (hq : ∀ a : Nat, a < H.size → ¬ A a → H1[a]? = H[a]?) : vx_Zq C n d A U H1 := ⟨va_Zq.kept h.1 hq, vx_L.kept h.2 hq⟩
theorem vx_Zq.narrow {C n d : String} {A B : Nat → Prop} {U : State} {H : Heap} (h : vx_Zq C n d A U H) (hAB : ∀ q, B q → A q) : vx_Zq C n d B U H := ⟨va_Zq.narrow h.1 hAB, vx_L.narrow h.2 hAB⟩
theorem vx_Zqof {args : Array Value} {s : State} {C n d : String} {A : Nat → Prop} (hl : (Cond.laysStatic C n d).before args s = true) (hini : (Cond.initialized C).before args s = true) (h : (Cond.isRef (.static C n d)).before args s = true) (hA : ∀ a : Nat, a < s.heap.size → ¬ A a) : vx_Zq C n d A s s.heap := by
  refine ⟨va_Zqof hl hini h hA, ?_⟩
  obtain ⟨c, k, i, f, a, cell, h1, h2, h3, h4, h5, h6, h7, h8, h9⟩ := Cond.laysStatic_spec hl
  exact ⟨c, k, i, f, a, cell, h1, h2, h3, h4, h5, h6, h7, h8, h9, hA a (Array.getElem?_eq_some_iff.mp h5).1⟩
theorem vx_isRef {C n d : String} {v : Value} {A : Nat → Prop} {s : State} {args : Array Value} (h : va_Z C n d v A s s.heap) (hv : v.isRef = true) : (Cond.isRef (.static C n d)).before args s = true := by
  obtain ⟨cf, kf, fi, f, a, cell, h1, h2, h3, h4, h5, h6, h7, -⟩ := h
  have he : (Term.static C n d).eval args s none [] s = some v := by
    simp [Term.eval, State.fieldNamed?, h1, h2, h4, h5, h6, h7]
  simp only [Cond.before, Cond.holds, Cond.value, he]
  cases v <;> simp_all [Value.isRef]
theorem vx_isRefq {C n d : String} {A : Nat → Prop} {s : State} {args : Array Value} (h : va_Zq C n d A s s.heap) : (Cond.isRef (.static C n d)).before args s = true := by
  rcases h with h | ⟨t, h⟩
  · exact vx_isRef h rfl
  · exact vx_isRef h rfl
theorem vx_rebase {T : State} (X : Stand p l e R s m args below meth c T locs cells slots) {R' : Room} (hf : R'.frames ≤ R.frames) (hl : R'.locals ≤ R.locals) (hc : cells + R'.cells ≤ R.cells) (hs : slots + R'.slots ≤ R.slots) :
    Stand p l e R' ((T.setVm s.vm).setFrames (.invoking m args :: below)) m args below meth c T [] 0 0 := by
  have htop : (T.setVm s.vm).topJava?.isSome := X.here.top
  have hF : ((T.setVm s.vm).setFrames (.invoking m args :: below)).frames = .invoking m args :: below := State.frames_setFrames _ (State.cur_lt_of_top htop)
  obtain ⟨g₀, hg0⟩ := Option.isSome_iff_exists.mp htop
  obtain ⟨r, hr⟩ := State.topJava?_eq_some.mp hg0
  have hl9 : e.platform.stackLimits (T.setVm s.vm).me = e.platform.stackLimits s.me := X.limits
  have hb9 : (T.setVm s.vm).me.stackBytes = s.me.stackBytes := X.bytes
  refine ⟨X.admits, X.cas, X.clock, hF, ?_, X.hears, X.method, X.code, X.here, X.tail, X.warmed, ?_, ?_, ?_⟩
  · have h := X.room
    have hU : ((T.setVm s.vm).setFrames (.invoking m args :: below)).localsInUse = s.localsInUse := by
      rw [State.localsInUse_invoking hF (meth := meth) (c := c) X.method X.code, State.localsInUse_invoking X.frames X.method X.code]
    simp only [State.hasRoom, Bool.and_eq_true, decide_eq_true_eq] at h ⊢
    obtain ⟨⟨⟨⟨h1, h2, h3, h4, h5, h6⟩, h7⟩, h8⟩, h9⟩ := h
    rw [X.frames, List.length_cons] at h2 h3
    have q1 := X.heapSize
    have q2 := X.used
    simp only [hF, hU, List.length_cons, State.stackLimits_setFrames, State.stackBytes_setFrames, hl9, hb9]
    refine ⟨⟨⟨⟨by omega, by omega, by omega, by omega, by omega, h6⟩, ?_⟩, ?_⟩, X.book⟩
    · show T.heap.size + R'.cells ≤ e.platform.maxCells
      omega
    · show T.slotsUsed + R'.slots ≤ e.platform.maxSlots
      omega
  · rw [State.stackLimits_setFrames]; rfl
  · rw [State.stackBytes_setFrames]; rfl
  · refine ⟨?_, Nat.le_refl _, Nat.le_refl _, ?_, ?_, fun a c9 h9 => ⟨c9, h9, rfl, rfl, fun _ _ => rfl⟩⟩
    · obtain ⟨t, ht, -⟩ := State.frames_cons hr
      show T.setVm s.vm = { ((T.setVm s.vm).setFrames (.invoking m args :: below)).setFrames (T.setVm s.vm).frames with heap := T.heap, slotsUsed := T.slotsUsed }
      rw [State.setFrames_setFrames, State.setFrames_self ht]
      rfl
    · show T.slotsUsed = T.slotsUsed + ((T.heap.toList.drop T.heap.size).map (·.slots.size)).sum
      rw [List.drop_eq_nil_of_le (Nat.le_of_eq Array.length_toList)]
      rfl
    · show ((T.heap.toList.drop T.heap.size).map (·.slots.size)).sum ≤ 0
      rw [List.drop_eq_nil_of_le (Nat.le_of_eq Array.length_toList)]
      exact Nat.le_refl _
theorem vx_throw0 {cc : ByteArray} {pc : Nat} (hexec : p.tables.exec = Jvm.exec) (hb : c.code = cc) (hl : l.stackTraces = false) {own cls : String} {names : List String} {ik ic mc ms : Nat} {A : Nat → Prop}
    (hown : s.vm.findClass own = some m.cls) (hcls : Bundle.fit cls = true) (hnames : ∀ n ∈ names, Bundle.fit n = true)
    (hk : (Cond.classLink own ik cls).before args s = true) (hini : (Cond.initialized cls).before args s = true) (hat : ∀ w ∈ vx_at0 own ic cls names, w.before args s = true)
    (hgood : ∀ w ∈ Cond.classLink own ik cls :: Cond.initialized cls :: vx_at0 own ic cls names, vx_ot w = true)
    (hU : vx_Zq Bundle.tN "UNASSIGNED_STACK" Bundle.steD A s s.heap) (hN : vx_Zq Bundle.tN "SUPPRESSED_SENTINEL" Bundle.listD A s s.heap) (hS : va_S A s.heap H locs) (hsize : ls.size = c.maxLocals)
    (d0 : decode cc pc = .ok (.new ik, 3)) (d3 : decode cc (pc + 3) = .ok (.dup, 1)) (d4 : decode cc (pc + 4) = .ok (.invokespecial ic, 3)) (d7 : decode cc (pc + 7) = .ok (.athrow, 1))
    (hout : ∀ x ∈ c.exceptionTable.toList, covers x (pc + 7) = false)
    (hRframes : names.length + 3 < R.frames) (hRlocals : (rest.map fun v => v.category).sum + (13 * (names.length + 1) + 42) ≤ R.locals) (hRcells : cells + 1 ≤ R.cells) (hRslots : slots + 6 ≤ R.slots) (hlocks : meth.locks = false)
    (hx : ∀ t : State, s.vm.Alike t.vm → H.size ≤ t.heap.size → (∀ q : Nat, q < H.size → t.heap[q]? = H[q]?) → XC cls s t)
    (hf : ∀ z ∈ locs, free z.base) (hc : cells + 1 ≤ mc) (hs : slots + 6 ≤ ms) :
    W p l e R s m args below meth c H locs cells slots (vx_MQ below Qc XC args s mc ms free) (F0 m pc ls rest) := by
  intro T hT X
  have htr : e.platform.stackTraces = false := (show e.platform.stackTraces = l.stackTraces by rw [X.admits.platform]).trans hl
  have Y := vx_rebase X (R' := { frames := R.frames, locals := R.locals, cells := 1, slots := 6 }) (Nat.le_refl _) (Nat.le_refl _) hRcells hRslots
  obtain ⟨s', hA⟩ : ∃ z, z = (T.setVm s.vm).setFrames (.invoking m args :: below) := ⟨_, rfl⟩
  rw [← hA] at Y
  have hvm : s'.vm = s.vm := by rw [hA]; rfl
  have hhp : s'.heap = H := by rw [hA]; exact hT
  have hW0 : s.WarmedH s'.vm := by rw [hvm]; exact State.WarmedH.refl s
  have hat' : ∀ w ∈ vx_at0 own ic cls names, w.before args s' = true := fun w hw => vx_ot_at hW0 hvm.symm (hgood w (List.mem_cons_of_mem _ (List.mem_cons_of_mem _ hw))) (hat w hw)
  have hk' : (Cond.classLink own ik cls).before args s' = true := vx_ot_at hW0 hvm.symm (hgood _ List.mem_cons_self) hk
  have hini' : (Cond.initialized cls).before args s' = true := vx_ot_at hW0 hvm.symm (hgood _ (List.mem_cons_of_mem _ List.mem_cons_self)) hini
  have hU' : vx_Zq Bundle.tN "UNASSIGNED_STACK" Bundle.steD A s' s'.heap := by rw [hhp]; exact vx_Zq.moved hW0.alike (hU.kept hS.2.1)
  have hN' : vx_Zq Bundle.tN "SUPPRESSED_SENTINEL" Bundle.listD A s' s'.heap := by rw [hhp]; exact vx_Zq.moved hW0.alike (hN.kept hS.2.1)
  have h : ∀ w ∈ Bundle.ownAtoms0 own ic cls names, w.before args s' = true := vx_own hat' (vx_isRefq hU'.1) (vx_isRefq hN'.1) hU'.2.word hN'.2.word
  have hown' : s'.vm.findClass own = some m.cls := by rw [hvm]; exact hown
  have hins : (Cond.instantiable cls 6).before args s' = true := h _ (by simp [Bundle.ownAtoms0])
  obtain ⟨vm₁, cX, kX, hfX, hkX, -, -, X₁, st1⟩ := Y.newCold hexec (own := own) (C := cls) (index := ik) (n := 6) hown' hk' hins hini'
    (g := F0 m pc ls rest) rfl (by rw [hb]; exact d0) (Nat.le_refl _) (Nat.le_refl _)
  generalize hT1 : (T.setVm vm₁).pushCell { cls := cX, slots := kX.instanceTypes.map defaultValue, vm := .none } = T1 at X₁ st1
  have hcat : (Value.ref T.heap.size).category = 1 := rfl
  have hcellA : T1.heap[T.heap.size]? = some (freshCell cX kX) := by rw [← hT1]; exact State.heap_pushCell_size _ _
  have d3' : decode c.code (pc + 3) = .ok (.dup, 1) := by rw [hb]; exact d3
  obtain ⟨U, hsteps, hrun, hend, hW, hsame, ce, hce, hO⟩ := X₁.ctorThrow0 hexec htr (own := own) (cls := cls) (names := names) (ic := ic) hown' hcls hnames h (fun x hx => nomatch hx) hfX hkX hcellA (by rw [hhp, hT]; exact Nat.le_refl _)
    (g := { method := m, pc := pc + 4, locals := ls, stack := .ref T.heap.size :: .ref T.heap.size :: rest, locked := none }) rfl hsize rfl rfl (rest := rest) rfl
    (by rw [hb]; exact d4) (by rw [hb]; exact d7) hout hRframes (by simp only [List.map_cons, List.sum_cons, hcat]; omega) hlocks
  obtain ⟨f1, f2⟩ := vx_frame hsame
  rw [hhp] at f1 f2
  have hWs : s.WarmedH U.vm := State.WarmedH.trans hW0 hW
  have hcl : s.vm.findClass cls = some ce.cls := by
    have h9 := hO.cls
    rw [hvm] at h9
    exact h9
  have hall : s.sameButNew ({ U with vm := s.vm } : State) locs mc ms := by
    subst hA
    obtain ⟨e1, e2⟩ := hsame
    rw [State.setFrames_setFrames] at e1
    have h2 : (T.setVm s.vm).sameButNew ({ U with vm := s.vm } : State) [] (0 + 1) (0 + 6) := ⟨e1, e2⟩
    have h3 := X.same.trans h2
    rw [List.append_nil] at h3
    exact h3.mono hc hs
  refine ⟨U, ?_, .threw T.heap.size, hrun, hend, Or.inr ⟨T.heap.size, rfl, cls, ce, locs, hx U hWs.alike f1 (fun q hq => f2 q hq (fun z hz => nomatch hz)), hce, hO.vm, hcl, hWs, hall, hf⟩⟩
  refine st1 _ ?_
  show Steps p.tables e below (T1.setTop { method := m, pc := pc + 3, locals := ls, stack := .ref T.heap.size :: rest, locked := none }) _
  jvm_step X₁.here [X₁.here.top, hexec, d3', Value.category]
  exact hsteps
theorem vx_throwS {cc : ByteArray} {pc : Nat} (hexec : p.tables.exec = Jvm.exec) (hb : c.code = cc) (hl : l.stackTraces = false) {own cls text : String} {names : List String} {ik is ic mc ms sa : Nat} {A : Nat → Prop}
    (hown : s.vm.findClass own = some m.cls) (hcls : Bundle.fit cls = true) (hnames : ∀ n ∈ names, Bundle.fit n = true)
    (hk : (Cond.classLink own ik cls).before args s = true) (hini : (Cond.initialized cls).before args s = true) (hstr : vk_R own is text sa s) (hat : ∀ w ∈ vx_atS own ic cls names, w.before args s = true)
    (hgood : ∀ w ∈ Cond.classLink own ik cls :: Cond.initialized cls :: vx_atS own ic cls names, vx_ot w = true)
    (hU : vx_Zq Bundle.tN "UNASSIGNED_STACK" Bundle.steD A s s.heap) (hN : vx_Zq Bundle.tN "SUPPRESSED_SENTINEL" Bundle.listD A s s.heap) (hS : va_S A s.heap H locs) (hsize : ls.size = c.maxLocals)
    (d0 : decode cc pc = .ok (.new ik, 3)) (d3 : decode cc (pc + 3) = .ok (.dup, 1)) (d4 : decode cc (pc + 4) = .ok (.ldc is, 2)) (d6 : decode cc (pc + 6) = .ok (.invokespecial ic, 3)) (d9 : decode cc (pc + 9) = .ok (.athrow, 1))
    (hout : ∀ x ∈ c.exceptionTable.toList, covers x (pc + 9) = false)
    (hRframes : names.length + 3 < R.frames) (hRlocals : (rest.map fun v => v.category).sum + (13 * (names.length + 1) + 43) ≤ R.locals) (hRcells : cells + 1 ≤ R.cells) (hRslots : slots + 6 ≤ R.slots) (hlocks : meth.locks = false)
    (hx : ∀ t : State, s.vm.Alike t.vm → H.size ≤ t.heap.size → (∀ q : Nat, q < H.size → t.heap[q]? = H[q]?) → XC cls s t)
    (hf : ∀ z ∈ locs, free z.base) (hc : cells + 1 ≤ mc) (hs : slots + 6 ≤ ms) :
    W p l e R s m args below meth c H locs cells slots (vx_MQ below Qc XC args s mc ms free) (F0 m pc ls rest) := by
  intro T hT X
  have htr : e.platform.stackTraces = false := (show e.platform.stackTraces = l.stackTraces by rw [X.admits.platform]).trans hl
  have Y := vx_rebase X (R' := { frames := R.frames, locals := R.locals, cells := 1, slots := 6 }) (Nat.le_refl _) (Nat.le_refl _) hRcells hRslots
  obtain ⟨s', hA⟩ : ∃ z, z = (T.setVm s.vm).setFrames (.invoking m args :: below) := ⟨_, rfl⟩
  rw [← hA] at Y
  have hvm : s'.vm = s.vm := by rw [hA]; rfl
  have hhp : s'.heap = H := by rw [hA]; exact hT
  have hW0 : s.WarmedH s'.vm := by rw [hvm]; exact State.WarmedH.refl s
  have hat' : ∀ w ∈ vx_atS own ic cls names, w.before args s' = true := fun w hw => vx_ot_at hW0 hvm.symm (hgood w (List.mem_cons_of_mem _ (List.mem_cons_of_mem _ hw))) (hat w hw)
  have hk' : (Cond.classLink own ik cls).before args s' = true := vx_ot_at hW0 hvm.symm (hgood _ List.mem_cons_self) hk
  have hini' : (Cond.initialized cls).before args s' = true := vx_ot_at hW0 hvm.symm (hgood _ (List.mem_cons_of_mem _ List.mem_cons_self)) hini
  have hU' : vx_Zq Bundle.tN "UNASSIGNED_STACK" Bundle.steD A s' s'.heap := by rw [hhp]; exact vx_Zq.moved hW0.alike (hU.kept hS.2.1)
  have hN' : vx_Zq Bundle.tN "SUPPRESSED_SENTINEL" Bundle.listD A s' s'.heap := by rw [hhp]; exact vx_Zq.moved hW0.alike (hN.kept hS.2.1)
  have h : ∀ w ∈ Bundle.ownAtoms own ic cls names, w.before args s' = true := vx_own hat' (vx_isRefq hU'.1) (vx_isRefq hN'.1) hU'.2.word hN'.2.word
  have hown' : s'.vm.findClass own = some m.cls := by rw [hvm]; exact hown
  have hins : (Cond.instantiable cls 6).before args s' = true := h _ (by simp [Bundle.ownAtoms])
  obtain ⟨vm₁, cX, kX, hfX, hkX, -, -, X₁, st1⟩ := Y.newCold hexec (own := own) (C := cls) (index := ik) (n := 6) hown' hk' hins hini'
    (g := F0 m pc ls rest) rfl (by rw [hb]; exact d0) (Nat.le_refl _) (Nat.le_refl _)
  generalize hT1 : (T.setVm vm₁).pushCell { cls := cX, slots := kX.instanceTypes.map defaultValue, vm := .none } = T1 at X₁ st1
  have hcat : (Value.ref T.heap.size).category = 1 := rfl
  have hcellA : T1.heap[T.heap.size]? = some (freshCell cX kX) := by rw [← hT1]; exact State.heap_pushCell_size _ _
  have d3' : decode c.code (pc + 3) = .ok (.dup, 1) := by rw [hb]; exact d3
  have d4' : decode c.code (pc + 4) = .ok (.ldc is, 2) := by rw [hb]; exact d4
  have hstr' : vk_R own is text sa s' := vk_R.warm hW0 hstr
  obtain ⟨U, hsteps, hrun, hend, hW, hsame, ce, hce, hO⟩ := X₁.ctorThrowS hexec htr (own := own) (cls := cls) (names := names) (ic := ic) hown' hcls hnames h (fun x hx => nomatch hx) hfX hkX hcellA (by rw [hhp, hT]; exact Nat.le_refl _) (msg := .ref sa) rfl
    (g := { method := m, pc := pc + 6, locals := ls, stack := .ref sa :: .ref T.heap.size :: .ref T.heap.size :: rest, locked := none }) rfl hsize rfl rfl (rest := rest) rfl
    (by rw [hb]; exact d6) (by rw [hb]; exact d9) hout hRframes (by simp only [List.map_cons, List.sum_cons, hcat]; omega) hlocks
  obtain ⟨f1, f2⟩ := vx_frame hsame
  rw [hhp] at f1 f2
  have hWs : s.WarmedH U.vm := State.WarmedH.trans hW0 hW
  have hcl : s.vm.findClass cls = some ce.cls := by
    have h9 := hO.cls
    rw [hvm] at h9
    exact h9
  have hall : s.sameButNew ({ U with vm := s.vm } : State) locs mc ms := by
    subst hA
    obtain ⟨e1, e2⟩ := hsame
    rw [State.setFrames_setFrames] at e1
    have h2 : (T.setVm s.vm).sameButNew ({ U with vm := s.vm } : State) [] (0 + 1) (0 + 6) := ⟨e1, e2⟩
    have h3 := X.same.trans h2
    rw [List.append_nil] at h3
    exact h3.mono hc hs
  refine ⟨U, ?_, .threw T.heap.size, hrun, hend, Or.inr ⟨T.heap.size, rfl, cls, ce, locs, hx U hWs.alike f1 (fun q hq => f2 q hq (fun z hz => nomatch hz)), hce, hO.vm, hcl, hWs, hall, hf⟩⟩
  refine st1 _ ?_
  show Steps p.tables e below (T1.setTop { method := m, pc := pc + 3, locals := ls, stack := .ref T.heap.size :: rest, locked := none }) _
  jvm_step X₁.here [X₁.here.top, hexec, d3', Value.category]
  exact X₁.ldcString hexec (own := own) (text := text) (index := is) (a := sa) hown' hstr'.1 hstr'.2
    (g := { method := m, pc := pc + 4, locals := ls, stack := .ref T.heap.size :: .ref T.heap.size :: rest, locked := none }) rfl d4' _ hsteps
theorem vx_throwSW {cc : ByteArray} {pc : Nat} (hexec : p.tables.exec = Jvm.exec) (hb : c.code = cc) (hl : l.stackTraces = false) {own cls text : String} {names : List String} {ik is ic mc ms sa : Nat} {A : Nat → Prop}
    (hown : s.vm.findClass own = some m.cls) (hcls : Bundle.fit cls = true) (hnames : ∀ n ∈ names, Bundle.fit n = true)
    (hk : (Cond.classLink own ik cls).before args s = true) (hini : (Cond.initialized cls).before args s = true) (hstr : vk_R own is text sa s) (hat : ∀ w ∈ vx_atS own ic cls names, w.before args s = true)
    (hgood : ∀ w ∈ Cond.classLink own ik cls :: Cond.initialized cls :: vx_atS own ic cls names, vx_ot w = true)
    (hU : vx_Zq Bundle.tN "UNASSIGNED_STACK" Bundle.steD A s s.heap) (hN : vx_Zq Bundle.tN "SUPPRESSED_SENTINEL" Bundle.listD A s s.heap) (hS : va_S A s.heap H locs) (hsize : ls.size = c.maxLocals)
    (d0 : decode cc pc = .ok (.new ik, 3)) (d3 : decode cc (pc + 3) = .ok (.dup, 1)) (d4 : decode cc (pc + 4) = .ok (.ldc_w is, 3)) (d7 : decode cc (pc + 7) = .ok (.invokespecial ic, 3)) (d10 : decode cc (pc + 10) = .ok (.athrow, 1))
    (hout : ∀ x ∈ c.exceptionTable.toList, covers x (pc + 10) = false)
    (hRframes : names.length + 3 < R.frames) (hRlocals : (rest.map fun v => v.category).sum + (13 * (names.length + 1) + 43) ≤ R.locals) (hRcells : cells + 1 ≤ R.cells) (hRslots : slots + 6 ≤ R.slots) (hlocks : meth.locks = false)
    (hx : ∀ t : State, s.vm.Alike t.vm → H.size ≤ t.heap.size → (∀ q : Nat, q < H.size → t.heap[q]? = H[q]?) → XC cls s t)
    (hf : ∀ z ∈ locs, free z.base) (hc : cells + 1 ≤ mc) (hs : slots + 6 ≤ ms) :
    W p l e R s m args below meth c H locs cells slots (vx_MQ below Qc XC args s mc ms free) (F0 m pc ls rest) := by
  intro T hT X
  have htr : e.platform.stackTraces = false := (show e.platform.stackTraces = l.stackTraces by rw [X.admits.platform]).trans hl
  have Y := vx_rebase X (R' := { frames := R.frames, locals := R.locals, cells := 1, slots := 6 }) (Nat.le_refl _) (Nat.le_refl _) hRcells hRslots
  obtain ⟨s', hA⟩ : ∃ z, z = (T.setVm s.vm).setFrames (.invoking m args :: below) := ⟨_, rfl⟩
  rw [← hA] at Y
  have hvm : s'.vm = s.vm := by rw [hA]; rfl
  have hhp : s'.heap = H := by rw [hA]; exact hT
  have hW0 : s.WarmedH s'.vm := by rw [hvm]; exact State.WarmedH.refl s
  have hat' : ∀ w ∈ vx_atS own ic cls names, w.before args s' = true := fun w hw => vx_ot_at hW0 hvm.symm (hgood w (List.mem_cons_of_mem _ (List.mem_cons_of_mem _ hw))) (hat w hw)
  have hk' : (Cond.classLink own ik cls).before args s' = true := vx_ot_at hW0 hvm.symm (hgood _ List.mem_cons_self) hk
  have hini' : (Cond.initialized cls).before args s' = true := vx_ot_at hW0 hvm.symm (hgood _ (List.mem_cons_of_mem _ List.mem_cons_self)) hini
  have hU' : vx_Zq Bundle.tN "UNASSIGNED_STACK" Bundle.steD A s' s'.heap := by rw [hhp]; exact vx_Zq.moved hW0.alike (hU.kept hS.2.1)
  have hN' : vx_Zq Bundle.tN "SUPPRESSED_SENTINEL" Bundle.listD A s' s'.heap := by rw [hhp]; exact vx_Zq.moved hW0.alike (hN.kept hS.2.1)
  have h : ∀ w ∈ Bundle.ownAtoms own ic cls names, w.before args s' = true := vx_own hat' (vx_isRefq hU'.1) (vx_isRefq hN'.1) hU'.2.word hN'.2.word
  have hown' : s'.vm.findClass own = some m.cls := by rw [hvm]; exact hown
  have hins : (Cond.instantiable cls 6).before args s' = true := h _ (by simp [Bundle.ownAtoms])
  obtain ⟨vm₁, cX, kX, hfX, hkX, -, -, X₁, st1⟩ := Y.newCold hexec (own := own) (C := cls) (index := ik) (n := 6) hown' hk' hins hini'
    (g := F0 m pc ls rest) rfl (by rw [hb]; exact d0) (Nat.le_refl _) (Nat.le_refl _)
  generalize hT1 : (T.setVm vm₁).pushCell { cls := cX, slots := kX.instanceTypes.map defaultValue, vm := .none } = T1 at X₁ st1
  have hcat : (Value.ref T.heap.size).category = 1 := rfl
  have hcellA : T1.heap[T.heap.size]? = some (freshCell cX kX) := by rw [← hT1]; exact State.heap_pushCell_size _ _
  have d3' : decode c.code (pc + 3) = .ok (.dup, 1) := by rw [hb]; exact d3
  have d4' : decode c.code (pc + 4) = .ok (.ldc_w is, 3) := by rw [hb]; exact d4
  have hstr' : vk_R own is text sa s' := vk_R.warm hW0 hstr
  obtain ⟨U, hsteps, hrun, hend, hW, hsame, ce, hce, hO⟩ := X₁.ctorThrowS hexec htr (own := own) (cls := cls) (names := names) (ic := ic) hown' hcls hnames h (fun x hx => nomatch hx) hfX hkX hcellA (by rw [hhp, hT]; exact Nat.le_refl _) (msg := .ref sa) rfl
    (g := { method := m, pc := pc + 7, locals := ls, stack := .ref sa :: .ref T.heap.size :: .ref T.heap.size :: rest, locked := none }) rfl hsize rfl rfl (rest := rest) rfl
    (by rw [hb]; exact d7) (by rw [hb]; exact d10) hout hRframes (by simp only [List.map_cons, List.sum_cons, hcat]; omega) hlocks
  obtain ⟨f1, f2⟩ := vx_frame hsame
  rw [hhp] at f1 f2
  have hWs : s.WarmedH U.vm := State.WarmedH.trans hW0 hW
  have hcl : s.vm.findClass cls = some ce.cls := by
    have h9 := hO.cls
    rw [hvm] at h9
    exact h9
  have hall : s.sameButNew ({ U with vm := s.vm } : State) locs mc ms := by
    subst hA
    obtain ⟨e1, e2⟩ := hsame
    rw [State.setFrames_setFrames] at e1
    have h2 : (T.setVm s.vm).sameButNew ({ U with vm := s.vm } : State) [] (0 + 1) (0 + 6) := ⟨e1, e2⟩
    have h3 := X.same.trans h2
    rw [List.append_nil] at h3
    exact h3.mono hc hs
  refine ⟨U, ?_, .threw T.heap.size, hrun, hend, Or.inr ⟨T.heap.size, rfl, cls, ce, locs, hx U hWs.alike f1 (fun q hq => f2 q hq (fun z hz => nomatch hz)), hce, hO.vm, hcl, hWs, hall, hf⟩⟩
  refine st1 _ ?_
  show Steps p.tables e below (T1.setTop { method := m, pc := pc + 3, locals := ls, stack := .ref T.heap.size :: rest, locked := none }) _
  jvm_step X₁.here [X₁.here.top, hexec, d3', Value.category]
  exact X₁.ldcStringW hexec (own := own) (text := text) (index := is) (a := sa) hown' hstr'.1 hstr'.2
    (g := { method := m, pc := pc + 4, locals := ls, stack := .ref T.heap.size :: .ref T.heap.size :: rest, locked := none }) rfl d4' _ hsteps
end Ends
section Bodies
variable {l : Launch}
theorem vx_ofW {y : MethodName} {ws ws' : List Cond} {rm : Room} {Pc : Array Value → State → Prop} {Qc : Array Value → State → Outcome → State → Prop} {XC : String → State → State → Prop} {mc ms : Nat} {free : Addr → Prop} {cc : ByteArray} {maxL : Nat} {ret : Option FieldType}
    (hy : plainName y.cls = true) (hw : ws = Cond.code y cc maxL ret :: ws')
    (body : ∀ p e s m args below meth c s₁, BodyLoose p l y (headSpec ws rm) cc maxL ret e s m args below meth c s₁ → c.maxLocals = maxL → (∀ x ∈ c.exceptionTable.toList, False) → Pc args s →
      W p l e (headSpec ws rm).room s m args below meth c s.heap [] 0 0 (vx_MQ below Qc XC args s mc ms free) (entryFrame m args maxL)) : vx_Met l y ws rm Pc Qc XC mc ms free := by
  refine MetFree.of_bodyS (code := cc) (maxLocals := maxL) (ret := ret) hy ?_ ?_
  · intro args s m h hn
    obtain ⟨meth, c, h1, h2, h3, h4, h5, h6, -, -⟩ := Cond.code_spec hn (atoms_spec (ws := ws) h _ (by rw [hw]; exact List.mem_cons_self))
    exact ⟨meth, c, h1, h2, h3, h4, h5, h6⟩
  · intro p e s m args below meth c s₁ B hml hP _
    have hh0 : s₁.heap = s.heap := by rw [B.state]; rfl
    have ht : ∀ x ∈ c.exceptionTable.toList, False := by
      obtain ⟨meth9, c9, h1, h2, -, -, -, -, h7, -⟩ := Cond.code_spec B.named (atoms_spec (ws := ws) B.pre _ (by rw [hw]; exact List.mem_cons_self))
      cases Option.some.inj (h1.symm.trans B.method)
      cases Option.some.inj (h2.symm.trans (Stand.of_body B).code)
      intro x hx
      rw [Array.isEmpty_iff.mp h7] at hx
      cases hx
    obtain ⟨t, a1, o, b1, b2, b3⟩ := body p e s m args below meth c s₁ B hml ht hP s₁ hh0 (Stand.of_body B)
    exact ⟨t, o, a1, b1, b2, b3⟩
theorem vx_table {p : Program} {x y : MethodName} {S : Spec} {cc bytes : ByteArray} {maxL maxL' : Nat} {ret ret' : Option FieldType} {e : Env} {s s₁ : State} {m : MethodId} {args : Array Value} {below : List Frame} {meth : Method} {c : Code} {hh : List (Nat × Nat × Nat × Nat)}
    (B : BodyLoose p l y S cc maxL ret e s m args below meth c s₁) (h : (Cond.codeWith y bytes maxL' ret' hh).before args s = true) : c.exceptionTable.toList = tableOf hh := by
  obtain ⟨m9, meth9, c9, hn9, h1, h2, -, -, h6, -⟩ := Cond.codeWith_spec h
  cases Option.some.inj (hn9.symm.trans B.named)
  cases Option.some.inj (h1.symm.trans B.method)
  cases Option.some.inj (h2.symm.trans (Stand.of_body B).code)
  rw [← h6, table_eq]
end Bodies
end VXA
section VXS
variable {p : Program} {l : Launch} {e : Env} {R : Room} {s : State} {m : MethodId} {args : Array Value} {below : List Frame} {meth : Method} {c : Code} {T : State} {H : Heap} {locs : List Loc} {cells slots : Nat}
abbrev vx_CSW (R : Room) (s : State) (args : Array Value) (own : String) (index : Nat) (y : MethodName) (bytes : ByteArray) (maxL : Nat) (ret : Option FieldType) (hh : List (Nat × Nat × Nat × Nat)) (ws : List Cond) (rm : Room) (mc ms n : Nat) : Prop :=
  (rm.cells = mc ∧ rm.slots = ms ∧ rm.frames + 1 ≤ R.frames ∧ 8 + (maxL + 11) + rm.locals ≤ R.locals ∧ (∀ w ∈ ws, ∀ (a' : Array Value) (U : State), s.WarmedH U.vm → w.before a' U = true) ∧ Cond.codeWith y bytes maxL ret hh ∈ ws) ∧
  (Cond.codeWith y bytes maxL ret hh).before args s = true ∧ (Cond.initialized y.cls).before args s = true ∧ (y.cls ≠ "java/lang/invoke/MethodHandle" ∧ y.cls ≠ "java/lang/invoke/VarHandle") ∧
  (∀ sig, parseMethodDescriptor y.desc = some sig → n = sig.parameters.length) ∧ (Cond.methodLink own index y).before args s = true ∧ (Cond.static y).before args s = true
theorem vx_cwSW {own : String} {index maxL mc ms : Nat} {y : MethodName} {bytes : ByteArray} {ret : Option FieldType} {hh : List (Nat × Nat × Nat × Nat)} {Ts ws ws' : List Cond} {rm : Room} (n : Nat) (ht : ∀ w ∈ Ts, w.before args s = true) (hT : GoodIn Ts (va_wsS own index y ws)) (hw : ws = Cond.codeWith y bytes maxL ret hh :: ws') (hrc : rm.cells = mc) (hrs : rm.slots = ms)
    (hd : y.cls ≠ "java/lang/invoke/MethodHandle" ∧ y.cls ≠ "java/lang/invoke/VarHandle" ∧ (parseMethodDescriptor y.desc).map (fun d => d.parameters.length) = some n) (hR : rm.frames + 1 ≤ R.frames ∧ 8 + (maxL + 11) + rm.locals ≤ R.locals) :
    vx_CSW R s args own index y bytes maxL ret hh ws rm mc ms n := by
  have ok : ∀ w ∈ va_wsS own index y ws, w.before args s = true := fun w h => ht w (hT w h).1
  have hG : GoodIn Ts ws := fun w h => hT w (by unfold va_wsS; exact List.mem_append_right _ h)
  have hc : Cond.codeWith y bytes maxL ret hh ∈ ws := by rw [hw]; exact List.mem_cons_self
  refine ⟨⟨hrc, hrs, hR.1, hR.2, pay_in ht hG, hc⟩, ht _ (hG _ hc).1, ok _ (by simp [va_wsS]), ⟨hd.1, hd.2.1⟩, fun sig h => ?_, ok _ (by simp [va_wsS]), ok _ (by simp [va_wsS])⟩
  have h2 := hd.2.2
  rw [h] at h2
  exact (Option.some.inj h2).symm
theorem vx_callSW (X : Stand p l e R s m args below meth c T locs cells slots) (hexec : p.tables.exec = Jvm.exec) {own : String} {index : Nat} {y : MethodName} {bytes : ByteArray} {maxL : Nat} {ret : Option FieldType} {hh : List (Nat × Nat × Nat × Nat)}
    (hown : s.vm.findClass own = some m.cls) (hlink : (Cond.methodLink own index y).before args s = true) (hstat : (Cond.static y).before args s = true) (hinit : (Cond.initialized y.cls).before args s = true)
    (hcode : (Cond.codeWith y bytes maxL ret hh).before args s = true) (hy : y.cls ≠ "java/lang/invoke/MethodHandle" ∧ y.cls ≠ "java/lang/invoke/VarHandle")
    {W9 : Nat} {Pre : Pt → Array Value → Prop} {Post : Pt → Array Value → Option Value → Pt → Prop} (hK : Back l R p e below s args y 3 W9 Pre Post)
    {g : JFrame} (hg : g.method = m) (hsize : g.locals.size = c.maxLocals) {argsL rest : List Value} (hlen : ∀ sig, parseMethodDescriptor y.desc = some sig → argsL.length = sig.parameters.length)
    (hstack : g.stack = argsL.reverse ++ rest) (hW : 2 * g.monitorRoom + (rest.map fun v => v.category).sum ≤ W9) (hdg : decode c.code g.pc = .ok (.invokestatic index, 3))
    (hpre : ∀ vm₁, s.WarmedH vm₁ → Pre ⟨T.setVm vm₁, locs, cells, slots⟩ argsL.toArray) :
    ∃ (v : Option Value) (vm₁ : Vm) (B : Pt), s.WarmedH vm₁ ∧ Stand p l e R s m args below meth c B.U B.locs B.cells B.slots ∧ Post ⟨T.setVm vm₁, locs, cells, slots⟩ argsL.toArray v B ∧
      ∀ target, Steps p.tables e below (B.U.setTop { g with pc := g.pc + 3, stack := v.toList ++ rest }) target → Steps p.tables e below (T.setTop g) target := by
  obtain ⟨mk, methM, cM, hnamed, hmethM, -, -, -, -, -, -, hsigM⟩ := Cond.codeWith_spec hcode
  have hstatic : methM.isStatic = true := Cond.static_spec hnamed hmethM hstat
  obtain ⟨kP, hkP, -⟩ := className_of_methodNamed hnamed
  have hinitP : kP.init = .initialized := Cond.initialized_spec (findClass_of_methodNamed hnamed) hkP hinit
  obtain ⟨vm₁, X₁, hstep₁⟩ := X.invokestatic hexec hown hlink hnamed hmethM hstatic hkP hinitP hy (g := g) hg (argsL := argsL) (rest := rest) (hlen _ hsigM) hstack hdg
  obtain ⟨v, B, X', hpost, hsteps⟩ := hK m meth c ⟨T.setVm vm₁, locs, cells, slots⟩ { g with stack := rest } (.invokestatic index) mk argsL.toArray X₁ hg hsize hdg hW (X₁.named hnamed) (hpre vm₁ X₁.warmed)
  exact ⟨v, vm₁, B, X₁.warmed, X', hpost, fun target h => hstep₁ _ fun acts => by rw [doInvoke_state]; exact hsteps.trans h⟩
theorem vx_runSW {y : MethodName} {bytes cc : ByteArray} {maxL nL mc ms n index : Nat} {ret : Option FieldType} {hh : List (Nat × Nat × Nat × Nat)} {ws : List Cond} {rm : Room} {Pc : Array Value → State → Prop} {Qc : Array Value → State → Outcome → State → Prop} {free : Addr → Prop} {Ts : List Cond} {own : String} {As rest : List Value} {g : JFrame}
    (S : CallFix p m c cc nL s args Ts own) (hM : Met l y ws rm Pc Qc mc ms free) (cw : vx_CSW R s args own index y bytes maxL ret hh ws rm mc ms n) (hp : PreS s H Pc As)
    (hg : g.method = m) (hn : As.length = n) (hsize : g.locals.size = nL) (hstack : g.stack = As.reverse ++ rest) (hW : 2 * g.monitorRoom + (rest.map fun v => v.category).sum ≤ 8) (hdg : decode cc g.pc = .ok (.invokestatic index, 3)) (hf : cells + mc ≤ R.cells ∧ slots + ms ≤ R.slots) :
    va_Run p l e R s m args below meth c H locs cells slots mc ms g rest (Qc As.toArray) (free) := by
  obtain ⟨⟨hrc, hrs, hfr, hlo, hws, hcw⟩, hcode, hini, hy, hlen, hl, hstt⟩ := cw
  have hK : Back l R p e below s args y 3 8 (PreOf R mc ms Pc) (PostOf Qc mc ms free) := va_backW (hh := hh) (bytes := bytes) (maxL := maxL) (ret := ret) hM hp.1 hrc hrs hfr hlo hws hcw (fun a' U hW => word_at hW (Or.inl (by first | rfl | simp [Cond.onTables, Cond.keeps, Cond.steady])) hini)
  obtain ⟨hx, hb, hml, ho, -⟩ := S
  intro T hT X
  obtain ⟨v, vm₁, ⟨U', l2, c2, s2⟩, hW₁, X', ⟨g', mk, t, L, e1, e2, hq, h1, hL, h2, h3⟩, st⟩ := vx_callSW X hx (hh := hh) (bytes := bytes) (maxL := maxL) (ret := ret) ho hl hstt hini hcode hy hK hg (hsize.trans hml.symm) (argsL := As) (rest := rest) (fun sig h => hn.trans (hlen sig h)) hstack hW (by rw [hb]; exact hdg)
    (fun vm₁ hW₁ => ⟨hf.1, hf.2, hp.2 (T.setVm vm₁) hT hW₁⟩)
  dsimp only [Pt.U, Pt.locs, Pt.cells, Pt.slots] at X' e1 e2 h1 h2 h3 st
  subst h1; subst h2; subst h3
  exact ⟨v, (T.setVm vm₁).calling g' mk As.toArray, t, U', L, hT, X', hL, e1, e2, hq, st⟩
theorem vx_outP {p : Program} {l : Launch} {e : Env} {R : Room} {s : State} {m : MethodId} {args : Array Value} {below : List Frame} {meth : Method} {c : Code} {H : Heap} {locs : List Loc} {cells slots : Nat} {free : Addr → Prop} {ls : Array Slot} {rest : List Value} {Qc : Array Value → State → Outcome → State → Prop} {XC : String → State → State → Prop}
    {pc : Nat} {own E : String} {ce : Cell} {q : Addr} {mc ms : Nat} (hown : s.vm.findClass own = some m.cls) (hlocks : meth.locks = false)
    (hpass : ∀ z ∈ c.exceptionTable.toList, covers z pc = false ∨ (z.catchType ≠ 0 ∧ ∃ nm : String, (Cond.classLink own z.catchType nm).before args s = true ∧ va_Nc E nm s)) (hcell : H[q]? = some ce) (hv : ce.vm = .none) (hcl : s.vm.findClass E = some ce.cls)
    (hx : ∀ t : State, t.heap = H → s.vm.Alike t.vm → XC E s t) (hf : ∀ z ∈ locs, free z.base) (hc : cells ≤ mc) (hs : slots ≤ ms) :
    vx_W p l e R s m args below meth c H locs cells slots (vx_MQ below Qc XC args s mc ms free) (F0 m pc ls rest) q := by
  intro T hT X
  have hpl : e.platform.magicAccessors = ({} : Platform).magicAccessors := by rw [X.admits.platform]
  obtain ⟨vm', hW', X', st⟩ := X.outThrough hlocks q (g := F0 m pc ls rest) rfl rfl rfl (cell := ce) (by rw [hT]; exact hcell) (by rw [hv]; rfl)
    (by obtain ⟨k9, h9, -⟩ := Vm.findClass_spec hcl; exact ⟨k9, h9⟩) (fun z hz => by
      rcases hpass z hz with h | ⟨hz0, nm, hl1, hn1⟩
      · exact Or.inl h
      · obtain ⟨c6, hc6, hcl6⟩ := Cond.classLink_spec hown hl1 e.platform hpl
        obtain ⟨a8, b8, h1, h2, h3⟩ := hn1
        cases Option.some.inj (h1.symm.trans hcl)
        cases Option.some.inj (h2.symm.trans hc6)
        exact Or.inr ⟨hz0, _, hcl6, h3⟩)
  obtain ⟨g₀, hfr⟩ := X'.frames_eq
  have hcell9 : ((T.setVm vm').setFrames (.throwing q :: below)).heap[q]? = some ce := by
    show T.heap[q]? = some ce
    rw [hT]; exact hcell
  have hend : Ended ((T.setVm vm').setFrames (.throwing q :: below)) below (.threw q) := State.frames_setFrames _ (State.cur_lt_of_frames hfr)
  refine ⟨(T.setVm vm').setFrames (.throwing q :: below), ?_, .threw q, X'.here.running, hend, Or.inr ⟨q, rfl, E, ce, locs, hx _ hT (X'.ends _).1.alike, hcell9, hv, hcl, (X'.ends _).1, (X'.ends _).2.mono hc hs, hf⟩⟩
  rw [X.pushThrowing_eq]
  exact st
theorem vx_lt {D : va_G} {cl : List vw_C} {ws : va_W} {H1 : Heap} (h : va_P D cl ws H1) {k : Nat} {q : Nat × va_E} (hk : ws[k]? = some q) : q.1 < H1.size := (h k q hk).lt
end VXS
section VXH
section
variable {l : Launch} {R : Room} {p : Program} {e : Env} {below : List Frame} {s : State} {sargs : Array Value} {y : MethodName} {len W9 : Nat}
theorem vx_backW {ws : List Cond} {rm : Room} {Pc : Array Value → State → Prop} {Qc : Array Value → State → Outcome → State → Prop} {XC : String → State → State → Prop} {mc ms : Nat} {free : Addr → Prop} {bytes : ByteArray} {maxL : Nat} {ret : Option FieldType} {hh : List (Nat × Nat × Nat × Nat)}
    (hM : vx_Met l y ws rm Pc Qc XC mc ms free) (hblind : FrameBlind Pc) (hrc : rm.cells = mc) (hrs : rm.slots = ms)
    (hframes : rm.frames + 1 ≤ R.frames) (hlocals : W9 + (maxL + 11) + rm.locals ≤ R.locals)
    (hws : ∀ w ∈ ws, ∀ a' U, s.WarmedH U.vm → w.before a' U = true) (hcode : Cond.codeWith y bytes maxL ret hh ∈ ws) (hinit : ∀ a' U, s.WarmedH U.vm → (Cond.initialized y.cls).before a' U = true) :
    vx_Back l R p e below s sargs y len W9 (PreOf R mc ms Pc) (PostOf Qc mc ms free) (vx_Post XC mc ms free) := by
  intro m meth c A g ig mk a X hg hsize hdg hW hn hp
  have h1 : (headSpec ws rm).pre.before a A.U = true := atoms_intro fun w hw => hws w hw _ _ X.warmed
  have h2 : (Cond.codeWith y bytes maxL ret hh).before a A.U = true := hws _ hcode _ _ X.warmed
  have h3 : (Cond.initialized y.cls).before a A.U = true := hinit _ _ X.warmed
  have h4 : A.cells + (headSpec ws rm).room.cells ≤ R.cells := by rw [show (headSpec ws rm).room.cells = mc from hrc]; exact hp.1
  have h5 : A.slots + (headSpec ws rm).room.slots ≤ R.slots := by rw [show (headSpec ws rm).room.slots = ms from hrs]; exact hp.2.1
  have hPc : Pc a (A.U.calling g mk a) := hblind _ _ _ _ hp.2.2
  obtain ⟨U, Ls, c0, s0⟩ := A
  dsimp only [Pt.U, Pt.locs, Pt.cells, Pt.slots] at h1 h2 h3 h4 h5 X hn hPc ⊢
  obtain ⟨m9, methY, cY, hn9, hmY, hcY, -, hlY, -⟩ := Cond.codeWith_spec h2
  cases Option.some.inj (hn9.symm.trans hn)
  obtain ⟨kY, hkY, -⟩ := className_of_methodNamed hn
  have hinitY : kY.init = .initialized := Cond.initialized_spec (findClass_of_methodNamed hn) hkY h3
  have h : At U g.method c below := by rw [hg]; exact X.here
  have hlocals9 : W9 + (maxL + 11) + (headSpec ws rm).room.locals ≤ R.locals := hlocals
  have happ : (headSpec ws rm).appliesLoose y e.platform (U.calling g mk a) = true :=
    Spec.appliesLoose_calling (g := g) h hdg hn hkY hinitY
      (X.room_calling (g := g) (R' := (headSpec ws rm).room) hsize hmY hcY hframes (by rw [hlY]; omega) h4 h5) h1
  obtain ⟨mid, hmid⟩ := h.above
  have hfr : (U.setTop g).frames = (.java g :: mid) ++ below := by rw [State.frames_setTop' g h.top, hmid]; rfl
  obtain ⟨o, s₂, hsteps, -, hend, hq⟩ := Steps.callFree hM p X.admits X.cas X.clock (acts := []) hfr happ hPc trivial
  have hq' : vx_Q Qc XC mc ms free a (U.calling g mk a) o s₂ := hq
  rw [State.frames_setTop' g h.top] at hend
  obtain ⟨g₀, hg0⟩ := Option.isSome_iff_exists.mp h.top
  obtain ⟨r, hr⟩ := State.topJava?_eq_some.mp hg0
  have hr' : (({ U with heap := s₂.heap, slotsUsed := s₂.slotsUsed } : State).setVm s₂.vm).frames = .java g₀ :: r := hr
  rcases hq' with ⟨hqc, L, hfe, hL⟩ | ⟨q, rfl, E, ce, L, hx, hce, hcv, hcl, hW₂, hsm, hL⟩
  · obtain ⟨⟨v, rfl⟩, hW₂, e2, q2, q3, q4, q5, q6⟩ := id hfe
    have e3 : s₂ = ({ (U.calling g mk a).setFrames s₂.frames with heap := s₂.heap, slotsUsed := s₂.slotsUsed } : State).setVm s₂.vm := by
      have : s₂ = ({ s₂ with vm := (U.calling g mk a).vm } : State).setVm s₂.vm := rfl
      rw [e2] at this
      exact this
    obtain ⟨c₂, i₂, len₂, hc₂, hd₂, hf₂⟩ := hend
    have hW' : U.WarmedH s₂.vm := hW₂
    have hcc : c₂ = c := by
      have h1 : s₂.code? g.method = U.code? g.method := by
        rw [State.code?_eq, State.code?_eq, hW'.alike.method?]
      exact Option.some.inj (hc₂.symm.trans (h1.trans h.code))
    subst hcc
    have hlen : len₂ = len := by rw [hdg] at hd₂; cases hd₂; rfl
    subst hlen
    have hs₂ : s₂ = (({ U with heap := s₂.heap, slotsUsed := s₂.slotsUsed } : State).setVm s₂.vm).setTop { g with pc := g.pc + len₂, stack := v.toList ++ g.stack } := by
      refine e3.trans ?_
      rw [hf₂, State.calling_eq h.top, State.setFrames_setFrames, State.setTop_of_frames _ hr', hr]
      rfl
    have hsame : U.sameButNew ({ U with heap := s₂.heap, slotsUsed := s₂.slotsUsed } : State) L mc ms := by
      refine ⟨?_, q2, q3, q4, q5, q6⟩
      obtain ⟨t, ht, -⟩ := State.frames_cons hr
      show ({ U with heap := s₂.heap, slotsUsed := s₂.slotsUsed } : State) = { U.setFrames U.frames with heap := s₂.heap, slotsUsed := s₂.slotsUsed }
      rw [State.setFrames_self ht]
    subst hg
    refine Or.inl ⟨v, ⟨(({ U with heap := s₂.heap, slotsUsed := s₂.slotsUsed } : State).setVm s₂.vm), Ls ++ L, c0 + mc, s0 + ms⟩,
      ⟨X.admits, X.cas, X.clock, X.frames, X.room, X.hears, X.method, X.code, (X.here.setHeapUsed s₂.heap s₂.slotsUsed).setVm hW'.alike, X.tail, State.WarmedH.trans X.warmed hW', X.limits, X.bytes, X.same.trans (hsame.setVm s.vm)⟩,
      ⟨g, mk, s₂, L, rfl, rfl, hqc, rfl, hL, rfl, rfl⟩, ?_⟩
    show Steps p.tables e below _ ((({ U with heap := s₂.heap, slotsUsed := s₂.slotsUsed } : State).setVm s₂.vm).setTop { g with pc := g.pc + len₂, stack := v.toList ++ g.stack })
    rw [← hs₂]
    exact hsteps
  · obtain ⟨e2, q2, q3, q4, q5, q6⟩ := id hsm
    have e3 : s₂ = ({ (U.calling g mk a).setFrames s₂.frames with heap := s₂.heap, slotsUsed := s₂.slotsUsed } : State).setVm s₂.vm := by
      have : s₂ = ({ s₂ with vm := (U.calling g mk a).vm } : State).setVm s₂.vm := rfl
      rw [e2] at this
      exact this
    have hf₂ : s₂.frames = .throwing q :: .java g :: U.frames.tail := hend
    have hW' : U.WarmedH s₂.vm := hW₂
    have hs₂ : s₂ = ((({ U with heap := s₂.heap, slotsUsed := s₂.slotsUsed } : State).setVm s₂.vm).setTop g).pushFrame (.throwing q) := by
      refine e3.trans ?_
      rw [hf₂, State.calling_eq h.top, State.setFrames_setFrames, State.pushFrame, State.frames_setTop _ hr', State.setTop_of_frames _ hr', State.setFrames_setFrames, hr]
      rfl
    have hsame : U.sameButNew ({ U with heap := s₂.heap, slotsUsed := s₂.slotsUsed } : State) L mc ms := by
      refine ⟨?_, q2, q3, q4, q5, q6⟩
      obtain ⟨t, ht, -⟩ := State.frames_cons hr
      show ({ U with heap := s₂.heap, slotsUsed := s₂.slotsUsed } : State) = { U.setFrames U.frames with heap := s₂.heap, slotsUsed := s₂.slotsUsed }
      rw [State.setFrames_self ht]
    subst hg
    refine Or.inr ⟨q, ⟨(({ U with heap := s₂.heap, slotsUsed := s₂.slotsUsed } : State).setVm s₂.vm), Ls ++ L, c0 + mc, s0 + ms⟩,
      ⟨X.admits, X.cas, X.clock, X.frames, X.room, X.hears, X.method, X.code, (X.here.setHeapUsed s₂.heap s₂.slotsUsed).setVm hW'.alike, X.tail, State.WarmedH.trans X.warmed hW', X.limits, X.bytes, X.same.trans (hsame.setVm s.vm)⟩,
      ⟨g, mk, s₂, L, E, ce, rfl, rfl, hx, hce, hcv, hcl, rfl, hL, rfl, rfl⟩, ?_⟩
    show Steps p.tables e below _ (((({ U with heap := s₂.heap, slotsUsed := s₂.slotsUsed } : State).setVm s₂.vm).setTop g).pushFrame (.throwing q))
    rw [← hs₂]
    exact hsteps
end
variable {p : Program} {l : Launch} {e : Env} {R : Room} {s : State} {m : MethodId} {args : Array Value} {below : List Frame} {meth : Method} {c : Code} {T : State} {H : Heap} {locs : List Loc} {cells slots : Nat}
theorem vx_callVX (X : Stand p l e R s m args below meth c T locs cells slots) (hexec : p.tables.exec = Jvm.exec) {own C : String} {index : Nat} {y : MethodName} {bytes : ByteArray} {maxL : Nat} {ret : Option FieldType} {hh : List (Nat × Nat × Nat × Nat)}
    (hown : s.vm.findClass own = some m.cls) (hlink : (Cond.methodLink own index y).before args s = true) (hinst : (Cond.instanceMethod y).before args s = true) (hsel : (Cond.selects C y y).before args s = true)
    (hcode : (Cond.codeWith y bytes maxL ret hh).before args s = true) (hy : y.cls ≠ "java/lang/invoke/MethodHandle" ∧ y.cls ≠ "java/lang/invoke/VarHandle")
    {W9 : Nat} {Pre : Pt → Array Value → Prop} {Post : Pt → Array Value → Option Value → Pt → Prop} {PostX : Pt → Array Value → Addr → Pt → Prop} (hK : vx_Back l R p e below s args y 3 W9 Pre Post PostX)
    {b : Addr} {cellB : Cell} (hcell : T.heap[b]? = some cellB) (hobj : cellB.vm.isStatics = false) (hcls : s.vm.findClass C = some cellB.cls)
    {g : JFrame} (hg : g.method = m) (hsize : g.locals.size = c.maxLocals) {argsL rest : List Value} (hlen : ∀ sig, parseMethodDescriptor y.desc = some sig → argsL.length = sig.parameters.length)
    (hstack : g.stack = argsL.reverse ++ .ref b :: rest) (hW : 2 * g.monitorRoom + (rest.map fun v => v.category).sum ≤ W9) (hdg : decode c.code g.pc = .ok (.invokevirtual index, 3))
    (hpre : ∀ vm₁, s.WarmedH vm₁ → Pre ⟨T.setVm vm₁, locs, cells, slots⟩ (Value.ref b :: argsL).toArray) :
    (∃ (v : Option Value) (vm₁ : Vm) (B : Pt), s.WarmedH vm₁ ∧ Stand p l e R s m args below meth c B.U B.locs B.cells B.slots ∧ Post ⟨T.setVm vm₁, locs, cells, slots⟩ (Value.ref b :: argsL).toArray v B ∧
      ∀ target, Steps p.tables e below (B.U.setTop { g with pc := g.pc + 3, stack := v.toList ++ rest }) target → Steps p.tables e below (T.setTop g) target) ∨
    (∃ (q : Addr) (vm₁ : Vm) (B : Pt), s.WarmedH vm₁ ∧ Stand p l e R s m args below meth c B.U B.locs B.cells B.slots ∧ PostX ⟨T.setVm vm₁, locs, cells, slots⟩ (Value.ref b :: argsL).toArray q B ∧
      Steps p.tables e below (T.setTop g) ((B.U.setTop { g with stack := rest }).pushFrame (.throwing q))) := by
  obtain ⟨mk, methM, hnamed, hmethM, hstM, habM⟩ := Cond.instanceMethod_spec hinst
  obtain ⟨m8, methM', cM, hn8, hmethM', -, -, -, -, -, -, hsigM⟩ := Cond.codeWith_spec hcode
  cases Option.some.inj (hn8.symm.trans hnamed)
  cases hmethM.symm.trans hmethM'
  obtain ⟨c2, r2, m2, q1, q2, q3, q4, kP, hkP, hkPi⟩ := Cond.selects_spec hsel
  cases hcls.symm.trans q1
  cases (State.methodFound?_of_named hnamed hy).symm.trans q2
  cases hnamed.symm.trans q3
  have hselP : selectMethod e.platform s.vm cellB.cls mk = .method mk := by rw [Launch.admits_selectMethod X.admits]; exact q4
  obtain ⟨vm₁, X₁, hstep₁⟩ := X.invokevirtual hexec hown hlink hnamed hmethM hstM hkP hkPi hy (a := b) (cell := cellB) hcell
    (fun z h => by rw [h] at hobj; cases hobj) hselP hmethM habM hkP hkPi (g := g) hg (argsL := argsL) (rest := rest) (hlen _ hsigM) hstack hdg
  rcases hK m meth c ⟨T.setVm vm₁, locs, cells, slots⟩ { g with stack := rest } (.invokevirtual index) mk (Value.ref b :: argsL).toArray X₁ hg hsize hdg hW (X₁.named hnamed) (hpre vm₁ X₁.warmed) with ⟨v, B, X', hpost, hsteps⟩ | ⟨q, B, X', hpost, hsteps⟩
  · exact Or.inl ⟨v, vm₁, B, X₁.warmed, X', hpost, fun target h => hstep₁ _ fun acts => by rw [doInvoke_state]; exact hsteps.trans h⟩
  · exact Or.inr ⟨q, vm₁, B, X₁.warmed, X', hpost, hstep₁ _ fun acts => by rw [doInvoke_state]; exact hsteps⟩
theorem vx_callSX (X : Stand p l e R s m args below meth c T locs cells slots) (hexec : p.tables.exec = Jvm.exec) {own : String} {index : Nat} {y : MethodName} {bytes : ByteArray} {maxL : Nat} {ret : Option FieldType} {hh : List (Nat × Nat × Nat × Nat)}
    (hown : s.vm.findClass own = some m.cls) (hlink : (Cond.methodLink own index y).before args s = true) (hstat : (Cond.static y).before args s = true) (hinit : (Cond.initialized y.cls).before args s = true)
    (hcode : (Cond.codeWith y bytes maxL ret hh).before args s = true) (hy : y.cls ≠ "java/lang/invoke/MethodHandle" ∧ y.cls ≠ "java/lang/invoke/VarHandle")
    {W9 : Nat} {Pre : Pt → Array Value → Prop} {Post : Pt → Array Value → Option Value → Pt → Prop} {PostX : Pt → Array Value → Addr → Pt → Prop} (hK : vx_Back l R p e below s args y 3 W9 Pre Post PostX)
    {g : JFrame} (hg : g.method = m) (hsize : g.locals.size = c.maxLocals) {argsL rest : List Value} (hlen : ∀ sig, parseMethodDescriptor y.desc = some sig → argsL.length = sig.parameters.length)
    (hstack : g.stack = argsL.reverse ++ rest) (hW : 2 * g.monitorRoom + (rest.map fun v => v.category).sum ≤ W9) (hdg : decode c.code g.pc = .ok (.invokestatic index, 3))
    (hpre : ∀ vm₁, s.WarmedH vm₁ → Pre ⟨T.setVm vm₁, locs, cells, slots⟩ argsL.toArray) :
    (∃ (v : Option Value) (vm₁ : Vm) (B : Pt), s.WarmedH vm₁ ∧ Stand p l e R s m args below meth c B.U B.locs B.cells B.slots ∧ Post ⟨T.setVm vm₁, locs, cells, slots⟩ argsL.toArray v B ∧
      ∀ target, Steps p.tables e below (B.U.setTop { g with pc := g.pc + 3, stack := v.toList ++ rest }) target → Steps p.tables e below (T.setTop g) target) ∨
    (∃ (q : Addr) (vm₁ : Vm) (B : Pt), s.WarmedH vm₁ ∧ Stand p l e R s m args below meth c B.U B.locs B.cells B.slots ∧ PostX ⟨T.setVm vm₁, locs, cells, slots⟩ argsL.toArray q B ∧
      Steps p.tables e below (T.setTop g) ((B.U.setTop { g with stack := rest }).pushFrame (.throwing q))) := by
  obtain ⟨mk, methM, cM, hnamed, hmethM, -, -, -, -, -, -, hsigM⟩ := Cond.codeWith_spec hcode
  have hstatic : methM.isStatic = true := Cond.static_spec hnamed hmethM hstat
  obtain ⟨kP, hkP, -⟩ := className_of_methodNamed hnamed
  have hinitP : kP.init = .initialized := Cond.initialized_spec (findClass_of_methodNamed hnamed) hkP hinit
  obtain ⟨vm₁, X₁, hstep₁⟩ := X.invokestatic hexec hown hlink hnamed hmethM hstatic hkP hinitP hy (g := g) hg (argsL := argsL) (rest := rest) (hlen _ hsigM) hstack hdg
  rcases hK m meth c ⟨T.setVm vm₁, locs, cells, slots⟩ { g with stack := rest } (.invokestatic index) mk argsL.toArray X₁ hg hsize hdg hW (X₁.named hnamed) (hpre vm₁ X₁.warmed) with ⟨v, B, X', hpost, hsteps⟩ | ⟨q, B, X', hpost, hsteps⟩
  · exact Or.inl ⟨v, vm₁, B, X₁.warmed, X', hpost, fun target h => hstep₁ _ fun acts => by rw [doInvoke_state]; exact hsteps.trans h⟩
  · exact Or.inr ⟨q, vm₁, B, X₁.warmed, X', hpost, hstep₁ _ fun acts => by rw [doInvoke_state]; exact hsteps⟩
theorem vx_callVW (X : Stand p l e R s m args below meth c T locs cells slots) (hexec : p.tables.exec = Jvm.exec) {own C : String} {index : Nat} {y : MethodName} {bytes : ByteArray} {maxL : Nat} {ret : Option FieldType} {hh : List (Nat × Nat × Nat × Nat)}
    (hown : s.vm.findClass own = some m.cls) (hlink : (Cond.methodLink own index y).before args s = true) (hinst : (Cond.instanceMethod y).before args s = true) (hsel : (Cond.selects C y y).before args s = true)
    (hcode : (Cond.codeWith y bytes maxL ret hh).before args s = true) (hy : y.cls ≠ "java/lang/invoke/MethodHandle" ∧ y.cls ≠ "java/lang/invoke/VarHandle")
    {W9 : Nat} {Pre : Pt → Array Value → Prop} {Post : Pt → Array Value → Option Value → Pt → Prop} (hK : Back l R p e below s args y 3 W9 Pre Post)
    {b : Addr} {cellB : Cell} (hcell : T.heap[b]? = some cellB) (hobj : cellB.vm.isStatics = false) (hcls : s.vm.findClass C = some cellB.cls)
    {g : JFrame} (hg : g.method = m) (hsize : g.locals.size = c.maxLocals) {argsL rest : List Value} (hlen : ∀ sig, parseMethodDescriptor y.desc = some sig → argsL.length = sig.parameters.length)
    (hstack : g.stack = argsL.reverse ++ .ref b :: rest) (hW : 2 * g.monitorRoom + (rest.map fun v => v.category).sum ≤ W9) (hdg : decode c.code g.pc = .ok (.invokevirtual index, 3))
    (hpre : ∀ vm₁, s.WarmedH vm₁ → Pre ⟨T.setVm vm₁, locs, cells, slots⟩ (Value.ref b :: argsL).toArray) :
    ∃ (v : Option Value) (vm₁ : Vm) (B : Pt), s.WarmedH vm₁ ∧ Stand p l e R s m args below meth c B.U B.locs B.cells B.slots ∧ Post ⟨T.setVm vm₁, locs, cells, slots⟩ (Value.ref b :: argsL).toArray v B ∧
      ∀ target, Steps p.tables e below (B.U.setTop { g with pc := g.pc + 3, stack := v.toList ++ rest }) target → Steps p.tables e below (T.setTop g) target := by
  obtain ⟨mk, methM, hnamed, hmethM, hstM, habM⟩ := Cond.instanceMethod_spec hinst
  obtain ⟨m8, methM', cM, hn8, hmethM', -, -, -, -, -, -, hsigM⟩ := Cond.codeWith_spec hcode
  cases Option.some.inj (hn8.symm.trans hnamed)
  cases hmethM.symm.trans hmethM'
  obtain ⟨c2, r2, m2, q1, q2, q3, q4, kP, hkP, hkPi⟩ := Cond.selects_spec hsel
  cases hcls.symm.trans q1
  cases (State.methodFound?_of_named hnamed hy).symm.trans q2
  cases hnamed.symm.trans q3
  have hselP : selectMethod e.platform s.vm cellB.cls mk = .method mk := by rw [Launch.admits_selectMethod X.admits]; exact q4
  obtain ⟨vm₁, X₁, hstep₁⟩ := X.invokevirtual hexec hown hlink hnamed hmethM hstM hkP hkPi hy (a := b) (cell := cellB) hcell
    (fun z h => by rw [h] at hobj; cases hobj) hselP hmethM habM hkP hkPi (g := g) hg (argsL := argsL) (rest := rest) (hlen _ hsigM) hstack hdg
  obtain ⟨v, B, X', hpost, hsteps⟩ := hK m meth c ⟨T.setVm vm₁, locs, cells, slots⟩ { g with stack := rest } (.invokevirtual index) mk (Value.ref b :: argsL).toArray X₁ hg hsize hdg hW (X₁.named hnamed) (hpre vm₁ X₁.warmed)
  exact ⟨v, vm₁, B, X₁.warmed, X', hpost, fun target h => hstep₁ _ fun acts => by rw [doInvoke_state]; exact hsteps.trans h⟩
abbrev vx_CVW (R : Room) (s : State) (args : Array Value) (own C : String) (index : Nat) (y : MethodName) (bytes : ByteArray) (maxL : Nat) (ret : Option FieldType) (hh : List (Nat × Nat × Nat × Nat)) (ws : List Cond) (rm : Room) (mc ms n : Nat) : Prop :=
  (rm.cells = mc ∧ rm.slots = ms ∧ rm.frames + 1 ≤ R.frames ∧ 8 + (maxL + 11) + rm.locals ≤ R.locals ∧ (∀ w ∈ ws, ∀ (a' : Array Value) (U : State), s.WarmedH U.vm → w.before a' U = true) ∧ Cond.codeWith y bytes maxL ret hh ∈ ws) ∧
  (Cond.codeWith y bytes maxL ret hh).before args s = true ∧ (Cond.initialized y.cls).before args s = true ∧ (y.cls ≠ "java/lang/invoke/MethodHandle" ∧ y.cls ≠ "java/lang/invoke/VarHandle") ∧
  (∀ sig, parseMethodDescriptor y.desc = some sig → n = sig.parameters.length) ∧ (Cond.methodLink own index y).before args s = true ∧ (Cond.instanceMethod y).before args s = true ∧ (Cond.selects C y y).before args s = true
theorem vx_cwVW {own C : String} {index maxL mc ms : Nat} {y : MethodName} {bytes : ByteArray} {ret : Option FieldType} {hh : List (Nat × Nat × Nat × Nat)} {Ts ws ws' : List Cond} {rm : Room} (n : Nat) (ht : ∀ w ∈ Ts, w.before args s = true) (hT : GoodIn Ts (wsV own index C y ws)) (hw : ws = Cond.codeWith y bytes maxL ret hh :: ws') (hrc : rm.cells = mc) (hrs : rm.slots = ms)
    (hd : y.cls = C ∧ y.cls ≠ "java/lang/invoke/MethodHandle" ∧ y.cls ≠ "java/lang/invoke/VarHandle" ∧ (parseMethodDescriptor y.desc).map (fun d => d.parameters.length) = some n) (hR : rm.frames + 1 ≤ R.frames ∧ 8 + (maxL + 11) + rm.locals ≤ R.locals) :
    vx_CVW R s args own C index y bytes maxL ret hh ws rm mc ms n := by
  obtain ⟨hC, hd⟩ := hd
  subst hC
  have ok : ∀ w ∈ wsV own index y.cls y ws, w.before args s = true := fun w h => ht w (hT w h).1
  have hG : GoodIn Ts ws := fun w h => hT w (by unfold wsV; exact List.mem_append_right _ h)
  have hc : Cond.codeWith y bytes maxL ret hh ∈ ws := by rw [hw]; exact List.mem_cons_self
  refine ⟨⟨hrc, hrs, hR.1, hR.2, pay_in ht hG, hc⟩, ht _ (hG _ hc).1, ok _ (by simp [wsV]), ⟨hd.1, hd.2.1⟩, fun sig h => ?_, ok _ (by simp [wsV]), ok _ (by simp [wsV]), ok _ (by simp [wsV])⟩
  have h2 := hd.2.2
  rw [h] at h2
  exact (Option.some.inj h2).symm
theorem vx_runVW {y : MethodName} {bytes cc : ByteArray} {maxL nL mc ms n index : Nat} {ret : Option FieldType} {hh : List (Nat × Nat × Nat × Nat)} {ws : List Cond} {rm : Room} {Pc : Array Value → State → Prop} {Qc : Array Value → State → Outcome → State → Prop} {free : Addr → Prop} {Ts : List Cond} {own C : String} {b : Addr} {As rest : List Value} {g : JFrame}
    (S : CallFix p m c cc nL s args Ts own) (hM : Met l y ws rm Pc Qc mc ms free) (cw : vx_CVW R s args own C index y bytes maxL ret hh ws rm mc ms n) (hp : PreV s H C b Pc As)
    (hg : g.method = m) (hn : As.length = n) (hsize : g.locals.size = nL) (hstack : g.stack = As.reverse ++ .ref b :: rest) (hW : 2 * g.monitorRoom + (rest.map fun v => v.category).sum ≤ 8) (hdg : decode cc g.pc = .ok (.invokevirtual index, 3)) (hf : cells + mc ≤ R.cells ∧ slots + ms ≤ R.slots) :
    va_Run p l e R s m args below meth c H locs cells slots mc ms g rest (Qc (Value.ref b :: As).toArray) free := by
  obtain ⟨⟨hrc, hrs, hfr, hlo, hws, hcw⟩, hcode, hini, hy, hlen, hl, hin, hse⟩ := cw
  have hK : Back l R p e below s args y 3 8 (PreOf R mc ms Pc) (PostOf Qc mc ms free) := va_backW (hh := hh) (bytes := bytes) (maxL := maxL) (ret := ret) hM hp.1 hrc hrs hfr hlo hws hcw (fun a' U hW => word_at hW (Or.inl (by first | rfl | simp [Cond.onTables, Cond.keeps, Cond.steady])) hini)
  obtain ⟨hx, hb, hml, ho, -⟩ := S
  obtain ⟨-, ⟨cellB, hcB, hoB, hclB⟩, hPc⟩ := hp
  intro T hT X
  obtain ⟨v, vm₁, ⟨U', l2, c2, s2⟩, hW₁, X', ⟨g', mk, t, L, e1, e2, hq, h1, hL, h2, h3⟩, st⟩ := vx_callVW X hx (C := C) (hh := hh) (bytes := bytes) (maxL := maxL) (ret := ret) ho hl hin hse hcode hy hK (by rw [hT]; exact hcB) hoB hclB hg (hsize.trans hml.symm) (argsL := As) (rest := rest) (fun sig h => hn.trans (hlen sig h)) hstack hW (by rw [hb]; exact hdg)
    (fun vm₁ hW₁ => ⟨hf.1, hf.2, hPc (T.setVm vm₁) hT hW₁⟩)
  dsimp only [Pt.U, Pt.locs, Pt.cells, Pt.slots] at X' e1 e2 h1 h2 h3 st
  subst h1; subst h2; subst h3
  exact ⟨v, (T.setVm vm₁).calling g' mk (Value.ref b :: As).toArray, t, U', L, hT, X', hL, e1, e2, hq, st⟩
section
variable {y : MethodName} {bytes cc : ByteArray} {maxL nL mc ms n index : Nat} {ret : Option FieldType} {ws : List Cond} {rm : Room} {Pc : Array Value → State → Prop} {Qc : Array Value → State → Outcome → State → Prop} {XC : String → State → State → Prop} {free : Addr → Prop} {Ts : List Cond} {own C : String} {b : Addr} {As rest : List Value} {g : JFrame}
theorem vx_runVX {hh : List (Nat × Nat × Nat × Nat)} (S : CallFix p m c cc nL s args Ts own) (hM : vx_Met l y ws rm Pc Qc XC mc ms free) (cw : vx_CVW R s args own C index y bytes maxL ret hh ws rm mc ms n) (hp : PreV s H C b Pc As)
    (hg : g.method = m) (hn : As.length = n) (hsize : g.locals.size = nL) (hstack : g.stack = As.reverse ++ .ref b :: rest) (hW : 2 * g.monitorRoom + (rest.map fun v => v.category).sum ≤ 8) (hdg : decode cc g.pc = .ok (.invokevirtual index, 3)) (hf : cells + mc ≤ R.cells ∧ slots + ms ≤ R.slots) :
    vx_Run p l e R s m args below meth c H locs cells slots mc ms g rest (Qc (Value.ref b :: As).toArray) XC free := by
  obtain ⟨⟨hrc, hrs, hfr, hlo, hws, hcw⟩, hcode, hini, hy, hlen, hl, hin, hse⟩ := cw
  have hK : vx_Back l R p e below s args y 3 8 (PreOf R mc ms Pc) (PostOf Qc mc ms free) (vx_Post XC mc ms free) := vx_backW (hh := hh) (bytes := bytes) (maxL := maxL) (ret := ret) hM hp.1 hrc hrs hfr hlo hws hcw (fun a' U hW => word_at hW (Or.inl (by first | rfl | simp [Cond.onTables, Cond.keeps, Cond.steady])) hini)
  obtain ⟨hx, hb, hml, ho, -⟩ := S
  obtain ⟨-, ⟨cellB, hcB, hoB, hclB⟩, hPc⟩ := hp
  intro T hT X
  rcases vx_callVX X hx (C := C) (hh := hh) (bytes := bytes) (maxL := maxL) (ret := ret) ho hl hin hse hcode hy hK (by rw [hT]; exact hcB) hoB hclB hg (hsize.trans hml.symm) (argsL := As) (rest := rest) (fun sig h => hn.trans (hlen sig h)) hstack hW (by rw [hb]; exact hdg)
    (fun vm₁ hW₁ => ⟨hf.1, hf.2, hPc (T.setVm vm₁) hT hW₁⟩) with ⟨v, vm₁, ⟨U', l2, c2, s2⟩, hW₁, X', ⟨g', mk, t, L, e1, e2, hq, h1, hL, h2, h3⟩, st⟩ | ⟨q, vm₁, ⟨U', l2, c2, s2⟩, hW₁, X', ⟨g', mk, t, L, E, ce, e1, e2, hq, hce, hcv, hcl, h1, hL, h2, h3⟩, st⟩
  · dsimp only [Pt.U, Pt.locs, Pt.cells, Pt.slots] at X' e1 e2 h1 h2 h3 st
    subst h1; subst h2; subst h3
    exact Or.inl ⟨v, (T.setVm vm₁).calling g' mk (Value.ref b :: As).toArray, t, U', L, hT, X', hL, e1, e2, hq, st⟩
  · dsimp only [Pt.U, Pt.locs, Pt.cells, Pt.slots] at X' e1 e2 h1 h2 h3 st hcl
    subst h1; subst h2; subst h3
    exact Or.inr ⟨q, (T.setVm vm₁).calling g' mk (Value.ref b :: As).toArray, t, U', L, E, ce, hT, X', hL, e1, e2, hq, hce, hcv, vx_cls hW₁ hcl, st⟩
theorem vx_runSX {hh : List (Nat × Nat × Nat × Nat)} (S : CallFix p m c cc nL s args Ts own) (hM : vx_Met l y ws rm Pc Qc XC mc ms free) (cw : vx_CSW R s args own index y bytes maxL ret hh ws rm mc ms n) (hp : PreS s H Pc As)
    (hg : g.method = m) (hn : As.length = n) (hsize : g.locals.size = nL) (hstack : g.stack = As.reverse ++ rest) (hW : 2 * g.monitorRoom + (rest.map fun v => v.category).sum ≤ 8) (hdg : decode cc g.pc = .ok (.invokestatic index, 3)) (hf : cells + mc ≤ R.cells ∧ slots + ms ≤ R.slots) :
    vx_Run p l e R s m args below meth c H locs cells slots mc ms g rest (Qc As.toArray) XC free := by
  obtain ⟨⟨hrc, hrs, hfr, hlo, hws, hcw⟩, hcode, hini, hy, hlen, hl, hstt⟩ := cw
  have hK : vx_Back l R p e below s args y 3 8 (PreOf R mc ms Pc) (PostOf Qc mc ms free) (vx_Post XC mc ms free) := vx_backW (hh := hh) (bytes := bytes) (maxL := maxL) (ret := ret) hM hp.1 hrc hrs hfr hlo hws hcw (fun a' U hW => word_at hW (Or.inl (by first | rfl | simp [Cond.onTables, Cond.keeps, Cond.steady])) hini)
  obtain ⟨hx, hb, hml, ho, -⟩ := S
  intro T hT X
  rcases vx_callSX X hx (hh := hh) (bytes := bytes) (maxL := maxL) (ret := ret) ho hl hstt hini hcode hy hK hg (hsize.trans hml.symm) (argsL := As) (rest := rest) (fun sig h => hn.trans (hlen sig h)) hstack hW (by rw [hb]; exact hdg)
    (fun vm₁ hW₁ => ⟨hf.1, hf.2, hp.2 (T.setVm vm₁) hT hW₁⟩) with ⟨v, vm₁, ⟨U', l2, c2, s2⟩, hW₁, X', ⟨g', mk, t, L, e1, e2, hq, h1, hL, h2, h3⟩, st⟩ | ⟨q, vm₁, ⟨U', l2, c2, s2⟩, hW₁, X', ⟨g', mk, t, L, E, ce, e1, e2, hq, hce, hcv, hcl, h1, hL, h2, h3⟩, st⟩
  · dsimp only [Pt.U, Pt.locs, Pt.cells, Pt.slots] at X' e1 e2 h1 h2 h3 st
    subst h1; subst h2; subst h3
    exact Or.inl ⟨v, (T.setVm vm₁).calling g' mk As.toArray, t, U', L, hT, X', hL, e1, e2, hq, st⟩
  · dsimp only [Pt.U, Pt.locs, Pt.cells, Pt.slots] at X' e1 e2 h1 h2 h3 st hcl
    subst h1; subst h2; subst h3
    exact Or.inr ⟨q, (T.setVm vm₁).calling g' mk As.toArray, t, U', L, E, ce, hT, X', hL, e1, e2, hq, hce, hcv, vx_cls hW₁ hcl, st⟩
end
end VXH
theorem vx_ofWH {l : Launch} {y : MethodName} {ws ws' : List Cond} {rm : Room} {Pc : Array Value → State → Prop} {Qc : Array Value → State → Outcome → State → Prop} {XC : String → State → State → Prop} {mc ms : Nat} {free : Addr → Prop} {cc : ByteArray} {maxL : Nat} {ret : Option FieldType} {hh : List (Nat × Nat × Nat × Nat)}
    (hy : plainName y.cls = true) (hw : ws = Cond.codeWith y cc maxL ret hh :: ws')
    (body : ∀ p e s m args below meth c s₁, BodyLoose p l y (headSpec ws rm) cc maxL ret e s m args below meth c s₁ → c.maxLocals = maxL → Pc args s →
      W p l e (headSpec ws rm).room s m args below meth c s.heap [] 0 0 (vx_MQ below Qc XC args s mc ms free) (entryFrame m args maxL)) : vx_Met l y ws rm Pc Qc XC mc ms free := by
  refine MetFree.of_bodyS (code := cc) (maxLocals := maxL) (ret := ret) hy ?_ ?_
  · intro args s m h hn
    obtain ⟨m9, meth, c, hn9, h1, h2, h3, h4, -, h5, h6, -⟩ := Cond.codeWith_spec (atoms_spec (ws := ws) h _ (by rw [hw]; exact List.mem_cons_self))
    cases hn.symm.trans hn9
    exact ⟨meth, c, h1, h2, h3, h4, h5, h6⟩
  · intro p e s m args below meth c s₁ B hml hP _
    have hh0 : s₁.heap = s.heap := by rw [B.state]; rfl
    obtain ⟨t, a1, o, b1, b2, b3⟩ := body p e s m args below meth c s₁ B hml hP s₁ hh0 (Stand.of_body B)
    exact ⟨t, o, a1, b1, b2, b3⟩
def xk_nsN : String := "java/util/NoSuchElementException"
def xk_nsA : List Cond := Bundle.throwableAtoms ++ Bundle.throwableSAtoms ++ (Bundle.passSAtoms xk_nsN "java/lang/RuntimeException" 13 prog_16_method_4_code ++ Bundle.chainSAtoms "java/lang/RuntimeException" ["java/lang/Exception"]) ++
  [.methodLink "LessonWeave" 103 (Bundle.initS xk_nsN), .instantiable xk_nsN 6, .castable xk_nsN xk_nsN, .selects xk_nsN Bundle.tFill0 Bundle.tFill0, .selects xk_nsN Bundle.tFill Bundle.tFill,
   .lays xk_nsN Bundle.tN "cause" "Ljava/lang/Throwable;", .lays xk_nsN Bundle.tN "stackTrace" Bundle.steD, .lays xk_nsN Bundle.tN "suppressedExceptions" Bundle.listD, .lays xk_nsN Bundle.tN "detailMessage" "Ljava/lang/String;",
   .isRef (.static Bundle.tN "UNASSIGNED_STACK" Bundle.steD), .isRef (.static Bundle.tN "SUPPRESSED_SENTINEL" Bundle.listD),
   .fieldLink Bundle.tN 198 Bundle.tN "backtrace" "Ljava/lang/Object;", .lays Bundle.tN Bundle.tN "backtrace" "Ljava/lang/Object;", .lays xk_nsN Bundle.tN "backtrace" "Ljava/lang/Object;"]
def xk_nsS : List Cond := xk_nsA.filter vx_no
def RX0 : String := "LessonWeave$Plan"
def TX0 : u_T := fun k => match k with
  | 0 => ("LessonWeave$Plan", "things", "[I", true)
  | 1 => ("LessonWeave$Plan", "lessonDays", "[I", true)
  | 2 => ("LessonWeave$Plan", "revisitDays", "[I", true)
  | 3 => ("LessonWeave$Plan", "lessonsLaid", "[I", true)
  | 4 => ("LessonWeave$Plan", "revisitsLaid", "[I", true)
  | 5 => ("LessonWeave$Plan", "since", "[I", true)
  | 6 => ("LessonWeave$Plan", "laidCount", "I", false)
  | 7 => ("LessonWeave$Plan", "lateCount", "I", false)
  | _ => ("LessonWeave$Plan", "lastUsed", "I", false)
def tyX0 : Nat → FieldType := fun k => match k with
  | 0 => .array .int
  | 1 => .array .int
  | 2 => .array .int
  | 3 => .array .int
  | 4 => .array .int
  | 5 => .array .int
  | 6 => .int
  | 7 => .int
  | _ => .int
abbrev wsX00 : List Cond := u_ws RX0 TX0 9
theorem nmX0 : ∀ a, a < 9 → ∀ b, b < 9 → a ≠ b → (TX0 a).2.1 ≠ (TX0 b).2.1 := by decide +kernel
theorem tyX0_ok : ∀ k, k < 9 → parseFieldDescriptor (TX0 k).2.2.1 = some (tyX0 k) := by decide +kernel
abbrev cX0_init : ByteArray := prog_2_method_1_code
def yX0_init : MethodName := ⟨RX0, "<init>", "()V"⟩
abbrev cX0_clear : ByteArray := prog_2_method_2_code
def yX0_clear : MethodName := ⟨RX0, "clear", "()V"⟩
abbrev cX0_lay : ByteArray := prog_2_method_3_code
def yX0_lay : MethodName := ⟨RX0, "lay", "(LLessonWeave$Syllabus;[Z)V"⟩
abbrev cX0_layOn : ByteArray := prog_2_method_4_code
def yX0_layOn : MethodName := ⟨RX0, "layOn", "(ILLessonWeave$Syllabus;)V"⟩
abbrev cX0_mostPressing : ByteArray := prog_2_method_5_code
def yX0_mostPressing : MethodName := ⟨RX0, "mostPressing", "(ILLessonWeave$Syllabus;)I"⟩
abbrev cX0_isDue : ByteArray := prog_2_method_6_code
def yX0_isDue : MethodName := ⟨RX0, "isDue", "(IILLessonWeave$Syllabus;)Z"⟩
abbrev cX0_lateFrom : ByteArray := prog_2_method_7_code
def yX0_lateFrom : MethodName := ⟨RX0, "lateFrom", "(ILLessonWeave$Syllabus;)I"⟩
abbrev cX0_nextGap : ByteArray := prog_2_method_8_code
def yX0_nextGap : MethodName := ⟨RX0, "nextGap", "(ILLessonWeave$Syllabus;)I"⟩
abbrev cX0_firstUnfinished : ByteArray := prog_2_method_9_code
def yX0_firstUnfinished : MethodName := ⟨RX0, "firstUnfinished", "(LLessonWeave$Syllabus;)I"⟩
abbrev cX0_isKitTaken : ByteArray := prog_2_method_10_code
def yX0_isKitTaken : MethodName := ⟨RX0, "isKitTaken", "(IILLessonWeave$Syllabus;)Z"⟩
abbrev cX0_isOthersLesson : ByteArray := prog_2_method_11_code
def yX0_isOthersLesson : MethodName := ⟨RX0, "isOthersLesson", "(IILLessonWeave$Syllabus;)Z"⟩
abbrev cX0_layLesson : ByteArray := prog_2_method_12_code
def yX0_layLesson : MethodName := ⟨RX0, "layLesson", "(II)V"⟩
abbrev cX0_layRevisit : ByteArray := prog_2_method_13_code
def yX0_layRevisit : MethodName := ⟨RX0, "layRevisit", "(IILLessonWeave$Syllabus;)V"⟩
abbrev cX0_use : ByteArray := prog_2_method_14_code
def yX0_use : MethodName := ⟨RX0, "use", "(III)V"⟩
abbrev cX0_movedSince : ByteArray := prog_2_method_15_code
def yX0_movedSince : MethodName := ⟨RX0, "movedSince", "(LLessonWeave$Plan;)I"⟩
abbrev cX0_changed : ByteArray := prog_2_method_16_code
def yX0_changed : MethodName := ⟨RX0, "changed", "([I[I)I"⟩
def RX1 : String := "LessonWeave$Syllabus"
def TX1 : u_T := fun k => match k with
  | 0 => ("LessonWeave$Syllabus", "count", "I", false)
  | 1 => ("LessonWeave$Syllabus", "lessons", "[I", true)
  | 2 => ("LessonWeave$Syllabus", "kind", "[I", true)
  | 3 => ("LessonWeave$Syllabus", "worth", "[I", true)
  | 4 => ("LessonWeave$Syllabus", "kit", "[I", true)
  | 5 => ("LessonWeave$Syllabus", "many", "[I", true)
  | 6 => ("LessonWeave$Syllabus", "gap", "[I", true)
  | 7 => ("LessonWeave$Syllabus", "needs", "[I", true)
  | _ => ("LessonWeave$Syllabus", "order", "[I", true)
def tyX1 : Nat → FieldType := fun k => match k with
  | 0 => .int
  | 1 => .array .int
  | 2 => .array .int
  | 3 => .array .int
  | 4 => .array .int
  | 5 => .array .int
  | 6 => .array .int
  | 7 => .array .int
  | _ => .array .int
abbrev wsX10 : List Cond := u_ws RX1 TX1 9
theorem nmX1 : ∀ a, a < 9 → ∀ b, b < 9 → a ≠ b → (TX1 a).2.1 ≠ (TX1 b).2.1 := by decide +kernel
theorem tyX1_ok : ∀ k, k < 9 → parseFieldDescriptor (TX1 k).2.2.1 = some (tyX1 k) := by decide +kernel
abbrev cX1_init : ByteArray := prog_3_method_1_code
def yX1_init : MethodName := ⟨RX1, "<init>", "()V"⟩
abbrev cX1_add : ByteArray := prog_3_method_2_code
def yX1_add : MethodName := ⟨RX1, "add", "(IIII)I"⟩
abbrev cX1_setNeeds : ByteArray := prog_3_method_3_code
def yX1_setNeeds : MethodName := ⟨RX1, "setNeeds", "(II)V"⟩
abbrev cX1_reach : ByteArray := prog_3_method_4_code
def yX1_reach : MethodName := ⟨RX1, "neededByAnyWay", "(I)I"⟩
abbrev cX1_neededBy : ByteArray := prog_3_method_5_code
def yX1_neededBy : MethodName := ⟨RX1, "neededBy", "(I)I"⟩
abbrev cX1_putInOrder : ByteArray := prog_3_method_6_code
def yX1_putInOrder : MethodName := ⟨RX1, "putInOrder", "()V"⟩
abbrev cX1_nextTaken : ByteArray := prog_3_method_7_code
def yX1_nextTaken : MethodName := ⟨RX1, "nextTaken", "(II)I"⟩
abbrev cX1_isCovered : ByteArray := prog_3_method_8_code
def yX1_isCovered : MethodName := ⟨RX1, "isCovered", "(II)Z"⟩
abbrev cX1_countClosed : ByteArray := prog_3_method_9_code
def yX1_countClosed : MethodName := ⟨RX1, "countClosed", "()I"⟩
abbrev cX1_bestSet : ByteArray := prog_3_method_10_code
def yX1_bestSet : MethodName := ⟨RX1, "bestSet", "(I)I"⟩
abbrev cX1_isClosed : ByteArray := prog_3_method_11_code
def yX1_isClosed : MethodName := ⟨RX1, "isClosed", "(I)Z"⟩
abbrev cX1_netOf : ByteArray := prog_3_method_12_code
def yX1_netOf : MethodName := ⟨RX1, "netOf", "(II)I"⟩
def RX2 : String := "LessonWeave"
def TX2 : u_T := fun k => match k with
  | 0 => ("LessonWeave", "syllabus", "LLessonWeave$Syllabus;", true)
  | 1 => ("LessonWeave", "lost", "[Z", true)
  | 2 => ("LessonWeave", "plan", "LLessonWeave$Plan;", false)
  | _ => ("LessonWeave", "formerPlan", "LLessonWeave$Plan;", false)
def tyX2 : Nat → FieldType := fun k => match k with
  | 0 => .object "LessonWeave$Syllabus"
  | 1 => .array .boolean
  | 2 => .object "LessonWeave$Plan"
  | _ => .object "LessonWeave$Plan"
abbrev wsX20 : List Cond := u_ws RX2 TX2 4
theorem nmX2 : ∀ a, a < 4 → ∀ b, b < 4 → a ≠ b → (TX2 a).2.1 ≠ (TX2 b).2.1 := by decide +kernel
theorem tyX2_ok : ∀ k, k < 4 → parseFieldDescriptor (TX2 k).2.2.1 = some (tyX2 k) := by decide +kernel
abbrev cX2_init : ByteArray := prog_1_method_1_code
def yX2_init : MethodName := ⟨RX2, "<init>", "()V"⟩
abbrev cX2_aim : ByteArray := prog_1_method_2_code
def yX2_aim : MethodName := ⟨RX2, "aim", "(IIII)I"⟩
abbrev cX2_need : ByteArray := prog_1_method_3_code
def yX2_need : MethodName := ⟨RX2, "need", "(II)I"⟩
abbrev cX2_free : ByteArray := prog_1_method_4_code
def yX2_free : MethodName := ⟨RX2, "free", "(II)I"⟩
abbrev cX2_revisits : ByteArray := prog_1_method_5_code
def yX2_revisits : MethodName := ⟨RX2, "revisits", "(III)I"⟩
abbrev cX2_aims : ByteArray := prog_1_method_6_code
def yX2_aims : MethodName := ⟨RX2, "aims", "()I"⟩
abbrev cX2_allNeeds : ByteArray := prog_1_method_7_code
def yX2_allNeeds : MethodName := ⟨RX2, "allNeeds", "(I)I"⟩
abbrev cX2_ordered : ByteArray := prog_1_method_8_code
def yX2_ordered : MethodName := ⟨RX2, "ordered", "(I)I"⟩
abbrev cX2_lose : ByteArray := prog_1_method_9_code
def yX2_lose : MethodName := ⟨RX2, "lose", "(I)I"⟩
abbrev cX2_on : ByteArray := prog_1_method_10_code
def yX2_on : MethodName := ⟨RX2, "on", "(I)I"⟩
abbrev cX2_lessonDay : ByteArray := prog_1_method_11_code
def yX2_lessonDay : MethodName := ⟨RX2, "lessonDay", "(II)I"⟩
abbrev cX2_revisitDay : ByteArray := prog_1_method_12_code
def yX2_revisitDay : MethodName := ⟨RX2, "revisitDay", "(II)I"⟩
abbrev cX2_laid : ByteArray := prog_1_method_13_code
def yX2_laid : MethodName := ⟨RX2, "laid", "()I"⟩
abbrev cX2_late : ByteArray := prog_1_method_14_code
def yX2_late : MethodName := ⟨RX2, "late", "()I"⟩
abbrev cX2_lastDay : ByteArray := prog_1_method_15_code
def yX2_lastDay : MethodName := ⟨RX2, "lastDay", "()I"⟩
abbrev cX2_worthwhile : ByteArray := prog_1_method_16_code
def yX2_worthwhile : MethodName := ⟨RX2, "worthwhile", "(I)I"⟩
abbrev cX2_bestNet : ByteArray := prog_1_method_17_code
def yX2_bestNet : MethodName := ⟨RX2, "bestNet", "(I)I"⟩
abbrev cX2_closedSets : ByteArray := prog_1_method_18_code
def yX2_closedSets : MethodName := ⟨RX2, "closedSets", "()I"⟩
abbrev cX2_isAim : ByteArray := prog_1_method_19_code
def yX2_isAim : MethodName := ⟨RX2, "isAim", "(I)Z"⟩
abbrev cX2_planAnew : ByteArray := prog_1_method_20_code
def yX2_planAnew : MethodName := ⟨RX2, "planAnew", "()V"⟩
abbrev cX2_isDay : ByteArray := prog_1_method_21_code
def yX2_isDay : MethodName := ⟨RX2, "isDay", "(I)Z"⟩
abbrev cX2_isWithin : ByteArray := prog_1_method_22_code
def yX2_isWithin : MethodName := ⟨RX2, "isWithin", "(III)Z"⟩
abbrev cX2_has : ByteArray := prog_1_method_23_code
def yX2_has : MethodName := ⟨RX2, "has", "(II)Z"⟩
def RX3 : String := "LessonWeaveModel"
def TX3 : u_T := fun k => match k with
  | _ => ("", "", "", false)
def tyX3 : Nat → FieldType := fun k => match k with
  | _ => .int
abbrev wsX30 : List Cond := u_ws RX3 TX3 0
theorem nmX3 : ∀ a, a < 0 → ∀ b, b < 0 → a ≠ b → (TX3 a).2.1 ≠ (TX3 b).2.1 := by decide +kernel
theorem tyX3_ok : ∀ k, k < 0 → parseFieldDescriptor (TX3 k).2.2.1 = some (tyX3 k) := by decide +kernel
def RJx145de : String := "java/io/Serializable"
def TJx145de : u_T := fun k => match k with
  | _ => ("", "", "", false)
def tyJx145de : Nat → FieldType := fun k => match k with
  | _ => .int
abbrev wsJx145de0 : List Cond := u_ws RJx145de TJx145de 0
theorem nmJx145de : ∀ a, a < 0 → ∀ b, b < 0 → a ≠ b → (TJx145de a).2.1 ≠ (TJx145de b).2.1 := by decide +kernel
theorem tyJx145de_ok : ∀ k, k < 0 → parseFieldDescriptor (TJx145de k).2.2.1 = some (tyJx145de k) := by decide +kernel
def RJ6 : String := "java/lang/Integer"
def TJ6 : u_T := fun k => match k with
  | _ => ("", "", "", false)
def tyJ6 : Nat → FieldType := fun k => match k with
  | _ => .int
abbrev wsJ60 : List Cond := u_ws RJ6 TJ6 0
theorem nmJ6 : ∀ a, a < 0 → ∀ b, b < 0 → a ≠ b → (TJ6 a).2.1 ≠ (TJ6 b).2.1 := by decide +kernel
theorem tyJ6_ok : ∀ k, k < 0 → parseFieldDescriptor (TJ6 k).2.2.1 = some (tyJ6 k) := by decide +kernel
abbrev cJ6_bitCount_0f7a4 : ByteArray := prog_11_method_49_code
def yJ6_bitCount_0f7a4 : MethodName := ⟨RJ6, "bitCount", "(I)I"⟩
def RJ0 : String := "java/lang/String"
def TJ0 : u_T := fun k => match k with
  | _ => ("", "", "", false)
def tyJ0 : Nat → FieldType := fun k => match k with
  | _ => .int
abbrev wsJ00 : List Cond := u_ws RJ0 TJ0 0
theorem nmJ0 : ∀ a, a < 0 → ∀ b, b < 0 → a ≠ b → (TJ0 a).2.1 ≠ (TJ0 b).2.1 := by decide +kernel
theorem tyJ0_ok : ∀ k, k < 0 → parseFieldDescriptor (TJ0 k).2.2.1 = some (tyJ0 k) := by decide +kernel
def RJ7 : String := "java/util/Arrays"
def TJ7 : u_T := fun k => match k with
  | _ => ("", "", "", false)
def tyJ7 : Nat → FieldType := fun k => match k with
  | _ => .int
abbrev wsJ70 : List Cond := u_ws RJ7 TJ7 0
theorem nmJ7 : ∀ a, a < 0 → ∀ b, b < 0 → a ≠ b → (TJ7 a).2.1 ≠ (TJ7 b).2.1 := by decide +kernel
theorem tyJ7_ok : ∀ k, k < 0 → parseFieldDescriptor (TJ7 k).2.2.1 = some (tyJ7 k) := by decide +kernel
abbrev cJ7_fill_53178 : ByteArray := prog_15_method_103_code
def yJ7_fill_53178 : MethodName := ⟨RJ7, "fill", "([II)V"⟩
def RL : String := "LessonWeaveLaw"
abbrev cL_draw : ByteArray := method_2_code
def yL_draw : MethodName := ⟨RL, "draw", "([III)I"⟩
abbrev cL_size : ByteArray := method_3_code
def yL_size : MethodName := ⟨RL, "size", "(I)I"⟩
abbrev cL_isIn : ByteArray := method_4_code
def yL_isIn : MethodName := ⟨RL, "isIn", "(II)Z"⟩
abbrev cL_isLost : ByteArray := method_5_code
def yL_isLost : MethodName := ⟨RL, "isLost", "([JI)Z"⟩
abbrev cL_needs : ByteArray := method_6_code
def yL_needs : MethodName := ⟨RL, "needs", "(LLessonWeave;II)I"⟩
abbrev cL_frees : ByteArray := method_7_code
def yL_frees : MethodName := ⟨RL, "frees", "(LLessonWeave;II)I"⟩
abbrev cL_isOrder : ByteArray := method_8_code
def yL_isOrder : MethodName := ⟨RL, "isOrder", "(LLessonWeave;[I[I)Z"⟩
abbrev cL_asks : ByteArray := method_9_code
def yL_asks : MethodName := ⟨RL, "asks", "(LLessonWeave;[I[I[I[I[I[I)V"⟩
abbrev cL_thing : ByteArray := method_10_code
def yL_thing : MethodName := ⟨RL, "thing", "([I[II)I"⟩
abbrev cL_isPlan : ByteArray := method_11_code
def yL_isPlan : MethodName := ⟨RL, "isPlan", "(LLessonWeave;[I[I[I[J)Z"⟩
abbrev cL_isBusy : ByteArray := method_12_code
def yL_isBusy : MethodName := ⟨RL, "isBusy", "([I[I[I[I[I[III)Z"⟩
abbrev cL_net : ByteArray := method_13_code
def yL_net : MethodName := ⟨RL, "net", "([I[III)I"⟩
abbrev cL_isClosed : ByteArray := method_14_code
def yL_isClosed : MethodName := ⟨RL, "isClosed", "([I[II)Z"⟩
abbrev cL_isWorth : ByteArray := method_15_code
def yL_isWorth : MethodName := ⟨RL, "isWorth", "(LLessonWeave;[I[II)Z"⟩
abbrev cL_loses : ByteArray := method_16_code
def yL_loses : MethodName := ⟨RL, "loses", "(LLessonWeave;[I[I[I[JI)Z"⟩
abbrev cL_step : ByteArray := method_17_code
def yL_step : MethodName := ⟨RL, "step", "(LLessonWeave;III[I[I[I[J)Z"⟩
abbrev cL_year : ByteArray := method_18_code
def yL_year : MethodName := ⟨RL, "year", "([II)Z"⟩
abbrev cL_law : ByteArray := code
def yL_law : MethodName := ⟨RL, "law", "([I)Z"⟩
def wsJ7_fill_53178 : List Cond := .code yJ7_fill_53178 cJ7_fill_53178 4 none :: ([])
def wsX0_clear : List Cond := .code yX0_clear cX0_clear 1 none :: ([.fieldLink RX0 9 "LessonWeave$Plan" "things" "[I", .fieldLink RX0 15 "LessonWeave$Plan" "lessonDays" "[I", .fieldLink RX0 18 "LessonWeave$Plan" "revisitDays" "[I", .fieldLink RX0 21 "LessonWeave$Plan" "lessonsLaid" "[I", .fieldLink RX0 24 "LessonWeave$Plan" "revisitsLaid" "[I", .fieldLink RX0 27 "LessonWeave$Plan" "since" "[I", .fieldLink RX0 39 "LessonWeave$Plan" "laidCount" "I", .fieldLink RX0 43 "LessonWeave$Plan" "lateCount" "I", .fieldLink RX0 46 "LessonWeave$Plan" "lastUsed" "I", .methodLink RX0 33 yJ7_fill_53178, .static yJ7_fill_53178, .initialized RJ7, .code yJ7_fill_53178 cJ7_fill_53178 4 none] ++ wsX00)
def wsX0_init : List Cond := .code yX0_init cX0_init 1 none :: ([.methodLink RX0 3 objectInit, .instanceMethod objectInit, .code objectInit ⟨#[0xb1]⟩ 1 none, .arrayClass .int, .fieldLink RX0 9 "LessonWeave$Plan" "things" "[I", .fieldLink RX0 15 "LessonWeave$Plan" "lessonDays" "[I", .fieldLink RX0 18 "LessonWeave$Plan" "revisitDays" "[I", .fieldLink RX0 21 "LessonWeave$Plan" "lessonsLaid" "[I", .fieldLink RX0 24 "LessonWeave$Plan" "revisitsLaid" "[I", .fieldLink RX0 27 "LessonWeave$Plan" "since" "[I", .methodLink RX0 30 yX0_clear, .instanceMethod yX0_clear, .selects RX0 yX0_clear yX0_clear, .initialized RX0, .code yX0_clear cX0_clear 1 none, .fieldLink RX0 39 "LessonWeave$Plan" "laidCount" "I", .fieldLink RX0 43 "LessonWeave$Plan" "lateCount" "I", .fieldLink RX0 46 "LessonWeave$Plan" "lastUsed" "I", .methodLink RX0 33 yJ7_fill_53178, .static yJ7_fill_53178, .initialized RJ7, .code yJ7_fill_53178 cJ7_fill_53178 4 none] ++ wsX00)
def wsX0_nextGap : List Cond := .code yX0_nextGap cX0_nextGap 3 (some .int) :: ([.fieldLink RX0 24 "LessonWeave$Plan" "revisitsLaid" "[I"] ++ wsX10 ++ wsX00)
def wsX0_isDue : List Cond := .code yX0_isDue cX0_isDue 4 (some .boolean) :: ([.fieldLink RX0 21 "LessonWeave$Plan" "lessonsLaid" "[I", .fieldLink RX0 24 "LessonWeave$Plan" "revisitsLaid" "[I", .fieldLink RX0 27 "LessonWeave$Plan" "since" "[I", .methodLink RX0 90 yX0_nextGap, .instanceMethod yX0_nextGap, .selects RX0 yX0_nextGap yX0_nextGap, .initialized RX0, .code yX0_nextGap cX0_nextGap 3 (some .int)] ++ wsX00 ++ wsX10)
def wsX0_lateFrom : List Cond := .code yX0_lateFrom cX0_lateFrom 3 (some .int) :: ([.fieldLink RX0 27 "LessonWeave$Plan" "since" "[I", .methodLink RX0 90 yX0_nextGap, .instanceMethod yX0_nextGap, .selects RX0 yX0_nextGap yX0_nextGap, .initialized RX0, .code yX0_nextGap cX0_nextGap 3 (some .int), .fieldLink RX0 24 "LessonWeave$Plan" "revisitsLaid" "[I"] ++ wsX00 ++ wsX10)
def wsX0_mostPressing : List Cond := .code yX0_mostPressing cX0_mostPressing 7 (some .int) :: ([.methodLink RX0 78 yX0_isDue, .instanceMethod yX0_isDue, .selects RX0 yX0_isDue yX0_isDue, .initialized RX0, .code yX0_isDue cX0_isDue 4 (some .boolean), .fieldLink RX0 21 "LessonWeave$Plan" "lessonsLaid" "[I", .fieldLink RX0 24 "LessonWeave$Plan" "revisitsLaid" "[I", .fieldLink RX0 27 "LessonWeave$Plan" "since" "[I", .methodLink RX0 90 yX0_nextGap, .instanceMethod yX0_nextGap, .selects RX0 yX0_nextGap yX0_nextGap, .code yX0_nextGap cX0_nextGap 3 (some .int), .methodLink RX0 81 yX0_lateFrom, .instanceMethod yX0_lateFrom, .selects RX0 yX0_lateFrom yX0_lateFrom, .code yX0_lateFrom cX0_lateFrom 3 (some .int)] ++ wsX10 ++ wsX00)
def wsX0_use : List Cond := .code yX0_use cX0_use 4 none :: ([.fieldLink RX0 9 "LessonWeave$Plan" "things" "[I", .fieldLink RX0 27 "LessonWeave$Plan" "since" "[I", .fieldLink RX0 39 "LessonWeave$Plan" "laidCount" "I", .fieldLink RX0 46 "LessonWeave$Plan" "lastUsed" "I"] ++ wsX00)
def wsX0_layRevisit : List Cond := .code yX0_layRevisit cX0_layRevisit 4 none :: ([.fieldLink RX0 43 "LessonWeave$Plan" "lateCount" "I", .fieldLink RX0 18 "LessonWeave$Plan" "revisitDays" "[I", .fieldLink RX0 24 "LessonWeave$Plan" "revisitsLaid" "[I", .methodLink RX0 81 yX0_lateFrom, .instanceMethod yX0_lateFrom, .selects RX0 yX0_lateFrom yX0_lateFrom, .initialized RX0, .code yX0_lateFrom cX0_lateFrom 3 (some .int), .fieldLink RX0 27 "LessonWeave$Plan" "since" "[I", .methodLink RX0 90 yX0_nextGap, .instanceMethod yX0_nextGap, .selects RX0 yX0_nextGap yX0_nextGap, .code yX0_nextGap cX0_nextGap 3 (some .int), .methodLink RX0 105 yX0_use, .instanceMethod yX0_use, .selects RX0 yX0_use yX0_use, .code yX0_use cX0_use 4 none, .fieldLink RX0 9 "LessonWeave$Plan" "things" "[I", .fieldLink RX0 39 "LessonWeave$Plan" "laidCount" "I", .fieldLink RX0 46 "LessonWeave$Plan" "lastUsed" "I"] ++ wsX00 ++ wsX10)
def wsX0_firstUnfinished : List Cond := .code yX0_firstUnfinished cX0_firstUnfinished 4 (some .int) :: ([.fieldLink RX0 21 "LessonWeave$Plan" "lessonsLaid" "[I"] ++ wsX10 ++ wsX00)
def wsX0_isOthersLesson : List Cond := .code yX0_isOthersLesson cX0_isOthersLesson 3 (some .boolean) :: ([] ++ wsX10)
def wsX0_isKitTaken : List Cond := .code yX0_isKitTaken cX0_isKitTaken 5 (some .boolean) :: ([.fieldLink RX0 9 "LessonWeave$Plan" "things" "[I", .methodLink RX0 102 yX0_isOthersLesson, .static yX0_isOthersLesson, .initialized RX0, .code yX0_isOthersLesson cX0_isOthersLesson 3 (some .boolean)] ++ wsX10 ++ wsX00)
def wsX0_layLesson : List Cond := .code yX0_layLesson cX0_layLesson 3 none :: ([.fieldLink RX0 15 "LessonWeave$Plan" "lessonDays" "[I", .fieldLink RX0 21 "LessonWeave$Plan" "lessonsLaid" "[I", .methodLink RX0 105 yX0_use, .instanceMethod yX0_use, .selects RX0 yX0_use yX0_use, .initialized RX0, .code yX0_use cX0_use 4 none, .fieldLink RX0 9 "LessonWeave$Plan" "things" "[I", .fieldLink RX0 27 "LessonWeave$Plan" "since" "[I", .fieldLink RX0 39 "LessonWeave$Plan" "laidCount" "I", .fieldLink RX0 46 "LessonWeave$Plan" "lastUsed" "I"] ++ wsX00)
def wsX0_layOn_r1 : List Cond := [Cond.methodLink RX0 53 yX0_mostPressing, Cond.instanceMethod yX0_mostPressing, Cond.selects RX0 yX0_mostPressing yX0_mostPressing, Cond.initialized RX0, Cond.code yX0_mostPressing cX0_mostPressing 7 (some .int), Cond.methodLink RX0 78 yX0_isDue, Cond.instanceMethod yX0_isDue, Cond.selects RX0 yX0_isDue yX0_isDue, Cond.code yX0_isDue cX0_isDue 4 (some .boolean), Cond.fieldLink RX0 21 "LessonWeave$Plan" "lessonsLaid" "[I", Cond.fieldLink RX0 24 "LessonWeave$Plan" "revisitsLaid" "[I", Cond.fieldLink RX0 27 "LessonWeave$Plan" "since" "[I", Cond.methodLink RX0 90 yX0_nextGap, Cond.instanceMethod yX0_nextGap, Cond.selects RX0 yX0_nextGap yX0_nextGap, Cond.code yX0_nextGap cX0_nextGap 3 (some .int), Cond.methodLink RX0 81 yX0_lateFrom, Cond.instanceMethod yX0_lateFrom, Cond.selects RX0 yX0_lateFrom yX0_lateFrom, Cond.code yX0_lateFrom cX0_lateFrom 3 (some .int), Cond.methodLink RX0 57 yX0_layRevisit, Cond.instanceMethod yX0_layRevisit, Cond.selects RX0 yX0_layRevisit yX0_layRevisit, Cond.code yX0_layRevisit cX0_layRevisit 4 none]
def wsX0_layOn_r2 : List Cond := [Cond.fieldLink RX0 43 "LessonWeave$Plan" "lateCount" "I", Cond.fieldLink RX0 18 "LessonWeave$Plan" "revisitDays" "[I", Cond.methodLink RX0 105 yX0_use, Cond.instanceMethod yX0_use, Cond.selects RX0 yX0_use yX0_use, Cond.code yX0_use cX0_use 4 none, Cond.fieldLink RX0 9 "LessonWeave$Plan" "things" "[I", Cond.fieldLink RX0 39 "LessonWeave$Plan" "laidCount" "I", Cond.fieldLink RX0 46 "LessonWeave$Plan" "lastUsed" "I", Cond.methodLink RX0 61 yX0_firstUnfinished, Cond.instanceMethod yX0_firstUnfinished, Cond.selects RX0 yX0_firstUnfinished yX0_firstUnfinished, Cond.code yX0_firstUnfinished cX0_firstUnfinished 4 (some .int), Cond.methodLink RX0 65 yX0_isKitTaken, Cond.instanceMethod yX0_isKitTaken, Cond.selects RX0 yX0_isKitTaken yX0_isKitTaken, Cond.code yX0_isKitTaken cX0_isKitTaken 5 (some .boolean), Cond.methodLink RX0 102 yX0_isOthersLesson, Cond.static yX0_isOthersLesson, Cond.code yX0_isOthersLesson cX0_isOthersLesson 3 (some .boolean), Cond.methodLink RX0 69 yX0_layLesson, Cond.instanceMethod yX0_layLesson, Cond.selects RX0 yX0_layLesson yX0_layLesson, Cond.code yX0_layLesson cX0_layLesson 3 none]
def wsX0_layOn_r3 : List Cond := [Cond.fieldLink RX0 15 "LessonWeave$Plan" "lessonDays" "[I"]
def wsX0_layOn : List Cond := .code yX0_layOn cX0_layOn 5 none :: ((wsX0_layOn_r1 ++ (wsX0_layOn_r2 ++ wsX0_layOn_r3)) ++ wsX10 ++ wsX00)
def wsX0_lay_r1 : List Cond := [Cond.methodLink RX0 30 yX0_clear, Cond.instanceMethod yX0_clear, Cond.selects RX0 yX0_clear yX0_clear, Cond.initialized RX0, Cond.code yX0_clear cX0_clear 1 none, Cond.fieldLink RX0 9 "LessonWeave$Plan" "things" "[I", Cond.fieldLink RX0 15 "LessonWeave$Plan" "lessonDays" "[I", Cond.fieldLink RX0 18 "LessonWeave$Plan" "revisitDays" "[I", Cond.fieldLink RX0 21 "LessonWeave$Plan" "lessonsLaid" "[I", Cond.fieldLink RX0 24 "LessonWeave$Plan" "revisitsLaid" "[I", Cond.fieldLink RX0 27 "LessonWeave$Plan" "since" "[I", Cond.fieldLink RX0 39 "LessonWeave$Plan" "laidCount" "I", Cond.fieldLink RX0 43 "LessonWeave$Plan" "lateCount" "I", Cond.fieldLink RX0 46 "LessonWeave$Plan" "lastUsed" "I", Cond.methodLink RX0 33 yJ7_fill_53178, Cond.static yJ7_fill_53178, Cond.initialized RJ7, Cond.code yJ7_fill_53178 cJ7_fill_53178 4 none, Cond.methodLink RX0 49 yX0_layOn, Cond.instanceMethod yX0_layOn, Cond.selects RX0 yX0_layOn yX0_layOn, Cond.code yX0_layOn cX0_layOn 5 none, Cond.methodLink RX0 53 yX0_mostPressing, Cond.instanceMethod yX0_mostPressing]
def wsX0_lay_r2 : List Cond := [Cond.selects RX0 yX0_mostPressing yX0_mostPressing, Cond.code yX0_mostPressing cX0_mostPressing 7 (some .int), Cond.methodLink RX0 78 yX0_isDue, Cond.instanceMethod yX0_isDue, Cond.selects RX0 yX0_isDue yX0_isDue, Cond.code yX0_isDue cX0_isDue 4 (some .boolean), Cond.methodLink RX0 90 yX0_nextGap, Cond.instanceMethod yX0_nextGap, Cond.selects RX0 yX0_nextGap yX0_nextGap, Cond.code yX0_nextGap cX0_nextGap 3 (some .int), Cond.methodLink RX0 81 yX0_lateFrom, Cond.instanceMethod yX0_lateFrom, Cond.selects RX0 yX0_lateFrom yX0_lateFrom, Cond.code yX0_lateFrom cX0_lateFrom 3 (some .int), Cond.methodLink RX0 57 yX0_layRevisit, Cond.instanceMethod yX0_layRevisit, Cond.selects RX0 yX0_layRevisit yX0_layRevisit, Cond.code yX0_layRevisit cX0_layRevisit 4 none, Cond.methodLink RX0 105 yX0_use, Cond.instanceMethod yX0_use, Cond.selects RX0 yX0_use yX0_use, Cond.code yX0_use cX0_use 4 none, Cond.methodLink RX0 61 yX0_firstUnfinished, Cond.instanceMethod yX0_firstUnfinished]
def wsX0_lay_r3 : List Cond := [Cond.selects RX0 yX0_firstUnfinished yX0_firstUnfinished, Cond.code yX0_firstUnfinished cX0_firstUnfinished 4 (some .int), Cond.methodLink RX0 65 yX0_isKitTaken, Cond.instanceMethod yX0_isKitTaken, Cond.selects RX0 yX0_isKitTaken yX0_isKitTaken, Cond.code yX0_isKitTaken cX0_isKitTaken 5 (some .boolean), Cond.methodLink RX0 102 yX0_isOthersLesson, Cond.static yX0_isOthersLesson, Cond.code yX0_isOthersLesson cX0_isOthersLesson 3 (some .boolean), Cond.methodLink RX0 69 yX0_layLesson, Cond.instanceMethod yX0_layLesson, Cond.selects RX0 yX0_layLesson yX0_layLesson, Cond.code yX0_layLesson cX0_layLesson 3 none]
def wsX0_lay : List Cond := .code yX0_lay cX0_lay 4 none :: ((wsX0_lay_r1 ++ (wsX0_lay_r2 ++ wsX0_lay_r3)) ++ wsX00 ++ wsX10)
def wsX0_changed : List Cond := .code yX0_changed cX0_changed 4 (some .int) :: ([])
def wsX0_movedSince : List Cond := .code yX0_movedSince cX0_movedSince 2 (some .int) :: ([.fieldLink RX0 15 "LessonWeave$Plan" "lessonDays" "[I", .fieldLink RX0 18 "LessonWeave$Plan" "revisitDays" "[I", .methodLink RX0 109 yX0_changed, .static yX0_changed, .initialized RX0, .code yX0_changed cX0_changed 4 (some .int)] ++ wsX00)
def wsX1_init : List Cond := .code yX1_init cX1_init 1 none :: ([.methodLink RX1 3 objectInit, .instanceMethod objectInit, .code objectInit ⟨#[0xb1]⟩ 1 none, .arrayClass .int, .fieldLink RX1 9 "LessonWeave$Syllabus" "lessons" "[I", .fieldLink RX1 15 "LessonWeave$Syllabus" "kind" "[I", .fieldLink RX1 18 "LessonWeave$Syllabus" "worth" "[I", .fieldLink RX1 21 "LessonWeave$Syllabus" "kit" "[I", .fieldLink RX1 24 "LessonWeave$Syllabus" "many" "[I", .fieldLink RX1 27 "LessonWeave$Syllabus" "gap" "[I", .fieldLink RX1 30 "LessonWeave$Syllabus" "needs" "[I", .fieldLink RX1 33 "LessonWeave$Syllabus" "order" "[I"] ++ wsX10)
def wsX2_has : List Cond := .code yX2_has cX2_has 2 (some .boolean) :: ([])
def wsX1_isCovered : List Cond := .code yX1_isCovered cX1_isCovered 2 (some .boolean) :: ([])
def wsX1_nextTaken : List Cond := .code yX1_nextTaken cX1_nextTaken 5 (some .int) :: ([.fieldLink RX1 36 "LessonWeave$Syllabus" "count" "I", .fieldLink RX1 30 "LessonWeave$Syllabus" "needs" "[I", .fieldLink RX1 15 "LessonWeave$Syllabus" "kind" "[I", .static yX2_has, .initialized RX2, .code yX2_has cX2_has 2 (some .boolean), .methodLink RX1 55 yX1_isCovered, .static yX1_isCovered, .initialized RX1, .code yX1_isCovered cX1_isCovered 2 (some .boolean)] ++ wsX10)
def wsX1_putInOrder : List Cond := .code yX1_putInOrder cX1_putInOrder 5 none :: ([.fieldLink RX1 36 "LessonWeave$Syllabus" "count" "I", .fieldLink RX1 33 "LessonWeave$Syllabus" "order" "[I", .fieldLink RX1 15 "LessonWeave$Syllabus" "kind" "[I", .methodLink RX1 51 yX1_nextTaken, .instanceMethod yX1_nextTaken, .selects RX1 yX1_nextTaken yX1_nextTaken, .initialized RX1, .code yX1_nextTaken cX1_nextTaken 5 (some .int), .fieldLink RX1 30 "LessonWeave$Syllabus" "needs" "[I", .static yX2_has, .initialized RX2, .code yX2_has cX2_has 2 (some .boolean), .methodLink RX1 55 yX1_isCovered, .static yX1_isCovered, .code yX1_isCovered cX1_isCovered 2 (some .boolean)] ++ wsX10)
def wsX1_add : List Cond := .code yX1_add cX1_add 6 (some .int) :: ([.fieldLink RX1 36 "LessonWeave$Syllabus" "count" "I", .fieldLink RX1 9 "LessonWeave$Syllabus" "lessons" "[I", .fieldLink RX1 15 "LessonWeave$Syllabus" "kind" "[I", .fieldLink RX1 18 "LessonWeave$Syllabus" "worth" "[I", .fieldLink RX1 21 "LessonWeave$Syllabus" "kit" "[I", .fieldLink RX1 27 "LessonWeave$Syllabus" "gap" "[I", .methodLink RX1 40 yX1_putInOrder, .instanceMethod yX1_putInOrder, .selects RX1 yX1_putInOrder yX1_putInOrder, .initialized RX1, .code yX1_putInOrder cX1_putInOrder 5 none, .fieldLink RX1 33 "LessonWeave$Syllabus" "order" "[I", .methodLink RX1 51 yX1_nextTaken, .instanceMethod yX1_nextTaken, .selects RX1 yX1_nextTaken yX1_nextTaken, .code yX1_nextTaken cX1_nextTaken 5 (some .int), .fieldLink RX1 30 "LessonWeave$Syllabus" "needs" "[I", .static yX2_has, .initialized RX2, .code yX2_has cX2_has 2 (some .boolean), .methodLink RX1 55 yX1_isCovered, .static yX1_isCovered, .code yX1_isCovered cX1_isCovered 2 (some .boolean)] ++ wsX10)
def wsX1_setNeeds : List Cond := .code yX1_setNeeds cX1_setNeeds 3 none :: ([.fieldLink RX1 30 "LessonWeave$Syllabus" "needs" "[I", .methodLink RX1 40 yX1_putInOrder, .instanceMethod yX1_putInOrder, .selects RX1 yX1_putInOrder yX1_putInOrder, .initialized RX1, .code yX1_putInOrder cX1_putInOrder 5 none, .fieldLink RX1 36 "LessonWeave$Syllabus" "count" "I", .fieldLink RX1 33 "LessonWeave$Syllabus" "order" "[I", .fieldLink RX1 15 "LessonWeave$Syllabus" "kind" "[I", .methodLink RX1 51 yX1_nextTaken, .instanceMethod yX1_nextTaken, .selects RX1 yX1_nextTaken yX1_nextTaken, .code yX1_nextTaken cX1_nextTaken 5 (some .int), .static yX2_has, .initialized RX2, .code yX2_has cX2_has 2 (some .boolean), .methodLink RX1 55 yX1_isCovered, .static yX1_isCovered, .code yX1_isCovered cX1_isCovered 2 (some .boolean)] ++ wsX10)
def wsX1_neededBy : List Cond := .code yX1_neededBy cX1_neededBy 4 (some .int) :: ([.fieldLink RX1 36 "LessonWeave$Syllabus" "count" "I", .fieldLink RX1 30 "LessonWeave$Syllabus" "needs" "[I", .static yX2_has, .initialized RX2, .code yX2_has cX2_has 2 (some .boolean)] ++ wsX10)
def wsX1_reach : List Cond := .code yX1_reach cX1_reach 4 (some .int) :: ([.fieldLink RX1 30 "LessonWeave$Syllabus" "needs" "[I", .fieldLink RX1 36 "LessonWeave$Syllabus" "count" "I", .methodLink RX1 43 yX1_neededBy, .instanceMethod yX1_neededBy, .selects RX1 yX1_neededBy yX1_neededBy, .initialized RX1, .code yX1_neededBy cX1_neededBy 4 (some .int), .static yX2_has, .initialized RX2, .code yX2_has cX2_has 2 (some .boolean)] ++ wsX10)
def wsX1_isClosed : List Cond := .code yX1_isClosed cX1_isClosed 3 (some .boolean) :: ([.fieldLink RX1 36 "LessonWeave$Syllabus" "count" "I", .fieldLink RX1 30 "LessonWeave$Syllabus" "needs" "[I", .static yX2_has, .initialized RX2, .code yX2_has cX2_has 2 (some .boolean), .methodLink RX1 55 yX1_isCovered, .static yX1_isCovered, .initialized RX1, .code yX1_isCovered cX1_isCovered 2 (some .boolean)] ++ wsX10)
def wsX1_countClosed : List Cond := .code yX1_countClosed cX1_countClosed 3 (some .int) :: ([.fieldLink RX1 36 "LessonWeave$Syllabus" "count" "I", .methodLink RX1 58 yX1_isClosed, .instanceMethod yX1_isClosed, .selects RX1 yX1_isClosed yX1_isClosed, .initialized RX1, .code yX1_isClosed cX1_isClosed 3 (some .boolean), .fieldLink RX1 30 "LessonWeave$Syllabus" "needs" "[I", .static yX2_has, .initialized RX2, .code yX2_has cX2_has 2 (some .boolean), .methodLink RX1 55 yX1_isCovered, .static yX1_isCovered, .code yX1_isCovered cX1_isCovered 2 (some .boolean)] ++ wsX10)
def wsX1_netOf : List Cond := .code yX1_netOf cX1_netOf 5 (some .int) :: ([.fieldLink RX1 36 "LessonWeave$Syllabus" "count" "I", .fieldLink RX1 18 "LessonWeave$Syllabus" "worth" "[I", .fieldLink RX1 9 "LessonWeave$Syllabus" "lessons" "[I", .static yX2_has, .initialized RX2, .code yX2_has cX2_has 2 (some .boolean)] ++ wsX10)
def wsJ6_bitCount_0f7a4 : List Cond := .code yJ6_bitCount_0f7a4 cJ6_bitCount_0f7a4 1 (some .int) :: ([.constant RJ6 265 (1431655765), .constant RJ6 266 (858993459), .constant RJ6 267 (252645135)])
def wsX1_bestSet_r1 : List Cond := [Cond.fieldLink RX1 36 "LessonWeave$Syllabus" "count" "I", Cond.methodLink RX1 58 yX1_isClosed, Cond.instanceMethod yX1_isClosed, Cond.selects RX1 yX1_isClosed yX1_isClosed, Cond.initialized RX1, Cond.code yX1_isClosed cX1_isClosed 3 (some .boolean), Cond.fieldLink RX1 30 "LessonWeave$Syllabus" "needs" "[I", Cond.static yX2_has, Cond.initialized RX2, Cond.code yX2_has cX2_has 2 (some .boolean), Cond.methodLink RX1 55 yX1_isCovered, Cond.static yX1_isCovered, Cond.code yX1_isCovered cX1_isCovered 2 (some .boolean), Cond.methodLink RX1 62 yX1_netOf, Cond.instanceMethod yX1_netOf, Cond.selects RX1 yX1_netOf yX1_netOf, Cond.code yX1_netOf cX1_netOf 5 (some .int), Cond.fieldLink RX1 18 "LessonWeave$Syllabus" "worth" "[I", Cond.fieldLink RX1 9 "LessonWeave$Syllabus" "lessons" "[I", Cond.methodLink RX1 65 yJ6_bitCount_0f7a4, Cond.static yJ6_bitCount_0f7a4, Cond.initialized RJ6, Cond.code yJ6_bitCount_0f7a4 cJ6_bitCount_0f7a4 1 (some .int), Cond.constant RJ6 265 (1431655765)]
def wsX1_bestSet_r2 : List Cond := [Cond.constant RJ6 266 (858993459), Cond.constant RJ6 267 (252645135)]
def wsX1_bestSet : List Cond := .code yX1_bestSet cX1_bestSet 6 (some .int) :: ((wsX1_bestSet_r1 ++ wsX1_bestSet_r2) ++ wsX10)
def wsX2_init_r1 : List Cond := [Cond.methodLink RX2 1 objectInit, Cond.instanceMethod objectInit, Cond.code objectInit ⟨#[0xb1]⟩ 1 none, Cond.classLink RX2 7 RX1, Cond.instantiable RX1 9, Cond.initialized RX1, Cond.fieldLink RX2 10 "LessonWeave" "syllabus" "LLessonWeave$Syllabus;", Cond.arrayClass .boolean, Cond.fieldLink RX2 16 "LessonWeave" "lost" "[Z", Cond.classLink RX2 20 RX0, Cond.instantiable RX0 9, Cond.initialized RX0, Cond.fieldLink RX2 23 "LessonWeave" "plan" "LLessonWeave$Plan;", Cond.fieldLink RX2 27 "LessonWeave" "formerPlan" "LLessonWeave$Plan;", Cond.methodLink RX2 9 yX1_init, Cond.instanceMethod yX1_init, Cond.code yX1_init cX1_init 1 none, Cond.methodLink RX1 3 objectInit, Cond.arrayClass .int, Cond.fieldLink RX1 9 "LessonWeave$Syllabus" "lessons" "[I", Cond.fieldLink RX1 15 "LessonWeave$Syllabus" "kind" "[I", Cond.fieldLink RX1 18 "LessonWeave$Syllabus" "worth" "[I", Cond.fieldLink RX1 21 "LessonWeave$Syllabus" "kit" "[I", Cond.fieldLink RX1 24 "LessonWeave$Syllabus" "many" "[I"]
def wsX2_init_r2 : List Cond := [Cond.fieldLink RX1 27 "LessonWeave$Syllabus" "gap" "[I", Cond.fieldLink RX1 30 "LessonWeave$Syllabus" "needs" "[I", Cond.fieldLink RX1 33 "LessonWeave$Syllabus" "order" "[I", Cond.methodLink RX2 22 yX0_init, Cond.instanceMethod yX0_init, Cond.code yX0_init cX0_init 1 none, Cond.methodLink RX0 3 objectInit, Cond.fieldLink RX0 9 "LessonWeave$Plan" "things" "[I", Cond.fieldLink RX0 15 "LessonWeave$Plan" "lessonDays" "[I", Cond.fieldLink RX0 18 "LessonWeave$Plan" "revisitDays" "[I", Cond.fieldLink RX0 21 "LessonWeave$Plan" "lessonsLaid" "[I", Cond.fieldLink RX0 24 "LessonWeave$Plan" "revisitsLaid" "[I", Cond.fieldLink RX0 27 "LessonWeave$Plan" "since" "[I", Cond.methodLink RX0 30 yX0_clear, Cond.instanceMethod yX0_clear, Cond.selects RX0 yX0_clear yX0_clear, Cond.code yX0_clear cX0_clear 1 none, Cond.fieldLink RX0 39 "LessonWeave$Plan" "laidCount" "I", Cond.fieldLink RX0 43 "LessonWeave$Plan" "lateCount" "I", Cond.fieldLink RX0 46 "LessonWeave$Plan" "lastUsed" "I", Cond.methodLink RX0 33 yJ7_fill_53178, Cond.static yJ7_fill_53178, Cond.initialized RJ7, Cond.code yJ7_fill_53178 cJ7_fill_53178 4 none]
def wsX2_init : List Cond := .code yX2_init cX2_init 1 none :: ((wsX2_init_r1 ++ wsX2_init_r2) ++ wsX10 ++ wsX20 ++ wsX00)
def wsX2_isWithin : List Cond := .code yX2_isWithin cX2_isWithin 3 (some .boolean) :: ([])
def wsX2_planAnew_r1 : List Cond := [Cond.fieldLink RX2 27 "LessonWeave" "formerPlan" "LLessonWeave$Plan;", Cond.fieldLink RX2 23 "LessonWeave" "plan" "LLessonWeave$Plan;", Cond.fieldLink RX2 10 "LessonWeave" "syllabus" "LLessonWeave$Syllabus;", Cond.fieldLink RX2 16 "LessonWeave" "lost" "[Z", Cond.methodLink RX2 168 yX0_lay, Cond.instanceMethod yX0_lay, Cond.selects RX0 yX0_lay yX0_lay, Cond.initialized RX0, Cond.code yX0_lay cX0_lay 4 none, Cond.methodLink RX0 30 yX0_clear, Cond.instanceMethod yX0_clear, Cond.selects RX0 yX0_clear yX0_clear, Cond.code yX0_clear cX0_clear 1 none, Cond.fieldLink RX0 9 "LessonWeave$Plan" "things" "[I", Cond.fieldLink RX0 15 "LessonWeave$Plan" "lessonDays" "[I", Cond.fieldLink RX0 18 "LessonWeave$Plan" "revisitDays" "[I", Cond.fieldLink RX0 21 "LessonWeave$Plan" "lessonsLaid" "[I", Cond.fieldLink RX0 24 "LessonWeave$Plan" "revisitsLaid" "[I", Cond.fieldLink RX0 27 "LessonWeave$Plan" "since" "[I", Cond.fieldLink RX0 39 "LessonWeave$Plan" "laidCount" "I", Cond.fieldLink RX0 43 "LessonWeave$Plan" "lateCount" "I", Cond.fieldLink RX0 46 "LessonWeave$Plan" "lastUsed" "I", Cond.methodLink RX0 33 yJ7_fill_53178, Cond.static yJ7_fill_53178]
def wsX2_planAnew_r2 : List Cond := [Cond.initialized RJ7, Cond.code yJ7_fill_53178 cJ7_fill_53178 4 none, Cond.methodLink RX0 49 yX0_layOn, Cond.instanceMethod yX0_layOn, Cond.selects RX0 yX0_layOn yX0_layOn, Cond.code yX0_layOn cX0_layOn 5 none, Cond.methodLink RX0 53 yX0_mostPressing, Cond.instanceMethod yX0_mostPressing, Cond.selects RX0 yX0_mostPressing yX0_mostPressing, Cond.code yX0_mostPressing cX0_mostPressing 7 (some .int), Cond.methodLink RX0 78 yX0_isDue, Cond.instanceMethod yX0_isDue, Cond.selects RX0 yX0_isDue yX0_isDue, Cond.code yX0_isDue cX0_isDue 4 (some .boolean), Cond.methodLink RX0 90 yX0_nextGap, Cond.instanceMethod yX0_nextGap, Cond.selects RX0 yX0_nextGap yX0_nextGap, Cond.code yX0_nextGap cX0_nextGap 3 (some .int), Cond.methodLink RX0 81 yX0_lateFrom, Cond.instanceMethod yX0_lateFrom, Cond.selects RX0 yX0_lateFrom yX0_lateFrom, Cond.code yX0_lateFrom cX0_lateFrom 3 (some .int), Cond.methodLink RX0 57 yX0_layRevisit, Cond.instanceMethod yX0_layRevisit]
def wsX2_planAnew_r3 : List Cond := [Cond.selects RX0 yX0_layRevisit yX0_layRevisit, Cond.code yX0_layRevisit cX0_layRevisit 4 none, Cond.methodLink RX0 105 yX0_use, Cond.instanceMethod yX0_use, Cond.selects RX0 yX0_use yX0_use, Cond.code yX0_use cX0_use 4 none, Cond.methodLink RX0 61 yX0_firstUnfinished, Cond.instanceMethod yX0_firstUnfinished, Cond.selects RX0 yX0_firstUnfinished yX0_firstUnfinished, Cond.code yX0_firstUnfinished cX0_firstUnfinished 4 (some .int), Cond.methodLink RX0 65 yX0_isKitTaken, Cond.instanceMethod yX0_isKitTaken, Cond.selects RX0 yX0_isKitTaken yX0_isKitTaken, Cond.code yX0_isKitTaken cX0_isKitTaken 5 (some .boolean), Cond.methodLink RX0 102 yX0_isOthersLesson, Cond.static yX0_isOthersLesson, Cond.code yX0_isOthersLesson cX0_isOthersLesson 3 (some .boolean), Cond.methodLink RX0 69 yX0_layLesson, Cond.instanceMethod yX0_layLesson, Cond.selects RX0 yX0_layLesson yX0_layLesson, Cond.code yX0_layLesson cX0_layLesson 3 none]
def wsX2_planAnew : List Cond := .code yX2_planAnew cX2_planAnew 2 none :: ((wsX2_planAnew_r1 ++ (wsX2_planAnew_r2 ++ wsX2_planAnew_r3)) ++ wsX20 ++ wsX00 ++ wsX10)
def wsX2_aim_r1 : List Cond := [Cond.classLink RX2 34 "java/lang/IllegalArgumentException", Cond.initialized "java/lang/IllegalArgumentException", Cond.classLink RX2 51 "java/lang/IllegalStateException", Cond.initialized "java/lang/IllegalStateException", Cond.fieldLink RX2 10 "LessonWeave" "syllabus" "LLessonWeave$Syllabus;", Cond.methodLink RX2 30 yX2_isWithin, Cond.static yX2_isWithin, Cond.initialized RX2, Cond.code yX2_isWithin cX2_isWithin 3 (some .boolean), Cond.methodLink RX2 56 yX1_add, Cond.instanceMethod yX1_add, Cond.selects RX1 yX1_add yX1_add, Cond.initialized RX1, Cond.code yX1_add cX1_add 6 (some .int), Cond.fieldLink RX1 36 "LessonWeave$Syllabus" "count" "I", Cond.fieldLink RX1 9 "LessonWeave$Syllabus" "lessons" "[I", Cond.fieldLink RX1 15 "LessonWeave$Syllabus" "kind" "[I", Cond.fieldLink RX1 18 "LessonWeave$Syllabus" "worth" "[I", Cond.fieldLink RX1 21 "LessonWeave$Syllabus" "kit" "[I", Cond.fieldLink RX1 27 "LessonWeave$Syllabus" "gap" "[I", Cond.methodLink RX1 40 yX1_putInOrder, Cond.instanceMethod yX1_putInOrder, Cond.selects RX1 yX1_putInOrder yX1_putInOrder, Cond.code yX1_putInOrder cX1_putInOrder 5 none]
def wsX2_aim_r2 : List Cond := [Cond.fieldLink RX1 33 "LessonWeave$Syllabus" "order" "[I", Cond.methodLink RX1 51 yX1_nextTaken, Cond.instanceMethod yX1_nextTaken, Cond.selects RX1 yX1_nextTaken yX1_nextTaken, Cond.code yX1_nextTaken cX1_nextTaken 5 (some .int), Cond.fieldLink RX1 30 "LessonWeave$Syllabus" "needs" "[I", Cond.static yX2_has, Cond.code yX2_has cX2_has 2 (some .boolean), Cond.methodLink RX1 55 yX1_isCovered, Cond.static yX1_isCovered, Cond.code yX1_isCovered cX1_isCovered 2 (some .boolean), Cond.methodLink RX2 60 yX2_planAnew, Cond.instanceMethod yX2_planAnew, Cond.selects RX2 yX2_planAnew yX2_planAnew, Cond.code yX2_planAnew cX2_planAnew 2 none, Cond.fieldLink RX2 27 "LessonWeave" "formerPlan" "LLessonWeave$Plan;", Cond.fieldLink RX2 23 "LessonWeave" "plan" "LLessonWeave$Plan;", Cond.fieldLink RX2 16 "LessonWeave" "lost" "[Z", Cond.methodLink RX2 168 yX0_lay, Cond.instanceMethod yX0_lay, Cond.selects RX0 yX0_lay yX0_lay, Cond.initialized RX0, Cond.code yX0_lay cX0_lay 4 none, Cond.methodLink RX0 30 yX0_clear]
def wsX2_aim_r3 : List Cond := [Cond.instanceMethod yX0_clear, Cond.selects RX0 yX0_clear yX0_clear, Cond.code yX0_clear cX0_clear 1 none, Cond.fieldLink RX0 9 "LessonWeave$Plan" "things" "[I", Cond.fieldLink RX0 15 "LessonWeave$Plan" "lessonDays" "[I", Cond.fieldLink RX0 18 "LessonWeave$Plan" "revisitDays" "[I", Cond.fieldLink RX0 21 "LessonWeave$Plan" "lessonsLaid" "[I", Cond.fieldLink RX0 24 "LessonWeave$Plan" "revisitsLaid" "[I", Cond.fieldLink RX0 27 "LessonWeave$Plan" "since" "[I", Cond.fieldLink RX0 39 "LessonWeave$Plan" "laidCount" "I", Cond.fieldLink RX0 43 "LessonWeave$Plan" "lateCount" "I", Cond.fieldLink RX0 46 "LessonWeave$Plan" "lastUsed" "I", Cond.methodLink RX0 33 yJ7_fill_53178, Cond.static yJ7_fill_53178, Cond.initialized RJ7, Cond.code yJ7_fill_53178 cJ7_fill_53178 4 none, Cond.methodLink RX0 49 yX0_layOn, Cond.instanceMethod yX0_layOn, Cond.selects RX0 yX0_layOn yX0_layOn, Cond.code yX0_layOn cX0_layOn 5 none, Cond.methodLink RX0 53 yX0_mostPressing, Cond.instanceMethod yX0_mostPressing, Cond.selects RX0 yX0_mostPressing yX0_mostPressing, Cond.code yX0_mostPressing cX0_mostPressing 7 (some .int)]
def wsX2_aim_r4 : List Cond := [Cond.methodLink RX0 78 yX0_isDue, Cond.instanceMethod yX0_isDue, Cond.selects RX0 yX0_isDue yX0_isDue, Cond.code yX0_isDue cX0_isDue 4 (some .boolean), Cond.methodLink RX0 90 yX0_nextGap, Cond.instanceMethod yX0_nextGap, Cond.selects RX0 yX0_nextGap yX0_nextGap, Cond.code yX0_nextGap cX0_nextGap 3 (some .int), Cond.methodLink RX0 81 yX0_lateFrom, Cond.instanceMethod yX0_lateFrom, Cond.selects RX0 yX0_lateFrom yX0_lateFrom, Cond.code yX0_lateFrom cX0_lateFrom 3 (some .int), Cond.methodLink RX0 57 yX0_layRevisit, Cond.instanceMethod yX0_layRevisit, Cond.selects RX0 yX0_layRevisit yX0_layRevisit, Cond.code yX0_layRevisit cX0_layRevisit 4 none, Cond.methodLink RX0 105 yX0_use, Cond.instanceMethod yX0_use, Cond.selects RX0 yX0_use yX0_use, Cond.code yX0_use cX0_use 4 none, Cond.methodLink RX0 61 yX0_firstUnfinished, Cond.instanceMethod yX0_firstUnfinished, Cond.selects RX0 yX0_firstUnfinished yX0_firstUnfinished, Cond.code yX0_firstUnfinished cX0_firstUnfinished 4 (some .int)]
def wsX2_aim_r5 : List Cond := [Cond.methodLink RX0 65 yX0_isKitTaken, Cond.instanceMethod yX0_isKitTaken, Cond.selects RX0 yX0_isKitTaken yX0_isKitTaken, Cond.code yX0_isKitTaken cX0_isKitTaken 5 (some .boolean), Cond.methodLink RX0 102 yX0_isOthersLesson, Cond.static yX0_isOthersLesson, Cond.code yX0_isOthersLesson cX0_isOthersLesson 3 (some .boolean), Cond.methodLink RX0 69 yX0_layLesson, Cond.instanceMethod yX0_layLesson, Cond.selects RX0 yX0_layLesson yX0_layLesson, Cond.code yX0_layLesson cX0_layLesson 3 none]
def wsX2_aim : List Cond := .code yX2_aim cX2_aim 6 (some .int) :: ((wsX2_aim_r1 ++ (wsX2_aim_r2 ++ (wsX2_aim_r3 ++ (wsX2_aim_r4 ++ wsX2_aim_r5)))) ++ wsX20 ++ wsX10 ++ wsX00 ++ (vx_atS RX2 38 "java/lang/IllegalArgumentException" ["java/lang/RuntimeException", "java/lang/Exception"]).filter goodWord ++ (vx_atS RX2 55 "java/lang/IllegalStateException" ["java/lang/RuntimeException", "java/lang/Exception"]).filter goodWord)
def wsX2_isAim : List Cond := .code yX2_isAim cX2_isAim 2 (some .boolean) :: ([.fieldLink RX2 10 "LessonWeave" "syllabus" "LLessonWeave$Syllabus;", .methodLink RX2 30 yX2_isWithin, .static yX2_isWithin, .initialized RX2, .code yX2_isWithin cX2_isWithin 3 (some .boolean)] ++ wsX20 ++ wsX10)
def wsX2_need_r1 : List Cond := [Cond.classLink RX2 67 "java/lang/IndexOutOfBoundsException", Cond.initialized "java/lang/IndexOutOfBoundsException", Cond.classLink RX2 34 "java/lang/IllegalArgumentException", Cond.initialized "java/lang/IllegalArgumentException", Cond.classLink RX2 51 "java/lang/IllegalStateException", Cond.initialized "java/lang/IllegalStateException", Cond.fieldLink RX2 10 "LessonWeave" "syllabus" "LLessonWeave$Syllabus;", Cond.methodLink RX2 63 yX2_isAim, Cond.instanceMethod yX2_isAim, Cond.selects RX2 yX2_isAim yX2_isAim, Cond.initialized RX2, Cond.code yX2_isAim cX2_isAim 2 (some .boolean), Cond.methodLink RX2 30 yX2_isWithin, Cond.static yX2_isWithin, Cond.code yX2_isWithin cX2_isWithin 3 (some .boolean), Cond.methodLink RX2 78 yX2_has, Cond.static yX2_has, Cond.code yX2_has cX2_has 2 (some .boolean), Cond.methodLink RX2 84 yX1_reach, Cond.instanceMethod yX1_reach, Cond.selects RX1 yX1_reach yX1_reach, Cond.initialized RX1, Cond.code yX1_reach cX1_reach 4 (some .int), Cond.fieldLink RX1 30 "LessonWeave$Syllabus" "needs" "[I"]
def wsX2_need_r2 : List Cond := [Cond.fieldLink RX1 36 "LessonWeave$Syllabus" "count" "I", Cond.methodLink RX1 43 yX1_neededBy, Cond.instanceMethod yX1_neededBy, Cond.selects RX1 yX1_neededBy yX1_neededBy, Cond.code yX1_neededBy cX1_neededBy 4 (some .int), Cond.methodLink RX2 90 yX1_setNeeds, Cond.instanceMethod yX1_setNeeds, Cond.selects RX1 yX1_setNeeds yX1_setNeeds, Cond.code yX1_setNeeds cX1_setNeeds 3 none, Cond.methodLink RX1 40 yX1_putInOrder, Cond.instanceMethod yX1_putInOrder, Cond.selects RX1 yX1_putInOrder yX1_putInOrder, Cond.code yX1_putInOrder cX1_putInOrder 5 none, Cond.fieldLink RX1 33 "LessonWeave$Syllabus" "order" "[I", Cond.fieldLink RX1 15 "LessonWeave$Syllabus" "kind" "[I", Cond.methodLink RX1 51 yX1_nextTaken, Cond.instanceMethod yX1_nextTaken, Cond.selects RX1 yX1_nextTaken yX1_nextTaken, Cond.code yX1_nextTaken cX1_nextTaken 5 (some .int), Cond.methodLink RX1 55 yX1_isCovered, Cond.static yX1_isCovered, Cond.code yX1_isCovered cX1_isCovered 2 (some .boolean), Cond.methodLink RX2 60 yX2_planAnew, Cond.instanceMethod yX2_planAnew]
def wsX2_need_r3 : List Cond := [Cond.selects RX2 yX2_planAnew yX2_planAnew, Cond.code yX2_planAnew cX2_planAnew 2 none, Cond.fieldLink RX2 27 "LessonWeave" "formerPlan" "LLessonWeave$Plan;", Cond.fieldLink RX2 23 "LessonWeave" "plan" "LLessonWeave$Plan;", Cond.fieldLink RX2 16 "LessonWeave" "lost" "[Z", Cond.methodLink RX2 168 yX0_lay, Cond.instanceMethod yX0_lay, Cond.selects RX0 yX0_lay yX0_lay, Cond.initialized RX0, Cond.code yX0_lay cX0_lay 4 none, Cond.methodLink RX0 30 yX0_clear, Cond.instanceMethod yX0_clear, Cond.selects RX0 yX0_clear yX0_clear, Cond.code yX0_clear cX0_clear 1 none, Cond.fieldLink RX0 9 "LessonWeave$Plan" "things" "[I", Cond.fieldLink RX0 15 "LessonWeave$Plan" "lessonDays" "[I", Cond.fieldLink RX0 18 "LessonWeave$Plan" "revisitDays" "[I", Cond.fieldLink RX0 21 "LessonWeave$Plan" "lessonsLaid" "[I", Cond.fieldLink RX0 24 "LessonWeave$Plan" "revisitsLaid" "[I", Cond.fieldLink RX0 27 "LessonWeave$Plan" "since" "[I", Cond.fieldLink RX0 39 "LessonWeave$Plan" "laidCount" "I", Cond.fieldLink RX0 43 "LessonWeave$Plan" "lateCount" "I", Cond.fieldLink RX0 46 "LessonWeave$Plan" "lastUsed" "I", Cond.methodLink RX0 33 yJ7_fill_53178]
def wsX2_need_r4 : List Cond := [Cond.static yJ7_fill_53178, Cond.initialized RJ7, Cond.code yJ7_fill_53178 cJ7_fill_53178 4 none, Cond.methodLink RX0 49 yX0_layOn, Cond.instanceMethod yX0_layOn, Cond.selects RX0 yX0_layOn yX0_layOn, Cond.code yX0_layOn cX0_layOn 5 none, Cond.methodLink RX0 53 yX0_mostPressing, Cond.instanceMethod yX0_mostPressing, Cond.selects RX0 yX0_mostPressing yX0_mostPressing, Cond.code yX0_mostPressing cX0_mostPressing 7 (some .int), Cond.methodLink RX0 78 yX0_isDue, Cond.instanceMethod yX0_isDue, Cond.selects RX0 yX0_isDue yX0_isDue, Cond.code yX0_isDue cX0_isDue 4 (some .boolean), Cond.methodLink RX0 90 yX0_nextGap, Cond.instanceMethod yX0_nextGap, Cond.selects RX0 yX0_nextGap yX0_nextGap, Cond.code yX0_nextGap cX0_nextGap 3 (some .int), Cond.methodLink RX0 81 yX0_lateFrom, Cond.instanceMethod yX0_lateFrom, Cond.selects RX0 yX0_lateFrom yX0_lateFrom, Cond.code yX0_lateFrom cX0_lateFrom 3 (some .int), Cond.methodLink RX0 57 yX0_layRevisit]
def wsX2_need_r5 : List Cond := [Cond.instanceMethod yX0_layRevisit, Cond.selects RX0 yX0_layRevisit yX0_layRevisit, Cond.code yX0_layRevisit cX0_layRevisit 4 none, Cond.methodLink RX0 105 yX0_use, Cond.instanceMethod yX0_use, Cond.selects RX0 yX0_use yX0_use, Cond.code yX0_use cX0_use 4 none, Cond.methodLink RX0 61 yX0_firstUnfinished, Cond.instanceMethod yX0_firstUnfinished, Cond.selects RX0 yX0_firstUnfinished yX0_firstUnfinished, Cond.code yX0_firstUnfinished cX0_firstUnfinished 4 (some .int), Cond.methodLink RX0 65 yX0_isKitTaken, Cond.instanceMethod yX0_isKitTaken, Cond.selects RX0 yX0_isKitTaken yX0_isKitTaken, Cond.code yX0_isKitTaken cX0_isKitTaken 5 (some .boolean), Cond.methodLink RX0 102 yX0_isOthersLesson, Cond.static yX0_isOthersLesson, Cond.code yX0_isOthersLesson cX0_isOthersLesson 3 (some .boolean), Cond.methodLink RX0 69 yX0_layLesson, Cond.instanceMethod yX0_layLesson, Cond.selects RX0 yX0_layLesson yX0_layLesson, Cond.code yX0_layLesson cX0_layLesson 3 none, Cond.methodLink RX2 94 yJ6_bitCount_0f7a4, Cond.static yJ6_bitCount_0f7a4]
def wsX2_need_r6 : List Cond := [Cond.initialized RJ6, Cond.code yJ6_bitCount_0f7a4 cJ6_bitCount_0f7a4 1 (some .int), Cond.constant RJ6 265 (1431655765), Cond.constant RJ6 266 (858993459), Cond.constant RJ6 267 (252645135)]
def wsX2_need : List Cond := .code yX2_need cX2_need 3 (some .int) :: ((wsX2_need_r1 ++ (wsX2_need_r2 ++ (wsX2_need_r3 ++ (wsX2_need_r4 ++ (wsX2_need_r5 ++ wsX2_need_r6))))) ++ wsX20 ++ wsX10 ++ wsX00 ++ (vx_atS RX2 71 "java/lang/IndexOutOfBoundsException" ["java/lang/RuntimeException", "java/lang/Exception"]).filter goodWord ++ (vx_atS RX2 38 "java/lang/IllegalArgumentException" ["java/lang/RuntimeException", "java/lang/Exception"]).filter goodWord ++ (vx_atS RX2 55 "java/lang/IllegalStateException" ["java/lang/RuntimeException", "java/lang/Exception"]).filter goodWord)
def wsX2_free_r1 : List Cond := [Cond.classLink RX2 67 "java/lang/IndexOutOfBoundsException", Cond.initialized "java/lang/IndexOutOfBoundsException", Cond.classLink RX2 99 "java/util/NoSuchElementException", Cond.initialized "java/util/NoSuchElementException", Cond.fieldLink RX2 10 "LessonWeave" "syllabus" "LLessonWeave$Syllabus;", Cond.methodLink RX2 63 yX2_isAim, Cond.instanceMethod yX2_isAim, Cond.selects RX2 yX2_isAim yX2_isAim, Cond.initialized RX2, Cond.code yX2_isAim cX2_isAim 2 (some .boolean), Cond.methodLink RX2 30 yX2_isWithin, Cond.static yX2_isWithin, Cond.code yX2_isWithin cX2_isWithin 3 (some .boolean), Cond.methodLink RX2 78 yX2_has, Cond.static yX2_has, Cond.code yX2_has cX2_has 2 (some .boolean), Cond.methodLink RX2 90 yX1_setNeeds, Cond.instanceMethod yX1_setNeeds, Cond.selects RX1 yX1_setNeeds yX1_setNeeds, Cond.initialized RX1, Cond.code yX1_setNeeds cX1_setNeeds 3 none, Cond.fieldLink RX1 30 "LessonWeave$Syllabus" "needs" "[I", Cond.methodLink RX1 40 yX1_putInOrder, Cond.instanceMethod yX1_putInOrder]
def wsX2_free_r2 : List Cond := [Cond.selects RX1 yX1_putInOrder yX1_putInOrder, Cond.code yX1_putInOrder cX1_putInOrder 5 none, Cond.fieldLink RX1 36 "LessonWeave$Syllabus" "count" "I", Cond.fieldLink RX1 33 "LessonWeave$Syllabus" "order" "[I", Cond.fieldLink RX1 15 "LessonWeave$Syllabus" "kind" "[I", Cond.methodLink RX1 51 yX1_nextTaken, Cond.instanceMethod yX1_nextTaken, Cond.selects RX1 yX1_nextTaken yX1_nextTaken, Cond.code yX1_nextTaken cX1_nextTaken 5 (some .int), Cond.methodLink RX1 55 yX1_isCovered, Cond.static yX1_isCovered, Cond.code yX1_isCovered cX1_isCovered 2 (some .boolean), Cond.methodLink RX2 60 yX2_planAnew, Cond.instanceMethod yX2_planAnew, Cond.selects RX2 yX2_planAnew yX2_planAnew, Cond.code yX2_planAnew cX2_planAnew 2 none, Cond.fieldLink RX2 27 "LessonWeave" "formerPlan" "LLessonWeave$Plan;", Cond.fieldLink RX2 23 "LessonWeave" "plan" "LLessonWeave$Plan;", Cond.fieldLink RX2 16 "LessonWeave" "lost" "[Z", Cond.methodLink RX2 168 yX0_lay, Cond.instanceMethod yX0_lay, Cond.selects RX0 yX0_lay yX0_lay, Cond.initialized RX0, Cond.code yX0_lay cX0_lay 4 none]
def wsX2_free_r3 : List Cond := [Cond.methodLink RX0 30 yX0_clear, Cond.instanceMethod yX0_clear, Cond.selects RX0 yX0_clear yX0_clear, Cond.code yX0_clear cX0_clear 1 none, Cond.fieldLink RX0 9 "LessonWeave$Plan" "things" "[I", Cond.fieldLink RX0 15 "LessonWeave$Plan" "lessonDays" "[I", Cond.fieldLink RX0 18 "LessonWeave$Plan" "revisitDays" "[I", Cond.fieldLink RX0 21 "LessonWeave$Plan" "lessonsLaid" "[I", Cond.fieldLink RX0 24 "LessonWeave$Plan" "revisitsLaid" "[I", Cond.fieldLink RX0 27 "LessonWeave$Plan" "since" "[I", Cond.fieldLink RX0 39 "LessonWeave$Plan" "laidCount" "I", Cond.fieldLink RX0 43 "LessonWeave$Plan" "lateCount" "I", Cond.fieldLink RX0 46 "LessonWeave$Plan" "lastUsed" "I", Cond.methodLink RX0 33 yJ7_fill_53178, Cond.static yJ7_fill_53178, Cond.initialized RJ7, Cond.code yJ7_fill_53178 cJ7_fill_53178 4 none, Cond.methodLink RX0 49 yX0_layOn, Cond.instanceMethod yX0_layOn, Cond.selects RX0 yX0_layOn yX0_layOn, Cond.code yX0_layOn cX0_layOn 5 none, Cond.methodLink RX0 53 yX0_mostPressing, Cond.instanceMethod yX0_mostPressing, Cond.selects RX0 yX0_mostPressing yX0_mostPressing]
def wsX2_free_r4 : List Cond := [Cond.code yX0_mostPressing cX0_mostPressing 7 (some .int), Cond.methodLink RX0 78 yX0_isDue, Cond.instanceMethod yX0_isDue, Cond.selects RX0 yX0_isDue yX0_isDue, Cond.code yX0_isDue cX0_isDue 4 (some .boolean), Cond.methodLink RX0 90 yX0_nextGap, Cond.instanceMethod yX0_nextGap, Cond.selects RX0 yX0_nextGap yX0_nextGap, Cond.code yX0_nextGap cX0_nextGap 3 (some .int), Cond.methodLink RX0 81 yX0_lateFrom, Cond.instanceMethod yX0_lateFrom, Cond.selects RX0 yX0_lateFrom yX0_lateFrom, Cond.code yX0_lateFrom cX0_lateFrom 3 (some .int), Cond.methodLink RX0 57 yX0_layRevisit, Cond.instanceMethod yX0_layRevisit, Cond.selects RX0 yX0_layRevisit yX0_layRevisit, Cond.code yX0_layRevisit cX0_layRevisit 4 none, Cond.methodLink RX0 105 yX0_use, Cond.instanceMethod yX0_use, Cond.selects RX0 yX0_use yX0_use, Cond.code yX0_use cX0_use 4 none, Cond.methodLink RX0 61 yX0_firstUnfinished, Cond.instanceMethod yX0_firstUnfinished, Cond.selects RX0 yX0_firstUnfinished yX0_firstUnfinished]
def wsX2_free_r5 : List Cond := [Cond.code yX0_firstUnfinished cX0_firstUnfinished 4 (some .int), Cond.methodLink RX0 65 yX0_isKitTaken, Cond.instanceMethod yX0_isKitTaken, Cond.selects RX0 yX0_isKitTaken yX0_isKitTaken, Cond.code yX0_isKitTaken cX0_isKitTaken 5 (some .boolean), Cond.methodLink RX0 102 yX0_isOthersLesson, Cond.static yX0_isOthersLesson, Cond.code yX0_isOthersLesson cX0_isOthersLesson 3 (some .boolean), Cond.methodLink RX0 69 yX0_layLesson, Cond.instanceMethod yX0_layLesson, Cond.selects RX0 yX0_layLesson yX0_layLesson, Cond.code yX0_layLesson cX0_layLesson 3 none, Cond.methodLink RX2 94 yJ6_bitCount_0f7a4, Cond.static yJ6_bitCount_0f7a4, Cond.initialized RJ6, Cond.code yJ6_bitCount_0f7a4 cJ6_bitCount_0f7a4 1 (some .int), Cond.constant RJ6 265 (1431655765), Cond.constant RJ6 266 (858993459), Cond.constant RJ6 267 (252645135)]
def wsX2_free : List Cond := .code yX2_free cX2_free 3 (some .int) :: ((wsX2_free_r1 ++ (wsX2_free_r2 ++ (wsX2_free_r3 ++ (wsX2_free_r4 ++ wsX2_free_r5)))) ++ wsX20 ++ wsX10 ++ wsX00 ++ (vx_atS RX2 71 "java/lang/IndexOutOfBoundsException" ["java/lang/RuntimeException", "java/lang/Exception"]).filter goodWord ++ xk_nsS.filter goodWord)
def wsX2_revisits_r1 : List Cond := [Cond.classLink RX2 67 "java/lang/IndexOutOfBoundsException", Cond.initialized "java/lang/IndexOutOfBoundsException", Cond.classLink RX2 34 "java/lang/IllegalArgumentException", Cond.initialized "java/lang/IllegalArgumentException", Cond.fieldLink RX2 10 "LessonWeave" "syllabus" "LLessonWeave$Syllabus;", Cond.methodLink RX2 63 yX2_isAim, Cond.instanceMethod yX2_isAim, Cond.selects RX2 yX2_isAim yX2_isAim, Cond.initialized RX2, Cond.code yX2_isAim cX2_isAim 2 (some .boolean), Cond.methodLink RX2 30 yX2_isWithin, Cond.static yX2_isWithin, Cond.code yX2_isWithin cX2_isWithin 3 (some .boolean), Cond.methodLink RX2 60 yX2_planAnew, Cond.instanceMethod yX2_planAnew, Cond.selects RX2 yX2_planAnew yX2_planAnew, Cond.code yX2_planAnew cX2_planAnew 2 none, Cond.fieldLink RX2 27 "LessonWeave" "formerPlan" "LLessonWeave$Plan;", Cond.fieldLink RX2 23 "LessonWeave" "plan" "LLessonWeave$Plan;", Cond.fieldLink RX2 16 "LessonWeave" "lost" "[Z", Cond.methodLink RX2 168 yX0_lay, Cond.instanceMethod yX0_lay, Cond.selects RX0 yX0_lay yX0_lay, Cond.initialized RX0]
def wsX2_revisits_r2 : List Cond := [Cond.code yX0_lay cX0_lay 4 none, Cond.methodLink RX0 30 yX0_clear, Cond.instanceMethod yX0_clear, Cond.selects RX0 yX0_clear yX0_clear, Cond.code yX0_clear cX0_clear 1 none, Cond.fieldLink RX0 9 "LessonWeave$Plan" "things" "[I", Cond.fieldLink RX0 15 "LessonWeave$Plan" "lessonDays" "[I", Cond.fieldLink RX0 18 "LessonWeave$Plan" "revisitDays" "[I", Cond.fieldLink RX0 21 "LessonWeave$Plan" "lessonsLaid" "[I", Cond.fieldLink RX0 24 "LessonWeave$Plan" "revisitsLaid" "[I", Cond.fieldLink RX0 27 "LessonWeave$Plan" "since" "[I", Cond.fieldLink RX0 39 "LessonWeave$Plan" "laidCount" "I", Cond.fieldLink RX0 43 "LessonWeave$Plan" "lateCount" "I", Cond.fieldLink RX0 46 "LessonWeave$Plan" "lastUsed" "I", Cond.methodLink RX0 33 yJ7_fill_53178, Cond.static yJ7_fill_53178, Cond.initialized RJ7, Cond.code yJ7_fill_53178 cJ7_fill_53178 4 none, Cond.methodLink RX0 49 yX0_layOn, Cond.instanceMethod yX0_layOn, Cond.selects RX0 yX0_layOn yX0_layOn, Cond.code yX0_layOn cX0_layOn 5 none, Cond.methodLink RX0 53 yX0_mostPressing, Cond.instanceMethod yX0_mostPressing]
def wsX2_revisits_r3 : List Cond := [Cond.selects RX0 yX0_mostPressing yX0_mostPressing, Cond.code yX0_mostPressing cX0_mostPressing 7 (some .int), Cond.methodLink RX0 78 yX0_isDue, Cond.instanceMethod yX0_isDue, Cond.selects RX0 yX0_isDue yX0_isDue, Cond.code yX0_isDue cX0_isDue 4 (some .boolean), Cond.methodLink RX0 90 yX0_nextGap, Cond.instanceMethod yX0_nextGap, Cond.selects RX0 yX0_nextGap yX0_nextGap, Cond.code yX0_nextGap cX0_nextGap 3 (some .int), Cond.methodLink RX0 81 yX0_lateFrom, Cond.instanceMethod yX0_lateFrom, Cond.selects RX0 yX0_lateFrom yX0_lateFrom, Cond.code yX0_lateFrom cX0_lateFrom 3 (some .int), Cond.methodLink RX0 57 yX0_layRevisit, Cond.instanceMethod yX0_layRevisit, Cond.selects RX0 yX0_layRevisit yX0_layRevisit, Cond.code yX0_layRevisit cX0_layRevisit 4 none, Cond.methodLink RX0 105 yX0_use, Cond.instanceMethod yX0_use, Cond.selects RX0 yX0_use yX0_use, Cond.code yX0_use cX0_use 4 none, Cond.methodLink RX0 61 yX0_firstUnfinished, Cond.instanceMethod yX0_firstUnfinished]
def wsX2_revisits_r4 : List Cond := [Cond.selects RX0 yX0_firstUnfinished yX0_firstUnfinished, Cond.code yX0_firstUnfinished cX0_firstUnfinished 4 (some .int), Cond.methodLink RX0 65 yX0_isKitTaken, Cond.instanceMethod yX0_isKitTaken, Cond.selects RX0 yX0_isKitTaken yX0_isKitTaken, Cond.code yX0_isKitTaken cX0_isKitTaken 5 (some .boolean), Cond.methodLink RX0 102 yX0_isOthersLesson, Cond.static yX0_isOthersLesson, Cond.code yX0_isOthersLesson cX0_isOthersLesson 3 (some .boolean), Cond.methodLink RX0 69 yX0_layLesson, Cond.instanceMethod yX0_layLesson, Cond.selects RX0 yX0_layLesson yX0_layLesson, Cond.code yX0_layLesson cX0_layLesson 3 none]
def wsX2_revisits : List Cond := .code yX2_revisits cX2_revisits 5 (some .int) :: ((wsX2_revisits_r1 ++ (wsX2_revisits_r2 ++ (wsX2_revisits_r3 ++ wsX2_revisits_r4))) ++ wsX20 ++ wsX10 ++ wsX00 ++ (vx_atS RX2 71 "java/lang/IndexOutOfBoundsException" ["java/lang/RuntimeException", "java/lang/Exception"]).filter goodWord ++ (vx_atS RX2 38 "java/lang/IllegalArgumentException" ["java/lang/RuntimeException", "java/lang/Exception"]).filter goodWord)
def wsX2_aims : List Cond := .code yX2_aims cX2_aims 1 (some .int) :: ([.fieldLink RX2 10 "LessonWeave" "syllabus" "LLessonWeave$Syllabus;"] ++ wsX20 ++ wsX10)
def wsX2_allNeeds : List Cond := .code yX2_allNeeds cX2_allNeeds 2 (some .int) :: ([.classLink RX2 67 "java/lang/IndexOutOfBoundsException", .initialized "java/lang/IndexOutOfBoundsException", .fieldLink RX2 10 "LessonWeave" "syllabus" "LLessonWeave$Syllabus;", .methodLink RX2 63 yX2_isAim, .instanceMethod yX2_isAim, .selects RX2 yX2_isAim yX2_isAim, .initialized RX2, .code yX2_isAim cX2_isAim 2 (some .boolean), .methodLink RX2 30 yX2_isWithin, .static yX2_isWithin, .code yX2_isWithin cX2_isWithin 3 (some .boolean), .methodLink RX2 84 yX1_reach, .instanceMethod yX1_reach, .selects RX1 yX1_reach yX1_reach, .initialized RX1, .code yX1_reach cX1_reach 4 (some .int), .fieldLink RX1 30 "LessonWeave$Syllabus" "needs" "[I", .fieldLink RX1 36 "LessonWeave$Syllabus" "count" "I", .methodLink RX1 43 yX1_neededBy, .instanceMethod yX1_neededBy, .selects RX1 yX1_neededBy yX1_neededBy, .code yX1_neededBy cX1_neededBy 4 (some .int), .static yX2_has, .code yX2_has cX2_has 2 (some .boolean)] ++ wsX20 ++ wsX10 ++ (vx_atS RX2 71 "java/lang/IndexOutOfBoundsException" ["java/lang/RuntimeException", "java/lang/Exception"]).filter goodWord)
def wsX2_ordered : List Cond := .code yX2_ordered cX2_ordered 2 (some .int) :: ([.classLink RX2 67 "java/lang/IndexOutOfBoundsException", .initialized "java/lang/IndexOutOfBoundsException", .fieldLink RX2 10 "LessonWeave" "syllabus" "LLessonWeave$Syllabus;", .methodLink RX2 30 yX2_isWithin, .static yX2_isWithin, .initialized RX2, .code yX2_isWithin cX2_isWithin 3 (some .boolean)] ++ wsX20 ++ wsX10 ++ (vx_atS RX2 71 "java/lang/IndexOutOfBoundsException" ["java/lang/RuntimeException", "java/lang/Exception"]).filter goodWord)
def wsX2_isDay : List Cond := .code yX2_isDay cX2_isDay 1 (some .boolean) :: ([.methodLink RX2 30 yX2_isWithin, .static yX2_isWithin, .initialized RX2, .code yX2_isWithin cX2_isWithin 3 (some .boolean)])
def wsX2_lose_r1 : List Cond := [Cond.classLink RX2 67 "java/lang/IndexOutOfBoundsException", Cond.initialized "java/lang/IndexOutOfBoundsException", Cond.classLink RX2 51 "java/lang/IllegalStateException", Cond.initialized "java/lang/IllegalStateException", Cond.fieldLink RX2 16 "LessonWeave" "lost" "[Z", Cond.fieldLink RX2 23 "LessonWeave" "plan" "LLessonWeave$Plan;", Cond.fieldLink RX2 27 "LessonWeave" "formerPlan" "LLessonWeave$Plan;", Cond.methodLink RX2 119 yX2_isDay, Cond.static yX2_isDay, Cond.initialized RX2, Cond.code yX2_isDay cX2_isDay 1 (some .boolean), Cond.methodLink RX2 30 yX2_isWithin, Cond.static yX2_isWithin, Cond.code yX2_isWithin cX2_isWithin 3 (some .boolean), Cond.methodLink RX2 60 yX2_planAnew, Cond.instanceMethod yX2_planAnew, Cond.selects RX2 yX2_planAnew yX2_planAnew, Cond.code yX2_planAnew cX2_planAnew 2 none, Cond.fieldLink RX2 10 "LessonWeave" "syllabus" "LLessonWeave$Syllabus;", Cond.methodLink RX2 168 yX0_lay, Cond.instanceMethod yX0_lay, Cond.selects RX0 yX0_lay yX0_lay, Cond.initialized RX0, Cond.code yX0_lay cX0_lay 4 none]
def wsX2_lose_r2 : List Cond := [Cond.methodLink RX0 30 yX0_clear, Cond.instanceMethod yX0_clear, Cond.selects RX0 yX0_clear yX0_clear, Cond.code yX0_clear cX0_clear 1 none, Cond.fieldLink RX0 9 "LessonWeave$Plan" "things" "[I", Cond.fieldLink RX0 15 "LessonWeave$Plan" "lessonDays" "[I", Cond.fieldLink RX0 18 "LessonWeave$Plan" "revisitDays" "[I", Cond.fieldLink RX0 21 "LessonWeave$Plan" "lessonsLaid" "[I", Cond.fieldLink RX0 24 "LessonWeave$Plan" "revisitsLaid" "[I", Cond.fieldLink RX0 27 "LessonWeave$Plan" "since" "[I", Cond.fieldLink RX0 39 "LessonWeave$Plan" "laidCount" "I", Cond.fieldLink RX0 43 "LessonWeave$Plan" "lateCount" "I", Cond.fieldLink RX0 46 "LessonWeave$Plan" "lastUsed" "I", Cond.methodLink RX0 33 yJ7_fill_53178, Cond.static yJ7_fill_53178, Cond.initialized RJ7, Cond.code yJ7_fill_53178 cJ7_fill_53178 4 none, Cond.methodLink RX0 49 yX0_layOn, Cond.instanceMethod yX0_layOn, Cond.selects RX0 yX0_layOn yX0_layOn, Cond.code yX0_layOn cX0_layOn 5 none, Cond.methodLink RX0 53 yX0_mostPressing, Cond.instanceMethod yX0_mostPressing, Cond.selects RX0 yX0_mostPressing yX0_mostPressing]
def wsX2_lose_r3 : List Cond := [Cond.code yX0_mostPressing cX0_mostPressing 7 (some .int), Cond.methodLink RX0 78 yX0_isDue, Cond.instanceMethod yX0_isDue, Cond.selects RX0 yX0_isDue yX0_isDue, Cond.code yX0_isDue cX0_isDue 4 (some .boolean), Cond.methodLink RX0 90 yX0_nextGap, Cond.instanceMethod yX0_nextGap, Cond.selects RX0 yX0_nextGap yX0_nextGap, Cond.code yX0_nextGap cX0_nextGap 3 (some .int), Cond.methodLink RX0 81 yX0_lateFrom, Cond.instanceMethod yX0_lateFrom, Cond.selects RX0 yX0_lateFrom yX0_lateFrom, Cond.code yX0_lateFrom cX0_lateFrom 3 (some .int), Cond.methodLink RX0 57 yX0_layRevisit, Cond.instanceMethod yX0_layRevisit, Cond.selects RX0 yX0_layRevisit yX0_layRevisit, Cond.code yX0_layRevisit cX0_layRevisit 4 none, Cond.methodLink RX0 105 yX0_use, Cond.instanceMethod yX0_use, Cond.selects RX0 yX0_use yX0_use, Cond.code yX0_use cX0_use 4 none, Cond.methodLink RX0 61 yX0_firstUnfinished, Cond.instanceMethod yX0_firstUnfinished, Cond.selects RX0 yX0_firstUnfinished yX0_firstUnfinished]
def wsX2_lose_r4 : List Cond := [Cond.code yX0_firstUnfinished cX0_firstUnfinished 4 (some .int), Cond.methodLink RX0 65 yX0_isKitTaken, Cond.instanceMethod yX0_isKitTaken, Cond.selects RX0 yX0_isKitTaken yX0_isKitTaken, Cond.code yX0_isKitTaken cX0_isKitTaken 5 (some .boolean), Cond.methodLink RX0 102 yX0_isOthersLesson, Cond.static yX0_isOthersLesson, Cond.code yX0_isOthersLesson cX0_isOthersLesson 3 (some .boolean), Cond.methodLink RX0 69 yX0_layLesson, Cond.instanceMethod yX0_layLesson, Cond.selects RX0 yX0_layLesson yX0_layLesson, Cond.code yX0_layLesson cX0_layLesson 3 none, Cond.methodLink RX2 126 yX0_movedSince, Cond.instanceMethod yX0_movedSince, Cond.selects RX0 yX0_movedSince yX0_movedSince, Cond.code yX0_movedSince cX0_movedSince 2 (some .int), Cond.methodLink RX0 109 yX0_changed, Cond.static yX0_changed, Cond.code yX0_changed cX0_changed 4 (some .int)]
def wsX2_lose : List Cond := .code yX2_lose cX2_lose 2 (some .int) :: ((wsX2_lose_r1 ++ (wsX2_lose_r2 ++ (wsX2_lose_r3 ++ wsX2_lose_r4))) ++ wsX20 ++ wsX00 ++ wsX10 ++ (vx_atS RX2 71 "java/lang/IndexOutOfBoundsException" ["java/lang/RuntimeException", "java/lang/Exception"]).filter goodWord ++ (vx_atS RX2 55 "java/lang/IllegalStateException" ["java/lang/RuntimeException", "java/lang/Exception"]).filter goodWord)
def wsX2_on : List Cond := .code yX2_on cX2_on 2 (some .int) :: ([.classLink RX2 67 "java/lang/IndexOutOfBoundsException", .initialized "java/lang/IndexOutOfBoundsException", .fieldLink RX2 23 "LessonWeave" "plan" "LLessonWeave$Plan;", .methodLink RX2 119 yX2_isDay, .static yX2_isDay, .initialized RX2, .code yX2_isDay cX2_isDay 1 (some .boolean), .methodLink RX2 30 yX2_isWithin, .static yX2_isWithin, .code yX2_isWithin cX2_isWithin 3 (some .boolean)] ++ wsX20 ++ wsX00 ++ (vx_atS RX2 71 "java/lang/IndexOutOfBoundsException" ["java/lang/RuntimeException", "java/lang/Exception"]).filter goodWord)
def wsX2_lessonDay : List Cond := .code yX2_lessonDay cX2_lessonDay 3 (some .int) :: ([.classLink RX2 67 "java/lang/IndexOutOfBoundsException", .initialized "java/lang/IndexOutOfBoundsException", .fieldLink RX2 10 "LessonWeave" "syllabus" "LLessonWeave$Syllabus;", .fieldLink RX2 23 "LessonWeave" "plan" "LLessonWeave$Plan;", .methodLink RX2 63 yX2_isAim, .instanceMethod yX2_isAim, .selects RX2 yX2_isAim yX2_isAim, .initialized RX2, .code yX2_isAim cX2_isAim 2 (some .boolean), .methodLink RX2 30 yX2_isWithin, .static yX2_isWithin, .code yX2_isWithin cX2_isWithin 3 (some .boolean)] ++ wsX20 ++ wsX10 ++ wsX00 ++ (vx_atS RX2 71 "java/lang/IndexOutOfBoundsException" ["java/lang/RuntimeException", "java/lang/Exception"]).filter goodWord)
def wsX2_revisitDay : List Cond := .code yX2_revisitDay cX2_revisitDay 3 (some .int) :: ([.classLink RX2 67 "java/lang/IndexOutOfBoundsException", .initialized "java/lang/IndexOutOfBoundsException", .fieldLink RX2 10 "LessonWeave" "syllabus" "LLessonWeave$Syllabus;", .fieldLink RX2 23 "LessonWeave" "plan" "LLessonWeave$Plan;", .methodLink RX2 63 yX2_isAim, .instanceMethod yX2_isAim, .selects RX2 yX2_isAim yX2_isAim, .initialized RX2, .code yX2_isAim cX2_isAim 2 (some .boolean), .methodLink RX2 30 yX2_isWithin, .static yX2_isWithin, .code yX2_isWithin cX2_isWithin 3 (some .boolean)] ++ wsX20 ++ wsX10 ++ wsX00 ++ (vx_atS RX2 71 "java/lang/IndexOutOfBoundsException" ["java/lang/RuntimeException", "java/lang/Exception"]).filter goodWord)
def wsX2_laid : List Cond := .code yX2_laid cX2_laid 1 (some .int) :: ([.fieldLink RX2 23 "LessonWeave" "plan" "LLessonWeave$Plan;"] ++ wsX20 ++ wsX00)
def wsX2_late : List Cond := .code yX2_late cX2_late 1 (some .int) :: ([.fieldLink RX2 23 "LessonWeave" "plan" "LLessonWeave$Plan;"] ++ wsX20 ++ wsX00)
def wsX2_lastDay : List Cond := .code yX2_lastDay cX2_lastDay 1 (some .int) :: ([.fieldLink RX2 23 "LessonWeave" "plan" "LLessonWeave$Plan;"] ++ wsX20 ++ wsX00)
def wsX2_worthwhile_r1 : List Cond := [Cond.classLink RX2 34 "java/lang/IllegalArgumentException", Cond.initialized "java/lang/IllegalArgumentException", Cond.fieldLink RX2 10 "LessonWeave" "syllabus" "LLessonWeave$Syllabus;", Cond.methodLink RX2 30 yX2_isWithin, Cond.static yX2_isWithin, Cond.initialized RX2, Cond.code yX2_isWithin cX2_isWithin 3 (some .boolean), Cond.methodLink RX2 157 yX1_bestSet, Cond.instanceMethod yX1_bestSet, Cond.selects RX1 yX1_bestSet yX1_bestSet, Cond.initialized RX1, Cond.code yX1_bestSet cX1_bestSet 6 (some .int), Cond.fieldLink RX1 36 "LessonWeave$Syllabus" "count" "I", Cond.methodLink RX1 58 yX1_isClosed, Cond.instanceMethod yX1_isClosed, Cond.selects RX1 yX1_isClosed yX1_isClosed, Cond.code yX1_isClosed cX1_isClosed 3 (some .boolean), Cond.fieldLink RX1 30 "LessonWeave$Syllabus" "needs" "[I", Cond.static yX2_has, Cond.code yX2_has cX2_has 2 (some .boolean), Cond.methodLink RX1 55 yX1_isCovered, Cond.static yX1_isCovered, Cond.code yX1_isCovered cX1_isCovered 2 (some .boolean), Cond.methodLink RX1 62 yX1_netOf]
def wsX2_worthwhile_r2 : List Cond := [Cond.instanceMethod yX1_netOf, Cond.selects RX1 yX1_netOf yX1_netOf, Cond.code yX1_netOf cX1_netOf 5 (some .int), Cond.fieldLink RX1 18 "LessonWeave$Syllabus" "worth" "[I", Cond.fieldLink RX1 9 "LessonWeave$Syllabus" "lessons" "[I", Cond.methodLink RX1 65 yJ6_bitCount_0f7a4, Cond.static yJ6_bitCount_0f7a4, Cond.initialized RJ6, Cond.code yJ6_bitCount_0f7a4 cJ6_bitCount_0f7a4 1 (some .int), Cond.constant RJ6 265 (1431655765), Cond.constant RJ6 266 (858993459), Cond.constant RJ6 267 (252645135)]
def wsX2_worthwhile : List Cond := .code yX2_worthwhile cX2_worthwhile 2 (some .int) :: ((wsX2_worthwhile_r1 ++ wsX2_worthwhile_r2) ++ wsX20 ++ wsX10 ++ (vx_atS RX2 38 "java/lang/IllegalArgumentException" ["java/lang/RuntimeException", "java/lang/Exception"]).filter goodWord)
def wsX2_bestNet_r1 : List Cond := [Cond.classLink RX2 34 "java/lang/IllegalArgumentException", Cond.initialized "java/lang/IllegalArgumentException", Cond.fieldLink RX2 10 "LessonWeave" "syllabus" "LLessonWeave$Syllabus;", Cond.methodLink RX2 30 yX2_isWithin, Cond.static yX2_isWithin, Cond.initialized RX2, Cond.code yX2_isWithin cX2_isWithin 3 (some .boolean), Cond.methodLink RX2 157 yX1_bestSet, Cond.instanceMethod yX1_bestSet, Cond.selects RX1 yX1_bestSet yX1_bestSet, Cond.initialized RX1, Cond.code yX1_bestSet cX1_bestSet 6 (some .int), Cond.fieldLink RX1 36 "LessonWeave$Syllabus" "count" "I", Cond.methodLink RX1 58 yX1_isClosed, Cond.instanceMethod yX1_isClosed, Cond.selects RX1 yX1_isClosed yX1_isClosed, Cond.code yX1_isClosed cX1_isClosed 3 (some .boolean), Cond.fieldLink RX1 30 "LessonWeave$Syllabus" "needs" "[I", Cond.static yX2_has, Cond.code yX2_has cX2_has 2 (some .boolean), Cond.methodLink RX1 55 yX1_isCovered, Cond.static yX1_isCovered, Cond.code yX1_isCovered cX1_isCovered 2 (some .boolean), Cond.methodLink RX1 62 yX1_netOf]
def wsX2_bestNet_r2 : List Cond := [Cond.instanceMethod yX1_netOf, Cond.selects RX1 yX1_netOf yX1_netOf, Cond.code yX1_netOf cX1_netOf 5 (some .int), Cond.fieldLink RX1 18 "LessonWeave$Syllabus" "worth" "[I", Cond.fieldLink RX1 9 "LessonWeave$Syllabus" "lessons" "[I", Cond.methodLink RX1 65 yJ6_bitCount_0f7a4, Cond.static yJ6_bitCount_0f7a4, Cond.initialized RJ6, Cond.code yJ6_bitCount_0f7a4 cJ6_bitCount_0f7a4 1 (some .int), Cond.constant RJ6 265 (1431655765), Cond.constant RJ6 266 (858993459), Cond.constant RJ6 267 (252645135), Cond.methodLink RX2 160 yX1_netOf]
def wsX2_bestNet : List Cond := .code yX2_bestNet cX2_bestNet 2 (some .int) :: ((wsX2_bestNet_r1 ++ wsX2_bestNet_r2) ++ wsX20 ++ wsX10 ++ (vx_atS RX2 38 "java/lang/IllegalArgumentException" ["java/lang/RuntimeException", "java/lang/Exception"]).filter goodWord)
def wsX2_closedSets : List Cond := .code yX2_closedSets cX2_closedSets 1 (some .int) :: ([.fieldLink RX2 10 "LessonWeave" "syllabus" "LLessonWeave$Syllabus;", .methodLink RX2 164 yX1_countClosed, .instanceMethod yX1_countClosed, .selects RX1 yX1_countClosed yX1_countClosed, .initialized RX1, .code yX1_countClosed cX1_countClosed 3 (some .int), .fieldLink RX1 36 "LessonWeave$Syllabus" "count" "I", .methodLink RX1 58 yX1_isClosed, .instanceMethod yX1_isClosed, .selects RX1 yX1_isClosed yX1_isClosed, .code yX1_isClosed cX1_isClosed 3 (some .boolean), .fieldLink RX1 30 "LessonWeave$Syllabus" "needs" "[I", .static yX2_has, .initialized RX2, .code yX2_has cX2_has 2 (some .boolean), .methodLink RX1 55 yX1_isCovered, .static yX1_isCovered, .code yX1_isCovered cX1_isCovered 2 (some .boolean)] ++ wsX20 ++ wsX10)
def wsL_draw : List Cond := .code yL_draw cL_draw 4 (some .int) :: ([.constant RL 7 (735692263), .constant RL 8 (1552020391), .constant RL 9 (2147483647)])
def wsL_size : List Cond := .code yL_size cL_size 3 (some .int) :: ([])
def wsL_isIn : List Cond := .code yL_isIn cL_isIn 2 (some .boolean) :: ([])
def wsL_isLost : List Cond := .code yL_isLost cL_isLost 2 (some .boolean) :: ([])
def wsL_needs_r1 : List Cond := [Cond.classLink RL 16 "java/lang/IllegalStateException", Cond.methodLink RL 10 yX2_need, Cond.instanceMethod yX2_need, Cond.selects RX2 yX2_need yX2_need, Cond.initialized RX2, Cond.code yX2_need cX2_need 3 (some .int), Cond.classLink RX2 67 "java/lang/IndexOutOfBoundsException", Cond.initialized "java/lang/IndexOutOfBoundsException", Cond.classLink RX2 34 "java/lang/IllegalArgumentException", Cond.initialized "java/lang/IllegalArgumentException", Cond.classLink RX2 51 "java/lang/IllegalStateException", Cond.initialized "java/lang/IllegalStateException", Cond.fieldLink RX2 10 "LessonWeave" "syllabus" "LLessonWeave$Syllabus;", Cond.methodLink RX2 63 yX2_isAim, Cond.instanceMethod yX2_isAim, Cond.selects RX2 yX2_isAim yX2_isAim, Cond.code yX2_isAim cX2_isAim 2 (some .boolean), Cond.methodLink RX2 30 yX2_isWithin, Cond.static yX2_isWithin, Cond.code yX2_isWithin cX2_isWithin 3 (some .boolean), Cond.methodLink RX2 78 yX2_has, Cond.static yX2_has, Cond.code yX2_has cX2_has 2 (some .boolean), Cond.methodLink RX2 84 yX1_reach]
def wsL_needs_r2 : List Cond := [Cond.instanceMethod yX1_reach, Cond.selects RX1 yX1_reach yX1_reach, Cond.initialized RX1, Cond.code yX1_reach cX1_reach 4 (some .int), Cond.fieldLink RX1 30 "LessonWeave$Syllabus" "needs" "[I", Cond.fieldLink RX1 36 "LessonWeave$Syllabus" "count" "I", Cond.methodLink RX1 43 yX1_neededBy, Cond.instanceMethod yX1_neededBy, Cond.selects RX1 yX1_neededBy yX1_neededBy, Cond.code yX1_neededBy cX1_neededBy 4 (some .int), Cond.methodLink RX2 90 yX1_setNeeds, Cond.instanceMethod yX1_setNeeds, Cond.selects RX1 yX1_setNeeds yX1_setNeeds, Cond.code yX1_setNeeds cX1_setNeeds 3 none, Cond.methodLink RX1 40 yX1_putInOrder, Cond.instanceMethod yX1_putInOrder, Cond.selects RX1 yX1_putInOrder yX1_putInOrder, Cond.code yX1_putInOrder cX1_putInOrder 5 none, Cond.fieldLink RX1 33 "LessonWeave$Syllabus" "order" "[I", Cond.fieldLink RX1 15 "LessonWeave$Syllabus" "kind" "[I", Cond.methodLink RX1 51 yX1_nextTaken, Cond.instanceMethod yX1_nextTaken, Cond.selects RX1 yX1_nextTaken yX1_nextTaken, Cond.code yX1_nextTaken cX1_nextTaken 5 (some .int)]
def wsL_needs_r3 : List Cond := [Cond.methodLink RX1 55 yX1_isCovered, Cond.static yX1_isCovered, Cond.code yX1_isCovered cX1_isCovered 2 (some .boolean), Cond.methodLink RX2 60 yX2_planAnew, Cond.instanceMethod yX2_planAnew, Cond.selects RX2 yX2_planAnew yX2_planAnew, Cond.code yX2_planAnew cX2_planAnew 2 none, Cond.fieldLink RX2 27 "LessonWeave" "formerPlan" "LLessonWeave$Plan;", Cond.fieldLink RX2 23 "LessonWeave" "plan" "LLessonWeave$Plan;", Cond.fieldLink RX2 16 "LessonWeave" "lost" "[Z", Cond.methodLink RX2 168 yX0_lay, Cond.instanceMethod yX0_lay, Cond.selects RX0 yX0_lay yX0_lay, Cond.initialized RX0, Cond.code yX0_lay cX0_lay 4 none, Cond.methodLink RX0 30 yX0_clear, Cond.instanceMethod yX0_clear, Cond.selects RX0 yX0_clear yX0_clear, Cond.code yX0_clear cX0_clear 1 none, Cond.fieldLink RX0 9 "LessonWeave$Plan" "things" "[I", Cond.fieldLink RX0 15 "LessonWeave$Plan" "lessonDays" "[I", Cond.fieldLink RX0 18 "LessonWeave$Plan" "revisitDays" "[I", Cond.fieldLink RX0 21 "LessonWeave$Plan" "lessonsLaid" "[I", Cond.fieldLink RX0 24 "LessonWeave$Plan" "revisitsLaid" "[I"]
def wsL_needs_r4 : List Cond := [Cond.fieldLink RX0 27 "LessonWeave$Plan" "since" "[I", Cond.fieldLink RX0 39 "LessonWeave$Plan" "laidCount" "I", Cond.fieldLink RX0 43 "LessonWeave$Plan" "lateCount" "I", Cond.fieldLink RX0 46 "LessonWeave$Plan" "lastUsed" "I", Cond.methodLink RX0 33 yJ7_fill_53178, Cond.static yJ7_fill_53178, Cond.initialized RJ7, Cond.code yJ7_fill_53178 cJ7_fill_53178 4 none, Cond.methodLink RX0 49 yX0_layOn, Cond.instanceMethod yX0_layOn, Cond.selects RX0 yX0_layOn yX0_layOn, Cond.code yX0_layOn cX0_layOn 5 none, Cond.methodLink RX0 53 yX0_mostPressing, Cond.instanceMethod yX0_mostPressing, Cond.selects RX0 yX0_mostPressing yX0_mostPressing, Cond.code yX0_mostPressing cX0_mostPressing 7 (some .int), Cond.methodLink RX0 78 yX0_isDue, Cond.instanceMethod yX0_isDue, Cond.selects RX0 yX0_isDue yX0_isDue, Cond.code yX0_isDue cX0_isDue 4 (some .boolean), Cond.methodLink RX0 90 yX0_nextGap, Cond.instanceMethod yX0_nextGap, Cond.selects RX0 yX0_nextGap yX0_nextGap, Cond.code yX0_nextGap cX0_nextGap 3 (some .int)]
def wsL_needs_r5 : List Cond := [Cond.methodLink RX0 81 yX0_lateFrom, Cond.instanceMethod yX0_lateFrom, Cond.selects RX0 yX0_lateFrom yX0_lateFrom, Cond.code yX0_lateFrom cX0_lateFrom 3 (some .int), Cond.methodLink RX0 57 yX0_layRevisit, Cond.instanceMethod yX0_layRevisit, Cond.selects RX0 yX0_layRevisit yX0_layRevisit, Cond.code yX0_layRevisit cX0_layRevisit 4 none, Cond.methodLink RX0 105 yX0_use, Cond.instanceMethod yX0_use, Cond.selects RX0 yX0_use yX0_use, Cond.code yX0_use cX0_use 4 none, Cond.methodLink RX0 61 yX0_firstUnfinished, Cond.instanceMethod yX0_firstUnfinished, Cond.selects RX0 yX0_firstUnfinished yX0_firstUnfinished, Cond.code yX0_firstUnfinished cX0_firstUnfinished 4 (some .int), Cond.methodLink RX0 65 yX0_isKitTaken, Cond.instanceMethod yX0_isKitTaken, Cond.selects RX0 yX0_isKitTaken yX0_isKitTaken, Cond.code yX0_isKitTaken cX0_isKitTaken 5 (some .boolean), Cond.methodLink RX0 102 yX0_isOthersLesson, Cond.static yX0_isOthersLesson, Cond.code yX0_isOthersLesson cX0_isOthersLesson 3 (some .boolean), Cond.methodLink RX0 69 yX0_layLesson]
def wsL_needs_r6 : List Cond := [Cond.instanceMethod yX0_layLesson, Cond.selects RX0 yX0_layLesson yX0_layLesson, Cond.code yX0_layLesson cX0_layLesson 3 none, Cond.methodLink RX2 94 yJ6_bitCount_0f7a4, Cond.static yJ6_bitCount_0f7a4, Cond.initialized RJ6, Cond.code yJ6_bitCount_0f7a4 cJ6_bitCount_0f7a4 1 (some .int), Cond.constant RJ6 265 (1431655765), Cond.constant RJ6 266 (858993459), Cond.constant RJ6 267 (252645135)]
def wsL_needs : List Cond := .codeWith yL_needs cL_needs 4 (some .int) [(0, 6, 7, 16)] :: ((wsL_needs_r1 ++ (wsL_needs_r2 ++ (wsL_needs_r3 ++ (wsL_needs_r4 ++ (wsL_needs_r5 ++ wsL_needs_r6))))) ++ wsX20 ++ wsX10 ++ wsX00 ++ (vx_atS RX2 71 "java/lang/IndexOutOfBoundsException" ["java/lang/RuntimeException", "java/lang/Exception"]).filter goodWord ++ (vx_atS RX2 38 "java/lang/IllegalArgumentException" ["java/lang/RuntimeException", "java/lang/Exception"]).filter goodWord ++ (vx_atS RX2 55 "java/lang/IllegalStateException" ["java/lang/RuntimeException", "java/lang/Exception"]).filter goodWord)
def wsL_frees_r1 : List Cond := [Cond.classLink RL 21 "java/util/NoSuchElementException", Cond.methodLink RL 18 yX2_free, Cond.instanceMethod yX2_free, Cond.selects RX2 yX2_free yX2_free, Cond.initialized RX2, Cond.code yX2_free cX2_free 3 (some .int), Cond.classLink RX2 67 "java/lang/IndexOutOfBoundsException", Cond.initialized "java/lang/IndexOutOfBoundsException", Cond.classLink RX2 99 "java/util/NoSuchElementException", Cond.initialized "java/util/NoSuchElementException", Cond.fieldLink RX2 10 "LessonWeave" "syllabus" "LLessonWeave$Syllabus;", Cond.methodLink RX2 63 yX2_isAim, Cond.instanceMethod yX2_isAim, Cond.selects RX2 yX2_isAim yX2_isAim, Cond.code yX2_isAim cX2_isAim 2 (some .boolean), Cond.methodLink RX2 30 yX2_isWithin, Cond.static yX2_isWithin, Cond.code yX2_isWithin cX2_isWithin 3 (some .boolean), Cond.methodLink RX2 78 yX2_has, Cond.static yX2_has, Cond.code yX2_has cX2_has 2 (some .boolean), Cond.methodLink RX2 90 yX1_setNeeds, Cond.instanceMethod yX1_setNeeds, Cond.selects RX1 yX1_setNeeds yX1_setNeeds]
def wsL_frees_r2 : List Cond := [Cond.initialized RX1, Cond.code yX1_setNeeds cX1_setNeeds 3 none, Cond.fieldLink RX1 30 "LessonWeave$Syllabus" "needs" "[I", Cond.methodLink RX1 40 yX1_putInOrder, Cond.instanceMethod yX1_putInOrder, Cond.selects RX1 yX1_putInOrder yX1_putInOrder, Cond.code yX1_putInOrder cX1_putInOrder 5 none, Cond.fieldLink RX1 36 "LessonWeave$Syllabus" "count" "I", Cond.fieldLink RX1 33 "LessonWeave$Syllabus" "order" "[I", Cond.fieldLink RX1 15 "LessonWeave$Syllabus" "kind" "[I", Cond.methodLink RX1 51 yX1_nextTaken, Cond.instanceMethod yX1_nextTaken, Cond.selects RX1 yX1_nextTaken yX1_nextTaken, Cond.code yX1_nextTaken cX1_nextTaken 5 (some .int), Cond.methodLink RX1 55 yX1_isCovered, Cond.static yX1_isCovered, Cond.code yX1_isCovered cX1_isCovered 2 (some .boolean), Cond.methodLink RX2 60 yX2_planAnew, Cond.instanceMethod yX2_planAnew, Cond.selects RX2 yX2_planAnew yX2_planAnew, Cond.code yX2_planAnew cX2_planAnew 2 none, Cond.fieldLink RX2 27 "LessonWeave" "formerPlan" "LLessonWeave$Plan;", Cond.fieldLink RX2 23 "LessonWeave" "plan" "LLessonWeave$Plan;", Cond.fieldLink RX2 16 "LessonWeave" "lost" "[Z"]
def wsL_frees_r3 : List Cond := [Cond.methodLink RX2 168 yX0_lay, Cond.instanceMethod yX0_lay, Cond.selects RX0 yX0_lay yX0_lay, Cond.initialized RX0, Cond.code yX0_lay cX0_lay 4 none, Cond.methodLink RX0 30 yX0_clear, Cond.instanceMethod yX0_clear, Cond.selects RX0 yX0_clear yX0_clear, Cond.code yX0_clear cX0_clear 1 none, Cond.fieldLink RX0 9 "LessonWeave$Plan" "things" "[I", Cond.fieldLink RX0 15 "LessonWeave$Plan" "lessonDays" "[I", Cond.fieldLink RX0 18 "LessonWeave$Plan" "revisitDays" "[I", Cond.fieldLink RX0 21 "LessonWeave$Plan" "lessonsLaid" "[I", Cond.fieldLink RX0 24 "LessonWeave$Plan" "revisitsLaid" "[I", Cond.fieldLink RX0 27 "LessonWeave$Plan" "since" "[I", Cond.fieldLink RX0 39 "LessonWeave$Plan" "laidCount" "I", Cond.fieldLink RX0 43 "LessonWeave$Plan" "lateCount" "I", Cond.fieldLink RX0 46 "LessonWeave$Plan" "lastUsed" "I", Cond.methodLink RX0 33 yJ7_fill_53178, Cond.static yJ7_fill_53178, Cond.initialized RJ7, Cond.code yJ7_fill_53178 cJ7_fill_53178 4 none, Cond.methodLink RX0 49 yX0_layOn, Cond.instanceMethod yX0_layOn]
def wsL_frees_r4 : List Cond := [Cond.selects RX0 yX0_layOn yX0_layOn, Cond.code yX0_layOn cX0_layOn 5 none, Cond.methodLink RX0 53 yX0_mostPressing, Cond.instanceMethod yX0_mostPressing, Cond.selects RX0 yX0_mostPressing yX0_mostPressing, Cond.code yX0_mostPressing cX0_mostPressing 7 (some .int), Cond.methodLink RX0 78 yX0_isDue, Cond.instanceMethod yX0_isDue, Cond.selects RX0 yX0_isDue yX0_isDue, Cond.code yX0_isDue cX0_isDue 4 (some .boolean), Cond.methodLink RX0 90 yX0_nextGap, Cond.instanceMethod yX0_nextGap, Cond.selects RX0 yX0_nextGap yX0_nextGap, Cond.code yX0_nextGap cX0_nextGap 3 (some .int), Cond.methodLink RX0 81 yX0_lateFrom, Cond.instanceMethod yX0_lateFrom, Cond.selects RX0 yX0_lateFrom yX0_lateFrom, Cond.code yX0_lateFrom cX0_lateFrom 3 (some .int), Cond.methodLink RX0 57 yX0_layRevisit, Cond.instanceMethod yX0_layRevisit, Cond.selects RX0 yX0_layRevisit yX0_layRevisit, Cond.code yX0_layRevisit cX0_layRevisit 4 none, Cond.methodLink RX0 105 yX0_use, Cond.instanceMethod yX0_use]
def wsL_frees_r5 : List Cond := [Cond.selects RX0 yX0_use yX0_use, Cond.code yX0_use cX0_use 4 none, Cond.methodLink RX0 61 yX0_firstUnfinished, Cond.instanceMethod yX0_firstUnfinished, Cond.selects RX0 yX0_firstUnfinished yX0_firstUnfinished, Cond.code yX0_firstUnfinished cX0_firstUnfinished 4 (some .int), Cond.methodLink RX0 65 yX0_isKitTaken, Cond.instanceMethod yX0_isKitTaken, Cond.selects RX0 yX0_isKitTaken yX0_isKitTaken, Cond.code yX0_isKitTaken cX0_isKitTaken 5 (some .boolean), Cond.methodLink RX0 102 yX0_isOthersLesson, Cond.static yX0_isOthersLesson, Cond.code yX0_isOthersLesson cX0_isOthersLesson 3 (some .boolean), Cond.methodLink RX0 69 yX0_layLesson, Cond.instanceMethod yX0_layLesson, Cond.selects RX0 yX0_layLesson yX0_layLesson, Cond.code yX0_layLesson cX0_layLesson 3 none, Cond.methodLink RX2 94 yJ6_bitCount_0f7a4, Cond.static yJ6_bitCount_0f7a4, Cond.initialized RJ6, Cond.code yJ6_bitCount_0f7a4 cJ6_bitCount_0f7a4 1 (some .int), Cond.constant RJ6 265 (1431655765), Cond.constant RJ6 266 (858993459), Cond.constant RJ6 267 (252645135)]
def wsL_frees : List Cond := .codeWith yL_frees cL_frees 4 (some .int) [(0, 6, 7, 21)] :: ((wsL_frees_r1 ++ (wsL_frees_r2 ++ (wsL_frees_r3 ++ (wsL_frees_r4 ++ wsL_frees_r5)))) ++ wsX20 ++ wsX10 ++ wsX00 ++ (vx_atS RX2 71 "java/lang/IndexOutOfBoundsException" ["java/lang/RuntimeException", "java/lang/Exception"]).filter goodWord ++ xk_nsS.filter goodWord)
def wsL_isOrder_r1 : List Cond := [Cond.methodLink RL 23 yX2_aims, Cond.instanceMethod yX2_aims, Cond.selects RX2 yX2_aims yX2_aims, Cond.initialized RX2, Cond.code yX2_aims cX2_aims 1 (some .int), Cond.fieldLink RX2 10 "LessonWeave" "syllabus" "LLessonWeave$Syllabus;", Cond.methodLink RL 27 yX2_ordered, Cond.instanceMethod yX2_ordered, Cond.selects RX2 yX2_ordered yX2_ordered, Cond.code yX2_ordered cX2_ordered 2 (some .int), Cond.classLink RX2 67 "java/lang/IndexOutOfBoundsException", Cond.initialized "java/lang/IndexOutOfBoundsException", Cond.methodLink RX2 30 yX2_isWithin, Cond.static yX2_isWithin, Cond.code yX2_isWithin cX2_isWithin 3 (some .boolean), Cond.methodLink RL 31 yL_isIn, Cond.static yL_isIn, Cond.initialized RL, Cond.code yL_isIn cL_isIn 2 (some .boolean), Cond.methodLink RL 37 yX2_allNeeds, Cond.instanceMethod yX2_allNeeds, Cond.selects RX2 yX2_allNeeds yX2_allNeeds, Cond.code yX2_allNeeds cX2_allNeeds 2 (some .int), Cond.methodLink RX2 63 yX2_isAim]
def wsL_isOrder_r2 : List Cond := [Cond.instanceMethod yX2_isAim, Cond.selects RX2 yX2_isAim yX2_isAim, Cond.code yX2_isAim cX2_isAim 2 (some .boolean), Cond.methodLink RX2 84 yX1_reach, Cond.instanceMethod yX1_reach, Cond.selects RX1 yX1_reach yX1_reach, Cond.initialized RX1, Cond.code yX1_reach cX1_reach 4 (some .int), Cond.fieldLink RX1 30 "LessonWeave$Syllabus" "needs" "[I", Cond.fieldLink RX1 36 "LessonWeave$Syllabus" "count" "I", Cond.methodLink RX1 43 yX1_neededBy, Cond.instanceMethod yX1_neededBy, Cond.selects RX1 yX1_neededBy yX1_neededBy, Cond.code yX1_neededBy cX1_neededBy 4 (some .int), Cond.static yX2_has, Cond.code yX2_has cX2_has 2 (some .boolean)]
def wsL_isOrder : List Cond := .code yL_isOrder cL_isOrder 12 (some .boolean) :: ((wsL_isOrder_r1 ++ wsL_isOrder_r2) ++ wsX20 ++ wsX10 ++ (vx_atS RX2 71 "java/lang/IndexOutOfBoundsException" ["java/lang/RuntimeException", "java/lang/Exception"]).filter goodWord)
def wsL_asks : List Cond := .code yL_asks cL_asks 8 none :: ([.methodLink RL 40 yX2_lessonDay, .instanceMethod yX2_lessonDay, .selects RX2 yX2_lessonDay yX2_lessonDay, .initialized RX2, .code yX2_lessonDay cX2_lessonDay 3 (some .int), .classLink RX2 67 "java/lang/IndexOutOfBoundsException", .initialized "java/lang/IndexOutOfBoundsException", .fieldLink RX2 10 "LessonWeave" "syllabus" "LLessonWeave$Syllabus;", .fieldLink RX2 23 "LessonWeave" "plan" "LLessonWeave$Plan;", .methodLink RX2 63 yX2_isAim, .instanceMethod yX2_isAim, .selects RX2 yX2_isAim yX2_isAim, .code yX2_isAim cX2_isAim 2 (some .boolean), .methodLink RX2 30 yX2_isWithin, .static yX2_isWithin, .code yX2_isWithin cX2_isWithin 3 (some .boolean), .methodLink RL 43 yX2_revisitDay, .instanceMethod yX2_revisitDay, .selects RX2 yX2_revisitDay yX2_revisitDay, .code yX2_revisitDay cX2_revisitDay 3 (some .int), .methodLink RL 27 yX2_ordered, .instanceMethod yX2_ordered, .selects RX2 yX2_ordered yX2_ordered, .code yX2_ordered cX2_ordered 2 (some .int)] ++ wsX20 ++ wsX10 ++ wsX00 ++ (vx_atS RX2 71 "java/lang/IndexOutOfBoundsException" ["java/lang/RuntimeException", "java/lang/Exception"]).filter goodWord)
def wsL_thing : List Cond := .code yL_thing cL_thing 6 (some .int) :: ([])
def wsL_isBusy : List Cond := .code yL_isBusy cL_isBusy 17 (some .boolean) :: ([.methodLink RL 50 yL_thing, .static yL_thing, .initialized RL, .code yL_thing cL_thing 6 (some .int)])
def wsL_isPlan_r1 : List Cond := [Cond.arrayClass .int, Cond.methodLink RL 46 yL_asks, Cond.static yL_asks, Cond.initialized RL, Cond.code yL_asks cL_asks 8 none, Cond.methodLink RL 40 yX2_lessonDay, Cond.instanceMethod yX2_lessonDay, Cond.selects RX2 yX2_lessonDay yX2_lessonDay, Cond.initialized RX2, Cond.code yX2_lessonDay cX2_lessonDay 3 (some .int), Cond.classLink RX2 67 "java/lang/IndexOutOfBoundsException", Cond.initialized "java/lang/IndexOutOfBoundsException", Cond.fieldLink RX2 10 "LessonWeave" "syllabus" "LLessonWeave$Syllabus;", Cond.fieldLink RX2 23 "LessonWeave" "plan" "LLessonWeave$Plan;", Cond.methodLink RX2 63 yX2_isAim, Cond.instanceMethod yX2_isAim, Cond.selects RX2 yX2_isAim yX2_isAim, Cond.code yX2_isAim cX2_isAim 2 (some .boolean), Cond.methodLink RX2 30 yX2_isWithin, Cond.static yX2_isWithin, Cond.code yX2_isWithin cX2_isWithin 3 (some .boolean), Cond.methodLink RL 43 yX2_revisitDay, Cond.instanceMethod yX2_revisitDay, Cond.selects RX2 yX2_revisitDay yX2_revisitDay]
def wsL_isPlan_r2 : List Cond := [Cond.code yX2_revisitDay cX2_revisitDay 3 (some .int), Cond.methodLink RL 27 yX2_ordered, Cond.instanceMethod yX2_ordered, Cond.selects RX2 yX2_ordered yX2_ordered, Cond.code yX2_ordered cX2_ordered 2 (some .int), Cond.methodLink RL 50 yL_thing, Cond.static yL_thing, Cond.code yL_thing cL_thing 6 (some .int), Cond.methodLink RL 54 yX2_on, Cond.instanceMethod yX2_on, Cond.selects RX2 yX2_on yX2_on, Cond.code yX2_on cX2_on 2 (some .int), Cond.methodLink RX2 119 yX2_isDay, Cond.static yX2_isDay, Cond.code yX2_isDay cX2_isDay 1 (some .boolean), Cond.methodLink RL 57 yL_isLost, Cond.static yL_isLost, Cond.code yL_isLost cL_isLost 2 (some .boolean), Cond.methodLink RL 61 yL_isBusy, Cond.static yL_isBusy, Cond.methodLink RL 65 yX2_laid, Cond.instanceMethod yX2_laid, Cond.selects RX2 yX2_laid yX2_laid]
def wsL_isPlan_r3 : List Cond := [Cond.code yX2_laid cX2_laid 1 (some .int), Cond.methodLink RL 68 yX2_late, Cond.instanceMethod yX2_late, Cond.selects RX2 yX2_late yX2_late, Cond.code yX2_late cX2_late 1 (some .int), Cond.methodLink RL 71 yX2_lastDay, Cond.instanceMethod yX2_lastDay, Cond.selects RX2 yX2_lastDay yX2_lastDay, Cond.code yX2_lastDay cX2_lastDay 1 (some .int)]
def bgL_isPlan : List Cond := [Cond.code yL_isBusy cL_isBusy 17 (some .boolean)]
def bgL_step : List Cond := [Cond.code yL_loses cL_loses 13 (some .boolean)]
def bgL_year : List Cond := [Cond.code yL_step cL_step 11 (some .boolean), Cond.code yL_isOrder cL_isOrder 12 (some .boolean), Cond.code yL_isPlan cL_isPlan 18 (some .boolean), Cond.code yL_isBusy cL_isBusy 17 (some .boolean), Cond.code yL_loses cL_loses 13 (some .boolean)]
def bgL_law : List Cond := [Cond.code yL_year cL_year 10 (some .boolean), Cond.code yL_step cL_step 11 (some .boolean), Cond.code yL_isOrder cL_isOrder 12 (some .boolean), Cond.code yL_isPlan cL_isPlan 18 (some .boolean), Cond.code yL_isBusy cL_isBusy 17 (some .boolean), Cond.code yL_loses cL_loses 13 (some .boolean)]
def wsL_isPlan : List Cond := .code yL_isPlan cL_isPlan 18 (some .boolean) :: (((wsL_isPlan_r1 ++ (wsL_isPlan_r2 ++ wsL_isPlan_r3)) ++ wsX20 ++ wsX10 ++ wsX00 ++ (vx_atS RX2 71 "java/lang/IndexOutOfBoundsException" ["java/lang/RuntimeException", "java/lang/Exception"]).filter goodWord) ++ bgL_isPlan)
def wsL_net : List Cond := .code yL_net cL_net 6 (some .int) :: ([.methodLink RL 31 yL_isIn, .static yL_isIn, .initialized RL, .code yL_isIn cL_isIn 2 (some .boolean)])
def wsL_isClosed : List Cond := .code yL_isClosed cL_isClosed 5 (some .boolean) :: ([.methodLink RL 31 yL_isIn, .static yL_isIn, .initialized RL, .code yL_isIn cL_isIn 2 (some .boolean)])
def wsL_isWorth_r1 : List Cond := [Cond.methodLink RL 74 yX2_worthwhile, Cond.instanceMethod yX2_worthwhile, Cond.selects RX2 yX2_worthwhile yX2_worthwhile, Cond.initialized RX2, Cond.code yX2_worthwhile cX2_worthwhile 2 (some .int), Cond.classLink RX2 34 "java/lang/IllegalArgumentException", Cond.initialized "java/lang/IllegalArgumentException", Cond.fieldLink RX2 10 "LessonWeave" "syllabus" "LLessonWeave$Syllabus;", Cond.methodLink RX2 30 yX2_isWithin, Cond.static yX2_isWithin, Cond.code yX2_isWithin cX2_isWithin 3 (some .boolean), Cond.methodLink RX2 157 yX1_bestSet, Cond.instanceMethod yX1_bestSet, Cond.selects RX1 yX1_bestSet yX1_bestSet, Cond.initialized RX1, Cond.code yX1_bestSet cX1_bestSet 6 (some .int), Cond.fieldLink RX1 36 "LessonWeave$Syllabus" "count" "I", Cond.methodLink RX1 58 yX1_isClosed, Cond.instanceMethod yX1_isClosed, Cond.selects RX1 yX1_isClosed yX1_isClosed, Cond.code yX1_isClosed cX1_isClosed 3 (some .boolean), Cond.fieldLink RX1 30 "LessonWeave$Syllabus" "needs" "[I", Cond.static yX2_has, Cond.code yX2_has cX2_has 2 (some .boolean)]
def wsL_isWorth_r2 : List Cond := [Cond.methodLink RX1 55 yX1_isCovered, Cond.static yX1_isCovered, Cond.code yX1_isCovered cX1_isCovered 2 (some .boolean), Cond.methodLink RX1 62 yX1_netOf, Cond.instanceMethod yX1_netOf, Cond.selects RX1 yX1_netOf yX1_netOf, Cond.code yX1_netOf cX1_netOf 5 (some .int), Cond.fieldLink RX1 18 "LessonWeave$Syllabus" "worth" "[I", Cond.fieldLink RX1 9 "LessonWeave$Syllabus" "lessons" "[I", Cond.methodLink RX1 65 yJ6_bitCount_0f7a4, Cond.static yJ6_bitCount_0f7a4, Cond.initialized RJ6, Cond.code yJ6_bitCount_0f7a4 cJ6_bitCount_0f7a4 1 (some .int), Cond.constant RJ6 265 (1431655765), Cond.constant RJ6 266 (858993459), Cond.constant RJ6 267 (252645135), Cond.methodLink RL 77 yL_net, Cond.static yL_net, Cond.initialized RL, Cond.code yL_net cL_net 6 (some .int), Cond.methodLink RL 31 yL_isIn, Cond.static yL_isIn, Cond.code yL_isIn cL_isIn 2 (some .boolean), Cond.methodLink RL 81 yL_isClosed]
def wsL_isWorth_r3 : List Cond := [Cond.static yL_isClosed, Cond.code yL_isClosed cL_isClosed 5 (some .boolean), Cond.methodLink RL 85 yX2_bestNet, Cond.instanceMethod yX2_bestNet, Cond.selects RX2 yX2_bestNet yX2_bestNet, Cond.code yX2_bestNet cX2_bestNet 2 (some .int), Cond.methodLink RX2 160 yX1_netOf, Cond.methodLink RL 88 yL_size, Cond.static yL_size, Cond.code yL_size cL_size 3 (some .int), Cond.methodLink RL 91 yX2_closedSets, Cond.instanceMethod yX2_closedSets, Cond.selects RX2 yX2_closedSets yX2_closedSets, Cond.code yX2_closedSets cX2_closedSets 1 (some .int), Cond.methodLink RX2 164 yX1_countClosed, Cond.instanceMethod yX1_countClosed, Cond.selects RX1 yX1_countClosed yX1_countClosed, Cond.code yX1_countClosed cX1_countClosed 3 (some .int)]
def wsL_isWorth : List Cond := .code yL_isWorth cL_isWorth 11 (some .boolean) :: ((wsL_isWorth_r1 ++ (wsL_isWorth_r2 ++ wsL_isWorth_r3)) ++ wsX20 ++ wsX10 ++ (vx_atS RX2 38 "java/lang/IllegalArgumentException" ["java/lang/RuntimeException", "java/lang/Exception"]).filter goodWord)
def wsL_loses_r1 : List Cond := [Cond.arrayClass .int, Cond.methodLink RL 46 yL_asks, Cond.static yL_asks, Cond.initialized RL, Cond.code yL_asks cL_asks 8 none, Cond.methodLink RL 40 yX2_lessonDay, Cond.instanceMethod yX2_lessonDay, Cond.selects RX2 yX2_lessonDay yX2_lessonDay, Cond.initialized RX2, Cond.code yX2_lessonDay cX2_lessonDay 3 (some .int), Cond.classLink RX2 67 "java/lang/IndexOutOfBoundsException", Cond.initialized "java/lang/IndexOutOfBoundsException", Cond.fieldLink RX2 10 "LessonWeave" "syllabus" "LLessonWeave$Syllabus;", Cond.fieldLink RX2 23 "LessonWeave" "plan" "LLessonWeave$Plan;", Cond.methodLink RX2 63 yX2_isAim, Cond.instanceMethod yX2_isAim, Cond.selects RX2 yX2_isAim yX2_isAim, Cond.code yX2_isAim cX2_isAim 2 (some .boolean), Cond.methodLink RX2 30 yX2_isWithin, Cond.static yX2_isWithin, Cond.code yX2_isWithin cX2_isWithin 3 (some .boolean), Cond.methodLink RL 43 yX2_revisitDay, Cond.instanceMethod yX2_revisitDay, Cond.selects RX2 yX2_revisitDay yX2_revisitDay]
def wsL_loses_r2 : List Cond := [Cond.code yX2_revisitDay cX2_revisitDay 3 (some .int), Cond.methodLink RL 27 yX2_ordered, Cond.instanceMethod yX2_ordered, Cond.selects RX2 yX2_ordered yX2_ordered, Cond.code yX2_ordered cX2_ordered 2 (some .int), Cond.methodLink RL 94 yX2_lose, Cond.instanceMethod yX2_lose, Cond.selects RX2 yX2_lose yX2_lose, Cond.code yX2_lose cX2_lose 2 (some .int), Cond.classLink RX2 51 "java/lang/IllegalStateException", Cond.initialized "java/lang/IllegalStateException", Cond.fieldLink RX2 16 "LessonWeave" "lost" "[Z", Cond.fieldLink RX2 27 "LessonWeave" "formerPlan" "LLessonWeave$Plan;", Cond.methodLink RX2 119 yX2_isDay, Cond.static yX2_isDay, Cond.code yX2_isDay cX2_isDay 1 (some .boolean), Cond.methodLink RX2 60 yX2_planAnew, Cond.instanceMethod yX2_planAnew, Cond.selects RX2 yX2_planAnew yX2_planAnew, Cond.code yX2_planAnew cX2_planAnew 2 none, Cond.methodLink RX2 168 yX0_lay, Cond.instanceMethod yX0_lay, Cond.selects RX0 yX0_lay yX0_lay, Cond.initialized RX0]
def wsL_loses_r3 : List Cond := [Cond.code yX0_lay cX0_lay 4 none, Cond.methodLink RX0 30 yX0_clear, Cond.instanceMethod yX0_clear, Cond.selects RX0 yX0_clear yX0_clear, Cond.code yX0_clear cX0_clear 1 none, Cond.fieldLink RX0 9 "LessonWeave$Plan" "things" "[I", Cond.fieldLink RX0 15 "LessonWeave$Plan" "lessonDays" "[I", Cond.fieldLink RX0 18 "LessonWeave$Plan" "revisitDays" "[I", Cond.fieldLink RX0 21 "LessonWeave$Plan" "lessonsLaid" "[I", Cond.fieldLink RX0 24 "LessonWeave$Plan" "revisitsLaid" "[I", Cond.fieldLink RX0 27 "LessonWeave$Plan" "since" "[I", Cond.fieldLink RX0 39 "LessonWeave$Plan" "laidCount" "I", Cond.fieldLink RX0 43 "LessonWeave$Plan" "lateCount" "I", Cond.fieldLink RX0 46 "LessonWeave$Plan" "lastUsed" "I", Cond.methodLink RX0 33 yJ7_fill_53178, Cond.static yJ7_fill_53178, Cond.initialized RJ7, Cond.code yJ7_fill_53178 cJ7_fill_53178 4 none, Cond.methodLink RX0 49 yX0_layOn, Cond.instanceMethod yX0_layOn, Cond.selects RX0 yX0_layOn yX0_layOn, Cond.code yX0_layOn cX0_layOn 5 none, Cond.methodLink RX0 53 yX0_mostPressing, Cond.instanceMethod yX0_mostPressing]
def wsL_loses_r4 : List Cond := [Cond.selects RX0 yX0_mostPressing yX0_mostPressing, Cond.code yX0_mostPressing cX0_mostPressing 7 (some .int), Cond.methodLink RX0 78 yX0_isDue, Cond.instanceMethod yX0_isDue, Cond.selects RX0 yX0_isDue yX0_isDue, Cond.code yX0_isDue cX0_isDue 4 (some .boolean), Cond.methodLink RX0 90 yX0_nextGap, Cond.instanceMethod yX0_nextGap, Cond.selects RX0 yX0_nextGap yX0_nextGap, Cond.code yX0_nextGap cX0_nextGap 3 (some .int), Cond.methodLink RX0 81 yX0_lateFrom, Cond.instanceMethod yX0_lateFrom, Cond.selects RX0 yX0_lateFrom yX0_lateFrom, Cond.code yX0_lateFrom cX0_lateFrom 3 (some .int), Cond.methodLink RX0 57 yX0_layRevisit, Cond.instanceMethod yX0_layRevisit, Cond.selects RX0 yX0_layRevisit yX0_layRevisit, Cond.code yX0_layRevisit cX0_layRevisit 4 none, Cond.methodLink RX0 105 yX0_use, Cond.instanceMethod yX0_use, Cond.selects RX0 yX0_use yX0_use, Cond.code yX0_use cX0_use 4 none, Cond.methodLink RX0 61 yX0_firstUnfinished, Cond.instanceMethod yX0_firstUnfinished]
def wsL_loses_r5 : List Cond := [Cond.selects RX0 yX0_firstUnfinished yX0_firstUnfinished, Cond.code yX0_firstUnfinished cX0_firstUnfinished 4 (some .int), Cond.methodLink RX0 65 yX0_isKitTaken, Cond.instanceMethod yX0_isKitTaken, Cond.selects RX0 yX0_isKitTaken yX0_isKitTaken, Cond.code yX0_isKitTaken cX0_isKitTaken 5 (some .boolean), Cond.methodLink RX0 102 yX0_isOthersLesson, Cond.static yX0_isOthersLesson, Cond.code yX0_isOthersLesson cX0_isOthersLesson 3 (some .boolean), Cond.methodLink RX0 69 yX0_layLesson, Cond.instanceMethod yX0_layLesson, Cond.selects RX0 yX0_layLesson yX0_layLesson, Cond.code yX0_layLesson cX0_layLesson 3 none, Cond.methodLink RX2 126 yX0_movedSince, Cond.instanceMethod yX0_movedSince, Cond.selects RX0 yX0_movedSince yX0_movedSince, Cond.code yX0_movedSince cX0_movedSince 2 (some .int), Cond.methodLink RX0 109 yX0_changed, Cond.static yX0_changed, Cond.code yX0_changed cX0_changed 4 (some .int), Cond.methodLink RL 54 yX2_on, Cond.instanceMethod yX2_on, Cond.selects RX2 yX2_on yX2_on, Cond.code yX2_on cX2_on 2 (some .int)]
def wsL_loses : List Cond := .code yL_loses cL_loses 13 (some .boolean) :: ((wsL_loses_r1 ++ (wsL_loses_r2 ++ (wsL_loses_r3 ++ (wsL_loses_r4 ++ wsL_loses_r5)))) ++ wsX20 ++ wsX10 ++ wsX00 ++ (vx_atS RX2 71 "java/lang/IndexOutOfBoundsException" ["java/lang/RuntimeException", "java/lang/Exception"]).filter goodWord ++ (vx_atS RX2 55 "java/lang/IllegalStateException" ["java/lang/RuntimeException", "java/lang/Exception"]).filter goodWord)
def wsL_step_r1 : List Cond := [Cond.methodLink RL 97 yX2_aim, Cond.instanceMethod yX2_aim, Cond.selects RX2 yX2_aim yX2_aim, Cond.initialized RX2, Cond.code yX2_aim cX2_aim 6 (some .int), Cond.classLink RX2 34 "java/lang/IllegalArgumentException", Cond.initialized "java/lang/IllegalArgumentException", Cond.classLink RX2 51 "java/lang/IllegalStateException", Cond.initialized "java/lang/IllegalStateException", Cond.fieldLink RX2 10 "LessonWeave" "syllabus" "LLessonWeave$Syllabus;", Cond.methodLink RX2 30 yX2_isWithin, Cond.static yX2_isWithin, Cond.code yX2_isWithin cX2_isWithin 3 (some .boolean), Cond.methodLink RX2 56 yX1_add, Cond.instanceMethod yX1_add, Cond.selects RX1 yX1_add yX1_add, Cond.initialized RX1, Cond.code yX1_add cX1_add 6 (some .int), Cond.fieldLink RX1 36 "LessonWeave$Syllabus" "count" "I", Cond.fieldLink RX1 9 "LessonWeave$Syllabus" "lessons" "[I", Cond.fieldLink RX1 15 "LessonWeave$Syllabus" "kind" "[I", Cond.fieldLink RX1 18 "LessonWeave$Syllabus" "worth" "[I", Cond.fieldLink RX1 21 "LessonWeave$Syllabus" "kit" "[I", Cond.fieldLink RX1 27 "LessonWeave$Syllabus" "gap" "[I"]
def wsL_step_r2 : List Cond := [Cond.methodLink RX1 40 yX1_putInOrder, Cond.instanceMethod yX1_putInOrder, Cond.selects RX1 yX1_putInOrder yX1_putInOrder, Cond.code yX1_putInOrder cX1_putInOrder 5 none, Cond.fieldLink RX1 33 "LessonWeave$Syllabus" "order" "[I", Cond.methodLink RX1 51 yX1_nextTaken, Cond.instanceMethod yX1_nextTaken, Cond.selects RX1 yX1_nextTaken yX1_nextTaken, Cond.code yX1_nextTaken cX1_nextTaken 5 (some .int), Cond.fieldLink RX1 30 "LessonWeave$Syllabus" "needs" "[I", Cond.static yX2_has, Cond.code yX2_has cX2_has 2 (some .boolean), Cond.methodLink RX1 55 yX1_isCovered, Cond.static yX1_isCovered, Cond.code yX1_isCovered cX1_isCovered 2 (some .boolean), Cond.methodLink RX2 60 yX2_planAnew, Cond.instanceMethod yX2_planAnew, Cond.selects RX2 yX2_planAnew yX2_planAnew, Cond.code yX2_planAnew cX2_planAnew 2 none, Cond.fieldLink RX2 27 "LessonWeave" "formerPlan" "LLessonWeave$Plan;", Cond.fieldLink RX2 23 "LessonWeave" "plan" "LLessonWeave$Plan;", Cond.fieldLink RX2 16 "LessonWeave" "lost" "[Z", Cond.methodLink RX2 168 yX0_lay, Cond.instanceMethod yX0_lay]
def wsL_step_r3 : List Cond := [Cond.selects RX0 yX0_lay yX0_lay, Cond.initialized RX0, Cond.code yX0_lay cX0_lay 4 none, Cond.methodLink RX0 30 yX0_clear, Cond.instanceMethod yX0_clear, Cond.selects RX0 yX0_clear yX0_clear, Cond.code yX0_clear cX0_clear 1 none, Cond.fieldLink RX0 9 "LessonWeave$Plan" "things" "[I", Cond.fieldLink RX0 15 "LessonWeave$Plan" "lessonDays" "[I", Cond.fieldLink RX0 18 "LessonWeave$Plan" "revisitDays" "[I", Cond.fieldLink RX0 21 "LessonWeave$Plan" "lessonsLaid" "[I", Cond.fieldLink RX0 24 "LessonWeave$Plan" "revisitsLaid" "[I", Cond.fieldLink RX0 27 "LessonWeave$Plan" "since" "[I", Cond.fieldLink RX0 39 "LessonWeave$Plan" "laidCount" "I", Cond.fieldLink RX0 43 "LessonWeave$Plan" "lateCount" "I", Cond.fieldLink RX0 46 "LessonWeave$Plan" "lastUsed" "I", Cond.methodLink RX0 33 yJ7_fill_53178, Cond.static yJ7_fill_53178, Cond.initialized RJ7, Cond.code yJ7_fill_53178 cJ7_fill_53178 4 none, Cond.methodLink RX0 49 yX0_layOn, Cond.instanceMethod yX0_layOn, Cond.selects RX0 yX0_layOn yX0_layOn, Cond.code yX0_layOn cX0_layOn 5 none]
def wsL_step_r4 : List Cond := [Cond.methodLink RX0 53 yX0_mostPressing, Cond.instanceMethod yX0_mostPressing, Cond.selects RX0 yX0_mostPressing yX0_mostPressing, Cond.code yX0_mostPressing cX0_mostPressing 7 (some .int), Cond.methodLink RX0 78 yX0_isDue, Cond.instanceMethod yX0_isDue, Cond.selects RX0 yX0_isDue yX0_isDue, Cond.code yX0_isDue cX0_isDue 4 (some .boolean), Cond.methodLink RX0 90 yX0_nextGap, Cond.instanceMethod yX0_nextGap, Cond.selects RX0 yX0_nextGap yX0_nextGap, Cond.code yX0_nextGap cX0_nextGap 3 (some .int), Cond.methodLink RX0 81 yX0_lateFrom, Cond.instanceMethod yX0_lateFrom, Cond.selects RX0 yX0_lateFrom yX0_lateFrom, Cond.code yX0_lateFrom cX0_lateFrom 3 (some .int), Cond.methodLink RX0 57 yX0_layRevisit, Cond.instanceMethod yX0_layRevisit, Cond.selects RX0 yX0_layRevisit yX0_layRevisit, Cond.code yX0_layRevisit cX0_layRevisit 4 none, Cond.methodLink RX0 105 yX0_use, Cond.instanceMethod yX0_use, Cond.selects RX0 yX0_use yX0_use, Cond.code yX0_use cX0_use 4 none]
def wsL_step_r5 : List Cond := [Cond.methodLink RX0 61 yX0_firstUnfinished, Cond.instanceMethod yX0_firstUnfinished, Cond.selects RX0 yX0_firstUnfinished yX0_firstUnfinished, Cond.code yX0_firstUnfinished cX0_firstUnfinished 4 (some .int), Cond.methodLink RX0 65 yX0_isKitTaken, Cond.instanceMethod yX0_isKitTaken, Cond.selects RX0 yX0_isKitTaken yX0_isKitTaken, Cond.code yX0_isKitTaken cX0_isKitTaken 5 (some .boolean), Cond.methodLink RX0 102 yX0_isOthersLesson, Cond.static yX0_isOthersLesson, Cond.code yX0_isOthersLesson cX0_isOthersLesson 3 (some .boolean), Cond.methodLink RX0 69 yX0_layLesson, Cond.instanceMethod yX0_layLesson, Cond.selects RX0 yX0_layLesson yX0_layLesson, Cond.code yX0_layLesson cX0_layLesson 3 none, Cond.methodLink RL 31 yL_isIn, Cond.static yL_isIn, Cond.initialized RL, Cond.code yL_isIn cL_isIn 2 (some .boolean), Cond.methodLink RL 37 yX2_allNeeds, Cond.instanceMethod yX2_allNeeds, Cond.selects RX2 yX2_allNeeds yX2_allNeeds, Cond.code yX2_allNeeds cX2_allNeeds 2 (some .int), Cond.classLink RX2 67 "java/lang/IndexOutOfBoundsException"]
def wsL_step_r6 : List Cond := [Cond.initialized "java/lang/IndexOutOfBoundsException", Cond.methodLink RX2 63 yX2_isAim, Cond.instanceMethod yX2_isAim, Cond.selects RX2 yX2_isAim yX2_isAim, Cond.code yX2_isAim cX2_isAim 2 (some .boolean), Cond.methodLink RX2 84 yX1_reach, Cond.instanceMethod yX1_reach, Cond.selects RX1 yX1_reach yX1_reach, Cond.code yX1_reach cX1_reach 4 (some .int), Cond.methodLink RX1 43 yX1_neededBy, Cond.instanceMethod yX1_neededBy, Cond.selects RX1 yX1_neededBy yX1_neededBy, Cond.code yX1_neededBy cX1_neededBy 4 (some .int), Cond.methodLink RL 101 yL_needs, Cond.static yL_needs, Cond.codeWith yL_needs cL_needs 4 (some .int) [(0, 6, 7, 16)], Cond.classLink RL 16 "java/lang/IllegalStateException", Cond.methodLink RL 10 yX2_need, Cond.instanceMethod yX2_need, Cond.selects RX2 yX2_need yX2_need, Cond.code yX2_need cX2_need 3 (some .int), Cond.methodLink RX2 78 yX2_has, Cond.methodLink RX2 90 yX1_setNeeds, Cond.instanceMethod yX1_setNeeds]
def wsL_step_r7 : List Cond := [Cond.selects RX1 yX1_setNeeds yX1_setNeeds, Cond.code yX1_setNeeds cX1_setNeeds 3 none, Cond.methodLink RX2 94 yJ6_bitCount_0f7a4, Cond.static yJ6_bitCount_0f7a4, Cond.initialized RJ6, Cond.code yJ6_bitCount_0f7a4 cJ6_bitCount_0f7a4 1 (some .int), Cond.constant RJ6 265 (1431655765), Cond.constant RJ6 266 (858993459), Cond.constant RJ6 267 (252645135), Cond.methodLink RL 88 yL_size, Cond.static yL_size, Cond.code yL_size cL_size 3 (some .int), Cond.methodLink RL 105 yL_frees, Cond.static yL_frees, Cond.codeWith yL_frees cL_frees 4 (some .int) [(0, 6, 7, 21)], Cond.classLink RL 21 "java/util/NoSuchElementException", Cond.methodLink RL 18 yX2_free, Cond.instanceMethod yX2_free, Cond.selects RX2 yX2_free yX2_free, Cond.code yX2_free cX2_free 3 (some .int), Cond.classLink RX2 99 "java/util/NoSuchElementException", Cond.initialized "java/util/NoSuchElementException", Cond.methodLink RL 108 yX2_revisits, Cond.instanceMethod yX2_revisits]
def wsL_step_r8 : List Cond := [Cond.selects RX2 yX2_revisits yX2_revisits, Cond.code yX2_revisits cX2_revisits 5 (some .int), Cond.methodLink RL 57 yL_isLost, Cond.static yL_isLost, Cond.code yL_isLost cL_isLost 2 (some .boolean), Cond.methodLink RL 112 yL_loses, Cond.static yL_loses, Cond.arrayClass .int, Cond.methodLink RL 46 yL_asks, Cond.static yL_asks, Cond.code yL_asks cL_asks 8 none, Cond.methodLink RL 40 yX2_lessonDay, Cond.instanceMethod yX2_lessonDay, Cond.selects RX2 yX2_lessonDay yX2_lessonDay, Cond.code yX2_lessonDay cX2_lessonDay 3 (some .int), Cond.methodLink RL 43 yX2_revisitDay, Cond.instanceMethod yX2_revisitDay, Cond.selects RX2 yX2_revisitDay yX2_revisitDay, Cond.code yX2_revisitDay cX2_revisitDay 3 (some .int), Cond.methodLink RL 27 yX2_ordered, Cond.instanceMethod yX2_ordered, Cond.selects RX2 yX2_ordered yX2_ordered, Cond.code yX2_ordered cX2_ordered 2 (some .int)]
def wsL_step_r9 : List Cond := [Cond.methodLink RL 94 yX2_lose, Cond.instanceMethod yX2_lose, Cond.selects RX2 yX2_lose yX2_lose, Cond.code yX2_lose cX2_lose 2 (some .int), Cond.methodLink RX2 119 yX2_isDay, Cond.static yX2_isDay, Cond.code yX2_isDay cX2_isDay 1 (some .boolean), Cond.methodLink RX2 126 yX0_movedSince, Cond.instanceMethod yX0_movedSince, Cond.selects RX0 yX0_movedSince yX0_movedSince, Cond.code yX0_movedSince cX0_movedSince 2 (some .int), Cond.methodLink RX0 109 yX0_changed, Cond.static yX0_changed, Cond.code yX0_changed cX0_changed 4 (some .int), Cond.methodLink RL 54 yX2_on, Cond.instanceMethod yX2_on, Cond.selects RX2 yX2_on yX2_on, Cond.code yX2_on cX2_on 2 (some .int)]
def wsL_step : List Cond := .code yL_step cL_step 11 (some .boolean) :: (((wsL_step_r1 ++ (wsL_step_r2 ++ (wsL_step_r3 ++ (wsL_step_r4 ++ (wsL_step_r5 ++ (wsL_step_r6 ++ (wsL_step_r7 ++ (wsL_step_r8 ++ wsL_step_r9)))))))) ++ wsX20 ++ wsX10 ++ wsX00 ++ (vx_atS RX2 38 "java/lang/IllegalArgumentException" ["java/lang/RuntimeException", "java/lang/Exception"]).filter goodWord ++ (vx_atS RX2 55 "java/lang/IllegalStateException" ["java/lang/RuntimeException", "java/lang/Exception"]).filter goodWord ++ (vx_atS RX2 71 "java/lang/IndexOutOfBoundsException" ["java/lang/RuntimeException", "java/lang/Exception"]).filter goodWord ++ xk_nsS.filter goodWord) ++ bgL_step)
def wsL_year_r1 : List Cond := [Cond.classLink RL 11 RX2, Cond.instantiable RX2 4, Cond.initialized RX2, Cond.arrayClass .int, Cond.arrayClass .long, Cond.constant RL 117 (1073741824), Cond.methodLink RL 116 yX2_init, Cond.instanceMethod yX2_init, Cond.code yX2_init cX2_init 1 none, Cond.methodLink RX2 1 objectInit, Cond.instanceMethod objectInit, Cond.code objectInit ⟨#[0xb1]⟩ 1 none, Cond.classLink RX2 7 RX1, Cond.instantiable RX1 9, Cond.initialized RX1, Cond.fieldLink RX2 10 "LessonWeave" "syllabus" "LLessonWeave$Syllabus;", Cond.arrayClass .boolean, Cond.fieldLink RX2 16 "LessonWeave" "lost" "[Z", Cond.classLink RX2 20 RX0, Cond.instantiable RX0 9, Cond.initialized RX0, Cond.fieldLink RX2 23 "LessonWeave" "plan" "LLessonWeave$Plan;", Cond.fieldLink RX2 27 "LessonWeave" "formerPlan" "LLessonWeave$Plan;", Cond.methodLink RX2 9 yX1_init]
def wsL_year_r2 : List Cond := [Cond.instanceMethod yX1_init, Cond.code yX1_init cX1_init 1 none, Cond.methodLink RX1 3 objectInit, Cond.fieldLink RX1 9 "LessonWeave$Syllabus" "lessons" "[I", Cond.fieldLink RX1 15 "LessonWeave$Syllabus" "kind" "[I", Cond.fieldLink RX1 18 "LessonWeave$Syllabus" "worth" "[I", Cond.fieldLink RX1 21 "LessonWeave$Syllabus" "kit" "[I", Cond.fieldLink RX1 24 "LessonWeave$Syllabus" "many" "[I", Cond.fieldLink RX1 27 "LessonWeave$Syllabus" "gap" "[I", Cond.fieldLink RX1 30 "LessonWeave$Syllabus" "needs" "[I", Cond.fieldLink RX1 33 "LessonWeave$Syllabus" "order" "[I", Cond.methodLink RX2 22 yX0_init, Cond.instanceMethod yX0_init, Cond.code yX0_init cX0_init 1 none, Cond.methodLink RX0 3 objectInit, Cond.fieldLink RX0 9 "LessonWeave$Plan" "things" "[I", Cond.fieldLink RX0 15 "LessonWeave$Plan" "lessonDays" "[I", Cond.fieldLink RX0 18 "LessonWeave$Plan" "revisitDays" "[I", Cond.fieldLink RX0 21 "LessonWeave$Plan" "lessonsLaid" "[I", Cond.fieldLink RX0 24 "LessonWeave$Plan" "revisitsLaid" "[I", Cond.fieldLink RX0 27 "LessonWeave$Plan" "since" "[I", Cond.methodLink RX0 30 yX0_clear, Cond.instanceMethod yX0_clear, Cond.selects RX0 yX0_clear yX0_clear]
def wsL_year_r3 : List Cond := [Cond.code yX0_clear cX0_clear 1 none, Cond.fieldLink RX0 39 "LessonWeave$Plan" "laidCount" "I", Cond.fieldLink RX0 43 "LessonWeave$Plan" "lateCount" "I", Cond.fieldLink RX0 46 "LessonWeave$Plan" "lastUsed" "I", Cond.methodLink RX0 33 yJ7_fill_53178, Cond.static yJ7_fill_53178, Cond.initialized RJ7, Cond.code yJ7_fill_53178 cJ7_fill_53178 4 none, Cond.methodLink RL 118 yL_draw, Cond.static yL_draw, Cond.initialized RL, Cond.code yL_draw cL_draw 4 (some .int), Cond.constant RL 7 (735692263), Cond.constant RL 8 (1552020391), Cond.constant RL 9 (2147483647), Cond.methodLink RL 122 yL_step, Cond.static yL_step, Cond.methodLink RL 97 yX2_aim, Cond.instanceMethod yX2_aim, Cond.selects RX2 yX2_aim yX2_aim, Cond.code yX2_aim cX2_aim 6 (some .int), Cond.classLink RX2 34 "java/lang/IllegalArgumentException", Cond.initialized "java/lang/IllegalArgumentException"]
def wsL_year_r4 : List Cond := [Cond.classLink RX2 51 "java/lang/IllegalStateException", Cond.initialized "java/lang/IllegalStateException", Cond.methodLink RX2 30 yX2_isWithin, Cond.static yX2_isWithin, Cond.code yX2_isWithin cX2_isWithin 3 (some .boolean), Cond.methodLink RX2 56 yX1_add, Cond.instanceMethod yX1_add, Cond.selects RX1 yX1_add yX1_add, Cond.code yX1_add cX1_add 6 (some .int), Cond.fieldLink RX1 36 "LessonWeave$Syllabus" "count" "I", Cond.methodLink RX1 40 yX1_putInOrder, Cond.instanceMethod yX1_putInOrder, Cond.selects RX1 yX1_putInOrder yX1_putInOrder, Cond.code yX1_putInOrder cX1_putInOrder 5 none, Cond.methodLink RX1 51 yX1_nextTaken, Cond.instanceMethod yX1_nextTaken, Cond.selects RX1 yX1_nextTaken yX1_nextTaken, Cond.code yX1_nextTaken cX1_nextTaken 5 (some .int), Cond.static yX2_has, Cond.code yX2_has cX2_has 2 (some .boolean), Cond.methodLink RX1 55 yX1_isCovered, Cond.static yX1_isCovered, Cond.code yX1_isCovered cX1_isCovered 2 (some .boolean), Cond.methodLink RX2 60 yX2_planAnew]
def wsL_year_r5 : List Cond := [Cond.instanceMethod yX2_planAnew, Cond.selects RX2 yX2_planAnew yX2_planAnew, Cond.code yX2_planAnew cX2_planAnew 2 none, Cond.methodLink RX2 168 yX0_lay, Cond.instanceMethod yX0_lay, Cond.selects RX0 yX0_lay yX0_lay, Cond.code yX0_lay cX0_lay 4 none, Cond.methodLink RX0 49 yX0_layOn, Cond.instanceMethod yX0_layOn, Cond.selects RX0 yX0_layOn yX0_layOn, Cond.code yX0_layOn cX0_layOn 5 none, Cond.methodLink RX0 53 yX0_mostPressing, Cond.instanceMethod yX0_mostPressing, Cond.selects RX0 yX0_mostPressing yX0_mostPressing, Cond.code yX0_mostPressing cX0_mostPressing 7 (some .int), Cond.methodLink RX0 78 yX0_isDue, Cond.instanceMethod yX0_isDue, Cond.selects RX0 yX0_isDue yX0_isDue, Cond.code yX0_isDue cX0_isDue 4 (some .boolean), Cond.methodLink RX0 90 yX0_nextGap, Cond.instanceMethod yX0_nextGap, Cond.selects RX0 yX0_nextGap yX0_nextGap, Cond.code yX0_nextGap cX0_nextGap 3 (some .int), Cond.methodLink RX0 81 yX0_lateFrom]
def wsL_year_r6 : List Cond := [Cond.instanceMethod yX0_lateFrom, Cond.selects RX0 yX0_lateFrom yX0_lateFrom, Cond.code yX0_lateFrom cX0_lateFrom 3 (some .int), Cond.methodLink RX0 57 yX0_layRevisit, Cond.instanceMethod yX0_layRevisit, Cond.selects RX0 yX0_layRevisit yX0_layRevisit, Cond.code yX0_layRevisit cX0_layRevisit 4 none, Cond.methodLink RX0 105 yX0_use, Cond.instanceMethod yX0_use, Cond.selects RX0 yX0_use yX0_use, Cond.code yX0_use cX0_use 4 none, Cond.methodLink RX0 61 yX0_firstUnfinished, Cond.instanceMethod yX0_firstUnfinished, Cond.selects RX0 yX0_firstUnfinished yX0_firstUnfinished, Cond.code yX0_firstUnfinished cX0_firstUnfinished 4 (some .int), Cond.methodLink RX0 65 yX0_isKitTaken, Cond.instanceMethod yX0_isKitTaken, Cond.selects RX0 yX0_isKitTaken yX0_isKitTaken, Cond.code yX0_isKitTaken cX0_isKitTaken 5 (some .boolean), Cond.methodLink RX0 102 yX0_isOthersLesson, Cond.static yX0_isOthersLesson, Cond.code yX0_isOthersLesson cX0_isOthersLesson 3 (some .boolean), Cond.methodLink RX0 69 yX0_layLesson, Cond.instanceMethod yX0_layLesson]
def wsL_year_r7 : List Cond := [Cond.selects RX0 yX0_layLesson yX0_layLesson, Cond.code yX0_layLesson cX0_layLesson 3 none, Cond.methodLink RL 31 yL_isIn, Cond.static yL_isIn, Cond.code yL_isIn cL_isIn 2 (some .boolean), Cond.methodLink RL 37 yX2_allNeeds, Cond.instanceMethod yX2_allNeeds, Cond.selects RX2 yX2_allNeeds yX2_allNeeds, Cond.code yX2_allNeeds cX2_allNeeds 2 (some .int), Cond.classLink RX2 67 "java/lang/IndexOutOfBoundsException", Cond.initialized "java/lang/IndexOutOfBoundsException", Cond.methodLink RX2 63 yX2_isAim, Cond.instanceMethod yX2_isAim, Cond.selects RX2 yX2_isAim yX2_isAim, Cond.code yX2_isAim cX2_isAim 2 (some .boolean), Cond.methodLink RX2 84 yX1_reach, Cond.instanceMethod yX1_reach, Cond.selects RX1 yX1_reach yX1_reach, Cond.code yX1_reach cX1_reach 4 (some .int), Cond.methodLink RX1 43 yX1_neededBy, Cond.instanceMethod yX1_neededBy, Cond.selects RX1 yX1_neededBy yX1_neededBy, Cond.code yX1_neededBy cX1_neededBy 4 (some .int), Cond.methodLink RL 101 yL_needs]
def wsL_year_r8 : List Cond := [Cond.static yL_needs, Cond.codeWith yL_needs cL_needs 4 (some .int) [(0, 6, 7, 16)], Cond.classLink RL 16 "java/lang/IllegalStateException", Cond.methodLink RL 10 yX2_need, Cond.instanceMethod yX2_need, Cond.selects RX2 yX2_need yX2_need, Cond.code yX2_need cX2_need 3 (some .int), Cond.methodLink RX2 78 yX2_has, Cond.methodLink RX2 90 yX1_setNeeds, Cond.instanceMethod yX1_setNeeds, Cond.selects RX1 yX1_setNeeds yX1_setNeeds, Cond.code yX1_setNeeds cX1_setNeeds 3 none, Cond.methodLink RX2 94 yJ6_bitCount_0f7a4, Cond.static yJ6_bitCount_0f7a4, Cond.initialized RJ6, Cond.code yJ6_bitCount_0f7a4 cJ6_bitCount_0f7a4 1 (some .int), Cond.constant RJ6 265 (1431655765), Cond.constant RJ6 266 (858993459), Cond.constant RJ6 267 (252645135), Cond.methodLink RL 88 yL_size, Cond.static yL_size, Cond.code yL_size cL_size 3 (some .int), Cond.methodLink RL 105 yL_frees, Cond.static yL_frees]
def wsL_year_r9 : List Cond := [Cond.codeWith yL_frees cL_frees 4 (some .int) [(0, 6, 7, 21)], Cond.classLink RL 21 "java/util/NoSuchElementException", Cond.methodLink RL 18 yX2_free, Cond.instanceMethod yX2_free, Cond.selects RX2 yX2_free yX2_free, Cond.code yX2_free cX2_free 3 (some .int), Cond.classLink RX2 99 "java/util/NoSuchElementException", Cond.initialized "java/util/NoSuchElementException", Cond.methodLink RL 108 yX2_revisits, Cond.instanceMethod yX2_revisits, Cond.selects RX2 yX2_revisits yX2_revisits, Cond.code yX2_revisits cX2_revisits 5 (some .int), Cond.methodLink RL 57 yL_isLost, Cond.static yL_isLost, Cond.code yL_isLost cL_isLost 2 (some .boolean), Cond.methodLink RL 112 yL_loses, Cond.static yL_loses, Cond.methodLink RL 46 yL_asks, Cond.static yL_asks, Cond.code yL_asks cL_asks 8 none, Cond.methodLink RL 40 yX2_lessonDay, Cond.instanceMethod yX2_lessonDay, Cond.selects RX2 yX2_lessonDay yX2_lessonDay]
def wsL_year_r10 : List Cond := [Cond.code yX2_lessonDay cX2_lessonDay 3 (some .int), Cond.methodLink RL 43 yX2_revisitDay, Cond.instanceMethod yX2_revisitDay, Cond.selects RX2 yX2_revisitDay yX2_revisitDay, Cond.code yX2_revisitDay cX2_revisitDay 3 (some .int), Cond.methodLink RL 27 yX2_ordered, Cond.instanceMethod yX2_ordered, Cond.selects RX2 yX2_ordered yX2_ordered, Cond.code yX2_ordered cX2_ordered 2 (some .int), Cond.methodLink RL 94 yX2_lose, Cond.instanceMethod yX2_lose, Cond.selects RX2 yX2_lose yX2_lose, Cond.code yX2_lose cX2_lose 2 (some .int), Cond.methodLink RX2 119 yX2_isDay, Cond.static yX2_isDay, Cond.code yX2_isDay cX2_isDay 1 (some .boolean), Cond.methodLink RX2 126 yX0_movedSince, Cond.instanceMethod yX0_movedSince, Cond.selects RX0 yX0_movedSince yX0_movedSince, Cond.code yX0_movedSince cX0_movedSince 2 (some .int), Cond.methodLink RX0 109 yX0_changed, Cond.static yX0_changed, Cond.code yX0_changed cX0_changed 4 (some .int), Cond.methodLink RL 54 yX2_on]
def wsL_year_r11 : List Cond := [Cond.instanceMethod yX2_on, Cond.selects RX2 yX2_on yX2_on, Cond.code yX2_on cX2_on 2 (some .int), Cond.methodLink RL 126 yL_isOrder, Cond.static yL_isOrder, Cond.methodLink RL 23 yX2_aims, Cond.instanceMethod yX2_aims, Cond.selects RX2 yX2_aims yX2_aims, Cond.code yX2_aims cX2_aims 1 (some .int), Cond.methodLink RL 130 yL_isPlan, Cond.static yL_isPlan, Cond.methodLink RL 50 yL_thing, Cond.static yL_thing, Cond.code yL_thing cL_thing 6 (some .int), Cond.methodLink RL 61 yL_isBusy, Cond.static yL_isBusy, Cond.methodLink RL 65 yX2_laid, Cond.instanceMethod yX2_laid, Cond.selects RX2 yX2_laid yX2_laid, Cond.code yX2_laid cX2_laid 1 (some .int), Cond.methodLink RL 68 yX2_late]
def wsL_year_r12 : List Cond := [Cond.instanceMethod yX2_late, Cond.selects RX2 yX2_late yX2_late, Cond.code yX2_late cX2_late 1 (some .int), Cond.methodLink RL 71 yX2_lastDay, Cond.instanceMethod yX2_lastDay, Cond.selects RX2 yX2_lastDay yX2_lastDay, Cond.code yX2_lastDay cX2_lastDay 1 (some .int), Cond.methodLink RL 134 yL_isWorth, Cond.static yL_isWorth, Cond.code yL_isWorth cL_isWorth 11 (some .boolean), Cond.methodLink RL 74 yX2_worthwhile, Cond.instanceMethod yX2_worthwhile, Cond.selects RX2 yX2_worthwhile yX2_worthwhile, Cond.code yX2_worthwhile cX2_worthwhile 2 (some .int), Cond.methodLink RX2 157 yX1_bestSet, Cond.instanceMethod yX1_bestSet, Cond.selects RX1 yX1_bestSet yX1_bestSet, Cond.code yX1_bestSet cX1_bestSet 6 (some .int), Cond.methodLink RX1 58 yX1_isClosed, Cond.instanceMethod yX1_isClosed, Cond.selects RX1 yX1_isClosed yX1_isClosed, Cond.code yX1_isClosed cX1_isClosed 3 (some .boolean), Cond.methodLink RX1 62 yX1_netOf, Cond.instanceMethod yX1_netOf]
def wsL_year_r13 : List Cond := [Cond.selects RX1 yX1_netOf yX1_netOf, Cond.code yX1_netOf cX1_netOf 5 (some .int), Cond.methodLink RX1 65 yJ6_bitCount_0f7a4, Cond.methodLink RL 77 yL_net, Cond.static yL_net, Cond.code yL_net cL_net 6 (some .int), Cond.methodLink RL 81 yL_isClosed, Cond.static yL_isClosed, Cond.code yL_isClosed cL_isClosed 5 (some .boolean), Cond.methodLink RL 85 yX2_bestNet, Cond.instanceMethod yX2_bestNet, Cond.selects RX2 yX2_bestNet yX2_bestNet, Cond.code yX2_bestNet cX2_bestNet 2 (some .int), Cond.methodLink RX2 160 yX1_netOf, Cond.methodLink RL 91 yX2_closedSets, Cond.instanceMethod yX2_closedSets, Cond.selects RX2 yX2_closedSets yX2_closedSets, Cond.code yX2_closedSets cX2_closedSets 1 (some .int), Cond.methodLink RX2 164 yX1_countClosed, Cond.instanceMethod yX1_countClosed, Cond.selects RX1 yX1_countClosed yX1_countClosed, Cond.code yX1_countClosed cX1_countClosed 3 (some .int)]
def wsL_year : List Cond := .code yL_year cL_year 10 (some .boolean) :: (((wsL_year_r1 ++ (wsL_year_r2 ++ (wsL_year_r3 ++ (wsL_year_r4 ++ (wsL_year_r5 ++ (wsL_year_r6 ++ (wsL_year_r7 ++ (wsL_year_r8 ++ (wsL_year_r9 ++ (wsL_year_r10 ++ (wsL_year_r11 ++ (wsL_year_r12 ++ wsL_year_r13)))))))))))) ++ wsX20 ++ wsX10 ++ wsX00 ++ (vx_atS RX2 38 "java/lang/IllegalArgumentException" ["java/lang/RuntimeException", "java/lang/Exception"]).filter goodWord ++ (vx_atS RX2 55 "java/lang/IllegalStateException" ["java/lang/RuntimeException", "java/lang/Exception"]).filter goodWord ++ (vx_atS RX2 71 "java/lang/IndexOutOfBoundsException" ["java/lang/RuntimeException", "java/lang/Exception"]).filter goodWord ++ xk_nsS.filter goodWord) ++ bgL_year)
def wsL_law0_r1 : List Cond := [Cond.methodLink RL 138 yL_year, Cond.static yL_year, Cond.initialized RL, Cond.classLink RL 11 RX2, Cond.instantiable RX2 4, Cond.initialized RX2, Cond.arrayClass .int, Cond.arrayClass .long, Cond.constant RL 117 (1073741824), Cond.methodLink RL 116 yX2_init, Cond.instanceMethod yX2_init, Cond.code yX2_init cX2_init 1 none, Cond.methodLink RX2 1 objectInit, Cond.instanceMethod objectInit, Cond.code objectInit ⟨#[0xb1]⟩ 1 none, Cond.classLink RX2 7 RX1, Cond.instantiable RX1 9, Cond.initialized RX1, Cond.fieldLink RX2 10 "LessonWeave" "syllabus" "LLessonWeave$Syllabus;", Cond.arrayClass .boolean, Cond.fieldLink RX2 16 "LessonWeave" "lost" "[Z", Cond.classLink RX2 20 RX0, Cond.instantiable RX0 9]
def wsL_law0_r2 : List Cond := [Cond.initialized RX0, Cond.fieldLink RX2 23 "LessonWeave" "plan" "LLessonWeave$Plan;", Cond.fieldLink RX2 27 "LessonWeave" "formerPlan" "LLessonWeave$Plan;", Cond.methodLink RX2 9 yX1_init, Cond.instanceMethod yX1_init, Cond.code yX1_init cX1_init 1 none, Cond.methodLink RX1 3 objectInit, Cond.fieldLink RX1 9 "LessonWeave$Syllabus" "lessons" "[I", Cond.fieldLink RX1 15 "LessonWeave$Syllabus" "kind" "[I", Cond.fieldLink RX1 18 "LessonWeave$Syllabus" "worth" "[I", Cond.fieldLink RX1 21 "LessonWeave$Syllabus" "kit" "[I", Cond.fieldLink RX1 24 "LessonWeave$Syllabus" "many" "[I", Cond.fieldLink RX1 27 "LessonWeave$Syllabus" "gap" "[I", Cond.fieldLink RX1 30 "LessonWeave$Syllabus" "needs" "[I", Cond.fieldLink RX1 33 "LessonWeave$Syllabus" "order" "[I", Cond.methodLink RX2 22 yX0_init, Cond.instanceMethod yX0_init, Cond.code yX0_init cX0_init 1 none, Cond.methodLink RX0 3 objectInit, Cond.fieldLink RX0 9 "LessonWeave$Plan" "things" "[I", Cond.fieldLink RX0 15 "LessonWeave$Plan" "lessonDays" "[I", Cond.fieldLink RX0 18 "LessonWeave$Plan" "revisitDays" "[I", Cond.fieldLink RX0 21 "LessonWeave$Plan" "lessonsLaid" "[I", Cond.fieldLink RX0 24 "LessonWeave$Plan" "revisitsLaid" "[I"]
def wsL_law0_r3 : List Cond := [Cond.fieldLink RX0 27 "LessonWeave$Plan" "since" "[I", Cond.methodLink RX0 30 yX0_clear, Cond.instanceMethod yX0_clear, Cond.selects RX0 yX0_clear yX0_clear, Cond.code yX0_clear cX0_clear 1 none, Cond.fieldLink RX0 39 "LessonWeave$Plan" "laidCount" "I", Cond.fieldLink RX0 43 "LessonWeave$Plan" "lateCount" "I", Cond.fieldLink RX0 46 "LessonWeave$Plan" "lastUsed" "I", Cond.methodLink RX0 33 yJ7_fill_53178, Cond.static yJ7_fill_53178, Cond.initialized RJ7, Cond.code yJ7_fill_53178 cJ7_fill_53178 4 none, Cond.methodLink RL 118 yL_draw, Cond.static yL_draw, Cond.code yL_draw cL_draw 4 (some .int), Cond.constant RL 7 (735692263), Cond.constant RL 8 (1552020391), Cond.constant RL 9 (2147483647), Cond.methodLink RL 122 yL_step, Cond.static yL_step, Cond.methodLink RL 97 yX2_aim, Cond.instanceMethod yX2_aim, Cond.selects RX2 yX2_aim yX2_aim]
def wsL_law0_r4 : List Cond := [Cond.code yX2_aim cX2_aim 6 (some .int), Cond.classLink RX2 34 "java/lang/IllegalArgumentException", Cond.initialized "java/lang/IllegalArgumentException", Cond.classLink RX2 51 "java/lang/IllegalStateException", Cond.initialized "java/lang/IllegalStateException", Cond.methodLink RX2 30 yX2_isWithin, Cond.static yX2_isWithin, Cond.code yX2_isWithin cX2_isWithin 3 (some .boolean), Cond.methodLink RX2 56 yX1_add, Cond.instanceMethod yX1_add, Cond.selects RX1 yX1_add yX1_add, Cond.code yX1_add cX1_add 6 (some .int), Cond.fieldLink RX1 36 "LessonWeave$Syllabus" "count" "I", Cond.methodLink RX1 40 yX1_putInOrder, Cond.instanceMethod yX1_putInOrder, Cond.selects RX1 yX1_putInOrder yX1_putInOrder, Cond.code yX1_putInOrder cX1_putInOrder 5 none, Cond.methodLink RX1 51 yX1_nextTaken, Cond.instanceMethod yX1_nextTaken, Cond.selects RX1 yX1_nextTaken yX1_nextTaken, Cond.code yX1_nextTaken cX1_nextTaken 5 (some .int), Cond.static yX2_has, Cond.code yX2_has cX2_has 2 (some .boolean), Cond.methodLink RX1 55 yX1_isCovered]
def wsL_law0_r5 : List Cond := [Cond.static yX1_isCovered, Cond.code yX1_isCovered cX1_isCovered 2 (some .boolean), Cond.methodLink RX2 60 yX2_planAnew, Cond.instanceMethod yX2_planAnew, Cond.selects RX2 yX2_planAnew yX2_planAnew, Cond.code yX2_planAnew cX2_planAnew 2 none, Cond.methodLink RX2 168 yX0_lay, Cond.instanceMethod yX0_lay, Cond.selects RX0 yX0_lay yX0_lay, Cond.code yX0_lay cX0_lay 4 none, Cond.methodLink RX0 49 yX0_layOn, Cond.instanceMethod yX0_layOn, Cond.selects RX0 yX0_layOn yX0_layOn, Cond.code yX0_layOn cX0_layOn 5 none, Cond.methodLink RX0 53 yX0_mostPressing, Cond.instanceMethod yX0_mostPressing, Cond.selects RX0 yX0_mostPressing yX0_mostPressing, Cond.code yX0_mostPressing cX0_mostPressing 7 (some .int), Cond.methodLink RX0 78 yX0_isDue, Cond.instanceMethod yX0_isDue, Cond.selects RX0 yX0_isDue yX0_isDue, Cond.code yX0_isDue cX0_isDue 4 (some .boolean), Cond.methodLink RX0 90 yX0_nextGap, Cond.instanceMethod yX0_nextGap]
def wsL_law0_r6 : List Cond := [Cond.selects RX0 yX0_nextGap yX0_nextGap, Cond.code yX0_nextGap cX0_nextGap 3 (some .int), Cond.methodLink RX0 81 yX0_lateFrom, Cond.instanceMethod yX0_lateFrom, Cond.selects RX0 yX0_lateFrom yX0_lateFrom, Cond.code yX0_lateFrom cX0_lateFrom 3 (some .int), Cond.methodLink RX0 57 yX0_layRevisit, Cond.instanceMethod yX0_layRevisit, Cond.selects RX0 yX0_layRevisit yX0_layRevisit, Cond.code yX0_layRevisit cX0_layRevisit 4 none, Cond.methodLink RX0 105 yX0_use, Cond.instanceMethod yX0_use, Cond.selects RX0 yX0_use yX0_use, Cond.code yX0_use cX0_use 4 none, Cond.methodLink RX0 61 yX0_firstUnfinished, Cond.instanceMethod yX0_firstUnfinished, Cond.selects RX0 yX0_firstUnfinished yX0_firstUnfinished, Cond.code yX0_firstUnfinished cX0_firstUnfinished 4 (some .int), Cond.methodLink RX0 65 yX0_isKitTaken, Cond.instanceMethod yX0_isKitTaken, Cond.selects RX0 yX0_isKitTaken yX0_isKitTaken, Cond.code yX0_isKitTaken cX0_isKitTaken 5 (some .boolean), Cond.methodLink RX0 102 yX0_isOthersLesson, Cond.static yX0_isOthersLesson]
def wsL_law0_r7 : List Cond := [Cond.code yX0_isOthersLesson cX0_isOthersLesson 3 (some .boolean), Cond.methodLink RX0 69 yX0_layLesson, Cond.instanceMethod yX0_layLesson, Cond.selects RX0 yX0_layLesson yX0_layLesson, Cond.code yX0_layLesson cX0_layLesson 3 none, Cond.methodLink RL 31 yL_isIn, Cond.static yL_isIn, Cond.code yL_isIn cL_isIn 2 (some .boolean), Cond.methodLink RL 37 yX2_allNeeds, Cond.instanceMethod yX2_allNeeds, Cond.selects RX2 yX2_allNeeds yX2_allNeeds, Cond.code yX2_allNeeds cX2_allNeeds 2 (some .int), Cond.classLink RX2 67 "java/lang/IndexOutOfBoundsException", Cond.initialized "java/lang/IndexOutOfBoundsException", Cond.methodLink RX2 63 yX2_isAim, Cond.instanceMethod yX2_isAim, Cond.selects RX2 yX2_isAim yX2_isAim, Cond.code yX2_isAim cX2_isAim 2 (some .boolean), Cond.methodLink RX2 84 yX1_reach, Cond.instanceMethod yX1_reach, Cond.selects RX1 yX1_reach yX1_reach, Cond.code yX1_reach cX1_reach 4 (some .int), Cond.methodLink RX1 43 yX1_neededBy, Cond.instanceMethod yX1_neededBy]
def wsL_law0_r8 : List Cond := [Cond.selects RX1 yX1_neededBy yX1_neededBy, Cond.code yX1_neededBy cX1_neededBy 4 (some .int), Cond.methodLink RL 101 yL_needs, Cond.static yL_needs, Cond.codeWith yL_needs cL_needs 4 (some .int) [(0, 6, 7, 16)], Cond.classLink RL 16 "java/lang/IllegalStateException", Cond.methodLink RL 10 yX2_need, Cond.instanceMethod yX2_need, Cond.selects RX2 yX2_need yX2_need, Cond.code yX2_need cX2_need 3 (some .int), Cond.methodLink RX2 78 yX2_has, Cond.methodLink RX2 90 yX1_setNeeds, Cond.instanceMethod yX1_setNeeds, Cond.selects RX1 yX1_setNeeds yX1_setNeeds, Cond.code yX1_setNeeds cX1_setNeeds 3 none, Cond.methodLink RX2 94 yJ6_bitCount_0f7a4, Cond.static yJ6_bitCount_0f7a4, Cond.initialized RJ6, Cond.code yJ6_bitCount_0f7a4 cJ6_bitCount_0f7a4 1 (some .int), Cond.constant RJ6 265 (1431655765), Cond.constant RJ6 266 (858993459), Cond.constant RJ6 267 (252645135), Cond.methodLink RL 88 yL_size, Cond.static yL_size]
def wsL_law0_r9 : List Cond := [Cond.code yL_size cL_size 3 (some .int), Cond.methodLink RL 105 yL_frees, Cond.static yL_frees, Cond.codeWith yL_frees cL_frees 4 (some .int) [(0, 6, 7, 21)], Cond.classLink RL 21 "java/util/NoSuchElementException", Cond.methodLink RL 18 yX2_free, Cond.instanceMethod yX2_free, Cond.selects RX2 yX2_free yX2_free, Cond.code yX2_free cX2_free 3 (some .int), Cond.classLink RX2 99 "java/util/NoSuchElementException", Cond.initialized "java/util/NoSuchElementException", Cond.methodLink RL 108 yX2_revisits, Cond.instanceMethod yX2_revisits, Cond.selects RX2 yX2_revisits yX2_revisits, Cond.code yX2_revisits cX2_revisits 5 (some .int), Cond.methodLink RL 57 yL_isLost, Cond.static yL_isLost, Cond.code yL_isLost cL_isLost 2 (some .boolean), Cond.methodLink RL 112 yL_loses, Cond.static yL_loses, Cond.methodLink RL 46 yL_asks, Cond.static yL_asks, Cond.code yL_asks cL_asks 8 none]
def wsL_law0_r10 : List Cond := [Cond.methodLink RL 40 yX2_lessonDay, Cond.instanceMethod yX2_lessonDay, Cond.selects RX2 yX2_lessonDay yX2_lessonDay, Cond.code yX2_lessonDay cX2_lessonDay 3 (some .int), Cond.methodLink RL 43 yX2_revisitDay, Cond.instanceMethod yX2_revisitDay, Cond.selects RX2 yX2_revisitDay yX2_revisitDay, Cond.code yX2_revisitDay cX2_revisitDay 3 (some .int), Cond.methodLink RL 27 yX2_ordered, Cond.instanceMethod yX2_ordered, Cond.selects RX2 yX2_ordered yX2_ordered, Cond.code yX2_ordered cX2_ordered 2 (some .int), Cond.methodLink RL 94 yX2_lose, Cond.instanceMethod yX2_lose, Cond.selects RX2 yX2_lose yX2_lose, Cond.code yX2_lose cX2_lose 2 (some .int), Cond.methodLink RX2 119 yX2_isDay, Cond.static yX2_isDay, Cond.code yX2_isDay cX2_isDay 1 (some .boolean), Cond.methodLink RX2 126 yX0_movedSince, Cond.instanceMethod yX0_movedSince, Cond.selects RX0 yX0_movedSince yX0_movedSince, Cond.code yX0_movedSince cX0_movedSince 2 (some .int), Cond.methodLink RX0 109 yX0_changed]
def wsL_law0_r11 : List Cond := [Cond.static yX0_changed, Cond.code yX0_changed cX0_changed 4 (some .int), Cond.methodLink RL 54 yX2_on, Cond.instanceMethod yX2_on, Cond.selects RX2 yX2_on yX2_on, Cond.code yX2_on cX2_on 2 (some .int), Cond.methodLink RL 126 yL_isOrder, Cond.static yL_isOrder, Cond.methodLink RL 23 yX2_aims, Cond.instanceMethod yX2_aims, Cond.selects RX2 yX2_aims yX2_aims, Cond.code yX2_aims cX2_aims 1 (some .int), Cond.methodLink RL 130 yL_isPlan, Cond.static yL_isPlan, Cond.methodLink RL 50 yL_thing, Cond.static yL_thing, Cond.code yL_thing cL_thing 6 (some .int), Cond.methodLink RL 61 yL_isBusy, Cond.static yL_isBusy, Cond.methodLink RL 65 yX2_laid, Cond.instanceMethod yX2_laid]
def wsL_law0_r12 : List Cond := [Cond.selects RX2 yX2_laid yX2_laid, Cond.code yX2_laid cX2_laid 1 (some .int), Cond.methodLink RL 68 yX2_late, Cond.instanceMethod yX2_late, Cond.selects RX2 yX2_late yX2_late, Cond.code yX2_late cX2_late 1 (some .int), Cond.methodLink RL 71 yX2_lastDay, Cond.instanceMethod yX2_lastDay, Cond.selects RX2 yX2_lastDay yX2_lastDay, Cond.code yX2_lastDay cX2_lastDay 1 (some .int), Cond.methodLink RL 134 yL_isWorth, Cond.static yL_isWorth, Cond.code yL_isWorth cL_isWorth 11 (some .boolean), Cond.methodLink RL 74 yX2_worthwhile, Cond.instanceMethod yX2_worthwhile, Cond.selects RX2 yX2_worthwhile yX2_worthwhile, Cond.code yX2_worthwhile cX2_worthwhile 2 (some .int), Cond.methodLink RX2 157 yX1_bestSet, Cond.instanceMethod yX1_bestSet, Cond.selects RX1 yX1_bestSet yX1_bestSet, Cond.code yX1_bestSet cX1_bestSet 6 (some .int), Cond.methodLink RX1 58 yX1_isClosed, Cond.instanceMethod yX1_isClosed, Cond.selects RX1 yX1_isClosed yX1_isClosed]
def wsL_law0_r13 : List Cond := [Cond.code yX1_isClosed cX1_isClosed 3 (some .boolean), Cond.methodLink RX1 62 yX1_netOf, Cond.instanceMethod yX1_netOf, Cond.selects RX1 yX1_netOf yX1_netOf, Cond.code yX1_netOf cX1_netOf 5 (some .int), Cond.methodLink RX1 65 yJ6_bitCount_0f7a4, Cond.methodLink RL 77 yL_net, Cond.static yL_net, Cond.code yL_net cL_net 6 (some .int), Cond.methodLink RL 81 yL_isClosed, Cond.static yL_isClosed, Cond.code yL_isClosed cL_isClosed 5 (some .boolean), Cond.methodLink RL 85 yX2_bestNet, Cond.instanceMethod yX2_bestNet, Cond.selects RX2 yX2_bestNet yX2_bestNet, Cond.code yX2_bestNet cX2_bestNet 2 (some .int), Cond.methodLink RX2 160 yX1_netOf, Cond.methodLink RL 91 yX2_closedSets, Cond.instanceMethod yX2_closedSets, Cond.selects RX2 yX2_closedSets yX2_closedSets, Cond.code yX2_closedSets cX2_closedSets 1 (some .int), Cond.methodLink RX2 164 yX1_countClosed, Cond.instanceMethod yX1_countClosed, Cond.selects RX1 yX1_countClosed yX1_countClosed]
def wsL_law0_r14 : List Cond := [Cond.code yX1_countClosed cX1_countClosed 3 (some .int)]
def wsL_law0 : List Cond := (wsL_law0_r1 ++ (wsL_law0_r2 ++ (wsL_law0_r3 ++ (wsL_law0_r4 ++ (wsL_law0_r5 ++ (wsL_law0_r6 ++ (wsL_law0_r7 ++ (wsL_law0_r8 ++ (wsL_law0_r9 ++ (wsL_law0_r10 ++ (wsL_law0_r11 ++ (wsL_law0_r12 ++ (wsL_law0_r13 ++ wsL_law0_r14))))))))))))) ++ wsX20 ++ wsX10 ++ wsX00 ++ ([] : List Cond)
def wsL_lawA : List Cond := wsL_law0 ++ (vx_atS RX2 38 "java/lang/IllegalArgumentException" ["java/lang/RuntimeException", "java/lang/Exception"]).filter goodWord ++ (vx_atS RX2 55 "java/lang/IllegalStateException" ["java/lang/RuntimeException", "java/lang/Exception"]).filter goodWord ++ (vx_atS RX2 71 "java/lang/IndexOutOfBoundsException" ["java/lang/RuntimeException", "java/lang/Exception"]).filter goodWord ++ xk_nsS.filter goodWord
def wsL_law : List Cond := wsL_lawA ++ bgL_law
abbrev vwCl : List vw_C := [(RX0, TX0, 9), (RX1, TX1, 9), (RX2, TX2, 4)]
