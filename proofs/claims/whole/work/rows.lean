section
def lw_okq (q : MethodName × Nat) : Prop := (q.1.cls ≠ "java/lang/invoke/MethodHandle" ∧ q.1.cls ≠ "java/lang/invoke/VarHandle") ∧ Cond.instantiable q.1.cls q.2 ∈ tables_1 ∧ Cond.privateMethod q.1 ∈ tables_1 ∧ Cond.instanceMethod q.1 ∈ tables_1
theorem lw_p0 : lw_okq (⟨"LessonWeave$Plan", "clear", "()V"⟩, 9) := ⟨⟨by decide +kernel, by decide +kernel⟩, List.mem_of_getElem? (i := 70) (by decide +kernel), List.mem_of_getElem? (i := 76) (by decide +kernel), List.mem_of_getElem? (i := 77) (by decide +kernel)⟩
theorem lw_p1 : lw_okq (⟨"LessonWeave$Syllabus", "isClosed", "(I)Z"⟩, 9) := ⟨⟨by decide +kernel, by decide +kernel⟩, List.mem_of_getElem? (i := 23) (by decide +kernel), List.mem_of_getElem? (i := 155) (by decide +kernel), List.mem_of_getElem? (i := 156) (by decide +kernel)⟩
theorem lw_p2 : lw_okq (⟨"java/lang/Throwable", "fillInStackTrace", "(I)Ljava/lang/Throwable;"⟩, 6) := ⟨⟨by decide +kernel, by decide +kernel⟩, List.mem_of_getElem? (i := 216) (by decide +kernel), List.mem_of_getElem? (i := 214) (by decide +kernel), List.mem_of_getElem? (i := 215) (by decide +kernel)⟩
theorem lw_p3 : lw_okq (⟨"LessonWeave$Syllabus", "putInOrder", "()V"⟩, 9) := ⟨⟨by decide +kernel, by decide +kernel⟩, List.mem_of_getElem? (i := 23) (by decide +kernel), List.mem_of_getElem? (i := 269) (by decide +kernel), List.mem_of_getElem? (i := 270) (by decide +kernel)⟩
theorem lw_p4 : lw_okq (⟨"LessonWeave$Syllabus", "nextTaken", "(II)I"⟩, 9) := ⟨⟨by decide +kernel, by decide +kernel⟩, List.mem_of_getElem? (i := 23) (by decide +kernel), List.mem_of_getElem? (i := 273) (by decide +kernel), List.mem_of_getElem? (i := 274) (by decide +kernel)⟩
theorem lw_p5 : lw_okq (⟨"LessonWeave", "planAnew", "()V"⟩, 4) := ⟨⟨by decide +kernel, by decide +kernel⟩, List.mem_of_getElem? (i := 15) (by decide +kernel), List.mem_of_getElem? (i := 277) (by decide +kernel), List.mem_of_getElem? (i := 278) (by decide +kernel)⟩
theorem lw_p6 : lw_okq (⟨"LessonWeave$Plan", "layOn", "(ILLessonWeave$Syllabus;)V"⟩, 9) := ⟨⟨by decide +kernel, by decide +kernel⟩, List.mem_of_getElem? (i := 70) (by decide +kernel), List.mem_of_getElem? (i := 285) (by decide +kernel), List.mem_of_getElem? (i := 286) (by decide +kernel)⟩
theorem lw_p7 : lw_okq (⟨"LessonWeave$Plan", "mostPressing", "(ILLessonWeave$Syllabus;)I"⟩, 9) := ⟨⟨by decide +kernel, by decide +kernel⟩, List.mem_of_getElem? (i := 70) (by decide +kernel), List.mem_of_getElem? (i := 289) (by decide +kernel), List.mem_of_getElem? (i := 290) (by decide +kernel)⟩
theorem lw_p8 : lw_okq (⟨"LessonWeave$Plan", "isDue", "(IILLessonWeave$Syllabus;)Z"⟩, 9) := ⟨⟨by decide +kernel, by decide +kernel⟩, List.mem_of_getElem? (i := 70) (by decide +kernel), List.mem_of_getElem? (i := 293) (by decide +kernel), List.mem_of_getElem? (i := 294) (by decide +kernel)⟩
theorem lw_p9 : lw_okq (⟨"LessonWeave$Plan", "nextGap", "(ILLessonWeave$Syllabus;)I"⟩, 9) := ⟨⟨by decide +kernel, by decide +kernel⟩, List.mem_of_getElem? (i := 70) (by decide +kernel), List.mem_of_getElem? (i := 297) (by decide +kernel), List.mem_of_getElem? (i := 298) (by decide +kernel)⟩
theorem lw_p10 : lw_okq (⟨"LessonWeave$Plan", "lateFrom", "(ILLessonWeave$Syllabus;)I"⟩, 9) := ⟨⟨by decide +kernel, by decide +kernel⟩, List.mem_of_getElem? (i := 70) (by decide +kernel), List.mem_of_getElem? (i := 301) (by decide +kernel), List.mem_of_getElem? (i := 302) (by decide +kernel)⟩
theorem lw_p11 : lw_okq (⟨"LessonWeave$Plan", "layRevisit", "(IILLessonWeave$Syllabus;)V"⟩, 9) := ⟨⟨by decide +kernel, by decide +kernel⟩, List.mem_of_getElem? (i := 70) (by decide +kernel), List.mem_of_getElem? (i := 305) (by decide +kernel), List.mem_of_getElem? (i := 306) (by decide +kernel)⟩
theorem lw_p12 : lw_okq (⟨"LessonWeave$Plan", "use", "(III)V"⟩, 9) := ⟨⟨by decide +kernel, by decide +kernel⟩, List.mem_of_getElem? (i := 70) (by decide +kernel), List.mem_of_getElem? (i := 309) (by decide +kernel), List.mem_of_getElem? (i := 310) (by decide +kernel)⟩
theorem lw_p13 : lw_okq (⟨"LessonWeave$Plan", "firstUnfinished", "(LLessonWeave$Syllabus;)I"⟩, 9) := ⟨⟨by decide +kernel, by decide +kernel⟩, List.mem_of_getElem? (i := 70) (by decide +kernel), List.mem_of_getElem? (i := 313) (by decide +kernel), List.mem_of_getElem? (i := 314) (by decide +kernel)⟩
theorem lw_p14 : lw_okq (⟨"LessonWeave$Plan", "isKitTaken", "(IILLessonWeave$Syllabus;)Z"⟩, 9) := ⟨⟨by decide +kernel, by decide +kernel⟩, List.mem_of_getElem? (i := 70) (by decide +kernel), List.mem_of_getElem? (i := 317) (by decide +kernel), List.mem_of_getElem? (i := 318) (by decide +kernel)⟩
theorem lw_p15 : lw_okq (⟨"LessonWeave$Plan", "layLesson", "(II)V"⟩, 9) := ⟨⟨by decide +kernel, by decide +kernel⟩, List.mem_of_getElem? (i := 70) (by decide +kernel), List.mem_of_getElem? (i := 324) (by decide +kernel), List.mem_of_getElem? (i := 325) (by decide +kernel)⟩
def lw_privs_1 : List (MethodName × Nat) := [(⟨"LessonWeave$Plan", "clear", "()V"⟩, 9), (⟨"LessonWeave$Syllabus", "isClosed", "(I)Z"⟩, 9), (⟨"java/lang/Throwable", "fillInStackTrace", "(I)Ljava/lang/Throwable;"⟩, 6), (⟨"LessonWeave$Syllabus", "putInOrder", "()V"⟩, 9), (⟨"LessonWeave$Syllabus", "nextTaken", "(II)I"⟩, 9), (⟨"LessonWeave", "planAnew", "()V"⟩, 4), (⟨"LessonWeave$Plan", "layOn", "(ILLessonWeave$Syllabus;)V"⟩, 9), (⟨"LessonWeave$Plan", "mostPressing", "(ILLessonWeave$Syllabus;)I"⟩, 9), (⟨"LessonWeave$Plan", "isDue", "(IILLessonWeave$Syllabus;)Z"⟩, 9), (⟨"LessonWeave$Plan", "nextGap", "(ILLessonWeave$Syllabus;)I"⟩, 9), (⟨"LessonWeave$Plan", "lateFrom", "(ILLessonWeave$Syllabus;)I"⟩, 9), (⟨"LessonWeave$Plan", "layRevisit", "(IILLessonWeave$Syllabus;)V"⟩, 9), (⟨"LessonWeave$Plan", "use", "(III)V"⟩, 9), (⟨"LessonWeave$Plan", "firstUnfinished", "(LLessonWeave$Syllabus;)I"⟩, 9), (⟨"LessonWeave$Plan", "isKitTaken", "(IILLessonWeave$Syllabus;)Z"⟩, 9), (⟨"LessonWeave$Plan", "layLesson", "(II)V"⟩, 9)]
theorem lw_r1 : ∀ q ∈ lw_privs_1, lw_okq q := List.forall_mem_cons.mpr ⟨lw_p0, List.forall_mem_cons.mpr ⟨lw_p1, List.forall_mem_cons.mpr ⟨lw_p2, List.forall_mem_cons.mpr ⟨lw_p3, List.forall_mem_cons.mpr ⟨lw_p4, List.forall_mem_cons.mpr ⟨lw_p5, List.forall_mem_cons.mpr ⟨lw_p6, List.forall_mem_cons.mpr ⟨lw_p7, List.forall_mem_cons.mpr ⟨lw_p8, List.forall_mem_cons.mpr ⟨lw_p9, List.forall_mem_cons.mpr ⟨lw_p10, List.forall_mem_cons.mpr ⟨lw_p11, List.forall_mem_cons.mpr ⟨lw_p12, List.forall_mem_cons.mpr ⟨lw_p13, List.forall_mem_cons.mpr ⟨lw_p14, List.forall_mem_cons.mpr ⟨lw_p15, fun _ h => absurd h List.not_mem_nil⟩⟩⟩⟩⟩⟩⟩⟩⟩⟩⟩⟩⟩⟩⟩⟩
theorem lw_p16 : lw_okq (⟨"LessonWeave", "isAim", "(I)Z"⟩, 4) := ⟨⟨by decide +kernel, by decide +kernel⟩, List.mem_of_getElem? (i := 15) (by decide +kernel), List.mem_of_getElem? (i := 336) (by decide +kernel), List.mem_of_getElem? (i := 337) (by decide +kernel)⟩
theorem lw_p17 : lw_okq (⟨"LessonWeave$Syllabus", "neededBy", "(I)I"⟩, 9) := ⟨⟨by decide +kernel, by decide +kernel⟩, List.mem_of_getElem? (i := 23) (by decide +kernel), List.mem_of_getElem? (i := 363) (by decide +kernel), List.mem_of_getElem? (i := 364) (by decide +kernel)⟩
theorem lw_p18 : lw_okq (⟨"LessonWeaveModel", "can", "(I)Z"⟩, 18) := ⟨⟨by decide +kernel, by decide +kernel⟩, List.mem_of_getElem? (i := 493) (by decide +kernel), List.mem_of_getElem? (i := 565) (by decide +kernel), List.mem_of_getElem? (i := 566) (by decide +kernel)⟩
theorem lw_p19 : lw_okq (⟨"LessonWeaveModel", "isAim", "(I)Z"⟩, 18) := ⟨⟨by decide +kernel, by decide +kernel⟩, List.mem_of_getElem? (i := 493) (by decide +kernel), List.mem_of_getElem? (i := 573) (by decide +kernel), List.mem_of_getElem? (i := 574) (by decide +kernel)⟩
theorem lw_p20 : lw_okq (⟨"LessonWeaveModel", "hasNeed", "(II)Z"⟩, 18) := ⟨⟨by decide +kernel, by decide +kernel⟩, List.mem_of_getElem? (i := 493) (by decide +kernel), List.mem_of_getElem? (i := 577) (by decide +kernel), List.mem_of_getElem? (i := 578) (by decide +kernel)⟩
theorem lw_p21 : lw_okq (⟨"LessonWeaveModel", "reached", "(I)I"⟩, 18) := ⟨⟨by decide +kernel, by decide +kernel⟩, List.mem_of_getElem? (i := 493) (by decide +kernel), List.mem_of_getElem? (i := 581) (by decide +kernel), List.mem_of_getElem? (i := 582) (by decide +kernel)⟩
theorem lw_p22 : lw_okq (⟨"LessonWeaveModel", "orders", "()V"⟩, 18) := ⟨⟨by decide +kernel, by decide +kernel⟩, List.mem_of_getElem? (i := 493) (by decide +kernel), List.mem_of_getElem? (i := 608) (by decide +kernel), List.mem_of_getElem? (i := 609) (by decide +kernel)⟩
theorem lw_p23 : lw_okq (⟨"LessonWeaveModel", "plans", "()V"⟩, 18) := ⟨⟨by decide +kernel, by decide +kernel⟩, List.mem_of_getElem? (i := 493) (by decide +kernel), List.mem_of_getElem? (i := 616) (by decide +kernel), List.mem_of_getElem? (i := 617) (by decide +kernel)⟩
theorem lw_p24 : lw_okq (⟨"LessonWeaveModel", "revisitFor", "(I)I"⟩, 18) := ⟨⟨by decide +kernel, by decide +kernel⟩, List.mem_of_getElem? (i := 493) (by decide +kernel), List.mem_of_getElem? (i := 620) (by decide +kernel), List.mem_of_getElem? (i := 621) (by decide +kernel)⟩
theorem lw_p25 : lw_okq (⟨"LessonWeaveModel", "dueOn", "(I)I"⟩, 18) := ⟨⟨by decide +kernel, by decide +kernel⟩, List.mem_of_getElem? (i := 493) (by decide +kernel), List.mem_of_getElem? (i := 624) (by decide +kernel), List.mem_of_getElem? (i := 625) (by decide +kernel)⟩
theorem lw_p26 : lw_okq (⟨"LessonWeaveModel", "lateFrom", "(I)I"⟩, 18) := ⟨⟨by decide +kernel, by decide +kernel⟩, List.mem_of_getElem? (i := 493) (by decide +kernel), List.mem_of_getElem? (i := 628) (by decide +kernel), List.mem_of_getElem? (i := 629) (by decide +kernel)⟩
theorem lw_p27 : lw_okq (⟨"LessonWeaveModel", "nextAim", "()I"⟩, 18) := ⟨⟨by decide +kernel, by decide +kernel⟩, List.mem_of_getElem? (i := 493) (by decide +kernel), List.mem_of_getElem? (i := 632) (by decide +kernel), List.mem_of_getElem? (i := 633) (by decide +kernel)⟩
theorem lw_p28 : lw_okq (⟨"LessonWeaveModel", "isHeld", "(II)Z"⟩, 18) := ⟨⟨by decide +kernel, by decide +kernel⟩, List.mem_of_getElem? (i := 493) (by decide +kernel), List.mem_of_getElem? (i := 636) (by decide +kernel), List.mem_of_getElem? (i := 637) (by decide +kernel)⟩
theorem lw_p29 : lw_okq (⟨"LessonWeaveModel", "dayOf", "(I)I"⟩, 18) := ⟨⟨by decide +kernel, by decide +kernel⟩, List.mem_of_getElem? (i := 493) (by decide +kernel), List.mem_of_getElem? (i := 640) (by decide +kernel), List.mem_of_getElem? (i := 641) (by decide +kernel)⟩
theorem lw_p30 : lw_okq (⟨"LessonWeaveModel", "best", "(I)I"⟩, 18) := ⟨⟨by decide +kernel, by decide +kernel⟩, List.mem_of_getElem? (i := 493) (by decide +kernel), List.mem_of_getElem? (i := 672) (by decide +kernel), List.mem_of_getElem? (i := 673) (by decide +kernel)⟩
theorem lw_p31 : lw_okq (⟨"LessonWeaveModel", "isClosed", "(I)Z"⟩, 18) := ⟨⟨by decide +kernel, by decide +kernel⟩, List.mem_of_getElem? (i := 493) (by decide +kernel), List.mem_of_getElem? (i := 676) (by decide +kernel), List.mem_of_getElem? (i := 677) (by decide +kernel)⟩
def lw_privs_2 : List (MethodName × Nat) := [(⟨"LessonWeave", "isAim", "(I)Z"⟩, 4), (⟨"LessonWeave$Syllabus", "neededBy", "(I)I"⟩, 9), (⟨"LessonWeaveModel", "can", "(I)Z"⟩, 18), (⟨"LessonWeaveModel", "isAim", "(I)Z"⟩, 18), (⟨"LessonWeaveModel", "hasNeed", "(II)Z"⟩, 18), (⟨"LessonWeaveModel", "reached", "(I)I"⟩, 18), (⟨"LessonWeaveModel", "orders", "()V"⟩, 18), (⟨"LessonWeaveModel", "plans", "()V"⟩, 18), (⟨"LessonWeaveModel", "revisitFor", "(I)I"⟩, 18), (⟨"LessonWeaveModel", "dueOn", "(I)I"⟩, 18), (⟨"LessonWeaveModel", "lateFrom", "(I)I"⟩, 18), (⟨"LessonWeaveModel", "nextAim", "()I"⟩, 18), (⟨"LessonWeaveModel", "isHeld", "(II)Z"⟩, 18), (⟨"LessonWeaveModel", "dayOf", "(I)I"⟩, 18), (⟨"LessonWeaveModel", "best", "(I)I"⟩, 18), (⟨"LessonWeaveModel", "isClosed", "(I)Z"⟩, 18)]
theorem lw_r2 : ∀ q ∈ lw_privs_2, lw_okq q := List.forall_mem_cons.mpr ⟨lw_p16, List.forall_mem_cons.mpr ⟨lw_p17, List.forall_mem_cons.mpr ⟨lw_p18, List.forall_mem_cons.mpr ⟨lw_p19, List.forall_mem_cons.mpr ⟨lw_p20, List.forall_mem_cons.mpr ⟨lw_p21, List.forall_mem_cons.mpr ⟨lw_p22, List.forall_mem_cons.mpr ⟨lw_p23, List.forall_mem_cons.mpr ⟨lw_p24, List.forall_mem_cons.mpr ⟨lw_p25, List.forall_mem_cons.mpr ⟨lw_p26, List.forall_mem_cons.mpr ⟨lw_p27, List.forall_mem_cons.mpr ⟨lw_p28, List.forall_mem_cons.mpr ⟨lw_p29, List.forall_mem_cons.mpr ⟨lw_p30, List.forall_mem_cons.mpr ⟨lw_p31, fun _ h => absurd h List.not_mem_nil⟩⟩⟩⟩⟩⟩⟩⟩⟩⟩⟩⟩⟩⟩⟩⟩
theorem lw_p32 : lw_okq (⟨"LessonWeaveModel", "net", "(II)I"⟩, 18) := ⟨⟨by decide +kernel, by decide +kernel⟩, List.mem_of_getElem? (i := 493) (by decide +kernel), List.mem_of_getElem? (i := 680) (by decide +kernel), List.mem_of_getElem? (i := 681) (by decide +kernel)⟩
def lw_privs_3 : List (MethodName × Nat) := [(⟨"LessonWeaveModel", "net", "(II)I"⟩, 18)]
theorem lw_r3 : ∀ q ∈ lw_privs_3, lw_okq q := List.forall_mem_cons.mpr ⟨lw_p32, fun _ h => absurd h List.not_mem_nil⟩
def lw_privs : List (MethodName × Nat) := lw_privs_1 ++ (lw_privs_2 ++ (lw_privs_3))
def lw_tbl : List Cond := k2_sels lw_privs ++ tables_1
theorem lw_privs_ok : ∀ q ∈ lw_privs, lw_okq q := by
  show ∀ q ∈ lw_privs_1 ++ (lw_privs_2 ++ (lw_privs_3)), lw_okq q
  exact List.forall_mem_append.mpr ⟨lw_r1, List.forall_mem_append.mpr ⟨lw_r2, lw_r3⟩⟩
theorem goodIn_r {big : List Cond} (ws : List Cond) (ps : List Nat) (hp : ws = ps.filterMap (fun i => big[i]?)) (h : ws.all goodWord = true) : GoodIn big ws := by
  intro w hw
  have h1 := List.all_eq_true.mp h w hw
  rw [hp] at hw
  obtain ⟨i, -, hi⟩ := List.mem_filterMap.mp hw
  have hm : w ∈ big := by first | exact List.mem_of_getElem? hi | exact List.getElem?_mem hi
  exact ⟨hm, good_of_word h1⟩
theorem goodIn_app {big a b : List Cond} (ha : GoodIn big a) (hb : GoodIn big b) : GoodIn big (a ++ b) := fun w h => (List.mem_append.mp h).elim (ha w) (hb w)
theorem goodIn_ca {big a b : List Cond} {c : Cond} (ha : GoodIn big (c :: a)) (hb : GoodIn big b) : GoodIn big (c :: (a ++ b)) := fun w h => (List.mem_cons.mp h).elim (fun e => ha w (List.mem_cons.mpr (Or.inl e))) (fun h => (List.mem_append.mp h).elim (fun h => ha w (List.mem_cons.mpr (Or.inr h))) (hb w))
theorem goodIn_sub {big ws : List Cond} (hm : ∀ w ∈ ws, w ∈ big) (h : ws.all goodWord = true) : GoodIn big ws := fun w hw => ⟨hm w hw, good_of_word (List.all_eq_true.mp h w hw)⟩

section VXA
def vx_T (XC : String → State → State → Prop) (st : State) (q : Addr) (t : State) (mc ms : Nat) (free : Addr → Prop) : Prop :=
  ∃ (E : String) (ce : Cell) (L : List Loc), XC E st t ∧ t.heap[q]? = some ce ∧ ce.vm = .none ∧ st.vm.findClass E = some ce.cls ∧ st.WarmedH t.vm ∧ st.sameButNew ({ t with vm := st.vm } : State) L mc ms ∧ ∀ z ∈ L, free z.base
def vx_Q (Qc : Array Value → State → Outcome → State → Prop) (XC : String → State → State → Prop) (mc ms : Nat) (free : Addr → Prop) : Array Value → State → Outcome → State → Prop := fun a st o t =>
  (Qc a st o t ∧ ∃ L, FrameEnd st o t L mc ms ∧ ∀ q ∈ L, free q.base) ∨ ∃ q, o = .threw q ∧ vx_T XC st q t mc ms free
def vx_Met (l : Launch) (y : MethodName) (ws : List Cond) (rm : Room) (Pc : Array Value → State → Prop) (Qc : Array Value → State → Outcome → State → Prop) (XC : String → State → State → Prop) (mc ms : Nat) (free : Addr → Prop) : Prop :=
  MetFree l y (headSpec ws rm) Pc (fun _ _ _ _ _ => True) (vx_Q Qc XC mc ms free)
def vx_Post (XC : String → State → State → Prop) (mc ms : Nat) (free : Addr → Prop) : Pt → Array Value → Addr → Pt → Prop := fun A a q B =>
  ∃ (g : JFrame) (mk : MethodId) (t : State) (L : List Loc) (E : String) (ce : Cell), B.U.heap = t.heap ∧ B.U.vm = t.vm ∧ XC E (A.U.calling g mk a) t ∧ t.heap[q]? = some ce ∧ ce.vm = .none ∧ A.U.vm.findClass E = some ce.cls ∧ B.locs = A.locs ++ L ∧ (∀ z ∈ L, free z.base) ∧ B.cells = A.cells + mc ∧ B.slots = A.slots + ms
def vx_Back (l : Launch) (R : Room) (p : Program) (e : Env) (below : List Frame) (s : State) (sargs : Array Value) (y : MethodName) (len W9 : Nat)
    (Pre : Pt → Array Value → Prop) (Post : Pt → Array Value → Option Value → Pt → Prop) (PostX : Pt → Array Value → Addr → Pt → Prop) : Prop :=
  ∀ (m : MethodId) (meth : Method) (c : Code) (A : Pt) (g : JFrame) (ig : Instr) (mk : MethodId) (a : Array Value),
    Stand p l e R s m sargs below meth c A.U A.locs A.cells A.slots → g.method = m → g.locals.size = c.maxLocals → decode c.code g.pc = .ok (ig, len) →
    2 * g.monitorRoom + (g.stack.map fun v => v.category).sum ≤ W9 → A.U.methodNamed? y = some mk → Pre A a →
    (∃ (v : Option Value) (B : Pt), Stand p l e R s m sargs below meth c B.U B.locs B.cells B.slots ∧ Post A a v B ∧
      Steps p.tables e below (doInvoke e (A.U.setTop g) [] mk a).1 (B.U.setTop { g with pc := g.pc + len, stack := v.toList ++ g.stack })) ∨
    (∃ (q : Addr) (B : Pt), Stand p l e R s m sargs below meth c B.U B.locs B.cells B.slots ∧ PostX A a q B ∧
      Steps p.tables e below (doInvoke e (A.U.setTop g) [] mk a).1 ((B.U.setTop g).pushFrame (.throwing q)))
section Payer
variable {l : Launch} {R : Room} {p : Program} {e : Env} {below : List Frame} {s : State} {sargs : Array Value} {y : MethodName} {len W9 : Nat}
theorem vx_back {ws : List Cond} {rm : Room} {Pc : Array Value → State → Prop} {Qc : Array Value → State → Outcome → State → Prop} {XC : String → State → State → Prop} {mc ms : Nat} {free : Addr → Prop} {bytes : ByteArray} {maxL : Nat} {ret : Option FieldType}
    (hM : vx_Met l y ws rm Pc Qc XC mc ms free) (hblind : FrameBlind Pc) (hrc : rm.cells = mc) (hrs : rm.slots = ms)
    (hframes : rm.frames + 1 ≤ R.frames) (hlocals : W9 + (maxL + 11) + rm.locals ≤ R.locals)
    (hws : ∀ w ∈ ws, ∀ a' U, s.WarmedH U.vm → w.before a' U = true) (hcode : Cond.code y bytes maxL ret ∈ ws) (hinit : ∀ a' U, s.WarmedH U.vm → (Cond.initialized y.cls).before a' U = true) :
    vx_Back l R p e below s sargs y len W9 (PreOf R mc ms Pc) (PostOf Qc mc ms free) (vx_Post XC mc ms free) := by
  intro m meth c A g ig mk a X hg hsize hdg hW hn hp
  have h1 : (headSpec ws rm).pre.before a A.U = true := atoms_intro fun w hw => hws w hw _ _ X.warmed
  have h2 : (Cond.code y bytes maxL ret).before a A.U = true := hws _ hcode _ _ X.warmed
  have h3 : (Cond.initialized y.cls).before a A.U = true := hinit _ _ X.warmed
  have h4 : A.cells + (headSpec ws rm).room.cells ≤ R.cells := by rw [show (headSpec ws rm).room.cells = mc from hrc]; exact hp.1
  have h5 : A.slots + (headSpec ws rm).room.slots ≤ R.slots := by rw [show (headSpec ws rm).room.slots = ms from hrs]; exact hp.2.1
  have hPc : Pc a (A.U.calling g mk a) := hblind _ _ _ _ hp.2.2
  obtain ⟨U, Ls, c0, s0⟩ := A
  dsimp only [Pt.U, Pt.locs, Pt.cells, Pt.slots] at h1 h2 h3 h4 h5 X hn hPc ⊢
  obtain ⟨methY, cY, hmY, hcY, -, hlY, -, -, -, -⟩ := Cond.code_spec hn h2
  obtain ⟨kY, hkY, -⟩ := className_of_methodNamed hn
  have hinitY : kY.init = .initialized := Cond.initialized_spec (findClass_of_methodNamed hn) hkY h3
  have h : At U g.method c below := by rw [hg]; exact X.here
  have hlocals9 : W9 + (maxL + 11) + (headSpec ws rm).room.locals ≤ R.locals := hlocals
  have happ : (headSpec ws rm).appliesLoose y e.platform (U.calling g mk a) = true :=
    Spec.appliesLoose_calling (g := g) h hdg hn hkY hinitY
      (X.room_calling (g := g) (R' := (headSpec ws rm).room) hsize hmY hcY hframes (by rw [hlY]; omega) h4 h5) h1
  obtain ⟨mid, hmid⟩ := h.above
  have hfr : (U.setTop g).frames = (.java g :: mid) ++ below := by rw [State.frames_setTop' g h.top, hmid]; rfl
  obtain ⟨o, s₂, hsteps, -, hend, hq⟩ := Steps.callFree hM p X.admits X.cas X.clock (acts := []) hfr happ hPc trivial
  have hq' : vx_Q Qc XC mc ms free a (U.calling g mk a) o s₂ := hq
  rw [State.frames_setTop' g h.top] at hend
  obtain ⟨g₀, hg0⟩ := Option.isSome_iff_exists.mp h.top
  obtain ⟨r, hr⟩ := State.topJava?_eq_some.mp hg0
  have hr' : (({ U with heap := s₂.heap, slotsUsed := s₂.slotsUsed } : State).setVm s₂.vm).frames = .java g₀ :: r := hr
  rcases hq' with ⟨hqc, L, hfe, hL⟩ | ⟨q, rfl, E, ce, L, hx, hce, hcv, hcl, hW₂, hsm, hL⟩
  · obtain ⟨⟨v, rfl⟩, hW₂, e2, q2, q3, q4, q5, q6⟩ := id hfe
    have e3 : s₂ = ({ (U.calling g mk a).setFrames s₂.frames with heap := s₂.heap, slotsUsed := s₂.slotsUsed } : State).setVm s₂.vm := by
      have : s₂ = ({ s₂ with vm := (U.calling g mk a).vm } : State).setVm s₂.vm := rfl
      rw [e2] at this
      exact this
    obtain ⟨c₂, i₂, len₂, hc₂, hd₂, hf₂⟩ := hend
    have hW' : U.WarmedH s₂.vm := hW₂
    have hcc : c₂ = c := by
      have h1 : s₂.code? g.method = U.code? g.method := by
        rw [State.code?_eq, State.code?_eq, hW'.alike.method?]
      exact Option.some.inj (hc₂.symm.trans (h1.trans h.code))
    subst hcc
    have hlen : len₂ = len := by rw [hdg] at hd₂; cases hd₂; rfl
    subst hlen
    have hs₂ : s₂ = (({ U with heap := s₂.heap, slotsUsed := s₂.slotsUsed } : State).setVm s₂.vm).setTop { g with pc := g.pc + len₂, stack := v.toList ++ g.stack } := by
      refine e3.trans ?_
      rw [hf₂, State.calling_eq h.top, State.setFrames_setFrames, State.setTop_of_frames _ hr', hr]
      rfl
    have hsame : U.sameButNew ({ U with heap := s₂.heap, slotsUsed := s₂.slotsUsed } : State) L mc ms := by
      refine ⟨?_, q2, q3, q4, q5, q6⟩
      obtain ⟨t, ht, -⟩ := State.frames_cons hr
      show ({ U with heap := s₂.heap, slotsUsed := s₂.slotsUsed } : State) = { U.setFrames U.frames with heap := s₂.heap, slotsUsed := s₂.slotsUsed }
      rw [State.setFrames_self ht]
    subst hg
    refine Or.inl ⟨v, ⟨(({ U with heap := s₂.heap, slotsUsed := s₂.slotsUsed } : State).setVm s₂.vm), Ls ++ L, c0 + mc, s0 + ms⟩,
      ⟨X.admits, X.cas, X.clock, X.frames, X.room, X.hears, X.method, X.code, (X.here.setHeapUsed s₂.heap s₂.slotsUsed).setVm hW'.alike, X.tail, State.WarmedH.trans X.warmed hW', X.limits, X.bytes, X.same.trans (hsame.setVm s.vm)⟩,
      ⟨g, mk, s₂, L, rfl, rfl, hqc, rfl, hL, rfl, rfl⟩, ?_⟩
    show Steps p.tables e below _ ((({ U with heap := s₂.heap, slotsUsed := s₂.slotsUsed } : State).setVm s₂.vm).setTop { g with pc := g.pc + len₂, stack := v.toList ++ g.stack })
    rw [← hs₂]
    exact hsteps
  · obtain ⟨e2, q2, q3, q4, q5, q6⟩ := id hsm
    have e3 : s₂ = ({ (U.calling g mk a).setFrames s₂.frames with heap := s₂.heap, slotsUsed := s₂.slotsUsed } : State).setVm s₂.vm := by
      have : s₂ = ({ s₂ with vm := (U.calling g mk a).vm } : State).setVm s₂.vm := rfl
      rw [e2] at this
      exact this
    have hf₂ : s₂.frames = .throwing q :: .java g :: U.frames.tail := hend
    have hW' : U.WarmedH s₂.vm := hW₂
    have hs₂ : s₂ = ((({ U with heap := s₂.heap, slotsUsed := s₂.slotsUsed } : State).setVm s₂.vm).setTop g).pushFrame (.throwing q) := by
      refine e3.trans ?_
      rw [hf₂, State.calling_eq h.top, State.setFrames_setFrames, State.pushFrame, State.frames_setTop _ hr', State.setTop_of_frames _ hr', State.setFrames_setFrames, hr]
      rfl
    have hsame : U.sameButNew ({ U with heap := s₂.heap, slotsUsed := s₂.slotsUsed } : State) L mc ms := by
      refine ⟨?_, q2, q3, q4, q5, q6⟩
      obtain ⟨t, ht, -⟩ := State.frames_cons hr
      show ({ U with heap := s₂.heap, slotsUsed := s₂.slotsUsed } : State) = { U.setFrames U.frames with heap := s₂.heap, slotsUsed := s₂.slotsUsed }
      rw [State.setFrames_self ht]
    subst hg
    refine Or.inr ⟨q, ⟨(({ U with heap := s₂.heap, slotsUsed := s₂.slotsUsed } : State).setVm s₂.vm), Ls ++ L, c0 + mc, s0 + ms⟩,
      ⟨X.admits, X.cas, X.clock, X.frames, X.room, X.hears, X.method, X.code, (X.here.setHeapUsed s₂.heap s₂.slotsUsed).setVm hW'.alike, X.tail, State.WarmedH.trans X.warmed hW', X.limits, X.bytes, X.same.trans (hsame.setVm s.vm)⟩,
      ⟨g, mk, s₂, L, E, ce, rfl, rfl, hx, hce, hcv, hcl, rfl, hL, rfl, rfl⟩, ?_⟩
    show Steps p.tables e below _ (((({ U with heap := s₂.heap, slotsUsed := s₂.slotsUsed } : State).setVm s₂.vm).setTop g).pushFrame (.throwing q))
    rw [← hs₂]
    exact hsteps
end Payer
section Calls
variable {p : Program} {l : Launch} {e : Env} {R : Room} {s : State} {m : MethodId} {args : Array Value} {below : List Frame} {meth : Method} {c : Code} {T : State} {locs : List Loc} {cells slots : Nat}
theorem vx_callV (X : Stand p l e R s m args below meth c T locs cells slots) (hexec : p.tables.exec = Jvm.exec) {own C : String} {index : Nat} {y : MethodName} {bytes : ByteArray} {maxL : Nat} {ret : Option FieldType}
    (hown : s.vm.findClass own = some m.cls) (hlink : (Cond.methodLink own index y).before args s = true) (hinst : (Cond.instanceMethod y).before args s = true) (hsel : (Cond.selects C y y).before args s = true)
    (hcode : (Cond.code y bytes maxL ret).before args s = true) (hy : y.cls ≠ "java/lang/invoke/MethodHandle" ∧ y.cls ≠ "java/lang/invoke/VarHandle")
    {W9 : Nat} {Pre : Pt → Array Value → Prop} {Post : Pt → Array Value → Option Value → Pt → Prop} {PostX : Pt → Array Value → Addr → Pt → Prop} (hK : vx_Back l R p e below s args y 3 W9 Pre Post PostX)
    {b : Addr} {cellB : Cell} (hcell : T.heap[b]? = some cellB) (hobj : cellB.vm.isStatics = false) (hcls : s.vm.findClass C = some cellB.cls)
    {g : JFrame} (hg : g.method = m) (hsize : g.locals.size = c.maxLocals) {argsL rest : List Value} (hlen : ∀ sig, parseMethodDescriptor y.desc = some sig → argsL.length = sig.parameters.length)
    (hstack : g.stack = argsL.reverse ++ .ref b :: rest) (hW : 2 * g.monitorRoom + (rest.map fun v => v.category).sum ≤ W9) (hdg : decode c.code g.pc = .ok (.invokevirtual index, 3))
    (hpre : ∀ vm₁, s.WarmedH vm₁ → Pre ⟨T.setVm vm₁, locs, cells, slots⟩ (Value.ref b :: argsL).toArray) :
    (∃ (v : Option Value) (vm₁ : Vm) (B : Pt), s.WarmedH vm₁ ∧ Stand p l e R s m args below meth c B.U B.locs B.cells B.slots ∧ Post ⟨T.setVm vm₁, locs, cells, slots⟩ (Value.ref b :: argsL).toArray v B ∧
      ∀ target, Steps p.tables e below (B.U.setTop { g with pc := g.pc + 3, stack := v.toList ++ rest }) target → Steps p.tables e below (T.setTop g) target) ∨
    (∃ (q : Addr) (vm₁ : Vm) (B : Pt), s.WarmedH vm₁ ∧ Stand p l e R s m args below meth c B.U B.locs B.cells B.slots ∧ PostX ⟨T.setVm vm₁, locs, cells, slots⟩ (Value.ref b :: argsL).toArray q B ∧
      Steps p.tables e below (T.setTop g) ((B.U.setTop { g with stack := rest }).pushFrame (.throwing q))) := by
  obtain ⟨mk, methM, hnamed, hmethM, hstM, habM⟩ := Cond.instanceMethod_spec hinst
  obtain ⟨methM', cM, hmethM', -, -, -, -, -, -, hsigM⟩ := Cond.code_spec hnamed hcode
  cases hmethM.symm.trans hmethM'
  obtain ⟨c2, r2, m2, q1, q2, q3, q4, kP, hkP, hkPi⟩ := Cond.selects_spec hsel
  cases hcls.symm.trans q1
  cases (State.methodFound?_of_named hnamed hy).symm.trans q2
  cases hnamed.symm.trans q3
  have hselP : selectMethod e.platform s.vm cellB.cls mk = .method mk := by rw [Launch.admits_selectMethod X.admits]; exact q4
  obtain ⟨vm₁, X₁, hstep₁⟩ := X.invokevirtual hexec hown hlink hnamed hmethM hstM hkP hkPi hy (a := b) (cell := cellB) hcell
    (fun z h => by rw [h] at hobj; cases hobj) hselP hmethM habM hkP hkPi (g := g) hg (argsL := argsL) (rest := rest) (hlen _ hsigM) hstack hdg
  rcases hK m meth c ⟨T.setVm vm₁, locs, cells, slots⟩ { g with stack := rest } (.invokevirtual index) mk (Value.ref b :: argsL).toArray X₁ hg hsize hdg hW (X₁.named hnamed) (hpre vm₁ X₁.warmed) with ⟨v, B, X', hpost, hsteps⟩ | ⟨q, B, X', hpost, hsteps⟩
  · exact Or.inl ⟨v, vm₁, B, X₁.warmed, X', hpost, fun target h => hstep₁ _ fun acts => by rw [doInvoke_state]; exact hsteps.trans h⟩
  · exact Or.inr ⟨q, vm₁, B, X₁.warmed, X', hpost, hstep₁ _ fun acts => by rw [doInvoke_state]; exact hsteps⟩
theorem vx_callS (X : Stand p l e R s m args below meth c T locs cells slots) (hexec : p.tables.exec = Jvm.exec) {own : String} {index : Nat} {y : MethodName} {bytes : ByteArray} {maxL : Nat} {ret : Option FieldType}
    (hown : s.vm.findClass own = some m.cls) (hlink : (Cond.methodLink own index y).before args s = true) (hstat : (Cond.static y).before args s = true) (hinit : (Cond.initialized y.cls).before args s = true)
    (hcode : (Cond.code y bytes maxL ret).before args s = true) (hy : y.cls ≠ "java/lang/invoke/MethodHandle" ∧ y.cls ≠ "java/lang/invoke/VarHandle")
    {W9 : Nat} {Pre : Pt → Array Value → Prop} {Post : Pt → Array Value → Option Value → Pt → Prop} {PostX : Pt → Array Value → Addr → Pt → Prop} (hK : vx_Back l R p e below s args y 3 W9 Pre Post PostX)
    {g : JFrame} (hg : g.method = m) (hsize : g.locals.size = c.maxLocals) {argsL rest : List Value} (hlen : ∀ sig, parseMethodDescriptor y.desc = some sig → argsL.length = sig.parameters.length)
    (hstack : g.stack = argsL.reverse ++ rest) (hW : 2 * g.monitorRoom + (rest.map fun v => v.category).sum ≤ W9) (hdg : decode c.code g.pc = .ok (.invokestatic index, 3))
    (hpre : ∀ vm₁, s.WarmedH vm₁ → Pre ⟨T.setVm vm₁, locs, cells, slots⟩ argsL.toArray) :
    (∃ (v : Option Value) (vm₁ : Vm) (B : Pt), s.WarmedH vm₁ ∧ Stand p l e R s m args below meth c B.U B.locs B.cells B.slots ∧ Post ⟨T.setVm vm₁, locs, cells, slots⟩ argsL.toArray v B ∧
      ∀ target, Steps p.tables e below (B.U.setTop { g with pc := g.pc + 3, stack := v.toList ++ rest }) target → Steps p.tables e below (T.setTop g) target) ∨
    (∃ (q : Addr) (vm₁ : Vm) (B : Pt), s.WarmedH vm₁ ∧ Stand p l e R s m args below meth c B.U B.locs B.cells B.slots ∧ PostX ⟨T.setVm vm₁, locs, cells, slots⟩ argsL.toArray q B ∧
      Steps p.tables e below (T.setTop g) ((B.U.setTop { g with stack := rest }).pushFrame (.throwing q))) := by
  obtain ⟨mk, hnamed⟩ := Cond.code_named hcode
  obtain ⟨methM, cM, hmethM, -, -, -, -, -, -, hsigM⟩ := Cond.code_spec hnamed hcode
  have hstatic : methM.isStatic = true := Cond.static_spec hnamed hmethM hstat
  obtain ⟨kP, hkP, -⟩ := className_of_methodNamed hnamed
  have hinitP : kP.init = .initialized := Cond.initialized_spec (findClass_of_methodNamed hnamed) hkP hinit
  obtain ⟨vm₁, X₁, hstep₁⟩ := X.invokestatic hexec hown hlink hnamed hmethM hstatic hkP hinitP hy (g := g) hg (argsL := argsL) (rest := rest) (hlen _ hsigM) hstack hdg
  rcases hK m meth c ⟨T.setVm vm₁, locs, cells, slots⟩ { g with stack := rest } (.invokestatic index) mk argsL.toArray X₁ hg hsize hdg hW (X₁.named hnamed) (hpre vm₁ X₁.warmed) with ⟨v, B, X', hpost, hsteps⟩ | ⟨q, B, X', hpost, hsteps⟩
  · exact Or.inl ⟨v, vm₁, B, X₁.warmed, X', hpost, fun target h => hstep₁ _ fun acts => by rw [doInvoke_state]; exact hsteps.trans h⟩
  · exact Or.inr ⟨q, vm₁, B, X₁.warmed, X', hpost, hstep₁ _ fun acts => by rw [doInvoke_state]; exact hsteps⟩
end Calls
theorem vx_cls {s : State} {T : State} {vm₁ : Vm} {E : String} {k : ClassId} (hW : s.WarmedH vm₁) (h : (T.setVm vm₁).vm.findClass E = some k) : s.vm.findClass E = some k := by
  have h1 : vm₁.findClass E = some k := h
  rw [hW.alike.findClass] at h1
  exact h1
def vx_W (p : Program) (l : Launch) (e : Env) (R : Room) (s : State) (m : MethodId) (args : Array Value) (below : List Frame) (meth : Method) (c : Code) (H : Heap) (locs : List Loc) (cells slots : Nat) (Q : State → Prop) (g : JFrame) (q : Addr) : Prop :=
  ∀ T : State, T.heap = H → Stand p l e R s m args below meth c T locs cells slots → ∃ t, Steps p.tables e below ((T.setTop g).pushFrame (.throwing q)) t ∧ Q t
def vx_Run (p : Program) (l : Launch) (e : Env) (R : Room) (s : State) (m : MethodId) (args : Array Value) (below : List Frame) (meth : Method) (c : Code) (H : Heap) (locs : List Loc) (cells slots mc ms : Nat) (g : JFrame) (rest : List Value) (Qa : State → Outcome → State → Prop) (XC : String → State → State → Prop) (free : Addr → Prop) : Prop :=
  ∀ T : State, T.heap = H → Stand p l e R s m args below meth c T locs cells slots →
    (∃ (v : Option Value) (st₀ t T' : State) (L : List Loc), st₀.heap = H ∧ Stand p l e R s m args below meth c T' (locs ++ L) (cells + mc) (slots + ms) ∧ (∀ q ∈ L, free q.base) ∧ T'.heap = t.heap ∧ T'.vm = t.vm ∧ Qa st₀ (.returned v) t ∧
      Goes p e below T g T' { g with pc := g.pc + 3, stack := v.toList ++ rest }) ∨
    (∃ (q : Addr) (st₀ t T' : State) (L : List Loc) (E : String) (ce : Cell), st₀.heap = H ∧ Stand p l e R s m args below meth c T' (locs ++ L) (cells + mc) (slots + ms) ∧ (∀ z ∈ L, free z.base) ∧ T'.heap = t.heap ∧ T'.vm = t.vm ∧ XC E st₀ t ∧ t.heap[q]? = some ce ∧ ce.vm = .none ∧ s.vm.findClass E = some ce.cls ∧
      Steps p.tables e below (T.setTop g) ((T'.setTop { g with stack := rest }).pushFrame (.throwing q)))
def vx_X {S : Type} (px : S → Prop) (B : String → S → State → Prop) (A : Nat → Prop) : String → State → State → Prop := fun E st t => ∃ u : S, px u ∧ B E u t ∧ va_F A st t
section Runs
variable {p : Program} {l : Launch} {e : Env} {R : Room} {s : State} {m : MethodId} {args : Array Value} {below : List Frame} {meth : Method} {c : Code} {H : Heap} {locs : List Loc} {cells slots : Nat}
variable {y : MethodName} {bytes cc : ByteArray} {maxL nL mc ms n index : Nat} {ret : Option FieldType} {ws : List Cond} {rm : Room} {Pc : Array Value → State → Prop} {Qc : Array Value → State → Outcome → State → Prop} {XC : String → State → State → Prop} {free : Addr → Prop} {Ts : List Cond} {own C : String} {b : Addr} {As rest : List Value} {g : JFrame}
theorem vx_callBack (cb : CallB R s args own index y bytes maxL ret ws rm mc ms n) (hM : vx_Met l y ws rm Pc Qc XC mc ms free) (hbl : FrameBlind Pc) : vx_Back l R p e below s args y 3 8 (PreOf R mc ms Pc) (PostOf Qc mc ms free) (vx_Post XC mc ms free) := by
  obtain ⟨hrc, hrs, hfr, hlo, hws, hcw, -, hini, -⟩ := cb
  exact vx_back (bytes := bytes) (maxL := maxL) (ret := ret) hM hbl hrc hrs hfr hlo hws hcw (fun a' U hW => word_at hW (Or.inl (by first | rfl | simp [Cond.onTables, Cond.keeps, Cond.steady])) hini)
theorem vx_runV (S : CallFix p m c cc nL s args Ts own) (hM : vx_Met l y ws rm Pc Qc XC mc ms free) (cw : CallW R s args own C index y bytes maxL ret ws rm mc ms n) (hp : PreV s H C b Pc As)
    (hg : g.method = m) (hn : As.length = n) (hsize : g.locals.size = nL) (hstack : g.stack = As.reverse ++ .ref b :: rest) (hW : 2 * g.monitorRoom + (rest.map fun v => v.category).sum ≤ 8) (hdg : decode cc g.pc = .ok (.invokevirtual index, 3)) (hf : cells + mc ≤ R.cells ∧ slots + ms ≤ R.slots) :
    vx_Run p l e R s m args below meth c H locs cells slots mc ms g rest (Qc (Value.ref b :: As).toArray) XC free := by
  have hK : vx_Back l R p e below s args y 3 8 (PreOf R mc ms Pc) (PostOf Qc mc ms free) (vx_Post XC mc ms free) := vx_callBack cw.1 hM hp.1
  obtain ⟨⟨-, -, -, -, -, -, hcode, -, hy, hlen, hl⟩, hin, hse⟩ := cw
  obtain ⟨hx, hb, hml, ho, -⟩ := S
  obtain ⟨-, ⟨cellB, hcB, hoB, hclB⟩, hPc⟩ := hp
  intro T hT X
  rcases vx_callV X hx (C := C) (bytes := bytes) (maxL := maxL) (ret := ret) ho hl hin hse hcode hy hK (by rw [hT]; exact hcB) hoB hclB hg (hsize.trans hml.symm) (argsL := As) (rest := rest) (fun sig h => hn.trans (hlen sig h)) hstack hW (by rw [hb]; exact hdg)
    (fun vm₁ hW₁ => ⟨hf.1, hf.2, hPc (T.setVm vm₁) hT hW₁⟩) with ⟨v, vm₁, ⟨U', l2, c2, s2⟩, hW₁, X', ⟨g', mk, t, L, e1, e2, hq, h1, hL, h2, h3⟩, st⟩ | ⟨q, vm₁, ⟨U', l2, c2, s2⟩, hW₁, X', ⟨g', mk, t, L, E, ce, e1, e2, hq, hce, hcv, hcl, h1, hL, h2, h3⟩, st⟩
  · dsimp only [Pt.U, Pt.locs, Pt.cells, Pt.slots] at X' e1 e2 h1 h2 h3 st
    subst h1; subst h2; subst h3
    exact Or.inl ⟨v, (T.setVm vm₁).calling g' mk (Value.ref b :: As).toArray, t, U', L, hT, X', hL, e1, e2, hq, st⟩
  · dsimp only [Pt.U, Pt.locs, Pt.cells, Pt.slots] at X' e1 e2 h1 h2 h3 st hcl
    subst h1; subst h2; subst h3
    exact Or.inr ⟨q, (T.setVm vm₁).calling g' mk (Value.ref b :: As).toArray, t, U', L, E, ce, hT, X', hL, e1, e2, hq, hce, hcv, vx_cls hW₁ hcl, st⟩
theorem vx_runS (S : CallFix p m c cc nL s args Ts own) (hM : vx_Met l y ws rm Pc Qc XC mc ms free) (cw : CallB R s args own index y bytes maxL ret ws rm mc ms n ∧ (Cond.static y).before args s = true) (hp : PreS s H Pc As)
    (hg : g.method = m) (hn : As.length = n) (hsize : g.locals.size = nL) (hstack : g.stack = As.reverse ++ rest) (hW : 2 * g.monitorRoom + (rest.map fun v => v.category).sum ≤ 8) (hdg : decode cc g.pc = .ok (.invokestatic index, 3)) (hf : cells + mc ≤ R.cells ∧ slots + ms ≤ R.slots) :
    vx_Run p l e R s m args below meth c H locs cells slots mc ms g rest (Qc As.toArray) XC free := by
  have hK : vx_Back l R p e below s args y 3 8 (PreOf R mc ms Pc) (PostOf Qc mc ms free) (vx_Post XC mc ms free) := vx_callBack cw.1 hM hp.1
  obtain ⟨⟨-, -, -, -, -, -, hcode, hini, hy, hlen, hl⟩, hstt⟩ := cw
  obtain ⟨hx, hb, hml, ho, -⟩ := S
  intro T hT X
  rcases vx_callS X hx (bytes := bytes) (maxL := maxL) (ret := ret) ho hl hstt hini hcode hy hK hg (hsize.trans hml.symm) (argsL := As) (rest := rest) (fun sig h => hn.trans (hlen sig h)) hstack hW (by rw [hb]; exact hdg)
    (fun vm₁ hW₁ => ⟨hf.1, hf.2, hp.2 (T.setVm vm₁) hT hW₁⟩) with ⟨v, vm₁, ⟨U', l2, c2, s2⟩, hW₁, X', ⟨g', mk, t, L, e1, e2, hq, h1, hL, h2, h3⟩, st⟩ | ⟨q, vm₁, ⟨U', l2, c2, s2⟩, hW₁, X', ⟨g', mk, t, L, E, ce, e1, e2, hq, hce, hcv, hcl, h1, hL, h2, h3⟩, st⟩
  · dsimp only [Pt.U, Pt.locs, Pt.cells, Pt.slots] at X' e1 e2 h1 h2 h3 st
    subst h1; subst h2; subst h3
    exact Or.inl ⟨v, (T.setVm vm₁).calling g' mk As.toArray, t, U', L, hT, X', hL, e1, e2, hq, st⟩
  · dsimp only [Pt.U, Pt.locs, Pt.cells, Pt.slots] at X' e1 e2 h1 h2 h3 st hcl
    subst h1; subst h2; subst h3
    exact Or.inr ⟨q, (T.setVm vm₁).calling g' mk As.toArray, t, U', L, E, ce, hT, X', hL, e1, e2, hq, hce, hcv, vx_cls hW₁ hcl, st⟩
end Runs
section Rows
variable {p : Program} {l : Launch} {e : Env} {R : Room} {s : State} {m : MethodId} {args : Array Value} {below : List Frame} {meth : Method} {c : Code} {H : Heap} {locs : List Loc} {cells slots : Nat} {Q : State → Prop}
variable {mc ms : Nat} {free : Addr → Prop} {A0 A1 : Nat → Prop} {H0 : Heap} {a : Array Value} {pc : Nat} {ls : Array Slot} {st0 rest : List Value}
theorem vx_keep {st₀ t T' : State} {L : List Loc} (h0 : st₀.heap = H) (e1 : T'.heap = t.heap) (hS : va_S A0 H0 H locs) (hA : ∀ q, q < H.size → A1 q → A0 q) (hf : ∀ q, free q → A0 q) (hL : ∀ q ∈ L, free q.base) (hF : va_F A1 st₀ t) :
    H.size ≤ T'.heap.size ∧ (∀ q : Nat, q < H.size → ¬ A1 q → T'.heap[q]? = H[q]?) ∧ va_S A0 H0 T'.heap (locs ++ L) := by
  obtain ⟨hz, hk⟩ := hF
  rw [h0] at hz hk
  exact ⟨by rw [e1]; exact hz, fun q h1 h2 => by rw [e1]; exact hk q h1 h2,
    ⟨Nat.le_trans hS.1 (by rw [e1]; exact hz), fun q h1 h2 => by rw [e1, hk q (Nat.lt_of_lt_of_le h1 hS.1) (fun z => h2 (hA q (Nat.lt_of_lt_of_le h1 hS.1) z))]; exact hS.2.1 q h1 h2, fun q hq => by
      rcases List.mem_append.mp hq with h | h
      · exact hS.2.2 q h
      · exact hf _ (hL q h)⟩⟩
theorem vx_calli {S SX : Type} {post : Int32 → S → Prop} {px : SX → Prop} {B : S → State → Prop} {BX : String → SX → State → Prop} {AX : Nat → Prop} (hr : vx_Run p l e R s m args below meth c H locs cells slots mc ms (F0 m pc ls st0) rest (va_Qi post B A1 a) (vx_X px BX AX) free) (hS : va_S A0 H0 H locs) (hA : ∀ q, q < H.size → A1 q → A0 q) (hf : ∀ q, free q → A0 q) (hAX : ∀ q, q < H.size → AX q → A0 q)
    (kx : ∀ (E : String) (ce : Cell) (q9 : Addr) (u : SX) (t : State) (H1 : Heap) (locs1 : List Loc), t.heap = H1 → s.vm.Alike t.vm → px u → BX E u t → H.size ≤ H1.size → (∀ q : Nat, q < H.size → ¬ AX q → H1[q]? = H[q]?) → va_S A0 H0 H1 locs1 → H1[q9]? = some ce → ce.vm = .none → s.vm.findClass E = some ce.cls → vx_W p l e R s m args below meth c H1 locs1 (cells + mc) (slots + ms) Q (F0 m pc ls rest) q9)
    (kk : ∀ (r : Int32) (u : S) (t : State) (H1 : Heap) (locs1 : List Loc), t.heap = H1 → s.vm.Alike t.vm → post r u → B u t → H.size ≤ H1.size → (∀ q : Nat, q < H.size → ¬ A1 q → H1[q]? = H[q]?) → va_S A0 H0 H1 locs1 → W p l e R s m args below meth c H1 locs1 (cells + mc) (slots + ms) Q (F0 m (pc + 3) ls (.int r :: rest))) : W p l e R s m args below meth c H locs cells slots Q (F0 m pc ls st0) := by
  intro T hT X
  rcases hr T hT X with ⟨v, st₀, t, T', L, h0, X', hL, e1, e2, ⟨⟨r, u, hv, hp, hb⟩, hF⟩, st⟩ | ⟨q, st₀, t, T', L, E, ce, h0, X', hL, e1, e2, ⟨u, hp, hb, hF⟩, hce, hcv, hcl, st⟩
  · cases hv
    obtain ⟨k1, k2, k3⟩ := vx_keep h0 e1 hS hA hf hL hF
    obtain ⟨t2, a1, b1⟩ := kk r u t T'.heap (locs ++ L) e1.symm (by rw [← e2]; exact X'.warmed.alike) hp hb k1 k2 k3 T' rfl X'
    exact ⟨t2, st t2 a1, b1⟩
  · obtain ⟨k1, k2, k3⟩ := vx_keep h0 e1 hS hAX hf hL hF
    obtain ⟨t2, a1, b1⟩ := kx E ce q u t T'.heap (locs ++ L) e1.symm (by rw [← e2]; exact X'.warmed.alike) hp hb k1 k2 k3 (by rw [e1]; exact hce) hcv hcl T' rfl X'
    exact ⟨t2, st.trans a1, b1⟩
theorem vx_calll {S SX : Type} {post : Int64 → S → Prop} {px : SX → Prop} {B : S → State → Prop} {BX : String → SX → State → Prop} {AX : Nat → Prop} (hr : vx_Run p l e R s m args below meth c H locs cells slots mc ms (F0 m pc ls st0) rest (va_Ql post B A1 a) (vx_X px BX AX) free) (hS : va_S A0 H0 H locs) (hA : ∀ q, q < H.size → A1 q → A0 q) (hf : ∀ q, free q → A0 q) (hAX : ∀ q, q < H.size → AX q → A0 q)
    (kx : ∀ (E : String) (ce : Cell) (q9 : Addr) (u : SX) (t : State) (H1 : Heap) (locs1 : List Loc), t.heap = H1 → s.vm.Alike t.vm → px u → BX E u t → H.size ≤ H1.size → (∀ q : Nat, q < H.size → ¬ AX q → H1[q]? = H[q]?) → va_S A0 H0 H1 locs1 → H1[q9]? = some ce → ce.vm = .none → s.vm.findClass E = some ce.cls → vx_W p l e R s m args below meth c H1 locs1 (cells + mc) (slots + ms) Q (F0 m pc ls rest) q9)
    (kk : ∀ (r : Int64) (u : S) (t : State) (H1 : Heap) (locs1 : List Loc), t.heap = H1 → s.vm.Alike t.vm → post r u → B u t → H.size ≤ H1.size → (∀ q : Nat, q < H.size → ¬ A1 q → H1[q]? = H[q]?) → va_S A0 H0 H1 locs1 → W p l e R s m args below meth c H1 locs1 (cells + mc) (slots + ms) Q (F0 m (pc + 3) ls (.long r :: rest))) : W p l e R s m args below meth c H locs cells slots Q (F0 m pc ls st0) := by
  intro T hT X
  rcases hr T hT X with ⟨v, st₀, t, T', L, h0, X', hL, e1, e2, ⟨⟨r, u, hv, hp, hb⟩, hF⟩, st⟩ | ⟨q, st₀, t, T', L, E, ce, h0, X', hL, e1, e2, ⟨u, hp, hb, hF⟩, hce, hcv, hcl, st⟩
  · cases hv
    obtain ⟨k1, k2, k3⟩ := vx_keep h0 e1 hS hA hf hL hF
    obtain ⟨t2, a1, b1⟩ := kk r u t T'.heap (locs ++ L) e1.symm (by rw [← e2]; exact X'.warmed.alike) hp hb k1 k2 k3 T' rfl X'
    exact ⟨t2, st t2 a1, b1⟩
  · obtain ⟨k1, k2, k3⟩ := vx_keep h0 e1 hS hAX hf hL hF
    obtain ⟨t2, a1, b1⟩ := kx E ce q u t T'.heap (locs ++ L) e1.symm (by rw [← e2]; exact X'.warmed.alike) hp hb k1 k2 k3 (by rw [e1]; exact hce) hcv hcl T' rfl X'
    exact ⟨t2, st.trans a1, b1⟩
theorem vx_callf {S SX : Type} {post : UInt32 → S → Prop} {px : SX → Prop} {B : S → State → Prop} {BX : String → SX → State → Prop} {AX : Nat → Prop} (hr : vx_Run p l e R s m args below meth c H locs cells slots mc ms (F0 m pc ls st0) rest (va_Qf post B A1 a) (vx_X px BX AX) free) (hS : va_S A0 H0 H locs) (hA : ∀ q, q < H.size → A1 q → A0 q) (hf : ∀ q, free q → A0 q) (hAX : ∀ q, q < H.size → AX q → A0 q)
    (kx : ∀ (E : String) (ce : Cell) (q9 : Addr) (u : SX) (t : State) (H1 : Heap) (locs1 : List Loc), t.heap = H1 → s.vm.Alike t.vm → px u → BX E u t → H.size ≤ H1.size → (∀ q : Nat, q < H.size → ¬ AX q → H1[q]? = H[q]?) → va_S A0 H0 H1 locs1 → H1[q9]? = some ce → ce.vm = .none → s.vm.findClass E = some ce.cls → vx_W p l e R s m args below meth c H1 locs1 (cells + mc) (slots + ms) Q (F0 m pc ls rest) q9)
    (kk : ∀ (r : UInt32) (u : S) (t : State) (H1 : Heap) (locs1 : List Loc), t.heap = H1 → s.vm.Alike t.vm → post r u → B u t → H.size ≤ H1.size → (∀ q : Nat, q < H.size → ¬ A1 q → H1[q]? = H[q]?) → va_S A0 H0 H1 locs1 → W p l e R s m args below meth c H1 locs1 (cells + mc) (slots + ms) Q (F0 m (pc + 3) ls (.float r :: rest))) : W p l e R s m args below meth c H locs cells slots Q (F0 m pc ls st0) := by
  intro T hT X
  rcases hr T hT X with ⟨v, st₀, t, T', L, h0, X', hL, e1, e2, ⟨⟨r, u, hv, hp, hb⟩, hF⟩, st⟩ | ⟨q, st₀, t, T', L, E, ce, h0, X', hL, e1, e2, ⟨u, hp, hb, hF⟩, hce, hcv, hcl, st⟩
  · cases hv
    obtain ⟨k1, k2, k3⟩ := vx_keep h0 e1 hS hA hf hL hF
    obtain ⟨t2, a1, b1⟩ := kk r u t T'.heap (locs ++ L) e1.symm (by rw [← e2]; exact X'.warmed.alike) hp hb k1 k2 k3 T' rfl X'
    exact ⟨t2, st t2 a1, b1⟩
  · obtain ⟨k1, k2, k3⟩ := vx_keep h0 e1 hS hAX hf hL hF
    obtain ⟨t2, a1, b1⟩ := kx E ce q u t T'.heap (locs ++ L) e1.symm (by rw [← e2]; exact X'.warmed.alike) hp hb k1 k2 k3 (by rw [e1]; exact hce) hcv hcl T' rfl X'
    exact ⟨t2, st.trans a1, b1⟩
theorem vx_calld {S SX : Type} {post : UInt64 → S → Prop} {px : SX → Prop} {B : S → State → Prop} {BX : String → SX → State → Prop} {AX : Nat → Prop} (hr : vx_Run p l e R s m args below meth c H locs cells slots mc ms (F0 m pc ls st0) rest (va_Qd post B A1 a) (vx_X px BX AX) free) (hS : va_S A0 H0 H locs) (hA : ∀ q, q < H.size → A1 q → A0 q) (hf : ∀ q, free q → A0 q) (hAX : ∀ q, q < H.size → AX q → A0 q)
    (kx : ∀ (E : String) (ce : Cell) (q9 : Addr) (u : SX) (t : State) (H1 : Heap) (locs1 : List Loc), t.heap = H1 → s.vm.Alike t.vm → px u → BX E u t → H.size ≤ H1.size → (∀ q : Nat, q < H.size → ¬ AX q → H1[q]? = H[q]?) → va_S A0 H0 H1 locs1 → H1[q9]? = some ce → ce.vm = .none → s.vm.findClass E = some ce.cls → vx_W p l e R s m args below meth c H1 locs1 (cells + mc) (slots + ms) Q (F0 m pc ls rest) q9)
    (kk : ∀ (r : UInt64) (u : S) (t : State) (H1 : Heap) (locs1 : List Loc), t.heap = H1 → s.vm.Alike t.vm → post r u → B u t → H.size ≤ H1.size → (∀ q : Nat, q < H.size → ¬ A1 q → H1[q]? = H[q]?) → va_S A0 H0 H1 locs1 → W p l e R s m args below meth c H1 locs1 (cells + mc) (slots + ms) Q (F0 m (pc + 3) ls (.double r :: rest))) : W p l e R s m args below meth c H locs cells slots Q (F0 m pc ls st0) := by
  intro T hT X
  rcases hr T hT X with ⟨v, st₀, t, T', L, h0, X', hL, e1, e2, ⟨⟨r, u, hv, hp, hb⟩, hF⟩, st⟩ | ⟨q, st₀, t, T', L, E, ce, h0, X', hL, e1, e2, ⟨u, hp, hb, hF⟩, hce, hcv, hcl, st⟩
  · cases hv
    obtain ⟨k1, k2, k3⟩ := vx_keep h0 e1 hS hA hf hL hF
    obtain ⟨t2, a1, b1⟩ := kk r u t T'.heap (locs ++ L) e1.symm (by rw [← e2]; exact X'.warmed.alike) hp hb k1 k2 k3 T' rfl X'
    exact ⟨t2, st t2 a1, b1⟩
  · obtain ⟨k1, k2, k3⟩ := vx_keep h0 e1 hS hAX hf hL hF
    obtain ⟨t2, a1, b1⟩ := kx E ce q u t T'.heap (locs ++ L) e1.symm (by rw [← e2]; exact X'.warmed.alike) hp hb k1 k2 k3 (by rw [e1]; exact hce) hcv hcl T' rfl X'
    exact ⟨t2, st.trans a1, b1⟩
theorem vx_callv {S SX : Type} {post : S → Prop} {px : SX → Prop} {B : S → State → Prop} {BX : String → SX → State → Prop} {AX : Nat → Prop} (hr : vx_Run p l e R s m args below meth c H locs cells slots mc ms (F0 m pc ls st0) rest (va_Qv post B A1 a) (vx_X px BX AX) free) (hS : va_S A0 H0 H locs) (hA : ∀ q, q < H.size → A1 q → A0 q) (hf : ∀ q, free q → A0 q) (hAX : ∀ q, q < H.size → AX q → A0 q)
    (kx : ∀ (E : String) (ce : Cell) (q9 : Addr) (u : SX) (t : State) (H1 : Heap) (locs1 : List Loc), t.heap = H1 → s.vm.Alike t.vm → px u → BX E u t → H.size ≤ H1.size → (∀ q : Nat, q < H.size → ¬ AX q → H1[q]? = H[q]?) → va_S A0 H0 H1 locs1 → H1[q9]? = some ce → ce.vm = .none → s.vm.findClass E = some ce.cls → vx_W p l e R s m args below meth c H1 locs1 (cells + mc) (slots + ms) Q (F0 m pc ls rest) q9)
    (kk : ∀ (u : S) (t : State) (H1 : Heap) (locs1 : List Loc), t.heap = H1 → s.vm.Alike t.vm → post u → B u t → H.size ≤ H1.size → (∀ q : Nat, q < H.size → ¬ A1 q → H1[q]? = H[q]?) → va_S A0 H0 H1 locs1 → W p l e R s m args below meth c H1 locs1 (cells + mc) (slots + ms) Q (F0 m (pc + 3) ls (rest))) : W p l e R s m args below meth c H locs cells slots Q (F0 m pc ls st0) := by
  intro T hT X
  rcases hr T hT X with ⟨v, st₀, t, T', L, h0, X', hL, e1, e2, ⟨⟨u, hv, hp, hb⟩, hF⟩, st⟩ | ⟨q, st₀, t, T', L, E, ce, h0, X', hL, e1, e2, ⟨u, hp, hb, hF⟩, hce, hcv, hcl, st⟩
  · cases hv
    obtain ⟨k1, k2, k3⟩ := vx_keep h0 e1 hS hA hf hL hF
    obtain ⟨t2, a1, b1⟩ := kk u t T'.heap (locs ++ L) e1.symm (by rw [← e2]; exact X'.warmed.alike) hp hb k1 k2 k3 T' rfl X'
    exact ⟨t2, st t2 a1, b1⟩
  · obtain ⟨k1, k2, k3⟩ := vx_keep h0 e1 hS hAX hf hL hF
    obtain ⟨t2, a1, b1⟩ := kx E ce q u t T'.heap (locs ++ L) e1.symm (by rw [← e2]; exact X'.warmed.alike) hp hb k1 k2 k3 (by rw [e1]; exact hce) hcv hcl T' rfl X'
    exact ⟨t2, st.trans a1, b1⟩
theorem vx_catch {own name : String} {E : String} {ce : Cell} {q : Addr} (hown : s.vm.findClass own = some m.cls) (pre : List ExceptionTableEntry) (x : ExceptionTableEntry) (suf : List ExceptionTableEntry) (hsplit : c.exceptionTable.toList = pre ++ x :: suf)
    (hpass : ∀ z ∈ pre, covers z pc = false ∨ (z.catchType ≠ 0 ∧ ∃ nm : String, (Cond.classLink own z.catchType nm).before args s = true ∧ va_Nc E nm s)) (hx : covers x pc = true) (h0 : x.catchType ≠ 0)
    (hlink : (Cond.classLink own x.catchType name).before args s = true) (hcast : (Cond.castable E name).before args s = true) (hcell : H[q]? = some ce) (hv : ce.vm = .none) (hcl : s.vm.findClass E = some ce.cls)
    (kk : W p l e R s m args below meth c H locs cells slots Q (F0 m x.handlerPc ls [.ref q])) : vx_W p l e R s m args below meth c H locs cells slots Q (F0 m pc ls rest) q := by
  intro T hT X
  have hpl : e.platform.magicAccessors = ({} : Platform).magicAccessors := by rw [X.admits.platform]
  obtain ⟨c3, c4, hc3, hc4, hasg⟩ := Cond.castable_spec hcast
  cases Option.some.inj (hc3.symm.trans hcl)
  obtain ⟨c5, hc5, hcl5⟩ := Cond.classLink_spec hown hlink e.platform hpl
  cases Option.some.inj (hc4.symm.trans hc5)
  obtain ⟨vm', X', st⟩ := X.thenCaughtThrough q (g := F0 m pc ls rest) rfl (Steps.refl _) (by rw [hT]; exact hcell) (by rw [hv]; rfl) (by obtain ⟨k9, h9, -⟩ := Vm.findClass_spec hcl; exact ⟨k9, h9⟩) pre x suf hsplit
    (fun z hz => by
      rcases hpass z hz with h | ⟨hz0, nm, hl1, hn1⟩
      · exact Or.inl h
      · obtain ⟨c6, hc6, hcl6⟩ := Cond.classLink_spec hown hl1 e.platform hpl
        obtain ⟨a8, b8, h1, h2, h3⟩ := hn1
        cases Option.some.inj (h1.symm.trans hcl)
        cases Option.some.inj (h2.symm.trans hc6)
        exact Or.inr ⟨hz0, _, hcl6, h3⟩) hx (Or.inr ⟨h0, c4, hcl5, hasg⟩)
  obtain ⟨t, a1, b1⟩ := kk (T.setVm vm') hT X'
  exact ⟨t, st.trans a1, b1⟩
end Rows
section Ends
variable {p : Program} {l : Launch} {e : Env} {R : Room} {s : State} {m : MethodId} {args : Array Value} {below : List Frame} {meth : Method} {c : Code} {H : Heap} {locs : List Loc} {cells slots : Nat} {Q : State → Prop}
variable {mc ms : Nat} {free : Addr → Prop} {A0 A1 : Nat → Prop} {H0 : Heap} {a : Array Value} {ls : Array Slot} {st0 rest : List Value}
variable {Qc : Array Value → State → Outcome → State → Prop} {XC : String → State → State → Prop}
def vx_MQ (below : List Frame) (Qc : Array Value → State → Outcome → State → Prop) (XC : String → State → State → Prop) (a : Array Value) (s : State) (mc ms : Nat) (free : Addr → Prop) : State → Prop := fun t =>
  ∃ o, t.status = .running ∧ Ended t below o ∧ vx_Q Qc XC mc ms free a s o t
theorem vx_ret {g : JFrame} {mc ms : Nat} (k : W p l e R s m args below meth c H locs cells slots (MQ below Qc args s mc ms free) g) : W p l e R s m args below meth c H locs cells slots (vx_MQ below Qc XC args s mc ms free) g := by
  intro T hT X
  obtain ⟨t, a1, o, b1, b2, b3, b4⟩ := k T hT X
  exact ⟨t, a1, o, b1, b2, Or.inl ⟨b3, b4⟩⟩
theorem vx_widen {g : JFrame} {q : Addr} {k n : Nat} (h1 : cells ≤ k) (h2 : slots ≤ n) (kk : vx_W p l e R s m args below meth c H locs k n Q g q) : vx_W p l e R s m args below meth c H locs cells slots Q g q := fun T hT X => kk T hT (stand_widen X h1 h2)
theorem vx_out {pc : Nat} {E : String} {ce : Cell} {q : Addr} {mc ms : Nat} (hout : ∀ x ∈ c.exceptionTable.toList, covers x pc = false) (hlocks : meth.locks = false) (hcell : H[q]? = some ce) (hv : ce.vm = .none) (hcl : s.vm.findClass E = some ce.cls)
    (hx : ∀ t : State, t.heap = H → s.vm.Alike t.vm → XC E s t) (hf : ∀ z ∈ locs, free z.base) (hc : cells ≤ mc) (hs : slots ≤ ms) :
    vx_W p l e R s m args below meth c H locs cells slots (vx_MQ below Qc XC args s mc ms free) (F0 m pc ls rest) q := by
  intro T hT X
  obtain ⟨st1, hrun, hend, hW, hsm⟩ := X.leaveThrown q (g := F0 m pc ls rest) rfl rfl rfl hout hlocks
  have hcell9 : (T.setFrames (.throwing q :: below)).heap[q]? = some ce := by
    show T.heap[q]? = some ce
    rw [hT]; exact hcell
  exact ⟨_, st1, .threw q, hrun, hend, Or.inr ⟨q, rfl, E, ce, locs, hx _ hT hW.alike, hcell9, hv, hcl, hW, hsm.mono hc hs, hf⟩⟩
theorem vx_frame {U : State} {k n : Nat} (h : s.sameButNew ({ U with vm := s.vm } : State) locs k n) : s.heap.size ≤ U.heap.size ∧ ∀ q : Nat, q < s.heap.size → (∀ z ∈ locs, z.base ≠ q) → U.heap[q]? = s.heap[q]? := by
  obtain ⟨-, h2, -, -, -, h6⟩ := h
  refine ⟨h2, fun q hq hz => ?_⟩
  obtain ⟨c9, e1, e2, e3, e4⟩ := h6 q _ (Array.getElem?_eq_getElem hq)
  have hs : c9.slots = (s.heap[q]).slots := Array.ext_getElem? fun i => e4 i fun hm => hz _ hm rfl
  have h9 : c9 = s.heap[q] := by
    rw [hs] at e2
    exact e2
  have e5 : U.heap[q]? = some c9 := e1
  rw [e5, h9, Array.getElem?_eq_getElem hq]
def vx_no (w : Cond) : Bool := decide (w ≠ .isRef (.static Bundle.tN "UNASSIGNED_STACK" Bundle.steD)) && decide (w ≠ .isRef (.static Bundle.tN "SUPPRESSED_SENTINEL" Bundle.listD)) && decide (w ≠ .laysStatic Bundle.tN "UNASSIGNED_STACK" Bundle.steD) && decide (w ≠ .laysStatic Bundle.tN "SUPPRESSED_SENTINEL" Bundle.listD)
def vx_at0 (own : String) (ic : Nat) (X : String) (names : List String) : List Cond := (Bundle.ownAtoms0 own ic X names).filter vx_no
def vx_atS (own : String) (ic : Nat) (X : String) (names : List String) : List Cond := (Bundle.ownAtoms own ic X names).filter vx_no
def vx_ot (w : Cond) : Bool := w.onTables || goodWord w
theorem vx_ot_at {args a' : Array Value} {s U : State} {w : Cond} (hW : s.WarmedH U.vm) (hvm : s.vm = U.vm) (hg : vx_ot w = true) (h : w.before args s = true) : w.before a' U = true := by
  simp only [vx_ot, Bool.or_eq_true] at hg
  rcases hg with hg | hg
  · exact va_tabs hg hvm h
  · exact word_at hW (good_of_word hg) h
theorem vx_hat {args : Array Value} {s : State} {L B : List Cond} (h1 : ∀ w ∈ L.filter goodWord, w.before args s = true) (h2 : ∀ w ∈ L.filter (fun w => !goodWord w), w ∈ B) (h3 : ∀ w ∈ B, w.before args s = true) : ∀ w ∈ L, w.before args s = true := by
  intro w hw
  by_cases g : goodWord w = true
  · exact h1 w (List.mem_filter.mpr ⟨hw, g⟩)
  · refine h3 w (h2 w (List.mem_filter.mpr ⟨hw, ?_⟩))
    show (!goodWord w) = true
    cases hgw : goodWord w
    · rfl
    · exact absurd hgw g
theorem vx_c {args : Array Value} {s : State} {w : Cond} {B : List Cond} (h : w.before args s = true) (t : ∀ w ∈ B, w.before args s = true) : ∀ w' ∈ w :: B, w'.before args s = true := fun w' h' => (List.mem_cons.mp h').elim (fun e => by rw [e]; exact h) (t w')
theorem vx_n {args : Array Value} {s : State} : ∀ w ∈ ([] : List Cond), w.before args s = true := fun _ h => nomatch h
theorem vx_own {args : Array Value} {s : State} {L : List Cond} (h1 : ∀ w ∈ L.filter vx_no, w.before args s = true)
    (hU : (Cond.isRef (.static Bundle.tN "UNASSIGNED_STACK" Bundle.steD)).before args s = true) (hN : (Cond.isRef (.static Bundle.tN "SUPPRESSED_SENTINEL" Bundle.listD)).before args s = true)
    (lU : (Cond.laysStatic Bundle.tN "UNASSIGNED_STACK" Bundle.steD).before args s = true) (lN : (Cond.laysStatic Bundle.tN "SUPPRESSED_SENTINEL" Bundle.listD).before args s = true) : ∀ w ∈ L, w.before args s = true := by
  intro w hw
  by_cases e1 : w = .isRef (.static Bundle.tN "UNASSIGNED_STACK" Bundle.steD)
  · rw [e1]; exact hU
  · by_cases e2 : w = .isRef (.static Bundle.tN "SUPPRESSED_SENTINEL" Bundle.listD)
    · rw [e2]; exact hN
    · by_cases e3 : w = .laysStatic Bundle.tN "UNASSIGNED_STACK" Bundle.steD
      · rw [e3]; exact lU
      · by_cases e4 : w = .laysStatic Bundle.tN "SUPPRESSED_SENTINEL" Bundle.listD
        · rw [e4]; exact lN
        · exact h1 w (List.mem_filter.mpr ⟨hw, by unfold vx_no; rw [decide_eq_true e1, decide_eq_true e2, decide_eq_true e3, decide_eq_true e4]; rfl⟩)
def vx_L (C n d : String) (A : Nat → Prop) (U : State) (H : Heap) : Prop := ∃ (c : ClassId) (k : Class) (i : Nat) (f : Field) (a : Nat) (cell : Cell), U.vm.findClass C = some c ∧ U.fieldFound? C n d = some (c, k, i, f) ∧ f.isStatic = true ∧ k.statics = some a ∧ H[a]? = some cell ∧ cell.vm.isStatics = true ∧ cell.cls = c ∧ f.slot < cell.slots.size ∧ k.staticTypes[f.slot]? = some f.type ∧ ¬ A a
theorem vx_L.moved {C n d : String} {A : Nat → Prop} {u U : State} {H : Heap} (hvm : u.vm.Alike U.vm) (h : vx_L C n d A u H) : vx_L C n d A U H := by
  obtain ⟨c, k, i, f, a, cell, h1, h2, h3, h4, h5, h6, h7, h8, h9, h10⟩ := h
  obtain ⟨k', hi', he⟩ := State.fieldFound?_setVm hvm h2
  exact ⟨c, k', i, f, a, cell, by rw [hvm.findClass]; exact h1, hi', h3, by rw [he]; exact h4, h5, h6, h7, h8, by rw [he]; exact h9, h10⟩
theorem vx_L.kept {C n d : String} {A : Nat → Prop} {U : State} {H H1 : Heap} (h : vx_L C n d A U H) (hq : ∀ a : Nat, a < H.size → ¬ A a → H1[a]? = H[a]?) : vx_L C n d A U H1 := by
  obtain ⟨c, k, i, f, a, cell, h1, h2, h3, h4, h5, h6, h7, h8, h9, h10⟩ := h
  exact ⟨c, k, i, f, a, cell, h1, h2, h3, h4, by rw [hq a (Array.getElem?_eq_some_iff.mp h5).1 h10]; exact h5, h6, h7, h8, h9, h10⟩
theorem vx_L.narrow {C n d : String} {A B : Nat → Prop} {U : State} {H : Heap} (h : vx_L C n d A U H) (hAB : ∀ q, B q → A q) : vx_L C n d B U H := by
  obtain ⟨c, k, i, f, a, cell, h1, h2, h3, h4, h5, h6, h7, h8, h9, h10⟩ := h
  exact ⟨c, k, i, f, a, cell, h1, h2, h3, h4, h5, h6, h7, h8, h9, fun z => h10 (hAB _ z)⟩
theorem vx_L.word {C n d : String} {A : Nat → Prop} {s : State} {args : Array Value} (h : vx_L C n d A s s.heap) : (Cond.laysStatic C n d).before args s = true := by
  obtain ⟨c, k, i, f, a, cell, h1, h2, h3, h4, h5, h6, h7, h8, h9, -⟩ := h
  show (Cond.laysStatic C n d).holds args s none s [] = true
  exact Cond.laysStatic_of h1 h2 h3 h4 h5 h6 h7 h8 h9
def vx_Zq (C n d : String) (A : Nat → Prop) (U : State) (H : Heap) : Prop := va_Zq C n d A U H ∧ vx_L C n d A U H
theorem vx_Zq.moved {C n d : String} {A : Nat → Prop} {u U : State} {H : Heap} (hvm : u.vm.Alike U.vm) (h : vx_Zq C n d A u H) : vx_Zq C n d A U H := ⟨va_Zq.moved hvm h.1, vx_L.moved hvm h.2⟩
theorem vx_Zq.kept {C n d : String} {A : Nat → Prop} {U : State} {H H1 : Heap} (h : vx_Zq C n d A U H) (hq : ∀ a : Nat, a < H.size → ¬ A a → H1[a]? = H[a]?) : vx_Zq C n d A U H1 := ⟨va_Zq.kept h.1 hq, vx_L.kept h.2 hq⟩
theorem vx_Zq.narrow {C n d : String} {A B : Nat → Prop} {U : State} {H : Heap} (h : vx_Zq C n d A U H) (hAB : ∀ q, B q → A q) : vx_Zq C n d B U H := ⟨va_Zq.narrow h.1 hAB, vx_L.narrow h.2 hAB⟩
theorem vx_Zqof {args : Array Value} {s : State} {C n d : String} {A : Nat → Prop} (hl : (Cond.laysStatic C n d).before args s = true) (hini : (Cond.initialized C).before args s = true) (h : (Cond.isRef (.static C n d)).before args s = true) (hA : ∀ a : Nat, a < s.heap.size → ¬ A a) : vx_Zq C n d A s s.heap := by
  refine ⟨va_Zqof hl hini h hA, ?_⟩
  obtain ⟨c, k, i, f, a, cell, h1, h2, h3, h4, h5, h6, h7, h8, h9⟩ := Cond.laysStatic_spec hl
  exact ⟨c, k, i, f, a, cell, h1, h2, h3, h4, h5, h6, h7, h8, h9, hA a (Array.getElem?_eq_some_iff.mp h5).1⟩
theorem vx_isRef {C n d : String} {v : Value} {A : Nat → Prop} {s : State} {args : Array Value} (h : va_Z C n d v A s s.heap) (hv : v.isRef = true) : (Cond.isRef (.static C n d)).before args s = true := by
  obtain ⟨cf, kf, fi, f, a, cell, h1, h2, h3, h4, h5, h6, h7, -⟩ := h
  have he : (Term.static C n d).eval args s none [] s = some v := by
    simp [Term.eval, State.fieldNamed?, h1, h2, h4, h5, h6, h7]
  simp only [Cond.before, Cond.holds, Cond.value, he]
  cases v <;> simp_all [Value.isRef]
theorem vx_isRefq {C n d : String} {A : Nat → Prop} {s : State} {args : Array Value} (h : va_Zq C n d A s s.heap) : (Cond.isRef (.static C n d)).before args s = true := by
  rcases h with h | ⟨t, h⟩
  · exact vx_isRef h rfl
  · exact vx_isRef h rfl
theorem vx_rebase {T : State} (X : Stand p l e R s m args below meth c T locs cells slots) {R' : Room} (hf : R'.frames ≤ R.frames) (hl : R'.locals ≤ R.locals) (hc : cells + R'.cells ≤ R.cells) (hs : slots + R'.slots ≤ R.slots) :
    Stand p l e R' ((T.setVm s.vm).setFrames (.invoking m args :: below)) m args below meth c T [] 0 0 := by
  have htop : (T.setVm s.vm).topJava?.isSome := X.here.top
  have hF : ((T.setVm s.vm).setFrames (.invoking m args :: below)).frames = .invoking m args :: below := State.frames_setFrames _ (State.cur_lt_of_top htop)
  obtain ⟨g₀, hg0⟩ := Option.isSome_iff_exists.mp htop
  obtain ⟨r, hr⟩ := State.topJava?_eq_some.mp hg0
  have hl9 : e.platform.stackLimits (T.setVm s.vm).me = e.platform.stackLimits s.me := X.limits
  have hb9 : (T.setVm s.vm).me.stackBytes = s.me.stackBytes := X.bytes
  refine ⟨X.admits, X.cas, X.clock, hF, ?_, X.hears, X.method, X.code, X.here, X.tail, X.warmed, ?_, ?_, ?_⟩
  · have h := X.room
    have hU : ((T.setVm s.vm).setFrames (.invoking m args :: below)).localsInUse = s.localsInUse := by
      rw [State.localsInUse_invoking hF (meth := meth) (c := c) X.method X.code, State.localsInUse_invoking X.frames X.method X.code]
    simp only [State.hasRoom, Bool.and_eq_true, decide_eq_true_eq] at h ⊢
    obtain ⟨⟨⟨⟨h1, h2, h3, h4, h5, h6⟩, h7⟩, h8⟩, h9⟩ := h
    rw [X.frames, List.length_cons] at h2 h3
    have q1 := X.heapSize
    have q2 := X.used
    simp only [hF, hU, List.length_cons, State.stackLimits_setFrames, State.stackBytes_setFrames, hl9, hb9]
    refine ⟨⟨⟨⟨by omega, by omega, by omega, by omega, by omega, h6⟩, ?_⟩, ?_⟩, X.book⟩
    · show T.heap.size + R'.cells ≤ e.platform.maxCells
      omega
    · show T.slotsUsed + R'.slots ≤ e.platform.maxSlots
      omega
  · rw [State.stackLimits_setFrames]; rfl
  · rw [State.stackBytes_setFrames]; rfl
  · refine ⟨?_, Nat.le_refl _, Nat.le_refl _, ?_, ?_, fun a c9 h9 => ⟨c9, h9, rfl, rfl, fun _ _ => rfl⟩⟩
    · obtain ⟨t, ht, -⟩ := State.frames_cons hr
      show T.setVm s.vm = { ((T.setVm s.vm).setFrames (.invoking m args :: below)).setFrames (T.setVm s.vm).frames with heap := T.heap, slotsUsed := T.slotsUsed }
      rw [State.setFrames_setFrames, State.setFrames_self ht]
      rfl
    · show T.slotsUsed = T.slotsUsed + ((T.heap.toList.drop T.heap.size).map (·.slots.size)).sum
      rw [List.drop_eq_nil_of_le (Nat.le_of_eq Array.length_toList)]
      rfl
    · show ((T.heap.toList.drop T.heap.size).map (·.slots.size)).sum ≤ 0
      rw [List.drop_eq_nil_of_le (Nat.le_of_eq Array.length_toList)]
      exact Nat.le_refl _
theorem vx_throw0 {cc : ByteArray} {pc : Nat} (hexec : p.tables.exec = Jvm.exec) (hb : c.code = cc) (hl : l.stackTraces = false) {own cls : String} {names : List String} {ik ic mc ms : Nat} {A : Nat → Prop}
    (hown : s.vm.findClass own = some m.cls) (hcls : Bundle.fit cls = true) (hnames : ∀ n ∈ names, Bundle.fit n = true)
    (hk : (Cond.classLink own ik cls).before args s = true) (hini : (Cond.initialized cls).before args s = true) (hat : ∀ w ∈ vx_at0 own ic cls names, w.before args s = true)
    (hgood : ∀ w ∈ Cond.classLink own ik cls :: Cond.initialized cls :: vx_at0 own ic cls names, vx_ot w = true)
    (hU : vx_Zq Bundle.tN "UNASSIGNED_STACK" Bundle.steD A s s.heap) (hN : vx_Zq Bundle.tN "SUPPRESSED_SENTINEL" Bundle.listD A s s.heap) (hS : va_S A s.heap H locs) (hsize : ls.size = c.maxLocals)
    (d0 : decode cc pc = .ok (.new ik, 3)) (d3 : decode cc (pc + 3) = .ok (.dup, 1)) (d4 : decode cc (pc + 4) = .ok (.invokespecial ic, 3)) (d7 : decode cc (pc + 7) = .ok (.athrow, 1))
    (hout : ∀ x ∈ c.exceptionTable.toList, covers x (pc + 7) = false)
    (hRframes : names.length + 3 < R.frames) (hRlocals : (rest.map fun v => v.category).sum + (13 * (names.length + 1) + 42) ≤ R.locals) (hRcells : cells + 1 ≤ R.cells) (hRslots : slots + 6 ≤ R.slots) (hlocks : meth.locks = false)
    (hx : ∀ t : State, s.vm.Alike t.vm → H.size ≤ t.heap.size → (∀ q : Nat, q < H.size → t.heap[q]? = H[q]?) → XC cls s t)
    (hf : ∀ z ∈ locs, free z.base) (hc : cells + 1 ≤ mc) (hs : slots + 6 ≤ ms) :
    W p l e R s m args below meth c H locs cells slots (vx_MQ below Qc XC args s mc ms free) (F0 m pc ls rest) := by
  intro T hT X
  have htr : e.platform.stackTraces = false := (show e.platform.stackTraces = l.stackTraces by rw [X.admits.platform]).trans hl
  have Y := vx_rebase X (R' := { frames := R.frames, locals := R.locals, cells := 1, slots := 6 }) (Nat.le_refl _) (Nat.le_refl _) hRcells hRslots
  obtain ⟨s', hA⟩ : ∃ z, z = (T.setVm s.vm).setFrames (.invoking m args :: below) := ⟨_, rfl⟩
  rw [← hA] at Y
  have hvm : s'.vm = s.vm := by rw [hA]; rfl
  have hhp : s'.heap = H := by rw [hA]; exact hT
  have hW0 : s.WarmedH s'.vm := by rw [hvm]; exact State.WarmedH.refl s
  have hat' : ∀ w ∈ vx_at0 own ic cls names, w.before args s' = true := fun w hw => vx_ot_at hW0 hvm.symm (hgood w (List.mem_cons_of_mem _ (List.mem_cons_of_mem _ hw))) (hat w hw)
  have hk' : (Cond.classLink own ik cls).before args s' = true := vx_ot_at hW0 hvm.symm (hgood _ List.mem_cons_self) hk
  have hini' : (Cond.initialized cls).before args s' = true := vx_ot_at hW0 hvm.symm (hgood _ (List.mem_cons_of_mem _ List.mem_cons_self)) hini
  have hU' : vx_Zq Bundle.tN "UNASSIGNED_STACK" Bundle.steD A s' s'.heap := by rw [hhp]; exact vx_Zq.moved hW0.alike (hU.kept hS.2.1)
  have hN' : vx_Zq Bundle.tN "SUPPRESSED_SENTINEL" Bundle.listD A s' s'.heap := by rw [hhp]; exact vx_Zq.moved hW0.alike (hN.kept hS.2.1)
  have h : ∀ w ∈ Bundle.ownAtoms0 own ic cls names, w.before args s' = true := vx_own hat' (vx_isRefq hU'.1) (vx_isRefq hN'.1) hU'.2.word hN'.2.word
  have hown' : s'.vm.findClass own = some m.cls := by rw [hvm]; exact hown
  have hins : (Cond.instantiable cls 6).before args s' = true := h _ (by simp [Bundle.ownAtoms0])
  obtain ⟨vm₁, cX, kX, hfX, hkX, -, -, X₁, st1⟩ := Y.newCold hexec (own := own) (C := cls) (index := ik) (n := 6) hown' hk' hins hini'
    (g := F0 m pc ls rest) rfl (by rw [hb]; exact d0) (Nat.le_refl _) (Nat.le_refl _)
  generalize hT1 : (T.setVm vm₁).pushCell { cls := cX, slots := kX.instanceTypes.map defaultValue, vm := .none } = T1 at X₁ st1
  have hcat : (Value.ref T.heap.size).category = 1 := rfl
  have hcellA : T1.heap[T.heap.size]? = some (freshCell cX kX) := by rw [← hT1]; exact State.heap_pushCell_size _ _
  have d3' : decode c.code (pc + 3) = .ok (.dup, 1) := by rw [hb]; exact d3
  obtain ⟨U, hsteps, hrun, hend, hW, hsame, ce, hce, hO⟩ := X₁.ctorThrow0 hexec htr (own := own) (cls := cls) (names := names) (ic := ic) hown' hcls hnames h (fun x hx => nomatch hx) hfX hkX hcellA (by rw [hhp, hT]; exact Nat.le_refl _)
    (g := { method := m, pc := pc + 4, locals := ls, stack := .ref T.heap.size :: .ref T.heap.size :: rest, locked := none }) rfl hsize rfl rfl (rest := rest) rfl
    (by rw [hb]; exact d4) (by rw [hb]; exact d7) hout hRframes (by simp only [List.map_cons, List.sum_cons, hcat]; omega) hlocks
  obtain ⟨f1, f2⟩ := vx_frame hsame
  rw [hhp] at f1 f2
  have hWs : s.WarmedH U.vm := State.WarmedH.trans hW0 hW
  have hcl : s.vm.findClass cls = some ce.cls := by
    have h9 := hO.cls
    rw [hvm] at h9
    exact h9
  have hall : s.sameButNew ({ U with vm := s.vm } : State) locs mc ms := by
    subst hA
    obtain ⟨e1, e2⟩ := hsame
    rw [State.setFrames_setFrames] at e1
    have h2 : (T.setVm s.vm).sameButNew ({ U with vm := s.vm } : State) [] (0 + 1) (0 + 6) := ⟨e1, e2⟩
    have h3 := X.same.trans h2
    rw [List.append_nil] at h3
    exact h3.mono hc hs
  refine ⟨U, ?_, .threw T.heap.size, hrun, hend, Or.inr ⟨T.heap.size, rfl, cls, ce, locs, hx U hWs.alike f1 (fun q hq => f2 q hq (fun z hz => nomatch hz)), hce, hO.vm, hcl, hWs, hall, hf⟩⟩
  refine st1 _ ?_
  show Steps p.tables e below (T1.setTop { method := m, pc := pc + 3, locals := ls, stack := .ref T.heap.size :: rest, locked := none }) _
  jvm_step X₁.here [X₁.here.top, hexec, d3', Value.category]
  exact hsteps
theorem vx_throwS {cc : ByteArray} {pc : Nat} (hexec : p.tables.exec = Jvm.exec) (hb : c.code = cc) (hl : l.stackTraces = false) {own cls text : String} {names : List String} {ik is ic mc ms sa : Nat} {A : Nat → Prop}
    (hown : s.vm.findClass own = some m.cls) (hcls : Bundle.fit cls = true) (hnames : ∀ n ∈ names, Bundle.fit n = true)
    (hk : (Cond.classLink own ik cls).before args s = true) (hini : (Cond.initialized cls).before args s = true) (hstr : vk_R own is text sa s) (hat : ∀ w ∈ vx_atS own ic cls names, w.before args s = true)
    (hgood : ∀ w ∈ Cond.classLink own ik cls :: Cond.initialized cls :: vx_atS own ic cls names, vx_ot w = true)
    (hU : vx_Zq Bundle.tN "UNASSIGNED_STACK" Bundle.steD A s s.heap) (hN : vx_Zq Bundle.tN "SUPPRESSED_SENTINEL" Bundle.listD A s s.heap) (hS : va_S A s.heap H locs) (hsize : ls.size = c.maxLocals)
    (d0 : decode cc pc = .ok (.new ik, 3)) (d3 : decode cc (pc + 3) = .ok (.dup, 1)) (d4 : decode cc (pc + 4) = .ok (.ldc is, 2)) (d6 : decode cc (pc + 6) = .ok (.invokespecial ic, 3)) (d9 : decode cc (pc + 9) = .ok (.athrow, 1))
    (hout : ∀ x ∈ c.exceptionTable.toList, covers x (pc + 9) = false)
    (hRframes : names.length + 3 < R.frames) (hRlocals : (rest.map fun v => v.category).sum + (13 * (names.length + 1) + 43) ≤ R.locals) (hRcells : cells + 1 ≤ R.cells) (hRslots : slots + 6 ≤ R.slots) (hlocks : meth.locks = false)
    (hx : ∀ t : State, s.vm.Alike t.vm → H.size ≤ t.heap.size → (∀ q : Nat, q < H.size → t.heap[q]? = H[q]?) → XC cls s t)
    (hf : ∀ z ∈ locs, free z.base) (hc : cells + 1 ≤ mc) (hs : slots + 6 ≤ ms) :
    W p l e R s m args below meth c H locs cells slots (vx_MQ below Qc XC args s mc ms free) (F0 m pc ls rest) := by
  intro T hT X
  have htr : e.platform.stackTraces = false := (show e.platform.stackTraces = l.stackTraces by rw [X.admits.platform]).trans hl
  have Y := vx_rebase X (R' := { frames := R.frames, locals := R.locals, cells := 1, slots := 6 }) (Nat.le_refl _) (Nat.le_refl _) hRcells hRslots
  obtain ⟨s', hA⟩ : ∃ z, z = (T.setVm s.vm).setFrames (.invoking m args :: below) := ⟨_, rfl⟩
  rw [← hA] at Y
  have hvm : s'.vm = s.vm := by rw [hA]; rfl
  have hhp : s'.heap = H := by rw [hA]; exact hT
  have hW0 : s.WarmedH s'.vm := by rw [hvm]; exact State.WarmedH.refl s
  have hat' : ∀ w ∈ vx_atS own ic cls names, w.before args s' = true := fun w hw => vx_ot_at hW0 hvm.symm (hgood w (List.mem_cons_of_mem _ (List.mem_cons_of_mem _ hw))) (hat w hw)
  have hk' : (Cond.classLink own ik cls).before args s' = true := vx_ot_at hW0 hvm.symm (hgood _ List.mem_cons_self) hk
  have hini' : (Cond.initialized cls).before args s' = true := vx_ot_at hW0 hvm.symm (hgood _ (List.mem_cons_of_mem _ List.mem_cons_self)) hini
  have hU' : vx_Zq Bundle.tN "UNASSIGNED_STACK" Bundle.steD A s' s'.heap := by rw [hhp]; exact vx_Zq.moved hW0.alike (hU.kept hS.2.1)
  have hN' : vx_Zq Bundle.tN "SUPPRESSED_SENTINEL" Bundle.listD A s' s'.heap := by rw [hhp]; exact vx_Zq.moved hW0.alike (hN.kept hS.2.1)
  have h : ∀ w ∈ Bundle.ownAtoms own ic cls names, w.before args s' = true := vx_own hat' (vx_isRefq hU'.1) (vx_isRefq hN'.1) hU'.2.word hN'.2.word
  have hown' : s'.vm.findClass own = some m.cls := by rw [hvm]; exact hown
  have hins : (Cond.instantiable cls 6).before args s' = true := h _ (by simp [Bundle.ownAtoms])
  obtain ⟨vm₁, cX, kX, hfX, hkX, -, -, X₁, st1⟩ := Y.newCold hexec (own := own) (C := cls) (index := ik) (n := 6) hown' hk' hins hini'
    (g := F0 m pc ls rest) rfl (by rw [hb]; exact d0) (Nat.le_refl _) (Nat.le_refl _)
  generalize hT1 : (T.setVm vm₁).pushCell { cls := cX, slots := kX.instanceTypes.map defaultValue, vm := .none } = T1 at X₁ st1
  have hcat : (Value.ref T.heap.size).category = 1 := rfl
  have hcellA : T1.heap[T.heap.size]? = some (freshCell cX kX) := by rw [← hT1]; exact State.heap_pushCell_size _ _
  have d3' : decode c.code (pc + 3) = .ok (.dup, 1) := by rw [hb]; exact d3
  have d4' : decode c.code (pc + 4) = .ok (.ldc is, 2) := by rw [hb]; exact d4
  have hstr' : vk_R own is text sa s' := vk_R.warm hW0 hstr
  obtain ⟨U, hsteps, hrun, hend, hW, hsame, ce, hce, hO⟩ := X₁.ctorThrowS hexec htr (own := own) (cls := cls) (names := names) (ic := ic) hown' hcls hnames h (fun x hx => nomatch hx) hfX hkX hcellA (by rw [hhp, hT]; exact Nat.le_refl _) (msg := .ref sa) rfl
    (g := { method := m, pc := pc + 6, locals := ls, stack := .ref sa :: .ref T.heap.size :: .ref T.heap.size :: rest, locked := none }) rfl hsize rfl rfl (rest := rest) rfl
    (by rw [hb]; exact d6) (by rw [hb]; exact d9) hout hRframes (by simp only [List.map_cons, List.sum_cons, hcat]; omega) hlocks
  obtain ⟨f1, f2⟩ := vx_frame hsame
  rw [hhp] at f1 f2
  have hWs : s.WarmedH U.vm := State.WarmedH.trans hW0 hW
  have hcl : s.vm.findClass cls = some ce.cls := by
    have h9 := hO.cls
    rw [hvm] at h9
    exact h9
  have hall : s.sameButNew ({ U with vm := s.vm } : State) locs mc ms := by
    subst hA
    obtain ⟨e1, e2⟩ := hsame
    rw [State.setFrames_setFrames] at e1
    have h2 : (T.setVm s.vm).sameButNew ({ U with vm := s.vm } : State) [] (0 + 1) (0 + 6) := ⟨e1, e2⟩
    have h3 := X.same.trans h2
    rw [List.append_nil] at h3
    exact h3.mono hc hs
  refine ⟨U, ?_, .threw T.heap.size, hrun, hend, Or.inr ⟨T.heap.size, rfl, cls, ce, locs, hx U hWs.alike f1 (fun q hq => f2 q hq (fun z hz => nomatch hz)), hce, hO.vm, hcl, hWs, hall, hf⟩⟩
  refine st1 _ ?_
  show Steps p.tables e below (T1.setTop { method := m, pc := pc + 3, locals := ls, stack := .ref T.heap.size :: rest, locked := none }) _
  jvm_step X₁.here [X₁.here.top, hexec, d3', Value.category]
  exact X₁.ldcString hexec (own := own) (text := text) (index := is) (a := sa) hown' hstr'.1 hstr'.2
    (g := { method := m, pc := pc + 4, locals := ls, stack := .ref T.heap.size :: .ref T.heap.size :: rest, locked := none }) rfl d4' _ hsteps
theorem vx_throwSW {cc : ByteArray} {pc : Nat} (hexec : p.tables.exec = Jvm.exec) (hb : c.code = cc) (hl : l.stackTraces = false) {own cls text : String} {names : List String} {ik is ic mc ms sa : Nat} {A : Nat → Prop}
    (hown : s.vm.findClass own = some m.cls) (hcls : Bundle.fit cls = true) (hnames : ∀ n ∈ names, Bundle.fit n = true)
    (hk : (Cond.classLink own ik cls).before args s = true) (hini : (Cond.initialized cls).before args s = true) (hstr : vk_R own is text sa s) (hat : ∀ w ∈ vx_atS own ic cls names, w.before args s = true)
    (hgood : ∀ w ∈ Cond.classLink own ik cls :: Cond.initialized cls :: vx_atS own ic cls names, vx_ot w = true)
    (hU : vx_Zq Bundle.tN "UNASSIGNED_STACK" Bundle.steD A s s.heap) (hN : vx_Zq Bundle.tN "SUPPRESSED_SENTINEL" Bundle.listD A s s.heap) (hS : va_S A s.heap H locs) (hsize : ls.size = c.maxLocals)
    (d0 : decode cc pc = .ok (.new ik, 3)) (d3 : decode cc (pc + 3) = .ok (.dup, 1)) (d4 : decode cc (pc + 4) = .ok (.ldc_w is, 3)) (d7 : decode cc (pc + 7) = .ok (.invokespecial ic, 3)) (d10 : decode cc (pc + 10) = .ok (.athrow, 1))
    (hout : ∀ x ∈ c.exceptionTable.toList, covers x (pc + 10) = false)
    (hRframes : names.length + 3 < R.frames) (hRlocals : (rest.map fun v => v.category).sum + (13 * (names.length + 1) + 43) ≤ R.locals) (hRcells : cells + 1 ≤ R.cells) (hRslots : slots + 6 ≤ R.slots) (hlocks : meth.locks = false)
    (hx : ∀ t : State, s.vm.Alike t.vm → H.size ≤ t.heap.size → (∀ q : Nat, q < H.size → t.heap[q]? = H[q]?) → XC cls s t)
    (hf : ∀ z ∈ locs, free z.base) (hc : cells + 1 ≤ mc) (hs : slots + 6 ≤ ms) :
    W p l e R s m args below meth c H locs cells slots (vx_MQ below Qc XC args s mc ms free) (F0 m pc ls rest) := by
  intro T hT X
  have htr : e.platform.stackTraces = false := (show e.platform.stackTraces = l.stackTraces by rw [X.admits.platform]).trans hl
  have Y := vx_rebase X (R' := { frames := R.frames, locals := R.locals, cells := 1, slots := 6 }) (Nat.le_refl _) (Nat.le_refl _) hRcells hRslots
  obtain ⟨s', hA⟩ : ∃ z, z = (T.setVm s.vm).setFrames (.invoking m args :: below) := ⟨_, rfl⟩
  rw [← hA] at Y
  have hvm : s'.vm = s.vm := by rw [hA]; rfl
  have hhp : s'.heap = H := by rw [hA]; exact hT
  have hW0 : s.WarmedH s'.vm := by rw [hvm]; exact State.WarmedH.refl s
  have hat' : ∀ w ∈ vx_atS own ic cls names, w.before args s' = true := fun w hw => vx_ot_at hW0 hvm.symm (hgood w (List.mem_cons_of_mem _ (List.mem_cons_of_mem _ hw))) (hat w hw)
  have hk' : (Cond.classLink own ik cls).before args s' = true := vx_ot_at hW0 hvm.symm (hgood _ List.mem_cons_self) hk
  have hini' : (Cond.initialized cls).before args s' = true := vx_ot_at hW0 hvm.symm (hgood _ (List.mem_cons_of_mem _ List.mem_cons_self)) hini
  have hU' : vx_Zq Bundle.tN "UNASSIGNED_STACK" Bundle.steD A s' s'.heap := by rw [hhp]; exact vx_Zq.moved hW0.alike (hU.kept hS.2.1)
  have hN' : vx_Zq Bundle.tN "SUPPRESSED_SENTINEL" Bundle.listD A s' s'.heap := by rw [hhp]; exact vx_Zq.moved hW0.alike (hN.kept hS.2.1)
  have h : ∀ w ∈ Bundle.ownAtoms own ic cls names, w.before args s' = true := vx_own hat' (vx_isRefq hU'.1) (vx_isRefq hN'.1) hU'.2.word hN'.2.word
  have hown' : s'.vm.findClass own = some m.cls := by rw [hvm]; exact hown
  have hins : (Cond.instantiable cls 6).before args s' = true := h _ (by simp [Bundle.ownAtoms])
  obtain ⟨vm₁, cX, kX, hfX, hkX, -, -, X₁, st1⟩ := Y.newCold hexec (own := own) (C := cls) (index := ik) (n := 6) hown' hk' hins hini'
    (g := F0 m pc ls rest) rfl (by rw [hb]; exact d0) (Nat.le_refl _) (Nat.le_refl _)
  generalize hT1 : (T.setVm vm₁).pushCell { cls := cX, slots := kX.instanceTypes.map defaultValue, vm := .none } = T1 at X₁ st1
  have hcat : (Value.ref T.heap.size).category = 1 := rfl
  have hcellA : T1.heap[T.heap.size]? = some (freshCell cX kX) := by rw [← hT1]; exact State.heap_pushCell_size _ _
  have d3' : decode c.code (pc + 3) = .ok (.dup, 1) := by rw [hb]; exact d3
  have d4' : decode c.code (pc + 4) = .ok (.ldc_w is, 3) := by rw [hb]; exact d4
  have hstr' : vk_R own is text sa s' := vk_R.warm hW0 hstr
  obtain ⟨U, hsteps, hrun, hend, hW, hsame, ce, hce, hO⟩ := X₁.ctorThrowS hexec htr (own := own) (cls := cls) (names := names) (ic := ic) hown' hcls hnames h (fun x hx => nomatch hx) hfX hkX hcellA (by rw [hhp, hT]; exact Nat.le_refl _) (msg := .ref sa) rfl
    (g := { method := m, pc := pc + 7, locals := ls, stack := .ref sa :: .ref T.heap.size :: .ref T.heap.size :: rest, locked := none }) rfl hsize rfl rfl (rest := rest) rfl
    (by rw [hb]; exact d7) (by rw [hb]; exact d10) hout hRframes (by simp only [List.map_cons, List.sum_cons, hcat]; omega) hlocks
  obtain ⟨f1, f2⟩ := vx_frame hsame
  rw [hhp] at f1 f2
  have hWs : s.WarmedH U.vm := State.WarmedH.trans hW0 hW
  have hcl : s.vm.findClass cls = some ce.cls := by
    have h9 := hO.cls
    rw [hvm] at h9
    exact h9
  have hall : s.sameButNew ({ U with vm := s.vm } : State) locs mc ms := by
    subst hA
    obtain ⟨e1, e2⟩ := hsame
    rw [State.setFrames_setFrames] at e1
    have h2 : (T.setVm s.vm).sameButNew ({ U with vm := s.vm } : State) [] (0 + 1) (0 + 6) := ⟨e1, e2⟩
    have h3 := X.same.trans h2
    rw [List.append_nil] at h3
    exact h3.mono hc hs
  refine ⟨U, ?_, .threw T.heap.size, hrun, hend, Or.inr ⟨T.heap.size, rfl, cls, ce, locs, hx U hWs.alike f1 (fun q hq => f2 q hq (fun z hz => nomatch hz)), hce, hO.vm, hcl, hWs, hall, hf⟩⟩
  refine st1 _ ?_
  show Steps p.tables e below (T1.setTop { method := m, pc := pc + 3, locals := ls, stack := .ref T.heap.size :: rest, locked := none }) _
  jvm_step X₁.here [X₁.here.top, hexec, d3', Value.category]
  exact X₁.ldcStringW hexec (own := own) (text := text) (index := is) (a := sa) hown' hstr'.1 hstr'.2
    (g := { method := m, pc := pc + 4, locals := ls, stack := .ref T.heap.size :: .ref T.heap.size :: rest, locked := none }) rfl d4' _ hsteps
end Ends
section Bodies
variable {l : Launch}
theorem vx_ofW {y : MethodName} {ws ws' : List Cond} {rm : Room} {Pc : Array Value → State → Prop} {Qc : Array Value → State → Outcome → State → Prop} {XC : String → State → State → Prop} {mc ms : Nat} {free : Addr → Prop} {cc : ByteArray} {maxL : Nat} {ret : Option FieldType}
    (hy : plainName y.cls = true) (hw : ws = Cond.code y cc maxL ret :: ws')
    (body : ∀ p e s m args below meth c s₁, BodyLoose p l y (headSpec ws rm) cc maxL ret e s m args below meth c s₁ → c.maxLocals = maxL → (∀ x ∈ c.exceptionTable.toList, False) → Pc args s →
      W p l e (headSpec ws rm).room s m args below meth c s.heap [] 0 0 (vx_MQ below Qc XC args s mc ms free) (entryFrame m args maxL)) : vx_Met l y ws rm Pc Qc XC mc ms free := by
  refine MetFree.of_bodyS (code := cc) (maxLocals := maxL) (ret := ret) hy ?_ ?_
  · intro args s m h hn
    obtain ⟨meth, c, h1, h2, h3, h4, h5, h6, -, -⟩ := Cond.code_spec hn (atoms_spec (ws := ws) h _ (by rw [hw]; exact List.mem_cons_self))
    exact ⟨meth, c, h1, h2, h3, h4, h5, h6⟩
  · intro p e s m args below meth c s₁ B hml hP _
    have hh0 : s₁.heap = s.heap := by rw [B.state]; rfl
    have ht : ∀ x ∈ c.exceptionTable.toList, False := by
      obtain ⟨meth9, c9, h1, h2, -, -, -, -, h7, -⟩ := Cond.code_spec B.named (atoms_spec (ws := ws) B.pre _ (by rw [hw]; exact List.mem_cons_self))
      cases Option.some.inj (h1.symm.trans B.method)
      cases Option.some.inj (h2.symm.trans (Stand.of_body B).code)
      intro x hx
      rw [Array.isEmpty_iff.mp h7] at hx
      cases hx
    obtain ⟨t, a1, o, b1, b2, b3⟩ := body p e s m args below meth c s₁ B hml ht hP s₁ hh0 (Stand.of_body B)
    exact ⟨t, o, a1, b1, b2, b3⟩
theorem vx_table {p : Program} {x y : MethodName} {S : Spec} {cc bytes : ByteArray} {maxL maxL' : Nat} {ret ret' : Option FieldType} {e : Env} {s s₁ : State} {m : MethodId} {args : Array Value} {below : List Frame} {meth : Method} {c : Code} {hh : List (Nat × Nat × Nat × Nat)}
    (B : BodyLoose p l y S cc maxL ret e s m args below meth c s₁) (h : (Cond.codeWith y bytes maxL' ret' hh).before args s = true) : c.exceptionTable.toList = tableOf hh := by
  obtain ⟨m9, meth9, c9, hn9, h1, h2, -, -, h6, -⟩ := Cond.codeWith_spec h
  cases Option.some.inj (hn9.symm.trans B.named)
  cases Option.some.inj (h1.symm.trans B.method)
  cases Option.some.inj (h2.symm.trans (Stand.of_body B).code)
  rw [← h6, table_eq]
end Bodies
end VXA
section VXS
variable {p : Program} {l : Launch} {e : Env} {R : Room} {s : State} {m : MethodId} {args : Array Value} {below : List Frame} {meth : Method} {c : Code} {T : State} {H : Heap} {locs : List Loc} {cells slots : Nat}
abbrev vx_CSW (R : Room) (s : State) (args : Array Value) (own : String) (index : Nat) (y : MethodName) (bytes : ByteArray) (maxL : Nat) (ret : Option FieldType) (hh : List (Nat × Nat × Nat × Nat)) (ws : List Cond) (rm : Room) (mc ms n : Nat) : Prop :=
  (rm.cells = mc ∧ rm.slots = ms ∧ rm.frames + 1 ≤ R.frames ∧ 8 + (maxL + 11) + rm.locals ≤ R.locals ∧ (∀ w ∈ ws, ∀ (a' : Array Value) (U : State), s.WarmedH U.vm → w.before a' U = true) ∧ Cond.codeWith y bytes maxL ret hh ∈ ws) ∧
  (Cond.codeWith y bytes maxL ret hh).before args s = true ∧ (Cond.initialized y.cls).before args s = true ∧ (y.cls ≠ "java/lang/invoke/MethodHandle" ∧ y.cls ≠ "java/lang/invoke/VarHandle") ∧
  (∀ sig, parseMethodDescriptor y.desc = some sig → n = sig.parameters.length) ∧ (Cond.methodLink own index y).before args s = true ∧ (Cond.static y).before args s = true
theorem vx_cwSW {own : String} {index maxL mc ms : Nat} {y : MethodName} {bytes : ByteArray} {ret : Option FieldType} {hh : List (Nat × Nat × Nat × Nat)} {Ts ws ws' : List Cond} {rm : Room} (n : Nat) (ht : ∀ w ∈ Ts, w.before args s = true) (hT : GoodIn Ts (va_wsS own index y ws)) (hw : ws = Cond.codeWith y bytes maxL ret hh :: ws') (hrc : rm.cells = mc) (hrs : rm.slots = ms)
    (hd : y.cls ≠ "java/lang/invoke/MethodHandle" ∧ y.cls ≠ "java/lang/invoke/VarHandle" ∧ (parseMethodDescriptor y.desc).map (fun d => d.parameters.length) = some n) (hR : rm.frames + 1 ≤ R.frames ∧ 8 + (maxL + 11) + rm.locals ≤ R.locals) :
    vx_CSW R s args own index y bytes maxL ret hh ws rm mc ms n := by
  have ok : ∀ w ∈ va_wsS own index y ws, w.before args s = true := fun w h => ht w (hT w h).1
  have hG : GoodIn Ts ws := fun w h => hT w (by unfold va_wsS; exact List.mem_append_right _ h)
  have hc : Cond.codeWith y bytes maxL ret hh ∈ ws := by rw [hw]; exact List.mem_cons_self
  refine ⟨⟨hrc, hrs, hR.1, hR.2, pay_in ht hG, hc⟩, ht _ (hG _ hc).1, ok _ (by simp [va_wsS]), ⟨hd.1, hd.2.1⟩, fun sig h => ?_, ok _ (by simp [va_wsS]), ok _ (by simp [va_wsS])⟩
  have h2 := hd.2.2
  rw [h] at h2
  exact (Option.some.inj h2).symm
theorem vx_callSW (X : Stand p l e R s m args below meth c T locs cells slots) (hexec : p.tables.exec = Jvm.exec) {own : String} {index : Nat} {y : MethodName} {bytes : ByteArray} {maxL : Nat} {ret : Option FieldType} {hh : List (Nat × Nat × Nat × Nat)}
    (hown : s.vm.findClass own = some m.cls) (hlink : (Cond.methodLink own index y).before args s = true) (hstat : (Cond.static y).before args s = true) (hinit : (Cond.initialized y.cls).before args s = true)
    (hcode : (Cond.codeWith y bytes maxL ret hh).before args s = true) (hy : y.cls ≠ "java/lang/invoke/MethodHandle" ∧ y.cls ≠ "java/lang/invoke/VarHandle")
    {W9 : Nat} {Pre : Pt → Array Value → Prop} {Post : Pt → Array Value → Option Value → Pt → Prop} (hK : Back l R p e below s args y 3 W9 Pre Post)
    {g : JFrame} (hg : g.method = m) (hsize : g.locals.size = c.maxLocals) {argsL rest : List Value} (hlen : ∀ sig, parseMethodDescriptor y.desc = some sig → argsL.length = sig.parameters.length)
    (hstack : g.stack = argsL.reverse ++ rest) (hW : 2 * g.monitorRoom + (rest.map fun v => v.category).sum ≤ W9) (hdg : decode c.code g.pc = .ok (.invokestatic index, 3))
    (hpre : ∀ vm₁, s.WarmedH vm₁ → Pre ⟨T.setVm vm₁, locs, cells, slots⟩ argsL.toArray) :
    ∃ (v : Option Value) (vm₁ : Vm) (B : Pt), s.WarmedH vm₁ ∧ Stand p l e R s m args below meth c B.U B.locs B.cells B.slots ∧ Post ⟨T.setVm vm₁, locs, cells, slots⟩ argsL.toArray v B ∧
      ∀ target, Steps p.tables e below (B.U.setTop { g with pc := g.pc + 3, stack := v.toList ++ rest }) target → Steps p.tables e below (T.setTop g) target := by
  obtain ⟨mk, methM, cM, hnamed, hmethM, -, -, -, -, -, -, hsigM⟩ := Cond.codeWith_spec hcode
  have hstatic : methM.isStatic = true := Cond.static_spec hnamed hmethM hstat
  obtain ⟨kP, hkP, -⟩ := className_of_methodNamed hnamed
  have hinitP : kP.init = .initialized := Cond.initialized_spec (findClass_of_methodNamed hnamed) hkP hinit
  obtain ⟨vm₁, X₁, hstep₁⟩ := X.invokestatic hexec hown hlink hnamed hmethM hstatic hkP hinitP hy (g := g) hg (argsL := argsL) (rest := rest) (hlen _ hsigM) hstack hdg
  obtain ⟨v, B, X', hpost, hsteps⟩ := hK m meth c ⟨T.setVm vm₁, locs, cells, slots⟩ { g with stack := rest } (.invokestatic index) mk argsL.toArray X₁ hg hsize hdg hW (X₁.named hnamed) (hpre vm₁ X₁.warmed)
  exact ⟨v, vm₁, B, X₁.warmed, X', hpost, fun target h => hstep₁ _ fun acts => by rw [doInvoke_state]; exact hsteps.trans h⟩
theorem vx_runSW {y : MethodName} {bytes cc : ByteArray} {maxL nL mc ms n index : Nat} {ret : Option FieldType} {hh : List (Nat × Nat × Nat × Nat)} {ws : List Cond} {rm : Room} {Pc : Array Value → State → Prop} {Qc : Array Value → State → Outcome → State → Prop} {free : Addr → Prop} {Ts : List Cond} {own : String} {As rest : List Value} {g : JFrame}
    (S : CallFix p m c cc nL s args Ts own) (hM : Met l y ws rm Pc Qc mc ms free) (cw : vx_CSW R s args own index y bytes maxL ret hh ws rm mc ms n) (hp : PreS s H Pc As)
    (hg : g.method = m) (hn : As.length = n) (hsize : g.locals.size = nL) (hstack : g.stack = As.reverse ++ rest) (hW : 2 * g.monitorRoom + (rest.map fun v => v.category).sum ≤ 8) (hdg : decode cc g.pc = .ok (.invokestatic index, 3)) (hf : cells + mc ≤ R.cells ∧ slots + ms ≤ R.slots) :
    va_Run p l e R s m args below meth c H locs cells slots mc ms g rest (Qc As.toArray) (free) := by
  obtain ⟨⟨hrc, hrs, hfr, hlo, hws, hcw⟩, hcode, hini, hy, hlen, hl, hstt⟩ := cw
  have hK : Back l R p e below s args y 3 8 (PreOf R mc ms Pc) (PostOf Qc mc ms free) := va_backW (hh := hh) (bytes := bytes) (maxL := maxL) (ret := ret) hM hp.1 hrc hrs hfr hlo hws hcw (fun a' U hW => word_at hW (Or.inl (by first | rfl | simp [Cond.onTables, Cond.keeps, Cond.steady])) hini)
  obtain ⟨hx, hb, hml, ho, -⟩ := S
  intro T hT X
  obtain ⟨v, vm₁, ⟨U', l2, c2, s2⟩, hW₁, X', ⟨g', mk, t, L, e1, e2, hq, h1, hL, h2, h3⟩, st⟩ := vx_callSW X hx (hh := hh) (bytes := bytes) (maxL := maxL) (ret := ret) ho hl hstt hini hcode hy hK hg (hsize.trans hml.symm) (argsL := As) (rest := rest) (fun sig h => hn.trans (hlen sig h)) hstack hW (by rw [hb]; exact hdg)
    (fun vm₁ hW₁ => ⟨hf.1, hf.2, hp.2 (T.setVm vm₁) hT hW₁⟩)
  dsimp only [Pt.U, Pt.locs, Pt.cells, Pt.slots] at X' e1 e2 h1 h2 h3 st
  subst h1; subst h2; subst h3
  exact ⟨v, (T.setVm vm₁).calling g' mk As.toArray, t, U', L, hT, X', hL, e1, e2, hq, st⟩
theorem vx_outP {p : Program} {l : Launch} {e : Env} {R : Room} {s : State} {m : MethodId} {args : Array Value} {below : List Frame} {meth : Method} {c : Code} {H : Heap} {locs : List Loc} {cells slots : Nat} {free : Addr → Prop} {ls : Array Slot} {rest : List Value} {Qc : Array Value → State → Outcome → State → Prop} {XC : String → State → State → Prop}
    {pc : Nat} {own E : String} {ce : Cell} {q : Addr} {mc ms : Nat} (hown : s.vm.findClass own = some m.cls) (hlocks : meth.locks = false)
    (hpass : ∀ z ∈ c.exceptionTable.toList, covers z pc = false ∨ (z.catchType ≠ 0 ∧ ∃ nm : String, (Cond.classLink own z.catchType nm).before args s = true ∧ va_Nc E nm s)) (hcell : H[q]? = some ce) (hv : ce.vm = .none) (hcl : s.vm.findClass E = some ce.cls)
    (hx : ∀ t : State, t.heap = H → s.vm.Alike t.vm → XC E s t) (hf : ∀ z ∈ locs, free z.base) (hc : cells ≤ mc) (hs : slots ≤ ms) :
    vx_W p l e R s m args below meth c H locs cells slots (vx_MQ below Qc XC args s mc ms free) (F0 m pc ls rest) q := by
  intro T hT X
  have hpl : e.platform.magicAccessors = ({} : Platform).magicAccessors := by rw [X.admits.platform]
  obtain ⟨vm', hW', X', st⟩ := X.outThrough hlocks q (g := F0 m pc ls rest) rfl rfl rfl (cell := ce) (by rw [hT]; exact hcell) (by rw [hv]; rfl)
    (by obtain ⟨k9, h9, -⟩ := Vm.findClass_spec hcl; exact ⟨k9, h9⟩) (fun z hz => by
      rcases hpass z hz with h | ⟨hz0, nm, hl1, hn1⟩
      · exact Or.inl h
      · obtain ⟨c6, hc6, hcl6⟩ := Cond.classLink_spec hown hl1 e.platform hpl
        obtain ⟨a8, b8, h1, h2, h3⟩ := hn1
        cases Option.some.inj (h1.symm.trans hcl)
        cases Option.some.inj (h2.symm.trans hc6)
        exact Or.inr ⟨hz0, _, hcl6, h3⟩)
  obtain ⟨g₀, hfr⟩ := X'.frames_eq
  have hcell9 : ((T.setVm vm').setFrames (.throwing q :: below)).heap[q]? = some ce := by
    show T.heap[q]? = some ce
    rw [hT]; exact hcell
  have hend : Ended ((T.setVm vm').setFrames (.throwing q :: below)) below (.threw q) := State.frames_setFrames _ (State.cur_lt_of_frames hfr)
  refine ⟨(T.setVm vm').setFrames (.throwing q :: below), ?_, .threw q, X'.here.running, hend, Or.inr ⟨q, rfl, E, ce, locs, hx _ hT (X'.ends _).1.alike, hcell9, hv, hcl, (X'.ends _).1, (X'.ends _).2.mono hc hs, hf⟩⟩
  rw [X.pushThrowing_eq]
  exact st
theorem vx_lt {D : va_G} {cl : List vw_C} {ws : va_W} {H1 : Heap} (h : va_P D cl ws H1) {k : Nat} {q : Nat × va_E} (hk : ws[k]? = some q) : q.1 < H1.size := (h k q hk).lt
end VXS
section VXH
section
variable {l : Launch} {R : Room} {p : Program} {e : Env} {below : List Frame} {s : State} {sargs : Array Value} {y : MethodName} {len W9 : Nat}
theorem vx_backW {ws : List Cond} {rm : Room} {Pc : Array Value → State → Prop} {Qc : Array Value → State → Outcome → State → Prop} {XC : String → State → State → Prop} {mc ms : Nat} {free : Addr → Prop} {bytes : ByteArray} {maxL : Nat} {ret : Option FieldType} {hh : List (Nat × Nat × Nat × Nat)}
    (hM : vx_Met l y ws rm Pc Qc XC mc ms free) (hblind : FrameBlind Pc) (hrc : rm.cells = mc) (hrs : rm.slots = ms)
    (hframes : rm.frames + 1 ≤ R.frames) (hlocals : W9 + (maxL + 11) + rm.locals ≤ R.locals)
    (hws : ∀ w ∈ ws, ∀ a' U, s.WarmedH U.vm → w.before a' U = true) (hcode : Cond.codeWith y bytes maxL ret hh ∈ ws) (hinit : ∀ a' U, s.WarmedH U.vm → (Cond.initialized y.cls).before a' U = true) :
    vx_Back l R p e below s sargs y len W9 (PreOf R mc ms Pc) (PostOf Qc mc ms free) (vx_Post XC mc ms free) := by
  intro m meth c A g ig mk a X hg hsize hdg hW hn hp
  have h1 : (headSpec ws rm).pre.before a A.U = true := atoms_intro fun w hw => hws w hw _ _ X.warmed
  have h2 : (Cond.codeWith y bytes maxL ret hh).before a A.U = true := hws _ hcode _ _ X.warmed
  have h3 : (Cond.initialized y.cls).before a A.U = true := hinit _ _ X.warmed
  have h4 : A.cells + (headSpec ws rm).room.cells ≤ R.cells := by rw [show (headSpec ws rm).room.cells = mc from hrc]; exact hp.1
  have h5 : A.slots + (headSpec ws rm).room.slots ≤ R.slots := by rw [show (headSpec ws rm).room.slots = ms from hrs]; exact hp.2.1
  have hPc : Pc a (A.U.calling g mk a) := hblind _ _ _ _ hp.2.2
  obtain ⟨U, Ls, c0, s0⟩ := A
  dsimp only [Pt.U, Pt.locs, Pt.cells, Pt.slots] at h1 h2 h3 h4 h5 X hn hPc ⊢
  obtain ⟨m9, methY, cY, hn9, hmY, hcY, -, hlY, -⟩ := Cond.codeWith_spec h2
  cases Option.some.inj (hn9.symm.trans hn)
  obtain ⟨kY, hkY, -⟩ := className_of_methodNamed hn
  have hinitY : kY.init = .initialized := Cond.initialized_spec (findClass_of_methodNamed hn) hkY h3
  have h : At U g.method c below := by rw [hg]; exact X.here
  have hlocals9 : W9 + (maxL + 11) + (headSpec ws rm).room.locals ≤ R.locals := hlocals
  have happ : (headSpec ws rm).appliesLoose y e.platform (U.calling g mk a) = true :=
    Spec.appliesLoose_calling (g := g) h hdg hn hkY hinitY
      (X.room_calling (g := g) (R' := (headSpec ws rm).room) hsize hmY hcY hframes (by rw [hlY]; omega) h4 h5) h1
  obtain ⟨mid, hmid⟩ := h.above
  have hfr : (U.setTop g).frames = (.java g :: mid) ++ below := by rw [State.frames_setTop' g h.top, hmid]; rfl
  obtain ⟨o, s₂, hsteps, -, hend, hq⟩ := Steps.callFree hM p X.admits X.cas X.clock (acts := []) hfr happ hPc trivial
  have hq' : vx_Q Qc XC mc ms free a (U.calling g mk a) o s₂ := hq
  rw [State.frames_setTop' g h.top] at hend
  obtain ⟨g₀, hg0⟩ := Option.isSome_iff_exists.mp h.top
  obtain ⟨r, hr⟩ := State.topJava?_eq_some.mp hg0
  have hr' : (({ U with heap := s₂.heap, slotsUsed := s₂.slotsUsed } : State).setVm s₂.vm).frames = .java g₀ :: r := hr
  rcases hq' with ⟨hqc, L, hfe, hL⟩ | ⟨q, rfl, E, ce, L, hx, hce, hcv, hcl, hW₂, hsm, hL⟩
  · obtain ⟨⟨v, rfl⟩, hW₂, e2, q2, q3, q4, q5, q6⟩ := id hfe
    have e3 : s₂ = ({ (U.calling g mk a).setFrames s₂.frames with heap := s₂.heap, slotsUsed := s₂.slotsUsed } : State).setVm s₂.vm := by
      have : s₂ = ({ s₂ with vm := (U.calling g mk a).vm } : State).setVm s₂.vm := rfl
      rw [e2] at this
      exact this
    obtain ⟨c₂, i₂, len₂, hc₂, hd₂, hf₂⟩ := hend
    have hW' : U.WarmedH s₂.vm := hW₂
    have hcc : c₂ = c := by
      have h1 : s₂.code? g.method = U.code? g.method := by
        rw [State.code?_eq, State.code?_eq, hW'.alike.method?]
      exact Option.some.inj (hc₂.symm.trans (h1.trans h.code))
    subst hcc
    have hlen : len₂ = len := by rw [hdg] at hd₂; cases hd₂; rfl
    subst hlen
    have hs₂ : s₂ = (({ U with heap := s₂.heap, slotsUsed := s₂.slotsUsed } : State).setVm s₂.vm).setTop { g with pc := g.pc + len₂, stack := v.toList ++ g.stack } := by
      refine e3.trans ?_
      rw [hf₂, State.calling_eq h.top, State.setFrames_setFrames, State.setTop_of_frames _ hr', hr]
      rfl
    have hsame : U.sameButNew ({ U with heap := s₂.heap, slotsUsed := s₂.slotsUsed } : State) L mc ms := by
      refine ⟨?_, q2, q3, q4, q5, q6⟩
      obtain ⟨t, ht, -⟩ := State.frames_cons hr
      show ({ U with heap := s₂.heap, slotsUsed := s₂.slotsUsed } : State) = { U.setFrames U.frames with heap := s₂.heap, slotsUsed := s₂.slotsUsed }
      rw [State.setFrames_self ht]
    subst hg
    refine Or.inl ⟨v, ⟨(({ U with heap := s₂.heap, slotsUsed := s₂.slotsUsed } : State).setVm s₂.vm), Ls ++ L, c0 + mc, s0 + ms⟩,
      ⟨X.admits, X.cas, X.clock, X.frames, X.room, X.hears, X.method, X.code, (X.here.setHeapUsed s₂.heap s₂.slotsUsed).setVm hW'.alike, X.tail, State.WarmedH.trans X.warmed hW', X.limits, X.bytes, X.same.trans (hsame.setVm s.vm)⟩,
      ⟨g, mk, s₂, L, rfl, rfl, hqc, rfl, hL, rfl, rfl⟩, ?_⟩
    show Steps p.tables e below _ ((({ U with heap := s₂.heap, slotsUsed := s₂.slotsUsed } : State).setVm s₂.vm).setTop { g with pc := g.pc + len₂, stack := v.toList ++ g.stack })
    rw [← hs₂]
    exact hsteps
  · obtain ⟨e2, q2, q3, q4, q5, q6⟩ := id hsm
    have e3 : s₂ = ({ (U.calling g mk a).setFrames s₂.frames with heap := s₂.heap, slotsUsed := s₂.slotsUsed } : State).setVm s₂.vm := by
      have : s₂ = ({ s₂ with vm := (U.calling g mk a).vm } : State).setVm s₂.vm := rfl
      rw [e2] at this
      exact this
    have hf₂ : s₂.frames = .throwing q :: .java g :: U.frames.tail := hend
    have hW' : U.WarmedH s₂.vm := hW₂
    have hs₂ : s₂ = ((({ U with heap := s₂.heap, slotsUsed := s₂.slotsUsed } : State).setVm s₂.vm).setTop g).pushFrame (.throwing q) := by
      refine e3.trans ?_
      rw [hf₂, State.calling_eq h.top, State.setFrames_setFrames, State.pushFrame, State.frames_setTop _ hr', State.setTop_of_frames _ hr', State.setFrames_setFrames, hr]
      rfl
    have hsame : U.sameButNew ({ U with heap := s₂.heap, slotsUsed := s₂.slotsUsed } : State) L mc ms := by
      refine ⟨?_, q2, q3, q4, q5, q6⟩
      obtain ⟨t, ht, -⟩ := State.frames_cons hr
      show ({ U with heap := s₂.heap, slotsUsed := s₂.slotsUsed } : State) = { U.setFrames U.frames with heap := s₂.heap, slotsUsed := s₂.slotsUsed }
      rw [State.setFrames_self ht]
    subst hg
    refine Or.inr ⟨q, ⟨(({ U with heap := s₂.heap, slotsUsed := s₂.slotsUsed } : State).setVm s₂.vm), Ls ++ L, c0 + mc, s0 + ms⟩,
      ⟨X.admits, X.cas, X.clock, X.frames, X.room, X.hears, X.method, X.code, (X.here.setHeapUsed s₂.heap s₂.slotsUsed).setVm hW'.alike, X.tail, State.WarmedH.trans X.warmed hW', X.limits, X.bytes, X.same.trans (hsame.setVm s.vm)⟩,
      ⟨g, mk, s₂, L, E, ce, rfl, rfl, hx, hce, hcv, hcl, rfl, hL, rfl, rfl⟩, ?_⟩
    show Steps p.tables e below _ (((({ U with heap := s₂.heap, slotsUsed := s₂.slotsUsed } : State).setVm s₂.vm).setTop g).pushFrame (.throwing q))
    rw [← hs₂]
    exact hsteps
end
variable {p : Program} {l : Launch} {e : Env} {R : Room} {s : State} {m : MethodId} {args : Array Value} {below : List Frame} {meth : Method} {c : Code} {T : State} {H : Heap} {locs : List Loc} {cells slots : Nat}
theorem vx_callVX (X : Stand p l e R s m args below meth c T locs cells slots) (hexec : p.tables.exec = Jvm.exec) {own C : String} {index : Nat} {y : MethodName} {bytes : ByteArray} {maxL : Nat} {ret : Option FieldType} {hh : List (Nat × Nat × Nat × Nat)}
    (hown : s.vm.findClass own = some m.cls) (hlink : (Cond.methodLink own index y).before args s = true) (hinst : (Cond.instanceMethod y).before args s = true) (hsel : (Cond.selects C y y).before args s = true)
    (hcode : (Cond.codeWith y bytes maxL ret hh).before args s = true) (hy : y.cls ≠ "java/lang/invoke/MethodHandle" ∧ y.cls ≠ "java/lang/invoke/VarHandle")
    {W9 : Nat} {Pre : Pt → Array Value → Prop} {Post : Pt → Array Value → Option Value → Pt → Prop} {PostX : Pt → Array Value → Addr → Pt → Prop} (hK : vx_Back l R p e below s args y 3 W9 Pre Post PostX)
    {b : Addr} {cellB : Cell} (hcell : T.heap[b]? = some cellB) (hobj : cellB.vm.isStatics = false) (hcls : s.vm.findClass C = some cellB.cls)
    {g : JFrame} (hg : g.method = m) (hsize : g.locals.size = c.maxLocals) {argsL rest : List Value} (hlen : ∀ sig, parseMethodDescriptor y.desc = some sig → argsL.length = sig.parameters.length)
    (hstack : g.stack = argsL.reverse ++ .ref b :: rest) (hW : 2 * g.monitorRoom + (rest.map fun v => v.category).sum ≤ W9) (hdg : decode c.code g.pc = .ok (.invokevirtual index, 3))
    (hpre : ∀ vm₁, s.WarmedH vm₁ → Pre ⟨T.setVm vm₁, locs, cells, slots⟩ (Value.ref b :: argsL).toArray) :
    (∃ (v : Option Value) (vm₁ : Vm) (B : Pt), s.WarmedH vm₁ ∧ Stand p l e R s m args below meth c B.U B.locs B.cells B.slots ∧ Post ⟨T.setVm vm₁, locs, cells, slots⟩ (Value.ref b :: argsL).toArray v B ∧
      ∀ target, Steps p.tables e below (B.U.setTop { g with pc := g.pc + 3, stack := v.toList ++ rest }) target → Steps p.tables e below (T.setTop g) target) ∨
    (∃ (q : Addr) (vm₁ : Vm) (B : Pt), s.WarmedH vm₁ ∧ Stand p l e R s m args below meth c B.U B.locs B.cells B.slots ∧ PostX ⟨T.setVm vm₁, locs, cells, slots⟩ (Value.ref b :: argsL).toArray q B ∧
      Steps p.tables e below (T.setTop g) ((B.U.setTop { g with stack := rest }).pushFrame (.throwing q))) := by
  obtain ⟨mk, methM, hnamed, hmethM, hstM, habM⟩ := Cond.instanceMethod_spec hinst
  obtain ⟨m8, methM', cM, hn8, hmethM', -, -, -, -, -, -, hsigM⟩ := Cond.codeWith_spec hcode
  cases Option.some.inj (hn8.symm.trans hnamed)
  cases hmethM.symm.trans hmethM'
  obtain ⟨c2, r2, m2, q1, q2, q3, q4, kP, hkP, hkPi⟩ := Cond.selects_spec hsel
  cases hcls.symm.trans q1
  cases (State.methodFound?_of_named hnamed hy).symm.trans q2
  cases hnamed.symm.trans q3
  have hselP : selectMethod e.platform s.vm cellB.cls mk = .method mk := by rw [Launch.admits_selectMethod X.admits]; exact q4
  obtain ⟨vm₁, X₁, hstep₁⟩ := X.invokevirtual hexec hown hlink hnamed hmethM hstM hkP hkPi hy (a := b) (cell := cellB) hcell
    (fun z h => by rw [h] at hobj; cases hobj) hselP hmethM habM hkP hkPi (g := g) hg (argsL := argsL) (rest := rest) (hlen _ hsigM) hstack hdg
  rcases hK m meth c ⟨T.setVm vm₁, locs, cells, slots⟩ { g with stack := rest } (.invokevirtual index) mk (Value.ref b :: argsL).toArray X₁ hg hsize hdg hW (X₁.named hnamed) (hpre vm₁ X₁.warmed) with ⟨v, B, X', hpost, hsteps⟩ | ⟨q, B, X', hpost, hsteps⟩
  · exact Or.inl ⟨v, vm₁, B, X₁.warmed, X', hpost, fun target h => hstep₁ _ fun acts => by rw [doInvoke_state]; exact hsteps.trans h⟩
  · exact Or.inr ⟨q, vm₁, B, X₁.warmed, X', hpost, hstep₁ _ fun acts => by rw [doInvoke_state]; exact hsteps⟩
theorem vx_callSX (X : Stand p l e R s m args below meth c T locs cells slots) (hexec : p.tables.exec = Jvm.exec) {own : String} {index : Nat} {y : MethodName} {bytes : ByteArray} {maxL : Nat} {ret : Option FieldType} {hh : List (Nat × Nat × Nat × Nat)}
    (hown : s.vm.findClass own = some m.cls) (hlink : (Cond.methodLink own index y).before args s = true) (hstat : (Cond.static y).before args s = true) (hinit : (Cond.initialized y.cls).before args s = true)
    (hcode : (Cond.codeWith y bytes maxL ret hh).before args s = true) (hy : y.cls ≠ "java/lang/invoke/MethodHandle" ∧ y.cls ≠ "java/lang/invoke/VarHandle")
    {W9 : Nat} {Pre : Pt → Array Value → Prop} {Post : Pt → Array Value → Option Value → Pt → Prop} {PostX : Pt → Array Value → Addr → Pt → Prop} (hK : vx_Back l R p e below s args y 3 W9 Pre Post PostX)
    {g : JFrame} (hg : g.method = m) (hsize : g.locals.size = c.maxLocals) {argsL rest : List Value} (hlen : ∀ sig, parseMethodDescriptor y.desc = some sig → argsL.length = sig.parameters.length)
    (hstack : g.stack = argsL.reverse ++ rest) (hW : 2 * g.monitorRoom + (rest.map fun v => v.category).sum ≤ W9) (hdg : decode c.code g.pc = .ok (.invokestatic index, 3))
    (hpre : ∀ vm₁, s.WarmedH vm₁ → Pre ⟨T.setVm vm₁, locs, cells, slots⟩ argsL.toArray) :
    (∃ (v : Option Value) (vm₁ : Vm) (B : Pt), s.WarmedH vm₁ ∧ Stand p l e R s m args below meth c B.U B.locs B.cells B.slots ∧ Post ⟨T.setVm vm₁, locs, cells, slots⟩ argsL.toArray v B ∧
      ∀ target, Steps p.tables e below (B.U.setTop { g with pc := g.pc + 3, stack := v.toList ++ rest }) target → Steps p.tables e below (T.setTop g) target) ∨
    (∃ (q : Addr) (vm₁ : Vm) (B : Pt), s.WarmedH vm₁ ∧ Stand p l e R s m args below meth c B.U B.locs B.cells B.slots ∧ PostX ⟨T.setVm vm₁, locs, cells, slots⟩ argsL.toArray q B ∧
      Steps p.tables e below (T.setTop g) ((B.U.setTop { g with stack := rest }).pushFrame (.throwing q))) := by
  obtain ⟨mk, methM, cM, hnamed, hmethM, -, -, -, -, -, -, hsigM⟩ := Cond.codeWith_spec hcode
  have hstatic : methM.isStatic = true := Cond.static_spec hnamed hmethM hstat
  obtain ⟨kP, hkP, -⟩ := className_of_methodNamed hnamed
  have hinitP : kP.init = .initialized := Cond.initialized_spec (findClass_of_methodNamed hnamed) hkP hinit
  obtain ⟨vm₁, X₁, hstep₁⟩ := X.invokestatic hexec hown hlink hnamed hmethM hstatic hkP hinitP hy (g := g) hg (argsL := argsL) (rest := rest) (hlen _ hsigM) hstack hdg
  rcases hK m meth c ⟨T.setVm vm₁, locs, cells, slots⟩ { g with stack := rest } (.invokestatic index) mk argsL.toArray X₁ hg hsize hdg hW (X₁.named hnamed) (hpre vm₁ X₁.warmed) with ⟨v, B, X', hpost, hsteps⟩ | ⟨q, B, X', hpost, hsteps⟩
  · exact Or.inl ⟨v, vm₁, B, X₁.warmed, X', hpost, fun target h => hstep₁ _ fun acts => by rw [doInvoke_state]; exact hsteps.trans h⟩
  · exact Or.inr ⟨q, vm₁, B, X₁.warmed, X', hpost, hstep₁ _ fun acts => by rw [doInvoke_state]; exact hsteps⟩
theorem vx_callVW (X : Stand p l e R s m args below meth c T locs cells slots) (hexec : p.tables.exec = Jvm.exec) {own C : String} {index : Nat} {y : MethodName} {bytes : ByteArray} {maxL : Nat} {ret : Option FieldType} {hh : List (Nat × Nat × Nat × Nat)}
    (hown : s.vm.findClass own = some m.cls) (hlink : (Cond.methodLink own index y).before args s = true) (hinst : (Cond.instanceMethod y).before args s = true) (hsel : (Cond.selects C y y).before args s = true)
    (hcode : (Cond.codeWith y bytes maxL ret hh).before args s = true) (hy : y.cls ≠ "java/lang/invoke/MethodHandle" ∧ y.cls ≠ "java/lang/invoke/VarHandle")
    {W9 : Nat} {Pre : Pt → Array Value → Prop} {Post : Pt → Array Value → Option Value → Pt → Prop} (hK : Back l R p e below s args y 3 W9 Pre Post)
    {b : Addr} {cellB : Cell} (hcell : T.heap[b]? = some cellB) (hobj : cellB.vm.isStatics = false) (hcls : s.vm.findClass C = some cellB.cls)
    {g : JFrame} (hg : g.method = m) (hsize : g.locals.size = c.maxLocals) {argsL rest : List Value} (hlen : ∀ sig, parseMethodDescriptor y.desc = some sig → argsL.length = sig.parameters.length)
    (hstack : g.stack = argsL.reverse ++ .ref b :: rest) (hW : 2 * g.monitorRoom + (rest.map fun v => v.category).sum ≤ W9) (hdg : decode c.code g.pc = .ok (.invokevirtual index, 3))
    (hpre : ∀ vm₁, s.WarmedH vm₁ → Pre ⟨T.setVm vm₁, locs, cells, slots⟩ (Value.ref b :: argsL).toArray) :
    ∃ (v : Option Value) (vm₁ : Vm) (B : Pt), s.WarmedH vm₁ ∧ Stand p l e R s m args below meth c B.U B.locs B.cells B.slots ∧ Post ⟨T.setVm vm₁, locs, cells, slots⟩ (Value.ref b :: argsL).toArray v B ∧
      ∀ target, Steps p.tables e below (B.U.setTop { g with pc := g.pc + 3, stack := v.toList ++ rest }) target → Steps p.tables e below (T.setTop g) target := by
  obtain ⟨mk, methM, hnamed, hmethM, hstM, habM⟩ := Cond.instanceMethod_spec hinst
  obtain ⟨m8, methM', cM, hn8, hmethM', -, -, -, -, -, -, hsigM⟩ := Cond.codeWith_spec hcode
  cases Option.some.inj (hn8.symm.trans hnamed)
  cases hmethM.symm.trans hmethM'
  obtain ⟨c2, r2, m2, q1, q2, q3, q4, kP, hkP, hkPi⟩ := Cond.selects_spec hsel
  cases hcls.symm.trans q1
  cases (State.methodFound?_of_named hnamed hy).symm.trans q2
  cases hnamed.symm.trans q3
  have hselP : selectMethod e.platform s.vm cellB.cls mk = .method mk := by rw [Launch.admits_selectMethod X.admits]; exact q4
  obtain ⟨vm₁, X₁, hstep₁⟩ := X.invokevirtual hexec hown hlink hnamed hmethM hstM hkP hkPi hy (a := b) (cell := cellB) hcell
    (fun z h => by rw [h] at hobj; cases hobj) hselP hmethM habM hkP hkPi (g := g) hg (argsL := argsL) (rest := rest) (hlen _ hsigM) hstack hdg
  obtain ⟨v, B, X', hpost, hsteps⟩ := hK m meth c ⟨T.setVm vm₁, locs, cells, slots⟩ { g with stack := rest } (.invokevirtual index) mk (Value.ref b :: argsL).toArray X₁ hg hsize hdg hW (X₁.named hnamed) (hpre vm₁ X₁.warmed)
  exact ⟨v, vm₁, B, X₁.warmed, X', hpost, fun target h => hstep₁ _ fun acts => by rw [doInvoke_state]; exact hsteps.trans h⟩
abbrev vx_CVW (R : Room) (s : State) (args : Array Value) (own C : String) (index : Nat) (y : MethodName) (bytes : ByteArray) (maxL : Nat) (ret : Option FieldType) (hh : List (Nat × Nat × Nat × Nat)) (ws : List Cond) (rm : Room) (mc ms n : Nat) : Prop :=
  (rm.cells = mc ∧ rm.slots = ms ∧ rm.frames + 1 ≤ R.frames ∧ 8 + (maxL + 11) + rm.locals ≤ R.locals ∧ (∀ w ∈ ws, ∀ (a' : Array Value) (U : State), s.WarmedH U.vm → w.before a' U = true) ∧ Cond.codeWith y bytes maxL ret hh ∈ ws) ∧
  (Cond.codeWith y bytes maxL ret hh).before args s = true ∧ (Cond.initialized y.cls).before args s = true ∧ (y.cls ≠ "java/lang/invoke/MethodHandle" ∧ y.cls ≠ "java/lang/invoke/VarHandle") ∧
  (∀ sig, parseMethodDescriptor y.desc = some sig → n = sig.parameters.length) ∧ (Cond.methodLink own index y).before args s = true ∧ (Cond.instanceMethod y).before args s = true ∧ (Cond.selects C y y).before args s = true
theorem vx_cwVW {own C : String} {index maxL mc ms : Nat} {y : MethodName} {bytes : ByteArray} {ret : Option FieldType} {hh : List (Nat × Nat × Nat × Nat)} {Ts ws ws' : List Cond} {rm : Room} (n : Nat) (ht : ∀ w ∈ Ts, w.before args s = true) (hT : GoodIn Ts (wsV own index C y ws)) (hw : ws = Cond.codeWith y bytes maxL ret hh :: ws') (hrc : rm.cells = mc) (hrs : rm.slots = ms)
    (hd : y.cls = C ∧ y.cls ≠ "java/lang/invoke/MethodHandle" ∧ y.cls ≠ "java/lang/invoke/VarHandle" ∧ (parseMethodDescriptor y.desc).map (fun d => d.parameters.length) = some n) (hR : rm.frames + 1 ≤ R.frames ∧ 8 + (maxL + 11) + rm.locals ≤ R.locals) :
    vx_CVW R s args own C index y bytes maxL ret hh ws rm mc ms n := by
  obtain ⟨hC, hd⟩ := hd
  subst hC
  have ok : ∀ w ∈ wsV own index y.cls y ws, w.before args s = true := fun w h => ht w (hT w h).1
  have hG : GoodIn Ts ws := fun w h => hT w (by unfold wsV; exact List.mem_append_right _ h)
  have hc : Cond.codeWith y bytes maxL ret hh ∈ ws := by rw [hw]; exact List.mem_cons_self
  refine ⟨⟨hrc, hrs, hR.1, hR.2, pay_in ht hG, hc⟩, ht _ (hG _ hc).1, ok _ (by simp [wsV]), ⟨hd.1, hd.2.1⟩, fun sig h => ?_, ok _ (by simp [wsV]), ok _ (by simp [wsV]), ok _ (by simp [wsV])⟩
  have h2 := hd.2.2
  rw [h] at h2
  exact (Option.some.inj h2).symm
theorem vx_runVW {y : MethodName} {bytes cc : ByteArray} {maxL nL mc ms n index : Nat} {ret : Option FieldType} {hh : List (Nat × Nat × Nat × Nat)} {ws : List Cond} {rm : Room} {Pc : Array Value → State → Prop} {Qc : Array Value → State → Outcome → State → Prop} {free : Addr → Prop} {Ts : List Cond} {own C : String} {b : Addr} {As rest : List Value} {g : JFrame}
    (S : CallFix p m c cc nL s args Ts own) (hM : Met l y ws rm Pc Qc mc ms free) (cw : vx_CVW R s args own C index y bytes maxL ret hh ws rm mc ms n) (hp : PreV s H C b Pc As)
    (hg : g.method = m) (hn : As.length = n) (hsize : g.locals.size = nL) (hstack : g.stack = As.reverse ++ .ref b :: rest) (hW : 2 * g.monitorRoom + (rest.map fun v => v.category).sum ≤ 8) (hdg : decode cc g.pc = .ok (.invokevirtual index, 3)) (hf : cells + mc ≤ R.cells ∧ slots + ms ≤ R.slots) :
    va_Run p l e R s m args below meth c H locs cells slots mc ms g rest (Qc (Value.ref b :: As).toArray) free := by
  obtain ⟨⟨hrc, hrs, hfr, hlo, hws, hcw⟩, hcode, hini, hy, hlen, hl, hin, hse⟩ := cw
  have hK : Back l R p e below s args y 3 8 (PreOf R mc ms Pc) (PostOf Qc mc ms free) := va_backW (hh := hh) (bytes := bytes) (maxL := maxL) (ret := ret) hM hp.1 hrc hrs hfr hlo hws hcw (fun a' U hW => word_at hW (Or.inl (by first | rfl | simp [Cond.onTables, Cond.keeps, Cond.steady])) hini)
  obtain ⟨hx, hb, hml, ho, -⟩ := S
  obtain ⟨-, ⟨cellB, hcB, hoB, hclB⟩, hPc⟩ := hp
  intro T hT X
  obtain ⟨v, vm₁, ⟨U', l2, c2, s2⟩, hW₁, X', ⟨g', mk, t, L, e1, e2, hq, h1, hL, h2, h3⟩, st⟩ := vx_callVW X hx (C := C) (hh := hh) (bytes := bytes) (maxL := maxL) (ret := ret) ho hl hin hse hcode hy hK (by rw [hT]; exact hcB) hoB hclB hg (hsize.trans hml.symm) (argsL := As) (rest := rest) (fun sig h => hn.trans (hlen sig h)) hstack hW (by rw [hb]; exact hdg)
    (fun vm₁ hW₁ => ⟨hf.1, hf.2, hPc (T.setVm vm₁) hT hW₁⟩)
  dsimp only [Pt.U, Pt.locs, Pt.cells, Pt.slots] at X' e1 e2 h1 h2 h3 st
  subst h1; subst h2; subst h3
  exact ⟨v, (T.setVm vm₁).calling g' mk (Value.ref b :: As).toArray, t, U', L, hT, X', hL, e1, e2, hq, st⟩
section
variable {y : MethodName} {bytes cc : ByteArray} {maxL nL mc ms n index : Nat} {ret : Option FieldType} {ws : List Cond} {rm : Room} {Pc : Array Value → State → Prop} {Qc : Array Value → State → Outcome → State → Prop} {XC : String → State → State → Prop} {free : Addr → Prop} {Ts : List Cond} {own C : String} {b : Addr} {As rest : List Value} {g : JFrame}
theorem vx_runVX {hh : List (Nat × Nat × Nat × Nat)} (S : CallFix p m c cc nL s args Ts own) (hM : vx_Met l y ws rm Pc Qc XC mc ms free) (cw : vx_CVW R s args own C index y bytes maxL ret hh ws rm mc ms n) (hp : PreV s H C b Pc As)
    (hg : g.method = m) (hn : As.length = n) (hsize : g.locals.size = nL) (hstack : g.stack = As.reverse ++ .ref b :: rest) (hW : 2 * g.monitorRoom + (rest.map fun v => v.category).sum ≤ 8) (hdg : decode cc g.pc = .ok (.invokevirtual index, 3)) (hf : cells + mc ≤ R.cells ∧ slots + ms ≤ R.slots) :
    vx_Run p l e R s m args below meth c H locs cells slots mc ms g rest (Qc (Value.ref b :: As).toArray) XC free := by
  obtain ⟨⟨hrc, hrs, hfr, hlo, hws, hcw⟩, hcode, hini, hy, hlen, hl, hin, hse⟩ := cw
  have hK : vx_Back l R p e below s args y 3 8 (PreOf R mc ms Pc) (PostOf Qc mc ms free) (vx_Post XC mc ms free) := vx_backW (hh := hh) (bytes := bytes) (maxL := maxL) (ret := ret) hM hp.1 hrc hrs hfr hlo hws hcw (fun a' U hW => word_at hW (Or.inl (by first | rfl | simp [Cond.onTables, Cond.keeps, Cond.steady])) hini)
  obtain ⟨hx, hb, hml, ho, -⟩ := S
  obtain ⟨-, ⟨cellB, hcB, hoB, hclB⟩, hPc⟩ := hp
  intro T hT X
  rcases vx_callVX X hx (C := C) (hh := hh) (bytes := bytes) (maxL := maxL) (ret := ret) ho hl hin hse hcode hy hK (by rw [hT]; exact hcB) hoB hclB hg (hsize.trans hml.symm) (argsL := As) (rest := rest) (fun sig h => hn.trans (hlen sig h)) hstack hW (by rw [hb]; exact hdg)
    (fun vm₁ hW₁ => ⟨hf.1, hf.2, hPc (T.setVm vm₁) hT hW₁⟩) with ⟨v, vm₁, ⟨U', l2, c2, s2⟩, hW₁, X', ⟨g', mk, t, L, e1, e2, hq, h1, hL, h2, h3⟩, st⟩ | ⟨q, vm₁, ⟨U', l2, c2, s2⟩, hW₁, X', ⟨g', mk, t, L, E, ce, e1, e2, hq, hce, hcv, hcl, h1, hL, h2, h3⟩, st⟩
  · dsimp only [Pt.U, Pt.locs, Pt.cells, Pt.slots] at X' e1 e2 h1 h2 h3 st
    subst h1; subst h2; subst h3
    exact Or.inl ⟨v, (T.setVm vm₁).calling g' mk (Value.ref b :: As).toArray, t, U', L, hT, X', hL, e1, e2, hq, st⟩
  · dsimp only [Pt.U, Pt.locs, Pt.cells, Pt.slots] at X' e1 e2 h1 h2 h3 st hcl
    subst h1; subst h2; subst h3
    exact Or.inr ⟨q, (T.setVm vm₁).calling g' mk (Value.ref b :: As).toArray, t, U', L, E, ce, hT, X', hL, e1, e2, hq, hce, hcv, vx_cls hW₁ hcl, st⟩
theorem vx_runSX {hh : List (Nat × Nat × Nat × Nat)} (S : CallFix p m c cc nL s args Ts own) (hM : vx_Met l y ws rm Pc Qc XC mc ms free) (cw : vx_CSW R s args own index y bytes maxL ret hh ws rm mc ms n) (hp : PreS s H Pc As)
    (hg : g.method = m) (hn : As.length = n) (hsize : g.locals.size = nL) (hstack : g.stack = As.reverse ++ rest) (hW : 2 * g.monitorRoom + (rest.map fun v => v.category).sum ≤ 8) (hdg : decode cc g.pc = .ok (.invokestatic index, 3)) (hf : cells + mc ≤ R.cells ∧ slots + ms ≤ R.slots) :
    vx_Run p l e R s m args below meth c H locs cells slots mc ms g rest (Qc As.toArray) XC free := by
  obtain ⟨⟨hrc, hrs, hfr, hlo, hws, hcw⟩, hcode, hini, hy, hlen, hl, hstt⟩ := cw
  have hK : vx_Back l R p e below s args y 3 8 (PreOf R mc ms Pc) (PostOf Qc mc ms free) (vx_Post XC mc ms free) := vx_backW (hh := hh) (bytes := bytes) (maxL := maxL) (ret := ret) hM hp.1 hrc hrs hfr hlo hws hcw (fun a' U hW => word_at hW (Or.inl (by first | rfl | simp [Cond.onTables, Cond.keeps, Cond.steady])) hini)
  obtain ⟨hx, hb, hml, ho, -⟩ := S
  intro T hT X
  rcases vx_callSX X hx (hh := hh) (bytes := bytes) (maxL := maxL) (ret := ret) ho hl hstt hini hcode hy hK hg (hsize.trans hml.symm) (argsL := As) (rest := rest) (fun sig h => hn.trans (hlen sig h)) hstack hW (by rw [hb]; exact hdg)
    (fun vm₁ hW₁ => ⟨hf.1, hf.2, hp.2 (T.setVm vm₁) hT hW₁⟩) with ⟨v, vm₁, ⟨U', l2, c2, s2⟩, hW₁, X', ⟨g', mk, t, L, e1, e2, hq, h1, hL, h2, h3⟩, st⟩ | ⟨q, vm₁, ⟨U', l2, c2, s2⟩, hW₁, X', ⟨g', mk, t, L, E, ce, e1, e2, hq, hce, hcv, hcl, h1, hL, h2, h3⟩, st⟩
  · dsimp only [Pt.U, Pt.locs, Pt.cells, Pt.slots] at X' e1 e2 h1 h2 h3 st
    subst h1; subst h2; subst h3
    exact Or.inl ⟨v, (T.setVm vm₁).calling g' mk As.toArray, t, U', L, hT, X', hL, e1, e2, hq, st⟩
  · dsimp only [Pt.U, Pt.locs, Pt.cells, Pt.slots] at X' e1 e2 h1 h2 h3 st hcl
    subst h1; subst h2; subst h3
    exact Or.inr ⟨q, (T.setVm vm₁).calling g' mk As.toArray, t, U', L, E, ce, hT, X', hL, e1, e2, hq, hce, hcv, vx_cls hW₁ hcl, st⟩
end
end VXH
theorem vx_ofWH {l : Launch} {y : MethodName} {ws ws' : List Cond} {rm : Room} {Pc : Array Value → State → Prop} {Qc : Array Value → State → Outcome → State → Prop} {XC : String → State → State → Prop} {mc ms : Nat} {free : Addr → Prop} {cc : ByteArray} {maxL : Nat} {ret : Option FieldType} {hh : List (Nat × Nat × Nat × Nat)}
    (hy : plainName y.cls = true) (hw : ws = Cond.codeWith y cc maxL ret hh :: ws')
    (body : ∀ p e s m args below meth c s₁, BodyLoose p l y (headSpec ws rm) cc maxL ret e s m args below meth c s₁ → c.maxLocals = maxL → Pc args s →
      W p l e (headSpec ws rm).room s m args below meth c s.heap [] 0 0 (vx_MQ below Qc XC args s mc ms free) (entryFrame m args maxL)) : vx_Met l y ws rm Pc Qc XC mc ms free := by
  refine MetFree.of_bodyS (code := cc) (maxLocals := maxL) (ret := ret) hy ?_ ?_
  · intro args s m h hn
    obtain ⟨m9, meth, c, hn9, h1, h2, h3, h4, -, h5, h6, -⟩ := Cond.codeWith_spec (atoms_spec (ws := ws) h _ (by rw [hw]; exact List.mem_cons_self))
    cases hn.symm.trans hn9
    exact ⟨meth, c, h1, h2, h3, h4, h5, h6⟩
  · intro p e s m args below meth c s₁ B hml hP _
    have hh0 : s₁.heap = s.heap := by rw [B.state]; rfl
    obtain ⟨t, a1, o, b1, b2, b3⟩ := body p e s m args below meth c s₁ B hml hP s₁ hh0 (Stand.of_body B)
    exact ⟨t, o, a1, b1, b2, b3⟩

def xk_nsN : String := "java/util/NoSuchElementException"
def xk_nsA : List Cond := Bundle.throwableAtoms ++ Bundle.throwableSAtoms ++ (Bundle.passSAtoms xk_nsN "java/lang/RuntimeException" 13 prog_16_method_4_code ++ Bundle.chainSAtoms "java/lang/RuntimeException" ["java/lang/Exception"]) ++
  [.methodLink "LessonWeave" 103 (Bundle.initS xk_nsN), .instantiable xk_nsN 6, .castable xk_nsN xk_nsN, .selects xk_nsN Bundle.tFill0 Bundle.tFill0, .selects xk_nsN Bundle.tFill Bundle.tFill,
   .lays xk_nsN Bundle.tN "cause" "Ljava/lang/Throwable;", .lays xk_nsN Bundle.tN "stackTrace" Bundle.steD, .lays xk_nsN Bundle.tN "suppressedExceptions" Bundle.listD, .lays xk_nsN Bundle.tN "detailMessage" "Ljava/lang/String;",
   .isRef (.static Bundle.tN "UNASSIGNED_STACK" Bundle.steD), .isRef (.static Bundle.tN "SUPPRESSED_SENTINEL" Bundle.listD),
   .fieldLink Bundle.tN 198 Bundle.tN "backtrace" "Ljava/lang/Object;", .lays Bundle.tN Bundle.tN "backtrace" "Ljava/lang/Object;", .lays xk_nsN Bundle.tN "backtrace" "Ljava/lang/Object;"]
def xk_nsS : List Cond := xk_nsA.filter vx_no
def RX0 : String := "LessonWeave$Plan"
def TX0 : u_T := fun k => match k with
  | 0 => ("LessonWeave$Plan", "things", "[I", true)
  | 1 => ("LessonWeave$Plan", "lessonDays", "[I", true)
  | 2 => ("LessonWeave$Plan", "revisitDays", "[I", true)
  | 3 => ("LessonWeave$Plan", "lessonsLaid", "[I", true)
  | 4 => ("LessonWeave$Plan", "revisitsLaid", "[I", true)
  | 5 => ("LessonWeave$Plan", "since", "[I", true)
  | 6 => ("LessonWeave$Plan", "laidCount", "I", false)
  | 7 => ("LessonWeave$Plan", "lateCount", "I", false)
  | _ => ("LessonWeave$Plan", "lastUsed", "I", false)
def tyX0 : Nat → FieldType := fun k => match k with
  | 0 => .array .int
  | 1 => .array .int
  | 2 => .array .int
  | 3 => .array .int
  | 4 => .array .int
  | 5 => .array .int
  | 6 => .int
  | 7 => .int
  | _ => .int
abbrev wsX00 : List Cond := u_ws RX0 TX0 9
theorem nmX0 : ∀ a, a < 9 → ∀ b, b < 9 → a ≠ b → (TX0 a).2.1 ≠ (TX0 b).2.1 := by decide +kernel
theorem tyX0_ok : ∀ k, k < 9 → parseFieldDescriptor (TX0 k).2.2.1 = some (tyX0 k) := by decide +kernel
abbrev cX0_init : ByteArray := prog_2_method_1_code
def yX0_init : MethodName := ⟨RX0, "<init>", "()V"⟩
abbrev cX0_clear : ByteArray := prog_2_method_2_code
def yX0_clear : MethodName := ⟨RX0, "clear", "()V"⟩
abbrev cX0_lay : ByteArray := prog_2_method_3_code
def yX0_lay : MethodName := ⟨RX0, "lay", "(LLessonWeave$Syllabus;[Z)V"⟩
abbrev cX0_layOn : ByteArray := prog_2_method_4_code
def yX0_layOn : MethodName := ⟨RX0, "layOn", "(ILLessonWeave$Syllabus;)V"⟩
abbrev cX0_mostPressing : ByteArray := prog_2_method_5_code
def yX0_mostPressing : MethodName := ⟨RX0, "mostPressing", "(ILLessonWeave$Syllabus;)I"⟩
abbrev cX0_isDue : ByteArray := prog_2_method_6_code
def yX0_isDue : MethodName := ⟨RX0, "isDue", "(IILLessonWeave$Syllabus;)Z"⟩
abbrev cX0_lateFrom : ByteArray := prog_2_method_7_code
def yX0_lateFrom : MethodName := ⟨RX0, "lateFrom", "(ILLessonWeave$Syllabus;)I"⟩
abbrev cX0_nextGap : ByteArray := prog_2_method_8_code
def yX0_nextGap : MethodName := ⟨RX0, "nextGap", "(ILLessonWeave$Syllabus;)I"⟩
abbrev cX0_firstUnfinished : ByteArray := prog_2_method_9_code
def yX0_firstUnfinished : MethodName := ⟨RX0, "firstUnfinished", "(LLessonWeave$Syllabus;)I"⟩
abbrev cX0_isKitTaken : ByteArray := prog_2_method_10_code
def yX0_isKitTaken : MethodName := ⟨RX0, "isKitTaken", "(IILLessonWeave$Syllabus;)Z"⟩
abbrev cX0_isOthersLesson : ByteArray := prog_2_method_11_code
def yX0_isOthersLesson : MethodName := ⟨RX0, "isOthersLesson", "(IILLessonWeave$Syllabus;)Z"⟩
abbrev cX0_layLesson : ByteArray := prog_2_method_12_code
def yX0_layLesson : MethodName := ⟨RX0, "layLesson", "(II)V"⟩
abbrev cX0_layRevisit : ByteArray := prog_2_method_13_code
def yX0_layRevisit : MethodName := ⟨RX0, "layRevisit", "(IILLessonWeave$Syllabus;)V"⟩
abbrev cX0_use : ByteArray := prog_2_method_14_code
def yX0_use : MethodName := ⟨RX0, "use", "(III)V"⟩
abbrev cX0_movedSince : ByteArray := prog_2_method_15_code
def yX0_movedSince : MethodName := ⟨RX0, "movedSince", "(LLessonWeave$Plan;)I"⟩
abbrev cX0_changed : ByteArray := prog_2_method_16_code
def yX0_changed : MethodName := ⟨RX0, "changed", "([I[I)I"⟩
def RX1 : String := "LessonWeave$Syllabus"
def TX1 : u_T := fun k => match k with
  | 0 => ("LessonWeave$Syllabus", "count", "I", false)
  | 1 => ("LessonWeave$Syllabus", "lessons", "[I", true)
  | 2 => ("LessonWeave$Syllabus", "kind", "[I", true)
  | 3 => ("LessonWeave$Syllabus", "worth", "[I", true)
  | 4 => ("LessonWeave$Syllabus", "kit", "[I", true)
  | 5 => ("LessonWeave$Syllabus", "many", "[I", true)
  | 6 => ("LessonWeave$Syllabus", "gap", "[I", true)
  | 7 => ("LessonWeave$Syllabus", "needs", "[I", true)
  | _ => ("LessonWeave$Syllabus", "order", "[I", true)
def tyX1 : Nat → FieldType := fun k => match k with
  | 0 => .int
  | 1 => .array .int
  | 2 => .array .int
  | 3 => .array .int
  | 4 => .array .int
  | 5 => .array .int
  | 6 => .array .int
  | 7 => .array .int
  | _ => .array .int
abbrev wsX10 : List Cond := u_ws RX1 TX1 9
theorem nmX1 : ∀ a, a < 9 → ∀ b, b < 9 → a ≠ b → (TX1 a).2.1 ≠ (TX1 b).2.1 := by decide +kernel
theorem tyX1_ok : ∀ k, k < 9 → parseFieldDescriptor (TX1 k).2.2.1 = some (tyX1 k) := by decide +kernel
abbrev cX1_init : ByteArray := prog_3_method_1_code
def yX1_init : MethodName := ⟨RX1, "<init>", "()V"⟩
abbrev cX1_add : ByteArray := prog_3_method_2_code
def yX1_add : MethodName := ⟨RX1, "add", "(IIII)I"⟩
abbrev cX1_setNeeds : ByteArray := prog_3_method_3_code
def yX1_setNeeds : MethodName := ⟨RX1, "setNeeds", "(II)V"⟩
abbrev cX1_reach : ByteArray := prog_3_method_4_code
def yX1_reach : MethodName := ⟨RX1, "reach", "(I)I"⟩
abbrev cX1_neededBy : ByteArray := prog_3_method_5_code
def yX1_neededBy : MethodName := ⟨RX1, "neededBy", "(I)I"⟩
abbrev cX1_putInOrder : ByteArray := prog_3_method_6_code
def yX1_putInOrder : MethodName := ⟨RX1, "putInOrder", "()V"⟩
abbrev cX1_nextTaken : ByteArray := prog_3_method_7_code
def yX1_nextTaken : MethodName := ⟨RX1, "nextTaken", "(II)I"⟩
abbrev cX1_isCovered : ByteArray := prog_3_method_8_code
def yX1_isCovered : MethodName := ⟨RX1, "isCovered", "(II)Z"⟩
abbrev cX1_countClosed : ByteArray := prog_3_method_9_code
def yX1_countClosed : MethodName := ⟨RX1, "countClosed", "()I"⟩
abbrev cX1_bestSet : ByteArray := prog_3_method_10_code
def yX1_bestSet : MethodName := ⟨RX1, "bestSet", "(I)I"⟩
abbrev cX1_isClosed : ByteArray := prog_3_method_11_code
def yX1_isClosed : MethodName := ⟨RX1, "isClosed", "(I)Z"⟩
abbrev cX1_netOf : ByteArray := prog_3_method_12_code
def yX1_netOf : MethodName := ⟨RX1, "netOf", "(II)I"⟩
def RX2 : String := "LessonWeave"
def TX2 : u_T := fun k => match k with
  | 0 => ("LessonWeave", "syllabus", "LLessonWeave$Syllabus;", true)
  | 1 => ("LessonWeave", "lost", "[Z", true)
  | 2 => ("LessonWeave", "plan", "LLessonWeave$Plan;", false)
  | _ => ("LessonWeave", "formerPlan", "LLessonWeave$Plan;", false)
def tyX2 : Nat → FieldType := fun k => match k with
  | 0 => .object "LessonWeave$Syllabus"
  | 1 => .array .boolean
  | 2 => .object "LessonWeave$Plan"
  | _ => .object "LessonWeave$Plan"
abbrev wsX20 : List Cond := u_ws RX2 TX2 4
theorem nmX2 : ∀ a, a < 4 → ∀ b, b < 4 → a ≠ b → (TX2 a).2.1 ≠ (TX2 b).2.1 := by decide +kernel
theorem tyX2_ok : ∀ k, k < 4 → parseFieldDescriptor (TX2 k).2.2.1 = some (tyX2 k) := by decide +kernel
abbrev cX2_init : ByteArray := prog_1_method_1_code
def yX2_init : MethodName := ⟨RX2, "<init>", "()V"⟩
abbrev cX2_aim : ByteArray := prog_1_method_2_code
def yX2_aim : MethodName := ⟨RX2, "aim", "(IIII)I"⟩
abbrev cX2_need : ByteArray := prog_1_method_3_code
def yX2_need : MethodName := ⟨RX2, "need", "(II)I"⟩
abbrev cX2_free : ByteArray := prog_1_method_4_code
def yX2_free : MethodName := ⟨RX2, "free", "(II)I"⟩
abbrev cX2_revisits : ByteArray := prog_1_method_5_code
def yX2_revisits : MethodName := ⟨RX2, "revisits", "(III)I"⟩
abbrev cX2_aims : ByteArray := prog_1_method_6_code
def yX2_aims : MethodName := ⟨RX2, "aims", "()I"⟩
abbrev cX2_allNeeds : ByteArray := prog_1_method_7_code
def yX2_allNeeds : MethodName := ⟨RX2, "allNeeds", "(I)I"⟩
abbrev cX2_ordered : ByteArray := prog_1_method_8_code
def yX2_ordered : MethodName := ⟨RX2, "ordered", "(I)I"⟩
abbrev cX2_lose : ByteArray := prog_1_method_9_code
def yX2_lose : MethodName := ⟨RX2, "lose", "(I)I"⟩
abbrev cX2_on : ByteArray := prog_1_method_10_code
def yX2_on : MethodName := ⟨RX2, "on", "(I)I"⟩
abbrev cX2_lessonDay : ByteArray := prog_1_method_11_code
def yX2_lessonDay : MethodName := ⟨RX2, "lessonDay", "(II)I"⟩
abbrev cX2_revisitDay : ByteArray := prog_1_method_12_code
def yX2_revisitDay : MethodName := ⟨RX2, "revisitDay", "(II)I"⟩
abbrev cX2_laid : ByteArray := prog_1_method_13_code
def yX2_laid : MethodName := ⟨RX2, "laid", "()I"⟩
abbrev cX2_late : ByteArray := prog_1_method_14_code
def yX2_late : MethodName := ⟨RX2, "late", "()I"⟩
abbrev cX2_lastDay : ByteArray := prog_1_method_15_code
def yX2_lastDay : MethodName := ⟨RX2, "lastDay", "()I"⟩
abbrev cX2_worthwhile : ByteArray := prog_1_method_16_code
def yX2_worthwhile : MethodName := ⟨RX2, "worthwhile", "(I)I"⟩
abbrev cX2_bestNet : ByteArray := prog_1_method_17_code
def yX2_bestNet : MethodName := ⟨RX2, "bestNet", "(I)I"⟩
abbrev cX2_closedSets : ByteArray := prog_1_method_18_code
def yX2_closedSets : MethodName := ⟨RX2, "closedSets", "()I"⟩
abbrev cX2_isAim : ByteArray := prog_1_method_19_code
def yX2_isAim : MethodName := ⟨RX2, "isAim", "(I)Z"⟩
abbrev cX2_planAnew : ByteArray := prog_1_method_20_code
def yX2_planAnew : MethodName := ⟨RX2, "planAnew", "()V"⟩
abbrev cX2_isDay : ByteArray := prog_1_method_21_code
def yX2_isDay : MethodName := ⟨RX2, "isDay", "(I)Z"⟩
abbrev cX2_isWithin : ByteArray := prog_1_method_22_code
def yX2_isWithin : MethodName := ⟨RX2, "isWithin", "(III)Z"⟩
abbrev cX2_has : ByteArray := prog_1_method_23_code
def yX2_has : MethodName := ⟨RX2, "has", "(II)Z"⟩
def RX3 : String := "LessonWeaveModel"
def TX3 : u_T := fun k => match k with
  | 0 => ("LessonWeaveModel", "aims", "I", false)
  | 1 => ("LessonWeaveModel", "lessons", "[I", true)
  | 2 => ("LessonWeaveModel", "kind", "[I", true)
  | 3 => ("LessonWeaveModel", "worth", "[I", true)
  | 4 => ("LessonWeaveModel", "kit", "[I", true)
  | 5 => ("LessonWeaveModel", "needs", "[I", true)
  | 6 => ("LessonWeaveModel", "many", "[I", true)
  | 7 => ("LessonWeaveModel", "gap", "[I", true)
  | 8 => ("LessonWeaveModel", "isLost", "[Z", true)
  | 9 => ("LessonWeaveModel", "order", "[I", true)
  | 10 => ("LessonWeaveModel", "things", "[I", true)
  | 11 => ("LessonWeaveModel", "lessonOn", "[I", true)
  | 12 => ("LessonWeaveModel", "revisitOn", "[I", true)
  | 13 => ("LessonWeaveModel", "lessonsLaid", "[I", true)
  | 14 => ("LessonWeaveModel", "revisitsLaid", "[I", true)
  | 15 => ("LessonWeaveModel", "before", "[I", true)
  | 16 => ("LessonWeaveModel", "late", "I", false)
  | _ => ("LessonWeaveModel", "thrown", "I", false)
def tyX3 : Nat → FieldType := fun k => match k with
  | 0 => .int
  | 1 => .array .int
  | 2 => .array .int
  | 3 => .array .int
  | 4 => .array .int
  | 5 => .array .int
  | 6 => .array .int
  | 7 => .array .int
  | 8 => .array .boolean
  | 9 => .array .int
  | 10 => .array .int
  | 11 => .array .int
  | 12 => .array .int
  | 13 => .array .int
  | 14 => .array .int
  | 15 => .array .int
  | 16 => .int
  | _ => .int
abbrev wsX30 : List Cond := u_ws RX3 TX3 18
theorem nmX3 : ∀ a, a < 18 → ∀ b, b < 18 → a ≠ b → (TX3 a).2.1 ≠ (TX3 b).2.1 := by decide +kernel
theorem tyX3_ok : ∀ k, k < 18 → parseFieldDescriptor (TX3 k).2.2.1 = some (tyX3 k) := by decide +kernel
abbrev cX3_init : ByteArray := prog_5_method_1_code
def yX3_init : MethodName := ⟨RX3, "<init>", "()V"⟩
abbrev cX3_thrown : ByteArray := prog_5_method_2_code
def yX3_thrown : MethodName := ⟨RX3, "thrown", "()I"⟩
abbrev cX3_can : ByteArray := prog_5_method_3_code
def yX3_can : MethodName := ⟨RX3, "can", "(I)Z"⟩
abbrev cX3_isIn : ByteArray := prog_5_method_4_code
def yX3_isIn : MethodName := ⟨RX3, "isIn", "(III)Z"⟩
abbrev cX3_isAim : ByteArray := prog_5_method_5_code
def yX3_isAim : MethodName := ⟨RX3, "isAim", "(I)Z"⟩
abbrev cX3_size : ByteArray := prog_5_method_6_code
def yX3_size : MethodName := ⟨RX3, "size", "(I)I"⟩
abbrev cX3_aim : ByteArray := prog_5_method_7_code
def yX3_aim : MethodName := ⟨RX3, "aim", "(IIII)I"⟩
abbrev cX3_reached : ByteArray := prog_5_method_8_code
def yX3_reached : MethodName := ⟨RX3, "reached", "(I)I"⟩
abbrev cX3_hasNeed : ByteArray := prog_5_method_9_code
def yX3_hasNeed : MethodName := ⟨RX3, "hasNeed", "(II)Z"⟩
abbrev cX3_need : ByteArray := prog_5_method_10_code
def yX3_need : MethodName := ⟨RX3, "need", "(II)I"⟩
abbrev cX3_free : ByteArray := prog_5_method_11_code
def yX3_free : MethodName := ⟨RX3, "free", "(II)I"⟩
abbrev cX3_revisits : ByteArray := prog_5_method_12_code
def yX3_revisits : MethodName := ⟨RX3, "revisits", "(III)I"⟩
abbrev cX3_aims : ByteArray := prog_5_method_13_code
def yX3_aims : MethodName := ⟨RX3, "aims", "()I"⟩
abbrev cX3_allNeeds : ByteArray := prog_5_method_14_code
def yX3_allNeeds : MethodName := ⟨RX3, "allNeeds", "(I)I"⟩
abbrev cX3_orders : ByteArray := prog_5_method_15_code
def yX3_orders : MethodName := ⟨RX3, "orders", "()V"⟩
abbrev cX3_ordered : ByteArray := prog_5_method_16_code
def yX3_ordered : MethodName := ⟨RX3, "ordered", "(I)I"⟩
abbrev cX3_dueOn : ByteArray := prog_5_method_17_code
def yX3_dueOn : MethodName := ⟨RX3, "dueOn", "(I)I"⟩
abbrev cX3_lateFrom : ByteArray := prog_5_method_18_code
def yX3_lateFrom : MethodName := ⟨RX3, "lateFrom", "(I)I"⟩
abbrev cX3_revisitFor : ByteArray := prog_5_method_19_code
def yX3_revisitFor : MethodName := ⟨RX3, "revisitFor", "(I)I"⟩
abbrev cX3_isHeld : ByteArray := prog_5_method_20_code
def yX3_isHeld : MethodName := ⟨RX3, "isHeld", "(II)Z"⟩
abbrev cX3_nextAim : ByteArray := prog_5_method_21_code
def yX3_nextAim : MethodName := ⟨RX3, "nextAim", "()I"⟩
abbrev cX3_plans : ByteArray := prog_5_method_22_code
def yX3_plans : MethodName := ⟨RX3, "plans", "()V"⟩
abbrev cX3_dayOf : ByteArray := prog_5_method_23_code
def yX3_dayOf : MethodName := ⟨RX3, "dayOf", "(I)I"⟩
abbrev cX3_lose : ByteArray := prog_5_method_24_code
def yX3_lose : MethodName := ⟨RX3, "lose", "(I)I"⟩
abbrev cX3_on : ByteArray := prog_5_method_25_code
def yX3_on : MethodName := ⟨RX3, "on", "(I)I"⟩
abbrev cX3_lessonDay : ByteArray := prog_5_method_26_code
def yX3_lessonDay : MethodName := ⟨RX3, "lessonDay", "(II)I"⟩
abbrev cX3_revisitDay : ByteArray := prog_5_method_27_code
def yX3_revisitDay : MethodName := ⟨RX3, "revisitDay", "(II)I"⟩
abbrev cX3_laid : ByteArray := prog_5_method_28_code
def yX3_laid : MethodName := ⟨RX3, "laid", "()I"⟩
abbrev cX3_late : ByteArray := prog_5_method_29_code
def yX3_late : MethodName := ⟨RX3, "late", "()I"⟩
abbrev cX3_lastDay : ByteArray := prog_5_method_30_code
def yX3_lastDay : MethodName := ⟨RX3, "lastDay", "()I"⟩
abbrev cX3_isClosed : ByteArray := prog_5_method_31_code
def yX3_isClosed : MethodName := ⟨RX3, "isClosed", "(I)Z"⟩
abbrev cX3_net : ByteArray := prog_5_method_32_code
def yX3_net : MethodName := ⟨RX3, "net", "(II)I"⟩
abbrev cX3_best : ByteArray := prog_5_method_33_code
def yX3_best : MethodName := ⟨RX3, "best", "(I)I"⟩
abbrev cX3_worthwhile : ByteArray := prog_5_method_34_code
def yX3_worthwhile : MethodName := ⟨RX3, "worthwhile", "(I)I"⟩
abbrev cX3_bestNet : ByteArray := prog_5_method_35_code
def yX3_bestNet : MethodName := ⟨RX3, "bestNet", "(I)I"⟩
abbrev cX3_closedSets : ByteArray := prog_5_method_36_code
def yX3_closedSets : MethodName := ⟨RX3, "closedSets", "()I"⟩
def RJx145de : String := "java/io/Serializable"
def TJx145de : u_T := fun k => match k with
  | _ => ("", "", "", false)
def tyJx145de : Nat → FieldType := fun k => match k with
  | _ => .int
abbrev wsJx145de0 : List Cond := u_ws RJx145de TJx145de 0
theorem nmJx145de : ∀ a, a < 0 → ∀ b, b < 0 → a ≠ b → (TJx145de a).2.1 ≠ (TJx145de b).2.1 := by decide +kernel
theorem tyJx145de_ok : ∀ k, k < 0 → parseFieldDescriptor (TJx145de k).2.2.1 = some (tyJx145de k) := by decide +kernel
def RJ6 : String := "java/lang/Integer"
def TJ6 : u_T := fun k => match k with
  | _ => ("", "", "", false)
def tyJ6 : Nat → FieldType := fun k => match k with
  | _ => .int
abbrev wsJ60 : List Cond := u_ws RJ6 TJ6 0
theorem nmJ6 : ∀ a, a < 0 → ∀ b, b < 0 → a ≠ b → (TJ6 a).2.1 ≠ (TJ6 b).2.1 := by decide +kernel
theorem tyJ6_ok : ∀ k, k < 0 → parseFieldDescriptor (TJ6 k).2.2.1 = some (tyJ6 k) := by decide +kernel
abbrev cJ6_bitCount_0f7a4 : ByteArray := prog_11_method_49_code
def yJ6_bitCount_0f7a4 : MethodName := ⟨RJ6, "bitCount", "(I)I"⟩
def RJ0 : String := "java/lang/String"
def TJ0 : u_T := fun k => match k with
  | _ => ("", "", "", false)
def tyJ0 : Nat → FieldType := fun k => match k with
  | _ => .int
abbrev wsJ00 : List Cond := u_ws RJ0 TJ0 0
theorem nmJ0 : ∀ a, a < 0 → ∀ b, b < 0 → a ≠ b → (TJ0 a).2.1 ≠ (TJ0 b).2.1 := by decide +kernel
theorem tyJ0_ok : ∀ k, k < 0 → parseFieldDescriptor (TJ0 k).2.2.1 = some (tyJ0 k) := by decide +kernel
def RJ7 : String := "java/util/Arrays"
def TJ7 : u_T := fun k => match k with
  | _ => ("", "", "", false)
def tyJ7 : Nat → FieldType := fun k => match k with
  | _ => .int
abbrev wsJ70 : List Cond := u_ws RJ7 TJ7 0
theorem nmJ7 : ∀ a, a < 0 → ∀ b, b < 0 → a ≠ b → (TJ7 a).2.1 ≠ (TJ7 b).2.1 := by decide +kernel
theorem tyJ7_ok : ∀ k, k < 0 → parseFieldDescriptor (TJ7 k).2.2.1 = some (tyJ7 k) := by decide +kernel
abbrev cJ7_fill_53178 : ByteArray := prog_15_method_103_code
def yJ7_fill_53178 : MethodName := ⟨RJ7, "fill", "([II)V"⟩
def RL : String := "LessonWeaveLaw"
abbrev cL_aim : ByteArray := method_3_code
def yL_aim : MethodName := ⟨RL, "aim", "(LLessonWeave;IIII[J)I"⟩
abbrev cL_need : ByteArray := method_4_code
def yL_need : MethodName := ⟨RL, "need", "(LLessonWeave;II[J)I"⟩
abbrev cL_free : ByteArray := method_5_code
def yL_free : MethodName := ⟨RL, "free", "(LLessonWeave;II[J)I"⟩
abbrev cL_revisits : ByteArray := method_6_code
def yL_revisits : MethodName := ⟨RL, "revisits", "(LLessonWeave;III[J)I"⟩
abbrev cL_allNeeds : ByteArray := method_7_code
def yL_allNeeds : MethodName := ⟨RL, "allNeeds", "(LLessonWeave;I[J)I"⟩
abbrev cL_ordered : ByteArray := method_8_code
def yL_ordered : MethodName := ⟨RL, "ordered", "(LLessonWeave;I[J)I"⟩
abbrev cL_lose : ByteArray := method_9_code
def yL_lose : MethodName := ⟨RL, "lose", "(LLessonWeave;I[J)I"⟩
abbrev cL_on : ByteArray := method_10_code
def yL_on : MethodName := ⟨RL, "on", "(LLessonWeave;I[J)I"⟩
abbrev cL_lessonDay : ByteArray := method_11_code
def yL_lessonDay : MethodName := ⟨RL, "lessonDay", "(LLessonWeave;II[J)I"⟩
abbrev cL_revisitDay : ByteArray := method_12_code
def yL_revisitDay : MethodName := ⟨RL, "revisitDay", "(LLessonWeave;II[J)I"⟩
abbrev cL_worthwhile : ByteArray := method_13_code
def yL_worthwhile : MethodName := ⟨RL, "worthwhile", "(LLessonWeave;I[J)I"⟩
abbrev cL_bestNet : ByteArray := method_14_code
def yL_bestNet : MethodName := ⟨RL, "bestNet", "(LLessonWeave;I[J)I"⟩
abbrev cL_law : ByteArray := code
def yL_law : MethodName := ⟨RL, "law", "([I)Z"⟩
def wsJ7_fill_53178 : List Cond := .code yJ7_fill_53178 cJ7_fill_53178 4 none :: ([])
def wsX0_clear : List Cond := .code yX0_clear cX0_clear 1 none :: ([.fieldLink RX0 9 "LessonWeave$Plan" "things" "[I", .fieldLink RX0 15 "LessonWeave$Plan" "lessonDays" "[I", .fieldLink RX0 18 "LessonWeave$Plan" "revisitDays" "[I", .fieldLink RX0 21 "LessonWeave$Plan" "lessonsLaid" "[I", .fieldLink RX0 24 "LessonWeave$Plan" "revisitsLaid" "[I", .fieldLink RX0 27 "LessonWeave$Plan" "since" "[I", .fieldLink RX0 39 "LessonWeave$Plan" "laidCount" "I", .fieldLink RX0 43 "LessonWeave$Plan" "lateCount" "I", .fieldLink RX0 46 "LessonWeave$Plan" "lastUsed" "I", .methodLink RX0 33 yJ7_fill_53178, .static yJ7_fill_53178, .initialized RJ7, .code yJ7_fill_53178 cJ7_fill_53178 4 none] ++ wsX00)
def wsX0_init : List Cond := .code yX0_init cX0_init 1 none :: ([.methodLink RX0 3 objectInit, .instanceMethod objectInit, .code objectInit ⟨#[0xb1]⟩ 1 none, .arrayClass .int, .fieldLink RX0 9 "LessonWeave$Plan" "things" "[I", .fieldLink RX0 15 "LessonWeave$Plan" "lessonDays" "[I", .fieldLink RX0 18 "LessonWeave$Plan" "revisitDays" "[I", .fieldLink RX0 21 "LessonWeave$Plan" "lessonsLaid" "[I", .fieldLink RX0 24 "LessonWeave$Plan" "revisitsLaid" "[I", .fieldLink RX0 27 "LessonWeave$Plan" "since" "[I", .methodLink RX0 30 yX0_clear, .instanceMethod yX0_clear, .selects RX0 yX0_clear yX0_clear, .initialized RX0, .code yX0_clear cX0_clear 1 none, .fieldLink RX0 39 "LessonWeave$Plan" "laidCount" "I", .fieldLink RX0 43 "LessonWeave$Plan" "lateCount" "I", .fieldLink RX0 46 "LessonWeave$Plan" "lastUsed" "I", .methodLink RX0 33 yJ7_fill_53178, .static yJ7_fill_53178, .initialized RJ7, .code yJ7_fill_53178 cJ7_fill_53178 4 none] ++ wsX00)
def wsX0_nextGap : List Cond := .code yX0_nextGap cX0_nextGap 3 (some .int) :: ([.fieldLink RX0 24 "LessonWeave$Plan" "revisitsLaid" "[I"] ++ wsX10 ++ wsX00)
def wsX0_isDue : List Cond := .code yX0_isDue cX0_isDue 4 (some .boolean) :: ([.fieldLink RX0 21 "LessonWeave$Plan" "lessonsLaid" "[I", .fieldLink RX0 24 "LessonWeave$Plan" "revisitsLaid" "[I", .fieldLink RX0 27 "LessonWeave$Plan" "since" "[I", .methodLink RX0 90 yX0_nextGap, .instanceMethod yX0_nextGap, .selects RX0 yX0_nextGap yX0_nextGap, .initialized RX0, .code yX0_nextGap cX0_nextGap 3 (some .int)] ++ wsX00 ++ wsX10)
def wsX0_lateFrom : List Cond := .code yX0_lateFrom cX0_lateFrom 3 (some .int) :: ([.fieldLink RX0 27 "LessonWeave$Plan" "since" "[I", .methodLink RX0 90 yX0_nextGap, .instanceMethod yX0_nextGap, .selects RX0 yX0_nextGap yX0_nextGap, .initialized RX0, .code yX0_nextGap cX0_nextGap 3 (some .int), .fieldLink RX0 24 "LessonWeave$Plan" "revisitsLaid" "[I"] ++ wsX00 ++ wsX10)
def wsX0_mostPressing : List Cond := .code yX0_mostPressing cX0_mostPressing 7 (some .int) :: ([.methodLink RX0 78 yX0_isDue, .instanceMethod yX0_isDue, .selects RX0 yX0_isDue yX0_isDue, .initialized RX0, .code yX0_isDue cX0_isDue 4 (some .boolean), .fieldLink RX0 21 "LessonWeave$Plan" "lessonsLaid" "[I", .fieldLink RX0 24 "LessonWeave$Plan" "revisitsLaid" "[I", .fieldLink RX0 27 "LessonWeave$Plan" "since" "[I", .methodLink RX0 90 yX0_nextGap, .instanceMethod yX0_nextGap, .selects RX0 yX0_nextGap yX0_nextGap, .code yX0_nextGap cX0_nextGap 3 (some .int), .methodLink RX0 81 yX0_lateFrom, .instanceMethod yX0_lateFrom, .selects RX0 yX0_lateFrom yX0_lateFrom, .code yX0_lateFrom cX0_lateFrom 3 (some .int)] ++ wsX10 ++ wsX00)
def wsX0_use : List Cond := .code yX0_use cX0_use 4 none :: ([.fieldLink RX0 9 "LessonWeave$Plan" "things" "[I", .fieldLink RX0 27 "LessonWeave$Plan" "since" "[I", .fieldLink RX0 39 "LessonWeave$Plan" "laidCount" "I", .fieldLink RX0 46 "LessonWeave$Plan" "lastUsed" "I"] ++ wsX00)
def wsX0_layRevisit : List Cond := .code yX0_layRevisit cX0_layRevisit 4 none :: ([.fieldLink RX0 43 "LessonWeave$Plan" "lateCount" "I", .fieldLink RX0 18 "LessonWeave$Plan" "revisitDays" "[I", .fieldLink RX0 24 "LessonWeave$Plan" "revisitsLaid" "[I", .methodLink RX0 81 yX0_lateFrom, .instanceMethod yX0_lateFrom, .selects RX0 yX0_lateFrom yX0_lateFrom, .initialized RX0, .code yX0_lateFrom cX0_lateFrom 3 (some .int), .fieldLink RX0 27 "LessonWeave$Plan" "since" "[I", .methodLink RX0 90 yX0_nextGap, .instanceMethod yX0_nextGap, .selects RX0 yX0_nextGap yX0_nextGap, .code yX0_nextGap cX0_nextGap 3 (some .int), .methodLink RX0 105 yX0_use, .instanceMethod yX0_use, .selects RX0 yX0_use yX0_use, .code yX0_use cX0_use 4 none, .fieldLink RX0 9 "LessonWeave$Plan" "things" "[I", .fieldLink RX0 39 "LessonWeave$Plan" "laidCount" "I", .fieldLink RX0 46 "LessonWeave$Plan" "lastUsed" "I"] ++ wsX00 ++ wsX10)
def wsX0_firstUnfinished : List Cond := .code yX0_firstUnfinished cX0_firstUnfinished 4 (some .int) :: ([.fieldLink RX0 21 "LessonWeave$Plan" "lessonsLaid" "[I"] ++ wsX10 ++ wsX00)
def wsX0_isOthersLesson : List Cond := .code yX0_isOthersLesson cX0_isOthersLesson 3 (some .boolean) :: ([] ++ wsX10)
def wsX0_isKitTaken : List Cond := .code yX0_isKitTaken cX0_isKitTaken 5 (some .boolean) :: ([.fieldLink RX0 9 "LessonWeave$Plan" "things" "[I", .methodLink RX0 102 yX0_isOthersLesson, .static yX0_isOthersLesson, .initialized RX0, .code yX0_isOthersLesson cX0_isOthersLesson 3 (some .boolean)] ++ wsX10 ++ wsX00)
def wsX0_layLesson : List Cond := .code yX0_layLesson cX0_layLesson 3 none :: ([.fieldLink RX0 15 "LessonWeave$Plan" "lessonDays" "[I", .fieldLink RX0 21 "LessonWeave$Plan" "lessonsLaid" "[I", .methodLink RX0 105 yX0_use, .instanceMethod yX0_use, .selects RX0 yX0_use yX0_use, .initialized RX0, .code yX0_use cX0_use 4 none, .fieldLink RX0 9 "LessonWeave$Plan" "things" "[I", .fieldLink RX0 27 "LessonWeave$Plan" "since" "[I", .fieldLink RX0 39 "LessonWeave$Plan" "laidCount" "I", .fieldLink RX0 46 "LessonWeave$Plan" "lastUsed" "I"] ++ wsX00)
def wsX0_layOn_r1 : List Cond := [Cond.methodLink RX0 53 yX0_mostPressing, Cond.instanceMethod yX0_mostPressing, Cond.selects RX0 yX0_mostPressing yX0_mostPressing, Cond.initialized RX0, Cond.code yX0_mostPressing cX0_mostPressing 7 (some .int), Cond.methodLink RX0 78 yX0_isDue, Cond.instanceMethod yX0_isDue, Cond.selects RX0 yX0_isDue yX0_isDue, Cond.code yX0_isDue cX0_isDue 4 (some .boolean), Cond.fieldLink RX0 21 "LessonWeave$Plan" "lessonsLaid" "[I", Cond.fieldLink RX0 24 "LessonWeave$Plan" "revisitsLaid" "[I", Cond.fieldLink RX0 27 "LessonWeave$Plan" "since" "[I", Cond.methodLink RX0 90 yX0_nextGap, Cond.instanceMethod yX0_nextGap, Cond.selects RX0 yX0_nextGap yX0_nextGap, Cond.code yX0_nextGap cX0_nextGap 3 (some .int), Cond.methodLink RX0 81 yX0_lateFrom, Cond.instanceMethod yX0_lateFrom, Cond.selects RX0 yX0_lateFrom yX0_lateFrom, Cond.code yX0_lateFrom cX0_lateFrom 3 (some .int), Cond.methodLink RX0 57 yX0_layRevisit, Cond.instanceMethod yX0_layRevisit, Cond.selects RX0 yX0_layRevisit yX0_layRevisit, Cond.code yX0_layRevisit cX0_layRevisit 4 none]
def wsX0_layOn_r2 : List Cond := [Cond.fieldLink RX0 43 "LessonWeave$Plan" "lateCount" "I", Cond.fieldLink RX0 18 "LessonWeave$Plan" "revisitDays" "[I", Cond.methodLink RX0 105 yX0_use, Cond.instanceMethod yX0_use, Cond.selects RX0 yX0_use yX0_use, Cond.code yX0_use cX0_use 4 none, Cond.fieldLink RX0 9 "LessonWeave$Plan" "things" "[I", Cond.fieldLink RX0 39 "LessonWeave$Plan" "laidCount" "I", Cond.fieldLink RX0 46 "LessonWeave$Plan" "lastUsed" "I", Cond.methodLink RX0 61 yX0_firstUnfinished, Cond.instanceMethod yX0_firstUnfinished, Cond.selects RX0 yX0_firstUnfinished yX0_firstUnfinished, Cond.code yX0_firstUnfinished cX0_firstUnfinished 4 (some .int), Cond.methodLink RX0 65 yX0_isKitTaken, Cond.instanceMethod yX0_isKitTaken, Cond.selects RX0 yX0_isKitTaken yX0_isKitTaken, Cond.code yX0_isKitTaken cX0_isKitTaken 5 (some .boolean), Cond.methodLink RX0 102 yX0_isOthersLesson, Cond.static yX0_isOthersLesson, Cond.code yX0_isOthersLesson cX0_isOthersLesson 3 (some .boolean), Cond.methodLink RX0 69 yX0_layLesson, Cond.instanceMethod yX0_layLesson, Cond.selects RX0 yX0_layLesson yX0_layLesson, Cond.code yX0_layLesson cX0_layLesson 3 none]
def wsX0_layOn_r3 : List Cond := [Cond.fieldLink RX0 15 "LessonWeave$Plan" "lessonDays" "[I"]
def wsX0_layOn : List Cond := .code yX0_layOn cX0_layOn 5 none :: ((wsX0_layOn_r1 ++ (wsX0_layOn_r2 ++ wsX0_layOn_r3)) ++ wsX10 ++ wsX00)
def wsX0_lay_r1 : List Cond := [Cond.methodLink RX0 30 yX0_clear, Cond.instanceMethod yX0_clear, Cond.selects RX0 yX0_clear yX0_clear, Cond.initialized RX0, Cond.code yX0_clear cX0_clear 1 none, Cond.fieldLink RX0 9 "LessonWeave$Plan" "things" "[I", Cond.fieldLink RX0 15 "LessonWeave$Plan" "lessonDays" "[I", Cond.fieldLink RX0 18 "LessonWeave$Plan" "revisitDays" "[I", Cond.fieldLink RX0 21 "LessonWeave$Plan" "lessonsLaid" "[I", Cond.fieldLink RX0 24 "LessonWeave$Plan" "revisitsLaid" "[I", Cond.fieldLink RX0 27 "LessonWeave$Plan" "since" "[I", Cond.fieldLink RX0 39 "LessonWeave$Plan" "laidCount" "I", Cond.fieldLink RX0 43 "LessonWeave$Plan" "lateCount" "I", Cond.fieldLink RX0 46 "LessonWeave$Plan" "lastUsed" "I", Cond.methodLink RX0 33 yJ7_fill_53178, Cond.static yJ7_fill_53178, Cond.initialized RJ7, Cond.code yJ7_fill_53178 cJ7_fill_53178 4 none, Cond.methodLink RX0 49 yX0_layOn, Cond.instanceMethod yX0_layOn, Cond.selects RX0 yX0_layOn yX0_layOn, Cond.code yX0_layOn cX0_layOn 5 none, Cond.methodLink RX0 53 yX0_mostPressing, Cond.instanceMethod yX0_mostPressing]
def wsX0_lay_r2 : List Cond := [Cond.selects RX0 yX0_mostPressing yX0_mostPressing, Cond.code yX0_mostPressing cX0_mostPressing 7 (some .int), Cond.methodLink RX0 78 yX0_isDue, Cond.instanceMethod yX0_isDue, Cond.selects RX0 yX0_isDue yX0_isDue, Cond.code yX0_isDue cX0_isDue 4 (some .boolean), Cond.methodLink RX0 90 yX0_nextGap, Cond.instanceMethod yX0_nextGap, Cond.selects RX0 yX0_nextGap yX0_nextGap, Cond.code yX0_nextGap cX0_nextGap 3 (some .int), Cond.methodLink RX0 81 yX0_lateFrom, Cond.instanceMethod yX0_lateFrom, Cond.selects RX0 yX0_lateFrom yX0_lateFrom, Cond.code yX0_lateFrom cX0_lateFrom 3 (some .int), Cond.methodLink RX0 57 yX0_layRevisit, Cond.instanceMethod yX0_layRevisit, Cond.selects RX0 yX0_layRevisit yX0_layRevisit, Cond.code yX0_layRevisit cX0_layRevisit 4 none, Cond.methodLink RX0 105 yX0_use, Cond.instanceMethod yX0_use, Cond.selects RX0 yX0_use yX0_use, Cond.code yX0_use cX0_use 4 none, Cond.methodLink RX0 61 yX0_firstUnfinished, Cond.instanceMethod yX0_firstUnfinished]
def wsX0_lay_r3 : List Cond := [Cond.selects RX0 yX0_firstUnfinished yX0_firstUnfinished, Cond.code yX0_firstUnfinished cX0_firstUnfinished 4 (some .int), Cond.methodLink RX0 65 yX0_isKitTaken, Cond.instanceMethod yX0_isKitTaken, Cond.selects RX0 yX0_isKitTaken yX0_isKitTaken, Cond.code yX0_isKitTaken cX0_isKitTaken 5 (some .boolean), Cond.methodLink RX0 102 yX0_isOthersLesson, Cond.static yX0_isOthersLesson, Cond.code yX0_isOthersLesson cX0_isOthersLesson 3 (some .boolean), Cond.methodLink RX0 69 yX0_layLesson, Cond.instanceMethod yX0_layLesson, Cond.selects RX0 yX0_layLesson yX0_layLesson, Cond.code yX0_layLesson cX0_layLesson 3 none]
def wsX0_lay : List Cond := .code yX0_lay cX0_lay 4 none :: ((wsX0_lay_r1 ++ (wsX0_lay_r2 ++ wsX0_lay_r3)) ++ wsX00 ++ wsX10)
def wsX0_changed : List Cond := .code yX0_changed cX0_changed 4 (some .int) :: ([])
def wsX0_movedSince : List Cond := .code yX0_movedSince cX0_movedSince 2 (some .int) :: ([.fieldLink RX0 15 "LessonWeave$Plan" "lessonDays" "[I", .fieldLink RX0 18 "LessonWeave$Plan" "revisitDays" "[I", .methodLink RX0 109 yX0_changed, .static yX0_changed, .initialized RX0, .code yX0_changed cX0_changed 4 (some .int)] ++ wsX00)
def wsX1_init : List Cond := .code yX1_init cX1_init 1 none :: ([.methodLink RX1 3 objectInit, .instanceMethod objectInit, .code objectInit ⟨#[0xb1]⟩ 1 none, .arrayClass .int, .fieldLink RX1 9 "LessonWeave$Syllabus" "lessons" "[I", .fieldLink RX1 15 "LessonWeave$Syllabus" "kind" "[I", .fieldLink RX1 18 "LessonWeave$Syllabus" "worth" "[I", .fieldLink RX1 21 "LessonWeave$Syllabus" "kit" "[I", .fieldLink RX1 24 "LessonWeave$Syllabus" "many" "[I", .fieldLink RX1 27 "LessonWeave$Syllabus" "gap" "[I", .fieldLink RX1 30 "LessonWeave$Syllabus" "needs" "[I", .fieldLink RX1 33 "LessonWeave$Syllabus" "order" "[I"] ++ wsX10)
def wsX2_has : List Cond := .code yX2_has cX2_has 2 (some .boolean) :: ([])
def wsX1_isCovered : List Cond := .code yX1_isCovered cX1_isCovered 2 (some .boolean) :: ([])
def wsX1_nextTaken : List Cond := .code yX1_nextTaken cX1_nextTaken 5 (some .int) :: ([.fieldLink RX1 36 "LessonWeave$Syllabus" "count" "I", .fieldLink RX1 30 "LessonWeave$Syllabus" "needs" "[I", .fieldLink RX1 15 "LessonWeave$Syllabus" "kind" "[I", .static yX2_has, .initialized RX2, .code yX2_has cX2_has 2 (some .boolean), .methodLink RX1 55 yX1_isCovered, .static yX1_isCovered, .initialized RX1, .code yX1_isCovered cX1_isCovered 2 (some .boolean)] ++ wsX10)
def wsX1_putInOrder : List Cond := .code yX1_putInOrder cX1_putInOrder 5 none :: ([.fieldLink RX1 36 "LessonWeave$Syllabus" "count" "I", .fieldLink RX1 33 "LessonWeave$Syllabus" "order" "[I", .fieldLink RX1 15 "LessonWeave$Syllabus" "kind" "[I", .methodLink RX1 51 yX1_nextTaken, .instanceMethod yX1_nextTaken, .selects RX1 yX1_nextTaken yX1_nextTaken, .initialized RX1, .code yX1_nextTaken cX1_nextTaken 5 (some .int), .fieldLink RX1 30 "LessonWeave$Syllabus" "needs" "[I", .static yX2_has, .initialized RX2, .code yX2_has cX2_has 2 (some .boolean), .methodLink RX1 55 yX1_isCovered, .static yX1_isCovered, .code yX1_isCovered cX1_isCovered 2 (some .boolean)] ++ wsX10)
def wsX1_add : List Cond := .code yX1_add cX1_add 6 (some .int) :: ([.fieldLink RX1 36 "LessonWeave$Syllabus" "count" "I", .fieldLink RX1 9 "LessonWeave$Syllabus" "lessons" "[I", .fieldLink RX1 15 "LessonWeave$Syllabus" "kind" "[I", .fieldLink RX1 18 "LessonWeave$Syllabus" "worth" "[I", .fieldLink RX1 21 "LessonWeave$Syllabus" "kit" "[I", .fieldLink RX1 27 "LessonWeave$Syllabus" "gap" "[I", .methodLink RX1 40 yX1_putInOrder, .instanceMethod yX1_putInOrder, .selects RX1 yX1_putInOrder yX1_putInOrder, .initialized RX1, .code yX1_putInOrder cX1_putInOrder 5 none, .fieldLink RX1 33 "LessonWeave$Syllabus" "order" "[I", .methodLink RX1 51 yX1_nextTaken, .instanceMethod yX1_nextTaken, .selects RX1 yX1_nextTaken yX1_nextTaken, .code yX1_nextTaken cX1_nextTaken 5 (some .int), .fieldLink RX1 30 "LessonWeave$Syllabus" "needs" "[I", .static yX2_has, .initialized RX2, .code yX2_has cX2_has 2 (some .boolean), .methodLink RX1 55 yX1_isCovered, .static yX1_isCovered, .code yX1_isCovered cX1_isCovered 2 (some .boolean)] ++ wsX10)
def wsX1_setNeeds : List Cond := .code yX1_setNeeds cX1_setNeeds 3 none :: ([.fieldLink RX1 30 "LessonWeave$Syllabus" "needs" "[I", .methodLink RX1 40 yX1_putInOrder, .instanceMethod yX1_putInOrder, .selects RX1 yX1_putInOrder yX1_putInOrder, .initialized RX1, .code yX1_putInOrder cX1_putInOrder 5 none, .fieldLink RX1 36 "LessonWeave$Syllabus" "count" "I", .fieldLink RX1 33 "LessonWeave$Syllabus" "order" "[I", .fieldLink RX1 15 "LessonWeave$Syllabus" "kind" "[I", .methodLink RX1 51 yX1_nextTaken, .instanceMethod yX1_nextTaken, .selects RX1 yX1_nextTaken yX1_nextTaken, .code yX1_nextTaken cX1_nextTaken 5 (some .int), .static yX2_has, .initialized RX2, .code yX2_has cX2_has 2 (some .boolean), .methodLink RX1 55 yX1_isCovered, .static yX1_isCovered, .code yX1_isCovered cX1_isCovered 2 (some .boolean)] ++ wsX10)
def wsX1_neededBy : List Cond := .code yX1_neededBy cX1_neededBy 4 (some .int) :: ([.fieldLink RX1 36 "LessonWeave$Syllabus" "count" "I", .fieldLink RX1 30 "LessonWeave$Syllabus" "needs" "[I", .static yX2_has, .initialized RX2, .code yX2_has cX2_has 2 (some .boolean)] ++ wsX10)
def wsX1_reach : List Cond := .code yX1_reach cX1_reach 4 (some .int) :: ([.fieldLink RX1 30 "LessonWeave$Syllabus" "needs" "[I", .fieldLink RX1 36 "LessonWeave$Syllabus" "count" "I", .methodLink RX1 43 yX1_neededBy, .instanceMethod yX1_neededBy, .selects RX1 yX1_neededBy yX1_neededBy, .initialized RX1, .code yX1_neededBy cX1_neededBy 4 (some .int), .static yX2_has, .initialized RX2, .code yX2_has cX2_has 2 (some .boolean)] ++ wsX10)
def wsX1_isClosed : List Cond := .code yX1_isClosed cX1_isClosed 3 (some .boolean) :: ([.fieldLink RX1 36 "LessonWeave$Syllabus" "count" "I", .fieldLink RX1 30 "LessonWeave$Syllabus" "needs" "[I", .static yX2_has, .initialized RX2, .code yX2_has cX2_has 2 (some .boolean), .methodLink RX1 55 yX1_isCovered, .static yX1_isCovered, .initialized RX1, .code yX1_isCovered cX1_isCovered 2 (some .boolean)] ++ wsX10)
def wsX1_countClosed : List Cond := .code yX1_countClosed cX1_countClosed 3 (some .int) :: ([.fieldLink RX1 36 "LessonWeave$Syllabus" "count" "I", .methodLink RX1 58 yX1_isClosed, .instanceMethod yX1_isClosed, .selects RX1 yX1_isClosed yX1_isClosed, .initialized RX1, .code yX1_isClosed cX1_isClosed 3 (some .boolean), .fieldLink RX1 30 "LessonWeave$Syllabus" "needs" "[I", .static yX2_has, .initialized RX2, .code yX2_has cX2_has 2 (some .boolean), .methodLink RX1 55 yX1_isCovered, .static yX1_isCovered, .code yX1_isCovered cX1_isCovered 2 (some .boolean)] ++ wsX10)
def wsX1_netOf : List Cond := .code yX1_netOf cX1_netOf 5 (some .int) :: ([.fieldLink RX1 36 "LessonWeave$Syllabus" "count" "I", .fieldLink RX1 18 "LessonWeave$Syllabus" "worth" "[I", .fieldLink RX1 9 "LessonWeave$Syllabus" "lessons" "[I", .static yX2_has, .initialized RX2, .code yX2_has cX2_has 2 (some .boolean)] ++ wsX10)
def wsJ6_bitCount_0f7a4 : List Cond := .code yJ6_bitCount_0f7a4 cJ6_bitCount_0f7a4 1 (some .int) :: ([.constant RJ6 265 (1431655765), .constant RJ6 266 (858993459), .constant RJ6 267 (252645135)])
def wsX1_bestSet_r1 : List Cond := [Cond.fieldLink RX1 36 "LessonWeave$Syllabus" "count" "I", Cond.methodLink RX1 58 yX1_isClosed, Cond.instanceMethod yX1_isClosed, Cond.selects RX1 yX1_isClosed yX1_isClosed, Cond.initialized RX1, Cond.code yX1_isClosed cX1_isClosed 3 (some .boolean), Cond.fieldLink RX1 30 "LessonWeave$Syllabus" "needs" "[I", Cond.static yX2_has, Cond.initialized RX2, Cond.code yX2_has cX2_has 2 (some .boolean), Cond.methodLink RX1 55 yX1_isCovered, Cond.static yX1_isCovered, Cond.code yX1_isCovered cX1_isCovered 2 (some .boolean), Cond.methodLink RX1 62 yX1_netOf, Cond.instanceMethod yX1_netOf, Cond.selects RX1 yX1_netOf yX1_netOf, Cond.code yX1_netOf cX1_netOf 5 (some .int), Cond.fieldLink RX1 18 "LessonWeave$Syllabus" "worth" "[I", Cond.fieldLink RX1 9 "LessonWeave$Syllabus" "lessons" "[I", Cond.methodLink RX1 65 yJ6_bitCount_0f7a4, Cond.static yJ6_bitCount_0f7a4, Cond.initialized RJ6, Cond.code yJ6_bitCount_0f7a4 cJ6_bitCount_0f7a4 1 (some .int), Cond.constant RJ6 265 (1431655765)]
def wsX1_bestSet_r2 : List Cond := [Cond.constant RJ6 266 (858993459), Cond.constant RJ6 267 (252645135)]
def wsX1_bestSet : List Cond := .code yX1_bestSet cX1_bestSet 6 (some .int) :: ((wsX1_bestSet_r1 ++ wsX1_bestSet_r2) ++ wsX10)
def wsX2_init_r1 : List Cond := [Cond.methodLink RX2 1 objectInit, Cond.instanceMethod objectInit, Cond.code objectInit ⟨#[0xb1]⟩ 1 none, Cond.classLink RX2 7 RX1, Cond.instantiable RX1 9, Cond.initialized RX1, Cond.fieldLink RX2 10 "LessonWeave" "syllabus" "LLessonWeave$Syllabus;", Cond.arrayClass .boolean, Cond.fieldLink RX2 16 "LessonWeave" "lost" "[Z", Cond.classLink RX2 20 RX0, Cond.instantiable RX0 9, Cond.initialized RX0, Cond.fieldLink RX2 23 "LessonWeave" "plan" "LLessonWeave$Plan;", Cond.fieldLink RX2 27 "LessonWeave" "formerPlan" "LLessonWeave$Plan;", Cond.methodLink RX2 9 yX1_init, Cond.instanceMethod yX1_init, Cond.code yX1_init cX1_init 1 none, Cond.methodLink RX1 3 objectInit, Cond.arrayClass .int, Cond.fieldLink RX1 9 "LessonWeave$Syllabus" "lessons" "[I", Cond.fieldLink RX1 15 "LessonWeave$Syllabus" "kind" "[I", Cond.fieldLink RX1 18 "LessonWeave$Syllabus" "worth" "[I", Cond.fieldLink RX1 21 "LessonWeave$Syllabus" "kit" "[I", Cond.fieldLink RX1 24 "LessonWeave$Syllabus" "many" "[I"]
def wsX2_init_r2 : List Cond := [Cond.fieldLink RX1 27 "LessonWeave$Syllabus" "gap" "[I", Cond.fieldLink RX1 30 "LessonWeave$Syllabus" "needs" "[I", Cond.fieldLink RX1 33 "LessonWeave$Syllabus" "order" "[I", Cond.methodLink RX2 22 yX0_init, Cond.instanceMethod yX0_init, Cond.code yX0_init cX0_init 1 none, Cond.methodLink RX0 3 objectInit, Cond.fieldLink RX0 9 "LessonWeave$Plan" "things" "[I", Cond.fieldLink RX0 15 "LessonWeave$Plan" "lessonDays" "[I", Cond.fieldLink RX0 18 "LessonWeave$Plan" "revisitDays" "[I", Cond.fieldLink RX0 21 "LessonWeave$Plan" "lessonsLaid" "[I", Cond.fieldLink RX0 24 "LessonWeave$Plan" "revisitsLaid" "[I", Cond.fieldLink RX0 27 "LessonWeave$Plan" "since" "[I", Cond.methodLink RX0 30 yX0_clear, Cond.instanceMethod yX0_clear, Cond.selects RX0 yX0_clear yX0_clear, Cond.code yX0_clear cX0_clear 1 none, Cond.fieldLink RX0 39 "LessonWeave$Plan" "laidCount" "I", Cond.fieldLink RX0 43 "LessonWeave$Plan" "lateCount" "I", Cond.fieldLink RX0 46 "LessonWeave$Plan" "lastUsed" "I", Cond.methodLink RX0 33 yJ7_fill_53178, Cond.static yJ7_fill_53178, Cond.initialized RJ7, Cond.code yJ7_fill_53178 cJ7_fill_53178 4 none]
def wsX2_init : List Cond := .code yX2_init cX2_init 1 none :: ((wsX2_init_r1 ++ wsX2_init_r2) ++ wsX10 ++ wsX20 ++ wsX00)
def wsX2_isWithin : List Cond := .code yX2_isWithin cX2_isWithin 3 (some .boolean) :: ([])
def wsX2_planAnew_r1 : List Cond := [Cond.fieldLink RX2 27 "LessonWeave" "formerPlan" "LLessonWeave$Plan;", Cond.fieldLink RX2 23 "LessonWeave" "plan" "LLessonWeave$Plan;", Cond.fieldLink RX2 10 "LessonWeave" "syllabus" "LLessonWeave$Syllabus;", Cond.fieldLink RX2 16 "LessonWeave" "lost" "[Z", Cond.methodLink RX2 168 yX0_lay, Cond.instanceMethod yX0_lay, Cond.selects RX0 yX0_lay yX0_lay, Cond.initialized RX0, Cond.code yX0_lay cX0_lay 4 none, Cond.methodLink RX0 30 yX0_clear, Cond.instanceMethod yX0_clear, Cond.selects RX0 yX0_clear yX0_clear, Cond.code yX0_clear cX0_clear 1 none, Cond.fieldLink RX0 9 "LessonWeave$Plan" "things" "[I", Cond.fieldLink RX0 15 "LessonWeave$Plan" "lessonDays" "[I", Cond.fieldLink RX0 18 "LessonWeave$Plan" "revisitDays" "[I", Cond.fieldLink RX0 21 "LessonWeave$Plan" "lessonsLaid" "[I", Cond.fieldLink RX0 24 "LessonWeave$Plan" "revisitsLaid" "[I", Cond.fieldLink RX0 27 "LessonWeave$Plan" "since" "[I", Cond.fieldLink RX0 39 "LessonWeave$Plan" "laidCount" "I", Cond.fieldLink RX0 43 "LessonWeave$Plan" "lateCount" "I", Cond.fieldLink RX0 46 "LessonWeave$Plan" "lastUsed" "I", Cond.methodLink RX0 33 yJ7_fill_53178, Cond.static yJ7_fill_53178]
def wsX2_planAnew_r2 : List Cond := [Cond.initialized RJ7, Cond.code yJ7_fill_53178 cJ7_fill_53178 4 none, Cond.methodLink RX0 49 yX0_layOn, Cond.instanceMethod yX0_layOn, Cond.selects RX0 yX0_layOn yX0_layOn, Cond.code yX0_layOn cX0_layOn 5 none, Cond.methodLink RX0 53 yX0_mostPressing, Cond.instanceMethod yX0_mostPressing, Cond.selects RX0 yX0_mostPressing yX0_mostPressing, Cond.code yX0_mostPressing cX0_mostPressing 7 (some .int), Cond.methodLink RX0 78 yX0_isDue, Cond.instanceMethod yX0_isDue, Cond.selects RX0 yX0_isDue yX0_isDue, Cond.code yX0_isDue cX0_isDue 4 (some .boolean), Cond.methodLink RX0 90 yX0_nextGap, Cond.instanceMethod yX0_nextGap, Cond.selects RX0 yX0_nextGap yX0_nextGap, Cond.code yX0_nextGap cX0_nextGap 3 (some .int), Cond.methodLink RX0 81 yX0_lateFrom, Cond.instanceMethod yX0_lateFrom, Cond.selects RX0 yX0_lateFrom yX0_lateFrom, Cond.code yX0_lateFrom cX0_lateFrom 3 (some .int), Cond.methodLink RX0 57 yX0_layRevisit, Cond.instanceMethod yX0_layRevisit]
def wsX2_planAnew_r3 : List Cond := [Cond.selects RX0 yX0_layRevisit yX0_layRevisit, Cond.code yX0_layRevisit cX0_layRevisit 4 none, Cond.methodLink RX0 105 yX0_use, Cond.instanceMethod yX0_use, Cond.selects RX0 yX0_use yX0_use, Cond.code yX0_use cX0_use 4 none, Cond.methodLink RX0 61 yX0_firstUnfinished, Cond.instanceMethod yX0_firstUnfinished, Cond.selects RX0 yX0_firstUnfinished yX0_firstUnfinished, Cond.code yX0_firstUnfinished cX0_firstUnfinished 4 (some .int), Cond.methodLink RX0 65 yX0_isKitTaken, Cond.instanceMethod yX0_isKitTaken, Cond.selects RX0 yX0_isKitTaken yX0_isKitTaken, Cond.code yX0_isKitTaken cX0_isKitTaken 5 (some .boolean), Cond.methodLink RX0 102 yX0_isOthersLesson, Cond.static yX0_isOthersLesson, Cond.code yX0_isOthersLesson cX0_isOthersLesson 3 (some .boolean), Cond.methodLink RX0 69 yX0_layLesson, Cond.instanceMethod yX0_layLesson, Cond.selects RX0 yX0_layLesson yX0_layLesson, Cond.code yX0_layLesson cX0_layLesson 3 none]
def wsX2_planAnew : List Cond := .code yX2_planAnew cX2_planAnew 2 none :: ((wsX2_planAnew_r1 ++ (wsX2_planAnew_r2 ++ wsX2_planAnew_r3)) ++ wsX20 ++ wsX00 ++ wsX10)
def wsX2_aim_r1 : List Cond := [Cond.classLink RX2 34 "java/lang/IllegalArgumentException", Cond.initialized "java/lang/IllegalArgumentException", Cond.classLink RX2 51 "java/lang/IllegalStateException", Cond.initialized "java/lang/IllegalStateException", Cond.fieldLink RX2 10 "LessonWeave" "syllabus" "LLessonWeave$Syllabus;", Cond.methodLink RX2 30 yX2_isWithin, Cond.static yX2_isWithin, Cond.initialized RX2, Cond.code yX2_isWithin cX2_isWithin 3 (some .boolean), Cond.methodLink RX2 56 yX1_add, Cond.instanceMethod yX1_add, Cond.selects RX1 yX1_add yX1_add, Cond.initialized RX1, Cond.code yX1_add cX1_add 6 (some .int), Cond.fieldLink RX1 36 "LessonWeave$Syllabus" "count" "I", Cond.fieldLink RX1 9 "LessonWeave$Syllabus" "lessons" "[I", Cond.fieldLink RX1 15 "LessonWeave$Syllabus" "kind" "[I", Cond.fieldLink RX1 18 "LessonWeave$Syllabus" "worth" "[I", Cond.fieldLink RX1 21 "LessonWeave$Syllabus" "kit" "[I", Cond.fieldLink RX1 27 "LessonWeave$Syllabus" "gap" "[I", Cond.methodLink RX1 40 yX1_putInOrder, Cond.instanceMethod yX1_putInOrder, Cond.selects RX1 yX1_putInOrder yX1_putInOrder, Cond.code yX1_putInOrder cX1_putInOrder 5 none]
def wsX2_aim_r2 : List Cond := [Cond.fieldLink RX1 33 "LessonWeave$Syllabus" "order" "[I", Cond.methodLink RX1 51 yX1_nextTaken, Cond.instanceMethod yX1_nextTaken, Cond.selects RX1 yX1_nextTaken yX1_nextTaken, Cond.code yX1_nextTaken cX1_nextTaken 5 (some .int), Cond.fieldLink RX1 30 "LessonWeave$Syllabus" "needs" "[I", Cond.static yX2_has, Cond.code yX2_has cX2_has 2 (some .boolean), Cond.methodLink RX1 55 yX1_isCovered, Cond.static yX1_isCovered, Cond.code yX1_isCovered cX1_isCovered 2 (some .boolean), Cond.methodLink RX2 60 yX2_planAnew, Cond.instanceMethod yX2_planAnew, Cond.selects RX2 yX2_planAnew yX2_planAnew, Cond.code yX2_planAnew cX2_planAnew 2 none, Cond.fieldLink RX2 27 "LessonWeave" "formerPlan" "LLessonWeave$Plan;", Cond.fieldLink RX2 23 "LessonWeave" "plan" "LLessonWeave$Plan;", Cond.fieldLink RX2 16 "LessonWeave" "lost" "[Z", Cond.methodLink RX2 168 yX0_lay, Cond.instanceMethod yX0_lay, Cond.selects RX0 yX0_lay yX0_lay, Cond.initialized RX0, Cond.code yX0_lay cX0_lay 4 none, Cond.methodLink RX0 30 yX0_clear]
def wsX2_aim_r3 : List Cond := [Cond.instanceMethod yX0_clear, Cond.selects RX0 yX0_clear yX0_clear, Cond.code yX0_clear cX0_clear 1 none, Cond.fieldLink RX0 9 "LessonWeave$Plan" "things" "[I", Cond.fieldLink RX0 15 "LessonWeave$Plan" "lessonDays" "[I", Cond.fieldLink RX0 18 "LessonWeave$Plan" "revisitDays" "[I", Cond.fieldLink RX0 21 "LessonWeave$Plan" "lessonsLaid" "[I", Cond.fieldLink RX0 24 "LessonWeave$Plan" "revisitsLaid" "[I", Cond.fieldLink RX0 27 "LessonWeave$Plan" "since" "[I", Cond.fieldLink RX0 39 "LessonWeave$Plan" "laidCount" "I", Cond.fieldLink RX0 43 "LessonWeave$Plan" "lateCount" "I", Cond.fieldLink RX0 46 "LessonWeave$Plan" "lastUsed" "I", Cond.methodLink RX0 33 yJ7_fill_53178, Cond.static yJ7_fill_53178, Cond.initialized RJ7, Cond.code yJ7_fill_53178 cJ7_fill_53178 4 none, Cond.methodLink RX0 49 yX0_layOn, Cond.instanceMethod yX0_layOn, Cond.selects RX0 yX0_layOn yX0_layOn, Cond.code yX0_layOn cX0_layOn 5 none, Cond.methodLink RX0 53 yX0_mostPressing, Cond.instanceMethod yX0_mostPressing, Cond.selects RX0 yX0_mostPressing yX0_mostPressing, Cond.code yX0_mostPressing cX0_mostPressing 7 (some .int)]
def wsX2_aim_r4 : List Cond := [Cond.methodLink RX0 78 yX0_isDue, Cond.instanceMethod yX0_isDue, Cond.selects RX0 yX0_isDue yX0_isDue, Cond.code yX0_isDue cX0_isDue 4 (some .boolean), Cond.methodLink RX0 90 yX0_nextGap, Cond.instanceMethod yX0_nextGap, Cond.selects RX0 yX0_nextGap yX0_nextGap, Cond.code yX0_nextGap cX0_nextGap 3 (some .int), Cond.methodLink RX0 81 yX0_lateFrom, Cond.instanceMethod yX0_lateFrom, Cond.selects RX0 yX0_lateFrom yX0_lateFrom, Cond.code yX0_lateFrom cX0_lateFrom 3 (some .int), Cond.methodLink RX0 57 yX0_layRevisit, Cond.instanceMethod yX0_layRevisit, Cond.selects RX0 yX0_layRevisit yX0_layRevisit, Cond.code yX0_layRevisit cX0_layRevisit 4 none, Cond.methodLink RX0 105 yX0_use, Cond.instanceMethod yX0_use, Cond.selects RX0 yX0_use yX0_use, Cond.code yX0_use cX0_use 4 none, Cond.methodLink RX0 61 yX0_firstUnfinished, Cond.instanceMethod yX0_firstUnfinished, Cond.selects RX0 yX0_firstUnfinished yX0_firstUnfinished, Cond.code yX0_firstUnfinished cX0_firstUnfinished 4 (some .int)]
def wsX2_aim_r5 : List Cond := [Cond.methodLink RX0 65 yX0_isKitTaken, Cond.instanceMethod yX0_isKitTaken, Cond.selects RX0 yX0_isKitTaken yX0_isKitTaken, Cond.code yX0_isKitTaken cX0_isKitTaken 5 (some .boolean), Cond.methodLink RX0 102 yX0_isOthersLesson, Cond.static yX0_isOthersLesson, Cond.code yX0_isOthersLesson cX0_isOthersLesson 3 (some .boolean), Cond.methodLink RX0 69 yX0_layLesson, Cond.instanceMethod yX0_layLesson, Cond.selects RX0 yX0_layLesson yX0_layLesson, Cond.code yX0_layLesson cX0_layLesson 3 none]
def wsX2_aim : List Cond := .code yX2_aim cX2_aim 6 (some .int) :: ((wsX2_aim_r1 ++ (wsX2_aim_r2 ++ (wsX2_aim_r3 ++ (wsX2_aim_r4 ++ wsX2_aim_r5)))) ++ wsX20 ++ wsX10 ++ wsX00 ++ (vx_atS RX2 38 "java/lang/IllegalArgumentException" ["java/lang/RuntimeException", "java/lang/Exception"]).filter goodWord ++ (vx_atS RX2 55 "java/lang/IllegalStateException" ["java/lang/RuntimeException", "java/lang/Exception"]).filter goodWord)
def wsX2_isAim : List Cond := .code yX2_isAim cX2_isAim 2 (some .boolean) :: ([.fieldLink RX2 10 "LessonWeave" "syllabus" "LLessonWeave$Syllabus;", .methodLink RX2 30 yX2_isWithin, .static yX2_isWithin, .initialized RX2, .code yX2_isWithin cX2_isWithin 3 (some .boolean)] ++ wsX20 ++ wsX10)
def wsX2_need_r1 : List Cond := [Cond.classLink RX2 67 "java/lang/IndexOutOfBoundsException", Cond.initialized "java/lang/IndexOutOfBoundsException", Cond.classLink RX2 34 "java/lang/IllegalArgumentException", Cond.initialized "java/lang/IllegalArgumentException", Cond.classLink RX2 51 "java/lang/IllegalStateException", Cond.initialized "java/lang/IllegalStateException", Cond.fieldLink RX2 10 "LessonWeave" "syllabus" "LLessonWeave$Syllabus;", Cond.methodLink RX2 63 yX2_isAim, Cond.instanceMethod yX2_isAim, Cond.selects RX2 yX2_isAim yX2_isAim, Cond.initialized RX2, Cond.code yX2_isAim cX2_isAim 2 (some .boolean), Cond.methodLink RX2 30 yX2_isWithin, Cond.static yX2_isWithin, Cond.code yX2_isWithin cX2_isWithin 3 (some .boolean), Cond.methodLink RX2 78 yX2_has, Cond.static yX2_has, Cond.code yX2_has cX2_has 2 (some .boolean), Cond.methodLink RX2 84 yX1_reach, Cond.instanceMethod yX1_reach, Cond.selects RX1 yX1_reach yX1_reach, Cond.initialized RX1, Cond.code yX1_reach cX1_reach 4 (some .int), Cond.fieldLink RX1 30 "LessonWeave$Syllabus" "needs" "[I"]
def wsX2_need_r2 : List Cond := [Cond.fieldLink RX1 36 "LessonWeave$Syllabus" "count" "I", Cond.methodLink RX1 43 yX1_neededBy, Cond.instanceMethod yX1_neededBy, Cond.selects RX1 yX1_neededBy yX1_neededBy, Cond.code yX1_neededBy cX1_neededBy 4 (some .int), Cond.methodLink RX2 90 yX1_setNeeds, Cond.instanceMethod yX1_setNeeds, Cond.selects RX1 yX1_setNeeds yX1_setNeeds, Cond.code yX1_setNeeds cX1_setNeeds 3 none, Cond.methodLink RX1 40 yX1_putInOrder, Cond.instanceMethod yX1_putInOrder, Cond.selects RX1 yX1_putInOrder yX1_putInOrder, Cond.code yX1_putInOrder cX1_putInOrder 5 none, Cond.fieldLink RX1 33 "LessonWeave$Syllabus" "order" "[I", Cond.fieldLink RX1 15 "LessonWeave$Syllabus" "kind" "[I", Cond.methodLink RX1 51 yX1_nextTaken, Cond.instanceMethod yX1_nextTaken, Cond.selects RX1 yX1_nextTaken yX1_nextTaken, Cond.code yX1_nextTaken cX1_nextTaken 5 (some .int), Cond.methodLink RX1 55 yX1_isCovered, Cond.static yX1_isCovered, Cond.code yX1_isCovered cX1_isCovered 2 (some .boolean), Cond.methodLink RX2 60 yX2_planAnew, Cond.instanceMethod yX2_planAnew]
def wsX2_need_r3 : List Cond := [Cond.selects RX2 yX2_planAnew yX2_planAnew, Cond.code yX2_planAnew cX2_planAnew 2 none, Cond.fieldLink RX2 27 "LessonWeave" "formerPlan" "LLessonWeave$Plan;", Cond.fieldLink RX2 23 "LessonWeave" "plan" "LLessonWeave$Plan;", Cond.fieldLink RX2 16 "LessonWeave" "lost" "[Z", Cond.methodLink RX2 168 yX0_lay, Cond.instanceMethod yX0_lay, Cond.selects RX0 yX0_lay yX0_lay, Cond.initialized RX0, Cond.code yX0_lay cX0_lay 4 none, Cond.methodLink RX0 30 yX0_clear, Cond.instanceMethod yX0_clear, Cond.selects RX0 yX0_clear yX0_clear, Cond.code yX0_clear cX0_clear 1 none, Cond.fieldLink RX0 9 "LessonWeave$Plan" "things" "[I", Cond.fieldLink RX0 15 "LessonWeave$Plan" "lessonDays" "[I", Cond.fieldLink RX0 18 "LessonWeave$Plan" "revisitDays" "[I", Cond.fieldLink RX0 21 "LessonWeave$Plan" "lessonsLaid" "[I", Cond.fieldLink RX0 24 "LessonWeave$Plan" "revisitsLaid" "[I", Cond.fieldLink RX0 27 "LessonWeave$Plan" "since" "[I", Cond.fieldLink RX0 39 "LessonWeave$Plan" "laidCount" "I", Cond.fieldLink RX0 43 "LessonWeave$Plan" "lateCount" "I", Cond.fieldLink RX0 46 "LessonWeave$Plan" "lastUsed" "I", Cond.methodLink RX0 33 yJ7_fill_53178]
def wsX2_need_r4 : List Cond := [Cond.static yJ7_fill_53178, Cond.initialized RJ7, Cond.code yJ7_fill_53178 cJ7_fill_53178 4 none, Cond.methodLink RX0 49 yX0_layOn, Cond.instanceMethod yX0_layOn, Cond.selects RX0 yX0_layOn yX0_layOn, Cond.code yX0_layOn cX0_layOn 5 none, Cond.methodLink RX0 53 yX0_mostPressing, Cond.instanceMethod yX0_mostPressing, Cond.selects RX0 yX0_mostPressing yX0_mostPressing, Cond.code yX0_mostPressing cX0_mostPressing 7 (some .int), Cond.methodLink RX0 78 yX0_isDue, Cond.instanceMethod yX0_isDue, Cond.selects RX0 yX0_isDue yX0_isDue, Cond.code yX0_isDue cX0_isDue 4 (some .boolean), Cond.methodLink RX0 90 yX0_nextGap, Cond.instanceMethod yX0_nextGap, Cond.selects RX0 yX0_nextGap yX0_nextGap, Cond.code yX0_nextGap cX0_nextGap 3 (some .int), Cond.methodLink RX0 81 yX0_lateFrom, Cond.instanceMethod yX0_lateFrom, Cond.selects RX0 yX0_lateFrom yX0_lateFrom, Cond.code yX0_lateFrom cX0_lateFrom 3 (some .int), Cond.methodLink RX0 57 yX0_layRevisit]
def wsX2_need_r5 : List Cond := [Cond.instanceMethod yX0_layRevisit, Cond.selects RX0 yX0_layRevisit yX0_layRevisit, Cond.code yX0_layRevisit cX0_layRevisit 4 none, Cond.methodLink RX0 105 yX0_use, Cond.instanceMethod yX0_use, Cond.selects RX0 yX0_use yX0_use, Cond.code yX0_use cX0_use 4 none, Cond.methodLink RX0 61 yX0_firstUnfinished, Cond.instanceMethod yX0_firstUnfinished, Cond.selects RX0 yX0_firstUnfinished yX0_firstUnfinished, Cond.code yX0_firstUnfinished cX0_firstUnfinished 4 (some .int), Cond.methodLink RX0 65 yX0_isKitTaken, Cond.instanceMethod yX0_isKitTaken, Cond.selects RX0 yX0_isKitTaken yX0_isKitTaken, Cond.code yX0_isKitTaken cX0_isKitTaken 5 (some .boolean), Cond.methodLink RX0 102 yX0_isOthersLesson, Cond.static yX0_isOthersLesson, Cond.code yX0_isOthersLesson cX0_isOthersLesson 3 (some .boolean), Cond.methodLink RX0 69 yX0_layLesson, Cond.instanceMethod yX0_layLesson, Cond.selects RX0 yX0_layLesson yX0_layLesson, Cond.code yX0_layLesson cX0_layLesson 3 none, Cond.methodLink RX2 94 yJ6_bitCount_0f7a4, Cond.static yJ6_bitCount_0f7a4]
def wsX2_need_r6 : List Cond := [Cond.initialized RJ6, Cond.code yJ6_bitCount_0f7a4 cJ6_bitCount_0f7a4 1 (some .int), Cond.constant RJ6 265 (1431655765), Cond.constant RJ6 266 (858993459), Cond.constant RJ6 267 (252645135)]
def wsX2_need : List Cond := .code yX2_need cX2_need 3 (some .int) :: ((wsX2_need_r1 ++ (wsX2_need_r2 ++ (wsX2_need_r3 ++ (wsX2_need_r4 ++ (wsX2_need_r5 ++ wsX2_need_r6))))) ++ wsX20 ++ wsX10 ++ wsX00 ++ (vx_atS RX2 71 "java/lang/IndexOutOfBoundsException" ["java/lang/RuntimeException", "java/lang/Exception"]).filter goodWord ++ (vx_atS RX2 38 "java/lang/IllegalArgumentException" ["java/lang/RuntimeException", "java/lang/Exception"]).filter goodWord ++ (vx_atS RX2 55 "java/lang/IllegalStateException" ["java/lang/RuntimeException", "java/lang/Exception"]).filter goodWord)
def wsX2_free_r1 : List Cond := [Cond.classLink RX2 67 "java/lang/IndexOutOfBoundsException", Cond.initialized "java/lang/IndexOutOfBoundsException", Cond.classLink RX2 99 "java/util/NoSuchElementException", Cond.initialized "java/util/NoSuchElementException", Cond.fieldLink RX2 10 "LessonWeave" "syllabus" "LLessonWeave$Syllabus;", Cond.methodLink RX2 63 yX2_isAim, Cond.instanceMethod yX2_isAim, Cond.selects RX2 yX2_isAim yX2_isAim, Cond.initialized RX2, Cond.code yX2_isAim cX2_isAim 2 (some .boolean), Cond.methodLink RX2 30 yX2_isWithin, Cond.static yX2_isWithin, Cond.code yX2_isWithin cX2_isWithin 3 (some .boolean), Cond.methodLink RX2 78 yX2_has, Cond.static yX2_has, Cond.code yX2_has cX2_has 2 (some .boolean), Cond.methodLink RX2 90 yX1_setNeeds, Cond.instanceMethod yX1_setNeeds, Cond.selects RX1 yX1_setNeeds yX1_setNeeds, Cond.initialized RX1, Cond.code yX1_setNeeds cX1_setNeeds 3 none, Cond.fieldLink RX1 30 "LessonWeave$Syllabus" "needs" "[I", Cond.methodLink RX1 40 yX1_putInOrder, Cond.instanceMethod yX1_putInOrder]
def wsX2_free_r2 : List Cond := [Cond.selects RX1 yX1_putInOrder yX1_putInOrder, Cond.code yX1_putInOrder cX1_putInOrder 5 none, Cond.fieldLink RX1 36 "LessonWeave$Syllabus" "count" "I", Cond.fieldLink RX1 33 "LessonWeave$Syllabus" "order" "[I", Cond.fieldLink RX1 15 "LessonWeave$Syllabus" "kind" "[I", Cond.methodLink RX1 51 yX1_nextTaken, Cond.instanceMethod yX1_nextTaken, Cond.selects RX1 yX1_nextTaken yX1_nextTaken, Cond.code yX1_nextTaken cX1_nextTaken 5 (some .int), Cond.methodLink RX1 55 yX1_isCovered, Cond.static yX1_isCovered, Cond.code yX1_isCovered cX1_isCovered 2 (some .boolean), Cond.methodLink RX2 60 yX2_planAnew, Cond.instanceMethod yX2_planAnew, Cond.selects RX2 yX2_planAnew yX2_planAnew, Cond.code yX2_planAnew cX2_planAnew 2 none, Cond.fieldLink RX2 27 "LessonWeave" "formerPlan" "LLessonWeave$Plan;", Cond.fieldLink RX2 23 "LessonWeave" "plan" "LLessonWeave$Plan;", Cond.fieldLink RX2 16 "LessonWeave" "lost" "[Z", Cond.methodLink RX2 168 yX0_lay, Cond.instanceMethod yX0_lay, Cond.selects RX0 yX0_lay yX0_lay, Cond.initialized RX0, Cond.code yX0_lay cX0_lay 4 none]
def wsX2_free_r3 : List Cond := [Cond.methodLink RX0 30 yX0_clear, Cond.instanceMethod yX0_clear, Cond.selects RX0 yX0_clear yX0_clear, Cond.code yX0_clear cX0_clear 1 none, Cond.fieldLink RX0 9 "LessonWeave$Plan" "things" "[I", Cond.fieldLink RX0 15 "LessonWeave$Plan" "lessonDays" "[I", Cond.fieldLink RX0 18 "LessonWeave$Plan" "revisitDays" "[I", Cond.fieldLink RX0 21 "LessonWeave$Plan" "lessonsLaid" "[I", Cond.fieldLink RX0 24 "LessonWeave$Plan" "revisitsLaid" "[I", Cond.fieldLink RX0 27 "LessonWeave$Plan" "since" "[I", Cond.fieldLink RX0 39 "LessonWeave$Plan" "laidCount" "I", Cond.fieldLink RX0 43 "LessonWeave$Plan" "lateCount" "I", Cond.fieldLink RX0 46 "LessonWeave$Plan" "lastUsed" "I", Cond.methodLink RX0 33 yJ7_fill_53178, Cond.static yJ7_fill_53178, Cond.initialized RJ7, Cond.code yJ7_fill_53178 cJ7_fill_53178 4 none, Cond.methodLink RX0 49 yX0_layOn, Cond.instanceMethod yX0_layOn, Cond.selects RX0 yX0_layOn yX0_layOn, Cond.code yX0_layOn cX0_layOn 5 none, Cond.methodLink RX0 53 yX0_mostPressing, Cond.instanceMethod yX0_mostPressing, Cond.selects RX0 yX0_mostPressing yX0_mostPressing]
def wsX2_free_r4 : List Cond := [Cond.code yX0_mostPressing cX0_mostPressing 7 (some .int), Cond.methodLink RX0 78 yX0_isDue, Cond.instanceMethod yX0_isDue, Cond.selects RX0 yX0_isDue yX0_isDue, Cond.code yX0_isDue cX0_isDue 4 (some .boolean), Cond.methodLink RX0 90 yX0_nextGap, Cond.instanceMethod yX0_nextGap, Cond.selects RX0 yX0_nextGap yX0_nextGap, Cond.code yX0_nextGap cX0_nextGap 3 (some .int), Cond.methodLink RX0 81 yX0_lateFrom, Cond.instanceMethod yX0_lateFrom, Cond.selects RX0 yX0_lateFrom yX0_lateFrom, Cond.code yX0_lateFrom cX0_lateFrom 3 (some .int), Cond.methodLink RX0 57 yX0_layRevisit, Cond.instanceMethod yX0_layRevisit, Cond.selects RX0 yX0_layRevisit yX0_layRevisit, Cond.code yX0_layRevisit cX0_layRevisit 4 none, Cond.methodLink RX0 105 yX0_use, Cond.instanceMethod yX0_use, Cond.selects RX0 yX0_use yX0_use, Cond.code yX0_use cX0_use 4 none, Cond.methodLink RX0 61 yX0_firstUnfinished, Cond.instanceMethod yX0_firstUnfinished, Cond.selects RX0 yX0_firstUnfinished yX0_firstUnfinished]
def wsX2_free_r5 : List Cond := [Cond.code yX0_firstUnfinished cX0_firstUnfinished 4 (some .int), Cond.methodLink RX0 65 yX0_isKitTaken, Cond.instanceMethod yX0_isKitTaken, Cond.selects RX0 yX0_isKitTaken yX0_isKitTaken, Cond.code yX0_isKitTaken cX0_isKitTaken 5 (some .boolean), Cond.methodLink RX0 102 yX0_isOthersLesson, Cond.static yX0_isOthersLesson, Cond.code yX0_isOthersLesson cX0_isOthersLesson 3 (some .boolean), Cond.methodLink RX0 69 yX0_layLesson, Cond.instanceMethod yX0_layLesson, Cond.selects RX0 yX0_layLesson yX0_layLesson, Cond.code yX0_layLesson cX0_layLesson 3 none, Cond.methodLink RX2 94 yJ6_bitCount_0f7a4, Cond.static yJ6_bitCount_0f7a4, Cond.initialized RJ6, Cond.code yJ6_bitCount_0f7a4 cJ6_bitCount_0f7a4 1 (some .int), Cond.constant RJ6 265 (1431655765), Cond.constant RJ6 266 (858993459), Cond.constant RJ6 267 (252645135)]
def wsX2_free : List Cond := .code yX2_free cX2_free 3 (some .int) :: ((wsX2_free_r1 ++ (wsX2_free_r2 ++ (wsX2_free_r3 ++ (wsX2_free_r4 ++ wsX2_free_r5)))) ++ wsX20 ++ wsX10 ++ wsX00 ++ (vx_atS RX2 71 "java/lang/IndexOutOfBoundsException" ["java/lang/RuntimeException", "java/lang/Exception"]).filter goodWord ++ xk_nsS.filter goodWord)
def wsX2_revisits_r1 : List Cond := [Cond.classLink RX2 67 "java/lang/IndexOutOfBoundsException", Cond.initialized "java/lang/IndexOutOfBoundsException", Cond.classLink RX2 34 "java/lang/IllegalArgumentException", Cond.initialized "java/lang/IllegalArgumentException", Cond.fieldLink RX2 10 "LessonWeave" "syllabus" "LLessonWeave$Syllabus;", Cond.methodLink RX2 63 yX2_isAim, Cond.instanceMethod yX2_isAim, Cond.selects RX2 yX2_isAim yX2_isAim, Cond.initialized RX2, Cond.code yX2_isAim cX2_isAim 2 (some .boolean), Cond.methodLink RX2 30 yX2_isWithin, Cond.static yX2_isWithin, Cond.code yX2_isWithin cX2_isWithin 3 (some .boolean), Cond.methodLink RX2 60 yX2_planAnew, Cond.instanceMethod yX2_planAnew, Cond.selects RX2 yX2_planAnew yX2_planAnew, Cond.code yX2_planAnew cX2_planAnew 2 none, Cond.fieldLink RX2 27 "LessonWeave" "formerPlan" "LLessonWeave$Plan;", Cond.fieldLink RX2 23 "LessonWeave" "plan" "LLessonWeave$Plan;", Cond.fieldLink RX2 16 "LessonWeave" "lost" "[Z", Cond.methodLink RX2 168 yX0_lay, Cond.instanceMethod yX0_lay, Cond.selects RX0 yX0_lay yX0_lay, Cond.initialized RX0]
def wsX2_revisits_r2 : List Cond := [Cond.code yX0_lay cX0_lay 4 none, Cond.methodLink RX0 30 yX0_clear, Cond.instanceMethod yX0_clear, Cond.selects RX0 yX0_clear yX0_clear, Cond.code yX0_clear cX0_clear 1 none, Cond.fieldLink RX0 9 "LessonWeave$Plan" "things" "[I", Cond.fieldLink RX0 15 "LessonWeave$Plan" "lessonDays" "[I", Cond.fieldLink RX0 18 "LessonWeave$Plan" "revisitDays" "[I", Cond.fieldLink RX0 21 "LessonWeave$Plan" "lessonsLaid" "[I", Cond.fieldLink RX0 24 "LessonWeave$Plan" "revisitsLaid" "[I", Cond.fieldLink RX0 27 "LessonWeave$Plan" "since" "[I", Cond.fieldLink RX0 39 "LessonWeave$Plan" "laidCount" "I", Cond.fieldLink RX0 43 "LessonWeave$Plan" "lateCount" "I", Cond.fieldLink RX0 46 "LessonWeave$Plan" "lastUsed" "I", Cond.methodLink RX0 33 yJ7_fill_53178, Cond.static yJ7_fill_53178, Cond.initialized RJ7, Cond.code yJ7_fill_53178 cJ7_fill_53178 4 none, Cond.methodLink RX0 49 yX0_layOn, Cond.instanceMethod yX0_layOn, Cond.selects RX0 yX0_layOn yX0_layOn, Cond.code yX0_layOn cX0_layOn 5 none, Cond.methodLink RX0 53 yX0_mostPressing, Cond.instanceMethod yX0_mostPressing]
def wsX2_revisits_r3 : List Cond := [Cond.selects RX0 yX0_mostPressing yX0_mostPressing, Cond.code yX0_mostPressing cX0_mostPressing 7 (some .int), Cond.methodLink RX0 78 yX0_isDue, Cond.instanceMethod yX0_isDue, Cond.selects RX0 yX0_isDue yX0_isDue, Cond.code yX0_isDue cX0_isDue 4 (some .boolean), Cond.methodLink RX0 90 yX0_nextGap, Cond.instanceMethod yX0_nextGap, Cond.selects RX0 yX0_nextGap yX0_nextGap, Cond.code yX0_nextGap cX0_nextGap 3 (some .int), Cond.methodLink RX0 81 yX0_lateFrom, Cond.instanceMethod yX0_lateFrom, Cond.selects RX0 yX0_lateFrom yX0_lateFrom, Cond.code yX0_lateFrom cX0_lateFrom 3 (some .int), Cond.methodLink RX0 57 yX0_layRevisit, Cond.instanceMethod yX0_layRevisit, Cond.selects RX0 yX0_layRevisit yX0_layRevisit, Cond.code yX0_layRevisit cX0_layRevisit 4 none, Cond.methodLink RX0 105 yX0_use, Cond.instanceMethod yX0_use, Cond.selects RX0 yX0_use yX0_use, Cond.code yX0_use cX0_use 4 none, Cond.methodLink RX0 61 yX0_firstUnfinished, Cond.instanceMethod yX0_firstUnfinished]
def wsX2_revisits_r4 : List Cond := [Cond.selects RX0 yX0_firstUnfinished yX0_firstUnfinished, Cond.code yX0_firstUnfinished cX0_firstUnfinished 4 (some .int), Cond.methodLink RX0 65 yX0_isKitTaken, Cond.instanceMethod yX0_isKitTaken, Cond.selects RX0 yX0_isKitTaken yX0_isKitTaken, Cond.code yX0_isKitTaken cX0_isKitTaken 5 (some .boolean), Cond.methodLink RX0 102 yX0_isOthersLesson, Cond.static yX0_isOthersLesson, Cond.code yX0_isOthersLesson cX0_isOthersLesson 3 (some .boolean), Cond.methodLink RX0 69 yX0_layLesson, Cond.instanceMethod yX0_layLesson, Cond.selects RX0 yX0_layLesson yX0_layLesson, Cond.code yX0_layLesson cX0_layLesson 3 none]
def wsX2_revisits : List Cond := .code yX2_revisits cX2_revisits 5 (some .int) :: ((wsX2_revisits_r1 ++ (wsX2_revisits_r2 ++ (wsX2_revisits_r3 ++ wsX2_revisits_r4))) ++ wsX20 ++ wsX10 ++ wsX00 ++ (vx_atS RX2 71 "java/lang/IndexOutOfBoundsException" ["java/lang/RuntimeException", "java/lang/Exception"]).filter goodWord ++ (vx_atS RX2 38 "java/lang/IllegalArgumentException" ["java/lang/RuntimeException", "java/lang/Exception"]).filter goodWord)
def wsX2_aims : List Cond := .code yX2_aims cX2_aims 1 (some .int) :: ([.fieldLink RX2 10 "LessonWeave" "syllabus" "LLessonWeave$Syllabus;"] ++ wsX20 ++ wsX10)
def wsX2_allNeeds : List Cond := .code yX2_allNeeds cX2_allNeeds 2 (some .int) :: ([.classLink RX2 67 "java/lang/IndexOutOfBoundsException", .initialized "java/lang/IndexOutOfBoundsException", .fieldLink RX2 10 "LessonWeave" "syllabus" "LLessonWeave$Syllabus;", .methodLink RX2 63 yX2_isAim, .instanceMethod yX2_isAim, .selects RX2 yX2_isAim yX2_isAim, .initialized RX2, .code yX2_isAim cX2_isAim 2 (some .boolean), .methodLink RX2 30 yX2_isWithin, .static yX2_isWithin, .code yX2_isWithin cX2_isWithin 3 (some .boolean), .methodLink RX2 84 yX1_reach, .instanceMethod yX1_reach, .selects RX1 yX1_reach yX1_reach, .initialized RX1, .code yX1_reach cX1_reach 4 (some .int), .fieldLink RX1 30 "LessonWeave$Syllabus" "needs" "[I", .fieldLink RX1 36 "LessonWeave$Syllabus" "count" "I", .methodLink RX1 43 yX1_neededBy, .instanceMethod yX1_neededBy, .selects RX1 yX1_neededBy yX1_neededBy, .code yX1_neededBy cX1_neededBy 4 (some .int), .static yX2_has, .code yX2_has cX2_has 2 (some .boolean)] ++ wsX20 ++ wsX10 ++ (vx_atS RX2 71 "java/lang/IndexOutOfBoundsException" ["java/lang/RuntimeException", "java/lang/Exception"]).filter goodWord)
def wsX2_ordered : List Cond := .code yX2_ordered cX2_ordered 2 (some .int) :: ([.classLink RX2 67 "java/lang/IndexOutOfBoundsException", .initialized "java/lang/IndexOutOfBoundsException", .fieldLink RX2 10 "LessonWeave" "syllabus" "LLessonWeave$Syllabus;", .methodLink RX2 30 yX2_isWithin, .static yX2_isWithin, .initialized RX2, .code yX2_isWithin cX2_isWithin 3 (some .boolean)] ++ wsX20 ++ wsX10 ++ (vx_atS RX2 71 "java/lang/IndexOutOfBoundsException" ["java/lang/RuntimeException", "java/lang/Exception"]).filter goodWord)
def wsX2_isDay : List Cond := .code yX2_isDay cX2_isDay 1 (some .boolean) :: ([.methodLink RX2 30 yX2_isWithin, .static yX2_isWithin, .initialized RX2, .code yX2_isWithin cX2_isWithin 3 (some .boolean)])
def wsX2_lose_r1 : List Cond := [Cond.classLink RX2 67 "java/lang/IndexOutOfBoundsException", Cond.initialized "java/lang/IndexOutOfBoundsException", Cond.classLink RX2 51 "java/lang/IllegalStateException", Cond.initialized "java/lang/IllegalStateException", Cond.fieldLink RX2 16 "LessonWeave" "lost" "[Z", Cond.fieldLink RX2 23 "LessonWeave" "plan" "LLessonWeave$Plan;", Cond.fieldLink RX2 27 "LessonWeave" "formerPlan" "LLessonWeave$Plan;", Cond.methodLink RX2 119 yX2_isDay, Cond.static yX2_isDay, Cond.initialized RX2, Cond.code yX2_isDay cX2_isDay 1 (some .boolean), Cond.methodLink RX2 30 yX2_isWithin, Cond.static yX2_isWithin, Cond.code yX2_isWithin cX2_isWithin 3 (some .boolean), Cond.methodLink RX2 60 yX2_planAnew, Cond.instanceMethod yX2_planAnew, Cond.selects RX2 yX2_planAnew yX2_planAnew, Cond.code yX2_planAnew cX2_planAnew 2 none, Cond.fieldLink RX2 10 "LessonWeave" "syllabus" "LLessonWeave$Syllabus;", Cond.methodLink RX2 168 yX0_lay, Cond.instanceMethod yX0_lay, Cond.selects RX0 yX0_lay yX0_lay, Cond.initialized RX0, Cond.code yX0_lay cX0_lay 4 none]
def wsX2_lose_r2 : List Cond := [Cond.methodLink RX0 30 yX0_clear, Cond.instanceMethod yX0_clear, Cond.selects RX0 yX0_clear yX0_clear, Cond.code yX0_clear cX0_clear 1 none, Cond.fieldLink RX0 9 "LessonWeave$Plan" "things" "[I", Cond.fieldLink RX0 15 "LessonWeave$Plan" "lessonDays" "[I", Cond.fieldLink RX0 18 "LessonWeave$Plan" "revisitDays" "[I", Cond.fieldLink RX0 21 "LessonWeave$Plan" "lessonsLaid" "[I", Cond.fieldLink RX0 24 "LessonWeave$Plan" "revisitsLaid" "[I", Cond.fieldLink RX0 27 "LessonWeave$Plan" "since" "[I", Cond.fieldLink RX0 39 "LessonWeave$Plan" "laidCount" "I", Cond.fieldLink RX0 43 "LessonWeave$Plan" "lateCount" "I", Cond.fieldLink RX0 46 "LessonWeave$Plan" "lastUsed" "I", Cond.methodLink RX0 33 yJ7_fill_53178, Cond.static yJ7_fill_53178, Cond.initialized RJ7, Cond.code yJ7_fill_53178 cJ7_fill_53178 4 none, Cond.methodLink RX0 49 yX0_layOn, Cond.instanceMethod yX0_layOn, Cond.selects RX0 yX0_layOn yX0_layOn, Cond.code yX0_layOn cX0_layOn 5 none, Cond.methodLink RX0 53 yX0_mostPressing, Cond.instanceMethod yX0_mostPressing, Cond.selects RX0 yX0_mostPressing yX0_mostPressing]
def wsX2_lose_r3 : List Cond := [Cond.code yX0_mostPressing cX0_mostPressing 7 (some .int), Cond.methodLink RX0 78 yX0_isDue, Cond.instanceMethod yX0_isDue, Cond.selects RX0 yX0_isDue yX0_isDue, Cond.code yX0_isDue cX0_isDue 4 (some .boolean), Cond.methodLink RX0 90 yX0_nextGap, Cond.instanceMethod yX0_nextGap, Cond.selects RX0 yX0_nextGap yX0_nextGap, Cond.code yX0_nextGap cX0_nextGap 3 (some .int), Cond.methodLink RX0 81 yX0_lateFrom, Cond.instanceMethod yX0_lateFrom, Cond.selects RX0 yX0_lateFrom yX0_lateFrom, Cond.code yX0_lateFrom cX0_lateFrom 3 (some .int), Cond.methodLink RX0 57 yX0_layRevisit, Cond.instanceMethod yX0_layRevisit, Cond.selects RX0 yX0_layRevisit yX0_layRevisit, Cond.code yX0_layRevisit cX0_layRevisit 4 none, Cond.methodLink RX0 105 yX0_use, Cond.instanceMethod yX0_use, Cond.selects RX0 yX0_use yX0_use, Cond.code yX0_use cX0_use 4 none, Cond.methodLink RX0 61 yX0_firstUnfinished, Cond.instanceMethod yX0_firstUnfinished, Cond.selects RX0 yX0_firstUnfinished yX0_firstUnfinished]
def wsX2_lose_r4 : List Cond := [Cond.code yX0_firstUnfinished cX0_firstUnfinished 4 (some .int), Cond.methodLink RX0 65 yX0_isKitTaken, Cond.instanceMethod yX0_isKitTaken, Cond.selects RX0 yX0_isKitTaken yX0_isKitTaken, Cond.code yX0_isKitTaken cX0_isKitTaken 5 (some .boolean), Cond.methodLink RX0 102 yX0_isOthersLesson, Cond.static yX0_isOthersLesson, Cond.code yX0_isOthersLesson cX0_isOthersLesson 3 (some .boolean), Cond.methodLink RX0 69 yX0_layLesson, Cond.instanceMethod yX0_layLesson, Cond.selects RX0 yX0_layLesson yX0_layLesson, Cond.code yX0_layLesson cX0_layLesson 3 none, Cond.methodLink RX2 126 yX0_movedSince, Cond.instanceMethod yX0_movedSince, Cond.selects RX0 yX0_movedSince yX0_movedSince, Cond.code yX0_movedSince cX0_movedSince 2 (some .int), Cond.methodLink RX0 109 yX0_changed, Cond.static yX0_changed, Cond.code yX0_changed cX0_changed 4 (some .int)]
def wsX2_lose : List Cond := .code yX2_lose cX2_lose 2 (some .int) :: ((wsX2_lose_r1 ++ (wsX2_lose_r2 ++ (wsX2_lose_r3 ++ wsX2_lose_r4))) ++ wsX20 ++ wsX00 ++ wsX10 ++ (vx_atS RX2 71 "java/lang/IndexOutOfBoundsException" ["java/lang/RuntimeException", "java/lang/Exception"]).filter goodWord ++ (vx_atS RX2 55 "java/lang/IllegalStateException" ["java/lang/RuntimeException", "java/lang/Exception"]).filter goodWord)
def wsX2_on : List Cond := .code yX2_on cX2_on 2 (some .int) :: ([.classLink RX2 67 "java/lang/IndexOutOfBoundsException", .initialized "java/lang/IndexOutOfBoundsException", .fieldLink RX2 23 "LessonWeave" "plan" "LLessonWeave$Plan;", .methodLink RX2 119 yX2_isDay, .static yX2_isDay, .initialized RX2, .code yX2_isDay cX2_isDay 1 (some .boolean), .methodLink RX2 30 yX2_isWithin, .static yX2_isWithin, .code yX2_isWithin cX2_isWithin 3 (some .boolean)] ++ wsX20 ++ wsX00 ++ (vx_atS RX2 71 "java/lang/IndexOutOfBoundsException" ["java/lang/RuntimeException", "java/lang/Exception"]).filter goodWord)
def wsX2_lessonDay : List Cond := .code yX2_lessonDay cX2_lessonDay 3 (some .int) :: ([.classLink RX2 67 "java/lang/IndexOutOfBoundsException", .initialized "java/lang/IndexOutOfBoundsException", .fieldLink RX2 10 "LessonWeave" "syllabus" "LLessonWeave$Syllabus;", .fieldLink RX2 23 "LessonWeave" "plan" "LLessonWeave$Plan;", .methodLink RX2 63 yX2_isAim, .instanceMethod yX2_isAim, .selects RX2 yX2_isAim yX2_isAim, .initialized RX2, .code yX2_isAim cX2_isAim 2 (some .boolean), .methodLink RX2 30 yX2_isWithin, .static yX2_isWithin, .code yX2_isWithin cX2_isWithin 3 (some .boolean)] ++ wsX20 ++ wsX10 ++ wsX00 ++ (vx_atS RX2 71 "java/lang/IndexOutOfBoundsException" ["java/lang/RuntimeException", "java/lang/Exception"]).filter goodWord)
def wsX2_revisitDay : List Cond := .code yX2_revisitDay cX2_revisitDay 3 (some .int) :: ([.classLink RX2 67 "java/lang/IndexOutOfBoundsException", .initialized "java/lang/IndexOutOfBoundsException", .fieldLink RX2 10 "LessonWeave" "syllabus" "LLessonWeave$Syllabus;", .fieldLink RX2 23 "LessonWeave" "plan" "LLessonWeave$Plan;", .methodLink RX2 63 yX2_isAim, .instanceMethod yX2_isAim, .selects RX2 yX2_isAim yX2_isAim, .initialized RX2, .code yX2_isAim cX2_isAim 2 (some .boolean), .methodLink RX2 30 yX2_isWithin, .static yX2_isWithin, .code yX2_isWithin cX2_isWithin 3 (some .boolean)] ++ wsX20 ++ wsX10 ++ wsX00 ++ (vx_atS RX2 71 "java/lang/IndexOutOfBoundsException" ["java/lang/RuntimeException", "java/lang/Exception"]).filter goodWord)
def wsX2_laid : List Cond := .code yX2_laid cX2_laid 1 (some .int) :: ([.fieldLink RX2 23 "LessonWeave" "plan" "LLessonWeave$Plan;"] ++ wsX20 ++ wsX00)
def wsX2_late : List Cond := .code yX2_late cX2_late 1 (some .int) :: ([.fieldLink RX2 23 "LessonWeave" "plan" "LLessonWeave$Plan;"] ++ wsX20 ++ wsX00)
def wsX2_lastDay : List Cond := .code yX2_lastDay cX2_lastDay 1 (some .int) :: ([.fieldLink RX2 23 "LessonWeave" "plan" "LLessonWeave$Plan;"] ++ wsX20 ++ wsX00)
def wsX2_worthwhile_r1 : List Cond := [Cond.classLink RX2 34 "java/lang/IllegalArgumentException", Cond.initialized "java/lang/IllegalArgumentException", Cond.fieldLink RX2 10 "LessonWeave" "syllabus" "LLessonWeave$Syllabus;", Cond.methodLink RX2 30 yX2_isWithin, Cond.static yX2_isWithin, Cond.initialized RX2, Cond.code yX2_isWithin cX2_isWithin 3 (some .boolean), Cond.methodLink RX2 157 yX1_bestSet, Cond.instanceMethod yX1_bestSet, Cond.selects RX1 yX1_bestSet yX1_bestSet, Cond.initialized RX1, Cond.code yX1_bestSet cX1_bestSet 6 (some .int), Cond.fieldLink RX1 36 "LessonWeave$Syllabus" "count" "I", Cond.methodLink RX1 58 yX1_isClosed, Cond.instanceMethod yX1_isClosed, Cond.selects RX1 yX1_isClosed yX1_isClosed, Cond.code yX1_isClosed cX1_isClosed 3 (some .boolean), Cond.fieldLink RX1 30 "LessonWeave$Syllabus" "needs" "[I", Cond.static yX2_has, Cond.code yX2_has cX2_has 2 (some .boolean), Cond.methodLink RX1 55 yX1_isCovered, Cond.static yX1_isCovered, Cond.code yX1_isCovered cX1_isCovered 2 (some .boolean), Cond.methodLink RX1 62 yX1_netOf]
def wsX2_worthwhile_r2 : List Cond := [Cond.instanceMethod yX1_netOf, Cond.selects RX1 yX1_netOf yX1_netOf, Cond.code yX1_netOf cX1_netOf 5 (some .int), Cond.fieldLink RX1 18 "LessonWeave$Syllabus" "worth" "[I", Cond.fieldLink RX1 9 "LessonWeave$Syllabus" "lessons" "[I", Cond.methodLink RX1 65 yJ6_bitCount_0f7a4, Cond.static yJ6_bitCount_0f7a4, Cond.initialized RJ6, Cond.code yJ6_bitCount_0f7a4 cJ6_bitCount_0f7a4 1 (some .int), Cond.constant RJ6 265 (1431655765), Cond.constant RJ6 266 (858993459), Cond.constant RJ6 267 (252645135)]
def wsX2_worthwhile : List Cond := .code yX2_worthwhile cX2_worthwhile 2 (some .int) :: ((wsX2_worthwhile_r1 ++ wsX2_worthwhile_r2) ++ wsX20 ++ wsX10 ++ (vx_atS RX2 38 "java/lang/IllegalArgumentException" ["java/lang/RuntimeException", "java/lang/Exception"]).filter goodWord)
def wsX2_bestNet_r1 : List Cond := [Cond.classLink RX2 34 "java/lang/IllegalArgumentException", Cond.initialized "java/lang/IllegalArgumentException", Cond.fieldLink RX2 10 "LessonWeave" "syllabus" "LLessonWeave$Syllabus;", Cond.methodLink RX2 30 yX2_isWithin, Cond.static yX2_isWithin, Cond.initialized RX2, Cond.code yX2_isWithin cX2_isWithin 3 (some .boolean), Cond.methodLink RX2 157 yX1_bestSet, Cond.instanceMethod yX1_bestSet, Cond.selects RX1 yX1_bestSet yX1_bestSet, Cond.initialized RX1, Cond.code yX1_bestSet cX1_bestSet 6 (some .int), Cond.fieldLink RX1 36 "LessonWeave$Syllabus" "count" "I", Cond.methodLink RX1 58 yX1_isClosed, Cond.instanceMethod yX1_isClosed, Cond.selects RX1 yX1_isClosed yX1_isClosed, Cond.code yX1_isClosed cX1_isClosed 3 (some .boolean), Cond.fieldLink RX1 30 "LessonWeave$Syllabus" "needs" "[I", Cond.static yX2_has, Cond.code yX2_has cX2_has 2 (some .boolean), Cond.methodLink RX1 55 yX1_isCovered, Cond.static yX1_isCovered, Cond.code yX1_isCovered cX1_isCovered 2 (some .boolean), Cond.methodLink RX1 62 yX1_netOf]
def wsX2_bestNet_r2 : List Cond := [Cond.instanceMethod yX1_netOf, Cond.selects RX1 yX1_netOf yX1_netOf, Cond.code yX1_netOf cX1_netOf 5 (some .int), Cond.fieldLink RX1 18 "LessonWeave$Syllabus" "worth" "[I", Cond.fieldLink RX1 9 "LessonWeave$Syllabus" "lessons" "[I", Cond.methodLink RX1 65 yJ6_bitCount_0f7a4, Cond.static yJ6_bitCount_0f7a4, Cond.initialized RJ6, Cond.code yJ6_bitCount_0f7a4 cJ6_bitCount_0f7a4 1 (some .int), Cond.constant RJ6 265 (1431655765), Cond.constant RJ6 266 (858993459), Cond.constant RJ6 267 (252645135), Cond.methodLink RX2 160 yX1_netOf]
def wsX2_bestNet : List Cond := .code yX2_bestNet cX2_bestNet 2 (some .int) :: ((wsX2_bestNet_r1 ++ wsX2_bestNet_r2) ++ wsX20 ++ wsX10 ++ (vx_atS RX2 38 "java/lang/IllegalArgumentException" ["java/lang/RuntimeException", "java/lang/Exception"]).filter goodWord)
def wsX2_closedSets : List Cond := .code yX2_closedSets cX2_closedSets 1 (some .int) :: ([.fieldLink RX2 10 "LessonWeave" "syllabus" "LLessonWeave$Syllabus;", .methodLink RX2 164 yX1_countClosed, .instanceMethod yX1_countClosed, .selects RX1 yX1_countClosed yX1_countClosed, .initialized RX1, .code yX1_countClosed cX1_countClosed 3 (some .int), .fieldLink RX1 36 "LessonWeave$Syllabus" "count" "I", .methodLink RX1 58 yX1_isClosed, .instanceMethod yX1_isClosed, .selects RX1 yX1_isClosed yX1_isClosed, .code yX1_isClosed cX1_isClosed 3 (some .boolean), .fieldLink RX1 30 "LessonWeave$Syllabus" "needs" "[I", .static yX2_has, .initialized RX2, .code yX2_has cX2_has 2 (some .boolean), .methodLink RX1 55 yX1_isCovered, .static yX1_isCovered, .code yX1_isCovered cX1_isCovered 2 (some .boolean)] ++ wsX20 ++ wsX10)
def wsX3_init : List Cond := .code yX3_init cX3_init 1 none :: ([.methodLink RX3 1 objectInit, .instanceMethod objectInit, .code objectInit ⟨#[0xb1]⟩ 1 none, .arrayClass .int, .fieldLink RX3 7 "LessonWeaveModel" "lessons" "[I", .fieldLink RX3 13 "LessonWeaveModel" "kind" "[I", .fieldLink RX3 16 "LessonWeaveModel" "worth" "[I", .fieldLink RX3 19 "LessonWeaveModel" "kit" "[I", .fieldLink RX3 22 "LessonWeaveModel" "needs" "[I", .fieldLink RX3 25 "LessonWeaveModel" "many" "[I", .fieldLink RX3 28 "LessonWeaveModel" "gap" "[I", .arrayClass .boolean, .fieldLink RX3 31 "LessonWeaveModel" "isLost" "[Z", .fieldLink RX3 35 "LessonWeaveModel" "order" "[I", .fieldLink RX3 38 "LessonWeaveModel" "things" "[I", .fieldLink RX3 41 "LessonWeaveModel" "lessonOn" "[I", .fieldLink RX3 44 "LessonWeaveModel" "revisitOn" "[I", .fieldLink RX3 47 "LessonWeaveModel" "lessonsLaid" "[I", .fieldLink RX3 50 "LessonWeaveModel" "revisitsLaid" "[I", .fieldLink RX3 53 "LessonWeaveModel" "before" "[I"] ++ wsX30)
def wsX3_thrown : List Cond := .code yX3_thrown cX3_thrown 1 (some .int) :: ([.fieldLink RX3 56 "LessonWeaveModel" "thrown" "I"] ++ wsX30)
def wsX3_can : List Cond := .code yX3_can cX3_can 2 (some .boolean) :: ([.fieldLink RX3 56 "LessonWeaveModel" "thrown" "I"] ++ wsX30)
def wsX3_isIn : List Cond := .code yX3_isIn cX3_isIn 3 (some .boolean) :: ([])
def wsX3_isAim : List Cond := .code yX3_isAim cX3_isAim 2 (some .boolean) :: ([.fieldLink RX3 60 "LessonWeaveModel" "aims" "I", .methodLink RX3 63 yX3_isIn, .static yX3_isIn, .initialized RX3, .code yX3_isIn cX3_isIn 3 (some .boolean)] ++ wsX30)
def wsX3_size : List Cond := .code yX3_size cX3_size 3 (some .int) :: ([])
def wsX3_aim : List Cond := .code yX3_aim cX3_aim 6 (some .int) :: ([.fieldLink RX3 60 "LessonWeaveModel" "aims" "I", .fieldLink RX3 7 "LessonWeaveModel" "lessons" "[I", .fieldLink RX3 13 "LessonWeaveModel" "kind" "[I", .fieldLink RX3 16 "LessonWeaveModel" "worth" "[I", .fieldLink RX3 19 "LessonWeaveModel" "kit" "[I", .fieldLink RX3 28 "LessonWeaveModel" "gap" "[I", .methodLink RX3 63 yX3_isIn, .static yX3_isIn, .initialized RX3, .code yX3_isIn cX3_isIn 3 (some .boolean), .methodLink RX3 67 yX3_can, .instanceMethod yX3_can, .selects RX3 yX3_can yX3_can, .code yX3_can cX3_can 2 (some .boolean), .fieldLink RX3 56 "LessonWeaveModel" "thrown" "I"] ++ wsX30)
def wsX3_reached : List Cond := .code yX3_reached cX3_reached 5 (some .int) :: ([.fieldLink RX3 22 "LessonWeaveModel" "needs" "[I", .fieldLink RX3 60 "LessonWeaveModel" "aims" "I"] ++ wsX30)
def wsX3_hasNeed : List Cond := .code yX3_hasNeed cX3_hasNeed 3 (some .boolean) :: ([.fieldLink RX3 22 "LessonWeaveModel" "needs" "[I"] ++ wsX30)
def wsX3_need_r1 : List Cond := [Cond.fieldLink RX3 22 "LessonWeaveModel" "needs" "[I", Cond.methodLink RX3 71 yX3_isAim, Cond.instanceMethod yX3_isAim, Cond.selects RX3 yX3_isAim yX3_isAim, Cond.initialized RX3, Cond.code yX3_isAim cX3_isAim 2 (some .boolean), Cond.fieldLink RX3 60 "LessonWeaveModel" "aims" "I", Cond.methodLink RX3 63 yX3_isIn, Cond.static yX3_isIn, Cond.code yX3_isIn cX3_isIn 3 (some .boolean), Cond.methodLink RX3 74 yX3_hasNeed, Cond.instanceMethod yX3_hasNeed, Cond.selects RX3 yX3_hasNeed yX3_hasNeed, Cond.code yX3_hasNeed cX3_hasNeed 3 (some .boolean), Cond.methodLink RX3 78 yX3_reached, Cond.instanceMethod yX3_reached, Cond.selects RX3 yX3_reached yX3_reached, Cond.code yX3_reached cX3_reached 5 (some .int), Cond.methodLink RX3 67 yX3_can, Cond.instanceMethod yX3_can, Cond.selects RX3 yX3_can yX3_can, Cond.code yX3_can cX3_can 2 (some .boolean), Cond.fieldLink RX3 56 "LessonWeaveModel" "thrown" "I", Cond.methodLink RX3 82 yX3_size]
def wsX3_need_r2 : List Cond := [Cond.static yX3_size, Cond.code yX3_size cX3_size 3 (some .int)]
def wsX3_need : List Cond := .code yX3_need cX3_need 4 (some .int) :: ((wsX3_need_r1 ++ wsX3_need_r2) ++ wsX30)
def wsX3_free : List Cond := .code yX3_free cX3_free 3 (some .int) :: ([.fieldLink RX3 22 "LessonWeaveModel" "needs" "[I", .methodLink RX3 71 yX3_isAim, .instanceMethod yX3_isAim, .selects RX3 yX3_isAim yX3_isAim, .initialized RX3, .code yX3_isAim cX3_isAim 2 (some .boolean), .fieldLink RX3 60 "LessonWeaveModel" "aims" "I", .methodLink RX3 63 yX3_isIn, .static yX3_isIn, .code yX3_isIn cX3_isIn 3 (some .boolean), .methodLink RX3 74 yX3_hasNeed, .instanceMethod yX3_hasNeed, .selects RX3 yX3_hasNeed yX3_hasNeed, .code yX3_hasNeed cX3_hasNeed 3 (some .boolean), .methodLink RX3 67 yX3_can, .instanceMethod yX3_can, .selects RX3 yX3_can yX3_can, .code yX3_can cX3_can 2 (some .boolean), .fieldLink RX3 56 "LessonWeaveModel" "thrown" "I", .methodLink RX3 82 yX3_size, .static yX3_size, .code yX3_size cX3_size 3 (some .int)] ++ wsX30)
def wsX3_revisits : List Cond := .code yX3_revisits cX3_revisits 5 (some .int) :: ([.fieldLink RX3 25 "LessonWeaveModel" "many" "[I", .fieldLink RX3 28 "LessonWeaveModel" "gap" "[I", .methodLink RX3 71 yX3_isAim, .instanceMethod yX3_isAim, .selects RX3 yX3_isAim yX3_isAim, .initialized RX3, .code yX3_isAim cX3_isAim 2 (some .boolean), .fieldLink RX3 60 "LessonWeaveModel" "aims" "I", .methodLink RX3 63 yX3_isIn, .static yX3_isIn, .code yX3_isIn cX3_isIn 3 (some .boolean), .methodLink RX3 67 yX3_can, .instanceMethod yX3_can, .selects RX3 yX3_can yX3_can, .code yX3_can cX3_can 2 (some .boolean), .fieldLink RX3 56 "LessonWeaveModel" "thrown" "I"] ++ wsX30)
def wsX3_aims : List Cond := .code yX3_aims cX3_aims 1 (some .int) :: ([.fieldLink RX3 56 "LessonWeaveModel" "thrown" "I", .fieldLink RX3 60 "LessonWeaveModel" "aims" "I"] ++ wsX30)
def wsX3_allNeeds : List Cond := .code yX3_allNeeds cX3_allNeeds 2 (some .int) :: ([.methodLink RX3 71 yX3_isAim, .instanceMethod yX3_isAim, .selects RX3 yX3_isAim yX3_isAim, .initialized RX3, .code yX3_isAim cX3_isAim 2 (some .boolean), .fieldLink RX3 60 "LessonWeaveModel" "aims" "I", .methodLink RX3 63 yX3_isIn, .static yX3_isIn, .code yX3_isIn cX3_isIn 3 (some .boolean), .methodLink RX3 67 yX3_can, .instanceMethod yX3_can, .selects RX3 yX3_can yX3_can, .code yX3_can cX3_can 2 (some .boolean), .fieldLink RX3 56 "LessonWeaveModel" "thrown" "I", .methodLink RX3 78 yX3_reached, .instanceMethod yX3_reached, .selects RX3 yX3_reached yX3_reached, .code yX3_reached cX3_reached 5 (some .int), .fieldLink RX3 22 "LessonWeaveModel" "needs" "[I"] ++ wsX30)
def wsX3_orders : List Cond := .code yX3_orders cX3_orders 8 none :: ([.fieldLink RX3 60 "LessonWeaveModel" "aims" "I", .fieldLink RX3 22 "LessonWeaveModel" "needs" "[I", .fieldLink RX3 13 "LessonWeaveModel" "kind" "[I", .fieldLink RX3 35 "LessonWeaveModel" "order" "[I"] ++ wsX30)
def wsX3_ordered : List Cond := .code yX3_ordered cX3_ordered 2 (some .int) :: ([.fieldLink RX3 60 "LessonWeaveModel" "aims" "I", .fieldLink RX3 35 "LessonWeaveModel" "order" "[I", .methodLink RX3 63 yX3_isIn, .static yX3_isIn, .initialized RX3, .code yX3_isIn cX3_isIn 3 (some .boolean), .methodLink RX3 67 yX3_can, .instanceMethod yX3_can, .selects RX3 yX3_can yX3_can, .code yX3_can cX3_can 2 (some .boolean), .fieldLink RX3 56 "LessonWeaveModel" "thrown" "I", .methodLink RX3 85 yX3_orders, .instanceMethod yX3_orders, .selects RX3 yX3_orders yX3_orders, .code yX3_orders cX3_orders 8 none, .fieldLink RX3 22 "LessonWeaveModel" "needs" "[I", .fieldLink RX3 13 "LessonWeaveModel" "kind" "[I"] ++ wsX30)
def wsX3_dueOn : List Cond := .code yX3_dueOn cX3_dueOn 4 (some .int) :: ([.fieldLink RX3 50 "LessonWeaveModel" "revisitsLaid" "[I", .fieldLink RX3 47 "LessonWeaveModel" "lessonsLaid" "[I", .fieldLink RX3 7 "LessonWeaveModel" "lessons" "[I", .fieldLink RX3 25 "LessonWeaveModel" "many" "[I", .fieldLink RX3 41 "LessonWeaveModel" "lessonOn" "[I", .fieldLink RX3 44 "LessonWeaveModel" "revisitOn" "[I", .fieldLink RX3 28 "LessonWeaveModel" "gap" "[I"] ++ wsX30)
def wsX3_lateFrom : List Cond := .code yX3_lateFrom cX3_lateFrom 2 (some .int) :: ([.fieldLink RX3 28 "LessonWeaveModel" "gap" "[I", .fieldLink RX3 50 "LessonWeaveModel" "revisitsLaid" "[I", .methodLink RX3 88 yX3_dueOn, .instanceMethod yX3_dueOn, .selects RX3 yX3_dueOn yX3_dueOn, .initialized RX3, .code yX3_dueOn cX3_dueOn 4 (some .int), .fieldLink RX3 47 "LessonWeaveModel" "lessonsLaid" "[I", .fieldLink RX3 7 "LessonWeaveModel" "lessons" "[I", .fieldLink RX3 25 "LessonWeaveModel" "many" "[I", .fieldLink RX3 41 "LessonWeaveModel" "lessonOn" "[I", .fieldLink RX3 44 "LessonWeaveModel" "revisitOn" "[I"] ++ wsX30)
def wsX3_revisitFor : List Cond := .code yX3_revisitFor cX3_revisitFor 4 (some .int) :: ([.fieldLink RX3 60 "LessonWeaveModel" "aims" "I", .methodLink RX3 88 yX3_dueOn, .instanceMethod yX3_dueOn, .selects RX3 yX3_dueOn yX3_dueOn, .initialized RX3, .code yX3_dueOn cX3_dueOn 4 (some .int), .fieldLink RX3 50 "LessonWeaveModel" "revisitsLaid" "[I", .fieldLink RX3 47 "LessonWeaveModel" "lessonsLaid" "[I", .fieldLink RX3 7 "LessonWeaveModel" "lessons" "[I", .fieldLink RX3 25 "LessonWeaveModel" "many" "[I", .fieldLink RX3 41 "LessonWeaveModel" "lessonOn" "[I", .fieldLink RX3 44 "LessonWeaveModel" "revisitOn" "[I", .fieldLink RX3 28 "LessonWeaveModel" "gap" "[I", .methodLink RX3 91 yX3_lateFrom, .instanceMethod yX3_lateFrom, .selects RX3 yX3_lateFrom yX3_lateFrom, .code yX3_lateFrom cX3_lateFrom 2 (some .int)] ++ wsX30)
def wsX3_isHeld : List Cond := .code yX3_isHeld cX3_isHeld 6 (some .boolean) :: ([.fieldLink RX3 38 "LessonWeaveModel" "things" "[I", .fieldLink RX3 19 "LessonWeaveModel" "kit" "[I"] ++ wsX30)
def wsX3_nextAim : List Cond := .code yX3_nextAim cX3_nextAim 3 (some .int) :: ([.fieldLink RX3 60 "LessonWeaveModel" "aims" "I", .fieldLink RX3 47 "LessonWeaveModel" "lessonsLaid" "[I", .fieldLink RX3 35 "LessonWeaveModel" "order" "[I", .fieldLink RX3 7 "LessonWeaveModel" "lessons" "[I"] ++ wsX30)
def wsX3_plans_r1 : List Cond := [Cond.fieldLink RX3 94 "LessonWeaveModel" "late" "I", Cond.fieldLink RX3 47 "LessonWeaveModel" "lessonsLaid" "[I", Cond.fieldLink RX3 50 "LessonWeaveModel" "revisitsLaid" "[I", Cond.fieldLink RX3 41 "LessonWeaveModel" "lessonOn" "[I", Cond.fieldLink RX3 44 "LessonWeaveModel" "revisitOn" "[I", Cond.fieldLink RX3 38 "LessonWeaveModel" "things" "[I", Cond.fieldLink RX3 31 "LessonWeaveModel" "isLost" "[Z", Cond.methodLink RX3 85 yX3_orders, Cond.instanceMethod yX3_orders, Cond.selects RX3 yX3_orders yX3_orders, Cond.initialized RX3, Cond.code yX3_orders cX3_orders 8 none, Cond.fieldLink RX3 60 "LessonWeaveModel" "aims" "I", Cond.fieldLink RX3 22 "LessonWeaveModel" "needs" "[I", Cond.fieldLink RX3 13 "LessonWeaveModel" "kind" "[I", Cond.fieldLink RX3 35 "LessonWeaveModel" "order" "[I", Cond.methodLink RX3 97 yX3_revisitFor, Cond.instanceMethod yX3_revisitFor, Cond.selects RX3 yX3_revisitFor yX3_revisitFor, Cond.code yX3_revisitFor cX3_revisitFor 4 (some .int), Cond.methodLink RX3 88 yX3_dueOn, Cond.instanceMethod yX3_dueOn, Cond.selects RX3 yX3_dueOn yX3_dueOn, Cond.code yX3_dueOn cX3_dueOn 4 (some .int)]
def wsX3_plans_r2 : List Cond := [Cond.fieldLink RX3 7 "LessonWeaveModel" "lessons" "[I", Cond.fieldLink RX3 25 "LessonWeaveModel" "many" "[I", Cond.fieldLink RX3 28 "LessonWeaveModel" "gap" "[I", Cond.methodLink RX3 91 yX3_lateFrom, Cond.instanceMethod yX3_lateFrom, Cond.selects RX3 yX3_lateFrom yX3_lateFrom, Cond.code yX3_lateFrom cX3_lateFrom 2 (some .int), Cond.methodLink RX3 100 yX3_nextAim, Cond.instanceMethod yX3_nextAim, Cond.selects RX3 yX3_nextAim yX3_nextAim, Cond.code yX3_nextAim cX3_nextAim 3 (some .int), Cond.methodLink RX3 104 yX3_isHeld, Cond.instanceMethod yX3_isHeld, Cond.selects RX3 yX3_isHeld yX3_isHeld, Cond.code yX3_isHeld cX3_isHeld 6 (some .boolean), Cond.fieldLink RX3 19 "LessonWeaveModel" "kit" "[I"]
def wsX3_plans : List Cond := .code yX3_plans cX3_plans 4 none :: ((wsX3_plans_r1 ++ wsX3_plans_r2) ++ wsX30)
def wsX3_dayOf : List Cond := .code yX3_dayOf cX3_dayOf 2 (some .int) :: ([.fieldLink RX3 41 "LessonWeaveModel" "lessonOn" "[I", .fieldLink RX3 44 "LessonWeaveModel" "revisitOn" "[I"] ++ wsX30)
def wsX3_lose_r1 : List Cond := [Cond.fieldLink RX3 31 "LessonWeaveModel" "isLost" "[Z", Cond.fieldLink RX3 53 "LessonWeaveModel" "before" "[I", Cond.methodLink RX3 63 yX3_isIn, Cond.static yX3_isIn, Cond.initialized RX3, Cond.code yX3_isIn cX3_isIn 3 (some .boolean), Cond.methodLink RX3 67 yX3_can, Cond.instanceMethod yX3_can, Cond.selects RX3 yX3_can yX3_can, Cond.code yX3_can cX3_can 2 (some .boolean), Cond.fieldLink RX3 56 "LessonWeaveModel" "thrown" "I", Cond.methodLink RX3 107 yX3_plans, Cond.instanceMethod yX3_plans, Cond.selects RX3 yX3_plans yX3_plans, Cond.code yX3_plans cX3_plans 4 none, Cond.fieldLink RX3 94 "LessonWeaveModel" "late" "I", Cond.fieldLink RX3 47 "LessonWeaveModel" "lessonsLaid" "[I", Cond.fieldLink RX3 50 "LessonWeaveModel" "revisitsLaid" "[I", Cond.fieldLink RX3 41 "LessonWeaveModel" "lessonOn" "[I", Cond.fieldLink RX3 44 "LessonWeaveModel" "revisitOn" "[I", Cond.fieldLink RX3 38 "LessonWeaveModel" "things" "[I", Cond.methodLink RX3 85 yX3_orders, Cond.instanceMethod yX3_orders, Cond.selects RX3 yX3_orders yX3_orders]
def wsX3_lose_r2 : List Cond := [Cond.code yX3_orders cX3_orders 8 none, Cond.fieldLink RX3 60 "LessonWeaveModel" "aims" "I", Cond.fieldLink RX3 22 "LessonWeaveModel" "needs" "[I", Cond.fieldLink RX3 13 "LessonWeaveModel" "kind" "[I", Cond.fieldLink RX3 35 "LessonWeaveModel" "order" "[I", Cond.methodLink RX3 97 yX3_revisitFor, Cond.instanceMethod yX3_revisitFor, Cond.selects RX3 yX3_revisitFor yX3_revisitFor, Cond.code yX3_revisitFor cX3_revisitFor 4 (some .int), Cond.methodLink RX3 88 yX3_dueOn, Cond.instanceMethod yX3_dueOn, Cond.selects RX3 yX3_dueOn yX3_dueOn, Cond.code yX3_dueOn cX3_dueOn 4 (some .int), Cond.fieldLink RX3 7 "LessonWeaveModel" "lessons" "[I", Cond.fieldLink RX3 25 "LessonWeaveModel" "many" "[I", Cond.fieldLink RX3 28 "LessonWeaveModel" "gap" "[I", Cond.methodLink RX3 91 yX3_lateFrom, Cond.instanceMethod yX3_lateFrom, Cond.selects RX3 yX3_lateFrom yX3_lateFrom, Cond.code yX3_lateFrom cX3_lateFrom 2 (some .int), Cond.methodLink RX3 100 yX3_nextAim, Cond.instanceMethod yX3_nextAim, Cond.selects RX3 yX3_nextAim yX3_nextAim, Cond.code yX3_nextAim cX3_nextAim 3 (some .int)]
def wsX3_lose_r3 : List Cond := [Cond.methodLink RX3 104 yX3_isHeld, Cond.instanceMethod yX3_isHeld, Cond.selects RX3 yX3_isHeld yX3_isHeld, Cond.code yX3_isHeld cX3_isHeld 6 (some .boolean), Cond.fieldLink RX3 19 "LessonWeaveModel" "kit" "[I", Cond.methodLink RX3 110 yX3_dayOf, Cond.instanceMethod yX3_dayOf, Cond.selects RX3 yX3_dayOf yX3_dayOf, Cond.code yX3_dayOf cX3_dayOf 2 (some .int)]
def wsX3_lose : List Cond := .code yX3_lose cX3_lose 4 (some .int) :: ((wsX3_lose_r1 ++ (wsX3_lose_r2 ++ wsX3_lose_r3)) ++ wsX30)
def wsX3_on_r1 : List Cond := [Cond.fieldLink RX3 38 "LessonWeaveModel" "things" "[I", Cond.methodLink RX3 63 yX3_isIn, Cond.static yX3_isIn, Cond.initialized RX3, Cond.code yX3_isIn cX3_isIn 3 (some .boolean), Cond.methodLink RX3 67 yX3_can, Cond.instanceMethod yX3_can, Cond.selects RX3 yX3_can yX3_can, Cond.code yX3_can cX3_can 2 (some .boolean), Cond.fieldLink RX3 56 "LessonWeaveModel" "thrown" "I", Cond.methodLink RX3 107 yX3_plans, Cond.instanceMethod yX3_plans, Cond.selects RX3 yX3_plans yX3_plans, Cond.code yX3_plans cX3_plans 4 none, Cond.fieldLink RX3 94 "LessonWeaveModel" "late" "I", Cond.fieldLink RX3 47 "LessonWeaveModel" "lessonsLaid" "[I", Cond.fieldLink RX3 50 "LessonWeaveModel" "revisitsLaid" "[I", Cond.fieldLink RX3 41 "LessonWeaveModel" "lessonOn" "[I", Cond.fieldLink RX3 44 "LessonWeaveModel" "revisitOn" "[I", Cond.fieldLink RX3 31 "LessonWeaveModel" "isLost" "[Z", Cond.methodLink RX3 85 yX3_orders, Cond.instanceMethod yX3_orders, Cond.selects RX3 yX3_orders yX3_orders, Cond.code yX3_orders cX3_orders 8 none]
def wsX3_on_r2 : List Cond := [Cond.fieldLink RX3 60 "LessonWeaveModel" "aims" "I", Cond.fieldLink RX3 22 "LessonWeaveModel" "needs" "[I", Cond.fieldLink RX3 13 "LessonWeaveModel" "kind" "[I", Cond.fieldLink RX3 35 "LessonWeaveModel" "order" "[I", Cond.methodLink RX3 97 yX3_revisitFor, Cond.instanceMethod yX3_revisitFor, Cond.selects RX3 yX3_revisitFor yX3_revisitFor, Cond.code yX3_revisitFor cX3_revisitFor 4 (some .int), Cond.methodLink RX3 88 yX3_dueOn, Cond.instanceMethod yX3_dueOn, Cond.selects RX3 yX3_dueOn yX3_dueOn, Cond.code yX3_dueOn cX3_dueOn 4 (some .int), Cond.fieldLink RX3 7 "LessonWeaveModel" "lessons" "[I", Cond.fieldLink RX3 25 "LessonWeaveModel" "many" "[I", Cond.fieldLink RX3 28 "LessonWeaveModel" "gap" "[I", Cond.methodLink RX3 91 yX3_lateFrom, Cond.instanceMethod yX3_lateFrom, Cond.selects RX3 yX3_lateFrom yX3_lateFrom, Cond.code yX3_lateFrom cX3_lateFrom 2 (some .int), Cond.methodLink RX3 100 yX3_nextAim, Cond.instanceMethod yX3_nextAim, Cond.selects RX3 yX3_nextAim yX3_nextAim, Cond.code yX3_nextAim cX3_nextAim 3 (some .int), Cond.methodLink RX3 104 yX3_isHeld]
def wsX3_on_r3 : List Cond := [Cond.instanceMethod yX3_isHeld, Cond.selects RX3 yX3_isHeld yX3_isHeld, Cond.code yX3_isHeld cX3_isHeld 6 (some .boolean), Cond.fieldLink RX3 19 "LessonWeaveModel" "kit" "[I"]
def wsX3_on : List Cond := .code yX3_on cX3_on 2 (some .int) :: ((wsX3_on_r1 ++ (wsX3_on_r2 ++ wsX3_on_r3)) ++ wsX30)
def wsX3_lessonDay_r1 : List Cond := [Cond.fieldLink RX3 7 "LessonWeaveModel" "lessons" "[I", Cond.fieldLink RX3 41 "LessonWeaveModel" "lessonOn" "[I", Cond.methodLink RX3 71 yX3_isAim, Cond.instanceMethod yX3_isAim, Cond.selects RX3 yX3_isAim yX3_isAim, Cond.initialized RX3, Cond.code yX3_isAim cX3_isAim 2 (some .boolean), Cond.fieldLink RX3 60 "LessonWeaveModel" "aims" "I", Cond.methodLink RX3 63 yX3_isIn, Cond.static yX3_isIn, Cond.code yX3_isIn cX3_isIn 3 (some .boolean), Cond.methodLink RX3 67 yX3_can, Cond.instanceMethod yX3_can, Cond.selects RX3 yX3_can yX3_can, Cond.code yX3_can cX3_can 2 (some .boolean), Cond.fieldLink RX3 56 "LessonWeaveModel" "thrown" "I", Cond.methodLink RX3 107 yX3_plans, Cond.instanceMethod yX3_plans, Cond.selects RX3 yX3_plans yX3_plans, Cond.code yX3_plans cX3_plans 4 none, Cond.fieldLink RX3 94 "LessonWeaveModel" "late" "I", Cond.fieldLink RX3 47 "LessonWeaveModel" "lessonsLaid" "[I", Cond.fieldLink RX3 50 "LessonWeaveModel" "revisitsLaid" "[I", Cond.fieldLink RX3 44 "LessonWeaveModel" "revisitOn" "[I"]
def wsX3_lessonDay_r2 : List Cond := [Cond.fieldLink RX3 38 "LessonWeaveModel" "things" "[I", Cond.fieldLink RX3 31 "LessonWeaveModel" "isLost" "[Z", Cond.methodLink RX3 85 yX3_orders, Cond.instanceMethod yX3_orders, Cond.selects RX3 yX3_orders yX3_orders, Cond.code yX3_orders cX3_orders 8 none, Cond.fieldLink RX3 22 "LessonWeaveModel" "needs" "[I", Cond.fieldLink RX3 13 "LessonWeaveModel" "kind" "[I", Cond.fieldLink RX3 35 "LessonWeaveModel" "order" "[I", Cond.methodLink RX3 97 yX3_revisitFor, Cond.instanceMethod yX3_revisitFor, Cond.selects RX3 yX3_revisitFor yX3_revisitFor, Cond.code yX3_revisitFor cX3_revisitFor 4 (some .int), Cond.methodLink RX3 88 yX3_dueOn, Cond.instanceMethod yX3_dueOn, Cond.selects RX3 yX3_dueOn yX3_dueOn, Cond.code yX3_dueOn cX3_dueOn 4 (some .int), Cond.fieldLink RX3 25 "LessonWeaveModel" "many" "[I", Cond.fieldLink RX3 28 "LessonWeaveModel" "gap" "[I", Cond.methodLink RX3 91 yX3_lateFrom, Cond.instanceMethod yX3_lateFrom, Cond.selects RX3 yX3_lateFrom yX3_lateFrom, Cond.code yX3_lateFrom cX3_lateFrom 2 (some .int), Cond.methodLink RX3 100 yX3_nextAim]
def wsX3_lessonDay_r3 : List Cond := [Cond.instanceMethod yX3_nextAim, Cond.selects RX3 yX3_nextAim yX3_nextAim, Cond.code yX3_nextAim cX3_nextAim 3 (some .int), Cond.methodLink RX3 104 yX3_isHeld, Cond.instanceMethod yX3_isHeld, Cond.selects RX3 yX3_isHeld yX3_isHeld, Cond.code yX3_isHeld cX3_isHeld 6 (some .boolean), Cond.fieldLink RX3 19 "LessonWeaveModel" "kit" "[I"]
def wsX3_lessonDay : List Cond := .code yX3_lessonDay cX3_lessonDay 3 (some .int) :: ((wsX3_lessonDay_r1 ++ (wsX3_lessonDay_r2 ++ wsX3_lessonDay_r3)) ++ wsX30)
def wsX3_revisitDay_r1 : List Cond := [Cond.fieldLink RX3 25 "LessonWeaveModel" "many" "[I", Cond.fieldLink RX3 44 "LessonWeaveModel" "revisitOn" "[I", Cond.methodLink RX3 71 yX3_isAim, Cond.instanceMethod yX3_isAim, Cond.selects RX3 yX3_isAim yX3_isAim, Cond.initialized RX3, Cond.code yX3_isAim cX3_isAim 2 (some .boolean), Cond.fieldLink RX3 60 "LessonWeaveModel" "aims" "I", Cond.methodLink RX3 63 yX3_isIn, Cond.static yX3_isIn, Cond.code yX3_isIn cX3_isIn 3 (some .boolean), Cond.methodLink RX3 67 yX3_can, Cond.instanceMethod yX3_can, Cond.selects RX3 yX3_can yX3_can, Cond.code yX3_can cX3_can 2 (some .boolean), Cond.fieldLink RX3 56 "LessonWeaveModel" "thrown" "I", Cond.methodLink RX3 107 yX3_plans, Cond.instanceMethod yX3_plans, Cond.selects RX3 yX3_plans yX3_plans, Cond.code yX3_plans cX3_plans 4 none, Cond.fieldLink RX3 94 "LessonWeaveModel" "late" "I", Cond.fieldLink RX3 47 "LessonWeaveModel" "lessonsLaid" "[I", Cond.fieldLink RX3 50 "LessonWeaveModel" "revisitsLaid" "[I", Cond.fieldLink RX3 41 "LessonWeaveModel" "lessonOn" "[I"]
def wsX3_revisitDay_r2 : List Cond := [Cond.fieldLink RX3 38 "LessonWeaveModel" "things" "[I", Cond.fieldLink RX3 31 "LessonWeaveModel" "isLost" "[Z", Cond.methodLink RX3 85 yX3_orders, Cond.instanceMethod yX3_orders, Cond.selects RX3 yX3_orders yX3_orders, Cond.code yX3_orders cX3_orders 8 none, Cond.fieldLink RX3 22 "LessonWeaveModel" "needs" "[I", Cond.fieldLink RX3 13 "LessonWeaveModel" "kind" "[I", Cond.fieldLink RX3 35 "LessonWeaveModel" "order" "[I", Cond.methodLink RX3 97 yX3_revisitFor, Cond.instanceMethod yX3_revisitFor, Cond.selects RX3 yX3_revisitFor yX3_revisitFor, Cond.code yX3_revisitFor cX3_revisitFor 4 (some .int), Cond.methodLink RX3 88 yX3_dueOn, Cond.instanceMethod yX3_dueOn, Cond.selects RX3 yX3_dueOn yX3_dueOn, Cond.code yX3_dueOn cX3_dueOn 4 (some .int), Cond.fieldLink RX3 7 "LessonWeaveModel" "lessons" "[I", Cond.fieldLink RX3 28 "LessonWeaveModel" "gap" "[I", Cond.methodLink RX3 91 yX3_lateFrom, Cond.instanceMethod yX3_lateFrom, Cond.selects RX3 yX3_lateFrom yX3_lateFrom, Cond.code yX3_lateFrom cX3_lateFrom 2 (some .int), Cond.methodLink RX3 100 yX3_nextAim]
def wsX3_revisitDay_r3 : List Cond := [Cond.instanceMethod yX3_nextAim, Cond.selects RX3 yX3_nextAim yX3_nextAim, Cond.code yX3_nextAim cX3_nextAim 3 (some .int), Cond.methodLink RX3 104 yX3_isHeld, Cond.instanceMethod yX3_isHeld, Cond.selects RX3 yX3_isHeld yX3_isHeld, Cond.code yX3_isHeld cX3_isHeld 6 (some .boolean), Cond.fieldLink RX3 19 "LessonWeaveModel" "kit" "[I"]
def wsX3_revisitDay : List Cond := .code yX3_revisitDay cX3_revisitDay 3 (some .int) :: ((wsX3_revisitDay_r1 ++ (wsX3_revisitDay_r2 ++ wsX3_revisitDay_r3)) ++ wsX30)
def wsX3_laid_r1 : List Cond := [Cond.fieldLink RX3 56 "LessonWeaveModel" "thrown" "I", Cond.fieldLink RX3 38 "LessonWeaveModel" "things" "[I", Cond.methodLink RX3 107 yX3_plans, Cond.instanceMethod yX3_plans, Cond.selects RX3 yX3_plans yX3_plans, Cond.initialized RX3, Cond.code yX3_plans cX3_plans 4 none, Cond.fieldLink RX3 94 "LessonWeaveModel" "late" "I", Cond.fieldLink RX3 47 "LessonWeaveModel" "lessonsLaid" "[I", Cond.fieldLink RX3 50 "LessonWeaveModel" "revisitsLaid" "[I", Cond.fieldLink RX3 41 "LessonWeaveModel" "lessonOn" "[I", Cond.fieldLink RX3 44 "LessonWeaveModel" "revisitOn" "[I", Cond.fieldLink RX3 31 "LessonWeaveModel" "isLost" "[Z", Cond.methodLink RX3 85 yX3_orders, Cond.instanceMethod yX3_orders, Cond.selects RX3 yX3_orders yX3_orders, Cond.code yX3_orders cX3_orders 8 none, Cond.fieldLink RX3 60 "LessonWeaveModel" "aims" "I", Cond.fieldLink RX3 22 "LessonWeaveModel" "needs" "[I", Cond.fieldLink RX3 13 "LessonWeaveModel" "kind" "[I", Cond.fieldLink RX3 35 "LessonWeaveModel" "order" "[I", Cond.methodLink RX3 97 yX3_revisitFor, Cond.instanceMethod yX3_revisitFor, Cond.selects RX3 yX3_revisitFor yX3_revisitFor]
def wsX3_laid_r2 : List Cond := [Cond.code yX3_revisitFor cX3_revisitFor 4 (some .int), Cond.methodLink RX3 88 yX3_dueOn, Cond.instanceMethod yX3_dueOn, Cond.selects RX3 yX3_dueOn yX3_dueOn, Cond.code yX3_dueOn cX3_dueOn 4 (some .int), Cond.fieldLink RX3 7 "LessonWeaveModel" "lessons" "[I", Cond.fieldLink RX3 25 "LessonWeaveModel" "many" "[I", Cond.fieldLink RX3 28 "LessonWeaveModel" "gap" "[I", Cond.methodLink RX3 91 yX3_lateFrom, Cond.instanceMethod yX3_lateFrom, Cond.selects RX3 yX3_lateFrom yX3_lateFrom, Cond.code yX3_lateFrom cX3_lateFrom 2 (some .int), Cond.methodLink RX3 100 yX3_nextAim, Cond.instanceMethod yX3_nextAim, Cond.selects RX3 yX3_nextAim yX3_nextAim, Cond.code yX3_nextAim cX3_nextAim 3 (some .int), Cond.methodLink RX3 104 yX3_isHeld, Cond.instanceMethod yX3_isHeld, Cond.selects RX3 yX3_isHeld yX3_isHeld, Cond.code yX3_isHeld cX3_isHeld 6 (some .boolean), Cond.fieldLink RX3 19 "LessonWeaveModel" "kit" "[I"]
def wsX3_laid : List Cond := .code yX3_laid cX3_laid 3 (some .int) :: ((wsX3_laid_r1 ++ wsX3_laid_r2) ++ wsX30)
def wsX3_late_r1 : List Cond := [Cond.fieldLink RX3 56 "LessonWeaveModel" "thrown" "I", Cond.fieldLink RX3 94 "LessonWeaveModel" "late" "I", Cond.methodLink RX3 107 yX3_plans, Cond.instanceMethod yX3_plans, Cond.selects RX3 yX3_plans yX3_plans, Cond.initialized RX3, Cond.code yX3_plans cX3_plans 4 none, Cond.fieldLink RX3 47 "LessonWeaveModel" "lessonsLaid" "[I", Cond.fieldLink RX3 50 "LessonWeaveModel" "revisitsLaid" "[I", Cond.fieldLink RX3 41 "LessonWeaveModel" "lessonOn" "[I", Cond.fieldLink RX3 44 "LessonWeaveModel" "revisitOn" "[I", Cond.fieldLink RX3 38 "LessonWeaveModel" "things" "[I", Cond.fieldLink RX3 31 "LessonWeaveModel" "isLost" "[Z", Cond.methodLink RX3 85 yX3_orders, Cond.instanceMethod yX3_orders, Cond.selects RX3 yX3_orders yX3_orders, Cond.code yX3_orders cX3_orders 8 none, Cond.fieldLink RX3 60 "LessonWeaveModel" "aims" "I", Cond.fieldLink RX3 22 "LessonWeaveModel" "needs" "[I", Cond.fieldLink RX3 13 "LessonWeaveModel" "kind" "[I", Cond.fieldLink RX3 35 "LessonWeaveModel" "order" "[I", Cond.methodLink RX3 97 yX3_revisitFor, Cond.instanceMethod yX3_revisitFor, Cond.selects RX3 yX3_revisitFor yX3_revisitFor]
def wsX3_late_r2 : List Cond := [Cond.code yX3_revisitFor cX3_revisitFor 4 (some .int), Cond.methodLink RX3 88 yX3_dueOn, Cond.instanceMethod yX3_dueOn, Cond.selects RX3 yX3_dueOn yX3_dueOn, Cond.code yX3_dueOn cX3_dueOn 4 (some .int), Cond.fieldLink RX3 7 "LessonWeaveModel" "lessons" "[I", Cond.fieldLink RX3 25 "LessonWeaveModel" "many" "[I", Cond.fieldLink RX3 28 "LessonWeaveModel" "gap" "[I", Cond.methodLink RX3 91 yX3_lateFrom, Cond.instanceMethod yX3_lateFrom, Cond.selects RX3 yX3_lateFrom yX3_lateFrom, Cond.code yX3_lateFrom cX3_lateFrom 2 (some .int), Cond.methodLink RX3 100 yX3_nextAim, Cond.instanceMethod yX3_nextAim, Cond.selects RX3 yX3_nextAim yX3_nextAim, Cond.code yX3_nextAim cX3_nextAim 3 (some .int), Cond.methodLink RX3 104 yX3_isHeld, Cond.instanceMethod yX3_isHeld, Cond.selects RX3 yX3_isHeld yX3_isHeld, Cond.code yX3_isHeld cX3_isHeld 6 (some .boolean), Cond.fieldLink RX3 19 "LessonWeaveModel" "kit" "[I"]
def wsX3_late : List Cond := .code yX3_late cX3_late 1 (some .int) :: ((wsX3_late_r1 ++ wsX3_late_r2) ++ wsX30)
def wsX3_lastDay_r1 : List Cond := [Cond.fieldLink RX3 56 "LessonWeaveModel" "thrown" "I", Cond.fieldLink RX3 38 "LessonWeaveModel" "things" "[I", Cond.methodLink RX3 107 yX3_plans, Cond.instanceMethod yX3_plans, Cond.selects RX3 yX3_plans yX3_plans, Cond.initialized RX3, Cond.code yX3_plans cX3_plans 4 none, Cond.fieldLink RX3 94 "LessonWeaveModel" "late" "I", Cond.fieldLink RX3 47 "LessonWeaveModel" "lessonsLaid" "[I", Cond.fieldLink RX3 50 "LessonWeaveModel" "revisitsLaid" "[I", Cond.fieldLink RX3 41 "LessonWeaveModel" "lessonOn" "[I", Cond.fieldLink RX3 44 "LessonWeaveModel" "revisitOn" "[I", Cond.fieldLink RX3 31 "LessonWeaveModel" "isLost" "[Z", Cond.methodLink RX3 85 yX3_orders, Cond.instanceMethod yX3_orders, Cond.selects RX3 yX3_orders yX3_orders, Cond.code yX3_orders cX3_orders 8 none, Cond.fieldLink RX3 60 "LessonWeaveModel" "aims" "I", Cond.fieldLink RX3 22 "LessonWeaveModel" "needs" "[I", Cond.fieldLink RX3 13 "LessonWeaveModel" "kind" "[I", Cond.fieldLink RX3 35 "LessonWeaveModel" "order" "[I", Cond.methodLink RX3 97 yX3_revisitFor, Cond.instanceMethod yX3_revisitFor, Cond.selects RX3 yX3_revisitFor yX3_revisitFor]
def wsX3_lastDay_r2 : List Cond := [Cond.code yX3_revisitFor cX3_revisitFor 4 (some .int), Cond.methodLink RX3 88 yX3_dueOn, Cond.instanceMethod yX3_dueOn, Cond.selects RX3 yX3_dueOn yX3_dueOn, Cond.code yX3_dueOn cX3_dueOn 4 (some .int), Cond.fieldLink RX3 7 "LessonWeaveModel" "lessons" "[I", Cond.fieldLink RX3 25 "LessonWeaveModel" "many" "[I", Cond.fieldLink RX3 28 "LessonWeaveModel" "gap" "[I", Cond.methodLink RX3 91 yX3_lateFrom, Cond.instanceMethod yX3_lateFrom, Cond.selects RX3 yX3_lateFrom yX3_lateFrom, Cond.code yX3_lateFrom cX3_lateFrom 2 (some .int), Cond.methodLink RX3 100 yX3_nextAim, Cond.instanceMethod yX3_nextAim, Cond.selects RX3 yX3_nextAim yX3_nextAim, Cond.code yX3_nextAim cX3_nextAim 3 (some .int), Cond.methodLink RX3 104 yX3_isHeld, Cond.instanceMethod yX3_isHeld, Cond.selects RX3 yX3_isHeld yX3_isHeld, Cond.code yX3_isHeld cX3_isHeld 6 (some .boolean), Cond.fieldLink RX3 19 "LessonWeaveModel" "kit" "[I"]
def wsX3_lastDay : List Cond := .code yX3_lastDay cX3_lastDay 3 (some .int) :: ((wsX3_lastDay_r1 ++ wsX3_lastDay_r2) ++ wsX30)
def wsX3_isClosed : List Cond := .code yX3_isClosed cX3_isClosed 4 (some .boolean) :: ([.fieldLink RX3 60 "LessonWeaveModel" "aims" "I", .fieldLink RX3 22 "LessonWeaveModel" "needs" "[I"] ++ wsX30)
def wsX3_net : List Cond := .code yX3_net cX3_net 5 (some .int) :: ([.fieldLink RX3 60 "LessonWeaveModel" "aims" "I", .fieldLink RX3 16 "LessonWeaveModel" "worth" "[I", .fieldLink RX3 7 "LessonWeaveModel" "lessons" "[I"] ++ wsX30)
def wsX3_best : List Cond := .code yX3_best cX3_best 5 (some .int) :: ([.fieldLink RX3 60 "LessonWeaveModel" "aims" "I", .methodLink RX3 113 yX3_isClosed, .instanceMethod yX3_isClosed, .selects RX3 yX3_isClosed yX3_isClosed, .initialized RX3, .code yX3_isClosed cX3_isClosed 4 (some .boolean), .fieldLink RX3 22 "LessonWeaveModel" "needs" "[I", .methodLink RX3 116 yX3_net, .instanceMethod yX3_net, .selects RX3 yX3_net yX3_net, .code yX3_net cX3_net 5 (some .int), .fieldLink RX3 16 "LessonWeaveModel" "worth" "[I", .fieldLink RX3 7 "LessonWeaveModel" "lessons" "[I", .methodLink RX3 82 yX3_size, .static yX3_size, .code yX3_size cX3_size 3 (some .int)] ++ wsX30)
def wsX3_worthwhile_r1 : List Cond := [Cond.methodLink RX3 63 yX3_isIn, Cond.static yX3_isIn, Cond.initialized RX3, Cond.code yX3_isIn cX3_isIn 3 (some .boolean), Cond.methodLink RX3 67 yX3_can, Cond.instanceMethod yX3_can, Cond.selects RX3 yX3_can yX3_can, Cond.code yX3_can cX3_can 2 (some .boolean), Cond.fieldLink RX3 56 "LessonWeaveModel" "thrown" "I", Cond.methodLink RX3 120 yX3_best, Cond.instanceMethod yX3_best, Cond.selects RX3 yX3_best yX3_best, Cond.code yX3_best cX3_best 5 (some .int), Cond.fieldLink RX3 60 "LessonWeaveModel" "aims" "I", Cond.methodLink RX3 113 yX3_isClosed, Cond.instanceMethod yX3_isClosed, Cond.selects RX3 yX3_isClosed yX3_isClosed, Cond.code yX3_isClosed cX3_isClosed 4 (some .boolean), Cond.fieldLink RX3 22 "LessonWeaveModel" "needs" "[I", Cond.methodLink RX3 116 yX3_net, Cond.instanceMethod yX3_net, Cond.selects RX3 yX3_net yX3_net, Cond.code yX3_net cX3_net 5 (some .int), Cond.fieldLink RX3 16 "LessonWeaveModel" "worth" "[I"]
def wsX3_worthwhile_r2 : List Cond := [Cond.fieldLink RX3 7 "LessonWeaveModel" "lessons" "[I", Cond.methodLink RX3 82 yX3_size, Cond.static yX3_size, Cond.code yX3_size cX3_size 3 (some .int)]
def wsX3_worthwhile : List Cond := .code yX3_worthwhile cX3_worthwhile 2 (some .int) :: ((wsX3_worthwhile_r1 ++ wsX3_worthwhile_r2) ++ wsX30)
def wsX3_bestNet_r1 : List Cond := [Cond.methodLink RX3 63 yX3_isIn, Cond.static yX3_isIn, Cond.initialized RX3, Cond.code yX3_isIn cX3_isIn 3 (some .boolean), Cond.methodLink RX3 67 yX3_can, Cond.instanceMethod yX3_can, Cond.selects RX3 yX3_can yX3_can, Cond.code yX3_can cX3_can 2 (some .boolean), Cond.fieldLink RX3 56 "LessonWeaveModel" "thrown" "I", Cond.methodLink RX3 120 yX3_best, Cond.instanceMethod yX3_best, Cond.selects RX3 yX3_best yX3_best, Cond.code yX3_best cX3_best 5 (some .int), Cond.fieldLink RX3 60 "LessonWeaveModel" "aims" "I", Cond.methodLink RX3 113 yX3_isClosed, Cond.instanceMethod yX3_isClosed, Cond.selects RX3 yX3_isClosed yX3_isClosed, Cond.code yX3_isClosed cX3_isClosed 4 (some .boolean), Cond.fieldLink RX3 22 "LessonWeaveModel" "needs" "[I", Cond.methodLink RX3 116 yX3_net, Cond.instanceMethod yX3_net, Cond.selects RX3 yX3_net yX3_net, Cond.code yX3_net cX3_net 5 (some .int), Cond.fieldLink RX3 16 "LessonWeaveModel" "worth" "[I"]
def wsX3_bestNet_r2 : List Cond := [Cond.fieldLink RX3 7 "LessonWeaveModel" "lessons" "[I", Cond.methodLink RX3 82 yX3_size, Cond.static yX3_size, Cond.code yX3_size cX3_size 3 (some .int)]
def wsX3_bestNet : List Cond := .code yX3_bestNet cX3_bestNet 2 (some .int) :: ((wsX3_bestNet_r1 ++ wsX3_bestNet_r2) ++ wsX30)
def wsX3_closedSets : List Cond := .code yX3_closedSets cX3_closedSets 3 (some .int) :: ([.fieldLink RX3 56 "LessonWeaveModel" "thrown" "I", .fieldLink RX3 60 "LessonWeaveModel" "aims" "I", .methodLink RX3 113 yX3_isClosed, .instanceMethod yX3_isClosed, .selects RX3 yX3_isClosed yX3_isClosed, .initialized RX3, .code yX3_isClosed cX3_isClosed 4 (some .boolean), .fieldLink RX3 22 "LessonWeaveModel" "needs" "[I"] ++ wsX30)
def wsL_aim_r1 : List Cond := [Cond.classLink RL 13 "java/lang/IllegalArgumentException", Cond.classLink RL 15 "java/lang/IllegalStateException", Cond.methodLink RL 7 yX2_aim, Cond.instanceMethod yX2_aim, Cond.selects RX2 yX2_aim yX2_aim, Cond.initialized RX2, Cond.code yX2_aim cX2_aim 6 (some .int), Cond.classLink RX2 34 "java/lang/IllegalArgumentException", Cond.initialized "java/lang/IllegalArgumentException", Cond.classLink RX2 51 "java/lang/IllegalStateException", Cond.initialized "java/lang/IllegalStateException", Cond.fieldLink RX2 10 "LessonWeave" "syllabus" "LLessonWeave$Syllabus;", Cond.methodLink RX2 30 yX2_isWithin, Cond.static yX2_isWithin, Cond.code yX2_isWithin cX2_isWithin 3 (some .boolean), Cond.methodLink RX2 56 yX1_add, Cond.instanceMethod yX1_add, Cond.selects RX1 yX1_add yX1_add, Cond.initialized RX1, Cond.code yX1_add cX1_add 6 (some .int), Cond.fieldLink RX1 36 "LessonWeave$Syllabus" "count" "I", Cond.fieldLink RX1 9 "LessonWeave$Syllabus" "lessons" "[I", Cond.fieldLink RX1 15 "LessonWeave$Syllabus" "kind" "[I", Cond.fieldLink RX1 18 "LessonWeave$Syllabus" "worth" "[I"]
def wsL_aim_r2 : List Cond := [Cond.fieldLink RX1 21 "LessonWeave$Syllabus" "kit" "[I", Cond.fieldLink RX1 27 "LessonWeave$Syllabus" "gap" "[I", Cond.methodLink RX1 40 yX1_putInOrder, Cond.instanceMethod yX1_putInOrder, Cond.selects RX1 yX1_putInOrder yX1_putInOrder, Cond.code yX1_putInOrder cX1_putInOrder 5 none, Cond.fieldLink RX1 33 "LessonWeave$Syllabus" "order" "[I", Cond.methodLink RX1 51 yX1_nextTaken, Cond.instanceMethod yX1_nextTaken, Cond.selects RX1 yX1_nextTaken yX1_nextTaken, Cond.code yX1_nextTaken cX1_nextTaken 5 (some .int), Cond.fieldLink RX1 30 "LessonWeave$Syllabus" "needs" "[I", Cond.static yX2_has, Cond.code yX2_has cX2_has 2 (some .boolean), Cond.methodLink RX1 55 yX1_isCovered, Cond.static yX1_isCovered, Cond.code yX1_isCovered cX1_isCovered 2 (some .boolean), Cond.methodLink RX2 60 yX2_planAnew, Cond.instanceMethod yX2_planAnew, Cond.selects RX2 yX2_planAnew yX2_planAnew, Cond.code yX2_planAnew cX2_planAnew 2 none, Cond.fieldLink RX2 27 "LessonWeave" "formerPlan" "LLessonWeave$Plan;", Cond.fieldLink RX2 23 "LessonWeave" "plan" "LLessonWeave$Plan;", Cond.fieldLink RX2 16 "LessonWeave" "lost" "[Z"]
def wsL_aim_r3 : List Cond := [Cond.methodLink RX2 168 yX0_lay, Cond.instanceMethod yX0_lay, Cond.selects RX0 yX0_lay yX0_lay, Cond.initialized RX0, Cond.code yX0_lay cX0_lay 4 none, Cond.methodLink RX0 30 yX0_clear, Cond.instanceMethod yX0_clear, Cond.selects RX0 yX0_clear yX0_clear, Cond.code yX0_clear cX0_clear 1 none, Cond.fieldLink RX0 9 "LessonWeave$Plan" "things" "[I", Cond.fieldLink RX0 15 "LessonWeave$Plan" "lessonDays" "[I", Cond.fieldLink RX0 18 "LessonWeave$Plan" "revisitDays" "[I", Cond.fieldLink RX0 21 "LessonWeave$Plan" "lessonsLaid" "[I", Cond.fieldLink RX0 24 "LessonWeave$Plan" "revisitsLaid" "[I", Cond.fieldLink RX0 27 "LessonWeave$Plan" "since" "[I", Cond.fieldLink RX0 39 "LessonWeave$Plan" "laidCount" "I", Cond.fieldLink RX0 43 "LessonWeave$Plan" "lateCount" "I", Cond.fieldLink RX0 46 "LessonWeave$Plan" "lastUsed" "I", Cond.methodLink RX0 33 yJ7_fill_53178, Cond.static yJ7_fill_53178, Cond.initialized RJ7, Cond.code yJ7_fill_53178 cJ7_fill_53178 4 none, Cond.methodLink RX0 49 yX0_layOn, Cond.instanceMethod yX0_layOn]
def wsL_aim_r4 : List Cond := [Cond.selects RX0 yX0_layOn yX0_layOn, Cond.code yX0_layOn cX0_layOn 5 none, Cond.methodLink RX0 53 yX0_mostPressing, Cond.instanceMethod yX0_mostPressing, Cond.selects RX0 yX0_mostPressing yX0_mostPressing, Cond.code yX0_mostPressing cX0_mostPressing 7 (some .int), Cond.methodLink RX0 78 yX0_isDue, Cond.instanceMethod yX0_isDue, Cond.selects RX0 yX0_isDue yX0_isDue, Cond.code yX0_isDue cX0_isDue 4 (some .boolean), Cond.methodLink RX0 90 yX0_nextGap, Cond.instanceMethod yX0_nextGap, Cond.selects RX0 yX0_nextGap yX0_nextGap, Cond.code yX0_nextGap cX0_nextGap 3 (some .int), Cond.methodLink RX0 81 yX0_lateFrom, Cond.instanceMethod yX0_lateFrom, Cond.selects RX0 yX0_lateFrom yX0_lateFrom, Cond.code yX0_lateFrom cX0_lateFrom 3 (some .int), Cond.methodLink RX0 57 yX0_layRevisit, Cond.instanceMethod yX0_layRevisit, Cond.selects RX0 yX0_layRevisit yX0_layRevisit, Cond.code yX0_layRevisit cX0_layRevisit 4 none, Cond.methodLink RX0 105 yX0_use, Cond.instanceMethod yX0_use]
def wsL_aim_r5 : List Cond := [Cond.selects RX0 yX0_use yX0_use, Cond.code yX0_use cX0_use 4 none, Cond.methodLink RX0 61 yX0_firstUnfinished, Cond.instanceMethod yX0_firstUnfinished, Cond.selects RX0 yX0_firstUnfinished yX0_firstUnfinished, Cond.code yX0_firstUnfinished cX0_firstUnfinished 4 (some .int), Cond.methodLink RX0 65 yX0_isKitTaken, Cond.instanceMethod yX0_isKitTaken, Cond.selects RX0 yX0_isKitTaken yX0_isKitTaken, Cond.code yX0_isKitTaken cX0_isKitTaken 5 (some .boolean), Cond.methodLink RX0 102 yX0_isOthersLesson, Cond.static yX0_isOthersLesson, Cond.code yX0_isOthersLesson cX0_isOthersLesson 3 (some .boolean), Cond.methodLink RX0 69 yX0_layLesson, Cond.instanceMethod yX0_layLesson, Cond.selects RX0 yX0_layLesson yX0_layLesson, Cond.code yX0_layLesson cX0_layLesson 3 none]
def wsL_aim : List Cond := .codeWith yL_aim cL_aim 7 (some .int) [(0, 14, 17, 13), (0, 14, 21, 15)] :: ((wsL_aim_r1 ++ (wsL_aim_r2 ++ (wsL_aim_r3 ++ (wsL_aim_r4 ++ wsL_aim_r5)))) ++ wsX20 ++ wsX10 ++ wsX00 ++ (vx_atS RX2 38 "java/lang/IllegalArgumentException" ["java/lang/RuntimeException", "java/lang/Exception"]).filter goodWord ++ (vx_atS RX2 55 "java/lang/IllegalStateException" ["java/lang/RuntimeException", "java/lang/Exception"]).filter goodWord)
def wsL_need_r1 : List Cond := [Cond.classLink RL 21 "java/lang/IndexOutOfBoundsException", Cond.classLink RL 13 "java/lang/IllegalArgumentException", Cond.classLink RL 15 "java/lang/IllegalStateException", Cond.methodLink RL 17 yX2_need, Cond.instanceMethod yX2_need, Cond.selects RX2 yX2_need yX2_need, Cond.initialized RX2, Cond.code yX2_need cX2_need 3 (some .int), Cond.classLink RX2 67 "java/lang/IndexOutOfBoundsException", Cond.initialized "java/lang/IndexOutOfBoundsException", Cond.classLink RX2 34 "java/lang/IllegalArgumentException", Cond.initialized "java/lang/IllegalArgumentException", Cond.classLink RX2 51 "java/lang/IllegalStateException", Cond.initialized "java/lang/IllegalStateException", Cond.fieldLink RX2 10 "LessonWeave" "syllabus" "LLessonWeave$Syllabus;", Cond.methodLink RX2 63 yX2_isAim, Cond.instanceMethod yX2_isAim, Cond.selects RX2 yX2_isAim yX2_isAim, Cond.code yX2_isAim cX2_isAim 2 (some .boolean), Cond.methodLink RX2 30 yX2_isWithin, Cond.static yX2_isWithin, Cond.code yX2_isWithin cX2_isWithin 3 (some .boolean), Cond.methodLink RX2 78 yX2_has, Cond.static yX2_has]
def wsL_need_r2 : List Cond := [Cond.code yX2_has cX2_has 2 (some .boolean), Cond.methodLink RX2 84 yX1_reach, Cond.instanceMethod yX1_reach, Cond.selects RX1 yX1_reach yX1_reach, Cond.initialized RX1, Cond.code yX1_reach cX1_reach 4 (some .int), Cond.fieldLink RX1 30 "LessonWeave$Syllabus" "needs" "[I", Cond.fieldLink RX1 36 "LessonWeave$Syllabus" "count" "I", Cond.methodLink RX1 43 yX1_neededBy, Cond.instanceMethod yX1_neededBy, Cond.selects RX1 yX1_neededBy yX1_neededBy, Cond.code yX1_neededBy cX1_neededBy 4 (some .int), Cond.methodLink RX2 90 yX1_setNeeds, Cond.instanceMethod yX1_setNeeds, Cond.selects RX1 yX1_setNeeds yX1_setNeeds, Cond.code yX1_setNeeds cX1_setNeeds 3 none, Cond.methodLink RX1 40 yX1_putInOrder, Cond.instanceMethod yX1_putInOrder, Cond.selects RX1 yX1_putInOrder yX1_putInOrder, Cond.code yX1_putInOrder cX1_putInOrder 5 none, Cond.fieldLink RX1 33 "LessonWeave$Syllabus" "order" "[I", Cond.fieldLink RX1 15 "LessonWeave$Syllabus" "kind" "[I", Cond.methodLink RX1 51 yX1_nextTaken, Cond.instanceMethod yX1_nextTaken]
def wsL_need_r3 : List Cond := [Cond.selects RX1 yX1_nextTaken yX1_nextTaken, Cond.code yX1_nextTaken cX1_nextTaken 5 (some .int), Cond.methodLink RX1 55 yX1_isCovered, Cond.static yX1_isCovered, Cond.code yX1_isCovered cX1_isCovered 2 (some .boolean), Cond.methodLink RX2 60 yX2_planAnew, Cond.instanceMethod yX2_planAnew, Cond.selects RX2 yX2_planAnew yX2_planAnew, Cond.code yX2_planAnew cX2_planAnew 2 none, Cond.fieldLink RX2 27 "LessonWeave" "formerPlan" "LLessonWeave$Plan;", Cond.fieldLink RX2 23 "LessonWeave" "plan" "LLessonWeave$Plan;", Cond.fieldLink RX2 16 "LessonWeave" "lost" "[Z", Cond.methodLink RX2 168 yX0_lay, Cond.instanceMethod yX0_lay, Cond.selects RX0 yX0_lay yX0_lay, Cond.initialized RX0, Cond.code yX0_lay cX0_lay 4 none, Cond.methodLink RX0 30 yX0_clear, Cond.instanceMethod yX0_clear, Cond.selects RX0 yX0_clear yX0_clear, Cond.code yX0_clear cX0_clear 1 none, Cond.fieldLink RX0 9 "LessonWeave$Plan" "things" "[I", Cond.fieldLink RX0 15 "LessonWeave$Plan" "lessonDays" "[I", Cond.fieldLink RX0 18 "LessonWeave$Plan" "revisitDays" "[I"]
def wsL_need_r4 : List Cond := [Cond.fieldLink RX0 21 "LessonWeave$Plan" "lessonsLaid" "[I", Cond.fieldLink RX0 24 "LessonWeave$Plan" "revisitsLaid" "[I", Cond.fieldLink RX0 27 "LessonWeave$Plan" "since" "[I", Cond.fieldLink RX0 39 "LessonWeave$Plan" "laidCount" "I", Cond.fieldLink RX0 43 "LessonWeave$Plan" "lateCount" "I", Cond.fieldLink RX0 46 "LessonWeave$Plan" "lastUsed" "I", Cond.methodLink RX0 33 yJ7_fill_53178, Cond.static yJ7_fill_53178, Cond.initialized RJ7, Cond.code yJ7_fill_53178 cJ7_fill_53178 4 none, Cond.methodLink RX0 49 yX0_layOn, Cond.instanceMethod yX0_layOn, Cond.selects RX0 yX0_layOn yX0_layOn, Cond.code yX0_layOn cX0_layOn 5 none, Cond.methodLink RX0 53 yX0_mostPressing, Cond.instanceMethod yX0_mostPressing, Cond.selects RX0 yX0_mostPressing yX0_mostPressing, Cond.code yX0_mostPressing cX0_mostPressing 7 (some .int), Cond.methodLink RX0 78 yX0_isDue, Cond.instanceMethod yX0_isDue, Cond.selects RX0 yX0_isDue yX0_isDue, Cond.code yX0_isDue cX0_isDue 4 (some .boolean), Cond.methodLink RX0 90 yX0_nextGap, Cond.instanceMethod yX0_nextGap]
def wsL_need_r5 : List Cond := [Cond.selects RX0 yX0_nextGap yX0_nextGap, Cond.code yX0_nextGap cX0_nextGap 3 (some .int), Cond.methodLink RX0 81 yX0_lateFrom, Cond.instanceMethod yX0_lateFrom, Cond.selects RX0 yX0_lateFrom yX0_lateFrom, Cond.code yX0_lateFrom cX0_lateFrom 3 (some .int), Cond.methodLink RX0 57 yX0_layRevisit, Cond.instanceMethod yX0_layRevisit, Cond.selects RX0 yX0_layRevisit yX0_layRevisit, Cond.code yX0_layRevisit cX0_layRevisit 4 none, Cond.methodLink RX0 105 yX0_use, Cond.instanceMethod yX0_use, Cond.selects RX0 yX0_use yX0_use, Cond.code yX0_use cX0_use 4 none, Cond.methodLink RX0 61 yX0_firstUnfinished, Cond.instanceMethod yX0_firstUnfinished, Cond.selects RX0 yX0_firstUnfinished yX0_firstUnfinished, Cond.code yX0_firstUnfinished cX0_firstUnfinished 4 (some .int), Cond.methodLink RX0 65 yX0_isKitTaken, Cond.instanceMethod yX0_isKitTaken, Cond.selects RX0 yX0_isKitTaken yX0_isKitTaken, Cond.code yX0_isKitTaken cX0_isKitTaken 5 (some .boolean), Cond.methodLink RX0 102 yX0_isOthersLesson, Cond.static yX0_isOthersLesson]
def wsL_need_r6 : List Cond := [Cond.code yX0_isOthersLesson cX0_isOthersLesson 3 (some .boolean), Cond.methodLink RX0 69 yX0_layLesson, Cond.instanceMethod yX0_layLesson, Cond.selects RX0 yX0_layLesson yX0_layLesson, Cond.code yX0_layLesson cX0_layLesson 3 none, Cond.methodLink RX2 94 yJ6_bitCount_0f7a4, Cond.static yJ6_bitCount_0f7a4, Cond.initialized RJ6, Cond.code yJ6_bitCount_0f7a4 cJ6_bitCount_0f7a4 1 (some .int), Cond.constant RJ6 265 (1431655765), Cond.constant RJ6 266 (858993459), Cond.constant RJ6 267 (252645135)]
def wsL_need : List Cond := .codeWith yL_need cL_need 5 (some .int) [(0, 10, 13, 21), (0, 10, 17, 13), (0, 10, 21, 15)] :: ((wsL_need_r1 ++ (wsL_need_r2 ++ (wsL_need_r3 ++ (wsL_need_r4 ++ (wsL_need_r5 ++ wsL_need_r6))))) ++ wsX20 ++ wsX10 ++ wsX00 ++ (vx_atS RX2 71 "java/lang/IndexOutOfBoundsException" ["java/lang/RuntimeException", "java/lang/Exception"]).filter goodWord ++ (vx_atS RX2 38 "java/lang/IllegalArgumentException" ["java/lang/RuntimeException", "java/lang/Exception"]).filter goodWord ++ (vx_atS RX2 55 "java/lang/IllegalStateException" ["java/lang/RuntimeException", "java/lang/Exception"]).filter goodWord)
def wsL_free_r1 : List Cond := [Cond.classLink RL 21 "java/lang/IndexOutOfBoundsException", Cond.classLink RL 26 "java/util/NoSuchElementException", Cond.methodLink RL 23 yX2_free, Cond.instanceMethod yX2_free, Cond.selects RX2 yX2_free yX2_free, Cond.initialized RX2, Cond.code yX2_free cX2_free 3 (some .int), Cond.classLink RX2 67 "java/lang/IndexOutOfBoundsException", Cond.initialized "java/lang/IndexOutOfBoundsException", Cond.classLink RX2 99 "java/util/NoSuchElementException", Cond.initialized "java/util/NoSuchElementException", Cond.fieldLink RX2 10 "LessonWeave" "syllabus" "LLessonWeave$Syllabus;", Cond.methodLink RX2 63 yX2_isAim, Cond.instanceMethod yX2_isAim, Cond.selects RX2 yX2_isAim yX2_isAim, Cond.code yX2_isAim cX2_isAim 2 (some .boolean), Cond.methodLink RX2 30 yX2_isWithin, Cond.static yX2_isWithin, Cond.code yX2_isWithin cX2_isWithin 3 (some .boolean), Cond.methodLink RX2 78 yX2_has, Cond.static yX2_has, Cond.code yX2_has cX2_has 2 (some .boolean), Cond.methodLink RX2 90 yX1_setNeeds, Cond.instanceMethod yX1_setNeeds]
def wsL_free_r2 : List Cond := [Cond.selects RX1 yX1_setNeeds yX1_setNeeds, Cond.initialized RX1, Cond.code yX1_setNeeds cX1_setNeeds 3 none, Cond.fieldLink RX1 30 "LessonWeave$Syllabus" "needs" "[I", Cond.methodLink RX1 40 yX1_putInOrder, Cond.instanceMethod yX1_putInOrder, Cond.selects RX1 yX1_putInOrder yX1_putInOrder, Cond.code yX1_putInOrder cX1_putInOrder 5 none, Cond.fieldLink RX1 36 "LessonWeave$Syllabus" "count" "I", Cond.fieldLink RX1 33 "LessonWeave$Syllabus" "order" "[I", Cond.fieldLink RX1 15 "LessonWeave$Syllabus" "kind" "[I", Cond.methodLink RX1 51 yX1_nextTaken, Cond.instanceMethod yX1_nextTaken, Cond.selects RX1 yX1_nextTaken yX1_nextTaken, Cond.code yX1_nextTaken cX1_nextTaken 5 (some .int), Cond.methodLink RX1 55 yX1_isCovered, Cond.static yX1_isCovered, Cond.code yX1_isCovered cX1_isCovered 2 (some .boolean), Cond.methodLink RX2 60 yX2_planAnew, Cond.instanceMethod yX2_planAnew, Cond.selects RX2 yX2_planAnew yX2_planAnew, Cond.code yX2_planAnew cX2_planAnew 2 none, Cond.fieldLink RX2 27 "LessonWeave" "formerPlan" "LLessonWeave$Plan;", Cond.fieldLink RX2 23 "LessonWeave" "plan" "LLessonWeave$Plan;"]
def wsL_free_r3 : List Cond := [Cond.fieldLink RX2 16 "LessonWeave" "lost" "[Z", Cond.methodLink RX2 168 yX0_lay, Cond.instanceMethod yX0_lay, Cond.selects RX0 yX0_lay yX0_lay, Cond.initialized RX0, Cond.code yX0_lay cX0_lay 4 none, Cond.methodLink RX0 30 yX0_clear, Cond.instanceMethod yX0_clear, Cond.selects RX0 yX0_clear yX0_clear, Cond.code yX0_clear cX0_clear 1 none, Cond.fieldLink RX0 9 "LessonWeave$Plan" "things" "[I", Cond.fieldLink RX0 15 "LessonWeave$Plan" "lessonDays" "[I", Cond.fieldLink RX0 18 "LessonWeave$Plan" "revisitDays" "[I", Cond.fieldLink RX0 21 "LessonWeave$Plan" "lessonsLaid" "[I", Cond.fieldLink RX0 24 "LessonWeave$Plan" "revisitsLaid" "[I", Cond.fieldLink RX0 27 "LessonWeave$Plan" "since" "[I", Cond.fieldLink RX0 39 "LessonWeave$Plan" "laidCount" "I", Cond.fieldLink RX0 43 "LessonWeave$Plan" "lateCount" "I", Cond.fieldLink RX0 46 "LessonWeave$Plan" "lastUsed" "I", Cond.methodLink RX0 33 yJ7_fill_53178, Cond.static yJ7_fill_53178, Cond.initialized RJ7, Cond.code yJ7_fill_53178 cJ7_fill_53178 4 none, Cond.methodLink RX0 49 yX0_layOn]
def wsL_free_r4 : List Cond := [Cond.instanceMethod yX0_layOn, Cond.selects RX0 yX0_layOn yX0_layOn, Cond.code yX0_layOn cX0_layOn 5 none, Cond.methodLink RX0 53 yX0_mostPressing, Cond.instanceMethod yX0_mostPressing, Cond.selects RX0 yX0_mostPressing yX0_mostPressing, Cond.code yX0_mostPressing cX0_mostPressing 7 (some .int), Cond.methodLink RX0 78 yX0_isDue, Cond.instanceMethod yX0_isDue, Cond.selects RX0 yX0_isDue yX0_isDue, Cond.code yX0_isDue cX0_isDue 4 (some .boolean), Cond.methodLink RX0 90 yX0_nextGap, Cond.instanceMethod yX0_nextGap, Cond.selects RX0 yX0_nextGap yX0_nextGap, Cond.code yX0_nextGap cX0_nextGap 3 (some .int), Cond.methodLink RX0 81 yX0_lateFrom, Cond.instanceMethod yX0_lateFrom, Cond.selects RX0 yX0_lateFrom yX0_lateFrom, Cond.code yX0_lateFrom cX0_lateFrom 3 (some .int), Cond.methodLink RX0 57 yX0_layRevisit, Cond.instanceMethod yX0_layRevisit, Cond.selects RX0 yX0_layRevisit yX0_layRevisit, Cond.code yX0_layRevisit cX0_layRevisit 4 none, Cond.methodLink RX0 105 yX0_use]
def wsL_free_r5 : List Cond := [Cond.instanceMethod yX0_use, Cond.selects RX0 yX0_use yX0_use, Cond.code yX0_use cX0_use 4 none, Cond.methodLink RX0 61 yX0_firstUnfinished, Cond.instanceMethod yX0_firstUnfinished, Cond.selects RX0 yX0_firstUnfinished yX0_firstUnfinished, Cond.code yX0_firstUnfinished cX0_firstUnfinished 4 (some .int), Cond.methodLink RX0 65 yX0_isKitTaken, Cond.instanceMethod yX0_isKitTaken, Cond.selects RX0 yX0_isKitTaken yX0_isKitTaken, Cond.code yX0_isKitTaken cX0_isKitTaken 5 (some .boolean), Cond.methodLink RX0 102 yX0_isOthersLesson, Cond.static yX0_isOthersLesson, Cond.code yX0_isOthersLesson cX0_isOthersLesson 3 (some .boolean), Cond.methodLink RX0 69 yX0_layLesson, Cond.instanceMethod yX0_layLesson, Cond.selects RX0 yX0_layLesson yX0_layLesson, Cond.code yX0_layLesson cX0_layLesson 3 none, Cond.methodLink RX2 94 yJ6_bitCount_0f7a4, Cond.static yJ6_bitCount_0f7a4, Cond.initialized RJ6, Cond.code yJ6_bitCount_0f7a4 cJ6_bitCount_0f7a4 1 (some .int), Cond.constant RJ6 265 (1431655765), Cond.constant RJ6 266 (858993459)]
def wsL_free_r6 : List Cond := [Cond.constant RJ6 267 (252645135)]
def wsL_free : List Cond := .codeWith yL_free cL_free 5 (some .int) [(0, 10, 13, 21), (0, 10, 17, 26)] :: ((wsL_free_r1 ++ (wsL_free_r2 ++ (wsL_free_r3 ++ (wsL_free_r4 ++ (wsL_free_r5 ++ wsL_free_r6))))) ++ wsX20 ++ wsX10 ++ wsX00 ++ (vx_atS RX2 71 "java/lang/IndexOutOfBoundsException" ["java/lang/RuntimeException", "java/lang/Exception"]).filter goodWord ++ xk_nsS.filter goodWord)
def wsL_revisits_r1 : List Cond := [Cond.classLink RL 21 "java/lang/IndexOutOfBoundsException", Cond.classLink RL 13 "java/lang/IllegalArgumentException", Cond.methodLink RL 28 yX2_revisits, Cond.instanceMethod yX2_revisits, Cond.selects RX2 yX2_revisits yX2_revisits, Cond.initialized RX2, Cond.code yX2_revisits cX2_revisits 5 (some .int), Cond.classLink RX2 67 "java/lang/IndexOutOfBoundsException", Cond.initialized "java/lang/IndexOutOfBoundsException", Cond.classLink RX2 34 "java/lang/IllegalArgumentException", Cond.initialized "java/lang/IllegalArgumentException", Cond.fieldLink RX2 10 "LessonWeave" "syllabus" "LLessonWeave$Syllabus;", Cond.methodLink RX2 63 yX2_isAim, Cond.instanceMethod yX2_isAim, Cond.selects RX2 yX2_isAim yX2_isAim, Cond.code yX2_isAim cX2_isAim 2 (some .boolean), Cond.methodLink RX2 30 yX2_isWithin, Cond.static yX2_isWithin, Cond.code yX2_isWithin cX2_isWithin 3 (some .boolean), Cond.methodLink RX2 60 yX2_planAnew, Cond.instanceMethod yX2_planAnew, Cond.selects RX2 yX2_planAnew yX2_planAnew, Cond.code yX2_planAnew cX2_planAnew 2 none, Cond.fieldLink RX2 27 "LessonWeave" "formerPlan" "LLessonWeave$Plan;"]
def wsL_revisits_r2 : List Cond := [Cond.fieldLink RX2 23 "LessonWeave" "plan" "LLessonWeave$Plan;", Cond.fieldLink RX2 16 "LessonWeave" "lost" "[Z", Cond.methodLink RX2 168 yX0_lay, Cond.instanceMethod yX0_lay, Cond.selects RX0 yX0_lay yX0_lay, Cond.initialized RX0, Cond.code yX0_lay cX0_lay 4 none, Cond.methodLink RX0 30 yX0_clear, Cond.instanceMethod yX0_clear, Cond.selects RX0 yX0_clear yX0_clear, Cond.code yX0_clear cX0_clear 1 none, Cond.fieldLink RX0 9 "LessonWeave$Plan" "things" "[I", Cond.fieldLink RX0 15 "LessonWeave$Plan" "lessonDays" "[I", Cond.fieldLink RX0 18 "LessonWeave$Plan" "revisitDays" "[I", Cond.fieldLink RX0 21 "LessonWeave$Plan" "lessonsLaid" "[I", Cond.fieldLink RX0 24 "LessonWeave$Plan" "revisitsLaid" "[I", Cond.fieldLink RX0 27 "LessonWeave$Plan" "since" "[I", Cond.fieldLink RX0 39 "LessonWeave$Plan" "laidCount" "I", Cond.fieldLink RX0 43 "LessonWeave$Plan" "lateCount" "I", Cond.fieldLink RX0 46 "LessonWeave$Plan" "lastUsed" "I", Cond.methodLink RX0 33 yJ7_fill_53178, Cond.static yJ7_fill_53178, Cond.initialized RJ7, Cond.code yJ7_fill_53178 cJ7_fill_53178 4 none]
def wsL_revisits_r3 : List Cond := [Cond.methodLink RX0 49 yX0_layOn, Cond.instanceMethod yX0_layOn, Cond.selects RX0 yX0_layOn yX0_layOn, Cond.code yX0_layOn cX0_layOn 5 none, Cond.methodLink RX0 53 yX0_mostPressing, Cond.instanceMethod yX0_mostPressing, Cond.selects RX0 yX0_mostPressing yX0_mostPressing, Cond.code yX0_mostPressing cX0_mostPressing 7 (some .int), Cond.methodLink RX0 78 yX0_isDue, Cond.instanceMethod yX0_isDue, Cond.selects RX0 yX0_isDue yX0_isDue, Cond.code yX0_isDue cX0_isDue 4 (some .boolean), Cond.methodLink RX0 90 yX0_nextGap, Cond.instanceMethod yX0_nextGap, Cond.selects RX0 yX0_nextGap yX0_nextGap, Cond.code yX0_nextGap cX0_nextGap 3 (some .int), Cond.methodLink RX0 81 yX0_lateFrom, Cond.instanceMethod yX0_lateFrom, Cond.selects RX0 yX0_lateFrom yX0_lateFrom, Cond.code yX0_lateFrom cX0_lateFrom 3 (some .int), Cond.methodLink RX0 57 yX0_layRevisit, Cond.instanceMethod yX0_layRevisit, Cond.selects RX0 yX0_layRevisit yX0_layRevisit, Cond.code yX0_layRevisit cX0_layRevisit 4 none]
def wsL_revisits_r4 : List Cond := [Cond.methodLink RX0 105 yX0_use, Cond.instanceMethod yX0_use, Cond.selects RX0 yX0_use yX0_use, Cond.code yX0_use cX0_use 4 none, Cond.methodLink RX0 61 yX0_firstUnfinished, Cond.instanceMethod yX0_firstUnfinished, Cond.selects RX0 yX0_firstUnfinished yX0_firstUnfinished, Cond.code yX0_firstUnfinished cX0_firstUnfinished 4 (some .int), Cond.methodLink RX0 65 yX0_isKitTaken, Cond.instanceMethod yX0_isKitTaken, Cond.selects RX0 yX0_isKitTaken yX0_isKitTaken, Cond.code yX0_isKitTaken cX0_isKitTaken 5 (some .boolean), Cond.methodLink RX0 102 yX0_isOthersLesson, Cond.static yX0_isOthersLesson, Cond.code yX0_isOthersLesson cX0_isOthersLesson 3 (some .boolean), Cond.methodLink RX0 69 yX0_layLesson, Cond.instanceMethod yX0_layLesson, Cond.selects RX0 yX0_layLesson yX0_layLesson, Cond.code yX0_layLesson cX0_layLesson 3 none]
def wsL_revisits : List Cond := .codeWith yL_revisits cL_revisits 6 (some .int) [(0, 12, 15, 21), (0, 12, 19, 13)] :: ((wsL_revisits_r1 ++ (wsL_revisits_r2 ++ (wsL_revisits_r3 ++ wsL_revisits_r4))) ++ wsX20 ++ wsX10 ++ wsX00 ++ (vx_atS RX2 71 "java/lang/IndexOutOfBoundsException" ["java/lang/RuntimeException", "java/lang/Exception"]).filter goodWord ++ (vx_atS RX2 38 "java/lang/IllegalArgumentException" ["java/lang/RuntimeException", "java/lang/Exception"]).filter goodWord)
def wsL_allNeeds_r1 : List Cond := [Cond.classLink RL 21 "java/lang/IndexOutOfBoundsException", Cond.methodLink RL 32 yX2_allNeeds, Cond.instanceMethod yX2_allNeeds, Cond.selects RX2 yX2_allNeeds yX2_allNeeds, Cond.initialized RX2, Cond.code yX2_allNeeds cX2_allNeeds 2 (some .int), Cond.classLink RX2 67 "java/lang/IndexOutOfBoundsException", Cond.initialized "java/lang/IndexOutOfBoundsException", Cond.fieldLink RX2 10 "LessonWeave" "syllabus" "LLessonWeave$Syllabus;", Cond.methodLink RX2 63 yX2_isAim, Cond.instanceMethod yX2_isAim, Cond.selects RX2 yX2_isAim yX2_isAim, Cond.code yX2_isAim cX2_isAim 2 (some .boolean), Cond.methodLink RX2 30 yX2_isWithin, Cond.static yX2_isWithin, Cond.code yX2_isWithin cX2_isWithin 3 (some .boolean), Cond.methodLink RX2 84 yX1_reach, Cond.instanceMethod yX1_reach, Cond.selects RX1 yX1_reach yX1_reach, Cond.initialized RX1, Cond.code yX1_reach cX1_reach 4 (some .int), Cond.fieldLink RX1 30 "LessonWeave$Syllabus" "needs" "[I", Cond.fieldLink RX1 36 "LessonWeave$Syllabus" "count" "I", Cond.methodLink RX1 43 yX1_neededBy]
def wsL_allNeeds_r2 : List Cond := [Cond.instanceMethod yX1_neededBy, Cond.selects RX1 yX1_neededBy yX1_neededBy, Cond.code yX1_neededBy cX1_neededBy 4 (some .int), Cond.static yX2_has, Cond.code yX2_has cX2_has 2 (some .boolean)]
def wsL_allNeeds : List Cond := .codeWith yL_allNeeds cL_allNeeds 4 (some .int) [(0, 9, 12, 21)] :: ((wsL_allNeeds_r1 ++ wsL_allNeeds_r2) ++ wsX20 ++ wsX10 ++ (vx_atS RX2 71 "java/lang/IndexOutOfBoundsException" ["java/lang/RuntimeException", "java/lang/Exception"]).filter goodWord)
def wsL_ordered : List Cond := .codeWith yL_ordered cL_ordered 4 (some .int) [(0, 9, 12, 21)] :: ([.classLink RL 21 "java/lang/IndexOutOfBoundsException", .methodLink RL 36 yX2_ordered, .instanceMethod yX2_ordered, .selects RX2 yX2_ordered yX2_ordered, .initialized RX2, .code yX2_ordered cX2_ordered 2 (some .int), .classLink RX2 67 "java/lang/IndexOutOfBoundsException", .initialized "java/lang/IndexOutOfBoundsException", .fieldLink RX2 10 "LessonWeave" "syllabus" "LLessonWeave$Syllabus;", .methodLink RX2 30 yX2_isWithin, .static yX2_isWithin, .code yX2_isWithin cX2_isWithin 3 (some .boolean)] ++ wsX20 ++ wsX10 ++ (vx_atS RX2 71 "java/lang/IndexOutOfBoundsException" ["java/lang/RuntimeException", "java/lang/Exception"]).filter goodWord)
def wsL_lose_r1 : List Cond := [Cond.classLink RL 21 "java/lang/IndexOutOfBoundsException", Cond.classLink RL 15 "java/lang/IllegalStateException", Cond.methodLink RL 39 yX2_lose, Cond.instanceMethod yX2_lose, Cond.selects RX2 yX2_lose yX2_lose, Cond.initialized RX2, Cond.code yX2_lose cX2_lose 2 (some .int), Cond.classLink RX2 67 "java/lang/IndexOutOfBoundsException", Cond.initialized "java/lang/IndexOutOfBoundsException", Cond.classLink RX2 51 "java/lang/IllegalStateException", Cond.initialized "java/lang/IllegalStateException", Cond.fieldLink RX2 16 "LessonWeave" "lost" "[Z", Cond.fieldLink RX2 23 "LessonWeave" "plan" "LLessonWeave$Plan;", Cond.fieldLink RX2 27 "LessonWeave" "formerPlan" "LLessonWeave$Plan;", Cond.methodLink RX2 119 yX2_isDay, Cond.static yX2_isDay, Cond.code yX2_isDay cX2_isDay 1 (some .boolean), Cond.methodLink RX2 30 yX2_isWithin, Cond.static yX2_isWithin, Cond.code yX2_isWithin cX2_isWithin 3 (some .boolean), Cond.methodLink RX2 60 yX2_planAnew, Cond.instanceMethod yX2_planAnew, Cond.selects RX2 yX2_planAnew yX2_planAnew, Cond.code yX2_planAnew cX2_planAnew 2 none]
def wsL_lose_r2 : List Cond := [Cond.fieldLink RX2 10 "LessonWeave" "syllabus" "LLessonWeave$Syllabus;", Cond.methodLink RX2 168 yX0_lay, Cond.instanceMethod yX0_lay, Cond.selects RX0 yX0_lay yX0_lay, Cond.initialized RX0, Cond.code yX0_lay cX0_lay 4 none, Cond.methodLink RX0 30 yX0_clear, Cond.instanceMethod yX0_clear, Cond.selects RX0 yX0_clear yX0_clear, Cond.code yX0_clear cX0_clear 1 none, Cond.fieldLink RX0 9 "LessonWeave$Plan" "things" "[I", Cond.fieldLink RX0 15 "LessonWeave$Plan" "lessonDays" "[I", Cond.fieldLink RX0 18 "LessonWeave$Plan" "revisitDays" "[I", Cond.fieldLink RX0 21 "LessonWeave$Plan" "lessonsLaid" "[I", Cond.fieldLink RX0 24 "LessonWeave$Plan" "revisitsLaid" "[I", Cond.fieldLink RX0 27 "LessonWeave$Plan" "since" "[I", Cond.fieldLink RX0 39 "LessonWeave$Plan" "laidCount" "I", Cond.fieldLink RX0 43 "LessonWeave$Plan" "lateCount" "I", Cond.fieldLink RX0 46 "LessonWeave$Plan" "lastUsed" "I", Cond.methodLink RX0 33 yJ7_fill_53178, Cond.static yJ7_fill_53178, Cond.initialized RJ7, Cond.code yJ7_fill_53178 cJ7_fill_53178 4 none, Cond.methodLink RX0 49 yX0_layOn]
def wsL_lose_r3 : List Cond := [Cond.instanceMethod yX0_layOn, Cond.selects RX0 yX0_layOn yX0_layOn, Cond.code yX0_layOn cX0_layOn 5 none, Cond.methodLink RX0 53 yX0_mostPressing, Cond.instanceMethod yX0_mostPressing, Cond.selects RX0 yX0_mostPressing yX0_mostPressing, Cond.code yX0_mostPressing cX0_mostPressing 7 (some .int), Cond.methodLink RX0 78 yX0_isDue, Cond.instanceMethod yX0_isDue, Cond.selects RX0 yX0_isDue yX0_isDue, Cond.code yX0_isDue cX0_isDue 4 (some .boolean), Cond.methodLink RX0 90 yX0_nextGap, Cond.instanceMethod yX0_nextGap, Cond.selects RX0 yX0_nextGap yX0_nextGap, Cond.code yX0_nextGap cX0_nextGap 3 (some .int), Cond.methodLink RX0 81 yX0_lateFrom, Cond.instanceMethod yX0_lateFrom, Cond.selects RX0 yX0_lateFrom yX0_lateFrom, Cond.code yX0_lateFrom cX0_lateFrom 3 (some .int), Cond.methodLink RX0 57 yX0_layRevisit, Cond.instanceMethod yX0_layRevisit, Cond.selects RX0 yX0_layRevisit yX0_layRevisit, Cond.code yX0_layRevisit cX0_layRevisit 4 none, Cond.methodLink RX0 105 yX0_use]
def wsL_lose_r4 : List Cond := [Cond.instanceMethod yX0_use, Cond.selects RX0 yX0_use yX0_use, Cond.code yX0_use cX0_use 4 none, Cond.methodLink RX0 61 yX0_firstUnfinished, Cond.instanceMethod yX0_firstUnfinished, Cond.selects RX0 yX0_firstUnfinished yX0_firstUnfinished, Cond.code yX0_firstUnfinished cX0_firstUnfinished 4 (some .int), Cond.methodLink RX0 65 yX0_isKitTaken, Cond.instanceMethod yX0_isKitTaken, Cond.selects RX0 yX0_isKitTaken yX0_isKitTaken, Cond.code yX0_isKitTaken cX0_isKitTaken 5 (some .boolean), Cond.methodLink RX0 102 yX0_isOthersLesson, Cond.static yX0_isOthersLesson, Cond.code yX0_isOthersLesson cX0_isOthersLesson 3 (some .boolean), Cond.methodLink RX0 69 yX0_layLesson, Cond.instanceMethod yX0_layLesson, Cond.selects RX0 yX0_layLesson yX0_layLesson, Cond.code yX0_layLesson cX0_layLesson 3 none, Cond.methodLink RX2 126 yX0_movedSince, Cond.instanceMethod yX0_movedSince, Cond.selects RX0 yX0_movedSince yX0_movedSince, Cond.code yX0_movedSince cX0_movedSince 2 (some .int), Cond.methodLink RX0 109 yX0_changed, Cond.static yX0_changed]
def wsL_lose_r5 : List Cond := [Cond.code yX0_changed cX0_changed 4 (some .int)]
def wsL_lose : List Cond := .codeWith yL_lose cL_lose 4 (some .int) [(0, 9, 12, 21), (0, 9, 15, 15)] :: ((wsL_lose_r1 ++ (wsL_lose_r2 ++ (wsL_lose_r3 ++ (wsL_lose_r4 ++ wsL_lose_r5)))) ++ wsX20 ++ wsX00 ++ wsX10 ++ (vx_atS RX2 71 "java/lang/IndexOutOfBoundsException" ["java/lang/RuntimeException", "java/lang/Exception"]).filter goodWord ++ (vx_atS RX2 55 "java/lang/IllegalStateException" ["java/lang/RuntimeException", "java/lang/Exception"]).filter goodWord)
def wsL_on : List Cond := .codeWith yL_on cL_on 4 (some .int) [(0, 9, 12, 21)] :: ([.classLink RL 21 "java/lang/IndexOutOfBoundsException", .methodLink RL 42 yX2_on, .instanceMethod yX2_on, .selects RX2 yX2_on yX2_on, .initialized RX2, .code yX2_on cX2_on 2 (some .int), .classLink RX2 67 "java/lang/IndexOutOfBoundsException", .initialized "java/lang/IndexOutOfBoundsException", .fieldLink RX2 23 "LessonWeave" "plan" "LLessonWeave$Plan;", .methodLink RX2 119 yX2_isDay, .static yX2_isDay, .code yX2_isDay cX2_isDay 1 (some .boolean), .methodLink RX2 30 yX2_isWithin, .static yX2_isWithin, .code yX2_isWithin cX2_isWithin 3 (some .boolean)] ++ wsX20 ++ wsX00 ++ (vx_atS RX2 71 "java/lang/IndexOutOfBoundsException" ["java/lang/RuntimeException", "java/lang/Exception"]).filter goodWord)
def wsL_lessonDay : List Cond := .codeWith yL_lessonDay cL_lessonDay 5 (some .int) [(0, 10, 13, 21)] :: ([.classLink RL 21 "java/lang/IndexOutOfBoundsException", .methodLink RL 45 yX2_lessonDay, .instanceMethod yX2_lessonDay, .selects RX2 yX2_lessonDay yX2_lessonDay, .initialized RX2, .code yX2_lessonDay cX2_lessonDay 3 (some .int), .classLink RX2 67 "java/lang/IndexOutOfBoundsException", .initialized "java/lang/IndexOutOfBoundsException", .fieldLink RX2 10 "LessonWeave" "syllabus" "LLessonWeave$Syllabus;", .fieldLink RX2 23 "LessonWeave" "plan" "LLessonWeave$Plan;", .methodLink RX2 63 yX2_isAim, .instanceMethod yX2_isAim, .selects RX2 yX2_isAim yX2_isAim, .code yX2_isAim cX2_isAim 2 (some .boolean), .methodLink RX2 30 yX2_isWithin, .static yX2_isWithin, .code yX2_isWithin cX2_isWithin 3 (some .boolean)] ++ wsX20 ++ wsX10 ++ wsX00 ++ (vx_atS RX2 71 "java/lang/IndexOutOfBoundsException" ["java/lang/RuntimeException", "java/lang/Exception"]).filter goodWord)
def wsL_revisitDay : List Cond := .codeWith yL_revisitDay cL_revisitDay 5 (some .int) [(0, 10, 13, 21)] :: ([.classLink RL 21 "java/lang/IndexOutOfBoundsException", .methodLink RL 48 yX2_revisitDay, .instanceMethod yX2_revisitDay, .selects RX2 yX2_revisitDay yX2_revisitDay, .initialized RX2, .code yX2_revisitDay cX2_revisitDay 3 (some .int), .classLink RX2 67 "java/lang/IndexOutOfBoundsException", .initialized "java/lang/IndexOutOfBoundsException", .fieldLink RX2 10 "LessonWeave" "syllabus" "LLessonWeave$Syllabus;", .fieldLink RX2 23 "LessonWeave" "plan" "LLessonWeave$Plan;", .methodLink RX2 63 yX2_isAim, .instanceMethod yX2_isAim, .selects RX2 yX2_isAim yX2_isAim, .code yX2_isAim cX2_isAim 2 (some .boolean), .methodLink RX2 30 yX2_isWithin, .static yX2_isWithin, .code yX2_isWithin cX2_isWithin 3 (some .boolean)] ++ wsX20 ++ wsX10 ++ wsX00 ++ (vx_atS RX2 71 "java/lang/IndexOutOfBoundsException" ["java/lang/RuntimeException", "java/lang/Exception"]).filter goodWord)
def wsL_worthwhile_r1 : List Cond := [Cond.classLink RL 13 "java/lang/IllegalArgumentException", Cond.methodLink RL 51 yX2_worthwhile, Cond.instanceMethod yX2_worthwhile, Cond.selects RX2 yX2_worthwhile yX2_worthwhile, Cond.initialized RX2, Cond.code yX2_worthwhile cX2_worthwhile 2 (some .int), Cond.classLink RX2 34 "java/lang/IllegalArgumentException", Cond.initialized "java/lang/IllegalArgumentException", Cond.fieldLink RX2 10 "LessonWeave" "syllabus" "LLessonWeave$Syllabus;", Cond.methodLink RX2 30 yX2_isWithin, Cond.static yX2_isWithin, Cond.code yX2_isWithin cX2_isWithin 3 (some .boolean), Cond.methodLink RX2 157 yX1_bestSet, Cond.instanceMethod yX1_bestSet, Cond.selects RX1 yX1_bestSet yX1_bestSet, Cond.initialized RX1, Cond.code yX1_bestSet cX1_bestSet 6 (some .int), Cond.fieldLink RX1 36 "LessonWeave$Syllabus" "count" "I", Cond.methodLink RX1 58 yX1_isClosed, Cond.instanceMethod yX1_isClosed, Cond.selects RX1 yX1_isClosed yX1_isClosed, Cond.code yX1_isClosed cX1_isClosed 3 (some .boolean), Cond.fieldLink RX1 30 "LessonWeave$Syllabus" "needs" "[I", Cond.static yX2_has]
def wsL_worthwhile_r2 : List Cond := [Cond.code yX2_has cX2_has 2 (some .boolean), Cond.methodLink RX1 55 yX1_isCovered, Cond.static yX1_isCovered, Cond.code yX1_isCovered cX1_isCovered 2 (some .boolean), Cond.methodLink RX1 62 yX1_netOf, Cond.instanceMethod yX1_netOf, Cond.selects RX1 yX1_netOf yX1_netOf, Cond.code yX1_netOf cX1_netOf 5 (some .int), Cond.fieldLink RX1 18 "LessonWeave$Syllabus" "worth" "[I", Cond.fieldLink RX1 9 "LessonWeave$Syllabus" "lessons" "[I", Cond.methodLink RX1 65 yJ6_bitCount_0f7a4, Cond.static yJ6_bitCount_0f7a4, Cond.initialized RJ6, Cond.code yJ6_bitCount_0f7a4 cJ6_bitCount_0f7a4 1 (some .int), Cond.constant RJ6 265 (1431655765), Cond.constant RJ6 266 (858993459), Cond.constant RJ6 267 (252645135)]
def wsL_worthwhile : List Cond := .codeWith yL_worthwhile cL_worthwhile 4 (some .int) [(0, 9, 12, 13)] :: ((wsL_worthwhile_r1 ++ wsL_worthwhile_r2) ++ wsX20 ++ wsX10 ++ (vx_atS RX2 38 "java/lang/IllegalArgumentException" ["java/lang/RuntimeException", "java/lang/Exception"]).filter goodWord)
def wsL_bestNet_r1 : List Cond := [Cond.classLink RL 13 "java/lang/IllegalArgumentException", Cond.methodLink RL 54 yX2_bestNet, Cond.instanceMethod yX2_bestNet, Cond.selects RX2 yX2_bestNet yX2_bestNet, Cond.initialized RX2, Cond.code yX2_bestNet cX2_bestNet 2 (some .int), Cond.classLink RX2 34 "java/lang/IllegalArgumentException", Cond.initialized "java/lang/IllegalArgumentException", Cond.fieldLink RX2 10 "LessonWeave" "syllabus" "LLessonWeave$Syllabus;", Cond.methodLink RX2 30 yX2_isWithin, Cond.static yX2_isWithin, Cond.code yX2_isWithin cX2_isWithin 3 (some .boolean), Cond.methodLink RX2 157 yX1_bestSet, Cond.instanceMethod yX1_bestSet, Cond.selects RX1 yX1_bestSet yX1_bestSet, Cond.initialized RX1, Cond.code yX1_bestSet cX1_bestSet 6 (some .int), Cond.fieldLink RX1 36 "LessonWeave$Syllabus" "count" "I", Cond.methodLink RX1 58 yX1_isClosed, Cond.instanceMethod yX1_isClosed, Cond.selects RX1 yX1_isClosed yX1_isClosed, Cond.code yX1_isClosed cX1_isClosed 3 (some .boolean), Cond.fieldLink RX1 30 "LessonWeave$Syllabus" "needs" "[I", Cond.static yX2_has]
def wsL_bestNet_r2 : List Cond := [Cond.code yX2_has cX2_has 2 (some .boolean), Cond.methodLink RX1 55 yX1_isCovered, Cond.static yX1_isCovered, Cond.code yX1_isCovered cX1_isCovered 2 (some .boolean), Cond.methodLink RX1 62 yX1_netOf, Cond.instanceMethod yX1_netOf, Cond.selects RX1 yX1_netOf yX1_netOf, Cond.code yX1_netOf cX1_netOf 5 (some .int), Cond.fieldLink RX1 18 "LessonWeave$Syllabus" "worth" "[I", Cond.fieldLink RX1 9 "LessonWeave$Syllabus" "lessons" "[I", Cond.methodLink RX1 65 yJ6_bitCount_0f7a4, Cond.static yJ6_bitCount_0f7a4, Cond.initialized RJ6, Cond.code yJ6_bitCount_0f7a4 cJ6_bitCount_0f7a4 1 (some .int), Cond.constant RJ6 265 (1431655765), Cond.constant RJ6 266 (858993459), Cond.constant RJ6 267 (252645135), Cond.methodLink RX2 160 yX1_netOf]
def wsL_bestNet : List Cond := .codeWith yL_bestNet cL_bestNet 4 (some .int) [(0, 9, 12, 13)] :: ((wsL_bestNet_r1 ++ wsL_bestNet_r2) ++ wsX20 ++ wsX10 ++ (vx_atS RX2 38 "java/lang/IllegalArgumentException" ["java/lang/RuntimeException", "java/lang/Exception"]).filter goodWord)
def wsL_law0_r1 : List Cond := [Cond.classLink RL 8 RX2, Cond.instantiable RX2 4, Cond.initialized RX2, Cond.classLink RL 58 RX3, Cond.instantiable RX3 18, Cond.initialized RX3, Cond.arrayClass .long, Cond.methodLink RL 57 yX2_init, Cond.instanceMethod yX2_init, Cond.code yX2_init cX2_init 1 none, Cond.methodLink RX2 1 objectInit, Cond.instanceMethod objectInit, Cond.code objectInit ⟨#[0xb1]⟩ 1 none, Cond.classLink RX2 7 RX1, Cond.instantiable RX1 9, Cond.initialized RX1, Cond.fieldLink RX2 10 "LessonWeave" "syllabus" "LLessonWeave$Syllabus;", Cond.arrayClass .boolean, Cond.fieldLink RX2 16 "LessonWeave" "lost" "[Z", Cond.classLink RX2 20 RX0, Cond.instantiable RX0 9, Cond.initialized RX0, Cond.fieldLink RX2 23 "LessonWeave" "plan" "LLessonWeave$Plan;", Cond.fieldLink RX2 27 "LessonWeave" "formerPlan" "LLessonWeave$Plan;"]
def wsL_law0_r2 : List Cond := [Cond.methodLink RX2 9 yX1_init, Cond.instanceMethod yX1_init, Cond.code yX1_init cX1_init 1 none, Cond.methodLink RX1 3 objectInit, Cond.arrayClass .int, Cond.fieldLink RX1 9 "LessonWeave$Syllabus" "lessons" "[I", Cond.fieldLink RX1 15 "LessonWeave$Syllabus" "kind" "[I", Cond.fieldLink RX1 18 "LessonWeave$Syllabus" "worth" "[I", Cond.fieldLink RX1 21 "LessonWeave$Syllabus" "kit" "[I", Cond.fieldLink RX1 24 "LessonWeave$Syllabus" "many" "[I", Cond.fieldLink RX1 27 "LessonWeave$Syllabus" "gap" "[I", Cond.fieldLink RX1 30 "LessonWeave$Syllabus" "needs" "[I", Cond.fieldLink RX1 33 "LessonWeave$Syllabus" "order" "[I", Cond.methodLink RX2 22 yX0_init, Cond.instanceMethod yX0_init, Cond.code yX0_init cX0_init 1 none, Cond.methodLink RX0 3 objectInit, Cond.fieldLink RX0 9 "LessonWeave$Plan" "things" "[I", Cond.fieldLink RX0 15 "LessonWeave$Plan" "lessonDays" "[I", Cond.fieldLink RX0 18 "LessonWeave$Plan" "revisitDays" "[I", Cond.fieldLink RX0 21 "LessonWeave$Plan" "lessonsLaid" "[I", Cond.fieldLink RX0 24 "LessonWeave$Plan" "revisitsLaid" "[I", Cond.fieldLink RX0 27 "LessonWeave$Plan" "since" "[I", Cond.methodLink RX0 30 yX0_clear]
def wsL_law0_r3 : List Cond := [Cond.instanceMethod yX0_clear, Cond.selects RX0 yX0_clear yX0_clear, Cond.code yX0_clear cX0_clear 1 none, Cond.fieldLink RX0 39 "LessonWeave$Plan" "laidCount" "I", Cond.fieldLink RX0 43 "LessonWeave$Plan" "lateCount" "I", Cond.fieldLink RX0 46 "LessonWeave$Plan" "lastUsed" "I", Cond.methodLink RX0 33 yJ7_fill_53178, Cond.static yJ7_fill_53178, Cond.initialized RJ7, Cond.code yJ7_fill_53178 cJ7_fill_53178 4 none, Cond.methodLink RL 60 yX3_init, Cond.instanceMethod yX3_init, Cond.code yX3_init cX3_init 1 none, Cond.methodLink RX3 1 objectInit, Cond.fieldLink RX3 7 "LessonWeaveModel" "lessons" "[I", Cond.fieldLink RX3 13 "LessonWeaveModel" "kind" "[I", Cond.fieldLink RX3 16 "LessonWeaveModel" "worth" "[I", Cond.fieldLink RX3 19 "LessonWeaveModel" "kit" "[I", Cond.fieldLink RX3 22 "LessonWeaveModel" "needs" "[I", Cond.fieldLink RX3 25 "LessonWeaveModel" "many" "[I", Cond.fieldLink RX3 28 "LessonWeaveModel" "gap" "[I", Cond.fieldLink RX3 31 "LessonWeaveModel" "isLost" "[Z", Cond.fieldLink RX3 35 "LessonWeaveModel" "order" "[I", Cond.fieldLink RX3 38 "LessonWeaveModel" "things" "[I"]
def wsL_law0_r4 : List Cond := [Cond.fieldLink RX3 41 "LessonWeaveModel" "lessonOn" "[I", Cond.fieldLink RX3 44 "LessonWeaveModel" "revisitOn" "[I", Cond.fieldLink RX3 47 "LessonWeaveModel" "lessonsLaid" "[I", Cond.fieldLink RX3 50 "LessonWeaveModel" "revisitsLaid" "[I", Cond.fieldLink RX3 53 "LessonWeaveModel" "before" "[I", Cond.methodLink RL 61 yL_aim, Cond.static yL_aim, Cond.initialized RL, Cond.codeWith yL_aim cL_aim 7 (some .int) [(0, 14, 17, 13), (0, 14, 21, 15)], Cond.classLink RL 13 "java/lang/IllegalArgumentException", Cond.classLink RL 15 "java/lang/IllegalStateException", Cond.methodLink RL 7 yX2_aim, Cond.instanceMethod yX2_aim, Cond.selects RX2 yX2_aim yX2_aim, Cond.code yX2_aim cX2_aim 6 (some .int), Cond.classLink RX2 34 "java/lang/IllegalArgumentException", Cond.initialized "java/lang/IllegalArgumentException", Cond.classLink RX2 51 "java/lang/IllegalStateException", Cond.initialized "java/lang/IllegalStateException", Cond.methodLink RX2 30 yX2_isWithin, Cond.static yX2_isWithin, Cond.code yX2_isWithin cX2_isWithin 3 (some .boolean), Cond.methodLink RX2 56 yX1_add, Cond.instanceMethod yX1_add]
def wsL_law0_r5 : List Cond := [Cond.selects RX1 yX1_add yX1_add, Cond.code yX1_add cX1_add 6 (some .int), Cond.fieldLink RX1 36 "LessonWeave$Syllabus" "count" "I", Cond.methodLink RX1 40 yX1_putInOrder, Cond.instanceMethod yX1_putInOrder, Cond.selects RX1 yX1_putInOrder yX1_putInOrder, Cond.code yX1_putInOrder cX1_putInOrder 5 none, Cond.methodLink RX1 51 yX1_nextTaken, Cond.instanceMethod yX1_nextTaken, Cond.selects RX1 yX1_nextTaken yX1_nextTaken, Cond.code yX1_nextTaken cX1_nextTaken 5 (some .int), Cond.static yX2_has, Cond.code yX2_has cX2_has 2 (some .boolean), Cond.methodLink RX1 55 yX1_isCovered, Cond.static yX1_isCovered, Cond.code yX1_isCovered cX1_isCovered 2 (some .boolean), Cond.methodLink RX2 60 yX2_planAnew, Cond.instanceMethod yX2_planAnew, Cond.selects RX2 yX2_planAnew yX2_planAnew, Cond.code yX2_planAnew cX2_planAnew 2 none, Cond.methodLink RX2 168 yX0_lay, Cond.instanceMethod yX0_lay, Cond.selects RX0 yX0_lay yX0_lay, Cond.code yX0_lay cX0_lay 4 none]
def wsL_law0_r6 : List Cond := [Cond.methodLink RX0 49 yX0_layOn, Cond.instanceMethod yX0_layOn, Cond.selects RX0 yX0_layOn yX0_layOn, Cond.code yX0_layOn cX0_layOn 5 none, Cond.methodLink RX0 53 yX0_mostPressing, Cond.instanceMethod yX0_mostPressing, Cond.selects RX0 yX0_mostPressing yX0_mostPressing, Cond.code yX0_mostPressing cX0_mostPressing 7 (some .int), Cond.methodLink RX0 78 yX0_isDue, Cond.instanceMethod yX0_isDue, Cond.selects RX0 yX0_isDue yX0_isDue, Cond.code yX0_isDue cX0_isDue 4 (some .boolean), Cond.methodLink RX0 90 yX0_nextGap, Cond.instanceMethod yX0_nextGap, Cond.selects RX0 yX0_nextGap yX0_nextGap, Cond.code yX0_nextGap cX0_nextGap 3 (some .int), Cond.methodLink RX0 81 yX0_lateFrom, Cond.instanceMethod yX0_lateFrom, Cond.selects RX0 yX0_lateFrom yX0_lateFrom, Cond.code yX0_lateFrom cX0_lateFrom 3 (some .int), Cond.methodLink RX0 57 yX0_layRevisit, Cond.instanceMethod yX0_layRevisit, Cond.selects RX0 yX0_layRevisit yX0_layRevisit, Cond.code yX0_layRevisit cX0_layRevisit 4 none]
def wsL_law0_r7 : List Cond := [Cond.methodLink RX0 105 yX0_use, Cond.instanceMethod yX0_use, Cond.selects RX0 yX0_use yX0_use, Cond.code yX0_use cX0_use 4 none, Cond.methodLink RX0 61 yX0_firstUnfinished, Cond.instanceMethod yX0_firstUnfinished, Cond.selects RX0 yX0_firstUnfinished yX0_firstUnfinished, Cond.code yX0_firstUnfinished cX0_firstUnfinished 4 (some .int), Cond.methodLink RX0 65 yX0_isKitTaken, Cond.instanceMethod yX0_isKitTaken, Cond.selects RX0 yX0_isKitTaken yX0_isKitTaken, Cond.code yX0_isKitTaken cX0_isKitTaken 5 (some .boolean), Cond.methodLink RX0 102 yX0_isOthersLesson, Cond.static yX0_isOthersLesson, Cond.code yX0_isOthersLesson cX0_isOthersLesson 3 (some .boolean), Cond.methodLink RX0 69 yX0_layLesson, Cond.instanceMethod yX0_layLesson, Cond.selects RX0 yX0_layLesson yX0_layLesson, Cond.code yX0_layLesson cX0_layLesson 3 none, Cond.methodLink RL 66 yX3_aim, Cond.instanceMethod yX3_aim, Cond.selects RX3 yX3_aim yX3_aim, Cond.code yX3_aim cX3_aim 6 (some .int), Cond.fieldLink RX3 60 "LessonWeaveModel" "aims" "I"]
def wsL_law0_r8 : List Cond := [Cond.methodLink RX3 63 yX3_isIn, Cond.static yX3_isIn, Cond.code yX3_isIn cX3_isIn 3 (some .boolean), Cond.methodLink RX3 67 yX3_can, Cond.instanceMethod yX3_can, Cond.selects RX3 yX3_can yX3_can, Cond.code yX3_can cX3_can 2 (some .boolean), Cond.fieldLink RX3 56 "LessonWeaveModel" "thrown" "I", Cond.methodLink RL 67 yX3_thrown, Cond.instanceMethod yX3_thrown, Cond.selects RX3 yX3_thrown yX3_thrown, Cond.code yX3_thrown cX3_thrown 1 (some .int), Cond.methodLink RL 71 yL_need, Cond.static yL_need, Cond.codeWith yL_need cL_need 5 (some .int) [(0, 10, 13, 21), (0, 10, 17, 13), (0, 10, 21, 15)], Cond.classLink RL 21 "java/lang/IndexOutOfBoundsException", Cond.methodLink RL 17 yX2_need, Cond.instanceMethod yX2_need, Cond.selects RX2 yX2_need yX2_need, Cond.code yX2_need cX2_need 3 (some .int), Cond.classLink RX2 67 "java/lang/IndexOutOfBoundsException", Cond.initialized "java/lang/IndexOutOfBoundsException", Cond.methodLink RX2 63 yX2_isAim, Cond.instanceMethod yX2_isAim]
def wsL_law0_r9 : List Cond := [Cond.selects RX2 yX2_isAim yX2_isAim, Cond.code yX2_isAim cX2_isAim 2 (some .boolean), Cond.methodLink RX2 78 yX2_has, Cond.methodLink RX2 84 yX1_reach, Cond.instanceMethod yX1_reach, Cond.selects RX1 yX1_reach yX1_reach, Cond.code yX1_reach cX1_reach 4 (some .int), Cond.methodLink RX1 43 yX1_neededBy, Cond.instanceMethod yX1_neededBy, Cond.selects RX1 yX1_neededBy yX1_neededBy, Cond.code yX1_neededBy cX1_neededBy 4 (some .int), Cond.methodLink RX2 90 yX1_setNeeds, Cond.instanceMethod yX1_setNeeds, Cond.selects RX1 yX1_setNeeds yX1_setNeeds, Cond.code yX1_setNeeds cX1_setNeeds 3 none, Cond.methodLink RX2 94 yJ6_bitCount_0f7a4, Cond.static yJ6_bitCount_0f7a4, Cond.initialized RJ6, Cond.code yJ6_bitCount_0f7a4 cJ6_bitCount_0f7a4 1 (some .int), Cond.constant RJ6 265 (1431655765), Cond.constant RJ6 266 (858993459), Cond.constant RJ6 267 (252645135), Cond.methodLink RL 74 yX3_need, Cond.instanceMethod yX3_need]
def wsL_law0_r10 : List Cond := [Cond.selects RX3 yX3_need yX3_need, Cond.code yX3_need cX3_need 4 (some .int), Cond.methodLink RX3 71 yX3_isAim, Cond.instanceMethod yX3_isAim, Cond.selects RX3 yX3_isAim yX3_isAim, Cond.code yX3_isAim cX3_isAim 2 (some .boolean), Cond.methodLink RX3 74 yX3_hasNeed, Cond.instanceMethod yX3_hasNeed, Cond.selects RX3 yX3_hasNeed yX3_hasNeed, Cond.code yX3_hasNeed cX3_hasNeed 3 (some .boolean), Cond.methodLink RX3 78 yX3_reached, Cond.instanceMethod yX3_reached, Cond.selects RX3 yX3_reached yX3_reached, Cond.code yX3_reached cX3_reached 5 (some .int), Cond.methodLink RX3 82 yX3_size, Cond.static yX3_size, Cond.code yX3_size cX3_size 3 (some .int), Cond.methodLink RL 75 yL_free, Cond.static yL_free, Cond.codeWith yL_free cL_free 5 (some .int) [(0, 10, 13, 21), (0, 10, 17, 26)], Cond.classLink RL 26 "java/util/NoSuchElementException", Cond.methodLink RL 23 yX2_free, Cond.instanceMethod yX2_free, Cond.selects RX2 yX2_free yX2_free]
def wsL_law0_r11 : List Cond := [Cond.code yX2_free cX2_free 3 (some .int), Cond.classLink RX2 99 "java/util/NoSuchElementException", Cond.initialized "java/util/NoSuchElementException", Cond.methodLink RL 77 yX3_free, Cond.instanceMethod yX3_free, Cond.selects RX3 yX3_free yX3_free, Cond.code yX3_free cX3_free 3 (some .int), Cond.methodLink RL 78 yL_revisits, Cond.static yL_revisits, Cond.codeWith yL_revisits cL_revisits 6 (some .int) [(0, 12, 15, 21), (0, 12, 19, 13)], Cond.methodLink RL 28 yX2_revisits, Cond.instanceMethod yX2_revisits, Cond.selects RX2 yX2_revisits yX2_revisits, Cond.code yX2_revisits cX2_revisits 5 (some .int), Cond.methodLink RL 81 yX3_revisits, Cond.instanceMethod yX3_revisits, Cond.selects RX3 yX3_revisits yX3_revisits, Cond.code yX3_revisits cX3_revisits 5 (some .int), Cond.methodLink RL 82 yX2_aims, Cond.instanceMethod yX2_aims, Cond.selects RX2 yX2_aims yX2_aims, Cond.code yX2_aims cX2_aims 1 (some .int), Cond.methodLink RL 85 yX3_aims, Cond.instanceMethod yX3_aims]
def wsL_law0_r12 : List Cond := [Cond.selects RX3 yX3_aims yX3_aims, Cond.code yX3_aims cX3_aims 1 (some .int), Cond.methodLink RL 86 yL_allNeeds, Cond.static yL_allNeeds, Cond.codeWith yL_allNeeds cL_allNeeds 4 (some .int) [(0, 9, 12, 21)], Cond.methodLink RL 32 yX2_allNeeds, Cond.instanceMethod yX2_allNeeds, Cond.selects RX2 yX2_allNeeds yX2_allNeeds, Cond.code yX2_allNeeds cX2_allNeeds 2 (some .int), Cond.methodLink RL 89 yX3_allNeeds, Cond.instanceMethod yX3_allNeeds, Cond.selects RX3 yX3_allNeeds yX3_allNeeds, Cond.code yX3_allNeeds cX3_allNeeds 2 (some .int), Cond.methodLink RL 90 yL_ordered, Cond.static yL_ordered, Cond.codeWith yL_ordered cL_ordered 4 (some .int) [(0, 9, 12, 21)], Cond.methodLink RL 36 yX2_ordered, Cond.instanceMethod yX2_ordered, Cond.selects RX2 yX2_ordered yX2_ordered, Cond.code yX2_ordered cX2_ordered 2 (some .int), Cond.methodLink RL 92 yX3_ordered, Cond.instanceMethod yX3_ordered, Cond.selects RX3 yX3_ordered yX3_ordered, Cond.code yX3_ordered cX3_ordered 2 (some .int)]
def wsL_law0_r13 : List Cond := [Cond.methodLink RX3 85 yX3_orders, Cond.instanceMethod yX3_orders, Cond.selects RX3 yX3_orders yX3_orders, Cond.code yX3_orders cX3_orders 8 none, Cond.methodLink RL 93 yL_lose, Cond.static yL_lose, Cond.codeWith yL_lose cL_lose 4 (some .int) [(0, 9, 12, 21), (0, 9, 15, 15)], Cond.methodLink RL 39 yX2_lose, Cond.instanceMethod yX2_lose, Cond.selects RX2 yX2_lose yX2_lose, Cond.code yX2_lose cX2_lose 2 (some .int), Cond.methodLink RX2 119 yX2_isDay, Cond.static yX2_isDay, Cond.code yX2_isDay cX2_isDay 1 (some .boolean), Cond.methodLink RX2 126 yX0_movedSince, Cond.instanceMethod yX0_movedSince, Cond.selects RX0 yX0_movedSince yX0_movedSince, Cond.code yX0_movedSince cX0_movedSince 2 (some .int), Cond.methodLink RX0 109 yX0_changed, Cond.static yX0_changed, Cond.code yX0_changed cX0_changed 4 (some .int), Cond.methodLink RL 95 yX3_lose, Cond.instanceMethod yX3_lose, Cond.selects RX3 yX3_lose yX3_lose]
def wsL_law0_r14 : List Cond := [Cond.code yX3_lose cX3_lose 4 (some .int), Cond.methodLink RX3 107 yX3_plans, Cond.instanceMethod yX3_plans, Cond.selects RX3 yX3_plans yX3_plans, Cond.code yX3_plans cX3_plans 4 none, Cond.fieldLink RX3 94 "LessonWeaveModel" "late" "I", Cond.methodLink RX3 97 yX3_revisitFor, Cond.instanceMethod yX3_revisitFor, Cond.selects RX3 yX3_revisitFor yX3_revisitFor, Cond.code yX3_revisitFor cX3_revisitFor 4 (some .int), Cond.methodLink RX3 88 yX3_dueOn, Cond.instanceMethod yX3_dueOn, Cond.selects RX3 yX3_dueOn yX3_dueOn, Cond.code yX3_dueOn cX3_dueOn 4 (some .int), Cond.methodLink RX3 91 yX3_lateFrom, Cond.instanceMethod yX3_lateFrom, Cond.selects RX3 yX3_lateFrom yX3_lateFrom, Cond.code yX3_lateFrom cX3_lateFrom 2 (some .int), Cond.methodLink RX3 100 yX3_nextAim, Cond.instanceMethod yX3_nextAim, Cond.selects RX3 yX3_nextAim yX3_nextAim, Cond.code yX3_nextAim cX3_nextAim 3 (some .int), Cond.methodLink RX3 104 yX3_isHeld, Cond.instanceMethod yX3_isHeld]
def wsL_law0_r15 : List Cond := [Cond.selects RX3 yX3_isHeld yX3_isHeld, Cond.code yX3_isHeld cX3_isHeld 6 (some .boolean), Cond.methodLink RX3 110 yX3_dayOf, Cond.instanceMethod yX3_dayOf, Cond.selects RX3 yX3_dayOf yX3_dayOf, Cond.code yX3_dayOf cX3_dayOf 2 (some .int), Cond.methodLink RL 96 yL_on, Cond.static yL_on, Cond.codeWith yL_on cL_on 4 (some .int) [(0, 9, 12, 21)], Cond.methodLink RL 42 yX2_on, Cond.instanceMethod yX2_on, Cond.selects RX2 yX2_on yX2_on, Cond.code yX2_on cX2_on 2 (some .int), Cond.methodLink RL 98 yX3_on, Cond.instanceMethod yX3_on, Cond.selects RX3 yX3_on yX3_on, Cond.code yX3_on cX3_on 2 (some .int), Cond.methodLink RL 99 yL_lessonDay, Cond.static yL_lessonDay, Cond.codeWith yL_lessonDay cL_lessonDay 5 (some .int) [(0, 10, 13, 21)], Cond.methodLink RL 45 yX2_lessonDay, Cond.instanceMethod yX2_lessonDay, Cond.selects RX2 yX2_lessonDay yX2_lessonDay, Cond.code yX2_lessonDay cX2_lessonDay 3 (some .int)]
def wsL_law0_r16 : List Cond := [Cond.methodLink RL 101 yX3_lessonDay, Cond.instanceMethod yX3_lessonDay, Cond.selects RX3 yX3_lessonDay yX3_lessonDay, Cond.code yX3_lessonDay cX3_lessonDay 3 (some .int), Cond.methodLink RL 102 yL_revisitDay, Cond.static yL_revisitDay, Cond.codeWith yL_revisitDay cL_revisitDay 5 (some .int) [(0, 10, 13, 21)], Cond.methodLink RL 48 yX2_revisitDay, Cond.instanceMethod yX2_revisitDay, Cond.selects RX2 yX2_revisitDay yX2_revisitDay, Cond.code yX2_revisitDay cX2_revisitDay 3 (some .int), Cond.methodLink RL 104 yX3_revisitDay, Cond.instanceMethod yX3_revisitDay, Cond.selects RX3 yX3_revisitDay yX3_revisitDay, Cond.code yX3_revisitDay cX3_revisitDay 3 (some .int), Cond.methodLink RL 105 yX2_laid, Cond.instanceMethod yX2_laid, Cond.selects RX2 yX2_laid yX2_laid, Cond.code yX2_laid cX2_laid 1 (some .int), Cond.methodLink RL 108 yX3_laid, Cond.instanceMethod yX3_laid, Cond.selects RX3 yX3_laid yX3_laid, Cond.code yX3_laid cX3_laid 3 (some .int), Cond.methodLink RL 109 yX2_late]
def wsL_law0_r17 : List Cond := [Cond.instanceMethod yX2_late, Cond.selects RX2 yX2_late yX2_late, Cond.code yX2_late cX2_late 1 (some .int), Cond.methodLink RL 112 yX3_late, Cond.instanceMethod yX3_late, Cond.selects RX3 yX3_late yX3_late, Cond.code yX3_late cX3_late 1 (some .int), Cond.methodLink RL 113 yX2_lastDay, Cond.instanceMethod yX2_lastDay, Cond.selects RX2 yX2_lastDay yX2_lastDay, Cond.code yX2_lastDay cX2_lastDay 1 (some .int), Cond.methodLink RL 116 yX3_lastDay, Cond.instanceMethod yX3_lastDay, Cond.selects RX3 yX3_lastDay yX3_lastDay, Cond.code yX3_lastDay cX3_lastDay 3 (some .int), Cond.methodLink RL 117 yL_worthwhile, Cond.static yL_worthwhile, Cond.codeWith yL_worthwhile cL_worthwhile 4 (some .int) [(0, 9, 12, 13)], Cond.methodLink RL 51 yX2_worthwhile, Cond.instanceMethod yX2_worthwhile, Cond.selects RX2 yX2_worthwhile yX2_worthwhile, Cond.code yX2_worthwhile cX2_worthwhile 2 (some .int), Cond.methodLink RX2 157 yX1_bestSet, Cond.instanceMethod yX1_bestSet]
def wsL_law0_r18 : List Cond := [Cond.selects RX1 yX1_bestSet yX1_bestSet, Cond.code yX1_bestSet cX1_bestSet 6 (some .int), Cond.methodLink RX1 58 yX1_isClosed, Cond.instanceMethod yX1_isClosed, Cond.selects RX1 yX1_isClosed yX1_isClosed, Cond.code yX1_isClosed cX1_isClosed 3 (some .boolean), Cond.methodLink RX1 62 yX1_netOf, Cond.instanceMethod yX1_netOf, Cond.selects RX1 yX1_netOf yX1_netOf, Cond.code yX1_netOf cX1_netOf 5 (some .int), Cond.methodLink RX1 65 yJ6_bitCount_0f7a4, Cond.methodLink RL 119 yX3_worthwhile, Cond.instanceMethod yX3_worthwhile, Cond.selects RX3 yX3_worthwhile yX3_worthwhile, Cond.code yX3_worthwhile cX3_worthwhile 2 (some .int), Cond.methodLink RX3 120 yX3_best, Cond.instanceMethod yX3_best, Cond.selects RX3 yX3_best yX3_best, Cond.code yX3_best cX3_best 5 (some .int), Cond.methodLink RX3 113 yX3_isClosed, Cond.instanceMethod yX3_isClosed, Cond.selects RX3 yX3_isClosed yX3_isClosed, Cond.code yX3_isClosed cX3_isClosed 4 (some .boolean), Cond.methodLink RX3 116 yX3_net]
def wsL_law0_r19 : List Cond := [Cond.instanceMethod yX3_net, Cond.selects RX3 yX3_net yX3_net, Cond.code yX3_net cX3_net 5 (some .int), Cond.methodLink RL 120 yL_bestNet, Cond.static yL_bestNet, Cond.codeWith yL_bestNet cL_bestNet 4 (some .int) [(0, 9, 12, 13)], Cond.methodLink RL 54 yX2_bestNet, Cond.instanceMethod yX2_bestNet, Cond.selects RX2 yX2_bestNet yX2_bestNet, Cond.code yX2_bestNet cX2_bestNet 2 (some .int), Cond.methodLink RX2 160 yX1_netOf, Cond.methodLink RL 122 yX3_bestNet, Cond.instanceMethod yX3_bestNet, Cond.selects RX3 yX3_bestNet yX3_bestNet, Cond.code yX3_bestNet cX3_bestNet 2 (some .int), Cond.methodLink RL 123 yX2_closedSets, Cond.instanceMethod yX2_closedSets, Cond.selects RX2 yX2_closedSets yX2_closedSets, Cond.code yX2_closedSets cX2_closedSets 1 (some .int), Cond.methodLink RX2 164 yX1_countClosed, Cond.instanceMethod yX1_countClosed, Cond.selects RX1 yX1_countClosed yX1_countClosed, Cond.code yX1_countClosed cX1_countClosed 3 (some .int), Cond.methodLink RL 126 yX3_closedSets]
def wsL_law0_r20 : List Cond := [Cond.instanceMethod yX3_closedSets, Cond.selects RX3 yX3_closedSets yX3_closedSets, Cond.code yX3_closedSets cX3_closedSets 3 (some .int)]
def wsL_law0 : List Cond := (wsL_law0_r1 ++ (wsL_law0_r2 ++ (wsL_law0_r3 ++ (wsL_law0_r4 ++ (wsL_law0_r5 ++ (wsL_law0_r6 ++ (wsL_law0_r7 ++ (wsL_law0_r8 ++ (wsL_law0_r9 ++ (wsL_law0_r10 ++ (wsL_law0_r11 ++ (wsL_law0_r12 ++ (wsL_law0_r13 ++ (wsL_law0_r14 ++ (wsL_law0_r15 ++ (wsL_law0_r16 ++ (wsL_law0_r17 ++ (wsL_law0_r18 ++ (wsL_law0_r19 ++ wsL_law0_r20))))))))))))))))))) ++ wsX20 ++ wsX30 ++ wsX10 ++ wsX00 ++ ([] : List Cond)
def wsL_law : List Cond := wsL_law0 ++ (vx_atS RX2 38 "java/lang/IllegalArgumentException" ["java/lang/RuntimeException", "java/lang/Exception"]).filter goodWord ++ (vx_atS RX2 55 "java/lang/IllegalStateException" ["java/lang/RuntimeException", "java/lang/Exception"]).filter goodWord ++ (vx_atS RX2 71 "java/lang/IndexOutOfBoundsException" ["java/lang/RuntimeException", "java/lang/Exception"]).filter goodWord ++ xk_nsS.filter goodWord
abbrev vwCl : List vw_C := [(RX0, TX0, 9), (RX1, TX1, 9), (RX2, TX2, 4), (RX3, TX3, 18)]
end
section
set_option maxRecDepth 20000 in
theorem in_wsL_law0_r1 : ∀ w ∈ wsL_law0_r1, w ∈ lw_tbl := fun w h => (goodIn_r wsL_law0_r1 [47, 48, 34, 525, 526, 38, 724, 49, 50, 51, 52, 53, 54, 55, 56, 35, 150, 149, 151, 102, 103, 36, 152, 153] (by decide +kernel) (by decide +kernel) w h).1
set_option maxRecDepth 20000 in
theorem in_wsL_law0_r2 : ∀ w ∈ wsL_law0_r2, w ∈ lw_tbl := fun w h => (goodIn_r wsL_law0_r2 [57, 58, 59, 60, 101, 64, 67, 68, 69, 71, 74, 77, 79, 104, 105, 106, 107, 115, 117, 119, 121, 122, 123, 108] (by decide +kernel) (by decide +kernel) w h).1
set_option maxRecDepth 20000 in
theorem in_wsL_law0_r3 : ∀ w ∈ wsL_law0_r3, w ∈ lw_tbl := fun w h => (goodIn_r wsL_law0_r3 [110, 0, 111, 124, 126, 128, 112, 113, 37, 114, 527, 528, 529, 530, 532, 533, 534, 535, 536, 537, 538, 539, 540, 541] (by decide +kernel) (by decide +kernel) w h).1
set_option maxRecDepth 20000 in
theorem in_wsL_law0_r4 : ∀ w ∈ wsL_law0_r4, w ∈ lw_tbl := fun w h => (goodIn_r wsL_law0_r4 [542, 543, 544, 545, 546, 197, 198, 33, 199, 200, 201, 202, 203, 204, 205, 209, 42, 281, 43, 206, 207, 208, 297, 298] (by decide +kernel) (by decide +kernel) w h).1
set_option maxRecDepth 20000 in
theorem in_wsL_law0_r5 : ∀ w ∈ wsL_law0_r5, w ∈ lw_tbl := fun w h => (goodIn_r wsL_law0_r5 [299, 300, 61, 301, 303, 3, 304, 305, 307, 4, 308, 192, 193, 194, 195, 196, 309, 311, 5, 312, 313, 314, 315, 316] (by decide +kernel) (by decide +kernel) w h).1
set_option maxRecDepth 20000 in
theorem in_wsL_law0_r6 : ∀ w ∈ wsL_law0_r6, w ∈ lw_tbl := fun w h => (goodIn_r wsL_law0_r6 [317, 319, 6, 320, 321, 323, 7, 324, 325, 327, 8, 328, 329, 331, 9, 332, 333, 335, 10, 336, 337, 339, 11, 340] (by decide +kernel) (by decide +kernel) w h).1
set_option maxRecDepth 20000 in
theorem in_wsL_law0_r7 : ∀ w ∈ wsL_law0_r7, w ∈ lw_tbl := fun w h => (goodIn_r wsL_law0_r7 [341, 343, 12, 344, 345, 347, 13, 348, 349, 351, 14, 352, 353, 354, 355, 356, 358, 15, 359, 590, 591, 592, 593, 531] (by decide +kernel) (by decide +kernel) w h).1
set_option maxRecDepth 20000 in
theorem in_wsL_law0_r8 : ∀ w ∈ wsL_law0_r8, w ∈ lw_tbl := fun w h => (goodIn_r wsL_law0_r8 [594, 595, 596, 597, 599, 18, 600, 548, 586, 587, 588, 589, 360, 361, 362, 363, 364, 365, 366, 367, 372, 44, 368, 370] (by decide +kernel) (by decide +kernel) w h).1
set_option maxRecDepth 20000 in
theorem in_wsL_law0_r9 : ∀ w ∈ wsL_law0_r9, w ∈ lw_tbl := fun w h => (goodIn_r wsL_law0_r9 [16, 371, 389, 391, 392, 393, 394, 395, 397, 17, 398, 400, 401, 402, 403, 404, 405, 45, 406, 407, 408, 409, 601, 602] (by decide +kernel) (by decide +kernel) w h).1
set_option maxRecDepth 20000 in
theorem in_wsL_law0_r10 : ∀ w ∈ wsL_law0_r10, w ∈ lw_tbl := fun w h => (goodIn_r wsL_law0_r10 [603, 604, 605, 607, 19, 608, 609, 611, 20, 612, 613, 615, 21, 616, 617, 618, 619, 410, 411, 412, 413, 414, 415, 416] (by decide +kernel) (by decide +kernel) w h).1
set_option maxRecDepth 20000 in
theorem in_wsL_law0_r11 : ∀ w ∈ wsL_law0_r11, w ∈ lw_tbl := fun w h => (goodIn_r wsL_law0_r11 [417, 418, 46, 620, 621, 622, 623, 434, 435, 436, 437, 438, 439, 440, 624, 625, 626, 627, 163, 164, 165, 166, 628, 629] (by decide +kernel) (by decide +kernel) w h).1
set_option maxRecDepth 20000 in
theorem in_wsL_law0_r12 : ∀ w ∈ wsL_law0_r12, w ∈ lw_tbl := fun w h => (goodIn_r wsL_law0_r12 [630, 631, 443, 444, 445, 446, 447, 448, 449, 632, 633, 634, 635, 450, 451, 452, 453, 454, 455, 456, 636, 637, 638, 639] (by decide +kernel) (by decide +kernel) w h).1
set_option maxRecDepth 20000 in
theorem in_wsL_law0_r13 : ∀ w ∈ wsL_law0_r13, w ∈ lw_tbl := fun w h => (goodIn_r wsL_law0_r13 [640, 642, 22, 643, 458, 459, 460, 461, 462, 463, 464, 465, 466, 467, 470, 471, 472, 473, 474, 475, 476, 644, 645, 646] (by decide +kernel) (by decide +kernel) w h).1
set_option maxRecDepth 20000 in
theorem in_wsL_law0_r14 : ∀ w ∈ wsL_law0_r14, w ∈ lw_tbl := fun w h => (goodIn_r wsL_law0_r14 [647, 648, 650, 23, 651, 547, 652, 654, 24, 655, 656, 658, 25, 659, 660, 662, 26, 663, 664, 666, 27, 667, 668, 670] (by decide +kernel) (by decide +kernel) w h).1
set_option maxRecDepth 20000 in
theorem in_wsL_law0_r15 : ∀ w ∈ wsL_law0_r15, w ∈ lw_tbl := fun w h => (goodIn_r wsL_law0_r15 [28, 671, 672, 674, 29, 675, 477, 478, 479, 480, 481, 482, 483, 676, 677, 678, 679, 484, 485, 486, 487, 488, 489, 490] (by decide +kernel) (by decide +kernel) w h).1
set_option maxRecDepth 20000 in
theorem in_wsL_law0_r16 : ∀ w ∈ wsL_law0_r16, w ∈ lw_tbl := fun w h => (goodIn_r wsL_law0_r16 [680, 681, 682, 683, 492, 493, 494, 495, 496, 497, 498, 684, 685, 686, 687, 167, 168, 169, 170, 688, 689, 690, 691, 171] (by decide +kernel) (by decide +kernel) w h).1
set_option maxRecDepth 20000 in
theorem in_wsL_law0_r17 : ∀ w ∈ wsL_law0_r17, w ∈ lw_tbl := fun w h => (goodIn_r wsL_law0_r17 [172, 173, 174, 692, 693, 694, 695, 175, 176, 177, 178, 696, 697, 698, 699, 500, 501, 502, 503, 504, 505, 506, 508, 509] (by decide +kernel) (by decide +kernel) w h).1
set_option maxRecDepth 20000 in
theorem in_wsL_law0_r18 : ∀ w ∈ wsL_law0_r18, w ∈ lw_tbl := fun w h => (goodIn_r wsL_law0_r18 [510, 511, 187, 189, 1, 190, 512, 513, 514, 515, 516, 700, 701, 702, 703, 704, 706, 30, 707, 708, 710, 31, 711, 712] (by decide +kernel) (by decide +kernel) w h).1
set_option maxRecDepth 20000 in
theorem in_wsL_law0_r19 : ∀ w ∈ wsL_law0_r19, w ∈ lw_tbl := fun w h => (goodIn_r wsL_law0_r19 [714, 32, 715, 517, 518, 519, 520, 521, 522, 523, 524, 716, 717, 718, 719, 179, 180, 181, 182, 183, 184, 185, 186, 720] (by decide +kernel) (by decide +kernel) w h).1
set_option maxRecDepth 20000 in
theorem in_wsL_law0_r20 : ∀ w ∈ wsL_law0_r20, w ∈ lw_tbl := fun w h => (goodIn_r wsL_law0_r20 [721, 722, 723] (by decide +kernel) (by decide +kernel) w h).1
set_option maxRecDepth 20000 in
theorem in_wsX20 : ∀ w ∈ wsX20, w ∈ lw_tbl := fun w h => (goodIn_r wsX20 [154, 156, 158, 160] (by decide +kernel) (by decide +kernel) w h).1
set_option maxRecDepth 20000 in
theorem in_wsX30 : ∀ w ∈ wsX30, w ∈ lw_tbl := fun w h => (goodIn_r wsX30 [549, 551, 553, 555, 557, 559, 561, 563, 565, 567, 569, 571, 573, 575, 577, 579, 581, 583] (by decide +kernel) (by decide +kernel) w h).1
set_option maxRecDepth 20000 in
theorem in_wsX10 : ∀ w ∈ wsX10, w ∈ lw_tbl := fun w h => (goodIn_r wsX10 [82, 84, 86, 88, 90, 92, 94, 96, 98] (by decide +kernel) (by decide +kernel) w h).1
set_option maxRecDepth 20000 in
theorem in_wsX00 : ∀ w ∈ wsX00, w ∈ lw_tbl := fun w h => (goodIn_r wsX00 [130, 132, 134, 136, 138, 140, 142, 144, 146] (by decide +kernel) (by decide +kernel) w h).1
theorem wsL_law_in0 : ∀ w ∈ wsL_law0, w ∈ lw_tbl := fun w h => (List.mem_append.mp h).elim (fun h => (List.mem_append.mp h).elim (fun h => (List.mem_append.mp h).elim (fun h => (List.mem_append.mp h).elim (fun h => (List.mem_append.mp h).elim (fun h => (List.mem_append.mp h).elim (fun h => in_wsL_law0_r1 w h) (fun h => (List.mem_append.mp h).elim (fun h => in_wsL_law0_r2 w h) (fun h => (List.mem_append.mp h).elim (fun h => in_wsL_law0_r3 w h) (fun h => (List.mem_append.mp h).elim (fun h => in_wsL_law0_r4 w h) (fun h => (List.mem_append.mp h).elim (fun h => in_wsL_law0_r5 w h) (fun h => (List.mem_append.mp h).elim (fun h => in_wsL_law0_r6 w h) (fun h => (List.mem_append.mp h).elim (fun h => in_wsL_law0_r7 w h) (fun h => (List.mem_append.mp h).elim (fun h => in_wsL_law0_r8 w h) (fun h => (List.mem_append.mp h).elim (fun h => in_wsL_law0_r9 w h) (fun h => (List.mem_append.mp h).elim (fun h => in_wsL_law0_r10 w h) (fun h => (List.mem_append.mp h).elim (fun h => in_wsL_law0_r11 w h) (fun h => (List.mem_append.mp h).elim (fun h => in_wsL_law0_r12 w h) (fun h => (List.mem_append.mp h).elim (fun h => in_wsL_law0_r13 w h) (fun h => (List.mem_append.mp h).elim (fun h => in_wsL_law0_r14 w h) (fun h => (List.mem_append.mp h).elim (fun h => in_wsL_law0_r15 w h) (fun h => (List.mem_append.mp h).elim (fun h => in_wsL_law0_r16 w h) (fun h => (List.mem_append.mp h).elim (fun h => in_wsL_law0_r17 w h) (fun h => (List.mem_append.mp h).elim (fun h => in_wsL_law0_r18 w h) (fun h => (List.mem_append.mp h).elim (fun h => in_wsL_law0_r19 w h) (fun h => in_wsL_law0_r20 w h)))))))))))))))))))) (fun h => in_wsX20 w h)) (fun h => in_wsX30 w h)) (fun h => in_wsX10 w h)) (fun h => in_wsX00 w h)) (fun h => absurd h List.not_mem_nil)
end
section
theorem wsL_law_x0 : ∀ w ∈ (vx_atS RX2 38 "java/lang/IllegalArgumentException" ["java/lang/RuntimeException", "java/lang/Exception"]).filter goodWord, w ∈ lw_tbl := by decide +kernel
theorem wsL_law_x1 : ∀ w ∈ (vx_atS RX2 55 "java/lang/IllegalStateException" ["java/lang/RuntimeException", "java/lang/Exception"]).filter goodWord, w ∈ lw_tbl := by decide +kernel
theorem wsL_law_x2 : ∀ w ∈ (vx_atS RX2 71 "java/lang/IndexOutOfBoundsException" ["java/lang/RuntimeException", "java/lang/Exception"]).filter goodWord, w ∈ lw_tbl := by decide +kernel
theorem wsL_law_x3 : ∀ w ∈ xk_nsS.filter goodWord, w ∈ lw_tbl := by decide +kernel
theorem wsL_law_in : ∀ w ∈ wsL_law, w ∈ lw_tbl := fun w h => (List.mem_append.mp h).elim (fun h => (List.mem_append.mp h).elim (fun h => (List.mem_append.mp h).elim (fun h => (List.mem_append.mp h).elim (fun h => wsL_law_in0 w h) (fun h => wsL_law_x0 w h)) (fun h => wsL_law_x1 w h)) (fun h => wsL_law_x2 w h)) (fun h => wsL_law_x3 w h)
theorem inlX0 : ∀ w ∈ wsX00, w ∈ wsL_law := fun _ h => List.mem_append_left _ (List.mem_append_left _ (List.mem_append_left _ (List.mem_append_left _ (List.mem_append_left _ (List.mem_append_right _ h)))))
theorem inX0 : ∀ w ∈ wsX00, w ∈ lw_tbl := fun w h => wsL_law_in w (inlX0 w h)
theorem inlX1 : ∀ w ∈ wsX10, w ∈ wsL_law := fun _ h => List.mem_append_left _ (List.mem_append_left _ (List.mem_append_left _ (List.mem_append_left _ (List.mem_append_left _ (List.mem_append_left _ (List.mem_append_right _ h))))))
theorem inX1 : ∀ w ∈ wsX10, w ∈ lw_tbl := fun w h => wsL_law_in w (inlX1 w h)
theorem inlX2 : ∀ w ∈ wsX20, w ∈ wsL_law := fun _ h => List.mem_append_left _ (List.mem_append_left _ (List.mem_append_left _ (List.mem_append_left _ (List.mem_append_left _ (List.mem_append_left _ (List.mem_append_left _ (List.mem_append_left _ (List.mem_append_right _ h))))))))
theorem inX2 : ∀ w ∈ wsX20, w ∈ lw_tbl := fun w h => wsL_law_in w (inlX2 w h)
theorem inlX3 : ∀ w ∈ wsX30, w ∈ wsL_law := fun _ h => List.mem_append_left _ (List.mem_append_left _ (List.mem_append_left _ (List.mem_append_left _ (List.mem_append_left _ (List.mem_append_left _ (List.mem_append_left _ (List.mem_append_right _ h)))))))
theorem inX3 : ∀ w ∈ wsX30, w ∈ lw_tbl := fun w h => wsL_law_in w (inlX3 w h)
theorem inJx145de : ∀ w ∈ wsJx145de0, w ∈ lw_tbl := by decide +kernel
theorem inJ6 : ∀ w ∈ wsJ60, w ∈ lw_tbl := by decide +kernel
theorem inJ0 : ∀ w ∈ wsJ00, w ∈ lw_tbl := by decide +kernel
theorem inJ7 : ∀ w ∈ wsJ70, w ∈ lw_tbl := by decide +kernel
end
section
set_option maxRecDepth 20000 in
theorem ggX0_init_X0_clear : GoodIn wsX0_init wsX0_clear := goodIn_r _ [15, 5, 6, 7, 8, 9, 10, 16, 17, 18, 19, 20, 21, 22, 23, 24, 25, 26, 27, 28, 29, 30, 31] (by decide +kernel) (by decide +kernel)
set_option maxRecDepth 20000 in
theorem gX0_init_X0_clear : GoodIn wsX0_init (wsV RX0 30 RX0 yX0_clear wsX0_clear) := goodIn_app (goodIn_of _ (by decide +kernel)) ggX0_init_X0_clear
theorem dX0_init_0 : decode cX0_init 0 = .ok (.aload_n 0, 1) := by decide +kernel
theorem dX0_init_1 : decode cX0_init 1 = .ok (.invokespecial 3, 3) := by decide +kernel
theorem dX0_init_4 : decode cX0_init 4 = .ok (.aload_n 0, 1) := by decide +kernel
theorem dX0_init_5 : decode cX0_init 5 = .ok (.bipush 100, 2) := by decide +kernel
theorem dX0_init_7 : decode cX0_init 7 = .ok (.newarray .int, 2) := by decide +kernel
theorem dX0_init_9 : decode cX0_init 9 = .ok (.putfield 9, 3) := by decide +kernel
theorem dX0_init_12 : decode cX0_init 12 = .ok (.aload_n 0, 1) := by decide +kernel
theorem dX0_init_13 : decode cX0_init 13 = .ok (.bipush 60, 2) := by decide +kernel
theorem dX0_init_15 : decode cX0_init 15 = .ok (.newarray .int, 2) := by decide +kernel
theorem dX0_init_17 : decode cX0_init 17 = .ok (.putfield 15, 3) := by decide +kernel
theorem dX0_init_20 : decode cX0_init 20 = .ok (.aload_n 0, 1) := by decide +kernel
theorem dX0_init_21 : decode cX0_init 21 = .ok (.bipush 36, 2) := by decide +kernel
theorem dX0_init_23 : decode cX0_init 23 = .ok (.newarray .int, 2) := by decide +kernel
theorem dX0_init_25 : decode cX0_init 25 = .ok (.putfield 18, 3) := by decide +kernel
theorem dX0_init_28 : decode cX0_init 28 = .ok (.aload_n 0, 1) := by decide +kernel
theorem dX0_init_29 : decode cX0_init 29 = .ok (.bipush 12, 2) := by decide +kernel
theorem dX0_init_31 : decode cX0_init 31 = .ok (.newarray .int, 2) := by decide +kernel
theorem dX0_init_33 : decode cX0_init 33 = .ok (.putfield 21, 3) := by decide +kernel
theorem dX0_init_36 : decode cX0_init 36 = .ok (.aload_n 0, 1) := by decide +kernel
theorem dX0_init_37 : decode cX0_init 37 = .ok (.bipush 12, 2) := by decide +kernel
theorem dX0_init_39 : decode cX0_init 39 = .ok (.newarray .int, 2) := by decide +kernel
theorem dX0_init_41 : decode cX0_init 41 = .ok (.putfield 24, 3) := by decide +kernel
theorem dX0_init_44 : decode cX0_init 44 = .ok (.aload_n 0, 1) := by decide +kernel
theorem dX0_init_45 : decode cX0_init 45 = .ok (.bipush 12, 2) := by decide +kernel
theorem dX0_init_47 : decode cX0_init 47 = .ok (.newarray .int, 2) := by decide +kernel
theorem dX0_init_49 : decode cX0_init 49 = .ok (.putfield 27, 3) := by decide +kernel
theorem dX0_init_52 : decode cX0_init 52 = .ok (.aload_n 0, 1) := by decide +kernel
theorem dX0_init_53 : decode cX0_init 53 = .ok (.invokevirtual 30, 3) := by decide +kernel
theorem dX0_init_56 : decode cX0_init 56 = .ok (.return_, 1) := by decide +kernel
set_option maxRecDepth 20000 in
theorem ggX0_clear_J7_fill_53178 : GoodIn wsX0_clear wsJ7_fill_53178 := goodIn_r _ [13] (by decide +kernel) (by decide +kernel)
set_option maxRecDepth 20000 in
theorem gX0_clear_J7_fill_53178 : GoodIn wsX0_clear (va_wsS RX0 33 yJ7_fill_53178 wsJ7_fill_53178) := goodIn_app (goodIn_of _ (by decide +kernel)) ggX0_clear_J7_fill_53178
theorem dX0_clear_0 : decode cX0_clear 0 = .ok (.aload_n 0, 1) := by decide +kernel
theorem dX0_clear_1 : decode cX0_clear 1 = .ok (.getfield 9, 3) := by decide +kernel
theorem dX0_clear_4 : decode cX0_clear 4 = .ok (.iconst (-1), 1) := by decide +kernel
theorem dX0_clear_5 : decode cX0_clear 5 = .ok (.invokestatic 33, 3) := by decide +kernel
theorem dX0_clear_8 : decode cX0_clear 8 = .ok (.aload_n 0, 1) := by decide +kernel
theorem dX0_clear_9 : decode cX0_clear 9 = .ok (.getfield 15, 3) := by decide +kernel
theorem dX0_clear_12 : decode cX0_clear 12 = .ok (.iconst (-1), 1) := by decide +kernel
theorem dX0_clear_13 : decode cX0_clear 13 = .ok (.invokestatic 33, 3) := by decide +kernel
theorem dX0_clear_16 : decode cX0_clear 16 = .ok (.aload_n 0, 1) := by decide +kernel
theorem dX0_clear_17 : decode cX0_clear 17 = .ok (.getfield 18, 3) := by decide +kernel
theorem dX0_clear_20 : decode cX0_clear 20 = .ok (.iconst (-1), 1) := by decide +kernel
theorem dX0_clear_21 : decode cX0_clear 21 = .ok (.invokestatic 33, 3) := by decide +kernel
theorem dX0_clear_24 : decode cX0_clear 24 = .ok (.aload_n 0, 1) := by decide +kernel
theorem dX0_clear_25 : decode cX0_clear 25 = .ok (.getfield 21, 3) := by decide +kernel
theorem dX0_clear_28 : decode cX0_clear 28 = .ok (.iconst 0, 1) := by decide +kernel
theorem dX0_clear_29 : decode cX0_clear 29 = .ok (.invokestatic 33, 3) := by decide +kernel
theorem dX0_clear_32 : decode cX0_clear 32 = .ok (.aload_n 0, 1) := by decide +kernel
theorem dX0_clear_33 : decode cX0_clear 33 = .ok (.getfield 24, 3) := by decide +kernel
theorem dX0_clear_36 : decode cX0_clear 36 = .ok (.iconst 0, 1) := by decide +kernel
theorem dX0_clear_37 : decode cX0_clear 37 = .ok (.invokestatic 33, 3) := by decide +kernel
theorem dX0_clear_40 : decode cX0_clear 40 = .ok (.aload_n 0, 1) := by decide +kernel
theorem dX0_clear_41 : decode cX0_clear 41 = .ok (.getfield 27, 3) := by decide +kernel
theorem dX0_clear_44 : decode cX0_clear 44 = .ok (.iconst 0, 1) := by decide +kernel
theorem dX0_clear_45 : decode cX0_clear 45 = .ok (.invokestatic 33, 3) := by decide +kernel
theorem dX0_clear_48 : decode cX0_clear 48 = .ok (.aload_n 0, 1) := by decide +kernel
theorem dX0_clear_49 : decode cX0_clear 49 = .ok (.iconst 0, 1) := by decide +kernel
theorem dX0_clear_50 : decode cX0_clear 50 = .ok (.putfield 39, 3) := by decide +kernel
theorem dX0_clear_53 : decode cX0_clear 53 = .ok (.aload_n 0, 1) := by decide +kernel
theorem dX0_clear_54 : decode cX0_clear 54 = .ok (.iconst 0, 1) := by decide +kernel
theorem dX0_clear_55 : decode cX0_clear 55 = .ok (.putfield 43, 3) := by decide +kernel
theorem dX0_clear_58 : decode cX0_clear 58 = .ok (.aload_n 0, 1) := by decide +kernel
theorem dX0_clear_59 : decode cX0_clear 59 = .ok (.iconst (-1), 1) := by decide +kernel
theorem dX0_clear_60 : decode cX0_clear 60 = .ok (.putfield 46, 3) := by decide +kernel
theorem dX0_clear_63 : decode cX0_clear 63 = .ok (.return_, 1) := by decide +kernel
set_option maxRecDepth 20000 in
theorem ggX0_lay_X0_clear : GoodIn wsX0_lay wsX0_clear := goodIn_r _ [5, 6, 7, 8, 9, 10, 11, 12, 13, 14, 15, 16, 17, 18, 62, 63, 64, 65, 66, 67, 68, 69, 70] (by decide +kernel) (by decide +kernel)
set_option maxRecDepth 20000 in
theorem gX0_lay_X0_clear : GoodIn wsX0_lay (wsV RX0 30 RX0 yX0_clear wsX0_clear) := goodIn_app (goodIn_of _ (by decide +kernel)) ggX0_lay_X0_clear
set_option maxRecDepth 20000 in
theorem ggX0_lay_X0_layOn : GoodIn wsX0_lay wsX0_layOn := goodIn_r _ [22, 23, 24, 25, 4, 26, 27, 28, 29, 30, 9, 10, 11, 31, 32, 33, 34, 35, 36, 37, 38, 39, 40, 41, 42, 13, 8, 43, 44, 45, 46, 6, 12, 14, 47, 48, 49, 50, 51, 52, 53, 54, 55, 56, 57, 58, 59, 60, 61, 7, 71, 72, 73, 74, 75, 76, 77, 78, 79, 62, 63, 64, 65, 66, 67, 68, 69, 70] (by decide +kernel) (by decide +kernel)
set_option maxRecDepth 20000 in
theorem gX0_lay_X0_layOn : GoodIn wsX0_lay (wsV RX0 49 RX0 yX0_layOn wsX0_layOn) := goodIn_app (goodIn_of _ (by decide +kernel)) ggX0_lay_X0_layOn
theorem dX0_lay_0 : decode cX0_lay 0 = .ok (.aload_n 0, 1) := by decide +kernel
theorem dX0_lay_1 : decode cX0_lay 1 = .ok (.invokevirtual 30, 3) := by decide +kernel
theorem dX0_lay_4 : decode cX0_lay 4 = .ok (.iconst 0, 1) := by decide +kernel
theorem dX0_lay_5 : decode cX0_lay 5 = .ok (.istore_n 3, 1) := by decide +kernel
theorem dX0_lay_6 : decode cX0_lay 6 = .ok (.iload_n 3, 1) := by decide +kernel
theorem dX0_lay_7 : decode cX0_lay 7 = .ok (.bipush 100, 2) := by decide +kernel
theorem dX0_lay_9 : decode cX0_lay 9 = .ok (.if_icmp .ge 21, 3) := by decide +kernel
theorem dX0_lay_12 : decode cX0_lay 12 = .ok (.aload_n 2, 1) := by decide +kernel
theorem dX0_lay_13 : decode cX0_lay 13 = .ok (.iload_n 3, 1) := by decide +kernel
theorem dX0_lay_14 : decode cX0_lay 14 = .ok (.baload, 1) := by decide +kernel
theorem dX0_lay_15 : decode cX0_lay 15 = .ok (.ifCond .ne 9, 3) := by decide +kernel
theorem dX0_lay_18 : decode cX0_lay 18 = .ok (.aload_n 0, 1) := by decide +kernel
theorem dX0_lay_19 : decode cX0_lay 19 = .ok (.iload_n 3, 1) := by decide +kernel
theorem dX0_lay_20 : decode cX0_lay 20 = .ok (.aload_n 1, 1) := by decide +kernel
theorem dX0_lay_21 : decode cX0_lay 21 = .ok (.invokevirtual 49, 3) := by decide +kernel
theorem dX0_lay_24 : decode cX0_lay 24 = .ok (.iinc 3 1, 3) := by decide +kernel
theorem dX0_lay_27 : decode cX0_lay 27 = .ok (.goto (-21), 3) := by decide +kernel
theorem dX0_lay_30 : decode cX0_lay 30 = .ok (.return_, 1) := by decide +kernel
set_option maxRecDepth 20000 in
theorem ggX0_layOn_X0_mostPressing : GoodIn wsX0_layOn wsX0_mostPressing := goodIn_r _ [5, 6, 7, 8, 4, 9, 10, 11, 12, 13, 14, 15, 16, 17, 18, 19, 20, 50, 51, 52, 53, 54, 55, 56, 57, 58, 59, 60, 61, 62, 63, 64, 65, 66, 67] (by decide +kernel) (by decide +kernel)
set_option maxRecDepth 20000 in
theorem gX0_layOn_X0_mostPressing : GoodIn wsX0_layOn (wsV RX0 53 RX0 yX0_mostPressing wsX0_mostPressing) := goodIn_app (goodIn_of _ (by decide +kernel)) ggX0_layOn_X0_mostPressing
set_option maxRecDepth 20000 in
theorem ggX0_layOn_X0_layRevisit : GoodIn wsX0_layOn wsX0_layRevisit := goodIn_r _ [24, 25, 26, 11, 17, 18, 19, 4, 20, 12, 13, 14, 15, 16, 27, 28, 29, 30, 31, 32, 33, 59, 60, 61, 62, 63, 64, 65, 66, 67, 50, 51, 52, 53, 54, 55, 56, 57, 58] (by decide +kernel) (by decide +kernel)
set_option maxRecDepth 20000 in
theorem gX0_layOn_X0_layRevisit : GoodIn wsX0_layOn (wsV RX0 57 RX0 yX0_layRevisit wsX0_layRevisit) := goodIn_app (goodIn_of _ (by decide +kernel)) ggX0_layOn_X0_layRevisit
set_option maxRecDepth 20000 in
theorem ggX0_layOn_X0_firstUnfinished : GoodIn wsX0_layOn wsX0_firstUnfinished := goodIn_r _ [37, 10, 50, 51, 52, 53, 54, 55, 56, 57, 58, 59, 60, 61, 62, 63, 64, 65, 66, 67] (by decide +kernel) (by decide +kernel)
set_option maxRecDepth 20000 in
theorem gX0_layOn_X0_firstUnfinished : GoodIn wsX0_layOn (wsV RX0 61 RX0 yX0_firstUnfinished wsX0_firstUnfinished) := goodIn_app (goodIn_of _ (by decide +kernel)) ggX0_layOn_X0_firstUnfinished
set_option maxRecDepth 20000 in
theorem ggX0_layOn_X0_isKitTaken : GoodIn wsX0_layOn wsX0_isKitTaken := goodIn_r _ [41, 31, 42, 43, 4, 44, 50, 51, 52, 53, 54, 55, 56, 57, 58, 59, 60, 61, 62, 63, 64, 65, 66, 67] (by decide +kernel) (by decide +kernel)
set_option maxRecDepth 20000 in
theorem gX0_layOn_X0_isKitTaken : GoodIn wsX0_layOn (wsV RX0 65 RX0 yX0_isKitTaken wsX0_isKitTaken) := goodIn_app (goodIn_of _ (by decide +kernel)) ggX0_layOn_X0_isKitTaken
set_option maxRecDepth 20000 in
theorem ggX0_layOn_X0_layLesson : GoodIn wsX0_layOn wsX0_layLesson := goodIn_r _ [48, 49, 10, 27, 28, 29, 4, 30, 31, 12, 32, 33, 59, 60, 61, 62, 63, 64, 65, 66, 67] (by decide +kernel) (by decide +kernel)
set_option maxRecDepth 20000 in
theorem gX0_layOn_X0_layLesson : GoodIn wsX0_layOn (wsV RX0 69 RX0 yX0_layLesson wsX0_layLesson) := goodIn_app (goodIn_of _ (by decide +kernel)) ggX0_layOn_X0_layLesson
theorem dX0_layOn_0 : decode cX0_layOn 0 = .ok (.aload_n 0, 1) := by decide +kernel
theorem dX0_layOn_1 : decode cX0_layOn 1 = .ok (.iload_n 1, 1) := by decide +kernel
theorem dX0_layOn_2 : decode cX0_layOn 2 = .ok (.aload_n 2, 1) := by decide +kernel
theorem dX0_layOn_3 : decode cX0_layOn 3 = .ok (.invokevirtual 53, 3) := by decide +kernel
theorem dX0_layOn_6 : decode cX0_layOn 6 = .ok (.istore_n 3, 1) := by decide +kernel
theorem dX0_layOn_7 : decode cX0_layOn 7 = .ok (.iload_n 3, 1) := by decide +kernel
theorem dX0_layOn_8 : decode cX0_layOn 8 = .ok (.iconst (-1), 1) := by decide +kernel
theorem dX0_layOn_9 : decode cX0_layOn 9 = .ok (.if_icmp .eq 11, 3) := by decide +kernel
theorem dX0_layOn_12 : decode cX0_layOn 12 = .ok (.aload_n 0, 1) := by decide +kernel
theorem dX0_layOn_13 : decode cX0_layOn 13 = .ok (.iload_n 3, 1) := by decide +kernel
theorem dX0_layOn_14 : decode cX0_layOn 14 = .ok (.iload_n 1, 1) := by decide +kernel
theorem dX0_layOn_15 : decode cX0_layOn 15 = .ok (.aload_n 2, 1) := by decide +kernel
theorem dX0_layOn_16 : decode cX0_layOn 16 = .ok (.invokevirtual 57, 3) := by decide +kernel
theorem dX0_layOn_19 : decode cX0_layOn 19 = .ok (.return_, 1) := by decide +kernel
theorem dX0_layOn_20 : decode cX0_layOn 20 = .ok (.aload_n 0, 1) := by decide +kernel
theorem dX0_layOn_21 : decode cX0_layOn 21 = .ok (.aload_n 2, 1) := by decide +kernel
theorem dX0_layOn_22 : decode cX0_layOn 22 = .ok (.invokevirtual 61, 3) := by decide +kernel
theorem dX0_layOn_25 : decode cX0_layOn 25 = .ok (.istore 4, 2) := by decide +kernel
theorem dX0_layOn_27 : decode cX0_layOn 27 = .ok (.iload 4, 2) := by decide +kernel
theorem dX0_layOn_29 : decode cX0_layOn 29 = .ok (.iconst (-1), 1) := by decide +kernel
theorem dX0_layOn_30 : decode cX0_layOn 30 = .ok (.if_icmp .eq 21, 3) := by decide +kernel
theorem dX0_layOn_33 : decode cX0_layOn 33 = .ok (.aload_n 0, 1) := by decide +kernel
theorem dX0_layOn_34 : decode cX0_layOn 34 = .ok (.iload 4, 2) := by decide +kernel
theorem dX0_layOn_36 : decode cX0_layOn 36 = .ok (.iload_n 1, 1) := by decide +kernel
theorem dX0_layOn_37 : decode cX0_layOn 37 = .ok (.aload_n 2, 1) := by decide +kernel
theorem dX0_layOn_38 : decode cX0_layOn 38 = .ok (.invokevirtual 65, 3) := by decide +kernel
theorem dX0_layOn_41 : decode cX0_layOn 41 = .ok (.ifCond .ne 10, 3) := by decide +kernel
theorem dX0_layOn_44 : decode cX0_layOn 44 = .ok (.aload_n 0, 1) := by decide +kernel
theorem dX0_layOn_45 : decode cX0_layOn 45 = .ok (.iload 4, 2) := by decide +kernel
theorem dX0_layOn_47 : decode cX0_layOn 47 = .ok (.iload_n 1, 1) := by decide +kernel
theorem dX0_layOn_48 : decode cX0_layOn 48 = .ok (.invokevirtual 69, 3) := by decide +kernel
theorem dX0_layOn_51 : decode cX0_layOn 51 = .ok (.return_, 1) := by decide +kernel
set_option maxRecDepth 20000 in
theorem ggX0_mostPressing_X0_isDue : GoodIn wsX0_mostPressing wsX0_isDue := goodIn_r _ [5, 6, 7, 8, 9, 10, 11, 4, 12, 26, 27, 28, 29, 30, 31, 32, 33, 34, 17, 18, 19, 20, 21, 22, 23, 24, 25] (by decide +kernel) (by decide +kernel)
set_option maxRecDepth 20000 in
theorem gX0_mostPressing_X0_isDue : GoodIn wsX0_mostPressing (wsV RX0 78 RX0 yX0_isDue wsX0_isDue) := goodIn_app (goodIn_of _ (by decide +kernel)) ggX0_mostPressing_X0_isDue
set_option maxRecDepth 20000 in
theorem ggX0_mostPressing_X0_lateFrom : GoodIn wsX0_mostPressing wsX0_lateFrom := goodIn_r _ [16, 8, 9, 10, 11, 4, 12, 7, 26, 27, 28, 29, 30, 31, 32, 33, 34, 17, 18, 19, 20, 21, 22, 23, 24, 25] (by decide +kernel) (by decide +kernel)
set_option maxRecDepth 20000 in
theorem gX0_mostPressing_X0_lateFrom : GoodIn wsX0_mostPressing (wsV RX0 81 RX0 yX0_lateFrom wsX0_lateFrom) := goodIn_app (goodIn_of _ (by decide +kernel)) ggX0_mostPressing_X0_lateFrom
theorem dX0_mostPressing_0 : decode cX0_mostPressing 0 = .ok (.iconst (-1), 1) := by decide +kernel
theorem dX0_mostPressing_1 : decode cX0_mostPressing 1 = .ok (.istore_n 3, 1) := by decide +kernel
theorem dX0_mostPressing_2 : decode cX0_mostPressing 2 = .ok (.iconst 0, 1) := by decide +kernel
theorem dX0_mostPressing_3 : decode cX0_mostPressing 3 = .ok (.istore 4, 2) := by decide +kernel
theorem dX0_mostPressing_5 : decode cX0_mostPressing 5 = .ok (.iconst 0, 1) := by decide +kernel
theorem dX0_mostPressing_6 : decode cX0_mostPressing 6 = .ok (.istore 5, 2) := by decide +kernel
theorem dX0_mostPressing_8 : decode cX0_mostPressing 8 = .ok (.iload 5, 2) := by decide +kernel
theorem dX0_mostPressing_10 : decode cX0_mostPressing 10 = .ok (.aload_n 2, 1) := by decide +kernel
theorem dX0_mostPressing_11 : decode cX0_mostPressing 11 = .ok (.getfield 73, 3) := by decide +kernel
theorem dX0_mostPressing_14 : decode cX0_mostPressing 14 = .ok (.if_icmp .ge 51, 3) := by decide +kernel
theorem dX0_mostPressing_17 : decode cX0_mostPressing 17 = .ok (.aload_n 0, 1) := by decide +kernel
theorem dX0_mostPressing_18 : decode cX0_mostPressing 18 = .ok (.iload 5, 2) := by decide +kernel
theorem dX0_mostPressing_20 : decode cX0_mostPressing 20 = .ok (.iload_n 1, 1) := by decide +kernel
theorem dX0_mostPressing_21 : decode cX0_mostPressing 21 = .ok (.aload_n 2, 1) := by decide +kernel
theorem dX0_mostPressing_22 : decode cX0_mostPressing 22 = .ok (.invokevirtual 78, 3) := by decide +kernel
theorem dX0_mostPressing_25 : decode cX0_mostPressing 25 = .ok (.ifCond .ne 6, 3) := by decide +kernel
theorem dX0_mostPressing_28 : decode cX0_mostPressing 28 = .ok (.goto 31, 3) := by decide +kernel
theorem dX0_mostPressing_31 : decode cX0_mostPressing 31 = .ok (.aload_n 0, 1) := by decide +kernel
theorem dX0_mostPressing_32 : decode cX0_mostPressing 32 = .ok (.iload 5, 2) := by decide +kernel
theorem dX0_mostPressing_34 : decode cX0_mostPressing 34 = .ok (.aload_n 2, 1) := by decide +kernel
theorem dX0_mostPressing_35 : decode cX0_mostPressing 35 = .ok (.invokevirtual 81, 3) := by decide +kernel
theorem dX0_mostPressing_38 : decode cX0_mostPressing 38 = .ok (.istore 6, 2) := by decide +kernel
theorem dX0_mostPressing_40 : decode cX0_mostPressing 40 = .ok (.iload_n 3, 1) := by decide +kernel
theorem dX0_mostPressing_41 : decode cX0_mostPressing 41 = .ok (.iconst (-1), 1) := by decide +kernel
theorem dX0_mostPressing_42 : decode cX0_mostPressing 42 = .ok (.if_icmp .eq 10, 3) := by decide +kernel
theorem dX0_mostPressing_45 : decode cX0_mostPressing 45 = .ok (.iload 6, 2) := by decide +kernel
theorem dX0_mostPressing_47 : decode cX0_mostPressing 47 = .ok (.iload 4, 2) := by decide +kernel
theorem dX0_mostPressing_49 : decode cX0_mostPressing 49 = .ok (.if_icmp .ge 10, 3) := by decide +kernel
theorem dX0_mostPressing_52 : decode cX0_mostPressing 52 = .ok (.iload 5, 2) := by decide +kernel
theorem dX0_mostPressing_54 : decode cX0_mostPressing 54 = .ok (.istore_n 3, 1) := by decide +kernel
theorem dX0_mostPressing_55 : decode cX0_mostPressing 55 = .ok (.iload 6, 2) := by decide +kernel
theorem dX0_mostPressing_57 : decode cX0_mostPressing 57 = .ok (.istore 4, 2) := by decide +kernel
theorem dX0_mostPressing_59 : decode cX0_mostPressing 59 = .ok (.iinc 5 1, 3) := by decide +kernel
theorem dX0_mostPressing_62 : decode cX0_mostPressing 62 = .ok (.goto (-54), 3) := by decide +kernel
theorem dX0_mostPressing_65 : decode cX0_mostPressing 65 = .ok (.iload_n 3, 1) := by decide +kernel
theorem dX0_mostPressing_66 : decode cX0_mostPressing 66 = .ok (.ireturn, 1) := by decide +kernel
set_option maxRecDepth 20000 in
theorem ggX0_isDue_X0_nextGap : GoodIn wsX0_isDue wsX0_nextGap := goodIn_r _ [8, 2, 18, 19, 20, 21, 22, 23, 24, 25, 26, 9, 10, 11, 12, 13, 14, 15, 16, 17] (by decide +kernel) (by decide +kernel)
set_option maxRecDepth 20000 in
theorem gX0_isDue_X0_nextGap : GoodIn wsX0_isDue (wsV RX0 90 RX0 yX0_nextGap wsX0_nextGap) := goodIn_app (goodIn_of _ (by decide +kernel)) ggX0_isDue_X0_nextGap
theorem dX0_isDue_0 : decode cX0_isDue 0 = .ok (.aload_n 0, 1) := by decide +kernel
theorem dX0_isDue_1 : decode cX0_isDue 1 = .ok (.getfield 21, 3) := by decide +kernel
theorem dX0_isDue_4 : decode cX0_isDue 4 = .ok (.iload_n 1, 1) := by decide +kernel
theorem dX0_isDue_5 : decode cX0_isDue 5 = .ok (.iaload, 1) := by decide +kernel
theorem dX0_isDue_6 : decode cX0_isDue 6 = .ok (.aload_n 3, 1) := by decide +kernel
theorem dX0_isDue_7 : decode cX0_isDue 7 = .ok (.getfield 84, 3) := by decide +kernel
theorem dX0_isDue_10 : decode cX0_isDue 10 = .ok (.iload_n 1, 1) := by decide +kernel
theorem dX0_isDue_11 : decode cX0_isDue 11 = .ok (.iaload, 1) := by decide +kernel
theorem dX0_isDue_12 : decode cX0_isDue 12 = .ok (.if_icmp .lt 39, 3) := by decide +kernel
theorem dX0_isDue_15 : decode cX0_isDue 15 = .ok (.aload_n 0, 1) := by decide +kernel
theorem dX0_isDue_16 : decode cX0_isDue 16 = .ok (.getfield 24, 3) := by decide +kernel
theorem dX0_isDue_19 : decode cX0_isDue 19 = .ok (.iload_n 1, 1) := by decide +kernel
theorem dX0_isDue_20 : decode cX0_isDue 20 = .ok (.iaload, 1) := by decide +kernel
theorem dX0_isDue_21 : decode cX0_isDue 21 = .ok (.aload_n 3, 1) := by decide +kernel
theorem dX0_isDue_22 : decode cX0_isDue 22 = .ok (.getfield 87, 3) := by decide +kernel
theorem dX0_isDue_25 : decode cX0_isDue 25 = .ok (.iload_n 1, 1) := by decide +kernel
theorem dX0_isDue_26 : decode cX0_isDue 26 = .ok (.iaload, 1) := by decide +kernel
theorem dX0_isDue_27 : decode cX0_isDue 27 = .ok (.if_icmp .ge 24, 3) := by decide +kernel
theorem dX0_isDue_30 : decode cX0_isDue 30 = .ok (.iload_n 2, 1) := by decide +kernel
theorem dX0_isDue_31 : decode cX0_isDue 31 = .ok (.aload_n 0, 1) := by decide +kernel
theorem dX0_isDue_32 : decode cX0_isDue 32 = .ok (.getfield 27, 3) := by decide +kernel
theorem dX0_isDue_35 : decode cX0_isDue 35 = .ok (.iload_n 1, 1) := by decide +kernel
theorem dX0_isDue_36 : decode cX0_isDue 36 = .ok (.iaload, 1) := by decide +kernel
theorem dX0_isDue_37 : decode cX0_isDue 37 = .ok (.aload_n 0, 1) := by decide +kernel
theorem dX0_isDue_38 : decode cX0_isDue 38 = .ok (.iload_n 1, 1) := by decide +kernel
theorem dX0_isDue_39 : decode cX0_isDue 39 = .ok (.aload_n 3, 1) := by decide +kernel
theorem dX0_isDue_40 : decode cX0_isDue 40 = .ok (.invokevirtual 90, 3) := by decide +kernel
theorem dX0_isDue_43 : decode cX0_isDue 43 = .ok (.iadd, 1) := by decide +kernel
theorem dX0_isDue_44 : decode cX0_isDue 44 = .ok (.if_icmp .lt 7, 3) := by decide +kernel
theorem dX0_isDue_47 : decode cX0_isDue 47 = .ok (.iconst 1, 1) := by decide +kernel
theorem dX0_isDue_48 : decode cX0_isDue 48 = .ok (.goto 4, 3) := by decide +kernel
theorem dX0_isDue_51 : decode cX0_isDue 51 = .ok (.iconst 0, 1) := by decide +kernel
theorem dX0_isDue_52 : decode cX0_isDue 52 = .ok (.ireturn, 1) := by decide +kernel
set_option maxRecDepth 20000 in
theorem ggX0_lateFrom_X0_nextGap : GoodIn wsX0_lateFrom wsX0_nextGap := goodIn_r _ [6, 7, 17, 18, 19, 20, 21, 22, 23, 24, 25, 8, 9, 10, 11, 12, 13, 14, 15, 16] (by decide +kernel) (by decide +kernel)
set_option maxRecDepth 20000 in
theorem gX0_lateFrom_X0_nextGap : GoodIn wsX0_lateFrom (wsV RX0 90 RX0 yX0_nextGap wsX0_nextGap) := goodIn_app (goodIn_of _ (by decide +kernel)) ggX0_lateFrom_X0_nextGap
theorem dX0_lateFrom_0 : decode cX0_lateFrom 0 = .ok (.aload_n 0, 1) := by decide +kernel
theorem dX0_lateFrom_1 : decode cX0_lateFrom 1 = .ok (.getfield 27, 3) := by decide +kernel
theorem dX0_lateFrom_4 : decode cX0_lateFrom 4 = .ok (.iload_n 1, 1) := by decide +kernel
theorem dX0_lateFrom_5 : decode cX0_lateFrom 5 = .ok (.iaload, 1) := by decide +kernel
theorem dX0_lateFrom_6 : decode cX0_lateFrom 6 = .ok (.iconst 2, 1) := by decide +kernel
theorem dX0_lateFrom_7 : decode cX0_lateFrom 7 = .ok (.aload_n 0, 1) := by decide +kernel
theorem dX0_lateFrom_8 : decode cX0_lateFrom 8 = .ok (.iload_n 1, 1) := by decide +kernel
theorem dX0_lateFrom_9 : decode cX0_lateFrom 9 = .ok (.aload_n 2, 1) := by decide +kernel
theorem dX0_lateFrom_10 : decode cX0_lateFrom 10 = .ok (.invokevirtual 90, 3) := by decide +kernel
theorem dX0_lateFrom_13 : decode cX0_lateFrom 13 = .ok (.imul, 1) := by decide +kernel
theorem dX0_lateFrom_14 : decode cX0_lateFrom 14 = .ok (.iadd, 1) := by decide +kernel
theorem dX0_lateFrom_15 : decode cX0_lateFrom 15 = .ok (.ireturn, 1) := by decide +kernel
theorem dX0_nextGap_0 : decode cX0_nextGap 0 = .ok (.aload_n 2, 1) := by decide +kernel
theorem dX0_nextGap_1 : decode cX0_nextGap 1 = .ok (.getfield 93, 3) := by decide +kernel
theorem dX0_nextGap_4 : decode cX0_nextGap 4 = .ok (.iload_n 1, 1) := by decide +kernel
theorem dX0_nextGap_5 : decode cX0_nextGap 5 = .ok (.iaload, 1) := by decide +kernel
theorem dX0_nextGap_6 : decode cX0_nextGap 6 = .ok (.aload_n 0, 1) := by decide +kernel
theorem dX0_nextGap_7 : decode cX0_nextGap 7 = .ok (.getfield 24, 3) := by decide +kernel
theorem dX0_nextGap_10 : decode cX0_nextGap 10 = .ok (.iload_n 1, 1) := by decide +kernel
theorem dX0_nextGap_11 : decode cX0_nextGap 11 = .ok (.iaload, 1) := by decide +kernel
theorem dX0_nextGap_12 : decode cX0_nextGap 12 = .ok (.ishl, 1) := by decide +kernel
theorem dX0_nextGap_13 : decode cX0_nextGap 13 = .ok (.ireturn, 1) := by decide +kernel
theorem dX0_firstUnfinished_0 : decode cX0_firstUnfinished 0 = .ok (.iconst 0, 1) := by decide +kernel
theorem dX0_firstUnfinished_1 : decode cX0_firstUnfinished 1 = .ok (.istore_n 2, 1) := by decide +kernel
theorem dX0_firstUnfinished_2 : decode cX0_firstUnfinished 2 = .ok (.iload_n 2, 1) := by decide +kernel
theorem dX0_firstUnfinished_3 : decode cX0_firstUnfinished 3 = .ok (.aload_n 1, 1) := by decide +kernel
theorem dX0_firstUnfinished_4 : decode cX0_firstUnfinished 4 = .ok (.getfield 73, 3) := by decide +kernel
theorem dX0_firstUnfinished_7 : decode cX0_firstUnfinished 7 = .ok (.if_icmp .ge 33, 3) := by decide +kernel
theorem dX0_firstUnfinished_10 : decode cX0_firstUnfinished 10 = .ok (.aload_n 1, 1) := by decide +kernel
theorem dX0_firstUnfinished_11 : decode cX0_firstUnfinished 11 = .ok (.getfield 96, 3) := by decide +kernel
theorem dX0_firstUnfinished_14 : decode cX0_firstUnfinished 14 = .ok (.iload_n 2, 1) := by decide +kernel
theorem dX0_firstUnfinished_15 : decode cX0_firstUnfinished 15 = .ok (.iaload, 1) := by decide +kernel
theorem dX0_firstUnfinished_16 : decode cX0_firstUnfinished 16 = .ok (.istore_n 3, 1) := by decide +kernel
theorem dX0_firstUnfinished_17 : decode cX0_firstUnfinished 17 = .ok (.aload_n 0, 1) := by decide +kernel
theorem dX0_firstUnfinished_18 : decode cX0_firstUnfinished 18 = .ok (.getfield 21, 3) := by decide +kernel
theorem dX0_firstUnfinished_21 : decode cX0_firstUnfinished 21 = .ok (.iload_n 3, 1) := by decide +kernel
theorem dX0_firstUnfinished_22 : decode cX0_firstUnfinished 22 = .ok (.iaload, 1) := by decide +kernel
theorem dX0_firstUnfinished_23 : decode cX0_firstUnfinished 23 = .ok (.aload_n 1, 1) := by decide +kernel
theorem dX0_firstUnfinished_24 : decode cX0_firstUnfinished 24 = .ok (.getfield 84, 3) := by decide +kernel
theorem dX0_firstUnfinished_27 : decode cX0_firstUnfinished 27 = .ok (.iload_n 3, 1) := by decide +kernel
theorem dX0_firstUnfinished_28 : decode cX0_firstUnfinished 28 = .ok (.iaload, 1) := by decide +kernel
theorem dX0_firstUnfinished_29 : decode cX0_firstUnfinished 29 = .ok (.if_icmp .ge 5, 3) := by decide +kernel
theorem dX0_firstUnfinished_32 : decode cX0_firstUnfinished 32 = .ok (.iload_n 3, 1) := by decide +kernel
theorem dX0_firstUnfinished_33 : decode cX0_firstUnfinished 33 = .ok (.ireturn, 1) := by decide +kernel
theorem dX0_firstUnfinished_34 : decode cX0_firstUnfinished 34 = .ok (.iinc 2 1, 3) := by decide +kernel
theorem dX0_firstUnfinished_37 : decode cX0_firstUnfinished 37 = .ok (.goto (-35), 3) := by decide +kernel
theorem dX0_firstUnfinished_40 : decode cX0_firstUnfinished 40 = .ok (.iconst (-1), 1) := by decide +kernel
theorem dX0_firstUnfinished_41 : decode cX0_firstUnfinished 41 = .ok (.ireturn, 1) := by decide +kernel
set_option maxRecDepth 20000 in
theorem ggX0_isKitTaken_X0_isOthersLesson : GoodIn wsX0_isKitTaken wsX0_isOthersLesson := goodIn_r _ [5, 6, 7, 8, 9, 10, 11, 12, 13, 14] (by decide +kernel) (by decide +kernel)
set_option maxRecDepth 20000 in
theorem gX0_isKitTaken_X0_isOthersLesson : GoodIn wsX0_isKitTaken (va_wsS RX0 102 yX0_isOthersLesson wsX0_isOthersLesson) := goodIn_app (goodIn_of _ (by decide +kernel)) ggX0_isKitTaken_X0_isOthersLesson
theorem dX0_isKitTaken_0 : decode cX0_isKitTaken 0 = .ok (.aload_n 3, 1) := by decide +kernel
theorem dX0_isKitTaken_1 : decode cX0_isKitTaken 1 = .ok (.getfield 99, 3) := by decide +kernel
theorem dX0_isKitTaken_4 : decode cX0_isKitTaken 4 = .ok (.iload_n 1, 1) := by decide +kernel
theorem dX0_isKitTaken_5 : decode cX0_isKitTaken 5 = .ok (.iaload, 1) := by decide +kernel
theorem dX0_isKitTaken_6 : decode cX0_isKitTaken 6 = .ok (.iconst (-1), 1) := by decide +kernel
theorem dX0_isKitTaken_7 : decode cX0_isKitTaken 7 = .ok (.if_icmp .ne 5, 3) := by decide +kernel
theorem dX0_isKitTaken_10 : decode cX0_isKitTaken 10 = .ok (.iconst 0, 1) := by decide +kernel
theorem dX0_isKitTaken_11 : decode cX0_isKitTaken 11 = .ok (.ireturn, 1) := by decide +kernel
theorem dX0_isKitTaken_12 : decode cX0_isKitTaken 12 = .ok (.iload_n 2, 1) := by decide +kernel
theorem dX0_isKitTaken_13 : decode cX0_isKitTaken 13 = .ok (.iconst 2, 1) := by decide +kernel
theorem dX0_isKitTaken_14 : decode cX0_isKitTaken 14 = .ok (.isub, 1) := by decide +kernel
theorem dX0_isKitTaken_15 : decode cX0_isKitTaken 15 = .ok (.istore 4, 2) := by decide +kernel
theorem dX0_isKitTaken_17 : decode cX0_isKitTaken 17 = .ok (.iload 4, 2) := by decide +kernel
theorem dX0_isKitTaken_19 : decode cX0_isKitTaken 19 = .ok (.iload_n 2, 1) := by decide +kernel
theorem dX0_isKitTaken_20 : decode cX0_isKitTaken 20 = .ok (.if_icmp .ge 52, 3) := by decide +kernel
theorem dX0_isKitTaken_23 : decode cX0_isKitTaken 23 = .ok (.iload 4, 2) := by decide +kernel
theorem dX0_isKitTaken_25 : decode cX0_isKitTaken 25 = .ok (.ifCond .lt 41, 3) := by decide +kernel
theorem dX0_isKitTaken_28 : decode cX0_isKitTaken 28 = .ok (.aload_n 0, 1) := by decide +kernel
theorem dX0_isKitTaken_29 : decode cX0_isKitTaken 29 = .ok (.getfield 9, 3) := by decide +kernel
theorem dX0_isKitTaken_32 : decode cX0_isKitTaken 32 = .ok (.iload 4, 2) := by decide +kernel
theorem dX0_isKitTaken_34 : decode cX0_isKitTaken 34 = .ok (.iaload, 1) := by decide +kernel
theorem dX0_isKitTaken_35 : decode cX0_isKitTaken 35 = .ok (.iload_n 1, 1) := by decide +kernel
theorem dX0_isKitTaken_36 : decode cX0_isKitTaken 36 = .ok (.aload_n 3, 1) := by decide +kernel
theorem dX0_isKitTaken_37 : decode cX0_isKitTaken 37 = .ok (.invokestatic 102, 3) := by decide +kernel
theorem dX0_isKitTaken_40 : decode cX0_isKitTaken 40 = .ok (.ifCond .eq 26, 3) := by decide +kernel
theorem dX0_isKitTaken_43 : decode cX0_isKitTaken 43 = .ok (.aload_n 3, 1) := by decide +kernel
theorem dX0_isKitTaken_44 : decode cX0_isKitTaken 44 = .ok (.getfield 99, 3) := by decide +kernel
theorem dX0_isKitTaken_47 : decode cX0_isKitTaken 47 = .ok (.aload_n 0, 1) := by decide +kernel
theorem dX0_isKitTaken_48 : decode cX0_isKitTaken 48 = .ok (.getfield 9, 3) := by decide +kernel
theorem dX0_isKitTaken_51 : decode cX0_isKitTaken 51 = .ok (.iload 4, 2) := by decide +kernel
theorem dX0_isKitTaken_53 : decode cX0_isKitTaken 53 = .ok (.iaload, 1) := by decide +kernel
theorem dX0_isKitTaken_54 : decode cX0_isKitTaken 54 = .ok (.iaload, 1) := by decide +kernel
theorem dX0_isKitTaken_55 : decode cX0_isKitTaken 55 = .ok (.aload_n 3, 1) := by decide +kernel
theorem dX0_isKitTaken_56 : decode cX0_isKitTaken 56 = .ok (.getfield 99, 3) := by decide +kernel
theorem dX0_isKitTaken_59 : decode cX0_isKitTaken 59 = .ok (.iload_n 1, 1) := by decide +kernel
theorem dX0_isKitTaken_60 : decode cX0_isKitTaken 60 = .ok (.iaload, 1) := by decide +kernel
theorem dX0_isKitTaken_61 : decode cX0_isKitTaken 61 = .ok (.if_icmp .ne 5, 3) := by decide +kernel
theorem dX0_isKitTaken_64 : decode cX0_isKitTaken 64 = .ok (.iconst 1, 1) := by decide +kernel
theorem dX0_isKitTaken_65 : decode cX0_isKitTaken 65 = .ok (.ireturn, 1) := by decide +kernel
theorem dX0_isKitTaken_66 : decode cX0_isKitTaken 66 = .ok (.iinc 4 1, 3) := by decide +kernel
theorem dX0_isKitTaken_69 : decode cX0_isKitTaken 69 = .ok (.goto (-52), 3) := by decide +kernel
theorem dX0_isKitTaken_72 : decode cX0_isKitTaken 72 = .ok (.iconst 0, 1) := by decide +kernel
theorem dX0_isKitTaken_73 : decode cX0_isKitTaken 73 = .ok (.ireturn, 1) := by decide +kernel
theorem dX0_isOthersLesson_0 : decode cX0_isOthersLesson 0 = .ok (.iload_n 0, 1) := by decide +kernel
theorem dX0_isOthersLesson_1 : decode cX0_isOthersLesson 1 = .ok (.ifCond .lt 20, 3) := by decide +kernel
theorem dX0_isOthersLesson_4 : decode cX0_isOthersLesson 4 = .ok (.iload_n 0, 1) := by decide +kernel
theorem dX0_isOthersLesson_5 : decode cX0_isOthersLesson 5 = .ok (.aload_n 2, 1) := by decide +kernel
theorem dX0_isOthersLesson_6 : decode cX0_isOthersLesson 6 = .ok (.getfield 73, 3) := by decide +kernel
theorem dX0_isOthersLesson_9 : decode cX0_isOthersLesson 9 = .ok (.if_icmp .ge 12, 3) := by decide +kernel
theorem dX0_isOthersLesson_12 : decode cX0_isOthersLesson 12 = .ok (.iload_n 0, 1) := by decide +kernel
theorem dX0_isOthersLesson_13 : decode cX0_isOthersLesson 13 = .ok (.iload_n 1, 1) := by decide +kernel
theorem dX0_isOthersLesson_14 : decode cX0_isOthersLesson 14 = .ok (.if_icmp .eq 7, 3) := by decide +kernel
theorem dX0_isOthersLesson_17 : decode cX0_isOthersLesson 17 = .ok (.iconst 1, 1) := by decide +kernel
theorem dX0_isOthersLesson_18 : decode cX0_isOthersLesson 18 = .ok (.goto 4, 3) := by decide +kernel
theorem dX0_isOthersLesson_21 : decode cX0_isOthersLesson 21 = .ok (.iconst 0, 1) := by decide +kernel
theorem dX0_isOthersLesson_22 : decode cX0_isOthersLesson 22 = .ok (.ireturn, 1) := by decide +kernel
set_option maxRecDepth 20000 in
theorem ggX0_layLesson_X0_use : GoodIn wsX0_layLesson wsX0_use := goodIn_r _ [7, 8, 9, 10, 11, 12, 13, 14, 15, 16, 17, 18, 19, 20] (by decide +kernel) (by decide +kernel)
set_option maxRecDepth 20000 in
theorem gX0_layLesson_X0_use : GoodIn wsX0_layLesson (wsV RX0 105 RX0 yX0_use wsX0_use) := goodIn_app (goodIn_of _ (by decide +kernel)) ggX0_layLesson_X0_use
theorem dX0_layLesson_0 : decode cX0_layLesson 0 = .ok (.aload_n 0, 1) := by decide +kernel
theorem dX0_layLesson_1 : decode cX0_layLesson 1 = .ok (.getfield 15, 3) := by decide +kernel
theorem dX0_layLesson_4 : decode cX0_layLesson 4 = .ok (.iload_n 1, 1) := by decide +kernel
theorem dX0_layLesson_5 : decode cX0_layLesson 5 = .ok (.iconst 5, 1) := by decide +kernel
theorem dX0_layLesson_6 : decode cX0_layLesson 6 = .ok (.imul, 1) := by decide +kernel
theorem dX0_layLesson_7 : decode cX0_layLesson 7 = .ok (.aload_n 0, 1) := by decide +kernel
theorem dX0_layLesson_8 : decode cX0_layLesson 8 = .ok (.getfield 21, 3) := by decide +kernel
theorem dX0_layLesson_11 : decode cX0_layLesson 11 = .ok (.iload_n 1, 1) := by decide +kernel
theorem dX0_layLesson_12 : decode cX0_layLesson 12 = .ok (.iaload, 1) := by decide +kernel
theorem dX0_layLesson_13 : decode cX0_layLesson 13 = .ok (.iadd, 1) := by decide +kernel
theorem dX0_layLesson_14 : decode cX0_layLesson 14 = .ok (.iload_n 2, 1) := by decide +kernel
theorem dX0_layLesson_15 : decode cX0_layLesson 15 = .ok (.iastore, 1) := by decide +kernel
theorem dX0_layLesson_16 : decode cX0_layLesson 16 = .ok (.aload_n 0, 1) := by decide +kernel
theorem dX0_layLesson_17 : decode cX0_layLesson 17 = .ok (.getfield 21, 3) := by decide +kernel
theorem dX0_layLesson_20 : decode cX0_layLesson 20 = .ok (.iload_n 1, 1) := by decide +kernel
theorem dX0_layLesson_21 : decode cX0_layLesson 21 = .ok (.dup2, 1) := by decide +kernel
theorem dX0_layLesson_22 : decode cX0_layLesson 22 = .ok (.iaload, 1) := by decide +kernel
theorem dX0_layLesson_23 : decode cX0_layLesson 23 = .ok (.iconst 1, 1) := by decide +kernel
theorem dX0_layLesson_24 : decode cX0_layLesson 24 = .ok (.iadd, 1) := by decide +kernel
theorem dX0_layLesson_25 : decode cX0_layLesson 25 = .ok (.iastore, 1) := by decide +kernel
theorem dX0_layLesson_26 : decode cX0_layLesson 26 = .ok (.aload_n 0, 1) := by decide +kernel
theorem dX0_layLesson_27 : decode cX0_layLesson 27 = .ok (.iload_n 2, 1) := by decide +kernel
theorem dX0_layLesson_28 : decode cX0_layLesson 28 = .ok (.iload_n 1, 1) := by decide +kernel
theorem dX0_layLesson_29 : decode cX0_layLesson 29 = .ok (.iload_n 1, 1) := by decide +kernel
theorem dX0_layLesson_30 : decode cX0_layLesson 30 = .ok (.invokevirtual 105, 3) := by decide +kernel
theorem dX0_layLesson_33 : decode cX0_layLesson 33 = .ok (.return_, 1) := by decide +kernel
set_option maxRecDepth 20000 in
theorem ggX0_layRevisit_X0_lateFrom : GoodIn wsX0_layRevisit wsX0_lateFrom := goodIn_r _ [8, 9, 10, 11, 12, 7, 13, 3, 21, 22, 23, 24, 25, 26, 27, 28, 29, 30, 31, 32, 33, 34, 35, 36, 37, 38] (by decide +kernel) (by decide +kernel)
set_option maxRecDepth 20000 in
theorem gX0_layRevisit_X0_lateFrom : GoodIn wsX0_layRevisit (wsV RX0 81 RX0 yX0_lateFrom wsX0_lateFrom) := goodIn_app (goodIn_of _ (by decide +kernel)) ggX0_layRevisit_X0_lateFrom
set_option maxRecDepth 20000 in
theorem ggX0_layRevisit_X0_use : GoodIn wsX0_layRevisit wsX0_use := goodIn_r _ [17, 18, 9, 19, 20, 21, 22, 23, 24, 25, 26, 27, 28, 29] (by decide +kernel) (by decide +kernel)
set_option maxRecDepth 20000 in
theorem gX0_layRevisit_X0_use : GoodIn wsX0_layRevisit (wsV RX0 105 RX0 yX0_use wsX0_use) := goodIn_app (goodIn_of _ (by decide +kernel)) ggX0_layRevisit_X0_use
theorem dX0_layRevisit_0 : decode cX0_layRevisit 0 = .ok (.iload_n 2, 1) := by decide +kernel
theorem dX0_layRevisit_1 : decode cX0_layRevisit 1 = .ok (.aload_n 0, 1) := by decide +kernel
theorem dX0_layRevisit_2 : decode cX0_layRevisit 2 = .ok (.iload_n 1, 1) := by decide +kernel
theorem dX0_layRevisit_3 : decode cX0_layRevisit 3 = .ok (.aload_n 3, 1) := by decide +kernel
theorem dX0_layRevisit_4 : decode cX0_layRevisit 4 = .ok (.invokevirtual 81, 3) := by decide +kernel
theorem dX0_layRevisit_7 : decode cX0_layRevisit 7 = .ok (.if_icmp .lt 13, 3) := by decide +kernel
theorem dX0_layRevisit_10 : decode cX0_layRevisit 10 = .ok (.aload_n 0, 1) := by decide +kernel
theorem dX0_layRevisit_11 : decode cX0_layRevisit 11 = .ok (.dup, 1) := by decide +kernel
theorem dX0_layRevisit_12 : decode cX0_layRevisit 12 = .ok (.getfield 43, 3) := by decide +kernel
theorem dX0_layRevisit_15 : decode cX0_layRevisit 15 = .ok (.iconst 1, 1) := by decide +kernel
theorem dX0_layRevisit_16 : decode cX0_layRevisit 16 = .ok (.iadd, 1) := by decide +kernel
theorem dX0_layRevisit_17 : decode cX0_layRevisit 17 = .ok (.putfield 43, 3) := by decide +kernel
theorem dX0_layRevisit_20 : decode cX0_layRevisit 20 = .ok (.aload_n 0, 1) := by decide +kernel
theorem dX0_layRevisit_21 : decode cX0_layRevisit 21 = .ok (.getfield 18, 3) := by decide +kernel
theorem dX0_layRevisit_24 : decode cX0_layRevisit 24 = .ok (.iload_n 1, 1) := by decide +kernel
theorem dX0_layRevisit_25 : decode cX0_layRevisit 25 = .ok (.iconst 3, 1) := by decide +kernel
theorem dX0_layRevisit_26 : decode cX0_layRevisit 26 = .ok (.imul, 1) := by decide +kernel
theorem dX0_layRevisit_27 : decode cX0_layRevisit 27 = .ok (.aload_n 0, 1) := by decide +kernel
theorem dX0_layRevisit_28 : decode cX0_layRevisit 28 = .ok (.getfield 24, 3) := by decide +kernel
theorem dX0_layRevisit_31 : decode cX0_layRevisit 31 = .ok (.iload_n 1, 1) := by decide +kernel
theorem dX0_layRevisit_32 : decode cX0_layRevisit 32 = .ok (.iaload, 1) := by decide +kernel
theorem dX0_layRevisit_33 : decode cX0_layRevisit 33 = .ok (.iadd, 1) := by decide +kernel
theorem dX0_layRevisit_34 : decode cX0_layRevisit 34 = .ok (.iload_n 2, 1) := by decide +kernel
theorem dX0_layRevisit_35 : decode cX0_layRevisit 35 = .ok (.iastore, 1) := by decide +kernel
theorem dX0_layRevisit_36 : decode cX0_layRevisit 36 = .ok (.aload_n 0, 1) := by decide +kernel
theorem dX0_layRevisit_37 : decode cX0_layRevisit 37 = .ok (.getfield 24, 3) := by decide +kernel
theorem dX0_layRevisit_40 : decode cX0_layRevisit 40 = .ok (.iload_n 1, 1) := by decide +kernel
theorem dX0_layRevisit_41 : decode cX0_layRevisit 41 = .ok (.dup2, 1) := by decide +kernel
theorem dX0_layRevisit_42 : decode cX0_layRevisit 42 = .ok (.iaload, 1) := by decide +kernel
theorem dX0_layRevisit_43 : decode cX0_layRevisit 43 = .ok (.iconst 1, 1) := by decide +kernel
theorem dX0_layRevisit_44 : decode cX0_layRevisit 44 = .ok (.iadd, 1) := by decide +kernel
theorem dX0_layRevisit_45 : decode cX0_layRevisit 45 = .ok (.iastore, 1) := by decide +kernel
theorem dX0_layRevisit_46 : decode cX0_layRevisit 46 = .ok (.aload_n 0, 1) := by decide +kernel
theorem dX0_layRevisit_47 : decode cX0_layRevisit 47 = .ok (.iload_n 2, 1) := by decide +kernel
theorem dX0_layRevisit_48 : decode cX0_layRevisit 48 = .ok (.iload_n 1, 1) := by decide +kernel
theorem dX0_layRevisit_49 : decode cX0_layRevisit 49 = .ok (.bipush 100, 2) := by decide +kernel
theorem dX0_layRevisit_51 : decode cX0_layRevisit 51 = .ok (.iload_n 1, 1) := by decide +kernel
theorem dX0_layRevisit_52 : decode cX0_layRevisit 52 = .ok (.iadd, 1) := by decide +kernel
theorem dX0_layRevisit_53 : decode cX0_layRevisit 53 = .ok (.invokevirtual 105, 3) := by decide +kernel
theorem dX0_layRevisit_56 : decode cX0_layRevisit 56 = .ok (.return_, 1) := by decide +kernel
theorem dX0_use_0 : decode cX0_use 0 = .ok (.aload_n 0, 1) := by decide +kernel
theorem dX0_use_1 : decode cX0_use 1 = .ok (.getfield 9, 3) := by decide +kernel
theorem dX0_use_4 : decode cX0_use 4 = .ok (.iload_n 1, 1) := by decide +kernel
theorem dX0_use_5 : decode cX0_use 5 = .ok (.iload_n 3, 1) := by decide +kernel
theorem dX0_use_6 : decode cX0_use 6 = .ok (.iastore, 1) := by decide +kernel
theorem dX0_use_7 : decode cX0_use 7 = .ok (.aload_n 0, 1) := by decide +kernel
theorem dX0_use_8 : decode cX0_use 8 = .ok (.getfield 27, 3) := by decide +kernel
theorem dX0_use_11 : decode cX0_use 11 = .ok (.iload_n 2, 1) := by decide +kernel
theorem dX0_use_12 : decode cX0_use 12 = .ok (.iload_n 1, 1) := by decide +kernel
theorem dX0_use_13 : decode cX0_use 13 = .ok (.iastore, 1) := by decide +kernel
theorem dX0_use_14 : decode cX0_use 14 = .ok (.aload_n 0, 1) := by decide +kernel
theorem dX0_use_15 : decode cX0_use 15 = .ok (.dup, 1) := by decide +kernel
theorem dX0_use_16 : decode cX0_use 16 = .ok (.getfield 39, 3) := by decide +kernel
theorem dX0_use_19 : decode cX0_use 19 = .ok (.iconst 1, 1) := by decide +kernel
theorem dX0_use_20 : decode cX0_use 20 = .ok (.iadd, 1) := by decide +kernel
theorem dX0_use_21 : decode cX0_use 21 = .ok (.putfield 39, 3) := by decide +kernel
theorem dX0_use_24 : decode cX0_use 24 = .ok (.aload_n 0, 1) := by decide +kernel
theorem dX0_use_25 : decode cX0_use 25 = .ok (.iload_n 1, 1) := by decide +kernel
theorem dX0_use_26 : decode cX0_use 26 = .ok (.putfield 46, 3) := by decide +kernel
theorem dX0_use_29 : decode cX0_use 29 = .ok (.return_, 1) := by decide +kernel
set_option maxRecDepth 20000 in
theorem ggX0_movedSince_X0_changed : GoodIn wsX0_movedSince wsX0_changed := goodIn_r _ [6] (by decide +kernel) (by decide +kernel)
set_option maxRecDepth 20000 in
theorem gX0_movedSince_X0_changed : GoodIn wsX0_movedSince (va_wsS RX0 109 yX0_changed wsX0_changed) := goodIn_app (goodIn_of _ (by decide +kernel)) ggX0_movedSince_X0_changed
theorem dX0_movedSince_0 : decode cX0_movedSince 0 = .ok (.aload_n 1, 1) := by decide +kernel
theorem dX0_movedSince_1 : decode cX0_movedSince 1 = .ok (.getfield 15, 3) := by decide +kernel
theorem dX0_movedSince_4 : decode cX0_movedSince 4 = .ok (.aload_n 0, 1) := by decide +kernel
theorem dX0_movedSince_5 : decode cX0_movedSince 5 = .ok (.getfield 15, 3) := by decide +kernel
theorem dX0_movedSince_8 : decode cX0_movedSince 8 = .ok (.invokestatic 109, 3) := by decide +kernel
theorem dX0_movedSince_11 : decode cX0_movedSince 11 = .ok (.aload_n 1, 1) := by decide +kernel
theorem dX0_movedSince_12 : decode cX0_movedSince 12 = .ok (.getfield 18, 3) := by decide +kernel
theorem dX0_movedSince_15 : decode cX0_movedSince 15 = .ok (.aload_n 0, 1) := by decide +kernel
theorem dX0_movedSince_16 : decode cX0_movedSince 16 = .ok (.getfield 18, 3) := by decide +kernel
theorem dX0_movedSince_19 : decode cX0_movedSince 19 = .ok (.invokestatic 109, 3) := by decide +kernel
theorem dX0_movedSince_22 : decode cX0_movedSince 22 = .ok (.iadd, 1) := by decide +kernel
theorem dX0_movedSince_23 : decode cX0_movedSince 23 = .ok (.ireturn, 1) := by decide +kernel
theorem dX0_changed_0 : decode cX0_changed 0 = .ok (.iconst 0, 1) := by decide +kernel
theorem dX0_changed_1 : decode cX0_changed 1 = .ok (.istore_n 2, 1) := by decide +kernel
theorem dX0_changed_2 : decode cX0_changed 2 = .ok (.iconst 0, 1) := by decide +kernel
theorem dX0_changed_3 : decode cX0_changed 3 = .ok (.istore_n 3, 1) := by decide +kernel
theorem dX0_changed_4 : decode cX0_changed 4 = .ok (.iload_n 3, 1) := by decide +kernel
theorem dX0_changed_5 : decode cX0_changed 5 = .ok (.aload_n 0, 1) := by decide +kernel
theorem dX0_changed_6 : decode cX0_changed 6 = .ok (.arraylength, 1) := by decide +kernel
theorem dX0_changed_7 : decode cX0_changed 7 = .ok (.if_icmp .ge 34, 3) := by decide +kernel
theorem dX0_changed_10 : decode cX0_changed 10 = .ok (.iload_n 3, 1) := by decide +kernel
theorem dX0_changed_11 : decode cX0_changed 11 = .ok (.aload_n 1, 1) := by decide +kernel
theorem dX0_changed_12 : decode cX0_changed 12 = .ok (.arraylength, 1) := by decide +kernel
theorem dX0_changed_13 : decode cX0_changed 13 = .ok (.if_icmp .ge 28, 3) := by decide +kernel
theorem dX0_changed_16 : decode cX0_changed 16 = .ok (.aload_n 0, 1) := by decide +kernel
theorem dX0_changed_17 : decode cX0_changed 17 = .ok (.iload_n 3, 1) := by decide +kernel
theorem dX0_changed_18 : decode cX0_changed 18 = .ok (.iaload, 1) := by decide +kernel
theorem dX0_changed_19 : decode cX0_changed 19 = .ok (.iconst (-1), 1) := by decide +kernel
theorem dX0_changed_20 : decode cX0_changed 20 = .ok (.if_icmp .eq 15, 3) := by decide +kernel
theorem dX0_changed_23 : decode cX0_changed 23 = .ok (.aload_n 0, 1) := by decide +kernel
theorem dX0_changed_24 : decode cX0_changed 24 = .ok (.iload_n 3, 1) := by decide +kernel
theorem dX0_changed_25 : decode cX0_changed 25 = .ok (.iaload, 1) := by decide +kernel
theorem dX0_changed_26 : decode cX0_changed 26 = .ok (.aload_n 1, 1) := by decide +kernel
theorem dX0_changed_27 : decode cX0_changed 27 = .ok (.iload_n 3, 1) := by decide +kernel
theorem dX0_changed_28 : decode cX0_changed 28 = .ok (.iaload, 1) := by decide +kernel
theorem dX0_changed_29 : decode cX0_changed 29 = .ok (.if_icmp .eq 6, 3) := by decide +kernel
theorem dX0_changed_32 : decode cX0_changed 32 = .ok (.iinc 2 1, 3) := by decide +kernel
theorem dX0_changed_35 : decode cX0_changed 35 = .ok (.iinc 3 1, 3) := by decide +kernel
theorem dX0_changed_38 : decode cX0_changed 38 = .ok (.goto (-34), 3) := by decide +kernel
theorem dX0_changed_41 : decode cX0_changed 41 = .ok (.iload_n 2, 1) := by decide +kernel
theorem dX0_changed_42 : decode cX0_changed 42 = .ok (.ireturn, 1) := by decide +kernel
theorem dX1_init_0 : decode cX1_init 0 = .ok (.aload_n 0, 1) := by decide +kernel
theorem dX1_init_1 : decode cX1_init 1 = .ok (.invokespecial 3, 3) := by decide +kernel
theorem dX1_init_4 : decode cX1_init 4 = .ok (.aload_n 0, 1) := by decide +kernel
theorem dX1_init_5 : decode cX1_init 5 = .ok (.bipush 12, 2) := by decide +kernel
theorem dX1_init_7 : decode cX1_init 7 = .ok (.newarray .int, 2) := by decide +kernel
theorem dX1_init_9 : decode cX1_init 9 = .ok (.putfield 9, 3) := by decide +kernel
theorem dX1_init_12 : decode cX1_init 12 = .ok (.aload_n 0, 1) := by decide +kernel
theorem dX1_init_13 : decode cX1_init 13 = .ok (.bipush 12, 2) := by decide +kernel
theorem dX1_init_15 : decode cX1_init 15 = .ok (.newarray .int, 2) := by decide +kernel
theorem dX1_init_17 : decode cX1_init 17 = .ok (.putfield 15, 3) := by decide +kernel
theorem dX1_init_20 : decode cX1_init 20 = .ok (.aload_n 0, 1) := by decide +kernel
theorem dX1_init_21 : decode cX1_init 21 = .ok (.bipush 12, 2) := by decide +kernel
theorem dX1_init_23 : decode cX1_init 23 = .ok (.newarray .int, 2) := by decide +kernel
theorem dX1_init_25 : decode cX1_init 25 = .ok (.putfield 18, 3) := by decide +kernel
theorem dX1_init_28 : decode cX1_init 28 = .ok (.aload_n 0, 1) := by decide +kernel
theorem dX1_init_29 : decode cX1_init 29 = .ok (.bipush 12, 2) := by decide +kernel
theorem dX1_init_31 : decode cX1_init 31 = .ok (.newarray .int, 2) := by decide +kernel
theorem dX1_init_33 : decode cX1_init 33 = .ok (.putfield 21, 3) := by decide +kernel
theorem dX1_init_36 : decode cX1_init 36 = .ok (.aload_n 0, 1) := by decide +kernel
theorem dX1_init_37 : decode cX1_init 37 = .ok (.bipush 12, 2) := by decide +kernel
theorem dX1_init_39 : decode cX1_init 39 = .ok (.newarray .int, 2) := by decide +kernel
theorem dX1_init_41 : decode cX1_init 41 = .ok (.putfield 24, 3) := by decide +kernel
theorem dX1_init_44 : decode cX1_init 44 = .ok (.aload_n 0, 1) := by decide +kernel
theorem dX1_init_45 : decode cX1_init 45 = .ok (.bipush 12, 2) := by decide +kernel
theorem dX1_init_47 : decode cX1_init 47 = .ok (.newarray .int, 2) := by decide +kernel
theorem dX1_init_49 : decode cX1_init 49 = .ok (.putfield 27, 3) := by decide +kernel
theorem dX1_init_52 : decode cX1_init 52 = .ok (.aload_n 0, 1) := by decide +kernel
theorem dX1_init_53 : decode cX1_init 53 = .ok (.bipush 12, 2) := by decide +kernel
theorem dX1_init_55 : decode cX1_init 55 = .ok (.newarray .int, 2) := by decide +kernel
theorem dX1_init_57 : decode cX1_init 57 = .ok (.putfield 30, 3) := by decide +kernel
theorem dX1_init_60 : decode cX1_init 60 = .ok (.aload_n 0, 1) := by decide +kernel
theorem dX1_init_61 : decode cX1_init 61 = .ok (.bipush 12, 2) := by decide +kernel
theorem dX1_init_63 : decode cX1_init 63 = .ok (.newarray .int, 2) := by decide +kernel
theorem dX1_init_65 : decode cX1_init 65 = .ok (.putfield 33, 3) := by decide +kernel
theorem dX1_init_68 : decode cX1_init 68 = .ok (.return_, 1) := by decide +kernel
set_option maxRecDepth 20000 in
theorem ggX1_add_X1_putInOrder : GoodIn wsX1_add wsX1_putInOrder := goodIn_r _ [11, 1, 12, 3, 13, 14, 15, 10, 16, 17, 18, 19, 20, 21, 22, 23, 24, 25, 26, 27, 28, 29, 30, 31, 32] (by decide +kernel) (by decide +kernel)
set_option maxRecDepth 20000 in
theorem gX1_add_X1_putInOrder : GoodIn wsX1_add (wsV RX1 40 RX1 yX1_putInOrder wsX1_putInOrder) := goodIn_app (goodIn_of _ (by decide +kernel)) ggX1_add_X1_putInOrder
theorem dX1_add_0 : decode cX1_add 0 = .ok (.aload_n 0, 1) := by decide +kernel
theorem dX1_add_1 : decode cX1_add 1 = .ok (.getfield 36, 3) := by decide +kernel
theorem dX1_add_4 : decode cX1_add 4 = .ok (.istore 5, 2) := by decide +kernel
theorem dX1_add_6 : decode cX1_add 6 = .ok (.aload_n 0, 1) := by decide +kernel
theorem dX1_add_7 : decode cX1_add 7 = .ok (.getfield 9, 3) := by decide +kernel
theorem dX1_add_10 : decode cX1_add 10 = .ok (.iload 5, 2) := by decide +kernel
theorem dX1_add_12 : decode cX1_add 12 = .ok (.iload_n 1, 1) := by decide +kernel
theorem dX1_add_13 : decode cX1_add 13 = .ok (.iastore, 1) := by decide +kernel
theorem dX1_add_14 : decode cX1_add 14 = .ok (.aload_n 0, 1) := by decide +kernel
theorem dX1_add_15 : decode cX1_add 15 = .ok (.getfield 15, 3) := by decide +kernel
theorem dX1_add_18 : decode cX1_add 18 = .ok (.iload 5, 2) := by decide +kernel
theorem dX1_add_20 : decode cX1_add 20 = .ok (.iload_n 2, 1) := by decide +kernel
theorem dX1_add_21 : decode cX1_add 21 = .ok (.iastore, 1) := by decide +kernel
theorem dX1_add_22 : decode cX1_add 22 = .ok (.aload_n 0, 1) := by decide +kernel
theorem dX1_add_23 : decode cX1_add 23 = .ok (.getfield 18, 3) := by decide +kernel
theorem dX1_add_26 : decode cX1_add 26 = .ok (.iload 5, 2) := by decide +kernel
theorem dX1_add_28 : decode cX1_add 28 = .ok (.iload_n 3, 1) := by decide +kernel
theorem dX1_add_29 : decode cX1_add 29 = .ok (.iastore, 1) := by decide +kernel
theorem dX1_add_30 : decode cX1_add 30 = .ok (.aload_n 0, 1) := by decide +kernel
theorem dX1_add_31 : decode cX1_add 31 = .ok (.getfield 21, 3) := by decide +kernel
theorem dX1_add_34 : decode cX1_add 34 = .ok (.iload 5, 2) := by decide +kernel
theorem dX1_add_36 : decode cX1_add 36 = .ok (.iload 4, 2) := by decide +kernel
theorem dX1_add_38 : decode cX1_add 38 = .ok (.iastore, 1) := by decide +kernel
theorem dX1_add_39 : decode cX1_add 39 = .ok (.aload_n 0, 1) := by decide +kernel
theorem dX1_add_40 : decode cX1_add 40 = .ok (.getfield 27, 3) := by decide +kernel
theorem dX1_add_43 : decode cX1_add 43 = .ok (.iload 5, 2) := by decide +kernel
theorem dX1_add_45 : decode cX1_add 45 = .ok (.iconst 1, 1) := by decide +kernel
theorem dX1_add_46 : decode cX1_add 46 = .ok (.iastore, 1) := by decide +kernel
theorem dX1_add_47 : decode cX1_add 47 = .ok (.aload_n 0, 1) := by decide +kernel
theorem dX1_add_48 : decode cX1_add 48 = .ok (.dup, 1) := by decide +kernel
theorem dX1_add_49 : decode cX1_add 49 = .ok (.getfield 36, 3) := by decide +kernel
theorem dX1_add_52 : decode cX1_add 52 = .ok (.iconst 1, 1) := by decide +kernel
theorem dX1_add_53 : decode cX1_add 53 = .ok (.iadd, 1) := by decide +kernel
theorem dX1_add_54 : decode cX1_add 54 = .ok (.putfield 36, 3) := by decide +kernel
theorem dX1_add_57 : decode cX1_add 57 = .ok (.aload_n 0, 1) := by decide +kernel
theorem dX1_add_58 : decode cX1_add 58 = .ok (.invokevirtual 40, 3) := by decide +kernel
theorem dX1_add_61 : decode cX1_add 61 = .ok (.iload 5, 2) := by decide +kernel
theorem dX1_add_63 : decode cX1_add 63 = .ok (.ireturn, 1) := by decide +kernel
set_option maxRecDepth 20000 in
theorem ggX1_setNeeds_X1_putInOrder : GoodIn wsX1_setNeeds wsX1_putInOrder := goodIn_r _ [6, 7, 8, 9, 10, 11, 12, 5, 13, 1, 14, 15, 16, 17, 18, 19, 20, 21, 22, 23, 24, 25, 26, 27, 28] (by decide +kernel) (by decide +kernel)
set_option maxRecDepth 20000 in
theorem gX1_setNeeds_X1_putInOrder : GoodIn wsX1_setNeeds (wsV RX1 40 RX1 yX1_putInOrder wsX1_putInOrder) := goodIn_app (goodIn_of _ (by decide +kernel)) ggX1_setNeeds_X1_putInOrder
theorem dX1_setNeeds_0 : decode cX1_setNeeds 0 = .ok (.aload_n 0, 1) := by decide +kernel
theorem dX1_setNeeds_1 : decode cX1_setNeeds 1 = .ok (.getfield 30, 3) := by decide +kernel
theorem dX1_setNeeds_4 : decode cX1_setNeeds 4 = .ok (.iload_n 1, 1) := by decide +kernel
theorem dX1_setNeeds_5 : decode cX1_setNeeds 5 = .ok (.iload_n 2, 1) := by decide +kernel
theorem dX1_setNeeds_6 : decode cX1_setNeeds 6 = .ok (.iastore, 1) := by decide +kernel
theorem dX1_setNeeds_7 : decode cX1_setNeeds 7 = .ok (.aload_n 0, 1) := by decide +kernel
theorem dX1_setNeeds_8 : decode cX1_setNeeds 8 = .ok (.invokevirtual 40, 3) := by decide +kernel
theorem dX1_setNeeds_11 : decode cX1_setNeeds 11 = .ok (.return_, 1) := by decide +kernel
set_option maxRecDepth 20000 in
theorem ggX1_reach_X1_neededBy : GoodIn wsX1_reach wsX1_neededBy := goodIn_r _ [7, 2, 1, 8, 9, 10, 11, 12, 13, 14, 15, 16, 17, 18, 19] (by decide +kernel) (by decide +kernel)
set_option maxRecDepth 20000 in
theorem gX1_reach_X1_neededBy : GoodIn wsX1_reach (wsV RX1 43 RX1 yX1_neededBy wsX1_neededBy) := goodIn_app (goodIn_of _ (by decide +kernel)) ggX1_reach_X1_neededBy
theorem dX1_reach_0 : decode cX1_reach 0 = .ok (.aload_n 0, 1) := by decide +kernel
theorem dX1_reach_1 : decode cX1_reach 1 = .ok (.getfield 30, 3) := by decide +kernel
theorem dX1_reach_4 : decode cX1_reach 4 = .ok (.iload_n 1, 1) := by decide +kernel
theorem dX1_reach_5 : decode cX1_reach 5 = .ok (.iaload, 1) := by decide +kernel
theorem dX1_reach_6 : decode cX1_reach 6 = .ok (.istore_n 2, 1) := by decide +kernel
theorem dX1_reach_7 : decode cX1_reach 7 = .ok (.iconst 1, 1) := by decide +kernel
theorem dX1_reach_8 : decode cX1_reach 8 = .ok (.istore_n 3, 1) := by decide +kernel
theorem dX1_reach_9 : decode cX1_reach 9 = .ok (.iload_n 3, 1) := by decide +kernel
theorem dX1_reach_10 : decode cX1_reach 10 = .ok (.aload_n 0, 1) := by decide +kernel
theorem dX1_reach_11 : decode cX1_reach 11 = .ok (.getfield 36, 3) := by decide +kernel
theorem dX1_reach_14 : decode cX1_reach 14 = .ok (.if_icmp .ge 17, 3) := by decide +kernel
theorem dX1_reach_17 : decode cX1_reach 17 = .ok (.iload_n 2, 1) := by decide +kernel
theorem dX1_reach_18 : decode cX1_reach 18 = .ok (.aload_n 0, 1) := by decide +kernel
theorem dX1_reach_19 : decode cX1_reach 19 = .ok (.iload_n 2, 1) := by decide +kernel
theorem dX1_reach_20 : decode cX1_reach 20 = .ok (.invokevirtual 43, 3) := by decide +kernel
theorem dX1_reach_23 : decode cX1_reach 23 = .ok (.ior, 1) := by decide +kernel
theorem dX1_reach_24 : decode cX1_reach 24 = .ok (.istore_n 2, 1) := by decide +kernel
theorem dX1_reach_25 : decode cX1_reach 25 = .ok (.iinc 3 1, 3) := by decide +kernel
theorem dX1_reach_28 : decode cX1_reach 28 = .ok (.goto (-19), 3) := by decide +kernel
theorem dX1_reach_31 : decode cX1_reach 31 = .ok (.iload_n 2, 1) := by decide +kernel
theorem dX1_reach_32 : decode cX1_reach 32 = .ok (.ireturn, 1) := by decide +kernel
set_option maxRecDepth 20000 in
theorem ggX1_neededBy_X2_has : GoodIn wsX1_neededBy wsX2_has := goodIn_r _ [5] (by decide +kernel) (by decide +kernel)
set_option maxRecDepth 20000 in
theorem gX1_neededBy_X2_has_n47 : GoodIn wsX1_neededBy (wsX2_has) := ggX1_neededBy_X2_has
theorem dX1_neededBy_0 : decode cX1_neededBy 0 = .ok (.iconst 0, 1) := by decide +kernel
theorem dX1_neededBy_1 : decode cX1_neededBy 1 = .ok (.istore_n 2, 1) := by decide +kernel
theorem dX1_neededBy_2 : decode cX1_neededBy 2 = .ok (.iconst 0, 1) := by decide +kernel
theorem dX1_neededBy_3 : decode cX1_neededBy 3 = .ok (.istore_n 3, 1) := by decide +kernel
theorem dX1_neededBy_4 : decode cX1_neededBy 4 = .ok (.iload_n 3, 1) := by decide +kernel
theorem dX1_neededBy_5 : decode cX1_neededBy 5 = .ok (.aload_n 0, 1) := by decide +kernel
theorem dX1_neededBy_6 : decode cX1_neededBy 6 = .ok (.getfield 36, 3) := by decide +kernel
theorem dX1_neededBy_9 : decode cX1_neededBy 9 = .ok (.if_icmp .ge 26, 3) := by decide +kernel
theorem dX1_neededBy_12 : decode cX1_neededBy 12 = .ok (.iload_n 1, 1) := by decide +kernel
theorem dX1_neededBy_13 : decode cX1_neededBy 13 = .ok (.iload_n 3, 1) := by decide +kernel
theorem dX1_neededBy_14 : decode cX1_neededBy 14 = .ok (.invokestatic 47, 3) := by decide +kernel
theorem dX1_neededBy_17 : decode cX1_neededBy 17 = .ok (.ifCond .eq 12, 3) := by decide +kernel
theorem dX1_neededBy_20 : decode cX1_neededBy 20 = .ok (.iload_n 2, 1) := by decide +kernel
theorem dX1_neededBy_21 : decode cX1_neededBy 21 = .ok (.aload_n 0, 1) := by decide +kernel
theorem dX1_neededBy_22 : decode cX1_neededBy 22 = .ok (.getfield 30, 3) := by decide +kernel
theorem dX1_neededBy_25 : decode cX1_neededBy 25 = .ok (.iload_n 3, 1) := by decide +kernel
theorem dX1_neededBy_26 : decode cX1_neededBy 26 = .ok (.iaload, 1) := by decide +kernel
theorem dX1_neededBy_27 : decode cX1_neededBy 27 = .ok (.ior, 1) := by decide +kernel
theorem dX1_neededBy_28 : decode cX1_neededBy 28 = .ok (.istore_n 2, 1) := by decide +kernel
theorem dX1_neededBy_29 : decode cX1_neededBy 29 = .ok (.iinc 3 1, 3) := by decide +kernel
theorem dX1_neededBy_32 : decode cX1_neededBy 32 = .ok (.goto (-28), 3) := by decide +kernel
theorem dX1_neededBy_35 : decode cX1_neededBy 35 = .ok (.iload_n 2, 1) := by decide +kernel
theorem dX1_neededBy_36 : decode cX1_neededBy 36 = .ok (.ireturn, 1) := by decide +kernel
set_option maxRecDepth 20000 in
theorem ggX1_putInOrder_X1_nextTaken : GoodIn wsX1_putInOrder wsX1_nextTaken := goodIn_r _ [8, 1, 9, 3, 10, 11, 12, 13, 14, 7, 15, 16, 17, 18, 19, 20, 21, 22, 23, 24] (by decide +kernel) (by decide +kernel)
set_option maxRecDepth 20000 in
theorem gX1_putInOrder_X1_nextTaken : GoodIn wsX1_putInOrder (wsV RX1 51 RX1 yX1_nextTaken wsX1_nextTaken) := goodIn_app (goodIn_of _ (by decide +kernel)) ggX1_putInOrder_X1_nextTaken
theorem dX1_putInOrder_0 : decode cX1_putInOrder 0 = .ok (.iconst 0, 1) := by decide +kernel
theorem dX1_putInOrder_1 : decode cX1_putInOrder 1 = .ok (.istore_n 1, 1) := by decide +kernel
theorem dX1_putInOrder_2 : decode cX1_putInOrder 2 = .ok (.iconst (-1), 1) := by decide +kernel
theorem dX1_putInOrder_3 : decode cX1_putInOrder 3 = .ok (.istore_n 2, 1) := by decide +kernel
theorem dX1_putInOrder_4 : decode cX1_putInOrder 4 = .ok (.iconst 0, 1) := by decide +kernel
theorem dX1_putInOrder_5 : decode cX1_putInOrder 5 = .ok (.istore_n 3, 1) := by decide +kernel
theorem dX1_putInOrder_6 : decode cX1_putInOrder 6 = .ok (.iload_n 3, 1) := by decide +kernel
theorem dX1_putInOrder_7 : decode cX1_putInOrder 7 = .ok (.aload_n 0, 1) := by decide +kernel
theorem dX1_putInOrder_8 : decode cX1_putInOrder 8 = .ok (.getfield 36, 3) := by decide +kernel
theorem dX1_putInOrder_11 : decode cX1_putInOrder 11 = .ok (.if_icmp .ge 47, 3) := by decide +kernel
theorem dX1_putInOrder_14 : decode cX1_putInOrder 14 = .ok (.aload_n 0, 1) := by decide +kernel
theorem dX1_putInOrder_15 : decode cX1_putInOrder 15 = .ok (.iload_n 1, 1) := by decide +kernel
theorem dX1_putInOrder_16 : decode cX1_putInOrder 16 = .ok (.iload_n 2, 1) := by decide +kernel
theorem dX1_putInOrder_17 : decode cX1_putInOrder 17 = .ok (.invokevirtual 51, 3) := by decide +kernel
theorem dX1_putInOrder_20 : decode cX1_putInOrder 20 = .ok (.istore 4, 2) := by decide +kernel
theorem dX1_putInOrder_22 : decode cX1_putInOrder 22 = .ok (.iload 4, 2) := by decide +kernel
theorem dX1_putInOrder_24 : decode cX1_putInOrder 24 = .ok (.iconst (-1), 1) := by decide +kernel
theorem dX1_putInOrder_25 : decode cX1_putInOrder 25 = .ok (.if_icmp .ne 4, 3) := by decide +kernel
theorem dX1_putInOrder_28 : decode cX1_putInOrder 28 = .ok (.return_, 1) := by decide +kernel
theorem dX1_putInOrder_29 : decode cX1_putInOrder 29 = .ok (.aload_n 0, 1) := by decide +kernel
theorem dX1_putInOrder_30 : decode cX1_putInOrder 30 = .ok (.getfield 33, 3) := by decide +kernel
theorem dX1_putInOrder_33 : decode cX1_putInOrder 33 = .ok (.iload_n 3, 1) := by decide +kernel
theorem dX1_putInOrder_34 : decode cX1_putInOrder 34 = .ok (.iload 4, 2) := by decide +kernel
theorem dX1_putInOrder_36 : decode cX1_putInOrder 36 = .ok (.iastore, 1) := by decide +kernel
theorem dX1_putInOrder_37 : decode cX1_putInOrder 37 = .ok (.iload_n 1, 1) := by decide +kernel
theorem dX1_putInOrder_38 : decode cX1_putInOrder 38 = .ok (.iconst 1, 1) := by decide +kernel
theorem dX1_putInOrder_39 : decode cX1_putInOrder 39 = .ok (.iload 4, 2) := by decide +kernel
theorem dX1_putInOrder_41 : decode cX1_putInOrder 41 = .ok (.ishl, 1) := by decide +kernel
theorem dX1_putInOrder_42 : decode cX1_putInOrder 42 = .ok (.ior, 1) := by decide +kernel
theorem dX1_putInOrder_43 : decode cX1_putInOrder 43 = .ok (.istore_n 1, 1) := by decide +kernel
theorem dX1_putInOrder_44 : decode cX1_putInOrder 44 = .ok (.aload_n 0, 1) := by decide +kernel
theorem dX1_putInOrder_45 : decode cX1_putInOrder 45 = .ok (.getfield 15, 3) := by decide +kernel
theorem dX1_putInOrder_48 : decode cX1_putInOrder 48 = .ok (.iload 4, 2) := by decide +kernel
theorem dX1_putInOrder_50 : decode cX1_putInOrder 50 = .ok (.iaload, 1) := by decide +kernel
theorem dX1_putInOrder_51 : decode cX1_putInOrder 51 = .ok (.istore_n 2, 1) := by decide +kernel
theorem dX1_putInOrder_52 : decode cX1_putInOrder 52 = .ok (.iinc 3 1, 3) := by decide +kernel
theorem dX1_putInOrder_55 : decode cX1_putInOrder 55 = .ok (.goto (-49), 3) := by decide +kernel
theorem dX1_putInOrder_58 : decode cX1_putInOrder 58 = .ok (.return_, 1) := by decide +kernel
set_option maxRecDepth 20000 in
theorem ggX1_nextTaken_X2_has : GoodIn wsX1_nextTaken wsX2_has := goodIn_r _ [6] (by decide +kernel) (by decide +kernel)
set_option maxRecDepth 20000 in
theorem gX1_nextTaken_X2_has_n47 : GoodIn wsX1_nextTaken (wsX2_has) := ggX1_nextTaken_X2_has
set_option maxRecDepth 20000 in
theorem ggX1_nextTaken_X1_isCovered : GoodIn wsX1_nextTaken wsX1_isCovered := goodIn_r _ [10] (by decide +kernel) (by decide +kernel)
set_option maxRecDepth 20000 in
theorem gX1_nextTaken_X1_isCovered : GoodIn wsX1_nextTaken (va_wsS RX1 55 yX1_isCovered wsX1_isCovered) := goodIn_app (goodIn_of _ (by decide +kernel)) ggX1_nextTaken_X1_isCovered
theorem dX1_nextTaken_0 : decode cX1_nextTaken 0 = .ok (.iconst (-1), 1) := by decide +kernel
theorem dX1_nextTaken_1 : decode cX1_nextTaken 1 = .ok (.istore_n 3, 1) := by decide +kernel
theorem dX1_nextTaken_2 : decode cX1_nextTaken 2 = .ok (.iconst 0, 1) := by decide +kernel
theorem dX1_nextTaken_3 : decode cX1_nextTaken 3 = .ok (.istore 4, 2) := by decide +kernel
theorem dX1_nextTaken_5 : decode cX1_nextTaken 5 = .ok (.iload 4, 2) := by decide +kernel
theorem dX1_nextTaken_7 : decode cX1_nextTaken 7 = .ok (.aload_n 0, 1) := by decide +kernel
theorem dX1_nextTaken_8 : decode cX1_nextTaken 8 = .ok (.getfield 36, 3) := by decide +kernel
theorem dX1_nextTaken_11 : decode cX1_nextTaken 11 = .ok (.if_icmp .ge 57, 3) := by decide +kernel
theorem dX1_nextTaken_14 : decode cX1_nextTaken 14 = .ok (.iload_n 1, 1) := by decide +kernel
theorem dX1_nextTaken_15 : decode cX1_nextTaken 15 = .ok (.iload 4, 2) := by decide +kernel
theorem dX1_nextTaken_17 : decode cX1_nextTaken 17 = .ok (.invokestatic 47, 3) := by decide +kernel
theorem dX1_nextTaken_20 : decode cX1_nextTaken 20 = .ok (.ifCond .ne 42, 3) := by decide +kernel
theorem dX1_nextTaken_23 : decode cX1_nextTaken 23 = .ok (.aload_n 0, 1) := by decide +kernel
theorem dX1_nextTaken_24 : decode cX1_nextTaken 24 = .ok (.getfield 30, 3) := by decide +kernel
theorem dX1_nextTaken_27 : decode cX1_nextTaken 27 = .ok (.iload 4, 2) := by decide +kernel
theorem dX1_nextTaken_29 : decode cX1_nextTaken 29 = .ok (.iaload, 1) := by decide +kernel
theorem dX1_nextTaken_30 : decode cX1_nextTaken 30 = .ok (.iload_n 1, 1) := by decide +kernel
theorem dX1_nextTaken_31 : decode cX1_nextTaken 31 = .ok (.invokestatic 55, 3) := by decide +kernel
theorem dX1_nextTaken_34 : decode cX1_nextTaken 34 = .ok (.ifCond .ne 6, 3) := by decide +kernel
theorem dX1_nextTaken_37 : decode cX1_nextTaken 37 = .ok (.goto 25, 3) := by decide +kernel
theorem dX1_nextTaken_40 : decode cX1_nextTaken 40 = .ok (.aload_n 0, 1) := by decide +kernel
theorem dX1_nextTaken_41 : decode cX1_nextTaken 41 = .ok (.getfield 15, 3) := by decide +kernel
theorem dX1_nextTaken_44 : decode cX1_nextTaken 44 = .ok (.iload 4, 2) := by decide +kernel
theorem dX1_nextTaken_46 : decode cX1_nextTaken 46 = .ok (.iaload, 1) := by decide +kernel
theorem dX1_nextTaken_47 : decode cX1_nextTaken 47 = .ok (.iload_n 2, 1) := by decide +kernel
theorem dX1_nextTaken_48 : decode cX1_nextTaken 48 = .ok (.if_icmp .ne 6, 3) := by decide +kernel
theorem dX1_nextTaken_51 : decode cX1_nextTaken 51 = .ok (.iload 4, 2) := by decide +kernel
theorem dX1_nextTaken_53 : decode cX1_nextTaken 53 = .ok (.ireturn, 1) := by decide +kernel
theorem dX1_nextTaken_54 : decode cX1_nextTaken 54 = .ok (.iload_n 3, 1) := by decide +kernel
theorem dX1_nextTaken_55 : decode cX1_nextTaken 55 = .ok (.iconst (-1), 1) := by decide +kernel
theorem dX1_nextTaken_56 : decode cX1_nextTaken 56 = .ok (.if_icmp .ne 6, 3) := by decide +kernel
theorem dX1_nextTaken_59 : decode cX1_nextTaken 59 = .ok (.iload 4, 2) := by decide +kernel
theorem dX1_nextTaken_61 : decode cX1_nextTaken 61 = .ok (.istore_n 3, 1) := by decide +kernel
theorem dX1_nextTaken_62 : decode cX1_nextTaken 62 = .ok (.iinc 4 1, 3) := by decide +kernel
theorem dX1_nextTaken_65 : decode cX1_nextTaken 65 = .ok (.goto (-60), 3) := by decide +kernel
theorem dX1_nextTaken_68 : decode cX1_nextTaken 68 = .ok (.iload_n 3, 1) := by decide +kernel
theorem dX1_nextTaken_69 : decode cX1_nextTaken 69 = .ok (.ireturn, 1) := by decide +kernel
theorem dX1_isCovered_0 : decode cX1_isCovered 0 = .ok (.iload_n 0, 1) := by decide +kernel
theorem dX1_isCovered_1 : decode cX1_isCovered 1 = .ok (.iload_n 1, 1) := by decide +kernel
theorem dX1_isCovered_2 : decode cX1_isCovered 2 = .ok (.iconst (-1), 1) := by decide +kernel
theorem dX1_isCovered_3 : decode cX1_isCovered 3 = .ok (.ixor, 1) := by decide +kernel
theorem dX1_isCovered_4 : decode cX1_isCovered 4 = .ok (.iand, 1) := by decide +kernel
theorem dX1_isCovered_5 : decode cX1_isCovered 5 = .ok (.ifCond .ne 7, 3) := by decide +kernel
theorem dX1_isCovered_8 : decode cX1_isCovered 8 = .ok (.iconst 1, 1) := by decide +kernel
theorem dX1_isCovered_9 : decode cX1_isCovered 9 = .ok (.goto 4, 3) := by decide +kernel
theorem dX1_isCovered_12 : decode cX1_isCovered 12 = .ok (.iconst 0, 1) := by decide +kernel
theorem dX1_isCovered_13 : decode cX1_isCovered 13 = .ok (.ireturn, 1) := by decide +kernel
set_option maxRecDepth 20000 in
theorem ggX1_countClosed_X1_isClosed : GoodIn wsX1_countClosed wsX1_isClosed := goodIn_r _ [6, 1, 7, 8, 9, 10, 11, 12, 5, 13, 14, 15, 16, 17, 18, 19, 20, 21, 22] (by decide +kernel) (by decide +kernel)
set_option maxRecDepth 20000 in
theorem gX1_countClosed_X1_isClosed : GoodIn wsX1_countClosed (wsV RX1 58 RX1 yX1_isClosed wsX1_isClosed) := goodIn_app (goodIn_of _ (by decide +kernel)) ggX1_countClosed_X1_isClosed
theorem dX1_countClosed_0 : decode cX1_countClosed 0 = .ok (.iconst 0, 1) := by decide +kernel
theorem dX1_countClosed_1 : decode cX1_countClosed 1 = .ok (.istore_n 1, 1) := by decide +kernel
theorem dX1_countClosed_2 : decode cX1_countClosed 2 = .ok (.iconst 0, 1) := by decide +kernel
theorem dX1_countClosed_3 : decode cX1_countClosed 3 = .ok (.istore_n 2, 1) := by decide +kernel
theorem dX1_countClosed_4 : decode cX1_countClosed 4 = .ok (.iload_n 2, 1) := by decide +kernel
theorem dX1_countClosed_5 : decode cX1_countClosed 5 = .ok (.iconst 1, 1) := by decide +kernel
theorem dX1_countClosed_6 : decode cX1_countClosed 6 = .ok (.aload_n 0, 1) := by decide +kernel
theorem dX1_countClosed_7 : decode cX1_countClosed 7 = .ok (.getfield 36, 3) := by decide +kernel
theorem dX1_countClosed_10 : decode cX1_countClosed 10 = .ok (.ishl, 1) := by decide +kernel
theorem dX1_countClosed_11 : decode cX1_countClosed 11 = .ok (.if_icmp .ge 20, 3) := by decide +kernel
theorem dX1_countClosed_14 : decode cX1_countClosed 14 = .ok (.aload_n 0, 1) := by decide +kernel
theorem dX1_countClosed_15 : decode cX1_countClosed 15 = .ok (.iload_n 2, 1) := by decide +kernel
theorem dX1_countClosed_16 : decode cX1_countClosed 16 = .ok (.invokevirtual 58, 3) := by decide +kernel
theorem dX1_countClosed_19 : decode cX1_countClosed 19 = .ok (.ifCond .eq 6, 3) := by decide +kernel
theorem dX1_countClosed_22 : decode cX1_countClosed 22 = .ok (.iinc 1 1, 3) := by decide +kernel
theorem dX1_countClosed_25 : decode cX1_countClosed 25 = .ok (.iinc 2 1, 3) := by decide +kernel
theorem dX1_countClosed_28 : decode cX1_countClosed 28 = .ok (.goto (-24), 3) := by decide +kernel
theorem dX1_countClosed_31 : decode cX1_countClosed 31 = .ok (.iload_n 1, 1) := by decide +kernel
theorem dX1_countClosed_32 : decode cX1_countClosed 32 = .ok (.ireturn, 1) := by decide +kernel
set_option maxRecDepth 20000 in
theorem ggX1_bestSet_X1_isClosed : GoodIn wsX1_bestSet wsX1_isClosed := goodIn_r _ [6, 1, 7, 8, 9, 10, 11, 12, 5, 13, 27, 28, 29, 30, 31, 32, 33, 34, 35] (by decide +kernel) (by decide +kernel)
set_option maxRecDepth 20000 in
theorem gX1_bestSet_X1_isClosed : GoodIn wsX1_bestSet (wsV RX1 58 RX1 yX1_isClosed wsX1_isClosed) := goodIn_app (goodIn_of _ (by decide +kernel)) ggX1_bestSet_X1_isClosed
set_option maxRecDepth 20000 in
theorem ggX1_bestSet_X1_netOf : GoodIn wsX1_bestSet wsX1_netOf := goodIn_r _ [17, 1, 18, 19, 8, 9, 10, 27, 28, 29, 30, 31, 32, 33, 34, 35] (by decide +kernel) (by decide +kernel)
set_option maxRecDepth 20000 in
theorem gX1_bestSet_X1_netOf : GoodIn wsX1_bestSet (wsV RX1 62 RX1 yX1_netOf wsX1_netOf) := goodIn_app (goodIn_of _ (by decide +kernel)) ggX1_bestSet_X1_netOf
set_option maxRecDepth 20000 in
theorem ggX1_bestSet_J6_bitCount_0f7a4 : GoodIn wsX1_bestSet wsJ6_bitCount_0f7a4 := goodIn_r _ [23, 24, 25, 26] (by decide +kernel) (by decide +kernel)
set_option maxRecDepth 20000 in
theorem gX1_bestSet_J6_bitCount_0f7a4 : GoodIn wsX1_bestSet (va_wsS RX1 65 yJ6_bitCount_0f7a4 wsJ6_bitCount_0f7a4) := goodIn_app (goodIn_of _ (by decide +kernel)) ggX1_bestSet_J6_bitCount_0f7a4
theorem dX1_bestSet_0 : decode cX1_bestSet 0 = .ok (.iconst 0, 1) := by decide +kernel
theorem dX1_bestSet_1 : decode cX1_bestSet 1 = .ok (.istore_n 2, 1) := by decide +kernel
theorem dX1_bestSet_2 : decode cX1_bestSet 2 = .ok (.iconst 0, 1) := by decide +kernel
theorem dX1_bestSet_3 : decode cX1_bestSet 3 = .ok (.istore_n 3, 1) := by decide +kernel
theorem dX1_bestSet_4 : decode cX1_bestSet 4 = .ok (.iconst 1, 1) := by decide +kernel
theorem dX1_bestSet_5 : decode cX1_bestSet 5 = .ok (.istore 4, 2) := by decide +kernel
theorem dX1_bestSet_7 : decode cX1_bestSet 7 = .ok (.iload 4, 2) := by decide +kernel
theorem dX1_bestSet_9 : decode cX1_bestSet 9 = .ok (.iconst 1, 1) := by decide +kernel
theorem dX1_bestSet_10 : decode cX1_bestSet 10 = .ok (.aload_n 0, 1) := by decide +kernel
theorem dX1_bestSet_11 : decode cX1_bestSet 11 = .ok (.getfield 36, 3) := by decide +kernel
theorem dX1_bestSet_14 : decode cX1_bestSet 14 = .ok (.ishl, 1) := by decide +kernel
theorem dX1_bestSet_15 : decode cX1_bestSet 15 = .ok (.if_icmp .ge 60, 3) := by decide +kernel
theorem dX1_bestSet_18 : decode cX1_bestSet 18 = .ok (.aload_n 0, 1) := by decide +kernel
theorem dX1_bestSet_19 : decode cX1_bestSet 19 = .ok (.iload 4, 2) := by decide +kernel
theorem dX1_bestSet_21 : decode cX1_bestSet 21 = .ok (.invokevirtual 58, 3) := by decide +kernel
theorem dX1_bestSet_24 : decode cX1_bestSet 24 = .ok (.ifCond .ne 6, 3) := by decide +kernel
theorem dX1_bestSet_27 : decode cX1_bestSet 27 = .ok (.goto 42, 3) := by decide +kernel
theorem dX1_bestSet_30 : decode cX1_bestSet 30 = .ok (.aload_n 0, 1) := by decide +kernel
theorem dX1_bestSet_31 : decode cX1_bestSet 31 = .ok (.iload 4, 2) := by decide +kernel
theorem dX1_bestSet_33 : decode cX1_bestSet 33 = .ok (.iload_n 1, 1) := by decide +kernel
theorem dX1_bestSet_34 : decode cX1_bestSet 34 = .ok (.invokevirtual 62, 3) := by decide +kernel
theorem dX1_bestSet_37 : decode cX1_bestSet 37 = .ok (.istore 5, 2) := by decide +kernel
theorem dX1_bestSet_39 : decode cX1_bestSet 39 = .ok (.iload 5, 2) := by decide +kernel
theorem dX1_bestSet_41 : decode cX1_bestSet 41 = .ok (.iload_n 3, 1) := by decide +kernel
theorem dX1_bestSet_42 : decode cX1_bestSet 42 = .ok (.if_icmp .gt 21, 3) := by decide +kernel
theorem dX1_bestSet_45 : decode cX1_bestSet 45 = .ok (.iload 5, 2) := by decide +kernel
theorem dX1_bestSet_47 : decode cX1_bestSet 47 = .ok (.iload_n 3, 1) := by decide +kernel
theorem dX1_bestSet_48 : decode cX1_bestSet 48 = .ok (.if_icmp .ne 21, 3) := by decide +kernel
theorem dX1_bestSet_51 : decode cX1_bestSet 51 = .ok (.iload 4, 2) := by decide +kernel
theorem dX1_bestSet_53 : decode cX1_bestSet 53 = .ok (.invokestatic 65, 3) := by decide +kernel
theorem dX1_bestSet_56 : decode cX1_bestSet 56 = .ok (.iload_n 2, 1) := by decide +kernel
theorem dX1_bestSet_57 : decode cX1_bestSet 57 = .ok (.invokestatic 65, 3) := by decide +kernel
theorem dX1_bestSet_60 : decode cX1_bestSet 60 = .ok (.if_icmp .ge 9, 3) := by decide +kernel
theorem dX1_bestSet_63 : decode cX1_bestSet 63 = .ok (.iload 4, 2) := by decide +kernel
theorem dX1_bestSet_65 : decode cX1_bestSet 65 = .ok (.istore_n 2, 1) := by decide +kernel
theorem dX1_bestSet_66 : decode cX1_bestSet 66 = .ok (.iload 5, 2) := by decide +kernel
theorem dX1_bestSet_68 : decode cX1_bestSet 68 = .ok (.istore_n 3, 1) := by decide +kernel
theorem dX1_bestSet_69 : decode cX1_bestSet 69 = .ok (.iinc 4 1, 3) := by decide +kernel
theorem dX1_bestSet_72 : decode cX1_bestSet 72 = .ok (.goto (-65), 3) := by decide +kernel
theorem dX1_bestSet_75 : decode cX1_bestSet 75 = .ok (.iload_n 2, 1) := by decide +kernel
theorem dX1_bestSet_76 : decode cX1_bestSet 76 = .ok (.ireturn, 1) := by decide +kernel
set_option maxRecDepth 20000 in
theorem ggX1_isClosed_X2_has : GoodIn wsX1_isClosed wsX2_has := goodIn_r _ [5] (by decide +kernel) (by decide +kernel)
set_option maxRecDepth 20000 in
theorem gX1_isClosed_X2_has_n47 : GoodIn wsX1_isClosed (wsX2_has) := ggX1_isClosed_X2_has
set_option maxRecDepth 20000 in
theorem ggX1_isClosed_X1_isCovered : GoodIn wsX1_isClosed wsX1_isCovered := goodIn_r _ [9] (by decide +kernel) (by decide +kernel)
set_option maxRecDepth 20000 in
theorem gX1_isClosed_X1_isCovered : GoodIn wsX1_isClosed (va_wsS RX1 55 yX1_isCovered wsX1_isCovered) := goodIn_app (goodIn_of _ (by decide +kernel)) ggX1_isClosed_X1_isCovered
theorem dX1_isClosed_0 : decode cX1_isClosed 0 = .ok (.iconst 0, 1) := by decide +kernel
theorem dX1_isClosed_1 : decode cX1_isClosed 1 = .ok (.istore_n 2, 1) := by decide +kernel
theorem dX1_isClosed_2 : decode cX1_isClosed 2 = .ok (.iload_n 2, 1) := by decide +kernel
theorem dX1_isClosed_3 : decode cX1_isClosed 3 = .ok (.aload_n 0, 1) := by decide +kernel
theorem dX1_isClosed_4 : decode cX1_isClosed 4 = .ok (.getfield 36, 3) := by decide +kernel
theorem dX1_isClosed_7 : decode cX1_isClosed 7 = .ok (.if_icmp .ge 32, 3) := by decide +kernel
theorem dX1_isClosed_10 : decode cX1_isClosed 10 = .ok (.iload_n 1, 1) := by decide +kernel
theorem dX1_isClosed_11 : decode cX1_isClosed 11 = .ok (.iload_n 2, 1) := by decide +kernel
theorem dX1_isClosed_12 : decode cX1_isClosed 12 = .ok (.invokestatic 47, 3) := by decide +kernel
theorem dX1_isClosed_15 : decode cX1_isClosed 15 = .ok (.ifCond .eq 18, 3) := by decide +kernel
theorem dX1_isClosed_18 : decode cX1_isClosed 18 = .ok (.aload_n 0, 1) := by decide +kernel
theorem dX1_isClosed_19 : decode cX1_isClosed 19 = .ok (.getfield 30, 3) := by decide +kernel
theorem dX1_isClosed_22 : decode cX1_isClosed 22 = .ok (.iload_n 2, 1) := by decide +kernel
theorem dX1_isClosed_23 : decode cX1_isClosed 23 = .ok (.iaload, 1) := by decide +kernel
theorem dX1_isClosed_24 : decode cX1_isClosed 24 = .ok (.iload_n 1, 1) := by decide +kernel
theorem dX1_isClosed_25 : decode cX1_isClosed 25 = .ok (.invokestatic 55, 3) := by decide +kernel
theorem dX1_isClosed_28 : decode cX1_isClosed 28 = .ok (.ifCond .ne 5, 3) := by decide +kernel
theorem dX1_isClosed_31 : decode cX1_isClosed 31 = .ok (.iconst 0, 1) := by decide +kernel
theorem dX1_isClosed_32 : decode cX1_isClosed 32 = .ok (.ireturn, 1) := by decide +kernel
theorem dX1_isClosed_33 : decode cX1_isClosed 33 = .ok (.iinc 2 1, 3) := by decide +kernel
theorem dX1_isClosed_36 : decode cX1_isClosed 36 = .ok (.goto (-34), 3) := by decide +kernel
theorem dX1_isClosed_39 : decode cX1_isClosed 39 = .ok (.iconst 1, 1) := by decide +kernel
theorem dX1_isClosed_40 : decode cX1_isClosed 40 = .ok (.ireturn, 1) := by decide +kernel
set_option maxRecDepth 20000 in
theorem ggX1_netOf_X2_has : GoodIn wsX1_netOf wsX2_has := goodIn_r _ [6] (by decide +kernel) (by decide +kernel)
set_option maxRecDepth 20000 in
theorem gX1_netOf_X2_has_n47 : GoodIn wsX1_netOf (wsX2_has) := ggX1_netOf_X2_has
theorem dX1_netOf_0 : decode cX1_netOf 0 = .ok (.iconst 0, 1) := by decide +kernel
theorem dX1_netOf_1 : decode cX1_netOf 1 = .ok (.istore_n 3, 1) := by decide +kernel
theorem dX1_netOf_2 : decode cX1_netOf 2 = .ok (.iconst 0, 1) := by decide +kernel
theorem dX1_netOf_3 : decode cX1_netOf 3 = .ok (.istore 4, 2) := by decide +kernel
theorem dX1_netOf_5 : decode cX1_netOf 5 = .ok (.iload 4, 2) := by decide +kernel
theorem dX1_netOf_7 : decode cX1_netOf 7 = .ok (.aload_n 0, 1) := by decide +kernel
theorem dX1_netOf_8 : decode cX1_netOf 8 = .ok (.getfield 36, 3) := by decide +kernel
theorem dX1_netOf_11 : decode cX1_netOf 11 = .ok (.if_icmp .ge 38, 3) := by decide +kernel
theorem dX1_netOf_14 : decode cX1_netOf 14 = .ok (.iload_n 1, 1) := by decide +kernel
theorem dX1_netOf_15 : decode cX1_netOf 15 = .ok (.iload 4, 2) := by decide +kernel
theorem dX1_netOf_17 : decode cX1_netOf 17 = .ok (.invokestatic 47, 3) := by decide +kernel
theorem dX1_netOf_20 : decode cX1_netOf 20 = .ok (.ifCond .eq 23, 3) := by decide +kernel
theorem dX1_netOf_23 : decode cX1_netOf 23 = .ok (.iload_n 3, 1) := by decide +kernel
theorem dX1_netOf_24 : decode cX1_netOf 24 = .ok (.aload_n 0, 1) := by decide +kernel
theorem dX1_netOf_25 : decode cX1_netOf 25 = .ok (.getfield 18, 3) := by decide +kernel
theorem dX1_netOf_28 : decode cX1_netOf 28 = .ok (.iload 4, 2) := by decide +kernel
theorem dX1_netOf_30 : decode cX1_netOf 30 = .ok (.iaload, 1) := by decide +kernel
theorem dX1_netOf_31 : decode cX1_netOf 31 = .ok (.iload_n 2, 1) := by decide +kernel
theorem dX1_netOf_32 : decode cX1_netOf 32 = .ok (.aload_n 0, 1) := by decide +kernel
theorem dX1_netOf_33 : decode cX1_netOf 33 = .ok (.getfield 9, 3) := by decide +kernel
theorem dX1_netOf_36 : decode cX1_netOf 36 = .ok (.iload 4, 2) := by decide +kernel
theorem dX1_netOf_38 : decode cX1_netOf 38 = .ok (.iaload, 1) := by decide +kernel
theorem dX1_netOf_39 : decode cX1_netOf 39 = .ok (.imul, 1) := by decide +kernel
theorem dX1_netOf_40 : decode cX1_netOf 40 = .ok (.isub, 1) := by decide +kernel
theorem dX1_netOf_41 : decode cX1_netOf 41 = .ok (.iadd, 1) := by decide +kernel
theorem dX1_netOf_42 : decode cX1_netOf 42 = .ok (.istore_n 3, 1) := by decide +kernel
theorem dX1_netOf_43 : decode cX1_netOf 43 = .ok (.iinc 4 1, 3) := by decide +kernel
theorem dX1_netOf_46 : decode cX1_netOf 46 = .ok (.goto (-41), 3) := by decide +kernel
theorem dX1_netOf_49 : decode cX1_netOf 49 = .ok (.iload_n 3, 1) := by decide +kernel
theorem dX1_netOf_50 : decode cX1_netOf 50 = .ok (.ireturn, 1) := by decide +kernel
end
section
set_option maxRecDepth 20000 in
theorem ggX2_init_X1_init : GoodIn wsX2_init wsX1_init := goodIn_r _ [17, 18, 2, 3, 19, 20, 21, 22, 23, 24, 25, 26, 27, 49, 50, 51, 52, 53, 54, 55, 56, 57] (by decide +kernel) (by decide +kernel)
set_option maxRecDepth 20000 in
theorem gX2_init_X1_init : GoodIn wsX2_init (wsX1_init) := ggX2_init_X1_init
set_option maxRecDepth 20000 in
theorem ggX2_init_X0_init : GoodIn wsX2_init wsX0_init := goodIn_r _ [30, 31, 2, 3, 19, 32, 33, 34, 35, 36, 37, 38, 39, 40, 12, 41, 42, 43, 44, 45, 46, 47, 48, 62, 63, 64, 65, 66, 67, 68, 69, 70] (by decide +kernel) (by decide +kernel)
set_option maxRecDepth 20000 in
theorem gX2_init_X0_init : GoodIn wsX2_init (wsX0_init) := ggX2_init_X0_init
theorem dX2_init_0 : decode cX2_init 0 = .ok (.aload_n 0, 1) := by decide +kernel
theorem dX2_init_1 : decode cX2_init 1 = .ok (.invokespecial 1, 3) := by decide +kernel
theorem dX2_init_4 : decode cX2_init 4 = .ok (.aload_n 0, 1) := by decide +kernel
theorem dX2_init_5 : decode cX2_init 5 = .ok (.new 7, 3) := by decide +kernel
theorem dX2_init_8 : decode cX2_init 8 = .ok (.dup, 1) := by decide +kernel
theorem dX2_init_9 : decode cX2_init 9 = .ok (.invokespecial 9, 3) := by decide +kernel
theorem dX2_init_12 : decode cX2_init 12 = .ok (.putfield 10, 3) := by decide +kernel
theorem dX2_init_15 : decode cX2_init 15 = .ok (.aload_n 0, 1) := by decide +kernel
theorem dX2_init_16 : decode cX2_init 16 = .ok (.bipush 100, 2) := by decide +kernel
theorem dX2_init_18 : decode cX2_init 18 = .ok (.newarray .boolean, 2) := by decide +kernel
theorem dX2_init_20 : decode cX2_init 20 = .ok (.putfield 16, 3) := by decide +kernel
theorem dX2_init_23 : decode cX2_init 23 = .ok (.aload_n 0, 1) := by decide +kernel
theorem dX2_init_24 : decode cX2_init 24 = .ok (.new 20, 3) := by decide +kernel
theorem dX2_init_27 : decode cX2_init 27 = .ok (.dup, 1) := by decide +kernel
theorem dX2_init_28 : decode cX2_init 28 = .ok (.invokespecial 22, 3) := by decide +kernel
theorem dX2_init_31 : decode cX2_init 31 = .ok (.putfield 23, 3) := by decide +kernel
theorem dX2_init_34 : decode cX2_init 34 = .ok (.aload_n 0, 1) := by decide +kernel
theorem dX2_init_35 : decode cX2_init 35 = .ok (.new 20, 3) := by decide +kernel
theorem dX2_init_38 : decode cX2_init 38 = .ok (.dup, 1) := by decide +kernel
theorem dX2_init_39 : decode cX2_init 39 = .ok (.invokespecial 22, 3) := by decide +kernel
theorem dX2_init_42 : decode cX2_init 42 = .ok (.putfield 27, 3) := by decide +kernel
theorem dX2_init_45 : decode cX2_init 45 = .ok (.return_, 1) := by decide +kernel
set_option maxRecDepth 20000 in
theorem ggX2_aim_X2_isWithin : GoodIn wsX2_aim wsX2_isWithin := goodIn_r _ [9] (by decide +kernel) (by decide +kernel)
set_option maxRecDepth 20000 in
theorem gX2_aim_X2_isWithin : GoodIn wsX2_aim (va_wsS RX2 30 yX2_isWithin wsX2_isWithin) := goodIn_app (goodIn_of _ (by decide +kernel)) ggX2_aim_X2_isWithin
set_option maxRecDepth 20000 in
theorem ggX2_aim_X1_add : GoodIn wsX2_aim wsX1_add := goodIn_r _ [14, 15, 16, 17, 18, 19, 20, 21, 22, 23, 13, 24, 25, 26, 27, 28, 29, 30, 31, 8, 32, 33, 34, 35, 112, 113, 114, 115, 116, 117, 118, 119, 120] (by decide +kernel) (by decide +kernel)
set_option maxRecDepth 20000 in
theorem gX2_aim_X1_add : GoodIn wsX2_aim (wsV RX2 56 RX1 yX1_add wsX1_add) := goodIn_app (goodIn_of _ (by decide +kernel)) ggX2_aim_X1_add
set_option maxRecDepth 20000 in
theorem ggX2_aim_X2_planAnew : GoodIn wsX2_aim wsX2_planAnew := goodIn_r _ [39, 40, 41, 5, 42, 43, 44, 45, 46, 47, 48, 49, 50, 51, 52, 53, 54, 55, 56, 57, 58, 59, 60, 61, 62, 63, 64, 65, 66, 67, 68, 69, 70, 71, 72, 73, 74, 75, 76, 77, 78, 79, 80, 81, 82, 83, 84, 85, 86, 87, 88, 89, 90, 91, 92, 93, 94, 95, 96, 97, 98, 99, 100, 101, 102, 103, 104, 105, 106, 107, 108, 109, 110, 111, 121, 122, 123, 124, 125, 126, 127, 128, 129, 112, 113, 114, 115, 116, 117, 118, 119, 120] (by decide +kernel) (by decide +kernel)
set_option maxRecDepth 20000 in
theorem gX2_aim_X2_planAnew : GoodIn wsX2_aim (wsV RX2 60 RX2 yX2_planAnew wsX2_planAnew) := goodIn_app (goodIn_of _ (by decide +kernel)) ggX2_aim_X2_planAnew
theorem dX2_aim_0 : decode cX2_aim 0 = .ok (.iload_n 1, 1) := by decide +kernel
theorem dX2_aim_1 : decode cX2_aim 1 = .ok (.iconst 1, 1) := by decide +kernel
theorem dX2_aim_2 : decode cX2_aim 2 = .ok (.iconst 5, 1) := by decide +kernel
theorem dX2_aim_3 : decode cX2_aim 3 = .ok (.invokestatic 30, 3) := by decide +kernel
theorem dX2_aim_6 : decode cX2_aim 6 = .ok (.ifCond .ne 13, 3) := by decide +kernel
theorem dX2_aim_9 : decode cX2_aim 9 = .ok (.new 34, 3) := by decide +kernel
theorem dX2_aim_12 : decode cX2_aim 12 = .ok (.dup, 1) := by decide +kernel
theorem dX2_aim_13 : decode cX2_aim 13 = .ok (.ldc 36, 2) := by decide +kernel
theorem dX2_aim_15 : decode cX2_aim 15 = .ok (.invokespecial 38, 3) := by decide +kernel
theorem dX2_aim_18 : decode cX2_aim 18 = .ok (.athrow, 1) := by decide +kernel
theorem dX2_aim_19 : decode cX2_aim 19 = .ok (.iload_n 2, 1) := by decide +kernel
theorem dX2_aim_20 : decode cX2_aim 20 = .ok (.iconst 0, 1) := by decide +kernel
theorem dX2_aim_21 : decode cX2_aim 21 = .ok (.iconst 3, 1) := by decide +kernel
theorem dX2_aim_22 : decode cX2_aim 22 = .ok (.invokestatic 30, 3) := by decide +kernel
theorem dX2_aim_25 : decode cX2_aim 25 = .ok (.ifCond .ne 13, 3) := by decide +kernel
theorem dX2_aim_28 : decode cX2_aim 28 = .ok (.new 34, 3) := by decide +kernel
theorem dX2_aim_31 : decode cX2_aim 31 = .ok (.dup, 1) := by decide +kernel
theorem dX2_aim_32 : decode cX2_aim 32 = .ok (.ldc 41, 2) := by decide +kernel
theorem dX2_aim_34 : decode cX2_aim 34 = .ok (.invokespecial 38, 3) := by decide +kernel
theorem dX2_aim_37 : decode cX2_aim 37 = .ok (.athrow, 1) := by decide +kernel
theorem dX2_aim_38 : decode cX2_aim 38 = .ok (.iload_n 3, 1) := by decide +kernel
theorem dX2_aim_39 : decode cX2_aim 39 = .ok (.iconst 1, 1) := by decide +kernel
theorem dX2_aim_40 : decode cX2_aim 40 = .ok (.bipush 99, 2) := by decide +kernel
theorem dX2_aim_42 : decode cX2_aim 42 = .ok (.invokestatic 30, 3) := by decide +kernel
theorem dX2_aim_45 : decode cX2_aim 45 = .ok (.ifCond .ne 13, 3) := by decide +kernel
theorem dX2_aim_48 : decode cX2_aim 48 = .ok (.new 34, 3) := by decide +kernel
theorem dX2_aim_51 : decode cX2_aim 51 = .ok (.dup, 1) := by decide +kernel
theorem dX2_aim_52 : decode cX2_aim 52 = .ok (.ldc 43, 2) := by decide +kernel
theorem dX2_aim_54 : decode cX2_aim 54 = .ok (.invokespecial 38, 3) := by decide +kernel
theorem dX2_aim_57 : decode cX2_aim 57 = .ok (.athrow, 1) := by decide +kernel
theorem dX2_aim_58 : decode cX2_aim 58 = .ok (.iload 4, 2) := by decide +kernel
theorem dX2_aim_60 : decode cX2_aim 60 = .ok (.iconst (-1), 1) := by decide +kernel
theorem dX2_aim_61 : decode cX2_aim 61 = .ok (.if_icmp .eq 23, 3) := by decide +kernel
theorem dX2_aim_64 : decode cX2_aim 64 = .ok (.iload 4, 2) := by decide +kernel
theorem dX2_aim_66 : decode cX2_aim 66 = .ok (.iconst 0, 1) := by decide +kernel
theorem dX2_aim_67 : decode cX2_aim 67 = .ok (.iconst 2, 1) := by decide +kernel
theorem dX2_aim_68 : decode cX2_aim 68 = .ok (.invokestatic 30, 3) := by decide +kernel
theorem dX2_aim_71 : decode cX2_aim 71 = .ok (.ifCond .ne 13, 3) := by decide +kernel
theorem dX2_aim_74 : decode cX2_aim 74 = .ok (.new 34, 3) := by decide +kernel
theorem dX2_aim_77 : decode cX2_aim 77 = .ok (.dup, 1) := by decide +kernel
theorem dX2_aim_78 : decode cX2_aim 78 = .ok (.ldc 45, 2) := by decide +kernel
theorem dX2_aim_80 : decode cX2_aim 80 = .ok (.invokespecial 38, 3) := by decide +kernel
theorem dX2_aim_83 : decode cX2_aim 83 = .ok (.athrow, 1) := by decide +kernel
theorem dX2_aim_84 : decode cX2_aim 84 = .ok (.aload_n 0, 1) := by decide +kernel
theorem dX2_aim_85 : decode cX2_aim 85 = .ok (.getfield 10, 3) := by decide +kernel
theorem dX2_aim_88 : decode cX2_aim 88 = .ok (.getfield 47, 3) := by decide +kernel
theorem dX2_aim_91 : decode cX2_aim 91 = .ok (.bipush 12, 2) := by decide +kernel
theorem dX2_aim_93 : decode cX2_aim 93 = .ok (.if_icmp .lt 13, 3) := by decide +kernel
theorem dX2_aim_96 : decode cX2_aim 96 = .ok (.new 51, 3) := by decide +kernel
theorem dX2_aim_99 : decode cX2_aim 99 = .ok (.dup, 1) := by decide +kernel
theorem dX2_aim_100 : decode cX2_aim 100 = .ok (.ldc 53, 2) := by decide +kernel
theorem dX2_aim_102 : decode cX2_aim 102 = .ok (.invokespecial 55, 3) := by decide +kernel
theorem dX2_aim_105 : decode cX2_aim 105 = .ok (.athrow, 1) := by decide +kernel
theorem dX2_aim_106 : decode cX2_aim 106 = .ok (.aload_n 0, 1) := by decide +kernel
theorem dX2_aim_107 : decode cX2_aim 107 = .ok (.getfield 10, 3) := by decide +kernel
theorem dX2_aim_110 : decode cX2_aim 110 = .ok (.iload_n 1, 1) := by decide +kernel
theorem dX2_aim_111 : decode cX2_aim 111 = .ok (.iload_n 2, 1) := by decide +kernel
theorem dX2_aim_112 : decode cX2_aim 112 = .ok (.iload_n 3, 1) := by decide +kernel
theorem dX2_aim_113 : decode cX2_aim 113 = .ok (.iload 4, 2) := by decide +kernel
theorem dX2_aim_115 : decode cX2_aim 115 = .ok (.invokevirtual 56, 3) := by decide +kernel
theorem dX2_aim_118 : decode cX2_aim 118 = .ok (.istore 5, 2) := by decide +kernel
theorem dX2_aim_120 : decode cX2_aim 120 = .ok (.aload_n 0, 1) := by decide +kernel
theorem dX2_aim_121 : decode cX2_aim 121 = .ok (.invokevirtual 60, 3) := by decide +kernel
theorem dX2_aim_124 : decode cX2_aim 124 = .ok (.iload 5, 2) := by decide +kernel
theorem dX2_aim_126 : decode cX2_aim 126 = .ok (.ireturn, 1) := by decide +kernel
set_option maxRecDepth 20000 in
theorem ggX2_need_X2_isAim : GoodIn wsX2_need wsX2_isAim := goodIn_r _ [12, 7, 13, 14, 11, 15, 126, 127, 128, 129, 130, 131, 132, 133, 134, 135, 136, 137, 138] (by decide +kernel) (by decide +kernel)
set_option maxRecDepth 20000 in
theorem gX2_need_X2_isAim : GoodIn wsX2_need (wsV RX2 63 RX2 yX2_isAim wsX2_isAim) := goodIn_app (goodIn_of _ (by decide +kernel)) ggX2_need_X2_isAim
set_option maxRecDepth 20000 in
theorem ggX2_need_X2_has : GoodIn wsX2_need wsX2_has := goodIn_r _ [18] (by decide +kernel) (by decide +kernel)
set_option maxRecDepth 20000 in
theorem gX2_need_X2_has : GoodIn wsX2_need (va_wsS RX2 78 yX2_has wsX2_has) := goodIn_app (goodIn_of _ (by decide +kernel)) ggX2_need_X2_has
set_option maxRecDepth 20000 in
theorem ggX2_need_X1_reach : GoodIn wsX2_need wsX1_reach := goodIn_r _ [23, 24, 25, 26, 27, 28, 22, 29, 17, 11, 18, 130, 131, 132, 133, 134, 135, 136, 137, 138] (by decide +kernel) (by decide +kernel)
set_option maxRecDepth 20000 in
theorem gX2_need_X1_reach : GoodIn wsX2_need (wsV RX2 84 RX1 yX1_reach wsX1_reach) := goodIn_app (goodIn_of _ (by decide +kernel)) ggX2_need_X1_reach
set_option maxRecDepth 20000 in
theorem ggX2_need_X1_setNeeds : GoodIn wsX2_need wsX1_setNeeds := goodIn_r _ [33, 24, 34, 35, 36, 22, 37, 25, 38, 39, 40, 41, 42, 43, 17, 11, 18, 44, 45, 46, 130, 131, 132, 133, 134, 135, 136, 137, 138] (by decide +kernel) (by decide +kernel)
set_option maxRecDepth 20000 in
theorem gX2_need_X1_setNeeds : GoodIn wsX2_need (wsV RX2 90 RX1 yX1_setNeeds wsX1_setNeeds) := goodIn_app (goodIn_of _ (by decide +kernel)) ggX2_need_X1_setNeeds
set_option maxRecDepth 20000 in
theorem ggX2_need_X2_planAnew : GoodIn wsX2_need wsX2_planAnew := goodIn_r _ [50, 51, 52, 7, 53, 54, 55, 56, 57, 58, 59, 60, 61, 62, 63, 64, 65, 66, 67, 68, 69, 70, 71, 72, 73, 74, 75, 76, 77, 78, 79, 80, 81, 82, 83, 84, 85, 86, 87, 88, 89, 90, 91, 92, 93, 94, 95, 96, 97, 98, 99, 100, 101, 102, 103, 104, 105, 106, 107, 108, 109, 110, 111, 112, 113, 114, 115, 116, 117, 118, 126, 127, 128, 129, 139, 140, 141, 142, 143, 144, 145, 146, 147, 130, 131, 132, 133, 134, 135, 136, 137, 138] (by decide +kernel) (by decide +kernel)
set_option maxRecDepth 20000 in
theorem gX2_need_X2_planAnew : GoodIn wsX2_need (wsV RX2 60 RX2 yX2_planAnew wsX2_planAnew) := goodIn_app (goodIn_of _ (by decide +kernel)) ggX2_need_X2_planAnew
set_option maxRecDepth 20000 in
theorem ggX2_need_J6_bitCount_0f7a4 : GoodIn wsX2_need wsJ6_bitCount_0f7a4 := goodIn_r _ [122, 123, 124, 125] (by decide +kernel) (by decide +kernel)
set_option maxRecDepth 20000 in
theorem gX2_need_J6_bitCount_0f7a4 : GoodIn wsX2_need (va_wsS RX2 94 yJ6_bitCount_0f7a4 wsJ6_bitCount_0f7a4) := goodIn_app (goodIn_of _ (by decide +kernel)) ggX2_need_J6_bitCount_0f7a4
theorem dX2_need_0 : decode cX2_need 0 = .ok (.aload_n 0, 1) := by decide +kernel
theorem dX2_need_1 : decode cX2_need 1 = .ok (.iload_n 1, 1) := by decide +kernel
theorem dX2_need_2 : decode cX2_need 2 = .ok (.invokevirtual 63, 3) := by decide +kernel
theorem dX2_need_5 : decode cX2_need 5 = .ok (.ifCond .eq 11, 3) := by decide +kernel
theorem dX2_need_8 : decode cX2_need 8 = .ok (.aload_n 0, 1) := by decide +kernel
theorem dX2_need_9 : decode cX2_need 9 = .ok (.iload_n 2, 1) := by decide +kernel
theorem dX2_need_10 : decode cX2_need 10 = .ok (.invokevirtual 63, 3) := by decide +kernel
theorem dX2_need_13 : decode cX2_need 13 = .ok (.ifCond .ne 13, 3) := by decide +kernel
theorem dX2_need_16 : decode cX2_need 16 = .ok (.new 67, 3) := by decide +kernel
theorem dX2_need_19 : decode cX2_need 19 = .ok (.dup, 1) := by decide +kernel
theorem dX2_need_20 : decode cX2_need 20 = .ok (.ldc 69, 2) := by decide +kernel
theorem dX2_need_22 : decode cX2_need 22 = .ok (.invokespecial 71, 3) := by decide +kernel
theorem dX2_need_25 : decode cX2_need 25 = .ok (.athrow, 1) := by decide +kernel
theorem dX2_need_26 : decode cX2_need 26 = .ok (.iload_n 1, 1) := by decide +kernel
theorem dX2_need_27 : decode cX2_need 27 = .ok (.iload_n 2, 1) := by decide +kernel
theorem dX2_need_28 : decode cX2_need 28 = .ok (.if_icmp .ne 13, 3) := by decide +kernel
theorem dX2_need_31 : decode cX2_need 31 = .ok (.new 34, 3) := by decide +kernel
theorem dX2_need_34 : decode cX2_need 34 = .ok (.dup, 1) := by decide +kernel
theorem dX2_need_35 : decode cX2_need 35 = .ok (.ldc 72, 2) := by decide +kernel
theorem dX2_need_37 : decode cX2_need 37 = .ok (.invokespecial 38, 3) := by decide +kernel
theorem dX2_need_40 : decode cX2_need 40 = .ok (.athrow, 1) := by decide +kernel
theorem dX2_need_41 : decode cX2_need 41 = .ok (.aload_n 0, 1) := by decide +kernel
theorem dX2_need_42 : decode cX2_need 42 = .ok (.getfield 10, 3) := by decide +kernel
theorem dX2_need_45 : decode cX2_need 45 = .ok (.getfield 74, 3) := by decide +kernel
theorem dX2_need_48 : decode cX2_need 48 = .ok (.iload_n 1, 1) := by decide +kernel
theorem dX2_need_49 : decode cX2_need 49 = .ok (.iaload, 1) := by decide +kernel
theorem dX2_need_50 : decode cX2_need 50 = .ok (.iload_n 2, 1) := by decide +kernel
theorem dX2_need_51 : decode cX2_need 51 = .ok (.invokestatic 78, 3) := by decide +kernel
theorem dX2_need_54 : decode cX2_need 54 = .ok (.ifCond .eq 13, 3) := by decide +kernel
theorem dX2_need_57 : decode cX2_need 57 = .ok (.new 51, 3) := by decide +kernel
theorem dX2_need_60 : decode cX2_need 60 = .ok (.dup, 1) := by decide +kernel
theorem dX2_need_61 : decode cX2_need 61 = .ok (.ldc 82, 2) := by decide +kernel
theorem dX2_need_63 : decode cX2_need 63 = .ok (.invokespecial 55, 3) := by decide +kernel
theorem dX2_need_66 : decode cX2_need 66 = .ok (.athrow, 1) := by decide +kernel
theorem dX2_need_67 : decode cX2_need 67 = .ok (.aload_n 0, 1) := by decide +kernel
theorem dX2_need_68 : decode cX2_need 68 = .ok (.getfield 10, 3) := by decide +kernel
theorem dX2_need_71 : decode cX2_need 71 = .ok (.iload_n 2, 1) := by decide +kernel
theorem dX2_need_72 : decode cX2_need 72 = .ok (.invokevirtual 84, 3) := by decide +kernel
theorem dX2_need_75 : decode cX2_need 75 = .ok (.iload_n 1, 1) := by decide +kernel
theorem dX2_need_76 : decode cX2_need 76 = .ok (.invokestatic 78, 3) := by decide +kernel
theorem dX2_need_79 : decode cX2_need 79 = .ok (.ifCond .eq 13, 3) := by decide +kernel
theorem dX2_need_82 : decode cX2_need 82 = .ok (.new 51, 3) := by decide +kernel
theorem dX2_need_85 : decode cX2_need 85 = .ok (.dup, 1) := by decide +kernel
theorem dX2_need_86 : decode cX2_need 86 = .ok (.ldc 88, 2) := by decide +kernel
theorem dX2_need_88 : decode cX2_need 88 = .ok (.invokespecial 55, 3) := by decide +kernel
theorem dX2_need_91 : decode cX2_need 91 = .ok (.athrow, 1) := by decide +kernel
theorem dX2_need_92 : decode cX2_need 92 = .ok (.aload_n 0, 1) := by decide +kernel
theorem dX2_need_93 : decode cX2_need 93 = .ok (.getfield 10, 3) := by decide +kernel
theorem dX2_need_96 : decode cX2_need 96 = .ok (.iload_n 1, 1) := by decide +kernel
theorem dX2_need_97 : decode cX2_need 97 = .ok (.aload_n 0, 1) := by decide +kernel
theorem dX2_need_98 : decode cX2_need 98 = .ok (.getfield 10, 3) := by decide +kernel
theorem dX2_need_101 : decode cX2_need 101 = .ok (.getfield 74, 3) := by decide +kernel
theorem dX2_need_104 : decode cX2_need 104 = .ok (.iload_n 1, 1) := by decide +kernel
theorem dX2_need_105 : decode cX2_need 105 = .ok (.iaload, 1) := by decide +kernel
theorem dX2_need_106 : decode cX2_need 106 = .ok (.iconst 1, 1) := by decide +kernel
theorem dX2_need_107 : decode cX2_need 107 = .ok (.iload_n 2, 1) := by decide +kernel
theorem dX2_need_108 : decode cX2_need 108 = .ok (.ishl, 1) := by decide +kernel
theorem dX2_need_109 : decode cX2_need 109 = .ok (.ior, 1) := by decide +kernel
theorem dX2_need_110 : decode cX2_need 110 = .ok (.invokevirtual 90, 3) := by decide +kernel
theorem dX2_need_113 : decode cX2_need 113 = .ok (.aload_n 0, 1) := by decide +kernel
theorem dX2_need_114 : decode cX2_need 114 = .ok (.invokevirtual 60, 3) := by decide +kernel
theorem dX2_need_117 : decode cX2_need 117 = .ok (.aload_n 0, 1) := by decide +kernel
theorem dX2_need_118 : decode cX2_need 118 = .ok (.getfield 10, 3) := by decide +kernel
theorem dX2_need_121 : decode cX2_need 121 = .ok (.getfield 74, 3) := by decide +kernel
theorem dX2_need_124 : decode cX2_need 124 = .ok (.iload_n 1, 1) := by decide +kernel
theorem dX2_need_125 : decode cX2_need 125 = .ok (.iaload, 1) := by decide +kernel
theorem dX2_need_126 : decode cX2_need 126 = .ok (.invokestatic 94, 3) := by decide +kernel
theorem dX2_need_129 : decode cX2_need 129 = .ok (.ireturn, 1) := by decide +kernel
set_option maxRecDepth 20000 in
theorem ggX2_free_X2_isAim : GoodIn wsX2_free wsX2_isAim := goodIn_r _ [10, 5, 11, 12, 9, 13, 116, 117, 118, 119, 120, 121, 122, 123, 124, 125, 126, 127, 128] (by decide +kernel) (by decide +kernel)
set_option maxRecDepth 20000 in
theorem gX2_free_X2_isAim : GoodIn wsX2_free (wsV RX2 63 RX2 yX2_isAim wsX2_isAim) := goodIn_app (goodIn_of _ (by decide +kernel)) ggX2_free_X2_isAim
set_option maxRecDepth 20000 in
theorem ggX2_free_X2_has : GoodIn wsX2_free wsX2_has := goodIn_r _ [16] (by decide +kernel) (by decide +kernel)
set_option maxRecDepth 20000 in
theorem gX2_free_X2_has : GoodIn wsX2_free (va_wsS RX2 78 yX2_has wsX2_has) := goodIn_app (goodIn_of _ (by decide +kernel)) ggX2_free_X2_has
set_option maxRecDepth 20000 in
theorem ggX2_free_X1_setNeeds : GoodIn wsX2_free wsX1_setNeeds := goodIn_r _ [21, 22, 23, 24, 25, 20, 26, 27, 28, 29, 30, 31, 32, 33, 15, 9, 16, 34, 35, 36, 120, 121, 122, 123, 124, 125, 126, 127, 128] (by decide +kernel) (by decide +kernel)
set_option maxRecDepth 20000 in
theorem gX2_free_X1_setNeeds : GoodIn wsX2_free (wsV RX2 90 RX1 yX1_setNeeds wsX1_setNeeds) := goodIn_app (goodIn_of _ (by decide +kernel)) ggX2_free_X1_setNeeds
set_option maxRecDepth 20000 in
theorem ggX2_free_X2_planAnew : GoodIn wsX2_free wsX2_planAnew := goodIn_r _ [40, 41, 42, 5, 43, 44, 45, 46, 47, 48, 49, 50, 51, 52, 53, 54, 55, 56, 57, 58, 59, 60, 61, 62, 63, 64, 65, 66, 67, 68, 69, 70, 71, 72, 73, 74, 75, 76, 77, 78, 79, 80, 81, 82, 83, 84, 85, 86, 87, 88, 89, 90, 91, 92, 93, 94, 95, 96, 97, 98, 99, 100, 101, 102, 103, 104, 105, 106, 107, 108, 116, 117, 118, 119, 129, 130, 131, 132, 133, 134, 135, 136, 137, 120, 121, 122, 123, 124, 125, 126, 127, 128] (by decide +kernel) (by decide +kernel)
set_option maxRecDepth 20000 in
theorem gX2_free_X2_planAnew : GoodIn wsX2_free (wsV RX2 60 RX2 yX2_planAnew wsX2_planAnew) := goodIn_app (goodIn_of _ (by decide +kernel)) ggX2_free_X2_planAnew
set_option maxRecDepth 20000 in
theorem ggX2_free_J6_bitCount_0f7a4 : GoodIn wsX2_free wsJ6_bitCount_0f7a4 := goodIn_r _ [112, 113, 114, 115] (by decide +kernel) (by decide +kernel)
set_option maxRecDepth 20000 in
theorem gX2_free_J6_bitCount_0f7a4 : GoodIn wsX2_free (va_wsS RX2 94 yJ6_bitCount_0f7a4 wsJ6_bitCount_0f7a4) := goodIn_app (goodIn_of _ (by decide +kernel)) ggX2_free_J6_bitCount_0f7a4
theorem dX2_free_0 : decode cX2_free 0 = .ok (.aload_n 0, 1) := by decide +kernel
theorem dX2_free_1 : decode cX2_free 1 = .ok (.iload_n 1, 1) := by decide +kernel
theorem dX2_free_2 : decode cX2_free 2 = .ok (.invokevirtual 63, 3) := by decide +kernel
theorem dX2_free_5 : decode cX2_free 5 = .ok (.ifCond .eq 11, 3) := by decide +kernel
theorem dX2_free_8 : decode cX2_free 8 = .ok (.aload_n 0, 1) := by decide +kernel
theorem dX2_free_9 : decode cX2_free 9 = .ok (.iload_n 2, 1) := by decide +kernel
theorem dX2_free_10 : decode cX2_free 10 = .ok (.invokevirtual 63, 3) := by decide +kernel
theorem dX2_free_13 : decode cX2_free 13 = .ok (.ifCond .ne 13, 3) := by decide +kernel
theorem dX2_free_16 : decode cX2_free 16 = .ok (.new 67, 3) := by decide +kernel
theorem dX2_free_19 : decode cX2_free 19 = .ok (.dup, 1) := by decide +kernel
theorem dX2_free_20 : decode cX2_free 20 = .ok (.ldc 69, 2) := by decide +kernel
theorem dX2_free_22 : decode cX2_free 22 = .ok (.invokespecial 71, 3) := by decide +kernel
theorem dX2_free_25 : decode cX2_free 25 = .ok (.athrow, 1) := by decide +kernel
theorem dX2_free_26 : decode cX2_free 26 = .ok (.aload_n 0, 1) := by decide +kernel
theorem dX2_free_27 : decode cX2_free 27 = .ok (.getfield 10, 3) := by decide +kernel
theorem dX2_free_30 : decode cX2_free 30 = .ok (.getfield 74, 3) := by decide +kernel
theorem dX2_free_33 : decode cX2_free 33 = .ok (.iload_n 1, 1) := by decide +kernel
theorem dX2_free_34 : decode cX2_free 34 = .ok (.iaload, 1) := by decide +kernel
theorem dX2_free_35 : decode cX2_free 35 = .ok (.iload_n 2, 1) := by decide +kernel
theorem dX2_free_36 : decode cX2_free 36 = .ok (.invokestatic 78, 3) := by decide +kernel
theorem dX2_free_39 : decode cX2_free 39 = .ok (.ifCond .ne 13, 3) := by decide +kernel
theorem dX2_free_42 : decode cX2_free 42 = .ok (.new 99, 3) := by decide +kernel
theorem dX2_free_45 : decode cX2_free 45 = .ok (.dup, 1) := by decide +kernel
theorem dX2_free_46 : decode cX2_free 46 = .ok (.ldc 101, 2) := by decide +kernel
theorem dX2_free_48 : decode cX2_free 48 = .ok (.invokespecial 103, 3) := by decide +kernel
theorem dX2_free_51 : decode cX2_free 51 = .ok (.athrow, 1) := by decide +kernel
theorem dX2_free_52 : decode cX2_free 52 = .ok (.aload_n 0, 1) := by decide +kernel
theorem dX2_free_53 : decode cX2_free 53 = .ok (.getfield 10, 3) := by decide +kernel
theorem dX2_free_56 : decode cX2_free 56 = .ok (.iload_n 1, 1) := by decide +kernel
theorem dX2_free_57 : decode cX2_free 57 = .ok (.aload_n 0, 1) := by decide +kernel
theorem dX2_free_58 : decode cX2_free 58 = .ok (.getfield 10, 3) := by decide +kernel
theorem dX2_free_61 : decode cX2_free 61 = .ok (.getfield 74, 3) := by decide +kernel
theorem dX2_free_64 : decode cX2_free 64 = .ok (.iload_n 1, 1) := by decide +kernel
theorem dX2_free_65 : decode cX2_free 65 = .ok (.iaload, 1) := by decide +kernel
theorem dX2_free_66 : decode cX2_free 66 = .ok (.iconst 1, 1) := by decide +kernel
theorem dX2_free_67 : decode cX2_free 67 = .ok (.iload_n 2, 1) := by decide +kernel
theorem dX2_free_68 : decode cX2_free 68 = .ok (.ishl, 1) := by decide +kernel
theorem dX2_free_69 : decode cX2_free 69 = .ok (.iconst (-1), 1) := by decide +kernel
theorem dX2_free_70 : decode cX2_free 70 = .ok (.ixor, 1) := by decide +kernel
theorem dX2_free_71 : decode cX2_free 71 = .ok (.iand, 1) := by decide +kernel
theorem dX2_free_72 : decode cX2_free 72 = .ok (.invokevirtual 90, 3) := by decide +kernel
theorem dX2_free_75 : decode cX2_free 75 = .ok (.aload_n 0, 1) := by decide +kernel
theorem dX2_free_76 : decode cX2_free 76 = .ok (.invokevirtual 60, 3) := by decide +kernel
theorem dX2_free_79 : decode cX2_free 79 = .ok (.aload_n 0, 1) := by decide +kernel
theorem dX2_free_80 : decode cX2_free 80 = .ok (.getfield 10, 3) := by decide +kernel
theorem dX2_free_83 : decode cX2_free 83 = .ok (.getfield 74, 3) := by decide +kernel
theorem dX2_free_86 : decode cX2_free 86 = .ok (.iload_n 1, 1) := by decide +kernel
theorem dX2_free_87 : decode cX2_free 87 = .ok (.iaload, 1) := by decide +kernel
theorem dX2_free_88 : decode cX2_free 88 = .ok (.invokestatic 94, 3) := by decide +kernel
theorem dX2_free_91 : decode cX2_free 91 = .ok (.ireturn, 1) := by decide +kernel
set_option maxRecDepth 20000 in
theorem ggX2_revisits_X2_isAim : GoodIn wsX2_revisits wsX2_isAim := goodIn_r _ [10, 5, 11, 12, 9, 13, 86, 87, 88, 89, 90, 91, 92, 93, 94, 95, 96, 97, 98] (by decide +kernel) (by decide +kernel)
set_option maxRecDepth 20000 in
theorem gX2_revisits_X2_isAim : GoodIn wsX2_revisits (wsV RX2 63 RX2 yX2_isAim wsX2_isAim) := goodIn_app (goodIn_of _ (by decide +kernel)) ggX2_revisits_X2_isAim
set_option maxRecDepth 20000 in
theorem ggX2_revisits_X2_isWithin : GoodIn wsX2_revisits wsX2_isWithin := goodIn_r _ [13] (by decide +kernel) (by decide +kernel)
set_option maxRecDepth 20000 in
theorem gX2_revisits_X2_isWithin : GoodIn wsX2_revisits (va_wsS RX2 30 yX2_isWithin wsX2_isWithin) := goodIn_app (goodIn_of _ (by decide +kernel)) ggX2_revisits_X2_isWithin
set_option maxRecDepth 20000 in
theorem ggX2_revisits_X2_planAnew : GoodIn wsX2_revisits wsX2_planAnew := goodIn_r _ [17, 18, 19, 5, 20, 21, 22, 23, 24, 25, 26, 27, 28, 29, 30, 31, 32, 33, 34, 35, 36, 37, 38, 39, 40, 41, 42, 43, 44, 45, 46, 47, 48, 49, 50, 51, 52, 53, 54, 55, 56, 57, 58, 59, 60, 61, 62, 63, 64, 65, 66, 67, 68, 69, 70, 71, 72, 73, 74, 75, 76, 77, 78, 79, 80, 81, 82, 83, 84, 85, 86, 87, 88, 89, 99, 100, 101, 102, 103, 104, 105, 106, 107, 90, 91, 92, 93, 94, 95, 96, 97, 98] (by decide +kernel) (by decide +kernel)
set_option maxRecDepth 20000 in
theorem gX2_revisits_X2_planAnew : GoodIn wsX2_revisits (wsV RX2 60 RX2 yX2_planAnew wsX2_planAnew) := goodIn_app (goodIn_of _ (by decide +kernel)) ggX2_revisits_X2_planAnew
theorem dX2_revisits_0 : decode cX2_revisits 0 = .ok (.aload_n 0, 1) := by decide +kernel
theorem dX2_revisits_1 : decode cX2_revisits 1 = .ok (.iload_n 1, 1) := by decide +kernel
theorem dX2_revisits_2 : decode cX2_revisits 2 = .ok (.invokevirtual 63, 3) := by decide +kernel
theorem dX2_revisits_5 : decode cX2_revisits 5 = .ok (.ifCond .ne 13, 3) := by decide +kernel
theorem dX2_revisits_8 : decode cX2_revisits 8 = .ok (.new 67, 3) := by decide +kernel
theorem dX2_revisits_11 : decode cX2_revisits 11 = .ok (.dup, 1) := by decide +kernel
theorem dX2_revisits_12 : decode cX2_revisits 12 = .ok (.ldc 69, 2) := by decide +kernel
theorem dX2_revisits_14 : decode cX2_revisits 14 = .ok (.invokespecial 71, 3) := by decide +kernel
theorem dX2_revisits_17 : decode cX2_revisits 17 = .ok (.athrow, 1) := by decide +kernel
theorem dX2_revisits_18 : decode cX2_revisits 18 = .ok (.iload_n 2, 1) := by decide +kernel
theorem dX2_revisits_19 : decode cX2_revisits 19 = .ok (.iconst 0, 1) := by decide +kernel
theorem dX2_revisits_20 : decode cX2_revisits 20 = .ok (.iconst 3, 1) := by decide +kernel
theorem dX2_revisits_21 : decode cX2_revisits 21 = .ok (.invokestatic 30, 3) := by decide +kernel
theorem dX2_revisits_24 : decode cX2_revisits 24 = .ok (.ifCond .ne 13, 3) := by decide +kernel
theorem dX2_revisits_27 : decode cX2_revisits 27 = .ok (.new 34, 3) := by decide +kernel
theorem dX2_revisits_30 : decode cX2_revisits 30 = .ok (.dup, 1) := by decide +kernel
theorem dX2_revisits_31 : decode cX2_revisits 31 = .ok (.ldc 104, 2) := by decide +kernel
theorem dX2_revisits_33 : decode cX2_revisits 33 = .ok (.invokespecial 38, 3) := by decide +kernel
theorem dX2_revisits_36 : decode cX2_revisits 36 = .ok (.athrow, 1) := by decide +kernel
theorem dX2_revisits_37 : decode cX2_revisits 37 = .ok (.iload_n 3, 1) := by decide +kernel
theorem dX2_revisits_38 : decode cX2_revisits 38 = .ok (.iconst 1, 1) := by decide +kernel
theorem dX2_revisits_39 : decode cX2_revisits 39 = .ok (.bipush 20, 2) := by decide +kernel
theorem dX2_revisits_41 : decode cX2_revisits 41 = .ok (.invokestatic 30, 3) := by decide +kernel
theorem dX2_revisits_44 : decode cX2_revisits 44 = .ok (.ifCond .ne 13, 3) := by decide +kernel
theorem dX2_revisits_47 : decode cX2_revisits 47 = .ok (.new 34, 3) := by decide +kernel
theorem dX2_revisits_50 : decode cX2_revisits 50 = .ok (.dup, 1) := by decide +kernel
theorem dX2_revisits_51 : decode cX2_revisits 51 = .ok (.ldc 106, 2) := by decide +kernel
theorem dX2_revisits_53 : decode cX2_revisits 53 = .ok (.invokespecial 38, 3) := by decide +kernel
theorem dX2_revisits_56 : decode cX2_revisits 56 = .ok (.athrow, 1) := by decide +kernel
theorem dX2_revisits_57 : decode cX2_revisits 57 = .ok (.aload_n 0, 1) := by decide +kernel
theorem dX2_revisits_58 : decode cX2_revisits 58 = .ok (.getfield 10, 3) := by decide +kernel
theorem dX2_revisits_61 : decode cX2_revisits 61 = .ok (.getfield 108, 3) := by decide +kernel
theorem dX2_revisits_64 : decode cX2_revisits 64 = .ok (.iload_n 1, 1) := by decide +kernel
theorem dX2_revisits_65 : decode cX2_revisits 65 = .ok (.iaload, 1) := by decide +kernel
theorem dX2_revisits_66 : decode cX2_revisits 66 = .ok (.istore 4, 2) := by decide +kernel
theorem dX2_revisits_68 : decode cX2_revisits 68 = .ok (.aload_n 0, 1) := by decide +kernel
theorem dX2_revisits_69 : decode cX2_revisits 69 = .ok (.getfield 10, 3) := by decide +kernel
theorem dX2_revisits_72 : decode cX2_revisits 72 = .ok (.getfield 108, 3) := by decide +kernel
theorem dX2_revisits_75 : decode cX2_revisits 75 = .ok (.iload_n 1, 1) := by decide +kernel
theorem dX2_revisits_76 : decode cX2_revisits 76 = .ok (.iload_n 2, 1) := by decide +kernel
theorem dX2_revisits_77 : decode cX2_revisits 77 = .ok (.iastore, 1) := by decide +kernel
theorem dX2_revisits_78 : decode cX2_revisits 78 = .ok (.aload_n 0, 1) := by decide +kernel
theorem dX2_revisits_79 : decode cX2_revisits 79 = .ok (.getfield 10, 3) := by decide +kernel
theorem dX2_revisits_82 : decode cX2_revisits 82 = .ok (.getfield 111, 3) := by decide +kernel
theorem dX2_revisits_85 : decode cX2_revisits 85 = .ok (.iload_n 1, 1) := by decide +kernel
theorem dX2_revisits_86 : decode cX2_revisits 86 = .ok (.iload_n 3, 1) := by decide +kernel
theorem dX2_revisits_87 : decode cX2_revisits 87 = .ok (.iastore, 1) := by decide +kernel
theorem dX2_revisits_88 : decode cX2_revisits 88 = .ok (.aload_n 0, 1) := by decide +kernel
theorem dX2_revisits_89 : decode cX2_revisits 89 = .ok (.invokevirtual 60, 3) := by decide +kernel
theorem dX2_revisits_92 : decode cX2_revisits 92 = .ok (.iload 4, 2) := by decide +kernel
theorem dX2_revisits_94 : decode cX2_revisits 94 = .ok (.ireturn, 1) := by decide +kernel
theorem dX2_aims_0 : decode cX2_aims 0 = .ok (.aload_n 0, 1) := by decide +kernel
theorem dX2_aims_1 : decode cX2_aims 1 = .ok (.getfield 10, 3) := by decide +kernel
theorem dX2_aims_4 : decode cX2_aims 4 = .ok (.getfield 47, 3) := by decide +kernel
theorem dX2_aims_7 : decode cX2_aims 7 = .ok (.ireturn, 1) := by decide +kernel
set_option maxRecDepth 20000 in
theorem ggX2_allNeeds_X2_isAim : GoodIn wsX2_allNeeds wsX2_isAim := goodIn_r _ [8, 3, 9, 10, 7, 11, 25, 26, 27, 28, 29, 30, 31, 32, 33, 34, 35, 36, 37] (by decide +kernel) (by decide +kernel)
set_option maxRecDepth 20000 in
theorem gX2_allNeeds_X2_isAim : GoodIn wsX2_allNeeds (wsV RX2 63 RX2 yX2_isAim wsX2_isAim) := goodIn_app (goodIn_of _ (by decide +kernel)) ggX2_allNeeds_X2_isAim
set_option maxRecDepth 20000 in
theorem ggX2_allNeeds_X1_reach : GoodIn wsX2_allNeeds wsX1_reach := goodIn_r _ [16, 17, 18, 19, 20, 21, 15, 22, 23, 7, 24, 29, 30, 31, 32, 33, 34, 35, 36, 37] (by decide +kernel) (by decide +kernel)
set_option maxRecDepth 20000 in
theorem gX2_allNeeds_X1_reach : GoodIn wsX2_allNeeds (wsV RX2 84 RX1 yX1_reach wsX1_reach) := goodIn_app (goodIn_of _ (by decide +kernel)) ggX2_allNeeds_X1_reach
theorem dX2_allNeeds_0 : decode cX2_allNeeds 0 = .ok (.aload_n 0, 1) := by decide +kernel
theorem dX2_allNeeds_1 : decode cX2_allNeeds 1 = .ok (.iload_n 1, 1) := by decide +kernel
theorem dX2_allNeeds_2 : decode cX2_allNeeds 2 = .ok (.invokevirtual 63, 3) := by decide +kernel
theorem dX2_allNeeds_5 : decode cX2_allNeeds 5 = .ok (.ifCond .ne 13, 3) := by decide +kernel
theorem dX2_allNeeds_8 : decode cX2_allNeeds 8 = .ok (.new 67, 3) := by decide +kernel
theorem dX2_allNeeds_11 : decode cX2_allNeeds 11 = .ok (.dup, 1) := by decide +kernel
theorem dX2_allNeeds_12 : decode cX2_allNeeds 12 = .ok (.ldc 69, 2) := by decide +kernel
theorem dX2_allNeeds_14 : decode cX2_allNeeds 14 = .ok (.invokespecial 71, 3) := by decide +kernel
theorem dX2_allNeeds_17 : decode cX2_allNeeds 17 = .ok (.athrow, 1) := by decide +kernel
theorem dX2_allNeeds_18 : decode cX2_allNeeds 18 = .ok (.aload_n 0, 1) := by decide +kernel
theorem dX2_allNeeds_19 : decode cX2_allNeeds 19 = .ok (.getfield 10, 3) := by decide +kernel
theorem dX2_allNeeds_22 : decode cX2_allNeeds 22 = .ok (.iload_n 1, 1) := by decide +kernel
theorem dX2_allNeeds_23 : decode cX2_allNeeds 23 = .ok (.invokevirtual 84, 3) := by decide +kernel
theorem dX2_allNeeds_26 : decode cX2_allNeeds 26 = .ok (.ireturn, 1) := by decide +kernel
set_option maxRecDepth 20000 in
theorem ggX2_ordered_X2_isWithin : GoodIn wsX2_ordered wsX2_isWithin := goodIn_r _ [7] (by decide +kernel) (by decide +kernel)
set_option maxRecDepth 20000 in
theorem gX2_ordered_X2_isWithin : GoodIn wsX2_ordered (va_wsS RX2 30 yX2_isWithin wsX2_isWithin) := goodIn_app (goodIn_of _ (by decide +kernel)) ggX2_ordered_X2_isWithin
theorem dX2_ordered_0 : decode cX2_ordered 0 = .ok (.iload_n 1, 1) := by decide +kernel
theorem dX2_ordered_1 : decode cX2_ordered 1 = .ok (.iconst 0, 1) := by decide +kernel
theorem dX2_ordered_2 : decode cX2_ordered 2 = .ok (.aload_n 0, 1) := by decide +kernel
theorem dX2_ordered_3 : decode cX2_ordered 3 = .ok (.getfield 10, 3) := by decide +kernel
theorem dX2_ordered_6 : decode cX2_ordered 6 = .ok (.getfield 47, 3) := by decide +kernel
theorem dX2_ordered_9 : decode cX2_ordered 9 = .ok (.iconst 1, 1) := by decide +kernel
theorem dX2_ordered_10 : decode cX2_ordered 10 = .ok (.isub, 1) := by decide +kernel
theorem dX2_ordered_11 : decode cX2_ordered 11 = .ok (.invokestatic 30, 3) := by decide +kernel
theorem dX2_ordered_14 : decode cX2_ordered 14 = .ok (.ifCond .ne 13, 3) := by decide +kernel
theorem dX2_ordered_17 : decode cX2_ordered 17 = .ok (.new 67, 3) := by decide +kernel
theorem dX2_ordered_20 : decode cX2_ordered 20 = .ok (.dup, 1) := by decide +kernel
theorem dX2_ordered_21 : decode cX2_ordered 21 = .ok (.ldc 114, 2) := by decide +kernel
theorem dX2_ordered_23 : decode cX2_ordered 23 = .ok (.invokespecial 71, 3) := by decide +kernel
theorem dX2_ordered_26 : decode cX2_ordered 26 = .ok (.athrow, 1) := by decide +kernel
theorem dX2_ordered_27 : decode cX2_ordered 27 = .ok (.aload_n 0, 1) := by decide +kernel
theorem dX2_ordered_28 : decode cX2_ordered 28 = .ok (.getfield 10, 3) := by decide +kernel
theorem dX2_ordered_31 : decode cX2_ordered 31 = .ok (.getfield 116, 3) := by decide +kernel
theorem dX2_ordered_34 : decode cX2_ordered 34 = .ok (.iload_n 1, 1) := by decide +kernel
theorem dX2_ordered_35 : decode cX2_ordered 35 = .ok (.iaload, 1) := by decide +kernel
theorem dX2_ordered_36 : decode cX2_ordered 36 = .ok (.ireturn, 1) := by decide +kernel
set_option maxRecDepth 20000 in
theorem ggX2_lose_X2_isDay : GoodIn wsX2_lose wsX2_isDay := goodIn_r _ [11, 12, 13, 10, 14] (by decide +kernel) (by decide +kernel)
set_option maxRecDepth 20000 in
theorem gX2_lose_X2_isDay : GoodIn wsX2_lose (va_wsS RX2 119 yX2_isDay wsX2_isDay) := goodIn_app (goodIn_of _ (by decide +kernel)) ggX2_lose_X2_isDay
set_option maxRecDepth 20000 in
theorem ggX2_lose_X2_planAnew : GoodIn wsX2_lose wsX2_planAnew := goodIn_r _ [18, 7, 6, 19, 5, 20, 21, 22, 23, 24, 25, 26, 27, 28, 29, 30, 31, 32, 33, 34, 35, 36, 37, 38, 39, 40, 41, 42, 43, 44, 45, 46, 47, 48, 49, 50, 51, 52, 53, 54, 55, 56, 57, 58, 59, 60, 61, 62, 63, 64, 65, 66, 67, 68, 69, 70, 71, 72, 73, 74, 75, 76, 77, 78, 79, 80, 81, 82, 83, 84, 92, 93, 94, 95, 96, 97, 98, 99, 100, 101, 102, 103, 104, 105, 106, 107, 108, 109, 110, 111, 112, 113] (by decide +kernel) (by decide +kernel)
set_option maxRecDepth 20000 in
theorem gX2_lose_X2_planAnew : GoodIn wsX2_lose (wsV RX2 60 RX2 yX2_planAnew wsX2_planAnew) := goodIn_app (goodIn_of _ (by decide +kernel)) ggX2_lose_X2_planAnew
set_option maxRecDepth 20000 in
theorem ggX2_lose_X0_movedSince : GoodIn wsX2_lose wsX0_movedSince := goodIn_r _ [88, 30, 31, 89, 90, 23, 91, 96, 97, 98, 99, 100, 101, 102, 103, 104] (by decide +kernel) (by decide +kernel)
set_option maxRecDepth 20000 in
theorem gX2_lose_X0_movedSince : GoodIn wsX2_lose (wsV RX2 126 RX0 yX0_movedSince wsX0_movedSince) := goodIn_app (goodIn_of _ (by decide +kernel)) ggX2_lose_X0_movedSince
theorem dX2_lose_0 : decode cX2_lose 0 = .ok (.iload_n 1, 1) := by decide +kernel
theorem dX2_lose_1 : decode cX2_lose 1 = .ok (.invokestatic 119, 3) := by decide +kernel
theorem dX2_lose_4 : decode cX2_lose 4 = .ok (.ifCond .ne 13, 3) := by decide +kernel
theorem dX2_lose_7 : decode cX2_lose 7 = .ok (.new 67, 3) := by decide +kernel
theorem dX2_lose_10 : decode cX2_lose 10 = .ok (.dup, 1) := by decide +kernel
theorem dX2_lose_11 : decode cX2_lose 11 = .ok (.ldc 122, 2) := by decide +kernel
theorem dX2_lose_13 : decode cX2_lose 13 = .ok (.invokespecial 71, 3) := by decide +kernel
theorem dX2_lose_16 : decode cX2_lose 16 = .ok (.athrow, 1) := by decide +kernel
theorem dX2_lose_17 : decode cX2_lose 17 = .ok (.aload_n 0, 1) := by decide +kernel
theorem dX2_lose_18 : decode cX2_lose 18 = .ok (.getfield 16, 3) := by decide +kernel
theorem dX2_lose_21 : decode cX2_lose 21 = .ok (.iload_n 1, 1) := by decide +kernel
theorem dX2_lose_22 : decode cX2_lose 22 = .ok (.baload, 1) := by decide +kernel
theorem dX2_lose_23 : decode cX2_lose 23 = .ok (.ifCond .eq 13, 3) := by decide +kernel
theorem dX2_lose_26 : decode cX2_lose 26 = .ok (.new 51, 3) := by decide +kernel
theorem dX2_lose_29 : decode cX2_lose 29 = .ok (.dup, 1) := by decide +kernel
theorem dX2_lose_30 : decode cX2_lose 30 = .ok (.ldc 124, 2) := by decide +kernel
theorem dX2_lose_32 : decode cX2_lose 32 = .ok (.invokespecial 55, 3) := by decide +kernel
theorem dX2_lose_35 : decode cX2_lose 35 = .ok (.athrow, 1) := by decide +kernel
theorem dX2_lose_36 : decode cX2_lose 36 = .ok (.aload_n 0, 1) := by decide +kernel
theorem dX2_lose_37 : decode cX2_lose 37 = .ok (.getfield 16, 3) := by decide +kernel
theorem dX2_lose_40 : decode cX2_lose 40 = .ok (.iload_n 1, 1) := by decide +kernel
theorem dX2_lose_41 : decode cX2_lose 41 = .ok (.iconst 1, 1) := by decide +kernel
theorem dX2_lose_42 : decode cX2_lose 42 = .ok (.bastore, 1) := by decide +kernel
theorem dX2_lose_43 : decode cX2_lose 43 = .ok (.aload_n 0, 1) := by decide +kernel
theorem dX2_lose_44 : decode cX2_lose 44 = .ok (.invokevirtual 60, 3) := by decide +kernel
theorem dX2_lose_47 : decode cX2_lose 47 = .ok (.aload_n 0, 1) := by decide +kernel
theorem dX2_lose_48 : decode cX2_lose 48 = .ok (.getfield 23, 3) := by decide +kernel
theorem dX2_lose_51 : decode cX2_lose 51 = .ok (.aload_n 0, 1) := by decide +kernel
theorem dX2_lose_52 : decode cX2_lose 52 = .ok (.getfield 27, 3) := by decide +kernel
theorem dX2_lose_55 : decode cX2_lose 55 = .ok (.invokevirtual 126, 3) := by decide +kernel
theorem dX2_lose_58 : decode cX2_lose 58 = .ok (.ireturn, 1) := by decide +kernel
set_option maxRecDepth 20000 in
theorem ggX2_on_X2_isDay : GoodIn wsX2_on wsX2_isDay := goodIn_r _ [7, 8, 9, 6, 10] (by decide +kernel) (by decide +kernel)
set_option maxRecDepth 20000 in
theorem gX2_on_X2_isDay : GoodIn wsX2_on (va_wsS RX2 119 yX2_isDay wsX2_isDay) := goodIn_app (goodIn_of _ (by decide +kernel)) ggX2_on_X2_isDay
theorem dX2_on_0 : decode cX2_on 0 = .ok (.iload_n 1, 1) := by decide +kernel
theorem dX2_on_1 : decode cX2_on 1 = .ok (.invokestatic 119, 3) := by decide +kernel
theorem dX2_on_4 : decode cX2_on 4 = .ok (.ifCond .ne 13, 3) := by decide +kernel
theorem dX2_on_7 : decode cX2_on 7 = .ok (.new 67, 3) := by decide +kernel
theorem dX2_on_10 : decode cX2_on 10 = .ok (.dup, 1) := by decide +kernel
theorem dX2_on_11 : decode cX2_on 11 = .ok (.ldc 122, 2) := by decide +kernel
theorem dX2_on_13 : decode cX2_on 13 = .ok (.invokespecial 71, 3) := by decide +kernel
theorem dX2_on_16 : decode cX2_on 16 = .ok (.athrow, 1) := by decide +kernel
theorem dX2_on_17 : decode cX2_on 17 = .ok (.aload_n 0, 1) := by decide +kernel
theorem dX2_on_18 : decode cX2_on 18 = .ok (.getfield 23, 3) := by decide +kernel
theorem dX2_on_21 : decode cX2_on 21 = .ok (.getfield 130, 3) := by decide +kernel
theorem dX2_on_24 : decode cX2_on 24 = .ok (.iload_n 1, 1) := by decide +kernel
theorem dX2_on_25 : decode cX2_on 25 = .ok (.iaload, 1) := by decide +kernel
theorem dX2_on_26 : decode cX2_on 26 = .ok (.ireturn, 1) := by decide +kernel
set_option maxRecDepth 20000 in
theorem ggX2_lessonDay_X2_isAim : GoodIn wsX2_lessonDay wsX2_isAim := goodIn_r _ [9, 3, 10, 11, 8, 12, 13, 14, 15, 16, 17, 18, 19, 20, 21, 22, 23, 24, 25] (by decide +kernel) (by decide +kernel)
set_option maxRecDepth 20000 in
theorem gX2_lessonDay_X2_isAim : GoodIn wsX2_lessonDay (wsV RX2 63 RX2 yX2_isAim wsX2_isAim) := goodIn_app (goodIn_of _ (by decide +kernel)) ggX2_lessonDay_X2_isAim
set_option maxRecDepth 20000 in
theorem ggX2_lessonDay_X2_isWithin : GoodIn wsX2_lessonDay wsX2_isWithin := goodIn_r _ [12] (by decide +kernel) (by decide +kernel)
set_option maxRecDepth 20000 in
theorem gX2_lessonDay_X2_isWithin : GoodIn wsX2_lessonDay (va_wsS RX2 30 yX2_isWithin wsX2_isWithin) := goodIn_app (goodIn_of _ (by decide +kernel)) ggX2_lessonDay_X2_isWithin
theorem dX2_lessonDay_0 : decode cX2_lessonDay 0 = .ok (.aload_n 0, 1) := by decide +kernel
theorem dX2_lessonDay_1 : decode cX2_lessonDay 1 = .ok (.iload_n 1, 1) := by decide +kernel
theorem dX2_lessonDay_2 : decode cX2_lessonDay 2 = .ok (.invokevirtual 63, 3) := by decide +kernel
theorem dX2_lessonDay_5 : decode cX2_lessonDay 5 = .ok (.ifCond .ne 13, 3) := by decide +kernel
theorem dX2_lessonDay_8 : decode cX2_lessonDay 8 = .ok (.new 67, 3) := by decide +kernel
theorem dX2_lessonDay_11 : decode cX2_lessonDay 11 = .ok (.dup, 1) := by decide +kernel
theorem dX2_lessonDay_12 : decode cX2_lessonDay 12 = .ok (.ldc 69, 2) := by decide +kernel
theorem dX2_lessonDay_14 : decode cX2_lessonDay 14 = .ok (.invokespecial 71, 3) := by decide +kernel
theorem dX2_lessonDay_17 : decode cX2_lessonDay 17 = .ok (.athrow, 1) := by decide +kernel
theorem dX2_lessonDay_18 : decode cX2_lessonDay 18 = .ok (.iload_n 2, 1) := by decide +kernel
theorem dX2_lessonDay_19 : decode cX2_lessonDay 19 = .ok (.iconst 0, 1) := by decide +kernel
theorem dX2_lessonDay_20 : decode cX2_lessonDay 20 = .ok (.aload_n 0, 1) := by decide +kernel
theorem dX2_lessonDay_21 : decode cX2_lessonDay 21 = .ok (.getfield 10, 3) := by decide +kernel
theorem dX2_lessonDay_24 : decode cX2_lessonDay 24 = .ok (.getfield 133, 3) := by decide +kernel
theorem dX2_lessonDay_27 : decode cX2_lessonDay 27 = .ok (.iload_n 1, 1) := by decide +kernel
theorem dX2_lessonDay_28 : decode cX2_lessonDay 28 = .ok (.iaload, 1) := by decide +kernel
theorem dX2_lessonDay_29 : decode cX2_lessonDay 29 = .ok (.iconst 1, 1) := by decide +kernel
theorem dX2_lessonDay_30 : decode cX2_lessonDay 30 = .ok (.isub, 1) := by decide +kernel
theorem dX2_lessonDay_31 : decode cX2_lessonDay 31 = .ok (.invokestatic 30, 3) := by decide +kernel
theorem dX2_lessonDay_34 : decode cX2_lessonDay 34 = .ok (.ifCond .ne 13, 3) := by decide +kernel
theorem dX2_lessonDay_37 : decode cX2_lessonDay 37 = .ok (.new 67, 3) := by decide +kernel
theorem dX2_lessonDay_40 : decode cX2_lessonDay 40 = .ok (.dup, 1) := by decide +kernel
theorem dX2_lessonDay_41 : decode cX2_lessonDay 41 = .ok (.ldc 136, 2) := by decide +kernel
theorem dX2_lessonDay_43 : decode cX2_lessonDay 43 = .ok (.invokespecial 71, 3) := by decide +kernel
theorem dX2_lessonDay_46 : decode cX2_lessonDay 46 = .ok (.athrow, 1) := by decide +kernel
theorem dX2_lessonDay_47 : decode cX2_lessonDay 47 = .ok (.aload_n 0, 1) := by decide +kernel
theorem dX2_lessonDay_48 : decode cX2_lessonDay 48 = .ok (.getfield 23, 3) := by decide +kernel
theorem dX2_lessonDay_51 : decode cX2_lessonDay 51 = .ok (.getfield 138, 3) := by decide +kernel
theorem dX2_lessonDay_54 : decode cX2_lessonDay 54 = .ok (.iload_n 1, 1) := by decide +kernel
theorem dX2_lessonDay_55 : decode cX2_lessonDay 55 = .ok (.iconst 5, 1) := by decide +kernel
theorem dX2_lessonDay_56 : decode cX2_lessonDay 56 = .ok (.imul, 1) := by decide +kernel
theorem dX2_lessonDay_57 : decode cX2_lessonDay 57 = .ok (.iload_n 2, 1) := by decide +kernel
theorem dX2_lessonDay_58 : decode cX2_lessonDay 58 = .ok (.iadd, 1) := by decide +kernel
theorem dX2_lessonDay_59 : decode cX2_lessonDay 59 = .ok (.iaload, 1) := by decide +kernel
theorem dX2_lessonDay_60 : decode cX2_lessonDay 60 = .ok (.ireturn, 1) := by decide +kernel
set_option maxRecDepth 20000 in
theorem ggX2_revisitDay_X2_isAim : GoodIn wsX2_revisitDay wsX2_isAim := goodIn_r _ [9, 3, 10, 11, 8, 12, 13, 14, 15, 16, 17, 18, 19, 20, 21, 22, 23, 24, 25] (by decide +kernel) (by decide +kernel)
set_option maxRecDepth 20000 in
theorem gX2_revisitDay_X2_isAim : GoodIn wsX2_revisitDay (wsV RX2 63 RX2 yX2_isAim wsX2_isAim) := goodIn_app (goodIn_of _ (by decide +kernel)) ggX2_revisitDay_X2_isAim
set_option maxRecDepth 20000 in
theorem ggX2_revisitDay_X2_isWithin : GoodIn wsX2_revisitDay wsX2_isWithin := goodIn_r _ [12] (by decide +kernel) (by decide +kernel)
set_option maxRecDepth 20000 in
theorem gX2_revisitDay_X2_isWithin : GoodIn wsX2_revisitDay (va_wsS RX2 30 yX2_isWithin wsX2_isWithin) := goodIn_app (goodIn_of _ (by decide +kernel)) ggX2_revisitDay_X2_isWithin
theorem dX2_revisitDay_0 : decode cX2_revisitDay 0 = .ok (.aload_n 0, 1) := by decide +kernel
theorem dX2_revisitDay_1 : decode cX2_revisitDay 1 = .ok (.iload_n 1, 1) := by decide +kernel
theorem dX2_revisitDay_2 : decode cX2_revisitDay 2 = .ok (.invokevirtual 63, 3) := by decide +kernel
theorem dX2_revisitDay_5 : decode cX2_revisitDay 5 = .ok (.ifCond .ne 13, 3) := by decide +kernel
theorem dX2_revisitDay_8 : decode cX2_revisitDay 8 = .ok (.new 67, 3) := by decide +kernel
theorem dX2_revisitDay_11 : decode cX2_revisitDay 11 = .ok (.dup, 1) := by decide +kernel
theorem dX2_revisitDay_12 : decode cX2_revisitDay 12 = .ok (.ldc 69, 2) := by decide +kernel
theorem dX2_revisitDay_14 : decode cX2_revisitDay 14 = .ok (.invokespecial 71, 3) := by decide +kernel
theorem dX2_revisitDay_17 : decode cX2_revisitDay 17 = .ok (.athrow, 1) := by decide +kernel
theorem dX2_revisitDay_18 : decode cX2_revisitDay 18 = .ok (.iload_n 2, 1) := by decide +kernel
theorem dX2_revisitDay_19 : decode cX2_revisitDay 19 = .ok (.iconst 0, 1) := by decide +kernel
theorem dX2_revisitDay_20 : decode cX2_revisitDay 20 = .ok (.aload_n 0, 1) := by decide +kernel
theorem dX2_revisitDay_21 : decode cX2_revisitDay 21 = .ok (.getfield 10, 3) := by decide +kernel
theorem dX2_revisitDay_24 : decode cX2_revisitDay 24 = .ok (.getfield 108, 3) := by decide +kernel
theorem dX2_revisitDay_27 : decode cX2_revisitDay 27 = .ok (.iload_n 1, 1) := by decide +kernel
theorem dX2_revisitDay_28 : decode cX2_revisitDay 28 = .ok (.iaload, 1) := by decide +kernel
theorem dX2_revisitDay_29 : decode cX2_revisitDay 29 = .ok (.iconst 1, 1) := by decide +kernel
theorem dX2_revisitDay_30 : decode cX2_revisitDay 30 = .ok (.isub, 1) := by decide +kernel
theorem dX2_revisitDay_31 : decode cX2_revisitDay 31 = .ok (.invokestatic 30, 3) := by decide +kernel
theorem dX2_revisitDay_34 : decode cX2_revisitDay 34 = .ok (.ifCond .ne 13, 3) := by decide +kernel
theorem dX2_revisitDay_37 : decode cX2_revisitDay 37 = .ok (.new 67, 3) := by decide +kernel
theorem dX2_revisitDay_40 : decode cX2_revisitDay 40 = .ok (.dup, 1) := by decide +kernel
theorem dX2_revisitDay_41 : decode cX2_revisitDay 41 = .ok (.ldc 141, 2) := by decide +kernel
theorem dX2_revisitDay_43 : decode cX2_revisitDay 43 = .ok (.invokespecial 71, 3) := by decide +kernel
theorem dX2_revisitDay_46 : decode cX2_revisitDay 46 = .ok (.athrow, 1) := by decide +kernel
theorem dX2_revisitDay_47 : decode cX2_revisitDay 47 = .ok (.aload_n 0, 1) := by decide +kernel
theorem dX2_revisitDay_48 : decode cX2_revisitDay 48 = .ok (.getfield 23, 3) := by decide +kernel
theorem dX2_revisitDay_51 : decode cX2_revisitDay 51 = .ok (.getfield 143, 3) := by decide +kernel
theorem dX2_revisitDay_54 : decode cX2_revisitDay 54 = .ok (.iload_n 1, 1) := by decide +kernel
theorem dX2_revisitDay_55 : decode cX2_revisitDay 55 = .ok (.iconst 3, 1) := by decide +kernel
theorem dX2_revisitDay_56 : decode cX2_revisitDay 56 = .ok (.imul, 1) := by decide +kernel
theorem dX2_revisitDay_57 : decode cX2_revisitDay 57 = .ok (.iload_n 2, 1) := by decide +kernel
theorem dX2_revisitDay_58 : decode cX2_revisitDay 58 = .ok (.iadd, 1) := by decide +kernel
theorem dX2_revisitDay_59 : decode cX2_revisitDay 59 = .ok (.iaload, 1) := by decide +kernel
theorem dX2_revisitDay_60 : decode cX2_revisitDay 60 = .ok (.ireturn, 1) := by decide +kernel
theorem dX2_laid_0 : decode cX2_laid 0 = .ok (.aload_n 0, 1) := by decide +kernel
theorem dX2_laid_1 : decode cX2_laid 1 = .ok (.getfield 23, 3) := by decide +kernel
theorem dX2_laid_4 : decode cX2_laid 4 = .ok (.getfield 146, 3) := by decide +kernel
theorem dX2_laid_7 : decode cX2_laid 7 = .ok (.ireturn, 1) := by decide +kernel
theorem dX2_late_0 : decode cX2_late 0 = .ok (.aload_n 0, 1) := by decide +kernel
theorem dX2_late_1 : decode cX2_late 1 = .ok (.getfield 23, 3) := by decide +kernel
theorem dX2_late_4 : decode cX2_late 4 = .ok (.getfield 149, 3) := by decide +kernel
theorem dX2_late_7 : decode cX2_late 7 = .ok (.ireturn, 1) := by decide +kernel
theorem dX2_lastDay_0 : decode cX2_lastDay 0 = .ok (.aload_n 0, 1) := by decide +kernel
theorem dX2_lastDay_1 : decode cX2_lastDay 1 = .ok (.getfield 23, 3) := by decide +kernel
theorem dX2_lastDay_4 : decode cX2_lastDay 4 = .ok (.getfield 152, 3) := by decide +kernel
theorem dX2_lastDay_7 : decode cX2_lastDay 7 = .ok (.ireturn, 1) := by decide +kernel
set_option maxRecDepth 20000 in
theorem ggX2_worthwhile_X2_isWithin : GoodIn wsX2_worthwhile wsX2_isWithin := goodIn_r _ [7] (by decide +kernel) (by decide +kernel)
set_option maxRecDepth 20000 in
theorem gX2_worthwhile_X2_isWithin : GoodIn wsX2_worthwhile (va_wsS RX2 30 yX2_isWithin wsX2_isWithin) := goodIn_app (goodIn_of _ (by decide +kernel)) ggX2_worthwhile_X2_isWithin
set_option maxRecDepth 20000 in
theorem ggX2_worthwhile_X1_bestSet : GoodIn wsX2_worthwhile wsX1_bestSet := goodIn_r _ [12, 13, 14, 15, 16, 11, 17, 18, 19, 6, 20, 21, 22, 23, 24, 25, 26, 27, 28, 29, 30, 31, 32, 33, 34, 35, 36, 41, 42, 43, 44, 45, 46, 47, 48, 49] (by decide +kernel) (by decide +kernel)
set_option maxRecDepth 20000 in
theorem gX2_worthwhile_X1_bestSet : GoodIn wsX2_worthwhile (wsV RX2 157 RX1 yX1_bestSet wsX1_bestSet) := goodIn_app (goodIn_of _ (by decide +kernel)) ggX2_worthwhile_X1_bestSet
theorem dX2_worthwhile_0 : decode cX2_worthwhile 0 = .ok (.iload_n 1, 1) := by decide +kernel
theorem dX2_worthwhile_1 : decode cX2_worthwhile 1 = .ok (.iconst 0, 1) := by decide +kernel
theorem dX2_worthwhile_2 : decode cX2_worthwhile 2 = .ok (.bipush 99, 2) := by decide +kernel
theorem dX2_worthwhile_4 : decode cX2_worthwhile 4 = .ok (.invokestatic 30, 3) := by decide +kernel
theorem dX2_worthwhile_7 : decode cX2_worthwhile 7 = .ok (.ifCond .ne 13, 3) := by decide +kernel
theorem dX2_worthwhile_10 : decode cX2_worthwhile 10 = .ok (.new 34, 3) := by decide +kernel
theorem dX2_worthwhile_13 : decode cX2_worthwhile 13 = .ok (.dup, 1) := by decide +kernel
theorem dX2_worthwhile_14 : decode cX2_worthwhile 14 = .ok (.ldc 155, 2) := by decide +kernel
theorem dX2_worthwhile_16 : decode cX2_worthwhile 16 = .ok (.invokespecial 38, 3) := by decide +kernel
theorem dX2_worthwhile_19 : decode cX2_worthwhile 19 = .ok (.athrow, 1) := by decide +kernel
theorem dX2_worthwhile_20 : decode cX2_worthwhile 20 = .ok (.aload_n 0, 1) := by decide +kernel
theorem dX2_worthwhile_21 : decode cX2_worthwhile 21 = .ok (.getfield 10, 3) := by decide +kernel
theorem dX2_worthwhile_24 : decode cX2_worthwhile 24 = .ok (.iload_n 1, 1) := by decide +kernel
theorem dX2_worthwhile_25 : decode cX2_worthwhile 25 = .ok (.invokevirtual 157, 3) := by decide +kernel
theorem dX2_worthwhile_28 : decode cX2_worthwhile 28 = .ok (.ireturn, 1) := by decide +kernel
set_option maxRecDepth 20000 in
theorem ggX2_bestNet_X2_isWithin : GoodIn wsX2_bestNet wsX2_isWithin := goodIn_r _ [7] (by decide +kernel) (by decide +kernel)
set_option maxRecDepth 20000 in
theorem gX2_bestNet_X2_isWithin : GoodIn wsX2_bestNet (va_wsS RX2 30 yX2_isWithin wsX2_isWithin) := goodIn_app (goodIn_of _ (by decide +kernel)) ggX2_bestNet_X2_isWithin
set_option maxRecDepth 20000 in
theorem ggX2_bestNet_X1_bestSet : GoodIn wsX2_bestNet wsX1_bestSet := goodIn_r _ [12, 13, 14, 15, 16, 11, 17, 18, 19, 6, 20, 21, 22, 23, 24, 25, 26, 27, 28, 29, 30, 31, 32, 33, 34, 35, 36, 42, 43, 44, 45, 46, 47, 48, 49, 50] (by decide +kernel) (by decide +kernel)
set_option maxRecDepth 20000 in
theorem gX2_bestNet_X1_bestSet : GoodIn wsX2_bestNet (wsV RX2 157 RX1 yX1_bestSet wsX1_bestSet) := goodIn_app (goodIn_of _ (by decide +kernel)) ggX2_bestNet_X1_bestSet
set_option maxRecDepth 20000 in
theorem ggX2_bestNet_X1_netOf : GoodIn wsX2_bestNet wsX1_netOf := goodIn_r _ [27, 13, 28, 29, 19, 6, 20, 42, 43, 44, 45, 46, 47, 48, 49, 50] (by decide +kernel) (by decide +kernel)
set_option maxRecDepth 20000 in
theorem gX2_bestNet_X1_netOf : GoodIn wsX2_bestNet (wsV RX2 160 RX1 yX1_netOf wsX1_netOf) := goodIn_app (goodIn_of _ (by decide +kernel)) ggX2_bestNet_X1_netOf
theorem dX2_bestNet_0 : decode cX2_bestNet 0 = .ok (.iload_n 1, 1) := by decide +kernel
theorem dX2_bestNet_1 : decode cX2_bestNet 1 = .ok (.iconst 0, 1) := by decide +kernel
theorem dX2_bestNet_2 : decode cX2_bestNet 2 = .ok (.bipush 99, 2) := by decide +kernel
theorem dX2_bestNet_4 : decode cX2_bestNet 4 = .ok (.invokestatic 30, 3) := by decide +kernel
theorem dX2_bestNet_7 : decode cX2_bestNet 7 = .ok (.ifCond .ne 13, 3) := by decide +kernel
theorem dX2_bestNet_10 : decode cX2_bestNet 10 = .ok (.new 34, 3) := by decide +kernel
theorem dX2_bestNet_13 : decode cX2_bestNet 13 = .ok (.dup, 1) := by decide +kernel
theorem dX2_bestNet_14 : decode cX2_bestNet 14 = .ok (.ldc 155, 2) := by decide +kernel
theorem dX2_bestNet_16 : decode cX2_bestNet 16 = .ok (.invokespecial 38, 3) := by decide +kernel
theorem dX2_bestNet_19 : decode cX2_bestNet 19 = .ok (.athrow, 1) := by decide +kernel
theorem dX2_bestNet_20 : decode cX2_bestNet 20 = .ok (.aload_n 0, 1) := by decide +kernel
theorem dX2_bestNet_21 : decode cX2_bestNet 21 = .ok (.getfield 10, 3) := by decide +kernel
theorem dX2_bestNet_24 : decode cX2_bestNet 24 = .ok (.aload_n 0, 1) := by decide +kernel
theorem dX2_bestNet_25 : decode cX2_bestNet 25 = .ok (.getfield 10, 3) := by decide +kernel
theorem dX2_bestNet_28 : decode cX2_bestNet 28 = .ok (.iload_n 1, 1) := by decide +kernel
theorem dX2_bestNet_29 : decode cX2_bestNet 29 = .ok (.invokevirtual 157, 3) := by decide +kernel
theorem dX2_bestNet_32 : decode cX2_bestNet 32 = .ok (.iload_n 1, 1) := by decide +kernel
theorem dX2_bestNet_33 : decode cX2_bestNet 33 = .ok (.invokevirtual 160, 3) := by decide +kernel
theorem dX2_bestNet_36 : decode cX2_bestNet 36 = .ok (.ireturn, 1) := by decide +kernel
set_option maxRecDepth 20000 in
theorem ggX2_closedSets_X1_countClosed : GoodIn wsX2_closedSets wsX1_countClosed := goodIn_r _ [6, 7, 8, 9, 10, 5, 11, 12, 13, 14, 15, 16, 17, 18, 23, 24, 25, 26, 27, 28, 29, 30, 31] (by decide +kernel) (by decide +kernel)
set_option maxRecDepth 20000 in
theorem gX2_closedSets_X1_countClosed : GoodIn wsX2_closedSets (wsV RX2 164 RX1 yX1_countClosed wsX1_countClosed) := goodIn_app (goodIn_of _ (by decide +kernel)) ggX2_closedSets_X1_countClosed
theorem dX2_closedSets_0 : decode cX2_closedSets 0 = .ok (.aload_n 0, 1) := by decide +kernel
theorem dX2_closedSets_1 : decode cX2_closedSets 1 = .ok (.getfield 10, 3) := by decide +kernel
theorem dX2_closedSets_4 : decode cX2_closedSets 4 = .ok (.invokevirtual 164, 3) := by decide +kernel
theorem dX2_closedSets_7 : decode cX2_closedSets 7 = .ok (.ireturn, 1) := by decide +kernel
set_option maxRecDepth 20000 in
theorem ggX2_isAim_X2_isWithin : GoodIn wsX2_isAim wsX2_isWithin := goodIn_r _ [5] (by decide +kernel) (by decide +kernel)
set_option maxRecDepth 20000 in
theorem gX2_isAim_X2_isWithin : GoodIn wsX2_isAim (va_wsS RX2 30 yX2_isWithin wsX2_isWithin) := goodIn_app (goodIn_of _ (by decide +kernel)) ggX2_isAim_X2_isWithin
theorem dX2_isAim_0 : decode cX2_isAim 0 = .ok (.iload_n 1, 1) := by decide +kernel
theorem dX2_isAim_1 : decode cX2_isAim 1 = .ok (.iconst 0, 1) := by decide +kernel
theorem dX2_isAim_2 : decode cX2_isAim 2 = .ok (.aload_n 0, 1) := by decide +kernel
theorem dX2_isAim_3 : decode cX2_isAim 3 = .ok (.getfield 10, 3) := by decide +kernel
theorem dX2_isAim_6 : decode cX2_isAim 6 = .ok (.getfield 47, 3) := by decide +kernel
theorem dX2_isAim_9 : decode cX2_isAim 9 = .ok (.iconst 1, 1) := by decide +kernel
theorem dX2_isAim_10 : decode cX2_isAim 10 = .ok (.isub, 1) := by decide +kernel
theorem dX2_isAim_11 : decode cX2_isAim 11 = .ok (.invokestatic 30, 3) := by decide +kernel
theorem dX2_isAim_14 : decode cX2_isAim 14 = .ok (.ireturn, 1) := by decide +kernel
set_option maxRecDepth 20000 in
theorem ggX2_planAnew_X0_lay : GoodIn wsX2_planAnew wsX0_lay := goodIn_r _ [9, 10, 11, 12, 8, 13, 14, 15, 16, 17, 18, 19, 20, 21, 22, 23, 24, 25, 26, 27, 28, 29, 30, 31, 32, 33, 34, 35, 36, 37, 38, 39, 40, 41, 42, 43, 44, 45, 46, 47, 48, 49, 50, 51, 52, 53, 54, 55, 56, 57, 58, 59, 60, 61, 62, 63, 64, 65, 66, 67, 68, 69, 74, 75, 76, 77, 78, 79, 80, 81, 82, 83, 84, 85, 86, 87, 88, 89, 90, 91] (by decide +kernel) (by decide +kernel)
set_option maxRecDepth 20000 in
theorem gX2_planAnew_X0_lay : GoodIn wsX2_planAnew (wsV RX2 168 RX0 yX0_lay wsX0_lay) := goodIn_app (goodIn_of _ (by decide +kernel)) ggX2_planAnew_X0_lay
theorem dX2_planAnew_0 : decode cX2_planAnew 0 = .ok (.aload_n 0, 1) := by decide +kernel
theorem dX2_planAnew_1 : decode cX2_planAnew 1 = .ok (.getfield 27, 3) := by decide +kernel
theorem dX2_planAnew_4 : decode cX2_planAnew 4 = .ok (.astore_n 1, 1) := by decide +kernel
theorem dX2_planAnew_5 : decode cX2_planAnew 5 = .ok (.aload_n 0, 1) := by decide +kernel
theorem dX2_planAnew_6 : decode cX2_planAnew 6 = .ok (.aload_n 0, 1) := by decide +kernel
theorem dX2_planAnew_7 : decode cX2_planAnew 7 = .ok (.getfield 23, 3) := by decide +kernel
theorem dX2_planAnew_10 : decode cX2_planAnew 10 = .ok (.putfield 27, 3) := by decide +kernel
theorem dX2_planAnew_13 : decode cX2_planAnew 13 = .ok (.aload_n 0, 1) := by decide +kernel
theorem dX2_planAnew_14 : decode cX2_planAnew 14 = .ok (.aload_n 1, 1) := by decide +kernel
theorem dX2_planAnew_15 : decode cX2_planAnew 15 = .ok (.putfield 23, 3) := by decide +kernel
theorem dX2_planAnew_18 : decode cX2_planAnew 18 = .ok (.aload_n 0, 1) := by decide +kernel
theorem dX2_planAnew_19 : decode cX2_planAnew 19 = .ok (.getfield 23, 3) := by decide +kernel
theorem dX2_planAnew_22 : decode cX2_planAnew 22 = .ok (.aload_n 0, 1) := by decide +kernel
theorem dX2_planAnew_23 : decode cX2_planAnew 23 = .ok (.getfield 10, 3) := by decide +kernel
theorem dX2_planAnew_26 : decode cX2_planAnew 26 = .ok (.aload_n 0, 1) := by decide +kernel
theorem dX2_planAnew_27 : decode cX2_planAnew 27 = .ok (.getfield 16, 3) := by decide +kernel
theorem dX2_planAnew_30 : decode cX2_planAnew 30 = .ok (.invokevirtual 168, 3) := by decide +kernel
theorem dX2_planAnew_33 : decode cX2_planAnew 33 = .ok (.return_, 1) := by decide +kernel
set_option maxRecDepth 20000 in
theorem ggX2_isDay_X2_isWithin : GoodIn wsX2_isDay wsX2_isWithin := goodIn_r _ [4] (by decide +kernel) (by decide +kernel)
set_option maxRecDepth 20000 in
theorem gX2_isDay_X2_isWithin : GoodIn wsX2_isDay (va_wsS RX2 30 yX2_isWithin wsX2_isWithin) := goodIn_app (goodIn_of _ (by decide +kernel)) ggX2_isDay_X2_isWithin
theorem dX2_isDay_0 : decode cX2_isDay 0 = .ok (.iload_n 0, 1) := by decide +kernel
theorem dX2_isDay_1 : decode cX2_isDay 1 = .ok (.iconst 0, 1) := by decide +kernel
theorem dX2_isDay_2 : decode cX2_isDay 2 = .ok (.bipush 99, 2) := by decide +kernel
theorem dX2_isDay_4 : decode cX2_isDay 4 = .ok (.invokestatic 30, 3) := by decide +kernel
theorem dX2_isDay_7 : decode cX2_isDay 7 = .ok (.ireturn, 1) := by decide +kernel
theorem dX2_isWithin_0 : decode cX2_isWithin 0 = .ok (.iload_n 0, 1) := by decide +kernel
theorem dX2_isWithin_1 : decode cX2_isWithin 1 = .ok (.iload_n 1, 1) := by decide +kernel
theorem dX2_isWithin_2 : decode cX2_isWithin 2 = .ok (.if_icmp .lt 12, 3) := by decide +kernel
theorem dX2_isWithin_5 : decode cX2_isWithin 5 = .ok (.iload_n 0, 1) := by decide +kernel
theorem dX2_isWithin_6 : decode cX2_isWithin 6 = .ok (.iload_n 2, 1) := by decide +kernel
theorem dX2_isWithin_7 : decode cX2_isWithin 7 = .ok (.if_icmp .gt 7, 3) := by decide +kernel
theorem dX2_isWithin_10 : decode cX2_isWithin 10 = .ok (.iconst 1, 1) := by decide +kernel
theorem dX2_isWithin_11 : decode cX2_isWithin 11 = .ok (.goto 4, 3) := by decide +kernel
theorem dX2_isWithin_14 : decode cX2_isWithin 14 = .ok (.iconst 0, 1) := by decide +kernel
theorem dX2_isWithin_15 : decode cX2_isWithin 15 = .ok (.ireturn, 1) := by decide +kernel
theorem dX2_has_0 : decode cX2_has 0 = .ok (.iload_n 0, 1) := by decide +kernel
theorem dX2_has_1 : decode cX2_has 1 = .ok (.iload_n 1, 1) := by decide +kernel
theorem dX2_has_2 : decode cX2_has 2 = .ok (.ishr, 1) := by decide +kernel
theorem dX2_has_3 : decode cX2_has 3 = .ok (.iconst 1, 1) := by decide +kernel
theorem dX2_has_4 : decode cX2_has 4 = .ok (.iand, 1) := by decide +kernel
theorem dX2_has_5 : decode cX2_has 5 = .ok (.iconst 1, 1) := by decide +kernel
theorem dX2_has_6 : decode cX2_has 6 = .ok (.if_icmp .ne 7, 3) := by decide +kernel
theorem dX2_has_9 : decode cX2_has 9 = .ok (.iconst 1, 1) := by decide +kernel
theorem dX2_has_10 : decode cX2_has 10 = .ok (.goto 4, 3) := by decide +kernel
theorem dX2_has_13 : decode cX2_has 13 = .ok (.iconst 0, 1) := by decide +kernel
theorem dX2_has_14 : decode cX2_has 14 = .ok (.ireturn, 1) := by decide +kernel
end
section
theorem dX3_init_0 : decode cX3_init 0 = .ok (.aload_n 0, 1) := by decide +kernel
theorem dX3_init_1 : decode cX3_init 1 = .ok (.invokespecial 1, 3) := by decide +kernel
theorem dX3_init_4 : decode cX3_init 4 = .ok (.aload_n 0, 1) := by decide +kernel
theorem dX3_init_5 : decode cX3_init 5 = .ok (.bipush 12, 2) := by decide +kernel
theorem dX3_init_7 : decode cX3_init 7 = .ok (.newarray .int, 2) := by decide +kernel
theorem dX3_init_9 : decode cX3_init 9 = .ok (.putfield 7, 3) := by decide +kernel
theorem dX3_init_12 : decode cX3_init 12 = .ok (.aload_n 0, 1) := by decide +kernel
theorem dX3_init_13 : decode cX3_init 13 = .ok (.bipush 12, 2) := by decide +kernel
theorem dX3_init_15 : decode cX3_init 15 = .ok (.newarray .int, 2) := by decide +kernel
theorem dX3_init_17 : decode cX3_init 17 = .ok (.putfield 13, 3) := by decide +kernel
theorem dX3_init_20 : decode cX3_init 20 = .ok (.aload_n 0, 1) := by decide +kernel
theorem dX3_init_21 : decode cX3_init 21 = .ok (.bipush 12, 2) := by decide +kernel
theorem dX3_init_23 : decode cX3_init 23 = .ok (.newarray .int, 2) := by decide +kernel
theorem dX3_init_25 : decode cX3_init 25 = .ok (.putfield 16, 3) := by decide +kernel
theorem dX3_init_28 : decode cX3_init 28 = .ok (.aload_n 0, 1) := by decide +kernel
theorem dX3_init_29 : decode cX3_init 29 = .ok (.bipush 12, 2) := by decide +kernel
theorem dX3_init_31 : decode cX3_init 31 = .ok (.newarray .int, 2) := by decide +kernel
theorem dX3_init_33 : decode cX3_init 33 = .ok (.putfield 19, 3) := by decide +kernel
theorem dX3_init_36 : decode cX3_init 36 = .ok (.aload_n 0, 1) := by decide +kernel
theorem dX3_init_37 : decode cX3_init 37 = .ok (.bipush 12, 2) := by decide +kernel
theorem dX3_init_39 : decode cX3_init 39 = .ok (.newarray .int, 2) := by decide +kernel
theorem dX3_init_41 : decode cX3_init 41 = .ok (.putfield 22, 3) := by decide +kernel
theorem dX3_init_44 : decode cX3_init 44 = .ok (.aload_n 0, 1) := by decide +kernel
theorem dX3_init_45 : decode cX3_init 45 = .ok (.bipush 12, 2) := by decide +kernel
theorem dX3_init_47 : decode cX3_init 47 = .ok (.newarray .int, 2) := by decide +kernel
theorem dX3_init_49 : decode cX3_init 49 = .ok (.putfield 25, 3) := by decide +kernel
theorem dX3_init_52 : decode cX3_init 52 = .ok (.aload_n 0, 1) := by decide +kernel
theorem dX3_init_53 : decode cX3_init 53 = .ok (.bipush 12, 2) := by decide +kernel
theorem dX3_init_55 : decode cX3_init 55 = .ok (.newarray .int, 2) := by decide +kernel
theorem dX3_init_57 : decode cX3_init 57 = .ok (.putfield 28, 3) := by decide +kernel
theorem dX3_init_60 : decode cX3_init 60 = .ok (.aload_n 0, 1) := by decide +kernel
theorem dX3_init_61 : decode cX3_init 61 = .ok (.bipush 100, 2) := by decide +kernel
theorem dX3_init_63 : decode cX3_init 63 = .ok (.newarray .boolean, 2) := by decide +kernel
theorem dX3_init_65 : decode cX3_init 65 = .ok (.putfield 31, 3) := by decide +kernel
theorem dX3_init_68 : decode cX3_init 68 = .ok (.aload_n 0, 1) := by decide +kernel
theorem dX3_init_69 : decode cX3_init 69 = .ok (.bipush 12, 2) := by decide +kernel
theorem dX3_init_71 : decode cX3_init 71 = .ok (.newarray .int, 2) := by decide +kernel
theorem dX3_init_73 : decode cX3_init 73 = .ok (.putfield 35, 3) := by decide +kernel
theorem dX3_init_76 : decode cX3_init 76 = .ok (.aload_n 0, 1) := by decide +kernel
theorem dX3_init_77 : decode cX3_init 77 = .ok (.bipush 100, 2) := by decide +kernel
theorem dX3_init_79 : decode cX3_init 79 = .ok (.newarray .int, 2) := by decide +kernel
theorem dX3_init_81 : decode cX3_init 81 = .ok (.putfield 38, 3) := by decide +kernel
theorem dX3_init_84 : decode cX3_init 84 = .ok (.aload_n 0, 1) := by decide +kernel
theorem dX3_init_85 : decode cX3_init 85 = .ok (.bipush 60, 2) := by decide +kernel
theorem dX3_init_87 : decode cX3_init 87 = .ok (.newarray .int, 2) := by decide +kernel
theorem dX3_init_89 : decode cX3_init 89 = .ok (.putfield 41, 3) := by decide +kernel
theorem dX3_init_92 : decode cX3_init 92 = .ok (.aload_n 0, 1) := by decide +kernel
theorem dX3_init_93 : decode cX3_init 93 = .ok (.bipush 36, 2) := by decide +kernel
theorem dX3_init_95 : decode cX3_init 95 = .ok (.newarray .int, 2) := by decide +kernel
theorem dX3_init_97 : decode cX3_init 97 = .ok (.putfield 44, 3) := by decide +kernel
theorem dX3_init_100 : decode cX3_init 100 = .ok (.aload_n 0, 1) := by decide +kernel
theorem dX3_init_101 : decode cX3_init 101 = .ok (.bipush 12, 2) := by decide +kernel
theorem dX3_init_103 : decode cX3_init 103 = .ok (.newarray .int, 2) := by decide +kernel
theorem dX3_init_105 : decode cX3_init 105 = .ok (.putfield 47, 3) := by decide +kernel
theorem dX3_init_108 : decode cX3_init 108 = .ok (.aload_n 0, 1) := by decide +kernel
theorem dX3_init_109 : decode cX3_init 109 = .ok (.bipush 12, 2) := by decide +kernel
theorem dX3_init_111 : decode cX3_init 111 = .ok (.newarray .int, 2) := by decide +kernel
theorem dX3_init_113 : decode cX3_init 113 = .ok (.putfield 50, 3) := by decide +kernel
theorem dX3_init_116 : decode cX3_init 116 = .ok (.aload_n 0, 1) := by decide +kernel
theorem dX3_init_117 : decode cX3_init 117 = .ok (.bipush 96, 2) := by decide +kernel
theorem dX3_init_119 : decode cX3_init 119 = .ok (.newarray .int, 2) := by decide +kernel
theorem dX3_init_121 : decode cX3_init 121 = .ok (.putfield 53, 3) := by decide +kernel
theorem dX3_init_124 : decode cX3_init 124 = .ok (.return_, 1) := by decide +kernel
theorem dX3_thrown_0 : decode cX3_thrown 0 = .ok (.aload_n 0, 1) := by decide +kernel
theorem dX3_thrown_1 : decode cX3_thrown 1 = .ok (.getfield 56, 3) := by decide +kernel
theorem dX3_thrown_4 : decode cX3_thrown 4 = .ok (.ireturn, 1) := by decide +kernel
theorem dX3_can_0 : decode cX3_can 0 = .ok (.aload_n 0, 1) := by decide +kernel
theorem dX3_can_1 : decode cX3_can 1 = .ok (.iload_n 1, 1) := by decide +kernel
theorem dX3_can_2 : decode cX3_can 2 = .ok (.putfield 56, 3) := by decide +kernel
theorem dX3_can_5 : decode cX3_can 5 = .ok (.iload_n 1, 1) := by decide +kernel
theorem dX3_can_6 : decode cX3_can 6 = .ok (.ifCond .ne 7, 3) := by decide +kernel
theorem dX3_can_9 : decode cX3_can 9 = .ok (.iconst 1, 1) := by decide +kernel
theorem dX3_can_10 : decode cX3_can 10 = .ok (.goto 4, 3) := by decide +kernel
theorem dX3_can_13 : decode cX3_can 13 = .ok (.iconst 0, 1) := by decide +kernel
theorem dX3_can_14 : decode cX3_can 14 = .ok (.ireturn, 1) := by decide +kernel
theorem dX3_isIn_0 : decode cX3_isIn 0 = .ok (.iload_n 0, 1) := by decide +kernel
theorem dX3_isIn_1 : decode cX3_isIn 1 = .ok (.iload_n 1, 1) := by decide +kernel
theorem dX3_isIn_2 : decode cX3_isIn 2 = .ok (.if_icmp .lt 12, 3) := by decide +kernel
theorem dX3_isIn_5 : decode cX3_isIn 5 = .ok (.iload_n 0, 1) := by decide +kernel
theorem dX3_isIn_6 : decode cX3_isIn 6 = .ok (.iload_n 2, 1) := by decide +kernel
theorem dX3_isIn_7 : decode cX3_isIn 7 = .ok (.if_icmp .gt 7, 3) := by decide +kernel
theorem dX3_isIn_10 : decode cX3_isIn 10 = .ok (.iconst 1, 1) := by decide +kernel
theorem dX3_isIn_11 : decode cX3_isIn 11 = .ok (.goto 4, 3) := by decide +kernel
theorem dX3_isIn_14 : decode cX3_isIn 14 = .ok (.iconst 0, 1) := by decide +kernel
theorem dX3_isIn_15 : decode cX3_isIn 15 = .ok (.ireturn, 1) := by decide +kernel
set_option maxRecDepth 20000 in
theorem ggX3_isAim_X3_isIn : GoodIn wsX3_isAim wsX3_isIn := goodIn_r _ [5] (by decide +kernel) (by decide +kernel)
set_option maxRecDepth 20000 in
theorem gX3_isAim_X3_isIn : GoodIn wsX3_isAim (va_wsS RX3 63 yX3_isIn wsX3_isIn) := goodIn_app (goodIn_of _ (by decide +kernel)) ggX3_isAim_X3_isIn
theorem dX3_isAim_0 : decode cX3_isAim 0 = .ok (.iload_n 1, 1) := by decide +kernel
theorem dX3_isAim_1 : decode cX3_isAim 1 = .ok (.iconst 0, 1) := by decide +kernel
theorem dX3_isAim_2 : decode cX3_isAim 2 = .ok (.aload_n 0, 1) := by decide +kernel
theorem dX3_isAim_3 : decode cX3_isAim 3 = .ok (.getfield 60, 3) := by decide +kernel
theorem dX3_isAim_6 : decode cX3_isAim 6 = .ok (.iconst 1, 1) := by decide +kernel
theorem dX3_isAim_7 : decode cX3_isAim 7 = .ok (.isub, 1) := by decide +kernel
theorem dX3_isAim_8 : decode cX3_isAim 8 = .ok (.invokestatic 63, 3) := by decide +kernel
theorem dX3_isAim_11 : decode cX3_isAim 11 = .ok (.ireturn, 1) := by decide +kernel
theorem dX3_size_0 : decode cX3_size 0 = .ok (.iconst 0, 1) := by decide +kernel
theorem dX3_size_1 : decode cX3_size 1 = .ok (.istore_n 1, 1) := by decide +kernel
theorem dX3_size_2 : decode cX3_size 2 = .ok (.iconst 0, 1) := by decide +kernel
theorem dX3_size_3 : decode cX3_size 3 = .ok (.istore_n 2, 1) := by decide +kernel
theorem dX3_size_4 : decode cX3_size 4 = .ok (.iload_n 2, 1) := by decide +kernel
theorem dX3_size_5 : decode cX3_size 5 = .ok (.bipush 12, 2) := by decide +kernel
theorem dX3_size_7 : decode cX3_size 7 = .ok (.if_icmp .ge 17, 3) := by decide +kernel
theorem dX3_size_10 : decode cX3_size 10 = .ok (.iload_n 1, 1) := by decide +kernel
theorem dX3_size_11 : decode cX3_size 11 = .ok (.iload_n 0, 1) := by decide +kernel
theorem dX3_size_12 : decode cX3_size 12 = .ok (.iload_n 2, 1) := by decide +kernel
theorem dX3_size_13 : decode cX3_size 13 = .ok (.ishr, 1) := by decide +kernel
theorem dX3_size_14 : decode cX3_size 14 = .ok (.iconst 1, 1) := by decide +kernel
theorem dX3_size_15 : decode cX3_size 15 = .ok (.iand, 1) := by decide +kernel
theorem dX3_size_16 : decode cX3_size 16 = .ok (.iadd, 1) := by decide +kernel
theorem dX3_size_17 : decode cX3_size 17 = .ok (.istore_n 1, 1) := by decide +kernel
theorem dX3_size_18 : decode cX3_size 18 = .ok (.iinc 2 1, 3) := by decide +kernel
theorem dX3_size_21 : decode cX3_size 21 = .ok (.goto (-17), 3) := by decide +kernel
theorem dX3_size_24 : decode cX3_size 24 = .ok (.iload_n 1, 1) := by decide +kernel
theorem dX3_size_25 : decode cX3_size 25 = .ok (.ireturn, 1) := by decide +kernel
set_option maxRecDepth 20000 in
theorem ggX3_aim_X3_isIn : GoodIn wsX3_aim wsX3_isIn := goodIn_r _ [10] (by decide +kernel) (by decide +kernel)
set_option maxRecDepth 20000 in
theorem gX3_aim_X3_isIn : GoodIn wsX3_aim (va_wsS RX3 63 yX3_isIn wsX3_isIn) := goodIn_app (goodIn_of _ (by decide +kernel)) ggX3_aim_X3_isIn
set_option maxRecDepth 20000 in
theorem ggX3_aim_X3_can : GoodIn wsX3_aim wsX3_can := goodIn_r _ [14, 15, 16, 17, 18, 19, 20, 21, 22, 23, 24, 25, 26, 27, 28, 29, 30, 31, 32, 33] (by decide +kernel) (by decide +kernel)
set_option maxRecDepth 20000 in
theorem gX3_aim_X3_can : GoodIn wsX3_aim (wsV RX3 67 RX3 yX3_can wsX3_can) := goodIn_app (goodIn_of _ (by decide +kernel)) ggX3_aim_X3_can
theorem dX3_aim_0 : decode cX3_aim 0 = .ok (.iload_n 1, 1) := by decide +kernel
theorem dX3_aim_1 : decode cX3_aim 1 = .ok (.iconst 1, 1) := by decide +kernel
theorem dX3_aim_2 : decode cX3_aim 2 = .ok (.iconst 5, 1) := by decide +kernel
theorem dX3_aim_3 : decode cX3_aim 3 = .ok (.invokestatic 63, 3) := by decide +kernel
theorem dX3_aim_6 : decode cX3_aim 6 = .ok (.ifCond .eq 36, 3) := by decide +kernel
theorem dX3_aim_9 : decode cX3_aim 9 = .ok (.iload_n 2, 1) := by decide +kernel
theorem dX3_aim_10 : decode cX3_aim 10 = .ok (.iconst 0, 1) := by decide +kernel
theorem dX3_aim_11 : decode cX3_aim 11 = .ok (.iconst 3, 1) := by decide +kernel
theorem dX3_aim_12 : decode cX3_aim 12 = .ok (.invokestatic 63, 3) := by decide +kernel
theorem dX3_aim_15 : decode cX3_aim 15 = .ok (.ifCond .eq 27, 3) := by decide +kernel
theorem dX3_aim_18 : decode cX3_aim 18 = .ok (.iload_n 3, 1) := by decide +kernel
theorem dX3_aim_19 : decode cX3_aim 19 = .ok (.iconst 1, 1) := by decide +kernel
theorem dX3_aim_20 : decode cX3_aim 20 = .ok (.bipush 99, 2) := by decide +kernel
theorem dX3_aim_22 : decode cX3_aim 22 = .ok (.invokestatic 63, 3) := by decide +kernel
theorem dX3_aim_25 : decode cX3_aim 25 = .ok (.ifCond .eq 17, 3) := by decide +kernel
theorem dX3_aim_28 : decode cX3_aim 28 = .ok (.iload 4, 2) := by decide +kernel
theorem dX3_aim_30 : decode cX3_aim 30 = .ok (.iconst (-1), 1) := by decide +kernel
theorem dX3_aim_31 : decode cX3_aim 31 = .ok (.iconst 2, 1) := by decide +kernel
theorem dX3_aim_32 : decode cX3_aim 32 = .ok (.invokestatic 63, 3) := by decide +kernel
theorem dX3_aim_35 : decode cX3_aim 35 = .ok (.ifCond .eq 7, 3) := by decide +kernel
theorem dX3_aim_38 : decode cX3_aim 38 = .ok (.iconst 1, 1) := by decide +kernel
theorem dX3_aim_39 : decode cX3_aim 39 = .ok (.goto 4, 3) := by decide +kernel
theorem dX3_aim_42 : decode cX3_aim 42 = .ok (.iconst 0, 1) := by decide +kernel
theorem dX3_aim_43 : decode cX3_aim 43 = .ok (.istore 5, 2) := by decide +kernel
theorem dX3_aim_45 : decode cX3_aim 45 = .ok (.aload_n 0, 1) := by decide +kernel
theorem dX3_aim_46 : decode cX3_aim 46 = .ok (.iload 5, 2) := by decide +kernel
theorem dX3_aim_48 : decode cX3_aim 48 = .ok (.ifCond .ne 7, 3) := by decide +kernel
theorem dX3_aim_51 : decode cX3_aim 51 = .ok (.iconst 1, 1) := by decide +kernel
theorem dX3_aim_52 : decode cX3_aim 52 = .ok (.goto 17, 3) := by decide +kernel
theorem dX3_aim_55 : decode cX3_aim 55 = .ok (.aload_n 0, 1) := by decide +kernel
theorem dX3_aim_56 : decode cX3_aim 56 = .ok (.getfield 60, 3) := by decide +kernel
theorem dX3_aim_59 : decode cX3_aim 59 = .ok (.bipush 12, 2) := by decide +kernel
theorem dX3_aim_61 : decode cX3_aim 61 = .ok (.if_icmp .ne 7, 3) := by decide +kernel
theorem dX3_aim_64 : decode cX3_aim 64 = .ok (.iconst 2, 1) := by decide +kernel
theorem dX3_aim_65 : decode cX3_aim 65 = .ok (.goto 4, 3) := by decide +kernel
theorem dX3_aim_68 : decode cX3_aim 68 = .ok (.iconst 0, 1) := by decide +kernel
theorem dX3_aim_69 : decode cX3_aim 69 = .ok (.invokevirtual 67, 3) := by decide +kernel
theorem dX3_aim_72 : decode cX3_aim 72 = .ok (.ifCond .ne 5, 3) := by decide +kernel
theorem dX3_aim_75 : decode cX3_aim 75 = .ok (.iconst 0, 1) := by decide +kernel
theorem dX3_aim_76 : decode cX3_aim 76 = .ok (.ireturn, 1) := by decide +kernel
theorem dX3_aim_77 : decode cX3_aim 77 = .ok (.aload_n 0, 1) := by decide +kernel
theorem dX3_aim_78 : decode cX3_aim 78 = .ok (.getfield 7, 3) := by decide +kernel
theorem dX3_aim_81 : decode cX3_aim 81 = .ok (.aload_n 0, 1) := by decide +kernel
theorem dX3_aim_82 : decode cX3_aim 82 = .ok (.getfield 60, 3) := by decide +kernel
theorem dX3_aim_85 : decode cX3_aim 85 = .ok (.iload_n 1, 1) := by decide +kernel
theorem dX3_aim_86 : decode cX3_aim 86 = .ok (.iastore, 1) := by decide +kernel
theorem dX3_aim_87 : decode cX3_aim 87 = .ok (.aload_n 0, 1) := by decide +kernel
theorem dX3_aim_88 : decode cX3_aim 88 = .ok (.getfield 13, 3) := by decide +kernel
theorem dX3_aim_91 : decode cX3_aim 91 = .ok (.aload_n 0, 1) := by decide +kernel
theorem dX3_aim_92 : decode cX3_aim 92 = .ok (.getfield 60, 3) := by decide +kernel
theorem dX3_aim_95 : decode cX3_aim 95 = .ok (.iload_n 2, 1) := by decide +kernel
theorem dX3_aim_96 : decode cX3_aim 96 = .ok (.iastore, 1) := by decide +kernel
theorem dX3_aim_97 : decode cX3_aim 97 = .ok (.aload_n 0, 1) := by decide +kernel
theorem dX3_aim_98 : decode cX3_aim 98 = .ok (.getfield 16, 3) := by decide +kernel
theorem dX3_aim_101 : decode cX3_aim 101 = .ok (.aload_n 0, 1) := by decide +kernel
theorem dX3_aim_102 : decode cX3_aim 102 = .ok (.getfield 60, 3) := by decide +kernel
theorem dX3_aim_105 : decode cX3_aim 105 = .ok (.iload_n 3, 1) := by decide +kernel
theorem dX3_aim_106 : decode cX3_aim 106 = .ok (.iastore, 1) := by decide +kernel
theorem dX3_aim_107 : decode cX3_aim 107 = .ok (.aload_n 0, 1) := by decide +kernel
theorem dX3_aim_108 : decode cX3_aim 108 = .ok (.getfield 19, 3) := by decide +kernel
theorem dX3_aim_111 : decode cX3_aim 111 = .ok (.aload_n 0, 1) := by decide +kernel
theorem dX3_aim_112 : decode cX3_aim 112 = .ok (.getfield 60, 3) := by decide +kernel
theorem dX3_aim_115 : decode cX3_aim 115 = .ok (.iload 4, 2) := by decide +kernel
theorem dX3_aim_117 : decode cX3_aim 117 = .ok (.iastore, 1) := by decide +kernel
theorem dX3_aim_118 : decode cX3_aim 118 = .ok (.aload_n 0, 1) := by decide +kernel
theorem dX3_aim_119 : decode cX3_aim 119 = .ok (.getfield 28, 3) := by decide +kernel
theorem dX3_aim_122 : decode cX3_aim 122 = .ok (.aload_n 0, 1) := by decide +kernel
theorem dX3_aim_123 : decode cX3_aim 123 = .ok (.getfield 60, 3) := by decide +kernel
theorem dX3_aim_126 : decode cX3_aim 126 = .ok (.iconst 1, 1) := by decide +kernel
theorem dX3_aim_127 : decode cX3_aim 127 = .ok (.iastore, 1) := by decide +kernel
theorem dX3_aim_128 : decode cX3_aim 128 = .ok (.aload_n 0, 1) := by decide +kernel
theorem dX3_aim_129 : decode cX3_aim 129 = .ok (.dup, 1) := by decide +kernel
theorem dX3_aim_130 : decode cX3_aim 130 = .ok (.getfield 60, 3) := by decide +kernel
theorem dX3_aim_133 : decode cX3_aim 133 = .ok (.iconst 1, 1) := by decide +kernel
theorem dX3_aim_134 : decode cX3_aim 134 = .ok (.iadd, 1) := by decide +kernel
theorem dX3_aim_135 : decode cX3_aim 135 = .ok (.putfield 60, 3) := by decide +kernel
theorem dX3_aim_138 : decode cX3_aim 138 = .ok (.aload_n 0, 1) := by decide +kernel
theorem dX3_aim_139 : decode cX3_aim 139 = .ok (.getfield 60, 3) := by decide +kernel
theorem dX3_aim_142 : decode cX3_aim 142 = .ok (.iconst 1, 1) := by decide +kernel
theorem dX3_aim_143 : decode cX3_aim 143 = .ok (.isub, 1) := by decide +kernel
theorem dX3_aim_144 : decode cX3_aim 144 = .ok (.ireturn, 1) := by decide +kernel
theorem dX3_reached_0 : decode cX3_reached 0 = .ok (.aload_n 0, 1) := by decide +kernel
theorem dX3_reached_1 : decode cX3_reached 1 = .ok (.getfield 22, 3) := by decide +kernel
theorem dX3_reached_4 : decode cX3_reached 4 = .ok (.iload_n 1, 1) := by decide +kernel
theorem dX3_reached_5 : decode cX3_reached 5 = .ok (.iaload, 1) := by decide +kernel
theorem dX3_reached_6 : decode cX3_reached 6 = .ok (.istore_n 2, 1) := by decide +kernel
theorem dX3_reached_7 : decode cX3_reached 7 = .ok (.iconst 0, 1) := by decide +kernel
theorem dX3_reached_8 : decode cX3_reached 8 = .ok (.istore_n 3, 1) := by decide +kernel
theorem dX3_reached_9 : decode cX3_reached 9 = .ok (.iload_n 2, 1) := by decide +kernel
theorem dX3_reached_10 : decode cX3_reached 10 = .ok (.iload_n 3, 1) := by decide +kernel
theorem dX3_reached_11 : decode cX3_reached 11 = .ok (.if_icmp .eq 50, 3) := by decide +kernel
theorem dX3_reached_14 : decode cX3_reached 14 = .ok (.iload_n 2, 1) := by decide +kernel
theorem dX3_reached_15 : decode cX3_reached 15 = .ok (.istore_n 3, 1) := by decide +kernel
theorem dX3_reached_16 : decode cX3_reached 16 = .ok (.iconst 0, 1) := by decide +kernel
theorem dX3_reached_17 : decode cX3_reached 17 = .ok (.istore 4, 2) := by decide +kernel
theorem dX3_reached_19 : decode cX3_reached 19 = .ok (.iload 4, 2) := by decide +kernel
theorem dX3_reached_21 : decode cX3_reached 21 = .ok (.aload_n 0, 1) := by decide +kernel
theorem dX3_reached_22 : decode cX3_reached 22 = .ok (.getfield 60, 3) := by decide +kernel
theorem dX3_reached_25 : decode cX3_reached 25 = .ok (.if_icmp .ge 33, 3) := by decide +kernel
theorem dX3_reached_28 : decode cX3_reached 28 = .ok (.iload_n 2, 1) := by decide +kernel
theorem dX3_reached_29 : decode cX3_reached 29 = .ok (.iload_n 3, 1) := by decide +kernel
theorem dX3_reached_30 : decode cX3_reached 30 = .ok (.iload 4, 2) := by decide +kernel
theorem dX3_reached_32 : decode cX3_reached 32 = .ok (.ishr, 1) := by decide +kernel
theorem dX3_reached_33 : decode cX3_reached 33 = .ok (.iconst 1, 1) := by decide +kernel
theorem dX3_reached_34 : decode cX3_reached 34 = .ok (.iand, 1) := by decide +kernel
theorem dX3_reached_35 : decode cX3_reached 35 = .ok (.iconst 1, 1) := by decide +kernel
theorem dX3_reached_36 : decode cX3_reached 36 = .ok (.if_icmp .ne 13, 3) := by decide +kernel
theorem dX3_reached_39 : decode cX3_reached 39 = .ok (.aload_n 0, 1) := by decide +kernel
theorem dX3_reached_40 : decode cX3_reached 40 = .ok (.getfield 22, 3) := by decide +kernel
theorem dX3_reached_43 : decode cX3_reached 43 = .ok (.iload 4, 2) := by decide +kernel
theorem dX3_reached_45 : decode cX3_reached 45 = .ok (.iaload, 1) := by decide +kernel
theorem dX3_reached_46 : decode cX3_reached 46 = .ok (.goto 4, 3) := by decide +kernel
theorem dX3_reached_49 : decode cX3_reached 49 = .ok (.iconst 0, 1) := by decide +kernel
theorem dX3_reached_50 : decode cX3_reached 50 = .ok (.ior, 1) := by decide +kernel
theorem dX3_reached_51 : decode cX3_reached 51 = .ok (.istore_n 2, 1) := by decide +kernel
theorem dX3_reached_52 : decode cX3_reached 52 = .ok (.iinc 4 1, 3) := by decide +kernel
theorem dX3_reached_55 : decode cX3_reached 55 = .ok (.goto (-36), 3) := by decide +kernel
theorem dX3_reached_58 : decode cX3_reached 58 = .ok (.goto (-49), 3) := by decide +kernel
theorem dX3_reached_61 : decode cX3_reached 61 = .ok (.iload_n 2, 1) := by decide +kernel
theorem dX3_reached_62 : decode cX3_reached 62 = .ok (.ireturn, 1) := by decide +kernel
theorem dX3_hasNeed_0 : decode cX3_hasNeed 0 = .ok (.aload_n 0, 1) := by decide +kernel
theorem dX3_hasNeed_1 : decode cX3_hasNeed 1 = .ok (.getfield 22, 3) := by decide +kernel
theorem dX3_hasNeed_4 : decode cX3_hasNeed 4 = .ok (.iload_n 1, 1) := by decide +kernel
theorem dX3_hasNeed_5 : decode cX3_hasNeed 5 = .ok (.iaload, 1) := by decide +kernel
theorem dX3_hasNeed_6 : decode cX3_hasNeed 6 = .ok (.iload_n 2, 1) := by decide +kernel
theorem dX3_hasNeed_7 : decode cX3_hasNeed 7 = .ok (.ishr, 1) := by decide +kernel
theorem dX3_hasNeed_8 : decode cX3_hasNeed 8 = .ok (.iconst 1, 1) := by decide +kernel
theorem dX3_hasNeed_9 : decode cX3_hasNeed 9 = .ok (.iand, 1) := by decide +kernel
theorem dX3_hasNeed_10 : decode cX3_hasNeed 10 = .ok (.iconst 1, 1) := by decide +kernel
theorem dX3_hasNeed_11 : decode cX3_hasNeed 11 = .ok (.if_icmp .ne 7, 3) := by decide +kernel
theorem dX3_hasNeed_14 : decode cX3_hasNeed 14 = .ok (.iconst 1, 1) := by decide +kernel
theorem dX3_hasNeed_15 : decode cX3_hasNeed 15 = .ok (.goto 4, 3) := by decide +kernel
theorem dX3_hasNeed_18 : decode cX3_hasNeed 18 = .ok (.iconst 0, 1) := by decide +kernel
theorem dX3_hasNeed_19 : decode cX3_hasNeed 19 = .ok (.ireturn, 1) := by decide +kernel
set_option maxRecDepth 20000 in
theorem ggX3_need_X3_isAim : GoodIn wsX3_need wsX3_isAim := goodIn_r _ [6, 7, 8, 9, 5, 10, 27, 28, 29, 30, 31, 32, 33, 34, 35, 36, 37, 38, 39, 40, 41, 42, 43, 44] (by decide +kernel) (by decide +kernel)
set_option maxRecDepth 20000 in
theorem gX3_need_X3_isAim : GoodIn wsX3_need (wsV RX3 71 RX3 yX3_isAim wsX3_isAim) := goodIn_app (goodIn_of _ (by decide +kernel)) ggX3_need_X3_isAim
set_option maxRecDepth 20000 in
theorem ggX3_need_X3_hasNeed : GoodIn wsX3_need wsX3_hasNeed := goodIn_r _ [14, 1, 27, 28, 29, 30, 31, 32, 33, 34, 35, 36, 37, 38, 39, 40, 41, 42, 43, 44] (by decide +kernel) (by decide +kernel)
set_option maxRecDepth 20000 in
theorem gX3_need_X3_hasNeed : GoodIn wsX3_need (wsV RX3 74 RX3 yX3_hasNeed wsX3_hasNeed) := goodIn_app (goodIn_of _ (by decide +kernel)) ggX3_need_X3_hasNeed
set_option maxRecDepth 20000 in
theorem ggX3_need_X3_reached : GoodIn wsX3_need wsX3_reached := goodIn_r _ [18, 1, 7, 27, 28, 29, 30, 31, 32, 33, 34, 35, 36, 37, 38, 39, 40, 41, 42, 43, 44] (by decide +kernel) (by decide +kernel)
set_option maxRecDepth 20000 in
theorem gX3_need_X3_reached : GoodIn wsX3_need (wsV RX3 78 RX3 yX3_reached wsX3_reached) := goodIn_app (goodIn_of _ (by decide +kernel)) ggX3_need_X3_reached
set_option maxRecDepth 20000 in
theorem ggX3_need_X3_can : GoodIn wsX3_need wsX3_can := goodIn_r _ [22, 23, 27, 28, 29, 30, 31, 32, 33, 34, 35, 36, 37, 38, 39, 40, 41, 42, 43, 44] (by decide +kernel) (by decide +kernel)
set_option maxRecDepth 20000 in
theorem gX3_need_X3_can : GoodIn wsX3_need (wsV RX3 67 RX3 yX3_can wsX3_can) := goodIn_app (goodIn_of _ (by decide +kernel)) ggX3_need_X3_can
set_option maxRecDepth 20000 in
theorem ggX3_need_X3_size : GoodIn wsX3_need wsX3_size := goodIn_r _ [26] (by decide +kernel) (by decide +kernel)
set_option maxRecDepth 20000 in
theorem gX3_need_X3_size : GoodIn wsX3_need (va_wsS RX3 82 yX3_size wsX3_size) := goodIn_app (goodIn_of _ (by decide +kernel)) ggX3_need_X3_size
theorem dX3_need_0 : decode cX3_need 0 = .ok (.aload_n 0, 1) := by decide +kernel
theorem dX3_need_1 : decode cX3_need 1 = .ok (.iload_n 1, 1) := by decide +kernel
theorem dX3_need_2 : decode cX3_need 2 = .ok (.invokevirtual 71, 3) := by decide +kernel
theorem dX3_need_5 : decode cX3_need 5 = .ok (.ifCond .eq 15, 3) := by decide +kernel
theorem dX3_need_8 : decode cX3_need 8 = .ok (.aload_n 0, 1) := by decide +kernel
theorem dX3_need_9 : decode cX3_need 9 = .ok (.iload_n 2, 1) := by decide +kernel
theorem dX3_need_10 : decode cX3_need 10 = .ok (.invokevirtual 71, 3) := by decide +kernel
theorem dX3_need_13 : decode cX3_need 13 = .ok (.ifCond .eq 7, 3) := by decide +kernel
theorem dX3_need_16 : decode cX3_need 16 = .ok (.iconst 1, 1) := by decide +kernel
theorem dX3_need_17 : decode cX3_need 17 = .ok (.goto 4, 3) := by decide +kernel
theorem dX3_need_20 : decode cX3_need 20 = .ok (.iconst 0, 1) := by decide +kernel
theorem dX3_need_21 : decode cX3_need 21 = .ok (.istore_n 3, 1) := by decide +kernel
theorem dX3_need_22 : decode cX3_need 22 = .ok (.aload_n 0, 1) := by decide +kernel
theorem dX3_need_23 : decode cX3_need 23 = .ok (.iload_n 3, 1) := by decide +kernel
theorem dX3_need_24 : decode cX3_need 24 = .ok (.ifCond .ne 7, 3) := by decide +kernel
theorem dX3_need_27 : decode cX3_need 27 = .ok (.iconst 1, 1) := by decide +kernel
theorem dX3_need_28 : decode cX3_need 28 = .ok (.goto 39, 3) := by decide +kernel
theorem dX3_need_31 : decode cX3_need 31 = .ok (.iload_n 1, 1) := by decide +kernel
theorem dX3_need_32 : decode cX3_need 32 = .ok (.iload_n 2, 1) := by decide +kernel
theorem dX3_need_33 : decode cX3_need 33 = .ok (.if_icmp .ne 7, 3) := by decide +kernel
theorem dX3_need_36 : decode cX3_need 36 = .ok (.iconst 2, 1) := by decide +kernel
theorem dX3_need_37 : decode cX3_need 37 = .ok (.goto 30, 3) := by decide +kernel
theorem dX3_need_40 : decode cX3_need 40 = .ok (.aload_n 0, 1) := by decide +kernel
theorem dX3_need_41 : decode cX3_need 41 = .ok (.iload_n 1, 1) := by decide +kernel
theorem dX3_need_42 : decode cX3_need 42 = .ok (.iload_n 2, 1) := by decide +kernel
theorem dX3_need_43 : decode cX3_need 43 = .ok (.invokevirtual 74, 3) := by decide +kernel
theorem dX3_need_46 : decode cX3_need 46 = .ok (.ifCond .ne 16, 3) := by decide +kernel
theorem dX3_need_49 : decode cX3_need 49 = .ok (.aload_n 0, 1) := by decide +kernel
theorem dX3_need_50 : decode cX3_need 50 = .ok (.iload_n 2, 1) := by decide +kernel
theorem dX3_need_51 : decode cX3_need 51 = .ok (.invokevirtual 78, 3) := by decide +kernel
theorem dX3_need_54 : decode cX3_need 54 = .ok (.iload_n 1, 1) := by decide +kernel
theorem dX3_need_55 : decode cX3_need 55 = .ok (.ishr, 1) := by decide +kernel
theorem dX3_need_56 : decode cX3_need 56 = .ok (.iconst 1, 1) := by decide +kernel
theorem dX3_need_57 : decode cX3_need 57 = .ok (.iand, 1) := by decide +kernel
theorem dX3_need_58 : decode cX3_need 58 = .ok (.iconst 1, 1) := by decide +kernel
theorem dX3_need_59 : decode cX3_need 59 = .ok (.if_icmp .ne 7, 3) := by decide +kernel
theorem dX3_need_62 : decode cX3_need 62 = .ok (.iconst 3, 1) := by decide +kernel
theorem dX3_need_63 : decode cX3_need 63 = .ok (.goto 4, 3) := by decide +kernel
theorem dX3_need_66 : decode cX3_need 66 = .ok (.iconst 0, 1) := by decide +kernel
theorem dX3_need_67 : decode cX3_need 67 = .ok (.invokevirtual 67, 3) := by decide +kernel
theorem dX3_need_70 : decode cX3_need 70 = .ok (.ifCond .ne 5, 3) := by decide +kernel
theorem dX3_need_73 : decode cX3_need 73 = .ok (.iconst 0, 1) := by decide +kernel
theorem dX3_need_74 : decode cX3_need 74 = .ok (.ireturn, 1) := by decide +kernel
theorem dX3_need_75 : decode cX3_need 75 = .ok (.aload_n 0, 1) := by decide +kernel
theorem dX3_need_76 : decode cX3_need 76 = .ok (.getfield 22, 3) := by decide +kernel
theorem dX3_need_79 : decode cX3_need 79 = .ok (.iload_n 1, 1) := by decide +kernel
theorem dX3_need_80 : decode cX3_need 80 = .ok (.dup2, 1) := by decide +kernel
theorem dX3_need_81 : decode cX3_need 81 = .ok (.iaload, 1) := by decide +kernel
theorem dX3_need_82 : decode cX3_need 82 = .ok (.iconst 1, 1) := by decide +kernel
theorem dX3_need_83 : decode cX3_need 83 = .ok (.iload_n 2, 1) := by decide +kernel
theorem dX3_need_84 : decode cX3_need 84 = .ok (.ishl, 1) := by decide +kernel
theorem dX3_need_85 : decode cX3_need 85 = .ok (.ior, 1) := by decide +kernel
theorem dX3_need_86 : decode cX3_need 86 = .ok (.iastore, 1) := by decide +kernel
theorem dX3_need_87 : decode cX3_need 87 = .ok (.aload_n 0, 1) := by decide +kernel
theorem dX3_need_88 : decode cX3_need 88 = .ok (.getfield 22, 3) := by decide +kernel
theorem dX3_need_91 : decode cX3_need 91 = .ok (.iload_n 1, 1) := by decide +kernel
theorem dX3_need_92 : decode cX3_need 92 = .ok (.iaload, 1) := by decide +kernel
theorem dX3_need_93 : decode cX3_need 93 = .ok (.invokestatic 82, 3) := by decide +kernel
theorem dX3_need_96 : decode cX3_need 96 = .ok (.ireturn, 1) := by decide +kernel
set_option maxRecDepth 20000 in
theorem ggX3_free_X3_isAim : GoodIn wsX3_free wsX3_isAim := goodIn_r _ [6, 7, 8, 9, 5, 10, 23, 24, 25, 26, 27, 28, 29, 30, 31, 32, 33, 34, 35, 36, 37, 38, 39, 40] (by decide +kernel) (by decide +kernel)
set_option maxRecDepth 20000 in
theorem gX3_free_X3_isAim : GoodIn wsX3_free (wsV RX3 71 RX3 yX3_isAim wsX3_isAim) := goodIn_app (goodIn_of _ (by decide +kernel)) ggX3_free_X3_isAim
set_option maxRecDepth 20000 in
theorem ggX3_free_X3_hasNeed : GoodIn wsX3_free wsX3_hasNeed := goodIn_r _ [14, 1, 23, 24, 25, 26, 27, 28, 29, 30, 31, 32, 33, 34, 35, 36, 37, 38, 39, 40] (by decide +kernel) (by decide +kernel)
set_option maxRecDepth 20000 in
theorem gX3_free_X3_hasNeed : GoodIn wsX3_free (wsV RX3 74 RX3 yX3_hasNeed wsX3_hasNeed) := goodIn_app (goodIn_of _ (by decide +kernel)) ggX3_free_X3_hasNeed
set_option maxRecDepth 20000 in
theorem ggX3_free_X3_can : GoodIn wsX3_free wsX3_can := goodIn_r _ [18, 19, 23, 24, 25, 26, 27, 28, 29, 30, 31, 32, 33, 34, 35, 36, 37, 38, 39, 40] (by decide +kernel) (by decide +kernel)
set_option maxRecDepth 20000 in
theorem gX3_free_X3_can : GoodIn wsX3_free (wsV RX3 67 RX3 yX3_can wsX3_can) := goodIn_app (goodIn_of _ (by decide +kernel)) ggX3_free_X3_can
set_option maxRecDepth 20000 in
theorem ggX3_free_X3_size : GoodIn wsX3_free wsX3_size := goodIn_r _ [22] (by decide +kernel) (by decide +kernel)
set_option maxRecDepth 20000 in
theorem gX3_free_X3_size : GoodIn wsX3_free (va_wsS RX3 82 yX3_size wsX3_size) := goodIn_app (goodIn_of _ (by decide +kernel)) ggX3_free_X3_size
theorem dX3_free_0 : decode cX3_free 0 = .ok (.aload_n 0, 1) := by decide +kernel
theorem dX3_free_1 : decode cX3_free 1 = .ok (.aload_n 0, 1) := by decide +kernel
theorem dX3_free_2 : decode cX3_free 2 = .ok (.iload_n 1, 1) := by decide +kernel
theorem dX3_free_3 : decode cX3_free 3 = .ok (.invokevirtual 71, 3) := by decide +kernel
theorem dX3_free_6 : decode cX3_free 6 = .ok (.ifCond .eq 11, 3) := by decide +kernel
theorem dX3_free_9 : decode cX3_free 9 = .ok (.aload_n 0, 1) := by decide +kernel
theorem dX3_free_10 : decode cX3_free 10 = .ok (.iload_n 2, 1) := by decide +kernel
theorem dX3_free_11 : decode cX3_free 11 = .ok (.invokevirtual 71, 3) := by decide +kernel
theorem dX3_free_14 : decode cX3_free 14 = .ok (.ifCond .ne 7, 3) := by decide +kernel
theorem dX3_free_17 : decode cX3_free 17 = .ok (.iconst 1, 1) := by decide +kernel
theorem dX3_free_18 : decode cX3_free 18 = .ok (.goto 17, 3) := by decide +kernel
theorem dX3_free_21 : decode cX3_free 21 = .ok (.aload_n 0, 1) := by decide +kernel
theorem dX3_free_22 : decode cX3_free 22 = .ok (.iload_n 1, 1) := by decide +kernel
theorem dX3_free_23 : decode cX3_free 23 = .ok (.iload_n 2, 1) := by decide +kernel
theorem dX3_free_24 : decode cX3_free 24 = .ok (.invokevirtual 74, 3) := by decide +kernel
theorem dX3_free_27 : decode cX3_free 27 = .ok (.ifCond .eq 7, 3) := by decide +kernel
theorem dX3_free_30 : decode cX3_free 30 = .ok (.iconst 0, 1) := by decide +kernel
theorem dX3_free_31 : decode cX3_free 31 = .ok (.goto 4, 3) := by decide +kernel
theorem dX3_free_34 : decode cX3_free 34 = .ok (.iconst 2, 1) := by decide +kernel
theorem dX3_free_35 : decode cX3_free 35 = .ok (.invokevirtual 67, 3) := by decide +kernel
theorem dX3_free_38 : decode cX3_free 38 = .ok (.ifCond .ne 5, 3) := by decide +kernel
theorem dX3_free_41 : decode cX3_free 41 = .ok (.iconst 0, 1) := by decide +kernel
theorem dX3_free_42 : decode cX3_free 42 = .ok (.ireturn, 1) := by decide +kernel
theorem dX3_free_43 : decode cX3_free 43 = .ok (.aload_n 0, 1) := by decide +kernel
theorem dX3_free_44 : decode cX3_free 44 = .ok (.getfield 22, 3) := by decide +kernel
theorem dX3_free_47 : decode cX3_free 47 = .ok (.iload_n 1, 1) := by decide +kernel
theorem dX3_free_48 : decode cX3_free 48 = .ok (.dup2, 1) := by decide +kernel
theorem dX3_free_49 : decode cX3_free 49 = .ok (.iaload, 1) := by decide +kernel
theorem dX3_free_50 : decode cX3_free 50 = .ok (.iconst 1, 1) := by decide +kernel
theorem dX3_free_51 : decode cX3_free 51 = .ok (.iload_n 2, 1) := by decide +kernel
theorem dX3_free_52 : decode cX3_free 52 = .ok (.ishl, 1) := by decide +kernel
theorem dX3_free_53 : decode cX3_free 53 = .ok (.iconst (-1), 1) := by decide +kernel
theorem dX3_free_54 : decode cX3_free 54 = .ok (.ixor, 1) := by decide +kernel
theorem dX3_free_55 : decode cX3_free 55 = .ok (.iand, 1) := by decide +kernel
theorem dX3_free_56 : decode cX3_free 56 = .ok (.iastore, 1) := by decide +kernel
theorem dX3_free_57 : decode cX3_free 57 = .ok (.aload_n 0, 1) := by decide +kernel
theorem dX3_free_58 : decode cX3_free 58 = .ok (.getfield 22, 3) := by decide +kernel
theorem dX3_free_61 : decode cX3_free 61 = .ok (.iload_n 1, 1) := by decide +kernel
theorem dX3_free_62 : decode cX3_free 62 = .ok (.iaload, 1) := by decide +kernel
theorem dX3_free_63 : decode cX3_free 63 = .ok (.invokestatic 82, 3) := by decide +kernel
theorem dX3_free_66 : decode cX3_free 66 = .ok (.ireturn, 1) := by decide +kernel
set_option maxRecDepth 20000 in
theorem ggX3_revisits_X3_isAim : GoodIn wsX3_revisits wsX3_isAim := goodIn_r _ [7, 8, 9, 10, 6, 11, 17, 18, 19, 20, 21, 22, 23, 24, 25, 26, 27, 28, 29, 30, 31, 32, 33, 34] (by decide +kernel) (by decide +kernel)
set_option maxRecDepth 20000 in
theorem gX3_revisits_X3_isAim : GoodIn wsX3_revisits (wsV RX3 71 RX3 yX3_isAim wsX3_isAim) := goodIn_app (goodIn_of _ (by decide +kernel)) ggX3_revisits_X3_isAim
set_option maxRecDepth 20000 in
theorem ggX3_revisits_X3_isIn : GoodIn wsX3_revisits wsX3_isIn := goodIn_r _ [11] (by decide +kernel) (by decide +kernel)
set_option maxRecDepth 20000 in
theorem gX3_revisits_X3_isIn : GoodIn wsX3_revisits (va_wsS RX3 63 yX3_isIn wsX3_isIn) := goodIn_app (goodIn_of _ (by decide +kernel)) ggX3_revisits_X3_isIn
set_option maxRecDepth 20000 in
theorem ggX3_revisits_X3_can : GoodIn wsX3_revisits wsX3_can := goodIn_r _ [15, 16, 17, 18, 19, 20, 21, 22, 23, 24, 25, 26, 27, 28, 29, 30, 31, 32, 33, 34] (by decide +kernel) (by decide +kernel)
set_option maxRecDepth 20000 in
theorem gX3_revisits_X3_can : GoodIn wsX3_revisits (wsV RX3 67 RX3 yX3_can wsX3_can) := goodIn_app (goodIn_of _ (by decide +kernel)) ggX3_revisits_X3_can
theorem dX3_revisits_0 : decode cX3_revisits 0 = .ok (.aload_n 0, 1) := by decide +kernel
theorem dX3_revisits_1 : decode cX3_revisits 1 = .ok (.aload_n 0, 1) := by decide +kernel
theorem dX3_revisits_2 : decode cX3_revisits 2 = .ok (.iload_n 1, 1) := by decide +kernel
theorem dX3_revisits_3 : decode cX3_revisits 3 = .ok (.invokevirtual 71, 3) := by decide +kernel
theorem dX3_revisits_6 : decode cX3_revisits 6 = .ok (.ifCond .ne 7, 3) := by decide +kernel
theorem dX3_revisits_9 : decode cX3_revisits 9 = .ok (.iconst 1, 1) := by decide +kernel
theorem dX3_revisits_10 : decode cX3_revisits 10 = .ok (.goto 27, 3) := by decide +kernel
theorem dX3_revisits_13 : decode cX3_revisits 13 = .ok (.iload_n 2, 1) := by decide +kernel
theorem dX3_revisits_14 : decode cX3_revisits 14 = .ok (.iconst 0, 1) := by decide +kernel
theorem dX3_revisits_15 : decode cX3_revisits 15 = .ok (.iconst 3, 1) := by decide +kernel
theorem dX3_revisits_16 : decode cX3_revisits 16 = .ok (.invokestatic 63, 3) := by decide +kernel
theorem dX3_revisits_19 : decode cX3_revisits 19 = .ok (.ifCond .eq 17, 3) := by decide +kernel
theorem dX3_revisits_22 : decode cX3_revisits 22 = .ok (.iload_n 3, 1) := by decide +kernel
theorem dX3_revisits_23 : decode cX3_revisits 23 = .ok (.iconst 1, 1) := by decide +kernel
theorem dX3_revisits_24 : decode cX3_revisits 24 = .ok (.bipush 20, 2) := by decide +kernel
theorem dX3_revisits_26 : decode cX3_revisits 26 = .ok (.invokestatic 63, 3) := by decide +kernel
theorem dX3_revisits_29 : decode cX3_revisits 29 = .ok (.ifCond .eq 7, 3) := by decide +kernel
theorem dX3_revisits_32 : decode cX3_revisits 32 = .ok (.iconst 0, 1) := by decide +kernel
theorem dX3_revisits_33 : decode cX3_revisits 33 = .ok (.goto 4, 3) := by decide +kernel
theorem dX3_revisits_36 : decode cX3_revisits 36 = .ok (.iconst 2, 1) := by decide +kernel
theorem dX3_revisits_37 : decode cX3_revisits 37 = .ok (.invokevirtual 67, 3) := by decide +kernel
theorem dX3_revisits_40 : decode cX3_revisits 40 = .ok (.ifCond .ne 5, 3) := by decide +kernel
theorem dX3_revisits_43 : decode cX3_revisits 43 = .ok (.iconst 0, 1) := by decide +kernel
theorem dX3_revisits_44 : decode cX3_revisits 44 = .ok (.ireturn, 1) := by decide +kernel
theorem dX3_revisits_45 : decode cX3_revisits 45 = .ok (.aload_n 0, 1) := by decide +kernel
theorem dX3_revisits_46 : decode cX3_revisits 46 = .ok (.getfield 25, 3) := by decide +kernel
theorem dX3_revisits_49 : decode cX3_revisits 49 = .ok (.iload_n 1, 1) := by decide +kernel
theorem dX3_revisits_50 : decode cX3_revisits 50 = .ok (.iaload, 1) := by decide +kernel
theorem dX3_revisits_51 : decode cX3_revisits 51 = .ok (.istore 4, 2) := by decide +kernel
theorem dX3_revisits_53 : decode cX3_revisits 53 = .ok (.aload_n 0, 1) := by decide +kernel
theorem dX3_revisits_54 : decode cX3_revisits 54 = .ok (.getfield 25, 3) := by decide +kernel
theorem dX3_revisits_57 : decode cX3_revisits 57 = .ok (.iload_n 1, 1) := by decide +kernel
theorem dX3_revisits_58 : decode cX3_revisits 58 = .ok (.iload_n 2, 1) := by decide +kernel
theorem dX3_revisits_59 : decode cX3_revisits 59 = .ok (.iastore, 1) := by decide +kernel
theorem dX3_revisits_60 : decode cX3_revisits 60 = .ok (.aload_n 0, 1) := by decide +kernel
theorem dX3_revisits_61 : decode cX3_revisits 61 = .ok (.getfield 28, 3) := by decide +kernel
theorem dX3_revisits_64 : decode cX3_revisits 64 = .ok (.iload_n 1, 1) := by decide +kernel
theorem dX3_revisits_65 : decode cX3_revisits 65 = .ok (.iload_n 3, 1) := by decide +kernel
theorem dX3_revisits_66 : decode cX3_revisits 66 = .ok (.iastore, 1) := by decide +kernel
theorem dX3_revisits_67 : decode cX3_revisits 67 = .ok (.iload 4, 2) := by decide +kernel
theorem dX3_revisits_69 : decode cX3_revisits 69 = .ok (.ireturn, 1) := by decide +kernel
theorem dX3_aims_0 : decode cX3_aims 0 = .ok (.aload_n 0, 1) := by decide +kernel
theorem dX3_aims_1 : decode cX3_aims 1 = .ok (.iconst 0, 1) := by decide +kernel
theorem dX3_aims_2 : decode cX3_aims 2 = .ok (.putfield 56, 3) := by decide +kernel
theorem dX3_aims_5 : decode cX3_aims 5 = .ok (.aload_n 0, 1) := by decide +kernel
theorem dX3_aims_6 : decode cX3_aims 6 = .ok (.getfield 60, 3) := by decide +kernel
theorem dX3_aims_9 : decode cX3_aims 9 = .ok (.ireturn, 1) := by decide +kernel
set_option maxRecDepth 20000 in
theorem ggX3_allNeeds_X3_isAim : GoodIn wsX3_allNeeds wsX3_isAim := goodIn_r _ [5, 6, 7, 8, 4, 9, 20, 21, 22, 23, 24, 25, 26, 27, 28, 29, 30, 31, 32, 33, 34, 35, 36, 37] (by decide +kernel) (by decide +kernel)
set_option maxRecDepth 20000 in
theorem gX3_allNeeds_X3_isAim : GoodIn wsX3_allNeeds (wsV RX3 71 RX3 yX3_isAim wsX3_isAim) := goodIn_app (goodIn_of _ (by decide +kernel)) ggX3_allNeeds_X3_isAim
set_option maxRecDepth 20000 in
theorem ggX3_allNeeds_X3_can : GoodIn wsX3_allNeeds wsX3_can := goodIn_r _ [13, 14, 20, 21, 22, 23, 24, 25, 26, 27, 28, 29, 30, 31, 32, 33, 34, 35, 36, 37] (by decide +kernel) (by decide +kernel)
set_option maxRecDepth 20000 in
theorem gX3_allNeeds_X3_can : GoodIn wsX3_allNeeds (wsV RX3 67 RX3 yX3_can wsX3_can) := goodIn_app (goodIn_of _ (by decide +kernel)) ggX3_allNeeds_X3_can
set_option maxRecDepth 20000 in
theorem ggX3_allNeeds_X3_reached : GoodIn wsX3_allNeeds wsX3_reached := goodIn_r _ [18, 19, 6, 20, 21, 22, 23, 24, 25, 26, 27, 28, 29, 30, 31, 32, 33, 34, 35, 36, 37] (by decide +kernel) (by decide +kernel)
set_option maxRecDepth 20000 in
theorem gX3_allNeeds_X3_reached : GoodIn wsX3_allNeeds (wsV RX3 78 RX3 yX3_reached wsX3_reached) := goodIn_app (goodIn_of _ (by decide +kernel)) ggX3_allNeeds_X3_reached
theorem dX3_allNeeds_0 : decode cX3_allNeeds 0 = .ok (.aload_n 0, 1) := by decide +kernel
theorem dX3_allNeeds_1 : decode cX3_allNeeds 1 = .ok (.aload_n 0, 1) := by decide +kernel
theorem dX3_allNeeds_2 : decode cX3_allNeeds 2 = .ok (.iload_n 1, 1) := by decide +kernel
theorem dX3_allNeeds_3 : decode cX3_allNeeds 3 = .ok (.invokevirtual 71, 3) := by decide +kernel
theorem dX3_allNeeds_6 : decode cX3_allNeeds 6 = .ok (.ifCond .eq 7, 3) := by decide +kernel
theorem dX3_allNeeds_9 : decode cX3_allNeeds 9 = .ok (.iconst 0, 1) := by decide +kernel
theorem dX3_allNeeds_10 : decode cX3_allNeeds 10 = .ok (.goto 4, 3) := by decide +kernel
theorem dX3_allNeeds_13 : decode cX3_allNeeds 13 = .ok (.iconst 1, 1) := by decide +kernel
theorem dX3_allNeeds_14 : decode cX3_allNeeds 14 = .ok (.invokevirtual 67, 3) := by decide +kernel
theorem dX3_allNeeds_17 : decode cX3_allNeeds 17 = .ok (.ifCond .eq 11, 3) := by decide +kernel
theorem dX3_allNeeds_20 : decode cX3_allNeeds 20 = .ok (.aload_n 0, 1) := by decide +kernel
theorem dX3_allNeeds_21 : decode cX3_allNeeds 21 = .ok (.iload_n 1, 1) := by decide +kernel
theorem dX3_allNeeds_22 : decode cX3_allNeeds 22 = .ok (.invokevirtual 78, 3) := by decide +kernel
theorem dX3_allNeeds_25 : decode cX3_allNeeds 25 = .ok (.goto 4, 3) := by decide +kernel
theorem dX3_allNeeds_28 : decode cX3_allNeeds 28 = .ok (.iconst 0, 1) := by decide +kernel
theorem dX3_allNeeds_29 : decode cX3_allNeeds 29 = .ok (.ireturn, 1) := by decide +kernel
theorem dX3_orders_0 : decode cX3_orders 0 = .ok (.iconst 0, 1) := by decide +kernel
theorem dX3_orders_1 : decode cX3_orders 1 = .ok (.istore_n 1, 1) := by decide +kernel
theorem dX3_orders_2 : decode cX3_orders 2 = .ok (.iconst 0, 1) := by decide +kernel
theorem dX3_orders_3 : decode cX3_orders 3 = .ok (.istore_n 2, 1) := by decide +kernel
theorem dX3_orders_4 : decode cX3_orders 4 = .ok (.iload_n 2, 1) := by decide +kernel
theorem dX3_orders_5 : decode cX3_orders 5 = .ok (.aload_n 0, 1) := by decide +kernel
theorem dX3_orders_6 : decode cX3_orders 6 = .ok (.getfield 60, 3) := by decide +kernel
theorem dX3_orders_9 : decode cX3_orders 9 = .ok (.if_icmp .ge 167, 3) := by decide +kernel
theorem dX3_orders_12 : decode cX3_orders 12 = .ok (.iconst (-1), 1) := by decide +kernel
theorem dX3_orders_13 : decode cX3_orders 13 = .ok (.istore_n 3, 1) := by decide +kernel
theorem dX3_orders_14 : decode cX3_orders 14 = .ok (.aload_n 0, 1) := by decide +kernel
theorem dX3_orders_15 : decode cX3_orders 15 = .ok (.getfield 60, 3) := by decide +kernel
theorem dX3_orders_18 : decode cX3_orders 18 = .ok (.iconst 1, 1) := by decide +kernel
theorem dX3_orders_19 : decode cX3_orders 19 = .ok (.isub, 1) := by decide +kernel
theorem dX3_orders_20 : decode cX3_orders 20 = .ok (.istore 4, 2) := by decide +kernel
theorem dX3_orders_22 : decode cX3_orders 22 = .ok (.iload 4, 2) := by decide +kernel
theorem dX3_orders_24 : decode cX3_orders 24 = .ok (.ifCond .lt 133, 3) := by decide +kernel
theorem dX3_orders_27 : decode cX3_orders 27 = .ok (.iload_n 1, 1) := by decide +kernel
theorem dX3_orders_28 : decode cX3_orders 28 = .ok (.iload 4, 2) := by decide +kernel
theorem dX3_orders_30 : decode cX3_orders 30 = .ok (.ishr, 1) := by decide +kernel
theorem dX3_orders_31 : decode cX3_orders 31 = .ok (.iconst 1, 1) := by decide +kernel
theorem dX3_orders_32 : decode cX3_orders 32 = .ok (.iand, 1) := by decide +kernel
theorem dX3_orders_33 : decode cX3_orders 33 = .ok (.ifCond .ne 21, 3) := by decide +kernel
theorem dX3_orders_36 : decode cX3_orders 36 = .ok (.aload_n 0, 1) := by decide +kernel
theorem dX3_orders_37 : decode cX3_orders 37 = .ok (.getfield 22, 3) := by decide +kernel
theorem dX3_orders_40 : decode cX3_orders 40 = .ok (.iload 4, 2) := by decide +kernel
theorem dX3_orders_42 : decode cX3_orders 42 = .ok (.iaload, 1) := by decide +kernel
theorem dX3_orders_43 : decode cX3_orders 43 = .ok (.iload_n 1, 1) := by decide +kernel
theorem dX3_orders_44 : decode cX3_orders 44 = .ok (.iconst (-1), 1) := by decide +kernel
theorem dX3_orders_45 : decode cX3_orders 45 = .ok (.ixor, 1) := by decide +kernel
theorem dX3_orders_46 : decode cX3_orders 46 = .ok (.iand, 1) := by decide +kernel
theorem dX3_orders_47 : decode cX3_orders 47 = .ok (.ifCond .ne 7, 3) := by decide +kernel
theorem dX3_orders_50 : decode cX3_orders 50 = .ok (.iconst 1, 1) := by decide +kernel
theorem dX3_orders_51 : decode cX3_orders 51 = .ok (.goto 4, 3) := by decide +kernel
theorem dX3_orders_54 : decode cX3_orders 54 = .ok (.iconst 0, 1) := by decide +kernel
theorem dX3_orders_55 : decode cX3_orders 55 = .ok (.istore 5, 2) := by decide +kernel
theorem dX3_orders_57 : decode cX3_orders 57 = .ok (.iload_n 2, 1) := by decide +kernel
theorem dX3_orders_58 : decode cX3_orders 58 = .ok (.ifCond .le 30, 3) := by decide +kernel
theorem dX3_orders_61 : decode cX3_orders 61 = .ok (.aload_n 0, 1) := by decide +kernel
theorem dX3_orders_62 : decode cX3_orders 62 = .ok (.getfield 13, 3) := by decide +kernel
theorem dX3_orders_65 : decode cX3_orders 65 = .ok (.iload 4, 2) := by decide +kernel
theorem dX3_orders_67 : decode cX3_orders 67 = .ok (.iaload, 1) := by decide +kernel
theorem dX3_orders_68 : decode cX3_orders 68 = .ok (.aload_n 0, 1) := by decide +kernel
theorem dX3_orders_69 : decode cX3_orders 69 = .ok (.getfield 13, 3) := by decide +kernel
theorem dX3_orders_72 : decode cX3_orders 72 = .ok (.aload_n 0, 1) := by decide +kernel
theorem dX3_orders_73 : decode cX3_orders 73 = .ok (.getfield 35, 3) := by decide +kernel
theorem dX3_orders_76 : decode cX3_orders 76 = .ok (.iload_n 2, 1) := by decide +kernel
theorem dX3_orders_77 : decode cX3_orders 77 = .ok (.iconst 1, 1) := by decide +kernel
theorem dX3_orders_78 : decode cX3_orders 78 = .ok (.isub, 1) := by decide +kernel
theorem dX3_orders_79 : decode cX3_orders 79 = .ok (.iaload, 1) := by decide +kernel
theorem dX3_orders_80 : decode cX3_orders 80 = .ok (.iaload, 1) := by decide +kernel
theorem dX3_orders_81 : decode cX3_orders 81 = .ok (.if_icmp .ne 7, 3) := by decide +kernel
theorem dX3_orders_84 : decode cX3_orders 84 = .ok (.iconst 1, 1) := by decide +kernel
theorem dX3_orders_85 : decode cX3_orders 85 = .ok (.goto 4, 3) := by decide +kernel
theorem dX3_orders_88 : decode cX3_orders 88 = .ok (.iconst 0, 1) := by decide +kernel
theorem dX3_orders_89 : decode cX3_orders 89 = .ok (.istore 6, 2) := by decide +kernel
theorem dX3_orders_91 : decode cX3_orders 91 = .ok (.iload_n 3, 1) := by decide +kernel
theorem dX3_orders_92 : decode cX3_orders 92 = .ok (.iconst (-1), 1) := by decide +kernel
theorem dX3_orders_93 : decode cX3_orders 93 = .ok (.if_icmp .eq 33, 3) := by decide +kernel
theorem dX3_orders_96 : decode cX3_orders 96 = .ok (.iload_n 2, 1) := by decide +kernel
theorem dX3_orders_97 : decode cX3_orders 97 = .ok (.ifCond .le 29, 3) := by decide +kernel
theorem dX3_orders_100 : decode cX3_orders 100 = .ok (.aload_n 0, 1) := by decide +kernel
theorem dX3_orders_101 : decode cX3_orders 101 = .ok (.getfield 13, 3) := by decide +kernel
theorem dX3_orders_104 : decode cX3_orders 104 = .ok (.iload_n 3, 1) := by decide +kernel
theorem dX3_orders_105 : decode cX3_orders 105 = .ok (.iaload, 1) := by decide +kernel
theorem dX3_orders_106 : decode cX3_orders 106 = .ok (.aload_n 0, 1) := by decide +kernel
theorem dX3_orders_107 : decode cX3_orders 107 = .ok (.getfield 13, 3) := by decide +kernel
theorem dX3_orders_110 : decode cX3_orders 110 = .ok (.aload_n 0, 1) := by decide +kernel
theorem dX3_orders_111 : decode cX3_orders 111 = .ok (.getfield 35, 3) := by decide +kernel
theorem dX3_orders_114 : decode cX3_orders 114 = .ok (.iload_n 2, 1) := by decide +kernel
theorem dX3_orders_115 : decode cX3_orders 115 = .ok (.iconst 1, 1) := by decide +kernel
theorem dX3_orders_116 : decode cX3_orders 116 = .ok (.isub, 1) := by decide +kernel
theorem dX3_orders_117 : decode cX3_orders 117 = .ok (.iaload, 1) := by decide +kernel
theorem dX3_orders_118 : decode cX3_orders 118 = .ok (.iaload, 1) := by decide +kernel
theorem dX3_orders_119 : decode cX3_orders 119 = .ok (.if_icmp .ne 7, 3) := by decide +kernel
theorem dX3_orders_122 : decode cX3_orders 122 = .ok (.iconst 1, 1) := by decide +kernel
theorem dX3_orders_123 : decode cX3_orders 123 = .ok (.goto 4, 3) := by decide +kernel
theorem dX3_orders_126 : decode cX3_orders 126 = .ok (.iconst 0, 1) := by decide +kernel
theorem dX3_orders_127 : decode cX3_orders 127 = .ok (.istore 7, 2) := by decide +kernel
theorem dX3_orders_129 : decode cX3_orders 129 = .ok (.iload 5, 2) := by decide +kernel
theorem dX3_orders_131 : decode cX3_orders 131 = .ok (.ifCond .eq 18, 3) := by decide +kernel
theorem dX3_orders_134 : decode cX3_orders 134 = .ok (.iload 6, 2) := by decide +kernel
theorem dX3_orders_136 : decode cX3_orders 136 = .ok (.ifCond .ne 8, 3) := by decide +kernel
theorem dX3_orders_139 : decode cX3_orders 139 = .ok (.iload 7, 2) := by decide +kernel
theorem dX3_orders_141 : decode cX3_orders 141 = .ok (.ifCond .ne 8, 3) := by decide +kernel
theorem dX3_orders_144 : decode cX3_orders 144 = .ok (.iload 4, 2) := by decide +kernel
theorem dX3_orders_146 : decode cX3_orders 146 = .ok (.goto 4, 3) := by decide +kernel
theorem dX3_orders_149 : decode cX3_orders 149 = .ok (.iload_n 3, 1) := by decide +kernel
theorem dX3_orders_150 : decode cX3_orders 150 = .ok (.istore_n 3, 1) := by decide +kernel
theorem dX3_orders_151 : decode cX3_orders 151 = .ok (.iinc 4 (-1), 3) := by decide +kernel
theorem dX3_orders_154 : decode cX3_orders 154 = .ok (.goto (-132), 3) := by decide +kernel
theorem dX3_orders_157 : decode cX3_orders 157 = .ok (.aload_n 0, 1) := by decide +kernel
theorem dX3_orders_158 : decode cX3_orders 158 = .ok (.getfield 35, 3) := by decide +kernel
theorem dX3_orders_161 : decode cX3_orders 161 = .ok (.iload_n 2, 1) := by decide +kernel
theorem dX3_orders_162 : decode cX3_orders 162 = .ok (.iload_n 3, 1) := by decide +kernel
theorem dX3_orders_163 : decode cX3_orders 163 = .ok (.iastore, 1) := by decide +kernel
theorem dX3_orders_164 : decode cX3_orders 164 = .ok (.iload_n 1, 1) := by decide +kernel
theorem dX3_orders_165 : decode cX3_orders 165 = .ok (.iconst 1, 1) := by decide +kernel
theorem dX3_orders_166 : decode cX3_orders 166 = .ok (.iload_n 3, 1) := by decide +kernel
theorem dX3_orders_167 : decode cX3_orders 167 = .ok (.ishl, 1) := by decide +kernel
theorem dX3_orders_168 : decode cX3_orders 168 = .ok (.ior, 1) := by decide +kernel
theorem dX3_orders_169 : decode cX3_orders 169 = .ok (.istore_n 1, 1) := by decide +kernel
theorem dX3_orders_170 : decode cX3_orders 170 = .ok (.iinc 2 1, 3) := by decide +kernel
theorem dX3_orders_173 : decode cX3_orders 173 = .ok (.goto (-169), 3) := by decide +kernel
theorem dX3_orders_176 : decode cX3_orders 176 = .ok (.return_, 1) := by decide +kernel
set_option maxRecDepth 20000 in
theorem ggX3_ordered_X3_isIn : GoodIn wsX3_ordered wsX3_isIn := goodIn_r _ [6] (by decide +kernel) (by decide +kernel)
set_option maxRecDepth 20000 in
theorem gX3_ordered_X3_isIn : GoodIn wsX3_ordered (va_wsS RX3 63 yX3_isIn wsX3_isIn) := goodIn_app (goodIn_of _ (by decide +kernel)) ggX3_ordered_X3_isIn
set_option maxRecDepth 20000 in
theorem ggX3_ordered_X3_can : GoodIn wsX3_ordered wsX3_can := goodIn_r _ [10, 11, 18, 19, 20, 21, 22, 23, 24, 25, 26, 27, 28, 29, 30, 31, 32, 33, 34, 35] (by decide +kernel) (by decide +kernel)
set_option maxRecDepth 20000 in
theorem gX3_ordered_X3_can : GoodIn wsX3_ordered (wsV RX3 67 RX3 yX3_can wsX3_can) := goodIn_app (goodIn_of _ (by decide +kernel)) ggX3_ordered_X3_can
set_option maxRecDepth 20000 in
theorem ggX3_ordered_X3_orders : GoodIn wsX3_ordered wsX3_orders := goodIn_r _ [15, 1, 16, 17, 2, 18, 19, 20, 21, 22, 23, 24, 25, 26, 27, 28, 29, 30, 31, 32, 33, 34, 35] (by decide +kernel) (by decide +kernel)
set_option maxRecDepth 20000 in
theorem gX3_ordered_X3_orders : GoodIn wsX3_ordered (wsV RX3 85 RX3 yX3_orders wsX3_orders) := goodIn_app (goodIn_of _ (by decide +kernel)) ggX3_ordered_X3_orders
theorem dX3_ordered_0 : decode cX3_ordered 0 = .ok (.aload_n 0, 1) := by decide +kernel
theorem dX3_ordered_1 : decode cX3_ordered 1 = .ok (.iload_n 1, 1) := by decide +kernel
theorem dX3_ordered_2 : decode cX3_ordered 2 = .ok (.iconst 0, 1) := by decide +kernel
theorem dX3_ordered_3 : decode cX3_ordered 3 = .ok (.aload_n 0, 1) := by decide +kernel
theorem dX3_ordered_4 : decode cX3_ordered 4 = .ok (.getfield 60, 3) := by decide +kernel
theorem dX3_ordered_7 : decode cX3_ordered 7 = .ok (.iconst 1, 1) := by decide +kernel
theorem dX3_ordered_8 : decode cX3_ordered 8 = .ok (.isub, 1) := by decide +kernel
theorem dX3_ordered_9 : decode cX3_ordered 9 = .ok (.invokestatic 63, 3) := by decide +kernel
theorem dX3_ordered_12 : decode cX3_ordered 12 = .ok (.ifCond .eq 7, 3) := by decide +kernel
theorem dX3_ordered_15 : decode cX3_ordered 15 = .ok (.iconst 0, 1) := by decide +kernel
theorem dX3_ordered_16 : decode cX3_ordered 16 = .ok (.goto 4, 3) := by decide +kernel
theorem dX3_ordered_19 : decode cX3_ordered 19 = .ok (.iconst 1, 1) := by decide +kernel
theorem dX3_ordered_20 : decode cX3_ordered 20 = .ok (.invokevirtual 67, 3) := by decide +kernel
theorem dX3_ordered_23 : decode cX3_ordered 23 = .ok (.ifCond .ne 5, 3) := by decide +kernel
theorem dX3_ordered_26 : decode cX3_ordered 26 = .ok (.iconst 0, 1) := by decide +kernel
theorem dX3_ordered_27 : decode cX3_ordered 27 = .ok (.ireturn, 1) := by decide +kernel
theorem dX3_ordered_28 : decode cX3_ordered 28 = .ok (.aload_n 0, 1) := by decide +kernel
theorem dX3_ordered_29 : decode cX3_ordered 29 = .ok (.invokevirtual 85, 3) := by decide +kernel
theorem dX3_ordered_32 : decode cX3_ordered 32 = .ok (.aload_n 0, 1) := by decide +kernel
theorem dX3_ordered_33 : decode cX3_ordered 33 = .ok (.getfield 35, 3) := by decide +kernel
theorem dX3_ordered_36 : decode cX3_ordered 36 = .ok (.iload_n 1, 1) := by decide +kernel
theorem dX3_ordered_37 : decode cX3_ordered 37 = .ok (.iaload, 1) := by decide +kernel
theorem dX3_ordered_38 : decode cX3_ordered 38 = .ok (.ireturn, 1) := by decide +kernel
theorem dX3_dueOn_0 : decode cX3_dueOn 0 = .ok (.aload_n 0, 1) := by decide +kernel
theorem dX3_dueOn_1 : decode cX3_dueOn 1 = .ok (.getfield 50, 3) := by decide +kernel
theorem dX3_dueOn_4 : decode cX3_dueOn 4 = .ok (.iload_n 1, 1) := by decide +kernel
theorem dX3_dueOn_5 : decode cX3_dueOn 5 = .ok (.iaload, 1) := by decide +kernel
theorem dX3_dueOn_6 : decode cX3_dueOn 6 = .ok (.istore_n 2, 1) := by decide +kernel
theorem dX3_dueOn_7 : decode cX3_dueOn 7 = .ok (.aload_n 0, 1) := by decide +kernel
theorem dX3_dueOn_8 : decode cX3_dueOn 8 = .ok (.getfield 47, 3) := by decide +kernel
theorem dX3_dueOn_11 : decode cX3_dueOn 11 = .ok (.iload_n 1, 1) := by decide +kernel
theorem dX3_dueOn_12 : decode cX3_dueOn 12 = .ok (.iaload, 1) := by decide +kernel
theorem dX3_dueOn_13 : decode cX3_dueOn 13 = .ok (.aload_n 0, 1) := by decide +kernel
theorem dX3_dueOn_14 : decode cX3_dueOn 14 = .ok (.getfield 7, 3) := by decide +kernel
theorem dX3_dueOn_17 : decode cX3_dueOn 17 = .ok (.iload_n 1, 1) := by decide +kernel
theorem dX3_dueOn_18 : decode cX3_dueOn 18 = .ok (.iaload, 1) := by decide +kernel
theorem dX3_dueOn_19 : decode cX3_dueOn 19 = .ok (.if_icmp .lt 13, 3) := by decide +kernel
theorem dX3_dueOn_22 : decode cX3_dueOn 22 = .ok (.iload_n 2, 1) := by decide +kernel
theorem dX3_dueOn_23 : decode cX3_dueOn 23 = .ok (.aload_n 0, 1) := by decide +kernel
theorem dX3_dueOn_24 : decode cX3_dueOn 24 = .ok (.getfield 25, 3) := by decide +kernel
theorem dX3_dueOn_27 : decode cX3_dueOn 27 = .ok (.iload_n 1, 1) := by decide +kernel
theorem dX3_dueOn_28 : decode cX3_dueOn 28 = .ok (.iaload, 1) := by decide +kernel
theorem dX3_dueOn_29 : decode cX3_dueOn 29 = .ok (.if_icmp .ne 7, 3) := by decide +kernel
theorem dX3_dueOn_32 : decode cX3_dueOn 32 = .ok (.sipush 1000, 3) := by decide +kernel
theorem dX3_dueOn_35 : decode cX3_dueOn 35 = .ok (.ireturn, 1) := by decide +kernel
theorem dX3_dueOn_36 : decode cX3_dueOn 36 = .ok (.iload_n 2, 1) := by decide +kernel
theorem dX3_dueOn_37 : decode cX3_dueOn 37 = .ok (.ifCond .ne 23, 3) := by decide +kernel
theorem dX3_dueOn_40 : decode cX3_dueOn 40 = .ok (.aload_n 0, 1) := by decide +kernel
theorem dX3_dueOn_41 : decode cX3_dueOn 41 = .ok (.getfield 41, 3) := by decide +kernel
theorem dX3_dueOn_44 : decode cX3_dueOn 44 = .ok (.iconst 5, 1) := by decide +kernel
theorem dX3_dueOn_45 : decode cX3_dueOn 45 = .ok (.iload_n 1, 1) := by decide +kernel
theorem dX3_dueOn_46 : decode cX3_dueOn 46 = .ok (.imul, 1) := by decide +kernel
theorem dX3_dueOn_47 : decode cX3_dueOn 47 = .ok (.aload_n 0, 1) := by decide +kernel
theorem dX3_dueOn_48 : decode cX3_dueOn 48 = .ok (.getfield 7, 3) := by decide +kernel
theorem dX3_dueOn_51 : decode cX3_dueOn 51 = .ok (.iload_n 1, 1) := by decide +kernel
theorem dX3_dueOn_52 : decode cX3_dueOn 52 = .ok (.iaload, 1) := by decide +kernel
theorem dX3_dueOn_53 : decode cX3_dueOn 53 = .ok (.iadd, 1) := by decide +kernel
theorem dX3_dueOn_54 : decode cX3_dueOn 54 = .ok (.iconst 1, 1) := by decide +kernel
theorem dX3_dueOn_55 : decode cX3_dueOn 55 = .ok (.isub, 1) := by decide +kernel
theorem dX3_dueOn_56 : decode cX3_dueOn 56 = .ok (.iaload, 1) := by decide +kernel
theorem dX3_dueOn_57 : decode cX3_dueOn 57 = .ok (.goto 15, 3) := by decide +kernel
theorem dX3_dueOn_60 : decode cX3_dueOn 60 = .ok (.aload_n 0, 1) := by decide +kernel
theorem dX3_dueOn_61 : decode cX3_dueOn 61 = .ok (.getfield 44, 3) := by decide +kernel
theorem dX3_dueOn_64 : decode cX3_dueOn 64 = .ok (.iconst 3, 1) := by decide +kernel
theorem dX3_dueOn_65 : decode cX3_dueOn 65 = .ok (.iload_n 1, 1) := by decide +kernel
theorem dX3_dueOn_66 : decode cX3_dueOn 66 = .ok (.imul, 1) := by decide +kernel
theorem dX3_dueOn_67 : decode cX3_dueOn 67 = .ok (.iload_n 2, 1) := by decide +kernel
theorem dX3_dueOn_68 : decode cX3_dueOn 68 = .ok (.iadd, 1) := by decide +kernel
theorem dX3_dueOn_69 : decode cX3_dueOn 69 = .ok (.iconst 1, 1) := by decide +kernel
theorem dX3_dueOn_70 : decode cX3_dueOn 70 = .ok (.isub, 1) := by decide +kernel
theorem dX3_dueOn_71 : decode cX3_dueOn 71 = .ok (.iaload, 1) := by decide +kernel
theorem dX3_dueOn_72 : decode cX3_dueOn 72 = .ok (.istore_n 3, 1) := by decide +kernel
theorem dX3_dueOn_73 : decode cX3_dueOn 73 = .ok (.iload_n 3, 1) := by decide +kernel
theorem dX3_dueOn_74 : decode cX3_dueOn 74 = .ok (.aload_n 0, 1) := by decide +kernel
theorem dX3_dueOn_75 : decode cX3_dueOn 75 = .ok (.getfield 28, 3) := by decide +kernel
theorem dX3_dueOn_78 : decode cX3_dueOn 78 = .ok (.iload_n 1, 1) := by decide +kernel
theorem dX3_dueOn_79 : decode cX3_dueOn 79 = .ok (.iaload, 1) := by decide +kernel
theorem dX3_dueOn_80 : decode cX3_dueOn 80 = .ok (.iload_n 2, 1) := by decide +kernel
theorem dX3_dueOn_81 : decode cX3_dueOn 81 = .ok (.ishl, 1) := by decide +kernel
theorem dX3_dueOn_82 : decode cX3_dueOn 82 = .ok (.iadd, 1) := by decide +kernel
theorem dX3_dueOn_83 : decode cX3_dueOn 83 = .ok (.ireturn, 1) := by decide +kernel
set_option maxRecDepth 20000 in
theorem ggX3_lateFrom_X3_dueOn : GoodIn wsX3_lateFrom wsX3_dueOn := goodIn_r _ [7, 2, 8, 9, 10, 11, 12, 1, 13, 14, 15, 16, 17, 18, 19, 20, 21, 22, 23, 24, 25, 26, 27, 28, 29, 30] (by decide +kernel) (by decide +kernel)
set_option maxRecDepth 20000 in
theorem gX3_lateFrom_X3_dueOn : GoodIn wsX3_lateFrom (wsV RX3 88 RX3 yX3_dueOn wsX3_dueOn) := goodIn_app (goodIn_of _ (by decide +kernel)) ggX3_lateFrom_X3_dueOn
theorem dX3_lateFrom_0 : decode cX3_lateFrom 0 = .ok (.aload_n 0, 1) := by decide +kernel
theorem dX3_lateFrom_1 : decode cX3_lateFrom 1 = .ok (.iload_n 1, 1) := by decide +kernel
theorem dX3_lateFrom_2 : decode cX3_lateFrom 2 = .ok (.invokevirtual 88, 3) := by decide +kernel
theorem dX3_lateFrom_5 : decode cX3_lateFrom 5 = .ok (.aload_n 0, 1) := by decide +kernel
theorem dX3_lateFrom_6 : decode cX3_lateFrom 6 = .ok (.getfield 28, 3) := by decide +kernel
theorem dX3_lateFrom_9 : decode cX3_lateFrom 9 = .ok (.iload_n 1, 1) := by decide +kernel
theorem dX3_lateFrom_10 : decode cX3_lateFrom 10 = .ok (.iaload, 1) := by decide +kernel
theorem dX3_lateFrom_11 : decode cX3_lateFrom 11 = .ok (.aload_n 0, 1) := by decide +kernel
theorem dX3_lateFrom_12 : decode cX3_lateFrom 12 = .ok (.getfield 50, 3) := by decide +kernel
theorem dX3_lateFrom_15 : decode cX3_lateFrom 15 = .ok (.iload_n 1, 1) := by decide +kernel
theorem dX3_lateFrom_16 : decode cX3_lateFrom 16 = .ok (.iaload, 1) := by decide +kernel
theorem dX3_lateFrom_17 : decode cX3_lateFrom 17 = .ok (.ishl, 1) := by decide +kernel
theorem dX3_lateFrom_18 : decode cX3_lateFrom 18 = .ok (.iadd, 1) := by decide +kernel
theorem dX3_lateFrom_19 : decode cX3_lateFrom 19 = .ok (.ireturn, 1) := by decide +kernel
set_option maxRecDepth 20000 in
theorem ggX3_revisitFor_X3_dueOn : GoodIn wsX3_revisitFor wsX3_dueOn := goodIn_r _ [6, 7, 8, 9, 10, 11, 12, 13, 18, 19, 20, 21, 22, 23, 24, 25, 26, 27, 28, 29, 30, 31, 32, 33, 34, 35] (by decide +kernel) (by decide +kernel)
set_option maxRecDepth 20000 in
theorem gX3_revisitFor_X3_dueOn : GoodIn wsX3_revisitFor (wsV RX3 88 RX3 yX3_dueOn wsX3_dueOn) := goodIn_app (goodIn_of _ (by decide +kernel)) ggX3_revisitFor_X3_dueOn
set_option maxRecDepth 20000 in
theorem ggX3_revisitFor_X3_lateFrom : GoodIn wsX3_revisitFor wsX3_lateFrom := goodIn_r _ [17, 13, 7, 2, 3, 4, 5, 6, 8, 9, 10, 11, 12, 18, 19, 20, 21, 22, 23, 24, 25, 26, 27, 28, 29, 30, 31, 32, 33, 34, 35] (by decide +kernel) (by decide +kernel)
set_option maxRecDepth 20000 in
theorem gX3_revisitFor_X3_lateFrom : GoodIn wsX3_revisitFor (wsV RX3 91 RX3 yX3_lateFrom wsX3_lateFrom) := goodIn_app (goodIn_of _ (by decide +kernel)) ggX3_revisitFor_X3_lateFrom
theorem dX3_revisitFor_0 : decode cX3_revisitFor 0 = .ok (.iconst (-1), 1) := by decide +kernel
theorem dX3_revisitFor_1 : decode cX3_revisitFor 1 = .ok (.istore_n 2, 1) := by decide +kernel
theorem dX3_revisitFor_2 : decode cX3_revisitFor 2 = .ok (.iconst 0, 1) := by decide +kernel
theorem dX3_revisitFor_3 : decode cX3_revisitFor 3 = .ok (.istore_n 3, 1) := by decide +kernel
theorem dX3_revisitFor_4 : decode cX3_revisitFor 4 = .ok (.iload_n 3, 1) := by decide +kernel
theorem dX3_revisitFor_5 : decode cX3_revisitFor 5 = .ok (.aload_n 0, 1) := by decide +kernel
theorem dX3_revisitFor_6 : decode cX3_revisitFor 6 = .ok (.getfield 60, 3) := by decide +kernel
theorem dX3_revisitFor_9 : decode cX3_revisitFor 9 = .ok (.if_icmp .ge 42, 3) := by decide +kernel
theorem dX3_revisitFor_12 : decode cX3_revisitFor 12 = .ok (.aload_n 0, 1) := by decide +kernel
theorem dX3_revisitFor_13 : decode cX3_revisitFor 13 = .ok (.iload_n 3, 1) := by decide +kernel
theorem dX3_revisitFor_14 : decode cX3_revisitFor 14 = .ok (.invokevirtual 88, 3) := by decide +kernel
theorem dX3_revisitFor_17 : decode cX3_revisitFor 17 = .ok (.iload_n 1, 1) := by decide +kernel
theorem dX3_revisitFor_18 : decode cX3_revisitFor 18 = .ok (.if_icmp .gt 25, 3) := by decide +kernel
theorem dX3_revisitFor_21 : decode cX3_revisitFor 21 = .ok (.iload_n 2, 1) := by decide +kernel
theorem dX3_revisitFor_22 : decode cX3_revisitFor 22 = .ok (.iconst (-1), 1) := by decide +kernel
theorem dX3_revisitFor_23 : decode cX3_revisitFor 23 = .ok (.if_icmp .eq 16, 3) := by decide +kernel
theorem dX3_revisitFor_26 : decode cX3_revisitFor 26 = .ok (.aload_n 0, 1) := by decide +kernel
theorem dX3_revisitFor_27 : decode cX3_revisitFor 27 = .ok (.iload_n 3, 1) := by decide +kernel
theorem dX3_revisitFor_28 : decode cX3_revisitFor 28 = .ok (.invokevirtual 91, 3) := by decide +kernel
theorem dX3_revisitFor_31 : decode cX3_revisitFor 31 = .ok (.aload_n 0, 1) := by decide +kernel
theorem dX3_revisitFor_32 : decode cX3_revisitFor 32 = .ok (.iload_n 2, 1) := by decide +kernel
theorem dX3_revisitFor_33 : decode cX3_revisitFor 33 = .ok (.invokevirtual 91, 3) := by decide +kernel
theorem dX3_revisitFor_36 : decode cX3_revisitFor 36 = .ok (.if_icmp .ge 7, 3) := by decide +kernel
theorem dX3_revisitFor_39 : decode cX3_revisitFor 39 = .ok (.iload_n 3, 1) := by decide +kernel
theorem dX3_revisitFor_40 : decode cX3_revisitFor 40 = .ok (.goto 4, 3) := by decide +kernel
theorem dX3_revisitFor_43 : decode cX3_revisitFor 43 = .ok (.iload_n 2, 1) := by decide +kernel
theorem dX3_revisitFor_44 : decode cX3_revisitFor 44 = .ok (.istore_n 2, 1) := by decide +kernel
theorem dX3_revisitFor_45 : decode cX3_revisitFor 45 = .ok (.iinc 3 1, 3) := by decide +kernel
theorem dX3_revisitFor_48 : decode cX3_revisitFor 48 = .ok (.goto (-44), 3) := by decide +kernel
theorem dX3_revisitFor_51 : decode cX3_revisitFor 51 = .ok (.iload_n 2, 1) := by decide +kernel
theorem dX3_revisitFor_52 : decode cX3_revisitFor 52 = .ok (.ireturn, 1) := by decide +kernel
theorem dX3_isHeld_0 : decode cX3_isHeld 0 = .ok (.iconst 0, 1) := by decide +kernel
theorem dX3_isHeld_1 : decode cX3_isHeld 1 = .ok (.istore_n 3, 1) := by decide +kernel
theorem dX3_isHeld_2 : decode cX3_isHeld 2 = .ok (.iload_n 2, 1) := by decide +kernel
theorem dX3_isHeld_3 : decode cX3_isHeld 3 = .ok (.iconst 2, 1) := by decide +kernel
theorem dX3_isHeld_4 : decode cX3_isHeld 4 = .ok (.if_icmp .ge 7, 3) := by decide +kernel
theorem dX3_isHeld_7 : decode cX3_isHeld 7 = .ok (.iconst 0, 1) := by decide +kernel
theorem dX3_isHeld_8 : decode cX3_isHeld 8 = .ok (.goto 6, 3) := by decide +kernel
theorem dX3_isHeld_11 : decode cX3_isHeld 11 = .ok (.iload_n 2, 1) := by decide +kernel
theorem dX3_isHeld_12 : decode cX3_isHeld 12 = .ok (.iconst 2, 1) := by decide +kernel
theorem dX3_isHeld_13 : decode cX3_isHeld 13 = .ok (.isub, 1) := by decide +kernel
theorem dX3_isHeld_14 : decode cX3_isHeld 14 = .ok (.istore 4, 2) := by decide +kernel
theorem dX3_isHeld_16 : decode cX3_isHeld 16 = .ok (.iload 4, 2) := by decide +kernel
theorem dX3_isHeld_18 : decode cX3_isHeld 18 = .ok (.iload_n 2, 1) := by decide +kernel
theorem dX3_isHeld_19 : decode cX3_isHeld 19 = .ok (.if_icmp .ge 95, 3) := by decide +kernel
theorem dX3_isHeld_22 : decode cX3_isHeld 22 = .ok (.aload_n 0, 1) := by decide +kernel
theorem dX3_isHeld_23 : decode cX3_isHeld 23 = .ok (.getfield 38, 3) := by decide +kernel
theorem dX3_isHeld_26 : decode cX3_isHeld 26 = .ok (.iload 4, 2) := by decide +kernel
theorem dX3_isHeld_28 : decode cX3_isHeld 28 = .ok (.iaload, 1) := by decide +kernel
theorem dX3_isHeld_29 : decode cX3_isHeld 29 = .ok (.ifCond .lt 30, 3) := by decide +kernel
theorem dX3_isHeld_32 : decode cX3_isHeld 32 = .ok (.aload_n 0, 1) := by decide +kernel
theorem dX3_isHeld_33 : decode cX3_isHeld 33 = .ok (.getfield 38, 3) := by decide +kernel
theorem dX3_isHeld_36 : decode cX3_isHeld 36 = .ok (.iload 4, 2) := by decide +kernel
theorem dX3_isHeld_38 : decode cX3_isHeld 38 = .ok (.iaload, 1) := by decide +kernel
theorem dX3_isHeld_39 : decode cX3_isHeld 39 = .ok (.bipush 100, 2) := by decide +kernel
theorem dX3_isHeld_41 : decode cX3_isHeld 41 = .ok (.if_icmp .ge 18, 3) := by decide +kernel
theorem dX3_isHeld_44 : decode cX3_isHeld 44 = .ok (.aload_n 0, 1) := by decide +kernel
theorem dX3_isHeld_45 : decode cX3_isHeld 45 = .ok (.getfield 38, 3) := by decide +kernel
theorem dX3_isHeld_48 : decode cX3_isHeld 48 = .ok (.iload 4, 2) := by decide +kernel
theorem dX3_isHeld_50 : decode cX3_isHeld 50 = .ok (.iaload, 1) := by decide +kernel
theorem dX3_isHeld_51 : decode cX3_isHeld 51 = .ok (.iload_n 1, 1) := by decide +kernel
theorem dX3_isHeld_52 : decode cX3_isHeld 52 = .ok (.if_icmp .eq 7, 3) := by decide +kernel
theorem dX3_isHeld_55 : decode cX3_isHeld 55 = .ok (.iconst 1, 1) := by decide +kernel
theorem dX3_isHeld_56 : decode cX3_isHeld 56 = .ok (.goto 4, 3) := by decide +kernel
theorem dX3_isHeld_59 : decode cX3_isHeld 59 = .ok (.iconst 0, 1) := by decide +kernel
theorem dX3_isHeld_60 : decode cX3_isHeld 60 = .ok (.istore 5, 2) := by decide +kernel
theorem dX3_isHeld_62 : decode cX3_isHeld 62 = .ok (.iload_n 3, 1) := by decide +kernel
theorem dX3_isHeld_63 : decode cX3_isHeld 63 = .ok (.ifCond .ne 39, 3) := by decide +kernel
theorem dX3_isHeld_66 : decode cX3_isHeld 66 = .ok (.iload 5, 2) := by decide +kernel
theorem dX3_isHeld_68 : decode cX3_isHeld 68 = .ok (.ifCond .eq 38, 3) := by decide +kernel
theorem dX3_isHeld_71 : decode cX3_isHeld 71 = .ok (.aload_n 0, 1) := by decide +kernel
theorem dX3_isHeld_72 : decode cX3_isHeld 72 = .ok (.getfield 19, 3) := by decide +kernel
theorem dX3_isHeld_75 : decode cX3_isHeld 75 = .ok (.iload_n 1, 1) := by decide +kernel
theorem dX3_isHeld_76 : decode cX3_isHeld 76 = .ok (.iaload, 1) := by decide +kernel
theorem dX3_isHeld_77 : decode cX3_isHeld 77 = .ok (.iconst (-1), 1) := by decide +kernel
theorem dX3_isHeld_78 : decode cX3_isHeld 78 = .ok (.if_icmp .eq 28, 3) := by decide +kernel
theorem dX3_isHeld_81 : decode cX3_isHeld 81 = .ok (.aload_n 0, 1) := by decide +kernel
theorem dX3_isHeld_82 : decode cX3_isHeld 82 = .ok (.getfield 19, 3) := by decide +kernel
theorem dX3_isHeld_85 : decode cX3_isHeld 85 = .ok (.aload_n 0, 1) := by decide +kernel
theorem dX3_isHeld_86 : decode cX3_isHeld 86 = .ok (.getfield 38, 3) := by decide +kernel
theorem dX3_isHeld_89 : decode cX3_isHeld 89 = .ok (.iload 4, 2) := by decide +kernel
theorem dX3_isHeld_91 : decode cX3_isHeld 91 = .ok (.iaload, 1) := by decide +kernel
theorem dX3_isHeld_92 : decode cX3_isHeld 92 = .ok (.iaload, 1) := by decide +kernel
theorem dX3_isHeld_93 : decode cX3_isHeld 93 = .ok (.aload_n 0, 1) := by decide +kernel
theorem dX3_isHeld_94 : decode cX3_isHeld 94 = .ok (.getfield 19, 3) := by decide +kernel
theorem dX3_isHeld_97 : decode cX3_isHeld 97 = .ok (.iload_n 1, 1) := by decide +kernel
theorem dX3_isHeld_98 : decode cX3_isHeld 98 = .ok (.iaload, 1) := by decide +kernel
theorem dX3_isHeld_99 : decode cX3_isHeld 99 = .ok (.if_icmp .ne 7, 3) := by decide +kernel
theorem dX3_isHeld_102 : decode cX3_isHeld 102 = .ok (.iconst 1, 1) := by decide +kernel
theorem dX3_isHeld_103 : decode cX3_isHeld 103 = .ok (.goto 4, 3) := by decide +kernel
theorem dX3_isHeld_106 : decode cX3_isHeld 106 = .ok (.iconst 0, 1) := by decide +kernel
theorem dX3_isHeld_107 : decode cX3_isHeld 107 = .ok (.istore_n 3, 1) := by decide +kernel
theorem dX3_isHeld_108 : decode cX3_isHeld 108 = .ok (.iinc 4 1, 3) := by decide +kernel
theorem dX3_isHeld_111 : decode cX3_isHeld 111 = .ok (.goto (-95), 3) := by decide +kernel
theorem dX3_isHeld_114 : decode cX3_isHeld 114 = .ok (.iload_n 3, 1) := by decide +kernel
theorem dX3_isHeld_115 : decode cX3_isHeld 115 = .ok (.ireturn, 1) := by decide +kernel
theorem dX3_nextAim_0 : decode cX3_nextAim 0 = .ok (.iconst (-1), 1) := by decide +kernel
theorem dX3_nextAim_1 : decode cX3_nextAim 1 = .ok (.istore_n 1, 1) := by decide +kernel
theorem dX3_nextAim_2 : decode cX3_nextAim 2 = .ok (.aload_n 0, 1) := by decide +kernel
theorem dX3_nextAim_3 : decode cX3_nextAim 3 = .ok (.getfield 60, 3) := by decide +kernel
theorem dX3_nextAim_6 : decode cX3_nextAim 6 = .ok (.iconst 1, 1) := by decide +kernel
theorem dX3_nextAim_7 : decode cX3_nextAim 7 = .ok (.isub, 1) := by decide +kernel
theorem dX3_nextAim_8 : decode cX3_nextAim 8 = .ok (.istore_n 2, 1) := by decide +kernel
theorem dX3_nextAim_9 : decode cX3_nextAim 9 = .ok (.iload_n 2, 1) := by decide +kernel
theorem dX3_nextAim_10 : decode cX3_nextAim 10 = .ok (.ifCond .lt 45, 3) := by decide +kernel
theorem dX3_nextAim_13 : decode cX3_nextAim 13 = .ok (.aload_n 0, 1) := by decide +kernel
theorem dX3_nextAim_14 : decode cX3_nextAim 14 = .ok (.getfield 47, 3) := by decide +kernel
theorem dX3_nextAim_17 : decode cX3_nextAim 17 = .ok (.aload_n 0, 1) := by decide +kernel
theorem dX3_nextAim_18 : decode cX3_nextAim 18 = .ok (.getfield 35, 3) := by decide +kernel
theorem dX3_nextAim_21 : decode cX3_nextAim 21 = .ok (.iload_n 2, 1) := by decide +kernel
theorem dX3_nextAim_22 : decode cX3_nextAim 22 = .ok (.iaload, 1) := by decide +kernel
theorem dX3_nextAim_23 : decode cX3_nextAim 23 = .ok (.iaload, 1) := by decide +kernel
theorem dX3_nextAim_24 : decode cX3_nextAim 24 = .ok (.aload_n 0, 1) := by decide +kernel
theorem dX3_nextAim_25 : decode cX3_nextAim 25 = .ok (.getfield 7, 3) := by decide +kernel
theorem dX3_nextAim_28 : decode cX3_nextAim 28 = .ok (.aload_n 0, 1) := by decide +kernel
theorem dX3_nextAim_29 : decode cX3_nextAim 29 = .ok (.getfield 35, 3) := by decide +kernel
theorem dX3_nextAim_32 : decode cX3_nextAim 32 = .ok (.iload_n 2, 1) := by decide +kernel
theorem dX3_nextAim_33 : decode cX3_nextAim 33 = .ok (.iaload, 1) := by decide +kernel
theorem dX3_nextAim_34 : decode cX3_nextAim 34 = .ok (.iaload, 1) := by decide +kernel
theorem dX3_nextAim_35 : decode cX3_nextAim 35 = .ok (.if_icmp .ge 12, 3) := by decide +kernel
theorem dX3_nextAim_38 : decode cX3_nextAim 38 = .ok (.aload_n 0, 1) := by decide +kernel
theorem dX3_nextAim_39 : decode cX3_nextAim 39 = .ok (.getfield 35, 3) := by decide +kernel
theorem dX3_nextAim_42 : decode cX3_nextAim 42 = .ok (.iload_n 2, 1) := by decide +kernel
theorem dX3_nextAim_43 : decode cX3_nextAim 43 = .ok (.iaload, 1) := by decide +kernel
theorem dX3_nextAim_44 : decode cX3_nextAim 44 = .ok (.goto 4, 3) := by decide +kernel
theorem dX3_nextAim_47 : decode cX3_nextAim 47 = .ok (.iload_n 1, 1) := by decide +kernel
theorem dX3_nextAim_48 : decode cX3_nextAim 48 = .ok (.istore_n 1, 1) := by decide +kernel
theorem dX3_nextAim_49 : decode cX3_nextAim 49 = .ok (.iinc 2 (-1), 3) := by decide +kernel
theorem dX3_nextAim_52 : decode cX3_nextAim 52 = .ok (.goto (-43), 3) := by decide +kernel
theorem dX3_nextAim_55 : decode cX3_nextAim 55 = .ok (.iload_n 1, 1) := by decide +kernel
theorem dX3_nextAim_56 : decode cX3_nextAim 56 = .ok (.ireturn, 1) := by decide +kernel
end
section
set_option maxRecDepth 20000 in
theorem ggX3_plans_X3_orders : GoodIn wsX3_plans wsX3_orders := goodIn_r _ [12, 13, 14, 15, 16, 41, 42, 43, 44, 45, 46, 47, 48, 49, 50, 51, 52, 53, 54, 55, 56, 57, 58] (by decide +kernel) (by decide +kernel)
set_option maxRecDepth 20000 in
theorem gX3_plans_X3_orders : GoodIn wsX3_plans (wsV RX3 85 RX3 yX3_orders wsX3_orders) := goodIn_app (goodIn_of _ (by decide +kernel)) ggX3_plans_X3_orders
set_option maxRecDepth 20000 in
theorem ggX3_plans_X3_revisitFor : GoodIn wsX3_plans wsX3_revisitFor := goodIn_r _ [20, 13, 21, 22, 23, 11, 24, 3, 2, 25, 26, 4, 5, 27, 28, 29, 30, 31, 41, 42, 43, 44, 45, 46, 47, 48, 49, 50, 51, 52, 53, 54, 55, 56, 57, 58] (by decide +kernel) (by decide +kernel)
set_option maxRecDepth 20000 in
theorem gX3_plans_X3_revisitFor : GoodIn wsX3_plans (wsV RX3 97 RX3 yX3_revisitFor wsX3_revisitFor) := goodIn_app (goodIn_of _ (by decide +kernel)) ggX3_plans_X3_revisitFor
set_option maxRecDepth 20000 in
theorem ggX3_plans_X3_nextAim : GoodIn wsX3_plans wsX3_nextAim := goodIn_r _ [35, 13, 2, 16, 25, 41, 42, 43, 44, 45, 46, 47, 48, 49, 50, 51, 52, 53, 54, 55, 56, 57, 58] (by decide +kernel) (by decide +kernel)
set_option maxRecDepth 20000 in
theorem gX3_plans_X3_nextAim : GoodIn wsX3_plans (wsV RX3 100 RX3 yX3_nextAim wsX3_nextAim) := goodIn_app (goodIn_of _ (by decide +kernel)) ggX3_plans_X3_nextAim
set_option maxRecDepth 20000 in
theorem ggX3_plans_X3_lateFrom : GoodIn wsX3_plans wsX3_lateFrom := goodIn_r _ [31, 27, 3, 21, 22, 23, 11, 24, 2, 25, 26, 4, 5, 41, 42, 43, 44, 45, 46, 47, 48, 49, 50, 51, 52, 53, 54, 55, 56, 57, 58] (by decide +kernel) (by decide +kernel)
set_option maxRecDepth 20000 in
theorem gX3_plans_X3_lateFrom : GoodIn wsX3_plans (wsV RX3 91 RX3 yX3_lateFrom wsX3_lateFrom) := goodIn_app (goodIn_of _ (by decide +kernel)) ggX3_plans_X3_lateFrom
set_option maxRecDepth 20000 in
theorem ggX3_plans_X3_isHeld : GoodIn wsX3_plans wsX3_isHeld := goodIn_r _ [39, 6, 40, 41, 42, 43, 44, 45, 46, 47, 48, 49, 50, 51, 52, 53, 54, 55, 56, 57, 58] (by decide +kernel) (by decide +kernel)
set_option maxRecDepth 20000 in
theorem gX3_plans_X3_isHeld : GoodIn wsX3_plans (wsV RX3 104 RX3 yX3_isHeld wsX3_isHeld) := goodIn_app (goodIn_of _ (by decide +kernel)) ggX3_plans_X3_isHeld
theorem dX3_plans_0 : decode cX3_plans 0 = .ok (.aload_n 0, 1) := by decide +kernel
theorem dX3_plans_1 : decode cX3_plans 1 = .ok (.invokevirtual 85, 3) := by decide +kernel
theorem dX3_plans_4 : decode cX3_plans 4 = .ok (.aload_n 0, 1) := by decide +kernel
theorem dX3_plans_5 : decode cX3_plans 5 = .ok (.iconst 0, 1) := by decide +kernel
theorem dX3_plans_6 : decode cX3_plans 6 = .ok (.putfield 94, 3) := by decide +kernel
theorem dX3_plans_9 : decode cX3_plans 9 = .ok (.iconst 0, 1) := by decide +kernel
theorem dX3_plans_10 : decode cX3_plans 10 = .ok (.istore_n 1, 1) := by decide +kernel
theorem dX3_plans_11 : decode cX3_plans 11 = .ok (.iload_n 1, 1) := by decide +kernel
theorem dX3_plans_12 : decode cX3_plans 12 = .ok (.bipush 12, 2) := by decide +kernel
theorem dX3_plans_14 : decode cX3_plans 14 = .ok (.if_icmp .ge 23, 3) := by decide +kernel
theorem dX3_plans_17 : decode cX3_plans 17 = .ok (.aload_n 0, 1) := by decide +kernel
theorem dX3_plans_18 : decode cX3_plans 18 = .ok (.getfield 47, 3) := by decide +kernel
theorem dX3_plans_21 : decode cX3_plans 21 = .ok (.iload_n 1, 1) := by decide +kernel
theorem dX3_plans_22 : decode cX3_plans 22 = .ok (.iconst 0, 1) := by decide +kernel
theorem dX3_plans_23 : decode cX3_plans 23 = .ok (.iastore, 1) := by decide +kernel
theorem dX3_plans_24 : decode cX3_plans 24 = .ok (.aload_n 0, 1) := by decide +kernel
theorem dX3_plans_25 : decode cX3_plans 25 = .ok (.getfield 50, 3) := by decide +kernel
theorem dX3_plans_28 : decode cX3_plans 28 = .ok (.iload_n 1, 1) := by decide +kernel
theorem dX3_plans_29 : decode cX3_plans 29 = .ok (.iconst 0, 1) := by decide +kernel
theorem dX3_plans_30 : decode cX3_plans 30 = .ok (.iastore, 1) := by decide +kernel
theorem dX3_plans_31 : decode cX3_plans 31 = .ok (.iinc 1 1, 3) := by decide +kernel
theorem dX3_plans_34 : decode cX3_plans 34 = .ok (.goto (-23), 3) := by decide +kernel
theorem dX3_plans_37 : decode cX3_plans 37 = .ok (.iconst 0, 1) := by decide +kernel
theorem dX3_plans_38 : decode cX3_plans 38 = .ok (.istore_n 1, 1) := by decide +kernel
theorem dX3_plans_39 : decode cX3_plans 39 = .ok (.iload_n 1, 1) := by decide +kernel
theorem dX3_plans_40 : decode cX3_plans 40 = .ok (.bipush 60, 2) := by decide +kernel
theorem dX3_plans_42 : decode cX3_plans 42 = .ok (.if_icmp .ge 16, 3) := by decide +kernel
theorem dX3_plans_45 : decode cX3_plans 45 = .ok (.aload_n 0, 1) := by decide +kernel
theorem dX3_plans_46 : decode cX3_plans 46 = .ok (.getfield 41, 3) := by decide +kernel
theorem dX3_plans_49 : decode cX3_plans 49 = .ok (.iload_n 1, 1) := by decide +kernel
theorem dX3_plans_50 : decode cX3_plans 50 = .ok (.iconst (-1), 1) := by decide +kernel
theorem dX3_plans_51 : decode cX3_plans 51 = .ok (.iastore, 1) := by decide +kernel
theorem dX3_plans_52 : decode cX3_plans 52 = .ok (.iinc 1 1, 3) := by decide +kernel
theorem dX3_plans_55 : decode cX3_plans 55 = .ok (.goto (-16), 3) := by decide +kernel
theorem dX3_plans_58 : decode cX3_plans 58 = .ok (.iconst 0, 1) := by decide +kernel
theorem dX3_plans_59 : decode cX3_plans 59 = .ok (.istore_n 1, 1) := by decide +kernel
theorem dX3_plans_60 : decode cX3_plans 60 = .ok (.iload_n 1, 1) := by decide +kernel
theorem dX3_plans_61 : decode cX3_plans 61 = .ok (.bipush 36, 2) := by decide +kernel
theorem dX3_plans_63 : decode cX3_plans 63 = .ok (.if_icmp .ge 16, 3) := by decide +kernel
theorem dX3_plans_66 : decode cX3_plans 66 = .ok (.aload_n 0, 1) := by decide +kernel
theorem dX3_plans_67 : decode cX3_plans 67 = .ok (.getfield 44, 3) := by decide +kernel
theorem dX3_plans_70 : decode cX3_plans 70 = .ok (.iload_n 1, 1) := by decide +kernel
theorem dX3_plans_71 : decode cX3_plans 71 = .ok (.iconst (-1), 1) := by decide +kernel
theorem dX3_plans_72 : decode cX3_plans 72 = .ok (.iastore, 1) := by decide +kernel
theorem dX3_plans_73 : decode cX3_plans 73 = .ok (.iinc 1 1, 3) := by decide +kernel
theorem dX3_plans_76 : decode cX3_plans 76 = .ok (.goto (-16), 3) := by decide +kernel
theorem dX3_plans_79 : decode cX3_plans 79 = .ok (.iconst 0, 1) := by decide +kernel
theorem dX3_plans_80 : decode cX3_plans 80 = .ok (.istore_n 1, 1) := by decide +kernel
theorem dX3_plans_81 : decode cX3_plans 81 = .ok (.iload_n 1, 1) := by decide +kernel
theorem dX3_plans_82 : decode cX3_plans 82 = .ok (.bipush 100, 2) := by decide +kernel
theorem dX3_plans_84 : decode cX3_plans 84 = .ok (.if_icmp .ge 167, 3) := by decide +kernel
theorem dX3_plans_87 : decode cX3_plans 87 = .ok (.aload_n 0, 1) := by decide +kernel
theorem dX3_plans_88 : decode cX3_plans 88 = .ok (.getfield 38, 3) := by decide +kernel
theorem dX3_plans_91 : decode cX3_plans 91 = .ok (.iload_n 1, 1) := by decide +kernel
theorem dX3_plans_92 : decode cX3_plans 92 = .ok (.iconst (-1), 1) := by decide +kernel
theorem dX3_plans_93 : decode cX3_plans 93 = .ok (.iastore, 1) := by decide +kernel
theorem dX3_plans_94 : decode cX3_plans 94 = .ok (.aload_n 0, 1) := by decide +kernel
theorem dX3_plans_95 : decode cX3_plans 95 = .ok (.getfield 31, 3) := by decide +kernel
theorem dX3_plans_98 : decode cX3_plans 98 = .ok (.iload_n 1, 1) := by decide +kernel
theorem dX3_plans_99 : decode cX3_plans 99 = .ok (.baload, 1) := by decide +kernel
theorem dX3_plans_100 : decode cX3_plans 100 = .ok (.ifCond .eq 7, 3) := by decide +kernel
theorem dX3_plans_103 : decode cX3_plans 103 = .ok (.iconst (-1), 1) := by decide +kernel
theorem dX3_plans_104 : decode cX3_plans 104 = .ok (.goto 8, 3) := by decide +kernel
theorem dX3_plans_107 : decode cX3_plans 107 = .ok (.aload_n 0, 1) := by decide +kernel
theorem dX3_plans_108 : decode cX3_plans 108 = .ok (.iload_n 1, 1) := by decide +kernel
theorem dX3_plans_109 : decode cX3_plans 109 = .ok (.invokevirtual 97, 3) := by decide +kernel
theorem dX3_plans_112 : decode cX3_plans 112 = .ok (.istore_n 2, 1) := by decide +kernel
theorem dX3_plans_113 : decode cX3_plans 113 = .ok (.aload_n 0, 1) := by decide +kernel
theorem dX3_plans_114 : decode cX3_plans 114 = .ok (.getfield 31, 3) := by decide +kernel
theorem dX3_plans_117 : decode cX3_plans 117 = .ok (.iload_n 1, 1) := by decide +kernel
theorem dX3_plans_118 : decode cX3_plans 118 = .ok (.baload, 1) := by decide +kernel
theorem dX3_plans_119 : decode cX3_plans 119 = .ok (.ifCond .eq 7, 3) := by decide +kernel
theorem dX3_plans_122 : decode cX3_plans 122 = .ok (.iconst (-1), 1) := by decide +kernel
theorem dX3_plans_123 : decode cX3_plans 123 = .ok (.goto 7, 3) := by decide +kernel
theorem dX3_plans_126 : decode cX3_plans 126 = .ok (.aload_n 0, 1) := by decide +kernel
theorem dX3_plans_127 : decode cX3_plans 127 = .ok (.invokevirtual 100, 3) := by decide +kernel
theorem dX3_plans_130 : decode cX3_plans 130 = .ok (.istore_n 3, 1) := by decide +kernel
theorem dX3_plans_131 : decode cX3_plans 131 = .ok (.iload_n 2, 1) := by decide +kernel
theorem dX3_plans_132 : decode cX3_plans 132 = .ok (.iconst (-1), 1) := by decide +kernel
theorem dX3_plans_133 : decode cX3_plans 133 = .ok (.if_icmp .eq 65, 3) := by decide +kernel
theorem dX3_plans_136 : decode cX3_plans 136 = .ok (.aload_n 0, 1) := by decide +kernel
theorem dX3_plans_137 : decode cX3_plans 137 = .ok (.dup, 1) := by decide +kernel
theorem dX3_plans_138 : decode cX3_plans 138 = .ok (.getfield 94, 3) := by decide +kernel
theorem dX3_plans_141 : decode cX3_plans 141 = .ok (.iload_n 1, 1) := by decide +kernel
theorem dX3_plans_142 : decode cX3_plans 142 = .ok (.aload_n 0, 1) := by decide +kernel
theorem dX3_plans_143 : decode cX3_plans 143 = .ok (.iload_n 2, 1) := by decide +kernel
theorem dX3_plans_144 : decode cX3_plans 144 = .ok (.invokevirtual 91, 3) := by decide +kernel
theorem dX3_plans_147 : decode cX3_plans 147 = .ok (.if_icmp .lt 7, 3) := by decide +kernel
theorem dX3_plans_150 : decode cX3_plans 150 = .ok (.iconst 1, 1) := by decide +kernel
theorem dX3_plans_151 : decode cX3_plans 151 = .ok (.goto 4, 3) := by decide +kernel
theorem dX3_plans_154 : decode cX3_plans 154 = .ok (.iconst 0, 1) := by decide +kernel
theorem dX3_plans_155 : decode cX3_plans 155 = .ok (.iadd, 1) := by decide +kernel
theorem dX3_plans_156 : decode cX3_plans 156 = .ok (.putfield 94, 3) := by decide +kernel
theorem dX3_plans_159 : decode cX3_plans 159 = .ok (.aload_n 0, 1) := by decide +kernel
theorem dX3_plans_160 : decode cX3_plans 160 = .ok (.getfield 38, 3) := by decide +kernel
theorem dX3_plans_163 : decode cX3_plans 163 = .ok (.iload_n 1, 1) := by decide +kernel
theorem dX3_plans_164 : decode cX3_plans 164 = .ok (.bipush 100, 2) := by decide +kernel
theorem dX3_plans_166 : decode cX3_plans 166 = .ok (.iload_n 2, 1) := by decide +kernel
theorem dX3_plans_167 : decode cX3_plans 167 = .ok (.iadd, 1) := by decide +kernel
theorem dX3_plans_168 : decode cX3_plans 168 = .ok (.iastore, 1) := by decide +kernel
theorem dX3_plans_169 : decode cX3_plans 169 = .ok (.aload_n 0, 1) := by decide +kernel
theorem dX3_plans_170 : decode cX3_plans 170 = .ok (.getfield 44, 3) := by decide +kernel
theorem dX3_plans_173 : decode cX3_plans 173 = .ok (.iconst 3, 1) := by decide +kernel
theorem dX3_plans_174 : decode cX3_plans 174 = .ok (.iload_n 2, 1) := by decide +kernel
theorem dX3_plans_175 : decode cX3_plans 175 = .ok (.imul, 1) := by decide +kernel
theorem dX3_plans_176 : decode cX3_plans 176 = .ok (.aload_n 0, 1) := by decide +kernel
theorem dX3_plans_177 : decode cX3_plans 177 = .ok (.getfield 50, 3) := by decide +kernel
theorem dX3_plans_180 : decode cX3_plans 180 = .ok (.iload_n 2, 1) := by decide +kernel
theorem dX3_plans_181 : decode cX3_plans 181 = .ok (.iaload, 1) := by decide +kernel
theorem dX3_plans_182 : decode cX3_plans 182 = .ok (.iadd, 1) := by decide +kernel
theorem dX3_plans_183 : decode cX3_plans 183 = .ok (.iload_n 1, 1) := by decide +kernel
theorem dX3_plans_184 : decode cX3_plans 184 = .ok (.iastore, 1) := by decide +kernel
theorem dX3_plans_185 : decode cX3_plans 185 = .ok (.aload_n 0, 1) := by decide +kernel
theorem dX3_plans_186 : decode cX3_plans 186 = .ok (.getfield 50, 3) := by decide +kernel
theorem dX3_plans_189 : decode cX3_plans 189 = .ok (.iload_n 2, 1) := by decide +kernel
theorem dX3_plans_190 : decode cX3_plans 190 = .ok (.dup2, 1) := by decide +kernel
theorem dX3_plans_191 : decode cX3_plans 191 = .ok (.iaload, 1) := by decide +kernel
theorem dX3_plans_192 : decode cX3_plans 192 = .ok (.iconst 1, 1) := by decide +kernel
theorem dX3_plans_193 : decode cX3_plans 193 = .ok (.iadd, 1) := by decide +kernel
theorem dX3_plans_194 : decode cX3_plans 194 = .ok (.iastore, 1) := by decide +kernel
theorem dX3_plans_195 : decode cX3_plans 195 = .ok (.goto 50, 3) := by decide +kernel
theorem dX3_plans_198 : decode cX3_plans 198 = .ok (.iload_n 3, 1) := by decide +kernel
theorem dX3_plans_199 : decode cX3_plans 199 = .ok (.iconst (-1), 1) := by decide +kernel
theorem dX3_plans_200 : decode cX3_plans 200 = .ok (.if_icmp .eq 45, 3) := by decide +kernel
theorem dX3_plans_203 : decode cX3_plans 203 = .ok (.aload_n 0, 1) := by decide +kernel
theorem dX3_plans_204 : decode cX3_plans 204 = .ok (.iload_n 3, 1) := by decide +kernel
theorem dX3_plans_205 : decode cX3_plans 205 = .ok (.iload_n 1, 1) := by decide +kernel
theorem dX3_plans_206 : decode cX3_plans 206 = .ok (.invokevirtual 104, 3) := by decide +kernel
theorem dX3_plans_209 : decode cX3_plans 209 = .ok (.ifCond .ne 36, 3) := by decide +kernel
theorem dX3_plans_212 : decode cX3_plans 212 = .ok (.aload_n 0, 1) := by decide +kernel
theorem dX3_plans_213 : decode cX3_plans 213 = .ok (.getfield 38, 3) := by decide +kernel
theorem dX3_plans_216 : decode cX3_plans 216 = .ok (.iload_n 1, 1) := by decide +kernel
theorem dX3_plans_217 : decode cX3_plans 217 = .ok (.iload_n 3, 1) := by decide +kernel
theorem dX3_plans_218 : decode cX3_plans 218 = .ok (.iastore, 1) := by decide +kernel
theorem dX3_plans_219 : decode cX3_plans 219 = .ok (.aload_n 0, 1) := by decide +kernel
theorem dX3_plans_220 : decode cX3_plans 220 = .ok (.getfield 41, 3) := by decide +kernel
theorem dX3_plans_223 : decode cX3_plans 223 = .ok (.iconst 5, 1) := by decide +kernel
theorem dX3_plans_224 : decode cX3_plans 224 = .ok (.iload_n 3, 1) := by decide +kernel
theorem dX3_plans_225 : decode cX3_plans 225 = .ok (.imul, 1) := by decide +kernel
theorem dX3_plans_226 : decode cX3_plans 226 = .ok (.aload_n 0, 1) := by decide +kernel
theorem dX3_plans_227 : decode cX3_plans 227 = .ok (.getfield 47, 3) := by decide +kernel
theorem dX3_plans_230 : decode cX3_plans 230 = .ok (.iload_n 3, 1) := by decide +kernel
theorem dX3_plans_231 : decode cX3_plans 231 = .ok (.iaload, 1) := by decide +kernel
theorem dX3_plans_232 : decode cX3_plans 232 = .ok (.iadd, 1) := by decide +kernel
theorem dX3_plans_233 : decode cX3_plans 233 = .ok (.iload_n 1, 1) := by decide +kernel
theorem dX3_plans_234 : decode cX3_plans 234 = .ok (.iastore, 1) := by decide +kernel
theorem dX3_plans_235 : decode cX3_plans 235 = .ok (.aload_n 0, 1) := by decide +kernel
theorem dX3_plans_236 : decode cX3_plans 236 = .ok (.getfield 47, 3) := by decide +kernel
theorem dX3_plans_239 : decode cX3_plans 239 = .ok (.iload_n 3, 1) := by decide +kernel
theorem dX3_plans_240 : decode cX3_plans 240 = .ok (.dup2, 1) := by decide +kernel
theorem dX3_plans_241 : decode cX3_plans 241 = .ok (.iaload, 1) := by decide +kernel
theorem dX3_plans_242 : decode cX3_plans 242 = .ok (.iconst 1, 1) := by decide +kernel
theorem dX3_plans_243 : decode cX3_plans 243 = .ok (.iadd, 1) := by decide +kernel
theorem dX3_plans_244 : decode cX3_plans 244 = .ok (.iastore, 1) := by decide +kernel
theorem dX3_plans_245 : decode cX3_plans 245 = .ok (.iinc 1 1, 3) := by decide +kernel
theorem dX3_plans_248 : decode cX3_plans 248 = .ok (.goto (-167), 3) := by decide +kernel
theorem dX3_plans_251 : decode cX3_plans 251 = .ok (.return_, 1) := by decide +kernel
theorem dX3_dayOf_0 : decode cX3_dayOf 0 = .ok (.iload_n 1, 1) := by decide +kernel
theorem dX3_dayOf_1 : decode cX3_dayOf 1 = .ok (.bipush 60, 2) := by decide +kernel
theorem dX3_dayOf_3 : decode cX3_dayOf 3 = .ok (.if_icmp .ge 12, 3) := by decide +kernel
theorem dX3_dayOf_6 : decode cX3_dayOf 6 = .ok (.aload_n 0, 1) := by decide +kernel
theorem dX3_dayOf_7 : decode cX3_dayOf 7 = .ok (.getfield 41, 3) := by decide +kernel
theorem dX3_dayOf_10 : decode cX3_dayOf 10 = .ok (.iload_n 1, 1) := by decide +kernel
theorem dX3_dayOf_11 : decode cX3_dayOf 11 = .ok (.iaload, 1) := by decide +kernel
theorem dX3_dayOf_12 : decode cX3_dayOf 12 = .ok (.goto 12, 3) := by decide +kernel
theorem dX3_dayOf_15 : decode cX3_dayOf 15 = .ok (.aload_n 0, 1) := by decide +kernel
theorem dX3_dayOf_16 : decode cX3_dayOf 16 = .ok (.getfield 44, 3) := by decide +kernel
theorem dX3_dayOf_19 : decode cX3_dayOf 19 = .ok (.iload_n 1, 1) := by decide +kernel
theorem dX3_dayOf_20 : decode cX3_dayOf 20 = .ok (.bipush 60, 2) := by decide +kernel
theorem dX3_dayOf_22 : decode cX3_dayOf 22 = .ok (.isub, 1) := by decide +kernel
theorem dX3_dayOf_23 : decode cX3_dayOf 23 = .ok (.iaload, 1) := by decide +kernel
theorem dX3_dayOf_24 : decode cX3_dayOf 24 = .ok (.ireturn, 1) := by decide +kernel
set_option maxRecDepth 20000 in
theorem ggX3_lose_X3_isIn : GoodIn wsX3_lose wsX3_isIn := goodIn_r _ [6] (by decide +kernel) (by decide +kernel)
set_option maxRecDepth 20000 in
theorem gX3_lose_X3_isIn : GoodIn wsX3_lose (va_wsS RX3 63 yX3_isIn wsX3_isIn) := goodIn_app (goodIn_of _ (by decide +kernel)) ggX3_lose_X3_isIn
set_option maxRecDepth 20000 in
theorem ggX3_lose_X3_can : GoodIn wsX3_lose wsX3_can := goodIn_r _ [10, 11, 58, 59, 60, 61, 62, 63, 64, 65, 66, 67, 68, 69, 70, 71, 72, 73, 74, 75] (by decide +kernel) (by decide +kernel)
set_option maxRecDepth 20000 in
theorem gX3_lose_X3_can : GoodIn wsX3_lose (wsV RX3 67 RX3 yX3_can wsX3_can) := goodIn_app (goodIn_of _ (by decide +kernel)) ggX3_lose_X3_can
set_option maxRecDepth 20000 in
theorem ggX3_lose_X3_plans : GoodIn wsX3_lose wsX3_plans := goodIn_r _ [15, 16, 17, 18, 19, 20, 21, 1, 22, 23, 24, 5, 25, 26, 27, 28, 29, 30, 31, 32, 33, 34, 35, 36, 37, 38, 39, 40, 41, 42, 43, 44, 45, 46, 47, 48, 49, 50, 51, 52, 53, 58, 59, 60, 61, 62, 63, 64, 65, 66, 67, 68, 69, 70, 71, 72, 73, 74, 75] (by decide +kernel) (by decide +kernel)
set_option maxRecDepth 20000 in
theorem gX3_lose_X3_plans : GoodIn wsX3_lose (wsV RX3 107 RX3 yX3_plans wsX3_plans) := goodIn_app (goodIn_of _ (by decide +kernel)) ggX3_lose_X3_plans
set_option maxRecDepth 20000 in
theorem ggX3_lose_X3_dayOf : GoodIn wsX3_lose wsX3_dayOf := goodIn_r _ [57, 19, 20, 58, 59, 60, 61, 62, 63, 64, 65, 66, 67, 68, 69, 70, 71, 72, 73, 74, 75] (by decide +kernel) (by decide +kernel)
set_option maxRecDepth 20000 in
theorem gX3_lose_X3_dayOf : GoodIn wsX3_lose (wsV RX3 110 RX3 yX3_dayOf wsX3_dayOf) := goodIn_app (goodIn_of _ (by decide +kernel)) ggX3_lose_X3_dayOf
theorem dX3_lose_0 : decode cX3_lose 0 = .ok (.aload_n 0, 1) := by decide +kernel
theorem dX3_lose_1 : decode cX3_lose 1 = .ok (.iload_n 1, 1) := by decide +kernel
theorem dX3_lose_2 : decode cX3_lose 2 = .ok (.iconst 0, 1) := by decide +kernel
theorem dX3_lose_3 : decode cX3_lose 3 = .ok (.bipush 99, 2) := by decide +kernel
theorem dX3_lose_5 : decode cX3_lose 5 = .ok (.invokestatic 63, 3) := by decide +kernel
theorem dX3_lose_8 : decode cX3_lose 8 = .ok (.ifCond .ne 7, 3) := by decide +kernel
theorem dX3_lose_11 : decode cX3_lose 11 = .ok (.iconst 1, 1) := by decide +kernel
theorem dX3_lose_12 : decode cX3_lose 12 = .ok (.goto 17, 3) := by decide +kernel
theorem dX3_lose_15 : decode cX3_lose 15 = .ok (.aload_n 0, 1) := by decide +kernel
theorem dX3_lose_16 : decode cX3_lose 16 = .ok (.getfield 31, 3) := by decide +kernel
theorem dX3_lose_19 : decode cX3_lose 19 = .ok (.iload_n 1, 1) := by decide +kernel
theorem dX3_lose_20 : decode cX3_lose 20 = .ok (.baload, 1) := by decide +kernel
theorem dX3_lose_21 : decode cX3_lose 21 = .ok (.ifCond .eq 7, 3) := by decide +kernel
theorem dX3_lose_24 : decode cX3_lose 24 = .ok (.iconst 2, 1) := by decide +kernel
theorem dX3_lose_25 : decode cX3_lose 25 = .ok (.goto 4, 3) := by decide +kernel
theorem dX3_lose_28 : decode cX3_lose 28 = .ok (.iconst 0, 1) := by decide +kernel
theorem dX3_lose_29 : decode cX3_lose 29 = .ok (.invokevirtual 67, 3) := by decide +kernel
theorem dX3_lose_32 : decode cX3_lose 32 = .ok (.ifCond .ne 5, 3) := by decide +kernel
theorem dX3_lose_35 : decode cX3_lose 35 = .ok (.iconst 0, 1) := by decide +kernel
theorem dX3_lose_36 : decode cX3_lose 36 = .ok (.ireturn, 1) := by decide +kernel
theorem dX3_lose_37 : decode cX3_lose 37 = .ok (.aload_n 0, 1) := by decide +kernel
theorem dX3_lose_38 : decode cX3_lose 38 = .ok (.invokevirtual 107, 3) := by decide +kernel
theorem dX3_lose_41 : decode cX3_lose 41 = .ok (.iconst 0, 1) := by decide +kernel
theorem dX3_lose_42 : decode cX3_lose 42 = .ok (.istore_n 2, 1) := by decide +kernel
theorem dX3_lose_43 : decode cX3_lose 43 = .ok (.iload_n 2, 1) := by decide +kernel
theorem dX3_lose_44 : decode cX3_lose 44 = .ok (.bipush 96, 2) := by decide +kernel
theorem dX3_lose_46 : decode cX3_lose 46 = .ok (.if_icmp .ge 20, 3) := by decide +kernel
theorem dX3_lose_49 : decode cX3_lose 49 = .ok (.aload_n 0, 1) := by decide +kernel
theorem dX3_lose_50 : decode cX3_lose 50 = .ok (.getfield 53, 3) := by decide +kernel
theorem dX3_lose_53 : decode cX3_lose 53 = .ok (.iload_n 2, 1) := by decide +kernel
theorem dX3_lose_54 : decode cX3_lose 54 = .ok (.aload_n 0, 1) := by decide +kernel
theorem dX3_lose_55 : decode cX3_lose 55 = .ok (.iload_n 2, 1) := by decide +kernel
theorem dX3_lose_56 : decode cX3_lose 56 = .ok (.invokevirtual 110, 3) := by decide +kernel
theorem dX3_lose_59 : decode cX3_lose 59 = .ok (.iastore, 1) := by decide +kernel
theorem dX3_lose_60 : decode cX3_lose 60 = .ok (.iinc 2 1, 3) := by decide +kernel
theorem dX3_lose_63 : decode cX3_lose 63 = .ok (.goto (-20), 3) := by decide +kernel
theorem dX3_lose_66 : decode cX3_lose 66 = .ok (.aload_n 0, 1) := by decide +kernel
theorem dX3_lose_67 : decode cX3_lose 67 = .ok (.getfield 31, 3) := by decide +kernel
theorem dX3_lose_70 : decode cX3_lose 70 = .ok (.iload_n 1, 1) := by decide +kernel
theorem dX3_lose_71 : decode cX3_lose 71 = .ok (.iconst 1, 1) := by decide +kernel
theorem dX3_lose_72 : decode cX3_lose 72 = .ok (.bastore, 1) := by decide +kernel
theorem dX3_lose_73 : decode cX3_lose 73 = .ok (.aload_n 0, 1) := by decide +kernel
theorem dX3_lose_74 : decode cX3_lose 74 = .ok (.invokevirtual 107, 3) := by decide +kernel
theorem dX3_lose_77 : decode cX3_lose 77 = .ok (.iconst 0, 1) := by decide +kernel
theorem dX3_lose_78 : decode cX3_lose 78 = .ok (.istore_n 2, 1) := by decide +kernel
theorem dX3_lose_79 : decode cX3_lose 79 = .ok (.iconst 0, 1) := by decide +kernel
theorem dX3_lose_80 : decode cX3_lose 80 = .ok (.istore_n 3, 1) := by decide +kernel
theorem dX3_lose_81 : decode cX3_lose 81 = .ok (.iload_n 3, 1) := by decide +kernel
theorem dX3_lose_82 : decode cX3_lose 82 = .ok (.bipush 96, 2) := by decide +kernel
theorem dX3_lose_84 : decode cX3_lose 84 = .ok (.if_icmp .ge 41, 3) := by decide +kernel
theorem dX3_lose_87 : decode cX3_lose 87 = .ok (.iload_n 2, 1) := by decide +kernel
theorem dX3_lose_88 : decode cX3_lose 88 = .ok (.aload_n 0, 1) := by decide +kernel
theorem dX3_lose_89 : decode cX3_lose 89 = .ok (.getfield 53, 3) := by decide +kernel
theorem dX3_lose_92 : decode cX3_lose 92 = .ok (.iload_n 3, 1) := by decide +kernel
theorem dX3_lose_93 : decode cX3_lose 93 = .ok (.iaload, 1) := by decide +kernel
theorem dX3_lose_94 : decode cX3_lose 94 = .ok (.iconst (-1), 1) := by decide +kernel
theorem dX3_lose_95 : decode cX3_lose 95 = .ok (.if_icmp .eq 21, 3) := by decide +kernel
theorem dX3_lose_98 : decode cX3_lose 98 = .ok (.aload_n 0, 1) := by decide +kernel
theorem dX3_lose_99 : decode cX3_lose 99 = .ok (.getfield 53, 3) := by decide +kernel
theorem dX3_lose_102 : decode cX3_lose 102 = .ok (.iload_n 3, 1) := by decide +kernel
theorem dX3_lose_103 : decode cX3_lose 103 = .ok (.iaload, 1) := by decide +kernel
theorem dX3_lose_104 : decode cX3_lose 104 = .ok (.aload_n 0, 1) := by decide +kernel
theorem dX3_lose_105 : decode cX3_lose 105 = .ok (.iload_n 3, 1) := by decide +kernel
theorem dX3_lose_106 : decode cX3_lose 106 = .ok (.invokevirtual 110, 3) := by decide +kernel
theorem dX3_lose_109 : decode cX3_lose 109 = .ok (.if_icmp .eq 7, 3) := by decide +kernel
theorem dX3_lose_112 : decode cX3_lose 112 = .ok (.iconst 1, 1) := by decide +kernel
theorem dX3_lose_113 : decode cX3_lose 113 = .ok (.goto 4, 3) := by decide +kernel
theorem dX3_lose_116 : decode cX3_lose 116 = .ok (.iconst 0, 1) := by decide +kernel
theorem dX3_lose_117 : decode cX3_lose 117 = .ok (.iadd, 1) := by decide +kernel
theorem dX3_lose_118 : decode cX3_lose 118 = .ok (.istore_n 2, 1) := by decide +kernel
theorem dX3_lose_119 : decode cX3_lose 119 = .ok (.iinc 3 1, 3) := by decide +kernel
theorem dX3_lose_122 : decode cX3_lose 122 = .ok (.goto (-41), 3) := by decide +kernel
theorem dX3_lose_125 : decode cX3_lose 125 = .ok (.iload_n 2, 1) := by decide +kernel
theorem dX3_lose_126 : decode cX3_lose 126 = .ok (.ireturn, 1) := by decide +kernel
set_option maxRecDepth 20000 in
theorem ggX3_on_X3_isIn : GoodIn wsX3_on wsX3_isIn := goodIn_r _ [5] (by decide +kernel) (by decide +kernel)
set_option maxRecDepth 20000 in
theorem gX3_on_X3_isIn : GoodIn wsX3_on (va_wsS RX3 63 yX3_isIn wsX3_isIn) := goodIn_app (goodIn_of _ (by decide +kernel)) ggX3_on_X3_isIn
set_option maxRecDepth 20000 in
theorem ggX3_on_X3_can : GoodIn wsX3_on wsX3_can := goodIn_r _ [9, 10, 53, 54, 55, 56, 57, 58, 59, 60, 61, 62, 63, 64, 65, 66, 67, 68, 69, 70] (by decide +kernel) (by decide +kernel)
set_option maxRecDepth 20000 in
theorem gX3_on_X3_can : GoodIn wsX3_on (wsV RX3 67 RX3 yX3_can wsX3_can) := goodIn_app (goodIn_of _ (by decide +kernel)) ggX3_on_X3_can
set_option maxRecDepth 20000 in
theorem ggX3_on_X3_plans : GoodIn wsX3_on wsX3_plans := goodIn_r _ [14, 15, 16, 17, 18, 19, 1, 20, 21, 22, 23, 4, 24, 25, 26, 27, 28, 29, 30, 31, 32, 33, 34, 35, 36, 37, 38, 39, 40, 41, 42, 43, 44, 45, 46, 47, 48, 49, 50, 51, 52, 53, 54, 55, 56, 57, 58, 59, 60, 61, 62, 63, 64, 65, 66, 67, 68, 69, 70] (by decide +kernel) (by decide +kernel)
set_option maxRecDepth 20000 in
theorem gX3_on_X3_plans : GoodIn wsX3_on (wsV RX3 107 RX3 yX3_plans wsX3_plans) := goodIn_app (goodIn_of _ (by decide +kernel)) ggX3_on_X3_plans
theorem dX3_on_0 : decode cX3_on 0 = .ok (.aload_n 0, 1) := by decide +kernel
theorem dX3_on_1 : decode cX3_on 1 = .ok (.iload_n 1, 1) := by decide +kernel
theorem dX3_on_2 : decode cX3_on 2 = .ok (.iconst 0, 1) := by decide +kernel
theorem dX3_on_3 : decode cX3_on 3 = .ok (.bipush 99, 2) := by decide +kernel
theorem dX3_on_5 : decode cX3_on 5 = .ok (.invokestatic 63, 3) := by decide +kernel
theorem dX3_on_8 : decode cX3_on 8 = .ok (.ifCond .eq 7, 3) := by decide +kernel
theorem dX3_on_11 : decode cX3_on 11 = .ok (.iconst 0, 1) := by decide +kernel
theorem dX3_on_12 : decode cX3_on 12 = .ok (.goto 4, 3) := by decide +kernel
theorem dX3_on_15 : decode cX3_on 15 = .ok (.iconst 1, 1) := by decide +kernel
theorem dX3_on_16 : decode cX3_on 16 = .ok (.invokevirtual 67, 3) := by decide +kernel
theorem dX3_on_19 : decode cX3_on 19 = .ok (.ifCond .ne 5, 3) := by decide +kernel
theorem dX3_on_22 : decode cX3_on 22 = .ok (.iconst 0, 1) := by decide +kernel
theorem dX3_on_23 : decode cX3_on 23 = .ok (.ireturn, 1) := by decide +kernel
theorem dX3_on_24 : decode cX3_on 24 = .ok (.aload_n 0, 1) := by decide +kernel
theorem dX3_on_25 : decode cX3_on 25 = .ok (.invokevirtual 107, 3) := by decide +kernel
theorem dX3_on_28 : decode cX3_on 28 = .ok (.aload_n 0, 1) := by decide +kernel
theorem dX3_on_29 : decode cX3_on 29 = .ok (.getfield 38, 3) := by decide +kernel
theorem dX3_on_32 : decode cX3_on 32 = .ok (.iload_n 1, 1) := by decide +kernel
theorem dX3_on_33 : decode cX3_on 33 = .ok (.iaload, 1) := by decide +kernel
theorem dX3_on_34 : decode cX3_on 34 = .ok (.ireturn, 1) := by decide +kernel
set_option maxRecDepth 20000 in
theorem ggX3_lessonDay_X3_isAim : GoodIn wsX3_lessonDay wsX3_isAim := goodIn_r _ [7, 8, 9, 10, 6, 11, 57, 58, 59, 60, 61, 62, 63, 64, 65, 66, 67, 68, 69, 70, 71, 72, 73, 74] (by decide +kernel) (by decide +kernel)
set_option maxRecDepth 20000 in
theorem gX3_lessonDay_X3_isAim : GoodIn wsX3_lessonDay (wsV RX3 71 RX3 yX3_isAim wsX3_isAim) := goodIn_app (goodIn_of _ (by decide +kernel)) ggX3_lessonDay_X3_isAim
set_option maxRecDepth 20000 in
theorem ggX3_lessonDay_X3_isIn : GoodIn wsX3_lessonDay wsX3_isIn := goodIn_r _ [11] (by decide +kernel) (by decide +kernel)
set_option maxRecDepth 20000 in
theorem gX3_lessonDay_X3_isIn : GoodIn wsX3_lessonDay (va_wsS RX3 63 yX3_isIn wsX3_isIn) := goodIn_app (goodIn_of _ (by decide +kernel)) ggX3_lessonDay_X3_isIn
set_option maxRecDepth 20000 in
theorem ggX3_lessonDay_X3_can : GoodIn wsX3_lessonDay wsX3_can := goodIn_r _ [15, 16, 57, 58, 59, 60, 61, 62, 63, 64, 65, 66, 67, 68, 69, 70, 71, 72, 73, 74] (by decide +kernel) (by decide +kernel)
set_option maxRecDepth 20000 in
theorem gX3_lessonDay_X3_can : GoodIn wsX3_lessonDay (wsV RX3 67 RX3 yX3_can wsX3_can) := goodIn_app (goodIn_of _ (by decide +kernel)) ggX3_lessonDay_X3_can
set_option maxRecDepth 20000 in
theorem ggX3_lessonDay_X3_plans : GoodIn wsX3_lessonDay wsX3_plans := goodIn_r _ [20, 21, 22, 23, 2, 24, 25, 26, 27, 28, 29, 6, 30, 8, 31, 32, 33, 34, 35, 36, 37, 38, 39, 40, 41, 1, 42, 43, 44, 45, 46, 47, 48, 49, 50, 51, 52, 53, 54, 55, 56, 57, 58, 59, 60, 61, 62, 63, 64, 65, 66, 67, 68, 69, 70, 71, 72, 73, 74] (by decide +kernel) (by decide +kernel)
set_option maxRecDepth 20000 in
theorem gX3_lessonDay_X3_plans : GoodIn wsX3_lessonDay (wsV RX3 107 RX3 yX3_plans wsX3_plans) := goodIn_app (goodIn_of _ (by decide +kernel)) ggX3_lessonDay_X3_plans
theorem dX3_lessonDay_0 : decode cX3_lessonDay 0 = .ok (.aload_n 0, 1) := by decide +kernel
theorem dX3_lessonDay_1 : decode cX3_lessonDay 1 = .ok (.aload_n 0, 1) := by decide +kernel
theorem dX3_lessonDay_2 : decode cX3_lessonDay 2 = .ok (.iload_n 1, 1) := by decide +kernel
theorem dX3_lessonDay_3 : decode cX3_lessonDay 3 = .ok (.invokevirtual 71, 3) := by decide +kernel
theorem dX3_lessonDay_6 : decode cX3_lessonDay 6 = .ok (.ifCond .eq 23, 3) := by decide +kernel
theorem dX3_lessonDay_9 : decode cX3_lessonDay 9 = .ok (.iload_n 2, 1) := by decide +kernel
theorem dX3_lessonDay_10 : decode cX3_lessonDay 10 = .ok (.iconst 0, 1) := by decide +kernel
theorem dX3_lessonDay_11 : decode cX3_lessonDay 11 = .ok (.aload_n 0, 1) := by decide +kernel
theorem dX3_lessonDay_12 : decode cX3_lessonDay 12 = .ok (.getfield 7, 3) := by decide +kernel
theorem dX3_lessonDay_15 : decode cX3_lessonDay 15 = .ok (.iload_n 1, 1) := by decide +kernel
theorem dX3_lessonDay_16 : decode cX3_lessonDay 16 = .ok (.iaload, 1) := by decide +kernel
theorem dX3_lessonDay_17 : decode cX3_lessonDay 17 = .ok (.iconst 1, 1) := by decide +kernel
theorem dX3_lessonDay_18 : decode cX3_lessonDay 18 = .ok (.isub, 1) := by decide +kernel
theorem dX3_lessonDay_19 : decode cX3_lessonDay 19 = .ok (.invokestatic 63, 3) := by decide +kernel
theorem dX3_lessonDay_22 : decode cX3_lessonDay 22 = .ok (.ifCond .eq 7, 3) := by decide +kernel
theorem dX3_lessonDay_25 : decode cX3_lessonDay 25 = .ok (.iconst 0, 1) := by decide +kernel
theorem dX3_lessonDay_26 : decode cX3_lessonDay 26 = .ok (.goto 4, 3) := by decide +kernel
theorem dX3_lessonDay_29 : decode cX3_lessonDay 29 = .ok (.iconst 1, 1) := by decide +kernel
theorem dX3_lessonDay_30 : decode cX3_lessonDay 30 = .ok (.invokevirtual 67, 3) := by decide +kernel
theorem dX3_lessonDay_33 : decode cX3_lessonDay 33 = .ok (.ifCond .ne 5, 3) := by decide +kernel
theorem dX3_lessonDay_36 : decode cX3_lessonDay 36 = .ok (.iconst 0, 1) := by decide +kernel
theorem dX3_lessonDay_37 : decode cX3_lessonDay 37 = .ok (.ireturn, 1) := by decide +kernel
theorem dX3_lessonDay_38 : decode cX3_lessonDay 38 = .ok (.aload_n 0, 1) := by decide +kernel
theorem dX3_lessonDay_39 : decode cX3_lessonDay 39 = .ok (.invokevirtual 107, 3) := by decide +kernel
theorem dX3_lessonDay_42 : decode cX3_lessonDay 42 = .ok (.aload_n 0, 1) := by decide +kernel
theorem dX3_lessonDay_43 : decode cX3_lessonDay 43 = .ok (.getfield 41, 3) := by decide +kernel
theorem dX3_lessonDay_46 : decode cX3_lessonDay 46 = .ok (.iconst 5, 1) := by decide +kernel
theorem dX3_lessonDay_47 : decode cX3_lessonDay 47 = .ok (.iload_n 1, 1) := by decide +kernel
theorem dX3_lessonDay_48 : decode cX3_lessonDay 48 = .ok (.imul, 1) := by decide +kernel
theorem dX3_lessonDay_49 : decode cX3_lessonDay 49 = .ok (.iload_n 2, 1) := by decide +kernel
theorem dX3_lessonDay_50 : decode cX3_lessonDay 50 = .ok (.iadd, 1) := by decide +kernel
theorem dX3_lessonDay_51 : decode cX3_lessonDay 51 = .ok (.iaload, 1) := by decide +kernel
theorem dX3_lessonDay_52 : decode cX3_lessonDay 52 = .ok (.ireturn, 1) := by decide +kernel
set_option maxRecDepth 20000 in
theorem ggX3_revisitDay_X3_isAim : GoodIn wsX3_revisitDay wsX3_isAim := goodIn_r _ [7, 8, 9, 10, 6, 11, 57, 58, 59, 60, 61, 62, 63, 64, 65, 66, 67, 68, 69, 70, 71, 72, 73, 74] (by decide +kernel) (by decide +kernel)
set_option maxRecDepth 20000 in
theorem gX3_revisitDay_X3_isAim : GoodIn wsX3_revisitDay (wsV RX3 71 RX3 yX3_isAim wsX3_isAim) := goodIn_app (goodIn_of _ (by decide +kernel)) ggX3_revisitDay_X3_isAim
set_option maxRecDepth 20000 in
theorem ggX3_revisitDay_X3_isIn : GoodIn wsX3_revisitDay wsX3_isIn := goodIn_r _ [11] (by decide +kernel) (by decide +kernel)
set_option maxRecDepth 20000 in
theorem gX3_revisitDay_X3_isIn : GoodIn wsX3_revisitDay (va_wsS RX3 63 yX3_isIn wsX3_isIn) := goodIn_app (goodIn_of _ (by decide +kernel)) ggX3_revisitDay_X3_isIn
set_option maxRecDepth 20000 in
theorem ggX3_revisitDay_X3_can : GoodIn wsX3_revisitDay wsX3_can := goodIn_r _ [15, 16, 57, 58, 59, 60, 61, 62, 63, 64, 65, 66, 67, 68, 69, 70, 71, 72, 73, 74] (by decide +kernel) (by decide +kernel)
set_option maxRecDepth 20000 in
theorem gX3_revisitDay_X3_can : GoodIn wsX3_revisitDay (wsV RX3 67 RX3 yX3_can wsX3_can) := goodIn_app (goodIn_of _ (by decide +kernel)) ggX3_revisitDay_X3_can
set_option maxRecDepth 20000 in
theorem ggX3_revisitDay_X3_plans : GoodIn wsX3_revisitDay wsX3_plans := goodIn_r _ [20, 21, 22, 23, 24, 2, 25, 26, 27, 28, 29, 6, 30, 8, 31, 32, 33, 34, 35, 36, 37, 38, 39, 40, 41, 42, 1, 43, 44, 45, 46, 47, 48, 49, 50, 51, 52, 53, 54, 55, 56, 57, 58, 59, 60, 61, 62, 63, 64, 65, 66, 67, 68, 69, 70, 71, 72, 73, 74] (by decide +kernel) (by decide +kernel)
set_option maxRecDepth 20000 in
theorem gX3_revisitDay_X3_plans : GoodIn wsX3_revisitDay (wsV RX3 107 RX3 yX3_plans wsX3_plans) := goodIn_app (goodIn_of _ (by decide +kernel)) ggX3_revisitDay_X3_plans
theorem dX3_revisitDay_0 : decode cX3_revisitDay 0 = .ok (.aload_n 0, 1) := by decide +kernel
theorem dX3_revisitDay_1 : decode cX3_revisitDay 1 = .ok (.aload_n 0, 1) := by decide +kernel
theorem dX3_revisitDay_2 : decode cX3_revisitDay 2 = .ok (.iload_n 1, 1) := by decide +kernel
theorem dX3_revisitDay_3 : decode cX3_revisitDay 3 = .ok (.invokevirtual 71, 3) := by decide +kernel
theorem dX3_revisitDay_6 : decode cX3_revisitDay 6 = .ok (.ifCond .eq 23, 3) := by decide +kernel
theorem dX3_revisitDay_9 : decode cX3_revisitDay 9 = .ok (.iload_n 2, 1) := by decide +kernel
theorem dX3_revisitDay_10 : decode cX3_revisitDay 10 = .ok (.iconst 0, 1) := by decide +kernel
theorem dX3_revisitDay_11 : decode cX3_revisitDay 11 = .ok (.aload_n 0, 1) := by decide +kernel
theorem dX3_revisitDay_12 : decode cX3_revisitDay 12 = .ok (.getfield 25, 3) := by decide +kernel
theorem dX3_revisitDay_15 : decode cX3_revisitDay 15 = .ok (.iload_n 1, 1) := by decide +kernel
theorem dX3_revisitDay_16 : decode cX3_revisitDay 16 = .ok (.iaload, 1) := by decide +kernel
theorem dX3_revisitDay_17 : decode cX3_revisitDay 17 = .ok (.iconst 1, 1) := by decide +kernel
theorem dX3_revisitDay_18 : decode cX3_revisitDay 18 = .ok (.isub, 1) := by decide +kernel
theorem dX3_revisitDay_19 : decode cX3_revisitDay 19 = .ok (.invokestatic 63, 3) := by decide +kernel
theorem dX3_revisitDay_22 : decode cX3_revisitDay 22 = .ok (.ifCond .eq 7, 3) := by decide +kernel
theorem dX3_revisitDay_25 : decode cX3_revisitDay 25 = .ok (.iconst 0, 1) := by decide +kernel
theorem dX3_revisitDay_26 : decode cX3_revisitDay 26 = .ok (.goto 4, 3) := by decide +kernel
theorem dX3_revisitDay_29 : decode cX3_revisitDay 29 = .ok (.iconst 1, 1) := by decide +kernel
theorem dX3_revisitDay_30 : decode cX3_revisitDay 30 = .ok (.invokevirtual 67, 3) := by decide +kernel
theorem dX3_revisitDay_33 : decode cX3_revisitDay 33 = .ok (.ifCond .ne 5, 3) := by decide +kernel
theorem dX3_revisitDay_36 : decode cX3_revisitDay 36 = .ok (.iconst 0, 1) := by decide +kernel
theorem dX3_revisitDay_37 : decode cX3_revisitDay 37 = .ok (.ireturn, 1) := by decide +kernel
theorem dX3_revisitDay_38 : decode cX3_revisitDay 38 = .ok (.aload_n 0, 1) := by decide +kernel
theorem dX3_revisitDay_39 : decode cX3_revisitDay 39 = .ok (.invokevirtual 107, 3) := by decide +kernel
theorem dX3_revisitDay_42 : decode cX3_revisitDay 42 = .ok (.aload_n 0, 1) := by decide +kernel
theorem dX3_revisitDay_43 : decode cX3_revisitDay 43 = .ok (.getfield 44, 3) := by decide +kernel
theorem dX3_revisitDay_46 : decode cX3_revisitDay 46 = .ok (.iconst 3, 1) := by decide +kernel
theorem dX3_revisitDay_47 : decode cX3_revisitDay 47 = .ok (.iload_n 1, 1) := by decide +kernel
theorem dX3_revisitDay_48 : decode cX3_revisitDay 48 = .ok (.imul, 1) := by decide +kernel
theorem dX3_revisitDay_49 : decode cX3_revisitDay 49 = .ok (.iload_n 2, 1) := by decide +kernel
theorem dX3_revisitDay_50 : decode cX3_revisitDay 50 = .ok (.iadd, 1) := by decide +kernel
theorem dX3_revisitDay_51 : decode cX3_revisitDay 51 = .ok (.iaload, 1) := by decide +kernel
theorem dX3_revisitDay_52 : decode cX3_revisitDay 52 = .ok (.ireturn, 1) := by decide +kernel
set_option maxRecDepth 20000 in
theorem ggX3_laid_X3_plans : GoodIn wsX3_laid wsX3_plans := goodIn_r _ [7, 8, 9, 10, 11, 12, 2, 13, 14, 15, 16, 6, 17, 18, 19, 20, 21, 22, 23, 24, 25, 26, 27, 28, 29, 30, 31, 32, 33, 34, 35, 36, 37, 38, 39, 40, 41, 42, 43, 44, 45, 46, 47, 48, 49, 50, 51, 52, 53, 54, 55, 56, 57, 58, 59, 60, 61, 62, 63] (by decide +kernel) (by decide +kernel)
set_option maxRecDepth 20000 in
theorem gX3_laid_X3_plans : GoodIn wsX3_laid (wsV RX3 107 RX3 yX3_plans wsX3_plans) := goodIn_app (goodIn_of _ (by decide +kernel)) ggX3_laid_X3_plans
theorem dX3_laid_0 : decode cX3_laid 0 = .ok (.aload_n 0, 1) := by decide +kernel
theorem dX3_laid_1 : decode cX3_laid 1 = .ok (.iconst 0, 1) := by decide +kernel
theorem dX3_laid_2 : decode cX3_laid 2 = .ok (.putfield 56, 3) := by decide +kernel
theorem dX3_laid_5 : decode cX3_laid 5 = .ok (.aload_n 0, 1) := by decide +kernel
theorem dX3_laid_6 : decode cX3_laid 6 = .ok (.invokevirtual 107, 3) := by decide +kernel
theorem dX3_laid_9 : decode cX3_laid 9 = .ok (.iconst 0, 1) := by decide +kernel
theorem dX3_laid_10 : decode cX3_laid 10 = .ok (.istore_n 1, 1) := by decide +kernel
theorem dX3_laid_11 : decode cX3_laid 11 = .ok (.iconst 0, 1) := by decide +kernel
theorem dX3_laid_12 : decode cX3_laid 12 = .ok (.istore_n 2, 1) := by decide +kernel
theorem dX3_laid_13 : decode cX3_laid 13 = .ok (.iload_n 2, 1) := by decide +kernel
theorem dX3_laid_14 : decode cX3_laid 14 = .ok (.bipush 100, 2) := by decide +kernel
theorem dX3_laid_16 : decode cX3_laid 16 = .ok (.if_icmp .ge 27, 3) := by decide +kernel
theorem dX3_laid_19 : decode cX3_laid 19 = .ok (.iload_n 1, 1) := by decide +kernel
theorem dX3_laid_20 : decode cX3_laid 20 = .ok (.aload_n 0, 1) := by decide +kernel
theorem dX3_laid_21 : decode cX3_laid 21 = .ok (.getfield 38, 3) := by decide +kernel
theorem dX3_laid_24 : decode cX3_laid 24 = .ok (.iload_n 2, 1) := by decide +kernel
theorem dX3_laid_25 : decode cX3_laid 25 = .ok (.iaload, 1) := by decide +kernel
theorem dX3_laid_26 : decode cX3_laid 26 = .ok (.iconst (-1), 1) := by decide +kernel
theorem dX3_laid_27 : decode cX3_laid 27 = .ok (.if_icmp .ne 7, 3) := by decide +kernel
theorem dX3_laid_30 : decode cX3_laid 30 = .ok (.iconst 0, 1) := by decide +kernel
theorem dX3_laid_31 : decode cX3_laid 31 = .ok (.goto 4, 3) := by decide +kernel
theorem dX3_laid_34 : decode cX3_laid 34 = .ok (.iconst 1, 1) := by decide +kernel
theorem dX3_laid_35 : decode cX3_laid 35 = .ok (.iadd, 1) := by decide +kernel
theorem dX3_laid_36 : decode cX3_laid 36 = .ok (.istore_n 1, 1) := by decide +kernel
theorem dX3_laid_37 : decode cX3_laid 37 = .ok (.iinc 2 1, 3) := by decide +kernel
theorem dX3_laid_40 : decode cX3_laid 40 = .ok (.goto (-27), 3) := by decide +kernel
theorem dX3_laid_43 : decode cX3_laid 43 = .ok (.iload_n 1, 1) := by decide +kernel
theorem dX3_laid_44 : decode cX3_laid 44 = .ok (.ireturn, 1) := by decide +kernel
set_option maxRecDepth 20000 in
theorem ggX3_late_X3_plans : GoodIn wsX3_late wsX3_plans := goodIn_r _ [7, 2, 8, 9, 10, 11, 12, 13, 14, 15, 16, 6, 17, 18, 19, 20, 21, 22, 23, 24, 25, 26, 27, 28, 29, 30, 31, 32, 33, 34, 35, 36, 37, 38, 39, 40, 41, 42, 43, 44, 45, 46, 47, 48, 49, 50, 51, 52, 53, 54, 55, 56, 57, 58, 59, 60, 61, 62, 63] (by decide +kernel) (by decide +kernel)
set_option maxRecDepth 20000 in
theorem gX3_late_X3_plans : GoodIn wsX3_late (wsV RX3 107 RX3 yX3_plans wsX3_plans) := goodIn_app (goodIn_of _ (by decide +kernel)) ggX3_late_X3_plans
theorem dX3_late_0 : decode cX3_late 0 = .ok (.aload_n 0, 1) := by decide +kernel
theorem dX3_late_1 : decode cX3_late 1 = .ok (.iconst 0, 1) := by decide +kernel
theorem dX3_late_2 : decode cX3_late 2 = .ok (.putfield 56, 3) := by decide +kernel
theorem dX3_late_5 : decode cX3_late 5 = .ok (.aload_n 0, 1) := by decide +kernel
theorem dX3_late_6 : decode cX3_late 6 = .ok (.invokevirtual 107, 3) := by decide +kernel
theorem dX3_late_9 : decode cX3_late 9 = .ok (.aload_n 0, 1) := by decide +kernel
theorem dX3_late_10 : decode cX3_late 10 = .ok (.getfield 94, 3) := by decide +kernel
theorem dX3_late_13 : decode cX3_late 13 = .ok (.ireturn, 1) := by decide +kernel
set_option maxRecDepth 20000 in
theorem ggX3_lastDay_X3_plans : GoodIn wsX3_lastDay wsX3_plans := goodIn_r _ [7, 8, 9, 10, 11, 12, 2, 13, 14, 15, 16, 6, 17, 18, 19, 20, 21, 22, 23, 24, 25, 26, 27, 28, 29, 30, 31, 32, 33, 34, 35, 36, 37, 38, 39, 40, 41, 42, 43, 44, 45, 46, 47, 48, 49, 50, 51, 52, 53, 54, 55, 56, 57, 58, 59, 60, 61, 62, 63] (by decide +kernel) (by decide +kernel)
set_option maxRecDepth 20000 in
theorem gX3_lastDay_X3_plans : GoodIn wsX3_lastDay (wsV RX3 107 RX3 yX3_plans wsX3_plans) := goodIn_app (goodIn_of _ (by decide +kernel)) ggX3_lastDay_X3_plans
theorem dX3_lastDay_0 : decode cX3_lastDay 0 = .ok (.aload_n 0, 1) := by decide +kernel
theorem dX3_lastDay_1 : decode cX3_lastDay 1 = .ok (.iconst 0, 1) := by decide +kernel
theorem dX3_lastDay_2 : decode cX3_lastDay 2 = .ok (.putfield 56, 3) := by decide +kernel
theorem dX3_lastDay_5 : decode cX3_lastDay 5 = .ok (.aload_n 0, 1) := by decide +kernel
theorem dX3_lastDay_6 : decode cX3_lastDay 6 = .ok (.invokevirtual 107, 3) := by decide +kernel
theorem dX3_lastDay_9 : decode cX3_lastDay 9 = .ok (.iconst (-1), 1) := by decide +kernel
theorem dX3_lastDay_10 : decode cX3_lastDay 10 = .ok (.istore_n 1, 1) := by decide +kernel
theorem dX3_lastDay_11 : decode cX3_lastDay 11 = .ok (.iconst 0, 1) := by decide +kernel
theorem dX3_lastDay_12 : decode cX3_lastDay 12 = .ok (.istore_n 2, 1) := by decide +kernel
theorem dX3_lastDay_13 : decode cX3_lastDay 13 = .ok (.iload_n 2, 1) := by decide +kernel
theorem dX3_lastDay_14 : decode cX3_lastDay 14 = .ok (.bipush 100, 2) := by decide +kernel
theorem dX3_lastDay_16 : decode cX3_lastDay 16 = .ok (.if_icmp .ge 25, 3) := by decide +kernel
theorem dX3_lastDay_19 : decode cX3_lastDay 19 = .ok (.aload_n 0, 1) := by decide +kernel
theorem dX3_lastDay_20 : decode cX3_lastDay 20 = .ok (.getfield 38, 3) := by decide +kernel
theorem dX3_lastDay_23 : decode cX3_lastDay 23 = .ok (.iload_n 2, 1) := by decide +kernel
theorem dX3_lastDay_24 : decode cX3_lastDay 24 = .ok (.iaload, 1) := by decide +kernel
theorem dX3_lastDay_25 : decode cX3_lastDay 25 = .ok (.iconst (-1), 1) := by decide +kernel
theorem dX3_lastDay_26 : decode cX3_lastDay 26 = .ok (.if_icmp .ne 7, 3) := by decide +kernel
theorem dX3_lastDay_29 : decode cX3_lastDay 29 = .ok (.iload_n 1, 1) := by decide +kernel
theorem dX3_lastDay_30 : decode cX3_lastDay 30 = .ok (.goto 4, 3) := by decide +kernel
theorem dX3_lastDay_33 : decode cX3_lastDay 33 = .ok (.iload_n 2, 1) := by decide +kernel
theorem dX3_lastDay_34 : decode cX3_lastDay 34 = .ok (.istore_n 1, 1) := by decide +kernel
theorem dX3_lastDay_35 : decode cX3_lastDay 35 = .ok (.iinc 2 1, 3) := by decide +kernel
theorem dX3_lastDay_38 : decode cX3_lastDay 38 = .ok (.goto (-25), 3) := by decide +kernel
theorem dX3_lastDay_41 : decode cX3_lastDay 41 = .ok (.iload_n 1, 1) := by decide +kernel
theorem dX3_lastDay_42 : decode cX3_lastDay 42 = .ok (.ireturn, 1) := by decide +kernel
theorem dX3_isClosed_0 : decode cX3_isClosed 0 = .ok (.iconst 1, 1) := by decide +kernel
theorem dX3_isClosed_1 : decode cX3_isClosed 1 = .ok (.istore_n 2, 1) := by decide +kernel
theorem dX3_isClosed_2 : decode cX3_isClosed 2 = .ok (.iconst 0, 1) := by decide +kernel
theorem dX3_isClosed_3 : decode cX3_isClosed 3 = .ok (.istore_n 3, 1) := by decide +kernel
theorem dX3_isClosed_4 : decode cX3_isClosed 4 = .ok (.iload_n 3, 1) := by decide +kernel
theorem dX3_isClosed_5 : decode cX3_isClosed 5 = .ok (.aload_n 0, 1) := by decide +kernel
theorem dX3_isClosed_6 : decode cX3_isClosed 6 = .ok (.getfield 60, 3) := by decide +kernel
theorem dX3_isClosed_9 : decode cX3_isClosed 9 = .ok (.if_icmp .ge 40, 3) := by decide +kernel
theorem dX3_isClosed_12 : decode cX3_isClosed 12 = .ok (.iload_n 2, 1) := by decide +kernel
theorem dX3_isClosed_13 : decode cX3_isClosed 13 = .ok (.ifCond .eq 28, 3) := by decide +kernel
theorem dX3_isClosed_16 : decode cX3_isClosed 16 = .ok (.iload_n 1, 1) := by decide +kernel
theorem dX3_isClosed_17 : decode cX3_isClosed 17 = .ok (.iload_n 3, 1) := by decide +kernel
theorem dX3_isClosed_18 : decode cX3_isClosed 18 = .ok (.ishr, 1) := by decide +kernel
theorem dX3_isClosed_19 : decode cX3_isClosed 19 = .ok (.iconst 1, 1) := by decide +kernel
theorem dX3_isClosed_20 : decode cX3_isClosed 20 = .ok (.iand, 1) := by decide +kernel
theorem dX3_isClosed_21 : decode cX3_isClosed 21 = .ok (.ifCond .eq 16, 3) := by decide +kernel
theorem dX3_isClosed_24 : decode cX3_isClosed 24 = .ok (.aload_n 0, 1) := by decide +kernel
theorem dX3_isClosed_25 : decode cX3_isClosed 25 = .ok (.getfield 22, 3) := by decide +kernel
theorem dX3_isClosed_28 : decode cX3_isClosed 28 = .ok (.iload_n 3, 1) := by decide +kernel
theorem dX3_isClosed_29 : decode cX3_isClosed 29 = .ok (.iaload, 1) := by decide +kernel
theorem dX3_isClosed_30 : decode cX3_isClosed 30 = .ok (.iload_n 1, 1) := by decide +kernel
theorem dX3_isClosed_31 : decode cX3_isClosed 31 = .ok (.iconst (-1), 1) := by decide +kernel
theorem dX3_isClosed_32 : decode cX3_isClosed 32 = .ok (.ixor, 1) := by decide +kernel
theorem dX3_isClosed_33 : decode cX3_isClosed 33 = .ok (.iand, 1) := by decide +kernel
theorem dX3_isClosed_34 : decode cX3_isClosed 34 = .ok (.ifCond .ne 7, 3) := by decide +kernel
theorem dX3_isClosed_37 : decode cX3_isClosed 37 = .ok (.iconst 1, 1) := by decide +kernel
theorem dX3_isClosed_38 : decode cX3_isClosed 38 = .ok (.goto 4, 3) := by decide +kernel
theorem dX3_isClosed_41 : decode cX3_isClosed 41 = .ok (.iconst 0, 1) := by decide +kernel
theorem dX3_isClosed_42 : decode cX3_isClosed 42 = .ok (.istore_n 2, 1) := by decide +kernel
theorem dX3_isClosed_43 : decode cX3_isClosed 43 = .ok (.iinc 3 1, 3) := by decide +kernel
theorem dX3_isClosed_46 : decode cX3_isClosed 46 = .ok (.goto (-42), 3) := by decide +kernel
theorem dX3_isClosed_49 : decode cX3_isClosed 49 = .ok (.iload_n 2, 1) := by decide +kernel
theorem dX3_isClosed_50 : decode cX3_isClosed 50 = .ok (.ireturn, 1) := by decide +kernel
theorem dX3_net_0 : decode cX3_net 0 = .ok (.iconst 0, 1) := by decide +kernel
theorem dX3_net_1 : decode cX3_net 1 = .ok (.istore_n 3, 1) := by decide +kernel
theorem dX3_net_2 : decode cX3_net 2 = .ok (.iconst 0, 1) := by decide +kernel
theorem dX3_net_3 : decode cX3_net 3 = .ok (.istore 4, 2) := by decide +kernel
theorem dX3_net_5 : decode cX3_net 5 = .ok (.iload 4, 2) := by decide +kernel
theorem dX3_net_7 : decode cX3_net 7 = .ok (.aload_n 0, 1) := by decide +kernel
theorem dX3_net_8 : decode cX3_net 8 = .ok (.getfield 60, 3) := by decide +kernel
theorem dX3_net_11 : decode cX3_net 11 = .ok (.if_icmp .ge 43, 3) := by decide +kernel
theorem dX3_net_14 : decode cX3_net 14 = .ok (.iload_n 3, 1) := by decide +kernel
theorem dX3_net_15 : decode cX3_net 15 = .ok (.iload_n 1, 1) := by decide +kernel
theorem dX3_net_16 : decode cX3_net 16 = .ok (.iload 4, 2) := by decide +kernel
theorem dX3_net_18 : decode cX3_net 18 = .ok (.ishr, 1) := by decide +kernel
theorem dX3_net_19 : decode cX3_net 19 = .ok (.iconst 1, 1) := by decide +kernel
theorem dX3_net_20 : decode cX3_net 20 = .ok (.iand, 1) := by decide +kernel
theorem dX3_net_21 : decode cX3_net 21 = .ok (.iconst 1, 1) := by decide +kernel
theorem dX3_net_22 : decode cX3_net 22 = .ok (.if_icmp .ne 23, 3) := by decide +kernel
theorem dX3_net_25 : decode cX3_net 25 = .ok (.aload_n 0, 1) := by decide +kernel
theorem dX3_net_26 : decode cX3_net 26 = .ok (.getfield 16, 3) := by decide +kernel
theorem dX3_net_29 : decode cX3_net 29 = .ok (.iload 4, 2) := by decide +kernel
theorem dX3_net_31 : decode cX3_net 31 = .ok (.iaload, 1) := by decide +kernel
theorem dX3_net_32 : decode cX3_net 32 = .ok (.iload_n 2, 1) := by decide +kernel
theorem dX3_net_33 : decode cX3_net 33 = .ok (.aload_n 0, 1) := by decide +kernel
theorem dX3_net_34 : decode cX3_net 34 = .ok (.getfield 7, 3) := by decide +kernel
theorem dX3_net_37 : decode cX3_net 37 = .ok (.iload 4, 2) := by decide +kernel
theorem dX3_net_39 : decode cX3_net 39 = .ok (.iaload, 1) := by decide +kernel
theorem dX3_net_40 : decode cX3_net 40 = .ok (.imul, 1) := by decide +kernel
theorem dX3_net_41 : decode cX3_net 41 = .ok (.isub, 1) := by decide +kernel
theorem dX3_net_42 : decode cX3_net 42 = .ok (.goto 4, 3) := by decide +kernel
theorem dX3_net_45 : decode cX3_net 45 = .ok (.iconst 0, 1) := by decide +kernel
theorem dX3_net_46 : decode cX3_net 46 = .ok (.iadd, 1) := by decide +kernel
theorem dX3_net_47 : decode cX3_net 47 = .ok (.istore_n 3, 1) := by decide +kernel
theorem dX3_net_48 : decode cX3_net 48 = .ok (.iinc 4 1, 3) := by decide +kernel
theorem dX3_net_51 : decode cX3_net 51 = .ok (.goto (-46), 3) := by decide +kernel
theorem dX3_net_54 : decode cX3_net 54 = .ok (.iload_n 3, 1) := by decide +kernel
theorem dX3_net_55 : decode cX3_net 55 = .ok (.ireturn, 1) := by decide +kernel
set_option maxRecDepth 20000 in
theorem ggX3_best_X3_isClosed : GoodIn wsX3_best wsX3_isClosed := goodIn_r _ [6, 1, 7, 17, 18, 19, 20, 21, 22, 23, 24, 25, 26, 27, 28, 29, 30, 31, 32, 33, 34] (by decide +kernel) (by decide +kernel)
set_option maxRecDepth 20000 in
theorem gX3_best_X3_isClosed : GoodIn wsX3_best (wsV RX3 113 RX3 yX3_isClosed wsX3_isClosed) := goodIn_app (goodIn_of _ (by decide +kernel)) ggX3_best_X3_isClosed
set_option maxRecDepth 20000 in
theorem ggX3_best_X3_net : GoodIn wsX3_best wsX3_net := goodIn_r _ [11, 1, 12, 13, 17, 18, 19, 20, 21, 22, 23, 24, 25, 26, 27, 28, 29, 30, 31, 32, 33, 34] (by decide +kernel) (by decide +kernel)
set_option maxRecDepth 20000 in
theorem gX3_best_X3_net : GoodIn wsX3_best (wsV RX3 116 RX3 yX3_net wsX3_net) := goodIn_app (goodIn_of _ (by decide +kernel)) ggX3_best_X3_net
set_option maxRecDepth 20000 in
theorem ggX3_best_X3_size : GoodIn wsX3_best wsX3_size := goodIn_r _ [16] (by decide +kernel) (by decide +kernel)
set_option maxRecDepth 20000 in
theorem gX3_best_X3_size : GoodIn wsX3_best (va_wsS RX3 82 yX3_size wsX3_size) := goodIn_app (goodIn_of _ (by decide +kernel)) ggX3_best_X3_size
theorem dX3_best_0 : decode cX3_best 0 = .ok (.iconst 0, 1) := by decide +kernel
theorem dX3_best_1 : decode cX3_best 1 = .ok (.istore_n 2, 1) := by decide +kernel
theorem dX3_best_2 : decode cX3_best 2 = .ok (.iconst 1, 1) := by decide +kernel
theorem dX3_best_3 : decode cX3_best 3 = .ok (.istore_n 3, 1) := by decide +kernel
theorem dX3_best_4 : decode cX3_best 4 = .ok (.iload_n 3, 1) := by decide +kernel
theorem dX3_best_5 : decode cX3_best 5 = .ok (.iconst 1, 1) := by decide +kernel
theorem dX3_best_6 : decode cX3_best 6 = .ok (.aload_n 0, 1) := by decide +kernel
theorem dX3_best_7 : decode cX3_best 7 = .ok (.getfield 60, 3) := by decide +kernel
theorem dX3_best_10 : decode cX3_best 10 = .ok (.ishl, 1) := by decide +kernel
theorem dX3_best_11 : decode cX3_best 11 = .ok (.if_icmp .ge 63, 3) := by decide +kernel
theorem dX3_best_14 : decode cX3_best 14 = .ok (.aload_n 0, 1) := by decide +kernel
theorem dX3_best_15 : decode cX3_best 15 = .ok (.iload_n 3, 1) := by decide +kernel
theorem dX3_best_16 : decode cX3_best 16 = .ok (.invokevirtual 113, 3) := by decide +kernel
theorem dX3_best_19 : decode cX3_best 19 = .ok (.ifCond .eq 19, 3) := by decide +kernel
theorem dX3_best_22 : decode cX3_best 22 = .ok (.aload_n 0, 1) := by decide +kernel
theorem dX3_best_23 : decode cX3_best 23 = .ok (.iload_n 3, 1) := by decide +kernel
theorem dX3_best_24 : decode cX3_best 24 = .ok (.iload_n 1, 1) := by decide +kernel
theorem dX3_best_25 : decode cX3_best 25 = .ok (.invokevirtual 116, 3) := by decide +kernel
theorem dX3_best_28 : decode cX3_best 28 = .ok (.aload_n 0, 1) := by decide +kernel
theorem dX3_best_29 : decode cX3_best 29 = .ok (.iload_n 2, 1) := by decide +kernel
theorem dX3_best_30 : decode cX3_best 30 = .ok (.iload_n 1, 1) := by decide +kernel
theorem dX3_best_31 : decode cX3_best 31 = .ok (.invokevirtual 116, 3) := by decide +kernel
theorem dX3_best_34 : decode cX3_best 34 = .ok (.isub, 1) := by decide +kernel
theorem dX3_best_35 : decode cX3_best 35 = .ok (.goto 4, 3) := by decide +kernel
theorem dX3_best_38 : decode cX3_best 38 = .ok (.iconst (-1), 1) := by decide +kernel
theorem dX3_best_39 : decode cX3_best 39 = .ok (.istore 4, 2) := by decide +kernel
theorem dX3_best_41 : decode cX3_best 41 = .ok (.iload 4, 2) := by decide +kernel
theorem dX3_best_43 : decode cX3_best 43 = .ok (.ifCond .gt 19, 3) := by decide +kernel
theorem dX3_best_46 : decode cX3_best 46 = .ok (.iload 4, 2) := by decide +kernel
theorem dX3_best_48 : decode cX3_best 48 = .ok (.ifCond .ne 18, 3) := by decide +kernel
theorem dX3_best_51 : decode cX3_best 51 = .ok (.iload_n 3, 1) := by decide +kernel
theorem dX3_best_52 : decode cX3_best 52 = .ok (.invokestatic 82, 3) := by decide +kernel
theorem dX3_best_55 : decode cX3_best 55 = .ok (.iload_n 2, 1) := by decide +kernel
theorem dX3_best_56 : decode cX3_best 56 = .ok (.invokestatic 82, 3) := by decide +kernel
theorem dX3_best_59 : decode cX3_best 59 = .ok (.if_icmp .ge 7, 3) := by decide +kernel
theorem dX3_best_62 : decode cX3_best 62 = .ok (.iload_n 3, 1) := by decide +kernel
theorem dX3_best_63 : decode cX3_best 63 = .ok (.goto 4, 3) := by decide +kernel
theorem dX3_best_66 : decode cX3_best 66 = .ok (.iload_n 2, 1) := by decide +kernel
theorem dX3_best_67 : decode cX3_best 67 = .ok (.istore_n 2, 1) := by decide +kernel
theorem dX3_best_68 : decode cX3_best 68 = .ok (.iinc 3 1, 3) := by decide +kernel
theorem dX3_best_71 : decode cX3_best 71 = .ok (.goto (-67), 3) := by decide +kernel
theorem dX3_best_74 : decode cX3_best 74 = .ok (.iload_n 2, 1) := by decide +kernel
theorem dX3_best_75 : decode cX3_best 75 = .ok (.ireturn, 1) := by decide +kernel
set_option maxRecDepth 20000 in
theorem ggX3_worthwhile_X3_isIn : GoodIn wsX3_worthwhile wsX3_isIn := goodIn_r _ [4] (by decide +kernel) (by decide +kernel)
set_option maxRecDepth 20000 in
theorem gX3_worthwhile_X3_isIn : GoodIn wsX3_worthwhile (va_wsS RX3 63 yX3_isIn wsX3_isIn) := goodIn_app (goodIn_of _ (by decide +kernel)) ggX3_worthwhile_X3_isIn
set_option maxRecDepth 20000 in
theorem ggX3_worthwhile_X3_can : GoodIn wsX3_worthwhile wsX3_can := goodIn_r _ [8, 9, 29, 30, 31, 32, 33, 34, 35, 36, 37, 38, 39, 40, 41, 42, 43, 44, 45, 46] (by decide +kernel) (by decide +kernel)
set_option maxRecDepth 20000 in
theorem gX3_worthwhile_X3_can : GoodIn wsX3_worthwhile (wsV RX3 67 RX3 yX3_can wsX3_can) := goodIn_app (goodIn_of _ (by decide +kernel)) ggX3_worthwhile_X3_can
set_option maxRecDepth 20000 in
theorem ggX3_worthwhile_X3_best : GoodIn wsX3_worthwhile wsX3_best := goodIn_r _ [13, 14, 15, 16, 17, 3, 18, 19, 20, 21, 22, 23, 24, 25, 26, 27, 28, 29, 30, 31, 32, 33, 34, 35, 36, 37, 38, 39, 40, 41, 42, 43, 44, 45, 46] (by decide +kernel) (by decide +kernel)
set_option maxRecDepth 20000 in
theorem gX3_worthwhile_X3_best : GoodIn wsX3_worthwhile (wsV RX3 120 RX3 yX3_best wsX3_best) := goodIn_app (goodIn_of _ (by decide +kernel)) ggX3_worthwhile_X3_best
theorem dX3_worthwhile_0 : decode cX3_worthwhile 0 = .ok (.aload_n 0, 1) := by decide +kernel
theorem dX3_worthwhile_1 : decode cX3_worthwhile 1 = .ok (.iload_n 1, 1) := by decide +kernel
theorem dX3_worthwhile_2 : decode cX3_worthwhile 2 = .ok (.iconst 0, 1) := by decide +kernel
theorem dX3_worthwhile_3 : decode cX3_worthwhile 3 = .ok (.bipush 99, 2) := by decide +kernel
theorem dX3_worthwhile_5 : decode cX3_worthwhile 5 = .ok (.invokestatic 63, 3) := by decide +kernel
theorem dX3_worthwhile_8 : decode cX3_worthwhile 8 = .ok (.ifCond .eq 7, 3) := by decide +kernel
theorem dX3_worthwhile_11 : decode cX3_worthwhile 11 = .ok (.iconst 0, 1) := by decide +kernel
theorem dX3_worthwhile_12 : decode cX3_worthwhile 12 = .ok (.goto 4, 3) := by decide +kernel
theorem dX3_worthwhile_15 : decode cX3_worthwhile 15 = .ok (.iconst 1, 1) := by decide +kernel
theorem dX3_worthwhile_16 : decode cX3_worthwhile 16 = .ok (.invokevirtual 67, 3) := by decide +kernel
theorem dX3_worthwhile_19 : decode cX3_worthwhile 19 = .ok (.ifCond .eq 11, 3) := by decide +kernel
theorem dX3_worthwhile_22 : decode cX3_worthwhile 22 = .ok (.aload_n 0, 1) := by decide +kernel
theorem dX3_worthwhile_23 : decode cX3_worthwhile 23 = .ok (.iload_n 1, 1) := by decide +kernel
theorem dX3_worthwhile_24 : decode cX3_worthwhile 24 = .ok (.invokevirtual 120, 3) := by decide +kernel
theorem dX3_worthwhile_27 : decode cX3_worthwhile 27 = .ok (.goto 4, 3) := by decide +kernel
theorem dX3_worthwhile_30 : decode cX3_worthwhile 30 = .ok (.iconst 0, 1) := by decide +kernel
theorem dX3_worthwhile_31 : decode cX3_worthwhile 31 = .ok (.ireturn, 1) := by decide +kernel
set_option maxRecDepth 20000 in
theorem ggX3_bestNet_X3_isIn : GoodIn wsX3_bestNet wsX3_isIn := goodIn_r _ [4] (by decide +kernel) (by decide +kernel)
set_option maxRecDepth 20000 in
theorem gX3_bestNet_X3_isIn : GoodIn wsX3_bestNet (va_wsS RX3 63 yX3_isIn wsX3_isIn) := goodIn_app (goodIn_of _ (by decide +kernel)) ggX3_bestNet_X3_isIn
set_option maxRecDepth 20000 in
theorem ggX3_bestNet_X3_can : GoodIn wsX3_bestNet wsX3_can := goodIn_r _ [8, 9, 29, 30, 31, 32, 33, 34, 35, 36, 37, 38, 39, 40, 41, 42, 43, 44, 45, 46] (by decide +kernel) (by decide +kernel)
set_option maxRecDepth 20000 in
theorem gX3_bestNet_X3_can : GoodIn wsX3_bestNet (wsV RX3 67 RX3 yX3_can wsX3_can) := goodIn_app (goodIn_of _ (by decide +kernel)) ggX3_bestNet_X3_can
set_option maxRecDepth 20000 in
theorem ggX3_bestNet_X3_best : GoodIn wsX3_bestNet wsX3_best := goodIn_r _ [13, 14, 15, 16, 17, 3, 18, 19, 20, 21, 22, 23, 24, 25, 26, 27, 28, 29, 30, 31, 32, 33, 34, 35, 36, 37, 38, 39, 40, 41, 42, 43, 44, 45, 46] (by decide +kernel) (by decide +kernel)
set_option maxRecDepth 20000 in
theorem gX3_bestNet_X3_best : GoodIn wsX3_bestNet (wsV RX3 120 RX3 yX3_best wsX3_best) := goodIn_app (goodIn_of _ (by decide +kernel)) ggX3_bestNet_X3_best
set_option maxRecDepth 20000 in
theorem ggX3_bestNet_X3_net : GoodIn wsX3_bestNet wsX3_net := goodIn_r _ [23, 14, 24, 25, 29, 30, 31, 32, 33, 34, 35, 36, 37, 38, 39, 40, 41, 42, 43, 44, 45, 46] (by decide +kernel) (by decide +kernel)
set_option maxRecDepth 20000 in
theorem gX3_bestNet_X3_net : GoodIn wsX3_bestNet (wsV RX3 116 RX3 yX3_net wsX3_net) := goodIn_app (goodIn_of _ (by decide +kernel)) ggX3_bestNet_X3_net
theorem dX3_bestNet_0 : decode cX3_bestNet 0 = .ok (.aload_n 0, 1) := by decide +kernel
theorem dX3_bestNet_1 : decode cX3_bestNet 1 = .ok (.iload_n 1, 1) := by decide +kernel
theorem dX3_bestNet_2 : decode cX3_bestNet 2 = .ok (.iconst 0, 1) := by decide +kernel
theorem dX3_bestNet_3 : decode cX3_bestNet 3 = .ok (.bipush 99, 2) := by decide +kernel
theorem dX3_bestNet_5 : decode cX3_bestNet 5 = .ok (.invokestatic 63, 3) := by decide +kernel
theorem dX3_bestNet_8 : decode cX3_bestNet 8 = .ok (.ifCond .eq 7, 3) := by decide +kernel
theorem dX3_bestNet_11 : decode cX3_bestNet 11 = .ok (.iconst 0, 1) := by decide +kernel
theorem dX3_bestNet_12 : decode cX3_bestNet 12 = .ok (.goto 4, 3) := by decide +kernel
theorem dX3_bestNet_15 : decode cX3_bestNet 15 = .ok (.iconst 1, 1) := by decide +kernel
theorem dX3_bestNet_16 : decode cX3_bestNet 16 = .ok (.invokevirtual 67, 3) := by decide +kernel
theorem dX3_bestNet_19 : decode cX3_bestNet 19 = .ok (.ifCond .eq 16, 3) := by decide +kernel
theorem dX3_bestNet_22 : decode cX3_bestNet 22 = .ok (.aload_n 0, 1) := by decide +kernel
theorem dX3_bestNet_23 : decode cX3_bestNet 23 = .ok (.aload_n 0, 1) := by decide +kernel
theorem dX3_bestNet_24 : decode cX3_bestNet 24 = .ok (.iload_n 1, 1) := by decide +kernel
theorem dX3_bestNet_25 : decode cX3_bestNet 25 = .ok (.invokevirtual 120, 3) := by decide +kernel
theorem dX3_bestNet_28 : decode cX3_bestNet 28 = .ok (.iload_n 1, 1) := by decide +kernel
theorem dX3_bestNet_29 : decode cX3_bestNet 29 = .ok (.invokevirtual 116, 3) := by decide +kernel
theorem dX3_bestNet_32 : decode cX3_bestNet 32 = .ok (.goto 4, 3) := by decide +kernel
theorem dX3_bestNet_35 : decode cX3_bestNet 35 = .ok (.iconst 0, 1) := by decide +kernel
theorem dX3_bestNet_36 : decode cX3_bestNet 36 = .ok (.ireturn, 1) := by decide +kernel
set_option maxRecDepth 20000 in
theorem ggX3_closedSets_X3_isClosed : GoodIn wsX3_closedSets wsX3_isClosed := goodIn_r _ [7, 2, 8, 9, 10, 11, 12, 13, 14, 15, 16, 17, 18, 19, 20, 21, 22, 23, 24, 25, 26] (by decide +kernel) (by decide +kernel)
set_option maxRecDepth 20000 in
theorem gX3_closedSets_X3_isClosed : GoodIn wsX3_closedSets (wsV RX3 113 RX3 yX3_isClosed wsX3_isClosed) := goodIn_app (goodIn_of _ (by decide +kernel)) ggX3_closedSets_X3_isClosed
theorem dX3_closedSets_0 : decode cX3_closedSets 0 = .ok (.aload_n 0, 1) := by decide +kernel
theorem dX3_closedSets_1 : decode cX3_closedSets 1 = .ok (.iconst 0, 1) := by decide +kernel
theorem dX3_closedSets_2 : decode cX3_closedSets 2 = .ok (.putfield 56, 3) := by decide +kernel
theorem dX3_closedSets_5 : decode cX3_closedSets 5 = .ok (.iconst 0, 1) := by decide +kernel
theorem dX3_closedSets_6 : decode cX3_closedSets 6 = .ok (.istore_n 1, 1) := by decide +kernel
theorem dX3_closedSets_7 : decode cX3_closedSets 7 = .ok (.iconst 0, 1) := by decide +kernel
theorem dX3_closedSets_8 : decode cX3_closedSets 8 = .ok (.istore_n 2, 1) := by decide +kernel
theorem dX3_closedSets_9 : decode cX3_closedSets 9 = .ok (.iload_n 2, 1) := by decide +kernel
theorem dX3_closedSets_10 : decode cX3_closedSets 10 = .ok (.iconst 1, 1) := by decide +kernel
theorem dX3_closedSets_11 : decode cX3_closedSets 11 = .ok (.aload_n 0, 1) := by decide +kernel
theorem dX3_closedSets_12 : decode cX3_closedSets 12 = .ok (.getfield 60, 3) := by decide +kernel
theorem dX3_closedSets_15 : decode cX3_closedSets 15 = .ok (.ishl, 1) := by decide +kernel
theorem dX3_closedSets_16 : decode cX3_closedSets 16 = .ok (.if_icmp .ge 25, 3) := by decide +kernel
theorem dX3_closedSets_19 : decode cX3_closedSets 19 = .ok (.iload_n 1, 1) := by decide +kernel
theorem dX3_closedSets_20 : decode cX3_closedSets 20 = .ok (.aload_n 0, 1) := by decide +kernel
theorem dX3_closedSets_21 : decode cX3_closedSets 21 = .ok (.iload_n 2, 1) := by decide +kernel
theorem dX3_closedSets_22 : decode cX3_closedSets 22 = .ok (.invokevirtual 113, 3) := by decide +kernel
theorem dX3_closedSets_25 : decode cX3_closedSets 25 = .ok (.ifCond .eq 7, 3) := by decide +kernel
theorem dX3_closedSets_28 : decode cX3_closedSets 28 = .ok (.iconst 1, 1) := by decide +kernel
theorem dX3_closedSets_29 : decode cX3_closedSets 29 = .ok (.goto 4, 3) := by decide +kernel
theorem dX3_closedSets_32 : decode cX3_closedSets 32 = .ok (.iconst 0, 1) := by decide +kernel
theorem dX3_closedSets_33 : decode cX3_closedSets 33 = .ok (.iadd, 1) := by decide +kernel
theorem dX3_closedSets_34 : decode cX3_closedSets 34 = .ok (.istore_n 1, 1) := by decide +kernel
theorem dX3_closedSets_35 : decode cX3_closedSets 35 = .ok (.iinc 2 1, 3) := by decide +kernel
theorem dX3_closedSets_38 : decode cX3_closedSets 38 = .ok (.goto (-29), 3) := by decide +kernel
theorem dX3_closedSets_41 : decode cX3_closedSets 41 = .ok (.iload_n 1, 1) := by decide +kernel
theorem dX3_closedSets_42 : decode cX3_closedSets 42 = .ok (.ireturn, 1) := by decide +kernel
end
section
theorem dJ6_bitCount_0f7a4_0 : decode cJ6_bitCount_0f7a4 0 = .ok (.iload_n 0, 1) := by decide +kernel
theorem dJ6_bitCount_0f7a4_1 : decode cJ6_bitCount_0f7a4 1 = .ok (.iload_n 0, 1) := by decide +kernel
theorem dJ6_bitCount_0f7a4_2 : decode cJ6_bitCount_0f7a4 2 = .ok (.iconst 1, 1) := by decide +kernel
theorem dJ6_bitCount_0f7a4_3 : decode cJ6_bitCount_0f7a4 3 = .ok (.iushr, 1) := by decide +kernel
theorem dJ6_bitCount_0f7a4_4 : decode cJ6_bitCount_0f7a4 4 = .ok (.ldc_w 265, 3) := by decide +kernel
theorem dJ6_bitCount_0f7a4_7 : decode cJ6_bitCount_0f7a4 7 = .ok (.iand, 1) := by decide +kernel
theorem dJ6_bitCount_0f7a4_8 : decode cJ6_bitCount_0f7a4 8 = .ok (.isub, 1) := by decide +kernel
theorem dJ6_bitCount_0f7a4_9 : decode cJ6_bitCount_0f7a4 9 = .ok (.istore_n 0, 1) := by decide +kernel
theorem dJ6_bitCount_0f7a4_10 : decode cJ6_bitCount_0f7a4 10 = .ok (.iload_n 0, 1) := by decide +kernel
theorem dJ6_bitCount_0f7a4_11 : decode cJ6_bitCount_0f7a4 11 = .ok (.ldc_w 266, 3) := by decide +kernel
theorem dJ6_bitCount_0f7a4_14 : decode cJ6_bitCount_0f7a4 14 = .ok (.iand, 1) := by decide +kernel
theorem dJ6_bitCount_0f7a4_15 : decode cJ6_bitCount_0f7a4 15 = .ok (.iload_n 0, 1) := by decide +kernel
theorem dJ6_bitCount_0f7a4_16 : decode cJ6_bitCount_0f7a4 16 = .ok (.iconst 2, 1) := by decide +kernel
theorem dJ6_bitCount_0f7a4_17 : decode cJ6_bitCount_0f7a4 17 = .ok (.iushr, 1) := by decide +kernel
theorem dJ6_bitCount_0f7a4_18 : decode cJ6_bitCount_0f7a4 18 = .ok (.ldc_w 266, 3) := by decide +kernel
theorem dJ6_bitCount_0f7a4_21 : decode cJ6_bitCount_0f7a4 21 = .ok (.iand, 1) := by decide +kernel
theorem dJ6_bitCount_0f7a4_22 : decode cJ6_bitCount_0f7a4 22 = .ok (.iadd, 1) := by decide +kernel
theorem dJ6_bitCount_0f7a4_23 : decode cJ6_bitCount_0f7a4 23 = .ok (.istore_n 0, 1) := by decide +kernel
theorem dJ6_bitCount_0f7a4_24 : decode cJ6_bitCount_0f7a4 24 = .ok (.iload_n 0, 1) := by decide +kernel
theorem dJ6_bitCount_0f7a4_25 : decode cJ6_bitCount_0f7a4 25 = .ok (.iload_n 0, 1) := by decide +kernel
theorem dJ6_bitCount_0f7a4_26 : decode cJ6_bitCount_0f7a4 26 = .ok (.iconst 4, 1) := by decide +kernel
theorem dJ6_bitCount_0f7a4_27 : decode cJ6_bitCount_0f7a4 27 = .ok (.iushr, 1) := by decide +kernel
theorem dJ6_bitCount_0f7a4_28 : decode cJ6_bitCount_0f7a4 28 = .ok (.iadd, 1) := by decide +kernel
theorem dJ6_bitCount_0f7a4_29 : decode cJ6_bitCount_0f7a4 29 = .ok (.ldc_w 267, 3) := by decide +kernel
theorem dJ6_bitCount_0f7a4_32 : decode cJ6_bitCount_0f7a4 32 = .ok (.iand, 1) := by decide +kernel
theorem dJ6_bitCount_0f7a4_33 : decode cJ6_bitCount_0f7a4 33 = .ok (.istore_n 0, 1) := by decide +kernel
theorem dJ6_bitCount_0f7a4_34 : decode cJ6_bitCount_0f7a4 34 = .ok (.iload_n 0, 1) := by decide +kernel
theorem dJ6_bitCount_0f7a4_35 : decode cJ6_bitCount_0f7a4 35 = .ok (.iload_n 0, 1) := by decide +kernel
theorem dJ6_bitCount_0f7a4_36 : decode cJ6_bitCount_0f7a4 36 = .ok (.bipush 8, 2) := by decide +kernel
theorem dJ6_bitCount_0f7a4_38 : decode cJ6_bitCount_0f7a4 38 = .ok (.iushr, 1) := by decide +kernel
theorem dJ6_bitCount_0f7a4_39 : decode cJ6_bitCount_0f7a4 39 = .ok (.iadd, 1) := by decide +kernel
theorem dJ6_bitCount_0f7a4_40 : decode cJ6_bitCount_0f7a4 40 = .ok (.istore_n 0, 1) := by decide +kernel
theorem dJ6_bitCount_0f7a4_41 : decode cJ6_bitCount_0f7a4 41 = .ok (.iload_n 0, 1) := by decide +kernel
theorem dJ6_bitCount_0f7a4_42 : decode cJ6_bitCount_0f7a4 42 = .ok (.iload_n 0, 1) := by decide +kernel
theorem dJ6_bitCount_0f7a4_43 : decode cJ6_bitCount_0f7a4 43 = .ok (.bipush 16, 2) := by decide +kernel
theorem dJ6_bitCount_0f7a4_45 : decode cJ6_bitCount_0f7a4 45 = .ok (.iushr, 1) := by decide +kernel
theorem dJ6_bitCount_0f7a4_46 : decode cJ6_bitCount_0f7a4 46 = .ok (.iadd, 1) := by decide +kernel
theorem dJ6_bitCount_0f7a4_47 : decode cJ6_bitCount_0f7a4 47 = .ok (.istore_n 0, 1) := by decide +kernel
theorem dJ6_bitCount_0f7a4_48 : decode cJ6_bitCount_0f7a4 48 = .ok (.iload_n 0, 1) := by decide +kernel
theorem dJ6_bitCount_0f7a4_49 : decode cJ6_bitCount_0f7a4 49 = .ok (.bipush 63, 2) := by decide +kernel
theorem dJ6_bitCount_0f7a4_51 : decode cJ6_bitCount_0f7a4 51 = .ok (.iand, 1) := by decide +kernel
theorem dJ6_bitCount_0f7a4_52 : decode cJ6_bitCount_0f7a4 52 = .ok (.ireturn, 1) := by decide +kernel
theorem dJ7_fill_53178_0 : decode cJ7_fill_53178 0 = .ok (.iconst 0, 1) := by decide +kernel
theorem dJ7_fill_53178_1 : decode cJ7_fill_53178 1 = .ok (.istore_n 2, 1) := by decide +kernel
theorem dJ7_fill_53178_2 : decode cJ7_fill_53178 2 = .ok (.aload_n 0, 1) := by decide +kernel
theorem dJ7_fill_53178_3 : decode cJ7_fill_53178 3 = .ok (.arraylength, 1) := by decide +kernel
theorem dJ7_fill_53178_4 : decode cJ7_fill_53178 4 = .ok (.istore_n 3, 1) := by decide +kernel
theorem dJ7_fill_53178_5 : decode cJ7_fill_53178 5 = .ok (.iload_n 2, 1) := by decide +kernel
theorem dJ7_fill_53178_6 : decode cJ7_fill_53178 6 = .ok (.iload_n 3, 1) := by decide +kernel
theorem dJ7_fill_53178_7 : decode cJ7_fill_53178 7 = .ok (.if_icmp .ge 13, 3) := by decide +kernel
theorem dJ7_fill_53178_10 : decode cJ7_fill_53178 10 = .ok (.aload_n 0, 1) := by decide +kernel
theorem dJ7_fill_53178_11 : decode cJ7_fill_53178 11 = .ok (.iload_n 2, 1) := by decide +kernel
theorem dJ7_fill_53178_12 : decode cJ7_fill_53178 12 = .ok (.iload_n 1, 1) := by decide +kernel
theorem dJ7_fill_53178_13 : decode cJ7_fill_53178 13 = .ok (.iastore, 1) := by decide +kernel
theorem dJ7_fill_53178_14 : decode cJ7_fill_53178 14 = .ok (.iinc 2 1, 3) := by decide +kernel
theorem dJ7_fill_53178_17 : decode cJ7_fill_53178 17 = .ok (.goto (-12), 3) := by decide +kernel
theorem dJ7_fill_53178_20 : decode cJ7_fill_53178 20 = .ok (.return_, 1) := by decide +kernel
set_option maxRecDepth 20000 in
theorem ggL_aim_X2_aim : GoodIn wsL_aim wsX2_aim := goodIn_ca (goodIn_ca (goodIn_r _ [7, 8, 9, 10, 11, 12, 13, 14, 6, 15, 16, 17, 18, 19, 20, 21, 22, 23, 24, 25, 26, 27, 28, 29, 30, 31, 32, 33, 34, 35, 36, 37, 38, 39, 40, 41, 42, 43, 44, 45, 46, 47, 48, 49, 50, 51, 52, 53, 54, 55, 56, 57, 58, 59, 60, 61, 62, 63, 64, 65, 66, 67, 68, 69, 70, 71, 72, 73, 74, 75, 76, 77, 78, 79, 80, 81, 82, 83, 84, 85, 86, 87, 88, 89, 90, 91, 92, 93, 94, 95, 96, 97, 98, 99, 100, 101, 102, 103, 104, 105, 106, 107, 108, 109, 110, 111, 112, 113, 114, 115, 116, 117, 118, 119, 120, 121, 122, 123, 124, 125, 126, 127, 128, 129, 130, 131, 132, 133, 134, 135] (by decide +kernel) (by decide +kernel)) (goodIn_sub (fun _ h => List.mem_cons_of_mem _ (List.mem_append_left _ (List.mem_append_right _ h))) (by decide +kernel))) (goodIn_sub (fun _ h => List.mem_cons_of_mem _ (List.mem_append_right _ h)) (by decide +kernel))
set_option maxRecDepth 20000 in
theorem gL_aim_X2_aim : GoodIn wsL_aim (wsV RL 7 RX2 yX2_aim wsX2_aim) := goodIn_app (goodIn_of _ (by decide +kernel)) ggL_aim_X2_aim
theorem dL_aim_0 : decode cL_aim 0 = .ok (.aload 5, 2) := by decide +kernel
theorem dL_aim_2 : decode cL_aim 2 = .ok (.iconst 0, 1) := by decide +kernel
theorem dL_aim_3 : decode cL_aim 3 = .ok (.aload_n 0, 1) := by decide +kernel
theorem dL_aim_4 : decode cL_aim 4 = .ok (.iload_n 1, 1) := by decide +kernel
theorem dL_aim_5 : decode cL_aim 5 = .ok (.iload_n 2, 1) := by decide +kernel
theorem dL_aim_6 : decode cL_aim 6 = .ok (.iload_n 3, 1) := by decide +kernel
theorem dL_aim_7 : decode cL_aim 7 = .ok (.iload 4, 2) := by decide +kernel
theorem dL_aim_9 : decode cL_aim 9 = .ok (.invokevirtual 7, 3) := by decide +kernel
theorem dL_aim_12 : decode cL_aim 12 = .ok (.i2l, 1) := by decide +kernel
theorem dL_aim_13 : decode cL_aim 13 = .ok (.lastore, 1) := by decide +kernel
theorem dL_aim_14 : decode cL_aim 14 = .ok (.goto 11, 3) := by decide +kernel
theorem dL_aim_17 : decode cL_aim 17 = .ok (.astore 6, 2) := by decide +kernel
theorem dL_aim_19 : decode cL_aim 19 = .ok (.iconst 1, 1) := by decide +kernel
theorem dL_aim_20 : decode cL_aim 20 = .ok (.ireturn, 1) := by decide +kernel
theorem dL_aim_21 : decode cL_aim 21 = .ok (.astore 6, 2) := by decide +kernel
theorem dL_aim_23 : decode cL_aim 23 = .ok (.iconst 2, 1) := by decide +kernel
theorem dL_aim_24 : decode cL_aim 24 = .ok (.ireturn, 1) := by decide +kernel
theorem dL_aim_25 : decode cL_aim 25 = .ok (.iconst 0, 1) := by decide +kernel
theorem dL_aim_26 : decode cL_aim 26 = .ok (.ireturn, 1) := by decide +kernel
set_option maxRecDepth 20000 in
theorem ggL_need_X2_need : GoodIn wsL_need wsX2_need := goodIn_ca (goodIn_ca (goodIn_ca (goodIn_r _ [8, 9, 10, 11, 12, 13, 14, 15, 16, 17, 18, 7, 19, 20, 21, 22, 23, 24, 25, 26, 27, 28, 29, 30, 31, 32, 33, 34, 35, 36, 37, 38, 39, 40, 41, 42, 43, 44, 45, 46, 47, 48, 49, 50, 51, 52, 53, 54, 55, 56, 57, 58, 59, 60, 61, 62, 63, 64, 65, 66, 67, 68, 69, 70, 71, 72, 73, 74, 75, 76, 77, 78, 79, 80, 81, 82, 83, 84, 85, 86, 87, 88, 89, 90, 91, 92, 93, 94, 95, 96, 97, 98, 99, 100, 101, 102, 103, 104, 105, 106, 107, 108, 109, 110, 111, 112, 113, 114, 115, 116, 117, 118, 119, 120, 121, 122, 123, 124, 125, 126, 127, 128, 129, 130, 131, 132, 133, 134, 135, 136, 137, 138, 139, 140, 141, 142, 143, 144, 145, 146, 147, 148, 149, 150, 151, 152, 153, 154] (by decide +kernel) (by decide +kernel)) (goodIn_sub (fun _ h => List.mem_cons_of_mem _ (List.mem_append_left _ (List.mem_append_left _ (List.mem_append_right _ h)))) (by decide +kernel))) (goodIn_sub (fun _ h => List.mem_cons_of_mem _ (List.mem_append_left _ (List.mem_append_right _ h))) (by decide +kernel))) (goodIn_sub (fun _ h => List.mem_cons_of_mem _ (List.mem_append_right _ h)) (by decide +kernel))
set_option maxRecDepth 20000 in
theorem gL_need_X2_need : GoodIn wsL_need (wsV RL 17 RX2 yX2_need wsX2_need) := goodIn_app (goodIn_of _ (by decide +kernel)) ggL_need_X2_need
theorem dL_need_0 : decode cL_need 0 = .ok (.aload_n 3, 1) := by decide +kernel
theorem dL_need_1 : decode cL_need 1 = .ok (.iconst 0, 1) := by decide +kernel
theorem dL_need_2 : decode cL_need 2 = .ok (.aload_n 0, 1) := by decide +kernel
theorem dL_need_3 : decode cL_need 3 = .ok (.iload_n 1, 1) := by decide +kernel
theorem dL_need_4 : decode cL_need 4 = .ok (.iload_n 2, 1) := by decide +kernel
theorem dL_need_5 : decode cL_need 5 = .ok (.invokevirtual 17, 3) := by decide +kernel
theorem dL_need_8 : decode cL_need 8 = .ok (.i2l, 1) := by decide +kernel
theorem dL_need_9 : decode cL_need 9 = .ok (.lastore, 1) := by decide +kernel
theorem dL_need_10 : decode cL_need 10 = .ok (.goto 15, 3) := by decide +kernel
theorem dL_need_13 : decode cL_need 13 = .ok (.astore 4, 2) := by decide +kernel
theorem dL_need_15 : decode cL_need 15 = .ok (.iconst 1, 1) := by decide +kernel
theorem dL_need_16 : decode cL_need 16 = .ok (.ireturn, 1) := by decide +kernel
theorem dL_need_17 : decode cL_need 17 = .ok (.astore 4, 2) := by decide +kernel
theorem dL_need_19 : decode cL_need 19 = .ok (.iconst 2, 1) := by decide +kernel
theorem dL_need_20 : decode cL_need 20 = .ok (.ireturn, 1) := by decide +kernel
theorem dL_need_21 : decode cL_need 21 = .ok (.astore 4, 2) := by decide +kernel
theorem dL_need_23 : decode cL_need 23 = .ok (.iconst 3, 1) := by decide +kernel
theorem dL_need_24 : decode cL_need 24 = .ok (.ireturn, 1) := by decide +kernel
theorem dL_need_25 : decode cL_need 25 = .ok (.iconst 0, 1) := by decide +kernel
theorem dL_need_26 : decode cL_need 26 = .ok (.ireturn, 1) := by decide +kernel
set_option maxRecDepth 20000 in
theorem ggL_free_X2_free : GoodIn wsL_free wsX2_free := goodIn_ca (goodIn_ca (goodIn_r _ [7, 8, 9, 10, 11, 12, 13, 14, 15, 6, 16, 17, 18, 19, 20, 21, 22, 23, 24, 25, 26, 27, 28, 29, 30, 31, 32, 33, 34, 35, 36, 37, 38, 39, 40, 41, 42, 43, 44, 45, 46, 47, 48, 49, 50, 51, 52, 53, 54, 55, 56, 57, 58, 59, 60, 61, 62, 63, 64, 65, 66, 67, 68, 69, 70, 71, 72, 73, 74, 75, 76, 77, 78, 79, 80, 81, 82, 83, 84, 85, 86, 87, 88, 89, 90, 91, 92, 93, 94, 95, 96, 97, 98, 99, 100, 101, 102, 103, 104, 105, 106, 107, 108, 109, 110, 111, 112, 113, 114, 115, 116, 117, 118, 119, 120, 121, 122, 123, 124, 125, 126, 127, 128, 129, 130, 131, 132, 133, 134, 135, 136, 137, 138, 139, 140, 141, 142, 143] (by decide +kernel) (by decide +kernel)) (goodIn_sub (fun _ h => List.mem_cons_of_mem _ (List.mem_append_left _ (List.mem_append_right _ h))) (by decide +kernel))) (goodIn_sub (fun _ h => List.mem_cons_of_mem _ (List.mem_append_right _ h)) (by decide +kernel))
set_option maxRecDepth 20000 in
theorem gL_free_X2_free : GoodIn wsL_free (wsV RL 23 RX2 yX2_free wsX2_free) := goodIn_app (goodIn_of _ (by decide +kernel)) ggL_free_X2_free
theorem dL_free_0 : decode cL_free 0 = .ok (.aload_n 3, 1) := by decide +kernel
theorem dL_free_1 : decode cL_free 1 = .ok (.iconst 0, 1) := by decide +kernel
theorem dL_free_2 : decode cL_free 2 = .ok (.aload_n 0, 1) := by decide +kernel
theorem dL_free_3 : decode cL_free 3 = .ok (.iload_n 1, 1) := by decide +kernel
theorem dL_free_4 : decode cL_free 4 = .ok (.iload_n 2, 1) := by decide +kernel
theorem dL_free_5 : decode cL_free 5 = .ok (.invokevirtual 23, 3) := by decide +kernel
theorem dL_free_8 : decode cL_free 8 = .ok (.i2l, 1) := by decide +kernel
theorem dL_free_9 : decode cL_free 9 = .ok (.lastore, 1) := by decide +kernel
theorem dL_free_10 : decode cL_free 10 = .ok (.goto 11, 3) := by decide +kernel
theorem dL_free_13 : decode cL_free 13 = .ok (.astore 4, 2) := by decide +kernel
theorem dL_free_15 : decode cL_free 15 = .ok (.iconst 1, 1) := by decide +kernel
theorem dL_free_16 : decode cL_free 16 = .ok (.ireturn, 1) := by decide +kernel
theorem dL_free_17 : decode cL_free 17 = .ok (.astore 4, 2) := by decide +kernel
theorem dL_free_19 : decode cL_free 19 = .ok (.iconst 2, 1) := by decide +kernel
theorem dL_free_20 : decode cL_free 20 = .ok (.ireturn, 1) := by decide +kernel
theorem dL_free_21 : decode cL_free 21 = .ok (.iconst 0, 1) := by decide +kernel
theorem dL_free_22 : decode cL_free 22 = .ok (.ireturn, 1) := by decide +kernel
set_option maxRecDepth 20000 in
theorem ggL_revisits_X2_revisits : GoodIn wsL_revisits wsX2_revisits := goodIn_ca (goodIn_ca (goodIn_r _ [7, 8, 9, 10, 11, 12, 13, 14, 15, 6, 16, 17, 18, 19, 20, 21, 22, 23, 24, 25, 26, 27, 28, 29, 30, 31, 32, 33, 34, 35, 36, 37, 38, 39, 40, 41, 42, 43, 44, 45, 46, 47, 48, 49, 50, 51, 52, 53, 54, 55, 56, 57, 58, 59, 60, 61, 62, 63, 64, 65, 66, 67, 68, 69, 70, 71, 72, 73, 74, 75, 76, 77, 78, 79, 80, 81, 82, 83, 84, 85, 86, 87, 88, 89, 90, 91, 92, 93, 94, 95, 96, 97, 98, 99, 100, 101, 102, 103, 104, 105, 106, 107, 108, 109, 110, 111, 112, 113] (by decide +kernel) (by decide +kernel)) (goodIn_sub (fun _ h => List.mem_cons_of_mem _ (List.mem_append_left _ (List.mem_append_right _ h))) (by decide +kernel))) (goodIn_sub (fun _ h => List.mem_cons_of_mem _ (List.mem_append_right _ h)) (by decide +kernel))
set_option maxRecDepth 20000 in
theorem gL_revisits_X2_revisits : GoodIn wsL_revisits (wsV RL 28 RX2 yX2_revisits wsX2_revisits) := goodIn_app (goodIn_of _ (by decide +kernel)) ggL_revisits_X2_revisits
theorem dL_revisits_0 : decode cL_revisits 0 = .ok (.aload 4, 2) := by decide +kernel
theorem dL_revisits_2 : decode cL_revisits 2 = .ok (.iconst 0, 1) := by decide +kernel
theorem dL_revisits_3 : decode cL_revisits 3 = .ok (.aload_n 0, 1) := by decide +kernel
theorem dL_revisits_4 : decode cL_revisits 4 = .ok (.iload_n 1, 1) := by decide +kernel
theorem dL_revisits_5 : decode cL_revisits 5 = .ok (.iload_n 2, 1) := by decide +kernel
theorem dL_revisits_6 : decode cL_revisits 6 = .ok (.iload_n 3, 1) := by decide +kernel
theorem dL_revisits_7 : decode cL_revisits 7 = .ok (.invokevirtual 28, 3) := by decide +kernel
theorem dL_revisits_10 : decode cL_revisits 10 = .ok (.i2l, 1) := by decide +kernel
theorem dL_revisits_11 : decode cL_revisits 11 = .ok (.lastore, 1) := by decide +kernel
theorem dL_revisits_12 : decode cL_revisits 12 = .ok (.goto 11, 3) := by decide +kernel
theorem dL_revisits_15 : decode cL_revisits 15 = .ok (.astore 5, 2) := by decide +kernel
theorem dL_revisits_17 : decode cL_revisits 17 = .ok (.iconst 1, 1) := by decide +kernel
theorem dL_revisits_18 : decode cL_revisits 18 = .ok (.ireturn, 1) := by decide +kernel
theorem dL_revisits_19 : decode cL_revisits 19 = .ok (.astore 5, 2) := by decide +kernel
theorem dL_revisits_21 : decode cL_revisits 21 = .ok (.iconst 2, 1) := by decide +kernel
theorem dL_revisits_22 : decode cL_revisits 22 = .ok (.ireturn, 1) := by decide +kernel
theorem dL_revisits_23 : decode cL_revisits 23 = .ok (.iconst 0, 1) := by decide +kernel
theorem dL_revisits_24 : decode cL_revisits 24 = .ok (.ireturn, 1) := by decide +kernel
set_option maxRecDepth 20000 in
theorem ggL_allNeeds_X2_allNeeds : GoodIn wsL_allNeeds wsX2_allNeeds := goodIn_ca (goodIn_r _ [6, 7, 8, 9, 10, 11, 12, 5, 13, 14, 15, 16, 17, 18, 19, 20, 21, 22, 23, 24, 25, 26, 27, 28, 29, 30, 31, 32, 33, 34, 35, 36, 37, 38, 39, 40, 41, 42] (by decide +kernel) (by decide +kernel)) (goodIn_sub (fun _ h => List.mem_cons_of_mem _ (List.mem_append_right _ h)) (by decide +kernel))
set_option maxRecDepth 20000 in
theorem gL_allNeeds_X2_allNeeds : GoodIn wsL_allNeeds (wsV RL 32 RX2 yX2_allNeeds wsX2_allNeeds) := goodIn_app (goodIn_of _ (by decide +kernel)) ggL_allNeeds_X2_allNeeds
theorem dL_allNeeds_0 : decode cL_allNeeds 0 = .ok (.aload_n 2, 1) := by decide +kernel
theorem dL_allNeeds_1 : decode cL_allNeeds 1 = .ok (.iconst 0, 1) := by decide +kernel
theorem dL_allNeeds_2 : decode cL_allNeeds 2 = .ok (.aload_n 0, 1) := by decide +kernel
theorem dL_allNeeds_3 : decode cL_allNeeds 3 = .ok (.iload_n 1, 1) := by decide +kernel
theorem dL_allNeeds_4 : decode cL_allNeeds 4 = .ok (.invokevirtual 32, 3) := by decide +kernel
theorem dL_allNeeds_7 : decode cL_allNeeds 7 = .ok (.i2l, 1) := by decide +kernel
theorem dL_allNeeds_8 : decode cL_allNeeds 8 = .ok (.lastore, 1) := by decide +kernel
theorem dL_allNeeds_9 : decode cL_allNeeds 9 = .ok (.goto 6, 3) := by decide +kernel
theorem dL_allNeeds_12 : decode cL_allNeeds 12 = .ok (.astore_n 3, 1) := by decide +kernel
theorem dL_allNeeds_13 : decode cL_allNeeds 13 = .ok (.iconst 1, 1) := by decide +kernel
theorem dL_allNeeds_14 : decode cL_allNeeds 14 = .ok (.ireturn, 1) := by decide +kernel
theorem dL_allNeeds_15 : decode cL_allNeeds 15 = .ok (.iconst 0, 1) := by decide +kernel
theorem dL_allNeeds_16 : decode cL_allNeeds 16 = .ok (.ireturn, 1) := by decide +kernel
set_option maxRecDepth 20000 in
theorem ggL_ordered_X2_ordered : GoodIn wsL_ordered wsX2_ordered := goodIn_ca (goodIn_r _ [6, 7, 8, 9, 10, 11, 5, 12, 13, 14, 15, 16, 17, 18, 19, 20, 21, 22, 23, 24, 25] (by decide +kernel) (by decide +kernel)) (goodIn_sub (fun _ h => List.mem_cons_of_mem _ (List.mem_append_right _ h)) (by decide +kernel))
set_option maxRecDepth 20000 in
theorem gL_ordered_X2_ordered : GoodIn wsL_ordered (wsV RL 36 RX2 yX2_ordered wsX2_ordered) := goodIn_app (goodIn_of _ (by decide +kernel)) ggL_ordered_X2_ordered
theorem dL_ordered_0 : decode cL_ordered 0 = .ok (.aload_n 2, 1) := by decide +kernel
theorem dL_ordered_1 : decode cL_ordered 1 = .ok (.iconst 0, 1) := by decide +kernel
theorem dL_ordered_2 : decode cL_ordered 2 = .ok (.aload_n 0, 1) := by decide +kernel
theorem dL_ordered_3 : decode cL_ordered 3 = .ok (.iload_n 1, 1) := by decide +kernel
theorem dL_ordered_4 : decode cL_ordered 4 = .ok (.invokevirtual 36, 3) := by decide +kernel
theorem dL_ordered_7 : decode cL_ordered 7 = .ok (.i2l, 1) := by decide +kernel
theorem dL_ordered_8 : decode cL_ordered 8 = .ok (.lastore, 1) := by decide +kernel
theorem dL_ordered_9 : decode cL_ordered 9 = .ok (.goto 6, 3) := by decide +kernel
theorem dL_ordered_12 : decode cL_ordered 12 = .ok (.astore_n 3, 1) := by decide +kernel
theorem dL_ordered_13 : decode cL_ordered 13 = .ok (.iconst 1, 1) := by decide +kernel
theorem dL_ordered_14 : decode cL_ordered 14 = .ok (.ireturn, 1) := by decide +kernel
theorem dL_ordered_15 : decode cL_ordered 15 = .ok (.iconst 0, 1) := by decide +kernel
theorem dL_ordered_16 : decode cL_ordered 16 = .ok (.ireturn, 1) := by decide +kernel
set_option maxRecDepth 20000 in
theorem ggL_lose_X2_lose : GoodIn wsL_lose wsX2_lose := goodIn_ca (goodIn_ca (goodIn_r _ [7, 8, 9, 10, 11, 12, 13, 14, 15, 16, 6, 17, 18, 19, 20, 21, 22, 23, 24, 25, 26, 27, 28, 29, 30, 31, 32, 33, 34, 35, 36, 37, 38, 39, 40, 41, 42, 43, 44, 45, 46, 47, 48, 49, 50, 51, 52, 53, 54, 55, 56, 57, 58, 59, 60, 61, 62, 63, 64, 65, 66, 67, 68, 69, 70, 71, 72, 73, 74, 75, 76, 77, 78, 79, 80, 81, 82, 83, 84, 85, 86, 87, 88, 89, 90, 91, 92, 93, 94, 95, 96, 97, 98, 99, 100, 101, 102, 103, 104, 105, 106, 107, 108, 109, 110, 111, 112, 113, 114, 115, 116, 117, 118, 119] (by decide +kernel) (by decide +kernel)) (goodIn_sub (fun _ h => List.mem_cons_of_mem _ (List.mem_append_left _ (List.mem_append_right _ h))) (by decide +kernel))) (goodIn_sub (fun _ h => List.mem_cons_of_mem _ (List.mem_append_right _ h)) (by decide +kernel))
set_option maxRecDepth 20000 in
theorem gL_lose_X2_lose : GoodIn wsL_lose (wsV RL 39 RX2 yX2_lose wsX2_lose) := goodIn_app (goodIn_of _ (by decide +kernel)) ggL_lose_X2_lose
theorem dL_lose_0 : decode cL_lose 0 = .ok (.aload_n 2, 1) := by decide +kernel
theorem dL_lose_1 : decode cL_lose 1 = .ok (.iconst 0, 1) := by decide +kernel
theorem dL_lose_2 : decode cL_lose 2 = .ok (.aload_n 0, 1) := by decide +kernel
theorem dL_lose_3 : decode cL_lose 3 = .ok (.iload_n 1, 1) := by decide +kernel
theorem dL_lose_4 : decode cL_lose 4 = .ok (.invokevirtual 39, 3) := by decide +kernel
theorem dL_lose_7 : decode cL_lose 7 = .ok (.i2l, 1) := by decide +kernel
theorem dL_lose_8 : decode cL_lose 8 = .ok (.lastore, 1) := by decide +kernel
theorem dL_lose_9 : decode cL_lose 9 = .ok (.goto 9, 3) := by decide +kernel
theorem dL_lose_12 : decode cL_lose 12 = .ok (.astore_n 3, 1) := by decide +kernel
theorem dL_lose_13 : decode cL_lose 13 = .ok (.iconst 1, 1) := by decide +kernel
theorem dL_lose_14 : decode cL_lose 14 = .ok (.ireturn, 1) := by decide +kernel
theorem dL_lose_15 : decode cL_lose 15 = .ok (.astore_n 3, 1) := by decide +kernel
theorem dL_lose_16 : decode cL_lose 16 = .ok (.iconst 2, 1) := by decide +kernel
theorem dL_lose_17 : decode cL_lose 17 = .ok (.ireturn, 1) := by decide +kernel
theorem dL_lose_18 : decode cL_lose 18 = .ok (.iconst 0, 1) := by decide +kernel
theorem dL_lose_19 : decode cL_lose 19 = .ok (.ireturn, 1) := by decide +kernel
set_option maxRecDepth 20000 in
theorem ggL_on_X2_on : GoodIn wsL_on wsX2_on := goodIn_ca (goodIn_r _ [6, 7, 8, 9, 10, 11, 5, 12, 13, 14, 15, 16, 17, 18, 19, 20, 21, 22, 23, 24, 25, 26, 27, 28] (by decide +kernel) (by decide +kernel)) (goodIn_sub (fun _ h => List.mem_cons_of_mem _ (List.mem_append_right _ h)) (by decide +kernel))
set_option maxRecDepth 20000 in
theorem gL_on_X2_on : GoodIn wsL_on (wsV RL 42 RX2 yX2_on wsX2_on) := goodIn_app (goodIn_of _ (by decide +kernel)) ggL_on_X2_on
theorem dL_on_0 : decode cL_on 0 = .ok (.aload_n 2, 1) := by decide +kernel
theorem dL_on_1 : decode cL_on 1 = .ok (.iconst 0, 1) := by decide +kernel
theorem dL_on_2 : decode cL_on 2 = .ok (.aload_n 0, 1) := by decide +kernel
theorem dL_on_3 : decode cL_on 3 = .ok (.iload_n 1, 1) := by decide +kernel
theorem dL_on_4 : decode cL_on 4 = .ok (.invokevirtual 42, 3) := by decide +kernel
theorem dL_on_7 : decode cL_on 7 = .ok (.i2l, 1) := by decide +kernel
theorem dL_on_8 : decode cL_on 8 = .ok (.lastore, 1) := by decide +kernel
theorem dL_on_9 : decode cL_on 9 = .ok (.goto 6, 3) := by decide +kernel
theorem dL_on_12 : decode cL_on 12 = .ok (.astore_n 3, 1) := by decide +kernel
theorem dL_on_13 : decode cL_on 13 = .ok (.iconst 1, 1) := by decide +kernel
theorem dL_on_14 : decode cL_on 14 = .ok (.ireturn, 1) := by decide +kernel
theorem dL_on_15 : decode cL_on 15 = .ok (.iconst 0, 1) := by decide +kernel
theorem dL_on_16 : decode cL_on 16 = .ok (.ireturn, 1) := by decide +kernel
set_option maxRecDepth 20000 in
theorem ggL_lessonDay_X2_lessonDay : GoodIn wsL_lessonDay wsX2_lessonDay := goodIn_ca (goodIn_r _ [6, 7, 8, 9, 10, 11, 12, 13, 5, 14, 15, 16, 17, 18, 19, 20, 21, 22, 23, 24, 25, 26, 27, 28, 29, 30, 31, 32, 33, 34, 35, 36, 37, 38, 39] (by decide +kernel) (by decide +kernel)) (goodIn_sub (fun _ h => List.mem_cons_of_mem _ (List.mem_append_right _ h)) (by decide +kernel))
set_option maxRecDepth 20000 in
theorem gL_lessonDay_X2_lessonDay : GoodIn wsL_lessonDay (wsV RL 45 RX2 yX2_lessonDay wsX2_lessonDay) := goodIn_app (goodIn_of _ (by decide +kernel)) ggL_lessonDay_X2_lessonDay
theorem dL_lessonDay_0 : decode cL_lessonDay 0 = .ok (.aload_n 3, 1) := by decide +kernel
theorem dL_lessonDay_1 : decode cL_lessonDay 1 = .ok (.iconst 0, 1) := by decide +kernel
theorem dL_lessonDay_2 : decode cL_lessonDay 2 = .ok (.aload_n 0, 1) := by decide +kernel
theorem dL_lessonDay_3 : decode cL_lessonDay 3 = .ok (.iload_n 1, 1) := by decide +kernel
theorem dL_lessonDay_4 : decode cL_lessonDay 4 = .ok (.iload_n 2, 1) := by decide +kernel
theorem dL_lessonDay_5 : decode cL_lessonDay 5 = .ok (.invokevirtual 45, 3) := by decide +kernel
theorem dL_lessonDay_8 : decode cL_lessonDay 8 = .ok (.i2l, 1) := by decide +kernel
theorem dL_lessonDay_9 : decode cL_lessonDay 9 = .ok (.lastore, 1) := by decide +kernel
theorem dL_lessonDay_10 : decode cL_lessonDay 10 = .ok (.goto 7, 3) := by decide +kernel
theorem dL_lessonDay_13 : decode cL_lessonDay 13 = .ok (.astore 4, 2) := by decide +kernel
theorem dL_lessonDay_15 : decode cL_lessonDay 15 = .ok (.iconst 1, 1) := by decide +kernel
theorem dL_lessonDay_16 : decode cL_lessonDay 16 = .ok (.ireturn, 1) := by decide +kernel
theorem dL_lessonDay_17 : decode cL_lessonDay 17 = .ok (.iconst 0, 1) := by decide +kernel
theorem dL_lessonDay_18 : decode cL_lessonDay 18 = .ok (.ireturn, 1) := by decide +kernel
set_option maxRecDepth 20000 in
theorem ggL_revisitDay_X2_revisitDay : GoodIn wsL_revisitDay wsX2_revisitDay := goodIn_ca (goodIn_r _ [6, 7, 8, 9, 10, 11, 12, 13, 5, 14, 15, 16, 17, 18, 19, 20, 21, 22, 23, 24, 25, 26, 27, 28, 29, 30, 31, 32, 33, 34, 35, 36, 37, 38, 39] (by decide +kernel) (by decide +kernel)) (goodIn_sub (fun _ h => List.mem_cons_of_mem _ (List.mem_append_right _ h)) (by decide +kernel))
set_option maxRecDepth 20000 in
theorem gL_revisitDay_X2_revisitDay : GoodIn wsL_revisitDay (wsV RL 48 RX2 yX2_revisitDay wsX2_revisitDay) := goodIn_app (goodIn_of _ (by decide +kernel)) ggL_revisitDay_X2_revisitDay
theorem dL_revisitDay_0 : decode cL_revisitDay 0 = .ok (.aload_n 3, 1) := by decide +kernel
theorem dL_revisitDay_1 : decode cL_revisitDay 1 = .ok (.iconst 0, 1) := by decide +kernel
theorem dL_revisitDay_2 : decode cL_revisitDay 2 = .ok (.aload_n 0, 1) := by decide +kernel
theorem dL_revisitDay_3 : decode cL_revisitDay 3 = .ok (.iload_n 1, 1) := by decide +kernel
theorem dL_revisitDay_4 : decode cL_revisitDay 4 = .ok (.iload_n 2, 1) := by decide +kernel
theorem dL_revisitDay_5 : decode cL_revisitDay 5 = .ok (.invokevirtual 48, 3) := by decide +kernel
theorem dL_revisitDay_8 : decode cL_revisitDay 8 = .ok (.i2l, 1) := by decide +kernel
theorem dL_revisitDay_9 : decode cL_revisitDay 9 = .ok (.lastore, 1) := by decide +kernel
theorem dL_revisitDay_10 : decode cL_revisitDay 10 = .ok (.goto 7, 3) := by decide +kernel
theorem dL_revisitDay_13 : decode cL_revisitDay 13 = .ok (.astore 4, 2) := by decide +kernel
theorem dL_revisitDay_15 : decode cL_revisitDay 15 = .ok (.iconst 1, 1) := by decide +kernel
theorem dL_revisitDay_16 : decode cL_revisitDay 16 = .ok (.ireturn, 1) := by decide +kernel
theorem dL_revisitDay_17 : decode cL_revisitDay 17 = .ok (.iconst 0, 1) := by decide +kernel
theorem dL_revisitDay_18 : decode cL_revisitDay 18 = .ok (.ireturn, 1) := by decide +kernel
set_option maxRecDepth 20000 in
theorem ggL_worthwhile_X2_worthwhile : GoodIn wsL_worthwhile wsX2_worthwhile := goodIn_ca (goodIn_r _ [6, 7, 8, 9, 10, 11, 5, 12, 13, 14, 15, 16, 17, 18, 19, 20, 21, 22, 23, 24, 25, 26, 27, 28, 29, 30, 31, 32, 33, 34, 35, 36, 37, 38, 39, 40, 41, 42, 43, 44, 45, 46, 47, 48, 49, 50, 51, 52, 53, 54] (by decide +kernel) (by decide +kernel)) (goodIn_sub (fun _ h => List.mem_cons_of_mem _ (List.mem_append_right _ h)) (by decide +kernel))
set_option maxRecDepth 20000 in
theorem gL_worthwhile_X2_worthwhile : GoodIn wsL_worthwhile (wsV RL 51 RX2 yX2_worthwhile wsX2_worthwhile) := goodIn_app (goodIn_of _ (by decide +kernel)) ggL_worthwhile_X2_worthwhile
theorem dL_worthwhile_0 : decode cL_worthwhile 0 = .ok (.aload_n 2, 1) := by decide +kernel
theorem dL_worthwhile_1 : decode cL_worthwhile 1 = .ok (.iconst 0, 1) := by decide +kernel
theorem dL_worthwhile_2 : decode cL_worthwhile 2 = .ok (.aload_n 0, 1) := by decide +kernel
theorem dL_worthwhile_3 : decode cL_worthwhile 3 = .ok (.iload_n 1, 1) := by decide +kernel
theorem dL_worthwhile_4 : decode cL_worthwhile 4 = .ok (.invokevirtual 51, 3) := by decide +kernel
theorem dL_worthwhile_7 : decode cL_worthwhile 7 = .ok (.i2l, 1) := by decide +kernel
theorem dL_worthwhile_8 : decode cL_worthwhile 8 = .ok (.lastore, 1) := by decide +kernel
theorem dL_worthwhile_9 : decode cL_worthwhile 9 = .ok (.goto 6, 3) := by decide +kernel
theorem dL_worthwhile_12 : decode cL_worthwhile 12 = .ok (.astore_n 3, 1) := by decide +kernel
theorem dL_worthwhile_13 : decode cL_worthwhile 13 = .ok (.iconst 1, 1) := by decide +kernel
theorem dL_worthwhile_14 : decode cL_worthwhile 14 = .ok (.ireturn, 1) := by decide +kernel
theorem dL_worthwhile_15 : decode cL_worthwhile 15 = .ok (.iconst 0, 1) := by decide +kernel
theorem dL_worthwhile_16 : decode cL_worthwhile 16 = .ok (.ireturn, 1) := by decide +kernel
set_option maxRecDepth 20000 in
theorem ggL_bestNet_X2_bestNet : GoodIn wsL_bestNet wsX2_bestNet := goodIn_ca (goodIn_r _ [6, 7, 8, 9, 10, 11, 5, 12, 13, 14, 15, 16, 17, 18, 19, 20, 21, 22, 23, 24, 25, 26, 27, 28, 29, 30, 31, 32, 33, 34, 35, 36, 37, 38, 39, 40, 41, 42, 43, 44, 45, 46, 47, 48, 49, 50, 51, 52, 53, 54, 55] (by decide +kernel) (by decide +kernel)) (goodIn_sub (fun _ h => List.mem_cons_of_mem _ (List.mem_append_right _ h)) (by decide +kernel))
set_option maxRecDepth 20000 in
theorem gL_bestNet_X2_bestNet : GoodIn wsL_bestNet (wsV RL 54 RX2 yX2_bestNet wsX2_bestNet) := goodIn_app (goodIn_of _ (by decide +kernel)) ggL_bestNet_X2_bestNet
theorem dL_bestNet_0 : decode cL_bestNet 0 = .ok (.aload_n 2, 1) := by decide +kernel
theorem dL_bestNet_1 : decode cL_bestNet 1 = .ok (.iconst 0, 1) := by decide +kernel
theorem dL_bestNet_2 : decode cL_bestNet 2 = .ok (.aload_n 0, 1) := by decide +kernel
theorem dL_bestNet_3 : decode cL_bestNet 3 = .ok (.iload_n 1, 1) := by decide +kernel
theorem dL_bestNet_4 : decode cL_bestNet 4 = .ok (.invokevirtual 54, 3) := by decide +kernel
theorem dL_bestNet_7 : decode cL_bestNet 7 = .ok (.i2l, 1) := by decide +kernel
theorem dL_bestNet_8 : decode cL_bestNet 8 = .ok (.lastore, 1) := by decide +kernel
theorem dL_bestNet_9 : decode cL_bestNet 9 = .ok (.goto 6, 3) := by decide +kernel
theorem dL_bestNet_12 : decode cL_bestNet 12 = .ok (.astore_n 3, 1) := by decide +kernel
theorem dL_bestNet_13 : decode cL_bestNet 13 = .ok (.iconst 1, 1) := by decide +kernel
theorem dL_bestNet_14 : decode cL_bestNet 14 = .ok (.ireturn, 1) := by decide +kernel
theorem dL_bestNet_15 : decode cL_bestNet 15 = .ok (.iconst 0, 1) := by decide +kernel
theorem dL_bestNet_16 : decode cL_bestNet 16 = .ok (.ireturn, 1) := by decide +kernel
end
section
set_option maxRecDepth 20000 in
theorem ggL_law_X2_init : GoodIn wsL_law wsX2_init := goodIn_r _ [9, 10, 11, 12, 13, 14, 15, 16, 17, 18, 19, 20, 21, 22, 23, 24, 25, 26, 27, 28, 29, 30, 31, 32, 33, 34, 35, 36, 37, 38, 39, 40, 41, 42, 43, 44, 45, 46, 47, 48, 49, 50, 51, 52, 53, 54, 55, 56, 57, 481, 482, 483, 484, 485, 486, 487, 488, 489, 459, 460, 461, 462, 490, 491, 492, 493, 494, 495, 496, 497, 498] (by decide +kernel) (by decide +kernel)
set_option maxRecDepth 20000 in
theorem gL_law_X2_init : GoodIn wsL_law (wsX2_init) := ggL_law_X2_init
set_option maxRecDepth 20000 in
theorem ggL_law_X3_init : GoodIn wsL_law wsX3_init := goodIn_r _ [60, 61, 11, 12, 28, 62, 63, 64, 65, 66, 67, 68, 17, 69, 70, 71, 72, 73, 74, 75, 76, 463, 464, 465, 466, 467, 468, 469, 470, 471, 472, 473, 474, 475, 476, 477, 478, 479, 480] (by decide +kernel) (by decide +kernel)
set_option maxRecDepth 20000 in
theorem gL_law_X3_init : GoodIn wsL_law (wsX3_init) := ggL_law_X3_init
set_option maxRecDepth 20000 in
theorem ggL_law_L_aim : GoodIn wsL_law wsL_aim := goodIn_ca (goodIn_ca (goodIn_r _ [80, 81, 82, 83, 84, 85, 2, 86, 87, 88, 89, 90, 16, 91, 92, 93, 94, 95, 96, 15, 97, 98, 29, 30, 31, 32, 34, 99, 100, 101, 102, 36, 103, 104, 105, 106, 35, 107, 108, 109, 110, 111, 112, 113, 114, 115, 23, 22, 18, 116, 117, 118, 21, 119, 47, 48, 49, 50, 41, 42, 43, 44, 45, 46, 51, 52, 53, 54, 55, 56, 57, 120, 121, 122, 123, 124, 125, 126, 127, 128, 129, 130, 131, 132, 133, 134, 135, 136, 137, 138, 139, 140, 141, 142, 143, 144, 145, 146, 147, 148, 149, 150, 151, 152, 153, 154, 155, 156, 157, 158, 159, 160, 161, 162, 459, 460, 461, 462, 481, 482, 483, 484, 485, 486, 487, 488, 489, 490, 491, 492, 493, 494, 495, 496, 497, 498] (by decide +kernel) (by decide +kernel)) (goodIn_sub (fun _ h => List.mem_append_left _ (List.mem_append_left _ (List.mem_append_left _ (List.mem_append_right _ h)))) (by decide +kernel))) (goodIn_sub (fun _ h => List.mem_append_left _ (List.mem_append_left _ (List.mem_append_right _ h))) (by decide +kernel))
set_option maxRecDepth 20000 in
theorem gL_law_L_aim : GoodIn wsL_law (va_wsS RL 61 yL_aim wsL_aim) := goodIn_app (goodIn_of _ (by decide +kernel)) ggL_law_L_aim
set_option maxRecDepth 20000 in
theorem ggL_law_X3_aim : GoodIn wsL_law wsX3_aim := goodIn_r _ [166, 167, 62, 63, 64, 65, 68, 168, 169, 5, 170, 171, 172, 173, 174, 175, 463, 464, 465, 466, 467, 468, 469, 470, 471, 472, 473, 474, 475, 476, 477, 478, 479, 480] (by decide +kernel) (by decide +kernel)
set_option maxRecDepth 20000 in
theorem gL_law_X3_aim : GoodIn wsL_law (wsV RL 66 RX3 yX3_aim wsX3_aim) := goodIn_app (goodIn_of _ (by decide +kernel)) ggL_law_X3_aim
set_option maxRecDepth 20000 in
theorem ggL_law_X3_thrown : GoodIn wsL_law wsX3_thrown := goodIn_r _ [179, 175, 463, 464, 465, 466, 467, 468, 469, 470, 471, 472, 473, 474, 475, 476, 477, 478, 479, 480] (by decide +kernel) (by decide +kernel)
set_option maxRecDepth 20000 in
theorem gL_law_X3_thrown : GoodIn wsL_law (wsV RL 67 RX3 yX3_thrown wsX3_thrown) := goodIn_app (goodIn_of _ (by decide +kernel)) ggL_law_X3_thrown
set_option maxRecDepth 20000 in
theorem ggL_law_L_need : GoodIn wsL_law wsL_need := goodIn_ca (goodIn_ca (goodIn_ca (goodIn_r _ [182, 183, 81, 82, 184, 185, 186, 2, 187, 188, 189, 87, 88, 89, 90, 16, 190, 191, 192, 193, 91, 92, 93, 194, 107, 108, 195, 196, 197, 15, 198, 35, 98, 199, 200, 201, 202, 203, 204, 205, 206, 99, 100, 101, 102, 36, 30, 103, 104, 105, 106, 109, 110, 111, 112, 113, 114, 115, 23, 22, 18, 116, 117, 118, 21, 119, 47, 48, 49, 50, 41, 42, 43, 44, 45, 46, 51, 52, 53, 54, 55, 56, 57, 120, 121, 122, 123, 124, 125, 126, 127, 128, 129, 130, 131, 132, 133, 134, 135, 136, 137, 138, 139, 140, 141, 142, 143, 144, 145, 146, 147, 148, 149, 150, 151, 152, 153, 154, 155, 156, 157, 158, 159, 160, 161, 162, 207, 208, 209, 210, 211, 212, 213, 459, 460, 461, 462, 481, 482, 483, 484, 485, 486, 487, 488, 489, 490, 491, 492, 493, 494, 495, 496, 497, 498] (by decide +kernel) (by decide +kernel)) (goodIn_sub (fun _ h => List.mem_append_left _ (List.mem_append_right _ h)) (by decide +kernel))) (goodIn_sub (fun _ h => List.mem_append_left _ (List.mem_append_left _ (List.mem_append_left _ (List.mem_append_right _ h)))) (by decide +kernel))) (goodIn_sub (fun _ h => List.mem_append_left _ (List.mem_append_left _ (List.mem_append_right _ h))) (by decide +kernel))
set_option maxRecDepth 20000 in
theorem gL_law_L_need : GoodIn wsL_law (va_wsS RL 71 yL_need wsL_need) := goodIn_app (goodIn_of _ (by decide +kernel)) ggL_law_L_need
set_option maxRecDepth 20000 in
theorem ggL_law_X3_need : GoodIn wsL_law wsX3_need := goodIn_r _ [217, 66, 218, 219, 220, 5, 221, 167, 168, 169, 170, 222, 223, 224, 225, 226, 227, 228, 229, 171, 172, 173, 174, 175, 230, 231, 232, 463, 464, 465, 466, 467, 468, 469, 470, 471, 472, 473, 474, 475, 476, 477, 478, 479, 480] (by decide +kernel) (by decide +kernel)
set_option maxRecDepth 20000 in
theorem gL_law_X3_need : GoodIn wsL_law (wsV RL 74 RX3 yX3_need wsX3_need) := goodIn_app (goodIn_of _ (by decide +kernel)) ggL_law_X3_need
set_option maxRecDepth 20000 in
theorem ggL_law_L_free : GoodIn wsL_law wsL_free := goodIn_ca (goodIn_ca (goodIn_r _ [235, 183, 236, 237, 238, 239, 2, 240, 188, 189, 241, 242, 16, 190, 191, 192, 193, 91, 92, 93, 194, 107, 108, 203, 204, 205, 15, 206, 35, 99, 100, 101, 102, 98, 36, 30, 103, 104, 105, 106, 109, 110, 111, 112, 113, 114, 115, 23, 22, 18, 116, 117, 118, 21, 119, 47, 48, 49, 50, 41, 42, 43, 44, 45, 46, 51, 52, 53, 54, 55, 56, 57, 120, 121, 122, 123, 124, 125, 126, 127, 128, 129, 130, 131, 132, 133, 134, 135, 136, 137, 138, 139, 140, 141, 142, 143, 144, 145, 146, 147, 148, 149, 150, 151, 152, 153, 154, 155, 156, 157, 158, 159, 160, 161, 162, 207, 208, 209, 210, 211, 212, 213, 459, 460, 461, 462, 481, 482, 483, 484, 485, 486, 487, 488, 489, 490, 491, 492, 493, 494, 495, 496, 497, 498] (by decide +kernel) (by decide +kernel)) (goodIn_sub (fun _ h => List.mem_append_left _ (List.mem_append_right _ h)) (by decide +kernel))) (goodIn_sub (fun _ h => List.mem_append_right _ h) (by decide +kernel))
set_option maxRecDepth 20000 in
theorem gL_law_L_free : GoodIn wsL_law (va_wsS RL 75 yL_free wsL_free) := goodIn_app (goodIn_of _ (by decide +kernel)) ggL_law_L_free
set_option maxRecDepth 20000 in
theorem ggL_law_X3_free : GoodIn wsL_law wsX3_free := goodIn_r _ [246, 66, 218, 219, 220, 5, 221, 167, 168, 169, 170, 222, 223, 224, 225, 171, 172, 173, 174, 175, 230, 231, 232, 463, 464, 465, 466, 467, 468, 469, 470, 471, 472, 473, 474, 475, 476, 477, 478, 479, 480] (by decide +kernel) (by decide +kernel)
set_option maxRecDepth 20000 in
theorem gL_law_X3_free : GoodIn wsL_law (wsV RL 77 RX3 yX3_free wsX3_free) := goodIn_app (goodIn_of _ (by decide +kernel)) ggL_law_X3_free
set_option maxRecDepth 20000 in
theorem ggL_law_L_revisits : GoodIn wsL_law wsL_revisits := goodIn_ca (goodIn_ca (goodIn_r _ [249, 183, 81, 250, 251, 252, 2, 253, 188, 189, 87, 88, 16, 190, 191, 192, 193, 91, 92, 93, 112, 113, 114, 115, 23, 22, 18, 116, 117, 118, 21, 119, 47, 48, 49, 50, 41, 42, 43, 44, 45, 46, 51, 52, 53, 54, 55, 56, 57, 120, 121, 122, 123, 124, 125, 126, 127, 128, 129, 130, 131, 132, 133, 134, 135, 136, 137, 138, 139, 140, 141, 142, 143, 144, 145, 146, 147, 148, 149, 150, 151, 152, 153, 154, 155, 156, 157, 158, 159, 160, 161, 162, 459, 460, 461, 462, 481, 482, 483, 484, 485, 486, 487, 488, 489, 490, 491, 492, 493, 494, 495, 496, 497, 498] (by decide +kernel) (by decide +kernel)) (goodIn_sub (fun _ h => List.mem_append_left _ (List.mem_append_right _ h)) (by decide +kernel))) (goodIn_sub (fun _ h => List.mem_append_left _ (List.mem_append_left _ (List.mem_append_left _ (List.mem_append_right _ h)))) (by decide +kernel))
set_option maxRecDepth 20000 in
theorem gL_law_L_revisits : GoodIn wsL_law (va_wsS RL 78 yL_revisits wsL_revisits) := goodIn_app (goodIn_of _ (by decide +kernel)) ggL_law_L_revisits
set_option maxRecDepth 20000 in
theorem ggL_law_X3_revisits : GoodIn wsL_law wsX3_revisits := goodIn_r _ [257, 67, 68, 218, 219, 220, 5, 221, 167, 168, 169, 170, 171, 172, 173, 174, 175, 463, 464, 465, 466, 467, 468, 469, 470, 471, 472, 473, 474, 475, 476, 477, 478, 479, 480] (by decide +kernel) (by decide +kernel)
set_option maxRecDepth 20000 in
theorem gL_law_X3_revisits : GoodIn wsL_law (wsV RL 81 RX3 yX3_revisits wsX3_revisits) := goodIn_app (goodIn_of _ (by decide +kernel)) ggL_law_X3_revisits
set_option maxRecDepth 20000 in
theorem ggL_law_X2_aims : GoodIn wsL_law wsX2_aims := goodIn_r _ [261, 16, 459, 460, 461, 462, 481, 482, 483, 484, 485, 486, 487, 488, 489] (by decide +kernel) (by decide +kernel)
set_option maxRecDepth 20000 in
theorem gL_law_X2_aims : GoodIn wsL_law (wsV RL 82 RX2 yX2_aims wsX2_aims) := goodIn_app (goodIn_of _ (by decide +kernel)) ggL_law_X2_aims
set_option maxRecDepth 20000 in
theorem ggL_law_X3_aims : GoodIn wsL_law wsX3_aims := goodIn_r _ [265, 175, 167, 463, 464, 465, 466, 467, 468, 469, 470, 471, 472, 473, 474, 475, 476, 477, 478, 479, 480] (by decide +kernel) (by decide +kernel)
set_option maxRecDepth 20000 in
theorem gL_law_X3_aims : GoodIn wsL_law (wsV RL 85 RX3 yX3_aims wsX3_aims) := goodIn_app (goodIn_of _ (by decide +kernel)) ggL_law_X3_aims
set_option maxRecDepth 20000 in
theorem ggL_law_L_allNeeds : GoodIn wsL_law wsL_allNeeds := goodIn_ca (goodIn_r _ [268, 183, 269, 270, 271, 2, 272, 188, 189, 16, 190, 191, 192, 193, 91, 92, 93, 195, 196, 197, 15, 198, 35, 98, 199, 200, 201, 202, 107, 108, 459, 460, 461, 462, 481, 482, 483, 484, 485, 486, 487, 488, 489] (by decide +kernel) (by decide +kernel)) (goodIn_sub (fun _ h => List.mem_append_left _ (List.mem_append_right _ h)) (by decide +kernel))
set_option maxRecDepth 20000 in
theorem gL_law_L_allNeeds : GoodIn wsL_law (va_wsS RL 86 yL_allNeeds wsL_allNeeds) := goodIn_app (goodIn_of _ (by decide +kernel)) ggL_law_L_allNeeds
set_option maxRecDepth 20000 in
theorem ggL_law_X3_allNeeds : GoodIn wsL_law wsX3_allNeeds := goodIn_r _ [276, 218, 219, 220, 5, 221, 167, 168, 169, 170, 171, 172, 173, 174, 175, 226, 227, 228, 229, 66, 463, 464, 465, 466, 467, 468, 469, 470, 471, 472, 473, 474, 475, 476, 477, 478, 479, 480] (by decide +kernel) (by decide +kernel)
set_option maxRecDepth 20000 in
theorem gL_law_X3_allNeeds : GoodIn wsL_law (wsV RL 89 RX3 yX3_allNeeds wsX3_allNeeds) := goodIn_app (goodIn_of _ (by decide +kernel)) ggL_law_X3_allNeeds
set_option maxRecDepth 20000 in
theorem ggL_law_L_ordered : GoodIn wsL_law wsL_ordered := goodIn_ca (goodIn_r _ [279, 183, 280, 281, 282, 2, 283, 188, 189, 16, 91, 92, 93, 459, 460, 461, 462, 481, 482, 483, 484, 485, 486, 487, 488, 489] (by decide +kernel) (by decide +kernel)) (goodIn_sub (fun _ h => List.mem_append_left _ (List.mem_append_right _ h)) (by decide +kernel))
set_option maxRecDepth 20000 in
theorem gL_law_L_ordered : GoodIn wsL_law (va_wsS RL 90 yL_ordered wsL_ordered) := goodIn_app (goodIn_of _ (by decide +kernel)) ggL_law_L_ordered
set_option maxRecDepth 20000 in
theorem ggL_law_X3_ordered : GoodIn wsL_law wsX3_ordered := goodIn_r _ [287, 167, 70, 168, 169, 5, 170, 171, 172, 173, 174, 175, 288, 289, 290, 291, 66, 63, 463, 464, 465, 466, 467, 468, 469, 470, 471, 472, 473, 474, 475, 476, 477, 478, 479, 480] (by decide +kernel) (by decide +kernel)
set_option maxRecDepth 20000 in
theorem gL_law_X3_ordered : GoodIn wsL_law (wsV RL 92 RX3 yX3_ordered wsX3_ordered) := goodIn_app (goodIn_of _ (by decide +kernel)) ggL_law_X3_ordered
set_option maxRecDepth 20000 in
theorem ggL_law_L_lose : GoodIn wsL_law wsL_lose := goodIn_ca (goodIn_ca (goodIn_r _ [294, 183, 82, 295, 296, 297, 2, 298, 188, 189, 89, 90, 18, 22, 23, 299, 300, 301, 91, 92, 93, 112, 113, 114, 115, 16, 116, 117, 118, 21, 119, 47, 48, 49, 50, 41, 42, 43, 44, 45, 46, 51, 52, 53, 54, 55, 56, 57, 120, 121, 122, 123, 124, 125, 126, 127, 128, 129, 130, 131, 132, 133, 134, 135, 136, 137, 138, 139, 140, 141, 142, 143, 144, 145, 146, 147, 148, 149, 150, 151, 152, 153, 154, 155, 156, 157, 158, 159, 160, 161, 162, 302, 303, 304, 305, 306, 307, 308, 459, 460, 461, 462, 490, 491, 492, 493, 494, 495, 496, 497, 498, 481, 482, 483, 484, 485, 486, 487, 488, 489] (by decide +kernel) (by decide +kernel)) (goodIn_sub (fun _ h => List.mem_append_left _ (List.mem_append_right _ h)) (by decide +kernel))) (goodIn_sub (fun _ h => List.mem_append_left _ (List.mem_append_left _ (List.mem_append_right _ h))) (by decide +kernel))
set_option maxRecDepth 20000 in
theorem gL_law_L_lose : GoodIn wsL_law (va_wsS RL 93 yL_lose wsL_lose) := goodIn_app (goodIn_of _ (by decide +kernel)) ggL_law_L_lose
set_option maxRecDepth 20000 in
theorem ggL_law_X3_lose : GoodIn wsL_law wsX3_lose := goodIn_r _ [312, 69, 76, 168, 169, 5, 170, 171, 172, 173, 174, 175, 313, 314, 315, 316, 317, 74, 75, 72, 73, 71, 288, 289, 290, 291, 167, 66, 63, 70, 318, 319, 320, 321, 322, 323, 324, 325, 62, 67, 68, 326, 327, 328, 329, 330, 331, 332, 333, 334, 335, 336, 337, 65, 338, 339, 340, 341, 463, 464, 465, 466, 467, 468, 469, 470, 471, 472, 473, 474, 475, 476, 477, 478, 479, 480] (by decide +kernel) (by decide +kernel)
set_option maxRecDepth 20000 in
theorem gL_law_X3_lose : GoodIn wsL_law (wsV RL 95 RX3 yX3_lose wsX3_lose) := goodIn_app (goodIn_of _ (by decide +kernel)) ggL_law_X3_lose
set_option maxRecDepth 20000 in
theorem ggL_law_L_on : GoodIn wsL_law wsL_on := goodIn_ca (goodIn_r _ [344, 183, 345, 346, 347, 2, 348, 188, 189, 22, 299, 300, 301, 91, 92, 93, 459, 460, 461, 462, 490, 491, 492, 493, 494, 495, 496, 497, 498] (by decide +kernel) (by decide +kernel)) (goodIn_sub (fun _ h => List.mem_append_left _ (List.mem_append_right _ h)) (by decide +kernel))
set_option maxRecDepth 20000 in
theorem gL_law_L_on : GoodIn wsL_law (va_wsS RL 96 yL_on wsL_on) := goodIn_app (goodIn_of _ (by decide +kernel)) ggL_law_L_on
set_option maxRecDepth 20000 in
theorem ggL_law_X3_on : GoodIn wsL_law wsX3_on := goodIn_r _ [352, 71, 168, 169, 5, 170, 171, 172, 173, 174, 175, 313, 314, 315, 316, 317, 74, 75, 72, 73, 69, 288, 289, 290, 291, 167, 66, 63, 70, 318, 319, 320, 321, 322, 323, 324, 325, 62, 67, 68, 326, 327, 328, 329, 330, 331, 332, 333, 334, 335, 336, 337, 65, 463, 464, 465, 466, 467, 468, 469, 470, 471, 472, 473, 474, 475, 476, 477, 478, 479, 480] (by decide +kernel) (by decide +kernel)
set_option maxRecDepth 20000 in
theorem gL_law_X3_on : GoodIn wsL_law (wsV RL 98 RX3 yX3_on wsX3_on) := goodIn_app (goodIn_of _ (by decide +kernel)) ggL_law_X3_on
set_option maxRecDepth 20000 in
theorem ggL_law_L_lessonDay : GoodIn wsL_law wsL_lessonDay := goodIn_ca (goodIn_r _ [355, 183, 356, 357, 358, 2, 359, 188, 189, 16, 22, 190, 191, 192, 193, 91, 92, 93, 459, 460, 461, 462, 481, 482, 483, 484, 485, 486, 487, 488, 489, 490, 491, 492, 493, 494, 495, 496, 497, 498] (by decide +kernel) (by decide +kernel)) (goodIn_sub (fun _ h => List.mem_append_left _ (List.mem_append_right _ h)) (by decide +kernel))
set_option maxRecDepth 20000 in
theorem gL_law_L_lessonDay : GoodIn wsL_law (va_wsS RL 99 yL_lessonDay wsL_lessonDay) := goodIn_app (goodIn_of _ (by decide +kernel)) ggL_law_L_lessonDay
set_option maxRecDepth 20000 in
theorem ggL_law_X3_lessonDay : GoodIn wsL_law wsX3_lessonDay := goodIn_r _ [363, 62, 72, 218, 219, 220, 5, 221, 167, 168, 169, 170, 171, 172, 173, 174, 175, 313, 314, 315, 316, 317, 74, 75, 73, 71, 69, 288, 289, 290, 291, 66, 63, 70, 318, 319, 320, 321, 322, 323, 324, 325, 67, 68, 326, 327, 328, 329, 330, 331, 332, 333, 334, 335, 336, 337, 65, 463, 464, 465, 466, 467, 468, 469, 470, 471, 472, 473, 474, 475, 476, 477, 478, 479, 480] (by decide +kernel) (by decide +kernel)
set_option maxRecDepth 20000 in
theorem gL_law_X3_lessonDay : GoodIn wsL_law (wsV RL 101 RX3 yX3_lessonDay wsX3_lessonDay) := goodIn_app (goodIn_of _ (by decide +kernel)) ggL_law_X3_lessonDay
set_option maxRecDepth 20000 in
theorem ggL_law_L_revisitDay : GoodIn wsL_law wsL_revisitDay := goodIn_ca (goodIn_r _ [366, 183, 367, 368, 369, 2, 370, 188, 189, 16, 22, 190, 191, 192, 193, 91, 92, 93, 459, 460, 461, 462, 481, 482, 483, 484, 485, 486, 487, 488, 489, 490, 491, 492, 493, 494, 495, 496, 497, 498] (by decide +kernel) (by decide +kernel)) (goodIn_sub (fun _ h => List.mem_append_left _ (List.mem_append_right _ h)) (by decide +kernel))
set_option maxRecDepth 20000 in
theorem gL_law_L_revisitDay : GoodIn wsL_law (va_wsS RL 102 yL_revisitDay wsL_revisitDay) := goodIn_app (goodIn_of _ (by decide +kernel)) ggL_law_L_revisitDay
set_option maxRecDepth 20000 in
theorem ggL_law_X3_revisitDay : GoodIn wsL_law wsX3_revisitDay := goodIn_r _ [374, 67, 73, 218, 219, 220, 5, 221, 167, 168, 169, 170, 171, 172, 173, 174, 175, 313, 314, 315, 316, 317, 74, 75, 72, 71, 69, 288, 289, 290, 291, 66, 63, 70, 318, 319, 320, 321, 322, 323, 324, 325, 62, 68, 326, 327, 328, 329, 330, 331, 332, 333, 334, 335, 336, 337, 65, 463, 464, 465, 466, 467, 468, 469, 470, 471, 472, 473, 474, 475, 476, 477, 478, 479, 480] (by decide +kernel) (by decide +kernel)
set_option maxRecDepth 20000 in
theorem gL_law_X3_revisitDay : GoodIn wsL_law (wsV RL 104 RX3 yX3_revisitDay wsX3_revisitDay) := goodIn_app (goodIn_of _ (by decide +kernel)) ggL_law_X3_revisitDay
set_option maxRecDepth 20000 in
theorem ggL_law_X2_laid : GoodIn wsL_law wsX2_laid := goodIn_r _ [378, 22, 459, 460, 461, 462, 490, 491, 492, 493, 494, 495, 496, 497, 498] (by decide +kernel) (by decide +kernel)
set_option maxRecDepth 20000 in
theorem gL_law_X2_laid : GoodIn wsL_law (wsV RL 105 RX2 yX2_laid wsX2_laid) := goodIn_app (goodIn_of _ (by decide +kernel)) ggL_law_X2_laid
set_option maxRecDepth 20000 in
theorem ggL_law_X3_laid : GoodIn wsL_law wsX3_laid := goodIn_r _ [382, 175, 71, 313, 314, 315, 5, 316, 317, 74, 75, 72, 73, 69, 288, 289, 290, 291, 167, 66, 63, 70, 318, 319, 320, 321, 322, 323, 324, 325, 62, 67, 68, 326, 327, 328, 329, 330, 331, 332, 333, 334, 335, 336, 337, 65, 463, 464, 465, 466, 467, 468, 469, 470, 471, 472, 473, 474, 475, 476, 477, 478, 479, 480] (by decide +kernel) (by decide +kernel)
set_option maxRecDepth 20000 in
theorem gL_law_X3_laid : GoodIn wsL_law (wsV RL 108 RX3 yX3_laid wsX3_laid) := goodIn_app (goodIn_of _ (by decide +kernel)) ggL_law_X3_laid
set_option maxRecDepth 20000 in
theorem ggL_law_X2_late : GoodIn wsL_law wsX2_late := goodIn_r _ [386, 22, 459, 460, 461, 462, 490, 491, 492, 493, 494, 495, 496, 497, 498] (by decide +kernel) (by decide +kernel)
set_option maxRecDepth 20000 in
theorem gL_law_X2_late : GoodIn wsL_law (wsV RL 109 RX2 yX2_late wsX2_late) := goodIn_app (goodIn_of _ (by decide +kernel)) ggL_law_X2_late
set_option maxRecDepth 20000 in
theorem ggL_law_X3_late : GoodIn wsL_law wsX3_late := goodIn_r _ [390, 175, 317, 313, 314, 315, 5, 316, 74, 75, 72, 73, 71, 69, 288, 289, 290, 291, 167, 66, 63, 70, 318, 319, 320, 321, 322, 323, 324, 325, 62, 67, 68, 326, 327, 328, 329, 330, 331, 332, 333, 334, 335, 336, 337, 65, 463, 464, 465, 466, 467, 468, 469, 470, 471, 472, 473, 474, 475, 476, 477, 478, 479, 480] (by decide +kernel) (by decide +kernel)
set_option maxRecDepth 20000 in
theorem gL_law_X3_late : GoodIn wsL_law (wsV RL 112 RX3 yX3_late wsX3_late) := goodIn_app (goodIn_of _ (by decide +kernel)) ggL_law_X3_late
set_option maxRecDepth 20000 in
theorem ggL_law_X2_lastDay : GoodIn wsL_law wsX2_lastDay := goodIn_r _ [394, 22, 459, 460, 461, 462, 490, 491, 492, 493, 494, 495, 496, 497, 498] (by decide +kernel) (by decide +kernel)
set_option maxRecDepth 20000 in
theorem gL_law_X2_lastDay : GoodIn wsL_law (wsV RL 113 RX2 yX2_lastDay wsX2_lastDay) := goodIn_app (goodIn_of _ (by decide +kernel)) ggL_law_X2_lastDay
set_option maxRecDepth 20000 in
theorem ggL_law_X3_lastDay : GoodIn wsL_law wsX3_lastDay := goodIn_r _ [398, 175, 71, 313, 314, 315, 5, 316, 317, 74, 75, 72, 73, 69, 288, 289, 290, 291, 167, 66, 63, 70, 318, 319, 320, 321, 322, 323, 324, 325, 62, 67, 68, 326, 327, 328, 329, 330, 331, 332, 333, 334, 335, 336, 337, 65, 463, 464, 465, 466, 467, 468, 469, 470, 471, 472, 473, 474, 475, 476, 477, 478, 479, 480] (by decide +kernel) (by decide +kernel)
set_option maxRecDepth 20000 in
theorem gL_law_X3_lastDay : GoodIn wsL_law (wsV RL 116 RX3 yX3_lastDay wsX3_lastDay) := goodIn_app (goodIn_of _ (by decide +kernel)) ggL_law_X3_lastDay
set_option maxRecDepth 20000 in
theorem ggL_law_L_worthwhile : GoodIn wsL_law wsL_worthwhile := goodIn_ca (goodIn_r _ [401, 81, 402, 403, 404, 2, 405, 87, 88, 16, 91, 92, 93, 406, 407, 408, 15, 409, 98, 410, 411, 412, 413, 35, 107, 108, 109, 110, 111, 414, 415, 416, 417, 31, 29, 418, 208, 209, 210, 211, 212, 213, 459, 460, 461, 462, 481, 482, 483, 484, 485, 486, 487, 488, 489] (by decide +kernel) (by decide +kernel)) (goodIn_sub (fun _ h => List.mem_append_left _ (List.mem_append_left _ (List.mem_append_left _ (List.mem_append_right _ h)))) (by decide +kernel))
set_option maxRecDepth 20000 in
theorem gL_law_L_worthwhile : GoodIn wsL_law (va_wsS RL 117 yL_worthwhile wsL_worthwhile) := goodIn_app (goodIn_of _ (by decide +kernel)) ggL_law_L_worthwhile
set_option maxRecDepth 20000 in
theorem ggL_law_X3_worthwhile : GoodIn wsL_law wsX3_worthwhile := goodIn_r _ [422, 168, 169, 5, 170, 171, 172, 173, 174, 175, 423, 424, 425, 426, 167, 427, 428, 429, 430, 66, 431, 432, 433, 434, 64, 62, 230, 231, 232, 463, 464, 465, 466, 467, 468, 469, 470, 471, 472, 473, 474, 475, 476, 477, 478, 479, 480] (by decide +kernel) (by decide +kernel)
set_option maxRecDepth 20000 in
theorem gL_law_X3_worthwhile : GoodIn wsL_law (wsV RL 119 RX3 yX3_worthwhile wsX3_worthwhile) := goodIn_app (goodIn_of _ (by decide +kernel)) ggL_law_X3_worthwhile
set_option maxRecDepth 20000 in
theorem ggL_law_L_bestNet : GoodIn wsL_law wsL_bestNet := goodIn_ca (goodIn_r _ [437, 81, 438, 439, 440, 2, 441, 87, 88, 16, 91, 92, 93, 406, 407, 408, 15, 409, 98, 410, 411, 412, 413, 35, 107, 108, 109, 110, 111, 414, 415, 416, 417, 31, 29, 418, 208, 209, 210, 211, 212, 213, 442, 459, 460, 461, 462, 481, 482, 483, 484, 485, 486, 487, 488, 489] (by decide +kernel) (by decide +kernel)) (goodIn_sub (fun _ h => List.mem_append_left _ (List.mem_append_left _ (List.mem_append_left _ (List.mem_append_right _ h)))) (by decide +kernel))
set_option maxRecDepth 20000 in
theorem gL_law_L_bestNet : GoodIn wsL_law (va_wsS RL 120 yL_bestNet wsL_bestNet) := goodIn_app (goodIn_of _ (by decide +kernel)) ggL_law_L_bestNet
set_option maxRecDepth 20000 in
theorem ggL_law_X3_bestNet : GoodIn wsL_law wsX3_bestNet := goodIn_r _ [446, 168, 169, 5, 170, 171, 172, 173, 174, 175, 423, 424, 425, 426, 167, 427, 428, 429, 430, 66, 431, 432, 433, 434, 64, 62, 230, 231, 232, 463, 464, 465, 466, 467, 468, 469, 470, 471, 472, 473, 474, 475, 476, 477, 478, 479, 480] (by decide +kernel) (by decide +kernel)
set_option maxRecDepth 20000 in
theorem gL_law_X3_bestNet : GoodIn wsL_law (wsV RL 122 RX3 yX3_bestNet wsX3_bestNet) := goodIn_app (goodIn_of _ (by decide +kernel)) ggL_law_X3_bestNet
set_option maxRecDepth 20000 in
theorem ggL_law_X2_closedSets : GoodIn wsL_law wsX2_closedSets := goodIn_r _ [450, 16, 451, 452, 453, 15, 454, 98, 410, 411, 412, 413, 35, 107, 2, 108, 109, 110, 111, 459, 460, 461, 462, 481, 482, 483, 484, 485, 486, 487, 488, 489] (by decide +kernel) (by decide +kernel)
set_option maxRecDepth 20000 in
theorem gL_law_X2_closedSets : GoodIn wsL_law (wsV RL 123 RX2 yX2_closedSets wsX2_closedSets) := goodIn_app (goodIn_of _ (by decide +kernel)) ggL_law_X2_closedSets
set_option maxRecDepth 20000 in
theorem ggL_law_X3_closedSets : GoodIn wsL_law wsX3_closedSets := goodIn_r _ [458, 175, 167, 427, 428, 429, 5, 430, 66, 463, 464, 465, 466, 467, 468, 469, 470, 471, 472, 473, 474, 475, 476, 477, 478, 479, 480] (by decide +kernel) (by decide +kernel)
set_option maxRecDepth 20000 in
theorem gL_law_X3_closedSets : GoodIn wsL_law (wsV RL 126 RX3 yX3_closedSets wsX3_closedSets) := goodIn_app (goodIn_of _ (by decide +kernel)) ggL_law_X3_closedSets
end
section
theorem dL_law_0 : decode cL_law 0 = .ok (.new 8, 3) := by decide +kernel
theorem dL_law_3 : decode cL_law 3 = .ok (.dup, 1) := by decide +kernel
theorem dL_law_4 : decode cL_law 4 = .ok (.invokespecial 57, 3) := by decide +kernel
theorem dL_law_7 : decode cL_law 7 = .ok (.astore_n 1, 1) := by decide +kernel
theorem dL_law_8 : decode cL_law 8 = .ok (.new 58, 3) := by decide +kernel
theorem dL_law_11 : decode cL_law 11 = .ok (.dup, 1) := by decide +kernel
theorem dL_law_12 : decode cL_law 12 = .ok (.invokespecial 60, 3) := by decide +kernel
theorem dL_law_15 : decode cL_law 15 = .ok (.astore_n 2, 1) := by decide +kernel
theorem dL_law_16 : decode cL_law 16 = .ok (.iconst 1, 1) := by decide +kernel
theorem dL_law_17 : decode cL_law 17 = .ok (.newarray .long, 2) := by decide +kernel
theorem dL_law_19 : decode cL_law 19 = .ok (.astore_n 3, 1) := by decide +kernel
theorem dL_law_20 : decode cL_law 20 = .ok (.iconst 0, 1) := by decide +kernel
theorem dL_law_21 : decode cL_law 21 = .ok (.istore 4, 2) := by decide +kernel
theorem dL_law_23 : decode cL_law 23 = .ok (.iload 4, 2) := by decide +kernel
theorem dL_law_25 : decode cL_law 25 = .ok (.aload_n 0, 1) := by decide +kernel
theorem dL_law_26 : decode cL_law 26 = .ok (.arraylength, 1) := by decide +kernel
theorem dL_law_27 : decode cL_law 27 = .ok (.iconst 5, 1) := by decide +kernel
theorem dL_law_28 : decode cL_law 28 = .ok (.isub, 1) := by decide +kernel
theorem dL_law_29 : decode cL_law 29 = .ok (.if_icmp .gt 942, 3) := by decide +kernel
theorem dL_law_32 : decode cL_law 32 = .ok (.aload_n 0, 1) := by decide +kernel
theorem dL_law_33 : decode cL_law 33 = .ok (.iload 4, 2) := by decide +kernel
theorem dL_law_35 : decode cL_law 35 = .ok (.iaload, 1) := by decide +kernel
theorem dL_law_36 : decode cL_law 36 = .ok (.bipush 31, 2) := by decide +kernel
theorem dL_law_38 : decode cL_law 38 = .ok (.iand, 1) := by decide +kernel
theorem dL_law_39 : decode cL_law 39 = .ok (.tableswitch 926 0 16 #[81, 173, 241, 309, 389, 402, 458, 514, 570, 626, 694, 762, 775, 788, 801, 857, 913], 81) := by decide +kernel
theorem dL_law_120 : decode cL_law 120 = .ok (.aload_n 1, 1) := by decide +kernel
theorem dL_law_121 : decode cL_law 121 = .ok (.aload_n 0, 1) := by decide +kernel
theorem dL_law_122 : decode cL_law 122 = .ok (.iload 4, 2) := by decide +kernel
theorem dL_law_124 : decode cL_law 124 = .ok (.iconst 1, 1) := by decide +kernel
theorem dL_law_125 : decode cL_law 125 = .ok (.iadd, 1) := by decide +kernel
theorem dL_law_126 : decode cL_law 126 = .ok (.iaload, 1) := by decide +kernel
theorem dL_law_127 : decode cL_law 127 = .ok (.aload_n 0, 1) := by decide +kernel
theorem dL_law_128 : decode cL_law 128 = .ok (.iload 4, 2) := by decide +kernel
theorem dL_law_130 : decode cL_law 130 = .ok (.iconst 2, 1) := by decide +kernel
theorem dL_law_131 : decode cL_law 131 = .ok (.iadd, 1) := by decide +kernel
theorem dL_law_132 : decode cL_law 132 = .ok (.iaload, 1) := by decide +kernel
theorem dL_law_133 : decode cL_law 133 = .ok (.aload_n 0, 1) := by decide +kernel
theorem dL_law_134 : decode cL_law 134 = .ok (.iload 4, 2) := by decide +kernel
theorem dL_law_136 : decode cL_law 136 = .ok (.iconst 3, 1) := by decide +kernel
theorem dL_law_137 : decode cL_law 137 = .ok (.iadd, 1) := by decide +kernel
theorem dL_law_138 : decode cL_law 138 = .ok (.iaload, 1) := by decide +kernel
theorem dL_law_139 : decode cL_law 139 = .ok (.aload_n 0, 1) := by decide +kernel
theorem dL_law_140 : decode cL_law 140 = .ok (.iload 4, 2) := by decide +kernel
theorem dL_law_142 : decode cL_law 142 = .ok (.iconst 4, 1) := by decide +kernel
theorem dL_law_143 : decode cL_law 143 = .ok (.iadd, 1) := by decide +kernel
theorem dL_law_144 : decode cL_law 144 = .ok (.iaload, 1) := by decide +kernel
theorem dL_law_145 : decode cL_law 145 = .ok (.aload_n 3, 1) := by decide +kernel
theorem dL_law_146 : decode cL_law 146 = .ok (.invokestatic 61, 3) := by decide +kernel
theorem dL_law_149 : decode cL_law 149 = .ok (.istore 5, 2) := by decide +kernel
theorem dL_law_151 : decode cL_law 151 = .ok (.aload_n 2, 1) := by decide +kernel
theorem dL_law_152 : decode cL_law 152 = .ok (.aload_n 0, 1) := by decide +kernel
theorem dL_law_153 : decode cL_law 153 = .ok (.iload 4, 2) := by decide +kernel
theorem dL_law_155 : decode cL_law 155 = .ok (.iconst 1, 1) := by decide +kernel
theorem dL_law_156 : decode cL_law 156 = .ok (.iadd, 1) := by decide +kernel
theorem dL_law_157 : decode cL_law 157 = .ok (.iaload, 1) := by decide +kernel
theorem dL_law_158 : decode cL_law 158 = .ok (.aload_n 0, 1) := by decide +kernel
theorem dL_law_159 : decode cL_law 159 = .ok (.iload 4, 2) := by decide +kernel
theorem dL_law_161 : decode cL_law 161 = .ok (.iconst 2, 1) := by decide +kernel
theorem dL_law_162 : decode cL_law 162 = .ok (.iadd, 1) := by decide +kernel
theorem dL_law_163 : decode cL_law 163 = .ok (.iaload, 1) := by decide +kernel
theorem dL_law_164 : decode cL_law 164 = .ok (.aload_n 0, 1) := by decide +kernel
theorem dL_law_165 : decode cL_law 165 = .ok (.iload 4, 2) := by decide +kernel
theorem dL_law_167 : decode cL_law 167 = .ok (.iconst 3, 1) := by decide +kernel
theorem dL_law_168 : decode cL_law 168 = .ok (.iadd, 1) := by decide +kernel
theorem dL_law_169 : decode cL_law 169 = .ok (.iaload, 1) := by decide +kernel
theorem dL_law_170 : decode cL_law 170 = .ok (.aload_n 0, 1) := by decide +kernel
theorem dL_law_171 : decode cL_law 171 = .ok (.iload 4, 2) := by decide +kernel
theorem dL_law_173 : decode cL_law 173 = .ok (.iconst 4, 1) := by decide +kernel
theorem dL_law_174 : decode cL_law 174 = .ok (.iadd, 1) := by decide +kernel
theorem dL_law_175 : decode cL_law 175 = .ok (.iaload, 1) := by decide +kernel
theorem dL_law_176 : decode cL_law 176 = .ok (.invokevirtual 66, 3) := by decide +kernel
theorem dL_law_179 : decode cL_law 179 = .ok (.istore 6, 2) := by decide +kernel
theorem dL_law_181 : decode cL_law 181 = .ok (.aload_n 2, 1) := by decide +kernel
theorem dL_law_182 : decode cL_law 182 = .ok (.invokevirtual 67, 3) := by decide +kernel
theorem dL_law_185 : decode cL_law 185 = .ok (.iload 5, 2) := by decide +kernel
theorem dL_law_187 : decode cL_law 187 = .ok (.if_icmp .eq 5, 3) := by decide +kernel
theorem dL_law_190 : decode cL_law 190 = .ok (.iconst 0, 1) := by decide +kernel
theorem dL_law_191 : decode cL_law 191 = .ok (.ireturn, 1) := by decide +kernel
theorem dL_law_192 : decode cL_law 192 = .ok (.iload 5, 2) := by decide +kernel
theorem dL_law_194 : decode cL_law 194 = .ok (.ifCond .ne 15, 3) := by decide +kernel
theorem dL_law_197 : decode cL_law 197 = .ok (.aload_n 3, 1) := by decide +kernel
theorem dL_law_198 : decode cL_law 198 = .ok (.iconst 0, 1) := by decide +kernel
theorem dL_law_199 : decode cL_law 199 = .ok (.laload, 1) := by decide +kernel
theorem dL_law_200 : decode cL_law 200 = .ok (.iload 6, 2) := by decide +kernel
theorem dL_law_202 : decode cL_law 202 = .ok (.i2l, 1) := by decide +kernel
theorem dL_law_203 : decode cL_law 203 = .ok (.lcmp, 1) := by decide +kernel
theorem dL_law_204 : decode cL_law 204 = .ok (.ifCond .eq 5, 3) := by decide +kernel
theorem dL_law_207 : decode cL_law 207 = .ok (.iconst 0, 1) := by decide +kernel
theorem dL_law_208 : decode cL_law 208 = .ok (.ireturn, 1) := by decide +kernel
theorem dL_law_209 : decode cL_law 209 = .ok (.goto 756, 3) := by decide +kernel
theorem dL_law_212 : decode cL_law 212 = .ok (.aload_n 1, 1) := by decide +kernel
theorem dL_law_213 : decode cL_law 213 = .ok (.aload_n 0, 1) := by decide +kernel
theorem dL_law_214 : decode cL_law 214 = .ok (.iload 4, 2) := by decide +kernel
theorem dL_law_216 : decode cL_law 216 = .ok (.iconst 1, 1) := by decide +kernel
theorem dL_law_217 : decode cL_law 217 = .ok (.iadd, 1) := by decide +kernel
theorem dL_law_218 : decode cL_law 218 = .ok (.iaload, 1) := by decide +kernel
theorem dL_law_219 : decode cL_law 219 = .ok (.aload_n 0, 1) := by decide +kernel
theorem dL_law_220 : decode cL_law 220 = .ok (.iload 4, 2) := by decide +kernel
theorem dL_law_222 : decode cL_law 222 = .ok (.iconst 2, 1) := by decide +kernel
theorem dL_law_223 : decode cL_law 223 = .ok (.iadd, 1) := by decide +kernel
theorem dL_law_224 : decode cL_law 224 = .ok (.iaload, 1) := by decide +kernel
theorem dL_law_225 : decode cL_law 225 = .ok (.aload_n 3, 1) := by decide +kernel
theorem dL_law_226 : decode cL_law 226 = .ok (.invokestatic 71, 3) := by decide +kernel
theorem dL_law_229 : decode cL_law 229 = .ok (.istore 5, 2) := by decide +kernel
theorem dL_law_231 : decode cL_law 231 = .ok (.aload_n 2, 1) := by decide +kernel
theorem dL_law_232 : decode cL_law 232 = .ok (.aload_n 0, 1) := by decide +kernel
theorem dL_law_233 : decode cL_law 233 = .ok (.iload 4, 2) := by decide +kernel
theorem dL_law_235 : decode cL_law 235 = .ok (.iconst 1, 1) := by decide +kernel
theorem dL_law_236 : decode cL_law 236 = .ok (.iadd, 1) := by decide +kernel
theorem dL_law_237 : decode cL_law 237 = .ok (.iaload, 1) := by decide +kernel
theorem dL_law_238 : decode cL_law 238 = .ok (.aload_n 0, 1) := by decide +kernel
theorem dL_law_239 : decode cL_law 239 = .ok (.iload 4, 2) := by decide +kernel
theorem dL_law_241 : decode cL_law 241 = .ok (.iconst 2, 1) := by decide +kernel
theorem dL_law_242 : decode cL_law 242 = .ok (.iadd, 1) := by decide +kernel
theorem dL_law_243 : decode cL_law 243 = .ok (.iaload, 1) := by decide +kernel
theorem dL_law_244 : decode cL_law 244 = .ok (.invokevirtual 74, 3) := by decide +kernel
theorem dL_law_247 : decode cL_law 247 = .ok (.istore 6, 2) := by decide +kernel
theorem dL_law_249 : decode cL_law 249 = .ok (.aload_n 2, 1) := by decide +kernel
theorem dL_law_250 : decode cL_law 250 = .ok (.invokevirtual 67, 3) := by decide +kernel
theorem dL_law_253 : decode cL_law 253 = .ok (.iload 5, 2) := by decide +kernel
theorem dL_law_255 : decode cL_law 255 = .ok (.if_icmp .eq 5, 3) := by decide +kernel
theorem dL_law_258 : decode cL_law 258 = .ok (.iconst 0, 1) := by decide +kernel
theorem dL_law_259 : decode cL_law 259 = .ok (.ireturn, 1) := by decide +kernel
theorem dL_law_260 : decode cL_law 260 = .ok (.iload 5, 2) := by decide +kernel
theorem dL_law_262 : decode cL_law 262 = .ok (.ifCond .ne 15, 3) := by decide +kernel
theorem dL_law_265 : decode cL_law 265 = .ok (.aload_n 3, 1) := by decide +kernel
theorem dL_law_266 : decode cL_law 266 = .ok (.iconst 0, 1) := by decide +kernel
theorem dL_law_267 : decode cL_law 267 = .ok (.laload, 1) := by decide +kernel
theorem dL_law_268 : decode cL_law 268 = .ok (.iload 6, 2) := by decide +kernel
theorem dL_law_270 : decode cL_law 270 = .ok (.i2l, 1) := by decide +kernel
theorem dL_law_271 : decode cL_law 271 = .ok (.lcmp, 1) := by decide +kernel
theorem dL_law_272 : decode cL_law 272 = .ok (.ifCond .eq 5, 3) := by decide +kernel
theorem dL_law_275 : decode cL_law 275 = .ok (.iconst 0, 1) := by decide +kernel
theorem dL_law_276 : decode cL_law 276 = .ok (.ireturn, 1) := by decide +kernel
theorem dL_law_277 : decode cL_law 277 = .ok (.goto 688, 3) := by decide +kernel
theorem dL_law_280 : decode cL_law 280 = .ok (.aload_n 1, 1) := by decide +kernel
theorem dL_law_281 : decode cL_law 281 = .ok (.aload_n 0, 1) := by decide +kernel
theorem dL_law_282 : decode cL_law 282 = .ok (.iload 4, 2) := by decide +kernel
theorem dL_law_284 : decode cL_law 284 = .ok (.iconst 1, 1) := by decide +kernel
theorem dL_law_285 : decode cL_law 285 = .ok (.iadd, 1) := by decide +kernel
theorem dL_law_286 : decode cL_law 286 = .ok (.iaload, 1) := by decide +kernel
theorem dL_law_287 : decode cL_law 287 = .ok (.aload_n 0, 1) := by decide +kernel
theorem dL_law_288 : decode cL_law 288 = .ok (.iload 4, 2) := by decide +kernel
theorem dL_law_290 : decode cL_law 290 = .ok (.iconst 2, 1) := by decide +kernel
theorem dL_law_291 : decode cL_law 291 = .ok (.iadd, 1) := by decide +kernel
theorem dL_law_292 : decode cL_law 292 = .ok (.iaload, 1) := by decide +kernel
theorem dL_law_293 : decode cL_law 293 = .ok (.aload_n 3, 1) := by decide +kernel
theorem dL_law_294 : decode cL_law 294 = .ok (.invokestatic 75, 3) := by decide +kernel
theorem dL_law_297 : decode cL_law 297 = .ok (.istore 5, 2) := by decide +kernel
theorem dL_law_299 : decode cL_law 299 = .ok (.aload_n 2, 1) := by decide +kernel
theorem dL_law_300 : decode cL_law 300 = .ok (.aload_n 0, 1) := by decide +kernel
theorem dL_law_301 : decode cL_law 301 = .ok (.iload 4, 2) := by decide +kernel
theorem dL_law_303 : decode cL_law 303 = .ok (.iconst 1, 1) := by decide +kernel
theorem dL_law_304 : decode cL_law 304 = .ok (.iadd, 1) := by decide +kernel
theorem dL_law_305 : decode cL_law 305 = .ok (.iaload, 1) := by decide +kernel
theorem dL_law_306 : decode cL_law 306 = .ok (.aload_n 0, 1) := by decide +kernel
theorem dL_law_307 : decode cL_law 307 = .ok (.iload 4, 2) := by decide +kernel
theorem dL_law_309 : decode cL_law 309 = .ok (.iconst 2, 1) := by decide +kernel
theorem dL_law_310 : decode cL_law 310 = .ok (.iadd, 1) := by decide +kernel
theorem dL_law_311 : decode cL_law 311 = .ok (.iaload, 1) := by decide +kernel
theorem dL_law_312 : decode cL_law 312 = .ok (.invokevirtual 77, 3) := by decide +kernel
theorem dL_law_315 : decode cL_law 315 = .ok (.istore 6, 2) := by decide +kernel
theorem dL_law_317 : decode cL_law 317 = .ok (.aload_n 2, 1) := by decide +kernel
theorem dL_law_318 : decode cL_law 318 = .ok (.invokevirtual 67, 3) := by decide +kernel
theorem dL_law_321 : decode cL_law 321 = .ok (.iload 5, 2) := by decide +kernel
theorem dL_law_323 : decode cL_law 323 = .ok (.if_icmp .eq 5, 3) := by decide +kernel
theorem dL_law_326 : decode cL_law 326 = .ok (.iconst 0, 1) := by decide +kernel
theorem dL_law_327 : decode cL_law 327 = .ok (.ireturn, 1) := by decide +kernel
theorem dL_law_328 : decode cL_law 328 = .ok (.iload 5, 2) := by decide +kernel
theorem dL_law_330 : decode cL_law 330 = .ok (.ifCond .ne 15, 3) := by decide +kernel
theorem dL_law_333 : decode cL_law 333 = .ok (.aload_n 3, 1) := by decide +kernel
theorem dL_law_334 : decode cL_law 334 = .ok (.iconst 0, 1) := by decide +kernel
theorem dL_law_335 : decode cL_law 335 = .ok (.laload, 1) := by decide +kernel
theorem dL_law_336 : decode cL_law 336 = .ok (.iload 6, 2) := by decide +kernel
theorem dL_law_338 : decode cL_law 338 = .ok (.i2l, 1) := by decide +kernel
theorem dL_law_339 : decode cL_law 339 = .ok (.lcmp, 1) := by decide +kernel
theorem dL_law_340 : decode cL_law 340 = .ok (.ifCond .eq 5, 3) := by decide +kernel
theorem dL_law_343 : decode cL_law 343 = .ok (.iconst 0, 1) := by decide +kernel
theorem dL_law_344 : decode cL_law 344 = .ok (.ireturn, 1) := by decide +kernel
theorem dL_law_345 : decode cL_law 345 = .ok (.goto 620, 3) := by decide +kernel
theorem dL_law_348 : decode cL_law 348 = .ok (.aload_n 1, 1) := by decide +kernel
theorem dL_law_349 : decode cL_law 349 = .ok (.aload_n 0, 1) := by decide +kernel
theorem dL_law_350 : decode cL_law 350 = .ok (.iload 4, 2) := by decide +kernel
theorem dL_law_352 : decode cL_law 352 = .ok (.iconst 1, 1) := by decide +kernel
theorem dL_law_353 : decode cL_law 353 = .ok (.iadd, 1) := by decide +kernel
theorem dL_law_354 : decode cL_law 354 = .ok (.iaload, 1) := by decide +kernel
theorem dL_law_355 : decode cL_law 355 = .ok (.aload_n 0, 1) := by decide +kernel
theorem dL_law_356 : decode cL_law 356 = .ok (.iload 4, 2) := by decide +kernel
theorem dL_law_358 : decode cL_law 358 = .ok (.iconst 2, 1) := by decide +kernel
theorem dL_law_359 : decode cL_law 359 = .ok (.iadd, 1) := by decide +kernel
theorem dL_law_360 : decode cL_law 360 = .ok (.iaload, 1) := by decide +kernel
theorem dL_law_361 : decode cL_law 361 = .ok (.aload_n 0, 1) := by decide +kernel
theorem dL_law_362 : decode cL_law 362 = .ok (.iload 4, 2) := by decide +kernel
theorem dL_law_364 : decode cL_law 364 = .ok (.iconst 3, 1) := by decide +kernel
theorem dL_law_365 : decode cL_law 365 = .ok (.iadd, 1) := by decide +kernel
theorem dL_law_366 : decode cL_law 366 = .ok (.iaload, 1) := by decide +kernel
theorem dL_law_367 : decode cL_law 367 = .ok (.aload_n 3, 1) := by decide +kernel
theorem dL_law_368 : decode cL_law 368 = .ok (.invokestatic 78, 3) := by decide +kernel
theorem dL_law_371 : decode cL_law 371 = .ok (.istore 5, 2) := by decide +kernel
theorem dL_law_373 : decode cL_law 373 = .ok (.aload_n 2, 1) := by decide +kernel
theorem dL_law_374 : decode cL_law 374 = .ok (.aload_n 0, 1) := by decide +kernel
theorem dL_law_375 : decode cL_law 375 = .ok (.iload 4, 2) := by decide +kernel
theorem dL_law_377 : decode cL_law 377 = .ok (.iconst 1, 1) := by decide +kernel
theorem dL_law_378 : decode cL_law 378 = .ok (.iadd, 1) := by decide +kernel
theorem dL_law_379 : decode cL_law 379 = .ok (.iaload, 1) := by decide +kernel
theorem dL_law_380 : decode cL_law 380 = .ok (.aload_n 0, 1) := by decide +kernel
theorem dL_law_381 : decode cL_law 381 = .ok (.iload 4, 2) := by decide +kernel
theorem dL_law_383 : decode cL_law 383 = .ok (.iconst 2, 1) := by decide +kernel
theorem dL_law_384 : decode cL_law 384 = .ok (.iadd, 1) := by decide +kernel
theorem dL_law_385 : decode cL_law 385 = .ok (.iaload, 1) := by decide +kernel
theorem dL_law_386 : decode cL_law 386 = .ok (.aload_n 0, 1) := by decide +kernel
theorem dL_law_387 : decode cL_law 387 = .ok (.iload 4, 2) := by decide +kernel
theorem dL_law_389 : decode cL_law 389 = .ok (.iconst 3, 1) := by decide +kernel
theorem dL_law_390 : decode cL_law 390 = .ok (.iadd, 1) := by decide +kernel
theorem dL_law_391 : decode cL_law 391 = .ok (.iaload, 1) := by decide +kernel
theorem dL_law_392 : decode cL_law 392 = .ok (.invokevirtual 81, 3) := by decide +kernel
theorem dL_law_395 : decode cL_law 395 = .ok (.istore 6, 2) := by decide +kernel
theorem dL_law_397 : decode cL_law 397 = .ok (.aload_n 2, 1) := by decide +kernel
theorem dL_law_398 : decode cL_law 398 = .ok (.invokevirtual 67, 3) := by decide +kernel
theorem dL_law_401 : decode cL_law 401 = .ok (.iload 5, 2) := by decide +kernel
theorem dL_law_403 : decode cL_law 403 = .ok (.if_icmp .eq 5, 3) := by decide +kernel
theorem dL_law_406 : decode cL_law 406 = .ok (.iconst 0, 1) := by decide +kernel
theorem dL_law_407 : decode cL_law 407 = .ok (.ireturn, 1) := by decide +kernel
theorem dL_law_408 : decode cL_law 408 = .ok (.iload 5, 2) := by decide +kernel
theorem dL_law_410 : decode cL_law 410 = .ok (.ifCond .ne 15, 3) := by decide +kernel
theorem dL_law_413 : decode cL_law 413 = .ok (.aload_n 3, 1) := by decide +kernel
theorem dL_law_414 : decode cL_law 414 = .ok (.iconst 0, 1) := by decide +kernel
theorem dL_law_415 : decode cL_law 415 = .ok (.laload, 1) := by decide +kernel
theorem dL_law_416 : decode cL_law 416 = .ok (.iload 6, 2) := by decide +kernel
theorem dL_law_418 : decode cL_law 418 = .ok (.i2l, 1) := by decide +kernel
theorem dL_law_419 : decode cL_law 419 = .ok (.lcmp, 1) := by decide +kernel
theorem dL_law_420 : decode cL_law 420 = .ok (.ifCond .eq 5, 3) := by decide +kernel
theorem dL_law_423 : decode cL_law 423 = .ok (.iconst 0, 1) := by decide +kernel
theorem dL_law_424 : decode cL_law 424 = .ok (.ireturn, 1) := by decide +kernel
theorem dL_law_425 : decode cL_law 425 = .ok (.goto 540, 3) := by decide +kernel
theorem dL_law_428 : decode cL_law 428 = .ok (.aload_n 1, 1) := by decide +kernel
theorem dL_law_429 : decode cL_law 429 = .ok (.invokevirtual 82, 3) := by decide +kernel
theorem dL_law_432 : decode cL_law 432 = .ok (.aload_n 2, 1) := by decide +kernel
theorem dL_law_433 : decode cL_law 433 = .ok (.invokevirtual 85, 3) := by decide +kernel
theorem dL_law_436 : decode cL_law 436 = .ok (.if_icmp .eq 529, 3) := by decide +kernel
theorem dL_law_439 : decode cL_law 439 = .ok (.iconst 0, 1) := by decide +kernel
theorem dL_law_440 : decode cL_law 440 = .ok (.ireturn, 1) := by decide +kernel
theorem dL_law_441 : decode cL_law 441 = .ok (.aload_n 1, 1) := by decide +kernel
theorem dL_law_442 : decode cL_law 442 = .ok (.aload_n 0, 1) := by decide +kernel
theorem dL_law_443 : decode cL_law 443 = .ok (.iload 4, 2) := by decide +kernel
theorem dL_law_445 : decode cL_law 445 = .ok (.iconst 1, 1) := by decide +kernel
theorem dL_law_446 : decode cL_law 446 = .ok (.iadd, 1) := by decide +kernel
theorem dL_law_447 : decode cL_law 447 = .ok (.iaload, 1) := by decide +kernel
theorem dL_law_448 : decode cL_law 448 = .ok (.aload_n 3, 1) := by decide +kernel
theorem dL_law_449 : decode cL_law 449 = .ok (.invokestatic 86, 3) := by decide +kernel
theorem dL_law_452 : decode cL_law 452 = .ok (.istore 5, 2) := by decide +kernel
theorem dL_law_454 : decode cL_law 454 = .ok (.aload_n 2, 1) := by decide +kernel
theorem dL_law_455 : decode cL_law 455 = .ok (.aload_n 0, 1) := by decide +kernel
theorem dL_law_456 : decode cL_law 456 = .ok (.iload 4, 2) := by decide +kernel
theorem dL_law_458 : decode cL_law 458 = .ok (.iconst 1, 1) := by decide +kernel
theorem dL_law_459 : decode cL_law 459 = .ok (.iadd, 1) := by decide +kernel
theorem dL_law_460 : decode cL_law 460 = .ok (.iaload, 1) := by decide +kernel
theorem dL_law_461 : decode cL_law 461 = .ok (.invokevirtual 89, 3) := by decide +kernel
theorem dL_law_464 : decode cL_law 464 = .ok (.istore 6, 2) := by decide +kernel
theorem dL_law_466 : decode cL_law 466 = .ok (.aload_n 2, 1) := by decide +kernel
theorem dL_law_467 : decode cL_law 467 = .ok (.invokevirtual 67, 3) := by decide +kernel
theorem dL_law_470 : decode cL_law 470 = .ok (.iload 5, 2) := by decide +kernel
theorem dL_law_472 : decode cL_law 472 = .ok (.if_icmp .eq 5, 3) := by decide +kernel
theorem dL_law_475 : decode cL_law 475 = .ok (.iconst 0, 1) := by decide +kernel
theorem dL_law_476 : decode cL_law 476 = .ok (.ireturn, 1) := by decide +kernel
theorem dL_law_477 : decode cL_law 477 = .ok (.iload 5, 2) := by decide +kernel
theorem dL_law_479 : decode cL_law 479 = .ok (.ifCond .ne 15, 3) := by decide +kernel
theorem dL_law_482 : decode cL_law 482 = .ok (.aload_n 3, 1) := by decide +kernel
theorem dL_law_483 : decode cL_law 483 = .ok (.iconst 0, 1) := by decide +kernel
theorem dL_law_484 : decode cL_law 484 = .ok (.laload, 1) := by decide +kernel
theorem dL_law_485 : decode cL_law 485 = .ok (.iload 6, 2) := by decide +kernel
theorem dL_law_487 : decode cL_law 487 = .ok (.i2l, 1) := by decide +kernel
theorem dL_law_488 : decode cL_law 488 = .ok (.lcmp, 1) := by decide +kernel
theorem dL_law_489 : decode cL_law 489 = .ok (.ifCond .eq 5, 3) := by decide +kernel
theorem dL_law_492 : decode cL_law 492 = .ok (.iconst 0, 1) := by decide +kernel
theorem dL_law_493 : decode cL_law 493 = .ok (.ireturn, 1) := by decide +kernel
theorem dL_law_494 : decode cL_law 494 = .ok (.goto 471, 3) := by decide +kernel
theorem dL_law_497 : decode cL_law 497 = .ok (.aload_n 1, 1) := by decide +kernel
theorem dL_law_498 : decode cL_law 498 = .ok (.aload_n 0, 1) := by decide +kernel
theorem dL_law_499 : decode cL_law 499 = .ok (.iload 4, 2) := by decide +kernel
theorem dL_law_501 : decode cL_law 501 = .ok (.iconst 1, 1) := by decide +kernel
theorem dL_law_502 : decode cL_law 502 = .ok (.iadd, 1) := by decide +kernel
theorem dL_law_503 : decode cL_law 503 = .ok (.iaload, 1) := by decide +kernel
theorem dL_law_504 : decode cL_law 504 = .ok (.aload_n 3, 1) := by decide +kernel
theorem dL_law_505 : decode cL_law 505 = .ok (.invokestatic 90, 3) := by decide +kernel
theorem dL_law_508 : decode cL_law 508 = .ok (.istore 5, 2) := by decide +kernel
theorem dL_law_510 : decode cL_law 510 = .ok (.aload_n 2, 1) := by decide +kernel
theorem dL_law_511 : decode cL_law 511 = .ok (.aload_n 0, 1) := by decide +kernel
theorem dL_law_512 : decode cL_law 512 = .ok (.iload 4, 2) := by decide +kernel
theorem dL_law_514 : decode cL_law 514 = .ok (.iconst 1, 1) := by decide +kernel
theorem dL_law_515 : decode cL_law 515 = .ok (.iadd, 1) := by decide +kernel
theorem dL_law_516 : decode cL_law 516 = .ok (.iaload, 1) := by decide +kernel
theorem dL_law_517 : decode cL_law 517 = .ok (.invokevirtual 92, 3) := by decide +kernel
theorem dL_law_520 : decode cL_law 520 = .ok (.istore 6, 2) := by decide +kernel
theorem dL_law_522 : decode cL_law 522 = .ok (.aload_n 2, 1) := by decide +kernel
theorem dL_law_523 : decode cL_law 523 = .ok (.invokevirtual 67, 3) := by decide +kernel
theorem dL_law_526 : decode cL_law 526 = .ok (.iload 5, 2) := by decide +kernel
theorem dL_law_528 : decode cL_law 528 = .ok (.if_icmp .eq 5, 3) := by decide +kernel
theorem dL_law_531 : decode cL_law 531 = .ok (.iconst 0, 1) := by decide +kernel
theorem dL_law_532 : decode cL_law 532 = .ok (.ireturn, 1) := by decide +kernel
theorem dL_law_533 : decode cL_law 533 = .ok (.iload 5, 2) := by decide +kernel
theorem dL_law_535 : decode cL_law 535 = .ok (.ifCond .ne 15, 3) := by decide +kernel
theorem dL_law_538 : decode cL_law 538 = .ok (.aload_n 3, 1) := by decide +kernel
theorem dL_law_539 : decode cL_law 539 = .ok (.iconst 0, 1) := by decide +kernel
theorem dL_law_540 : decode cL_law 540 = .ok (.laload, 1) := by decide +kernel
theorem dL_law_541 : decode cL_law 541 = .ok (.iload 6, 2) := by decide +kernel
theorem dL_law_543 : decode cL_law 543 = .ok (.i2l, 1) := by decide +kernel
theorem dL_law_544 : decode cL_law 544 = .ok (.lcmp, 1) := by decide +kernel
theorem dL_law_545 : decode cL_law 545 = .ok (.ifCond .eq 5, 3) := by decide +kernel
theorem dL_law_548 : decode cL_law 548 = .ok (.iconst 0, 1) := by decide +kernel
theorem dL_law_549 : decode cL_law 549 = .ok (.ireturn, 1) := by decide +kernel
theorem dL_law_550 : decode cL_law 550 = .ok (.goto 415, 3) := by decide +kernel
theorem dL_law_553 : decode cL_law 553 = .ok (.aload_n 1, 1) := by decide +kernel
theorem dL_law_554 : decode cL_law 554 = .ok (.aload_n 0, 1) := by decide +kernel
theorem dL_law_555 : decode cL_law 555 = .ok (.iload 4, 2) := by decide +kernel
theorem dL_law_557 : decode cL_law 557 = .ok (.iconst 1, 1) := by decide +kernel
theorem dL_law_558 : decode cL_law 558 = .ok (.iadd, 1) := by decide +kernel
theorem dL_law_559 : decode cL_law 559 = .ok (.iaload, 1) := by decide +kernel
theorem dL_law_560 : decode cL_law 560 = .ok (.aload_n 3, 1) := by decide +kernel
theorem dL_law_561 : decode cL_law 561 = .ok (.invokestatic 93, 3) := by decide +kernel
theorem dL_law_564 : decode cL_law 564 = .ok (.istore 5, 2) := by decide +kernel
theorem dL_law_566 : decode cL_law 566 = .ok (.aload_n 2, 1) := by decide +kernel
theorem dL_law_567 : decode cL_law 567 = .ok (.aload_n 0, 1) := by decide +kernel
theorem dL_law_568 : decode cL_law 568 = .ok (.iload 4, 2) := by decide +kernel
theorem dL_law_570 : decode cL_law 570 = .ok (.iconst 1, 1) := by decide +kernel
theorem dL_law_571 : decode cL_law 571 = .ok (.iadd, 1) := by decide +kernel
theorem dL_law_572 : decode cL_law 572 = .ok (.iaload, 1) := by decide +kernel
theorem dL_law_573 : decode cL_law 573 = .ok (.invokevirtual 95, 3) := by decide +kernel
theorem dL_law_576 : decode cL_law 576 = .ok (.istore 6, 2) := by decide +kernel
theorem dL_law_578 : decode cL_law 578 = .ok (.aload_n 2, 1) := by decide +kernel
theorem dL_law_579 : decode cL_law 579 = .ok (.invokevirtual 67, 3) := by decide +kernel
theorem dL_law_582 : decode cL_law 582 = .ok (.iload 5, 2) := by decide +kernel
theorem dL_law_584 : decode cL_law 584 = .ok (.if_icmp .eq 5, 3) := by decide +kernel
theorem dL_law_587 : decode cL_law 587 = .ok (.iconst 0, 1) := by decide +kernel
theorem dL_law_588 : decode cL_law 588 = .ok (.ireturn, 1) := by decide +kernel
theorem dL_law_589 : decode cL_law 589 = .ok (.iload 5, 2) := by decide +kernel
theorem dL_law_591 : decode cL_law 591 = .ok (.ifCond .ne 15, 3) := by decide +kernel
theorem dL_law_594 : decode cL_law 594 = .ok (.aload_n 3, 1) := by decide +kernel
theorem dL_law_595 : decode cL_law 595 = .ok (.iconst 0, 1) := by decide +kernel
theorem dL_law_596 : decode cL_law 596 = .ok (.laload, 1) := by decide +kernel
theorem dL_law_597 : decode cL_law 597 = .ok (.iload 6, 2) := by decide +kernel
theorem dL_law_599 : decode cL_law 599 = .ok (.i2l, 1) := by decide +kernel
theorem dL_law_600 : decode cL_law 600 = .ok (.lcmp, 1) := by decide +kernel
theorem dL_law_601 : decode cL_law 601 = .ok (.ifCond .eq 5, 3) := by decide +kernel
theorem dL_law_604 : decode cL_law 604 = .ok (.iconst 0, 1) := by decide +kernel
theorem dL_law_605 : decode cL_law 605 = .ok (.ireturn, 1) := by decide +kernel
theorem dL_law_606 : decode cL_law 606 = .ok (.goto 359, 3) := by decide +kernel
theorem dL_law_609 : decode cL_law 609 = .ok (.aload_n 1, 1) := by decide +kernel
theorem dL_law_610 : decode cL_law 610 = .ok (.aload_n 0, 1) := by decide +kernel
theorem dL_law_611 : decode cL_law 611 = .ok (.iload 4, 2) := by decide +kernel
theorem dL_law_613 : decode cL_law 613 = .ok (.iconst 1, 1) := by decide +kernel
theorem dL_law_614 : decode cL_law 614 = .ok (.iadd, 1) := by decide +kernel
theorem dL_law_615 : decode cL_law 615 = .ok (.iaload, 1) := by decide +kernel
theorem dL_law_616 : decode cL_law 616 = .ok (.aload_n 3, 1) := by decide +kernel
theorem dL_law_617 : decode cL_law 617 = .ok (.invokestatic 96, 3) := by decide +kernel
theorem dL_law_620 : decode cL_law 620 = .ok (.istore 5, 2) := by decide +kernel
theorem dL_law_622 : decode cL_law 622 = .ok (.aload_n 2, 1) := by decide +kernel
theorem dL_law_623 : decode cL_law 623 = .ok (.aload_n 0, 1) := by decide +kernel
theorem dL_law_624 : decode cL_law 624 = .ok (.iload 4, 2) := by decide +kernel
theorem dL_law_626 : decode cL_law 626 = .ok (.iconst 1, 1) := by decide +kernel
theorem dL_law_627 : decode cL_law 627 = .ok (.iadd, 1) := by decide +kernel
theorem dL_law_628 : decode cL_law 628 = .ok (.iaload, 1) := by decide +kernel
theorem dL_law_629 : decode cL_law 629 = .ok (.invokevirtual 98, 3) := by decide +kernel
theorem dL_law_632 : decode cL_law 632 = .ok (.istore 6, 2) := by decide +kernel
theorem dL_law_634 : decode cL_law 634 = .ok (.aload_n 2, 1) := by decide +kernel
theorem dL_law_635 : decode cL_law 635 = .ok (.invokevirtual 67, 3) := by decide +kernel
theorem dL_law_638 : decode cL_law 638 = .ok (.iload 5, 2) := by decide +kernel
theorem dL_law_640 : decode cL_law 640 = .ok (.if_icmp .eq 5, 3) := by decide +kernel
theorem dL_law_643 : decode cL_law 643 = .ok (.iconst 0, 1) := by decide +kernel
theorem dL_law_644 : decode cL_law 644 = .ok (.ireturn, 1) := by decide +kernel
theorem dL_law_645 : decode cL_law 645 = .ok (.iload 5, 2) := by decide +kernel
theorem dL_law_647 : decode cL_law 647 = .ok (.ifCond .ne 15, 3) := by decide +kernel
theorem dL_law_650 : decode cL_law 650 = .ok (.aload_n 3, 1) := by decide +kernel
theorem dL_law_651 : decode cL_law 651 = .ok (.iconst 0, 1) := by decide +kernel
theorem dL_law_652 : decode cL_law 652 = .ok (.laload, 1) := by decide +kernel
theorem dL_law_653 : decode cL_law 653 = .ok (.iload 6, 2) := by decide +kernel
theorem dL_law_655 : decode cL_law 655 = .ok (.i2l, 1) := by decide +kernel
theorem dL_law_656 : decode cL_law 656 = .ok (.lcmp, 1) := by decide +kernel
theorem dL_law_657 : decode cL_law 657 = .ok (.ifCond .eq 5, 3) := by decide +kernel
theorem dL_law_660 : decode cL_law 660 = .ok (.iconst 0, 1) := by decide +kernel
theorem dL_law_661 : decode cL_law 661 = .ok (.ireturn, 1) := by decide +kernel
theorem dL_law_662 : decode cL_law 662 = .ok (.goto 303, 3) := by decide +kernel
theorem dL_law_665 : decode cL_law 665 = .ok (.aload_n 1, 1) := by decide +kernel
theorem dL_law_666 : decode cL_law 666 = .ok (.aload_n 0, 1) := by decide +kernel
theorem dL_law_667 : decode cL_law 667 = .ok (.iload 4, 2) := by decide +kernel
theorem dL_law_669 : decode cL_law 669 = .ok (.iconst 1, 1) := by decide +kernel
theorem dL_law_670 : decode cL_law 670 = .ok (.iadd, 1) := by decide +kernel
theorem dL_law_671 : decode cL_law 671 = .ok (.iaload, 1) := by decide +kernel
theorem dL_law_672 : decode cL_law 672 = .ok (.aload_n 0, 1) := by decide +kernel
theorem dL_law_673 : decode cL_law 673 = .ok (.iload 4, 2) := by decide +kernel
theorem dL_law_675 : decode cL_law 675 = .ok (.iconst 2, 1) := by decide +kernel
theorem dL_law_676 : decode cL_law 676 = .ok (.iadd, 1) := by decide +kernel
theorem dL_law_677 : decode cL_law 677 = .ok (.iaload, 1) := by decide +kernel
theorem dL_law_678 : decode cL_law 678 = .ok (.aload_n 3, 1) := by decide +kernel
theorem dL_law_679 : decode cL_law 679 = .ok (.invokestatic 99, 3) := by decide +kernel
theorem dL_law_682 : decode cL_law 682 = .ok (.istore 5, 2) := by decide +kernel
theorem dL_law_684 : decode cL_law 684 = .ok (.aload_n 2, 1) := by decide +kernel
theorem dL_law_685 : decode cL_law 685 = .ok (.aload_n 0, 1) := by decide +kernel
theorem dL_law_686 : decode cL_law 686 = .ok (.iload 4, 2) := by decide +kernel
theorem dL_law_688 : decode cL_law 688 = .ok (.iconst 1, 1) := by decide +kernel
theorem dL_law_689 : decode cL_law 689 = .ok (.iadd, 1) := by decide +kernel
theorem dL_law_690 : decode cL_law 690 = .ok (.iaload, 1) := by decide +kernel
theorem dL_law_691 : decode cL_law 691 = .ok (.aload_n 0, 1) := by decide +kernel
theorem dL_law_692 : decode cL_law 692 = .ok (.iload 4, 2) := by decide +kernel
theorem dL_law_694 : decode cL_law 694 = .ok (.iconst 2, 1) := by decide +kernel
theorem dL_law_695 : decode cL_law 695 = .ok (.iadd, 1) := by decide +kernel
theorem dL_law_696 : decode cL_law 696 = .ok (.iaload, 1) := by decide +kernel
theorem dL_law_697 : decode cL_law 697 = .ok (.invokevirtual 101, 3) := by decide +kernel
theorem dL_law_700 : decode cL_law 700 = .ok (.istore 6, 2) := by decide +kernel
theorem dL_law_702 : decode cL_law 702 = .ok (.aload_n 2, 1) := by decide +kernel
theorem dL_law_703 : decode cL_law 703 = .ok (.invokevirtual 67, 3) := by decide +kernel
theorem dL_law_706 : decode cL_law 706 = .ok (.iload 5, 2) := by decide +kernel
theorem dL_law_708 : decode cL_law 708 = .ok (.if_icmp .eq 5, 3) := by decide +kernel
theorem dL_law_711 : decode cL_law 711 = .ok (.iconst 0, 1) := by decide +kernel
theorem dL_law_712 : decode cL_law 712 = .ok (.ireturn, 1) := by decide +kernel
theorem dL_law_713 : decode cL_law 713 = .ok (.iload 5, 2) := by decide +kernel
theorem dL_law_715 : decode cL_law 715 = .ok (.ifCond .ne 15, 3) := by decide +kernel
theorem dL_law_718 : decode cL_law 718 = .ok (.aload_n 3, 1) := by decide +kernel
theorem dL_law_719 : decode cL_law 719 = .ok (.iconst 0, 1) := by decide +kernel
theorem dL_law_720 : decode cL_law 720 = .ok (.laload, 1) := by decide +kernel
theorem dL_law_721 : decode cL_law 721 = .ok (.iload 6, 2) := by decide +kernel
theorem dL_law_723 : decode cL_law 723 = .ok (.i2l, 1) := by decide +kernel
theorem dL_law_724 : decode cL_law 724 = .ok (.lcmp, 1) := by decide +kernel
theorem dL_law_725 : decode cL_law 725 = .ok (.ifCond .eq 5, 3) := by decide +kernel
theorem dL_law_728 : decode cL_law 728 = .ok (.iconst 0, 1) := by decide +kernel
theorem dL_law_729 : decode cL_law 729 = .ok (.ireturn, 1) := by decide +kernel
theorem dL_law_730 : decode cL_law 730 = .ok (.goto 235, 3) := by decide +kernel
theorem dL_law_733 : decode cL_law 733 = .ok (.aload_n 1, 1) := by decide +kernel
theorem dL_law_734 : decode cL_law 734 = .ok (.aload_n 0, 1) := by decide +kernel
theorem dL_law_735 : decode cL_law 735 = .ok (.iload 4, 2) := by decide +kernel
theorem dL_law_737 : decode cL_law 737 = .ok (.iconst 1, 1) := by decide +kernel
theorem dL_law_738 : decode cL_law 738 = .ok (.iadd, 1) := by decide +kernel
theorem dL_law_739 : decode cL_law 739 = .ok (.iaload, 1) := by decide +kernel
theorem dL_law_740 : decode cL_law 740 = .ok (.aload_n 0, 1) := by decide +kernel
theorem dL_law_741 : decode cL_law 741 = .ok (.iload 4, 2) := by decide +kernel
theorem dL_law_743 : decode cL_law 743 = .ok (.iconst 2, 1) := by decide +kernel
theorem dL_law_744 : decode cL_law 744 = .ok (.iadd, 1) := by decide +kernel
theorem dL_law_745 : decode cL_law 745 = .ok (.iaload, 1) := by decide +kernel
theorem dL_law_746 : decode cL_law 746 = .ok (.aload_n 3, 1) := by decide +kernel
theorem dL_law_747 : decode cL_law 747 = .ok (.invokestatic 102, 3) := by decide +kernel
theorem dL_law_750 : decode cL_law 750 = .ok (.istore 5, 2) := by decide +kernel
theorem dL_law_752 : decode cL_law 752 = .ok (.aload_n 2, 1) := by decide +kernel
theorem dL_law_753 : decode cL_law 753 = .ok (.aload_n 0, 1) := by decide +kernel
theorem dL_law_754 : decode cL_law 754 = .ok (.iload 4, 2) := by decide +kernel
theorem dL_law_756 : decode cL_law 756 = .ok (.iconst 1, 1) := by decide +kernel
theorem dL_law_757 : decode cL_law 757 = .ok (.iadd, 1) := by decide +kernel
theorem dL_law_758 : decode cL_law 758 = .ok (.iaload, 1) := by decide +kernel
theorem dL_law_759 : decode cL_law 759 = .ok (.aload_n 0, 1) := by decide +kernel
theorem dL_law_760 : decode cL_law 760 = .ok (.iload 4, 2) := by decide +kernel
theorem dL_law_762 : decode cL_law 762 = .ok (.iconst 2, 1) := by decide +kernel
theorem dL_law_763 : decode cL_law 763 = .ok (.iadd, 1) := by decide +kernel
theorem dL_law_764 : decode cL_law 764 = .ok (.iaload, 1) := by decide +kernel
theorem dL_law_765 : decode cL_law 765 = .ok (.invokevirtual 104, 3) := by decide +kernel
theorem dL_law_768 : decode cL_law 768 = .ok (.istore 6, 2) := by decide +kernel
theorem dL_law_770 : decode cL_law 770 = .ok (.aload_n 2, 1) := by decide +kernel
theorem dL_law_771 : decode cL_law 771 = .ok (.invokevirtual 67, 3) := by decide +kernel
theorem dL_law_774 : decode cL_law 774 = .ok (.iload 5, 2) := by decide +kernel
theorem dL_law_776 : decode cL_law 776 = .ok (.if_icmp .eq 5, 3) := by decide +kernel
theorem dL_law_779 : decode cL_law 779 = .ok (.iconst 0, 1) := by decide +kernel
theorem dL_law_780 : decode cL_law 780 = .ok (.ireturn, 1) := by decide +kernel
theorem dL_law_781 : decode cL_law 781 = .ok (.iload 5, 2) := by decide +kernel
theorem dL_law_783 : decode cL_law 783 = .ok (.ifCond .ne 15, 3) := by decide +kernel
theorem dL_law_786 : decode cL_law 786 = .ok (.aload_n 3, 1) := by decide +kernel
theorem dL_law_787 : decode cL_law 787 = .ok (.iconst 0, 1) := by decide +kernel
theorem dL_law_788 : decode cL_law 788 = .ok (.laload, 1) := by decide +kernel
theorem dL_law_789 : decode cL_law 789 = .ok (.iload 6, 2) := by decide +kernel
theorem dL_law_791 : decode cL_law 791 = .ok (.i2l, 1) := by decide +kernel
theorem dL_law_792 : decode cL_law 792 = .ok (.lcmp, 1) := by decide +kernel
theorem dL_law_793 : decode cL_law 793 = .ok (.ifCond .eq 5, 3) := by decide +kernel
theorem dL_law_796 : decode cL_law 796 = .ok (.iconst 0, 1) := by decide +kernel
theorem dL_law_797 : decode cL_law 797 = .ok (.ireturn, 1) := by decide +kernel
theorem dL_law_798 : decode cL_law 798 = .ok (.goto 167, 3) := by decide +kernel
theorem dL_law_801 : decode cL_law 801 = .ok (.aload_n 1, 1) := by decide +kernel
theorem dL_law_802 : decode cL_law 802 = .ok (.invokevirtual 105, 3) := by decide +kernel
theorem dL_law_805 : decode cL_law 805 = .ok (.aload_n 2, 1) := by decide +kernel
theorem dL_law_806 : decode cL_law 806 = .ok (.invokevirtual 108, 3) := by decide +kernel
theorem dL_law_809 : decode cL_law 809 = .ok (.if_icmp .eq 156, 3) := by decide +kernel
theorem dL_law_812 : decode cL_law 812 = .ok (.iconst 0, 1) := by decide +kernel
theorem dL_law_813 : decode cL_law 813 = .ok (.ireturn, 1) := by decide +kernel
theorem dL_law_814 : decode cL_law 814 = .ok (.aload_n 1, 1) := by decide +kernel
theorem dL_law_815 : decode cL_law 815 = .ok (.invokevirtual 109, 3) := by decide +kernel
theorem dL_law_818 : decode cL_law 818 = .ok (.aload_n 2, 1) := by decide +kernel
theorem dL_law_819 : decode cL_law 819 = .ok (.invokevirtual 112, 3) := by decide +kernel
theorem dL_law_822 : decode cL_law 822 = .ok (.if_icmp .eq 143, 3) := by decide +kernel
theorem dL_law_825 : decode cL_law 825 = .ok (.iconst 0, 1) := by decide +kernel
theorem dL_law_826 : decode cL_law 826 = .ok (.ireturn, 1) := by decide +kernel
theorem dL_law_827 : decode cL_law 827 = .ok (.aload_n 1, 1) := by decide +kernel
theorem dL_law_828 : decode cL_law 828 = .ok (.invokevirtual 113, 3) := by decide +kernel
theorem dL_law_831 : decode cL_law 831 = .ok (.aload_n 2, 1) := by decide +kernel
theorem dL_law_832 : decode cL_law 832 = .ok (.invokevirtual 116, 3) := by decide +kernel
theorem dL_law_835 : decode cL_law 835 = .ok (.if_icmp .eq 130, 3) := by decide +kernel
theorem dL_law_838 : decode cL_law 838 = .ok (.iconst 0, 1) := by decide +kernel
theorem dL_law_839 : decode cL_law 839 = .ok (.ireturn, 1) := by decide +kernel
theorem dL_law_840 : decode cL_law 840 = .ok (.aload_n 1, 1) := by decide +kernel
theorem dL_law_841 : decode cL_law 841 = .ok (.aload_n 0, 1) := by decide +kernel
theorem dL_law_842 : decode cL_law 842 = .ok (.iload 4, 2) := by decide +kernel
theorem dL_law_844 : decode cL_law 844 = .ok (.iconst 1, 1) := by decide +kernel
theorem dL_law_845 : decode cL_law 845 = .ok (.iadd, 1) := by decide +kernel
theorem dL_law_846 : decode cL_law 846 = .ok (.iaload, 1) := by decide +kernel
theorem dL_law_847 : decode cL_law 847 = .ok (.aload_n 3, 1) := by decide +kernel
theorem dL_law_848 : decode cL_law 848 = .ok (.invokestatic 117, 3) := by decide +kernel
theorem dL_law_851 : decode cL_law 851 = .ok (.istore 5, 2) := by decide +kernel
theorem dL_law_853 : decode cL_law 853 = .ok (.aload_n 2, 1) := by decide +kernel
theorem dL_law_854 : decode cL_law 854 = .ok (.aload_n 0, 1) := by decide +kernel
theorem dL_law_855 : decode cL_law 855 = .ok (.iload 4, 2) := by decide +kernel
theorem dL_law_857 : decode cL_law 857 = .ok (.iconst 1, 1) := by decide +kernel
theorem dL_law_858 : decode cL_law 858 = .ok (.iadd, 1) := by decide +kernel
theorem dL_law_859 : decode cL_law 859 = .ok (.iaload, 1) := by decide +kernel
theorem dL_law_860 : decode cL_law 860 = .ok (.invokevirtual 119, 3) := by decide +kernel
theorem dL_law_863 : decode cL_law 863 = .ok (.istore 6, 2) := by decide +kernel
theorem dL_law_865 : decode cL_law 865 = .ok (.aload_n 2, 1) := by decide +kernel
theorem dL_law_866 : decode cL_law 866 = .ok (.invokevirtual 67, 3) := by decide +kernel
theorem dL_law_869 : decode cL_law 869 = .ok (.iload 5, 2) := by decide +kernel
theorem dL_law_871 : decode cL_law 871 = .ok (.if_icmp .eq 5, 3) := by decide +kernel
theorem dL_law_874 : decode cL_law 874 = .ok (.iconst 0, 1) := by decide +kernel
theorem dL_law_875 : decode cL_law 875 = .ok (.ireturn, 1) := by decide +kernel
theorem dL_law_876 : decode cL_law 876 = .ok (.iload 5, 2) := by decide +kernel
theorem dL_law_878 : decode cL_law 878 = .ok (.ifCond .ne 15, 3) := by decide +kernel
theorem dL_law_881 : decode cL_law 881 = .ok (.aload_n 3, 1) := by decide +kernel
theorem dL_law_882 : decode cL_law 882 = .ok (.iconst 0, 1) := by decide +kernel
theorem dL_law_883 : decode cL_law 883 = .ok (.laload, 1) := by decide +kernel
theorem dL_law_884 : decode cL_law 884 = .ok (.iload 6, 2) := by decide +kernel
theorem dL_law_886 : decode cL_law 886 = .ok (.i2l, 1) := by decide +kernel
theorem dL_law_887 : decode cL_law 887 = .ok (.lcmp, 1) := by decide +kernel
theorem dL_law_888 : decode cL_law 888 = .ok (.ifCond .eq 5, 3) := by decide +kernel
theorem dL_law_891 : decode cL_law 891 = .ok (.iconst 0, 1) := by decide +kernel
theorem dL_law_892 : decode cL_law 892 = .ok (.ireturn, 1) := by decide +kernel
theorem dL_law_893 : decode cL_law 893 = .ok (.goto 72, 3) := by decide +kernel
theorem dL_law_896 : decode cL_law 896 = .ok (.aload_n 1, 1) := by decide +kernel
theorem dL_law_897 : decode cL_law 897 = .ok (.aload_n 0, 1) := by decide +kernel
theorem dL_law_898 : decode cL_law 898 = .ok (.iload 4, 2) := by decide +kernel
theorem dL_law_900 : decode cL_law 900 = .ok (.iconst 1, 1) := by decide +kernel
theorem dL_law_901 : decode cL_law 901 = .ok (.iadd, 1) := by decide +kernel
theorem dL_law_902 : decode cL_law 902 = .ok (.iaload, 1) := by decide +kernel
theorem dL_law_903 : decode cL_law 903 = .ok (.aload_n 3, 1) := by decide +kernel
theorem dL_law_904 : decode cL_law 904 = .ok (.invokestatic 120, 3) := by decide +kernel
theorem dL_law_907 : decode cL_law 907 = .ok (.istore 5, 2) := by decide +kernel
theorem dL_law_909 : decode cL_law 909 = .ok (.aload_n 2, 1) := by decide +kernel
theorem dL_law_910 : decode cL_law 910 = .ok (.aload_n 0, 1) := by decide +kernel
theorem dL_law_911 : decode cL_law 911 = .ok (.iload 4, 2) := by decide +kernel
theorem dL_law_913 : decode cL_law 913 = .ok (.iconst 1, 1) := by decide +kernel
theorem dL_law_914 : decode cL_law 914 = .ok (.iadd, 1) := by decide +kernel
theorem dL_law_915 : decode cL_law 915 = .ok (.iaload, 1) := by decide +kernel
theorem dL_law_916 : decode cL_law 916 = .ok (.invokevirtual 122, 3) := by decide +kernel
theorem dL_law_919 : decode cL_law 919 = .ok (.istore 6, 2) := by decide +kernel
theorem dL_law_921 : decode cL_law 921 = .ok (.aload_n 2, 1) := by decide +kernel
theorem dL_law_922 : decode cL_law 922 = .ok (.invokevirtual 67, 3) := by decide +kernel
theorem dL_law_925 : decode cL_law 925 = .ok (.iload 5, 2) := by decide +kernel
theorem dL_law_927 : decode cL_law 927 = .ok (.if_icmp .eq 5, 3) := by decide +kernel
theorem dL_law_930 : decode cL_law 930 = .ok (.iconst 0, 1) := by decide +kernel
theorem dL_law_931 : decode cL_law 931 = .ok (.ireturn, 1) := by decide +kernel
theorem dL_law_932 : decode cL_law 932 = .ok (.iload 5, 2) := by decide +kernel
theorem dL_law_934 : decode cL_law 934 = .ok (.ifCond .ne 15, 3) := by decide +kernel
theorem dL_law_937 : decode cL_law 937 = .ok (.aload_n 3, 1) := by decide +kernel
theorem dL_law_938 : decode cL_law 938 = .ok (.iconst 0, 1) := by decide +kernel
theorem dL_law_939 : decode cL_law 939 = .ok (.laload, 1) := by decide +kernel
theorem dL_law_940 : decode cL_law 940 = .ok (.iload 6, 2) := by decide +kernel
theorem dL_law_942 : decode cL_law 942 = .ok (.i2l, 1) := by decide +kernel
theorem dL_law_943 : decode cL_law 943 = .ok (.lcmp, 1) := by decide +kernel
theorem dL_law_944 : decode cL_law 944 = .ok (.ifCond .eq 5, 3) := by decide +kernel
theorem dL_law_947 : decode cL_law 947 = .ok (.iconst 0, 1) := by decide +kernel
theorem dL_law_948 : decode cL_law 948 = .ok (.ireturn, 1) := by decide +kernel
theorem dL_law_949 : decode cL_law 949 = .ok (.goto 16, 3) := by decide +kernel
theorem dL_law_952 : decode cL_law 952 = .ok (.aload_n 1, 1) := by decide +kernel
theorem dL_law_953 : decode cL_law 953 = .ok (.invokevirtual 123, 3) := by decide +kernel
theorem dL_law_956 : decode cL_law 956 = .ok (.aload_n 2, 1) := by decide +kernel
theorem dL_law_957 : decode cL_law 957 = .ok (.invokevirtual 126, 3) := by decide +kernel
theorem dL_law_960 : decode cL_law 960 = .ok (.if_icmp .eq 5, 3) := by decide +kernel
theorem dL_law_963 : decode cL_law 963 = .ok (.iconst 0, 1) := by decide +kernel
theorem dL_law_964 : decode cL_law 964 = .ok (.ireturn, 1) := by decide +kernel
theorem dL_law_965 : decode cL_law 965 = .ok (.iinc 4 5, 3) := by decide +kernel
theorem dL_law_968 : decode cL_law 968 = .ok (.goto (-945), 3) := by decide +kernel
theorem dL_law_971 : decode cL_law 971 = .ok (.iconst 1, 1) := by decide +kernel
theorem dL_law_972 : decode cL_law 972 = .ok (.ireturn, 1) := by decide +kernel
end
section
-- spec lemmas: one step of a computation that may have no value
theorem sp_t {α : Type} {c : Prop} {i : Decidable c} {X Y : Option α} {o : α} (hc : c) (h : (@ite _ c i X Y) = some o) : X = some o := by rwa [if_pos hc] at h
theorem sp_f {α : Type} {c : Prop} {i : Decidable c} {X Y : Option α} {o : α} (hc : ¬ c) (h : (@ite _ c i X Y) = some o) : Y = some o := by rwa [if_neg hc] at h
theorem sp_g {α : Type} {i : Int32} {n : Nat} {X : Option α} {o : α} (h : (if i < 0 ∨ n ≤ i.toNatClampNeg then none else X) = some o) : vp_in i n ∧ X = some o := by
  by_cases hc : i < 0 ∨ n ≤ i.toNatClampNeg
  · rw [if_pos hc] at h; cases h
  · rw [if_neg hc] at h; exact ⟨hc, h⟩
theorem sp_b {α β : Type} {T : Option α} {k : α → Option β} {o : β} (h : T.bind k = some o) : ∃ v, T = some v ∧ k v = some o := by
  cases T with
  | none => cases h
  | some v => exact ⟨v, rfl, h⟩
theorem sp_s {α : Type} {a b : α} (h : some a = some b) : b = a := (Option.some.inj h).symm
theorem sp_c {α : Type} {c : Prop} {i : Decidable c} {X : Option α} {o : α} (h : (@ite _ c i X none) = some o) : c ∧ X = some o := by
  by_cases hc : c
  · rw [if_pos hc] at h; exact ⟨hc, h⟩
  · rw [if_neg hc] at h; cases h
theorem xk_nar {v : Int32} (h : v &&& 1 = v) : narrow .boolean (.int v) = .int v := by
  show Value.int (v &&& 1) = .int v
  rw [h]
theorem xk_in0_1 : vp_in (0 : Int32) 1 := by unfold vp_in; decide
def xk_us (x y : Int32) : Int32 := (x.toUInt32 >>> (y.toUInt32 &&& Int32.toUInt32 31)).toInt32
theorem sp_n {α : Type} {b : α} {P : Prop} (h : (none : Option α) = some b) : P := by cases h
-- the groups of cells
abbrev xG : Type := va_G × ClassId × ClassId × ClassId
abbrev xT (G : xG) : List (ClassId × FieldType) := [(G.2.1, .int), (G.2.2.1, .boolean), (G.2.2.2, .long)]
abbrev xF : Type := Nat → Int32
abbrev xSY : Type := Int32 × xF × xF × xF × xF × xF × xF × xF × xF
abbrev xPL : Type := xF × xF × xF × xF × xF × xF × Int32 × Int32 × Int32
abbrev xMO : Type := Int32 × xF × xF × xF × xF × xF × xF × xF × xF × xF × xF × xF × xF × xF × xF × xF × Int32 × Int32
abbrev wSY (G : xG) (a : Nat → Nat) (y : xSY) : va_W := [(a 0, .inr (1, [.int y.1, .ref (a 1), .ref (a 2), .ref (a 3), .ref (a 4), .ref (a 5), .ref (a 6), .ref (a 7), .ref (a 8)])), (a 1, .inl (G.2.1, 12, .inl y.2.1)), (a 2, .inl (G.2.1, 12, .inl y.2.2.1)), (a 3, .inl (G.2.1, 12, .inl y.2.2.2.1)), (a 4, .inl (G.2.1, 12, .inl y.2.2.2.2.1)), (a 5, .inl (G.2.1, 12, .inl y.2.2.2.2.2.1)), (a 6, .inl (G.2.1, 12, .inl y.2.2.2.2.2.2.1)), (a 7, .inl (G.2.1, 12, .inl y.2.2.2.2.2.2.2.1)), (a 8, .inl (G.2.1, 12, .inl y.2.2.2.2.2.2.2.2))]
abbrev wPL (G : xG) (a : Nat → Nat) (p : xPL) : va_W := [(a 0, .inr (0, [.ref (a 1), .ref (a 2), .ref (a 3), .ref (a 4), .ref (a 5), .ref (a 6), .int p.2.2.2.2.2.2.1, .int p.2.2.2.2.2.2.2.1, .int p.2.2.2.2.2.2.2.2])), (a 1, .inl (G.2.1, 100, .inl p.1)), (a 2, .inl (G.2.1, 60, .inl p.2.1)), (a 3, .inl (G.2.1, 36, .inl p.2.2.1)), (a 4, .inl (G.2.1, 12, .inl p.2.2.2.1)), (a 5, .inl (G.2.1, 12, .inl p.2.2.2.2.1)), (a 6, .inl (G.2.1, 12, .inl p.2.2.2.2.2.1))]
abbrev wLO (G : xG) (a : Nat) (f : xF) : va_W := [(a, .inl (G.2.2.1, 100, .inl f))]
abbrev wAR (G : xG) (a : Nat) (n : Nat) (f : xF) : va_W := [(a, .inl (G.2.1, n, .inl f))]
abbrev wOU (G : xG) (a : Nat) (f : Nat → Int64) : va_W := [(a, .inl (G.2.2.2, 1, .inr (.inl f)))]
abbrev wXO (a b c d e : Nat) : va_W := [(a, .inr (2, [.ref b, .ref c, .ref d, .ref e]))]
abbrev wMO (G : xG) (a : Nat → Nat) (z : xMO) : va_W := [(a 0, .inr (3, [.int z.1, .ref (a 1), .ref (a 2), .ref (a 3), .ref (a 4), .ref (a 5), .ref (a 6), .ref (a 7), .ref (a 8), .ref (a 9), .ref (a 10), .ref (a 11), .ref (a 12), .ref (a 13), .ref (a 14), .ref (a 15), .int z.2.2.2.2.2.2.2.2.2.2.2.2.2.2.2.2.1, .int z.2.2.2.2.2.2.2.2.2.2.2.2.2.2.2.2.2])), (a 1, .inl (G.2.1, 12, .inl z.2.1)), (a 2, .inl (G.2.1, 12, .inl z.2.2.1)), (a 3, .inl (G.2.1, 12, .inl z.2.2.2.1)), (a 4, .inl (G.2.1, 12, .inl z.2.2.2.2.1)), (a 5, .inl (G.2.1, 12, .inl z.2.2.2.2.2.1)), (a 6, .inl (G.2.1, 12, .inl z.2.2.2.2.2.2.1)), (a 7, .inl (G.2.1, 12, .inl z.2.2.2.2.2.2.2.1)), (a 8, .inl (G.2.2.1, 100, .inl z.2.2.2.2.2.2.2.2.1)), (a 9, .inl (G.2.1, 12, .inl z.2.2.2.2.2.2.2.2.2.1)), (a 10, .inl (G.2.1, 100, .inl z.2.2.2.2.2.2.2.2.2.2.1)), (a 11, .inl (G.2.1, 60, .inl z.2.2.2.2.2.2.2.2.2.2.2.1)), (a 12, .inl (G.2.1, 36, .inl z.2.2.2.2.2.2.2.2.2.2.2.2.1)), (a 13, .inl (G.2.1, 12, .inl z.2.2.2.2.2.2.2.2.2.2.2.2.2.1)), (a 14, .inl (G.2.1, 12, .inl z.2.2.2.2.2.2.2.2.2.2.2.2.2.2.1)), (a 15, .inl (G.2.1, 96, .inl z.2.2.2.2.2.2.2.2.2.2.2.2.2.2.2.1))]
def xk_NE (U : State) : Prop := va_Nw (.fieldLinkNest RX2 47 "LessonWeave$Syllabus" "count" "I" "LessonWeave") U ∧ va_Nw (.fieldLinkNest RX0 73 "LessonWeave$Syllabus" "count" "I" "LessonWeave") U ∧ va_Nw (.fieldLinkNest RX0 84 "LessonWeave$Syllabus" "lessons" "[I" "LessonWeave") U ∧ va_Nw (.fieldLinkNest RX2 133 "LessonWeave$Syllabus" "lessons" "[I" "LessonWeave") U ∧ va_Nw (.fieldLinkNest RX0 99 "LessonWeave$Syllabus" "kit" "[I" "LessonWeave") U ∧ va_Nw (.fieldLinkNest RX2 108 "LessonWeave$Syllabus" "many" "[I" "LessonWeave") U ∧ va_Nw (.fieldLinkNest RX0 87 "LessonWeave$Syllabus" "many" "[I" "LessonWeave") U ∧ va_Nw (.fieldLinkNest RX2 111 "LessonWeave$Syllabus" "gap" "[I" "LessonWeave") U ∧ va_Nw (.fieldLinkNest RX0 93 "LessonWeave$Syllabus" "gap" "[I" "LessonWeave") U ∧ va_Nw (.fieldLinkNest RX2 74 "LessonWeave$Syllabus" "needs" "[I" "LessonWeave") U ∧ va_Nw (.fieldLinkNest RX2 116 "LessonWeave$Syllabus" "order" "[I" "LessonWeave") U ∧ va_Nw (.fieldLinkNest RX0 96 "LessonWeave$Syllabus" "order" "[I" "LessonWeave") U ∧ va_Nw (.fieldLinkNest RX2 130 "LessonWeave$Plan" "things" "[I" "LessonWeave") U ∧ va_Nw (.fieldLinkNest RX2 138 "LessonWeave$Plan" "lessonDays" "[I" "LessonWeave") U ∧ va_Nw (.fieldLinkNest RX2 143 "LessonWeave$Plan" "revisitDays" "[I" "LessonWeave") U ∧ va_Nw (.fieldLinkNest RX2 146 "LessonWeave$Plan" "laidCount" "I" "LessonWeave") U ∧ va_Nw (.fieldLinkNest RX2 149 "LessonWeave$Plan" "lateCount" "I" "LessonWeave") U ∧ va_Nw (.fieldLinkNest RX2 152 "LessonWeave$Plan" "lastUsed" "I" "LessonWeave") U ∧ va_Nw (.methodLinkNest RX1 47 yX2_has "LessonWeave") U
theorem xk_NE.warm {s U : State} (hW : s.WarmedH U.vm) (h : xk_NE s) : xk_NE U := ⟨va_Nw.warmF hW h.1, va_Nw.warmF hW h.2.1, va_Nw.warmF hW h.2.2.1, va_Nw.warmF hW h.2.2.2.1, va_Nw.warmF hW h.2.2.2.2.1, va_Nw.warmF hW h.2.2.2.2.2.1, va_Nw.warmF hW h.2.2.2.2.2.2.1, va_Nw.warmF hW h.2.2.2.2.2.2.2.1, va_Nw.warmF hW h.2.2.2.2.2.2.2.2.1, va_Nw.warmF hW h.2.2.2.2.2.2.2.2.2.1, va_Nw.warmF hW h.2.2.2.2.2.2.2.2.2.2.1, va_Nw.warmF hW h.2.2.2.2.2.2.2.2.2.2.2.1, va_Nw.warmF hW h.2.2.2.2.2.2.2.2.2.2.2.2.1, va_Nw.warmF hW h.2.2.2.2.2.2.2.2.2.2.2.2.2.1, va_Nw.warmF hW h.2.2.2.2.2.2.2.2.2.2.2.2.2.2.1, va_Nw.warmF hW h.2.2.2.2.2.2.2.2.2.2.2.2.2.2.2.1, va_Nw.warmF hW h.2.2.2.2.2.2.2.2.2.2.2.2.2.2.2.2.1, va_Nw.warmF hW h.2.2.2.2.2.2.2.2.2.2.2.2.2.2.2.2.2.1, va_Nw.warmM hW h.2.2.2.2.2.2.2.2.2.2.2.2.2.2.2.2.2.2⟩
theorem xk_NE.same {s U : State} (e : s.vm = U.vm) (h : xk_NE s) : xk_NE U := ⟨va_Nw.same rfl e (h.1), va_Nw.same rfl e (h.2.1), va_Nw.same rfl e (h.2.2.1), va_Nw.same rfl e (h.2.2.2.1), va_Nw.same rfl e (h.2.2.2.2.1), va_Nw.same rfl e (h.2.2.2.2.2.1), va_Nw.same rfl e (h.2.2.2.2.2.2.1), va_Nw.same rfl e (h.2.2.2.2.2.2.2.1), va_Nw.same rfl e (h.2.2.2.2.2.2.2.2.1), va_Nw.same rfl e (h.2.2.2.2.2.2.2.2.2.1), va_Nw.same rfl e (h.2.2.2.2.2.2.2.2.2.2.1), va_Nw.same rfl e (h.2.2.2.2.2.2.2.2.2.2.2.1), va_Nw.same rfl e (h.2.2.2.2.2.2.2.2.2.2.2.2.1), va_Nw.same rfl e (h.2.2.2.2.2.2.2.2.2.2.2.2.2.1), va_Nw.same rfl e (h.2.2.2.2.2.2.2.2.2.2.2.2.2.2.1), va_Nw.same rfl e (h.2.2.2.2.2.2.2.2.2.2.2.2.2.2.2.1), va_Nw.same rfl e (h.2.2.2.2.2.2.2.2.2.2.2.2.2.2.2.2.1), va_Nw.same rfl e (h.2.2.2.2.2.2.2.2.2.2.2.2.2.2.2.2.2.1), va_Nw.same rfl e (h.2.2.2.2.2.2.2.2.2.2.2.2.2.2.2.2.2.2)⟩
-- a contract: from any heap that holds wc; r comes back, the heap holds w1
def xk_CI (l : Launch) (y : MethodName) (ws : List Cond) (rm : Room) (mc ms : Nat) (As : List Value) (G : xG) (wc w1 : va_W) (r : Int32) : Prop :=
  ∀ sz : Nat, Met l y ws rm (va_Pc As (fun U => U.heap.size = sz ∧ va_P G.1 vwCl wc U.heap ∧ va_K G.1 vwCl (xT G) U ∧ va_D (fun _ => True) wc ∧ xk_NE U)) (va_Qi (fun (r' : Int32) (_ : Unit) => r' = r) (fun _ t => va_P G.1 vwCl w1 t.heap ∧ va_D (va_A wc sz) w1) (va_A wc sz)) mc ms (va_A wc sz)
def xk_CV (l : Launch) (y : MethodName) (ws : List Cond) (rm : Room) (mc ms : Nat) (As : List Value) (G : xG) (wc w1 : va_W) : Prop :=
  ∀ sz : Nat, Met l y ws rm (va_Pc As (fun U => U.heap.size = sz ∧ va_P G.1 vwCl wc U.heap ∧ va_K G.1 vwCl (xT G) U ∧ va_D (fun _ => True) wc ∧ xk_NE U)) (va_Qv (fun (_ : Unit) => True) (fun _ t => va_P G.1 vwCl w1 t.heap ∧ va_D (va_A wc sz) w1) (va_A wc sz)) mc ms (va_A wc sz)
theorem xk_CI.of {l : Launch} {y : MethodName} {ws ws' : List Cond} {rm : Room} {mc ms : Nat} {As : List Value} {G : xG} {wc w1 : va_W} {r : Int32} {cc : ByteArray} {maxL : Nat} {ret : Option FieldType} (hy : plainName y.cls = true) (hw : ws = Cond.code y cc maxL ret :: ws') (hlen : (lg_sl As).length ≤ maxL)
    (body : ∀ (p : Program) (e : Env) (s : State) (m : MethodId) (below : List Frame) (meth : Method) (c : Code) (A : Nat → Prop) (ls : Array Slot) (H : Heap) (locs : List Loc), p.tables.exec = Jvm.exec → c.code = cc → meth.sig.returnType = ret → c.maxLocals = maxL → (∀ w ∈ ws, w.before As.toArray s = true) → s.vm.findClass y.cls = some m.cls → meth.locks = false → (∀ q, s.heap.size ≤ q → A q) → va_P G.1 vwCl wc H → va_K G.1 vwCl (xT G) s → va_D A wc → xk_NE s → va_S A s.heap H locs → lv_has ls maxL (lv_args 0 As) →
      W p l e rm s m As.toArray below meth c H locs 0 0 (MQ below (va_Qi (fun (r' : Int32) (_ : Unit) => r' = r) (fun _ t => va_P G.1 vwCl w1 t.heap ∧ va_D A w1) A) As.toArray s mc ms A) (F0 m 0 ls [])) : xk_CI l y ws rm mc ms As G wc w1 r := by
  intro sz
  refine Met.ofW (cc := cc) (maxL := maxL) (ret := ret) hy hw ?_
  intro p e s m args below meth c s₁ B hml hv
  obtain ⟨rfl, rfl, hP, hK, hD0, hNE⟩ := hv
  rw [lg_entry_eq]
  exact body p e s m below meth c (va_A wc s.heap.size) _ _ _ B.exec B.bytes B.returns hml (atoms_spec (ws := ws) B.pre) (findClass_of_methodNamed B.named) B.notSynchronized (fun q h => Or.inr h) hP hK hD0.self hNE va_S.rf (lv_entry As hlen)
theorem xk_CV.of {l : Launch} {y : MethodName} {ws ws' : List Cond} {rm : Room} {mc ms : Nat} {As : List Value} {G : xG} {wc w1 : va_W} {cc : ByteArray} {maxL : Nat} {ret : Option FieldType} (hy : plainName y.cls = true) (hw : ws = Cond.code y cc maxL ret :: ws') (hlen : (lg_sl As).length ≤ maxL)
    (body : ∀ (p : Program) (e : Env) (s : State) (m : MethodId) (below : List Frame) (meth : Method) (c : Code) (A : Nat → Prop) (ls : Array Slot) (H : Heap) (locs : List Loc), p.tables.exec = Jvm.exec → c.code = cc → meth.sig.returnType = ret → c.maxLocals = maxL → (∀ w ∈ ws, w.before As.toArray s = true) → s.vm.findClass y.cls = some m.cls → meth.locks = false → (∀ q, s.heap.size ≤ q → A q) → va_P G.1 vwCl wc H → va_K G.1 vwCl (xT G) s → va_D A wc → xk_NE s → va_S A s.heap H locs → lv_has ls maxL (lv_args 0 As) →
      W p l e rm s m As.toArray below meth c H locs 0 0 (MQ below (va_Qv (fun (_ : Unit) => True) (fun _ t => va_P G.1 vwCl w1 t.heap ∧ va_D A w1) A) As.toArray s mc ms A) (F0 m 0 ls [])) : xk_CV l y ws rm mc ms As G wc w1 := by
  intro sz
  refine Met.ofW (cc := cc) (maxL := maxL) (ret := ret) hy hw ?_
  intro p e s m args below meth c s₁ B hml hv
  obtain ⟨rfl, rfl, hP, hK, hD0, hNE⟩ := hv
  rw [lg_entry_eq]
  exact body p e s m below meth c (va_A wc s.heap.size) _ _ _ B.exec B.bytes B.returns hml (atoms_spec (ws := ws) B.pre) (findClass_of_methodNamed B.named) B.notSynchronized (fun q h => Or.inr h) hP hK hD0.self hNE va_S.rf (lv_entry As hlen)
section XK
variable {p : Program} {l : Launch} {e : Env} {R : Room} {s : State} {m : MethodId} {args : Array Value} {below : List Frame} {meth : Method} {c : Code} {H H0 : Heap} {locs : List Loc} {cells slots mc ms : Nat} {Q : State → Prop} {cc : ByteArray} {pc : Nat} {ls : Array Slot} {A : Nat → Prop} {G : xG} {w1 wc w0 wr w2 : va_W} {r v : Int32} {rest st : List Value} {a : Array Value}
theorem xk_reI (hx : p.tables.exec = Jvm.exec) (hb : c.code = cc) (hr : meth.sig.returnType = some .int) (hlk : meth.locks = false) (hP : va_P G.1 vwCl w1 H) (hD : va_D A w1) (hS : va_S A s.heap H locs) (hv : v = r) (hdg : decode cc pc = .ok (.ireturn, 1)) :
    W p l e R s m args below meth c H locs cells slots (MQ below (va_Qi (fun (r' : Int32) (_ : Unit) => r' = r) (fun _ t => va_P G.1 vwCl w1 t.heap ∧ va_D A w1) A) args s cells slots A) (F0 m pc ls [.int v]) :=
  W.iret hx hb hr (fun t ht _ => ⟨⟨v, (), rfl, hv, by rw [ht]; exact hP, hD⟩, hS.F ht⟩) hS.2.2 hdg hlk
theorem xk_reZ (hx : p.tables.exec = Jvm.exec) (hb : c.code = cc) (hr : meth.sig.returnType = some .boolean) (hlk : meth.locks = false) (hn : narrow .boolean (.int v) = .int v) (hP : va_P G.1 vwCl w1 H) (hD : va_D A w1) (hS : va_S A s.heap H locs) (hv : v = r) (hdg : decode cc pc = .ok (.ireturn, 1)) :
    W p l e R s m args below meth c H locs cells slots (MQ below (va_Qi (fun (r' : Int32) (_ : Unit) => r' = r) (fun _ t => va_P G.1 vwCl w1 t.heap ∧ va_D A w1) A) args s cells slots A) (F0 m pc ls [.int v]) :=
  W.zret hx hb hr hn (fun t ht _ => ⟨⟨v, (), rfl, hv, by rw [ht]; exact hP, hD⟩, hS.F ht⟩) hS.2.2 hdg hlk
theorem xk_reV (hx : p.tables.exec = Jvm.exec) (hb : c.code = cc) (hr : meth.sig.returnType = none) (hlk : meth.locks = false) (hP : va_P G.1 vwCl w1 H) (hD : va_D A w1) (hS : va_S A s.heap H locs) (hdg : decode cc pc = .ok (.return_, 1)) :
    W p l e R s m args below meth c H locs cells slots (MQ below (va_Qv (fun (_ : Unit) => True) (fun _ t => va_P G.1 vwCl w1 t.heap ∧ va_D A w1) A) args s cells slots A) (F0 m pc ls []) :=
  W.vret hx hb hr (fun t ht _ => ⟨⟨(), rfl, trivial, by rw [ht]; exact hP, hD⟩, hS.F ht⟩) hS.2.2 hdg hlk
theorem xk_blind {As : List Value} {sz : Nat} : FrameBlind (va_Pc As (fun U => U.heap.size = sz ∧ va_P G.1 vwCl wc U.heap ∧ va_K G.1 vwCl (xT G) U ∧ va_D (fun _ => True) wc ∧ xk_NE U)) :=
  fun a U g mk q => by obtain ⟨q0, q1, qP, qK, qD, qN⟩ := q; exact ⟨q0, q1, qP, va_K.moved (u := U) (U := U.calling g mk a) (Vm.Alike.refl U.vm) qK, qD, xk_NE.same rfl qN⟩
theorem xk_preS {As : List Value} (hK : va_K G.1 vwCl (xT G) s) (hN : xk_NE s) (hP : va_P G.1 vwCl wc H) (hD : va_D A wc) : PreS s H (va_Pc As (fun U => U.heap.size = H.size ∧ va_P G.1 vwCl wc U.heap ∧ va_K G.1 vwCl (xT G) U ∧ va_D (fun _ => True) wc ∧ xk_NE U)) As :=
  ⟨xk_blind, fun U hU hW => ⟨rfl, by rw [hU], by rw [hU]; exact hP, va_K.moved hW.alike hK, hD.weaken (fun _ _ _ _ => trivial), xk_NE.warm hW hN⟩⟩
theorem xk_preV {b : Nat} {As : List Value} {ci : Nat} {q : vw_C} {fs : List Value} (hK : va_K G.1 vwCl (xT G) s) (hN : xk_NE s) (hP : va_P G.1 vwCl wc H) (hD : va_D A wc) (hc : vwCl[ci]? = some q) (he : wc[0]? = some (b, .inr (ci, fs))) : PreV s H q.1 b (va_Pc (.ref b :: As) (fun U => U.heap.size = H.size ∧ va_P G.1 vwCl wc U.heap ∧ va_K G.1 vwCl (xT G) U ∧ va_D (fun _ => True) wc ∧ xk_NE U)) As :=
  ⟨xk_blind, va_recv hK hP (ci := ci) (q0 := 0) hc he, (xk_preS (As := .ref b :: As) hK hN hP hD).2⟩
theorem xk_map_filter {α β : Type} {f : α → Option β} {l : List α} {w : List β} (h : l.map f = w.map some) : l.filterMap f = w := by
  induction l generalizing w with
  | nil => cases w with
    | nil => rfl
    | cons b w => cases h
  | cons a l ih => cases w with
    | nil => cases h
    | cons b w =>
      simp only [List.map_cons, List.cons.injEq] at h
      rw [List.filterMap_cons, h.1, ih h.2]
theorem xk_ci (hr : va_Run p l e R s m args below meth c H locs cells slots mc ms (F0 m pc ls st) rest (va_Qi (fun (r' : Int32) (_ : Unit) => r' = r) (fun _ t => va_P G.1 vwCl w1 t.heap ∧ va_D (va_A wc H.size) w1) (va_A wc H.size) a) (va_A wc H.size))
    (hP : va_P G.1 vwCl w0 H) (hD : va_D A w0) (hS : va_S A H0 H locs) (hA : ∀ q, H0.size ≤ q → A q) (isC isR isW : List Nat) (hC : isC.map (fun i => w0[i]?) = wc.map some) (hR : isR.map (fun i => w0[i]?) = (isR.filterMap (fun i => w0[i]?)).map some) (hnR : va_nd isR = true) (hdis : ∀ i ∈ isR, i ∉ isC) (hW2 : isW.map (fun i => (isR.filterMap (fun i => w0[i]?) ++ w1)[i]?) = (isW.filterMap (fun i => (isR.filterMap (fun i => w0[i]?) ++ w1)[i]?)).map some) (hnW : va_nd isW = true)
    (kk : ∀ (H1 : Heap) (locs1 : List Loc), va_P G.1 vwCl (isW.filterMap (fun i => (isR.filterMap (fun i => w0[i]?) ++ w1)[i]?)) H1 → va_D A (isW.filterMap (fun i => (isR.filterMap (fun i => w0[i]?) ++ w1)[i]?)) → va_S A H0 H1 locs1 → W p l e R s m args below meth c H1 locs1 (cells + mc) (slots + ms) Q (F0 m (pc + 3) ls (.int r :: rest))) : W p l e R s m args below meth c H locs cells slots Q (F0 m pc ls st) := by
  have hF := va_free (wc := wc) hD hS hA isC hC
  refine va_calli hr hS (fun q _ h => hF q h) hF (fun r' u t H1 locs1 ht hvm hw hB hz1 hk1 hS1 => ?_)
  obtain ⟨hP1, hD1⟩ := hB
  rw [ht] at hP1
  subst hw
  obtain ⟨hP2, hD2⟩ := va_join hP hD isC isR hC hR hnR hdis hk1 hF hP1 hD1
  exact kk H1 locs1 (hP2.sub isW (xk_map_filter hW2)) (hD2.sub isW hnW hW2) hS1
theorem xk_cv (hr : va_Run p l e R s m args below meth c H locs cells slots mc ms (F0 m pc ls st) rest (va_Qv (fun (_ : Unit) => True) (fun _ t => va_P G.1 vwCl w1 t.heap ∧ va_D (va_A wc H.size) w1) (va_A wc H.size) a) (va_A wc H.size))
    (hP : va_P G.1 vwCl w0 H) (hD : va_D A w0) (hS : va_S A H0 H locs) (hA : ∀ q, H0.size ≤ q → A q) (isC isR isW : List Nat) (hC : isC.map (fun i => w0[i]?) = wc.map some) (hR : isR.map (fun i => w0[i]?) = (isR.filterMap (fun i => w0[i]?)).map some) (hnR : va_nd isR = true) (hdis : ∀ i ∈ isR, i ∉ isC) (hW2 : isW.map (fun i => (isR.filterMap (fun i => w0[i]?) ++ w1)[i]?) = (isW.filterMap (fun i => (isR.filterMap (fun i => w0[i]?) ++ w1)[i]?)).map some) (hnW : va_nd isW = true)
    (kk : ∀ (H1 : Heap) (locs1 : List Loc), va_P G.1 vwCl (isW.filterMap (fun i => (isR.filterMap (fun i => w0[i]?) ++ w1)[i]?)) H1 → va_D A (isW.filterMap (fun i => (isR.filterMap (fun i => w0[i]?) ++ w1)[i]?)) → va_S A H0 H1 locs1 → W p l e R s m args below meth c H1 locs1 (cells + mc) (slots + ms) Q (F0 m (pc + 3) ls rest)) : W p l e R s m args below meth c H locs cells slots Q (F0 m pc ls st) := by
  have hF := va_free (wc := wc) hD hS hA isC hC
  refine va_callv hr hS (fun q _ h => hF q h) hF (fun u t H1 locs1 ht hvm hw hB hz1 hk1 hS1 => ?_)
  obtain ⟨hP1, hD1⟩ := hB
  rw [ht] at hP1
  obtain ⟨hP2, hD2⟩ := va_join hP hD isC isR hC hR hnR hdis hk1 hF hP1 hD1
  exact kk H1 locs1 (hP2.sub isW (xk_map_filter hW2)) (hD2.sub isW hnW hW2) hS1
/-- a place where ways meet -/
theorem xk_jn {g0 : JFrame} {Hc : Heap} {lc : List Loc} (G : xG) (A : Nat → Prop) (H0 : Heap) (wj : va_W) (nL : Nat) (lv : List (Nat × Value)) (pc : Nat) (st : List Value)
    (k : ∀ (H : Heap) (locs : List Loc), va_P G.1 vwCl wj H → va_D A wj → va_S A H0 H locs → ∀ ls, lv_has ls nL lv → W p l e R s m args below meth c H locs cells slots Q (F0 m pc ls st))
    (g : (∀ (H : Heap) (locs : List Loc), va_P G.1 vwCl wj H → va_D A wj → va_S A H0 H locs → ∀ ls, lv_has ls nL lv → W p l e R s m args below meth c H locs cells slots Q (F0 m pc ls st)) → W p l e R s m args below meth c Hc lc cells slots Q g0) : W p l e R s m args below meth c Hc lc cells slots Q g0 := g k
/-- a loop: n is what is left of its measure -/
theorem xk_lp {α : Type} {g0 : JFrame} {Hc : Heap} {lc : List Loc} (G : xG) (A : Nat → Prop) (H0 : Heap) (wl : α → va_W) (nL : Nat) (lv : α → List (Nat × Value)) (pc : Nat) (hyp : Nat → α → Prop)
    (z : ∀ a, hyp 0 a → False)
    (k : ∀ (n : Nat), (∀ (a : α), hyp n a → ∀ (H : Heap) (locs : List Loc), va_P G.1 vwCl (wl a) H → va_D A (wl a) → va_S A H0 H locs → ∀ ls, lv_has ls nL (lv a) → W p l e R s m args below meth c H locs cells slots Q (F0 m pc ls [])) →
      ∀ (a : α), hyp (n + 1) a → ∀ (H : Heap) (locs : List Loc), va_P G.1 vwCl (wl a) H → va_D A (wl a) → va_S A H0 H locs → ∀ ls, lv_has ls nL (lv a) → W p l e R s m args below meth c H locs cells slots Q (F0 m pc ls []))
    (g : (∀ (n : Nat) (a : α), hyp n a → ∀ (H : Heap) (locs : List Loc), va_P G.1 vwCl (wl a) H → va_D A (wl a) → va_S A H0 H locs → ∀ ls, lv_has ls nL (lv a) → W p l e R s m args below meth c H locs cells slots Q (F0 m pc ls [])) → W p l e R s m args below meth c Hc lc cells slots Q g0) : W p l e R s m args below meth c Hc lc cells slots Q g0 := by
  refine g (fun n => ?_)
  induction n with
  | zero => exact fun a h => absurd h (z a)
  | succ n ih => exact k n ih
end XK
end
section
def f_J7_fill_53178_l5 (na : Nat) (i1 : Int32) : Nat → Int32 → xF → Option (xF)
  | 0, _, _ => none
  | k9 + 1, x2_1, af0_1 =>
    if (nI na) ≤ x2_1 then
      some af0_1
    else
      if x2_1 < 0 ∨ na ≤ x2_1.toNatClampNeg then none else
      f_J7_fill_53178_l5 na i1 k9 (x2_1 + (1 : Int32)) (upd af0_1 x2_1.toNatClampNeg i1)
theorem f_J7_fill_53178_l5_z (na : Nat) (i1 : Int32) (x2_1 : Int32) (af0_1 : xF) : f_J7_fill_53178_l5 na i1 0 x2_1 af0_1 = none := rfl
theorem f_J7_fill_53178_l5_s (na : Nat) (i1 : Int32) (k9 : Nat) (x2_1 : Int32) (af0_1 : xF) : f_J7_fill_53178_l5 na i1 (k9 + 1) x2_1 af0_1 =
    if (nI na) ≤ x2_1 then
      some af0_1
    else
      if x2_1 < 0 ∨ na ≤ x2_1.toNatClampNeg then none else
      f_J7_fill_53178_l5 na i1 k9 (x2_1 + (1 : Int32)) (upd af0_1 x2_1.toNatClampNeg i1) := rfl
def f_J7_fill_53178 (na : Nat) (af : xF) (i1 : Int32) : Option (xF) :=
  Option.bind (f_J7_fill_53178_l5 na i1 300 (0 : Int32) af) fun (w2 : xF) =>
  some w2
theorem f_J7_fill_53178_e (na : Nat) (af : xF) (i1 : Int32) : f_J7_fill_53178 na af i1 =
  Option.bind (f_J7_fill_53178_l5 na i1 300 (0 : Int32) af) fun (w2 : xF) =>
  some w2 := rfl
set_option maxHeartbeats 4000000 in
set_option maxRecDepth 100000 in
theorem c_J7_fill_53178 (l : Launch) (G : xG) (aa : Nat) (na : Nat) (af : xF) (i1 : Int32) (o : xF) (h : f_J7_fill_53178 na af i1 = some o) : xk_CV l yJ7_fill_53178 wsJ7_fill_53178 ({ frames := 0, cells := 0, slots := 0, locals := 0 } : Room) 0 0 [.ref aa, .int i1] G (wAR G aa na af) (wAR G aa na o) := by
  refine xk_CV.of (cc := cJ7_fill_53178) (maxL := 4) (ret := none) (by decide) rfl (Nat.le_of_ble_eq_true rfl) ?_
  intro pr9 en9 s mm9 bl9 meth9 cd9 A ls H locs hx hb hr hml hts hown hlk hA hP hK hD hNE hS hl
  have hown : s.vm.findClass RJ7 = some mm9.cls := hown
  have hl : lv_has ls 4 [(0, .ref aa), (1, .int i1)] := hl
  have h := (f_J7_fill_53178_e na af i1).symm.trans h
  refine lv_iconst (v := (0 : Int32)) hx hb dJ7_fill_53178_0 (by decide) ?_
  refine lv_istore_n (lv' := [(2, .int (0 : Int32)), (0, .ref aa), (1, .int i1)]) hx hb dJ7_fill_53178_1 rfl hl (by decide) rfl (fun ls hl => ?_)
  refine lv_aload_n hx hb dJ7_fill_53178_2 rfl (lv_at hl 1 rfl) ?_
  refine va_alen (v := (nI na)) hx hb hK hP 0 0 rfl rfl rfl dJ7_fill_53178_3 ?_
  refine lv_istore_n (lv' := [(3, .int (nI na)), (2, .int (0 : Int32)), (0, .ref aa), (1, .int i1)]) hx hb dJ7_fill_53178_4 rfl hl (by decide) rfl (fun ls hl => ?_)
  obtain ⟨w2, hw2, h⟩ := sp_b h
  refine xk_jn G A s.heap (wAR G aa na w2) 4 [] 20 [] (fun H locs hP hD hS ls hl => ?_) (fun J1 => ?_)
  · obtain rfl := sp_s h
    exact xk_reV hx hb hr hlk hP hD hS dJ7_fill_53178_20
  · have h := hw2
    clear hw2
    refine xk_lp (α := Int32 × xF) G A s.heap (fun a_1 => (wAR G aa na a_1.2)) 4 (fun a_1 => [(3, .int (nI na)), (2, .int a_1.1), (0, .ref aa), (1, .int i1)]) 5 (fun n a_1 => f_J7_fill_53178_l5 na i1 n a_1.1 a_1.2 = some w2) (fun a_1 h => ?_) (fun n ih_1 a_1 h H locs hP hD hS ls hl => ?_) (fun LL => ?_)
    · exact sp_n ((f_J7_fill_53178_l5_z _ _ _ _).symm.trans h)
    · obtain ⟨x2_1, af0_1⟩ := a_1
      have h := (f_J7_fill_53178_l5_s na i1 n x2_1 af0_1).symm.trans h
      have hP : va_P G.1 vwCl (wAR G aa na af0_1) H := hP
      have hD : va_D A (wAR G aa na af0_1) := hD
      have hl : lv_has ls 4 [(3, .int (nI na)), (2, .int x2_1), (0, .ref aa), (1, .int i1)] := hl
      refine lv_iload_n hx hb dJ7_fill_53178_5 rfl (lv_at hl 1 rfl) ?_
      refine lv_iload_n hx hb dJ7_fill_53178_6 rfl (lv_at hl 0 rfl) ?_
      refine lv_icmp_ge (tgt := 20) hx hb dJ7_fill_53178_7 (by decide) (fun c3 => ?_) (fun c3 => ?_)
      · have h := sp_t c3 h
        obtain rfl := sp_s h
        exact J1 _ _ hP hD hS _ (lv_sub hl [] rfl)
      · have h := sp_f c3 h
        refine lv_aload_n hx hb dJ7_fill_53178_10 rfl (lv_at hl 2 rfl) ?_
        refine lv_iload_n hx hb dJ7_fill_53178_11 rfl (lv_at hl 1 rfl) ?_
        refine lv_iload_n hx hb dJ7_fill_53178_12 rfl (lv_at hl 3 rfl) ?_
        obtain ⟨hin4, h⟩ := sp_g h
        refine va_iast hx hb hK hP hD hS 0 0 rfl rfl hin4 dJ7_fill_53178_13 (fun H locs hP hD hS => ?_)
        have hP : va_P G.1 vwCl (wAR G aa na (upd af0_1 x2_1.toNatClampNeg i1)) H := hP
        have hD : va_D A (wAR G aa na (upd af0_1 x2_1.toNatClampNeg i1)) := hD
        refine lv_iinc (v := (x2_1 + (1 : Int32))) (lv' := [(2, .int (x2_1 + (1 : Int32))), (3, .int (nI na)), (0, .ref aa), (1, .int i1)]) hx hb dJ7_fill_53178_14 hl (k := 1) rfl rfl (by decide) rfl (fun ls hl => ?_)
        refine lv_goto (tgt := 5) hx hb dJ7_fill_53178_17 (by decide) ?_
        exact ih_1 ((x2_1 + (1 : Int32)), (upd af0_1 x2_1.toNatClampNeg i1)) h _ _ hP hD hS _ (lv_sub hl [1, 0, 2, 3] rfl)
    · exact LL 300 ((0 : Int32), af) h _ _ hP hD hS _ (lv_sub hl [0, 1, 2, 3] rfl)
def f_J6_bitCount_0f7a4 (i0 : Int32) : Option (Int32) :=
  Option.bind (some (((i0 - ((xk_us i0 (1 : Int32)) &&& (1431655765 : Int32))) &&& (858993459 : Int32)) + ((xk_us (i0 - ((xk_us i0 (1 : Int32)) &&& (1431655765 : Int32))) (2 : Int32)) &&& (858993459 : Int32)))) fun (t1 : Int32) =>
  Option.bind (some ((((t1 + (xk_us t1 (4 : Int32))) &&& (252645135 : Int32)) + (xk_us ((t1 + (xk_us t1 (4 : Int32))) &&& (252645135 : Int32)) (8 : Int32))) + (xk_us (((t1 + (xk_us t1 (4 : Int32))) &&& (252645135 : Int32)) + (xk_us ((t1 + (xk_us t1 (4 : Int32))) &&& (252645135 : Int32)) (8 : Int32))) (16 : Int32)))) fun (t3 : Int32) =>
  some (t3 &&& (63 : Int32))
theorem f_J6_bitCount_0f7a4_e (i0 : Int32) : f_J6_bitCount_0f7a4 i0 =
  Option.bind (some (((i0 - ((xk_us i0 (1 : Int32)) &&& (1431655765 : Int32))) &&& (858993459 : Int32)) + ((xk_us (i0 - ((xk_us i0 (1 : Int32)) &&& (1431655765 : Int32))) (2 : Int32)) &&& (858993459 : Int32)))) fun (t1 : Int32) =>
  Option.bind (some ((((t1 + (xk_us t1 (4 : Int32))) &&& (252645135 : Int32)) + (xk_us ((t1 + (xk_us t1 (4 : Int32))) &&& (252645135 : Int32)) (8 : Int32))) + (xk_us (((t1 + (xk_us t1 (4 : Int32))) &&& (252645135 : Int32)) + (xk_us ((t1 + (xk_us t1 (4 : Int32))) &&& (252645135 : Int32)) (8 : Int32))) (16 : Int32)))) fun (t3 : Int32) =>
  some (t3 &&& (63 : Int32)) := rfl
set_option maxHeartbeats 4000000 in
set_option maxRecDepth 100000 in
theorem c_J6_bitCount_0f7a4 (l : Launch) (G : xG)  (i0 : Int32) (o : Int32) (h : f_J6_bitCount_0f7a4 i0 = some o) : xk_CI l yJ6_bitCount_0f7a4 wsJ6_bitCount_0f7a4 ({ frames := 0, cells := 0, slots := 0, locals := 0 } : Room) 0 0 [.int i0] G [] [] o := by
  refine xk_CI.of (cc := cJ6_bitCount_0f7a4) (maxL := 1) (ret := (some .int)) (by decide) rfl (Nat.le_of_ble_eq_true rfl) ?_
  intro pr9 en9 s mm9 bl9 meth9 cd9 A ls H locs hx hb hr hml hts hown hlk hA hP hK hD hNE hS hl
  have hown : s.vm.findClass RJ6 = some mm9.cls := hown
  have hl : lv_has ls 1 [(0, .int i0)] := hl
  have h := (f_J6_bitCount_0f7a4_e i0).symm.trans h
  refine lv_iload_n hx hb dJ6_bitCount_0f7a4_0 rfl (lv_at hl 0 rfl) ?_
  refine lv_iload_n hx hb dJ6_bitCount_0f7a4_1 rfl (lv_at hl 0 rfl) ?_
  refine lv_iconst (v := (1 : Int32)) hx hb dJ6_bitCount_0f7a4_2 (by decide) ?_
  refine lv_iushr (v := (xk_us i0 (1 : Int32))) hx hb dJ6_bitCount_0f7a4_3 rfl ?_
  refine lv_ldcw (v := (1431655765 : Int32)) hx hb hown (hts (.constant RJ6 265 (1431655765)) (by decide +kernel)) dJ6_bitCount_0f7a4_4 ?_
  refine lv_iand hx hb dJ6_bitCount_0f7a4_7 ?_
  refine lv_isub hx hb dJ6_bitCount_0f7a4_8 ?_
  refine lv_istore_n (lv' := [(0, .int (i0 - ((xk_us i0 (1 : Int32)) &&& (1431655765 : Int32))))]) hx hb dJ6_bitCount_0f7a4_9 rfl hl (by decide) rfl (fun ls hl => ?_)
  refine lv_iload_n hx hb dJ6_bitCount_0f7a4_10 rfl (lv_at hl 0 rfl) ?_
  refine lv_ldcw (v := (858993459 : Int32)) hx hb hown (hts (.constant RJ6 266 (858993459)) (by decide +kernel)) dJ6_bitCount_0f7a4_11 ?_
  refine lv_iand hx hb dJ6_bitCount_0f7a4_14 ?_
  refine lv_iload_n hx hb dJ6_bitCount_0f7a4_15 rfl (lv_at hl 0 rfl) ?_
  refine lv_iconst (v := (2 : Int32)) hx hb dJ6_bitCount_0f7a4_16 (by decide) ?_
  refine lv_iushr (v := (xk_us (i0 - ((xk_us i0 (1 : Int32)) &&& (1431655765 : Int32))) (2 : Int32))) hx hb dJ6_bitCount_0f7a4_17 rfl ?_
  refine lv_ldcw (v := (858993459 : Int32)) hx hb hown (hts (.constant RJ6 266 (858993459)) (by decide +kernel)) dJ6_bitCount_0f7a4_18 ?_
  refine lv_iand hx hb dJ6_bitCount_0f7a4_21 ?_
  refine lv_iadd hx hb dJ6_bitCount_0f7a4_22 ?_
  obtain ⟨t1, ht1, h⟩ := sp_b h
  have ht1 := sp_s ht1
  refine lv_topi (fun y2 ey2 => ?_)
  obtain rfl : y2 = t1 := ey2.trans ht1.symm
  refine lv_istore_n (lv' := [(0, .int t1)]) hx hb dJ6_bitCount_0f7a4_23 rfl hl (by decide) rfl (fun ls hl => ?_)
  refine lv_iload_n hx hb dJ6_bitCount_0f7a4_24 rfl (lv_at hl 0 rfl) ?_
  refine lv_iload_n hx hb dJ6_bitCount_0f7a4_25 rfl (lv_at hl 0 rfl) ?_
  refine lv_iconst (v := (4 : Int32)) hx hb dJ6_bitCount_0f7a4_26 (by decide) ?_
  refine lv_iushr (v := (xk_us t1 (4 : Int32))) hx hb dJ6_bitCount_0f7a4_27 rfl ?_
  refine lv_iadd hx hb dJ6_bitCount_0f7a4_28 ?_
  refine lv_ldcw (v := (252645135 : Int32)) hx hb hown (hts (.constant RJ6 267 (252645135)) (by decide +kernel)) dJ6_bitCount_0f7a4_29 ?_
  refine lv_iand hx hb dJ6_bitCount_0f7a4_32 ?_
  refine lv_istore_n (lv' := [(0, .int ((t1 + (xk_us t1 (4 : Int32))) &&& (252645135 : Int32)))]) hx hb dJ6_bitCount_0f7a4_33 rfl hl (by decide) rfl (fun ls hl => ?_)
  refine lv_iload_n hx hb dJ6_bitCount_0f7a4_34 rfl (lv_at hl 0 rfl) ?_
  refine lv_iload_n hx hb dJ6_bitCount_0f7a4_35 rfl (lv_at hl 0 rfl) ?_
  refine lv_bipush (v := (8 : Int32)) hx hb dJ6_bitCount_0f7a4_36 (by decide) ?_
  refine lv_iushr (v := (xk_us ((t1 + (xk_us t1 (4 : Int32))) &&& (252645135 : Int32)) (8 : Int32))) hx hb dJ6_bitCount_0f7a4_38 rfl ?_
  refine lv_iadd hx hb dJ6_bitCount_0f7a4_39 ?_
  refine lv_istore_n (lv' := [(0, .int (((t1 + (xk_us t1 (4 : Int32))) &&& (252645135 : Int32)) + (xk_us ((t1 + (xk_us t1 (4 : Int32))) &&& (252645135 : Int32)) (8 : Int32))))]) hx hb dJ6_bitCount_0f7a4_40 rfl hl (by decide) rfl (fun ls hl => ?_)
  refine lv_iload_n hx hb dJ6_bitCount_0f7a4_41 rfl (lv_at hl 0 rfl) ?_
  refine lv_iload_n hx hb dJ6_bitCount_0f7a4_42 rfl (lv_at hl 0 rfl) ?_
  refine lv_bipush (v := (16 : Int32)) hx hb dJ6_bitCount_0f7a4_43 (by decide) ?_
  refine lv_iushr (v := (xk_us (((t1 + (xk_us t1 (4 : Int32))) &&& (252645135 : Int32)) + (xk_us ((t1 + (xk_us t1 (4 : Int32))) &&& (252645135 : Int32)) (8 : Int32))) (16 : Int32))) hx hb dJ6_bitCount_0f7a4_45 rfl ?_
  refine lv_iadd hx hb dJ6_bitCount_0f7a4_46 ?_
  obtain ⟨t3, ht3, h⟩ := sp_b h
  have ht3 := sp_s ht3
  refine lv_topi (fun y4 ey4 => ?_)
  obtain rfl : y4 = t3 := ey4.trans ht3.symm
  refine lv_istore_n (lv' := [(0, .int t3)]) hx hb dJ6_bitCount_0f7a4_47 rfl hl (by decide) rfl (fun ls hl => ?_)
  refine lv_iload_n hx hb dJ6_bitCount_0f7a4_48 rfl (lv_at hl 0 rfl) ?_
  refine lv_bipush (v := (63 : Int32)) hx hb dJ6_bitCount_0f7a4_49 (by decide) ?_
  refine lv_iand hx hb dJ6_bitCount_0f7a4_51 ?_
  obtain rfl := sp_s h
  exact xk_reI hx hb hr hlk hP hD hS rfl dJ6_bitCount_0f7a4_52
def f_X2_has (i0 : Int32) (i1 : Int32) : Option (Int32) :=
  if ((i0 >>> (i1 &&& 31)) &&& (1 : Int32)) = (1 : Int32) then
    some (1 : Int32)
  else
    some (0 : Int32)
theorem f_X2_has_e (i0 : Int32) (i1 : Int32) : f_X2_has i0 i1 =
  if ((i0 >>> (i1 &&& 31)) &&& (1 : Int32)) = (1 : Int32) then
    some (1 : Int32)
  else
    some (0 : Int32) := rfl
set_option maxHeartbeats 4000000 in
set_option maxRecDepth 100000 in
theorem c_X2_has (l : Launch) (G : xG)  (i0 : Int32) (i1 : Int32) (o : Int32) (h : f_X2_has i0 i1 = some o) : xk_CI l yX2_has wsX2_has ({ frames := 0, cells := 0, slots := 0, locals := 0 } : Room) 0 0 [.int i0, .int i1] G [] [] o := by
  refine xk_CI.of (cc := cX2_has) (maxL := 2) (ret := (some .boolean)) (by decide) rfl (Nat.le_of_ble_eq_true rfl) ?_
  intro pr9 en9 s mm9 bl9 meth9 cd9 A ls H locs hx hb hr hml hts hown hlk hA hP hK hD hNE hS hl
  have hown : s.vm.findClass RX2 = some mm9.cls := hown
  have hl : lv_has ls 2 [(0, .int i0), (1, .int i1)] := hl
  have h := (f_X2_has_e i0 i1).symm.trans h
  refine lv_iload_n hx hb dX2_has_0 rfl (lv_at hl 0 rfl) ?_
  refine lv_iload_n hx hb dX2_has_1 rfl (lv_at hl 1 rfl) ?_
  refine lv_ishr hx hb dX2_has_2 ?_
  refine lv_iconst (v := (1 : Int32)) hx hb dX2_has_3 (by decide) ?_
  refine lv_iand hx hb dX2_has_4 ?_
  refine lv_iconst (v := (1 : Int32)) hx hb dX2_has_5 (by decide) ?_
  refine lv_icmp_ne (tgt := 13) hx hb dX2_has_6 (by decide) (fun c1 => ?_) (fun c1 => ?_)
  · have h := sp_f c1 h
    refine lv_iconst (v := (0 : Int32)) hx hb dX2_has_13 (by decide) ?_
    obtain rfl := sp_s h
    exact xk_reZ hx hb hr hlk rfl hP hD hS rfl dX2_has_14
  · have h := sp_t c1 h
    refine lv_iconst (v := (1 : Int32)) hx hb dX2_has_9 (by decide) ?_
    refine lv_goto (tgt := 14) hx hb dX2_has_10 (by decide) ?_
    obtain rfl := sp_s h
    exact xk_reZ hx hb hr hlk rfl hP hD hS rfl dX2_has_14
def f_X1_isCovered (i0 : Int32) (i1 : Int32) : Option (Int32) :=
  if (i0 &&& (i1 ^^^ ((-1) : Int32))) = 0 then
    some (1 : Int32)
  else
    some (0 : Int32)
theorem f_X1_isCovered_e (i0 : Int32) (i1 : Int32) : f_X1_isCovered i0 i1 =
  if (i0 &&& (i1 ^^^ ((-1) : Int32))) = 0 then
    some (1 : Int32)
  else
    some (0 : Int32) := rfl
set_option maxHeartbeats 4000000 in
set_option maxRecDepth 100000 in
theorem c_X1_isCovered (l : Launch) (G : xG)  (i0 : Int32) (i1 : Int32) (o : Int32) (h : f_X1_isCovered i0 i1 = some o) : xk_CI l yX1_isCovered wsX1_isCovered ({ frames := 0, cells := 0, slots := 0, locals := 0 } : Room) 0 0 [.int i0, .int i1] G [] [] o := by
  refine xk_CI.of (cc := cX1_isCovered) (maxL := 2) (ret := (some .boolean)) (by decide) rfl (Nat.le_of_ble_eq_true rfl) ?_
  intro pr9 en9 s mm9 bl9 meth9 cd9 A ls H locs hx hb hr hml hts hown hlk hA hP hK hD hNE hS hl
  have hown : s.vm.findClass RX1 = some mm9.cls := hown
  have hl : lv_has ls 2 [(0, .int i0), (1, .int i1)] := hl
  have h := (f_X1_isCovered_e i0 i1).symm.trans h
  refine lv_iload_n hx hb dX1_isCovered_0 rfl (lv_at hl 0 rfl) ?_
  refine lv_iload_n hx hb dX1_isCovered_1 rfl (lv_at hl 1 rfl) ?_
  refine lv_iconst (v := ((-1) : Int32)) hx hb dX1_isCovered_2 (by decide) ?_
  refine lv_ixor hx hb dX1_isCovered_3 ?_
  refine lv_iand hx hb dX1_isCovered_4 ?_
  refine lv_if_ne (tgt := 12) hx hb dX1_isCovered_5 (by decide) (fun c1 => ?_) (fun c1 => ?_)
  · have h := sp_f c1 h
    refine lv_iconst (v := (0 : Int32)) hx hb dX1_isCovered_12 (by decide) ?_
    obtain rfl := sp_s h
    exact xk_reZ hx hb hr hlk rfl hP hD hS rfl dX1_isCovered_13
  · have h := sp_t c1 h
    refine lv_iconst (v := (1 : Int32)) hx hb dX1_isCovered_8 (by decide) ?_
    refine lv_goto (tgt := 13) hx hb dX1_isCovered_9 (by decide) ?_
    obtain rfl := sp_s h
    exact xk_reZ hx hb hr hlk rfl hP hD hS rfl dX1_isCovered_13
def f_X1_neededBy_l4 (yy : xSY) (i1 : Int32) : Nat → Int32 → Int32 → Option (Int32)
  | 0, _, _ => none
  | k9 + 1, x3_1, x2_1 =>
    if yy.1 ≤ x3_1 then
      some x2_1
    else
      Option.bind (f_X2_has i1 x3_1) fun (o4 : Int32) =>
      if o4 = 0 then
        f_X1_neededBy_l4 yy i1 k9 (x3_1 + (1 : Int32)) x2_1
      else
        if x3_1 < 0 ∨ 12 ≤ x3_1.toNatClampNeg then none else
        f_X1_neededBy_l4 yy i1 k9 (x3_1 + (1 : Int32)) (x2_1 ||| (yy.2.2.2.2.2.2.2.1 x3_1.toNatClampNeg))
theorem f_X1_neededBy_l4_z (yy : xSY) (i1 : Int32) (x3_1 : Int32) (x2_1 : Int32) : f_X1_neededBy_l4 yy i1 0 x3_1 x2_1 = none := rfl
theorem f_X1_neededBy_l4_s (yy : xSY) (i1 : Int32) (k9 : Nat) (x3_1 : Int32) (x2_1 : Int32) : f_X1_neededBy_l4 yy i1 (k9 + 1) x3_1 x2_1 =
    if yy.1 ≤ x3_1 then
      some x2_1
    else
      Option.bind (f_X2_has i1 x3_1) fun (o4 : Int32) =>
      if o4 = 0 then
        f_X1_neededBy_l4 yy i1 k9 (x3_1 + (1 : Int32)) x2_1
      else
        if x3_1 < 0 ∨ 12 ≤ x3_1.toNatClampNeg then none else
        f_X1_neededBy_l4 yy i1 k9 (x3_1 + (1 : Int32)) (x2_1 ||| (yy.2.2.2.2.2.2.2.1 x3_1.toNatClampNeg)) := rfl
def f_X1_neededBy (yy : xSY) (i1 : Int32) : Option (Int32) :=
  Option.bind (f_X1_neededBy_l4 yy i1 300 (0 : Int32) (0 : Int32)) fun (w2 : Int32) =>
  some w2
theorem f_X1_neededBy_e (yy : xSY) (i1 : Int32) : f_X1_neededBy yy i1 =
  Option.bind (f_X1_neededBy_l4 yy i1 300 (0 : Int32) (0 : Int32)) fun (w2 : Int32) =>
  some w2 := rfl
set_option maxHeartbeats 4000000 in
set_option maxRecDepth 100000 in
theorem c_X1_neededBy (l : Launch) (G : xG) (ya : (Nat → Nat)) (yy : xSY) (i1 : Int32) (o : Int32) (h : f_X1_neededBy yy i1 = some o) : xk_CI l yX1_neededBy wsX1_neededBy ({ frames := 1, cells := 0, slots := 0, locals := 21 } : Room) 0 0 [.ref (ya 0), .int i1] G (wSY G ya yy) (wSY G ya yy) o := by
  refine xk_CI.of (cc := cX1_neededBy) (maxL := 4) (ret := (some .int)) (by decide) rfl (Nat.le_of_ble_eq_true rfl) ?_
  intro pr9 en9 s mm9 bl9 meth9 cd9 A ls H locs hx hb hr hml hts hown hlk hA hP hK hD hNE hS hl
  have hown : s.vm.findClass RX1 = some mm9.cls := hown
  have hl : lv_has ls 4 [(0, .ref (ya 0)), (1, .int i1)] := hl
  have hinX1 : ∀ w ∈ u_ws RX1 TX1 9, w ∈ wsX1_neededBy := by decide +kernel
  have h := (f_X1_neededBy_e yy i1).symm.trans h
  refine lv_iconst (v := (0 : Int32)) hx hb dX1_neededBy_0 (by decide) ?_
  refine lv_istore_n (lv' := [(2, .int (0 : Int32)), (0, .ref (ya 0)), (1, .int i1)]) hx hb dX1_neededBy_1 rfl hl (by decide) rfl (fun ls hl => ?_)
  refine lv_iconst (v := (0 : Int32)) hx hb dX1_neededBy_2 (by decide) ?_
  refine lv_istore_n (lv' := [(3, .int (0 : Int32)), (2, .int (0 : Int32)), (0, .ref (ya 0)), (1, .int i1)]) hx hb dX1_neededBy_3 rfl hl (by decide) rfl (fun ls hl => ?_)
  obtain ⟨w2, hw2, h⟩ := sp_b h
  refine xk_jn G A s.heap (wSY G ya yy) 4 [(2, .int w2)] 35 [] (fun H locs hP hD hS ls hl => ?_) (fun J1 => ?_)
  · refine lv_iload_n hx hb dX1_neededBy_35 rfl (lv_at hl 0 rfl) ?_
    obtain rfl := sp_s h
    exact xk_reI hx hb hr hlk hP hD hS rfl dX1_neededBy_36
  · have h := hw2
    clear hw2
    refine xk_lp (α := Int32 × Int32) G A s.heap (fun a_1 => (wSY G ya yy)) 4 (fun a_1 => [(3, .int a_1.1), (2, .int a_1.2), (0, .ref (ya 0)), (1, .int i1)]) 4 (fun n a_1 => f_X1_neededBy_l4 yy i1 n a_1.1 a_1.2 = some w2) (fun a_1 h => ?_) (fun n ih_1 a_1 h H locs hP hD hS ls hl => ?_) (fun LL => ?_)
    · exact sp_n ((f_X1_neededBy_l4_z _ _ _ _).symm.trans h)
    · obtain ⟨x3_1, x2_1⟩ := a_1
      have h := (f_X1_neededBy_l4_s yy i1 n x3_1 x2_1).symm.trans h
      have hP : va_P G.1 vwCl (wSY G ya yy) H := hP
      have hD : va_D A (wSY G ya yy) := hD
      have hl : lv_has ls 4 [(3, .int x3_1), (2, .int x2_1), (0, .ref (ya 0)), (1, .int i1)] := hl
      refine lv_iload_n hx hb dX1_neededBy_4 rfl (lv_at hl 0 rfl) ?_
      refine lv_aload_n hx hb dX1_neededBy_5 rfl (lv_at hl 2 rfl) ?_
      refine va_get (D := G.1) (ci := 1) (v := .int yy.1) (C := RX1) (T := TX1) (N := 9) hx hb hts hinX1 hown hK hP 0 rfl rfl 0 (by decide) (hts (.fieldLink RX1 36 "LessonWeave$Syllabus" "count" "I") (by decide +kernel)) (fun _ h9 => h9) rfl dX1_neededBy_6 ?_
      refine lv_icmp_ge (tgt := 35) hx hb dX1_neededBy_9 (by decide) (fun c3 => ?_) (fun c3 => ?_)
      · have h := sp_t c3 h
        obtain rfl := sp_s h
        exact J1 _ _ hP hD hS _ (lv_sub hl [1] rfl)
      · have h := sp_f c3 h
        refine lv_iload_n hx hb dX1_neededBy_12 rfl (lv_at hl 3 rfl) ?_
        refine lv_iload_n hx hb dX1_neededBy_13 rfl (lv_at hl 0 rfl) ?_
        obtain ⟨o4, ho4, h⟩ := sp_b h
        refine xk_ci (va_runSN (As := [.int i1, .int x3_1]) (rest := []) ⟨hx, hb, hml, hown, hts⟩ (c_X2_has l G i1 x3_1 o4 ho4 H.size) ⟨va_cnB 2 hts gX1_neededBy_X2_has_n47 rfl rfl rfl (hNE.2.2.2.2.2.2.2.2.2.2.2.2.2.2.2.2.2.2) (hts (.initialized RX2) (by decide +kernel)) (by decide +kernel) ⟨Nat.le_of_ble_eq_true rfl, Nat.le_of_ble_eq_true rfl⟩, hts (.static yX2_has) (by decide +kernel), trivial⟩ (xk_preS hK hNE (hP.sub (ws' := []) [] rfl) (hD.sub (ws' := []) [] (by decide) rfl)) rfl rfl hl.1 rfl (lv_room (Nat.le_of_ble_eq_true rfl)) dX1_neededBy_14 ⟨Nat.le_of_ble_eq_true rfl, Nat.le_of_ble_eq_true rfl⟩) hP hD hS hA [] [0, 1, 2, 3, 4, 5, 6, 7, 8] [0, 1, 2, 3, 4, 5, 6, 7, 8] rfl rfl (by decide) (by decide) rfl (by decide) (fun H locs hP hD hS => ?_)
        have hP : va_P G.1 vwCl (wSY G ya yy) H := hP
        have hD : va_D A (wSY G ya yy) := hD
        refine lv_if_eq (tgt := 29) hx hb dX1_neededBy_17 (by decide) (fun c5 => ?_) (fun c5 => ?_)
        · have h := sp_t c5 h
          refine lv_iinc (v := (x3_1 + (1 : Int32))) (lv' := [(3, .int (x3_1 + (1 : Int32))), (2, .int x2_1), (0, .ref (ya 0)), (1, .int i1)]) hx hb dX1_neededBy_29 hl (k := 0) rfl rfl (by decide) rfl (fun ls hl => ?_)
          refine lv_goto (tgt := 4) hx hb dX1_neededBy_32 (by decide) ?_
          exact ih_1 ((x3_1 + (1 : Int32)), x2_1) h _ _ hP hD hS _ (lv_sub hl [0, 1, 2, 3] rfl)
        · have h := sp_f c5 h
          refine lv_iload_n hx hb dX1_neededBy_20 rfl (lv_at hl 1 rfl) ?_
          refine lv_aload_n hx hb dX1_neededBy_21 rfl (lv_at hl 2 rfl) ?_
          refine va_get (D := G.1) (ci := 1) (v := .ref (ya 7)) (C := RX1) (T := TX1) (N := 9) hx hb hts hinX1 hown hK hP 0 rfl rfl 7 (by decide) (hts (.fieldLink RX1 30 "LessonWeave$Syllabus" "needs" "[I") (by decide +kernel)) (fun _ h9 => h9) rfl dX1_neededBy_22 ?_
          refine lv_iload_n hx hb dX1_neededBy_25 rfl (lv_at hl 0 rfl) ?_
          obtain ⟨hin6, h⟩ := sp_g h
          refine va_iald hx hb hK hP 7 0 rfl rfl hin6 dX1_neededBy_26 ?_
          refine lv_ior hx hb dX1_neededBy_27 ?_
          refine lv_istore_n (lv' := [(2, .int (x2_1 ||| (yy.2.2.2.2.2.2.2.1 x3_1.toNatClampNeg))), (3, .int x3_1), (0, .ref (ya 0)), (1, .int i1)]) hx hb dX1_neededBy_28 rfl hl (by decide) rfl (fun ls hl => ?_)
          refine lv_iinc (v := (x3_1 + (1 : Int32))) (lv' := [(3, .int (x3_1 + (1 : Int32))), (2, .int (x2_1 ||| (yy.2.2.2.2.2.2.2.1 x3_1.toNatClampNeg))), (0, .ref (ya 0)), (1, .int i1)]) hx hb dX1_neededBy_29 hl (k := 1) rfl rfl (by decide) rfl (fun ls hl => ?_)
          refine lv_goto (tgt := 4) hx hb dX1_neededBy_32 (by decide) ?_
          exact ih_1 ((x3_1 + (1 : Int32)), (x2_1 ||| (yy.2.2.2.2.2.2.2.1 x3_1.toNatClampNeg))) h _ _ hP hD hS _ (lv_sub hl [0, 1, 2, 3] rfl)
    · exact LL 300 ((0 : Int32), (0 : Int32)) h _ _ hP hD hS _ (lv_sub hl [0, 1, 2, 3] rfl)
def f_X1_reach_l9 (yy : xSY) : Nat → Int32 → Int32 → Option (Int32)
  | 0, _, _ => none
  | k9 + 1, x3_2, x2_2 =>
    if yy.1 ≤ x3_2 then
      some x2_2
    else
      Option.bind (f_X1_neededBy yy x2_2) fun (o5 : Int32) =>
      f_X1_reach_l9 yy k9 (x3_2 + (1 : Int32)) (x2_2 ||| o5)
theorem f_X1_reach_l9_z (yy : xSY) (x3_2 : Int32) (x2_2 : Int32) : f_X1_reach_l9 yy 0 x3_2 x2_2 = none := rfl
theorem f_X1_reach_l9_s (yy : xSY) (k9 : Nat) (x3_2 : Int32) (x2_2 : Int32) : f_X1_reach_l9 yy (k9 + 1) x3_2 x2_2 =
    if yy.1 ≤ x3_2 then
      some x2_2
    else
      Option.bind (f_X1_neededBy yy x2_2) fun (o5 : Int32) =>
      f_X1_reach_l9 yy k9 (x3_2 + (1 : Int32)) (x2_2 ||| o5) := rfl
def f_X1_reach (yy : xSY) (i1 : Int32) : Option (Int32) :=
  if i1 < 0 ∨ 12 ≤ i1.toNatClampNeg then none else
  Option.bind (f_X1_reach_l9 yy 300 (1 : Int32) (yy.2.2.2.2.2.2.2.1 i1.toNatClampNeg)) fun (w3 : Int32) =>
  some w3
theorem f_X1_reach_e (yy : xSY) (i1 : Int32) : f_X1_reach yy i1 =
  if i1 < 0 ∨ 12 ≤ i1.toNatClampNeg then none else
  Option.bind (f_X1_reach_l9 yy 300 (1 : Int32) (yy.2.2.2.2.2.2.2.1 i1.toNatClampNeg)) fun (w3 : Int32) =>
  some w3 := rfl
set_option maxHeartbeats 4000000 in
set_option maxRecDepth 100000 in
theorem c_X1_reach (l : Launch) (G : xG) (ya : (Nat → Nat)) (yy : xSY) (i1 : Int32) (o : Int32) (h : f_X1_reach yy i1 = some o) : xk_CI l yX1_reach wsX1_reach ({ frames := 2, cells := 0, slots := 0, locals := 44 } : Room) 0 0 [.ref (ya 0), .int i1] G (wSY G ya yy) (wSY G ya yy) o := by
  refine xk_CI.of (cc := cX1_reach) (maxL := 4) (ret := (some .int)) (by decide) rfl (Nat.le_of_ble_eq_true rfl) ?_
  intro pr9 en9 s mm9 bl9 meth9 cd9 A ls H locs hx hb hr hml hts hown hlk hA hP hK hD hNE hS hl
  have hown : s.vm.findClass RX1 = some mm9.cls := hown
  have hl : lv_has ls 4 [(0, .ref (ya 0)), (1, .int i1)] := hl
  have hinX1 : ∀ w ∈ u_ws RX1 TX1 9, w ∈ wsX1_reach := by decide +kernel
  have h := (f_X1_reach_e yy i1).symm.trans h
  refine lv_aload_n hx hb dX1_reach_0 rfl (lv_at hl 0 rfl) ?_
  refine va_get (D := G.1) (ci := 1) (v := .ref (ya 7)) (C := RX1) (T := TX1) (N := 9) hx hb hts hinX1 hown hK hP 0 rfl rfl 7 (by decide) (hts (.fieldLink RX1 30 "LessonWeave$Syllabus" "needs" "[I") (by decide +kernel)) (fun _ h9 => h9) rfl dX1_reach_1 ?_
  refine lv_iload_n hx hb dX1_reach_4 rfl (lv_at hl 1 rfl) ?_
  obtain ⟨hin1, h⟩ := sp_g h
  refine va_iald hx hb hK hP 7 0 rfl rfl hin1 dX1_reach_5 ?_
  refine lv_istore_n (lv' := [(2, .int (yy.2.2.2.2.2.2.2.1 i1.toNatClampNeg)), (0, .ref (ya 0)), (1, .int i1)]) hx hb dX1_reach_6 rfl hl (by decide) rfl (fun ls hl => ?_)
  refine lv_iconst (v := (1 : Int32)) hx hb dX1_reach_7 (by decide) ?_
  refine lv_istore_n (lv' := [(3, .int (1 : Int32)), (2, .int (yy.2.2.2.2.2.2.2.1 i1.toNatClampNeg)), (0, .ref (ya 0)), (1, .int i1)]) hx hb dX1_reach_8 rfl hl (by decide) rfl (fun ls hl => ?_)
  obtain ⟨w3, hw3, h⟩ := sp_b h
  refine xk_jn G A s.heap (wSY G ya yy) 4 [(2, .int w3)] 31 [] (fun H locs hP hD hS ls hl => ?_) (fun J2 => ?_)
  · refine lv_iload_n hx hb dX1_reach_31 rfl (lv_at hl 0 rfl) ?_
    obtain rfl := sp_s h
    exact xk_reI hx hb hr hlk hP hD hS rfl dX1_reach_32
  · have h := hw3
    clear hw3
    refine xk_lp (α := Int32 × Int32) G A s.heap (fun a_2 => (wSY G ya yy)) 4 (fun a_2 => [(3, .int a_2.1), (2, .int a_2.2), (0, .ref (ya 0))]) 9 (fun n a_2 => f_X1_reach_l9 yy n a_2.1 a_2.2 = some w3) (fun a_2 h => ?_) (fun n ih_2 a_2 h H locs hP hD hS ls hl => ?_) (fun LL => ?_)
    · exact sp_n ((f_X1_reach_l9_z _ _ _).symm.trans h)
    · obtain ⟨x3_2, x2_2⟩ := a_2
      have h := (f_X1_reach_l9_s yy n x3_2 x2_2).symm.trans h
      have hP : va_P G.1 vwCl (wSY G ya yy) H := hP
      have hD : va_D A (wSY G ya yy) := hD
      have hl : lv_has ls 4 [(3, .int x3_2), (2, .int x2_2), (0, .ref (ya 0))] := hl
      refine lv_iload_n hx hb dX1_reach_9 rfl (lv_at hl 0 rfl) ?_
      refine lv_aload_n hx hb dX1_reach_10 rfl (lv_at hl 2 rfl) ?_
      refine va_get (D := G.1) (ci := 1) (v := .int yy.1) (C := RX1) (T := TX1) (N := 9) hx hb hts hinX1 hown hK hP 0 rfl rfl 0 (by decide) (hts (.fieldLink RX1 36 "LessonWeave$Syllabus" "count" "I") (by decide +kernel)) (fun _ h9 => h9) rfl dX1_reach_11 ?_
      refine lv_icmp_ge (tgt := 31) hx hb dX1_reach_14 (by decide) (fun c4 => ?_) (fun c4 => ?_)
      · have h := sp_t c4 h
        obtain rfl := sp_s h
        exact J2 _ _ hP hD hS _ (lv_sub hl [1] rfl)
      · have h := sp_f c4 h
        refine lv_iload_n hx hb dX1_reach_17 rfl (lv_at hl 1 rfl) ?_
        refine lv_aload_n hx hb dX1_reach_18 rfl (lv_at hl 2 rfl) ?_
        refine lv_iload_n hx hb dX1_reach_19 rfl (lv_at hl 1 rfl) ?_
        obtain ⟨o5, ho5, h⟩ := sp_b h
        refine xk_ci (va_runV (As := [.int x2_2]) (rest := [.int x2_2]) ⟨hx, hb, hml, hown, hts⟩ (c_X1_neededBy l G ya yy x2_2 o5 ho5 H.size) (cwV 1 hts gX1_reach_X1_neededBy rfl rfl rfl (by decide +kernel) ⟨Nat.le_of_ble_eq_true rfl, Nat.le_of_ble_eq_true rfl⟩) (xk_preV hK hNE (hP.sub (ws' := (wSY G ya yy)) [0, 1, 2, 3, 4, 5, 6, 7, 8] rfl) (hD.sub (ws' := (wSY G ya yy)) [0, 1, 2, 3, 4, 5, 6, 7, 8] (by decide) rfl) (ci := 1) rfl rfl) rfl rfl hl.1 rfl (lv_room (Nat.le_of_ble_eq_true rfl)) dX1_reach_20 ⟨Nat.le_of_ble_eq_true rfl, Nat.le_of_ble_eq_true rfl⟩) hP hD hS hA [0, 1, 2, 3, 4, 5, 6, 7, 8] [] [0, 1, 2, 3, 4, 5, 6, 7, 8] rfl rfl (by decide) (by decide) rfl (by decide) (fun H locs hP hD hS => ?_)
        have hP : va_P G.1 vwCl (wSY G ya yy) H := hP
        have hD : va_D A (wSY G ya yy) := hD
        refine lv_ior hx hb dX1_reach_23 ?_
        refine lv_istore_n (lv' := [(2, .int (x2_2 ||| o5)), (3, .int x3_2), (0, .ref (ya 0))]) hx hb dX1_reach_24 rfl hl (by decide) rfl (fun ls hl => ?_)
        refine lv_iinc (v := (x3_2 + (1 : Int32))) (lv' := [(3, .int (x3_2 + (1 : Int32))), (2, .int (x2_2 ||| o5)), (0, .ref (ya 0))]) hx hb dX1_reach_25 hl (k := 1) rfl rfl (by decide) rfl (fun ls hl => ?_)
        refine lv_goto (tgt := 9) hx hb dX1_reach_28 (by decide) ?_
        exact ih_2 ((x3_2 + (1 : Int32)), (x2_2 ||| o5)) h _ _ hP hD hS _ (lv_sub hl [0, 1, 2] rfl)
    · exact LL 300 ((1 : Int32), (yy.2.2.2.2.2.2.2.1 i1.toNatClampNeg)) h _ _ hP hD hS _ (lv_sub hl [0, 1, 2] rfl)
def f_X1_nextTaken_l5 (yy : xSY) (i1 : Int32) (i2 : Int32) : Nat → Int32 → Int32 → Option (Int32)
  | 0, _, _ => none
  | k9 + 1, x4_1, x3_1 =>
    if yy.1 ≤ x4_1 then
      some x3_1
    else
      Option.bind (f_X2_has i1 x4_1) fun (o3 : Int32) =>
      if o3 = 0 then
        if x4_1 < 0 ∨ 12 ≤ x4_1.toNatClampNeg then none else
        Option.bind (f_X1_isCovered (yy.2.2.2.2.2.2.2.1 x4_1.toNatClampNeg) i1) fun (o6 : Int32) =>
        if o6 = 0 then
          f_X1_nextTaken_l5 yy i1 i2 k9 (x4_1 + (1 : Int32)) x3_1
        else
          if (yy.2.2.1 x4_1.toNatClampNeg) = i2 then
            some x4_1
          else
            if x3_1 = ((-1) : Int32) then
              f_X1_nextTaken_l5 yy i1 i2 k9 (x4_1 + (1 : Int32)) x4_1
            else
              f_X1_nextTaken_l5 yy i1 i2 k9 (x4_1 + (1 : Int32)) x3_1
      else
        f_X1_nextTaken_l5 yy i1 i2 k9 (x4_1 + (1 : Int32)) x3_1
theorem f_X1_nextTaken_l5_z (yy : xSY) (i1 : Int32) (i2 : Int32) (x4_1 : Int32) (x3_1 : Int32) : f_X1_nextTaken_l5 yy i1 i2 0 x4_1 x3_1 = none := rfl
theorem f_X1_nextTaken_l5_s (yy : xSY) (i1 : Int32) (i2 : Int32) (k9 : Nat) (x4_1 : Int32) (x3_1 : Int32) : f_X1_nextTaken_l5 yy i1 i2 (k9 + 1) x4_1 x3_1 =
    if yy.1 ≤ x4_1 then
      some x3_1
    else
      Option.bind (f_X2_has i1 x4_1) fun (o3 : Int32) =>
      if o3 = 0 then
        if x4_1 < 0 ∨ 12 ≤ x4_1.toNatClampNeg then none else
        Option.bind (f_X1_isCovered (yy.2.2.2.2.2.2.2.1 x4_1.toNatClampNeg) i1) fun (o6 : Int32) =>
        if o6 = 0 then
          f_X1_nextTaken_l5 yy i1 i2 k9 (x4_1 + (1 : Int32)) x3_1
        else
          if (yy.2.2.1 x4_1.toNatClampNeg) = i2 then
            some x4_1
          else
            if x3_1 = ((-1) : Int32) then
              f_X1_nextTaken_l5 yy i1 i2 k9 (x4_1 + (1 : Int32)) x4_1
            else
              f_X1_nextTaken_l5 yy i1 i2 k9 (x4_1 + (1 : Int32)) x3_1
      else
        f_X1_nextTaken_l5 yy i1 i2 k9 (x4_1 + (1 : Int32)) x3_1 := rfl
def f_X1_nextTaken (yy : xSY) (i1 : Int32) (i2 : Int32) : Option (Int32) :=
  f_X1_nextTaken_l5 yy i1 i2 300 (0 : Int32) ((-1) : Int32)
theorem f_X1_nextTaken_e (yy : xSY) (i1 : Int32) (i2 : Int32) : f_X1_nextTaken yy i1 i2 =
  f_X1_nextTaken_l5 yy i1 i2 300 (0 : Int32) ((-1) : Int32) := rfl
set_option maxHeartbeats 4000000 in
set_option maxRecDepth 100000 in
theorem c_X1_nextTaken (l : Launch) (G : xG) (ya : (Nat → Nat)) (yy : xSY) (i1 : Int32) (i2 : Int32) (o : Int32) (h : f_X1_nextTaken yy i1 i2 = some o) : xk_CI l yX1_nextTaken wsX1_nextTaken ({ frames := 1, cells := 0, slots := 0, locals := 21 } : Room) 0 0 [.ref (ya 0), .int i1, .int i2] G (wSY G ya yy) (wSY G ya yy) o := by
  refine xk_CI.of (cc := cX1_nextTaken) (maxL := 5) (ret := (some .int)) (by decide) rfl (Nat.le_of_ble_eq_true rfl) ?_
  intro pr9 en9 s mm9 bl9 meth9 cd9 A ls H locs hx hb hr hml hts hown hlk hA hP hK hD hNE hS hl
  have hown : s.vm.findClass RX1 = some mm9.cls := hown
  have hl : lv_has ls 5 [(0, .ref (ya 0)), (1, .int i1), (2, .int i2)] := hl
  have hinX1 : ∀ w ∈ u_ws RX1 TX1 9, w ∈ wsX1_nextTaken := by decide +kernel
  have h := (f_X1_nextTaken_e yy i1 i2).symm.trans h
  refine lv_iconst (v := ((-1) : Int32)) hx hb dX1_nextTaken_0 (by decide) ?_
  refine lv_istore_n (lv' := [(3, .int ((-1) : Int32)), (0, .ref (ya 0)), (1, .int i1), (2, .int i2)]) hx hb dX1_nextTaken_1 rfl hl (by decide) rfl (fun ls hl => ?_)
  refine lv_iconst (v := (0 : Int32)) hx hb dX1_nextTaken_2 (by decide) ?_
  refine lv_istore (lv' := [(4, .int (0 : Int32)), (3, .int ((-1) : Int32)), (0, .ref (ya 0)), (1, .int i1), (2, .int i2)]) hx hb dX1_nextTaken_3 hl (by decide) rfl (fun ls hl => ?_)
  refine xk_lp (α := Int32 × Int32) G A s.heap (fun a_1 => (wSY G ya yy)) 5 (fun a_1 => [(4, .int a_1.1), (3, .int a_1.2), (0, .ref (ya 0)), (1, .int i1), (2, .int i2)]) 5 (fun n a_1 => f_X1_nextTaken_l5 yy i1 i2 n a_1.1 a_1.2 = some o) (fun a_1 h => ?_) (fun n ih_1 a_1 h H locs hP hD hS ls hl => ?_) (fun LL => ?_)
  · exact sp_n ((f_X1_nextTaken_l5_z _ _ _ _ _).symm.trans h)
  · obtain ⟨x4_1, x3_1⟩ := a_1
    have h := (f_X1_nextTaken_l5_s yy i1 i2 n x4_1 x3_1).symm.trans h
    have hP : va_P G.1 vwCl (wSY G ya yy) H := hP
    have hD : va_D A (wSY G ya yy) := hD
    have hl : lv_has ls 5 [(4, .int x4_1), (3, .int x3_1), (0, .ref (ya 0)), (1, .int i1), (2, .int i2)] := hl
    refine lv_iload hx hb dX1_nextTaken_5 (lv_at hl 0 rfl) ?_
    refine lv_aload_n hx hb dX1_nextTaken_7 rfl (lv_at hl 2 rfl) ?_
    refine va_get (D := G.1) (ci := 1) (v := .int yy.1) (C := RX1) (T := TX1) (N := 9) hx hb hts hinX1 hown hK hP 0 rfl rfl 0 (by decide) (hts (.fieldLink RX1 36 "LessonWeave$Syllabus" "count" "I") (by decide +kernel)) (fun _ h9 => h9) rfl dX1_nextTaken_8 ?_
    refine lv_icmp_ge (tgt := 68) hx hb dX1_nextTaken_11 (by decide) (fun c2 => ?_) (fun c2 => ?_)
    · have h := sp_t c2 h
      refine lv_iload_n hx hb dX1_nextTaken_68 rfl (lv_at hl 1 rfl) ?_
      obtain rfl := sp_s h
      exact xk_reI hx hb hr hlk hP hD hS rfl dX1_nextTaken_69
    · have h := sp_f c2 h
      refine lv_iload_n hx hb dX1_nextTaken_14 rfl (lv_at hl 3 rfl) ?_
      refine lv_iload hx hb dX1_nextTaken_15 (lv_at hl 0 rfl) ?_
      obtain ⟨o3, ho3, h⟩ := sp_b h
      refine xk_ci (va_runSN (As := [.int i1, .int x4_1]) (rest := []) ⟨hx, hb, hml, hown, hts⟩ (c_X2_has l G i1 x4_1 o3 ho3 H.size) ⟨va_cnB 2 hts gX1_nextTaken_X2_has_n47 rfl rfl rfl (hNE.2.2.2.2.2.2.2.2.2.2.2.2.2.2.2.2.2.2) (hts (.initialized RX2) (by decide +kernel)) (by decide +kernel) ⟨Nat.le_of_ble_eq_true rfl, Nat.le_of_ble_eq_true rfl⟩, hts (.static yX2_has) (by decide +kernel), trivial⟩ (xk_preS hK hNE (hP.sub (ws' := []) [] rfl) (hD.sub (ws' := []) [] (by decide) rfl)) rfl rfl hl.1 rfl (lv_room (Nat.le_of_ble_eq_true rfl)) dX1_nextTaken_17 ⟨Nat.le_of_ble_eq_true rfl, Nat.le_of_ble_eq_true rfl⟩) hP hD hS hA [] [0, 1, 2, 3, 4, 5, 6, 7, 8] [0, 1, 2, 3, 4, 5, 6, 7, 8] rfl rfl (by decide) (by decide) rfl (by decide) (fun H locs hP hD hS => ?_)
      have hP : va_P G.1 vwCl (wSY G ya yy) H := hP
      have hD : va_D A (wSY G ya yy) := hD
      refine lv_if_ne (tgt := 62) hx hb dX1_nextTaken_20 (by decide) (fun c4 => ?_) (fun c4 => ?_)
      · have h := sp_f c4 h
        refine lv_iinc (v := (x4_1 + (1 : Int32))) (lv' := [(4, .int (x4_1 + (1 : Int32))), (3, .int x3_1), (0, .ref (ya 0)), (1, .int i1), (2, .int i2)]) hx hb dX1_nextTaken_62 hl (k := 0) rfl rfl (by decide) rfl (fun ls hl => ?_)
        refine lv_goto (tgt := 5) hx hb dX1_nextTaken_65 (by decide) ?_
        exact ih_1 ((x4_1 + (1 : Int32)), x3_1) h _ _ hP hD hS _ (lv_sub hl [0, 1, 2, 3, 4] rfl)
      · have h := sp_t c4 h
        refine lv_aload_n hx hb dX1_nextTaken_23 rfl (lv_at hl 2 rfl) ?_
        refine va_get (D := G.1) (ci := 1) (v := .ref (ya 7)) (C := RX1) (T := TX1) (N := 9) hx hb hts hinX1 hown hK hP 0 rfl rfl 7 (by decide) (hts (.fieldLink RX1 30 "LessonWeave$Syllabus" "needs" "[I") (by decide +kernel)) (fun _ h9 => h9) rfl dX1_nextTaken_24 ?_
        refine lv_iload hx hb dX1_nextTaken_27 (lv_at hl 0 rfl) ?_
        obtain ⟨hin5, h⟩ := sp_g h
        refine va_iald hx hb hK hP 7 0 rfl rfl hin5 dX1_nextTaken_29 ?_
        refine lv_iload_n hx hb dX1_nextTaken_30 rfl (lv_at hl 3 rfl) ?_
        obtain ⟨o6, ho6, h⟩ := sp_b h
        refine xk_ci (va_runS (As := [.int (yy.2.2.2.2.2.2.2.1 x4_1.toNatClampNeg), .int i1]) (rest := []) ⟨hx, hb, hml, hown, hts⟩ (c_X1_isCovered l G (yy.2.2.2.2.2.2.2.1 x4_1.toNatClampNeg) i1 o6 ho6 H.size) (va_cwS 2 hts gX1_nextTaken_X1_isCovered rfl rfl rfl (by decide +kernel) ⟨Nat.le_of_ble_eq_true rfl, Nat.le_of_ble_eq_true rfl⟩) (xk_preS hK hNE (hP.sub (ws' := []) [] rfl) (hD.sub (ws' := []) [] (by decide) rfl)) rfl rfl hl.1 rfl (lv_room (Nat.le_of_ble_eq_true rfl)) dX1_nextTaken_31 ⟨Nat.le_of_ble_eq_true rfl, Nat.le_of_ble_eq_true rfl⟩) hP hD hS hA [] [0, 1, 2, 3, 4, 5, 6, 7, 8] [0, 1, 2, 3, 4, 5, 6, 7, 8] rfl rfl (by decide) (by decide) rfl (by decide) (fun H locs hP hD hS => ?_)
        have hP : va_P G.1 vwCl (wSY G ya yy) H := hP
        have hD : va_D A (wSY G ya yy) := hD
        refine lv_if_ne (tgt := 40) hx hb dX1_nextTaken_34 (by decide) (fun c7 => ?_) (fun c7 => ?_)
        · have h := sp_f c7 h
          refine lv_aload_n hx hb dX1_nextTaken_40 rfl (lv_at hl 2 rfl) ?_
          refine va_get (D := G.1) (ci := 1) (v := .ref (ya 2)) (C := RX1) (T := TX1) (N := 9) hx hb hts hinX1 hown hK hP 0 rfl rfl 2 (by decide) (hts (.fieldLink RX1 15 "LessonWeave$Syllabus" "kind" "[I") (by decide +kernel)) (fun _ h9 => h9) rfl dX1_nextTaken_41 ?_
          refine lv_iload hx hb dX1_nextTaken_44 (lv_at hl 0 rfl) ?_
          refine va_iald hx hb hK hP 2 0 rfl rfl hin5 dX1_nextTaken_46 ?_
          refine lv_iload_n hx hb dX1_nextTaken_47 rfl (lv_at hl 4 rfl) ?_
          refine lv_icmp_ne (tgt := 54) hx hb dX1_nextTaken_48 (by decide) (fun c8 => ?_) (fun c8 => ?_)
          · have h := sp_f c8 h
            refine lv_iload_n hx hb dX1_nextTaken_54 rfl (lv_at hl 1 rfl) ?_
            refine lv_iconst (v := ((-1) : Int32)) hx hb dX1_nextTaken_55 (by decide) ?_
            refine lv_icmp_ne (tgt := 62) hx hb dX1_nextTaken_56 (by decide) (fun c9 => ?_) (fun c9 => ?_)
            · have h := sp_f c9 h
              refine lv_iinc (v := (x4_1 + (1 : Int32))) (lv' := [(4, .int (x4_1 + (1 : Int32))), (3, .int x3_1), (0, .ref (ya 0)), (1, .int i1), (2, .int i2)]) hx hb dX1_nextTaken_62 hl (k := 0) rfl rfl (by decide) rfl (fun ls hl => ?_)
              refine lv_goto (tgt := 5) hx hb dX1_nextTaken_65 (by decide) ?_
              exact ih_1 ((x4_1 + (1 : Int32)), x3_1) h _ _ hP hD hS _ (lv_sub hl [0, 1, 2, 3, 4] rfl)
            · have h := sp_t c9 h
              refine lv_iload hx hb dX1_nextTaken_59 (lv_at hl 0 rfl) ?_
              refine lv_istore_n (lv' := [(3, .int x4_1), (4, .int x4_1), (0, .ref (ya 0)), (1, .int i1), (2, .int i2)]) hx hb dX1_nextTaken_61 rfl hl (by decide) rfl (fun ls hl => ?_)
              refine lv_iinc (v := (x4_1 + (1 : Int32))) (lv' := [(4, .int (x4_1 + (1 : Int32))), (3, .int x4_1), (0, .ref (ya 0)), (1, .int i1), (2, .int i2)]) hx hb dX1_nextTaken_62 hl (k := 1) rfl rfl (by decide) rfl (fun ls hl => ?_)
              refine lv_goto (tgt := 5) hx hb dX1_nextTaken_65 (by decide) ?_
              exact ih_1 ((x4_1 + (1 : Int32)), x4_1) h _ _ hP hD hS _ (lv_sub hl [0, 1, 2, 3, 4] rfl)
          · have h := sp_t c8 h
            refine lv_iload hx hb dX1_nextTaken_51 (lv_at hl 0 rfl) ?_
            obtain rfl := sp_s h
            exact xk_reI hx hb hr hlk hP hD hS rfl dX1_nextTaken_53
        · have h := sp_t c7 h
          refine lv_goto (tgt := 62) hx hb dX1_nextTaken_37 (by decide) ?_
          refine lv_iinc (v := (x4_1 + (1 : Int32))) (lv' := [(4, .int (x4_1 + (1 : Int32))), (3, .int x3_1), (0, .ref (ya 0)), (1, .int i1), (2, .int i2)]) hx hb dX1_nextTaken_62 hl (k := 0) rfl rfl (by decide) rfl (fun ls hl => ?_)
          refine lv_goto (tgt := 5) hx hb dX1_nextTaken_65 (by decide) ?_
          exact ih_1 ((x4_1 + (1 : Int32)), x3_1) h _ _ hP hD hS _ (lv_sub hl [0, 1, 2, 3, 4] rfl)
  · exact LL 300 ((0 : Int32), ((-1) : Int32)) h _ _ hP hD hS _ (lv_sub hl [0, 1, 2, 3, 4] rfl)
def f_X1_putInOrder_l6 (yy : xSY) : Nat → Int32 → Int32 → Int32 → xF → Option (xF)
  | 0, _, _, _, _ => none
  | k9 + 1, x3_1, x2_1, x1_1, yy8_1 =>
    if yy.1 ≤ x3_1 then
      some yy8_1
    else
      Option.bind (f_X1_nextTaken (yy.1, yy.2.1, yy.2.2.1, yy.2.2.2.1, yy.2.2.2.2.1, yy.2.2.2.2.2.1, yy.2.2.2.2.2.2.1, yy.2.2.2.2.2.2.2.1, yy8_1) x1_1 x2_1) fun (o3 : Int32) =>
      if o3 = ((-1) : Int32) then
        some yy8_1
      else
        if x3_1 < 0 ∨ 12 ≤ x3_1.toNatClampNeg then none else
        if o3 < 0 ∨ 12 ≤ o3.toNatClampNeg then none else
        f_X1_putInOrder_l6 yy k9 (x3_1 + (1 : Int32)) (yy.2.2.1 o3.toNatClampNeg) (x1_1 ||| ((1 : Int32) <<< (o3 &&& 31))) (upd yy8_1 x3_1.toNatClampNeg o3)
theorem f_X1_putInOrder_l6_z (yy : xSY) (x3_1 : Int32) (x2_1 : Int32) (x1_1 : Int32) (yy8_1 : xF) : f_X1_putInOrder_l6 yy 0 x3_1 x2_1 x1_1 yy8_1 = none := rfl
theorem f_X1_putInOrder_l6_s (yy : xSY) (k9 : Nat) (x3_1 : Int32) (x2_1 : Int32) (x1_1 : Int32) (yy8_1 : xF) : f_X1_putInOrder_l6 yy (k9 + 1) x3_1 x2_1 x1_1 yy8_1 =
    if yy.1 ≤ x3_1 then
      some yy8_1
    else
      Option.bind (f_X1_nextTaken (yy.1, yy.2.1, yy.2.2.1, yy.2.2.2.1, yy.2.2.2.2.1, yy.2.2.2.2.2.1, yy.2.2.2.2.2.2.1, yy.2.2.2.2.2.2.2.1, yy8_1) x1_1 x2_1) fun (o3 : Int32) =>
      if o3 = ((-1) : Int32) then
        some yy8_1
      else
        if x3_1 < 0 ∨ 12 ≤ x3_1.toNatClampNeg then none else
        if o3 < 0 ∨ 12 ≤ o3.toNatClampNeg then none else
        f_X1_putInOrder_l6 yy k9 (x3_1 + (1 : Int32)) (yy.2.2.1 o3.toNatClampNeg) (x1_1 ||| ((1 : Int32) <<< (o3 &&& 31))) (upd yy8_1 x3_1.toNatClampNeg o3) := rfl
def f_X1_putInOrder (yy : xSY) : Option (xF) :=
  f_X1_putInOrder_l6 yy 300 (0 : Int32) ((-1) : Int32) (0 : Int32) yy.2.2.2.2.2.2.2.2
theorem f_X1_putInOrder_e (yy : xSY) : f_X1_putInOrder yy =
  f_X1_putInOrder_l6 yy 300 (0 : Int32) ((-1) : Int32) (0 : Int32) yy.2.2.2.2.2.2.2.2 := rfl
set_option maxHeartbeats 4000000 in
set_option maxRecDepth 100000 in
theorem c_X1_putInOrder (l : Launch) (G : xG) (ya : (Nat → Nat)) (yy : xSY) (o : xF) (h : f_X1_putInOrder yy = some o) : xk_CV l yX1_putInOrder wsX1_putInOrder ({ frames := 2, cells := 0, slots := 0, locals := 45 } : Room) 0 0 [.ref (ya 0)] G (wSY G ya yy) (wSY G ya (yy.1, yy.2.1, yy.2.2.1, yy.2.2.2.1, yy.2.2.2.2.1, yy.2.2.2.2.2.1, yy.2.2.2.2.2.2.1, yy.2.2.2.2.2.2.2.1, o)) := by
  refine xk_CV.of (cc := cX1_putInOrder) (maxL := 5) (ret := none) (by decide) rfl (Nat.le_of_ble_eq_true rfl) ?_
  intro pr9 en9 s mm9 bl9 meth9 cd9 A ls H locs hx hb hr hml hts hown hlk hA hP hK hD hNE hS hl
  have hown : s.vm.findClass RX1 = some mm9.cls := hown
  have hl : lv_has ls 5 [(0, .ref (ya 0))] := hl
  have hinX1 : ∀ w ∈ u_ws RX1 TX1 9, w ∈ wsX1_putInOrder := by decide +kernel
  have h := (f_X1_putInOrder_e yy).symm.trans h
  refine lv_iconst (v := (0 : Int32)) hx hb dX1_putInOrder_0 (by decide) ?_
  refine lv_istore_n (lv' := [(1, .int (0 : Int32)), (0, .ref (ya 0))]) hx hb dX1_putInOrder_1 rfl hl (by decide) rfl (fun ls hl => ?_)
  refine lv_iconst (v := ((-1) : Int32)) hx hb dX1_putInOrder_2 (by decide) ?_
  refine lv_istore_n (lv' := [(2, .int ((-1) : Int32)), (1, .int (0 : Int32)), (0, .ref (ya 0))]) hx hb dX1_putInOrder_3 rfl hl (by decide) rfl (fun ls hl => ?_)
  refine lv_iconst (v := (0 : Int32)) hx hb dX1_putInOrder_4 (by decide) ?_
  refine lv_istore_n (lv' := [(3, .int (0 : Int32)), (2, .int ((-1) : Int32)), (1, .int (0 : Int32)), (0, .ref (ya 0))]) hx hb dX1_putInOrder_5 rfl hl (by decide) rfl (fun ls hl => ?_)
  refine xk_lp (α := Int32 × Int32 × Int32 × xF) G A s.heap (fun a_1 => (wSY G ya (yy.1, yy.2.1, yy.2.2.1, yy.2.2.2.1, yy.2.2.2.2.1, yy.2.2.2.2.2.1, yy.2.2.2.2.2.2.1, yy.2.2.2.2.2.2.2.1, a_1.2.2.2))) 5 (fun a_1 => [(3, .int a_1.1), (2, .int a_1.2.1), (1, .int a_1.2.2.1), (0, .ref (ya 0))]) 6 (fun n a_1 => f_X1_putInOrder_l6 yy n a_1.1 a_1.2.1 a_1.2.2.1 a_1.2.2.2 = some o) (fun a_1 h => ?_) (fun n ih_1 a_1 h H locs hP hD hS ls hl => ?_) (fun LL => ?_)
  · exact sp_n ((f_X1_putInOrder_l6_z _ _ _ _ _).symm.trans h)
  · obtain ⟨x3_1, x2_1, x1_1, yy8_1⟩ := a_1
    have h := (f_X1_putInOrder_l6_s yy n x3_1 x2_1 x1_1 yy8_1).symm.trans h
    have hP : va_P G.1 vwCl (wSY G ya (yy.1, yy.2.1, yy.2.2.1, yy.2.2.2.1, yy.2.2.2.2.1, yy.2.2.2.2.2.1, yy.2.2.2.2.2.2.1, yy.2.2.2.2.2.2.2.1, yy8_1)) H := hP
    have hD : va_D A (wSY G ya (yy.1, yy.2.1, yy.2.2.1, yy.2.2.2.1, yy.2.2.2.2.1, yy.2.2.2.2.2.1, yy.2.2.2.2.2.2.1, yy.2.2.2.2.2.2.2.1, yy8_1)) := hD
    have hl : lv_has ls 5 [(3, .int x3_1), (2, .int x2_1), (1, .int x1_1), (0, .ref (ya 0))] := hl
    refine lv_iload_n hx hb dX1_putInOrder_6 rfl (lv_at hl 0 rfl) ?_
    refine lv_aload_n hx hb dX1_putInOrder_7 rfl (lv_at hl 3 rfl) ?_
    refine va_get (D := G.1) (ci := 1) (v := .int yy.1) (C := RX1) (T := TX1) (N := 9) hx hb hts hinX1 hown hK hP 0 rfl rfl 0 (by decide) (hts (.fieldLink RX1 36 "LessonWeave$Syllabus" "count" "I") (by decide +kernel)) (fun _ h9 => h9) rfl dX1_putInOrder_8 ?_
    refine lv_icmp_ge (tgt := 58) hx hb dX1_putInOrder_11 (by decide) (fun c2 => ?_) (fun c2 => ?_)
    · have h := sp_t c2 h
      obtain rfl := sp_s h
      exact xk_reV hx hb hr hlk hP hD hS dX1_putInOrder_58
    · have h := sp_f c2 h
      refine lv_aload_n hx hb dX1_putInOrder_14 rfl (lv_at hl 3 rfl) ?_
      refine lv_iload_n hx hb dX1_putInOrder_15 rfl (lv_at hl 2 rfl) ?_
      refine lv_iload_n hx hb dX1_putInOrder_16 rfl (lv_at hl 1 rfl) ?_
      obtain ⟨o3, ho3, h⟩ := sp_b h
      refine xk_ci (va_runV (As := [.int x1_1, .int x2_1]) (rest := []) ⟨hx, hb, hml, hown, hts⟩ (c_X1_nextTaken l G ya (yy.1, yy.2.1, yy.2.2.1, yy.2.2.2.1, yy.2.2.2.2.1, yy.2.2.2.2.2.1, yy.2.2.2.2.2.2.1, yy.2.2.2.2.2.2.2.1, yy8_1) x1_1 x2_1 o3 ho3 H.size) (cwV 2 hts gX1_putInOrder_X1_nextTaken rfl rfl rfl (by decide +kernel) ⟨Nat.le_of_ble_eq_true rfl, Nat.le_of_ble_eq_true rfl⟩) (xk_preV hK hNE (hP.sub (ws' := (wSY G ya (yy.1, yy.2.1, yy.2.2.1, yy.2.2.2.1, yy.2.2.2.2.1, yy.2.2.2.2.2.1, yy.2.2.2.2.2.2.1, yy.2.2.2.2.2.2.2.1, yy8_1))) [0, 1, 2, 3, 4, 5, 6, 7, 8] rfl) (hD.sub (ws' := (wSY G ya (yy.1, yy.2.1, yy.2.2.1, yy.2.2.2.1, yy.2.2.2.2.1, yy.2.2.2.2.2.1, yy.2.2.2.2.2.2.1, yy.2.2.2.2.2.2.2.1, yy8_1))) [0, 1, 2, 3, 4, 5, 6, 7, 8] (by decide) rfl) (ci := 1) rfl rfl) rfl rfl hl.1 rfl (lv_room (Nat.le_of_ble_eq_true rfl)) dX1_putInOrder_17 ⟨Nat.le_of_ble_eq_true rfl, Nat.le_of_ble_eq_true rfl⟩) hP hD hS hA [0, 1, 2, 3, 4, 5, 6, 7, 8] [] [0, 1, 2, 3, 4, 5, 6, 7, 8] rfl rfl (by decide) (by decide) rfl (by decide) (fun H locs hP hD hS => ?_)
      have hP : va_P G.1 vwCl (wSY G ya (yy.1, yy.2.1, yy.2.2.1, yy.2.2.2.1, yy.2.2.2.2.1, yy.2.2.2.2.2.1, yy.2.2.2.2.2.2.1, yy.2.2.2.2.2.2.2.1, yy8_1)) H := hP
      have hD : va_D A (wSY G ya (yy.1, yy.2.1, yy.2.2.1, yy.2.2.2.1, yy.2.2.2.2.1, yy.2.2.2.2.2.1, yy.2.2.2.2.2.2.1, yy.2.2.2.2.2.2.2.1, yy8_1)) := hD
      refine lv_istore (lv' := [(4, .int o3), (3, .int x3_1), (2, .int x2_1), (1, .int x1_1), (0, .ref (ya 0))]) hx hb dX1_putInOrder_20 hl (by decide) rfl (fun ls hl => ?_)
      refine lv_iload hx hb dX1_putInOrder_22 (lv_at hl 0 rfl) ?_
      refine lv_iconst (v := ((-1) : Int32)) hx hb dX1_putInOrder_24 (by decide) ?_
      refine lv_icmp_ne (tgt := 29) hx hb dX1_putInOrder_25 (by decide) (fun c4 => ?_) (fun c4 => ?_)
      · have h := sp_f c4 h
        refine lv_aload_n hx hb dX1_putInOrder_29 rfl (lv_at hl 4 rfl) ?_
        refine va_get (D := G.1) (ci := 1) (v := .ref (ya 8)) (C := RX1) (T := TX1) (N := 9) hx hb hts hinX1 hown hK hP 0 rfl rfl 8 (by decide) (hts (.fieldLink RX1 33 "LessonWeave$Syllabus" "order" "[I") (by decide +kernel)) (fun _ h9 => h9) rfl dX1_putInOrder_30 ?_
        refine lv_iload_n hx hb dX1_putInOrder_33 rfl (lv_at hl 1 rfl) ?_
        refine lv_iload hx hb dX1_putInOrder_34 (lv_at hl 0 rfl) ?_
        obtain ⟨hin5, h⟩ := sp_g h
        refine va_iast hx hb hK hP hD hS 8 0 rfl rfl hin5 dX1_putInOrder_36 (fun H locs hP hD hS => ?_)
        have hP : va_P G.1 vwCl (wSY G ya (yy.1, yy.2.1, yy.2.2.1, yy.2.2.2.1, yy.2.2.2.2.1, yy.2.2.2.2.2.1, yy.2.2.2.2.2.2.1, yy.2.2.2.2.2.2.2.1, (upd yy8_1 x3_1.toNatClampNeg o3))) H := hP
        have hD : va_D A (wSY G ya (yy.1, yy.2.1, yy.2.2.1, yy.2.2.2.1, yy.2.2.2.2.1, yy.2.2.2.2.2.1, yy.2.2.2.2.2.2.1, yy.2.2.2.2.2.2.2.1, (upd yy8_1 x3_1.toNatClampNeg o3))) := hD
        refine lv_iload_n hx hb dX1_putInOrder_37 rfl (lv_at hl 3 rfl) ?_
        refine lv_iconst (v := (1 : Int32)) hx hb dX1_putInOrder_38 (by decide) ?_
        refine lv_iload hx hb dX1_putInOrder_39 (lv_at hl 0 rfl) ?_
        refine lv_ishl hx hb dX1_putInOrder_41 ?_
        refine lv_ior hx hb dX1_putInOrder_42 ?_
        refine lv_istore_n (lv' := [(1, .int (x1_1 ||| ((1 : Int32) <<< (o3 &&& 31)))), (4, .int o3), (3, .int x3_1), (2, .int x2_1), (0, .ref (ya 0))]) hx hb dX1_putInOrder_43 rfl hl (by decide) rfl (fun ls hl => ?_)
        refine lv_aload_n hx hb dX1_putInOrder_44 rfl (lv_at hl 4 rfl) ?_
        refine va_get (D := G.1) (ci := 1) (v := .ref (ya 2)) (C := RX1) (T := TX1) (N := 9) hx hb hts hinX1 hown hK hP 0 rfl rfl 2 (by decide) (hts (.fieldLink RX1 15 "LessonWeave$Syllabus" "kind" "[I") (by decide +kernel)) (fun _ h9 => h9) rfl dX1_putInOrder_45 ?_
        refine lv_iload hx hb dX1_putInOrder_48 (lv_at hl 1 rfl) ?_
        obtain ⟨hin6, h⟩ := sp_g h
        refine va_iald hx hb hK hP 2 0 rfl rfl hin6 dX1_putInOrder_50 ?_
        refine lv_istore_n (lv' := [(2, .int (yy.2.2.1 o3.toNatClampNeg)), (1, .int (x1_1 ||| ((1 : Int32) <<< (o3 &&& 31)))), (4, .int o3), (3, .int x3_1), (0, .ref (ya 0))]) hx hb dX1_putInOrder_51 rfl hl (by decide) rfl (fun ls hl => ?_)
        refine lv_iinc (v := (x3_1 + (1 : Int32))) (lv' := [(3, .int (x3_1 + (1 : Int32))), (2, .int (yy.2.2.1 o3.toNatClampNeg)), (1, .int (x1_1 ||| ((1 : Int32) <<< (o3 &&& 31)))), (4, .int o3), (0, .ref (ya 0))]) hx hb dX1_putInOrder_52 hl (k := 3) rfl rfl (by decide) rfl (fun ls hl => ?_)
        refine lv_goto (tgt := 6) hx hb dX1_putInOrder_55 (by decide) ?_
        exact ih_1 ((x3_1 + (1 : Int32)), (yy.2.2.1 o3.toNatClampNeg), (x1_1 ||| ((1 : Int32) <<< (o3 &&& 31))), (upd yy8_1 x3_1.toNatClampNeg o3)) h _ _ hP hD hS _ (lv_sub hl [0, 1, 2, 4] rfl)
      · have h := sp_t c4 h
        obtain rfl := sp_s h
        exact xk_reV hx hb hr hlk hP hD hS dX1_putInOrder_28
  · exact LL 300 ((0 : Int32), ((-1) : Int32), (0 : Int32), yy.2.2.2.2.2.2.2.2) h _ _ hP hD hS _ (lv_sub hl [0, 1, 2, 3] rfl)
def f_X1_add (yy : xSY) (i1 : Int32) (i2 : Int32) (i3 : Int32) (i4 : Int32) : Option (Int32 × Int32 × xF × xF × xF × xF × xF × xF) :=
  if yy.1 < 0 ∨ 12 ≤ yy.1.toNatClampNeg then none else
  Option.bind (f_X1_putInOrder ((yy.1 + (1 : Int32)), (upd yy.2.1 yy.1.toNatClampNeg i1), (upd yy.2.2.1 yy.1.toNatClampNeg i2), (upd yy.2.2.2.1 yy.1.toNatClampNeg i3), (upd yy.2.2.2.2.1 yy.1.toNatClampNeg i4), yy.2.2.2.2.2.1, (upd yy.2.2.2.2.2.2.1 yy.1.toNatClampNeg (1 : Int32)), yy.2.2.2.2.2.2.2.1, yy.2.2.2.2.2.2.2.2)) fun (o2 : xF) =>
  some (yy.1, (yy.1 + (1 : Int32)), (upd yy.2.1 yy.1.toNatClampNeg i1), (upd yy.2.2.1 yy.1.toNatClampNeg i2), (upd yy.2.2.2.1 yy.1.toNatClampNeg i3), (upd yy.2.2.2.2.1 yy.1.toNatClampNeg i4), (upd yy.2.2.2.2.2.2.1 yy.1.toNatClampNeg (1 : Int32)), o2)
theorem f_X1_add_e (yy : xSY) (i1 : Int32) (i2 : Int32) (i3 : Int32) (i4 : Int32) : f_X1_add yy i1 i2 i3 i4 =
  if yy.1 < 0 ∨ 12 ≤ yy.1.toNatClampNeg then none else
  Option.bind (f_X1_putInOrder ((yy.1 + (1 : Int32)), (upd yy.2.1 yy.1.toNatClampNeg i1), (upd yy.2.2.1 yy.1.toNatClampNeg i2), (upd yy.2.2.2.1 yy.1.toNatClampNeg i3), (upd yy.2.2.2.2.1 yy.1.toNatClampNeg i4), yy.2.2.2.2.2.1, (upd yy.2.2.2.2.2.2.1 yy.1.toNatClampNeg (1 : Int32)), yy.2.2.2.2.2.2.2.1, yy.2.2.2.2.2.2.2.2)) fun (o2 : xF) =>
  some (yy.1, (yy.1 + (1 : Int32)), (upd yy.2.1 yy.1.toNatClampNeg i1), (upd yy.2.2.1 yy.1.toNatClampNeg i2), (upd yy.2.2.2.1 yy.1.toNatClampNeg i3), (upd yy.2.2.2.2.1 yy.1.toNatClampNeg i4), (upd yy.2.2.2.2.2.2.1 yy.1.toNatClampNeg (1 : Int32)), o2) := rfl
set_option maxHeartbeats 4000000 in
set_option maxRecDepth 100000 in
theorem c_X1_add (l : Launch) (G : xG) (ya : (Nat → Nat)) (yy : xSY) (i1 : Int32) (i2 : Int32) (i3 : Int32) (i4 : Int32) (o : Int32 × Int32 × xF × xF × xF × xF × xF × xF) (h : f_X1_add yy i1 i2 i3 i4 = some o) : xk_CI l yX1_add wsX1_add ({ frames := 3, cells := 0, slots := 0, locals := 69 } : Room) 0 0 [.ref (ya 0), .int i1, .int i2, .int i3, .int i4] G (wSY G ya yy) (wSY G ya (o.2.1, o.2.2.1, o.2.2.2.1, o.2.2.2.2.1, o.2.2.2.2.2.1, yy.2.2.2.2.2.1, o.2.2.2.2.2.2.1, yy.2.2.2.2.2.2.2.1, o.2.2.2.2.2.2.2)) o.1 := by
  refine xk_CI.of (cc := cX1_add) (maxL := 6) (ret := (some .int)) (by decide) rfl (Nat.le_of_ble_eq_true rfl) ?_
  intro pr9 en9 s mm9 bl9 meth9 cd9 A ls H locs hx hb hr hml hts hown hlk hA hP hK hD hNE hS hl
  have hown : s.vm.findClass RX1 = some mm9.cls := hown
  have hl : lv_has ls 6 [(0, .ref (ya 0)), (1, .int i1), (2, .int i2), (3, .int i3), (4, .int i4)] := hl
  have hinX1 : ∀ w ∈ u_ws RX1 TX1 9, w ∈ wsX1_add := by decide +kernel
  have h := (f_X1_add_e yy i1 i2 i3 i4).symm.trans h
  refine lv_aload_n hx hb dX1_add_0 rfl (lv_at hl 0 rfl) ?_
  refine va_get (D := G.1) (ci := 1) (v := .int yy.1) (C := RX1) (T := TX1) (N := 9) hx hb hts hinX1 hown hK hP 0 rfl rfl 0 (by decide) (hts (.fieldLink RX1 36 "LessonWeave$Syllabus" "count" "I") (by decide +kernel)) (fun _ h9 => h9) rfl dX1_add_1 ?_
  refine lv_istore (lv' := [(5, .int yy.1), (0, .ref (ya 0)), (1, .int i1), (2, .int i2), (3, .int i3), (4, .int i4)]) hx hb dX1_add_4 hl (by decide) rfl (fun ls hl => ?_)
  refine lv_aload_n hx hb dX1_add_6 rfl (lv_at hl 1 rfl) ?_
  refine va_get (D := G.1) (ci := 1) (v := .ref (ya 1)) (C := RX1) (T := TX1) (N := 9) hx hb hts hinX1 hown hK hP 0 rfl rfl 1 (by decide) (hts (.fieldLink RX1 9 "LessonWeave$Syllabus" "lessons" "[I") (by decide +kernel)) (fun _ h9 => h9) rfl dX1_add_7 ?_
  refine lv_iload hx hb dX1_add_10 (lv_at hl 0 rfl) ?_
  refine lv_iload_n hx hb dX1_add_12 rfl (lv_at hl 2 rfl) ?_
  obtain ⟨hin1, h⟩ := sp_g h
  refine va_iast hx hb hK hP hD hS 1 0 rfl rfl hin1 dX1_add_13 (fun H locs hP hD hS => ?_)
  have hP : va_P G.1 vwCl (wSY G ya (yy.1, (upd yy.2.1 yy.1.toNatClampNeg i1), yy.2.2.1, yy.2.2.2.1, yy.2.2.2.2.1, yy.2.2.2.2.2.1, yy.2.2.2.2.2.2.1, yy.2.2.2.2.2.2.2.1, yy.2.2.2.2.2.2.2.2)) H := hP
  have hD : va_D A (wSY G ya (yy.1, (upd yy.2.1 yy.1.toNatClampNeg i1), yy.2.2.1, yy.2.2.2.1, yy.2.2.2.2.1, yy.2.2.2.2.2.1, yy.2.2.2.2.2.2.1, yy.2.2.2.2.2.2.2.1, yy.2.2.2.2.2.2.2.2)) := hD
  refine lv_aload_n hx hb dX1_add_14 rfl (lv_at hl 1 rfl) ?_
  refine va_get (D := G.1) (ci := 1) (v := .ref (ya 2)) (C := RX1) (T := TX1) (N := 9) hx hb hts hinX1 hown hK hP 0 rfl rfl 2 (by decide) (hts (.fieldLink RX1 15 "LessonWeave$Syllabus" "kind" "[I") (by decide +kernel)) (fun _ h9 => h9) rfl dX1_add_15 ?_
  refine lv_iload hx hb dX1_add_18 (lv_at hl 0 rfl) ?_
  refine lv_iload_n hx hb dX1_add_20 rfl (lv_at hl 3 rfl) ?_
  refine va_iast hx hb hK hP hD hS 2 0 rfl rfl hin1 dX1_add_21 (fun H locs hP hD hS => ?_)
  have hP : va_P G.1 vwCl (wSY G ya (yy.1, (upd yy.2.1 yy.1.toNatClampNeg i1), (upd yy.2.2.1 yy.1.toNatClampNeg i2), yy.2.2.2.1, yy.2.2.2.2.1, yy.2.2.2.2.2.1, yy.2.2.2.2.2.2.1, yy.2.2.2.2.2.2.2.1, yy.2.2.2.2.2.2.2.2)) H := hP
  have hD : va_D A (wSY G ya (yy.1, (upd yy.2.1 yy.1.toNatClampNeg i1), (upd yy.2.2.1 yy.1.toNatClampNeg i2), yy.2.2.2.1, yy.2.2.2.2.1, yy.2.2.2.2.2.1, yy.2.2.2.2.2.2.1, yy.2.2.2.2.2.2.2.1, yy.2.2.2.2.2.2.2.2)) := hD
  refine lv_aload_n hx hb dX1_add_22 rfl (lv_at hl 1 rfl) ?_
  refine va_get (D := G.1) (ci := 1) (v := .ref (ya 3)) (C := RX1) (T := TX1) (N := 9) hx hb hts hinX1 hown hK hP 0 rfl rfl 3 (by decide) (hts (.fieldLink RX1 18 "LessonWeave$Syllabus" "worth" "[I") (by decide +kernel)) (fun _ h9 => h9) rfl dX1_add_23 ?_
  refine lv_iload hx hb dX1_add_26 (lv_at hl 0 rfl) ?_
  refine lv_iload_n hx hb dX1_add_28 rfl (lv_at hl 4 rfl) ?_
  refine va_iast hx hb hK hP hD hS 3 0 rfl rfl hin1 dX1_add_29 (fun H locs hP hD hS => ?_)
  have hP : va_P G.1 vwCl (wSY G ya (yy.1, (upd yy.2.1 yy.1.toNatClampNeg i1), (upd yy.2.2.1 yy.1.toNatClampNeg i2), (upd yy.2.2.2.1 yy.1.toNatClampNeg i3), yy.2.2.2.2.1, yy.2.2.2.2.2.1, yy.2.2.2.2.2.2.1, yy.2.2.2.2.2.2.2.1, yy.2.2.2.2.2.2.2.2)) H := hP
  have hD : va_D A (wSY G ya (yy.1, (upd yy.2.1 yy.1.toNatClampNeg i1), (upd yy.2.2.1 yy.1.toNatClampNeg i2), (upd yy.2.2.2.1 yy.1.toNatClampNeg i3), yy.2.2.2.2.1, yy.2.2.2.2.2.1, yy.2.2.2.2.2.2.1, yy.2.2.2.2.2.2.2.1, yy.2.2.2.2.2.2.2.2)) := hD
  refine lv_aload_n hx hb dX1_add_30 rfl (lv_at hl 1 rfl) ?_
  refine va_get (D := G.1) (ci := 1) (v := .ref (ya 4)) (C := RX1) (T := TX1) (N := 9) hx hb hts hinX1 hown hK hP 0 rfl rfl 4 (by decide) (hts (.fieldLink RX1 21 "LessonWeave$Syllabus" "kit" "[I") (by decide +kernel)) (fun _ h9 => h9) rfl dX1_add_31 ?_
  refine lv_iload hx hb dX1_add_34 (lv_at hl 0 rfl) ?_
  refine lv_iload hx hb dX1_add_36 (lv_at hl 5 rfl) ?_
  refine va_iast hx hb hK hP hD hS 4 0 rfl rfl hin1 dX1_add_38 (fun H locs hP hD hS => ?_)
  have hP : va_P G.1 vwCl (wSY G ya (yy.1, (upd yy.2.1 yy.1.toNatClampNeg i1), (upd yy.2.2.1 yy.1.toNatClampNeg i2), (upd yy.2.2.2.1 yy.1.toNatClampNeg i3), (upd yy.2.2.2.2.1 yy.1.toNatClampNeg i4), yy.2.2.2.2.2.1, yy.2.2.2.2.2.2.1, yy.2.2.2.2.2.2.2.1, yy.2.2.2.2.2.2.2.2)) H := hP
  have hD : va_D A (wSY G ya (yy.1, (upd yy.2.1 yy.1.toNatClampNeg i1), (upd yy.2.2.1 yy.1.toNatClampNeg i2), (upd yy.2.2.2.1 yy.1.toNatClampNeg i3), (upd yy.2.2.2.2.1 yy.1.toNatClampNeg i4), yy.2.2.2.2.2.1, yy.2.2.2.2.2.2.1, yy.2.2.2.2.2.2.2.1, yy.2.2.2.2.2.2.2.2)) := hD
  refine lv_aload_n hx hb dX1_add_39 rfl (lv_at hl 1 rfl) ?_
  refine va_get (D := G.1) (ci := 1) (v := .ref (ya 6)) (C := RX1) (T := TX1) (N := 9) hx hb hts hinX1 hown hK hP 0 rfl rfl 6 (by decide) (hts (.fieldLink RX1 27 "LessonWeave$Syllabus" "gap" "[I") (by decide +kernel)) (fun _ h9 => h9) rfl dX1_add_40 ?_
  refine lv_iload hx hb dX1_add_43 (lv_at hl 0 rfl) ?_
  refine lv_iconst (v := (1 : Int32)) hx hb dX1_add_45 (by decide) ?_
  refine va_iast hx hb hK hP hD hS 6 0 rfl rfl hin1 dX1_add_46 (fun H locs hP hD hS => ?_)
  have hP : va_P G.1 vwCl (wSY G ya (yy.1, (upd yy.2.1 yy.1.toNatClampNeg i1), (upd yy.2.2.1 yy.1.toNatClampNeg i2), (upd yy.2.2.2.1 yy.1.toNatClampNeg i3), (upd yy.2.2.2.2.1 yy.1.toNatClampNeg i4), yy.2.2.2.2.2.1, (upd yy.2.2.2.2.2.2.1 yy.1.toNatClampNeg (1 : Int32)), yy.2.2.2.2.2.2.2.1, yy.2.2.2.2.2.2.2.2)) H := hP
  have hD : va_D A (wSY G ya (yy.1, (upd yy.2.1 yy.1.toNatClampNeg i1), (upd yy.2.2.1 yy.1.toNatClampNeg i2), (upd yy.2.2.2.1 yy.1.toNatClampNeg i3), (upd yy.2.2.2.2.1 yy.1.toNatClampNeg i4), yy.2.2.2.2.2.1, (upd yy.2.2.2.2.2.2.1 yy.1.toNatClampNeg (1 : Int32)), yy.2.2.2.2.2.2.2.1, yy.2.2.2.2.2.2.2.2)) := hD
  refine lv_aload_n hx hb dX1_add_47 rfl (lv_at hl 1 rfl) ?_
  refine lv_dup hx hb dX1_add_48 rfl ?_
  refine va_get (D := G.1) (ci := 1) (v := .int yy.1) (C := RX1) (T := TX1) (N := 9) hx hb hts hinX1 hown hK hP 0 rfl rfl 0 (by decide) (hts (.fieldLink RX1 36 "LessonWeave$Syllabus" "count" "I") (by decide +kernel)) (fun _ h9 => h9) rfl dX1_add_49 ?_
  refine lv_iconst (v := (1 : Int32)) hx hb dX1_add_52 (by decide) ?_
  refine lv_iadd hx hb dX1_add_53 ?_
  refine va_put (D := G.1) (ci := 1) (v := .int (yy.1 + (1 : Int32))) (ty := .int) (C := RX1) (T := TX1) (N := 9) hx hb hts hinX1 tyX1 tyX1_ok nmX1 hown hK hP hD hS 0 rfl rfl 0 (by decide) (hts (.fieldLink RX1 36 "LessonWeave$Syllabus" "count" "I") (by decide +kernel)) (fun _ h9 => h9) rfl (by decide +kernel) rfl rfl (Nat.le_of_ble_eq_true rfl) dX1_add_54 (fun H locs hP hD hS => ?_)
  have hP : va_P G.1 vwCl (wSY G ya ((yy.1 + (1 : Int32)), (upd yy.2.1 yy.1.toNatClampNeg i1), (upd yy.2.2.1 yy.1.toNatClampNeg i2), (upd yy.2.2.2.1 yy.1.toNatClampNeg i3), (upd yy.2.2.2.2.1 yy.1.toNatClampNeg i4), yy.2.2.2.2.2.1, (upd yy.2.2.2.2.2.2.1 yy.1.toNatClampNeg (1 : Int32)), yy.2.2.2.2.2.2.2.1, yy.2.2.2.2.2.2.2.2)) H := hP
  have hD : va_D A (wSY G ya ((yy.1 + (1 : Int32)), (upd yy.2.1 yy.1.toNatClampNeg i1), (upd yy.2.2.1 yy.1.toNatClampNeg i2), (upd yy.2.2.2.1 yy.1.toNatClampNeg i3), (upd yy.2.2.2.2.1 yy.1.toNatClampNeg i4), yy.2.2.2.2.2.1, (upd yy.2.2.2.2.2.2.1 yy.1.toNatClampNeg (1 : Int32)), yy.2.2.2.2.2.2.2.1, yy.2.2.2.2.2.2.2.2)) := hD
  refine lv_aload_n hx hb dX1_add_57 rfl (lv_at hl 1 rfl) ?_
  obtain ⟨o2, ho2, h⟩ := sp_b h
  refine xk_cv (va_runV (As := []) (rest := []) ⟨hx, hb, hml, hown, hts⟩ (c_X1_putInOrder l G ya ((yy.1 + (1 : Int32)), (upd yy.2.1 yy.1.toNatClampNeg i1), (upd yy.2.2.1 yy.1.toNatClampNeg i2), (upd yy.2.2.2.1 yy.1.toNatClampNeg i3), (upd yy.2.2.2.2.1 yy.1.toNatClampNeg i4), yy.2.2.2.2.2.1, (upd yy.2.2.2.2.2.2.1 yy.1.toNatClampNeg (1 : Int32)), yy.2.2.2.2.2.2.2.1, yy.2.2.2.2.2.2.2.2) o2 ho2 H.size) (cwV 0 hts gX1_add_X1_putInOrder rfl rfl rfl (by decide +kernel) ⟨Nat.le_of_ble_eq_true rfl, Nat.le_of_ble_eq_true rfl⟩) (xk_preV hK hNE (hP.sub (ws' := (wSY G ya ((yy.1 + (1 : Int32)), (upd yy.2.1 yy.1.toNatClampNeg i1), (upd yy.2.2.1 yy.1.toNatClampNeg i2), (upd yy.2.2.2.1 yy.1.toNatClampNeg i3), (upd yy.2.2.2.2.1 yy.1.toNatClampNeg i4), yy.2.2.2.2.2.1, (upd yy.2.2.2.2.2.2.1 yy.1.toNatClampNeg (1 : Int32)), yy.2.2.2.2.2.2.2.1, yy.2.2.2.2.2.2.2.2))) [0, 1, 2, 3, 4, 5, 6, 7, 8] rfl) (hD.sub (ws' := (wSY G ya ((yy.1 + (1 : Int32)), (upd yy.2.1 yy.1.toNatClampNeg i1), (upd yy.2.2.1 yy.1.toNatClampNeg i2), (upd yy.2.2.2.1 yy.1.toNatClampNeg i3), (upd yy.2.2.2.2.1 yy.1.toNatClampNeg i4), yy.2.2.2.2.2.1, (upd yy.2.2.2.2.2.2.1 yy.1.toNatClampNeg (1 : Int32)), yy.2.2.2.2.2.2.2.1, yy.2.2.2.2.2.2.2.2))) [0, 1, 2, 3, 4, 5, 6, 7, 8] (by decide) rfl) (ci := 1) rfl rfl) rfl rfl hl.1 rfl (lv_room (Nat.le_of_ble_eq_true rfl)) dX1_add_58 ⟨Nat.le_of_ble_eq_true rfl, Nat.le_of_ble_eq_true rfl⟩) hP hD hS hA [0, 1, 2, 3, 4, 5, 6, 7, 8] [] [0, 1, 2, 3, 4, 5, 6, 7, 8] rfl rfl (by decide) (by decide) rfl (by decide) (fun H locs hP hD hS => ?_)
  have hP : va_P G.1 vwCl (wSY G ya ((yy.1 + (1 : Int32)), (upd yy.2.1 yy.1.toNatClampNeg i1), (upd yy.2.2.1 yy.1.toNatClampNeg i2), (upd yy.2.2.2.1 yy.1.toNatClampNeg i3), (upd yy.2.2.2.2.1 yy.1.toNatClampNeg i4), yy.2.2.2.2.2.1, (upd yy.2.2.2.2.2.2.1 yy.1.toNatClampNeg (1 : Int32)), yy.2.2.2.2.2.2.2.1, o2)) H := hP
  have hD : va_D A (wSY G ya ((yy.1 + (1 : Int32)), (upd yy.2.1 yy.1.toNatClampNeg i1), (upd yy.2.2.1 yy.1.toNatClampNeg i2), (upd yy.2.2.2.1 yy.1.toNatClampNeg i3), (upd yy.2.2.2.2.1 yy.1.toNatClampNeg i4), yy.2.2.2.2.2.1, (upd yy.2.2.2.2.2.2.1 yy.1.toNatClampNeg (1 : Int32)), yy.2.2.2.2.2.2.2.1, o2)) := hD
  refine lv_iload hx hb dX1_add_61 (lv_at hl 0 rfl) ?_
  obtain rfl := sp_s h
  exact xk_reI hx hb hr hlk hP hD hS rfl dX1_add_63
def f_X1_setNeeds (yy : xSY) (i1 : Int32) (i2 : Int32) : Option (xF × xF) :=
  if i1 < 0 ∨ 12 ≤ i1.toNatClampNeg then none else
  Option.bind (f_X1_putInOrder (yy.1, yy.2.1, yy.2.2.1, yy.2.2.2.1, yy.2.2.2.2.1, yy.2.2.2.2.2.1, yy.2.2.2.2.2.2.1, (upd yy.2.2.2.2.2.2.2.1 i1.toNatClampNeg i2), yy.2.2.2.2.2.2.2.2)) fun (o2 : xF) =>
  some ((upd yy.2.2.2.2.2.2.2.1 i1.toNatClampNeg i2), o2)
theorem f_X1_setNeeds_e (yy : xSY) (i1 : Int32) (i2 : Int32) : f_X1_setNeeds yy i1 i2 =
  if i1 < 0 ∨ 12 ≤ i1.toNatClampNeg then none else
  Option.bind (f_X1_putInOrder (yy.1, yy.2.1, yy.2.2.1, yy.2.2.2.1, yy.2.2.2.2.1, yy.2.2.2.2.2.1, yy.2.2.2.2.2.2.1, (upd yy.2.2.2.2.2.2.2.1 i1.toNatClampNeg i2), yy.2.2.2.2.2.2.2.2)) fun (o2 : xF) =>
  some ((upd yy.2.2.2.2.2.2.2.1 i1.toNatClampNeg i2), o2) := rfl
set_option maxHeartbeats 4000000 in
set_option maxRecDepth 100000 in
theorem c_X1_setNeeds (l : Launch) (G : xG) (ya : (Nat → Nat)) (yy : xSY) (i1 : Int32) (i2 : Int32) (o : xF × xF) (h : f_X1_setNeeds yy i1 i2 = some o) : xk_CV l yX1_setNeeds wsX1_setNeeds ({ frames := 3, cells := 0, slots := 0, locals := 69 } : Room) 0 0 [.ref (ya 0), .int i1, .int i2] G (wSY G ya yy) (wSY G ya (yy.1, yy.2.1, yy.2.2.1, yy.2.2.2.1, yy.2.2.2.2.1, yy.2.2.2.2.2.1, yy.2.2.2.2.2.2.1, o.1, o.2)) := by
  refine xk_CV.of (cc := cX1_setNeeds) (maxL := 3) (ret := none) (by decide) rfl (Nat.le_of_ble_eq_true rfl) ?_
  intro pr9 en9 s mm9 bl9 meth9 cd9 A ls H locs hx hb hr hml hts hown hlk hA hP hK hD hNE hS hl
  have hown : s.vm.findClass RX1 = some mm9.cls := hown
  have hl : lv_has ls 3 [(0, .ref (ya 0)), (1, .int i1), (2, .int i2)] := hl
  have hinX1 : ∀ w ∈ u_ws RX1 TX1 9, w ∈ wsX1_setNeeds := by decide +kernel
  have h := (f_X1_setNeeds_e yy i1 i2).symm.trans h
  refine lv_aload_n hx hb dX1_setNeeds_0 rfl (lv_at hl 0 rfl) ?_
  refine va_get (D := G.1) (ci := 1) (v := .ref (ya 7)) (C := RX1) (T := TX1) (N := 9) hx hb hts hinX1 hown hK hP 0 rfl rfl 7 (by decide) (hts (.fieldLink RX1 30 "LessonWeave$Syllabus" "needs" "[I") (by decide +kernel)) (fun _ h9 => h9) rfl dX1_setNeeds_1 ?_
  refine lv_iload_n hx hb dX1_setNeeds_4 rfl (lv_at hl 1 rfl) ?_
  refine lv_iload_n hx hb dX1_setNeeds_5 rfl (lv_at hl 2 rfl) ?_
  obtain ⟨hin1, h⟩ := sp_g h
  refine va_iast hx hb hK hP hD hS 7 0 rfl rfl hin1 dX1_setNeeds_6 (fun H locs hP hD hS => ?_)
  have hP : va_P G.1 vwCl (wSY G ya (yy.1, yy.2.1, yy.2.2.1, yy.2.2.2.1, yy.2.2.2.2.1, yy.2.2.2.2.2.1, yy.2.2.2.2.2.2.1, (upd yy.2.2.2.2.2.2.2.1 i1.toNatClampNeg i2), yy.2.2.2.2.2.2.2.2)) H := hP
  have hD : va_D A (wSY G ya (yy.1, yy.2.1, yy.2.2.1, yy.2.2.2.1, yy.2.2.2.2.1, yy.2.2.2.2.2.1, yy.2.2.2.2.2.2.1, (upd yy.2.2.2.2.2.2.2.1 i1.toNatClampNeg i2), yy.2.2.2.2.2.2.2.2)) := hD
  refine lv_aload_n hx hb dX1_setNeeds_7 rfl (lv_at hl 0 rfl) ?_
  obtain ⟨o2, ho2, h⟩ := sp_b h
  refine xk_cv (va_runV (As := []) (rest := []) ⟨hx, hb, hml, hown, hts⟩ (c_X1_putInOrder l G ya (yy.1, yy.2.1, yy.2.2.1, yy.2.2.2.1, yy.2.2.2.2.1, yy.2.2.2.2.2.1, yy.2.2.2.2.2.2.1, (upd yy.2.2.2.2.2.2.2.1 i1.toNatClampNeg i2), yy.2.2.2.2.2.2.2.2) o2 ho2 H.size) (cwV 0 hts gX1_setNeeds_X1_putInOrder rfl rfl rfl (by decide +kernel) ⟨Nat.le_of_ble_eq_true rfl, Nat.le_of_ble_eq_true rfl⟩) (xk_preV hK hNE (hP.sub (ws' := (wSY G ya (yy.1, yy.2.1, yy.2.2.1, yy.2.2.2.1, yy.2.2.2.2.1, yy.2.2.2.2.2.1, yy.2.2.2.2.2.2.1, (upd yy.2.2.2.2.2.2.2.1 i1.toNatClampNeg i2), yy.2.2.2.2.2.2.2.2))) [0, 1, 2, 3, 4, 5, 6, 7, 8] rfl) (hD.sub (ws' := (wSY G ya (yy.1, yy.2.1, yy.2.2.1, yy.2.2.2.1, yy.2.2.2.2.1, yy.2.2.2.2.2.1, yy.2.2.2.2.2.2.1, (upd yy.2.2.2.2.2.2.2.1 i1.toNatClampNeg i2), yy.2.2.2.2.2.2.2.2))) [0, 1, 2, 3, 4, 5, 6, 7, 8] (by decide) rfl) (ci := 1) rfl rfl) rfl rfl hl.1 rfl (lv_room (Nat.le_of_ble_eq_true rfl)) dX1_setNeeds_8 ⟨Nat.le_of_ble_eq_true rfl, Nat.le_of_ble_eq_true rfl⟩) hP hD hS hA [0, 1, 2, 3, 4, 5, 6, 7, 8] [] [0, 1, 2, 3, 4, 5, 6, 7, 8] rfl rfl (by decide) (by decide) rfl (by decide) (fun H locs hP hD hS => ?_)
  have hP : va_P G.1 vwCl (wSY G ya (yy.1, yy.2.1, yy.2.2.1, yy.2.2.2.1, yy.2.2.2.2.1, yy.2.2.2.2.2.1, yy.2.2.2.2.2.2.1, (upd yy.2.2.2.2.2.2.2.1 i1.toNatClampNeg i2), o2)) H := hP
  have hD : va_D A (wSY G ya (yy.1, yy.2.1, yy.2.2.1, yy.2.2.2.1, yy.2.2.2.2.1, yy.2.2.2.2.2.1, yy.2.2.2.2.2.2.1, (upd yy.2.2.2.2.2.2.2.1 i1.toNatClampNeg i2), o2)) := hD
  obtain rfl := sp_s h
  exact xk_reV hx hb hr hlk hP hD hS dX1_setNeeds_11
def f_X1_isClosed_l2 (yy : xSY) (i1 : Int32) : Nat → Int32 → Option (Int32)
  | 0, _ => none
  | k9 + 1, x2_1 =>
    if yy.1 ≤ x2_1 then
      some (1 : Int32)
    else
      Option.bind (f_X2_has i1 x2_1) fun (o3 : Int32) =>
      if o3 = 0 then
        f_X1_isClosed_l2 yy i1 k9 (x2_1 + (1 : Int32))
      else
        if x2_1 < 0 ∨ 12 ≤ x2_1.toNatClampNeg then none else
        Option.bind (f_X1_isCovered (yy.2.2.2.2.2.2.2.1 x2_1.toNatClampNeg) i1) fun (o6 : Int32) =>
        if o6 = 0 then
          some (0 : Int32)
        else
          f_X1_isClosed_l2 yy i1 k9 (x2_1 + (1 : Int32))
theorem f_X1_isClosed_l2_z (yy : xSY) (i1 : Int32) (x2_1 : Int32) : f_X1_isClosed_l2 yy i1 0 x2_1 = none := rfl
theorem f_X1_isClosed_l2_s (yy : xSY) (i1 : Int32) (k9 : Nat) (x2_1 : Int32) : f_X1_isClosed_l2 yy i1 (k9 + 1) x2_1 =
    if yy.1 ≤ x2_1 then
      some (1 : Int32)
    else
      Option.bind (f_X2_has i1 x2_1) fun (o3 : Int32) =>
      if o3 = 0 then
        f_X1_isClosed_l2 yy i1 k9 (x2_1 + (1 : Int32))
      else
        if x2_1 < 0 ∨ 12 ≤ x2_1.toNatClampNeg then none else
        Option.bind (f_X1_isCovered (yy.2.2.2.2.2.2.2.1 x2_1.toNatClampNeg) i1) fun (o6 : Int32) =>
        if o6 = 0 then
          some (0 : Int32)
        else
          f_X1_isClosed_l2 yy i1 k9 (x2_1 + (1 : Int32)) := rfl
def f_X1_isClosed (yy : xSY) (i1 : Int32) : Option (Int32) :=
  f_X1_isClosed_l2 yy i1 300 (0 : Int32)
theorem f_X1_isClosed_e (yy : xSY) (i1 : Int32) : f_X1_isClosed yy i1 =
  f_X1_isClosed_l2 yy i1 300 (0 : Int32) := rfl
set_option maxHeartbeats 4000000 in
set_option maxRecDepth 100000 in
theorem c_X1_isClosed (l : Launch) (G : xG) (ya : (Nat → Nat)) (yy : xSY) (i1 : Int32) (o : Int32) (h : f_X1_isClosed yy i1 = some o) : xk_CI l yX1_isClosed wsX1_isClosed ({ frames := 1, cells := 0, slots := 0, locals := 21 } : Room) 0 0 [.ref (ya 0), .int i1] G (wSY G ya yy) (wSY G ya yy) o := by
  refine xk_CI.of (cc := cX1_isClosed) (maxL := 3) (ret := (some .boolean)) (by decide) rfl (Nat.le_of_ble_eq_true rfl) ?_
  intro pr9 en9 s mm9 bl9 meth9 cd9 A ls H locs hx hb hr hml hts hown hlk hA hP hK hD hNE hS hl
  have hown : s.vm.findClass RX1 = some mm9.cls := hown
  have hl : lv_has ls 3 [(0, .ref (ya 0)), (1, .int i1)] := hl
  have hinX1 : ∀ w ∈ u_ws RX1 TX1 9, w ∈ wsX1_isClosed := by decide +kernel
  have h := (f_X1_isClosed_e yy i1).symm.trans h
  refine lv_iconst (v := (0 : Int32)) hx hb dX1_isClosed_0 (by decide) ?_
  refine lv_istore_n (lv' := [(2, .int (0 : Int32)), (0, .ref (ya 0)), (1, .int i1)]) hx hb dX1_isClosed_1 rfl hl (by decide) rfl (fun ls hl => ?_)
  refine xk_lp (α := Int32) G A s.heap (fun x2_1 => (wSY G ya yy)) 3 (fun x2_1 => [(2, .int x2_1), (0, .ref (ya 0)), (1, .int i1)]) 2 (fun n x2_1 => f_X1_isClosed_l2 yy i1 n x2_1 = some o) (fun x2_1 h => ?_) (fun n ih_1 x2_1 h H locs hP hD hS ls hl => ?_) (fun LL => ?_)
  · exact sp_n ((f_X1_isClosed_l2_z _ _ _).symm.trans h)
  · have h := (f_X1_isClosed_l2_s yy i1 n x2_1).symm.trans h
    have hP : va_P G.1 vwCl (wSY G ya yy) H := hP
    have hD : va_D A (wSY G ya yy) := hD
    have hl : lv_has ls 3 [(2, .int x2_1), (0, .ref (ya 0)), (1, .int i1)] := hl
    refine lv_iload_n hx hb dX1_isClosed_2 rfl (lv_at hl 0 rfl) ?_
    refine lv_aload_n hx hb dX1_isClosed_3 rfl (lv_at hl 1 rfl) ?_
    refine va_get (D := G.1) (ci := 1) (v := .int yy.1) (C := RX1) (T := TX1) (N := 9) hx hb hts hinX1 hown hK hP 0 rfl rfl 0 (by decide) (hts (.fieldLink RX1 36 "LessonWeave$Syllabus" "count" "I") (by decide +kernel)) (fun _ h9 => h9) rfl dX1_isClosed_4 ?_
    refine lv_icmp_ge (tgt := 39) hx hb dX1_isClosed_7 (by decide) (fun c2 => ?_) (fun c2 => ?_)
    · have h := sp_t c2 h
      refine lv_iconst (v := (1 : Int32)) hx hb dX1_isClosed_39 (by decide) ?_
      obtain rfl := sp_s h
      exact xk_reZ hx hb hr hlk rfl hP hD hS rfl dX1_isClosed_40
    · have h := sp_f c2 h
      refine lv_iload_n hx hb dX1_isClosed_10 rfl (lv_at hl 2 rfl) ?_
      refine lv_iload_n hx hb dX1_isClosed_11 rfl (lv_at hl 0 rfl) ?_
      obtain ⟨o3, ho3, h⟩ := sp_b h
      refine xk_ci (va_runSN (As := [.int i1, .int x2_1]) (rest := []) ⟨hx, hb, hml, hown, hts⟩ (c_X2_has l G i1 x2_1 o3 ho3 H.size) ⟨va_cnB 2 hts gX1_isClosed_X2_has_n47 rfl rfl rfl (hNE.2.2.2.2.2.2.2.2.2.2.2.2.2.2.2.2.2.2) (hts (.initialized RX2) (by decide +kernel)) (by decide +kernel) ⟨Nat.le_of_ble_eq_true rfl, Nat.le_of_ble_eq_true rfl⟩, hts (.static yX2_has) (by decide +kernel), trivial⟩ (xk_preS hK hNE (hP.sub (ws' := []) [] rfl) (hD.sub (ws' := []) [] (by decide) rfl)) rfl rfl hl.1 rfl (lv_room (Nat.le_of_ble_eq_true rfl)) dX1_isClosed_12 ⟨Nat.le_of_ble_eq_true rfl, Nat.le_of_ble_eq_true rfl⟩) hP hD hS hA [] [0, 1, 2, 3, 4, 5, 6, 7, 8] [0, 1, 2, 3, 4, 5, 6, 7, 8] rfl rfl (by decide) (by decide) rfl (by decide) (fun H locs hP hD hS => ?_)
      have hP : va_P G.1 vwCl (wSY G ya yy) H := hP
      have hD : va_D A (wSY G ya yy) := hD
      refine lv_if_eq (tgt := 33) hx hb dX1_isClosed_15 (by decide) (fun c4 => ?_) (fun c4 => ?_)
      · have h := sp_t c4 h
        refine lv_iinc (v := (x2_1 + (1 : Int32))) (lv' := [(2, .int (x2_1 + (1 : Int32))), (0, .ref (ya 0)), (1, .int i1)]) hx hb dX1_isClosed_33 hl (k := 0) rfl rfl (by decide) rfl (fun ls hl => ?_)
        refine lv_goto (tgt := 2) hx hb dX1_isClosed_36 (by decide) ?_
        exact ih_1 (x2_1 + (1 : Int32)) h _ _ hP hD hS _ (lv_sub hl [0, 1, 2] rfl)
      · have h := sp_f c4 h
        refine lv_aload_n hx hb dX1_isClosed_18 rfl (lv_at hl 1 rfl) ?_
        refine va_get (D := G.1) (ci := 1) (v := .ref (ya 7)) (C := RX1) (T := TX1) (N := 9) hx hb hts hinX1 hown hK hP 0 rfl rfl 7 (by decide) (hts (.fieldLink RX1 30 "LessonWeave$Syllabus" "needs" "[I") (by decide +kernel)) (fun _ h9 => h9) rfl dX1_isClosed_19 ?_
        refine lv_iload_n hx hb dX1_isClosed_22 rfl (lv_at hl 0 rfl) ?_
        obtain ⟨hin5, h⟩ := sp_g h
        refine va_iald hx hb hK hP 7 0 rfl rfl hin5 dX1_isClosed_23 ?_
        refine lv_iload_n hx hb dX1_isClosed_24 rfl (lv_at hl 2 rfl) ?_
        obtain ⟨o6, ho6, h⟩ := sp_b h
        refine xk_ci (va_runS (As := [.int (yy.2.2.2.2.2.2.2.1 x2_1.toNatClampNeg), .int i1]) (rest := []) ⟨hx, hb, hml, hown, hts⟩ (c_X1_isCovered l G (yy.2.2.2.2.2.2.2.1 x2_1.toNatClampNeg) i1 o6 ho6 H.size) (va_cwS 2 hts gX1_isClosed_X1_isCovered rfl rfl rfl (by decide +kernel) ⟨Nat.le_of_ble_eq_true rfl, Nat.le_of_ble_eq_true rfl⟩) (xk_preS hK hNE (hP.sub (ws' := []) [] rfl) (hD.sub (ws' := []) [] (by decide) rfl)) rfl rfl hl.1 rfl (lv_room (Nat.le_of_ble_eq_true rfl)) dX1_isClosed_25 ⟨Nat.le_of_ble_eq_true rfl, Nat.le_of_ble_eq_true rfl⟩) hP hD hS hA [] [0, 1, 2, 3, 4, 5, 6, 7, 8] [0, 1, 2, 3, 4, 5, 6, 7, 8] rfl rfl (by decide) (by decide) rfl (by decide) (fun H locs hP hD hS => ?_)
        have hP : va_P G.1 vwCl (wSY G ya yy) H := hP
        have hD : va_D A (wSY G ya yy) := hD
        refine lv_if_ne (tgt := 33) hx hb dX1_isClosed_28 (by decide) (fun c7 => ?_) (fun c7 => ?_)
        · have h := sp_f c7 h
          refine lv_iinc (v := (x2_1 + (1 : Int32))) (lv' := [(2, .int (x2_1 + (1 : Int32))), (0, .ref (ya 0)), (1, .int i1)]) hx hb dX1_isClosed_33 hl (k := 0) rfl rfl (by decide) rfl (fun ls hl => ?_)
          refine lv_goto (tgt := 2) hx hb dX1_isClosed_36 (by decide) ?_
          exact ih_1 (x2_1 + (1 : Int32)) h _ _ hP hD hS _ (lv_sub hl [0, 1, 2] rfl)
        · have h := sp_t c7 h
          refine lv_iconst (v := (0 : Int32)) hx hb dX1_isClosed_31 (by decide) ?_
          obtain rfl := sp_s h
          exact xk_reZ hx hb hr hlk rfl hP hD hS rfl dX1_isClosed_32
  · exact LL 300 (0 : Int32) h _ _ hP hD hS _ (lv_sub hl [0, 1, 2] rfl)
def f_X1_countClosed_l4 (yy : xSY) : Nat → Int32 → Int32 → Option (Int32)
  | 0, _, _ => none
  | k9 + 1, x2_1, x1_1 =>
    if ((1 : Int32) <<< (yy.1 &&& 31)) ≤ x2_1 then
      some x1_1
    else
      Option.bind (f_X1_isClosed yy x2_1) fun (o4 : Int32) =>
      if o4 = 0 then
        f_X1_countClosed_l4 yy k9 (x2_1 + (1 : Int32)) x1_1
      else
        f_X1_countClosed_l4 yy k9 (x2_1 + (1 : Int32)) (x1_1 + (1 : Int32))
theorem f_X1_countClosed_l4_z (yy : xSY) (x2_1 : Int32) (x1_1 : Int32) : f_X1_countClosed_l4 yy 0 x2_1 x1_1 = none := rfl
theorem f_X1_countClosed_l4_s (yy : xSY) (k9 : Nat) (x2_1 : Int32) (x1_1 : Int32) : f_X1_countClosed_l4 yy (k9 + 1) x2_1 x1_1 =
    if ((1 : Int32) <<< (yy.1 &&& 31)) ≤ x2_1 then
      some x1_1
    else
      Option.bind (f_X1_isClosed yy x2_1) fun (o4 : Int32) =>
      if o4 = 0 then
        f_X1_countClosed_l4 yy k9 (x2_1 + (1 : Int32)) x1_1
      else
        f_X1_countClosed_l4 yy k9 (x2_1 + (1 : Int32)) (x1_1 + (1 : Int32)) := rfl
def f_X1_countClosed (yy : xSY) : Option (Int32) :=
  Option.bind (f_X1_countClosed_l4 yy 5000 (0 : Int32) (0 : Int32)) fun (w2 : Int32) =>
  some w2
theorem f_X1_countClosed_e (yy : xSY) : f_X1_countClosed yy =
  Option.bind (f_X1_countClosed_l4 yy 5000 (0 : Int32) (0 : Int32)) fun (w2 : Int32) =>
  some w2 := rfl
set_option maxHeartbeats 4000000 in
set_option maxRecDepth 100000 in
theorem c_X1_countClosed (l : Launch) (G : xG) (ya : (Nat → Nat)) (yy : xSY) (o : Int32) (h : f_X1_countClosed yy = some o) : xk_CI l yX1_countClosed wsX1_countClosed ({ frames := 2, cells := 0, slots := 0, locals := 43 } : Room) 0 0 [.ref (ya 0)] G (wSY G ya yy) (wSY G ya yy) o := by
  refine xk_CI.of (cc := cX1_countClosed) (maxL := 3) (ret := (some .int)) (by decide) rfl (Nat.le_of_ble_eq_true rfl) ?_
  intro pr9 en9 s mm9 bl9 meth9 cd9 A ls H locs hx hb hr hml hts hown hlk hA hP hK hD hNE hS hl
  have hown : s.vm.findClass RX1 = some mm9.cls := hown
  have hl : lv_has ls 3 [(0, .ref (ya 0))] := hl
  have hinX1 : ∀ w ∈ u_ws RX1 TX1 9, w ∈ wsX1_countClosed := by decide +kernel
  have h := (f_X1_countClosed_e yy).symm.trans h
  refine lv_iconst (v := (0 : Int32)) hx hb dX1_countClosed_0 (by decide) ?_
  refine lv_istore_n (lv' := [(1, .int (0 : Int32)), (0, .ref (ya 0))]) hx hb dX1_countClosed_1 rfl hl (by decide) rfl (fun ls hl => ?_)
  refine lv_iconst (v := (0 : Int32)) hx hb dX1_countClosed_2 (by decide) ?_
  refine lv_istore_n (lv' := [(2, .int (0 : Int32)), (1, .int (0 : Int32)), (0, .ref (ya 0))]) hx hb dX1_countClosed_3 rfl hl (by decide) rfl (fun ls hl => ?_)
  obtain ⟨w2, hw2, h⟩ := sp_b h
  refine xk_jn G A s.heap (wSY G ya yy) 3 [(1, .int w2)] 31 [] (fun H locs hP hD hS ls hl => ?_) (fun J1 => ?_)
  · refine lv_iload_n hx hb dX1_countClosed_31 rfl (lv_at hl 0 rfl) ?_
    obtain rfl := sp_s h
    exact xk_reI hx hb hr hlk hP hD hS rfl dX1_countClosed_32
  · have h := hw2
    clear hw2
    refine xk_lp (α := Int32 × Int32) G A s.heap (fun a_1 => (wSY G ya yy)) 3 (fun a_1 => [(2, .int a_1.1), (1, .int a_1.2), (0, .ref (ya 0))]) 4 (fun n a_1 => f_X1_countClosed_l4 yy n a_1.1 a_1.2 = some w2) (fun a_1 h => ?_) (fun n ih_1 a_1 h H locs hP hD hS ls hl => ?_) (fun LL => ?_)
    · exact sp_n ((f_X1_countClosed_l4_z _ _ _).symm.trans h)
    · obtain ⟨x2_1, x1_1⟩ := a_1
      have h := (f_X1_countClosed_l4_s yy n x2_1 x1_1).symm.trans h
      have hP : va_P G.1 vwCl (wSY G ya yy) H := hP
      have hD : va_D A (wSY G ya yy) := hD
      have hl : lv_has ls 3 [(2, .int x2_1), (1, .int x1_1), (0, .ref (ya 0))] := hl
      refine lv_iload_n hx hb dX1_countClosed_4 rfl (lv_at hl 0 rfl) ?_
      refine lv_iconst (v := (1 : Int32)) hx hb dX1_countClosed_5 (by decide) ?_
      refine lv_aload_n hx hb dX1_countClosed_6 rfl (lv_at hl 2 rfl) ?_
      refine va_get (D := G.1) (ci := 1) (v := .int yy.1) (C := RX1) (T := TX1) (N := 9) hx hb hts hinX1 hown hK hP 0 rfl rfl 0 (by decide) (hts (.fieldLink RX1 36 "LessonWeave$Syllabus" "count" "I") (by decide +kernel)) (fun _ h9 => h9) rfl dX1_countClosed_7 ?_
      refine lv_ishl hx hb dX1_countClosed_10 ?_
      refine lv_icmp_ge (tgt := 31) hx hb dX1_countClosed_11 (by decide) (fun c3 => ?_) (fun c3 => ?_)
      · have h := sp_t c3 h
        obtain rfl := sp_s h
        exact J1 _ _ hP hD hS _ (lv_sub hl [1] rfl)
      · have h := sp_f c3 h
        refine lv_aload_n hx hb dX1_countClosed_14 rfl (lv_at hl 2 rfl) ?_
        refine lv_iload_n hx hb dX1_countClosed_15 rfl (lv_at hl 0 rfl) ?_
        obtain ⟨o4, ho4, h⟩ := sp_b h
        refine xk_ci (va_runV (As := [.int x2_1]) (rest := []) ⟨hx, hb, hml, hown, hts⟩ (c_X1_isClosed l G ya yy x2_1 o4 ho4 H.size) (cwV 1 hts gX1_countClosed_X1_isClosed rfl rfl rfl (by decide +kernel) ⟨Nat.le_of_ble_eq_true rfl, Nat.le_of_ble_eq_true rfl⟩) (xk_preV hK hNE (hP.sub (ws' := (wSY G ya yy)) [0, 1, 2, 3, 4, 5, 6, 7, 8] rfl) (hD.sub (ws' := (wSY G ya yy)) [0, 1, 2, 3, 4, 5, 6, 7, 8] (by decide) rfl) (ci := 1) rfl rfl) rfl rfl hl.1 rfl (lv_room (Nat.le_of_ble_eq_true rfl)) dX1_countClosed_16 ⟨Nat.le_of_ble_eq_true rfl, Nat.le_of_ble_eq_true rfl⟩) hP hD hS hA [0, 1, 2, 3, 4, 5, 6, 7, 8] [] [0, 1, 2, 3, 4, 5, 6, 7, 8] rfl rfl (by decide) (by decide) rfl (by decide) (fun H locs hP hD hS => ?_)
        have hP : va_P G.1 vwCl (wSY G ya yy) H := hP
        have hD : va_D A (wSY G ya yy) := hD
        refine lv_if_eq (tgt := 25) hx hb dX1_countClosed_19 (by decide) (fun c5 => ?_) (fun c5 => ?_)
        · have h := sp_t c5 h
          refine lv_iinc (v := (x2_1 + (1 : Int32))) (lv' := [(2, .int (x2_1 + (1 : Int32))), (1, .int x1_1), (0, .ref (ya 0))]) hx hb dX1_countClosed_25 hl (k := 0) rfl rfl (by decide) rfl (fun ls hl => ?_)
          refine lv_goto (tgt := 4) hx hb dX1_countClosed_28 (by decide) ?_
          exact ih_1 ((x2_1 + (1 : Int32)), x1_1) h _ _ hP hD hS _ (lv_sub hl [0, 1, 2] rfl)
        · have h := sp_f c5 h
          refine lv_iinc (v := (x1_1 + (1 : Int32))) (lv' := [(1, .int (x1_1 + (1 : Int32))), (2, .int x2_1), (0, .ref (ya 0))]) hx hb dX1_countClosed_22 hl (k := 1) rfl rfl (by decide) rfl (fun ls hl => ?_)
          refine lv_iinc (v := (x2_1 + (1 : Int32))) (lv' := [(2, .int (x2_1 + (1 : Int32))), (1, .int (x1_1 + (1 : Int32))), (0, .ref (ya 0))]) hx hb dX1_countClosed_25 hl (k := 1) rfl rfl (by decide) rfl (fun ls hl => ?_)
          refine lv_goto (tgt := 4) hx hb dX1_countClosed_28 (by decide) ?_
          exact ih_1 ((x2_1 + (1 : Int32)), (x1_1 + (1 : Int32))) h _ _ hP hD hS _ (lv_sub hl [0, 1, 2] rfl)
    · exact LL 5000 ((0 : Int32), (0 : Int32)) h _ _ hP hD hS _ (lv_sub hl [0, 1, 2] rfl)
def f_X1_netOf_l5 (yy : xSY) (i1 : Int32) (i2 : Int32) : Nat → Int32 → Int32 → Option (Int32)
  | 0, _, _ => none
  | k9 + 1, x4_1, x3_1 =>
    if yy.1 ≤ x4_1 then
      some x3_1
    else
      Option.bind (f_X2_has i1 x4_1) fun (o4 : Int32) =>
      if o4 = 0 then
        f_X1_netOf_l5 yy i1 i2 k9 (x4_1 + (1 : Int32)) x3_1
      else
        if x4_1 < 0 ∨ 12 ≤ x4_1.toNatClampNeg then none else
        f_X1_netOf_l5 yy i1 i2 k9 (x4_1 + (1 : Int32)) (x3_1 + ((yy.2.2.2.1 x4_1.toNatClampNeg) - (i2 * (yy.2.1 x4_1.toNatClampNeg))))
theorem f_X1_netOf_l5_z (yy : xSY) (i1 : Int32) (i2 : Int32) (x4_1 : Int32) (x3_1 : Int32) : f_X1_netOf_l5 yy i1 i2 0 x4_1 x3_1 = none := rfl
theorem f_X1_netOf_l5_s (yy : xSY) (i1 : Int32) (i2 : Int32) (k9 : Nat) (x4_1 : Int32) (x3_1 : Int32) : f_X1_netOf_l5 yy i1 i2 (k9 + 1) x4_1 x3_1 =
    if yy.1 ≤ x4_1 then
      some x3_1
    else
      Option.bind (f_X2_has i1 x4_1) fun (o4 : Int32) =>
      if o4 = 0 then
        f_X1_netOf_l5 yy i1 i2 k9 (x4_1 + (1 : Int32)) x3_1
      else
        if x4_1 < 0 ∨ 12 ≤ x4_1.toNatClampNeg then none else
        f_X1_netOf_l5 yy i1 i2 k9 (x4_1 + (1 : Int32)) (x3_1 + ((yy.2.2.2.1 x4_1.toNatClampNeg) - (i2 * (yy.2.1 x4_1.toNatClampNeg)))) := rfl
def f_X1_netOf (yy : xSY) (i1 : Int32) (i2 : Int32) : Option (Int32) :=
  Option.bind (f_X1_netOf_l5 yy i1 i2 300 (0 : Int32) (0 : Int32)) fun (w2 : Int32) =>
  some w2
theorem f_X1_netOf_e (yy : xSY) (i1 : Int32) (i2 : Int32) : f_X1_netOf yy i1 i2 =
  Option.bind (f_X1_netOf_l5 yy i1 i2 300 (0 : Int32) (0 : Int32)) fun (w2 : Int32) =>
  some w2 := rfl
set_option maxHeartbeats 4000000 in
set_option maxRecDepth 100000 in
theorem c_X1_netOf (l : Launch) (G : xG) (ya : (Nat → Nat)) (yy : xSY) (i1 : Int32) (i2 : Int32) (o : Int32) (h : f_X1_netOf yy i1 i2 = some o) : xk_CI l yX1_netOf wsX1_netOf ({ frames := 1, cells := 0, slots := 0, locals := 21 } : Room) 0 0 [.ref (ya 0), .int i1, .int i2] G (wSY G ya yy) (wSY G ya yy) o := by
  refine xk_CI.of (cc := cX1_netOf) (maxL := 5) (ret := (some .int)) (by decide) rfl (Nat.le_of_ble_eq_true rfl) ?_
  intro pr9 en9 s mm9 bl9 meth9 cd9 A ls H locs hx hb hr hml hts hown hlk hA hP hK hD hNE hS hl
  have hown : s.vm.findClass RX1 = some mm9.cls := hown
  have hl : lv_has ls 5 [(0, .ref (ya 0)), (1, .int i1), (2, .int i2)] := hl
  have hinX1 : ∀ w ∈ u_ws RX1 TX1 9, w ∈ wsX1_netOf := by decide +kernel
  have h := (f_X1_netOf_e yy i1 i2).symm.trans h
  refine lv_iconst (v := (0 : Int32)) hx hb dX1_netOf_0 (by decide) ?_
  refine lv_istore_n (lv' := [(3, .int (0 : Int32)), (0, .ref (ya 0)), (1, .int i1), (2, .int i2)]) hx hb dX1_netOf_1 rfl hl (by decide) rfl (fun ls hl => ?_)
  refine lv_iconst (v := (0 : Int32)) hx hb dX1_netOf_2 (by decide) ?_
  refine lv_istore (lv' := [(4, .int (0 : Int32)), (3, .int (0 : Int32)), (0, .ref (ya 0)), (1, .int i1), (2, .int i2)]) hx hb dX1_netOf_3 hl (by decide) rfl (fun ls hl => ?_)
  obtain ⟨w2, hw2, h⟩ := sp_b h
  refine xk_jn G A s.heap (wSY G ya yy) 5 [(3, .int w2)] 49 [] (fun H locs hP hD hS ls hl => ?_) (fun J1 => ?_)
  · refine lv_iload_n hx hb dX1_netOf_49 rfl (lv_at hl 0 rfl) ?_
    obtain rfl := sp_s h
    exact xk_reI hx hb hr hlk hP hD hS rfl dX1_netOf_50
  · have h := hw2
    clear hw2
    refine xk_lp (α := Int32 × Int32) G A s.heap (fun a_1 => (wSY G ya yy)) 5 (fun a_1 => [(4, .int a_1.1), (3, .int a_1.2), (0, .ref (ya 0)), (1, .int i1), (2, .int i2)]) 5 (fun n a_1 => f_X1_netOf_l5 yy i1 i2 n a_1.1 a_1.2 = some w2) (fun a_1 h => ?_) (fun n ih_1 a_1 h H locs hP hD hS ls hl => ?_) (fun LL => ?_)
    · exact sp_n ((f_X1_netOf_l5_z _ _ _ _ _).symm.trans h)
    · obtain ⟨x4_1, x3_1⟩ := a_1
      have h := (f_X1_netOf_l5_s yy i1 i2 n x4_1 x3_1).symm.trans h
      have hP : va_P G.1 vwCl (wSY G ya yy) H := hP
      have hD : va_D A (wSY G ya yy) := hD
      have hl : lv_has ls 5 [(4, .int x4_1), (3, .int x3_1), (0, .ref (ya 0)), (1, .int i1), (2, .int i2)] := hl
      refine lv_iload hx hb dX1_netOf_5 (lv_at hl 0 rfl) ?_
      refine lv_aload_n hx hb dX1_netOf_7 rfl (lv_at hl 2 rfl) ?_
      refine va_get (D := G.1) (ci := 1) (v := .int yy.1) (C := RX1) (T := TX1) (N := 9) hx hb hts hinX1 hown hK hP 0 rfl rfl 0 (by decide) (hts (.fieldLink RX1 36 "LessonWeave$Syllabus" "count" "I") (by decide +kernel)) (fun _ h9 => h9) rfl dX1_netOf_8 ?_
      refine lv_icmp_ge (tgt := 49) hx hb dX1_netOf_11 (by decide) (fun c3 => ?_) (fun c3 => ?_)
      · have h := sp_t c3 h
        obtain rfl := sp_s h
        exact J1 _ _ hP hD hS _ (lv_sub hl [1] rfl)
      · have h := sp_f c3 h
        refine lv_iload_n hx hb dX1_netOf_14 rfl (lv_at hl 3 rfl) ?_
        refine lv_iload hx hb dX1_netOf_15 (lv_at hl 0 rfl) ?_
        obtain ⟨o4, ho4, h⟩ := sp_b h
        refine xk_ci (va_runSN (As := [.int i1, .int x4_1]) (rest := []) ⟨hx, hb, hml, hown, hts⟩ (c_X2_has l G i1 x4_1 o4 ho4 H.size) ⟨va_cnB 2 hts gX1_netOf_X2_has_n47 rfl rfl rfl (hNE.2.2.2.2.2.2.2.2.2.2.2.2.2.2.2.2.2.2) (hts (.initialized RX2) (by decide +kernel)) (by decide +kernel) ⟨Nat.le_of_ble_eq_true rfl, Nat.le_of_ble_eq_true rfl⟩, hts (.static yX2_has) (by decide +kernel), trivial⟩ (xk_preS hK hNE (hP.sub (ws' := []) [] rfl) (hD.sub (ws' := []) [] (by decide) rfl)) rfl rfl hl.1 rfl (lv_room (Nat.le_of_ble_eq_true rfl)) dX1_netOf_17 ⟨Nat.le_of_ble_eq_true rfl, Nat.le_of_ble_eq_true rfl⟩) hP hD hS hA [] [0, 1, 2, 3, 4, 5, 6, 7, 8] [0, 1, 2, 3, 4, 5, 6, 7, 8] rfl rfl (by decide) (by decide) rfl (by decide) (fun H locs hP hD hS => ?_)
        have hP : va_P G.1 vwCl (wSY G ya yy) H := hP
        have hD : va_D A (wSY G ya yy) := hD
        refine lv_if_eq (tgt := 43) hx hb dX1_netOf_20 (by decide) (fun c5 => ?_) (fun c5 => ?_)
        · have h := sp_t c5 h
          refine lv_iinc (v := (x4_1 + (1 : Int32))) (lv' := [(4, .int (x4_1 + (1 : Int32))), (3, .int x3_1), (0, .ref (ya 0)), (1, .int i1), (2, .int i2)]) hx hb dX1_netOf_43 hl (k := 0) rfl rfl (by decide) rfl (fun ls hl => ?_)
          refine lv_goto (tgt := 5) hx hb dX1_netOf_46 (by decide) ?_
          exact ih_1 ((x4_1 + (1 : Int32)), x3_1) h _ _ hP hD hS _ (lv_sub hl [0, 1, 2, 3, 4] rfl)
        · have h := sp_f c5 h
          refine lv_iload_n hx hb dX1_netOf_23 rfl (lv_at hl 1 rfl) ?_
          refine lv_aload_n hx hb dX1_netOf_24 rfl (lv_at hl 2 rfl) ?_
          refine va_get (D := G.1) (ci := 1) (v := .ref (ya 3)) (C := RX1) (T := TX1) (N := 9) hx hb hts hinX1 hown hK hP 0 rfl rfl 3 (by decide) (hts (.fieldLink RX1 18 "LessonWeave$Syllabus" "worth" "[I") (by decide +kernel)) (fun _ h9 => h9) rfl dX1_netOf_25 ?_
          refine lv_iload hx hb dX1_netOf_28 (lv_at hl 0 rfl) ?_
          obtain ⟨hin6, h⟩ := sp_g h
          refine va_iald hx hb hK hP 3 0 rfl rfl hin6 dX1_netOf_30 ?_
          refine lv_iload_n hx hb dX1_netOf_31 rfl (lv_at hl 4 rfl) ?_
          refine lv_aload_n hx hb dX1_netOf_32 rfl (lv_at hl 2 rfl) ?_
          refine va_get (D := G.1) (ci := 1) (v := .ref (ya 1)) (C := RX1) (T := TX1) (N := 9) hx hb hts hinX1 hown hK hP 0 rfl rfl 1 (by decide) (hts (.fieldLink RX1 9 "LessonWeave$Syllabus" "lessons" "[I") (by decide +kernel)) (fun _ h9 => h9) rfl dX1_netOf_33 ?_
          refine lv_iload hx hb dX1_netOf_36 (lv_at hl 0 rfl) ?_
          refine va_iald hx hb hK hP 1 0 rfl rfl hin6 dX1_netOf_38 ?_
          refine lv_imul hx hb dX1_netOf_39 ?_
          refine lv_isub hx hb dX1_netOf_40 ?_
          refine lv_iadd hx hb dX1_netOf_41 ?_
          refine lv_istore_n (lv' := [(3, .int (x3_1 + ((yy.2.2.2.1 x4_1.toNatClampNeg) - (i2 * (yy.2.1 x4_1.toNatClampNeg))))), (4, .int x4_1), (0, .ref (ya 0)), (1, .int i1), (2, .int i2)]) hx hb dX1_netOf_42 rfl hl (by decide) rfl (fun ls hl => ?_)
          refine lv_iinc (v := (x4_1 + (1 : Int32))) (lv' := [(4, .int (x4_1 + (1 : Int32))), (3, .int (x3_1 + ((yy.2.2.2.1 x4_1.toNatClampNeg) - (i2 * (yy.2.1 x4_1.toNatClampNeg))))), (0, .ref (ya 0)), (1, .int i1), (2, .int i2)]) hx hb dX1_netOf_43 hl (k := 1) rfl rfl (by decide) rfl (fun ls hl => ?_)
          refine lv_goto (tgt := 5) hx hb dX1_netOf_46 (by decide) ?_
          exact ih_1 ((x4_1 + (1 : Int32)), (x3_1 + ((yy.2.2.2.1 x4_1.toNatClampNeg) - (i2 * (yy.2.1 x4_1.toNatClampNeg))))) h _ _ hP hD hS _ (lv_sub hl [0, 1, 2, 3, 4] rfl)
    · exact LL 300 ((0 : Int32), (0 : Int32)) h _ _ hP hD hS _ (lv_sub hl [0, 1, 2, 3, 4] rfl)
def f_X1_bestSet_l7 (yy : xSY) (i1 : Int32) : Nat → Int32 → Int32 → Int32 → Option (Int32)
  | 0, _, _, _ => none
  | k9 + 1, x4_1, x3_1, x2_1 =>
    if ((1 : Int32) <<< (yy.1 &&& 31)) ≤ x4_1 then
      some x2_1
    else
      Option.bind (f_X1_isClosed yy x4_1) fun (o4 : Int32) =>
      if o4 = 0 then
        f_X1_bestSet_l7 yy i1 k9 (x4_1 + (1 : Int32)) x3_1 x2_1
      else
        Option.bind (f_X1_netOf yy x4_1 i1) fun (o6 : Int32) =>
        if x3_1 < o6 then
          f_X1_bestSet_l7 yy i1 k9 (x4_1 + (1 : Int32)) o6 x4_1
        else
          if o6 = x3_1 then
            Option.bind (f_J6_bitCount_0f7a4 x4_1) fun (o9 : Int32) =>
            Option.bind (f_J6_bitCount_0f7a4 x2_1) fun (o10 : Int32) =>
            if o10 ≤ o9 then
              f_X1_bestSet_l7 yy i1 k9 (x4_1 + (1 : Int32)) x3_1 x2_1
            else
              f_X1_bestSet_l7 yy i1 k9 (x4_1 + (1 : Int32)) o6 x4_1
          else
            f_X1_bestSet_l7 yy i1 k9 (x4_1 + (1 : Int32)) x3_1 x2_1
theorem f_X1_bestSet_l7_z (yy : xSY) (i1 : Int32) (x4_1 : Int32) (x3_1 : Int32) (x2_1 : Int32) : f_X1_bestSet_l7 yy i1 0 x4_1 x3_1 x2_1 = none := rfl
theorem f_X1_bestSet_l7_s (yy : xSY) (i1 : Int32) (k9 : Nat) (x4_1 : Int32) (x3_1 : Int32) (x2_1 : Int32) : f_X1_bestSet_l7 yy i1 (k9 + 1) x4_1 x3_1 x2_1 =
    if ((1 : Int32) <<< (yy.1 &&& 31)) ≤ x4_1 then
      some x2_1
    else
      Option.bind (f_X1_isClosed yy x4_1) fun (o4 : Int32) =>
      if o4 = 0 then
        f_X1_bestSet_l7 yy i1 k9 (x4_1 + (1 : Int32)) x3_1 x2_1
      else
        Option.bind (f_X1_netOf yy x4_1 i1) fun (o6 : Int32) =>
        if x3_1 < o6 then
          f_X1_bestSet_l7 yy i1 k9 (x4_1 + (1 : Int32)) o6 x4_1
        else
          if o6 = x3_1 then
            Option.bind (f_J6_bitCount_0f7a4 x4_1) fun (o9 : Int32) =>
            Option.bind (f_J6_bitCount_0f7a4 x2_1) fun (o10 : Int32) =>
            if o10 ≤ o9 then
              f_X1_bestSet_l7 yy i1 k9 (x4_1 + (1 : Int32)) x3_1 x2_1
            else
              f_X1_bestSet_l7 yy i1 k9 (x4_1 + (1 : Int32)) o6 x4_1
          else
            f_X1_bestSet_l7 yy i1 k9 (x4_1 + (1 : Int32)) x3_1 x2_1 := rfl
def f_X1_bestSet (yy : xSY) (i1 : Int32) : Option (Int32) :=
  Option.bind (f_X1_bestSet_l7 yy i1 5000 (1 : Int32) (0 : Int32) (0 : Int32)) fun (w2 : Int32) =>
  some w2
theorem f_X1_bestSet_e (yy : xSY) (i1 : Int32) : f_X1_bestSet yy i1 =
  Option.bind (f_X1_bestSet_l7 yy i1 5000 (1 : Int32) (0 : Int32) (0 : Int32)) fun (w2 : Int32) =>
  some w2 := rfl
set_option maxHeartbeats 4000000 in
set_option maxRecDepth 100000 in
theorem c_X1_bestSet (l : Launch) (G : xG) (ya : (Nat → Nat)) (yy : xSY) (i1 : Int32) (o : Int32) (h : f_X1_bestSet yy i1 = some o) : xk_CI l yX1_bestSet wsX1_bestSet ({ frames := 2, cells := 0, slots := 0, locals := 45 } : Room) 0 0 [.ref (ya 0), .int i1] G (wSY G ya yy) (wSY G ya yy) o := by
  refine xk_CI.of (cc := cX1_bestSet) (maxL := 6) (ret := (some .int)) (by decide) rfl (Nat.le_of_ble_eq_true rfl) ?_
  intro pr9 en9 s mm9 bl9 meth9 cd9 A ls H locs hx hb hr hml hts hown hlk hA hP hK hD hNE hS hl
  have hown : s.vm.findClass RX1 = some mm9.cls := hown
  have hl : lv_has ls 6 [(0, .ref (ya 0)), (1, .int i1)] := hl
  have hinX1 : ∀ w ∈ u_ws RX1 TX1 9, w ∈ wsX1_bestSet := by decide +kernel
  have h := (f_X1_bestSet_e yy i1).symm.trans h
  refine lv_iconst (v := (0 : Int32)) hx hb dX1_bestSet_0 (by decide) ?_
  refine lv_istore_n (lv' := [(2, .int (0 : Int32)), (0, .ref (ya 0)), (1, .int i1)]) hx hb dX1_bestSet_1 rfl hl (by decide) rfl (fun ls hl => ?_)
  refine lv_iconst (v := (0 : Int32)) hx hb dX1_bestSet_2 (by decide) ?_
  refine lv_istore_n (lv' := [(3, .int (0 : Int32)), (2, .int (0 : Int32)), (0, .ref (ya 0)), (1, .int i1)]) hx hb dX1_bestSet_3 rfl hl (by decide) rfl (fun ls hl => ?_)
  refine lv_iconst (v := (1 : Int32)) hx hb dX1_bestSet_4 (by decide) ?_
  refine lv_istore (lv' := [(4, .int (1 : Int32)), (3, .int (0 : Int32)), (2, .int (0 : Int32)), (0, .ref (ya 0)), (1, .int i1)]) hx hb dX1_bestSet_5 hl (by decide) rfl (fun ls hl => ?_)
  obtain ⟨w2, hw2, h⟩ := sp_b h
  refine xk_jn G A s.heap (wSY G ya yy) 6 [(2, .int w2)] 75 [] (fun H locs hP hD hS ls hl => ?_) (fun J1 => ?_)
  · refine lv_iload_n hx hb dX1_bestSet_75 rfl (lv_at hl 0 rfl) ?_
    obtain rfl := sp_s h
    exact xk_reI hx hb hr hlk hP hD hS rfl dX1_bestSet_76
  · have h := hw2
    clear hw2
    refine xk_lp (α := Int32 × Int32 × Int32) G A s.heap (fun a_1 => (wSY G ya yy)) 6 (fun a_1 => [(4, .int a_1.1), (3, .int a_1.2.1), (2, .int a_1.2.2), (0, .ref (ya 0)), (1, .int i1)]) 7 (fun n a_1 => f_X1_bestSet_l7 yy i1 n a_1.1 a_1.2.1 a_1.2.2 = some w2) (fun a_1 h => ?_) (fun n ih_1 a_1 h H locs hP hD hS ls hl => ?_) (fun LL => ?_)
    · exact sp_n ((f_X1_bestSet_l7_z _ _ _ _ _).symm.trans h)
    · obtain ⟨x4_1, x3_1, x2_1⟩ := a_1
      have h := (f_X1_bestSet_l7_s yy i1 n x4_1 x3_1 x2_1).symm.trans h
      have hP : va_P G.1 vwCl (wSY G ya yy) H := hP
      have hD : va_D A (wSY G ya yy) := hD
      have hl : lv_has ls 6 [(4, .int x4_1), (3, .int x3_1), (2, .int x2_1), (0, .ref (ya 0)), (1, .int i1)] := hl
      refine lv_iload hx hb dX1_bestSet_7 (lv_at hl 0 rfl) ?_
      refine lv_iconst (v := (1 : Int32)) hx hb dX1_bestSet_9 (by decide) ?_
      refine lv_aload_n hx hb dX1_bestSet_10 rfl (lv_at hl 3 rfl) ?_
      refine va_get (D := G.1) (ci := 1) (v := .int yy.1) (C := RX1) (T := TX1) (N := 9) hx hb hts hinX1 hown hK hP 0 rfl rfl 0 (by decide) (hts (.fieldLink RX1 36 "LessonWeave$Syllabus" "count" "I") (by decide +kernel)) (fun _ h9 => h9) rfl dX1_bestSet_11 ?_
      refine lv_ishl hx hb dX1_bestSet_14 ?_
      refine lv_icmp_ge (tgt := 75) hx hb dX1_bestSet_15 (by decide) (fun c3 => ?_) (fun c3 => ?_)
      · have h := sp_t c3 h
        obtain rfl := sp_s h
        exact J1 _ _ hP hD hS _ (lv_sub hl [2] rfl)
      · have h := sp_f c3 h
        refine lv_aload_n hx hb dX1_bestSet_18 rfl (lv_at hl 3 rfl) ?_
        refine lv_iload hx hb dX1_bestSet_19 (lv_at hl 0 rfl) ?_
        obtain ⟨o4, ho4, h⟩ := sp_b h
        refine xk_ci (va_runV (As := [.int x4_1]) (rest := []) ⟨hx, hb, hml, hown, hts⟩ (c_X1_isClosed l G ya yy x4_1 o4 ho4 H.size) (cwV 1 hts gX1_bestSet_X1_isClosed rfl rfl rfl (by decide +kernel) ⟨Nat.le_of_ble_eq_true rfl, Nat.le_of_ble_eq_true rfl⟩) (xk_preV hK hNE (hP.sub (ws' := (wSY G ya yy)) [0, 1, 2, 3, 4, 5, 6, 7, 8] rfl) (hD.sub (ws' := (wSY G ya yy)) [0, 1, 2, 3, 4, 5, 6, 7, 8] (by decide) rfl) (ci := 1) rfl rfl) rfl rfl hl.1 rfl (lv_room (Nat.le_of_ble_eq_true rfl)) dX1_bestSet_21 ⟨Nat.le_of_ble_eq_true rfl, Nat.le_of_ble_eq_true rfl⟩) hP hD hS hA [0, 1, 2, 3, 4, 5, 6, 7, 8] [] [0, 1, 2, 3, 4, 5, 6, 7, 8] rfl rfl (by decide) (by decide) rfl (by decide) (fun H locs hP hD hS => ?_)
        have hP : va_P G.1 vwCl (wSY G ya yy) H := hP
        have hD : va_D A (wSY G ya yy) := hD
        refine lv_if_ne (tgt := 30) hx hb dX1_bestSet_24 (by decide) (fun c5 => ?_) (fun c5 => ?_)
        · have h := sp_f c5 h
          refine lv_aload_n hx hb dX1_bestSet_30 rfl (lv_at hl 3 rfl) ?_
          refine lv_iload hx hb dX1_bestSet_31 (lv_at hl 0 rfl) ?_
          refine lv_iload_n hx hb dX1_bestSet_33 rfl (lv_at hl 4 rfl) ?_
          obtain ⟨o6, ho6, h⟩ := sp_b h
          refine xk_ci (va_runV (As := [.int x4_1, .int i1]) (rest := []) ⟨hx, hb, hml, hown, hts⟩ (c_X1_netOf l G ya yy x4_1 i1 o6 ho6 H.size) (cwV 2 hts gX1_bestSet_X1_netOf rfl rfl rfl (by decide +kernel) ⟨Nat.le_of_ble_eq_true rfl, Nat.le_of_ble_eq_true rfl⟩) (xk_preV hK hNE (hP.sub (ws' := (wSY G ya yy)) [0, 1, 2, 3, 4, 5, 6, 7, 8] rfl) (hD.sub (ws' := (wSY G ya yy)) [0, 1, 2, 3, 4, 5, 6, 7, 8] (by decide) rfl) (ci := 1) rfl rfl) rfl rfl hl.1 rfl (lv_room (Nat.le_of_ble_eq_true rfl)) dX1_bestSet_34 ⟨Nat.le_of_ble_eq_true rfl, Nat.le_of_ble_eq_true rfl⟩) hP hD hS hA [0, 1, 2, 3, 4, 5, 6, 7, 8] [] [0, 1, 2, 3, 4, 5, 6, 7, 8] rfl rfl (by decide) (by decide) rfl (by decide) (fun H locs hP hD hS => ?_)
          have hP : va_P G.1 vwCl (wSY G ya yy) H := hP
          have hD : va_D A (wSY G ya yy) := hD
          refine lv_istore (lv' := [(5, .int o6), (4, .int x4_1), (3, .int x3_1), (2, .int x2_1), (0, .ref (ya 0)), (1, .int i1)]) hx hb dX1_bestSet_37 hl (by decide) rfl (fun ls hl => ?_)
          refine lv_iload hx hb dX1_bestSet_39 (lv_at hl 0 rfl) ?_
          refine lv_iload_n hx hb dX1_bestSet_41 rfl (lv_at hl 2 rfl) ?_
          refine lv_icmp_gt (tgt := 63) hx hb dX1_bestSet_42 (by decide) (fun c7 => ?_) (fun c7 => ?_)
          · have h := sp_t c7 h
            refine lv_iload hx hb dX1_bestSet_63 (lv_at hl 1 rfl) ?_
            refine lv_istore_n (lv' := [(2, .int x4_1), (5, .int o6), (4, .int x4_1), (3, .int x3_1), (0, .ref (ya 0)), (1, .int i1)]) hx hb dX1_bestSet_65 rfl hl (by decide) rfl (fun ls hl => ?_)
            refine lv_iload hx hb dX1_bestSet_66 (lv_at hl 1 rfl) ?_
            refine lv_istore_n (lv' := [(3, .int o6), (2, .int x4_1), (5, .int o6), (4, .int x4_1), (0, .ref (ya 0)), (1, .int i1)]) hx hb dX1_bestSet_68 rfl hl (by decide) rfl (fun ls hl => ?_)
            refine lv_iinc (v := (x4_1 + (1 : Int32))) (lv' := [(4, .int (x4_1 + (1 : Int32))), (3, .int o6), (2, .int x4_1), (5, .int o6), (0, .ref (ya 0)), (1, .int i1)]) hx hb dX1_bestSet_69 hl (k := 3) rfl rfl (by decide) rfl (fun ls hl => ?_)
            refine lv_goto (tgt := 7) hx hb dX1_bestSet_72 (by decide) ?_
            exact ih_1 ((x4_1 + (1 : Int32)), o6, x4_1) h _ _ hP hD hS _ (lv_sub hl [0, 1, 2, 4, 5] rfl)
          · have h := sp_f c7 h
            refine lv_iload hx hb dX1_bestSet_45 (lv_at hl 0 rfl) ?_
            refine lv_iload_n hx hb dX1_bestSet_47 rfl (lv_at hl 2 rfl) ?_
            refine lv_icmp_ne (tgt := 69) hx hb dX1_bestSet_48 (by decide) (fun c8 => ?_) (fun c8 => ?_)
            · have h := sp_f c8 h
              refine lv_iinc (v := (x4_1 + (1 : Int32))) (lv' := [(4, .int (x4_1 + (1 : Int32))), (5, .int o6), (3, .int x3_1), (2, .int x2_1), (0, .ref (ya 0)), (1, .int i1)]) hx hb dX1_bestSet_69 hl (k := 1) rfl rfl (by decide) rfl (fun ls hl => ?_)
              refine lv_goto (tgt := 7) hx hb dX1_bestSet_72 (by decide) ?_
              exact ih_1 ((x4_1 + (1 : Int32)), x3_1, x2_1) h _ _ hP hD hS _ (lv_sub hl [0, 2, 3, 4, 5] rfl)
            · have h := sp_t c8 h
              refine lv_iload hx hb dX1_bestSet_51 (lv_at hl 1 rfl) ?_
              obtain ⟨o9, ho9, h⟩ := sp_b h
              refine xk_ci (va_runS (As := [.int x4_1]) (rest := []) ⟨hx, hb, hml, hown, hts⟩ (c_J6_bitCount_0f7a4 l G x4_1 o9 ho9 H.size) (va_cwS 1 hts gX1_bestSet_J6_bitCount_0f7a4 rfl rfl rfl (by decide +kernel) ⟨Nat.le_of_ble_eq_true rfl, Nat.le_of_ble_eq_true rfl⟩) (xk_preS hK hNE (hP.sub (ws' := []) [] rfl) (hD.sub (ws' := []) [] (by decide) rfl)) rfl rfl hl.1 rfl (lv_room (Nat.le_of_ble_eq_true rfl)) dX1_bestSet_53 ⟨Nat.le_of_ble_eq_true rfl, Nat.le_of_ble_eq_true rfl⟩) hP hD hS hA [] [0, 1, 2, 3, 4, 5, 6, 7, 8] [0, 1, 2, 3, 4, 5, 6, 7, 8] rfl rfl (by decide) (by decide) rfl (by decide) (fun H locs hP hD hS => ?_)
              have hP : va_P G.1 vwCl (wSY G ya yy) H := hP
              have hD : va_D A (wSY G ya yy) := hD
              refine lv_iload_n hx hb dX1_bestSet_56 rfl (lv_at hl 3 rfl) ?_
              obtain ⟨o10, ho10, h⟩ := sp_b h
              refine xk_ci (va_runS (As := [.int x2_1]) (rest := [.int o9]) ⟨hx, hb, hml, hown, hts⟩ (c_J6_bitCount_0f7a4 l G x2_1 o10 ho10 H.size) (va_cwS 1 hts gX1_bestSet_J6_bitCount_0f7a4 rfl rfl rfl (by decide +kernel) ⟨Nat.le_of_ble_eq_true rfl, Nat.le_of_ble_eq_true rfl⟩) (xk_preS hK hNE (hP.sub (ws' := []) [] rfl) (hD.sub (ws' := []) [] (by decide) rfl)) rfl rfl hl.1 rfl (lv_room (Nat.le_of_ble_eq_true rfl)) dX1_bestSet_57 ⟨Nat.le_of_ble_eq_true rfl, Nat.le_of_ble_eq_true rfl⟩) hP hD hS hA [] [0, 1, 2, 3, 4, 5, 6, 7, 8] [0, 1, 2, 3, 4, 5, 6, 7, 8] rfl rfl (by decide) (by decide) rfl (by decide) (fun H locs hP hD hS => ?_)
              have hP : va_P G.1 vwCl (wSY G ya yy) H := hP
              have hD : va_D A (wSY G ya yy) := hD
              refine lv_icmp_ge (tgt := 69) hx hb dX1_bestSet_60 (by decide) (fun c11 => ?_) (fun c11 => ?_)
              · have h := sp_t c11 h
                refine lv_iinc (v := (x4_1 + (1 : Int32))) (lv' := [(4, .int (x4_1 + (1 : Int32))), (5, .int o6), (3, .int x3_1), (2, .int x2_1), (0, .ref (ya 0)), (1, .int i1)]) hx hb dX1_bestSet_69 hl (k := 1) rfl rfl (by decide) rfl (fun ls hl => ?_)
                refine lv_goto (tgt := 7) hx hb dX1_bestSet_72 (by decide) ?_
                exact ih_1 ((x4_1 + (1 : Int32)), x3_1, x2_1) h _ _ hP hD hS _ (lv_sub hl [0, 2, 3, 4, 5] rfl)
              · have h := sp_f c11 h
                refine lv_iload hx hb dX1_bestSet_63 (lv_at hl 1 rfl) ?_
                refine lv_istore_n (lv' := [(2, .int x4_1), (5, .int o6), (4, .int x4_1), (3, .int x3_1), (0, .ref (ya 0)), (1, .int i1)]) hx hb dX1_bestSet_65 rfl hl (by decide) rfl (fun ls hl => ?_)
                refine lv_iload hx hb dX1_bestSet_66 (lv_at hl 1 rfl) ?_
                refine lv_istore_n (lv' := [(3, .int o6), (2, .int x4_1), (5, .int o6), (4, .int x4_1), (0, .ref (ya 0)), (1, .int i1)]) hx hb dX1_bestSet_68 rfl hl (by decide) rfl (fun ls hl => ?_)
                refine lv_iinc (v := (x4_1 + (1 : Int32))) (lv' := [(4, .int (x4_1 + (1 : Int32))), (3, .int o6), (2, .int x4_1), (5, .int o6), (0, .ref (ya 0)), (1, .int i1)]) hx hb dX1_bestSet_69 hl (k := 3) rfl rfl (by decide) rfl (fun ls hl => ?_)
                refine lv_goto (tgt := 7) hx hb dX1_bestSet_72 (by decide) ?_
                exact ih_1 ((x4_1 + (1 : Int32)), o6, x4_1) h _ _ hP hD hS _ (lv_sub hl [0, 1, 2, 4, 5] rfl)
        · have h := sp_t c5 h
          refine lv_goto (tgt := 69) hx hb dX1_bestSet_27 (by decide) ?_
          refine lv_iinc (v := (x4_1 + (1 : Int32))) (lv' := [(4, .int (x4_1 + (1 : Int32))), (3, .int x3_1), (2, .int x2_1), (0, .ref (ya 0)), (1, .int i1)]) hx hb dX1_bestSet_69 hl (k := 0) rfl rfl (by decide) rfl (fun ls hl => ?_)
          refine lv_goto (tgt := 7) hx hb dX1_bestSet_72 (by decide) ?_
          exact ih_1 ((x4_1 + (1 : Int32)), x3_1, x2_1) h _ _ hP hD hS _ (lv_sub hl [0, 1, 2, 3, 4] rfl)
    · exact LL 5000 ((1 : Int32), (0 : Int32), (0 : Int32)) h _ _ hP hD hS _ (lv_sub hl [0, 1, 2, 3, 4] rfl)
end
