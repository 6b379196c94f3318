def R_law : String := "LessonWeaveLaw"
def lw_P (b : Addr) (xs : List Int32) (args : Array Value) (s : State) : Prop := args = #[.ref b] ∧ s.IntsAt b xs ∧ xs.length ≤ 260 ∧ (Jvm.Cond.and given_1 narrow_1).before args s = true
def lw_Q (_ : Array Value) (s : State) (o : Outcome) (t : State) : Prop := o = .returned (some (.int 1)) ∧ Framed s o t [] 600104 7301313
def lw_Z (below : List Frame) (a : Array Value) (s : State) : State → Prop := fun t => ∃ o, t.status = .running ∧ Ended t below o ∧ lw_Q a s o t
theorem lw_ret {p : Program} {l : Launch} {e : Env} {s : State} {m : MethodId} {below : List Frame} {meth : Method} {c : Code} {b : Nat} (hx : p.tables.exec = Jvm.exec) (hb : c.code = code) (hr : meth.sig.returnType = ret) (hlocks : meth.locks = false) {pc : Nat} {H : Heap} {ls : Array Slot} (hdg : decode code pc = .ok (.ireturn, 1)) : W p l e room_1 s m #[Value.ref b] below meth c H [] 600104 7301313 (lw_Z below #[Value.ref b] s) (F0 m pc ls [.int 1]) := by
  intro T hT X
  obtain ⟨fs, hret, hrun, hended, hW, hframe⟩ := X.leave (v := some (.int 1)) (hlocks := hlocks) (fun h => by rw [hr] at h; cases h)
  have hmeth' : T.vm.method? m = some meth := X.method'
  refine ⟨T.setFrames fs, ?_, .returned (some (.int 1)), hrun, hended, rfl, ⟨_, rfl⟩, hW, hframe⟩
  jvm_step X.here [X.here.top, hx, hb, hdg, hmeth', hr, ret, narrow_b1]
  (try refine ⟨rfl, ?_⟩); (try refine ⟨rfl, ?_⟩)
  first | (intro acts; rw [hret _ acts rfl rfl rfl]) | rw [hret _ _ rfl rfl rfl]
  exact Steps.refl _
def lw_At (p : Program) (s : State) (m : MethodId) (meth : Method) (c : Code) (b L : Nat) (xs : Nat → Int32) : Prop :=
  p.tables.exec = Jvm.exec ∧ c.code = code ∧ meth.sig.returnType = ret ∧ c.maxLocals = 1 ∧ s.vm.findClass R_law = some m.cls ∧ (∀ w ∈ lw_tbl, w.before #[Value.ref b] s = true) ∧ va_X b L xs s s.heap ∧ b < s.heap.size ∧ meth.locks = false ∧ (Jvm.Cond.and given_1 narrow_1).before #[Value.ref b] s = true
section XW
variable {s : State} {args : Array Value}
theorem xw_NE (hts : ∀ w ∈ lw_tbl, w.before args s = true) : xk_NE s := ⟨va_Nw.of rfl (hts (.fieldLinkNest RX2 47 "LessonWeave$Syllabus" "count" "I" "LessonWeave") (by decide +kernel)), va_Nw.of rfl (hts (.fieldLinkNest RX0 73 "LessonWeave$Syllabus" "count" "I" "LessonWeave") (by decide +kernel)), va_Nw.of rfl (hts (.fieldLinkNest RX0 84 "LessonWeave$Syllabus" "lessons" "[I" "LessonWeave") (by decide +kernel)), va_Nw.of rfl (hts (.fieldLinkNest RX2 133 "LessonWeave$Syllabus" "lessons" "[I" "LessonWeave") (by decide +kernel)), va_Nw.of rfl (hts (.fieldLinkNest RX0 99 "LessonWeave$Syllabus" "kit" "[I" "LessonWeave") (by decide +kernel)), va_Nw.of rfl (hts (.fieldLinkNest RX2 108 "LessonWeave$Syllabus" "many" "[I" "LessonWeave") (by decide +kernel)), va_Nw.of rfl (hts (.fieldLinkNest RX0 87 "LessonWeave$Syllabus" "many" "[I" "LessonWeave") (by decide +kernel)), va_Nw.of rfl (hts (.fieldLinkNest RX2 111 "LessonWeave$Syllabus" "gap" "[I" "LessonWeave") (by decide +kernel)), va_Nw.of rfl (hts (.fieldLinkNest RX0 93 "LessonWeave$Syllabus" "gap" "[I" "LessonWeave") (by decide +kernel)), va_Nw.of rfl (hts (.fieldLinkNest RX2 74 "LessonWeave$Syllabus" "needs" "[I" "LessonWeave") (by decide +kernel)), va_Nw.of rfl (hts (.fieldLinkNest RX2 116 "LessonWeave$Syllabus" "order" "[I" "LessonWeave") (by decide +kernel)), va_Nw.of rfl (hts (.fieldLinkNest RX0 96 "LessonWeave$Syllabus" "order" "[I" "LessonWeave") (by decide +kernel)), va_Nw.of rfl (hts (.fieldLinkNest RX2 130 "LessonWeave$Plan" "things" "[I" "LessonWeave") (by decide +kernel)), va_Nw.of rfl (hts (.fieldLinkNest RX2 138 "LessonWeave$Plan" "lessonDays" "[I" "LessonWeave") (by decide +kernel)), va_Nw.of rfl (hts (.fieldLinkNest RX2 143 "LessonWeave$Plan" "revisitDays" "[I" "LessonWeave") (by decide +kernel)), va_Nw.of rfl (hts (.fieldLinkNest RX2 146 "LessonWeave$Plan" "laidCount" "I" "LessonWeave") (by decide +kernel)), va_Nw.of rfl (hts (.fieldLinkNest RX2 149 "LessonWeave$Plan" "lateCount" "I" "LessonWeave") (by decide +kernel)), va_Nw.of rfl (hts (.fieldLinkNest RX2 152 "LessonWeave$Plan" "lastUsed" "I" "LessonWeave") (by decide +kernel)), va_Nw.of rfl (hts (.methodLinkNest RX1 47 yX2_has "LessonWeave") (by decide +kernel))⟩
theorem xw_XB (hts : ∀ w ∈ lw_tbl, w.before args s = true) : xk_XB s := ⟨va_Nw.of rfl (hts (.declares (Bundle.initS "java/lang/RuntimeException")) (by decide +kernel)), va_Nw.of rfl (hts (.declares (Bundle.initS "java/lang/Exception")) (by decide +kernel)), va_Nw.of rfl (hts (.declares (Bundle.initS Bundle.tN)) (by decide +kernel)), va_Nw.of rfl (hts (.castable "java/lang/IllegalArgumentException" "java/lang/IllegalArgumentException") (by decide +kernel)), va_Nw.of rfl (hts (.castable "java/lang/IllegalStateException" "java/lang/IllegalStateException") (by decide +kernel)), va_Nw.of rfl (hts (.castable "java/lang/IndexOutOfBoundsException" "java/lang/IndexOutOfBoundsException") (by decide +kernel)), va_Nw.of rfl (hts (.castable "java/util/NoSuchElementException" "java/util/NoSuchElementException") (by decide +kernel))⟩
theorem xw_S36 (hts : ∀ w ∈ lw_tbl, w.before args s = true) (hgv : (Jvm.Cond.and given_1 narrow_1).before args s = true) : xk_S1 36 "an aim has 1 to 5 lessons" s := by
  obtain ⟨a, -, -, -, ha, -⟩ := Cond.exactly_spec (flat_of_before _ hgv (.exactly (.string RX2 36) "java/lang/String") (by decide +kernel))
  exact ⟨a, vk_R.of (hts (.stringRef RX2 36 "an aim has 1 to 5 lessons") (by decide +kernel)) ha⟩
theorem xw_S41 (hts : ∀ w ∈ lw_tbl, w.before args s = true) (hgv : (Jvm.Cond.and given_1 narrow_1).before args s = true) : xk_S1 41 "a kind is 0 to 3" s := by
  obtain ⟨a, -, -, -, ha, -⟩ := Cond.exactly_spec (flat_of_before _ hgv (.exactly (.string RX2 41) "java/lang/String") (by decide +kernel))
  exact ⟨a, vk_R.of (hts (.stringRef RX2 41 "a kind is 0 to 3") (by decide +kernel)) ha⟩
theorem xw_S43 (hts : ∀ w ∈ lw_tbl, w.before args s = true) (hgv : (Jvm.Cond.and given_1 narrow_1).before args s = true) : xk_S1 43 "a worth is 1 to 99" s := by
  obtain ⟨a, -, -, -, ha, -⟩ := Cond.exactly_spec (flat_of_before _ hgv (.exactly (.string RX2 43) "java/lang/String") (by decide +kernel))
  exact ⟨a, vk_R.of (hts (.stringRef RX2 43 "a worth is 1 to 99") (by decide +kernel)) ha⟩
theorem xw_S45 (hts : ∀ w ∈ lw_tbl, w.before args s = true) (hgv : (Jvm.Cond.and given_1 narrow_1).before args s = true) : xk_S1 45 "a kit is 0 to 2, or NONE" s := by
  obtain ⟨a, -, -, -, ha, -⟩ := Cond.exactly_spec (flat_of_before _ hgv (.exactly (.string RX2 45) "java/lang/String") (by decide +kernel))
  exact ⟨a, vk_R.of (hts (.stringRef RX2 45 "a kit is 0 to 2, or NONE") (by decide +kernel)) ha⟩
theorem xw_S53 (hts : ∀ w ∈ lw_tbl, w.before args s = true) (hgv : (Jvm.Cond.and given_1 narrow_1).before args s = true) : xk_S1 53 "there are 12 aims already" s := by
  obtain ⟨a, -, -, -, ha, -⟩ := Cond.exactly_spec (flat_of_before _ hgv (.exactly (.string RX2 53) "java/lang/String") (by decide +kernel))
  exact ⟨a, vk_R.of (hts (.stringRef RX2 53 "there are 12 aims already") (by decide +kernel)) ha⟩
theorem xw_S69 (hts : ∀ w ∈ lw_tbl, w.before args s = true) (hgv : (Jvm.Cond.and given_1 narrow_1).before args s = true) : xk_S1 69 "there is no such aim" s := by
  obtain ⟨a, -, -, -, ha, -⟩ := Cond.exactly_spec (flat_of_before _ hgv (.exactly (.string RX2 69) "java/lang/String") (by decide +kernel))
  exact ⟨a, vk_R.of (hts (.stringRef RX2 69 "there is no such aim") (by decide +kernel)) ha⟩
theorem xw_S72 (hts : ∀ w ∈ lw_tbl, w.before args s = true) (hgv : (Jvm.Cond.and given_1 narrow_1).before args s = true) : xk_S1 72 "no aim needs itself" s := by
  obtain ⟨a, -, -, -, ha, -⟩ := Cond.exactly_spec (flat_of_before _ hgv (.exactly (.string RX2 72) "java/lang/String") (by decide +kernel))
  exact ⟨a, vk_R.of (hts (.stringRef RX2 72 "no aim needs itself") (by decide +kernel)) ha⟩
theorem xw_S82 (hts : ∀ w ∈ lw_tbl, w.before args s = true) (hgv : (Jvm.Cond.and given_1 narrow_1).before args s = true) : xk_S1 82 "it needs the other one already" s := by
  obtain ⟨a, -, -, -, ha, -⟩ := Cond.exactly_spec (flat_of_before _ hgv (.exactly (.string RX2 82) "java/lang/String") (by decide +kernel))
  exact ⟨a, vk_R.of (hts (.stringRef RX2 82 "it needs the other one already") (by decide +kernel)) ha⟩
theorem xw_S88 (hts : ∀ w ∈ lw_tbl, w.before args s = true) (hgv : (Jvm.Cond.and given_1 narrow_1).before args s = true) : xk_S1 88 "the other one needs it" s := by
  obtain ⟨a, -, -, -, ha, -⟩ := Cond.exactly_spec (flat_of_before _ hgv (.exactly (.string RX2 88) "java/lang/String") (by decide +kernel))
  exact ⟨a, vk_R.of (hts (.stringRef RX2 88 "the other one needs it") (by decide +kernel)) ha⟩
theorem xw_S101 (hts : ∀ w ∈ lw_tbl, w.before args s = true) (hgv : (Jvm.Cond.and given_1 narrow_1).before args s = true) : xk_S1 101 "it does not need the other one by itself" s := by
  obtain ⟨a, -, -, -, ha, -⟩ := Cond.exactly_spec (flat_of_before _ hgv (.exactly (.string RX2 101) "java/lang/String") (by decide +kernel))
  exact ⟨a, vk_R.of (hts (.stringRef RX2 101 "it does not need the other one by itself") (by decide +kernel)) ha⟩
theorem xw_S104 (hts : ∀ w ∈ lw_tbl, w.before args s = true) (hgv : (Jvm.Cond.and given_1 narrow_1).before args s = true) : xk_S1 104 "an aim has 0 to 3 revisits" s := by
  obtain ⟨a, -, -, -, ha, -⟩ := Cond.exactly_spec (flat_of_before _ hgv (.exactly (.string RX2 104) "java/lang/String") (by decide +kernel))
  exact ⟨a, vk_R.of (hts (.stringRef RX2 104 "an aim has 0 to 3 revisits") (by decide +kernel)) ha⟩
theorem xw_S106 (hts : ∀ w ∈ lw_tbl, w.before args s = true) (hgv : (Jvm.Cond.and given_1 narrow_1).before args s = true) : xk_S1 106 "a gap is 1 to 20" s := by
  obtain ⟨a, -, -, -, ha, -⟩ := Cond.exactly_spec (flat_of_before _ hgv (.exactly (.string RX2 106) "java/lang/String") (by decide +kernel))
  exact ⟨a, vk_R.of (hts (.stringRef RX2 106 "a gap is 1 to 20") (by decide +kernel)) ha⟩
theorem xw_S114 (hts : ∀ w ∈ lw_tbl, w.before args s = true) (hgv : (Jvm.Cond.and given_1 narrow_1).before args s = true) : xk_S1 114 "there are not so many aims" s := by
  obtain ⟨a, -, -, -, ha, -⟩ := Cond.exactly_spec (flat_of_before _ hgv (.exactly (.string RX2 114) "java/lang/String") (by decide +kernel))
  exact ⟨a, vk_R.of (hts (.stringRef RX2 114 "there are not so many aims") (by decide +kernel)) ha⟩
theorem xw_S122 (hts : ∀ w ∈ lw_tbl, w.before args s = true) (hgv : (Jvm.Cond.and given_1 narrow_1).before args s = true) : xk_S1 122 "there is no such day" s := by
  obtain ⟨a, -, -, -, ha, -⟩ := Cond.exactly_spec (flat_of_before _ hgv (.exactly (.string RX2 122) "java/lang/String") (by decide +kernel))
  exact ⟨a, vk_R.of (hts (.stringRef RX2 122 "there is no such day") (by decide +kernel)) ha⟩
theorem xw_S124 (hts : ∀ w ∈ lw_tbl, w.before args s = true) (hgv : (Jvm.Cond.and given_1 narrow_1).before args s = true) : xk_S1 124 "the day is lost already" s := by
  obtain ⟨a, -, -, -, ha, -⟩ := Cond.exactly_spec (flat_of_before _ hgv (.exactly (.string RX2 124) "java/lang/String") (by decide +kernel))
  exact ⟨a, vk_R.of (hts (.stringRef RX2 124 "the day is lost already") (by decide +kernel)) ha⟩
theorem xw_S136 (hts : ∀ w ∈ lw_tbl, w.before args s = true) (hgv : (Jvm.Cond.and given_1 narrow_1).before args s = true) : xk_S1 136 "the aim has no such lesson" s := by
  obtain ⟨a, -, -, -, ha, -⟩ := Cond.exactly_spec (flat_of_before _ hgv (.exactly (.string RX2 136) "java/lang/String") (by decide +kernel))
  exact ⟨a, vk_R.of (hts (.stringRef RX2 136 "the aim has no such lesson") (by decide +kernel)) ha⟩
theorem xw_S141 (hts : ∀ w ∈ lw_tbl, w.before args s = true) (hgv : (Jvm.Cond.and given_1 narrow_1).before args s = true) : xk_S1 141 "the aim has no such revisit" s := by
  obtain ⟨a, -, -, -, ha, -⟩ := Cond.exactly_spec (flat_of_before _ hgv (.exactly (.string RX2 141) "java/lang/String") (by decide +kernel))
  exact ⟨a, vk_R.of (hts (.stringRef RX2 141 "the aim has no such revisit") (by decide +kernel)) ha⟩
theorem xw_S155 (hts : ∀ w ∈ lw_tbl, w.before args s = true) (hgv : (Jvm.Cond.and given_1 narrow_1).before args s = true) : xk_S1 155 "a price is 0 to 99" s := by
  obtain ⟨a, -, -, -, ha, -⟩ := Cond.exactly_spec (flat_of_before _ hgv (.exactly (.string RX2 155) "java/lang/String") (by decide +kernel))
  exact ⟨a, vk_R.of (hts (.stringRef RX2 155 "a price is 0 to 99") (by decide +kernel)) ha⟩
theorem xw_SR (hts : ∀ w ∈ lw_tbl, w.before args s = true) (hgv : (Jvm.Cond.and given_1 narrow_1).before args s = true) : xk_SR s := ⟨xw_S36 hts hgv, xw_S41 hts hgv, xw_S43 hts hgv, xw_S45 hts hgv, xw_S53 hts hgv, xw_S69 hts hgv, xw_S72 hts hgv, xw_S82 hts hgv, xw_S88 hts hgv, xw_S101 hts hgv, xw_S104 hts hgv, xw_S106 hts hgv, xw_S114 hts hgv, xw_S122 hts hgv, xw_S124 hts hgv, xw_S136 hts hgv, xw_S141 hts hgv, xw_S155 hts hgv⟩
theorem xw_ZX (hts : ∀ w ∈ lw_tbl, w.before args s = true) (hgv : (Jvm.Cond.and given_1 narrow_1).before args s = true) : xk_ZX (fun q => s.heap.size ≤ q) s s.heap := ⟨vx_Zqof (hts (.laysStatic Bundle.tN "UNASSIGNED_STACK" Bundle.steD) (by decide +kernel)) (hts (.initialized Bundle.tN) (by decide +kernel)) (flat_of_before _ hgv (.isRef (.static Bundle.tN "UNASSIGNED_STACK" Bundle.steD)) (by decide +kernel)) (fun a ha hq => Nat.not_le.mpr ha hq), vx_Zqof (hts (.laysStatic Bundle.tN "SUPPRESSED_SENTINEL" Bundle.listD) (by decide +kernel)) (hts (.initialized Bundle.tN) (by decide +kernel)) (flat_of_before _ hgv (.isRef (.static Bundle.tN "SUPPRESSED_SENTINEL" Bundle.listD)) (by decide +kernel)) (fun a ha hq => Nat.not_le.mpr ha hq)⟩
theorem xw_inX0 : ∀ w ∈ u_ws RX0 TX0 9, w ∈ lw_tbl := fun w h => inX0 w ((by decide +kernel : ∀ w ∈ u_ws RX0 TX0 9, w ∈ wsX00) w h)
theorem xw_inX1 : ∀ w ∈ u_ws RX1 TX1 9, w ∈ lw_tbl := fun w h => inX1 w ((by decide +kernel : ∀ w ∈ u_ws RX1 TX1 9, w ∈ wsX10) w h)
theorem xw_inX2 : ∀ w ∈ u_ws RX2 TX2 4, w ∈ lw_tbl := fun w h => inX2 w ((by decide +kernel : ∀ w ∈ u_ws RX2 TX2 4, w ∈ wsX20) w h)
theorem xw_arr {ty : FieldType} (h : (Cond.arrayClass ty).before args s = true) : ∃ cA : ClassId, ArrOfT s cA ty ∧ s.vm.findClass ("[" ++ ty.toString) = some cA := by
  obtain ⟨cA, kA, comp, h1, h2, h3⟩ := Cond.arrayClass_spec h
  exact ⟨cA, fun n z => ⟨(fun k h => by cases h), kA, h2, comp, h3⟩, h1⟩
theorem xw_K (hts : ∀ w ∈ lw_tbl, w.before args s = true) : ∃ G : xG, va_K G.1 vwCl (xT G) s := by
  obtain ⟨c0, i0, k0⟩ := u_known (C := RX0) (T := TX0) (N := 9) (n := 9) hts xw_inX0 (hts (.instantiable RX0 9) (by decide +kernel))
  obtain ⟨c1, i1, k1⟩ := u_known (C := RX1) (T := TX1) (N := 9) (n := 9) hts xw_inX1 (hts (.instantiable RX1 9) (by decide +kernel))
  obtain ⟨c2, i2, k2⟩ := u_known (C := RX2) (T := TX2) (N := 4) (n := 4) hts xw_inX2 (hts (.instantiable RX2 4) (by decide +kernel))
  obtain ⟨aI, eI, fI⟩ := xw_arr (hts (.arrayClass .int) (by decide +kernel))
  obtain ⟨aZ, eZ, fZ⟩ := xw_arr (hts (.arrayClass .boolean) (by decide +kernel))
  obtain ⟨aJ, eJ, fJ⟩ := xw_arr (hts (.arrayClass .long) (by decide +kernel))
  refine ⟨((fun k => if k = 0 then c0 else if k = 1 then c1 else c2, fun k => if k = 0 then i0 else if k = 1 then i1 else i2), aI, aZ, aJ), fun k q hq => ?_, fun k q hq => ?_⟩
  · match k, hq with
    | 0, hq => cases hq; exact k0
    | 1, hq => cases hq; exact k1
    | 2, hq => cases hq; exact k2
    | k + 3, hq => simp at hq
  · match k, hq with
    | 0, hq => cases hq; exact ⟨eI, fI⟩
    | 1, hq => cases hq; exact ⟨eZ, fZ⟩
    | 2, hq => cases hq; exact ⟨eJ, fJ⟩
    | k + 3, hq => simp at hq
end XW
set_option maxHeartbeats 8000000 in
set_option maxRecDepth 100000 in
theorem whole_start {p : Program} {e : Env} {s : State} {m : MethodId} {below : List Frame} {meth : Method} {c : Code} (l : Launch) (hflags : l.flags = flags0) {b L : Nat} {xs : Nat → Int32} (hL : L ≤ 260) (C0 : lw_At p s m meth c b L xs) : W p l e room_1 s m #[Value.ref b] below meth c s.heap [] 0 0 (lw_Z below #[Value.ref b] s) (entryFrame m ([Value.ref b] : List Value).toArray 1) := by
  obtain ⟨hx, hb, hr, hml, hown, htb, hX, hbl, hlocks, hgv⟩ := id C0
  have hl9 : l.stackTraces = false := by
    show (!l.flags.contains noTraceFlag) = false
    rw [hflags]
    decide +kernel
  have hown : s.vm.findClass RL = some m.cls := hown
  have hts := fun w h => htb w (wsL_law_in w h)
  have hNE := xw_NE htb
  have hXB := xw_XB htb
  have hSR := xw_SR htb hgv
  have hZX := xw_ZX htb hgv
  obtain ⟨G, hK⟩ := xw_K htb
  have hA : ∀ q : Nat, s.heap.size ≤ q → (fun q : Nat => s.heap.size ≤ q) q := fun _ h => h
  have hbA : ¬ (fun q : Nat => s.heap.size ≤ q) b := Nat.not_le.mpr hbl
  obtain ⟨P0, ho, hY⟩ := xq_years (L9 := L) xs (by omega)
  have hy0 : f_L_year L xs (0 : Int32) P0 = some 1 := hY 0 (by omega)
  have hy1 : f_L_year L xs (115 : Int32) P0 = some 1 := hY 115 (by omega)
  have hy2 : f_L_year L xs (230 : Int32) P0 = some 1 := hY 230 (by omega)
  have hS : va_S (fun q : Nat => s.heap.size ≤ q) s.heap s.heap [] := va_S.rf
  have hP : va_P G.1 vwCl [] s.heap := xf_p0
  have hD : va_D (fun q : Nat => s.heap.size ≤ q) [] := xf_d0
  have hl := lv_entry ([.ref b]) (n := 1) (Nat.le_of_ble_eq_true rfl)
  rw [lg_entry_eq]
  generalize (lg_sl ([.ref b]) ++ List.replicate (1 - (lg_sl ([.ref b])).length) Slot.unset).toArray = ls at hl ⊢
  have hl : lv_has ls 1 [(0, .ref b)] := hl
  refine lv_aload_n hx hb dL_law_0 rfl (lv_at hl 0 rfl) ?_
  refine lv_iconst (v := (0 : Int32)) hx hb dL_law_1 (by decide) ?_
  refine xf_ce0 (va_runS (As := [.ref b, .int (0 : Int32)]) (rest := []) ⟨hx, hb, hml, hown, hts⟩ (c_L_year l hl9 G b L xs (0 : Int32) P0 1 ho hy0 s.heap.size) (va_cwS 2 hts gL_law_L_year rfl rfl rfl (by decide +kernel) ⟨(Nat.le_of_ble_eq_true rfl), (Nat.le_of_ble_eq_true rfl)⟩) (xk_preE hK hNE hXB hSR hZX hX hbl hbA hS (fun q h => xf_fr0 hS hA q h) (xf_p0 : va_P G.1 vwCl [] s.heap) (xf_d0 : va_D (fun q : Nat => s.heap.size ≤ q) [])) rfl rfl hl.1 rfl (lv_room (Nat.le_of_ble_eq_true rfl)) dL_law_2 ⟨(Nat.le_of_ble_eq_true rfl), (Nat.le_of_ble_eq_true rfl)⟩) hP hD hS hA (fun H locs hP hD hS => ?_)
  refine lv_if_eq (tgt := 31) hx hb dL_law_5 (by decide) (fun cc => absurd cc (by decide)) (fun _ => ?_)
  refine lv_aload_n hx hb dL_law_8 rfl (lv_at hl 0 rfl) ?_
  refine lv_bipush (v := (115 : Int32)) hx hb dL_law_9 (by decide) ?_
  refine xf_ce0 (va_runS (As := [.ref b, .int (115 : Int32)]) (rest := []) ⟨hx, hb, hml, hown, hts⟩ (c_L_year l hl9 G b L xs (115 : Int32) P0 1 ho hy1 H.size) (va_cwS 2 hts gL_law_L_year rfl rfl rfl (by decide +kernel) ⟨(Nat.le_of_ble_eq_true rfl), (Nat.le_of_ble_eq_true rfl)⟩) (xk_preE hK hNE hXB hSR hZX hX hbl hbA hS (fun q h => xf_fr0 hS hA q h) (xf_p0 : va_P G.1 vwCl [] H) (xf_d0 : va_D (fun q : Nat => s.heap.size ≤ q) [])) rfl rfl hl.1 rfl (lv_room (Nat.le_of_ble_eq_true rfl)) dL_law_11 ⟨(Nat.le_of_ble_eq_true rfl), (Nat.le_of_ble_eq_true rfl)⟩) hP hD hS hA (fun H locs hP hD hS => ?_)
  refine lv_if_eq (tgt := 31) hx hb dL_law_14 (by decide) (fun cc => absurd cc (by decide)) (fun _ => ?_)
  refine lv_aload_n hx hb dL_law_17 rfl (lv_at hl 0 rfl) ?_
  refine lv_sipush (v := (230 : Int32)) hx hb dL_law_18 (by decide) ?_
  refine xf_ce0 (va_runS (As := [.ref b, .int (230 : Int32)]) (rest := []) ⟨hx, hb, hml, hown, hts⟩ (c_L_year l hl9 G b L xs (230 : Int32) P0 1 ho hy2 H.size) (va_cwS 2 hts gL_law_L_year rfl rfl rfl (by decide +kernel) ⟨(Nat.le_of_ble_eq_true rfl), (Nat.le_of_ble_eq_true rfl)⟩) (xk_preE hK hNE hXB hSR hZX hX hbl hbA hS (fun q h => xf_fr0 hS hA q h) (xf_p0 : va_P G.1 vwCl [] H) (xf_d0 : va_D (fun q : Nat => s.heap.size ≤ q) [])) rfl rfl hl.1 rfl (lv_room (Nat.le_of_ble_eq_true rfl)) dL_law_21 ⟨(Nat.le_of_ble_eq_true rfl), (Nat.le_of_ble_eq_true rfl)⟩) hP hD hS hA (fun H locs hP hD hS => ?_)
  refine lv_if_eq (tgt := 31) hx hb dL_law_24 (by decide) (fun cc => absurd cc (by decide)) (fun _ => ?_)
  refine lv_iconst (v := (1 : Int32)) hx hb dL_law_27 (by decide) ?_
  refine lv_goto (tgt := 32) hx hb dL_law_28 (by decide) ?_
  refine va_forget (fun q hq => hS.2.2 q hq) ?_
  refine W.widen (k := 600104) (n := 7301313) (by omega) (by omega) ?_
  exact lw_ret hx hb hr hlocks dL_law_32
set_option maxHeartbeats 4000000 in
theorem lw_walk (l : Launch) (hflags : l.flags = flags0) (b : Addr) (xs : List Int32) : MetFree l x (headSpec (Jvm.Cond.code x code maxLocals ret :: tables_1) room_1) (lw_P b xs) (fun _ _ _ _ _ => True) lw_Q := by
  refine MetFree.of_bodyS (code := code) (maxLocals := maxLocals) (ret := ret) (by decide) ?_ ?_
  · intro args s m h hn
    obtain ⟨meth, c, h1, h2, h3, h4, h5, h6, -, -⟩ := Cond.code_spec hn (atoms_spec (ws := Jvm.Cond.code x code maxLocals ret :: tables_1) h _ List.mem_cons_self)
    exact ⟨meth, c, h1, h2, h3, h4, h5, h6⟩
  · intro p e s m args below meth c s₁ B hml0 hP _
    obtain ⟨rfl, hx, hbd, hgv⟩ := hP
    obtain ⟨scr, harrAt, hlist, hof, hsmall⟩ := hx
    obtain ⟨hcb, hkn, -, -⟩ := State.arrayAt?_spec harrAt
    have hown : s.vm.findClass R_law = some m.cls := findClass_of_methodNamed B.named
    have hts0 : ∀ c ∈ (Jvm.Cond.code x code maxLocals ret :: tables_1), c.before #[Value.ref b] s = true := atoms_spec (ws := Jvm.Cond.code x code maxLocals ret :: tables_1) B.pre
    have hts : ∀ w ∈ lw_tbl, w.before #[Value.ref b] s = true := k2_hts_sels lw_privs (fun w hw => hts0 w (List.mem_cons_of_mem _ hw)) lw_privs_ok
    have hml : c.maxLocals = 1 := B.maxLocals_eq (hts0 _ List.mem_cons_self)
    have X₀ : Stand p l e room_1 s m #[Value.ref b] below meth c s₁ [] 0 0 := Stand.of_body B
    have hh0 : s₁.heap = s.heap := by rw [B.state]; rfl
    have hsz : scr.slots.size = xs.length := by rw [← Array.length_toList, hlist, List.length_map]
    have hval : ∀ j : Nat, j < xs.length → scr.slots[j]? = some (.int (xs.getD j 0)) := fun j hj => by
      rw [← Array.getElem?_toList, hlist]
      simp [hj]
    have hbl : b < s.heap.size := (Array.getElem?_eq_some_iff.mp hcb).1
    have hX : va_X b xs.length (fun j => xs.getD j 0) s s.heap := ⟨scr, hcb, hof, hkn, hsz, hval⟩
    have K : W p l e room_1 s m #[Value.ref b] below meth c s₁.heap [] 0 0 (lw_Z below #[Value.ref b] s) (entryFrame m ([Value.ref b] : List Value).toArray 1) := by
      rw [hh0]
      exact whole_start l hflags hbd ⟨B.exec, B.bytes, B.returns, hml, hown, hts, hX, hbl, B.notSynchronized, hgv⟩
    obtain ⟨t, a1, o, b1, b2, b3⟩ := K s₁ rfl X₀
    exact ⟨t, o, a1, b1, b2, b3⟩
theorem lw_pre_spec {args : Array Value} {s : State} (h : (Jvm.Cond.and given_1 narrow_1).before args s = true) (hr : rest_1_c.before args s = true) : ∃ (b : Addr) (xs : List Int32), lw_P b xs args s := by
  have hs := flat_of_before _ h
  have hq := flat_of_before _ hr
  have hc : (Cond.count 1).before args s = true := hs _ (by decide +kernel)
  have harr : (Cond.arrayOf (.arg 0) .int).before args s = true := hs _ (by decide +kernel)
  have hle : (Cond.le (.length (.arg 0)) (.int 260)).before args s = true := hs _ (by decide +kernel)
  have hlen : (Cond.isInt (.length (.arg 0))).before args s = true := hq _ (by decide +kernel)
  have hall : (Cond.all (.arg 0) (.isInt (.elem (.arg 0) (.index 0)))).before args s = true := hq _ (by decide +kernel)
  obtain ⟨b, xs, hb, hx⟩ := State.ints_of_pre rfl harr hlen hall
  have hsm : xs.length < 2 ^ 31 := hx.choose_spec.2.2.2
  have hev : (Term.length (.arg 0)).eval args s none [] s = some (.int xs.length.toInt32) := hx.length_eval hb
  have hv := Cond.le_ints hev (show (Term.int 260).eval args s none [] s = some (.int 260) from rfl)
  have hd : xs.length.toInt32 ≤ 260 := by
    simpa [Cond.before, Cond.holds, hv] using hle
  have hN : xs.length ≤ 260 := (Int32.ofNat_le_ofNat hsm (by decide)).mp (show Int32.ofNat xs.length ≤ Int32.ofNat 260 from hd)
  exact ⟨b, xs, Cond.one_arg hc (show args[0]? = some (.ref b) from hb), hx, hN, h⟩
theorem lw_comes (l : Launch) (hflags : l.flags = flags0) : Comes l x (Jvm.Cond.code x code maxLocals ret :: tables_1) room_1 (fun tb e args s => Calls_1 tb e args s ∧ rest_1 tb e args s ∧ Pre_1 tb e args s)
    (fun _ _ args s o t => lw_Q args s o t) := by
  intro p e ha hc hk s m args below hf hfit hheap happ hpre
  obtain ⟨b, xs, hP⟩ := lw_pre_spec hpre.2.2 hpre.2.1
  obtain ⟨k, o, h1, h2, h3, hQ⟩ := lw_walk l hflags b xs p e ha hc hk s m args below hf ((Spec.applies_iff_loose hf).mp happ).1 hP trivial
  exact ⟨k, o, h1, h2, h3, hQ⟩
theorem lw_frame {s t : State} {o : Outcome} {args : Array Value} (h : Framed s o t [] 600104 7301313) :
    Framed s o t (fieldLocs frame_1_writes args s ++ arrayLocs frame_1_arrays args s ++ staticLocs frame_1_statics s) 600104 7301313 := h
theorem lw_limb (L : Cond) (hL : ∀ (args : Array Value) (s t : State), L.after args s (.returned (some (.int 1))) t = true) :
    ArmFor flags0 classFile x code maxLocals ret World_1 tables_1 room_1 Calls_1 rest_1 Pre_1
      (fun tb e a s o t => postC L tb e a s o t ∧ Framed s o t (fieldLocs frame_1_writes a s ++ arrayLocs frame_1_arrays a s ++ staticLocs frame_1_statics s) 600104 7301313) := by
  intro l hflags _ _ p e ha hc hk s m args below hf hfit hheap happ hpre
  obtain ⟨k, o, h1, h2, h3, rfl, hF⟩ := lw_comes l hflags p e ha hc hk s m args below hf hfit hheap happ hpre
  exact ⟨k, _, h1, h2, h3, hL args s _, lw_frame hF⟩
theorem i_vc : Claimed_1_1 ∧ Claimed_1_2 := ⟨lw_limb limb_1_1 (fun args s t => by simp [limb_1_1, Cond.after, Cond.holds, Cond.value]), lw_limb limb_1_2 (fun args s t => Cond.after_iff.mpr (by
  first | (rw [show limb_1_2 = Cond.eq .result (.int 1) from rfl, Cond.eq_ints (x := 1) (y := 1) rfl rfl]; simp; done) | (simp [limb_1_2, Cond.value, Term.eval]; done)))⟩
