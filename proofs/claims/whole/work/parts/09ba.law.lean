def R_law : String := "LessonWeaveLaw"
def lw_P (b : Addr) (xs : List Int32) (args : Array Value) (s : State) : Prop := args = #[.ref b] ∧ s.IntsAt b xs ∧ xs.length ≤ 2560 ∧ (Jvm.Cond.and given_1 narrow_1).before args s = true
def lw_Q (_ : Array Value) (s : State) (o : Outcome) (t : State) : Prop := o = .returned (some (.int 1)) ∧ Framed s o t [] 1091 9564
def lw_Z (below : List Frame) (a : Array Value) (s : State) : State → Prop := fun t => ∃ o, t.status = .running ∧ Ended t below o ∧ lw_Q a s o t
theorem lw_ret {p : Program} {l : Launch} {e : Env} {s : State} {m : MethodId} {below : List Frame} {meth : Method} {c : Code} {b : Nat} (hx : p.tables.exec = Jvm.exec) (hb : c.code = code) (hr : meth.sig.returnType = ret) (hlocks : meth.locks = false) {pc : Nat} {H : Heap} {ls : Array Slot} (hdg : decode code pc = .ok (.ireturn, 1)) : W p l e room_1 s m #[Value.ref b] below meth c H [] 1091 9564 (lw_Z below #[Value.ref b] s) (F0 m pc ls [.int 1]) := by
  intro T hT X
  obtain ⟨fs, hret, hrun, hended, hW, hframe⟩ := X.leave (v := some (.int 1)) (hlocks := hlocks) (fun h => by rw [hr] at h; cases h)
  have hmeth' : T.vm.method? m = some meth := X.method'
  refine ⟨T.setFrames fs, ?_, .returned (some (.int 1)), hrun, hended, rfl, ⟨_, rfl⟩, hW, hframe⟩
  jvm_step X.here [X.here.top, hx, hb, hdg, hmeth', hr, ret, narrow_b1]
  (try refine ⟨rfl, ?_⟩); (try refine ⟨rfl, ?_⟩)
  first | (intro acts; rw [hret _ acts rfl rfl rfl]) | rw [hret _ _ rfl rfl rfl]
  exact Steps.refl _
def lw_At (p : Program) (s : State) (m : MethodId) (meth : Method) (c : Code) (b L : Nat) (xs : Nat → Int32) : Prop :=
  p.tables.exec = Jvm.exec ∧ c.code = code ∧ meth.sig.returnType = ret ∧ c.maxLocals = 7 ∧ s.vm.findClass R_law = some m.cls ∧ (∀ w ∈ lw_tbl, w.before #[Value.ref b] s = true) ∧ va_X b L xs s s.heap ∧ b < s.heap.size ∧ meth.locks = false ∧ (Jvm.Cond.and given_1 narrow_1).before #[Value.ref b] s = true
theorem xk_lc {x y : Int64} : lg_cmp x y = 0 ↔ x = y := by
  unfold lg_cmp
  by_cases h1 : y < x
  · simp only [h1, if_true]
    constructor
    · intro h; exact absurd h (by decide)
    · intro h; subst h; exact absurd h1 (by simp)
  · simp only [h1, if_false]
    by_cases h2 : x = y
    · simp [h2]
    · simp [h2]
theorem xk_sw {x : Int32} (h0 : ¬ x = 0) (h1 : ¬ x = 1) (h2 : ¬ x = 2) (h3 : ¬ x = 3) (h4 : ¬ x = 4) (h5 : ¬ x = 5) (h6 : ¬ x = 6) (h7 : ¬ x = 7) (h8 : ¬ x = 8) (h9 : ¬ x = 9) (h10 : ¬ x = 10) (h11 : ¬ x = 11) (h12 : ¬ x = 12) (h13 : ¬ x = 13) (h14 : ¬ x = 14) (h15 : ¬ x = 15) (h16 : ¬ x = 16) : x.toInt < 0 ∨ 16 < x.toInt := by
  have e : ∀ k : Int32, ¬ x = k → ¬ x.toInt = k.toInt := fun k h z => h (Int32.toInt_inj.mp z)
  have a0 := e _ h0; have a1 := e _ h1; have a2 := e _ h2; have a3 := e _ h3; have a4 := e _ h4; have a5 := e _ h5; have a6 := e _ h6; have a7 := e _ h7; have a8 := e _ h8; have a9 := e _ h9; have a10 := e _ h10; have a11 := e _ h11; have a12 := e _ h12; have a13 := e _ h13; have a14 := e _ h14; have a15 := e _ h15; have a16 := e _ h16
  rw [show (0 : Int32).toInt = 0 from rfl] at a0
  rw [show (1 : Int32).toInt = 1 from rfl] at a1
  rw [show (2 : Int32).toInt = 2 from rfl] at a2
  rw [show (3 : Int32).toInt = 3 from rfl] at a3
  rw [show (4 : Int32).toInt = 4 from rfl] at a4
  rw [show (5 : Int32).toInt = 5 from rfl] at a5
  rw [show (6 : Int32).toInt = 6 from rfl] at a6
  rw [show (7 : Int32).toInt = 7 from rfl] at a7
  rw [show (8 : Int32).toInt = 8 from rfl] at a8
  rw [show (9 : Int32).toInt = 9 from rfl] at a9
  rw [show (10 : Int32).toInt = 10 from rfl] at a10
  rw [show (11 : Int32).toInt = 11 from rfl] at a11
  rw [show (12 : Int32).toInt = 12 from rfl] at a12
  rw [show (13 : Int32).toInt = 13 from rfl] at a13
  rw [show (14 : Int32).toInt = 14 from rfl] at a14
  rw [show (15 : Int32).toInt = 15 from rfl] at a15
  rw [show (16 : Int32).toInt = 16 from rfl] at a16
  omega
theorem xf_pl {D : va_G} {cl : List vw_C} {a b : va_W} {H : Heap} (h : va_P D cl (a ++ b) H) : va_P D cl a H := fun k q hq => h k q (by
  rw [List.getElem?_append_left (List.getElem?_eq_some_iff.mp hq).1]; exact hq)
theorem xf_at {a b : va_W} {k : Nat} {q : Nat × va_E} (h : b[k]? = some q) : (a ++ b)[a.length + k]? = some q := by
  rw [List.getElem?_append_right (Nat.le_add_right _ _), Nat.add_sub_cancel_left]; exact h
theorem xf_al {a b : va_W} {k : Nat} {q : Nat × va_E} (h : a[k]? = some q) : (a ++ b)[k]? = some q := by
  rw [List.getElem?_append_left (List.getElem?_eq_some_iff.mp h).1]; exact h
theorem xf_pr {D : va_G} {cl : List vw_C} {a b : va_W} {H : Heap} (h : va_P D cl (a ++ b) H) : va_P D cl b H := fun k q hq => h (a.length + k) q (xf_at hq)
theorem xf_dl {A : Nat → Prop} {a b : va_W} (h : va_D A (a ++ b)) : va_D A a := ⟨fun i j p q hi hj e => h.1 i j p q (xf_al hi) (xf_al hj) e, fun k q hk => h.2 k q (xf_al hk)⟩
theorem xf_dr {A : Nat → Prop} {a b : va_W} (h : va_D A (a ++ b)) : va_D A b := ⟨fun i j p q hi hj e => by
  have := h.1 (a.length + i) (a.length + j) p q (xf_at hi) (xf_at hj) e
  omega, fun k q hk => h.2 (a.length + k) q (xf_at hk)⟩
theorem xf_psw {D : va_G} {cl : List vw_C} {a b : va_W} {H : Heap} (h : va_P D cl (a ++ b) H) : va_P D cl (b ++ a) H := va_P.app (xf_pr h) (xf_pl h)
theorem xf_dsw {A : Nat → Prop} {a b : va_W} (h : va_D A (a ++ b)) : va_D A (b ++ a) := va_D.app (xf_dr h) (xf_dl h) (fun i j x y hx hy hxy => by
  have h1 := h.1 (a.length + i) j x y (xf_at hx) (xf_al hy) hxy
  have h2 := (List.getElem?_eq_some_iff.mp hy).1
  omega)
theorem xf_free {A : Nat → Prop} {H0 H : Heap} {locs : List Loc} {wr wc : va_W} (hD : va_D A (wr ++ wc)) (hS : va_S A H0 H locs) (hA : ∀ q, H0.size ≤ q → A q) : ∀ q, va_A wc H.size q → A q := by
  intro q hq
  rcases hq with ⟨k, e, h⟩ | h
  · exact hD.2 (wr.length + k) (q, e) (xf_at h)
  · exact hA q (Nat.le_trans hS.1 h)
theorem xf_join {D : va_G} {cl : List vw_C} {A : Nat → Prop} {wr wc w1 : va_W} {H H1 : Heap} (hP : va_P D cl (wr ++ wc) H) (hD : va_D A (wr ++ wc)) (hk : ∀ q, q < H.size → ¬ va_A wc H.size q → H1[q]? = H[q]?) (hF : ∀ q, va_A wc H.size q → A q) (hP1 : va_P D cl w1 H1) (hD1 : va_D (va_A wc H.size) w1) : va_P D cl (wr ++ w1) H1 ∧ va_D A (wr ++ w1) := by
  have apart : ∀ (k : Nat) (q : Nat × va_E), wr[k]? = some q → q.1 < H.size ∧ ¬ va_A wc H.size q.1 := by
    intro k q hq
    have hl := (xf_pl hP k q hq).lt
    refine ⟨hl, fun h => ?_⟩
    rcases h with ⟨k2, e, h⟩ | h
    · have h1 := hD.1 k (wr.length + k2) q (q.1, e) (xf_al hq) (xf_at h) rfl
      have h2 := (List.getElem?_eq_some_iff.mp hq).1
      omega
    · omega
  refine ⟨va_P.app (fun k q hq => ?_) hP1, va_D.app (xf_dl hD) (hD1.weaken (fun k q _ h => hF q.1 h)) (fun i j x y hx hy hxy => ?_)⟩
  · obtain ⟨g1, g2⟩ := apart k q hq
    exact (xf_pl hP k q hq).kept (hk q.1 g1 g2)
  · exact (apart i x hx).2 (by rw [hxy]; exact hD1.2 j y hy)
section XF
variable {p : Program} {l : Launch} {e : Env} {R : Room} {s : State} {m : MethodId} {args : Array Value} {below : List Frame} {meth : Method} {c : Code} {H H0 : Heap} {locs : List Loc} {cells slots mc ms : Nat} {Q : State → Prop} {pc : Nat} {ls : Array Slot} {A : Nat → Prop} {G : xG} {wr wc w1 : va_W} {r : Int32} {rest st : List Value} {a : Array Value}
theorem xf_ci (hr : va_Run p l e R s m args below meth c H locs cells slots mc ms (F0 m pc ls st) rest (va_Qi (fun (r' : Int32) (_ : Unit) => r' = r) (fun _ t => va_P G.1 vwCl w1 t.heap ∧ va_D (va_A wc H.size) w1) (va_A wc H.size) a) (va_A wc H.size))
    (hP : va_P G.1 vwCl (wr ++ wc) H) (hD : va_D A (wr ++ wc)) (hS : va_S A H0 H locs) (hA : ∀ q, H0.size ≤ q → A q)
    (kk : ∀ (H1 : Heap) (locs1 : List Loc), va_P G.1 vwCl (wr ++ w1) H1 → va_D A (wr ++ w1) → va_S A H0 H1 locs1 → W p l e R s m args below meth c H1 locs1 (cells + mc) (slots + ms) Q (F0 m (pc + 3) ls (.int r :: rest))) : W p l e R s m args below meth c H locs cells slots Q (F0 m pc ls st) := by
  have hF := xf_free hD hS hA
  refine va_calli hr hS (fun q _ h => hF q h) hF (fun r' u t H1 locs1 ht hvm hw hB hz1 hk1 hS1 => ?_)
  obtain ⟨hP1, hD1⟩ := hB
  rw [ht] at hP1
  subst hw
  obtain ⟨hP2, hD2⟩ := xf_join hP hD hk1 hF hP1 hD1
  exact kk H1 locs1 hP2 hD2 hS1
end XF
def f_op_0 (L9 : Nat) (xs : xF) (K : Int32 → xF → xSY → xPL → xPL → (Nat → Int64) → xMO → Option Unit) (i4 : Int32) (lo : xF) (yy : xSY) (pp : xPL) (qq : xPL) (ou : (Nat → Int64)) (zz : xMO) : Option Unit :=
  if (i4 + (1 : Int32)) < 0 ∨ L9 ≤ (i4 + (1 : Int32)).toNatClampNeg then none else
  if (i4 + (2 : Int32)) < 0 ∨ L9 ≤ (i4 + (2 : Int32)).toNatClampNeg then none else
  if (i4 + (3 : Int32)) < 0 ∨ L9 ≤ (i4 + (3 : Int32)).toNatClampNeg then none else
  if (i4 + (4 : Int32)) < 0 ∨ L9 ≤ (i4 + (4 : Int32)).toNatClampNeg then none else
  Option.bind (f_L_aim lo (yy.1, yy.2.1, yy.2.2.1, yy.2.2.2.1, yy.2.2.2.2.1, yy.2.2.2.2.2.1, yy.2.2.2.2.2.2.1, yy.2.2.2.2.2.2.2.1, yy.2.2.2.2.2.2.2.2) (pp.1, pp.2.1, pp.2.2.1, pp.2.2.2.1, pp.2.2.2.2.1, pp.2.2.2.2.2.1, pp.2.2.2.2.2.2.1, pp.2.2.2.2.2.2.2.1, pp.2.2.2.2.2.2.2.2) (qq.1, qq.2.1, qq.2.2.1, qq.2.2.2.1, qq.2.2.2.2.1, qq.2.2.2.2.2.1, qq.2.2.2.2.2.2.1, qq.2.2.2.2.2.2.2.1, qq.2.2.2.2.2.2.2.2) ou (xs (i4 + (1 : Int32)).toNatClampNeg) (xs (i4 + (2 : Int32)).toNatClampNeg) (xs (i4 + (3 : Int32)).toNatClampNeg) (xs (i4 + (4 : Int32)).toNatClampNeg)) fun (o7 : Int32 × Int32 × xF × xF × xF × xF × xF × xF × xPL × xPL × (Nat → Int64)) =>
  Option.bind (f_X3_aim (zz.1, zz.2.1, zz.2.2.1, zz.2.2.2.1, zz.2.2.2.2.1, zz.2.2.2.2.2.1, zz.2.2.2.2.2.2.1, zz.2.2.2.2.2.2.2.1, zz.2.2.2.2.2.2.2.2.1, zz.2.2.2.2.2.2.2.2.2.1, zz.2.2.2.2.2.2.2.2.2.2.1, zz.2.2.2.2.2.2.2.2.2.2.2.1, zz.2.2.2.2.2.2.2.2.2.2.2.2.1, zz.2.2.2.2.2.2.2.2.2.2.2.2.2.1, zz.2.2.2.2.2.2.2.2.2.2.2.2.2.2.1, zz.2.2.2.2.2.2.2.2.2.2.2.2.2.2.2.1, zz.2.2.2.2.2.2.2.2.2.2.2.2.2.2.2.2.1, zz.2.2.2.2.2.2.2.2.2.2.2.2.2.2.2.2.2) (xs (i4 + (1 : Int32)).toNatClampNeg) (xs (i4 + (2 : Int32)).toNatClampNeg) (xs (i4 + (3 : Int32)).toNatClampNeg) (xs (i4 + (4 : Int32)).toNatClampNeg)) fun (o8 : Int32 × Int32 × xF × xF × xF × xF × xF × Int32) =>
  Option.bind (f_X3_thrown (o8.2.1, o8.2.2.1, o8.2.2.2.1, o8.2.2.2.2.1, o8.2.2.2.2.2.1, zz.2.2.2.2.2.1, zz.2.2.2.2.2.2.1, o8.2.2.2.2.2.2.1, zz.2.2.2.2.2.2.2.2.1, zz.2.2.2.2.2.2.2.2.2.1, zz.2.2.2.2.2.2.2.2.2.2.1, zz.2.2.2.2.2.2.2.2.2.2.2.1, zz.2.2.2.2.2.2.2.2.2.2.2.2.1, zz.2.2.2.2.2.2.2.2.2.2.2.2.2.1, zz.2.2.2.2.2.2.2.2.2.2.2.2.2.2.1, zz.2.2.2.2.2.2.2.2.2.2.2.2.2.2.2.1, zz.2.2.2.2.2.2.2.2.2.2.2.2.2.2.2.2.1, o8.2.2.2.2.2.2.2)) fun (o9 : Int32) =>
  if o9 = o7.1 then
    if o7.1 = 0 then
      if (o7.2.2.2.2.2.2.2.2.2.2 (0 : Int32).toNatClampNeg) = o8.1.toInt64 then
        K (i4 + (5 : Int32)) lo (o7.2.1, o7.2.2.1, o7.2.2.2.1, o7.2.2.2.2.1, o7.2.2.2.2.2.1, yy.2.2.2.2.2.1, o7.2.2.2.2.2.2.1, yy.2.2.2.2.2.2.2.1, o7.2.2.2.2.2.2.2.1) o7.2.2.2.2.2.2.2.2.1 o7.2.2.2.2.2.2.2.2.2.1 o7.2.2.2.2.2.2.2.2.2.2 (o8.2.1, o8.2.2.1, o8.2.2.2.1, o8.2.2.2.2.1, o8.2.2.2.2.2.1, zz.2.2.2.2.2.1, zz.2.2.2.2.2.2.1, o8.2.2.2.2.2.2.1, zz.2.2.2.2.2.2.2.2.1, zz.2.2.2.2.2.2.2.2.2.1, zz.2.2.2.2.2.2.2.2.2.2.1, zz.2.2.2.2.2.2.2.2.2.2.2.1, zz.2.2.2.2.2.2.2.2.2.2.2.2.1, zz.2.2.2.2.2.2.2.2.2.2.2.2.2.1, zz.2.2.2.2.2.2.2.2.2.2.2.2.2.2.1, zz.2.2.2.2.2.2.2.2.2.2.2.2.2.2.2.1, zz.2.2.2.2.2.2.2.2.2.2.2.2.2.2.2.2.1, o8.2.2.2.2.2.2.2)
      else
        none
    else
      K (i4 + (5 : Int32)) lo (o7.2.1, o7.2.2.1, o7.2.2.2.1, o7.2.2.2.2.1, o7.2.2.2.2.2.1, yy.2.2.2.2.2.1, o7.2.2.2.2.2.2.1, yy.2.2.2.2.2.2.2.1, o7.2.2.2.2.2.2.2.1) o7.2.2.2.2.2.2.2.2.1 o7.2.2.2.2.2.2.2.2.2.1 o7.2.2.2.2.2.2.2.2.2.2 (o8.2.1, o8.2.2.1, o8.2.2.2.1, o8.2.2.2.2.1, o8.2.2.2.2.2.1, zz.2.2.2.2.2.1, zz.2.2.2.2.2.2.1, o8.2.2.2.2.2.2.1, zz.2.2.2.2.2.2.2.2.1, zz.2.2.2.2.2.2.2.2.2.1, zz.2.2.2.2.2.2.2.2.2.2.1, zz.2.2.2.2.2.2.2.2.2.2.2.1, zz.2.2.2.2.2.2.2.2.2.2.2.2.1, zz.2.2.2.2.2.2.2.2.2.2.2.2.2.1, zz.2.2.2.2.2.2.2.2.2.2.2.2.2.2.1, zz.2.2.2.2.2.2.2.2.2.2.2.2.2.2.2.1, zz.2.2.2.2.2.2.2.2.2.2.2.2.2.2.2.2.1, o8.2.2.2.2.2.2.2)
  else
    none
theorem f_op_0_e (L9 : Nat) (xs : xF) (K : Int32 → xF → xSY → xPL → xPL → (Nat → Int64) → xMO → Option Unit) (i4 : Int32) (lo : xF) (yy_0 : Int32) (yy_1 : xF) (yy_2 : xF) (yy_3 : xF) (yy_4 : xF) (yy_5 : xF) (yy_6 : xF) (yy_7 : xF) (yy_8 : xF) (pp_0 : xF) (pp_1 : xF) (pp_2 : xF) (pp_3 : xF) (pp_4 : xF) (pp_5 : xF) (pp_6 : Int32) (pp_7 : Int32) (pp_8 : Int32) (qq_0 : xF) (qq_1 : xF) (qq_2 : xF) (qq_3 : xF) (qq_4 : xF) (qq_5 : xF) (qq_6 : Int32) (qq_7 : Int32) (qq_8 : Int32) (ou : (Nat → Int64)) (zz_0 : Int32) (zz_1 : xF) (zz_2 : xF) (zz_3 : xF) (zz_4 : xF) (zz_5 : xF) (zz_6 : xF) (zz_7 : xF) (zz_8 : xF) (zz_9 : xF) (zz_10 : xF) (zz_11 : xF) (zz_12 : xF) (zz_13 : xF) (zz_14 : xF) (zz_15 : xF) (zz_16 : Int32) (zz_17 : Int32) : f_op_0 L9 xs K i4 lo (yy_0, yy_1, yy_2, yy_3, yy_4, yy_5, yy_6, yy_7, yy_8) (pp_0, pp_1, pp_2, pp_3, pp_4, pp_5, pp_6, pp_7, pp_8) (qq_0, qq_1, qq_2, qq_3, qq_4, qq_5, qq_6, qq_7, qq_8) ou (zz_0, zz_1, zz_2, zz_3, zz_4, zz_5, zz_6, zz_7, zz_8, zz_9, zz_10, zz_11, zz_12, zz_13, zz_14, zz_15, zz_16, zz_17) =
  if (i4 + (1 : Int32)) < 0 ∨ L9 ≤ (i4 + (1 : Int32)).toNatClampNeg then none else
  if (i4 + (2 : Int32)) < 0 ∨ L9 ≤ (i4 + (2 : Int32)).toNatClampNeg then none else
  if (i4 + (3 : Int32)) < 0 ∨ L9 ≤ (i4 + (3 : Int32)).toNatClampNeg then none else
  if (i4 + (4 : Int32)) < 0 ∨ L9 ≤ (i4 + (4 : Int32)).toNatClampNeg then none else
  Option.bind (f_L_aim lo (yy_0, yy_1, yy_2, yy_3, yy_4, yy_5, yy_6, yy_7, yy_8) (pp_0, pp_1, pp_2, pp_3, pp_4, pp_5, pp_6, pp_7, pp_8) (qq_0, qq_1, qq_2, qq_3, qq_4, qq_5, qq_6, qq_7, qq_8) ou (xs (i4 + (1 : Int32)).toNatClampNeg) (xs (i4 + (2 : Int32)).toNatClampNeg) (xs (i4 + (3 : Int32)).toNatClampNeg) (xs (i4 + (4 : Int32)).toNatClampNeg)) fun (o7 : Int32 × Int32 × xF × xF × xF × xF × xF × xF × xPL × xPL × (Nat → Int64)) =>
  Option.bind (f_X3_aim (zz_0, zz_1, zz_2, zz_3, zz_4, zz_5, zz_6, zz_7, zz_8, zz_9, zz_10, zz_11, zz_12, zz_13, zz_14, zz_15, zz_16, zz_17) (xs (i4 + (1 : Int32)).toNatClampNeg) (xs (i4 + (2 : Int32)).toNatClampNeg) (xs (i4 + (3 : Int32)).toNatClampNeg) (xs (i4 + (4 : Int32)).toNatClampNeg)) fun (o8 : Int32 × Int32 × xF × xF × xF × xF × xF × Int32) =>
  Option.bind (f_X3_thrown (o8.2.1, o8.2.2.1, o8.2.2.2.1, o8.2.2.2.2.1, o8.2.2.2.2.2.1, zz_5, zz_6, o8.2.2.2.2.2.2.1, zz_8, zz_9, zz_10, zz_11, zz_12, zz_13, zz_14, zz_15, zz_16, o8.2.2.2.2.2.2.2)) fun (o9 : Int32) =>
  if o9 = o7.1 then
    if o7.1 = 0 then
      if (o7.2.2.2.2.2.2.2.2.2.2 (0 : Int32).toNatClampNeg) = o8.1.toInt64 then
        K (i4 + (5 : Int32)) lo (o7.2.1, o7.2.2.1, o7.2.2.2.1, o7.2.2.2.2.1, o7.2.2.2.2.2.1, yy_5, o7.2.2.2.2.2.2.1, yy_7, o7.2.2.2.2.2.2.2.1) o7.2.2.2.2.2.2.2.2.1 o7.2.2.2.2.2.2.2.2.2.1 o7.2.2.2.2.2.2.2.2.2.2 (o8.2.1, o8.2.2.1, o8.2.2.2.1, o8.2.2.2.2.1, o8.2.2.2.2.2.1, zz_5, zz_6, o8.2.2.2.2.2.2.1, zz_8, zz_9, zz_10, zz_11, zz_12, zz_13, zz_14, zz_15, zz_16, o8.2.2.2.2.2.2.2)
      else
        none
    else
      K (i4 + (5 : Int32)) lo (o7.2.1, o7.2.2.1, o7.2.2.2.1, o7.2.2.2.2.1, o7.2.2.2.2.2.1, yy_5, o7.2.2.2.2.2.2.1, yy_7, o7.2.2.2.2.2.2.2.1) o7.2.2.2.2.2.2.2.2.1 o7.2.2.2.2.2.2.2.2.2.1 o7.2.2.2.2.2.2.2.2.2.2 (o8.2.1, o8.2.2.1, o8.2.2.2.1, o8.2.2.2.2.1, o8.2.2.2.2.2.1, zz_5, zz_6, o8.2.2.2.2.2.2.1, zz_8, zz_9, zz_10, zz_11, zz_12, zz_13, zz_14, zz_15, zz_16, o8.2.2.2.2.2.2.2)
  else
    none := rfl
set_option maxHeartbeats 8000000 in
set_option maxRecDepth 100000 in
theorem law_op_0 {pr9 : Program} {l : Launch} {en9 : Env} {s : State} {mm9 : MethodId} {bl9 : List Frame} {meth9 : Method} {cd9 : Code} (hl9 : l.stackTraces = false) (G : xG) {b9 L9 : Nat} {xs : xF} (C0 : lw_At pr9 s mm9 meth9 cd9 b9 L9 xs) (A : Nat → Prop) (hA : ∀ q, s.heap.size ≤ q → A q) (hAs : ∀ q, A q → s.heap.size ≤ q) (hK : va_K G.1 vwCl (xT G) s) (hNE : xk_NE s) (hXB : xk_XB s) (hSR : xk_SR s) (hZX : xk_ZX A s s.heap) (xa la oa : Nat) (ya za : Nat → Nat) (kc ks : Nat) (hk1 : kc + 1 ≤ 1091) (hk2 : ks + 6 ≤ 9564) (K : Int32 → xF → xSY → xPL → xPL → (Nat → Int64) → xMO → Option Unit) (kk : ∀ (pa qa : Nat → Nat) (i4 : Int32) (lo : xF) (yy : xSY) (pp : xPL) (qq : xPL) (ou : (Nat → Int64)) (zz : xMO) (H : Heap) (locs : List Loc), K i4 lo yy pp qq ou zz = some () → va_P G.1 vwCl (wXO xa (ya 0) la (pa 0) (qa 0) ++ (wLO G la lo ++ (wSYc G ya yy.1 yy.2.1 yy.2.2.1 yy.2.2.2.1 yy.2.2.2.2.1 yy.2.2.2.2.2.1 yy.2.2.2.2.2.2.1 yy.2.2.2.2.2.2.2.1 yy.2.2.2.2.2.2.2.2 ++ (wPLc G pa pp.1 pp.2.1 pp.2.2.1 pp.2.2.2.1 pp.2.2.2.2.1 pp.2.2.2.2.2.1 pp.2.2.2.2.2.2.1 pp.2.2.2.2.2.2.2.1 pp.2.2.2.2.2.2.2.2 ++ (wPLc G qa qq.1 qq.2.1 qq.2.2.1 qq.2.2.2.1 qq.2.2.2.2.1 qq.2.2.2.2.2.1 qq.2.2.2.2.2.2.1 qq.2.2.2.2.2.2.2.1 qq.2.2.2.2.2.2.2.2 ++ (wOU G oa ou ++ (wMOc G za zz.1 zz.2.1 zz.2.2.1 zz.2.2.2.1 zz.2.2.2.2.1 zz.2.2.2.2.2.1 zz.2.2.2.2.2.2.1 zz.2.2.2.2.2.2.2.1 zz.2.2.2.2.2.2.2.2.1 zz.2.2.2.2.2.2.2.2.2.1 zz.2.2.2.2.2.2.2.2.2.2.1 zz.2.2.2.2.2.2.2.2.2.2.2.1 zz.2.2.2.2.2.2.2.2.2.2.2.2.1 zz.2.2.2.2.2.2.2.2.2.2.2.2.2.1 zz.2.2.2.2.2.2.2.2.2.2.2.2.2.2.1 zz.2.2.2.2.2.2.2.2.2.2.2.2.2.2.2.1 zz.2.2.2.2.2.2.2.2.2.2.2.2.2.2.2.2.1 zz.2.2.2.2.2.2.2.2.2.2.2.2.2.2.2.2.2))))))) H → va_D A (wXO xa (ya 0) la (pa 0) (qa 0) ++ (wLO G la lo ++ (wSYc G ya yy.1 yy.2.1 yy.2.2.1 yy.2.2.2.1 yy.2.2.2.2.1 yy.2.2.2.2.2.1 yy.2.2.2.2.2.2.1 yy.2.2.2.2.2.2.2.1 yy.2.2.2.2.2.2.2.2 ++ (wPLc G pa pp.1 pp.2.1 pp.2.2.1 pp.2.2.2.1 pp.2.2.2.2.1 pp.2.2.2.2.2.1 pp.2.2.2.2.2.2.1 pp.2.2.2.2.2.2.2.1 pp.2.2.2.2.2.2.2.2 ++ (wPLc G qa qq.1 qq.2.1 qq.2.2.1 qq.2.2.2.1 qq.2.2.2.2.1 qq.2.2.2.2.2.1 qq.2.2.2.2.2.2.1 qq.2.2.2.2.2.2.2.1 qq.2.2.2.2.2.2.2.2 ++ (wOU G oa ou ++ (wMOc G za zz.1 zz.2.1 zz.2.2.1 zz.2.2.2.1 zz.2.2.2.2.1 zz.2.2.2.2.2.1 zz.2.2.2.2.2.2.1 zz.2.2.2.2.2.2.2.1 zz.2.2.2.2.2.2.2.2.1 zz.2.2.2.2.2.2.2.2.2.1 zz.2.2.2.2.2.2.2.2.2.2.1 zz.2.2.2.2.2.2.2.2.2.2.2.1 zz.2.2.2.2.2.2.2.2.2.2.2.2.1 zz.2.2.2.2.2.2.2.2.2.2.2.2.2.1 zz.2.2.2.2.2.2.2.2.2.2.2.2.2.2.1 zz.2.2.2.2.2.2.2.2.2.2.2.2.2.2.2.1 zz.2.2.2.2.2.2.2.2.2.2.2.2.2.2.2.2.1 zz.2.2.2.2.2.2.2.2.2.2.2.2.2.2.2.2.2))))))) → va_S A s.heap H locs → ∀ ls, lv_has ls 7 [(4, .int i4), (3, .ref oa), (2, .ref (za 0)), (1, .ref xa), (0, .ref b9)] → W pr9 l en9 room_1 s mm9 #[Value.ref b9] bl9 meth9 cd9 H locs (kc + 1) (ks + 6) (lw_Z bl9 #[Value.ref b9] s) (F0 mm9 23 ls [])) (pa qa : Nat → Nat) (i4 : Int32) (lo : xF) (yy : xSY) (pp : xPL) (qq : xPL) (ou : (Nat → Int64)) (zz : xMO) (H : Heap) (locs : List Loc) (h : f_op_0 L9 xs K i4 lo yy pp qq ou zz = some ()) (hP : va_P G.1 vwCl (wXO xa (ya 0) la (pa 0) (qa 0) ++ (wLO G la lo ++ (wSYc G ya yy.1 yy.2.1 yy.2.2.1 yy.2.2.2.1 yy.2.2.2.2.1 yy.2.2.2.2.2.1 yy.2.2.2.2.2.2.1 yy.2.2.2.2.2.2.2.1 yy.2.2.2.2.2.2.2.2 ++ (wPLc G pa pp.1 pp.2.1 pp.2.2.1 pp.2.2.2.1 pp.2.2.2.2.1 pp.2.2.2.2.2.1 pp.2.2.2.2.2.2.1 pp.2.2.2.2.2.2.2.1 pp.2.2.2.2.2.2.2.2 ++ (wPLc G qa qq.1 qq.2.1 qq.2.2.1 qq.2.2.2.1 qq.2.2.2.2.1 qq.2.2.2.2.2.1 qq.2.2.2.2.2.2.1 qq.2.2.2.2.2.2.2.1 qq.2.2.2.2.2.2.2.2 ++ (wOU G oa ou ++ (wMOc G za zz.1 zz.2.1 zz.2.2.1 zz.2.2.2.1 zz.2.2.2.2.1 zz.2.2.2.2.2.1 zz.2.2.2.2.2.2.1 zz.2.2.2.2.2.2.2.1 zz.2.2.2.2.2.2.2.2.1 zz.2.2.2.2.2.2.2.2.2.1 zz.2.2.2.2.2.2.2.2.2.2.1 zz.2.2.2.2.2.2.2.2.2.2.2.1 zz.2.2.2.2.2.2.2.2.2.2.2.2.1 zz.2.2.2.2.2.2.2.2.2.2.2.2.2.1 zz.2.2.2.2.2.2.2.2.2.2.2.2.2.2.1 zz.2.2.2.2.2.2.2.2.2.2.2.2.2.2.2.1 zz.2.2.2.2.2.2.2.2.2.2.2.2.2.2.2.2.1 zz.2.2.2.2.2.2.2.2.2.2.2.2.2.2.2.2.2))))))) H) (hD : va_D A (wXO xa (ya 0) la (pa 0) (qa 0) ++ (wLO G la lo ++ (wSYc G ya yy.1 yy.2.1 yy.2.2.1 yy.2.2.2.1 yy.2.2.2.2.1 yy.2.2.2.2.2.1 yy.2.2.2.2.2.2.1 yy.2.2.2.2.2.2.2.1 yy.2.2.2.2.2.2.2.2 ++ (wPLc G pa pp.1 pp.2.1 pp.2.2.1 pp.2.2.2.1 pp.2.2.2.2.1 pp.2.2.2.2.2.1 pp.2.2.2.2.2.2.1 pp.2.2.2.2.2.2.2.1 pp.2.2.2.2.2.2.2.2 ++ (wPLc G qa qq.1 qq.2.1 qq.2.2.1 qq.2.2.2.1 qq.2.2.2.2.1 qq.2.2.2.2.2.1 qq.2.2.2.2.2.2.1 qq.2.2.2.2.2.2.2.1 qq.2.2.2.2.2.2.2.2 ++ (wOU G oa ou ++ (wMOc G za zz.1 zz.2.1 zz.2.2.1 zz.2.2.2.1 zz.2.2.2.2.1 zz.2.2.2.2.2.1 zz.2.2.2.2.2.2.1 zz.2.2.2.2.2.2.2.1 zz.2.2.2.2.2.2.2.2.1 zz.2.2.2.2.2.2.2.2.2.1 zz.2.2.2.2.2.2.2.2.2.2.1 zz.2.2.2.2.2.2.2.2.2.2.2.1 zz.2.2.2.2.2.2.2.2.2.2.2.2.1 zz.2.2.2.2.2.2.2.2.2.2.2.2.2.1 zz.2.2.2.2.2.2.2.2.2.2.2.2.2.2.1 zz.2.2.2.2.2.2.2.2.2.2.2.2.2.2.2.1 zz.2.2.2.2.2.2.2.2.2.2.2.2.2.2.2.2.1 zz.2.2.2.2.2.2.2.2.2.2.2.2.2.2.2.2.2)))))))) (hS : va_S A s.heap H locs) (ls : Array Slot) (hl : lv_has ls 7 [(4, .int i4), (3, .ref oa), (2, .ref (za 0)), (1, .ref xa), (0, .ref b9)]) :
    W pr9 l en9 room_1 s mm9 #[Value.ref b9] bl9 meth9 cd9 H locs kc ks (lw_Z bl9 #[Value.ref b9] s) (F0 mm9 120 ls []) := by
  obtain ⟨hx, hb, hr, hml, hown, hts, hX, hbl, hlk, hgv⟩ := id C0
  have hts := fun w h => hts w (wsL_law_in w h)
  have hown : s.vm.findClass RL = some mm9.cls := hown
  have hbA : ¬ A b9 := fun h => Nat.not_le.mpr hbl (hAs _ h)
  obtain ⟨yy_0, yy_1, yy_2, yy_3, yy_4, yy_5, yy_6, yy_7, yy_8⟩ := yy
  obtain ⟨pp_0, pp_1, pp_2, pp_3, pp_4, pp_5, pp_6, pp_7, pp_8⟩ := pp
  obtain ⟨qq_0, qq_1, qq_2, qq_3, qq_4, qq_5, qq_6, qq_7, qq_8⟩ := qq
  obtain ⟨zz_0, zz_1, zz_2, zz_3, zz_4, zz_5, zz_6, zz_7, zz_8, zz_9, zz_10, zz_11, zz_12, zz_13, zz_14, zz_15, zz_16, zz_17⟩ := zz
  have hP : va_P G.1 vwCl (wXO xa (ya 0) la (pa 0) (qa 0) ++ (wLO G la lo ++ (wSYc G ya yy_0 yy_1 yy_2 yy_3 yy_4 yy_5 yy_6 yy_7 yy_8 ++ (wPLc G pa pp_0 pp_1 pp_2 pp_3 pp_4 pp_5 pp_6 pp_7 pp_8 ++ (wPLc G qa qq_0 qq_1 qq_2 qq_3 qq_4 qq_5 qq_6 qq_7 qq_8 ++ (wOU G oa ou ++ (wMOc G za zz_0 zz_1 zz_2 zz_3 zz_4 zz_5 zz_6 zz_7 zz_8 zz_9 zz_10 zz_11 zz_12 zz_13 zz_14 zz_15 zz_16 zz_17))))))) H := hP
  have hD : va_D A (wXO xa (ya 0) la (pa 0) (qa 0) ++ (wLO G la lo ++ (wSYc G ya yy_0 yy_1 yy_2 yy_3 yy_4 yy_5 yy_6 yy_7 yy_8 ++ (wPLc G pa pp_0 pp_1 pp_2 pp_3 pp_4 pp_5 pp_6 pp_7 pp_8 ++ (wPLc G qa qq_0 qq_1 qq_2 qq_3 qq_4 qq_5 qq_6 qq_7 qq_8 ++ (wOU G oa ou ++ (wMOc G za zz_0 zz_1 zz_2 zz_3 zz_4 zz_5 zz_6 zz_7 zz_8 zz_9 zz_10 zz_11 zz_12 zz_13 zz_14 zz_15 zz_16 zz_17))))))) := hD
  have h := (f_op_0_e L9 xs K i4 lo yy_0 yy_1 yy_2 yy_3 yy_4 yy_5 yy_6 yy_7 yy_8 pp_0 pp_1 pp_2 pp_3 pp_4 pp_5 pp_6 pp_7 pp_8 qq_0 qq_1 qq_2 qq_3 qq_4 qq_5 qq_6 qq_7 qq_8 ou zz_0 zz_1 zz_2 zz_3 zz_4 zz_5 zz_6 zz_7 zz_8 zz_9 zz_10 zz_11 zz_12 zz_13 zz_14 zz_15 zz_16 zz_17).symm.trans h
  refine lv_aload_n hx hb dL_law_120 rfl (lv_at hl 3 rfl) ?_
  refine lv_aload_n hx hb dL_law_121 rfl (lv_at hl 4 rfl) ?_
  refine lv_iload hx hb dL_law_122 (lv_at hl 0 rfl) ?_
  refine lv_iconst (v := (1 : Int32)) hx hb dL_law_124 (by decide) ?_
  refine lv_iadd hx hb dL_law_125 ?_
  obtain ⟨hin3, h⟩ := sp_g h
  refine va_sld hx hb hX hbl hbA hS hin3 dL_law_126 ?_
  refine lv_aload_n hx hb dL_law_127 rfl (lv_at hl 4 rfl) ?_
  refine lv_iload hx hb dL_law_128 (lv_at hl 0 rfl) ?_
  refine lv_iconst (v := (2 : Int32)) hx hb dL_law_130 (by decide) ?_
  refine lv_iadd hx hb dL_law_131 ?_
  obtain ⟨hin4, h⟩ := sp_g h
  refine va_sld hx hb hX hbl hbA hS hin4 dL_law_132 ?_
  refine lv_aload_n hx hb dL_law_133 rfl (lv_at hl 4 rfl) ?_
  refine lv_iload hx hb dL_law_134 (lv_at hl 0 rfl) ?_
  refine lv_iconst (v := (3 : Int32)) hx hb dL_law_136 (by decide) ?_
  refine lv_iadd hx hb dL_law_137 ?_
  obtain ⟨hin5, h⟩ := sp_g h
  refine va_sld hx hb hX hbl hbA hS hin5 dL_law_138 ?_
  refine lv_aload_n hx hb dL_law_139 rfl (lv_at hl 4 rfl) ?_
  refine lv_iload hx hb dL_law_140 (lv_at hl 0 rfl) ?_
  refine lv_iconst (v := (4 : Int32)) hx hb dL_law_142 (by decide) ?_
  refine lv_iadd hx hb dL_law_143 ?_
  obtain ⟨hin6, h⟩ := sp_g h
  refine va_sld hx hb hX hbl hbA hS hin6 dL_law_144 ?_
  refine lv_aload_n hx hb dL_law_145 rfl (lv_at hl 1 rfl) ?_
  obtain ⟨o7, ho7, h⟩ := sp_b h
  obtain ⟨pa_o7, qa_o7, hpq_o7⟩ := xk_pq pa qa (o7.1 = 0)
  have hP9 : va_P G.1 vwCl ((wMOc G za zz_0 zz_1 zz_2 zz_3 zz_4 zz_5 zz_6 zz_7 zz_8 zz_9 zz_10 zz_11 zz_12 zz_13 zz_14 zz_15 zz_16 zz_17) ++ (wXO xa (ya 0) la (pa 0) (qa 0) ++ (wLO G la lo ++ (wSYc G ya yy_0 yy_1 yy_2 yy_3 yy_4 yy_5 yy_6 yy_7 yy_8 ++ (wPLc G pa pp_0 pp_1 pp_2 pp_3 pp_4 pp_5 pp_6 pp_7 pp_8 ++ (wPLc G qa qq_0 qq_1 qq_2 qq_3 qq_4 qq_5 qq_6 qq_7 qq_8 ++ (wOU G oa ou))))))) H := xf_psw (a := (wXO xa (ya 0) la (pa 0) (qa 0) ++ (wLO G la lo ++ (wSYc G ya yy_0 yy_1 yy_2 yy_3 yy_4 yy_5 yy_6 yy_7 yy_8 ++ (wPLc G pa pp_0 pp_1 pp_2 pp_3 pp_4 pp_5 pp_6 pp_7 pp_8 ++ (wPLc G qa qq_0 qq_1 qq_2 qq_3 qq_4 qq_5 qq_6 qq_7 qq_8 ++ (wOU G oa ou))))))) (b := (wMOc G za zz_0 zz_1 zz_2 zz_3 zz_4 zz_5 zz_6 zz_7 zz_8 zz_9 zz_10 zz_11 zz_12 zz_13 zz_14 zz_15 zz_16 zz_17)) hP
  have hD9 : va_D A ((wMOc G za zz_0 zz_1 zz_2 zz_3 zz_4 zz_5 zz_6 zz_7 zz_8 zz_9 zz_10 zz_11 zz_12 zz_13 zz_14 zz_15 zz_16 zz_17) ++ (wXO xa (ya 0) la (pa 0) (qa 0) ++ (wLO G la lo ++ (wSYc G ya yy_0 yy_1 yy_2 yy_3 yy_4 yy_5 yy_6 yy_7 yy_8 ++ (wPLc G pa pp_0 pp_1 pp_2 pp_3 pp_4 pp_5 pp_6 pp_7 pp_8 ++ (wPLc G qa qq_0 qq_1 qq_2 qq_3 qq_4 qq_5 qq_6 qq_7 qq_8 ++ (wOU G oa ou))))))) := xf_dsw (a := (wXO xa (ya 0) la (pa 0) (qa 0) ++ (wLO G la lo ++ (wSYc G ya yy_0 yy_1 yy_2 yy_3 yy_4 yy_5 yy_6 yy_7 yy_8 ++ (wPLc G pa pp_0 pp_1 pp_2 pp_3 pp_4 pp_5 pp_6 pp_7 pp_8 ++ (wPLc G qa qq_0 qq_1 qq_2 qq_3 qq_4 qq_5 qq_6 qq_7 qq_8 ++ (wOU G oa ou))))))) (b := (wMOc G za zz_0 zz_1 zz_2 zz_3 zz_4 zz_5 zz_6 zz_7 zz_8 zz_9 zz_10 zz_11 zz_12 zz_13 zz_14 zz_15 zz_16 zz_17)) hD
  refine xf_ci (vx_runSW (As := [.ref xa, .int (xs (i4 + (1 : Int32)).toNatClampNeg), .int (xs (i4 + (2 : Int32)).toNatClampNeg), .int (xs (i4 + (3 : Int32)).toNatClampNeg), .int (xs (i4 + (4 : Int32)).toNatClampNeg), .ref oa]) (rest := []) ⟨hx, hb, hml, hown, hts⟩ (c_L_aim l hl9 G xa la ya pa qa oa lo (yy_0, yy_1, yy_2, yy_3, yy_4, yy_5, yy_6, yy_7, yy_8) (pp_0, pp_1, pp_2, pp_3, pp_4, pp_5, pp_6, pp_7, pp_8) (qq_0, qq_1, qq_2, qq_3, qq_4, qq_5, qq_6, qq_7, qq_8) ou (xs (i4 + (1 : Int32)).toNatClampNeg) (xs (i4 + (2 : Int32)).toNatClampNeg) (xs (i4 + (3 : Int32)).toNatClampNeg) (xs (i4 + (4 : Int32)).toNatClampNeg) o7 pa_o7 qa_o7 hpq_o7 ho7 H.size) (vx_cwSW 6 hts gL_law_L_aim rfl rfl rfl (by decide +kernel) ⟨Nat.le_of_ble_eq_true rfl, Nat.le_of_ble_eq_true rfl⟩) (xk_preSX hK hNE hXB hSR hZX hS (xf_free hD9 hS hA) (xf_pr hP9) (xf_dr hD9)) rfl rfl hl.1 rfl (lv_room (Nat.le_of_ble_eq_true rfl)) dL_law_146 ⟨(by show kc + 1 ≤ 1091; omega), (by show ks + 6 ≤ 9564; omega)⟩) hP9 hD9 hS hA (fun H locs hP hD hS => ?_)
  refine W.widen (k := (kc + 1)) (n := (ks + 6)) (by omega) (by omega) ?_
  have hP := xf_psw hP
  have hP : va_P G.1 vwCl (wXO xa (ya 0) la (pa_o7 0) (qa_o7 0) ++ (wLO G la lo ++ (wSYc G ya o7.2.1 o7.2.2.1 o7.2.2.2.1 o7.2.2.2.2.1 o7.2.2.2.2.2.1 yy_5 o7.2.2.2.2.2.2.1 yy_7 o7.2.2.2.2.2.2.2.1 ++ (wPLc G pa_o7 o7.2.2.2.2.2.2.2.2.1.1 o7.2.2.2.2.2.2.2.2.1.2.1 o7.2.2.2.2.2.2.2.2.1.2.2.1 o7.2.2.2.2.2.2.2.2.1.2.2.2.1 o7.2.2.2.2.2.2.2.2.1.2.2.2.2.1 o7.2.2.2.2.2.2.2.2.1.2.2.2.2.2.1 o7.2.2.2.2.2.2.2.2.1.2.2.2.2.2.2.1 o7.2.2.2.2.2.2.2.2.1.2.2.2.2.2.2.2.1 o7.2.2.2.2.2.2.2.2.1.2.2.2.2.2.2.2.2 ++ (wPLc G qa_o7 o7.2.2.2.2.2.2.2.2.2.1.1 o7.2.2.2.2.2.2.2.2.2.1.2.1 o7.2.2.2.2.2.2.2.2.2.1.2.2.1 o7.2.2.2.2.2.2.2.2.2.1.2.2.2.1 o7.2.2.2.2.2.2.2.2.2.1.2.2.2.2.1 o7.2.2.2.2.2.2.2.2.2.1.2.2.2.2.2.1 o7.2.2.2.2.2.2.2.2.2.1.2.2.2.2.2.2.1 o7.2.2.2.2.2.2.2.2.2.1.2.2.2.2.2.2.2.1 o7.2.2.2.2.2.2.2.2.2.1.2.2.2.2.2.2.2.2 ++ (wOU G oa o7.2.2.2.2.2.2.2.2.2.2 ++ (wMOc G za zz_0 zz_1 zz_2 zz_3 zz_4 zz_5 zz_6 zz_7 zz_8 zz_9 zz_10 zz_11 zz_12 zz_13 zz_14 zz_15 zz_16 zz_17))))))) H := hP
  have hD := xf_dsw hD
  have hD : va_D A (wXO xa (ya 0) la (pa_o7 0) (qa_o7 0) ++ (wLO G la lo ++ (wSYc G ya o7.2.1 o7.2.2.1 o7.2.2.2.1 o7.2.2.2.2.1 o7.2.2.2.2.2.1 yy_5 o7.2.2.2.2.2.2.1 yy_7 o7.2.2.2.2.2.2.2.1 ++ (wPLc G pa_o7 o7.2.2.2.2.2.2.2.2.1.1 o7.2.2.2.2.2.2.2.2.1.2.1 o7.2.2.2.2.2.2.2.2.1.2.2.1 o7.2.2.2.2.2.2.2.2.1.2.2.2.1 o7.2.2.2.2.2.2.2.2.1.2.2.2.2.1 o7.2.2.2.2.2.2.2.2.1.2.2.2.2.2.1 o7.2.2.2.2.2.2.2.2.1.2.2.2.2.2.2.1 o7.2.2.2.2.2.2.2.2.1.2.2.2.2.2.2.2.1 o7.2.2.2.2.2.2.2.2.1.2.2.2.2.2.2.2.2 ++ (wPLc G qa_o7 o7.2.2.2.2.2.2.2.2.2.1.1 o7.2.2.2.2.2.2.2.2.2.1.2.1 o7.2.2.2.2.2.2.2.2.2.1.2.2.1 o7.2.2.2.2.2.2.2.2.2.1.2.2.2.1 o7.2.2.2.2.2.2.2.2.2.1.2.2.2.2.1 o7.2.2.2.2.2.2.2.2.2.1.2.2.2.2.2.1 o7.2.2.2.2.2.2.2.2.2.1.2.2.2.2.2.2.1 o7.2.2.2.2.2.2.2.2.2.1.2.2.2.2.2.2.2.1 o7.2.2.2.2.2.2.2.2.2.1.2.2.2.2.2.2.2.2 ++ (wOU G oa o7.2.2.2.2.2.2.2.2.2.2 ++ (wMOc G za zz_0 zz_1 zz_2 zz_3 zz_4 zz_5 zz_6 zz_7 zz_8 zz_9 zz_10 zz_11 zz_12 zz_13 zz_14 zz_15 zz_16 zz_17))))))) := hD
  refine lv_istore (lv' := [(5, .int o7.1), (4, .int i4), (3, .ref oa), (2, .ref (za 0)), (1, .ref xa), (0, .ref b9)]) hx hb dL_law_149 hl (by decide) rfl (fun ls hl => ?_)
  refine lv_aload_n hx hb dL_law_151 rfl (lv_at hl 3 rfl) ?_
  refine lv_aload_n hx hb dL_law_152 rfl (lv_at hl 5 rfl) ?_
  refine lv_iload hx hb dL_law_153 (lv_at hl 1 rfl) ?_
  refine lv_iconst (v := (1 : Int32)) hx hb dL_law_155 (by decide) ?_
  refine lv_iadd hx hb dL_law_156 ?_
  refine va_sld hx hb hX hbl hbA hS hin3 dL_law_157 ?_
  refine lv_aload_n hx hb dL_law_158 rfl (lv_at hl 5 rfl) ?_
  refine lv_iload hx hb dL_law_159 (lv_at hl 1 rfl) ?_
  refine lv_iconst (v := (2 : Int32)) hx hb dL_law_161 (by decide) ?_
  refine lv_iadd hx hb dL_law_162 ?_
  refine va_sld hx hb hX hbl hbA hS hin4 dL_law_163 ?_
  refine lv_aload_n hx hb dL_law_164 rfl (lv_at hl 5 rfl) ?_
  refine lv_iload hx hb dL_law_165 (lv_at hl 1 rfl) ?_
  refine lv_iconst (v := (3 : Int32)) hx hb dL_law_167 (by decide) ?_
  refine lv_iadd hx hb dL_law_168 ?_
  refine va_sld hx hb hX hbl hbA hS hin5 dL_law_169 ?_
  refine lv_aload_n hx hb dL_law_170 rfl (lv_at hl 5 rfl) ?_
  refine lv_iload hx hb dL_law_171 (lv_at hl 1 rfl) ?_
  refine lv_iconst (v := (4 : Int32)) hx hb dL_law_173 (by decide) ?_
  refine lv_iadd hx hb dL_law_174 ?_
  refine va_sld hx hb hX hbl hbA hS hin6 dL_law_175 ?_
  obtain ⟨o8, ho8, h⟩ := sp_b h
  have hP9 : va_P G.1 vwCl ((wXO xa (ya 0) la (pa_o7 0) (qa_o7 0) ++ (wLO G la lo ++ (wSYc G ya o7.2.1 o7.2.2.1 o7.2.2.2.1 o7.2.2.2.2.1 o7.2.2.2.2.2.1 yy_5 o7.2.2.2.2.2.2.1 yy_7 o7.2.2.2.2.2.2.2.1 ++ (wPLc G pa_o7 o7.2.2.2.2.2.2.2.2.1.1 o7.2.2.2.2.2.2.2.2.1.2.1 o7.2.2.2.2.2.2.2.2.1.2.2.1 o7.2.2.2.2.2.2.2.2.1.2.2.2.1 o7.2.2.2.2.2.2.2.2.1.2.2.2.2.1 o7.2.2.2.2.2.2.2.2.1.2.2.2.2.2.1 o7.2.2.2.2.2.2.2.2.1.2.2.2.2.2.2.1 o7.2.2.2.2.2.2.2.2.1.2.2.2.2.2.2.2.1 o7.2.2.2.2.2.2.2.2.1.2.2.2.2.2.2.2.2 ++ (wPLc G qa_o7 o7.2.2.2.2.2.2.2.2.2.1.1 o7.2.2.2.2.2.2.2.2.2.1.2.1 o7.2.2.2.2.2.2.2.2.2.1.2.2.1 o7.2.2.2.2.2.2.2.2.2.1.2.2.2.1 o7.2.2.2.2.2.2.2.2.2.1.2.2.2.2.1 o7.2.2.2.2.2.2.2.2.2.1.2.2.2.2.2.1 o7.2.2.2.2.2.2.2.2.2.1.2.2.2.2.2.2.1 o7.2.2.2.2.2.2.2.2.2.1.2.2.2.2.2.2.2.1 o7.2.2.2.2.2.2.2.2.2.1.2.2.2.2.2.2.2.2 ++ (wOU G oa o7.2.2.2.2.2.2.2.2.2.2)))))) ++ (wMOc G za zz_0 zz_1 zz_2 zz_3 zz_4 zz_5 zz_6 zz_7 zz_8 zz_9 zz_10 zz_11 zz_12 zz_13 zz_14 zz_15 zz_16 zz_17)) H := hP
  have hD9 : va_D A ((wXO xa (ya 0) la (pa_o7 0) (qa_o7 0) ++ (wLO G la lo ++ (wSYc G ya o7.2.1 o7.2.2.1 o7.2.2.2.1 o7.2.2.2.2.1 o7.2.2.2.2.2.1 yy_5 o7.2.2.2.2.2.2.1 yy_7 o7.2.2.2.2.2.2.2.1 ++ (wPLc G pa_o7 o7.2.2.2.2.2.2.2.2.1.1 o7.2.2.2.2.2.2.2.2.1.2.1 o7.2.2.2.2.2.2.2.2.1.2.2.1 o7.2.2.2.2.2.2.2.2.1.2.2.2.1 o7.2.2.2.2.2.2.2.2.1.2.2.2.2.1 o7.2.2.2.2.2.2.2.2.1.2.2.2.2.2.1 o7.2.2.2.2.2.2.2.2.1.2.2.2.2.2.2.1 o7.2.2.2.2.2.2.2.2.1.2.2.2.2.2.2.2.1 o7.2.2.2.2.2.2.2.2.1.2.2.2.2.2.2.2.2 ++ (wPLc G qa_o7 o7.2.2.2.2.2.2.2.2.2.1.1 o7.2.2.2.2.2.2.2.2.2.1.2.1 o7.2.2.2.2.2.2.2.2.2.1.2.2.1 o7.2.2.2.2.2.2.2.2.2.1.2.2.2.1 o7.2.2.2.2.2.2.2.2.2.1.2.2.2.2.1 o7.2.2.2.2.2.2.2.2.2.1.2.2.2.2.2.1 o7.2.2.2.2.2.2.2.2.2.1.2.2.2.2.2.2.1 o7.2.2.2.2.2.2.2.2.2.1.2.2.2.2.2.2.2.1 o7.2.2.2.2.2.2.2.2.2.1.2.2.2.2.2.2.2.2 ++ (wOU G oa o7.2.2.2.2.2.2.2.2.2.2)))))) ++ (wMOc G za zz_0 zz_1 zz_2 zz_3 zz_4 zz_5 zz_6 zz_7 zz_8 zz_9 zz_10 zz_11 zz_12 zz_13 zz_14 zz_15 zz_16 zz_17)) := hD
  refine xf_ci (va_runV (As := [.int (xs (i4 + (1 : Int32)).toNatClampNeg), .int (xs (i4 + (2 : Int32)).toNatClampNeg), .int (xs (i4 + (3 : Int32)).toNatClampNeg), .int (xs (i4 + (4 : Int32)).toNatClampNeg)]) (rest := []) ⟨hx, hb, hml, hown, hts⟩ (c_X3_aim l G za (zz_0, zz_1, zz_2, zz_3, zz_4, zz_5, zz_6, zz_7, zz_8, zz_9, zz_10, zz_11, zz_12, zz_13, zz_14, zz_15, zz_16, zz_17) (xs (i4 + (1 : Int32)).toNatClampNeg) (xs (i4 + (2 : Int32)).toNatClampNeg) (xs (i4 + (3 : Int32)).toNatClampNeg) (xs (i4 + (4 : Int32)).toNatClampNeg) o8 ho8 H.size) (cwV 4 hts gL_law_X3_aim rfl rfl rfl (by decide +kernel) ⟨Nat.le_of_ble_eq_true rfl, Nat.le_of_ble_eq_true rfl⟩) (xk_preV hK hNE (xf_pr hP9) (xf_dr hD9) (ci := 3) rfl rfl) rfl rfl hl.1 rfl (lv_room (Nat.le_of_ble_eq_true rfl)) dL_law_176 ⟨(by show (kc + 1) + 0 ≤ 1091; omega), (by show (ks + 6) + 0 ≤ 9564; omega)⟩) hP9 hD9 hS hA (fun H locs hP hD hS => ?_)
  refine W.widen (k := (kc + 1)) (n := (ks + 6)) (by omega) (by omega) ?_
  have hP : va_P G.1 vwCl (wXO xa (ya 0) la (pa_o7 0) (qa_o7 0) ++ (wLO G la lo ++ (wSYc G ya o7.2.1 o7.2.2.1 o7.2.2.2.1 o7.2.2.2.2.1 o7.2.2.2.2.2.1 yy_5 o7.2.2.2.2.2.2.1 yy_7 o7.2.2.2.2.2.2.2.1 ++ (wPLc G pa_o7 o7.2.2.2.2.2.2.2.2.1.1 o7.2.2.2.2.2.2.2.2.1.2.1 o7.2.2.2.2.2.2.2.2.1.2.2.1 o7.2.2.2.2.2.2.2.2.1.2.2.2.1 o7.2.2.2.2.2.2.2.2.1.2.2.2.2.1 o7.2.2.2.2.2.2.2.2.1.2.2.2.2.2.1 o7.2.2.2.2.2.2.2.2.1.2.2.2.2.2.2.1 o7.2.2.2.2.2.2.2.2.1.2.2.2.2.2.2.2.1 o7.2.2.2.2.2.2.2.2.1.2.2.2.2.2.2.2.2 ++ (wPLc G qa_o7 o7.2.2.2.2.2.2.2.2.2.1.1 o7.2.2.2.2.2.2.2.2.2.1.2.1 o7.2.2.2.2.2.2.2.2.2.1.2.2.1 o7.2.2.2.2.2.2.2.2.2.1.2.2.2.1 o7.2.2.2.2.2.2.2.2.2.1.2.2.2.2.1 o7.2.2.2.2.2.2.2.2.2.1.2.2.2.2.2.1 o7.2.2.2.2.2.2.2.2.2.1.2.2.2.2.2.2.1 o7.2.2.2.2.2.2.2.2.2.1.2.2.2.2.2.2.2.1 o7.2.2.2.2.2.2.2.2.2.1.2.2.2.2.2.2.2.2 ++ (wOU G oa o7.2.2.2.2.2.2.2.2.2.2 ++ (wMOc G za o8.2.1 o8.2.2.1 o8.2.2.2.1 o8.2.2.2.2.1 o8.2.2.2.2.2.1 zz_5 zz_6 o8.2.2.2.2.2.2.1 zz_8 zz_9 zz_10 zz_11 zz_12 zz_13 zz_14 zz_15 zz_16 o8.2.2.2.2.2.2.2))))))) H := hP
  have hD : va_D A (wXO xa (ya 0) la (pa_o7 0) (qa_o7 0) ++ (wLO G la lo ++ (wSYc G ya o7.2.1 o7.2.2.1 o7.2.2.2.1 o7.2.2.2.2.1 o7.2.2.2.2.2.1 yy_5 o7.2.2.2.2.2.2.1 yy_7 o7.2.2.2.2.2.2.2.1 ++ (wPLc G pa_o7 o7.2.2.2.2.2.2.2.2.1.1 o7.2.2.2.2.2.2.2.2.1.2.1 o7.2.2.2.2.2.2.2.2.1.2.2.1 o7.2.2.2.2.2.2.2.2.1.2.2.2.1 o7.2.2.2.2.2.2.2.2.1.2.2.2.2.1 o7.2.2.2.2.2.2.2.2.1.2.2.2.2.2.1 o7.2.2.2.2.2.2.2.2.1.2.2.2.2.2.2.1 o7.2.2.2.2.2.2.2.2.1.2.2.2.2.2.2.2.1 o7.2.2.2.2.2.2.2.2.1.2.2.2.2.2.2.2.2 ++ (wPLc G qa_o7 o7.2.2.2.2.2.2.2.2.2.1.1 o7.2.2.2.2.2.2.2.2.2.1.2.1 o7.2.2.2.2.2.2.2.2.2.1.2.2.1 o7.2.2.2.2.2.2.2.2.2.1.2.2.2.1 o7.2.2.2.2.2.2.2.2.2.1.2.2.2.2.1 o7.2.2.2.2.2.2.2.2.2.1.2.2.2.2.2.1 o7.2.2.2.2.2.2.2.2.2.1.2.2.2.2.2.2.1 o7.2.2.2.2.2.2.2.2.2.1.2.2.2.2.2.2.2.1 o7.2.2.2.2.2.2.2.2.2.1.2.2.2.2.2.2.2.2 ++ (wOU G oa o7.2.2.2.2.2.2.2.2.2.2 ++ (wMOc G za o8.2.1 o8.2.2.1 o8.2.2.2.1 o8.2.2.2.2.1 o8.2.2.2.2.2.1 zz_5 zz_6 o8.2.2.2.2.2.2.1 zz_8 zz_9 zz_10 zz_11 zz_12 zz_13 zz_14 zz_15 zz_16 o8.2.2.2.2.2.2.2))))))) := hD
  refine lv_istore (lv' := [(6, .int o8.1), (5, .int o7.1), (4, .int i4), (3, .ref oa), (2, .ref (za 0)), (1, .ref xa), (0, .ref b9)]) hx hb dL_law_179 hl (by decide) rfl (fun ls hl => ?_)
  refine lv_aload_n hx hb dL_law_181 rfl (lv_at hl 4 rfl) ?_
  obtain ⟨o9, ho9, h⟩ := sp_b h
  have hP9 : va_P G.1 vwCl ((wXO xa (ya 0) la (pa_o7 0) (qa_o7 0) ++ (wLO G la lo ++ (wSYc G ya o7.2.1 o7.2.2.1 o7.2.2.2.1 o7.2.2.2.2.1 o7.2.2.2.2.2.1 yy_5 o7.2.2.2.2.2.2.1 yy_7 o7.2.2.2.2.2.2.2.1 ++ (wPLc G pa_o7 o7.2.2.2.2.2.2.2.2.1.1 o7.2.2.2.2.2.2.2.2.1.2.1 o7.2.2.2.2.2.2.2.2.1.2.2.1 o7.2.2.2.2.2.2.2.2.1.2.2.2.1 o7.2.2.2.2.2.2.2.2.1.2.2.2.2.1 o7.2.2.2.2.2.2.2.2.1.2.2.2.2.2.1 o7.2.2.2.2.2.2.2.2.1.2.2.2.2.2.2.1 o7.2.2.2.2.2.2.2.2.1.2.2.2.2.2.2.2.1 o7.2.2.2.2.2.2.2.2.1.2.2.2.2.2.2.2.2 ++ (wPLc G qa_o7 o7.2.2.2.2.2.2.2.2.2.1.1 o7.2.2.2.2.2.2.2.2.2.1.2.1 o7.2.2.2.2.2.2.2.2.2.1.2.2.1 o7.2.2.2.2.2.2.2.2.2.1.2.2.2.1 o7.2.2.2.2.2.2.2.2.2.1.2.2.2.2.1 o7.2.2.2.2.2.2.2.2.2.1.2.2.2.2.2.1 o7.2.2.2.2.2.2.2.2.2.1.2.2.2.2.2.2.1 o7.2.2.2.2.2.2.2.2.2.1.2.2.2.2.2.2.2.1 o7.2.2.2.2.2.2.2.2.2.1.2.2.2.2.2.2.2.2 ++ (wOU G oa o7.2.2.2.2.2.2.2.2.2.2)))))) ++ (wMOc G za o8.2.1 o8.2.2.1 o8.2.2.2.1 o8.2.2.2.2.1 o8.2.2.2.2.2.1 zz_5 zz_6 o8.2.2.2.2.2.2.1 zz_8 zz_9 zz_10 zz_11 zz_12 zz_13 zz_14 zz_15 zz_16 o8.2.2.2.2.2.2.2)) H := hP
  have hD9 : va_D A ((wXO xa (ya 0) la (pa_o7 0) (qa_o7 0) ++ (wLO G la lo ++ (wSYc G ya o7.2.1 o7.2.2.1 o7.2.2.2.1 o7.2.2.2.2.1 o7.2.2.2.2.2.1 yy_5 o7.2.2.2.2.2.2.1 yy_7 o7.2.2.2.2.2.2.2.1 ++ (wPLc G pa_o7 o7.2.2.2.2.2.2.2.2.1.1 o7.2.2.2.2.2.2.2.2.1.2.1 o7.2.2.2.2.2.2.2.2.1.2.2.1 o7.2.2.2.2.2.2.2.2.1.2.2.2.1 o7.2.2.2.2.2.2.2.2.1.2.2.2.2.1 o7.2.2.2.2.2.2.2.2.1.2.2.2.2.2.1 o7.2.2.2.2.2.2.2.2.1.2.2.2.2.2.2.1 o7.2.2.2.2.2.2.2.2.1.2.2.2.2.2.2.2.1 o7.2.2.2.2.2.2.2.2.1.2.2.2.2.2.2.2.2 ++ (wPLc G qa_o7 o7.2.2.2.2.2.2.2.2.2.1.1 o7.2.2.2.2.2.2.2.2.2.1.2.1 o7.2.2.2.2.2.2.2.2.2.1.2.2.1 o7.2.2.2.2.2.2.2.2.2.1.2.2.2.1 o7.2.2.2.2.2.2.2.2.2.1.2.2.2.2.1 o7.2.2.2.2.2.2.2.2.2.1.2.2.2.2.2.1 o7.2.2.2.2.2.2.2.2.2.1.2.2.2.2.2.2.1 o7.2.2.2.2.2.2.2.2.2.1.2.2.2.2.2.2.2.1 o7.2.2.2.2.2.2.2.2.2.1.2.2.2.2.2.2.2.2 ++ (wOU G oa o7.2.2.2.2.2.2.2.2.2.2)))))) ++ (wMOc G za o8.2.1 o8.2.2.1 o8.2.2.2.1 o8.2.2.2.2.1 o8.2.2.2.2.2.1 zz_5 zz_6 o8.2.2.2.2.2.2.1 zz_8 zz_9 zz_10 zz_11 zz_12 zz_13 zz_14 zz_15 zz_16 o8.2.2.2.2.2.2.2)) := hD
  refine xf_ci (va_runV (As := []) (rest := []) ⟨hx, hb, hml, hown, hts⟩ (c_X3_thrown l G za (o8.2.1, o8.2.2.1, o8.2.2.2.1, o8.2.2.2.2.1, o8.2.2.2.2.2.1, zz_5, zz_6, o8.2.2.2.2.2.2.1, zz_8, zz_9, zz_10, zz_11, zz_12, zz_13, zz_14, zz_15, zz_16, o8.2.2.2.2.2.2.2) o9 ho9 H.size) (cwV 0 hts gL_law_X3_thrown rfl rfl rfl (by decide +kernel) ⟨Nat.le_of_ble_eq_true rfl, Nat.le_of_ble_eq_true rfl⟩) (xk_preV hK hNE (xf_pr hP9) (xf_dr hD9) (ci := 3) rfl rfl) rfl rfl hl.1 rfl (lv_room (Nat.le_of_ble_eq_true rfl)) dL_law_182 ⟨(by show (kc + 1) + 0 ≤ 1091; omega), (by show (ks + 6) + 0 ≤ 9564; omega)⟩) hP9 hD9 hS hA (fun H locs hP hD hS => ?_)
  refine W.widen (k := (kc + 1)) (n := (ks + 6)) (by omega) (by omega) ?_
  have hP : va_P G.1 vwCl (wXO xa (ya 0) la (pa_o7 0) (qa_o7 0) ++ (wLO G la lo ++ (wSYc G ya o7.2.1 o7.2.2.1 o7.2.2.2.1 o7.2.2.2.2.1 o7.2.2.2.2.2.1 yy_5 o7.2.2.2.2.2.2.1 yy_7 o7.2.2.2.2.2.2.2.1 ++ (wPLc G pa_o7 o7.2.2.2.2.2.2.2.2.1.1 o7.2.2.2.2.2.2.2.2.1.2.1 o7.2.2.2.2.2.2.2.2.1.2.2.1 o7.2.2.2.2.2.2.2.2.1.2.2.2.1 o7.2.2.2.2.2.2.2.2.1.2.2.2.2.1 o7.2.2.2.2.2.2.2.2.1.2.2.2.2.2.1 o7.2.2.2.2.2.2.2.2.1.2.2.2.2.2.2.1 o7.2.2.2.2.2.2.2.2.1.2.2.2.2.2.2.2.1 o7.2.2.2.2.2.2.2.2.1.2.2.2.2.2.2.2.2 ++ (wPLc G qa_o7 o7.2.2.2.2.2.2.2.2.2.1.1 o7.2.2.2.2.2.2.2.2.2.1.2.1 o7.2.2.2.2.2.2.2.2.2.1.2.2.1 o7.2.2.2.2.2.2.2.2.2.1.2.2.2.1 o7.2.2.2.2.2.2.2.2.2.1.2.2.2.2.1 o7.2.2.2.2.2.2.2.2.2.1.2.2.2.2.2.1 o7.2.2.2.2.2.2.2.2.2.1.2.2.2.2.2.2.1 o7.2.2.2.2.2.2.2.2.2.1.2.2.2.2.2.2.2.1 o7.2.2.2.2.2.2.2.2.2.1.2.2.2.2.2.2.2.2 ++ (wOU G oa o7.2.2.2.2.2.2.2.2.2.2 ++ (wMOc G za o8.2.1 o8.2.2.1 o8.2.2.2.1 o8.2.2.2.2.1 o8.2.2.2.2.2.1 zz_5 zz_6 o8.2.2.2.2.2.2.1 zz_8 zz_9 zz_10 zz_11 zz_12 zz_13 zz_14 zz_15 zz_16 o8.2.2.2.2.2.2.2))))))) H := hP
  have hD : va_D A (wXO xa (ya 0) la (pa_o7 0) (qa_o7 0) ++ (wLO G la lo ++ (wSYc G ya o7.2.1 o7.2.2.1 o7.2.2.2.1 o7.2.2.2.2.1 o7.2.2.2.2.2.1 yy_5 o7.2.2.2.2.2.2.1 yy_7 o7.2.2.2.2.2.2.2.1 ++ (wPLc G pa_o7 o7.2.2.2.2.2.2.2.2.1.1 o7.2.2.2.2.2.2.2.2.1.2.1 o7.2.2.2.2.2.2.2.2.1.2.2.1 o7.2.2.2.2.2.2.2.2.1.2.2.2.1 o7.2.2.2.2.2.2.2.2.1.2.2.2.2.1 o7.2.2.2.2.2.2.2.2.1.2.2.2.2.2.1 o7.2.2.2.2.2.2.2.2.1.2.2.2.2.2.2.1 o7.2.2.2.2.2.2.2.2.1.2.2.2.2.2.2.2.1 o7.2.2.2.2.2.2.2.2.1.2.2.2.2.2.2.2.2 ++ (wPLc G qa_o7 o7.2.2.2.2.2.2.2.2.2.1.1 o7.2.2.2.2.2.2.2.2.2.1.2.1 o7.2.2.2.2.2.2.2.2.2.1.2.2.1 o7.2.2.2.2.2.2.2.2.2.1.2.2.2.1 o7.2.2.2.2.2.2.2.2.2.1.2.2.2.2.1 o7.2.2.2.2.2.2.2.2.2.1.2.2.2.2.2.1 o7.2.2.2.2.2.2.2.2.2.1.2.2.2.2.2.2.1 o7.2.2.2.2.2.2.2.2.2.1.2.2.2.2.2.2.2.1 o7.2.2.2.2.2.2.2.2.2.1.2.2.2.2.2.2.2.2 ++ (wOU G oa o7.2.2.2.2.2.2.2.2.2.2 ++ (wMOc G za o8.2.1 o8.2.2.1 o8.2.2.2.1 o8.2.2.2.2.1 o8.2.2.2.2.2.1 zz_5 zz_6 o8.2.2.2.2.2.2.1 zz_8 zz_9 zz_10 zz_11 zz_12 zz_13 zz_14 zz_15 zz_16 o8.2.2.2.2.2.2.2))))))) := hD
  refine lv_iload hx hb dL_law_185 (lv_at hl 1 rfl) ?_
  refine lv_icmp_eq (tgt := 192) hx hb dL_law_187 (by decide) (fun c10 => ?_) (fun c10 => ?_)
  · have h := sp_t c10 h
    refine lv_iload hx hb dL_law_192 (lv_at hl 1 rfl) ?_
    refine lv_if_ne (tgt := 209) hx hb dL_law_194 (by decide) (fun c11 => ?_) (fun c11 => ?_)
    · have h := sp_f c11 h
      refine lv_goto (tgt := 965) hx hb dL_law_209 (by decide) ?_
      refine lv_iinc (v := (i4 + (5 : Int32))) (lv' := [(4, .int (i4 + (5 : Int32))), (6, .int o8.1), (5, .int o7.1), (3, .ref oa), (2, .ref (za 0)), (1, .ref xa), (0, .ref b9)]) hx hb dL_law_965 hl (k := 2) rfl rfl (by decide) rfl (fun ls hl => ?_)
      refine lv_goto (tgt := 23) hx hb dL_law_968 (by decide) ?_
      refine W.widen (k := kc + 1) (n := ks + 6) (by omega) (by omega) ?_
      exact kk pa_o7 qa_o7 (i4 + (5 : Int32)) lo (o7.2.1, o7.2.2.1, o7.2.2.2.1, o7.2.2.2.2.1, o7.2.2.2.2.2.1, yy_5, o7.2.2.2.2.2.2.1, yy_7, o7.2.2.2.2.2.2.2.1) o7.2.2.2.2.2.2.2.2.1 o7.2.2.2.2.2.2.2.2.2.1 o7.2.2.2.2.2.2.2.2.2.2 (o8.2.1, o8.2.2.1, o8.2.2.2.1, o8.2.2.2.2.1, o8.2.2.2.2.2.1, zz_5, zz_6, o8.2.2.2.2.2.2.1, zz_8, zz_9, zz_10, zz_11, zz_12, zz_13, zz_14, zz_15, zz_16, o8.2.2.2.2.2.2.2) _ _ h hP hD hS _ (lv_sub hl [0, 3, 4, 5, 6] rfl)
    · have h := sp_t c11 h
      refine lv_aload_n hx hb dL_law_197 rfl (lv_at hl 3 rfl) ?_
      refine lv_iconst (v := (0 : Int32)) hx hb dL_law_198 (by decide) ?_
      refine va_lald hx hb hK hP 25 2 rfl rfl (xk_in0_1) dL_law_199 ?_
      refine lv_iload hx hb dL_law_200 (lv_at hl 0 rfl) ?_
      refine lv_i2l (v := o8.1.toInt64) hx hb dL_law_202 rfl ?_
      refine W.lcmp hx hb dL_law_203 ?_
      refine lv_if_eq (tgt := 209) hx hb dL_law_204 (by decide) (fun c12 => ?_) (fun c12 => ?_)
      · have h := sp_t (xk_lc.mp c12) h
        refine lv_goto (tgt := 965) hx hb dL_law_209 (by decide) ?_
        refine lv_iinc (v := (i4 + (5 : Int32))) (lv' := [(4, .int (i4 + (5 : Int32))), (6, .int o8.1), (5, .int o7.1), (3, .ref oa), (2, .ref (za 0)), (1, .ref xa), (0, .ref b9)]) hx hb dL_law_965 hl (k := 2) rfl rfl (by decide) rfl (fun ls hl => ?_)
        refine lv_goto (tgt := 23) hx hb dL_law_968 (by decide) ?_
        refine W.widen (k := kc + 1) (n := ks + 6) (by omega) (by omega) ?_
        exact kk pa_o7 qa_o7 (i4 + (5 : Int32)) lo (o7.2.1, o7.2.2.1, o7.2.2.2.1, o7.2.2.2.2.1, o7.2.2.2.2.2.1, yy_5, o7.2.2.2.2.2.2.1, yy_7, o7.2.2.2.2.2.2.2.1) o7.2.2.2.2.2.2.2.2.1 o7.2.2.2.2.2.2.2.2.2.1 o7.2.2.2.2.2.2.2.2.2.2 (o8.2.1, o8.2.2.1, o8.2.2.2.1, o8.2.2.2.2.1, o8.2.2.2.2.2.1, zz_5, zz_6, o8.2.2.2.2.2.2.1, zz_8, zz_9, zz_10, zz_11, zz_12, zz_13, zz_14, zz_15, zz_16, o8.2.2.2.2.2.2.2) _ _ h hP hD hS _ (lv_sub hl [0, 3, 4, 5, 6] rfl)
      · have h := sp_f (fun z => c12 (xk_lc.mpr z)) h
        refine lv_iconst (v := (0 : Int32)) hx hb dL_law_207 (by decide) ?_
        exact sp_n h
  · have h := sp_f c10 h
    refine lv_iconst (v := (0 : Int32)) hx hb dL_law_190 (by decide) ?_
    exact sp_n h
def f_op_1 (L9 : Nat) (xs : xF) (K : Int32 → xF → xSY → xPL → xPL → (Nat → Int64) → xMO → Option Unit) (i4 : Int32) (lo : xF) (yy : xSY) (pp : xPL) (qq : xPL) (ou : (Nat → Int64)) (zz : xMO) : Option Unit :=
  if (i4 + (1 : Int32)) < 0 ∨ L9 ≤ (i4 + (1 : Int32)).toNatClampNeg then none else
  if (i4 + (2 : Int32)) < 0 ∨ L9 ≤ (i4 + (2 : Int32)).toNatClampNeg then none else
  Option.bind (f_L_need lo (yy.1, yy.2.1, yy.2.2.1, yy.2.2.2.1, yy.2.2.2.2.1, yy.2.2.2.2.2.1, yy.2.2.2.2.2.2.1, yy.2.2.2.2.2.2.2.1, yy.2.2.2.2.2.2.2.2) (pp.1, pp.2.1, pp.2.2.1, pp.2.2.2.1, pp.2.2.2.2.1, pp.2.2.2.2.2.1, pp.2.2.2.2.2.2.1, pp.2.2.2.2.2.2.2.1, pp.2.2.2.2.2.2.2.2) (qq.1, qq.2.1, qq.2.2.1, qq.2.2.2.1, qq.2.2.2.2.1, qq.2.2.2.2.2.1, qq.2.2.2.2.2.2.1, qq.2.2.2.2.2.2.2.1, qq.2.2.2.2.2.2.2.2) ou (xs (i4 + (1 : Int32)).toNatClampNeg) (xs (i4 + (2 : Int32)).toNatClampNeg)) fun (o15 : Int32 × xF × xF × xPL × xPL × (Nat → Int64)) =>
  Option.bind (f_X3_need (zz.1, zz.2.1, zz.2.2.1, zz.2.2.2.1, zz.2.2.2.2.1, zz.2.2.2.2.2.1, zz.2.2.2.2.2.2.1, zz.2.2.2.2.2.2.2.1, zz.2.2.2.2.2.2.2.2.1, zz.2.2.2.2.2.2.2.2.2.1, zz.2.2.2.2.2.2.2.2.2.2.1, zz.2.2.2.2.2.2.2.2.2.2.2.1, zz.2.2.2.2.2.2.2.2.2.2.2.2.1, zz.2.2.2.2.2.2.2.2.2.2.2.2.2.1, zz.2.2.2.2.2.2.2.2.2.2.2.2.2.2.1, zz.2.2.2.2.2.2.2.2.2.2.2.2.2.2.2.1, zz.2.2.2.2.2.2.2.2.2.2.2.2.2.2.2.2.1, zz.2.2.2.2.2.2.2.2.2.2.2.2.2.2.2.2.2) (xs (i4 + (1 : Int32)).toNatClampNeg) (xs (i4 + (2 : Int32)).toNatClampNeg)) fun (o16 : Int32 × xF × Int32) =>
  Option.bind (f_X3_thrown (zz.1, zz.2.1, zz.2.2.1, zz.2.2.2.1, zz.2.2.2.2.1, o16.2.1, zz.2.2.2.2.2.2.1, zz.2.2.2.2.2.2.2.1, zz.2.2.2.2.2.2.2.2.1, zz.2.2.2.2.2.2.2.2.2.1, zz.2.2.2.2.2.2.2.2.2.2.1, zz.2.2.2.2.2.2.2.2.2.2.2.1, zz.2.2.2.2.2.2.2.2.2.2.2.2.1, zz.2.2.2.2.2.2.2.2.2.2.2.2.2.1, zz.2.2.2.2.2.2.2.2.2.2.2.2.2.2.1, zz.2.2.2.2.2.2.2.2.2.2.2.2.2.2.2.1, zz.2.2.2.2.2.2.2.2.2.2.2.2.2.2.2.2.1, o16.2.2)) fun (o17 : Int32) =>
  if o17 = o15.1 then
    if o15.1 = 0 then
      if (o15.2.2.2.2.2 (0 : Int32).toNatClampNeg) = o16.1.toInt64 then
        K (i4 + (5 : Int32)) lo (yy.1, yy.2.1, yy.2.2.1, yy.2.2.2.1, yy.2.2.2.2.1, yy.2.2.2.2.2.1, yy.2.2.2.2.2.2.1, o15.2.1, o15.2.2.1) o15.2.2.2.1 o15.2.2.2.2.1 o15.2.2.2.2.2 (zz.1, zz.2.1, zz.2.2.1, zz.2.2.2.1, zz.2.2.2.2.1, o16.2.1, zz.2.2.2.2.2.2.1, zz.2.2.2.2.2.2.2.1, zz.2.2.2.2.2.2.2.2.1, zz.2.2.2.2.2.2.2.2.2.1, zz.2.2.2.2.2.2.2.2.2.2.1, zz.2.2.2.2.2.2.2.2.2.2.2.1, zz.2.2.2.2.2.2.2.2.2.2.2.2.1, zz.2.2.2.2.2.2.2.2.2.2.2.2.2.1, zz.2.2.2.2.2.2.2.2.2.2.2.2.2.2.1, zz.2.2.2.2.2.2.2.2.2.2.2.2.2.2.2.1, zz.2.2.2.2.2.2.2.2.2.2.2.2.2.2.2.2.1, o16.2.2)
      else
        none
    else
      K (i4 + (5 : Int32)) lo (yy.1, yy.2.1, yy.2.2.1, yy.2.2.2.1, yy.2.2.2.2.1, yy.2.2.2.2.2.1, yy.2.2.2.2.2.2.1, o15.2.1, o15.2.2.1) o15.2.2.2.1 o15.2.2.2.2.1 o15.2.2.2.2.2 (zz.1, zz.2.1, zz.2.2.1, zz.2.2.2.1, zz.2.2.2.2.1, o16.2.1, zz.2.2.2.2.2.2.1, zz.2.2.2.2.2.2.2.1, zz.2.2.2.2.2.2.2.2.1, zz.2.2.2.2.2.2.2.2.2.1, zz.2.2.2.2.2.2.2.2.2.2.1, zz.2.2.2.2.2.2.2.2.2.2.2.1, zz.2.2.2.2.2.2.2.2.2.2.2.2.1, zz.2.2.2.2.2.2.2.2.2.2.2.2.2.1, zz.2.2.2.2.2.2.2.2.2.2.2.2.2.2.1, zz.2.2.2.2.2.2.2.2.2.2.2.2.2.2.2.1, zz.2.2.2.2.2.2.2.2.2.2.2.2.2.2.2.2.1, o16.2.2)
  else
    none
theorem f_op_1_e (L9 : Nat) (xs : xF) (K : Int32 → xF → xSY → xPL → xPL → (Nat → Int64) → xMO → Option Unit) (i4 : Int32) (lo : xF) (yy_0 : Int32) (yy_1 : xF) (yy_2 : xF) (yy_3 : xF) (yy_4 : xF) (yy_5 : xF) (yy_6 : xF) (yy_7 : xF) (yy_8 : xF) (pp_0 : xF) (pp_1 : xF) (pp_2 : xF) (pp_3 : xF) (pp_4 : xF) (pp_5 : xF) (pp_6 : Int32) (pp_7 : Int32) (pp_8 : Int32) (qq_0 : xF) (qq_1 : xF) (qq_2 : xF) (qq_3 : xF) (qq_4 : xF) (qq_5 : xF) (qq_6 : Int32) (qq_7 : Int32) (qq_8 : Int32) (ou : (Nat → Int64)) (zz_0 : Int32) (zz_1 : xF) (zz_2 : xF) (zz_3 : xF) (zz_4 : xF) (zz_5 : xF) (zz_6 : xF) (zz_7 : xF) (zz_8 : xF) (zz_9 : xF) (zz_10 : xF) (zz_11 : xF) (zz_12 : xF) (zz_13 : xF) (zz_14 : xF) (zz_15 : xF) (zz_16 : Int32) (zz_17 : Int32) : f_op_1 L9 xs K i4 lo (yy_0, yy_1, yy_2, yy_3, yy_4, yy_5, yy_6, yy_7, yy_8) (pp_0, pp_1, pp_2, pp_3, pp_4, pp_5, pp_6, pp_7, pp_8) (qq_0, qq_1, qq_2, qq_3, qq_4, qq_5, qq_6, qq_7, qq_8) ou (zz_0, zz_1, zz_2, zz_3, zz_4, zz_5, zz_6, zz_7, zz_8, zz_9, zz_10, zz_11, zz_12, zz_13, zz_14, zz_15, zz_16, zz_17) =
  if (i4 + (1 : Int32)) < 0 ∨ L9 ≤ (i4 + (1 : Int32)).toNatClampNeg then none else
  if (i4 + (2 : Int32)) < 0 ∨ L9 ≤ (i4 + (2 : Int32)).toNatClampNeg then none else
  Option.bind (f_L_need lo (yy_0, yy_1, yy_2, yy_3, yy_4, yy_5, yy_6, yy_7, yy_8) (pp_0, pp_1, pp_2, pp_3, pp_4, pp_5, pp_6, pp_7, pp_8) (qq_0, qq_1, qq_2, qq_3, qq_4, qq_5, qq_6, qq_7, qq_8) ou (xs (i4 + (1 : Int32)).toNatClampNeg) (xs (i4 + (2 : Int32)).toNatClampNeg)) fun (o15 : Int32 × xF × xF × xPL × xPL × (Nat → Int64)) =>
  Option.bind (f_X3_need (zz_0, zz_1, zz_2, zz_3, zz_4, zz_5, zz_6, zz_7, zz_8, zz_9, zz_10, zz_11, zz_12, zz_13, zz_14, zz_15, zz_16, zz_17) (xs (i4 + (1 : Int32)).toNatClampNeg) (xs (i4 + (2 : Int32)).toNatClampNeg)) fun (o16 : Int32 × xF × Int32) =>
  Option.bind (f_X3_thrown (zz_0, zz_1, zz_2, zz_3, zz_4, o16.2.1, zz_6, zz_7, zz_8, zz_9, zz_10, zz_11, zz_12, zz_13, zz_14, zz_15, zz_16, o16.2.2)) fun (o17 : Int32) =>
  if o17 = o15.1 then
    if o15.1 = 0 then
      if (o15.2.2.2.2.2 (0 : Int32).toNatClampNeg) = o16.1.toInt64 then
        K (i4 + (5 : Int32)) lo (yy_0, yy_1, yy_2, yy_3, yy_4, yy_5, yy_6, o15.2.1, o15.2.2.1) o15.2.2.2.1 o15.2.2.2.2.1 o15.2.2.2.2.2 (zz_0, zz_1, zz_2, zz_3, zz_4, o16.2.1, zz_6, zz_7, zz_8, zz_9, zz_10, zz_11, zz_12, zz_13, zz_14, zz_15, zz_16, o16.2.2)
      else
        none
    else
      K (i4 + (5 : Int32)) lo (yy_0, yy_1, yy_2, yy_3, yy_4, yy_5, yy_6, o15.2.1, o15.2.2.1) o15.2.2.2.1 o15.2.2.2.2.1 o15.2.2.2.2.2 (zz_0, zz_1, zz_2, zz_3, zz_4, o16.2.1, zz_6, zz_7, zz_8, zz_9, zz_10, zz_11, zz_12, zz_13, zz_14, zz_15, zz_16, o16.2.2)
  else
    none := rfl
set_option maxHeartbeats 8000000 in
set_option maxRecDepth 100000 in
theorem law_op_1 {pr9 : Program} {l : Launch} {en9 : Env} {s : State} {mm9 : MethodId} {bl9 : List Frame} {meth9 : Method} {cd9 : Code} (hl9 : l.stackTraces = false) (G : xG) {b9 L9 : Nat} {xs : xF} (C0 : lw_At pr9 s mm9 meth9 cd9 b9 L9 xs) (A : Nat → Prop) (hA : ∀ q, s.heap.size ≤ q → A q) (hAs : ∀ q, A q → s.heap.size ≤ q) (hK : va_K G.1 vwCl (xT G) s) (hNE : xk_NE s) (hXB : xk_XB s) (hSR : xk_SR s) (hZX : xk_ZX A s s.heap) (xa la oa : Nat) (ya za : Nat → Nat) (kc ks : Nat) (hk1 : kc + 1 ≤ 1091) (hk2 : ks + 6 ≤ 9564) (K : Int32 → xF → xSY → xPL → xPL → (Nat → Int64) → xMO → Option Unit) (kk : ∀ (pa qa : Nat → Nat) (i4 : Int32) (lo : xF) (yy : xSY) (pp : xPL) (qq : xPL) (ou : (Nat → Int64)) (zz : xMO) (H : Heap) (locs : List Loc), K i4 lo yy pp qq ou zz = some () → va_P G.1 vwCl (wXO xa (ya 0) la (pa 0) (qa 0) ++ (wLO G la lo ++ (wSYc G ya yy.1 yy.2.1 yy.2.2.1 yy.2.2.2.1 yy.2.2.2.2.1 yy.2.2.2.2.2.1 yy.2.2.2.2.2.2.1 yy.2.2.2.2.2.2.2.1 yy.2.2.2.2.2.2.2.2 ++ (wPLc G pa pp.1 pp.2.1 pp.2.2.1 pp.2.2.2.1 pp.2.2.2.2.1 pp.2.2.2.2.2.1 pp.2.2.2.2.2.2.1 pp.2.2.2.2.2.2.2.1 pp.2.2.2.2.2.2.2.2 ++ (wPLc G qa qq.1 qq.2.1 qq.2.2.1 qq.2.2.2.1 qq.2.2.2.2.1 qq.2.2.2.2.2.1 qq.2.2.2.2.2.2.1 qq.2.2.2.2.2.2.2.1 qq.2.2.2.2.2.2.2.2 ++ (wOU G oa ou ++ (wMOc G za zz.1 zz.2.1 zz.2.2.1 zz.2.2.2.1 zz.2.2.2.2.1 zz.2.2.2.2.2.1 zz.2.2.2.2.2.2.1 zz.2.2.2.2.2.2.2.1 zz.2.2.2.2.2.2.2.2.1 zz.2.2.2.2.2.2.2.2.2.1 zz.2.2.2.2.2.2.2.2.2.2.1 zz.2.2.2.2.2.2.2.2.2.2.2.1 zz.2.2.2.2.2.2.2.2.2.2.2.2.1 zz.2.2.2.2.2.2.2.2.2.2.2.2.2.1 zz.2.2.2.2.2.2.2.2.2.2.2.2.2.2.1 zz.2.2.2.2.2.2.2.2.2.2.2.2.2.2.2.1 zz.2.2.2.2.2.2.2.2.2.2.2.2.2.2.2.2.1 zz.2.2.2.2.2.2.2.2.2.2.2.2.2.2.2.2.2))))))) H → va_D A (wXO xa (ya 0) la (pa 0) (qa 0) ++ (wLO G la lo ++ (wSYc G ya yy.1 yy.2.1 yy.2.2.1 yy.2.2.2.1 yy.2.2.2.2.1 yy.2.2.2.2.2.1 yy.2.2.2.2.2.2.1 yy.2.2.2.2.2.2.2.1 yy.2.2.2.2.2.2.2.2 ++ (wPLc G pa pp.1 pp.2.1 pp.2.2.1 pp.2.2.2.1 pp.2.2.2.2.1 pp.2.2.2.2.2.1 pp.2.2.2.2.2.2.1 pp.2.2.2.2.2.2.2.1 pp.2.2.2.2.2.2.2.2 ++ (wPLc G qa qq.1 qq.2.1 qq.2.2.1 qq.2.2.2.1 qq.2.2.2.2.1 qq.2.2.2.2.2.1 qq.2.2.2.2.2.2.1 qq.2.2.2.2.2.2.2.1 qq.2.2.2.2.2.2.2.2 ++ (wOU G oa ou ++ (wMOc G za zz.1 zz.2.1 zz.2.2.1 zz.2.2.2.1 zz.2.2.2.2.1 zz.2.2.2.2.2.1 zz.2.2.2.2.2.2.1 zz.2.2.2.2.2.2.2.1 zz.2.2.2.2.2.2.2.2.1 zz.2.2.2.2.2.2.2.2.2.1 zz.2.2.2.2.2.2.2.2.2.2.1 zz.2.2.2.2.2.2.2.2.2.2.2.1 zz.2.2.2.2.2.2.2.2.2.2.2.2.1 zz.2.2.2.2.2.2.2.2.2.2.2.2.2.1 zz.2.2.2.2.2.2.2.2.2.2.2.2.2.2.1 zz.2.2.2.2.2.2.2.2.2.2.2.2.2.2.2.1 zz.2.2.2.2.2.2.2.2.2.2.2.2.2.2.2.2.1 zz.2.2.2.2.2.2.2.2.2.2.2.2.2.2.2.2.2))))))) → va_S A s.heap H locs → ∀ ls, lv_has ls 7 [(4, .int i4), (3, .ref oa), (2, .ref (za 0)), (1, .ref xa), (0, .ref b9)] → W pr9 l en9 room_1 s mm9 #[Value.ref b9] bl9 meth9 cd9 H locs (kc + 1) (ks + 6) (lw_Z bl9 #[Value.ref b9] s) (F0 mm9 23 ls [])) (pa qa : Nat → Nat) (i4 : Int32) (lo : xF) (yy : xSY) (pp : xPL) (qq : xPL) (ou : (Nat → Int64)) (zz : xMO) (H : Heap) (locs : List Loc) (h : f_op_1 L9 xs K i4 lo yy pp qq ou zz = some ()) (hP : va_P G.1 vwCl (wXO xa (ya 0) la (pa 0) (qa 0) ++ (wLO G la lo ++ (wSYc G ya yy.1 yy.2.1 yy.2.2.1 yy.2.2.2.1 yy.2.2.2.2.1 yy.2.2.2.2.2.1 yy.2.2.2.2.2.2.1 yy.2.2.2.2.2.2.2.1 yy.2.2.2.2.2.2.2.2 ++ (wPLc G pa pp.1 pp.2.1 pp.2.2.1 pp.2.2.2.1 pp.2.2.2.2.1 pp.2.2.2.2.2.1 pp.2.2.2.2.2.2.1 pp.2.2.2.2.2.2.2.1 pp.2.2.2.2.2.2.2.2 ++ (wPLc G qa qq.1 qq.2.1 qq.2.2.1 qq.2.2.2.1 qq.2.2.2.2.1 qq.2.2.2.2.2.1 qq.2.2.2.2.2.2.1 qq.2.2.2.2.2.2.2.1 qq.2.2.2.2.2.2.2.2 ++ (wOU G oa ou ++ (wMOc G za zz.1 zz.2.1 zz.2.2.1 zz.2.2.2.1 zz.2.2.2.2.1 zz.2.2.2.2.2.1 zz.2.2.2.2.2.2.1 zz.2.2.2.2.2.2.2.1 zz.2.2.2.2.2.2.2.2.1 zz.2.2.2.2.2.2.2.2.2.1 zz.2.2.2.2.2.2.2.2.2.2.1 zz.2.2.2.2.2.2.2.2.2.2.2.1 zz.2.2.2.2.2.2.2.2.2.2.2.2.1 zz.2.2.2.2.2.2.2.2.2.2.2.2.2.1 zz.2.2.2.2.2.2.2.2.2.2.2.2.2.2.1 zz.2.2.2.2.2.2.2.2.2.2.2.2.2.2.2.1 zz.2.2.2.2.2.2.2.2.2.2.2.2.2.2.2.2.1 zz.2.2.2.2.2.2.2.2.2.2.2.2.2.2.2.2.2))))))) H) (hD : va_D A (wXO xa (ya 0) la (pa 0) (qa 0) ++ (wLO G la lo ++ (wSYc G ya yy.1 yy.2.1 yy.2.2.1 yy.2.2.2.1 yy.2.2.2.2.1 yy.2.2.2.2.2.1 yy.2.2.2.2.2.2.1 yy.2.2.2.2.2.2.2.1 yy.2.2.2.2.2.2.2.2 ++ (wPLc G pa pp.1 pp.2.1 pp.2.2.1 pp.2.2.2.1 pp.2.2.2.2.1 pp.2.2.2.2.2.1 pp.2.2.2.2.2.2.1 pp.2.2.2.2.2.2.2.1 pp.2.2.2.2.2.2.2.2 ++ (wPLc G qa qq.1 qq.2.1 qq.2.2.1 qq.2.2.2.1 qq.2.2.2.2.1 qq.2.2.2.2.2.1 qq.2.2.2.2.2.2.1 qq.2.2.2.2.2.2.2.1 qq.2.2.2.2.2.2.2.2 ++ (wOU G oa ou ++ (wMOc G za zz.1 zz.2.1 zz.2.2.1 zz.2.2.2.1 zz.2.2.2.2.1 zz.2.2.2.2.2.1 zz.2.2.2.2.2.2.1 zz.2.2.2.2.2.2.2.1 zz.2.2.2.2.2.2.2.2.1 zz.2.2.2.2.2.2.2.2.2.1 zz.2.2.2.2.2.2.2.2.2.2.1 zz.2.2.2.2.2.2.2.2.2.2.2.1 zz.2.2.2.2.2.2.2.2.2.2.2.2.1 zz.2.2.2.2.2.2.2.2.2.2.2.2.2.1 zz.2.2.2.2.2.2.2.2.2.2.2.2.2.2.1 zz.2.2.2.2.2.2.2.2.2.2.2.2.2.2.2.1 zz.2.2.2.2.2.2.2.2.2.2.2.2.2.2.2.2.1 zz.2.2.2.2.2.2.2.2.2.2.2.2.2.2.2.2.2)))))))) (hS : va_S A s.heap H locs) (ls : Array Slot) (hl : lv_has ls 7 [(4, .int i4), (3, .ref oa), (2, .ref (za 0)), (1, .ref xa), (0, .ref b9)]) :
    W pr9 l en9 room_1 s mm9 #[Value.ref b9] bl9 meth9 cd9 H locs kc ks (lw_Z bl9 #[Value.ref b9] s) (F0 mm9 212 ls []) := by
  obtain ⟨hx, hb, hr, hml, hown, hts, hX, hbl, hlk, hgv⟩ := id C0
  have hts := fun w h => hts w (wsL_law_in w h)
  have hown : s.vm.findClass RL = some mm9.cls := hown
  have hbA : ¬ A b9 := fun h => Nat.not_le.mpr hbl (hAs _ h)
  obtain ⟨yy_0, yy_1, yy_2, yy_3, yy_4, yy_5, yy_6, yy_7, yy_8⟩ := yy
  obtain ⟨pp_0, pp_1, pp_2, pp_3, pp_4, pp_5, pp_6, pp_7, pp_8⟩ := pp
  obtain ⟨qq_0, qq_1, qq_2, qq_3, qq_4, qq_5, qq_6, qq_7, qq_8⟩ := qq
  obtain ⟨zz_0, zz_1, zz_2, zz_3, zz_4, zz_5, zz_6, zz_7, zz_8, zz_9, zz_10, zz_11, zz_12, zz_13, zz_14, zz_15, zz_16, zz_17⟩ := zz
  have hP : va_P G.1 vwCl (wXO xa (ya 0) la (pa 0) (qa 0) ++ (wLO G la lo ++ (wSYc G ya yy_0 yy_1 yy_2 yy_3 yy_4 yy_5 yy_6 yy_7 yy_8 ++ (wPLc G pa pp_0 pp_1 pp_2 pp_3 pp_4 pp_5 pp_6 pp_7 pp_8 ++ (wPLc G qa qq_0 qq_1 qq_2 qq_3 qq_4 qq_5 qq_6 qq_7 qq_8 ++ (wOU G oa ou ++ (wMOc G za zz_0 zz_1 zz_2 zz_3 zz_4 zz_5 zz_6 zz_7 zz_8 zz_9 zz_10 zz_11 zz_12 zz_13 zz_14 zz_15 zz_16 zz_17))))))) H := hP
  have hD : va_D A (wXO xa (ya 0) la (pa 0) (qa 0) ++ (wLO G la lo ++ (wSYc G ya yy_0 yy_1 yy_2 yy_3 yy_4 yy_5 yy_6 yy_7 yy_8 ++ (wPLc G pa pp_0 pp_1 pp_2 pp_3 pp_4 pp_5 pp_6 pp_7 pp_8 ++ (wPLc G qa qq_0 qq_1 qq_2 qq_3 qq_4 qq_5 qq_6 qq_7 qq_8 ++ (wOU G oa ou ++ (wMOc G za zz_0 zz_1 zz_2 zz_3 zz_4 zz_5 zz_6 zz_7 zz_8 zz_9 zz_10 zz_11 zz_12 zz_13 zz_14 zz_15 zz_16 zz_17))))))) := hD
  have h := (f_op_1_e L9 xs K i4 lo yy_0 yy_1 yy_2 yy_3 yy_4 yy_5 yy_6 yy_7 yy_8 pp_0 pp_1 pp_2 pp_3 pp_4 pp_5 pp_6 pp_7 pp_8 qq_0 qq_1 qq_2 qq_3 qq_4 qq_5 qq_6 qq_7 qq_8 ou zz_0 zz_1 zz_2 zz_3 zz_4 zz_5 zz_6 zz_7 zz_8 zz_9 zz_10 zz_11 zz_12 zz_13 zz_14 zz_15 zz_16 zz_17).symm.trans h
  refine lv_aload_n hx hb dL_law_212 rfl (lv_at hl 3 rfl) ?_
  refine lv_aload_n hx hb dL_law_213 rfl (lv_at hl 4 rfl) ?_
  refine lv_iload hx hb dL_law_214 (lv_at hl 0 rfl) ?_
  refine lv_iconst (v := (1 : Int32)) hx hb dL_law_216 (by decide) ?_
  refine lv_iadd hx hb dL_law_217 ?_
  obtain ⟨hin13, h⟩ := sp_g h
  refine va_sld hx hb hX hbl hbA hS hin13 dL_law_218 ?_
  refine lv_aload_n hx hb dL_law_219 rfl (lv_at hl 4 rfl) ?_
  refine lv_iload hx hb dL_law_220 (lv_at hl 0 rfl) ?_
  refine lv_iconst (v := (2 : Int32)) hx hb dL_law_222 (by decide) ?_
  refine lv_iadd hx hb dL_law_223 ?_
  obtain ⟨hin14, h⟩ := sp_g h
  refine va_sld hx hb hX hbl hbA hS hin14 dL_law_224 ?_
  refine lv_aload_n hx hb dL_law_225 rfl (lv_at hl 1 rfl) ?_
  obtain ⟨o15, ho15, h⟩ := sp_b h
  obtain ⟨pa_o15, qa_o15, hpq_o15⟩ := xk_pq pa qa (o15.1 = 0)
  have hP9 : va_P G.1 vwCl ((wMOc G za zz_0 zz_1 zz_2 zz_3 zz_4 zz_5 zz_6 zz_7 zz_8 zz_9 zz_10 zz_11 zz_12 zz_13 zz_14 zz_15 zz_16 zz_17) ++ (wXO xa (ya 0) la (pa 0) (qa 0) ++ (wLO G la lo ++ (wSYc G ya yy_0 yy_1 yy_2 yy_3 yy_4 yy_5 yy_6 yy_7 yy_8 ++ (wPLc G pa pp_0 pp_1 pp_2 pp_3 pp_4 pp_5 pp_6 pp_7 pp_8 ++ (wPLc G qa qq_0 qq_1 qq_2 qq_3 qq_4 qq_5 qq_6 qq_7 qq_8 ++ (wOU G oa ou))))))) H := xf_psw (a := (wXO xa (ya 0) la (pa 0) (qa 0) ++ (wLO G la lo ++ (wSYc G ya yy_0 yy_1 yy_2 yy_3 yy_4 yy_5 yy_6 yy_7 yy_8 ++ (wPLc G pa pp_0 pp_1 pp_2 pp_3 pp_4 pp_5 pp_6 pp_7 pp_8 ++ (wPLc G qa qq_0 qq_1 qq_2 qq_3 qq_4 qq_5 qq_6 qq_7 qq_8 ++ (wOU G oa ou))))))) (b := (wMOc G za zz_0 zz_1 zz_2 zz_3 zz_4 zz_5 zz_6 zz_7 zz_8 zz_9 zz_10 zz_11 zz_12 zz_13 zz_14 zz_15 zz_16 zz_17)) hP
  have hD9 : va_D A ((wMOc G za zz_0 zz_1 zz_2 zz_3 zz_4 zz_5 zz_6 zz_7 zz_8 zz_9 zz_10 zz_11 zz_12 zz_13 zz_14 zz_15 zz_16 zz_17) ++ (wXO xa (ya 0) la (pa 0) (qa 0) ++ (wLO G la lo ++ (wSYc G ya yy_0 yy_1 yy_2 yy_3 yy_4 yy_5 yy_6 yy_7 yy_8 ++ (wPLc G pa pp_0 pp_1 pp_2 pp_3 pp_4 pp_5 pp_6 pp_7 pp_8 ++ (wPLc G qa qq_0 qq_1 qq_2 qq_3 qq_4 qq_5 qq_6 qq_7 qq_8 ++ (wOU G oa ou))))))) := xf_dsw (a := (wXO xa (ya 0) la (pa 0) (qa 0) ++ (wLO G la lo ++ (wSYc G ya yy_0 yy_1 yy_2 yy_3 yy_4 yy_5 yy_6 yy_7 yy_8 ++ (wPLc G pa pp_0 pp_1 pp_2 pp_3 pp_4 pp_5 pp_6 pp_7 pp_8 ++ (wPLc G qa qq_0 qq_1 qq_2 qq_3 qq_4 qq_5 qq_6 qq_7 qq_8 ++ (wOU G oa ou))))))) (b := (wMOc G za zz_0 zz_1 zz_2 zz_3 zz_4 zz_5 zz_6 zz_7 zz_8 zz_9 zz_10 zz_11 zz_12 zz_13 zz_14 zz_15 zz_16 zz_17)) hD
  refine xf_ci (vx_runSW (As := [.ref xa, .int (xs (i4 + (1 : Int32)).toNatClampNeg), .int (xs (i4 + (2 : Int32)).toNatClampNeg), .ref oa]) (rest := []) ⟨hx, hb, hml, hown, hts⟩ (c_L_need l hl9 G xa la ya pa qa oa lo (yy_0, yy_1, yy_2, yy_3, yy_4, yy_5, yy_6, yy_7, yy_8) (pp_0, pp_1, pp_2, pp_3, pp_4, pp_5, pp_6, pp_7, pp_8) (qq_0, qq_1, qq_2, qq_3, qq_4, qq_5, qq_6, qq_7, qq_8) ou (xs (i4 + (1 : Int32)).toNatClampNeg) (xs (i4 + (2 : Int32)).toNatClampNeg) o15 pa_o15 qa_o15 hpq_o15 ho15 H.size) (vx_cwSW 4 hts gL_law_L_need rfl rfl rfl (by decide +kernel) ⟨Nat.le_of_ble_eq_true rfl, Nat.le_of_ble_eq_true rfl⟩) (xk_preSX hK hNE hXB hSR hZX hS (xf_free hD9 hS hA) (xf_pr hP9) (xf_dr hD9)) rfl rfl hl.1 rfl (lv_room (Nat.le_of_ble_eq_true rfl)) dL_law_226 ⟨(by show kc + 1 ≤ 1091; omega), (by show ks + 6 ≤ 9564; omega)⟩) hP9 hD9 hS hA (fun H locs hP hD hS => ?_)
  refine W.widen (k := (kc + 1)) (n := (ks + 6)) (by omega) (by omega) ?_
  have hP := xf_psw hP
  have hP : va_P G.1 vwCl (wXO xa (ya 0) la (pa_o15 0) (qa_o15 0) ++ (wLO G la lo ++ (wSYc G ya yy_0 yy_1 yy_2 yy_3 yy_4 yy_5 yy_6 o15.2.1 o15.2.2.1 ++ (wPLc G pa_o15 o15.2.2.2.1.1 o15.2.2.2.1.2.1 o15.2.2.2.1.2.2.1 o15.2.2.2.1.2.2.2.1 o15.2.2.2.1.2.2.2.2.1 o15.2.2.2.1.2.2.2.2.2.1 o15.2.2.2.1.2.2.2.2.2.2.1 o15.2.2.2.1.2.2.2.2.2.2.2.1 o15.2.2.2.1.2.2.2.2.2.2.2.2 ++ (wPLc G qa_o15 o15.2.2.2.2.1.1 o15.2.2.2.2.1.2.1 o15.2.2.2.2.1.2.2.1 o15.2.2.2.2.1.2.2.2.1 o15.2.2.2.2.1.2.2.2.2.1 o15.2.2.2.2.1.2.2.2.2.2.1 o15.2.2.2.2.1.2.2.2.2.2.2.1 o15.2.2.2.2.1.2.2.2.2.2.2.2.1 o15.2.2.2.2.1.2.2.2.2.2.2.2.2 ++ (wOU G oa o15.2.2.2.2.2 ++ (wMOc G za zz_0 zz_1 zz_2 zz_3 zz_4 zz_5 zz_6 zz_7 zz_8 zz_9 zz_10 zz_11 zz_12 zz_13 zz_14 zz_15 zz_16 zz_17))))))) H := hP
  have hD := xf_dsw hD
  have hD : va_D A (wXO xa (ya 0) la (pa_o15 0) (qa_o15 0) ++ (wLO G la lo ++ (wSYc G ya yy_0 yy_1 yy_2 yy_3 yy_4 yy_5 yy_6 o15.2.1 o15.2.2.1 ++ (wPLc G pa_o15 o15.2.2.2.1.1 o15.2.2.2.1.2.1 o15.2.2.2.1.2.2.1 o15.2.2.2.1.2.2.2.1 o15.2.2.2.1.2.2.2.2.1 o15.2.2.2.1.2.2.2.2.2.1 o15.2.2.2.1.2.2.2.2.2.2.1 o15.2.2.2.1.2.2.2.2.2.2.2.1 o15.2.2.2.1.2.2.2.2.2.2.2.2 ++ (wPLc G qa_o15 o15.2.2.2.2.1.1 o15.2.2.2.2.1.2.1 o15.2.2.2.2.1.2.2.1 o15.2.2.2.2.1.2.2.2.1 o15.2.2.2.2.1.2.2.2.2.1 o15.2.2.2.2.1.2.2.2.2.2.1 o15.2.2.2.2.1.2.2.2.2.2.2.1 o15.2.2.2.2.1.2.2.2.2.2.2.2.1 o15.2.2.2.2.1.2.2.2.2.2.2.2.2 ++ (wOU G oa o15.2.2.2.2.2 ++ (wMOc G za zz_0 zz_1 zz_2 zz_3 zz_4 zz_5 zz_6 zz_7 zz_8 zz_9 zz_10 zz_11 zz_12 zz_13 zz_14 zz_15 zz_16 zz_17))))))) := hD
  refine lv_istore (lv' := [(5, .int o15.1), (4, .int i4), (3, .ref oa), (2, .ref (za 0)), (1, .ref xa), (0, .ref b9)]) hx hb dL_law_229 hl (by decide) rfl (fun ls hl => ?_)
  refine lv_aload_n hx hb dL_law_231 rfl (lv_at hl 3 rfl) ?_
  refine lv_aload_n hx hb dL_law_232 rfl (lv_at hl 5 rfl) ?_
  refine lv_iload hx hb dL_law_233 (lv_at hl 1 rfl) ?_
  refine lv_iconst (v := (1 : Int32)) hx hb dL_law_235 (by decide) ?_
  refine lv_iadd hx hb dL_law_236 ?_
  refine va_sld hx hb hX hbl hbA hS hin13 dL_law_237 ?_
  refine lv_aload_n hx hb dL_law_238 rfl (lv_at hl 5 rfl) ?_
  refine lv_iload hx hb dL_law_239 (lv_at hl 1 rfl) ?_
  refine lv_iconst (v := (2 : Int32)) hx hb dL_law_241 (by decide) ?_
  refine lv_iadd hx hb dL_law_242 ?_
  refine va_sld hx hb hX hbl hbA hS hin14 dL_law_243 ?_
  obtain ⟨o16, ho16, h⟩ := sp_b h
  have hP9 : va_P G.1 vwCl ((wXO xa (ya 0) la (pa_o15 0) (qa_o15 0) ++ (wLO G la lo ++ (wSYc G ya yy_0 yy_1 yy_2 yy_3 yy_4 yy_5 yy_6 o15.2.1 o15.2.2.1 ++ (wPLc G pa_o15 o15.2.2.2.1.1 o15.2.2.2.1.2.1 o15.2.2.2.1.2.2.1 o15.2.2.2.1.2.2.2.1 o15.2.2.2.1.2.2.2.2.1 o15.2.2.2.1.2.2.2.2.2.1 o15.2.2.2.1.2.2.2.2.2.2.1 o15.2.2.2.1.2.2.2.2.2.2.2.1 o15.2.2.2.1.2.2.2.2.2.2.2.2 ++ (wPLc G qa_o15 o15.2.2.2.2.1.1 o15.2.2.2.2.1.2.1 o15.2.2.2.2.1.2.2.1 o15.2.2.2.2.1.2.2.2.1 o15.2.2.2.2.1.2.2.2.2.1 o15.2.2.2.2.1.2.2.2.2.2.1 o15.2.2.2.2.1.2.2.2.2.2.2.1 o15.2.2.2.2.1.2.2.2.2.2.2.2.1 o15.2.2.2.2.1.2.2.2.2.2.2.2.2 ++ (wOU G oa o15.2.2.2.2.2)))))) ++ (wMOc G za zz_0 zz_1 zz_2 zz_3 zz_4 zz_5 zz_6 zz_7 zz_8 zz_9 zz_10 zz_11 zz_12 zz_13 zz_14 zz_15 zz_16 zz_17)) H := hP
  have hD9 : va_D A ((wXO xa (ya 0) la (pa_o15 0) (qa_o15 0) ++ (wLO G la lo ++ (wSYc G ya yy_0 yy_1 yy_2 yy_3 yy_4 yy_5 yy_6 o15.2.1 o15.2.2.1 ++ (wPLc G pa_o15 o15.2.2.2.1.1 o15.2.2.2.1.2.1 o15.2.2.2.1.2.2.1 o15.2.2.2.1.2.2.2.1 o15.2.2.2.1.2.2.2.2.1 o15.2.2.2.1.2.2.2.2.2.1 o15.2.2.2.1.2.2.2.2.2.2.1 o15.2.2.2.1.2.2.2.2.2.2.2.1 o15.2.2.2.1.2.2.2.2.2.2.2.2 ++ (wPLc G qa_o15 o15.2.2.2.2.1.1 o15.2.2.2.2.1.2.1 o15.2.2.2.2.1.2.2.1 o15.2.2.2.2.1.2.2.2.1 o15.2.2.2.2.1.2.2.2.2.1 o15.2.2.2.2.1.2.2.2.2.2.1 o15.2.2.2.2.1.2.2.2.2.2.2.1 o15.2.2.2.2.1.2.2.2.2.2.2.2.1 o15.2.2.2.2.1.2.2.2.2.2.2.2.2 ++ (wOU G oa o15.2.2.2.2.2)))))) ++ (wMOc G za zz_0 zz_1 zz_2 zz_3 zz_4 zz_5 zz_6 zz_7 zz_8 zz_9 zz_10 zz_11 zz_12 zz_13 zz_14 zz_15 zz_16 zz_17)) := hD
  refine xf_ci (va_runV (As := [.int (xs (i4 + (1 : Int32)).toNatClampNeg), .int (xs (i4 + (2 : Int32)).toNatClampNeg)]) (rest := []) ⟨hx, hb, hml, hown, hts⟩ (c_X3_need l G za (zz_0, zz_1, zz_2, zz_3, zz_4, zz_5, zz_6, zz_7, zz_8, zz_9, zz_10, zz_11, zz_12, zz_13, zz_14, zz_15, zz_16, zz_17) (xs (i4 + (1 : Int32)).toNatClampNeg) (xs (i4 + (2 : Int32)).toNatClampNeg) o16 ho16 H.size) (cwV 2 hts gL_law_X3_need rfl rfl rfl (by decide +kernel) ⟨Nat.le_of_ble_eq_true rfl, Nat.le_of_ble_eq_true rfl⟩) (xk_preV hK hNE (xf_pr hP9) (xf_dr hD9) (ci := 3) rfl rfl) rfl rfl hl.1 rfl (lv_room (Nat.le_of_ble_eq_true rfl)) dL_law_244 ⟨(by show (kc + 1) + 0 ≤ 1091; omega), (by show (ks + 6) + 0 ≤ 9564; omega)⟩) hP9 hD9 hS hA (fun H locs hP hD hS => ?_)
  refine W.widen (k := (kc + 1)) (n := (ks + 6)) (by omega) (by omega) ?_
  have hP : va_P G.1 vwCl (wXO xa (ya 0) la (pa_o15 0) (qa_o15 0) ++ (wLO G la lo ++ (wSYc G ya yy_0 yy_1 yy_2 yy_3 yy_4 yy_5 yy_6 o15.2.1 o15.2.2.1 ++ (wPLc G pa_o15 o15.2.2.2.1.1 o15.2.2.2.1.2.1 o15.2.2.2.1.2.2.1 o15.2.2.2.1.2.2.2.1 o15.2.2.2.1.2.2.2.2.1 o15.2.2.2.1.2.2.2.2.2.1 o15.2.2.2.1.2.2.2.2.2.2.1 o15.2.2.2.1.2.2.2.2.2.2.2.1 o15.2.2.2.1.2.2.2.2.2.2.2.2 ++ (wPLc G qa_o15 o15.2.2.2.2.1.1 o15.2.2.2.2.1.2.1 o15.2.2.2.2.1.2.2.1 o15.2.2.2.2.1.2.2.2.1 o15.2.2.2.2.1.2.2.2.2.1 o15.2.2.2.2.1.2.2.2.2.2.1 o15.2.2.2.2.1.2.2.2.2.2.2.1 o15.2.2.2.2.1.2.2.2.2.2.2.2.1 o15.2.2.2.2.1.2.2.2.2.2.2.2.2 ++ (wOU G oa o15.2.2.2.2.2 ++ (wMOc G za zz_0 zz_1 zz_2 zz_3 zz_4 o16.2.1 zz_6 zz_7 zz_8 zz_9 zz_10 zz_11 zz_12 zz_13 zz_14 zz_15 zz_16 o16.2.2))))))) H := hP
  have hD : va_D A (wXO xa (ya 0) la (pa_o15 0) (qa_o15 0) ++ (wLO G la lo ++ (wSYc G ya yy_0 yy_1 yy_2 yy_3 yy_4 yy_5 yy_6 o15.2.1 o15.2.2.1 ++ (wPLc G pa_o15 o15.2.2.2.1.1 o15.2.2.2.1.2.1 o15.2.2.2.1.2.2.1 o15.2.2.2.1.2.2.2.1 o15.2.2.2.1.2.2.2.2.1 o15.2.2.2.1.2.2.2.2.2.1 o15.2.2.2.1.2.2.2.2.2.2.1 o15.2.2.2.1.2.2.2.2.2.2.2.1 o15.2.2.2.1.2.2.2.2.2.2.2.2 ++ (wPLc G qa_o15 o15.2.2.2.2.1.1 o15.2.2.2.2.1.2.1 o15.2.2.2.2.1.2.2.1 o15.2.2.2.2.1.2.2.2.1 o15.2.2.2.2.1.2.2.2.2.1 o15.2.2.2.2.1.2.2.2.2.2.1 o15.2.2.2.2.1.2.2.2.2.2.2.1 o15.2.2.2.2.1.2.2.2.2.2.2.2.1 o15.2.2.2.2.1.2.2.2.2.2.2.2.2 ++ (wOU G oa o15.2.2.2.2.2 ++ (wMOc G za zz_0 zz_1 zz_2 zz_3 zz_4 o16.2.1 zz_6 zz_7 zz_8 zz_9 zz_10 zz_11 zz_12 zz_13 zz_14 zz_15 zz_16 o16.2.2))))))) := hD
  refine lv_istore (lv' := [(6, .int o16.1), (5, .int o15.1), (4, .int i4), (3, .ref oa), (2, .ref (za 0)), (1, .ref xa), (0, .ref b9)]) hx hb dL_law_247 hl (by decide) rfl (fun ls hl => ?_)
  refine lv_aload_n hx hb dL_law_249 rfl (lv_at hl 4 rfl) ?_
  obtain ⟨o17, ho17, h⟩ := sp_b h
  have hP9 : va_P G.1 vwCl ((wXO xa (ya 0) la (pa_o15 0) (qa_o15 0) ++ (wLO G la lo ++ (wSYc G ya yy_0 yy_1 yy_2 yy_3 yy_4 yy_5 yy_6 o15.2.1 o15.2.2.1 ++ (wPLc G pa_o15 o15.2.2.2.1.1 o15.2.2.2.1.2.1 o15.2.2.2.1.2.2.1 o15.2.2.2.1.2.2.2.1 o15.2.2.2.1.2.2.2.2.1 o15.2.2.2.1.2.2.2.2.2.1 o15.2.2.2.1.2.2.2.2.2.2.1 o15.2.2.2.1.2.2.2.2.2.2.2.1 o15.2.2.2.1.2.2.2.2.2.2.2.2 ++ (wPLc G qa_o15 o15.2.2.2.2.1.1 o15.2.2.2.2.1.2.1 o15.2.2.2.2.1.2.2.1 o15.2.2.2.2.1.2.2.2.1 o15.2.2.2.2.1.2.2.2.2.1 o15.2.2.2.2.1.2.2.2.2.2.1 o15.2.2.2.2.1.2.2.2.2.2.2.1 o15.2.2.2.2.1.2.2.2.2.2.2.2.1 o15.2.2.2.2.1.2.2.2.2.2.2.2.2 ++ (wOU G oa o15.2.2.2.2.2)))))) ++ (wMOc G za zz_0 zz_1 zz_2 zz_3 zz_4 o16.2.1 zz_6 zz_7 zz_8 zz_9 zz_10 zz_11 zz_12 zz_13 zz_14 zz_15 zz_16 o16.2.2)) H := hP
  have hD9 : va_D A ((wXO xa (ya 0) la (pa_o15 0) (qa_o15 0) ++ (wLO G la lo ++ (wSYc G ya yy_0 yy_1 yy_2 yy_3 yy_4 yy_5 yy_6 o15.2.1 o15.2.2.1 ++ (wPLc G pa_o15 o15.2.2.2.1.1 o15.2.2.2.1.2.1 o15.2.2.2.1.2.2.1 o15.2.2.2.1.2.2.2.1 o15.2.2.2.1.2.2.2.2.1 o15.2.2.2.1.2.2.2.2.2.1 o15.2.2.2.1.2.2.2.2.2.2.1 o15.2.2.2.1.2.2.2.2.2.2.2.1 o15.2.2.2.1.2.2.2.2.2.2.2.2 ++ (wPLc G qa_o15 o15.2.2.2.2.1.1 o15.2.2.2.2.1.2.1 o15.2.2.2.2.1.2.2.1 o15.2.2.2.2.1.2.2.2.1 o15.2.2.2.2.1.2.2.2.2.1 o15.2.2.2.2.1.2.2.2.2.2.1 o15.2.2.2.2.1.2.2.2.2.2.2.1 o15.2.2.2.2.1.2.2.2.2.2.2.2.1 o15.2.2.2.2.1.2.2.2.2.2.2.2.2 ++ (wOU G oa o15.2.2.2.2.2)))))) ++ (wMOc G za zz_0 zz_1 zz_2 zz_3 zz_4 o16.2.1 zz_6 zz_7 zz_8 zz_9 zz_10 zz_11 zz_12 zz_13 zz_14 zz_15 zz_16 o16.2.2)) := hD
  refine xf_ci (va_runV (As := []) (rest := []) ⟨hx, hb, hml, hown, hts⟩ (c_X3_thrown l G za (zz_0, zz_1, zz_2, zz_3, zz_4, o16.2.1, zz_6, zz_7, zz_8, zz_9, zz_10, zz_11, zz_12, zz_13, zz_14, zz_15, zz_16, o16.2.2) o17 ho17 H.size) (cwV 0 hts gL_law_X3_thrown rfl rfl rfl (by decide +kernel) ⟨Nat.le_of_ble_eq_true rfl, Nat.le_of_ble_eq_true rfl⟩) (xk_preV hK hNE (xf_pr hP9) (xf_dr hD9) (ci := 3) rfl rfl) rfl rfl hl.1 rfl (lv_room (Nat.le_of_ble_eq_true rfl)) dL_law_250 ⟨(by show (kc + 1) + 0 ≤ 1091; omega), (by show (ks + 6) + 0 ≤ 9564; omega)⟩) hP9 hD9 hS hA (fun H locs hP hD hS => ?_)
  refine W.widen (k := (kc + 1)) (n := (ks + 6)) (by omega) (by omega) ?_
  have hP : va_P G.1 vwCl (wXO xa (ya 0) la (pa_o15 0) (qa_o15 0) ++ (wLO G la lo ++ (wSYc G ya yy_0 yy_1 yy_2 yy_3 yy_4 yy_5 yy_6 o15.2.1 o15.2.2.1 ++ (wPLc G pa_o15 o15.2.2.2.1.1 o15.2.2.2.1.2.1 o15.2.2.2.1.2.2.1 o15.2.2.2.1.2.2.2.1 o15.2.2.2.1.2.2.2.2.1 o15.2.2.2.1.2.2.2.2.2.1 o15.2.2.2.1.2.2.2.2.2.2.1 o15.2.2.2.1.2.2.2.2.2.2.2.1 o15.2.2.2.1.2.2.2.2.2.2.2.2 ++ (wPLc G qa_o15 o15.2.2.2.2.1.1 o15.2.2.2.2.1.2.1 o15.2.2.2.2.1.2.2.1 o15.2.2.2.2.1.2.2.2.1 o15.2.2.2.2.1.2.2.2.2.1 o15.2.2.2.2.1.2.2.2.2.2.1 o15.2.2.2.2.1.2.2.2.2.2.2.1 o15.2.2.2.2.1.2.2.2.2.2.2.2.1 o15.2.2.2.2.1.2.2.2.2.2.2.2.2 ++ (wOU G oa o15.2.2.2.2.2 ++ (wMOc G za zz_0 zz_1 zz_2 zz_3 zz_4 o16.2.1 zz_6 zz_7 zz_8 zz_9 zz_10 zz_11 zz_12 zz_13 zz_14 zz_15 zz_16 o16.2.2))))))) H := hP
  have hD : va_D A (wXO xa (ya 0) la (pa_o15 0) (qa_o15 0) ++ (wLO G la lo ++ (wSYc G ya yy_0 yy_1 yy_2 yy_3 yy_4 yy_5 yy_6 o15.2.1 o15.2.2.1 ++ (wPLc G pa_o15 o15.2.2.2.1.1 o15.2.2.2.1.2.1 o15.2.2.2.1.2.2.1 o15.2.2.2.1.2.2.2.1 o15.2.2.2.1.2.2.2.2.1 o15.2.2.2.1.2.2.2.2.2.1 o15.2.2.2.1.2.2.2.2.2.2.1 o15.2.2.2.1.2.2.2.2.2.2.2.1 o15.2.2.2.1.2.2.2.2.2.2.2.2 ++ (wPLc G qa_o15 o15.2.2.2.2.1.1 o15.2.2.2.2.1.2.1 o15.2.2.2.2.1.2.2.1 o15.2.2.2.2.1.2.2.2.1 o15.2.2.2.2.1.2.2.2.2.1 o15.2.2.2.2.1.2.2.2.2.2.1 o15.2.2.2.2.1.2.2.2.2.2.2.1 o15.2.2.2.2.1.2.2.2.2.2.2.2.1 o15.2.2.2.2.1.2.2.2.2.2.2.2.2 ++ (wOU G oa o15.2.2.2.2.2 ++ (wMOc G za zz_0 zz_1 zz_2 zz_3 zz_4 o16.2.1 zz_6 zz_7 zz_8 zz_9 zz_10 zz_11 zz_12 zz_13 zz_14 zz_15 zz_16 o16.2.2))))))) := hD
  refine lv_iload hx hb dL_law_253 (lv_at hl 1 rfl) ?_
  refine lv_icmp_eq (tgt := 260) hx hb dL_law_255 (by decide) (fun c18 => ?_) (fun c18 => ?_)
  · have h := sp_t c18 h
    refine lv_iload hx hb dL_law_260 (lv_at hl 1 rfl) ?_
    refine lv_if_ne (tgt := 277) hx hb dL_law_262 (by decide) (fun c19 => ?_) (fun c19 => ?_)
    · have h := sp_f c19 h
      refine lv_goto (tgt := 965) hx hb dL_law_277 (by decide) ?_
      refine lv_iinc (v := (i4 + (5 : Int32))) (lv' := [(4, .int (i4 + (5 : Int32))), (6, .int o16.1), (5, .int o15.1), (3, .ref oa), (2, .ref (za 0)), (1, .ref xa), (0, .ref b9)]) hx hb dL_law_965 hl (k := 2) rfl rfl (by decide) rfl (fun ls hl => ?_)
      refine lv_goto (tgt := 23) hx hb dL_law_968 (by decide) ?_
      refine W.widen (k := kc + 1) (n := ks + 6) (by omega) (by omega) ?_
      exact kk pa_o15 qa_o15 (i4 + (5 : Int32)) lo (yy_0, yy_1, yy_2, yy_3, yy_4, yy_5, yy_6, o15.2.1, o15.2.2.1) o15.2.2.2.1 o15.2.2.2.2.1 o15.2.2.2.2.2 (zz_0, zz_1, zz_2, zz_3, zz_4, o16.2.1, zz_6, zz_7, zz_8, zz_9, zz_10, zz_11, zz_12, zz_13, zz_14, zz_15, zz_16, o16.2.2) _ _ h hP hD hS _ (lv_sub hl [0, 3, 4, 5, 6] rfl)
    · have h := sp_t c19 h
      refine lv_aload_n hx hb dL_law_265 rfl (lv_at hl 3 rfl) ?_
      refine lv_iconst (v := (0 : Int32)) hx hb dL_law_266 (by decide) ?_
      refine va_lald hx hb hK hP 25 2 rfl rfl (xk_in0_1) dL_law_267 ?_
      refine lv_iload hx hb dL_law_268 (lv_at hl 0 rfl) ?_
      refine lv_i2l (v := o16.1.toInt64) hx hb dL_law_270 rfl ?_
      refine W.lcmp hx hb dL_law_271 ?_
      refine lv_if_eq (tgt := 277) hx hb dL_law_272 (by decide) (fun c20 => ?_) (fun c20 => ?_)
      · have h := sp_t (xk_lc.mp c20) h
        refine lv_goto (tgt := 965) hx hb dL_law_277 (by decide) ?_
        refine lv_iinc (v := (i4 + (5 : Int32))) (lv' := [(4, .int (i4 + (5 : Int32))), (6, .int o16.1), (5, .int o15.1), (3, .ref oa), (2, .ref (za 0)), (1, .ref xa), (0, .ref b9)]) hx hb dL_law_965 hl (k := 2) rfl rfl (by decide) rfl (fun ls hl => ?_)
        refine lv_goto (tgt := 23) hx hb dL_law_968 (by decide) ?_
        refine W.widen (k := kc + 1) (n := ks + 6) (by omega) (by omega) ?_
        exact kk pa_o15 qa_o15 (i4 + (5 : Int32)) lo (yy_0, yy_1, yy_2, yy_3, yy_4, yy_5, yy_6, o15.2.1, o15.2.2.1) o15.2.2.2.1 o15.2.2.2.2.1 o15.2.2.2.2.2 (zz_0, zz_1, zz_2, zz_3, zz_4, o16.2.1, zz_6, zz_7, zz_8, zz_9, zz_10, zz_11, zz_12, zz_13, zz_14, zz_15, zz_16, o16.2.2) _ _ h hP hD hS _ (lv_sub hl [0, 3, 4, 5, 6] rfl)
      · have h := sp_f (fun z => c20 (xk_lc.mpr z)) h
        refine lv_iconst (v := (0 : Int32)) hx hb dL_law_275 (by decide) ?_
        exact sp_n h
  · have h := sp_f c18 h
    refine lv_iconst (v := (0 : Int32)) hx hb dL_law_258 (by decide) ?_
    exact sp_n h
