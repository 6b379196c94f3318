theorem xf_pl {D : va_G} {cl : List vw_C} {a b : va_W} {H : Heap} (h : va_P D cl (a ++ b) H) : va_P D cl a H := fun k q hq => h k q (by
  rw [List.getElem?_append_left (List.getElem?_eq_some_iff.mp hq).1]; exact hq)
theorem xf_at {a b : va_W} {k : Nat} {q : Nat × va_E} (h : b[k]? = some q) : (a ++ b)[a.length + k]? = some q := by
  rw [List.getElem?_append_right (Nat.le_add_right _ _), Nat.add_sub_cancel_left]; exact h
theorem xf_al {a b : va_W} {k : Nat} {q : Nat × va_E} (h : a[k]? = some q) : (a ++ b)[k]? = some q := by
  rw [List.getElem?_append_left (List.getElem?_eq_some_iff.mp h).1]; exact h
theorem xf_pr {D : va_G} {cl : List vw_C} {a b : va_W} {H : Heap} (h : va_P D cl (a ++ b) H) : va_P D cl b H := fun k q hq => h (a.length + k) q (xf_at hq)
theorem xf_dl {A : Nat → Prop} {a b : va_W} (h : va_D A (a ++ b)) : va_D A a := ⟨fun i j p q hi hj e => h.1 i j p q (xf_al hi) (xf_al hj) e, fun k q hk => h.2 k q (xf_al hk)⟩
theorem xf_dr {A : Nat → Prop} {a b : va_W} (h : va_D A (a ++ b)) : va_D A b := ⟨fun i j p q hi hj e => by
  have := h.1 (a.length + i) (a.length + j) p q (xf_at hi) (xf_at hj) e
  omega, fun k q hk => h.2 (a.length + k) q (xf_at hk)⟩
theorem xf_psw {D : va_G} {cl : List vw_C} {a b : va_W} {H : Heap} (h : va_P D cl (a ++ b) H) : va_P D cl (b ++ a) H := va_P.app (xf_pr h) (xf_pl h)
theorem xf_dsw {A : Nat → Prop} {a b : va_W} (h : va_D A (a ++ b)) : va_D A (b ++ a) := va_D.app (xf_dr h) (xf_dl h) (fun i j x y hx hy hxy => by
  have h1 := h.1 (a.length + i) j x y (xf_at hx) (xf_al hy) hxy
  have h2 := (List.getElem?_eq_some_iff.mp hy).1
  omega)
theorem xf_free {A : Nat → Prop} {H0 H : Heap} {locs : List Loc} {wr wc : va_W} (hD : va_D A (wr ++ wc)) (hS : va_S A H0 H locs) (hA : ∀ q, H0.size ≤ q → A q) : ∀ q, va_A wc H.size q → A q := by
  intro q hq
  rcases hq with ⟨k, e, h⟩ | h
  · exact hD.2 (wr.length + k) (q, e) (xf_at h)
  · exact hA q (Nat.le_trans hS.1 h)
theorem xf_join {D : va_G} {cl : List vw_C} {A : Nat → Prop} {wr wc w1 : va_W} {H H1 : Heap} (hP : va_P D cl (wr ++ wc) H) (hD : va_D A (wr ++ wc)) (hk : ∀ q, q < H.size → ¬ va_A wc H.size q → H1[q]? = H[q]?) (hF : ∀ q, va_A wc H.size q → A q) (hP1 : va_P D cl w1 H1) (hD1 : va_D (va_A wc H.size) w1) : va_P D cl (wr ++ w1) H1 ∧ va_D A (wr ++ w1) := by
  have apart : ∀ (k : Nat) (q : Nat × va_E), wr[k]? = some q → q.1 < H.size ∧ ¬ va_A wc H.size q.1 := by
    intro k q hq
    have hl := (xf_pl hP k q hq).lt
    refine ⟨hl, fun h => ?_⟩
    rcases h with ⟨k2, e, h⟩ | h
    · have h1 := hD.1 k (wr.length + k2) q (q.1, e) (xf_al hq) (xf_at h) rfl
      have h2 := (List.getElem?_eq_some_iff.mp hq).1
      omega
    · omega
  refine ⟨va_P.app (fun k q hq => ?_) hP1, va_D.app (xf_dl hD) (hD1.weaken (fun k q _ h => hF q.1 h)) (fun i j x y hx hy hxy => ?_)⟩
  · obtain ⟨g1, g2⟩ := apart k q hq
    exact (xf_pl hP k q hq).kept (hk q.1 g1 g2)
  · exact (apart i x hx).2 (by rw [hxy]; exact hD1.2 j y hy)
theorem sp_z {α : Type} {x : Int32} {X : Option α} {o : α} (h : (if x = 0 then none else X) = some o) : ¬ x = 0 ∧ X = some o := by
  by_cases hc : x = 0
  · rw [if_pos hc] at h; cases h
  · rw [if_neg hc] at h; exact ⟨hc, h⟩
def xf_om {α β : Type} (w : Option α) (n : Option β) (k : α → Option β) : Option β := match w with
  | none => n
  | some v => k v
theorem xf_om_s {α β : Type} {v : α} {n : Option β} {k : α → Option β} {o : β} (h : xf_om (some v) n k = some o) : k v = some o := h
theorem xf_om_n {α β : Type} {n : Option β} {k : α → Option β} {o : β} (h : xf_om none n k = some o) : n = some o := h
theorem xk_lc {x y : Int64} : lg_cmp x y = 0 ↔ x = y := by
  unfold lg_cmp
  by_cases h1 : y < x
  · simp only [h1, if_true]
    constructor
    · intro h; exact absurd h (by decide)
    · intro h; subst h; exact absurd h1 (by simp)
  · simp only [h1, if_false]
    by_cases h2 : x = y
    · simp [h2]
    · simp [h2]
-- worlds turned
theorem xf_s1 (a b : va_W) : (a ++ b).Perm (b ++ a) := List.perm_append_comm
theorem xf_c (a : va_W) {r r' : va_W} (h : r.Perm r') : (a ++ r).Perm (a ++ r') := h.append_left a
theorem xf_s2 (a b r : va_W) : (a ++ (b ++ r)).Perm (b ++ (a ++ r)) := by
  rw [← List.append_assoc, ← List.append_assoc]
  exact (xf_s1 a b).append_right r
theorem xf_P {D : va_G} {cl : List vw_C} {a b : va_W} {H : Heap} (h : a.Perm b) (hP : va_P D cl a H) : va_P D cl b H := fun k q hq => by
  obtain ⟨i, hi, ei⟩ := List.getElem_of_mem (h.mem_iff.mpr (List.mem_of_getElem? hq))
  exact hP i q (by rw [List.getElem?_eq_getElem hi, ei])
theorem xf_nd {A : Nat → Prop} {a : va_W} (h : va_D A a) : (a.map (·.1)).Nodup := by
  refine List.pairwise_iff_getElem.mpr fun i j hi hj hij e => ?_
  rw [List.length_map] at hi hj
  rw [List.getElem_map, List.getElem_map] at e
  have := h.1 i j _ _ (List.getElem?_eq_getElem hi) (List.getElem?_eq_getElem hj) e
  omega
theorem xf_D {A : Nat → Prop} {a b : va_W} (h : a.Perm b) (hD : va_D A a) : va_D A b := by
  have hn : (b.map (·.1)).Nodup := ((h.map (·.1)).nodup_iff).mp (xf_nd hD)
  refine ⟨fun i j p q hi hj e => ?_, fun k q hq => ?_⟩
  · have hi2 := (List.getElem?_eq_some_iff.mp hi).1
    have ee : (b.map (·.1))[i]? = (b.map (·.1))[j]? := by
      rw [List.getElem?_map, List.getElem?_map, hi, hj]
      exact congrArg some e
    exact (List.getElem?_inj (by rw [List.length_map]; exact hi2) hn).mp ee
  · obtain ⟨i, hi, ei⟩ := List.getElem_of_mem (h.mem_iff.mpr (List.mem_of_getElem? hq))
    exact hD.2 i q (by rw [List.getElem?_eq_getElem hi, ei])
theorem xf_p0 {D : va_G} {cl : List vw_C} {H : Heap} : va_P D cl [] H := fun k q h => by simp at h
theorem xf_d0 {A : Nat → Prop} : va_D A [] := ⟨fun i j p q h => by simp at h, fun k q h => by simp at h⟩
theorem xf_fr0 {A : Nat → Prop} {H0 H : Heap} {locs : List Loc} (hS : va_S A H0 H locs) (hA : ∀ q, H0.size ≤ q → A q) : ∀ q, va_A [] H.size q → A q := by
  intro q hq
  rcases hq with ⟨k, e, h⟩ | h
  · simp at h
  · exact hA q (Nat.le_trans hS.1 h)
theorem xk_XX {b L : Nat} {xs : Nat → Int32} {s U : State} {H : Heap} (hvm : s.vm.Alike U.vm) (h : va_X b L xs s H) : va_X b L xs U H := va_X.moved hvm h
-- contracts of methods that see the script, or whose callees throw
abbrev xk_PE (As : List Value) (G : xG) (wc : va_W) (sz : Nat) (b L : Nat) (xs : Nat → Int32) : Array Value → State → Prop := va_Pc As (fun U => U.heap.size = sz ∧ va_P G.1 vwCl wc U.heap ∧ va_K G.1 vwCl (xT G) U ∧ va_D (fun _ => True) wc ∧ xk_NE U ∧ xk_XB U ∧ xk_SR U ∧ xk_ZX (va_A wc sz) U U.heap ∧ va_X b L xs U U.heap ∧ b < sz ∧ ¬ va_A wc sz b)
def xk_CE {S : Type} (l : Launch) (y : MethodName) (ws : List Cond) (rm : Room) (mc ms : Nat) (As : List Value) (G : xG) (wc : va_W) (W1 : S → va_W) (r : Int32) (b L : Nat) (xs : Nat → Int32) : Prop :=
  ∀ sz : Nat, Met l y ws rm (xk_PE As G wc sz b L xs) (va_Qi (fun (r' : Int32) (_ : S) => r' = r) (fun u t => va_P G.1 vwCl (W1 u) t.heap ∧ va_D (va_A wc sz) (W1 u)) (va_A wc sz)) mc ms (va_A wc sz)
theorem xk_CE.of {S : Type} {l : Launch} {y : MethodName} {ws ws' : List Cond} {rm : Room} {mc ms : Nat} {As : List Value} {G : xG} {wc : va_W} {W1 : S → va_W} {r : Int32} {b L : Nat} {xs : Nat → Int32} {cc : ByteArray} {maxL : Nat} {ret : Option FieldType} (hy : plainName y.cls = true) (hw : ws = Cond.code y cc maxL ret :: ws') (hlen : (lg_sl As).length ≤ maxL)
    (body : ∀ (p : Program) (e : Env) (s : State) (m : MethodId) (below : List Frame) (meth : Method) (c : Code) (A : Nat → Prop) (ls : Array Slot) (H : Heap) (locs : List Loc), p.tables.exec = Jvm.exec → c.code = cc → meth.sig.returnType = ret → c.maxLocals = maxL → (∀ w ∈ ws, w.before As.toArray s = true) → s.vm.findClass y.cls = some m.cls → meth.locks = false → (∀ q, s.heap.size ≤ q → A q) → va_P G.1 vwCl wc H → va_K G.1 vwCl (xT G) s → va_D A wc → xk_NE s → va_S A s.heap H locs → lv_has ls maxL (lv_args 0 As) → xk_XB s → xk_SR s → xk_ZX A s s.heap → va_X b L xs s s.heap → b < s.heap.size → ¬ A b →
      W p l e rm s m As.toArray below meth c H locs 0 0 (MQ below (va_Qi (fun (r' : Int32) (_ : S) => r' = r) (fun u t => va_P G.1 vwCl (W1 u) t.heap ∧ va_D A (W1 u)) A) As.toArray s mc ms A) (F0 m 0 ls [])) : xk_CE l y ws rm mc ms As G wc W1 r b L xs := by
  intro sz
  refine Met.ofW (cc := cc) (maxL := maxL) (ret := ret) hy hw ?_
  intro p e s m args below meth c s₁ B hml hv
  obtain ⟨rfl, rfl, hP, hK, hD0, hNE, hXB, hSR, hZX, hX, hbl, hbA⟩ := hv
  rw [lg_entry_eq]
  exact body p e s m below meth c (va_A wc s.heap.size) _ _ _ B.exec B.bytes B.returns hml (atoms_spec (ws := ws) B.pre) (findClass_of_methodNamed B.named) B.notSynchronized (fun q h => Or.inr h) hP hK hD0.self hNE va_S.rf (lv_entry As hlen) hXB hSR hZX hX hbl hbA
theorem xk_CE.ofW {S : Type} {l : Launch} {y : MethodName} {ws ws' : List Cond} {rm : Room} {mc ms : Nat} {As : List Value} {G : xG} {wc : va_W} {W1 : S → va_W} {r : Int32} {b L : Nat} {xs : Nat → Int32} {cc : ByteArray} {maxL : Nat} {ret : Option FieldType} {hh : List (Nat × Nat × Nat × Nat)} (hy : plainName y.cls = true) (hw : ws = Cond.codeWith y cc maxL ret hh :: ws') (hlen : (lg_sl As).length ≤ maxL)
    (body : ∀ (p : Program) (e : Env) (s : State) (m : MethodId) (below : List Frame) (meth : Method) (c : Code) (A : Nat → Prop) (ls : Array Slot) (H : Heap) (locs : List Loc), p.tables.exec = Jvm.exec → c.code = cc → meth.sig.returnType = ret → c.maxLocals = maxL → (∀ w ∈ ws, w.before As.toArray s = true) → s.vm.findClass y.cls = some m.cls → meth.locks = false → (∀ q, s.heap.size ≤ q → A q) → va_P G.1 vwCl wc H → va_K G.1 vwCl (xT G) s → va_D A wc → xk_NE s → va_S A s.heap H locs → lv_has ls maxL (lv_args 0 As) → xk_XB s → xk_SR s → xk_ZX A s s.heap → va_X b L xs s s.heap → b < s.heap.size → ¬ A b → c.exceptionTable.toList = tableOf hh →
      W p l e rm s m As.toArray below meth c H locs 0 0 (MQ below (va_Qi (fun (r' : Int32) (_ : S) => r' = r) (fun u t => va_P G.1 vwCl (W1 u) t.heap ∧ va_D A (W1 u)) A) As.toArray s mc ms A) (F0 m 0 ls [])) : xk_CE l y ws rm mc ms As G wc W1 r b L xs := by
  intro sz
  refine va_MetW (cc := cc) (maxL := maxL) (ret := ret) (hh := hh) hy hw ?_
  intro p e s m args below meth c s₁ B hml hv
  obtain ⟨rfl, rfl, hP, hK, hD0, hNE, hXB, hSR, hZX, hX, hbl, hbA⟩ := hv
  rw [lg_entry_eq]
  have ht : c.exceptionTable.toList = tableOf hh := vx_table (x := y) B (atoms_spec (ws := ws) B.pre _ (by rw [hw]; exact List.mem_cons_self))
  exact body p e s m below meth c (va_A wc s.heap.size) _ _ _ B.exec B.bytes B.returns hml (atoms_spec (ws := ws) B.pre) (findClass_of_methodNamed B.named) B.notSynchronized (fun q h => Or.inr h) hP hK hD0.self hNE va_S.rf (lv_entry As hlen) hXB hSR hZX hX hbl hbA ht
theorem xk_blindE {As : List Value} {G : xG} {wc : va_W} {sz b L : Nat} {xs : Nat → Int32} : FrameBlind (xk_PE As G wc sz b L xs) :=
  fun a U g mk q => by obtain ⟨q0, q1, qP, qK, qD, qN, qB, qS, qZ, qX, qb, qA⟩ := q; exact ⟨q0, q1, qP, va_K.moved (u := U) (U := U.calling g mk a) (Vm.Alike.refl U.vm) qK, qD, xk_NE.same rfl qN, xk_XB.same rfl qB, xk_SR.same rfl qS, xk_ZX.moved (u := U) (U := U.calling g mk a) (Vm.Alike.refl U.vm) qZ, va_X.moved (u := U) (U := U.calling g mk a) (Vm.Alike.refl U.vm) qX, qb, qA⟩
section XF
variable {p : Program} {l : Launch} {e : Env} {R : Room} {s : State} {m : MethodId} {args : Array Value} {below : List Frame} {meth : Method} {c : Code} {H H0 : Heap} {locs : List Loc} {cells slots mc ms : Nat} {Q : State → Prop} {cc : ByteArray} {pc : Nat} {ls : Array Slot} {A : Nat → Prop} {G : xG} {wr wc w1 w0 : va_W} {r v : Int32} {rest st : List Value} {a : Array Value} {S : Type} {W1 : S → va_W} {b L : Nat} {xs : Nat → Int32}
theorem xk_preE {As : List Value} (hK : va_K G.1 vwCl (xT G) s) (hN : xk_NE s) (hXB : xk_XB s) (hSR : xk_SR s) (hZX : xk_ZX A s s.heap) (hX : va_X b L xs s s.heap) (hbl : b < s.heap.size) (hbA : ¬ A b) (hS : va_S A s.heap H locs) (hF : ∀ q, va_A wc H.size q → A q) (hP : va_P G.1 vwCl wc H) (hD : va_D A wc) : PreS s H (xk_PE As G wc H.size b L xs) As :=
  ⟨xk_blindE, fun U hU hW => ⟨rfl, by rw [hU], by rw [hU]; exact hP, va_K.moved hW.alike hK, hD.weaken (fun _ _ _ _ => trivial), xk_NE.warm hW hN, xk_XB.warm hW hXB, xk_SR.warm hW hSR, by rw [hU]; exact xk_ZX.moved hW.alike ((hZX.kept hS.2.1).narrow hF), by rw [hU]; exact va_X.moved hW.alike (va_X.kept hX (hS.2.1 b hbl hbA)), Nat.lt_of_lt_of_le hbl hS.1, fun h => hbA (hF b h)⟩⟩
theorem xk_reE (hx : p.tables.exec = Jvm.exec) (hb : c.code = cc) (hr : meth.sig.returnType = some .int) (hlk : meth.locks = false) (u : S) (hP : va_P G.1 vwCl (W1 u) H) (hD : va_D A (W1 u)) (hS : va_S A s.heap H locs) (hv : v = r) (hdg : decode cc pc = .ok (.ireturn, 1)) :
    W p l e R s m args below meth c H locs cells slots (MQ below (va_Qi (fun (r' : Int32) (_ : S) => r' = r) (fun u t => va_P G.1 vwCl (W1 u) t.heap ∧ va_D A (W1 u)) A) args s cells slots A) (F0 m pc ls [.int v]) :=
  W.iret hx hb hr (fun t ht _ => ⟨⟨v, u, rfl, hv, by rw [ht]; exact hP, hD⟩, hS.F ht⟩) hS.2.2 hdg hlk
theorem xk_reEZ (hx : p.tables.exec = Jvm.exec) (hb : c.code = cc) (hr : meth.sig.returnType = some .boolean) (hlk : meth.locks = false) (hn : narrow .boolean (.int v) = .int v) (u : S) (hP : va_P G.1 vwCl (W1 u) H) (hD : va_D A (W1 u)) (hS : va_S A s.heap H locs) (hv : v = r) (hdg : decode cc pc = .ok (.ireturn, 1)) :
    W p l e R s m args below meth c H locs cells slots (MQ below (va_Qi (fun (r' : Int32) (_ : S) => r' = r) (fun u t => va_P G.1 vwCl (W1 u) t.heap ∧ va_D A (W1 u)) A) args s cells slots A) (F0 m pc ls [.int v]) :=
  W.zret hx hb hr hn (fun t ht _ => ⟨⟨v, u, rfl, hv, by rw [ht]; exact hP, hD⟩, hS.F ht⟩) hS.2.2 hdg hlk
theorem xf_ci (hr : va_Run p l e R s m args below meth c H locs cells slots mc ms (F0 m pc ls st) rest (va_Qi (fun (r' : Int32) (_ : Unit) => r' = r) (fun _ t => va_P G.1 vwCl w1 t.heap ∧ va_D (va_A wc H.size) w1) (va_A wc H.size) a) (va_A wc H.size))
    (hP : va_P G.1 vwCl (wr ++ wc) H) (hD : va_D A (wr ++ wc)) (hS : va_S A H0 H locs) (hA : ∀ q, H0.size ≤ q → A q)
    (kk : ∀ (H1 : Heap) (locs1 : List Loc), va_P G.1 vwCl (wr ++ w1) H1 → va_D A (wr ++ w1) → va_S A H0 H1 locs1 → W p l e R s m args below meth c H1 locs1 (cells + mc) (slots + ms) Q (F0 m (pc + 3) ls (.int r :: rest))) : W p l e R s m args below meth c H locs cells slots Q (F0 m pc ls st) := by
  have hF := xf_free hD hS hA
  refine va_calli hr hS (fun q _ h => hF q h) hF (fun r' u t H1 locs1 ht hvm hw hB hz1 hk1 hS1 => ?_)
  obtain ⟨hP1, hD1⟩ := hB
  rw [ht] at hP1
  subst hw
  obtain ⟨hP2, hD2⟩ := xf_join hP hD hk1 hF hP1 hD1
  exact kk H1 locs1 hP2 hD2 hS1
theorem xf_cv (hr : va_Run p l e R s m args below meth c H locs cells slots mc ms (F0 m pc ls st) rest (va_Qv (fun (_ : Unit) => True) (fun _ t => va_P G.1 vwCl w1 t.heap ∧ va_D (va_A wc H.size) w1) (va_A wc H.size) a) (va_A wc H.size))
    (hP : va_P G.1 vwCl (wr ++ wc) H) (hD : va_D A (wr ++ wc)) (hS : va_S A H0 H locs) (hA : ∀ q, H0.size ≤ q → A q)
    (kk : ∀ (H1 : Heap) (locs1 : List Loc), va_P G.1 vwCl (wr ++ w1) H1 → va_D A (wr ++ w1) → va_S A H0 H1 locs1 → W p l e R s m args below meth c H1 locs1 (cells + mc) (slots + ms) Q (F0 m (pc + 3) ls rest)) : W p l e R s m args below meth c H locs cells slots Q (F0 m pc ls st) := by
  have hF := xf_free hD hS hA
  refine va_callv hr hS (fun q _ h => hF q h) hF (fun u t H1 locs1 ht hvm hw hB hz1 hk1 hS1 => ?_)
  obtain ⟨hP1, hD1⟩ := hB
  rw [ht] at hP1
  obtain ⟨hP2, hD2⟩ := xf_join hP hD hk1 hF hP1 hD1
  exact kk H1 locs1 hP2 hD2 hS1
theorem xf_ci0 (hr : va_Run p l e R s m args below meth c H locs cells slots mc ms (F0 m pc ls st) rest (va_Qi (fun (r' : Int32) (_ : Unit) => r' = r) (fun _ t => va_P G.1 vwCl [] t.heap ∧ va_D (va_A [] H.size) []) (va_A [] H.size) a) (va_A [] H.size))
    (hP : va_P G.1 vwCl w0 H) (hD : va_D A w0) (hS : va_S A H0 H locs) (hA : ∀ q, H0.size ≤ q → A q)
    (kk : ∀ (H1 : Heap) (locs1 : List Loc), va_P G.1 vwCl w0 H1 → va_D A w0 → va_S A H0 H1 locs1 → W p l e R s m args below meth c H1 locs1 (cells + mc) (slots + ms) Q (F0 m (pc + 3) ls (.int r :: rest))) : W p l e R s m args below meth c H locs cells slots Q (F0 m pc ls st) :=
  xf_ci (wr := w0) (wc := []) (w1 := []) hr (by rw [List.append_nil]; exact hP) (by rw [List.append_nil]; exact hD) hS hA (fun H1 locs1 h1 h2 h3 => by rw [List.append_nil] at h1 h2; exact kk H1 locs1 h1 h2 h3)
theorem xf_ce (hr : va_Run p l e R s m args below meth c H locs cells slots mc ms (F0 m pc ls st) rest (va_Qi (fun (r' : Int32) (_ : S) => r' = r) (fun u t => va_P G.1 vwCl (W1 u) t.heap ∧ va_D (va_A wc H.size) (W1 u)) (va_A wc H.size) a) (va_A wc H.size))
    (hP : va_P G.1 vwCl (wr ++ wc) H) (hD : va_D A (wr ++ wc)) (hS : va_S A H0 H locs) (hA : ∀ q, H0.size ≤ q → A q)
    (kk : ∀ (u : S) (H1 : Heap) (locs1 : List Loc), va_P G.1 vwCl (wr ++ W1 u) H1 → va_D A (wr ++ W1 u) → va_S A H0 H1 locs1 → W p l e R s m args below meth c H1 locs1 (cells + mc) (slots + ms) Q (F0 m (pc + 3) ls (.int r :: rest))) : W p l e R s m args below meth c H locs cells slots Q (F0 m pc ls st) := by
  have hF := xf_free hD hS hA
  refine va_calli hr hS (fun q _ h => hF q h) hF (fun r' u t H1 locs1 ht hvm hw hB hz1 hk1 hS1 => ?_)
  obtain ⟨hP1, hD1⟩ := hB
  rw [ht] at hP1
  subst hw
  obtain ⟨hP2, hD2⟩ := xf_join hP hD hk1 hF hP1 hD1
  exact kk u H1 locs1 hP2 hD2 hS1
theorem xf_ce0 (hr : va_Run p l e R s m args below meth c H locs cells slots mc ms (F0 m pc ls st) rest (va_Qi (fun (r' : Int32) (_ : S) => r' = r) (fun _ t => va_P G.1 vwCl [] t.heap ∧ va_D (va_A [] H.size) []) (va_A [] H.size) a) (va_A [] H.size))
    (hP : va_P G.1 vwCl w0 H) (hD : va_D A w0) (hS : va_S A H0 H locs) (hA : ∀ q, H0.size ≤ q → A q)
    (kk : ∀ (H1 : Heap) (locs1 : List Loc), va_P G.1 vwCl w0 H1 → va_D A w0 → va_S A H0 H1 locs1 → W p l e R s m args below meth c H1 locs1 (cells + mc) (slots + ms) Q (F0 m (pc + 3) ls (.int r :: rest))) : W p l e R s m args below meth c H locs cells slots Q (F0 m pc ls st) :=
  xf_ce (S := S) (wr := w0) (wc := []) (W1 := fun _ => []) hr (by rw [List.append_nil]; exact hP) (by rw [List.append_nil]; exact hD) hS hA (fun u H1 locs1 h1 h2 h3 => by rw [List.append_nil] at h1 h2; exact kk H1 locs1 h1 h2 h3)
/-- a place where ways meet that bring something along -/
theorem xk_jn2 {α : Type} {g0 : JFrame} {Hc : Heap} {lc : List Loc} (G : xG) (A : Nat → Prop) (H0 : Heap) (wj : va_W) (nL : Nat) (lv : α → List (Nat × Value)) (pc : Nat) (hyp : α → Prop)
    (k : ∀ (v : α), hyp v → ∀ (H : Heap) (locs : List Loc), va_P G.1 vwCl wj H → va_D A wj → va_S A H0 H locs → ∀ ls, lv_has ls nL (lv v) → W p l e R s m args below meth c H locs cells slots Q (F0 m pc ls []))
    (g : (∀ (v : α), hyp v → ∀ (H : Heap) (locs : List Loc), va_P G.1 vwCl wj H → va_D A wj → va_S A H0 H locs → ∀ ls, lv_has ls nL (lv v) → W p l e R s m args below meth c H locs cells slots Q (F0 m pc ls [])) → W p l e R s m args below meth c Hc lc cells slots Q g0) : W p l e R s m args below meth c Hc lc cells slots Q g0 := g k
end XF
