-- the order of the aims
def xq_tk (n : Nat) (ki ne : xF) : Nat → Int32 × Int32
  | 0 => (0, -1)
  | p + 1 => match xm_nx (xm_rd ne (xq_tk n ki ne p).1) (fun j => decide (ki j = (xq_tk n ki ne p).2)) n 0 with
    | some a => ((xq_tk n ki ne p).1 ||| ((1 : Int32) <<< (nI a &&& 31)), ki a)
    | none => xq_tk n ki ne p
def xq_od (n : Nat) (ki ne : xF) (p : Nat) : Option Nat := xm_nx (xm_rd ne (xq_tk n ki ne p).1) (fun j => decide (ki j = (xq_tk n ki ne p).2)) n 0
def xq_s (n : Nat) (ki ne : xF) (p : Nat) : Nat := (xq_od n ki ne p).getD 0
theorem xq_tk_s {n : Nat} {ki ne : xF} {p a : Nat} (h : xq_od n ki ne p = some a) : xq_tk n ki ne (p + 1) = ((xq_tk n ki ne p).1 ||| ((1 : Int32) <<< (nI a &&& 31)), ki a) := by
  show (match xq_od n ki ne p with | some a => ((xq_tk n ki ne p).1 ||| ((1 : Int32) <<< (nI a &&& 31)), ki a) | none => xq_tk n ki ne p) = _
  rw [h]
theorem xq_tk_ok {n : Nat} {ki ne : xF} (h12 : n ≤ 12) (hac : xm_acy n ne) : ∀ p, p ≤ n → fb_ct (bt (xq_tk n ki ne p).1) n = p ∧ (∀ i, bt (xq_tk n ki ne p).1 i = true → i < n) ∧ ∀ p', p' < p → ∃ a, xq_od n ki ne p' = some a ∧ a < n ∧ xq_s n ki ne p' = a ∧ bt (xq_tk n ki ne p).1 a = true ∧ bt (xq_tk n ki ne p').1 a = false := by
  intro p
  induction p with
  | zero =>
    intro _
    refine ⟨fb_ct_zero.mpr (fun k _ => b_0 k), fun i h => ?_, fun p' hp => by omega⟩
    have h : bt (0 : Int32) i = true := h
    rw [b_0] at h
    cases h
  | succ p ih =>
    intro hp
    obtain ⟨i1, i2, i3⟩ := ih (by omega)
    have hun : ∃ a, a < n ∧ bt (xq_tk n ki ne p).1 a = false := by
      apply Classical.byContradiction
      intro hno
      have : fb_ct (bt (xq_tk n ki ne p).1) n = n := fb_ct_all.mpr (fun k hk => by
        cases hq : bt (xq_tk n ki ne p).1 k
        · exact absurd ⟨k, hk, hq⟩ hno
        · rfl)
      omega
    obtain ⟨u, hu1, hu2⟩ := hun
    obtain ⟨j, hj1, hj2⟩ := xm_ready h12 hac hu1 hu2
    obtain ⟨a, ha⟩ := xm_nx_ex (R := xm_rd ne (xq_tk n ki ne p).1) (K := fun j => decide (ki j = (xq_tk n ki ne p).2)) (c := n) (k := 0) (Nat.zero_le j) (by omega) hj2
    obtain ⟨-, hq2, hq3⟩ := xm_nx_some ha
    have han : a < n := by omega
    have hab : bt (xq_tk n ki ne p).1 a = false := xm_rd_b hq3
    obtain ⟨hk1, hk2⟩ := xm_tk_add han h12 hab i2
    have hod : xq_od n ki ne p = some a := ha
    have hstep := xq_tk_s hod
    rw [hstep]
    refine ⟨by rw [hk1, i1], hk2, fun p' hp' => ?_⟩
    by_cases e : p' = p
    · subst e
      refine ⟨a, hod, han, by unfold xq_s; rw [hod]; rfl, ?_, hab⟩
      show bt ((xq_tk n ki ne p').1 ||| ((1 : Int32) <<< (nI a &&& 31))) a = true
      rw [b_or, xm_one (by omega) (by omega), decide_eq_true rfl, Bool.or_true]
    · obtain ⟨a', b1, b2, b3, b4, b5⟩ := i3 p' (by omega)
      refine ⟨a', b1, b2, b3, ?_, b5⟩
      show bt ((xq_tk n ki ne p).1 ||| ((1 : Int32) <<< (nI a &&& 31))) a' = true
      rw [b_or, b4, Bool.true_or]
theorem xq_od_some {n : Nat} {ki ne : xF} (h12 : n ≤ 12) (hac : xm_acy n ne) {p : Nat} (hp : p < n) : xq_od n ki ne p = some (xq_s n ki ne p) ∧ xq_s n ki ne p < n := by
  obtain ⟨a, b1, b2, b3, -⟩ := (xq_tk_ok (ki := ki) h12 hac (p + 1) (by omega)).2.2 p (by omega)
  rw [b3]; exact ⟨b1, b2⟩
theorem xq_s_inj {n : Nat} {ki ne : xF} (h12 : n ≤ 12) (hac : xm_acy n ne) : ∀ p, p < n → ∀ p', p' < n → xq_s n ki ne p = xq_s n ki ne p' → p = p' := by
  have key : ∀ p p', p < p' → p' < n → ¬ xq_s n ki ne p = xq_s n ki ne p' := by
    intro p p' h1 h2 e
    obtain ⟨a, b1, b2, b3, b4, -⟩ := (xq_tk_ok (ki := ki) h12 hac p' (by omega)).2.2 p h1
    obtain ⟨a', c1, c2, c3, c4, c5⟩ := (xq_tk_ok (ki := ki) h12 hac (p' + 1) (by omega)).2.2 p' (by omega)
    rw [b3, c3] at e
    rw [e, c5] at b4
    cases b4
  intro p hp p' hp' e
  rcases Nat.lt_trichotomy p p' with z | z | z
  · exact absurd e (key p p' z hp')
  · exact z
  · exact absurd e.symm (key p' p z hp)
theorem xq_put_l {n : Nat} {le ki wo kt ma ga ne : xF} (h12 : n ≤ 12) (hac : xm_acy n ne) : ∀ (c p f : Nat) (od : xF), p + c = n → c < f → (∀ j, j < p → od j = nI (xq_s n ki ne j)) → ∃ od2, f_X1_putInOrder_l6 (nI n) le ki wo kt ma ga ne f (nI p) (xq_tk n ki ne p).2 (xq_tk n ki ne p).1 od = some od2 ∧ ∀ j, j < n → od2 j = nI (xq_s n ki ne j) := by
  intro c
  induction c with
  | zero =>
    intro p f od hp hf ho
    obtain ⟨f, rfl⟩ : ∃ g, f = g + 1 := ⟨f - 1, by omega⟩
    refine ⟨od, ?_, fun j hj => ho j (by omega)⟩
    rw [f_X1_putInOrder_l6_s, if_pos (nI_le (by omega) (by omega))]
  | succ c ih =>
    intro p f od hp hf ho
    obtain ⟨f, rfl⟩ : ∃ g, f = g + 1 := ⟨f - 1, by omega⟩
    obtain ⟨hod, hsn⟩ := xq_od_some (ki := ki) h12 hac (show p < n by omega)
    have hst := xq_tk_s hod
    have hod2 : xm_nx (xm_rd ne (xq_tk n ki ne p).1) (fun j => decide (ki j = (xq_tk n ki ne p).2)) n 0 = some (xq_s n ki ne p) := hod
    have ih' := ih (p + 1) f (upd od p (nI (xq_s n ki ne p))) (by omega) (by omega) (fun j hj => by
      by_cases e : j = p
      · rw [e, xm_up0]
      · rw [xm_up1 _ _ e]; exact ho j (by omega))
    rw [hst] at ih'
    rw [f_X1_putInOrder_l6_s, if_neg (nI_ge (by omega) (by omega)), xm_nt _ _ rfl h12, hod2, xm_o_some, Option.bind_some, if_neg (xm_m1 (by omega)), xm_g (k := p) (by omega) (by omega), xm_g (k := xq_s n ki ne p) (by omega) (by omega), nI_clamp (by omega : xq_s n ki ne p < 2 ^ 31), nI_clamp (by omega : p < 2 ^ 31), nI_1]
    exact ih'
theorem xq_put {n : Nat} {le ki wo kt ma ga ne od : xF} (h12 : n ≤ 12) (hac : xm_acy n ne) : ∃ od2, f_X1_putInOrder (nI n, le, ki, wo, kt, ma, ga, ne, od) = some od2 ∧ ∀ j, j < n → od2 j = nI (xq_s n ki ne j) := by
  obtain ⟨od2, e1, e2⟩ := xq_put_l (le := le) (ki := ki) (wo := wo) (kt := kt) (ma := ma) (ga := ga) h12 hac n 0 300 od (by omega) (by omega) (fun j hj => by omega)
  refine ⟨od2, ?_, e2⟩
  rw [f_X1_putInOrder_e]
  exact e1
-- the law's look at it
theorem xq_isIn {x : Int32} {j : Nat} (hj : j < 32) : f_L_isIn x (nI j) = some (if bt x j then 1 else 0) := by
  rw [f_L_isIn_e, xm_bit hj]
  cases bt x j <;> rfl
theorem xq_nx_min {R K : Nat → Bool} {n a k : Nat} (h : xm_nx R K n 0 = some a) (hk : k < n) (hR : R k = true) : (K k = K a → a ≤ k) ∧ (¬ K k = K a → K a = true) := by
  unfold xm_nx at h
  cases h1 : xm_f (fun j => R j && K j) n 0 with
  | some b =>
    rw [h1] at h
    obtain rfl := Option.some.inj h
    obtain ⟨q1, q2, q3⟩ := xm_f_some h1
    simp only [Bool.and_eq_true] at q3
    refine ⟨fun e => ?_, fun _ => q3.2⟩
    apply Classical.byContradiction
    intro hz
    have := xm_f_first h1 k (Nat.zero_le k) (by omega)
    simp [hR, e, q3.2] at this
  | none =>
    rw [h1] at h
    have n1 := xm_f_none h1
    obtain ⟨q1, q2, q3⟩ := xm_f_some h
    have ka : K a = false := by simpa [q3] using n1 a (Nat.zero_le a) (by omega)
    have kk : K k = false := by simpa [hR] using n1 k (Nat.zero_le k) (by omega)
    refine ⟨fun _ => ?_, fun z => absurd (kk.trans ka.symm) z⟩
    apply Classical.byContradiction
    intro hz
    have := xm_f_first h k (Nat.zero_le k) (by omega)
    rw [this] at hR; cases hR
section XO
variable {n : Nat} {lo le ki wo kt ma ga ne od : xF} {p0 p1 p2 p3 p4 p5 : xF} {p6 p7 p8 : Int32} {q0 q1 q2 q3 q4 q5 : xF} {q6 q7 q8 : Int32} {ka kc : xF}
theorem xq_o129 (h12 : n ≤ 12) (hac : xm_acy n ne) (hki : ∀ j, j < n → ¬ ki j = -1) (hc : kc (0 : Int32).toNatClampNeg = nI n) (hka : ∀ j, j < n → ka (5 * j + 1) = ki j ∧ ka (5 * j + 4) = ne j) {p : Nat} (hp : p < n) : ∀ (c k f : Nat), k + c = n → c < f → f_L_isOrder_l129 ka kc (if p = 0 then (-1 : Int32) else nI (xq_s n ki ne (p - 1))) (xq_tk n ki ne p).1 (nI (xq_s n ki ne p)) (if ki (xq_s n ki ne p) = (xq_tk n ki ne p).2 then 1 else 0) f (nI k) 1 = some 1 := by
  obtain ⟨hod, hsn⟩ := xq_od_some (ki := ki) h12 hac hp
  have hod2 : xm_nx (xm_rd ne (xq_tk n ki ne p).1) (fun j => decide (ki j = (xq_tk n ki ne p).2)) n 0 = some (xq_s n ki ne p) := hod
  have hlk : ∀ k, k < n → (if (if p = 0 then (-1 : Int32) else nI (xq_s n ki ne (p - 1))) < 0 then some (0 : Int32) else (if (((5 : Int32) * nI k) + (1 : Int32)) < 0 ∨ 60 ≤ (((5 : Int32) * nI k) + (1 : Int32)).toNatClampNeg then none else if (((5 : Int32) * (if p = 0 then (-1 : Int32) else nI (xq_s n ki ne (p - 1)))) + (1 : Int32)) < 0 ∨ 60 ≤ (((5 : Int32) * (if p = 0 then (-1 : Int32) else nI (xq_s n ki ne (p - 1)))) + (1 : Int32)).toNatClampNeg then none else if (ka (((5 : Int32) * nI k) + (1 : Int32)).toNatClampNeg) = (ka (((5 : Int32) * (if p = 0 then (-1 : Int32) else nI (xq_s n ki ne (p - 1)))) + (1 : Int32)).toNatClampNeg) then some (1 : Int32) else some (0 : Int32))) = some (if ki k = (xq_tk n ki ne p).2 then 1 else 0) := by
    intro k hk
    by_cases h0 : p = 0
    · subst h0
      rw [if_pos rfl, if_pos (by decide)]
      rw [if_neg (show ¬ ki k = (xq_tk n ki ne 0).2 from hki k hk)]
    · obtain ⟨q, rfl⟩ : ∃ q, p = q + 1 := ⟨p - 1, by omega⟩
      obtain ⟨hod1, hs1⟩ := xq_od_some (ki := ki) h12 hac (show q < n by omega)
      rw [if_neg h0, Nat.add_sub_cancel, if_neg (nI_pos (by omega)), xq_5, xq_p1, xm_g (k := 5 * k + 1) (by omega) (by omega), nI_clamp (by omega : 5 * k + 1 < 2 ^ 31), xq_5, xq_p1, xm_g (k := 5 * xq_s n ki ne q + 1) (by omega) (by omega), nI_clamp (by omega : 5 * xq_s n ki ne q + 1 < 2 ^ 31), (hka k hk).1, (hka _ hs1).1, xq_tk_s hod1]
      by_cases e : ki k = ki (xq_s n ki ne q)
      · rw [if_pos e, if_pos e]
      · rw [if_neg e, if_neg e]
  intro c
  induction c with
  | zero =>
    intro k f hk hf
    obtain ⟨f, rfl⟩ : ∃ g, f = g + 1 := ⟨f - 1, by omega⟩
    rw [f_L_isOrder_l129_s, hc, if_pos (nI_le (by omega) (by omega))]
  | succ c ih =>
    intro k f hk hf
    obtain ⟨f, rfl⟩ : ∃ g, f = g + 1 := ⟨f - 1, by omega⟩
    have hkn : k < n := by omega
    have ih' := ih (k + 1) f (by omega) (by omega)
    have hcould : (if nI k = nI (xq_s n ki ne p) then some (0 : Int32) else Option.bind (f_L_isIn (xq_tk n ki ne p).1 (nI k)) fun (o25 : Int32) => if o25 = 0 then (if (((5 : Int32) * nI k) + (4 : Int32)) < 0 ∨ 60 ≤ (((5 : Int32) * nI k) + (4 : Int32)).toNatClampNeg then none else if ((ka (((5 : Int32) * nI k) + (4 : Int32)).toNatClampNeg) &&& ((xq_tk n ki ne p).1 ^^^ ((-1) : Int32))) = 0 then some (1 : Int32) else some (0 : Int32)) else some (0 : Int32)) = some (if ¬ k = xq_s n ki ne p ∧ xm_rd ne (xq_tk n ki ne p).1 k = true then 1 else 0) := by
      by_cases e : k = xq_s n ki ne p
      · rw [if_pos (by rw [e]), if_neg (fun z => z.1 e)]
      · rw [if_neg (fun z => e (xm_inj (by omega) (by omega) z)), xq_isIn (by omega), Option.bind_some]
        cases hb : bt (xq_tk n ki ne p).1 k with
        | true => rw [if_pos rfl, xm_i1, if_neg (fun z => by rw [xm_rd_f hb] at z; cases z.2)]
        | false =>
          rw [if_neg (by decide : ¬ false = true), xm_i0, xq_5, xq_p4, xm_g (k := 5 * k + 4) (by omega) (by omega), nI_clamp (by omega : 5 * k + 4 < 2 ^ 31), (hka k hkn).2]
          by_cases hc2 : (ne k &&& ((xq_tk n ki ne p).1 ^^^ (-1))) = 0
          · rw [if_pos hc2, if_pos ⟨e, xm_rd_t hb hc2⟩]
          · rw [if_neg hc2, if_neg (fun z => by rw [xm_rd_g hc2] at z; cases z.2)]
    rw [f_L_isOrder_l129_s, hc, if_neg (nI_ge (by omega) (by omega)), xm_i1, hcould, Option.bind_some, hlk k hkn, Option.bind_some, nI_1]
    by_cases hC : ¬ k = xq_s n ki ne p ∧ xm_rd ne (xq_tk n ki ne p).1 k = true
    · obtain ⟨m1, m2⟩ := xq_nx_min hod2 hkn hC.2
      rw [if_pos hC, xm_i1]
      by_cases e1 : ki k = (xq_tk n ki ne p).2
      · by_cases e2 : ki (xq_s n ki ne p) = (xq_tk n ki ne p).2
        · have := m1 (by rw [decide_eq_true e1, decide_eq_true e2])
          rw [if_pos e1, if_pos e2, if_pos rfl, if_neg (nI_ge (by omega) (by omega))]
          rw [if_pos e2] at ih'
          exact ih'
        · have := m2 (by rw [decide_eq_true e1, decide_eq_false e2]; decide)
          exact absurd (of_decide_eq_true this) e2
      · by_cases e2 : ki (xq_s n ki ne p) = (xq_tk n ki ne p).2
        · rw [if_neg e1, if_pos e2, if_neg (by decide), xm_i1]
          rw [if_pos e2] at ih'
          exact ih'
        · have := m1 (by rw [decide_eq_false e1, decide_eq_false e2])
          rw [if_neg e1, if_neg e2, if_pos rfl, if_neg (nI_ge (by omega) (by omega))]
          rw [if_neg e2] at ih'
          exact ih'
    · rw [if_neg hC, xm_i0]
      exact ih'
theorem xq_o25 (h12 : n ≤ 12) (hac : xm_acy n ne) (hki : ∀ j, j < n → ¬ ki j = -1) (hod : ∀ p, p < n → od p = nI (xq_s n ki ne p)) (hc : kc (0 : Int32).toNatClampNeg = nI n) (hka : ∀ j, j < n → ka (5 * j + 1) = ki j ∧ ka (5 * j + 4) = ne j) : ∀ (c p f : Nat), p + c = n → c < f → f_L_isOrder_l25 lo (nI n) le ki wo kt ma ga ne od p0 p1 p2 p3 p4 p5 p6 p7 p8 q0 q1 q2 q3 q4 q5 q6 q7 q8 ka kc f (nI p) 1 (if p = 0 then (-1 : Int32) else nI (xq_s n ki ne (p - 1))) (xq_tk n ki ne p).1 = some 1 := by
  intro c
  induction c with
  | zero =>
    intro p f hp hf
    obtain ⟨f, rfl⟩ : ∃ g, f = g + 1 := ⟨f - 1, by omega⟩
    rw [f_L_isOrder_l25_s, hc, if_pos (nI_le (by omega) (by omega))]
  | succ c ih =>
    intro p f hp hf
    obtain ⟨f, rfl⟩ : ∃ g, f = g + 1 := ⟨f - 1, by omega⟩
    have hpn : p < n := by omega
    obtain ⟨hod1, hsn⟩ := xq_od_some (ki := ki) h12 hac hpn
    have hR : xm_rd ne (xq_tk n ki ne p).1 (xq_s n ki ne p) = true := (xm_nx_some hod1).2.2
    have hb := xm_rd_b hR
    have hcov : (ne (xq_s n ki ne p) &&& ((xq_tk n ki ne p).1 ^^^ (-1))) = 0 := by
      apply Classical.byContradiction
      intro z
      rw [xm_rd_g z] at hR; cases hR
    have ih' := ih (p + 1) f (by omega) (by omega)
    rw [if_neg (by omega), Nat.add_sub_cancel, xq_tk_s hod1] at ih'
    have h129 := xq_o129 (ki := ki) h12 hac hki hc hka hpn n 0 300 (by omega) (by omega)
    have h129 : f_L_isOrder_l129 ka kc (if p = 0 then (-1 : Int32) else nI (xq_s n ki ne (p - 1))) (xq_tk n ki ne p).1 (nI (xq_s n ki ne p)) (if ki (xq_s n ki ne p) = (xq_tk n ki ne p).2 then 1 else 0) 300 (0 : Int32) (1 : Int32) = some 1 := h129
    have hv8 : (if nI (xq_s n ki ne p) < 0 then some (0 : Int32) else if nI n ≤ nI (xq_s n ki ne p) then some (0 : Int32) else Option.bind (f_L_isIn (xq_tk n ki ne p).1 (nI (xq_s n ki ne p))) fun (o38 : Int32) => if o38 = 0 then (if (((5 : Int32) * nI (xq_s n ki ne p)) + (4 : Int32)) < 0 ∨ 60 ≤ (((5 : Int32) * nI (xq_s n ki ne p)) + (4 : Int32)).toNatClampNeg then none else if ((ka (((5 : Int32) * nI (xq_s n ki ne p)) + (4 : Int32)).toNatClampNeg) &&& ((xq_tk n ki ne p).1 ^^^ ((-1) : Int32))) = 0 then some (1 : Int32) else some (0 : Int32)) else some (0 : Int32)) = some 1 := by
      rw [if_neg (nI_pos (by omega)), if_neg (nI_ge (by omega) (by omega)), xq_isIn (by omega), hb, Option.bind_some, if_neg (by decide : ¬ false = true), xm_i0, xq_5, xq_p4, xm_g (k := 5 * xq_s n ki ne p + 4) (by omega) (by omega), nI_clamp (by omega : 5 * xq_s n ki ne p + 4 < 2 ^ 31), (hka _ hsn).2, if_pos hcov]
    have hv9 : (if (if p = 0 then (-1 : Int32) else nI (xq_s n ki ne (p - 1))) < 0 then some (0 : Int32) else (if (((5 : Int32) * nI (xq_s n ki ne p)) + (1 : Int32)) < 0 ∨ 60 ≤ (((5 : Int32) * nI (xq_s n ki ne p)) + (1 : Int32)).toNatClampNeg then none else if (((5 : Int32) * (if p = 0 then (-1 : Int32) else nI (xq_s n ki ne (p - 1)))) + (1 : Int32)) < 0 ∨ 60 ≤ (((5 : Int32) * (if p = 0 then (-1 : Int32) else nI (xq_s n ki ne (p - 1)))) + (1 : Int32)).toNatClampNeg then none else if (ka (((5 : Int32) * nI (xq_s n ki ne p)) + (1 : Int32)).toNatClampNeg) = (ka (((5 : Int32) * (if p = 0 then (-1 : Int32) else nI (xq_s n ki ne (p - 1)))) + (1 : Int32)).toNatClampNeg) then some (1 : Int32) else some (0 : Int32))) = some (if ki (xq_s n ki ne p) = (xq_tk n ki ne p).2 then 1 else 0) := by
      by_cases h0 : p = 0
      · subst h0
        rw [if_pos rfl, if_pos (by decide)]
        rw [if_neg (show ¬ ki (xq_s n ki ne 0) = (xq_tk n ki ne 0).2 from hki _ hsn)]
      · obtain ⟨q, rfl⟩ : ∃ q, p = q + 1 := ⟨p - 1, by omega⟩
        obtain ⟨hod3, hs1⟩ := xq_od_some (ki := ki) h12 hac (show q < n by omega)
        rw [if_neg h0, Nat.add_sub_cancel, if_neg (nI_pos (by omega)), xq_5, xq_p1, xm_g (k := 5 * xq_s n ki ne (q + 1) + 1) (by omega) (by omega), nI_clamp (by omega : 5 * xq_s n ki ne (q + 1) + 1 < 2 ^ 31), xq_5, xq_p1, xm_g (k := 5 * xq_s n ki ne q + 1) (by omega) (by omega), nI_clamp (by omega : 5 * xq_s n ki ne q + 1 < 2 ^ 31), (hka _ hsn).1, (hka _ hs1).1]
        have et : (xq_tk n ki ne (q + 1)).2 = ki (xq_s n ki ne q) := by rw [xq_tk_s hod3]
        rw [et]
        by_cases e : ki (xq_s n ki ne (q + 1)) = ki (xq_s n ki ne q)
        · rw [if_pos e, if_pos e]
        · rw [if_neg e, if_neg e]
    rw [f_L_isOrder_l25_s, hc, if_neg (nI_ge (by omega) (by omega)), xm_i1, xq_ordered h12 hpn, Option.bind_some, hod p hpn, hv8, Option.bind_some, xm_i1, hv9, Option.bind_some, h129, Option.bind_some, xm_i1, Option.bind_some, nI_1]
    exact ih'
end XO
