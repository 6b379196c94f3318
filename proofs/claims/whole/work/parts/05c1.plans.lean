theorem xm_fill_loop {na : Nat} (hna : na < 2 ^ 31) (v : Int32) : ∀ (c k f : Nat) (r : xF), k + c = na → c < f → (∀ j, j < k → r j = v) → ∃ q, f_J7_fill_53178_l5 na v f (nI k) r = some q ∧ ∀ j, j < na → q j = v := by
  intro c
  induction c with
  | zero =>
    intro k f r hk hf hr
    obtain ⟨f, rfl⟩ : ∃ g, f = g + 1 := ⟨f - 1, by omega⟩
    refine ⟨r, ?_, fun j hj => hr j (by omega)⟩
    rw [f_J7_fill_53178_l5_s, if_pos (nI_le (by omega) (by omega))]
  | succ c ih =>
    intro k f r hk hf hr
    obtain ⟨f, rfl⟩ : ∃ g, f = g + 1 := ⟨f - 1, by omega⟩
    rw [f_J7_fill_53178_l5_s, if_neg (nI_ge (by omega) (by omega)), xm_g (by omega) (by omega), nI_clamp (by omega), nI_1]
    refine ih (k + 1) f _ (by omega) (by omega) (fun j hj => ?_)
    by_cases e : j = k
    · subst e; rw [xm_up0]
    · rw [xm_up1 _ _ e]; exact hr j (by omega)
theorem xm_fill {na : Nat} (hna : na < 300) (v : Int32) (r : xF) : ∃ q, f_J7_fill_53178 na r v = some q ∧ ∀ j, j < na → q j = v := by
  obtain ⟨q, h1, h2⟩ := xm_fill_loop (na := na) (by omega) v na 0 300 r (by omega) hna (fun j hj => by omega)
  refine ⟨q, ?_, h2⟩
  rw [f_J7_fill_53178_e]
  have h1 : f_J7_fill_53178_l5 na v 300 (0 : Int32) r = some q := h1
  rw [h1]; rfl
theorem xm_clear (th ld rd ll rl si : xF) (lc tc lu : Int32) : ∃ th2 ld2 rd2 ll2 rl2 si2, f_X0_clear (th, ld, rd, ll, rl, si, lc, tc, lu) = some (th2, ld2, rd2, ll2, rl2, si2, 0, 0, -1) ∧ (∀ k, k < 100 → th2 k = -1) ∧ (∀ k, k < 60 → ld2 k = -1) ∧ (∀ k, k < 36 → rd2 k = -1) ∧ (∀ k, k < 12 → ll2 k = 0 ∧ rl2 k = 0 ∧ si2 k = 0) := by
  obtain ⟨q1, a1, b1⟩ := xm_fill (na := 100) (by omega) (-1) th
  obtain ⟨q2, a2, b2⟩ := xm_fill (na := 60) (by omega) (-1) ld
  obtain ⟨q3, a3, b3⟩ := xm_fill (na := 36) (by omega) (-1) rd
  obtain ⟨q4, a4, b4⟩ := xm_fill (na := 12) (by omega) 0 ll
  obtain ⟨q5, a5, b5⟩ := xm_fill (na := 12) (by omega) 0 rl
  obtain ⟨q6, a6, b6⟩ := xm_fill (na := 12) (by omega) 0 si
  refine ⟨q1, q2, q3, q4, q5, q6, ?_, b1, b2, b3, fun k hk => ⟨b4 k hk, b5 k hk, b6 k hk⟩⟩
  rw [f_X0_clear_e, a1, a2, a3, a4, a5, a6]
  rfl
theorem xm_p11 : ∀ (c k f : Nat) (r q : xF), k + c = 12 → c < f → (∀ j, j < k → r j = 0 ∧ q j = 0) → ∃ r2 q2, f_X3_plans_l11 f (nI k) r q = some (r2, q2) ∧ ∀ j, j < 12 → r2 j = 0 ∧ q2 j = 0 := by
  intro c
  induction c with
  | zero =>
    intro k f r q hk hf hr
    obtain ⟨f, rfl⟩ : ∃ g, f = g + 1 := ⟨f - 1, by omega⟩
    refine ⟨r, q, ?_, fun j hj => hr j (by omega)⟩
    rw [f_X3_plans_l11_s, if_pos (show (12 : Int32) ≤ nI k from nI_le (a := 12) (by omega) (by omega))]
  | succ c ih =>
    intro k f r q hk hf hr
    obtain ⟨f, rfl⟩ : ∃ g, f = g + 1 := ⟨f - 1, by omega⟩
    rw [f_X3_plans_l11_s, if_neg (show ¬ (12 : Int32) ≤ nI k from nI_ge (b := 12) (by omega) (by omega)), xm_g (by omega) (by omega), nI_clamp (by omega), nI_1]
    refine ih (k + 1) f _ _ (by omega) (by omega) (fun j hj => ?_)
    by_cases e : j = k
    · subst e; rw [xm_up0, xm_up0]; exact ⟨rfl, rfl⟩
    · rw [xm_up1 _ _ e, xm_up1 _ _ e]; exact hr j (by omega)
theorem xm_p39 : ∀ (c k f : Nat) (r : xF), k + c = 60 → c < f → (∀ j, j < k → r j = -1) → ∃ r2, f_X3_plans_l39 f (nI k) r = some r2 ∧ ∀ j, j < 60 → r2 j = -1 := by
  intro c
  induction c with
  | zero =>
    intro k f r hk hf hr
    obtain ⟨f, rfl⟩ : ∃ g, f = g + 1 := ⟨f - 1, by omega⟩
    refine ⟨r, ?_, fun j hj => hr j (by omega)⟩
    rw [f_X3_plans_l39_s, if_pos (show (60 : Int32) ≤ nI k from nI_le (a := 60) (by omega) (by omega))]
  | succ c ih =>
    intro k f r hk hf hr
    obtain ⟨f, rfl⟩ : ∃ g, f = g + 1 := ⟨f - 1, by omega⟩
    rw [f_X3_plans_l39_s, if_neg (show ¬ (60 : Int32) ≤ nI k from nI_ge (b := 60) (by omega) (by omega)), xm_g (by omega) (by omega), nI_clamp (by omega), nI_1]
    refine ih (k + 1) f _ (by omega) (by omega) (fun j hj => ?_)
    by_cases e : j = k
    · subst e; rw [xm_up0]
    · rw [xm_up1 _ _ e]; exact hr j (by omega)
theorem xm_p60 : ∀ (c k f : Nat) (r : xF), k + c = 36 → c < f → (∀ j, j < k → r j = -1) → ∃ r2, f_X3_plans_l60 f (nI k) r = some r2 ∧ ∀ j, j < 36 → r2 j = -1 := by
  intro c
  induction c with
  | zero =>
    intro k f r hk hf hr
    obtain ⟨f, rfl⟩ : ∃ g, f = g + 1 := ⟨f - 1, by omega⟩
    refine ⟨r, ?_, fun j hj => hr j (by omega)⟩
    rw [f_X3_plans_l60_s, if_pos (show (36 : Int32) ≤ nI k from nI_le (a := 36) (by omega) (by omega))]
  | succ c ih =>
    intro k f r hk hf hr
    obtain ⟨f, rfl⟩ : ∃ g, f = g + 1 := ⟨f - 1, by omega⟩
    rw [f_X3_plans_l60_s, if_neg (show ¬ (36 : Int32) ≤ nI k from nI_ge (b := 36) (by omega) (by omega)), xm_g (by omega) (by omega), nI_clamp (by omega), nI_1]
    refine ih (k + 1) f _ (by omega) (by omega) (fun j hj => ?_)
    by_cases e : j = k
    · subst e; rw [xm_up0]
    · rw [xm_up1 _ _ e]; exact hr j (by omega)
theorem xm_sim0 {n : Nat} (h12 : n ≤ 12) {l m : Nat → Nat} (hl : ∀ j, j < n → 1 ≤ l j ∧ l j ≤ 5) {th ld rd ll rl si : xF} {th2 ld2 rd2 ll2 rl2 : xF} (h1 : ∀ k, k < 100 → th k = -1) (h2 : ∀ k, k < 60 → ld k = -1) (h3 : ∀ k, k < 36 → rd k = -1) (h4 : ∀ k, k < 12 → ll k = 0 ∧ rl k = 0 ∧ si k = 0) (g2 : ∀ k, k < 60 → ld2 k = -1) (g3 : ∀ k, k < 36 → rd2 k = -1) (g4 : ∀ k, k < 12 → ll2 k = 0 ∧ rl2 k = 0) :
    xm_sim n 0 l m (fun _ => 0) (fun _ => 0) (fun _ => 0) th ld rd ll rl si 0 0 (-1) th2 ld2 rd2 ll2 rl2 0 := by
  refine ⟨fun j hj => ?_, fun j hj h => ?_, fun j hj => ?_, fun k hk => by rw [g2 k hk, h2 k hk], fun k hk => by rw [g3 k hk, h3 k hk], fun k hk => by omega, fun k _ hk => h1 k hk, rfl, rfl, Or.inl ⟨rfl, fun k hk => by omega⟩⟩
  · obtain ⟨e1, e2, e3⟩ := h4 j (by omega)
    rw [e1, e2, e3]
    exact ⟨⟨rfl, Nat.zero_le _⟩, ⟨rfl, Nat.zero_le _⟩, ⟨rfl, (by decide : (0 : Nat) < 100)⟩, fun _ => rfl⟩
  · have := hl j hj
    have h : 0 = l j := h
    omega
  · obtain ⟨e1, e2, e3⟩ := h4 j (by omega)
    obtain ⟨g1, g2⟩ := g4 j (by omega)
    rw [e1, e2, g1, g2]
    exact ⟨rfl, rfl⟩
theorem xm_dat_od {n : Nat} {le ma ga od od2 : xF} {l m g s : Nat → Nat} (h : xm_dat n le ma ga od l m g s) (e : ∀ j, j < n → od2 j = od j) : xm_dat n le ma ga od2 l m g s := ⟨h.1, fun j hj => by
  rw [e j hj]; exact h.2 j hj⟩
-- what it is that a plan of the class is the plan of these numbers
def xm_is (n : Nat) (l m : Nat → Nat) (le ki wo kt ma ga ne od lo : xF) (P : xPL) : Prop := ∀ (om th ld rd ll rl bf : xF) (la tw : Int32), ∃ (od2 : xF) (a b t : Nat → Nat) (th2 ld2 rd2 ll2 rl2 : xF) (la2 : Int32), f_X3_plans (nI n, le, ki, wo, kt, ne, ma, ga, lo, om, th, ld, rd, ll, rl, bf, la, tw) = some (od2, th2, ld2, rd2, ll2, rl2, la2) ∧ (∀ j, j < n → od2 j = od j) ∧ xm_sim n 100 l m a b t P.1 P.2.1 P.2.2.1 P.2.2.2.1 P.2.2.2.2.1 P.2.2.2.2.2.1 P.2.2.2.2.2.2.1 P.2.2.2.2.2.2.2.1 P.2.2.2.2.2.2.2.2 th2 ld2 rd2 ll2 rl2 la2
theorem xm_od {n : Nat} {ki ne od : xF} (hord : xm_ord n ki ne od) (le wo kt ma ga lo om th ld rd ll rl bf : xF) (la tw : Int32) : ∃ od2, f_X3_orders (nI n, le, ki, wo, kt, ne, ma, ga, lo, om, th, ld, rd, ll, rl, bf, la, tw) = some od2 ∧ ∀ j, j < n → od2 j = od j := by
  obtain ⟨od2, h1, h2⟩ := hord om
  refine ⟨od2, ?_, fun j hj => (h2 j hj).1⟩
  rw [f_X3_orders_e, h1]
  rfl
theorem xm_run {n : Nat} {le ki wo kt ma ga ne od : xF} {l m g s : Nat → Nat} (hdat : xm_dat n le ma ga od l m g s) (hord : xm_ord n ki ne od) {P : xPL} {th0 ld0 rd0 ll0 rl0 si0 : xF} (lo : xF) (h1 : ∀ k, k < 100 → th0 k = -1) (h2 : ∀ k, k < 60 → ld0 k = -1) (h3 : ∀ k, k < 36 → rd0 k = -1) (h4 : ∀ k, k < 12 → ll0 k = 0 ∧ rl0 k = 0 ∧ si0 k = 0)
    (hP : ∀ R, f_X0_lay_l6 (nI n) le ki wo kt ma ga ne od lo 300 0 (th0, ld0, rd0, ll0, rl0, si0, 0, 0, -1) = some R → R = P) : xm_is n l m le ki wo kt ma ga ne od lo P := by
  intro om th ld rd ll rl bf la tw
  have h12 := hdat.1
  have hl : ∀ j, j < n → 1 ≤ l j ∧ l j ≤ 5 := fun j hj => (hdat.2 j hj).1.2
  obtain ⟨od2, e1, e2⟩ := xm_od hord le wo kt ma ga lo om th ld rd ll rl bf la tw
  obtain ⟨r13, r14, q1, q2⟩ := xm_p11 12 0 300 ll rl (by omega) (by omega) (fun j hj => by omega)
  obtain ⟨r11, p1, p2⟩ := xm_p39 60 0 300 ld (by omega) (by omega) (fun j hj => by omega)
  obtain ⟨r12, o1, o2⟩ := xm_p60 36 0 300 rd (by omega) (by omega) (fun j hj => by omega)
  have hs := xm_sim0 (n := n) (m := m) (th2 := th) h12 hl h1 h2 h3 h4 p2 o2 q2
  obtain ⟨a, b, t, th3, ld3, rd3, ll3, rl3, si3, lc3, tc3, lu3, th2, ld2, rd2, ll2, rl2, la2, x1, x2, x3⟩ := xm_days (ki := ki) (wo := wo) (kt := kt) (ne := ne) (lo := lo) (bf := bf) (tw := tw) hdat (xm_dat_od hdat e2) 100 0 300 300 _ _ _ _ _ _ _ _ _ _ _ _ _ _ _ _ _ _ (by omega) (by omega) (by omega) hs
  refine ⟨od2, a, b, t, th2, ld2, rd2, ll2, rl2, la2, ?_, e2, ?_⟩
  · have q1 : f_X3_plans_l11 300 (0 : Int32) ll rl = some (r13, r14) := q1
    have p1 : f_X3_plans_l39 300 (0 : Int32) ld = some r11 := p1
    have o1 : f_X3_plans_l60 300 (0 : Int32) rd = some r12 := o1
    have x2 : f_X3_plans_l81 (nI n) le ki wo kt ne ma ga lo bf tw od2 300 (0 : Int32) th r11 r12 r13 r14 (0 : Int32) = some (th2, ld2, rd2, ll2, rl2, la2) := x2
    rw [f_X3_plans_e, e1, Option.bind_some, q1, Option.bind_some, p1, Option.bind_some, o1, Option.bind_some, x2]
    rfl
  · have := hP _ x1
    subst this
    exact x3
theorem xm_lay {n : Nat} {le ki wo kt ma ga ne od : xF} {l m g s : Nat → Nat} (hdat : xm_dat n le ma ga od l m g s) (hord : xm_ord n ki ne od) (lo : xF) (Q : xPL) : ∃ P, f_X0_lay Q (nI n, le, ki, wo, kt, ma, ga, ne, od) lo = some P ∧ xm_is n l m le ki wo kt ma ga ne od lo P := by
  obtain ⟨th, ld, rd, ll, rl, si, lc, tc, lu⟩ := Q
  have h12 := hdat.1
  have hl : ∀ j, j < n → 1 ≤ l j ∧ l j ≤ 5 := fun j hj => (hdat.2 j hj).1.2
  obtain ⟨th0, ld0, rd0, ll0, rl0, si0, c0, c1, c2, c3, c4⟩ := xm_clear th ld rd ll rl si lc tc lu
  have hs := xm_sim0 (n := n) (m := m) (th2 := th0) (ld2 := ld0) (rd2 := rd0) (ll2 := ll0) (rl2 := rl0) h12 hl c1 c2 c3 c4 c2 c3 (fun k hk => ⟨(c4 k hk).1, (c4 k hk).2.1⟩)
  obtain ⟨a, b, t, th3, ld3, rd3, ll3, rl3, si3, lc3, tc3, lu3, th2, ld2, rd2, ll2, rl2, la2, x1, x2, x3⟩ := xm_days (ki := ki) (wo := wo) (kt := kt) (ne := ne) (lo := lo) (bf := lo) (tw := 0) hdat hdat 100 0 300 300 _ _ _ _ _ _ _ _ _ _ _ _ _ _ _ _ _ _ (by omega) (by omega) (by omega) hs
  have x1 : f_X0_lay_l6 (nI n) le ki wo kt ma ga ne od lo 300 0 (th0, ld0, rd0, ll0, rl0, si0, 0, 0, -1) = some (th3, ld3, rd3, ll3, rl3, si3, lc3, tc3, lu3) := x1
  refine ⟨_, ?_, xm_run hdat hord lo c1 c2 c3 c4 (fun R hR => Option.some.inj (hR.symm.trans x1))⟩
  rw [f_X0_lay_e, c0, Option.bind_some, x1]
  rfl
-- with no aim at all, a cleared plan is the plan
theorem xm_l6_0 {le ki wo kt ma ga ne od lo : xF} {P : xPL} : ∀ (c d f : Nat), d + c = 100 → c < f → f_X0_lay_l6 (nI 0) le ki wo kt ma ga ne od lo f (nI d) P = some P := by
  obtain ⟨th, ld, rd, ll, rl, si, lc, tc, lu⟩ := P
  have hdat : xm_dat 0 le ma ga od (fun _ => 0) (fun _ => 0) (fun _ => 0) (fun _ => 0) := ⟨by omega, fun j hj => by omega⟩
  have hst : ∀ d, xm_st 0 d (fun _ => 0) (fun _ => 0) ll rl si (fun _ => 0) (fun _ => 0) (fun _ => 0) := fun d j hj => by omega
  intro c
  induction c with
  | zero =>
    intro d f hd hf
    obtain ⟨f, rfl⟩ : ∃ g, f = g + 1 := ⟨f - 1, by omega⟩
    rw [f_X0_lay_l6_s, if_pos (show (100 : Int32) ≤ nI d from nI_le (a := 100) (by omega) (by omega))]
  | succ c ih =>
    intro d f hd hf
    obtain ⟨f, rfl⟩ : ∃ g, f = g + 1 := ⟨f - 1, by omega⟩
    rw [f_X0_lay_l6_s, if_neg (show ¬ (100 : Int32) ≤ nI d from nI_ge (b := 100) (by omega) (by omega)), xm_g (k := d) (by omega) (by omega), nI_clamp (by omega : d < 2 ^ 31), nI_1]
    by_cases hlo : lo d = 0
    · rw [if_pos hlo, f_X0_layOn_e, xm_mpr (by omega) hdat (hst d), Option.bind_some, xm_fu hdat (hst d)]
      exact ih (d + 1) f (by omega) (by omega)
    · rw [if_neg hlo]
      exact ih (d + 1) f (by omega) (by omega)
theorem xm_is0 {le ki wo kt ma ga ne od lo : xF} {th0 ld0 rd0 ll0 rl0 si0 : xF} (hord : xm_ord 0 ki ne od) (h1 : ∀ k, k < 100 → th0 k = -1) (h2 : ∀ k, k < 60 → ld0 k = -1) (h3 : ∀ k, k < 36 → rd0 k = -1) (h4 : ∀ k, k < 12 → ll0 k = 0 ∧ rl0 k = 0 ∧ si0 k = 0) : xm_is 0 (fun _ => 0) (fun _ => 0) le ki wo kt ma ga ne od lo (th0, ld0, rd0, ll0, rl0, si0, 0, 0, -1) := by
  have hdat : xm_dat 0 le ma ga od (fun _ => 0) (fun _ => 0) (fun _ => 0) (fun _ => 0) := ⟨by omega, fun j hj => by omega⟩
  refine xm_run hdat hord lo h1 h2 h3 h4 (fun R hR => ?_)
  have := xm_l6_0 (le := le) (ki := ki) (wo := wo) (kt := kt) (ma := ma) (ga := ga) (ne := ne) (od := od) (lo := lo) (P := (th0, ld0, rd0, ll0, rl0, si0, 0, 0, -1)) 100 0 300 (by omega) (by omega)
  exact Option.some.inj (hR.symm.trans this)
