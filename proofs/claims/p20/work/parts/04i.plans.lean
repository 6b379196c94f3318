theorem xm_fill_loop {na : Nat} (hna : na < 2 ^ 31) (v : Int32) : ∀ (c k f : Nat) (r : xF), k + c = na → c < f → (∀ j, j < k → r j = v) → ∃ q, f_J7_fill_53178_l5 na v f (nI k) r = some q ∧ ∀ j, j < na → q j = v := by
  intro c
  induction c with
  | zero =>
    intro k f r hk hf hr
    obtain ⟨f, rfl⟩ : ∃ g, f = g + 1 := ⟨f - 1, by omega⟩
    refine ⟨r, ?_, fun j hj => hr j (by omega)⟩
    rw [f_J7_fill_53178_l5_s, if_pos (nI_le (by omega) (by omega))]
  | succ c ih =>
    intro k f r hk hf hr
    obtain ⟨f, rfl⟩ : ∃ g, f = g + 1 := ⟨f - 1, by omega⟩
    rw [f_J7_fill_53178_l5_s, if_neg (nI_ge (by omega) (by omega)), xm_g (by omega) (by omega), nI_clamp (by omega), nI_1]
    refine ih (k + 1) f _ (by omega) (by omega) (fun j hj => ?_)
    by_cases e : j = k
    · subst e; rw [xm_up0]
    · rw [xm_up1 _ _ e]; exact hr j (by omega)
theorem xm_fill {na : Nat} (hna : na < 300) (v : Int32) (r : xF) : ∃ q, f_J7_fill_53178 na r v = some q ∧ ∀ j, j < na → q j = v := by
  obtain ⟨q, h1, h2⟩ := xm_fill_loop (na := na) (by omega) v na 0 300 r (by omega) hna (fun j hj => by omega)
  refine ⟨q, ?_, h2⟩
  rw [f_J7_fill_53178_e]
  have h1 : f_J7_fill_53178_l5 na v 300 (0 : Int32) r = some q := h1
  rw [h1]; rfl
theorem xm_clear (th ld rd ll rl si : xF) (lc tc lu : Int32) : ∃ th2 ld2 rd2 ll2 rl2 si2, f_X0_clear (th, ld, rd, ll, rl, si, lc, tc, lu) = some (th2, ld2, rd2, ll2, rl2, si2, 0, 0, -1) ∧ (∀ k, k < 100 → th2 k = -1) ∧ (∀ k, k < 60 → ld2 k = -1) ∧ (∀ k, k < 36 → rd2 k = -1) ∧ (∀ k, k < 12 → ll2 k = 0 ∧ rl2 k = 0 ∧ si2 k = 0) := by
  obtain ⟨q1, a1, b1⟩ := xm_fill (na := 100) (by omega) (-1) th
  obtain ⟨q2, a2, b2⟩ := xm_fill (na := 60) (by omega) (-1) ld
  obtain ⟨q3, a3, b3⟩ := xm_fill (na := 36) (by omega) (-1) rd
  obtain ⟨q4, a4, b4⟩ := xm_fill (na := 12) (by omega) 0 ll
  obtain ⟨q5, a5, b5⟩ := xm_fill (na := 12) (by omega) 0 rl
  obtain ⟨q6, a6, b6⟩ := xm_fill (na := 12) (by omega) 0 si
  refine ⟨q1, q2, q3, q4, q5, q6, ?_, b1, b2, b3, fun k hk => ⟨b4 k hk, b5 k hk, b6 k hk⟩⟩
  rw [f_X0_clear_e, a1, a2, a3, a4, a5, a6]
  rfl
theorem xm_sim0 {n : Nat} (h12 : n ≤ 12) {l m : Nat → Nat} (hl : ∀ j, j < n → 1 ≤ l j ∧ l j ≤ 5) {th ld rd ll rl si : xF} {th2 ld2 rd2 ll2 rl2 : xF} (h1 : ∀ k, k < 100 → th k = -1) (h2 : ∀ k, k < 60 → ld k = -1) (h3 : ∀ k, k < 36 → rd k = -1) (h4 : ∀ k, k < 12 → ll k = 0 ∧ rl k = 0 ∧ si k = 0) (g2 : ∀ k, k < 60 → ld2 k = -1) (g3 : ∀ k, k < 36 → rd2 k = -1) (g4 : ∀ k, k < 12 → ll2 k = 0 ∧ rl2 k = 0) :
    xm_sim n 0 l m (fun _ => 0) (fun _ => 0) (fun _ => 0) th ld rd ll rl si 0 0 (-1) th2 ld2 rd2 ll2 rl2 0 := by
  refine ⟨fun j hj => ?_, fun j hj h => ?_, fun j hj => ?_, fun k hk => by rw [g2 k hk, h2 k hk], fun k hk => by rw [g3 k hk, h3 k hk], fun k hk => by omega, fun k _ hk => h1 k hk, rfl, rfl, Or.inl ⟨rfl, fun k hk => by omega⟩⟩
  · obtain ⟨e1, e2, e3⟩ := h4 j (by omega)
    rw [e1, e2, e3]
    exact ⟨⟨rfl, Nat.zero_le _⟩, ⟨rfl, Nat.zero_le _⟩, ⟨rfl, (by decide : (0 : Nat) < 100)⟩, fun _ => rfl⟩
  · have := hl j hj
    have h : 0 = l j := h
    omega
  · obtain ⟨e1, e2, e3⟩ := h4 j (by omega)
    obtain ⟨g1, g2⟩ := g4 j (by omega)
    rw [e1, e2, g1, g2]
    exact ⟨rfl, rfl⟩
theorem xm_dat_od {n : Nat} {le ma ga od od2 : xF} {l m g s : Nat → Nat} (h : xm_dat n le ma ga od l m g s) (e : ∀ j, j < n → od2 j = od j) : xm_dat n le ma ga od2 l m g s := ⟨h.1, fun j hj => by
  rw [e j hj]; exact h.2 j hj⟩
-- what it is that a plan of the class is the plan of these numbers
-- with no aim at all, a cleared plan is the plan
theorem xm_l6_0 {le ki wo kt ma ga ne od lo : xF} {P : xPL} : ∀ (c d f : Nat), d + c = 100 → c < f → f_X0_lay_l6 (nI 0) le ki wo kt ma ga ne od lo f (nI d) P = some P := by
  obtain ⟨th, ld, rd, ll, rl, si, lc, tc, lu⟩ := P
  have hdat : xm_dat 0 le ma ga od (fun _ => 0) (fun _ => 0) (fun _ => 0) (fun _ => 0) := ⟨by omega, fun j hj => by omega⟩
  have hst : ∀ d, xm_st 0 d (fun _ => 0) (fun _ => 0) ll rl si (fun _ => 0) (fun _ => 0) (fun _ => 0) := fun d j hj => by omega
  intro c
  induction c with
  | zero =>
    intro d f hd hf
    obtain ⟨f, rfl⟩ : ∃ g, f = g + 1 := ⟨f - 1, by omega⟩
    rw [f_X0_lay_l6_s, if_pos (show (100 : Int32) ≤ nI d from nI_le (a := 100) (by omega) (by omega))]
  | succ c ih =>
    intro d f hd hf
    obtain ⟨f, rfl⟩ : ∃ g, f = g + 1 := ⟨f - 1, by omega⟩
    rw [f_X0_lay_l6_s, if_neg (show ¬ (100 : Int32) ≤ nI d from nI_ge (b := 100) (by omega) (by omega)), xm_g (k := d) (by omega) (by omega), nI_clamp (by omega : d < 2 ^ 31), nI_1]
    by_cases hlo : lo d = 0
    · rw [if_pos hlo, f_X0_layOn_e, xm_mpr (by omega) hdat (hst d), Option.bind_some, xm_fu hdat (hst d)]
      exact ih (d + 1) f (by omega) (by omega)
    · rw [if_neg hlo]
      exact ih (d + 1) f (by omega) (by omega)
