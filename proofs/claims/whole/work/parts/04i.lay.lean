def xm_end (n : Nat) (l m : Nat → Nat) (R1 : Option xPL) (R2 : Option (xF × xF × xF × xF × xF × Int32)) : Prop := ∃ (a b t : Nat → Nat) (th ld rd ll rl si : xF) (lc tc lu : Int32) (th2 ld2 rd2 ll2 rl2 : xF) (la2 : Int32), R1 = some (th, ld, rd, ll, rl, si, lc, tc, lu) ∧ R2 = some (th2, ld2, rd2, ll2, rl2, la2) ∧ xm_sim n 100 l m a b t th ld rd ll rl si lc tc lu th2 ld2 rd2 ll2 rl2 la2
theorem xm_sn_none (s : Nat → Nat) : xm_sn s none = -1 := rfl
theorem xm_sn_some (s : Nat → Nat) (p : Nat) : xm_sn s (some p) = nI (s p) := rfl
theorem xm_days {n : Nat} {le ki wo kt ma ga ne od od2 : xF} {l m g s : Nat → Nat} {lo bf : xF} {tw : Int32} (hdat : xm_dat n le ma ga od l m g s) (hdat2 : xm_dat n le ma ga od2 l m g s) : ∀ (c d f1 f2 : Nat) (a b t : Nat → Nat) (th ld rd ll rl si : xF) (lc tc lu : Int32) (th2 ld2 rd2 ll2 rl2 : xF) (la2 : Int32), d + c = 100 → c < f1 → c < f2 → xm_sim n d l m a b t th ld rd ll rl si lc tc lu th2 ld2 rd2 ll2 rl2 la2 →
    xm_end n l m (f_X0_lay_l6 (nI n) le ki wo kt ma ga ne od lo f1 (nI d) (th, ld, rd, ll, rl, si, lc, tc, lu)) (f_X3_plans_l81 (nI n) le ki wo kt ne ma ga lo bf tw od2 f2 (nI d) th2 ld2 rd2 ll2 rl2 la2) := by
  have h12 := hdat.1
  have hl : ∀ j, j < n → 1 ≤ l j ∧ l j ≤ 5 := fun j hj => (hdat.2 j hj).1.2
  have hm : ∀ j, j < n → m j ≤ 3 := fun j hj => (hdat.2 j hj).2.1.2
  intro c
  induction c with
  | zero =>
    intro d f1 f2 a b t th ld rd ll rl si lc tc lu th2 ld2 rd2 ll2 rl2 la2 hdc h1 h2 hs
    obtain ⟨f1, rfl⟩ : ∃ g, f1 = g + 1 := ⟨f1 - 1, by omega⟩
    obtain ⟨f2, rfl⟩ : ∃ g, f2 = g + 1 := ⟨f2 - 1, by omega⟩
    have e : d = 100 := by omega
    subst e
    refine ⟨a, b, t, th, ld, rd, ll, rl, si, lc, tc, lu, th2, ld2, rd2, ll2, rl2, la2, ?_, ?_, hs⟩
    · rw [f_X0_lay_l6_s, if_pos (by decide)]
    · rw [f_X3_plans_l81_s, if_pos (by decide)]
  | succ c ih =>
    intro d f1 f2 a b t th ld rd ll rl si lc tc lu th2 ld2 rd2 ll2 rl2 la2 hdc h1 h2 hs
    obtain ⟨f1, rfl⟩ : ∃ g, f1 = g + 1 := ⟨f1 - 1, by omega⟩
    obtain ⟨f2, rfl⟩ : ∃ g, f2 = g + 1 := ⟨f2 - 1, by omega⟩
    have hd : d < 100 := by omega
    have h100 : ¬ (100 : Int32) ≤ nI d := nI_ge (b := 100) (by omega) (by omega)
    have hst := hs.1
    have hst2 := xm_sim_st2 hs
    have hms2 := xm_sim_ms2 h12 hl hm hs
    have hskip := ih (d + 1) f1 f2 a b t th ld rd ll rl si lc tc lu (upd th2 d (-1)) ld2 rd2 ll2 rl2 la2 (by omega) (by omega) (by omega) (xm_sim_skip hd hs)
    have hth2 : ∀ i, i < d → upd th2 d (-1) i = th i ∧ xm_th n (upd th2 d (-1) i) := fun i hi => by
      rw [xm_up1 _ _ (by omega)]
      obtain ⟨-, -, -, -, -, q, -⟩ := hs
      obtain ⟨q1, q2⟩ := q i hi
      exact ⟨q1, by rw [q1]; exact q2⟩
    rw [f_X0_lay_l6_s, f_X3_plans_l81_s, if_neg h100, if_neg h100, xm_g (k := d) (by omega) (by omega), xm_g (k := d) (by omega) (by omega), nI_clamp (by omega : d < 2 ^ 31), nI_1]
    by_cases hlo : lo d = 0
    · rw [if_pos hlo, if_pos hlo, if_pos hlo, f_X0_layOn_e, xm_mpr hd hdat hst, xm_rvf hd hdat2 hst2 hms2, xm_nxa hdat2 hst2]
      rw [Option.bind_some, Option.bind_some, Option.bind_some, Option.bind_some, Option.bind_some]
      cases hmp : xm_mp (xm_due d l m g a b t) (xm_LT g b t) n 0 none with
      | none =>
        rw [xm_o_none, if_pos (rfl : (-1 : Int32) = -1), if_pos (rfl : (-1 : Int32) = -1), xm_fu hdat hst, Option.bind_some]
        cases hf : xm_f (xm_un l a s) n 0 with
        | none =>
          rw [xm_sn_none, if_pos (rfl : (-1 : Int32) = -1), if_pos (rfl : (-1 : Int32) = -1), Option.bind_some]
          exact hskip
        | some p =>
          obtain ⟨-, hp, hun⟩ := xm_f_some hf
          have hp : p < n := by omega
          have hj := (hdat.2 p hp).2.2.2.2
          have hja : a (s p) < l (s p) := of_decide_eq_true hun
          rw [xm_sn_some]
          generalize s p = j at hj hja ⊢
          have hm1 : ¬ nI j = -1 := xm_m1 (by omega)
          have ha := (hst j hj).1.1
          have ha2 := (hst2 j hj).1.1
          have hl5 := hl j hj
          rw [if_neg hm1, if_neg hm1, xm_ik h12 hj hd, xm_ih h12 hj hd (fun i hi => (hth2 i hi).2), xm_held_cong (th := th) (fun i hi => (hth2 i hi).1)]
          cases xm_held n kt th j d with
          | false =>
            rw [xm_b0, xm_b0, xm_i0, xm_i0, xm_lyl hd (by omega) ha (by omega), Option.bind_some, Option.bind_some, xm_g (k := j) (by omega) (by omega), nI_clamp (by omega : j < 2 ^ 31), ha2, xm_x5, xm_g (k := 5 * j + a j) (by omega) (by omega), nI_clamp (by omega : 5 * j + a j < 2 ^ 31), nI_1]
            exact ih (d + 1) f1 f2 _ _ _ _ _ _ _ _ _ _ _ _ _ _ _ _ _ _ (by omega) (by omega) (by omega) (xm_sim_les h12 hl hm hd hj hja hs)
          | true =>
            rw [xm_b1, xm_b1, xm_i1, xm_i1, Option.bind_some]
            exact hskip
      | some j =>
        obtain ⟨hdue, hj⟩ := xm_mp_some (n := n) (by omega) (fun x hx => by cases hx) hmp
        have hm1 : ¬ nI j = -1 := xm_m1 (by omega)
        have hb2 := (hst2 j hj).2.1.1
        have hm3 := hm j hj
        have hdue2 := hdue
        simp only [xm_due, Bool.and_eq_true, decide_eq_true_eq] at hdue2
        have hv : (if nI d < nI (xm_LT g b t j) then some (0 : Int32) else some (1 : Int32)) = some (if nI d < nI (xm_LT g b t j) then 0 else 1) := by
          by_cases h : nI d < nI (xm_LT g b t j)
          · rw [if_pos h, if_pos h]
          · rw [if_neg h, if_neg h]
        have hla : la2 = tc := by
          obtain ⟨-, -, -, -, -, -, -, q, -⟩ := hs
          exact q
        rw [xm_o_some, if_neg hm1, if_neg hm1, xm_lyr hd hdat hst hj (by omega), Option.bind_some, Option.bind_some, xm_lfo hdat2 hst2 hms2 hj hdue, Option.bind_some, hv, Option.bind_some, xm_g (k := j) (by omega) (by omega), nI_clamp (by omega : j < 2 ^ 31), hb2, xm_x3, xm_g (k := 3 * j + b j) (by omega) (by omega), nI_clamp (by omega : 3 * j + b j < 2 ^ 31), nI_1, xm_100, hla]
        exact ih (d + 1) f1 f2 _ _ _ _ _ _ _ _ _ _ _ _ _ _ _ _ _ _ (by omega) (by omega) (by omega) (xm_sim_rev h12 hl hm hd hj hdue2.1 hdue2.2.1 hs)
    · rw [if_neg hlo, if_neg hlo, if_neg hlo, Option.bind_some, Option.bind_some, if_pos (rfl : (-1 : Int32) = -1), if_pos (rfl : (-1 : Int32) = -1)]
      exact hskip
