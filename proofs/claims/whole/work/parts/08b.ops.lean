section XO
variable {n : Nat} {le ki wo kt ma ga ne od lo : xF} {pp : xPL}
theorem xo_upd (ou : Nat → Int64) (x : Int64) : vp_updL ou (0 : Int32).toNatClampNeg x (0 : Int32).toNatClampNeg = x := if_pos rfl
theorem xo_add (h : xm_ok n le ki wo kt ma ga ne od lo pp) (qq : xPL) (hn : n < 12) {i1 i2 i3 i4 : Int32} (g1 : ¬ (i1 < 1 ∨ 5 < i1)) (g2 : ¬ (i2 < 0 ∨ 3 < i2)) (g3 : ¬ (i3 < 1 ∨ 99 < i3)) :
    ∃ od2 P, f_X1_add (nI n, le, ki, wo, kt, ma, ga, ne, od) i1 i2 i3 i4 = some (nI n, nI (n + 1), upd le n i1, upd ki n i2, upd wo n i3, upd kt n i4, upd ga n 1, od2) ∧ f_X2_planAnew lo (nI (n + 1), upd le n i1, upd ki n i2, upd wo n i3, upd kt n i4, ma, upd ga n 1, ne, od2) pp qq = some (P, pp) ∧ xm_ok (n + 1) (upd le n i1) (upd ki n i2) (upd wo n i3) (upd kt n i4) ma (upd ga n 1) ne od2 lo P := by
  obtain ⟨hr, hz, hac, ho, his⟩ := h
  obtain ⟨v1, a1, b1, e1⟩ := xm_in (a := 1) (b := 5) (by omega) (by omega) g1
  obtain ⟨v2, a2, b2, e2⟩ := xm_in (a := 0) (b := 3) (by omega) (by omega) g2
  obtain ⟨v3, a3, b3, e3⟩ := xm_in (a := 1) (b := 99) (by omega) (by omega) g3
  have hr2 : xm_rng (n + 1) (upd le n i1) (upd ki n i2) (upd wo n i3) ma (upd ga n 1) := by
    refine ⟨by omega, fun j hj => ?_⟩
    by_cases e : j = n
    · subst e
      rw [xm_up0, xm_up0, xm_up0, xm_up0]
      exact ⟨⟨v1, a1, b1, e1⟩, by rw [e2]; exact xm_m1 (by omega), ⟨v3, a3, b3, e3⟩, ⟨0, by omega, (hz j (Nat.le_refl j) hn).1⟩, ⟨1, by omega, rfl⟩⟩
    · rw [xm_up1 _ _ e, xm_up1 _ _ e, xm_up1 _ _ e, xm_up1 _ _ e]
      exact hr.2 j (by omega)
  obtain ⟨od2, P, q1, q2, q3⟩ := xm_anew (upd kt n i4) od lo pp qq hr2 (fun j h1 h2 => hz j (by omega) h2) (xm_acy_new hac (hz n (Nat.le_refl n) hn).2)
  refine ⟨od2, P, ?_, q2, q3⟩
  rw [f_X1_add_e, xm_g (by omega) (by omega), nI_clamp (by omega : n < 2 ^ 31), nI_1, q1]
  rfl
theorem xo_aim (h : xm_ok n le ki wo kt ma ga ne od lo pp) (qq : xPL) (ou : Nat → Int64) (i1 i2 i3 i4 : Int32) (om th ld rd ll rl bf : xF) (la tw : Int32) : ∃ k n2 le2 ki2 wo2 kt2 ga2 od2 P Q ou2 r, f_L_aim lo (nI n, le, ki, wo, kt, ma, ga, ne, od) pp qq ou i1 i2 i3 i4 = some (k, nI n2, le2, ki2, wo2, kt2, ga2, od2, P, Q, ou2) ∧ f_X3_aim (nI n, le, ki, wo, kt, ne, ma, ga, lo, om, th, ld, rd, ll, rl, bf, la, tw) i1 i2 i3 i4 = some (r, nI n2, le2, ki2, wo2, kt2, ga2, k) ∧ (k = 0 → ou2 (0 : Int32).toNatClampNeg = r.toInt64) ∧ xm_ok n2 le2 ki2 wo2 kt2 ma ga2 ne od2 lo P := by
  have h12 := h.1.1
  have hadd := fun (hn : n < 12) g1 g2 g3 => xo_add (i1 := i1) (i2 := i2) (i3 := i3) (i4 := i4) h qq hn g1 g2 g3
  obtain ⟨pp_0, pp_1, pp_2, pp_3, pp_4, pp_5, pp_6, pp_7, pp_8⟩ := pp
  obtain ⟨qq_0, qq_1, qq_2, qq_3, qq_4, qq_5, qq_6, qq_7, qq_8⟩ := qq
  rw [f_L_aim_e, f_X2_aim_e, f_X3_aim_e]
  by_cases g1 : i1 < 1 ∨ 5 < i1
  · rw [(xm_wi0 g1).1, (xm_wi0 g1).2]
    exact ⟨1, n, le, ki, wo, kt, ga, od, _, _, ou, 0, rfl, rfl, fun q => absurd q (by decide), h⟩
  rw [(xm_wi1 g1).1, (xm_wi1 g1).2]
  by_cases g2 : i2 < 0 ∨ 3 < i2
  · rw [(xm_wi0 g2).1, (xm_wi0 g2).2]
    exact ⟨1, n, le, ki, wo, kt, ga, od, _, _, ou, 0, rfl, rfl, fun q => absurd q (by decide), h⟩
  rw [(xm_wi1 g2).1, (xm_wi1 g2).2]
  by_cases g3 : i3 < 1 ∨ 99 < i3
  · rw [(xm_wi0 g3).1, (xm_wi0 g3).2]
    exact ⟨1, n, le, ki, wo, kt, ga, od, _, _, ou, 0, rfl, rfl, fun q => absurd q (by decide), h⟩
  rw [(xm_wi1 g3).1, (xm_wi1 g3).2]
  have key : i4 = -1 ∨ (¬ i4 = -1 ∧ (i4 < 0 ∨ 2 < i4)) ∨ (¬ i4 = -1 ∧ ¬ (i4 < 0 ∨ 2 < i4)) := by
    by_cases a : i4 = -1
    · exact Or.inl a
    · by_cases b : i4 < 0 ∨ 2 < i4
      · exact Or.inr (Or.inl ⟨a, b⟩)
      · exact Or.inr (Or.inr ⟨a, b⟩)
  rcases key with g4 | ⟨g4, g5⟩ | ⟨g4, g5⟩
  · have gm : ¬ (i4 < -1 ∨ 2 < i4) := by rw [g4]; decide
    rw [(xm_wi1 gm).2, if_pos g4]
    simp only [Option.bind_some, xm_e10, if_false]
    by_cases g6 : n < 12
    · obtain ⟨od2, P, q1, q2, q3⟩ := hadd g6 g1 g2 g3
      rw [if_pos (show nI n < 12 from nI_lt (b := 12) g6 (by omega)), if_neg (show ¬ nI n = 12 from fun q => by have := xm_inj (b := 12) (by omega) (by omega) q; omega), q1, Option.bind_some, q2]
      simp only [Option.bind_some, xm_can0, eq_self, if_true, xm_e10, if_false]
      rw [xm_g (by omega) (by omega), nI_clamp (by omega : n < 2 ^ 31), nI_1, nI_pred]
      exact ⟨0, n + 1, _, _, _, _, _, od2, P, _, _, nI n, rfl, rfl, fun _ => xo_upd ou _, q3⟩
    · have e : n = 12 := by omega
      subst e
      exact ⟨2, 12, le, ki, wo, kt, ga, od, _, _, ou, 0, rfl, rfl, fun q => absurd q (by decide), h⟩
  · have gm : i4 < -1 ∨ 2 < i4 := by
      rcases g5 with q | q
      · left
        rw [Int32.lt_iff_toInt_lt] at q ⊢
        have : ¬ i4.toInt = -1 := fun z => g4 (Int32.toInt_inj.mp (by rw [z]; rfl))
        rw [show (-1 : Int32).toInt = -1 from rfl]
        rw [show (0 : Int32).toInt = 0 from rfl] at q
        omega
      · exact Or.inr q
    rw [(xm_wi0 gm).2, (xm_wi0 g5).1, if_neg g4]
    exact ⟨1, n, le, ki, wo, kt, ga, od, _, _, ou, 0, rfl, rfl, fun q => absurd q (by decide), h⟩
  · have gm : ¬ (i4 < -1 ∨ 2 < i4) := by
      rintro (q | q)
      · refine g5 (Or.inl ?_)
        rw [Int32.lt_iff_toInt_lt] at q ⊢
        rw [show (-1 : Int32).toInt = -1 from rfl] at q
        rw [show (0 : Int32).toInt = 0 from rfl]
        omega
      · exact g5 (Or.inr q)
    rw [(xm_wi1 gm).2, (xm_wi1 g5).1, if_neg g4]
    simp only [Option.bind_some, xm_e10, if_false]
    by_cases g6 : n < 12
    · obtain ⟨od2, P, q1, q2, q3⟩ := hadd g6 g1 g2 g3
      rw [if_pos (show nI n < 12 from nI_lt (b := 12) g6 (by omega)), if_neg (show ¬ nI n = 12 from fun q => by have := xm_inj (b := 12) (by omega) (by omega) q; omega), q1, Option.bind_some, q2]
      simp only [Option.bind_some, xm_can0, eq_self, if_true, xm_e10, if_false]
      rw [xm_g (by omega) (by omega), nI_clamp (by omega : n < 2 ^ 31), nI_1, nI_pred]
      exact ⟨0, n + 1, _, _, _, _, _, od2, P, _, _, nI n, rfl, rfl, fun _ => xo_upd ou _, q3⟩
    · have e : n = 12 := by omega
      subst e
      exact ⟨2, 12, le, ki, wo, kt, ga, od, _, _, ou, 0, rfl, rfl, fun q => absurd q (by decide), h⟩
theorem xo_need (h : xm_ok n le ki wo kt ma ga ne od lo pp) (qq : xPL) (ou : Nat → Int64) (i1 i2 : Int32) (om th ld rd ll rl bf : xF) (la tw : Int32) : ∃ k ne2 od2 P Q ou2 r, f_L_need lo (nI n, le, ki, wo, kt, ma, ga, ne, od) pp qq ou i1 i2 = some (k, ne2, od2, P, Q, ou2) ∧ f_X3_need (nI n, le, ki, wo, kt, ne, ma, ga, lo, om, th, ld, rd, ll, rl, bf, la, tw) i1 i2 = some (r, ne2, k) ∧ (k = 0 → ou2 (0 : Int32).toNatClampNeg = r.toInt64) ∧ xm_ok n le ki wo kt ma ga ne2 od2 lo P := by
  obtain ⟨hr, hz, hac, ho, his⟩ := h
  have h : xm_ok n le ki wo kt ma ga ne od lo pp := ⟨hr, hz, hac, ho, his⟩
  have h12 := hr.1
  have hlow := xm_acy_low h12 hac
  have hanew := fun ne2 h1 h2 => xm_anew (ne := ne2) kt od lo pp qq hr h1 h2
  obtain ⟨pp_0, pp_1, pp_2, pp_3, pp_4, pp_5, pp_6, pp_7, pp_8⟩ := pp
  obtain ⟨qq_0, qq_1, qq_2, qq_3, qq_4, qq_5, qq_6, qq_7, qq_8⟩ := qq
  rw [f_L_need_e, f_X2_need_e, f_X3_need_e]
  rcases xm_aimc i1 h12 with ⟨a, ha, rfl⟩ | c1
  rotate_left
  · rw [xm_ia0 c1, xm_ja0 c1]
    exact ⟨1, ne, od, _, _, ou, 0, rfl, rfl, fun q => absurd q (by decide), h⟩
  rw [xm_ia1 (xm_aimn h12 ha), xm_ja1 (xm_aimn h12 ha)]
  rcases xm_aimc i2 h12 with ⟨b, hb, rfl⟩ | c2
  rotate_left
  · rw [xm_ia0 c2, xm_ja0 c2]
    exact ⟨1, ne, od, _, _, ou, 0, rfl, rfl, fun q => absurd q (by decide), h⟩
  rw [xm_ia1 (xm_aimn h12 hb), xm_ja1 (xm_aimn h12 hb)]
  by_cases hab : a = b
  · subst hab
    rw [if_pos rfl, if_pos rfl]
    exact ⟨2, ne, od, _, _, ou, 0, rfl, rfl, fun q => absurd q (by decide), h⟩
  have hab2 : ¬ nI a = nI b := fun q => hab (xm_inj (by omega) (by omega) q)
  rw [if_neg hab2, if_neg hab2, xm_g (k := a) (by omega) (by omega), nI_clamp (by omega : a < 2 ^ 31), xm_has (by omega : b < 32), f_X3_hasNeed_e, xm_g (k := a) (by omega) (by omega), nI_clamp (by omega : a < 2 ^ 31), xm_bit (by omega : b < 32)]
  cases hbit : bt (ne a) b with
  | true => exact ⟨3, ne, od, _, _, ou, 0, rfl, rfl, fun q => absurd q (by decide), h⟩
  | false =>
    have hR := xm_reach (le := le) (ki := ki) (wo := wo) (kt := kt) (ma := ma) (ga := ga) (ne := ne) (od := od) h12 hb
    have hR : f_X1_reach (nI n, le, ki, wo, kt, ma, ga, ne, od) (nI b) = some (xm_R ne n b) := hR
    rw [hR, xm_reached h12 hb hlow]
    simp only [Option.bind_some, xm_e10, Bool.false_eq_true, if_false, if_true, xm_e01, eq_self]
    rw [xm_has (by omega : a < 32), xm_bit (by omega : a < 32)]
    cases hR2 : bt (xm_R ne n b) a with
    | true => exact ⟨3, ne, od, _, _, ou, 0, rfl, rfl, fun q => absurd q (by decide), h⟩
    | false =>
      have hup : ∀ j, n ≤ j → j < 12 → ma j = 0 ∧ upd ne a (ne a ||| ((1 : Int32) <<< (nI b &&& 31))) j = 0 := fun j h1 h2 => by
        rw [xm_up1 _ _ (by omega)]; exact hz j h1 h2
      obtain ⟨od2, P, q1, q2, q3⟩ := hanew _ hup (xm_acy_add h12 hac ha hb hab hR2)
      obtain ⟨v, hv, ev⟩ := xm_low_nI h12 (xm_low_or (a := a) h12 hb (hlow a ha))
      simp only [Option.bind_some, xm_e10, Bool.false_eq_true, if_false, if_true, xm_e01, eq_self]
      rw [f_X1_setNeeds_e, xm_g (k := a) (by omega) (by omega), nI_clamp (by omega : a < 2 ^ 31), q1]
      simp only [Option.bind_some]
      rw [q2, xm_up0, ev, xm_bc hv]
      simp only [Option.bind_some, xm_can0, eq_self, if_true, xm_e10, if_false]
      rw [xm_g2 (by omega) (by omega), xm_sz]
      exact ⟨0, _, od2, P, _, _, _, rfl, rfl, fun _ => xo_upd ou _, by rw [← ev]; exact q3⟩
theorem xo_free (h : xm_ok n le ki wo kt ma ga ne od lo pp) (qq : xPL) (ou : Nat → Int64) (i1 i2 : Int32) (om th ld rd ll rl bf : xF) (la tw : Int32) : ∃ k ne2 od2 P Q ou2 r, f_L_free lo (nI n, le, ki, wo, kt, ma, ga, ne, od) pp qq ou i1 i2 = some (k, ne2, od2, P, Q, ou2) ∧ f_X3_free (nI n, le, ki, wo, kt, ne, ma, ga, lo, om, th, ld, rd, ll, rl, bf, la, tw) i1 i2 = some (r, ne2, k) ∧ (k = 0 → ou2 (0 : Int32).toNatClampNeg = r.toInt64) ∧ xm_ok n le ki wo kt ma ga ne2 od2 lo P := by
  obtain ⟨hr, hz, hac, ho, his⟩ := h
  have h : xm_ok n le ki wo kt ma ga ne od lo pp := ⟨hr, hz, hac, ho, his⟩
  have h12 := hr.1
  have hlow := xm_acy_low h12 hac
  have hanew := fun ne2 h1 h2 => xm_anew (ne := ne2) kt od lo pp qq hr h1 h2
  obtain ⟨pp_0, pp_1, pp_2, pp_3, pp_4, pp_5, pp_6, pp_7, pp_8⟩ := pp
  obtain ⟨qq_0, qq_1, qq_2, qq_3, qq_4, qq_5, qq_6, qq_7, qq_8⟩ := qq
  rw [f_L_free_e, f_X2_free_e, f_X3_free_e]
  rcases xm_aimc i1 h12 with ⟨a, ha, rfl⟩ | c1
  rotate_left
  · rw [xm_ia0 c1, xm_ja0 c1]
    exact ⟨1, ne, od, _, _, ou, 0, rfl, rfl, fun q => absurd q (by decide), h⟩
  rw [xm_ia1 (xm_aimn h12 ha), xm_ja1 (xm_aimn h12 ha)]
  rcases xm_aimc i2 h12 with ⟨b, hb, rfl⟩ | c2
  rotate_left
  · rw [xm_ia0 c2, xm_ja0 c2]
    exact ⟨1, ne, od, _, _, ou, 0, rfl, rfl, fun q => absurd q (by decide), h⟩
  rw [xm_ia1 (xm_aimn h12 hb), xm_ja1 (xm_aimn h12 hb)]
  rw [xm_g (k := a) (by omega) (by omega), nI_clamp (by omega : a < 2 ^ 31), xm_has (by omega : b < 32), f_X3_hasNeed_e, xm_g (k := a) (by omega) (by omega), nI_clamp (by omega : a < 2 ^ 31), xm_bit (by omega : b < 32)]
  cases hbit : bt (ne a) b with
  | false => exact ⟨2, ne, od, _, _, ou, 0, rfl, rfl, fun q => absurd q (by decide), h⟩
  | true =>
    have hup : ∀ j, n ≤ j → j < 12 → ma j = 0 ∧ upd ne a (ne a &&& (((1 : Int32) <<< (nI b &&& 31)) ^^^ ((-1) : Int32))) j = 0 := fun j h1 h2 => by
      rw [xm_up1 _ _ (by omega)]; exact hz j h1 h2
    obtain ⟨od2, P, q1, q2, q3⟩ := hanew _ hup (xm_acy_sub hac (fun i _ hi => by rw [b_and, Bool.and_eq_true] at hi; exact hi.1))
    obtain ⟨v, hv, ev⟩ := xm_low_nI h12 (xm_low_and (y := (((1 : Int32) <<< (nI b &&& 31)) ^^^ ((-1) : Int32))) (hlow a ha))
    simp only [Option.bind_some, xm_e10, Bool.false_eq_true, if_false, if_true, xm_e01, eq_self]
    rw [f_X1_setNeeds_e, xm_g (k := a) (by omega) (by omega), nI_clamp (by omega : a < 2 ^ 31), q1]
    simp only [Option.bind_some]
    rw [q2, xm_up0, ev, xm_bc hv]
    simp only [Option.bind_some, xm_can0, eq_self, if_true, xm_e10, if_false]
    rw [xm_g2 (by omega) (by omega), xm_sz]
    exact ⟨0, _, od2, P, _, _, _, rfl, rfl, fun _ => xo_upd ou _, by rw [← ev]; exact q3⟩
theorem xo_revisits (h : xm_ok n le ki wo kt ma ga ne od lo pp) (qq : xPL) (ou : Nat → Int64) (i1 i2 i3 : Int32) (om th ld rd ll rl bf : xF) (la tw : Int32) : ∃ k ma2 ga2 P Q ou2 r, f_L_revisits lo (nI n, le, ki, wo, kt, ma, ga, ne, od) pp qq ou i1 i2 i3 = some (k, ma2, ga2, P, Q, ou2) ∧ f_X3_revisits (nI n, le, ki, wo, kt, ne, ma, ga, lo, om, th, ld, rd, ll, rl, bf, la, tw) i1 i2 i3 = some (r, ma2, ga2, k) ∧ (k = 0 → ou2 (0 : Int32).toNatClampNeg = r.toInt64) ∧ xm_ok n le ki wo kt ma2 ga2 ne od lo P := by
  obtain ⟨hr, hz, hac, ho, his⟩ := h
  have h : xm_ok n le ki wo kt ma ga ne od lo pp := ⟨hr, hz, hac, ho, his⟩
  have h12 := hr.1
  have hanew := fun ma2 ga2 h0 h1 => xm_anew2 (ma := ma2) (ga := ga2) (le := le) (wo := wo) kt lo pp qq h0 h1 hac ho
  obtain ⟨pp_0, pp_1, pp_2, pp_3, pp_4, pp_5, pp_6, pp_7, pp_8⟩ := pp
  obtain ⟨qq_0, qq_1, qq_2, qq_3, qq_4, qq_5, qq_6, qq_7, qq_8⟩ := qq
  rw [f_L_revisits_e, f_X2_revisits_e, f_X3_revisits_e]
  rcases xm_aimc i1 h12 with ⟨a, ha, rfl⟩ | c1
  rotate_left
  · rw [xm_ia0 c1, xm_ja0 c1]
    exact ⟨1, ma, ga, _, _, ou, 0, rfl, rfl, fun q => absurd q (by decide), h⟩
  rw [xm_ia1 (xm_aimn h12 ha), xm_ja1 (xm_aimn h12 ha)]
  by_cases g2 : i2 < 0 ∨ 3 < i2
  · rw [(xm_wi0 g2).1, (xm_wi0 g2).2]
    exact ⟨2, ma, ga, _, _, ou, 0, rfl, rfl, fun q => absurd q (by decide), h⟩
  rw [(xm_wi1 g2).1, (xm_wi1 g2).2]
  by_cases g3 : i3 < 1 ∨ 20 < i3
  · rw [(xm_wi0 g3).1, (xm_wi0 g3).2]
    exact ⟨2, ma, ga, _, _, ou, 0, rfl, rfl, fun q => absurd q (by decide), h⟩
  rw [(xm_wi1 g3).1, (xm_wi1 g3).2]
  obtain ⟨v2, a2, b2, e2⟩ := xm_in (a := 0) (b := 3) (by omega) (by omega) g2
  obtain ⟨v3, a3, b3, e3⟩ := xm_in (a := 1) (b := 20) (by omega) (by omega) g3
  have hr2 : xm_rng n le ki wo (upd ma a i2) (upd ga a i3) := by
    refine ⟨h12, fun j hj => ?_⟩
    obtain ⟨p1, p2, p3, p4, p5⟩ := hr.2 j hj
    by_cases e : j = a
    · subst e
      rw [xm_up0, xm_up0]
      exact ⟨p1, p2, p3, ⟨v2, b2, e2⟩, ⟨v3, b3, e3⟩⟩
    · rw [xm_up1 _ _ e, xm_up1 _ _ e]
      exact ⟨p1, p2, p3, p4, p5⟩
  obtain ⟨P, q1, q2⟩ := hanew _ _ hr2 (fun j h1 h2 => by rw [xm_up1 _ _ (by omega)]; exact hz j h1 h2)
  simp only [Option.bind_some, xm_e10, if_false]
  rw [xm_g (k := a) (by omega) (by omega), nI_clamp (by omega : a < 2 ^ 31), q1]
  simp only [Option.bind_some, xm_can0, eq_self, if_true, xm_e10, if_false]
  rw [xm_g2 (k := a) (by omega) (by omega)]
  exact ⟨0, _, _, P, _, _, _, rfl, rfl, fun _ => xo_upd ou _, q2⟩
theorem xo_allNeeds (h : xm_ok n le ki wo kt ma ga ne od lo pp) (qq : xPL) (ou : Nat → Int64) (i1 : Int32) (om th ld rd ll rl bf : xF) (la tw : Int32) : ∃ k ou2 r, f_L_allNeeds lo (nI n, le, ki, wo, kt, ma, ga, ne, od) pp qq ou i1 = some (k, ou2) ∧ f_X3_allNeeds (nI n, le, ki, wo, kt, ne, ma, ga, lo, om, th, ld, rd, ll, rl, bf, la, tw) i1 = some (r, k) ∧ (k = 0 → ou2 (0 : Int32).toNatClampNeg = r.toInt64) := by
  obtain ⟨hr, hz, hac, ho, his⟩ := h
  have h12 := hr.1
  have hlow := xm_acy_low h12 hac
  obtain ⟨pp_0, pp_1, pp_2, pp_3, pp_4, pp_5, pp_6, pp_7, pp_8⟩ := pp
  obtain ⟨qq_0, qq_1, qq_2, qq_3, qq_4, qq_5, qq_6, qq_7, qq_8⟩ := qq
  rw [f_L_allNeeds_e, f_X2_allNeeds_e, f_X3_allNeeds_e]
  rcases xm_aimc i1 h12 with ⟨a, ha, rfl⟩ | c1
  rotate_left
  · rw [xm_ia0 c1, xm_ja0 c1]
    exact ⟨1, ou, 0, rfl, rfl, fun q => absurd q (by decide)⟩
  have hR : f_X1_reach (nI n, le, ki, wo, kt, ma, ga, ne, od) (nI a) = some (xm_R ne n a) := xm_reach h12 ha
  rw [xm_ia1 (xm_aimn h12 ha), xm_ja1 (xm_aimn h12 ha), hR]
  simp only [Option.bind_some, xm_e10, if_false]
  rw [f_X3_can_e]
  simp only [Option.bind_some, eq_self, if_true, xm_e10, if_false]
  rw [xm_reached h12 ha hlow]
  exact ⟨0, _, _, rfl, rfl, fun _ => xo_upd ou _⟩
theorem xo_ordered (h : xm_ok n le ki wo kt ma ga ne od lo pp) (qq : xPL) (ou : Nat → Int64) (i1 : Int32) (om th ld rd ll rl bf : xF) (la tw : Int32) : ∃ k ou2 r om2, f_L_ordered lo (nI n, le, ki, wo, kt, ma, ga, ne, od) pp qq ou i1 = some (k, ou2) ∧ f_X3_ordered (nI n, le, ki, wo, kt, ne, ma, ga, lo, om, th, ld, rd, ll, rl, bf, la, tw) i1 = some (r, om2, k) ∧ (k = 0 → ou2 (0 : Int32).toNatClampNeg = r.toInt64) := by
  obtain ⟨hr, hz, hac, ho, his⟩ := h
  have h12 := hr.1
  obtain ⟨pp_0, pp_1, pp_2, pp_3, pp_4, pp_5, pp_6, pp_7, pp_8⟩ := pp
  obtain ⟨qq_0, qq_1, qq_2, qq_3, qq_4, qq_5, qq_6, qq_7, qq_8⟩ := qq
  rw [f_L_ordered_e, f_X2_ordered_e, f_X3_ordered_e]
  rcases xm_aimc i1 h12 with ⟨a, ha, rfl⟩ | c1
  rotate_left
  · rw [(xm_wi0 c1).1, (xm_wi0 c1).2]
    exact ⟨1, ou, 0, om, rfl, rfl, fun q => absurd q (by decide)⟩
  obtain ⟨od2, e1, e2⟩ := xm_od ho le wo kt ma ga lo om th ld rd ll rl bf la 0
  rw [(xm_wi1 (xm_aimn h12 ha)).1, (xm_wi1 (xm_aimn h12 ha)).2]
  simp only [Option.bind_some, xm_e10, if_false]
  rw [f_X3_can_e, xm_g (k := a) (by omega) (by omega), nI_clamp (by omega : a < 2 ^ 31)]
  simp only [Option.bind_some, eq_self, if_true, xm_e10, if_false]
  rw [e1, Option.bind_some, xm_g2 (k := a) (by omega) (by omega), e2 a ha]
  exact ⟨0, _, _, od2, rfl, rfl, fun _ => xo_upd ou _⟩
theorem xm_day0 {x : Int32} (h : x < 0 ∨ 99 < x) : f_X2_isDay x = some 0 := by
  rw [f_X2_isDay_e, (xm_wi0 h).1]; rfl
theorem xm_day1 {x : Int32} (h : ¬ (x < 0 ∨ 99 < x)) : f_X2_isDay x = some 1 := by
  rw [f_X2_isDay_e, (xm_wi1 h).1]; rfl
theorem xo_on (h : xm_ok n le ki wo kt ma ga ne od lo pp) (qq : xPL) (ou : Nat → Int64) (i1 : Int32) (om th ld rd ll rl bf : xF) (la tw : Int32) : ∃ k ou2 r om2 th2 ld2 rd2 ll2 rl2 la2, f_L_on lo (nI n, le, ki, wo, kt, ma, ga, ne, od) pp qq ou i1 = some (k, ou2) ∧ f_X3_on (nI n, le, ki, wo, kt, ne, ma, ga, lo, om, th, ld, rd, ll, rl, bf, la, tw) i1 = some (r, om2, th2, ld2, rd2, ll2, rl2, la2, k) ∧ (k = 0 → ou2 (0 : Int32).toNatClampNeg = r.toInt64) := by
  obtain ⟨hr, hz, hac, ho, his⟩ := h
  obtain ⟨pp_0, pp_1, pp_2, pp_3, pp_4, pp_5, pp_6, pp_7, pp_8⟩ := pp
  obtain ⟨qq_0, qq_1, qq_2, qq_3, qq_4, qq_5, qq_6, qq_7, qq_8⟩ := qq
  rw [f_L_on_e, f_X2_on_e, f_X3_on_e]
  by_cases g1 : i1 < 0 ∨ 99 < i1
  · rw [xm_day0 g1, (xm_wi0 g1).2]
    exact ⟨1, ou, 0, om, th, ld, rd, ll, rl, la, rfl, rfl, fun q => absurd q (by decide)⟩
  obtain ⟨v, a2, b2, e2⟩ := xm_in (a := 0) (b := 99) (by omega) (by omega) g1
  obtain ⟨od2, a, b, t, th2, ld2, rd2, ll2, rl2, la2, e1, -, hs⟩ := his om th ld rd ll rl bf la 0
  obtain ⟨-, -, -, -, -, hth, -⟩ := hs
  rw [xm_day1 g1, (xm_wi1 g1).2]
  simp only [Option.bind_some, xm_e10, if_false]
  rw [f_X3_can_e]
  simp only [Option.bind_some, eq_self, if_true, xm_e10, if_false]
  rw [e1, Option.bind_some, e2, xm_g (k := v) (by omega) (by omega), nI_clamp (by omega : v < 2 ^ 31), xm_g2 (k := v) (by omega) (by omega)]
  have e3 : th2 v = pp_0 v := (hth v (by omega)).1
  show ∃ k ou2 r om2 th3 ld2 rd2 ll2 rl2 la2, _ ∧ some (th2 v, _) = _ ∧ _
  rw [e3]
  exact ⟨0, _, _, od2, th2, ld2, rd2, ll2, rl2, la2, rfl, rfl, fun _ => xo_upd ou _⟩
theorem xo_lessonDay (h : xm_ok n le ki wo kt ma ga ne od lo pp) (qq : xPL) (ou : Nat → Int64) (i1 i2 : Int32) (om th ld rd ll rl bf : xF) (la tw : Int32) : ∃ k ou2 r om2 th2 ld2 rd2 ll2 rl2 la2, f_L_lessonDay lo (nI n, le, ki, wo, kt, ma, ga, ne, od) pp qq ou i1 i2 = some (k, ou2) ∧ f_X3_lessonDay (nI n, le, ki, wo, kt, ne, ma, ga, lo, om, th, ld, rd, ll, rl, bf, la, tw) i1 i2 = some (r, om2, th2, ld2, rd2, ll2, rl2, la2, k) ∧ (k = 0 → ou2 (0 : Int32).toNatClampNeg = r.toInt64) := by
  obtain ⟨hr, hz, hac, ho, his⟩ := h
  have h12 := hr.1
  obtain ⟨pp_0, pp_1, pp_2, pp_3, pp_4, pp_5, pp_6, pp_7, pp_8⟩ := pp
  obtain ⟨qq_0, qq_1, qq_2, qq_3, qq_4, qq_5, qq_6, qq_7, qq_8⟩ := qq
  rw [f_L_lessonDay_e, f_X2_lessonDay_e, f_X3_lessonDay_e]
  rcases xm_aimc i1 h12 with ⟨x, hx, rfl⟩ | c1
  rotate_left
  · rw [xm_ia0 c1, xm_ja0 c1]
    exact ⟨1, ou, 0, om, th, ld, rd, ll, rl, la, rfl, rfl, fun q => absurd q (by decide)⟩
  obtain ⟨⟨l, hl1, hl5, hl⟩, -⟩ := hr.2 x hx
  rw [xm_ia1 (xm_aimn h12 hx), xm_ja1 (xm_aimn h12 hx), xm_g (k := x) (by omega) (by omega), xm_g (k := x) (by omega) (by omega), nI_clamp (by omega : x < 2 ^ 31), hl]
  rcases xm_aimc i2 (by omega : l ≤ 12) with ⟨y, hy, rfl⟩ | c2
  rotate_left
  · rw [(xm_wi0 c2).1, (xm_wi0 c2).2]
    exact ⟨1, ou, 0, om, th, ld, rd, ll, rl, la, rfl, rfl, fun q => absurd q (by decide)⟩
  obtain ⟨od2, a, b, t, th2, ld2, rd2, ll2, rl2, la2, e1, -, hs⟩ := his om th ld rd ll rl bf la 0
  obtain ⟨-, -, -, hld, -⟩ := hs
  have hyn : ¬ (nI y < 0 ∨ nI l - 1 < nI y) := xm_aimn (by omega : l ≤ 12) hy
  rw [(xm_wi1 hyn).1, (xm_wi1 hyn).2]
  simp only [Option.bind_some, xm_e10, if_false]
  rw [f_X3_can_e]
  simp only [Option.bind_some, eq_self, if_true, xm_e10, if_false]
  rw [e1, Option.bind_some, xm_y5, xm_x5, xm_g (k := 5 * x + y) (by omega) (by omega), nI_clamp (by omega : 5 * x + y < 2 ^ 31), xm_g2 (k := 5 * x + y) (by omega) (by omega)]
  have e3 : ld2 (5 * x + y) = pp_1 (5 * x + y) := hld _ (by omega)
  show ∃ k ou2 r om2 th3 ld3 rd2 ll2 rl2 la2, _ ∧ some (ld2 (5 * x + y), _) = _ ∧ _
  rw [e3]
  exact ⟨0, _, _, od2, th2, ld2, rd2, ll2, rl2, la2, rfl, rfl, fun _ => xo_upd ou _⟩
theorem xo_revisitDay (h : xm_ok n le ki wo kt ma ga ne od lo pp) (qq : xPL) (ou : Nat → Int64) (i1 i2 : Int32) (om th ld rd ll rl bf : xF) (la tw : Int32) : ∃ k ou2 r om2 th2 ld2 rd2 ll2 rl2 la2, f_L_revisitDay lo (nI n, le, ki, wo, kt, ma, ga, ne, od) pp qq ou i1 i2 = some (k, ou2) ∧ f_X3_revisitDay (nI n, le, ki, wo, kt, ne, ma, ga, lo, om, th, ld, rd, ll, rl, bf, la, tw) i1 i2 = some (r, om2, th2, ld2, rd2, ll2, rl2, la2, k) ∧ (k = 0 → ou2 (0 : Int32).toNatClampNeg = r.toInt64) := by
  obtain ⟨hr, hz, hac, ho, his⟩ := h
  have h12 := hr.1
  obtain ⟨pp_0, pp_1, pp_2, pp_3, pp_4, pp_5, pp_6, pp_7, pp_8⟩ := pp
  obtain ⟨qq_0, qq_1, qq_2, qq_3, qq_4, qq_5, qq_6, qq_7, qq_8⟩ := qq
  rw [f_L_revisitDay_e, f_X2_revisitDay_e, f_X3_revisitDay_e]
  rcases xm_aimc i1 h12 with ⟨x, hx, rfl⟩ | c1
  rotate_left
  · rw [xm_ia0 c1, xm_ja0 c1]
    exact ⟨1, ou, 0, om, th, ld, rd, ll, rl, la, rfl, rfl, fun q => absurd q (by decide)⟩
  obtain ⟨-, -, -, ⟨l, hl3, hl⟩, -⟩ := hr.2 x hx
  rw [xm_ia1 (xm_aimn h12 hx), xm_ja1 (xm_aimn h12 hx), xm_g (k := x) (by omega) (by omega), xm_g (k := x) (by omega) (by omega), nI_clamp (by omega : x < 2 ^ 31), hl]
  rcases xm_aimc i2 (by omega : l ≤ 12) with ⟨y, hy, rfl⟩ | c2
  rotate_left
  · rw [(xm_wi0 c2).1, (xm_wi0 c2).2]
    exact ⟨1, ou, 0, om, th, ld, rd, ll, rl, la, rfl, rfl, fun q => absurd q (by decide)⟩
  obtain ⟨od2, a, b, t, th2, ld2, rd2, ll2, rl2, la2, e1, -, hs⟩ := his om th ld rd ll rl bf la 0
  obtain ⟨-, -, -, -, hrd, -⟩ := hs
  have hyn : ¬ (nI y < 0 ∨ nI l - 1 < nI y) := xm_aimn (by omega : l ≤ 12) hy
  rw [(xm_wi1 hyn).1, (xm_wi1 hyn).2]
  simp only [Option.bind_some, xm_e10, if_false]
  rw [f_X3_can_e]
  simp only [Option.bind_some, eq_self, if_true, xm_e10, if_false]
  rw [e1, Option.bind_some, xm_y3, xm_x3, xm_g (k := 3 * x + y) (by omega) (by omega), nI_clamp (by omega : 3 * x + y < 2 ^ 31), xm_g2 (k := 3 * x + y) (by omega) (by omega)]
  have e3 : rd2 (3 * x + y) = pp_2 (3 * x + y) := hrd _ (by omega)
  show ∃ k ou2 r om2 th3 ld3 rd3 ll2 rl2 la2, _ ∧ some (rd2 (3 * x + y), _) = _ ∧ _
  rw [e3]
  exact ⟨0, _, _, od2, th2, ld2, rd2, ll2, rl2, la2, rfl, rfl, fun _ => xo_upd ou _⟩
theorem xo_late (h : xm_ok n le ki wo kt ma ga ne od lo pp) (yy : xSY) (qq : xPL) (om th ld rd ll rl bf : xF) (la tw : Int32) : ∃ r om2 th2 ld2 rd2 ll2 rl2 la2, f_X2_late lo yy pp qq = some r ∧ f_X3_late (nI n, le, ki, wo, kt, ne, ma, ga, lo, om, th, ld, rd, ll, rl, bf, la, tw) = some (r, om2, th2, ld2, rd2, ll2, rl2, la2, 0) := by
  obtain ⟨hr, hz, hac, ho, his⟩ := h
  obtain ⟨od2, a, b, t, th2, ld2, rd2, ll2, rl2, la2, e1, -, hs⟩ := his om th ld rd ll rl bf la 0
  obtain ⟨-, -, -, -, -, -, -, hla, -⟩ := hs
  refine ⟨_, od2, th2, ld2, rd2, ll2, rl2, la2, rfl, ?_⟩
  rw [f_X3_late_e, e1, ← hla]
  rfl
theorem xo_laid (h : xm_ok n le ki wo kt ma ga ne od lo pp) (yy : xSY) (qq : xPL) (om th ld rd ll rl bf : xF) (la tw : Int32) : ∃ r om2 th2 ld2 rd2 ll2 rl2 la2, f_X2_laid lo yy pp qq = some r ∧ f_X3_laid (nI n, le, ki, wo, kt, ne, ma, ga, lo, om, th, ld, rd, ll, rl, bf, la, tw) = some (r, om2, th2, ld2, rd2, ll2, rl2, la2, 0) := by
  obtain ⟨hr, hz, hac, ho, his⟩ := h
  obtain ⟨od2, a, b, t, th2, ld2, rd2, ll2, rl2, la2, e1, -, hs⟩ := his om th ld rd ll rl bf la 0
  obtain ⟨-, -, -, -, -, hth, -, -, hlc, -⟩ := hs
  refine ⟨_, od2, th2, ld2, rd2, ll2, rl2, la2, rfl, ?_⟩
  have q : f_X3_laid_l13 (od2, th2, ld2, rd2, ll2, rl2, la2) 300 (0 : Int32) (0 : Int32) = some (xm_cn (fun k => decide (¬ th2 k = -1)) 100 0 (nI 0)) := xm_laid_loop 100 0 300 0 (by omega) (by omega)
  rw [f_X3_laid_e, e1, Option.bind_some, q, xm_cn_ct]
  have e : fb_ct (fun i => decide (¬ th2 (0 + i) = -1)) 100 = fb_ct (fun k => decide (¬ pp.1 k = -1)) 100 := fb_ct_cong (fun k hk => by rw [Nat.zero_add, (hth k hk).1])
  rw [e, Nat.zero_add]
  rw [← hlc]
  rfl
theorem xo_lastDay (h : xm_ok n le ki wo kt ma ga ne od lo pp) (yy : xSY) (qq : xPL) (om th ld rd ll rl bf : xF) (la tw : Int32) : ∃ r om2 th2 ld2 rd2 ll2 rl2 la2, f_X2_lastDay lo yy pp qq = some r ∧ f_X3_lastDay (nI n, le, ki, wo, kt, ne, ma, ga, lo, om, th, ld, rd, ll, rl, bf, la, tw) = some (r, om2, th2, ld2, rd2, ll2, rl2, la2, 0) := by
  obtain ⟨hr, hz, hac, ho, his⟩ := h
  obtain ⟨od2, a, b, t, th2, ld2, rd2, ll2, rl2, la2, e1, -, hs⟩ := his om th ld rd ll rl bf la 0
  obtain ⟨-, -, -, -, -, hth, -, -, -, hlu⟩ := hs
  refine ⟨_, od2, th2, ld2, rd2, ll2, rl2, la2, rfl, ?_⟩
  obtain ⟨r, q1, q2⟩ := xm_last_loop (o1 := (od2, th2, ld2, rd2, ll2, rl2, la2)) 100 0 300 (-1) (by omega) (by omega) (Or.inl ⟨rfl, fun k hk => by omega⟩)
  have q1 : f_X3_lastDay_l13 (od2, th2, ld2, rd2, ll2, rl2, la2) 300 (0 : Int32) ((-1) : Int32) = some r := q1
  rw [f_X3_lastDay_e, e1, Option.bind_some, q1, Option.bind_some]
  have e : r = pp.2.2.2.2.2.2.2.2 := xm_last_eq (fun k hk => (hth k hk).1) hlu q2
  rw [e]
theorem xo_lose (h : xm_ok n le ki wo kt ma ga ne od lo pp) (qq : xPL) (ou : Nat → Int64) (i1 : Int32) (om th ld rd ll rl bf : xF) (la tw : Int32) : ∃ k lo2 P Q ou2 r om2 th2 ld2 rd2 ll2 rl2 bf2 la2, f_L_lose lo (nI n, le, ki, wo, kt, ma, ga, ne, od) pp qq ou i1 = some (k, lo2, P, Q, ou2) ∧ f_X3_lose (nI n, le, ki, wo, kt, ne, ma, ga, lo, om, th, ld, rd, ll, rl, bf, la, tw) i1 = some (r, lo2, om2, th2, ld2, rd2, ll2, rl2, bf2, la2, k) ∧ (k = 0 → ou2 (0 : Int32).toNatClampNeg = r.toInt64) ∧ xm_ok n le ki wo kt ma ga ne od lo2 P := by
  obtain ⟨hr, hz, hac, ho, his⟩ := h
  have h : xm_ok n le ki wo kt ma ga ne od lo pp := ⟨hr, hz, hac, ho, his⟩
  have hanew := fun lo2 => xm_anew2 kt lo2 pp qq hr hz hac ho
  have hmoved := fun P => xm_moved P pp
  obtain ⟨pp_0, pp_1, pp_2, pp_3, pp_4, pp_5, pp_6, pp_7, pp_8⟩ := pp
  obtain ⟨qq_0, qq_1, qq_2, qq_3, qq_4, qq_5, qq_6, qq_7, qq_8⟩ := qq
  rw [f_L_lose_e, f_X2_lose_e, f_X3_lose_e]
  by_cases g1 : i1 < 0 ∨ 99 < i1
  · rw [xm_day0 g1, (xm_wi0 g1).2]
    exact ⟨1, lo, _, _, ou, 0, om, th, ld, rd, ll, rl, bf, la, rfl, rfl, fun q => absurd q (by decide), h⟩
  rw [xm_day1 g1, (xm_wi1 g1).2]
  obtain ⟨v, a2, b2, e2⟩ := xm_in (a := 0) (b := 99) (by omega) (by omega) g1
  subst e2
  simp only [Option.bind_some, xm_e10, if_false]
  rw [xm_g (k := v) (by omega) (by omega), xm_g (k := v) (by omega) (by omega), nI_clamp (by omega : v < 2 ^ 31)]
  by_cases g2 : lo v = 0
  rotate_left
  · rw [if_neg g2, if_neg g2]
    exact ⟨2, lo, _, _, ou, 0, om, th, ld, rd, ll, rl, bf, la, rfl, rfl, fun q => absurd q (by decide), h⟩
  rw [if_pos g2, if_pos g2]
  simp only [Option.bind_some, xm_can0, eq_self, if_true, xm_e10, if_false]
  obtain ⟨od2, a, b, t, th2, ld2, rd2, ll2, rl2, la2, e1, -, hs⟩ := his om th ld rd ll rl bf la 0
  obtain ⟨-, -, -, hld, hrd, -⟩ := hs
  rw [e1, Option.bind_some]
  obtain ⟨w, q1, q2⟩ := xm_l43 (z0 := nI n) (z1 := le) (z2 := ki) (z3 := wo) (z4 := kt) (z5 := ne) (z6 := ma) (z7 := ga) (z8 := lo) (o3 := (1, 0)) (o5 := (od2, th2, ld2, rd2, ll2, rl2, la2)) 96 0 300 bf (by omega) (by omega) (fun j hj => by omega)
  have q1 : f_X3_lose_l43 (nI n) le ki wo kt ne ma ga lo (1, 0) (od2, th2, ld2, rd2, ll2, rl2, la2) 300 (0 : Int32) bf = some w := q1
  rw [q1, Option.bind_some, xm_g2 (k := v) (by omega) (by omega)]
  obtain ⟨P, p1, p2⟩ := hanew (upd lo v 1)
  rw [p1, Option.bind_some, hmoved P]
  obtain ⟨od3, a3, b3, t3, th3, ld3, rd3, ll3, rl3, la3, e3, -, hs3⟩ := p2.2.2.2.2 od2 th2 ld2 rd2 ll2 rl2 w la2 0
  obtain ⟨-, -, -, hld3, hrd3, -⟩ := hs3
  rw [e3]
  simp only [Option.bind_some]
  have q4 : f_X3_lose_l81 (nI n) le ki wo kt ne ma ga lo (nI v) (1, 0) w (od3, th3, ld3, rd3, ll3, rl3, la3) 300 (0 : Int32) (0 : Int32) = some (xm_cn (xm_df w (xm_row ld3 rd3)) 96 0 0) := xm_l81 96 0 300 0 (by omega) (by omega)
  rw [q4, Option.bind_some, xm_rows q2 hld hrd hld3 hrd3]
  exact ⟨0, _, P, _, _, _, od3, th3, ld3, rd3, ll3, rl3, w, la3, rfl, rfl, fun _ => xo_upd ou _, p2⟩
theorem xm_net0 (le wo : xF) (pr : Int32) : ∀ (c k : Nat) (a : Int32), xm_net le wo 0 pr c k a = a := by
  intro c
  induction c with
  | zero => intro k a; rfl
  | succ c ih =>
    intro k a
    show xm_net le wo 0 pr c (k + 1) (if bt 0 k = true then a + (wo k - pr * le k) else a) = a
    rw [b_0, if_neg (by decide), ih]
theorem xo_best (h : xm_ok n le ki wo kt ma ga ne od lo pp) {i1 : Int32} (g : ¬ (i1 < 0 ∨ 99 < i1)) (om th ld rd ll rl bf : xF) (la tw : Int32) : ∃ r, f_X1_bestSet (nI n, le, ki, wo, kt, ma, ga, ne, od) i1 = some r ∧ f_X3_best (nI n, le, ki, wo, kt, ne, ma, ga, lo, om, th, ld, rd, ll, rl, bf, la, tw) i1 = some r ∧ ∃ v, f_X1_netOf (nI n, le, ki, wo, kt, ma, ga, ne, od) r i1 = some v ∧ f_X3_net (nI n, le, ki, wo, kt, ne, ma, ga, lo, om, th, ld, rd, ll, rl, bf, la, tw) r i1 = some v := by
  obtain ⟨hr, hz, hac, ho, his⟩ := h
  have h12 := hr.1
  obtain ⟨v, a2, b2, e2⟩ := xm_in (a := 0) (b := 99) (by omega) (by omega) g
  subst e2
  have hp := xm_pow12 h12
  have hp1 : 1 ≤ 2 ^ n := Nat.one_le_two_pow
  obtain ⟨r, -, q1, q2⟩ := xm_bs (ki := ki) (kt := kt) (ma := ma) (ga := ga) (ne := ne) (od := od) (m2 := ki) (m4 := kt) (m6 := ma) (m7 := ga) (m8 := lo) (m9 := om) (m10 := th) (m11 := ld) (m12 := rd) (m13 := ll) (m14 := rl) (m15 := bf) (z16 := la) (z17 := tw) h12 (by omega : v < 100) (xm_vok hr) (2 ^ n - 1) 1 0 5000 5000 (by omega) (by omega) (by omega) (by omega)
  have e0 : xm_net le wo (nI 0) (nI v) n 0 0 = 0 := xm_net0 le wo (nI v) n 0 0
  rw [e0] at q1
  have q1 : f_X1_bestSet_l7 (nI n) le ki wo kt ma ga ne od (nI v) 5000 (1 : Int32) (0 : Int32) (0 : Int32) = some (nI r) := q1
  have q2 : f_X3_best_l4 (nI n) le ki wo kt ne ma ga lo om th ld rd ll rl bf la tw (nI v) 5000 (1 : Int32) (0 : Int32) = some (nI r) := q2
  refine ⟨nI r, ?_, ?_, _, xm_nc (nI r) (nI v) h12, xm_nm ki (nI r) (nI v) h12⟩
  · rw [f_X1_bestSet_e, q1]; rfl
  · rw [f_X3_best_e, q2]; rfl
theorem xo_worthwhile (h : xm_ok n le ki wo kt ma ga ne od lo pp) (qq : xPL) (ou : Nat → Int64) (i1 : Int32) (om th ld rd ll rl bf : xF) (la tw : Int32) : ∃ k ou2 r, f_L_worthwhile lo (nI n, le, ki, wo, kt, ma, ga, ne, od) pp qq ou i1 = some (k, ou2) ∧ f_X3_worthwhile (nI n, le, ki, wo, kt, ne, ma, ga, lo, om, th, ld, rd, ll, rl, bf, la, tw) i1 = some (r, k) ∧ (k = 0 → ou2 (0 : Int32).toNatClampNeg = r.toInt64) := by
  have hb := fun g => xo_best (i1 := i1) h g om th ld rd ll rl bf la 0
  obtain ⟨pp_0, pp_1, pp_2, pp_3, pp_4, pp_5, pp_6, pp_7, pp_8⟩ := pp
  obtain ⟨qq_0, qq_1, qq_2, qq_3, qq_4, qq_5, qq_6, qq_7, qq_8⟩ := qq
  rw [f_L_worthwhile_e, f_X2_worthwhile_e, f_X3_worthwhile_e]
  by_cases g1 : i1 < 0 ∨ 99 < i1
  · rw [(xm_wi0 g1).1, (xm_wi0 g1).2]
    exact ⟨1, ou, 0, rfl, rfl, fun q => absurd q (by decide)⟩
  obtain ⟨r, q1, q2, -⟩ := hb g1
  rw [(xm_wi1 g1).1, (xm_wi1 g1).2, q1]
  simp only [Option.bind_some, xm_e10, if_false]
  rw [f_X3_can_e]
  simp only [Option.bind_some, eq_self, if_true, xm_e10, if_false]
  rw [q2]
  exact ⟨0, _, _, rfl, rfl, fun _ => xo_upd ou _⟩
theorem xo_bestNet (h : xm_ok n le ki wo kt ma ga ne od lo pp) (qq : xPL) (ou : Nat → Int64) (i1 : Int32) (om th ld rd ll rl bf : xF) (la tw : Int32) : ∃ k ou2 r, f_L_bestNet lo (nI n, le, ki, wo, kt, ma, ga, ne, od) pp qq ou i1 = some (k, ou2) ∧ f_X3_bestNet (nI n, le, ki, wo, kt, ne, ma, ga, lo, om, th, ld, rd, ll, rl, bf, la, tw) i1 = some (r, k) ∧ (k = 0 → ou2 (0 : Int32).toNatClampNeg = r.toInt64) := by
  have hb := fun g => xo_best (i1 := i1) h g om th ld rd ll rl bf la 0
  obtain ⟨pp_0, pp_1, pp_2, pp_3, pp_4, pp_5, pp_6, pp_7, pp_8⟩ := pp
  obtain ⟨qq_0, qq_1, qq_2, qq_3, qq_4, qq_5, qq_6, qq_7, qq_8⟩ := qq
  rw [f_L_bestNet_e, f_X2_bestNet_e, f_X3_bestNet_e]
  by_cases g1 : i1 < 0 ∨ 99 < i1
  · rw [(xm_wi0 g1).1, (xm_wi0 g1).2]
    exact ⟨1, ou, 0, rfl, rfl, fun q => absurd q (by decide)⟩
  obtain ⟨r, q1, q2, v, q3, q4⟩ := hb g1
  rw [(xm_wi1 g1).1, (xm_wi1 g1).2, q1]
  simp only [Option.bind_some, xm_e10, if_false]
  rw [f_X3_can_e, q3]
  simp only [Option.bind_some, eq_self, if_true, xm_e10, if_false]
  rw [q2, Option.bind_some, q4]
  exact ⟨0, _, _, rfl, rfl, fun _ => xo_upd ou _⟩
theorem xo_closedSets (h : xm_ok n le ki wo kt ma ga ne od lo pp) (qq : xPL) (om th ld rd ll rl bf : xF) (la tw : Int32) : ∃ r, f_X2_closedSets lo (nI n, le, ki, wo, kt, ma, ga, ne, od) pp qq = some r ∧ f_X3_closedSets (nI n, le, ki, wo, kt, ne, ma, ga, lo, om, th, ld, rd, ll, rl, bf, la, tw) = some (r, 0) := by
  have h12 := h.1.1
  obtain ⟨pp_0, pp_1, pp_2, pp_3, pp_4, pp_5, pp_6, pp_7, pp_8⟩ := pp
  obtain ⟨qq_0, qq_1, qq_2, qq_3, qq_4, qq_5, qq_6, qq_7, qq_8⟩ := qq
  have hp := xm_pow12 h12
  obtain ⟨r, q1, q2⟩ := xm_cc (le := le) (ki := ki) (wo := wo) (kt := kt) (ma := ma) (ga := ga) (ne := ne) (od := od) (m1 := le) (m2 := ki) (m3 := wo) (m4 := kt) (m6 := ma) (m7 := ga) (m8 := lo) (m9 := om) (m10 := th) (m11 := ld) (m12 := rd) (m13 := ll) (m14 := rl) (m15 := bf) (z16 := la) h12 (2 ^ n) 0 5000 5000 0 (by omega) (by omega) (by omega)
  have q1 : f_X1_countClosed_l4 (nI n) le ki wo kt ma ga ne od 5000 (0 : Int32) (0 : Int32) = some r := q1
  have q2 : f_X3_closedSets_l9 (nI n) le ki wo kt ne ma ga lo om th ld rd ll rl bf la 5000 (0 : Int32) (0 : Int32) = some r := q2
  refine ⟨r, ?_, ?_⟩
  · rw [f_X2_closedSets_e, f_X1_countClosed_e, q1]; rfl
  · rw [f_X3_closedSets_e, q2]; rfl
theorem xo_aims (yy : xSY) (qq : xPL) (z0 : Int32) (z1 z2 z3 z4 z5 z6 z7 z8 z9 z10 z11 z12 z13 z14 z15 : xF) (z16 z17 : Int32) (h : yy.1 = z0) : f_X2_aims lo yy pp qq = some z0 ∧ f_X3_aims (z0, z1, z2, z3, z4, z5, z6, z7, z8, z9, z10, z11, z12, z13, z14, z15, z16, z17) = some (z0, 0) := ⟨by rw [← h]; rfl, rfl⟩
end XO
