def xm_N (f : xF) (j : Nat) : Nat := (f j).toNatClampNeg
def xm_rng (n : Nat) (le ki wo ma ga : xF) : Prop := n ≤ 12 ∧ ∀ j, j < n → (∃ a, 1 ≤ a ∧ a ≤ 5 ∧ le j = nI a) ∧ (¬ ki j = -1) ∧ (∃ w, 1 ≤ w ∧ w ≤ 99 ∧ wo j = nI w) ∧ (∃ q, q ≤ 3 ∧ ma j = nI q) ∧ (∃ q, q ≤ 20 ∧ ga j = nI q)
def xm_ok (n : Nat) (le ki wo kt ma ga ne od lo : xF) (P : xPL) : Prop := xm_rng n le ki wo ma ga ∧ (∀ j, n ≤ j → j < 12 → ma j = 0 ∧ ne j = 0) ∧ xm_acy n ne ∧ xm_ord n ki ne od ∧ xm_is n (xm_N le) (xm_N ma) le ki wo kt ma ga ne od lo P
theorem xm_mkdat {n : Nat} {le ki wo ma ga ne od : xF} (h : xm_rng n le ki wo ma ga) (ho : xm_ord n ki ne od) : xm_dat n le ma ga od (xm_N le) (xm_N ma) (xm_N ga) (xm_N od) := by
  obtain ⟨h12, h⟩ := h
  obtain ⟨om, -, ho⟩ := ho od
  refine ⟨h12, fun j hj => ?_⟩
  obtain ⟨⟨a, a1, a2, a3⟩, -, -, ⟨q, q1, q2⟩, ⟨u, u1, u2⟩⟩ := h j hj
  obtain ⟨-, v, v1, v2⟩ := ho j hj
  unfold xm_N
  rw [a3, q2, u2, v2, nI_clamp (by omega : a < 2 ^ 31), nI_clamp (by omega : q < 2 ^ 31), nI_clamp (by omega : u < 2 ^ 31), nI_clamp (by omega : v < 2 ^ 31)]
  exact ⟨⟨rfl, a1, a2⟩, ⟨rfl, q1⟩, ⟨rfl, u1⟩, ⟨rfl, v1⟩⟩
theorem xm_plan_e (lo : xF) (yy : xSY) (pp qq : xPL) : f_X2_planAnew lo yy pp qq = Option.bind (f_X0_lay qq yy lo) fun o => some (o, pp) := by
  obtain ⟨yy_0, yy_1, yy_2, yy_3, yy_4, yy_5, yy_6, yy_7, yy_8⟩ := yy
  obtain ⟨pp_0, pp_1, pp_2, pp_3, pp_4, pp_5, pp_6, pp_7, pp_8⟩ := pp
  obtain ⟨qq_0, qq_1, qq_2, qq_3, qq_4, qq_5, qq_6, qq_7, qq_8⟩ := qq
  exact f_X2_planAnew_e _ _ _ _ _ _ _ _ _ _ _ _ _ _ _ _ _ _ _ _ _ _ _ _ _ _ _ _
theorem xm_anew2 {n : Nat} {le ki wo ma ga ne od : xF} (kt lo : xF) (pp qq : xPL) (hr : xm_rng n le ki wo ma ga) (hz : ∀ j, n ≤ j → j < 12 → ma j = 0 ∧ ne j = 0) (hac : xm_acy n ne) (ho : xm_ord n ki ne od) : ∃ P, f_X2_planAnew lo (nI n, le, ki, wo, kt, ma, ga, ne, od) pp qq = some (P, pp) ∧ xm_ok n le ki wo kt ma ga ne od lo P := by
  obtain ⟨P, e1, e2⟩ := xm_lay (wo := wo) (kt := kt) (xm_mkdat hr ho) ho lo qq
  refine ⟨P, ?_, hr, hz, hac, ho, e2⟩
  rw [xm_plan_e, e1]
  rfl
theorem xm_anew {n : Nat} {le ki wo ma ga ne : xF} (kt od0 lo : xF) (pp qq : xPL) (hr : xm_rng n le ki wo ma ga) (hz : ∀ j, n ≤ j → j < 12 → ma j = 0 ∧ ne j = 0) (hac : xm_acy n ne) : ∃ od P, f_X1_putInOrder (nI n, le, ki, wo, kt, ma, ga, ne, od0) = some od ∧ f_X2_planAnew lo (nI n, le, ki, wo, kt, ma, ga, ne, od) pp qq = some (P, pp) ∧ xm_ok n le ki wo kt ma ga ne od lo P := by
  obtain ⟨od, e1, ho⟩ := xm_put (ct := nI n) (le := le) (wo := wo) (kt := kt) (ma := ma) (ga := ga) (od := od0) rfl hr.1 hac (fun j hj => (hr.2 j hj).2.1)
  obtain ⟨P, e2, hok⟩ := xm_anew2 kt lo pp qq hr hz hac ho
  exact ⟨od, P, e1, e2, hok⟩
-- bounds
theorem xm_e10 : ((1 : Int32) = 0) = False := eq_false (by decide)
theorem xm_e20 : ((2 : Int32) = 0) = False := eq_false (by decide)
theorem xm_e30 : ((3 : Int32) = 0) = False := eq_false (by decide)
theorem xm_e01 : ((0 : Int32) = 1) = False := eq_false (by decide)
theorem xm_g2 {α : Type} {k N : Nat} {X : Option α} (h : k < N) (hN : N < 2 ^ 31) : (if nI k < 0 ∨ N ≤ k then none else X) = X := if_neg (by
  rintro (q | q)
  · exact nI_pos (by omega) q
  · omega)
theorem xm_can0 (Z : xMO) : f_X3_can Z 0 = some (1, 0) := by
  obtain ⟨z0, z1, z2, z3, z4, z5, z6, z7, z8, z9, z10, z11, z12, z13, z14, z15, z16, z17⟩ := Z
  rfl
theorem xm_in {x : Int32} {a b : Nat} (ha : a < 2 ^ 31) (hb : b < 2 ^ 31) (h : ¬ (x < nI a ∨ nI b < x)) : ∃ v, a ≤ v ∧ v ≤ b ∧ x = nI v := by
  have h0 : ¬ x < 0 := fun q => h (Or.inl (by
    rw [Int32.lt_iff_toInt_lt] at q ⊢
    rw [nI_toInt ha]
    have : (0 : Int32).toInt = 0 := rfl
    omega))
  obtain ⟨v, hv, rfl⟩ := nI_of h0
  refine ⟨v, ?_, ?_, rfl⟩
  · apply Classical.byContradiction
    intro q
    exact h (Or.inl (nI_lt (by omega) ha))
  · apply Classical.byContradiction
    intro q
    exact h (Or.inr (nI_lt (by omega) hv))
theorem xm_wi0 {x a b : Int32} (h : x < a ∨ b < x) : f_X2_isWithin x a b = some 0 ∧ f_X3_isIn x a b = some 0 := by
  rw [f_X2_isWithin_e, f_X3_isIn_e]
  by_cases h1 : x < a
  · rw [if_pos h1]; exact ⟨rfl, rfl⟩
  · have h2 := h.resolve_left h1
    rw [if_neg h1, if_pos h2]; exact ⟨rfl, rfl⟩
theorem xm_wi1 {x a b : Int32} (h : ¬ (x < a ∨ b < x)) : f_X2_isWithin x a b = some 1 ∧ f_X3_isIn x a b = some 1 := by
  have h1 : ¬ x < a := fun q => h (Or.inl q)
  have h2 : ¬ b < x := fun q => h (Or.inr q)
  rw [f_X2_isWithin_e, f_X3_isIn_e, if_neg h1, if_neg h2]
  exact ⟨rfl, rfl⟩
theorem xm_aimc (x : Int32) {n : Nat} (h12 : n ≤ 12) : (∃ a, a < n ∧ x = nI a) ∨ (x < 0 ∨ nI n - 1 < x) := by
  by_cases h0 : x < 0
  · exact Or.inr (Or.inl h0)
  · obtain ⟨j, hj, rfl⟩ := nI_of h0
    cases n with
    | zero =>
      refine Or.inr (Or.inr ?_)
      rw [Int32.lt_iff_toInt_lt, nI_toInt hj, show (nI 0 - 1).toInt = -1 by decide]
      omega
    | succ k =>
      rw [nI_pred]
      by_cases h : j ≤ k
      · exact Or.inl ⟨j, by omega, rfl⟩
      · exact Or.inr (Or.inr (nI_lt (by omega) hj))
theorem xm_aimn {n a : Nat} (h12 : n ≤ 12) (ha : a < n) : ¬ (nI a < 0 ∨ nI n - 1 < nI a) := by
  obtain ⟨k, rfl⟩ : ∃ k, n = k + 1 := ⟨n - 1, by omega⟩
  rw [nI_pred]
  rintro (q | q)
  · exact nI_pos (by omega) q
  · exact nI_nlt (by omega) (by omega) q
theorem xm_ia0 {lo : xF} {y0 : Int32} {y1 y2 y3 y4 y5 y6 y7 y8 : xF} {pp qq : xPL} {x : Int32} (h : x < 0 ∨ y0 - 1 < x) : f_X2_isAim lo (y0, y1, y2, y3, y4, y5, y6, y7, y8) pp qq x = some 0 := by
  obtain ⟨pp_0, pp_1, pp_2, pp_3, pp_4, pp_5, pp_6, pp_7, pp_8⟩ := pp
  obtain ⟨qq_0, qq_1, qq_2, qq_3, qq_4, qq_5, qq_6, qq_7, qq_8⟩ := qq
  rw [f_X2_isAim_e, (xm_wi0 h).1]
  rfl
theorem xm_ia1 {lo : xF} {y0 : Int32} {y1 y2 y3 y4 y5 y6 y7 y8 : xF} {pp qq : xPL} {x : Int32} (h : ¬ (x < 0 ∨ y0 - 1 < x)) : f_X2_isAim lo (y0, y1, y2, y3, y4, y5, y6, y7, y8) pp qq x = some 1 := by
  obtain ⟨pp_0, pp_1, pp_2, pp_3, pp_4, pp_5, pp_6, pp_7, pp_8⟩ := pp
  obtain ⟨qq_0, qq_1, qq_2, qq_3, qq_4, qq_5, qq_6, qq_7, qq_8⟩ := qq
  rw [f_X2_isAim_e, (xm_wi1 h).1]
  rfl
theorem xm_ja0 {z0 : Int32} {z1 z2 z3 z4 z5 z6 z7 z8 z9 z10 z11 z12 z13 z14 z15 : xF} {z16 z17 x : Int32} (h : x < 0 ∨ z0 - 1 < x) : f_X3_isAim (z0, z1, z2, z3, z4, z5, z6, z7, z8, z9, z10, z11, z12, z13, z14, z15, z16, z17) x = some 0 := by
  rw [f_X3_isAim_e, (xm_wi0 h).2]
  rfl
theorem xm_ja1 {z0 : Int32} {z1 z2 z3 z4 z5 z6 z7 z8 z9 z10 z11 z12 z13 z14 z15 : xF} {z16 z17 x : Int32} (h : ¬ (x < 0 ∨ z0 - 1 < x)) : f_X3_isAim (z0, z1, z2, z3, z4, z5, z6, z7, z8, z9, z10, z11, z12, z13, z14, z15, z16, z17) x = some 1 := by
  rw [f_X3_isAim_e, (xm_wi1 h).2]
  rfl
theorem xm_low_nI {x : Int32} {n : Nat} (h12 : n ≤ 12) (h : xm_low n x) : ∃ k, k < 4096 ∧ x = nI k := by
  refine ⟨x.toBitVec.toNat, ?_, Int32.toBitVec_inj.mp ?_⟩
  · show x.toBitVec.toNat < 2 ^ 12
    apply Nat.lt_pow_two_of_testBit
    intro i hi
    have hq : bt x i = false := by
      cases hq : bt x i
      · rfl
      · have := h i hq; omega
    exact hq
  · show x.toBitVec = BitVec.ofNat 32 x.toBitVec.toNat
    rw [BitVec.ofNat_toNat, BitVec.setWidth_eq]
theorem xm_low_or {ne : xF} {n a b : Nat} (h12 : n ≤ 12) (hb : b < n) (h : xm_low n (ne a)) : xm_low n (ne a ||| ((1 : Int32) <<< (nI b &&& 31))) := by
  intro i hi
  by_cases h32 : i < 32
  · rw [b_or, xm_one (by omega) h32, Bool.or_eq_true, decide_eq_true_eq] at hi
    rcases hi with q | q
    · exact h i q
    · omega
  · rw [b_big (by omega)] at hi; cases hi
theorem xm_low_and {x y : Int32} {n : Nat} (h : xm_low n x) : xm_low n (x &&& y) := by
  intro i hi
  rw [b_and, Bool.and_eq_true] at hi
  exact h i hi.1
theorem xm_vok {n : Nat} {le ki wo ma ga : xF} (h : xm_rng n le ki wo ma ga) : xm_vals n le wo := fun j hj => ⟨(h.2 j hj).1, (h.2 j hj).2.2.1⟩
