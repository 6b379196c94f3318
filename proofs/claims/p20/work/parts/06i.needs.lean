-- all needs of an aim
theorem xq_it_in {ne : xF} {n : Nat} {S : Nat → Prop} (hS : ∀ x, x < n → S x → ∀ i, bt (ne x) i = true → S i) : ∀ (d : Nat) (V : Int32), (∀ i, bt V i = true → S i) → ∀ i, bt (xm_it (xm_T ne n) d V) i = true → S i := by
  intro d
  induction d with
  | zero => intro V h; exact h
  | succ d ih =>
    intro V h
    refine ih (xm_T ne n V) (fun i hi => ?_)
    rcases (xm_T_bt ne n V i).mp hi with q | ⟨j, q1, q2, q3⟩
    · exact h i q
    · exact hS j q1 (h j q2) i q3
theorem xq_R_in {ne : xF} {n a : Nat} {S : Nat → Prop} (hS : ∀ x, x < n → S x → ∀ i, bt (ne x) i = true → S i) (h : ∀ i, bt (ne a) i = true → S i) : ∀ i, bt (xm_R ne n a) i = true → S i := xq_it_in hS (n - 1) (ne a) h
theorem xq_R_closed {ne : xF} {n a : Nat} (h12 : n ≤ 12) (ha : a < n) (hac : xm_acy n ne) : ∀ x, x < n → bt (xm_R ne n a) x = true → ∀ i, bt (ne x) i = true → bt (xm_R ne n a) i = true := by
  intro x hx h1 i h2
  rw [← xm_R_fix h12 ha (xm_acy_low h12 hac)]
  exact (xm_T_bt ne n _ i).mpr (Or.inr ⟨x, hx, h1, h2⟩)
theorem xq_R_iff {ne : xF} {n a : Nat} (h12 : n ≤ 12) (ha : a < n) (hac : xm_acy n ne) (i : Nat) : bt (xm_R ne n a) i = true ↔ bt (ne a) i = true ∨ ∃ j, j < n ∧ bt (ne a) j = true ∧ bt (xm_R ne n j) i = true := by
  have hlow := xm_acy_low h12 hac
  constructor
  · refine xq_R_in (S := fun i => bt (ne a) i = true ∨ ∃ j, j < n ∧ bt (ne a) j = true ∧ bt (xm_R ne n j) i = true) (fun x hx hS i hi => ?_) (fun i hi => Or.inl hi) i
    rcases hS with z | ⟨j, z1, z2, z3⟩
    · exact Or.inr ⟨x, hx, z, xm_R_mono hi⟩
    · exact Or.inr ⟨j, z1, z2, xq_R_closed h12 z1 hac x hx z3 i hi⟩
  · rintro (z | ⟨j, z1, z2, z3⟩)
    · exact xm_R_mono z
    · exact xq_R_in (S := fun i => bt (xm_R ne n a) i = true) (fun x hx hS i hi => xq_R_closed h12 ha hac x hx hS i hi) (fun i hi => xq_R_closed h12 ha hac j z1 (xm_R_mono z2) i hi) i z3
theorem xq_R_not {ne : xF} {n a : Nat} (h12 : n ≤ 12) (ha : a < n) (hac : xm_acy n ne) : bt (xm_R ne n a) a = false := by
  obtain ⟨rk, M, hM, hr⟩ := hac
  cases hb : bt (xm_R ne n a) a with
  | false => rfl
  | true =>
    have := xq_R_in (S := fun i => rk i < rk a) (fun x hx hS i hi => by
      by_cases h32 : i < 32
      · exact Nat.lt_trans (hr x hx i h32 hi).2 hS
      · rw [b_big (by omega)] at hi; cases hi) (fun i hi => by
      by_cases h32 : i < 32
      · exact (hr a ha i h32 hi).2
      · rw [b_big (by omega)] at hi; cases hi) a hb
    exact absurd this (Nat.lt_irrefl _)
theorem xq_allNeeds {lo : xF} {le ki wo kt ma ga ne od : xF} {P Q : xPL} {n j : Nat} (h12 : n ≤ 12) (hj : j < n) : f_X2_allNeeds lo (nI n, le, ki, wo, kt, ma, ga, ne, od) P Q (nI j) = some (xm_R ne n j) := by
  obtain ⟨p0, p1, p2, p3, p4, p5, p6, p7, p8⟩ := P
  obtain ⟨q0, q1, q2, q3, q4, q5, q6, q7, q8⟩ := Q
  rw [f_X2_allNeeds_e, xq_isAim h12 hj, Option.bind_some, xm_i1, xm_reach h12 hj]
  rfl
section XN
variable {n : Nat} {lo le ki wo kt ma ga ne od : xF} {p0 p1 p2 p3 p4 p5 : xF} {p6 p7 p8 : Int32} {q0 q1 q2 q3 q4 q5 : xF} {q6 q7 q8 : Int32} {ka kc : xF}
theorem xq_o314 (h12 : n ≤ 12) (hc : kc (0 : Int32).toNatClampNeg = nI n) (hka : ∀ j, j < n → ka (5 * j + 4) = ne j) {a : Nat} (ha : a < n) : ∀ (c k f : Nat) (v : Int32), k + c = n → c < f → ∃ r, f_L_isOrder_l314 lo (nI n) le ki wo kt ma ga ne od p0 p1 p2 p3 p4 p5 p6 p7 p8 q0 q1 q2 q3 q4 q5 q6 q7 q8 ka kc (nI a) f (nI k) v = some r ∧ ∀ i, bt r i = true ↔ bt v i = true ∨ ∃ j, k ≤ j ∧ j < n ∧ bt (ne a) j = true ∧ bt (xm_R ne n j) i = true := by
  intro c
  induction c with
  | zero =>
    intro k f v hk hf
    obtain ⟨f, rfl⟩ : ∃ g, f = g + 1 := ⟨f - 1, by omega⟩
    refine ⟨v, ?_, fun i => ⟨Or.inl, fun z => z.elim id (fun ⟨j, z1, z2, _⟩ => by omega)⟩⟩
    rw [f_L_isOrder_l314_s, hc, if_pos (nI_le (by omega) (by omega))]
  | succ c ih =>
    intro k f v hk hf
    obtain ⟨f, rfl⟩ : ∃ g, f = g + 1 := ⟨f - 1, by omega⟩
    have hkn : k < n := by omega
    rw [f_L_isOrder_l314_s, hc, if_neg (nI_ge (by omega) (by omega)), xq_5, xq_p4, nI_clamp (by omega : 5 * a + 4 < 2 ^ 31), hka a ha, xq_isIn (by omega), Option.bind_some, xq_allNeeds h12 hkn, nI_1]
    cases hb : bt (ne a) k with
    | true =>
      obtain ⟨r, e1, e2⟩ := ih (k + 1) f (v ||| xm_R ne n k) (by omega) (by omega)
      refine ⟨r, ?_, fun i => ?_⟩
      · rw [if_pos rfl, xm_i1, Option.bind_some, Option.bind_some]
        exact e1
      · rw [e2 i, b_or, Bool.or_eq_true]
        constructor
        · rintro ((z | z) | ⟨j, z1, z2, z3⟩)
          · exact Or.inl z
          · exact Or.inr ⟨k, Nat.le_refl k, hkn, hb, z⟩
          · exact Or.inr ⟨j, by omega, z2, z3⟩
        · rintro (z | ⟨j, z1, z2, z3, z4⟩)
          · exact Or.inl (Or.inl z)
          · by_cases e : j = k
            · rw [e] at z4; exact Or.inl (Or.inr z4)
            · exact Or.inr ⟨j, by omega, z2, z3, z4⟩
    | false =>
      obtain ⟨r, e1, e2⟩ := ih (k + 1) f (v ||| 0) (by omega) (by omega)
      refine ⟨r, ?_, fun i => ?_⟩
      · rw [if_neg (by decide : ¬ false = true), xm_i0, Option.bind_some]
        exact e1
      · rw [e2 i, xm_or0]
        constructor
        · rintro (z | ⟨j, z1, z2, z3⟩)
          · exact Or.inl z
          · exact Or.inr ⟨j, by omega, z2, z3⟩
        · rintro (z | ⟨j, z1, z2, z3, z4⟩)
          · exact Or.inl z
          · by_cases e : j = k
            · rw [e, hb] at z3; cases z3
            · exact Or.inr ⟨j, by omega, z2, z3, z4⟩
theorem xq_o280 (h12 : n ≤ 12) (hac : xm_acy n ne) (hc : kc (0 : Int32).toNatClampNeg = nI n) (hka : ∀ j, j < n → ka (5 * j + 4) = ne j) : ∀ (c k f : Nat), k + c = n → c < f → f_L_isOrder_l280 lo (nI n) le ki wo kt ma ga ne od p0 p1 p2 p3 p4 p5 p6 p7 p8 q0 q1 q2 q3 q4 q5 q6 q7 q8 ka kc f (nI k) 1 = some 1 := by
  intro c
  induction c with
  | zero =>
    intro k f hk hf
    obtain ⟨f, rfl⟩ : ∃ g, f = g + 1 := ⟨f - 1, by omega⟩
    rw [f_L_isOrder_l280_s, hc, if_pos (nI_le (by omega) (by omega))]
  | succ c ih =>
    intro k f hk hf
    obtain ⟨f, rfl⟩ : ∃ g, f = g + 1 := ⟨f - 1, by omega⟩
    have hkn : k < n := by omega
    obtain ⟨r, e1, e2⟩ := xq_o314 (lo := lo) (le := le) (ki := ki) (wo := wo) (kt := kt) (ma := ma) (ga := ga) (od := od) (p0 := p0) (p1 := p1) (p2 := p2) (p3 := p3) (p4 := p4) (p5 := p5) (p6 := p6) (p7 := p7) (p8 := p8) (q0 := q0) (q1 := q1) (q2 := q2) (q3 := q3) (q4 := q4) (q5 := q5) (q6 := q6) (q7 := q7) (q8 := q8) h12 hc hka hkn n 0 300 (ne k) (by omega) (by omega)
    have er : xm_R ne n k = r := b_ext fun i hi => by
      have h1 := xq_R_iff h12 hkn hac i
      have h2 := e2 i
      have h3 : bt (xm_R ne n k) i = true ↔ bt r i = true := by
        rw [h1, h2]
        exact ⟨fun z => z.imp id (fun ⟨j, z⟩ => ⟨j, Nat.zero_le j, z⟩), fun z => z.imp id (fun ⟨j, _, z⟩ => ⟨j, z⟩)⟩
      cases ha : bt (xm_R ne n k) i <;> cases hb : bt r i <;> simp_all
    have e1 : f_L_isOrder_l314 lo (nI n) le ki wo kt ma ga ne od p0 p1 p2 p3 p4 p5 p6 p7 p8 q0 q1 q2 q3 q4 q5 q6 q7 q8 ka kc (nI k) 300 (0 : Int32) (ne k) = some r := e1
    rw [f_L_isOrder_l280_s, hc, if_neg (nI_ge (by omega) (by omega)), xm_i1, xq_allNeeds h12 hkn, Option.bind_some, xq_5, xq_p4, xm_g (k := 5 * k + 4) (by omega) (by omega), nI_clamp (by omega : 5 * k + 4 < 2 ^ 31), hka k hkn, e1, Option.bind_some, if_pos er, xq_isIn (by omega), xq_R_not h12 hkn hac, Option.bind_some, if_neg (by decide : ¬ false = true), xm_i0, nI_1]
    exact ih (k + 1) f (by omega) (by omega)
end XN
theorem xq_isOrder {n : Nat} {lo le ki wo kt ma ga ne od : xF} {P Q : xPL} {ka kc : xF} (h12 : n ≤ 12) (hac : xm_acy n ne) (hki : ∀ j, j < n → ¬ ki j = -1) (hod : ∀ p, p < n → od p = nI (xq_s n ki ne p)) (hc : kc 0 = nI n) (hka : ∀ j, j < n → ka (5 * j + 1) = ki j ∧ ka (5 * j + 4) = ne j) : f_L_isOrder lo (nI n, le, ki, wo, kt, ma, ga, ne, od) P Q ka kc = some 1 := by
  obtain ⟨p0, p1, p2, p3, p4, p5, p6, p7, p8⟩ := P
  obtain ⟨q0, q1, q2, q3, q4, q5, q6, q7, q8⟩ := Q
  have hc0 : kc (0 : Int32).toNatClampNeg = nI n := (congrArg kc xq_z0).trans hc
  have e1 := xq_o25 (lo := lo) (le := le) (wo := wo) (kt := kt) (ma := ma) (ga := ga) (p0 := p0) (p1 := p1) (p2 := p2) (p3 := p3) (p4 := p4) (p5 := p5) (p6 := p6) (p7 := p7) (p8 := p8) (q0 := q0) (q1 := q1) (q2 := q2) (q3 := q3) (q4 := q4) (q5 := q5) (q6 := q6) (q7 := q7) (q8 := q8) h12 hac hki hod hc0 hka n 0 300 (by omega) (by omega)
  have e1 : f_L_isOrder_l25 lo (nI n) le ki wo kt ma ga ne od p0 p1 p2 p3 p4 p5 p6 p7 p8 q0 q1 q2 q3 q4 q5 q6 q7 q8 ka kc 300 (0 : Int32) (1 : Int32) (-1) (0 : Int32) = some 1 := e1
  have e2 := xq_o280 (lo := lo) (le := le) (ki := ki) (wo := wo) (kt := kt) (ma := ma) (ga := ga) (od := od) (p0 := p0) (p1 := p1) (p2 := p2) (p3 := p3) (p4 := p4) (p5 := p5) (p6 := p6) (p7 := p7) (p8 := p8) (q0 := q0) (q1 := q1) (q2 := q2) (q3 := q3) (q4 := q4) (q5 := q5) (q6 := q6) (q7 := q7) (q8 := q8) h12 hac hc0 (fun j hj => (hka j hj).2) n 0 300 (by omega) (by omega)
  have e2 : f_L_isOrder_l280 lo (nI n) le ki wo kt ma ga ne od p0 p1 p2 p3 p4 p5 p6 p7 p8 q0 q1 q2 q3 q4 q5 q6 q7 q8 ka kc 300 (0 : Int32) (1 : Int32) = some 1 := e2
  rw [f_L_isOrder_e, f_X2_aims_e, Option.bind_some, hc0, if_pos rfl, Option.bind_some, e1, Option.bind_some, e2, Option.bind_some, if_pos (by decide)]
