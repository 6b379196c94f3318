-- what the class answers
theorem xq_within {x a b : Nat} (h1 : a ≤ x) (h2 : x ≤ b) (hb : b < 2 ^ 31) : f_X2_isWithin (nI x) (nI a) (nI b) = some 1 := by
  rw [f_X2_isWithin_e, if_neg (nI_nlt h1 (by omega)), if_neg (nI_nlt h2 hb)]
theorem xq_within0 {x b : Nat} (h2 : x < b) (hb : b < 2 ^ 31) : f_X2_isWithin (nI x) (0 : Int32) (nI b - (1 : Int32)) = some 1 := by
  rw [xm_pred (by omega)]
  exact xq_within (a := 0) (Nat.zero_le x) (by omega) (by omega)
theorem xq_isAim {lo : xF} {le ki wo kt ma ga ne od : xF} {P Q : xPL} {n j : Nat} (h12 : n ≤ 12) (hj : j < n) : f_X2_isAim lo (nI n, le, ki, wo, kt, ma, ga, ne, od) P Q (nI j) = some 1 := by
  obtain ⟨p0, p1, p2, p3, p4, p5, p6, p7, p8⟩ := P
  obtain ⟨q0, q1, q2, q3, q4, q5, q6, q7, q8⟩ := Q
  rw [f_X2_isAim_e, xq_within0 hj (by omega), Option.bind_some, if_pos (by decide)]
theorem xq_isDay {d : Nat} (hd : d < 100) : f_X2_isDay (nI d) = some 1 := by
  have h : f_X2_isWithin (nI d) (0 : Int32) (99 : Int32) = some 1 := xq_within (a := 0) (b := 99) (Nat.zero_le d) (by omega) (by omega)
  rw [f_X2_isDay_e, h, Option.bind_some, if_pos (by decide)]
theorem xq_on {lo : xF} {y : xSY} {P Q : xPL} {d : Nat} (hd : d < 100) : f_X2_on lo y P Q (nI d) = some (P.1 d) := by
  obtain ⟨y0, y1, y2, y3, y4, y5, y6, y7, y8⟩ := y
  obtain ⟨p0, p1, p2, p3, p4, p5, p6, p7, p8⟩ := P
  obtain ⟨q0, q1, q2, q3, q4, q5, q6, q7, q8⟩ := Q
  rw [f_X2_on_e, xq_isDay hd, Option.bind_some, xm_i1, xm_g (k := d) (by omega) (by omega), nI_clamp (by omega : d < 2 ^ 31)]
theorem xq_lessonDay {lo : xF} {le ki wo kt ma ga ne od : xF} {P Q : xPL} {n j i lj : Nat} (h12 : n ≤ 12) (hj : j < n) (hl : le j = nI lj) (hi : i < lj) (hl5 : lj ≤ 5) : f_X2_lessonDay lo (nI n, le, ki, wo, kt, ma, ga, ne, od) P Q (nI j) (nI i) = some (P.2.1 (5 * j + i)) := by
  obtain ⟨p0, p1, p2, p3, p4, p5, p6, p7, p8⟩ := P
  obtain ⟨q0, q1, q2, q3, q4, q5, q6, q7, q8⟩ := Q
  rw [f_X2_lessonDay_e, xq_isAim h12 hj, Option.bind_some, xm_i1, xm_g (k := j) (by omega) (by omega), nI_clamp (by omega : j < 2 ^ 31), hl, xq_within0 hi (by omega), Option.bind_some, xm_i1, xm_y5, xm_g (k := 5 * j + i) (by omega) (by omega), nI_clamp (by omega : 5 * j + i < 2 ^ 31)]
theorem xq_revisitDay {lo : xF} {le ki wo kt ma ga ne od : xF} {P Q : xPL} {n j i mj : Nat} (h12 : n ≤ 12) (hj : j < n) (hl : ma j = nI mj) (hi : i < mj) (hl5 : mj ≤ 3) : f_X2_revisitDay lo (nI n, le, ki, wo, kt, ma, ga, ne, od) P Q (nI j) (nI i) = some (P.2.2.1 (3 * j + i)) := by
  obtain ⟨p0, p1, p2, p3, p4, p5, p6, p7, p8⟩ := P
  obtain ⟨q0, q1, q2, q3, q4, q5, q6, q7, q8⟩ := Q
  rw [f_X2_revisitDay_e, xq_isAim h12 hj, Option.bind_some, xm_i1, xm_g (k := j) (by omega) (by omega), nI_clamp (by omega : j < 2 ^ 31), hl, xq_within0 hi (by omega), Option.bind_some, xm_i1, xm_y3, xm_g (k := 3 * j + i) (by omega) (by omega), nI_clamp (by omega : 3 * j + i < 2 ^ 31)]
theorem xq_ordered {lo : xF} {le ki wo kt ma ga ne od : xF} {P Q : xPL} {n p : Nat} (h12 : n ≤ 12) (hp : p < n) : f_X2_ordered lo (nI n, le, ki, wo, kt, ma, ga, ne, od) P Q (nI p) = some (od p) := by
  obtain ⟨p0, p1, p2, p3, p4, p5, p6, p7, p8⟩ := P
  obtain ⟨q0, q1, q2, q3, q4, q5, q6, q7, q8⟩ := Q
  rw [f_X2_ordered_e, xq_within0 hp (by omega), Option.bind_some, xm_i1, xm_g (k := p) (by omega) (by omega), nI_clamp (by omega : p < 2 ^ 31)]
-- all is asked
section XA
variable {lo le ki wo kt ma ga ne od th ld rd ll rl si : xF} {lc tc lu : Int32} {q0 q1 q2 q3 q4 q5 : xF} {q6 q7 q8 : Int32} {n : Nat} {l m s : Nat → Nat} {ka kr kc : xF}
theorem xq_as1 (h12 : n ≤ 12) (hc : kc (0 : Int32).toNatClampNeg = nI n) (hl : ∀ j, j < n → le j = nI (l j) ∧ ka (5 * j) = nI (l j) ∧ l j ≤ 5) (ho : ∀ j, j < 12 → ∀ i, i < 5 → (n ≤ j ∨ l j ≤ i) → ld (5 * j + i) = -1) : ∀ (c k f : Nat) (r : xF), k + c = 60 → c < f → (∀ i, i < k → r i = ld i) → ∃ r2, f_L_asks_l3 lo (nI n) le ki wo kt ma ga ne od th ld rd ll rl si lc tc lu q0 q1 q2 q3 q4 q5 q6 q7 q8 ka kc f (nI k) r = some r2 ∧ ∀ i, i < 60 → r2 i = ld i := by
  intro c
  induction c with
  | zero =>
    intro k f r hk hf hr
    obtain ⟨f, rfl⟩ : ∃ g, f = g + 1 := ⟨f - 1, by omega⟩
    refine ⟨r, ?_, fun i hi => hr i (by omega)⟩
    rw [f_L_asks_l3_s, if_pos (show (60 : Int32) ≤ nI k from nI_le (a := 60) (by omega) (by omega))]
  | succ c ih =>
    intro k f r hk hf hr
    obtain ⟨f, rfl⟩ : ∃ g, f = g + 1 := ⟨f - 1, by omega⟩
    have hst : ∀ v : Int32, v = ld k → ∃ r2, f_L_asks_l3 lo (nI n) le ki wo kt ma ga ne od th ld rd ll rl si lc tc lu q0 q1 q2 q3 q4 q5 q6 q7 q8 ka kc f (nI (k + 1)) (upd r k v) = some r2 ∧ ∀ i, i < 60 → r2 i = ld i := fun v hv => ih (k + 1) f _ (by omega) (by omega) (fun i hi => by
      by_cases e : i = k
      · rw [e, xm_up0]; exact hv
      · rw [xm_up1 _ _ e]; exact hr i (by omega))
    have hk5 : 5 * (k / 5) + k % 5 = k := by omega
    rw [f_L_asks_l3_s, if_neg (show ¬ (60 : Int32) ≤ nI k from nI_ge (b := 60) (by omega) (by omega)), hc, xq_r5 (by omega), xq_d5 (by omega), nI_1]
    by_cases h1 : n ≤ k / 5
    · rw [if_pos (nI_le h1 (by omega)), xm_g (k := k) (N := 60) (by omega) (by omega), nI_clamp (by omega : k < 2 ^ 31)]
      exact hst _ (by have := ho (k / 5) (by omega) (k % 5) (by omega) (Or.inl h1); rw [hk5] at this; exact this.symm)
    · obtain ⟨e1, e2, e3⟩ := hl (k / 5) (by omega)
      rw [if_neg (nI_ge (by omega) (by omega)), xq_5, xm_g (k := 5 * (k / 5)) (by omega) (by omega), nI_clamp (by omega : 5 * (k / 5) < 2 ^ 31), e2]
      by_cases h2 : l (k / 5) ≤ k % 5
      · rw [if_pos (nI_le h2 (by omega)), xm_g (k := k) (N := 60) (by omega) (by omega), nI_clamp (by omega : k < 2 ^ 31)]
        exact hst _ (by have := ho (k / 5) (by omega) (k % 5) (by omega) (Or.inr h2); rw [hk5] at this; exact this.symm)
      · rw [if_neg (nI_ge (by omega) (by omega)), xq_lessonDay h12 (by omega) e1 (by omega) e3, Option.bind_some, hk5, xm_g (k := k) (N := 60) (by omega) (by omega), nI_clamp (by omega : k < 2 ^ 31)]
        exact hst _ rfl
theorem xq_as2 (h12 : n ≤ 12) (hc : kc (0 : Int32).toNatClampNeg = nI n) (hl : ∀ j, j < n → ma j = nI (m j) ∧ kr (2 * j) = nI (m j) ∧ m j ≤ 3) (ho : ∀ j, j < 12 → ∀ i, i < 3 → (n ≤ j ∨ m j ≤ i) → rd (3 * j + i) = -1) : ∀ (c k f : Nat) (r : xF), k + c = 36 → c < f → (∀ i, i < k → r i = rd i) → ∃ r2, f_L_asks_l65 lo (nI n) le ki wo kt ma ga ne od th ld rd ll rl si lc tc lu q0 q1 q2 q3 q4 q5 q6 q7 q8 kr kc f (nI k) r = some r2 ∧ ∀ i, i < 36 → r2 i = rd i := by
  intro c
  induction c with
  | zero =>
    intro k f r hk hf hr
    obtain ⟨f, rfl⟩ : ∃ g, f = g + 1 := ⟨f - 1, by omega⟩
    refine ⟨r, ?_, fun i hi => hr i (by omega)⟩
    rw [f_L_asks_l65_s, if_pos (show (36 : Int32) ≤ nI k from nI_le (a := 36) (by omega) (by omega))]
  | succ c ih =>
    intro k f r hk hf hr
    obtain ⟨f, rfl⟩ : ∃ g, f = g + 1 := ⟨f - 1, by omega⟩
    have hst : ∀ v : Int32, v = rd k → ∃ r2, f_L_asks_l65 lo (nI n) le ki wo kt ma ga ne od th ld rd ll rl si lc tc lu q0 q1 q2 q3 q4 q5 q6 q7 q8 kr kc f (nI (k + 1)) (upd r k v) = some r2 ∧ ∀ i, i < 36 → r2 i = rd i := fun v hv => ih (k + 1) f _ (by omega) (by omega) (fun i hi => by
      by_cases e : i = k
      · rw [e, xm_up0]; exact hv
      · rw [xm_up1 _ _ e]; exact hr i (by omega))
    have hk5 : 3 * (k / 3) + k % 3 = k := by omega
    rw [f_L_asks_l65_s, if_neg (show ¬ (36 : Int32) ≤ nI k from nI_ge (b := 36) (by omega) (by omega)), hc, xq_r3 (by omega), xq_d3 (by omega), nI_1]
    by_cases h1 : n ≤ k / 3
    · rw [if_pos (nI_le h1 (by omega)), xm_g (k := k) (N := 36) (by omega) (by omega), nI_clamp (by omega : k < 2 ^ 31)]
      exact hst _ (by have := ho (k / 3) (by omega) (k % 3) (by omega) (Or.inl h1); rw [hk5] at this; exact this.symm)
    · obtain ⟨e1, e2, e3⟩ := hl (k / 3) (by omega)
      rw [if_neg (nI_ge (by omega) (by omega)), xq_2, xm_g (k := 2 * (k / 3)) (by omega) (by omega), nI_clamp (by omega : 2 * (k / 3) < 2 ^ 31), e2]
      by_cases h2 : m (k / 3) ≤ k % 3
      · rw [if_pos (nI_le h2 (by omega)), xm_g (k := k) (N := 36) (by omega) (by omega), nI_clamp (by omega : k < 2 ^ 31)]
        exact hst _ (by have := ho (k / 3) (by omega) (k % 3) (by omega) (Or.inr h2); rw [hk5] at this; exact this.symm)
      · rw [if_neg (nI_ge (by omega) (by omega)), xq_revisitDay h12 (by omega) e1 (by omega) e3, Option.bind_some, hk5, xm_g (k := k) (N := 36) (by omega) (by omega), nI_clamp (by omega : k < 2 ^ 31)]
        exact hst _ rfl
theorem xq_as3 (h12 : n ≤ 12) (hc : kc (0 : Int32).toNatClampNeg = nI n) (ho : ∀ p, p < n → od p = nI (s p)) : ∀ (c k f : Nat) (r : xF), k + c = n → c < f → (∀ i, i < k → r i = nI (s i)) → ∃ r2, f_L_asks_l127 lo (nI n) le ki wo kt ma ga ne od th ld rd ll rl si lc tc lu q0 q1 q2 q3 q4 q5 q6 q7 q8 kc f (nI k) r = some r2 ∧ ∀ i, i < n → r2 i = nI (s i) := by
  intro c
  induction c with
  | zero =>
    intro k f r hk hf hr
    obtain ⟨f, rfl⟩ : ∃ g, f = g + 1 := ⟨f - 1, by omega⟩
    refine ⟨r, ?_, fun i hi => hr i (by omega)⟩
    rw [f_L_asks_l127_s, hc, if_pos (nI_le (by omega) (by omega))]
  | succ c ih =>
    intro k f r hk hf hr
    obtain ⟨f, rfl⟩ : ∃ g, f = g + 1 := ⟨f - 1, by omega⟩
    rw [f_L_asks_l127_s, hc, if_neg (nI_ge (by omega) (by omega)), xq_ordered h12 (by omega), Option.bind_some, xm_g (k := k) (by omega) (by omega), nI_clamp (by omega : k < 2 ^ 31), nI_1]
    refine ih (k + 1) f _ (by omega) (by omega) (fun i hi => ?_)
    by_cases e : i = k
    · rw [e, xm_up0]; exact ho k (by omega)
    · rw [xm_up1 _ _ e]; exact hr i (by omega)
end XA
theorem xq_asks {lo le ki wo kt ma ga ne od : xF} {P Q : xPL} {n : Nat} {l m g s : Nat → Nat} {A B T : Nat → Nat → Nat} {pk : Nat → Option Nat} {ka kr kc : xF} (hq : xq_dat n l m g s) (hdat : xm_dat n le ma ga od l m g s) {lo2 : xF} (h : xq_tr n l m g s kt lo2 A B T pk) (hP : xq_P n l m g A B T pk P) (hc : kc 0 = nI n) (hka : ∀ j, j < n → ka (5 * j) = nI (l j) ∧ kr (2 * j) = nI (m j)) (e0 v0 p0 : xF) :
    ∃ ke kv kp, f_L_asks lo (nI n, le, ki, wo, kt, ma, ga, ne, od) P Q ka kr kc e0 v0 p0 = some (ke, kv, kp) ∧ (∀ i, i < 60 → ke i = P.2.1 i) ∧ (∀ i, i < 36 → kv i = P.2.2.1 i) ∧ xq_ev A B pk ke kv ∧ ∀ p, p < n → kp p = nI (s p) := by
  have h12 := hq.1
  obtain ⟨th, ld, rd, ll, rl, si, lc, tc, lu⟩ := P
  obtain ⟨q0, q1, q2, q3, q4, q5, q6, q7, q8⟩ := Q
  obtain ⟨-, -, h3, h4, -⟩ := hP
  have h3 : ∀ j, j < 12 → ∀ i, i < 5 → ld (5 * j + i) = xm_o (xq_E A pk 100 j i) := h3
  have h4 : ∀ j, j < 12 → ∀ i, i < 3 → rd (3 * j + i) = xm_o (xq_V B pk 100 j i) := h4
  have hc : kc (0 : Int32).toNatClampNeg = nI n := (congrArg kc xq_z0).trans hc
  obtain ⟨ke, a1, a2⟩ := xq_as1 (ld := ld) (lo := lo) (ki := ki) (wo := wo) (kt := kt) (ma := ma) (ga := ga) (ne := ne) (od := od) (th := th) (rd := rd) (ll := ll) (rl := rl) (si := si) (lc := lc) (tc := tc) (lu := lu) (q0 := q0) (q1 := q1) (q2 := q2) (q3 := q3) (q4 := q4) (q5 := q5) (q6 := q6) (q7 := q7) (q8 := q8) h12 hc (fun j hj => ⟨(hdat.2 j hj).1.1, (hka j hj).1, (hdat.2 j hj).1.2.2⟩) (fun j hj i hi ho => by rw [h3 j hj i hi, xq_E_out hq h (by omega) ho]; rfl) 60 0 300 e0 (by omega) (by omega) (fun i hi => by omega)
  obtain ⟨kv, b1, b2⟩ := xq_as2 (rd := rd) (lo := lo) (le := le) (ki := ki) (wo := wo) (kt := kt) (ga := ga) (ne := ne) (od := od) (th := th) (ld := ld) (ll := ll) (rl := rl) (si := si) (lc := lc) (tc := tc) (lu := lu) (q0 := q0) (q1 := q1) (q2 := q2) (q3 := q3) (q4 := q4) (q5 := q5) (q6 := q6) (q7 := q7) (q8 := q8) h12 hc (fun j hj => ⟨(hdat.2 j hj).2.1.1, (hka j hj).2, (hdat.2 j hj).2.1.2⟩) (fun j hj i hi ho => by rw [h4 j hj i hi, xq_V_out hq h ho]; rfl) 36 0 300 v0 (by omega) (by omega) (fun i hi => by omega)
  obtain ⟨kp, c1, c2⟩ := xq_as3 (lo := lo) (le := le) (ki := ki) (wo := wo) (kt := kt) (ma := ma) (ga := ga) (ne := ne) (th := th) (ld := ld) (rd := rd) (ll := ll) (rl := rl) (si := si) (lc := lc) (tc := tc) (lu := lu) (q0 := q0) (q1 := q1) (q2 := q2) (q3 := q3) (q4 := q4) (q5 := q5) (q6 := q6) (q7 := q7) (q8 := q8) h12 hc (fun p hp => (hdat.2 p hp).2.2.2.1) n 0 300 p0 (by omega) (by omega) (fun i hi => by omega)
  refine ⟨ke, kv, kp, ?_, a2, b2, ⟨fun j hj i hi => by rw [a2 _ (by omega)]; exact h3 j hj i hi, fun j hj i hi => by rw [b2 _ (by omega)]; exact h4 j hj i hi⟩, c2⟩
  rw [f_L_asks_e]
  have a1 : f_L_asks_l3 lo (nI n) le ki wo kt ma ga ne od th ld rd ll rl si lc tc lu q0 q1 q2 q3 q4 q5 q6 q7 q8 ka kc 300 (0 : Int32) e0 = some ke := a1
  have b1 : f_L_asks_l65 lo (nI n) le ki wo kt ma ga ne od th ld rd ll rl si lc tc lu q0 q1 q2 q3 q4 q5 q6 q7 q8 kr kc 300 (0 : Int32) v0 = some kv := b1
  have c1 : f_L_asks_l127 lo (nI n) le ki wo kt ma ga ne od th ld rd ll rl si lc tc lu q0 q1 q2 q3 q4 q5 q6 q7 q8 kc 300 (0 : Int32) p0 = some kp := c1
  rw [a1, Option.bind_some, b1, Option.bind_some, c1, Option.bind_some]
