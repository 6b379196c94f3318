-- the law's look at it
theorem xq_shr0 {n S : Nat} (h12 : n ≤ 12) (hS : S < 2 ^ n) : (nI S >>> (nI n &&& 31)) = 0 := by
  have hpw := xm_pow12 h12
  refine b_ext fun i hi => ?_
  rw [b_sshr n (by omega) _ hi, b_0]
  by_cases h : n + i < 32
  · rw [if_pos h, xm_bt_nI S _ (by omega)]
    exact Nat.testBit_lt_two_pow (Nat.lt_of_lt_of_le hS (Nat.pow_le_pow_right (by decide) (by omega)))
  · rw [if_neg h, xm_bt_nI S _ (by omega)]
    exact Nat.testBit_lt_two_pow (Nat.lt_of_lt_of_le hS (Nat.pow_le_pow_right (by decide) (by omega)))
section XW
variable {n : Nat} {le wo ne ka kc : xF}
theorem xq_w6 (h12 : n ≤ 12) (hc : kc (0 : Int32).toNatClampNeg = nI n) (hka : ∀ j, j < n → ka (5 * j) = le j ∧ ka (5 * j + 2) = wo j) (S pr : Int32) : ∀ (c k f : Nat) (a : Int32), k + c = n → c < f → f_L_net_l6 ka kc S pr f (nI k) a = some (xm_net le wo S pr c k a) := by
  intro c
  induction c with
  | zero =>
    intro k f a hk hf
    obtain ⟨f, rfl⟩ : ∃ g, f = g + 1 := ⟨f - 1, by omega⟩
    rw [f_L_net_l6_s, hc, if_pos (nI_le (by omega) (by omega))]
    rfl
  | succ c ih =>
    intro k f a hk hf
    obtain ⟨f, rfl⟩ : ∃ g, f = g + 1 := ⟨f - 1, by omega⟩
    rw [f_L_net_l6_s, hc, if_neg (nI_ge (by omega) (by omega)), xq_isIn (by omega), Option.bind_some, xq_5, xq_p2, xm_g (k := 5 * k + 2) (by omega) (by omega), nI_clamp (by omega : 5 * k + 2 < 2 ^ 31), xm_g (k := 5 * k) (by omega) (by omega), nI_clamp (by omega : 5 * k < 2 ^ 31), (hka k (by omega)).1, (hka k (by omega)).2, nI_1]
    unfold xm_net
    cases hb : bt S k with
    | false =>
      rw [if_neg (by decide : ¬ false = true), xm_i0, Option.bind_some, Int32.add_zero, if_neg (by decide : ¬ false = true)]
      exact ih (k + 1) f a (by omega) (by omega)
    | true =>
      rw [if_pos rfl, xm_i1, Option.bind_some, if_pos rfl]
      exact ih (k + 1) f _ (by omega) (by omega)
theorem xq_Lnet (h12 : n ≤ 12) (hc : kc (0 : Int32).toNatClampNeg = nI n) (hka : ∀ j, j < n → ka (5 * j) = le j ∧ ka (5 * j + 2) = wo j) (S pr : Int32) : f_L_net ka kc S pr = some (xm_net le wo S pr n 0 0) := by
  have e := xq_w6 h12 hc hka S pr n 0 300 0 (by omega) (by omega)
  have e : f_L_net_l6 ka kc S pr 300 (0 : Int32) (0 : Int32) = some (xm_net le wo S pr n 0 0) := e
  rw [f_L_net_e, e]; rfl
theorem xq_w170 (h12 : n ≤ 12) (hc : kc (0 : Int32).toNatClampNeg = nI n) (S : Int32) : ∀ (c k f : Nat), k + c = n → c < f → f_L_isClosed_l17 ka kc S f (nI k) 0 = some 0 := by
  intro c
  induction c with
  | zero =>
    intro k f hk hf
    obtain ⟨f, rfl⟩ : ∃ g, f = g + 1 := ⟨f - 1, by omega⟩
    rw [f_L_isClosed_l17_s, hc, if_pos (nI_le (by omega) (by omega))]
  | succ c ih =>
    intro k f hk hf
    obtain ⟨f, rfl⟩ : ∃ g, f = g + 1 := ⟨f - 1, by omega⟩
    rw [f_L_isClosed_l17_s, hc, if_neg (nI_ge (by omega) (by omega)), xm_i0, nI_1]
    exact ih (k + 1) f (by omega) (by omega)
theorem xq_w171 (h12 : n ≤ 12) (hc : kc (0 : Int32).toNatClampNeg = nI n) (hka : ∀ j, j < n → ka (5 * j + 4) = ne j) (S : Int32) : ∀ (c k f : Nat), k + c = n → c < f → f_L_isClosed_l17 ka kc S f (nI k) 1 = some (if xm_cl ne S c k = true then 1 else 0) := by
  intro c
  induction c with
  | zero =>
    intro k f hk hf
    obtain ⟨f, rfl⟩ : ∃ g, f = g + 1 := ⟨f - 1, by omega⟩
    rw [f_L_isClosed_l17_s, hc, if_pos (nI_le (by omega) (by omega))]
    rfl
  | succ c ih =>
    intro k f hk hf
    obtain ⟨f, rfl⟩ : ∃ g, f = g + 1 := ⟨f - 1, by omega⟩
    rw [f_L_isClosed_l17_s, hc, if_neg (nI_ge (by omega) (by omega)), xm_i1, xq_isIn (by omega), Option.bind_some, xq_5, xq_p4, xm_g (k := 5 * k + 4) (by omega) (by omega), nI_clamp (by omega : 5 * k + 4 < 2 ^ 31), hka k (by omega), nI_1]
    cases hb : bt S k with
    | false =>
      rw [if_neg (by decide : ¬ false = true), xm_i0, xm_cl_0 hb]
      exact ih (k + 1) f (by omega) (by omega)
    | true =>
      rw [if_pos (rfl : true = true), xm_i1]
      by_cases hz : (ne k &&& (S ^^^ (-1))) = 0
      · rw [if_pos hz, xm_cl_1 hz]
        exact ih (k + 1) f (by omega) (by omega)
      · rw [if_neg hz, xm_cl_2 hb hz]
        exact xq_w170 h12 hc S c (k + 1) f (by omega) (by omega)
theorem xq_Lclosed (h12 : n ≤ 12) (hc : kc (0 : Int32).toNatClampNeg = nI n) (hka : ∀ j, j < n → ka (5 * j + 4) = ne j) {S : Nat} (hS : S < 2 ^ n) : f_L_isClosed ka kc (nI S) = some (if xm_cl ne (nI S) n 0 = true then 1 else 0) := by
  have e := xq_w171 h12 hc hka (nI S) n 0 300 (by omega) (by omega)
  have e : f_L_isClosed_l17 ka kc (nI S) 300 (0 : Int32) (1 : Int32) = some (if xm_cl ne (nI S) n 0 = true then 1 else 0) := e
  rw [f_L_isClosed_e, hc, xq_shr0 h12 hS, if_pos rfl, Option.bind_some, e, Option.bind_some]
  cases xm_cl ne (nI S) n 0 <;> rfl
set_option maxRecDepth 20000 in
theorem xq_sz0 : ∀ a, a < 64 → ∀ b, b < 64 → f_L_size (nI (64 * a + b)) = some (nI (xm_pc (64 * a + b))) := by decide +kernel
theorem xq_size {k : Nat} (hk : k < 4096) : f_L_size (nI k) = some (nI (xm_pc k)) := by
  have h := xq_sz0 (k / 64) (by omega) (k % 64) (by omega)
  rwa [show 64 * (k / 64) + k % 64 = k by omega] at h
theorem xq_w55 (h12 : n ≤ 12) {p b : Nat} (hp : p < 100) (hv : xm_vals n le wo) (hc : kc (0 : Int32).toNatClampNeg = nI n) (hka : ∀ j, j < n → ka (5 * j) = le j ∧ ka (5 * j + 2) = wo j ∧ ka (5 * j + 4) = ne j) (hb : xq_best ne le wo n p (2 ^ n) b) : ∀ (c k f : Nat) (a : Int32), k + c = 2 ^ n → c < f → f_L_isWorth_l55 ka kc (nI p) (nI b) (xm_net le wo (nI b) (nI p) n 0 0) f (nI k) 1 a = some (1, xm_cn (fun k => xm_cl ne (nI k) n 0) c k a) := by
  have hpw := xm_pow12 h12
  intro c
  induction c with
  | zero =>
    intro k f a hk hf
    obtain ⟨f, rfl⟩ : ∃ g, f = g + 1 := ⟨f - 1, by omega⟩
    rw [f_L_isWorth_l55_s, hc, xm_pw n (by omega), if_pos (nI_le (by omega) (by omega))]
    rfl
  | succ c ih =>
    intro k f a hk hf
    obtain ⟨f, rfl⟩ : ∃ g, f = g + 1 := ⟨f - 1, by omega⟩
    have hkn : k < 2 ^ n := by omega
    have hb4 : b < 4096 := by have := hb.1; omega
    rw [f_L_isWorth_l55_s, hc, xm_pw n (by omega), if_neg (nI_ge (by omega) (by omega)), xq_Lclosed h12 hc (fun j hj => (hka j hj).2.2) hkn, Option.bind_some, xq_Lnet h12 hc (fun j hj => ⟨(hka j hj).1, (hka j hj).2.1⟩), nI_1]
    cases hcl : xm_cl ne (nI k) n 0 with
    | false =>
      rw [if_neg (by decide : ¬ false = true), xm_i0, Option.bind_some, Option.bind_some, xm_i1, xm_i0, Int32.add_zero, xm_cn_0 (p := fun k => xm_cl ne (nI k) n 0) hcl]
      exact ih (k + 1) f a (by omega) (by omega)
    | true =>
      have ih' := ih (k + 1) f (a + 1) (by omega) (by omega)
      rw [if_pos rfl, xm_i1, Option.bind_some, Option.bind_some, xm_i1, xm_i1, xm_cn_1 (p := fun k => xm_cl ne (nI k) n 0) hcl]
      by_cases e : k = b
      · rw [if_pos (by rw [e])]
        exact ih'
      · rw [if_neg (fun z => e (xm_inj (by omega) (by omega) z))]
        have hnk := xq_net0 h12 hp hv (nI k)
        have hnb := xq_net0 h12 hp hv (nI b)
        generalize hX : xm_net le wo (nI k) (nI p) n 0 0 = X at *
        generalize hY : xm_net le wo (nI b) (nI p) n 0 0 = Y at *
        by_cases hlt : X < Y
        · rw [if_pos hlt]; exact ih'
        · have hge : ¬ X.toInt < Y.toInt := fun h => hlt (Int32.lt_iff_toInt_lt.mpr h)
          have hle : xq_ns (xq_v le wo p) (bt (nI k)) n = xq_ns (xq_v le wo p) (bt (nI b)) n := by
            rcases hb.2.2 k hkn hcl with z | ⟨z, -⟩
            · omega
            · exact z
          have hXY : X = Y := Int32.toInt_inj.mp (by omega)
          have hone := xq_best_one h12 hb hkn hcl e hle
          have p1 := xq_pc_le k
          rw [if_neg hlt, if_pos hXY, xq_size (by omega), Option.bind_some, xq_size hb4, Option.bind_some, if_neg (nI_ge hone (by omega))]
          exact ih'
end XW
theorem xq_cc {le ki wo kt ma ga ne od : xF} {n : Nat} (h12 : n ≤ 12) : ∀ (c k f : Nat) (a : Int32), k + c = 2 ^ n → c < f → f_X1_countClosed_l4 (nI n) le ki wo kt ma ga ne od f (nI k) a = some (xm_cn (fun k => xm_cl ne (nI k) n 0) c k a) := by
  have hpw := xm_pow12 h12
  intro c
  induction c with
  | zero =>
    intro k f a hk hf
    obtain ⟨f, rfl⟩ : ∃ g, f = g + 1 := ⟨f - 1, by omega⟩
    rw [f_X1_countClosed_l4_s, xm_pw n (by omega), if_pos (nI_le (by omega) (by omega))]
    rfl
  | succ c ih =>
    intro k f a hk hf
    obtain ⟨f, rfl⟩ : ∃ g, f = g + 1 := ⟨f - 1, by omega⟩
    rw [f_X1_countClosed_l4_s, xm_pw n (by omega), if_neg (nI_ge (by omega) (by omega)), xm_ic (nI k) h12, nI_1]
    cases hcl : xm_cl ne (nI k) n 0 with
    | false =>
      rw [xm_b0, xm_i0, xm_cn_0 (p := fun k => xm_cl ne (nI k) n 0) hcl]
      exact ih (k + 1) f a (by omega) (by omega)
    | true =>
      rw [xm_b1, xm_i1, xm_cn_1 (p := fun k => xm_cl ne (nI k) n 0) hcl]
      exact ih (k + 1) f _ (by omega) (by omega)
theorem xq_isWorth {lo le ki wo kt ma ga ne od : xF} {P Q : xPL} {ka kc : xF} {n p : Nat} (h12 : n ≤ 12) (hp : p < 100) (hv : xm_vals n le wo) (hc : kc 0 = nI n) (hka : ∀ j, j < n → ka (5 * j) = le j ∧ ka (5 * j + 2) = wo j ∧ ka (5 * j + 4) = ne j) : f_L_isWorth lo (nI n, le, ki, wo, kt, ma, ga, ne, od) P Q ka kc (nI p) = some 1 := by
  obtain ⟨p0, p1, p2, p3, p4, p5, p6, p7, p8⟩ := P
  obtain ⟨q0, q1, q2, q3, q4, q5, q6, q7, q8⟩ := Q
  have hc0 : kc (0 : Int32).toNatClampNeg = nI n := (congrArg kc xq_z0).trans hc
  obtain ⟨b, e1, hb⟩ := xq_bestSet (ki := ki) (kt := kt) (ma := ma) (ga := ga) (ne := ne) (od := od) h12 hp hv
  have hin : f_X2_isWithin (nI p) (0 : Int32) (99 : Int32) = some 1 := xq_within (a := 0) (b := 99) (Nat.zero_le p) (by omega) (by omega)
  have hw : f_X2_worthwhile lo (nI n, le, ki, wo, kt, ma, ga, ne, od) (p0, p1, p2, p3, p4, p5, p6, p7, p8) (q0, q1, q2, q3, q4, q5, q6, q7, q8) (nI p) = some (nI b) := by
    rw [f_X2_worthwhile_e, hin, Option.bind_some, xm_i1, e1, Option.bind_some]
  have hbn : f_X2_bestNet lo (nI n, le, ki, wo, kt, ma, ga, ne, od) (p0, p1, p2, p3, p4, p5, p6, p7, p8) (q0, q1, q2, q3, q4, q5, q6, q7, q8) (nI p) = some (xm_net le wo (nI b) (nI p) n 0 0) := by
    rw [f_X2_bestNet_e, hin, Option.bind_some, xm_i1, e1, Option.bind_some, xm_nc (nI b) (nI p) h12, Option.bind_some]
  have hcs : f_X2_closedSets lo (nI n, le, ki, wo, kt, ma, ga, ne, od) (p0, p1, p2, p3, p4, p5, p6, p7, p8) (q0, q1, q2, q3, q4, q5, q6, q7, q8) = some (xm_cn (fun k => xm_cl ne (nI k) n 0) (2 ^ n) 0 0) := by
    have hpw := xm_pow12 h12
    have e := xq_cc (le := le) (ki := ki) (wo := wo) (kt := kt) (ma := ma) (ga := ga) (ne := ne) (od := od) h12 (2 ^ n) 0 5000 0 (by omega) (by omega)
    have e : f_X1_countClosed_l4 (nI n) le ki wo kt ma ga ne od 5000 (0 : Int32) (0 : Int32) = _ := e
    rw [f_X2_closedSets_e, f_X1_countClosed_e, e]
    rfl
  have hpw := xm_pow12 h12
  have h55 := xq_w55 h12 hp hv hc0 hka hb (2 ^ n) 0 5000 0 (by omega) (by omega)
  have h55 : f_L_isWorth_l55 ka kc (nI p) (nI b) (xm_net le wo (nI b) (nI p) n 0 0) 5000 (0 : Int32) (1 : Int32) (0 : Int32) = _ := h55
  have hpos : ¬ xm_net le wo (nI b) (nI p) n 0 0 < 0 := by
    rw [Int32.lt_iff_toInt_lt, xq_net0 h12 hp hv, show (0 : Int32).toInt = 0 from rfl]
    have := hb.2.2 0 (by have : 1 ≤ 2 ^ n := Nat.one_le_two_pow; omega) xq_cl0
    rw [xq_ns0] at this
    omega
  rw [f_L_isWorth_e, hw, Option.bind_some, xq_Lnet h12 hc0 (fun j hj => ⟨(hka j hj).1, (hka j hj).2.1⟩), Option.bind_some, xq_Lclosed h12 hc0 (fun j hj => (hka j hj).2.2) hb.1, hb.2.1, Option.bind_some, if_pos (rfl : true = true), xm_i1, hbn, Option.bind_some, if_pos rfl, if_neg hpos, Option.bind_some, h55, Option.bind_some]
  show (if (1 : Int32) = 0 then _ else _) = _
  rw [xm_i1, hcs, Option.bind_some]
  show (if xm_cn (fun k => xm_cl ne (nI k) n 0) (2 ^ n) 0 0 = xm_cn (fun k => xm_cl ne (nI k) n 0) (2 ^ n) 0 0 then some (1 : Int32) else some 0) = some 1
  rw [if_pos rfl]
