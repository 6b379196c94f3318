def xm_cl (ne : xF) (S : Int32) : Nat → Nat → Bool
  | 0, _ => true
  | c + 1, k => if bt S k = true ∧ ¬ (ne k &&& (S ^^^ (-1))) = 0 then false else xm_cl ne S c (k + 1)
theorem xm_cl_0 {ne : xF} {S : Int32} {c k : Nat} (h : bt S k = false) : xm_cl ne S (c + 1) k = xm_cl ne S c (k + 1) := if_neg (fun q => by rw [h] at q; cases q.1)
theorem xm_cl_1 {ne : xF} {S : Int32} {c k : Nat} (h : (ne k &&& (S ^^^ (-1))) = 0) : xm_cl ne S (c + 1) k = xm_cl ne S c (k + 1) := if_neg (fun q => q.2 h)
theorem xm_cl_2 {ne : xF} {S : Int32} {c k : Nat} (h : bt S k = true) (h2 : ¬ (ne k &&& (S ^^^ (-1))) = 0) : xm_cl ne S (c + 1) k = false := if_pos ⟨h, h2⟩
theorem xm_ic_loop (ne : xF) (S : Int32) {n : Nat} (h12 : n ≤ 12) : ∀ (c k f : Nat), k + c = n → c < f → f_X1_isClosed_l2 (nI n) ne S f (nI k) = some (if xm_cl ne S c k = true then 1 else 0) := by
  intro c
  induction c with
  | zero =>
    intro k f hk hf
    obtain ⟨f, rfl⟩ : ∃ g, f = g + 1 := ⟨f - 1, by omega⟩
    rw [f_X1_isClosed_l2_s, if_pos (nI_le (by omega) (by omega))]
    rfl
  | succ c ih =>
    intro k f hk hf
    obtain ⟨f, rfl⟩ : ∃ g, f = g + 1 := ⟨f - 1, by omega⟩
    rw [f_X1_isClosed_l2_s, if_neg (nI_ge (by omega) (by omega)), xm_has (by omega), nI_1]
    cases hb : bt S k
    · rw [xm_b0, xm_i0, xm_cl_0 hb]
      exact ih (k + 1) f (by omega) (by omega)
    · rw [xm_b1, xm_i1]
      rw [xm_g (by omega) (by omega), nI_clamp (by omega), xm_cov]
      by_cases hc : (ne k &&& (S ^^^ (-1))) = 0
      · rw [if_pos hc, xm_cl_1 hc, Option.bind_some, xm_i1]
        exact ih (k + 1) f (by omega) (by omega)
      · rw [if_neg hc, xm_cl_2 hb hc]
        rfl
theorem xm_ic {le ki wo kt ma ga ne od : xF} (S : Int32) {n : Nat} (h12 : n ≤ 12) : f_X1_isClosed (nI n, le, ki, wo, kt, ma, ga, ne, od) S = some (if xm_cl ne S n 0 = true then 1 else 0) := by
  rw [f_X1_isClosed_e]
  exact xm_ic_loop ne S h12 n 0 300 (by omega) (by omega)
-- nets
def xm_net (le wo : xF) (S pr : Int32) : Nat → Nat → Int32 → Int32
  | 0, _, a => a
  | c + 1, k, a => xm_net le wo S pr c (k + 1) (if bt S k = true then a + (wo k - pr * le k) else a)
theorem xm_nc_loop (le wo : xF) (S pr : Int32) {n : Nat} (h12 : n ≤ 12) : ∀ (c k f : Nat) (a : Int32), k + c = n → c < f → f_X1_netOf_l5 (nI n) le wo S pr f (nI k) a = some (xm_net le wo S pr c k a) := by
  intro c
  induction c with
  | zero =>
    intro k f a hk hf
    obtain ⟨f, rfl⟩ : ∃ g, f = g + 1 := ⟨f - 1, by omega⟩
    rw [f_X1_netOf_l5_s, if_pos (nI_le (by omega) (by omega))]
    rfl
  | succ c ih =>
    intro k f a hk hf
    obtain ⟨f, rfl⟩ : ∃ g, f = g + 1 := ⟨f - 1, by omega⟩
    rw [f_X1_netOf_l5_s, if_neg (nI_ge (by omega) (by omega)), xm_has (by omega), nI_1]
    unfold xm_net
    cases hb : bt S k
    · first | rw [xm_b0, xm_i0] | rw [Option.bind_some, xm_i0] | rw [xm_i0]
      exact ih (k + 1) f a (by omega) (by omega)
    · first | rw [xm_b1, xm_i1] | rw [Option.bind_some, xm_i1] | rw [xm_i1]
      rw [xm_g (by omega) (by omega), nI_clamp (by omega)]
      exact ih (k + 1) f _ (by omega) (by omega)
theorem xm_nc {le ki wo kt ma ga ne od : xF} (S pr : Int32) {n : Nat} (h12 : n ≤ 12) : f_X1_netOf (nI n, le, ki, wo, kt, ma, ga, ne, od) S pr = some (xm_net le wo S pr n 0 0) := by
  rw [f_X1_netOf_e]
  show Option.bind (f_X1_netOf_l5 (nI n) le wo S pr 300 (nI 0) 0) _ = _
  rw [xm_nc_loop le wo S pr h12 n 0 300 0 (by omega) (by omega)]
  rfl
-- how far a net can go
def xm_vals (n : Nat) (le wo : xF) : Prop := ∀ j, j < n → (∃ a, 1 ≤ a ∧ a ≤ 5 ∧ le j = nI a) ∧ ∃ w, 1 ≤ w ∧ w ≤ 99 ∧ wo j = nI w
theorem xm_term : ∀ w, w < 100 → ∀ p, p < 100 → ∀ a, a < 6 → ((nI w - nI p * nI a).toInt = (w : Int) - p * a) := by
  intro w hw p hp a ha
  have h1 : (nI p * nI a).toInt = (p * a : Int) := by
    rw [Int32.toInt_mul, nI_toInt (by omega), nI_toInt (by omega)]
    have : (p : Int) * a ≤ 99 * 5 := Int.mul_le_mul (by omega) (by omega) (by omega) (by omega)
    have h0 : (0 : Int) ≤ (p : Int) * a := Int.mul_nonneg (by omega) (by omega)
    generalize (p : Int) * a = q at *
    rw [Int.bmod_eq_of_le (by omega) (by omega)]
  rw [Int32.toInt_sub, h1, nI_toInt (by omega)]
  have : (p : Int) * a ≤ 99 * 5 := Int.mul_le_mul (by omega) (by omega) (by omega) (by omega)
  have h0 : (0 : Int) ≤ (p : Int) * a := Int.mul_nonneg (by omega) (by omega)
  generalize (p : Int) * a = q at *
  rw [Int.bmod_eq_of_le (by omega) (by omega)]
theorem xm_net_bound {le wo : xF} {n p : Nat} (h12 : n ≤ 12) (hp : p < 100) (hv : xm_vals n le wo) (S : Int32) : ∀ (c k : Nat) (a : Int32), k + c = n → -(600 * (k : Int)) ≤ a.toInt → a.toInt ≤ 600 * (k : Int) → -(600 * (n : Int)) ≤ (xm_net le wo S (nI p) c k a).toInt ∧ (xm_net le wo S (nI p) c k a).toInt ≤ 600 * (n : Int) := by
  intro c
  induction c with
  | zero => intro k a hk h1 h2; rw [show n = k by omega]; exact ⟨h1, h2⟩
  | succ c ih =>
    intro k a hk h1 h2
    unfold xm_net
    cases hb : bt S k
    · simp only [Bool.false_eq_true, if_false]
      exact ih (k + 1) a (by omega) (by push_cast; omega) (by push_cast; omega)
    · simp only [if_true]
      obtain ⟨⟨l, hl1, hl2, hl3⟩, w, hw1, hw2, hw3⟩ := hv k (by omega)
      have ht := xm_term w (by omega) p hp l (by omega)
      rw [← hl3, ← hw3] at ht
      have h0 : (0 : Int) ≤ (p : Int) * l := Int.mul_nonneg (by omega) (by omega)
      have h9 : (p : Int) * l ≤ 99 * 5 := Int.mul_le_mul (by omega) (by omega) (by omega) (by omega)
      have hs : (a + (wo k - nI p * le k)).toInt = a.toInt + (wo k - nI p * le k).toInt := by
        rw [Int32.toInt_add]
        generalize (p : Int) * l = q at *
        rw [Int.bmod_eq_of_le (by omega) (by omega)]
      refine ih (k + 1) _ (by omega) ?_ ?_
      · rw [hs, ht]; generalize (p : Int) * l = q at *; push_cast; omega
      · rw [hs, ht]; generalize (p : Int) * l = q at *; push_cast; omega
theorem xm_sub {x y : Int32} (h1 : -7200 ≤ x.toInt) (h2 : x.toInt ≤ 7200) (h3 : -7200 ≤ y.toInt) (h4 : y.toInt ≤ 7200) : (x - y).toInt = x.toInt - y.toInt := by
  rw [Int32.toInt_sub, Int.bmod_eq_of_le (by omega) (by omega)]
-- sizes
theorem xm_bt_nI (k i : Nat) (hk : k < 4096) : bt (nI k) i = k.testBit i := by
  unfold bt
  show (BitVec.ofNat 32 k).getLsbD i = _
  rw [BitVec.getLsbD_ofNat]
  by_cases h : i < 32
  · simp [h]
  · have : k.testBit i = false := Nat.testBit_lt_two_pow (Nat.lt_of_lt_of_le hk (Nat.le_trans (by decide : 4096 ≤ 2 ^ 32) (Nat.pow_le_pow_right (by decide) (by omega))))
    simp [h, this]
def xm_pc (k : Nat) : Nat := k % 2 + (k / 2) % 2 + (k / 4) % 2 + (k / 8) % 2 + (k / 16) % 2 + (k / 32) % 2 + (k / 64) % 2 + (k / 128) % 2 + (k / 256) % 2 + (k / 512) % 2 + (k / 1024) % 2 + (k / 2048) % 2
set_option maxRecDepth 20000 in
theorem xm_bc0 : ∀ a, a < 64 → ∀ b, b < 64 → f_J6_bitCount_0f7a4 (nI (64 * a + b)) = some (nI (xm_pc (64 * a + b))) := by decide +kernel
theorem xm_pc_ct (k : Nat) : fb_ct (fun i => k.testBit i) 12 = xm_pc k := by
  have h : ∀ i, (if k.testBit i = true then 1 else 0) = (k / 2 ^ i) % 2 := by
    intro i
    rw [Nat.testBit_eq_decide_div_mod_eq]
    rcases Nat.mod_two_eq_zero_or_one (k / 2 ^ i) with q | q <;> simp [q]
  simp only [fb_ct, h, xm_pc]
  simp
theorem xm_pw : ∀ n, n < 13 → ((1 : Int32) <<< (nI n &&& 31)) = nI (2 ^ n) := by decide +kernel
theorem xm_pow12 {n : Nat} (h12 : n ≤ 12) : 2 ^ n ≤ 4096 := Nat.le_trans (Nat.pow_le_pow_right (by decide) h12) (by decide)
-- counting the closed sets
-- the best set
