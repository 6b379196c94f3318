def xm_cl (ne : xF) (S : Int32) : Nat → Nat → Bool
  | 0, _ => true
  | c + 1, k => if bt S k = true ∧ ¬ (ne k &&& (S ^^^ (-1))) = 0 then false else xm_cl ne S c (k + 1)
theorem xm_cl_0 {ne : xF} {S : Int32} {c k : Nat} (h : bt S k = false) : xm_cl ne S (c + 1) k = xm_cl ne S c (k + 1) := if_neg (fun q => by rw [h] at q; cases q.1)
theorem xm_cl_1 {ne : xF} {S : Int32} {c k : Nat} (h : (ne k &&& (S ^^^ (-1))) = 0) : xm_cl ne S (c + 1) k = xm_cl ne S c (k + 1) := if_neg (fun q => q.2 h)
theorem xm_cl_2 {ne : xF} {S : Int32} {c k : Nat} (h : bt S k = true) (h2 : ¬ (ne k &&& (S ^^^ (-1))) = 0) : xm_cl ne S (c + 1) k = false := if_pos ⟨h, h2⟩
theorem xm_ic_loop (ne : xF) (S : Int32) {n : Nat} (h12 : n ≤ 12) : ∀ (c k f : Nat), k + c = n → c < f → f_X1_isClosed_l2 (nI n) ne S f (nI k) = some (if xm_cl ne S c k = true then 1 else 0) := by
  intro c
  induction c with
  | zero =>
    intro k f hk hf
    obtain ⟨f, rfl⟩ : ∃ g, f = g + 1 := ⟨f - 1, by omega⟩
    rw [f_X1_isClosed_l2_s, if_pos (nI_le (by omega) (by omega))]
    rfl
  | succ c ih =>
    intro k f hk hf
    obtain ⟨f, rfl⟩ : ∃ g, f = g + 1 := ⟨f - 1, by omega⟩
    rw [f_X1_isClosed_l2_s, if_neg (nI_ge (by omega) (by omega)), xm_has (by omega), nI_1]
    cases hb : bt S k
    · rw [xm_b0, xm_i0, xm_cl_0 hb]
      exact ih (k + 1) f (by omega) (by omega)
    · rw [xm_b1, xm_i1]
      rw [xm_g (by omega) (by omega), nI_clamp (by omega), xm_cov]
      by_cases hc : (ne k &&& (S ^^^ (-1))) = 0
      · rw [if_pos hc, xm_cl_1 hc, Option.bind_some, xm_i1]
        exact ih (k + 1) f (by omega) (by omega)
      · rw [if_neg hc, xm_cl_2 hb hc]
        rfl
theorem xm_ic {le ki wo kt ma ga ne od : xF} (S : Int32) {n : Nat} (h12 : n ≤ 12) : f_X1_isClosed (nI n, le, ki, wo, kt, ma, ga, ne, od) S = some (if xm_cl ne S n 0 = true then 1 else 0) := by
  rw [f_X1_isClosed_e]
  exact xm_ic_loop ne S h12 n 0 300 (by omega) (by omega)
theorem xm_mc_loop0 (ne : xF) (S : Int32) {n : Nat} (h12 : n ≤ 12) : ∀ (c k f : Nat), k + c = n → c < f → f_X3_isClosed_l4 (nI n) ne S f (nI k) 0 = some 0 := by
  intro c
  induction c with
  | zero =>
    intro k f hk hf
    obtain ⟨f, rfl⟩ : ∃ g, f = g + 1 := ⟨f - 1, by omega⟩
    rw [f_X3_isClosed_l4_s, if_pos (nI_le (by omega) (by omega))]
  | succ c ih =>
    intro k f hk hf
    obtain ⟨f, rfl⟩ : ∃ g, f = g + 1 := ⟨f - 1, by omega⟩
    rw [f_X3_isClosed_l4_s, if_neg (nI_ge (by omega) (by omega)), if_pos rfl, nI_1]
    exact ih (k + 1) f (by omega) (by omega)
theorem xm_mc_loop (ne : xF) (S : Int32) {n : Nat} (h12 : n ≤ 12) : ∀ (c k f : Nat), k + c = n → c < f → f_X3_isClosed_l4 (nI n) ne S f (nI k) 1 = some (if xm_cl ne S c k = true then 1 else 0) := by
  intro c
  induction c with
  | zero =>
    intro k f hk hf
    obtain ⟨f, rfl⟩ : ∃ g, f = g + 1 := ⟨f - 1, by omega⟩
    rw [f_X3_isClosed_l4_s, if_pos (nI_le (by omega) (by omega))]
    rfl
  | succ c ih =>
    intro k f hk hf
    obtain ⟨f, rfl⟩ : ∃ g, f = g + 1 := ⟨f - 1, by omega⟩
    rw [f_X3_isClosed_l4_s, if_neg (nI_ge (by omega) (by omega)), if_neg (by decide), xm_bit (by omega : k < 32), nI_1, xm_g (by omega) (by omega), nI_clamp (by omega)]
    cases hb : bt S k
    · rw [if_neg (by decide : ¬ false = true), xm_i0, xm_cl_0 hb]
      exact ih (k + 1) f (by omega) (by omega)
    · rw [if_pos (rfl : true = true), xm_i1]
      by_cases hc : (ne k &&& (S ^^^ (-1))) = 0
      · rw [if_pos hc, xm_cl_1 hc]
        exact ih (k + 1) f (by omega) (by omega)
      · rw [if_neg hc, xm_cl_2 hb hc]
        exact xm_mc_loop0 ne S h12 c (k + 1) f (by omega) (by omega)
theorem xm_mc {a0 a2 a3 a4 a6 a7 a8 a9 a10 a11 a12 a13 a14 a15 : xF} {z16 z17 : Int32} {ne : xF} (S : Int32) {n : Nat} (h12 : n ≤ 12) :
    f_X3_isClosed (nI n, a0, a2, a3, a4, ne, a6, a7, a8, a9, a10, a11, a12, a13, a14, a15, z16, z17) S = some (if xm_cl ne S n 0 = true then 1 else 0) := by
  rw [f_X3_isClosed_e]
  show Option.bind (f_X3_isClosed_l4 (nI n) ne S 300 (nI 0) 1) _ = _
  rw [xm_mc_loop ne S h12 n 0 300 (by omega) (by omega)]
  cases xm_cl ne S n 0 <;> rfl
-- nets
def xm_net (le wo : xF) (S pr : Int32) : Nat → Nat → Int32 → Int32
  | 0, _, a => a
  | c + 1, k, a => xm_net le wo S pr c (k + 1) (if bt S k = true then a + (wo k - pr * le k) else a)
theorem xm_nc_loop (le wo : xF) (S pr : Int32) {n : Nat} (h12 : n ≤ 12) : ∀ (c k f : Nat) (a : Int32), k + c = n → c < f → f_X1_netOf_l5 (nI n) le wo S pr f (nI k) a = some (xm_net le wo S pr c k a) := by
  intro c
  induction c with
  | zero =>
    intro k f a hk hf
    obtain ⟨f, rfl⟩ : ∃ g, f = g + 1 := ⟨f - 1, by omega⟩
    rw [f_X1_netOf_l5_s, if_pos (nI_le (by omega) (by omega))]
    rfl
  | succ c ih =>
    intro k f a hk hf
    obtain ⟨f, rfl⟩ : ∃ g, f = g + 1 := ⟨f - 1, by omega⟩
    rw [f_X1_netOf_l5_s, if_neg (nI_ge (by omega) (by omega)), xm_has (by omega), nI_1]
    unfold xm_net
    cases hb : bt S k
    · first | rw [xm_b0, xm_i0] | rw [Option.bind_some, xm_i0] | rw [xm_i0]
      exact ih (k + 1) f a (by omega) (by omega)
    · first | rw [xm_b1, xm_i1] | rw [Option.bind_some, xm_i1] | rw [xm_i1]
      rw [xm_g (by omega) (by omega), nI_clamp (by omega)]
      exact ih (k + 1) f _ (by omega) (by omega)
theorem xm_nc {le ki wo kt ma ga ne od : xF} (S pr : Int32) {n : Nat} (h12 : n ≤ 12) : f_X1_netOf (nI n, le, ki, wo, kt, ma, ga, ne, od) S pr = some (xm_net le wo S pr n 0 0) := by
  rw [f_X1_netOf_e]
  show Option.bind (f_X1_netOf_l5 (nI n) le wo S pr 300 (nI 0) 0) _ = _
  rw [xm_nc_loop le wo S pr h12 n 0 300 0 (by omega) (by omega)]
  rfl
theorem xm_nm_loop (le wo : xF) (S pr : Int32) {n : Nat} (h12 : n ≤ 12) : ∀ (c k f : Nat) (a : Int32), k + c = n → c < f → f_X3_net_l5 (nI n) le wo S pr f (nI k) a = some (xm_net le wo S pr c k a) := by
  intro c
  induction c with
  | zero =>
    intro k f a hk hf
    obtain ⟨f, rfl⟩ : ∃ g, f = g + 1 := ⟨f - 1, by omega⟩
    rw [f_X3_net_l5_s, if_pos (nI_le (by omega) (by omega))]
    rfl
  | succ c ih =>
    intro k f a hk hf
    obtain ⟨f, rfl⟩ : ∃ g, f = g + 1 := ⟨f - 1, by omega⟩
    rw [f_X3_net_l5_s, if_neg (nI_ge (by omega) (by omega)), xm_bit (by omega : k < 32), nI_1, xm_g (by omega) (by omega), nI_clamp (by omega)]
    unfold xm_net
    cases hb : bt S k
    · show f_X3_net_l5 _ _ _ _ _ f (nI (k + 1)) (a + 0) = _
      rw [Int32.add_zero]
      exact ih (k + 1) f a (by omega) (by omega)
    · exact ih (k + 1) f _ (by omega) (by omega)
theorem xm_nm {a4 a5 a6 a7 a8 a9 a10 a11 a12 a13 a14 a15 : xF} {z16 z17 : Int32} {le wo : xF} (ki : xF) (S pr : Int32) {n : Nat} (h12 : n ≤ 12) :
    f_X3_net (nI n, le, ki, wo, a4, a5, a6, a7, a8, a9, a10, a11, a12, a13, a14, a15, z16, z17) S pr = some (xm_net le wo S pr n 0 0) := by
  rw [f_X3_net_e]
  show Option.bind (f_X3_net_l5 (nI n) le wo S pr 300 (nI 0) 0) _ = _
  rw [xm_nm_loop le wo S pr h12 n 0 300 0 (by omega) (by omega)]
  rfl
-- how far a net can go
def xm_vals (n : Nat) (le wo : xF) : Prop := ∀ j, j < n → (∃ a, 1 ≤ a ∧ a ≤ 5 ∧ le j = nI a) ∧ ∃ w, 1 ≤ w ∧ w ≤ 99 ∧ wo j = nI w
theorem xm_term : ∀ w, w < 100 → ∀ p, p < 100 → ∀ a, a < 6 → ((nI w - nI p * nI a).toInt = (w : Int) - p * a) := by
  intro w hw p hp a ha
  have h1 : (nI p * nI a).toInt = (p * a : Int) := by
    rw [Int32.toInt_mul, nI_toInt (by omega), nI_toInt (by omega)]
    have : (p : Int) * a ≤ 99 * 5 := Int.mul_le_mul (by omega) (by omega) (by omega) (by omega)
    have h0 : (0 : Int) ≤ (p : Int) * a := Int.mul_nonneg (by omega) (by omega)
    generalize (p : Int) * a = q at *
    rw [Int.bmod_eq_of_le (by omega) (by omega)]
  rw [Int32.toInt_sub, h1, nI_toInt (by omega)]
  have : (p : Int) * a ≤ 99 * 5 := Int.mul_le_mul (by omega) (by omega) (by omega) (by omega)
  have h0 : (0 : Int) ≤ (p : Int) * a := Int.mul_nonneg (by omega) (by omega)
  generalize (p : Int) * a = q at *
  rw [Int.bmod_eq_of_le (by omega) (by omega)]
theorem xm_net_bound {le wo : xF} {n p : Nat} (h12 : n ≤ 12) (hp : p < 100) (hv : xm_vals n le wo) (S : Int32) : ∀ (c k : Nat) (a : Int32), k + c = n → -(600 * (k : Int)) ≤ a.toInt → a.toInt ≤ 600 * (k : Int) → -(600 * (n : Int)) ≤ (xm_net le wo S (nI p) c k a).toInt ∧ (xm_net le wo S (nI p) c k a).toInt ≤ 600 * (n : Int) := by
  intro c
  induction c with
  | zero => intro k a hk h1 h2; rw [show n = k by omega]; exact ⟨h1, h2⟩
  | succ c ih =>
    intro k a hk h1 h2
    unfold xm_net
    cases hb : bt S k
    · simp only [Bool.false_eq_true, if_false]
      exact ih (k + 1) a (by omega) (by push_cast; omega) (by push_cast; omega)
    · simp only [if_true]
      obtain ⟨⟨l, hl1, hl2, hl3⟩, w, hw1, hw2, hw3⟩ := hv k (by omega)
      have ht := xm_term w (by omega) p hp l (by omega)
      rw [← hl3, ← hw3] at ht
      have h0 : (0 : Int) ≤ (p : Int) * l := Int.mul_nonneg (by omega) (by omega)
      have h9 : (p : Int) * l ≤ 99 * 5 := Int.mul_le_mul (by omega) (by omega) (by omega) (by omega)
      have hs : (a + (wo k - nI p * le k)).toInt = a.toInt + (wo k - nI p * le k).toInt := by
        rw [Int32.toInt_add]
        generalize (p : Int) * l = q at *
        rw [Int.bmod_eq_of_le (by omega) (by omega)]
      refine ih (k + 1) _ (by omega) ?_ ?_
      · rw [hs, ht]; generalize (p : Int) * l = q at *; push_cast; omega
      · rw [hs, ht]; generalize (p : Int) * l = q at *; push_cast; omega
theorem xm_sub {x y : Int32} (h1 : -7200 ≤ x.toInt) (h2 : x.toInt ≤ 7200) (h3 : -7200 ≤ y.toInt) (h4 : y.toInt ≤ 7200) : (x - y).toInt = x.toInt - y.toInt := by
  rw [Int32.toInt_sub, Int.bmod_eq_of_le (by omega) (by omega)]
-- sizes
theorem xm_bt_nI (k i : Nat) (hk : k < 4096) : bt (nI k) i = k.testBit i := by
  unfold bt
  show (BitVec.ofNat 32 k).getLsbD i = _
  rw [BitVec.getLsbD_ofNat]
  by_cases h : i < 32
  · simp [h]
  · have : k.testBit i = false := Nat.testBit_lt_two_pow (Nat.lt_of_lt_of_le hk (Nat.le_trans (by decide : 4096 ≤ 2 ^ 32) (Nat.pow_le_pow_right (by decide) (by omega))))
    simp [h, this]
theorem xm_sz_loop (x : Int32) : ∀ (c k f : Nat) (a : Nat), k + c = 12 → c < f → a ≤ k → f_X3_size_l4 x f (nI k) (nI a) = some (nI (a + fb_ct (fun i => bt x (k + i)) c)) := by
  intro c
  induction c with
  | zero =>
    intro k f a hk hf ha
    obtain ⟨f, rfl⟩ : ∃ g, f = g + 1 := ⟨f - 1, by omega⟩
    rw [f_X3_size_l4_s, if_pos (show (12 : Int32) ≤ nI k from nI_le (a := 12) (by omega) (by omega))]
    rfl
  | succ c ih =>
    intro k f a hk hf ha
    obtain ⟨f, rfl⟩ : ∃ g, f = g + 1 := ⟨f - 1, by omega⟩
    rw [f_X3_size_l4_s, if_neg (show ¬ (12 : Int32) ≤ nI k from nI_ge (b := 12) (by omega) (by omega)), xm_bit (by omega : k < 32), nI_1]
    have hsplit : fb_ct (fun i => bt x (k + i)) (c + 1) = (if bt x k = true then 1 else 0) + fb_ct (fun i => bt x (k + 1 + i)) c := by
      have := fb_ct_split (fun i => bt x (k + i)) 1 c
      rw [show 1 + c = c + 1 by omega] at this
      rw [this]
      have e : (fun k_1 => bt x (k + (1 + k_1))) = (fun i => bt x (k + 1 + i)) := funext fun i => by rw [show k + (1 + i) = k + 1 + i by omega]
      rw [e]
      show 0 + (if bt x (k + 0) = true then 1 else 0) + _ = _
      rw [Nat.zero_add, Nat.add_zero]
    rw [hsplit]
    cases hb : bt x k
    · show f_X3_size_l4 x f (nI (k + 1)) (nI a + 0) = _
      rw [Int32.add_zero, ih (k + 1) f a (by omega) (by omega) (by omega)]
      simp
    · show f_X3_size_l4 x f (nI (k + 1)) (nI a + 1) = _
      rw [nI_1, ih (k + 1) f (a + 1) (by omega) (by omega) (by omega)]
      simp only [if_true]
      rw [Nat.add_assoc]
theorem xm_sz (x : Int32) : f_X3_size x = some (nI (fb_ct (bt x) 12)) := by
  rw [f_X3_size_e]
  show Option.bind (f_X3_size_l4 x 300 (nI 0) (nI 0)) _ = _
  rw [xm_sz_loop x 12 0 300 0 (by omega) (by omega) (by omega)]
  simp only [Nat.zero_add]
  rfl
def xm_pc (k : Nat) : Nat := k % 2 + (k / 2) % 2 + (k / 4) % 2 + (k / 8) % 2 + (k / 16) % 2 + (k / 32) % 2 + (k / 64) % 2 + (k / 128) % 2 + (k / 256) % 2 + (k / 512) % 2 + (k / 1024) % 2 + (k / 2048) % 2
set_option maxRecDepth 20000 in
theorem xm_bc0 : ∀ a, a < 64 → ∀ b, b < 64 → f_J6_bitCount_0f7a4 (nI (64 * a + b)) = some (nI (xm_pc (64 * a + b))) := by decide +kernel
theorem xm_pc_ct (k : Nat) : fb_ct (fun i => k.testBit i) 12 = xm_pc k := by
  have h : ∀ i, (if k.testBit i = true then 1 else 0) = (k / 2 ^ i) % 2 := by
    intro i
    rw [Nat.testBit_eq_decide_div_mod_eq]
    rcases Nat.mod_two_eq_zero_or_one (k / 2 ^ i) with q | q <;> simp [q]
  simp only [fb_ct, h, xm_pc]
  simp
theorem xm_bc {k : Nat} (hk : k < 4096) : f_J6_bitCount_0f7a4 (nI k) = f_X3_size (nI k) := by
  have h := xm_bc0 (k / 64) (by omega) (k % 64) (by omega)
  rw [show 64 * (k / 64) + k % 64 = k by omega] at h
  rw [h, xm_sz, ← xm_pc_ct]
  congr 2
  exact fb_ct_cong (fun i _ => (xm_bt_nI k i hk).symm)
theorem xm_pw : ∀ n, n < 13 → ((1 : Int32) <<< (nI n &&& 31)) = nI (2 ^ n) := by decide +kernel
theorem xm_pow12 {n : Nat} (h12 : n ≤ 12) : 2 ^ n ≤ 4096 := Nat.le_trans (Nat.pow_le_pow_right (by decide) h12) (by decide)
-- counting the closed sets
theorem xm_cc {le ki wo kt ma ga ne od : xF} {m1 m2 m3 m4 m6 m7 m8 m9 m10 m11 m12 m13 m14 m15 : xF} {z16 : Int32} {n : Nat} (h12 : n ≤ 12) : ∀ (c k f1 f2 : Nat) (a : Int32), k + c = 2 ^ n → c < f1 → c < f2 →
    ∃ r, f_X1_countClosed_l4 (nI n) le ki wo kt ma ga ne od f1 (nI k) a = some r ∧ f_X3_closedSets_l9 (nI n) m1 m2 m3 m4 ne m6 m7 m8 m9 m10 m11 m12 m13 m14 m15 z16 f2 (nI k) a = some r := by
  have hp := xm_pow12 h12
  intro c
  induction c with
  | zero =>
    intro k f1 f2 a hk h1 h2
    obtain ⟨f1, rfl⟩ : ∃ g, f1 = g + 1 := ⟨f1 - 1, by omega⟩
    obtain ⟨f2, rfl⟩ : ∃ g, f2 = g + 1 := ⟨f2 - 1, by omega⟩
    refine ⟨a, ?_, ?_⟩
    · rw [f_X1_countClosed_l4_s, xm_pw n (by omega), if_pos (nI_le (by omega) (by omega))]
    · rw [f_X3_closedSets_l9_s, xm_pw n (by omega), if_pos (nI_le (by omega) (by omega))]
  | succ c ih =>
    intro k f1 f2 a hk h1 h2
    obtain ⟨f1, rfl⟩ : ∃ g, f1 = g + 1 := ⟨f1 - 1, by omega⟩
    obtain ⟨f2, rfl⟩ : ∃ g, f2 = g + 1 := ⟨f2 - 1, by omega⟩
    rw [f_X1_countClosed_l4_s, f_X3_closedSets_l9_s, xm_pw n (by omega), if_neg (nI_ge (by omega) (by omega)), if_neg (nI_ge (by omega) (by omega)), xm_ic (nI k) h12, xm_mc (nI k) h12, nI_1]
    cases xm_cl ne (nI k) n 0
    · rw [xm_b0, xm_b0, xm_i0, xm_i0, Option.bind_some, Int32.add_zero]
      exact ih (k + 1) f1 f2 a (by omega) (by omega) (by omega)
    · rw [xm_b1, xm_b1, xm_i1, xm_i1, Option.bind_some]
      exact ih (k + 1) f1 f2 (a + 1) (by omega) (by omega) (by omega)
-- the best set
theorem xm_bs {le ki wo kt ma ga ne od : xF} {m2 m4 m6 m7 m8 m9 m10 m11 m12 m13 m14 m15 : xF} {z16 z17 : Int32} {n p : Nat} (h12 : n ≤ 12) (hp : p < 100) (hv : xm_vals n le wo) : ∀ (c k b f1 f2 : Nat), k + c = 2 ^ n → b < 4096 → c < f1 → c < f2 →
    ∃ r, r < 4096 ∧ f_X1_bestSet_l7 (nI n) le ki wo kt ma ga ne od (nI p) f1 (nI k) (xm_net le wo (nI b) (nI p) n 0 0) (nI b) = some (nI r) ∧ f_X3_best_l4 (nI n) le m2 wo m4 ne m6 m7 m8 m9 m10 m11 m12 m13 m14 m15 z16 z17 (nI p) f2 (nI k) (nI b) = some (nI r) := by
  have hpw := xm_pow12 h12
  intro c
  induction c with
  | zero =>
    intro k b f1 f2 hk hb h1 h2
    obtain ⟨f1, rfl⟩ : ∃ g, f1 = g + 1 := ⟨f1 - 1, by omega⟩
    obtain ⟨f2, rfl⟩ : ∃ g, f2 = g + 1 := ⟨f2 - 1, by omega⟩
    refine ⟨b, hb, ?_, ?_⟩
    · rw [f_X1_bestSet_l7_s, xm_pw n (by omega), if_pos (nI_le (by omega) (by omega))]
    · rw [f_X3_best_l4_s, xm_pw n (by omega), if_pos (nI_le (by omega) (by omega))]
  | succ c ih =>
    intro k b f1 f2 hk hb h1 h2
    obtain ⟨f1, rfl⟩ : ∃ g, f1 = g + 1 := ⟨f1 - 1, by omega⟩
    obtain ⟨f2, rfl⟩ : ∃ g, f2 = g + 1 := ⟨f2 - 1, by omega⟩
    have hk4 : k < 4096 := by omega
    rw [f_X1_bestSet_l7_s, f_X3_best_l4_s, xm_pw n (by omega), if_neg (nI_ge (by omega) (by omega)), if_neg (nI_ge (by omega) (by omega)), xm_ic (nI k) h12, xm_mc (nI k) h12, nI_1, xm_nc (nI k) (nI p) h12, xm_nm m2 (nI k) (nI p) h12, xm_nm m2 (nI b) (nI p) h12, xm_bc hk4, xm_bc hb]
    have ihk := ih (k + 1) k f1 f2 (by omega) hk4 (by omega) (by omega)
    have ihb := ih (k + 1) b f1 f2 (by omega) hb (by omega) (by omega)
    obtain ⟨k1, k2⟩ := xm_net_bound h12 hp hv (nI k) n 0 0 (by omega) (by decide) (by decide)
    obtain ⟨b1, b2⟩ := xm_net_bound h12 hp hv (nI b) n 0 0 (by omega) (by decide) (by decide)
    generalize hX : xm_net le wo (nI k) (nI p) n 0 0 = X at *
    generalize hY : xm_net le wo (nI b) (nI p) n 0 0 = Y at *
    have hs := xm_sub (x := X) (y := Y) (by omega) (by omega) (by omega) (by omega)
    cases xm_cl ne (nI k) n 0
    · rw [xm_b0, xm_b0, xm_i0, xm_i0, Option.bind_some, if_neg (by decide : ¬ (0 : Int32) < -1), if_neg (by decide : ¬ (-1 : Int32) = 0)]
      exact ihb
    · rw [xm_b1, xm_b1, xm_i1, xm_i1]
      simp only [Option.bind_some]
      by_cases hlt : Y < X
      · have hlt2 : (0 : Int32) < X - Y := by
          rw [Int32.lt_iff_toInt_lt, hs, show (0 : Int32).toInt = 0 from rfl]
          have := Int32.lt_iff_toInt_lt.mp hlt
          omega
        rw [if_pos hlt, if_pos hlt2]
        exact ihk
      · have hlt2 : ¬ (0 : Int32) < X - Y := by
          rw [Int32.lt_iff_toInt_lt, hs, show (0 : Int32).toInt = 0 from rfl]
          have : ¬ Y.toInt < X.toInt := fun h => hlt (Int32.lt_iff_toInt_lt.mpr h)
          omega
        rw [if_neg hlt, if_neg hlt2]
        by_cases he : X = Y
        · have he2 : X - Y = 0 := by rw [he]; exact Int32.sub_self _
          rw [if_pos he, if_pos he2]
          rw [xm_sz, xm_sz]
          simp only [Option.bind_some]
          by_cases hq : nI (fb_ct (bt (nI b)) 12) ≤ nI (fb_ct (bt (nI k)) 12)
          · rw [if_pos hq, if_pos hq]; exact ihb
          · rw [if_neg hq, if_neg hq]; exact ihk
        · have he2 : ¬ X - Y = 0 := by
            intro h
            have h9 : (X - Y).toInt = 0 := by rw [h]; rfl
            rw [hs] at h9
            exact he (Int32.toInt_inj.mp (by omega))
          rw [if_neg he, if_neg he2]
          exact ihb
