-- what is worth its lessons
def xq_ns (v : Nat → Int) (b : Nat → Bool) : Nat → Int
  | 0 => 0
  | k + 1 => xq_ns v b k + if b k = true then v k else 0
theorem xq_ns_mod (v : Nat → Int) (a b : Nat → Bool) : ∀ n, xq_ns v (fun k => a k || b k) n + xq_ns v (fun k => a k && b k) n = xq_ns v a n + xq_ns v b n := by
  intro n
  induction n with
  | zero => rfl
  | succ n ih =>
    unfold xq_ns
    cases a n <;> cases b n <;> simp <;> omega
theorem xq_ct_mod (a b : Nat → Bool) : ∀ n, fb_ct (fun k => a k || b k) n + fb_ct (fun k => a k && b k) n = fb_ct a n + fb_ct b n := by
  intro n
  induction n with
  | zero => rfl
  | succ n ih =>
    rw [fb_ct_succ, fb_ct_succ, fb_ct_succ, fb_ct_succ]
    cases a n <;> cases b n <;> simp <;> omega
theorem xq_ct_sub {a b : Nat → Bool} : ∀ {n : Nat}, (∀ k, k < n → a k = true → b k = true) → fb_ct b n ≤ fb_ct a n → ∀ k, k < n → a k = b k := by
  intro n
  induction n with
  | zero => intro _ _ k hk; omega
  | succ n ih =>
    intro h1 h2 k hk
    have hs := fb_ct_sub (fun k hk => h1 k (by omega) : ∀ k, k < n → a k = true → b k = true)
    rw [fb_ct_succ, fb_ct_succ] at h2
    have hn := h1 n (by omega)
    have e : a n = b n := by
      cases ha : a n <;> cases hb : b n <;> simp_all <;> omega
    rw [e] at h2
    by_cases z : k = n
    · rw [z]; exact e
    · exact ih (fun k hk => h1 k (by omega)) (by omega) k (by omega)
def xq_v (le wo : xF) (p : Nat) (j : Nat) : Int := (wo j - nI p * le j).toInt
theorem xq_net {le wo : xF} {n p : Nat} (h12 : n ≤ 12) (hp : p < 100) (hv : xm_vals n le wo) (S : Int32) : ∀ (c k : Nat) (a : Int32), k + c = n → -(600 * (k : Int)) ≤ a.toInt → a.toInt ≤ 600 * (k : Int) → a.toInt = xq_ns (xq_v le wo p) (bt S) k → (xm_net le wo S (nI p) c k a).toInt = xq_ns (xq_v le wo p) (bt S) n := by
  intro c
  induction c with
  | zero => intro k a hk h1 h2 h3; rw [show n = k by omega]; exact h3
  | succ c ih =>
    intro k a hk h1 h2 h3
    unfold xm_net
    have hstep : xq_ns (xq_v le wo p) (bt S) (k + 1) = xq_ns (xq_v le wo p) (bt S) k + if bt S k = true then xq_v le wo p k else 0 := rfl
    cases hb : bt S k
    · rw [hb] at hstep
      simp only [Bool.false_eq_true, if_false] at hstep ⊢
      exact ih (k + 1) a (by omega) (by push_cast; omega) (by push_cast; omega) (by rw [hstep, h3]; omega)
    · rw [hb] at hstep
      simp only [if_true] at hstep ⊢
      obtain ⟨⟨l, hl1, hl2, hl3⟩, w, hw1, hw2, hw3⟩ := hv k (by omega)
      have ht := xm_term w (by omega) p hp l (by omega)
      rw [← hl3, ← hw3] at ht
      have h0 : (0 : Int) ≤ (p : Int) * l := Int.mul_nonneg (by omega) (by omega)
      have h9 : (p : Int) * l ≤ 99 * 5 := Int.mul_le_mul (by omega) (by omega) (by omega) (by omega)
      have hs : (a + (wo k - nI p * le k)).toInt = a.toInt + (wo k - nI p * le k).toInt := by
        rw [Int32.toInt_add]
        generalize (p : Int) * l = q at *
        rw [Int.bmod_eq_of_le (by omega) (by omega)]
      refine ih (k + 1) _ (by omega) ?_ ?_ ?_
      · rw [hs, ht]; generalize (p : Int) * l = q at *; push_cast; omega
      · rw [hs, ht]; generalize (p : Int) * l = q at *; push_cast; omega
      · rw [hs, hstep, h3]; rfl
theorem xq_net0 {le wo : xF} {n p : Nat} (h12 : n ≤ 12) (hp : p < 100) (hv : xm_vals n le wo) (S : Int32) : (xm_net le wo S (nI p) n 0 0).toInt = xq_ns (xq_v le wo p) (bt S) n := xq_net h12 hp hv S n 0 0 (by omega) (by decide) (by decide) rfl
theorem xq_cl {ne : xF} {S : Int32} : ∀ (c k : Nat), xm_cl ne S c k = true ↔ ∀ j, k ≤ j → j < k + c → bt S j = true → ∀ i, i < 32 → bt (ne j) i = true → bt S i = true := by
  intro c
  induction c with
  | zero => intro k; exact ⟨fun _ j h1 h2 => by omega, fun _ => rfl⟩
  | succ c ih =>
    intro k
    by_cases hb : bt S k = true
    · by_cases hc : (ne k &&& (S ^^^ (-1))) = 0
      · rw [xm_cl_1 hc, ih]
        constructor
        · intro h j h1 h2 h3
          by_cases e : j = k
          · rw [e]; exact fun i hi hz => xm_covb.mp hc i hi hz
          · exact h j (by omega) (by omega) h3
        · intro h j h1 h2 h3; exact h j (by omega) (by omega) h3
      · rw [xm_cl_2 hb hc]
        constructor
        · intro h; cases h
        · intro h; exact absurd (xm_covb.mpr (h k (Nat.le_refl k) (by omega) hb)) hc
    · have hb : bt S k = false := by simpa using hb
      rw [xm_cl_0 hb, ih]
      constructor
      · intro h j h1 h2 h3
        by_cases e : j = k
        · rw [e, hb] at h3; cases h3
        · exact h j (by omega) (by omega) h3
      · intro h j h1 h2 h3; exact h j (by omega) (by omega) h3
-- the best set: none with a greater net, none as good with fewer aims
def xq_best (ne le wo : xF) (n p k b : Nat) : Prop := b < 2 ^ n ∧ xm_cl ne (nI b) n 0 = true ∧ ∀ S, S < k → xm_cl ne (nI S) n 0 = true → xq_ns (xq_v le wo p) (bt (nI S)) n < xq_ns (xq_v le wo p) (bt (nI b)) n ∨ (xq_ns (xq_v le wo p) (bt (nI S)) n = xq_ns (xq_v le wo p) (bt (nI b)) n ∧ xm_pc b ≤ xm_pc S)
theorem xq_bit {k : Nat} (hk : k < 4096) : f_J6_bitCount_0f7a4 (nI k) = some (nI (xm_pc k)) := by
  have h := xm_bc0 (k / 64) (by omega) (k % 64) (by omega)
  rwa [show 64 * (k / 64) + k % 64 = k by omega] at h
theorem xq_pc_le (k : Nat) : xm_pc k ≤ 12 := by unfold xm_pc; omega
theorem xq_bs {le ki wo kt ma ga ne od : xF} {n p : Nat} (h12 : n ≤ 12) (hp : p < 100) (hv : xm_vals n le wo) : ∀ (c k b f : Nat), k + c = 2 ^ n → c < f → xq_best ne le wo n p k b → ∃ r, f_X1_bestSet_l7 (nI n) le ki wo kt ma ga ne od (nI p) f (nI k) (xm_net le wo (nI b) (nI p) n 0 0) (nI b) = some (nI r) ∧ xq_best ne le wo n p (2 ^ n) r := by
  have hpw := xm_pow12 h12
  intro c
  induction c with
  | zero =>
    intro k b f hk hf hb
    obtain ⟨f, rfl⟩ : ∃ g, f = g + 1 := ⟨f - 1, by omega⟩
    refine ⟨b, ?_, by rw [show 2 ^ n = k by omega]; rw [show k = 2 ^ n by omega] at hb ⊢; exact hb⟩
    rw [f_X1_bestSet_l7_s, xm_pw n (by omega), if_pos (nI_le (by omega) (by omega))]
  | succ c ih =>
    intro k b f hk hf hb
    obtain ⟨f, rfl⟩ : ∃ g, f = g + 1 := ⟨f - 1, by omega⟩
    have hk4 : k < 4096 := by omega
    have hb4 : b < 4096 := by have := hb.1; omega
    have hnk := xq_net0 h12 hp hv (nI k)
    have hnb := xq_net0 h12 hp hv (nI b)
    have keep : (xm_cl ne (nI k) n 0 = true → xq_ns (xq_v le wo p) (bt (nI k)) n < xq_ns (xq_v le wo p) (bt (nI b)) n ∨ (xq_ns (xq_v le wo p) (bt (nI k)) n = xq_ns (xq_v le wo p) (bt (nI b)) n ∧ xm_pc b ≤ xm_pc k)) → xq_best ne le wo n p (k + 1) b := fun z => ⟨hb.1, hb.2.1, fun S hS hc => by
      by_cases e : S = k
      · rw [e] at hc ⊢; exact z hc
      · exact hb.2.2 S (by omega) hc⟩
    rw [f_X1_bestSet_l7_s, xm_pw n (by omega), if_neg (nI_ge (by omega) (by omega)), xm_ic (nI k) h12, nI_1, xm_nc (nI k) (nI p) h12, xq_bit hk4, xq_bit hb4]
    cases hcl : xm_cl ne (nI k) n 0 with
    | false =>
      rw [xm_b0, xm_i0]
      exact ih (k + 1) b f (by omega) (by omega) (keep (fun z => by rw [hcl] at z; cases z))
    | true =>
      have take : (xq_ns (xq_v le wo p) (bt (nI b)) n < xq_ns (xq_v le wo p) (bt (nI k)) n ∨ (xq_ns (xq_v le wo p) (bt (nI b)) n = xq_ns (xq_v le wo p) (bt (nI k)) n ∧ xm_pc k ≤ xm_pc b)) → xq_best ne le wo n p (k + 1) k := fun z => ⟨by omega, hcl, fun S hS hc => by
        by_cases e : S = k
        · rw [e]; exact Or.inr ⟨rfl, Nat.le_refl _⟩
        · rcases hb.2.2 S (by omega) hc with y | ⟨y1, y2⟩
          · rcases z with z | ⟨z1, z2⟩
            · exact Or.inl (by omega)
            · exact Or.inl (by omega)
          · rcases z with z | ⟨z1, z2⟩
            · exact Or.inl (by omega)
            · exact Or.inr ⟨by omega, by omega⟩⟩
      rw [xm_b1, xm_i1]
      simp only [Option.bind_some]
      generalize hX : xm_net le wo (nI k) (nI p) n 0 0 = X at *
      generalize hY : xm_net le wo (nI b) (nI p) n 0 0 = Y at *
      have ihk := fun z => ih (k + 1) k f (by omega) (by omega) z
      have ihb := fun z => ih (k + 1) b f (by omega) (by omega) z
      rw [hX] at ihk
      rw [hY] at ihb
      by_cases hlt : Y < X
      · rw [if_pos hlt]
        have := Int32.lt_iff_toInt_lt.mp hlt
        exact ihk (take (Or.inl (by omega)))
      · have hle : X.toInt ≤ Y.toInt := by
          have : ¬ Y.toInt < X.toInt := fun h => hlt (Int32.lt_iff_toInt_lt.mpr h)
          omega
        rw [if_neg hlt]
        by_cases he : X = Y
        · rw [if_pos he]
          have p1 := xq_pc_le k
          have p2 := xq_pc_le b
          have heI : X.toInt = Y.toInt := by rw [he]
          by_cases hq : xm_pc b ≤ xm_pc k
          · rw [if_pos (nI_le hq (by omega))]
            exact ihb (keep (fun _ => Or.inr ⟨by omega, hq⟩))
          · rw [if_neg (nI_ge (by omega) (by omega))]
            have := ihk (take (Or.inr ⟨by omega, by omega⟩))
            exact this
        · rw [if_neg he]
          have hne : ¬ X.toInt = Y.toInt := fun z => he (Int32.toInt_inj.mp z)
          exact ihb (keep (fun _ => Or.inl (by omega)))
theorem xq_ns0 {v : Nat → Int} : ∀ n, xq_ns v (bt (nI 0)) n = 0 := by
  intro n
  induction n with
  | zero => rfl
  | succ n ih =>
    unfold xq_ns
    rw [ih, show bt (nI 0) n = false from b_0 n]
    rfl
theorem xq_cl0 {ne : xF} {n : Nat} : xm_cl ne (nI 0) n 0 = true := (xq_cl n 0).mpr (fun j _ _ h => by rw [show bt (nI 0) j = false from b_0 j] at h; cases h)
theorem xq_bestSet {le ki wo kt ma ga ne od : xF} {n p : Nat} (h12 : n ≤ 12) (hp : p < 100) (hv : xm_vals n le wo) : ∃ r, f_X1_bestSet (nI n, le, ki, wo, kt, ma, ga, ne, od) (nI p) = some (nI r) ∧ xq_best ne le wo n p (2 ^ n) r := by
  have hpw := xm_pow12 h12
  have h1 : 1 ≤ 2 ^ n := Nat.one_le_two_pow
  obtain ⟨r, e1, e2⟩ := xq_bs (ki := ki) (kt := kt) (ma := ma) (ga := ga) (od := od) (ne := ne) h12 hp hv (2 ^ n - 1) 1 0 5000 (by omega) (by omega) ⟨by omega, xq_cl0, fun S hS hc => Or.inr ⟨by rw [show S = 0 by omega], by rw [show S = 0 by omega]; exact Nat.le_refl _⟩⟩
  have hn0 : xm_net le wo (nI 0) (nI p) n 0 0 = 0 := Int32.toInt_inj.mp (by rw [xq_net0 h12 hp hv, xq_ns0]; rfl)
  rw [hn0] at e1
  have e1 : f_X1_bestSet_l7 (nI n) le ki wo kt ma ga ne od (nI p) 5000 (1 : Int32) (0 : Int32) (0 : Int32) = some (nI r) := e1
  refine ⟨r, ?_, e2⟩
  rw [f_X1_bestSet_e, e1]
  rfl
theorem xq_pc_bt {k : Nat} (hk : k < 4096) : fb_ct (bt (nI k)) 12 = xm_pc k := by
  rw [← xm_pc_ct]
  exact fb_ct_cong (fun i _ => xm_bt_nI k i hk)
/-- no other closed set is as good with as few aims -/
theorem xq_best_one {ne le wo : xF} {n p b S : Nat} (h12 : n ≤ 12) (hb : xq_best ne le wo n p (2 ^ n) b) (hS : S < 2 ^ n) (hcl : xm_cl ne (nI S) n 0 = true) (hne : ¬ S = b) (hnet : xq_ns (xq_v le wo p) (bt (nI S)) n = xq_ns (xq_v le wo p) (bt (nI b)) n) : xm_pc b < xm_pc S := by
  have hpw := xm_pow12 h12
  obtain ⟨hb1, hb2, hb3⟩ := hb
  have hS4 : S < 4096 := by omega
  have hb4 : b < 4096 := by omega
  have hU : S ||| b < 2 ^ n := Nat.or_lt_two_pow hS hb1
  have hI : S &&& b < 2 ^ n := Nat.and_lt_two_pow S hb1
  have bU : bt (nI (S ||| b)) = fun k => bt (nI S) k || bt (nI b) k := funext fun i => by rw [xm_bt_nI _ i (by omega), xm_bt_nI _ i hS4, xm_bt_nI _ i hb4, Nat.testBit_or]
  have bI : bt (nI (S &&& b)) = fun k => bt (nI S) k && bt (nI b) k := funext fun i => by rw [xm_bt_nI _ i (by omega), xm_bt_nI _ i hS4, xm_bt_nI _ i hb4, Nat.testBit_and]
  have cS := (xq_cl (ne := ne) n 0).mp hcl
  have cb := (xq_cl (ne := ne) n 0).mp hb2
  have cU : xm_cl ne (nI (S ||| b)) n 0 = true := (xq_cl n 0).mpr (fun j h1 h2 h3 i hi h4 => by
    rw [bU] at h3 ⊢
    simp only [Bool.or_eq_true] at h3 ⊢
    exact h3.imp (fun z => cS j h1 h2 z i hi h4) (fun z => cb j h1 h2 z i hi h4))
  have cI : xm_cl ne (nI (S &&& b)) n 0 = true := (xq_cl n 0).mpr (fun j h1 h2 h3 i hi h4 => by
    rw [bI] at h3 ⊢
    simp only [Bool.and_eq_true] at h3 ⊢
    exact ⟨cS j h1 h2 h3.1 i hi h4, cb j h1 h2 h3.2 i hi h4⟩)
  have nm := xq_ns_mod (xq_v le wo p) (bt (nI S)) (bt (nI b)) n
  rw [← bU, ← bI] at nm
  have pS := xq_pc_bt hS4
  have pb := xq_pc_bt hb4
  have pI := xq_pc_bt (show S &&& b < 4096 by omega)
  have hmin := (hb3 S hS hcl).resolve_left (by omega)
  apply Classical.byContradiction
  intro hlt
  have heq : xm_pc S = xm_pc b := by omega
  have hIge : xm_pc b ≤ xm_pc (S &&& b) := by
    rcases hb3 (S ||| b) hU cU with z | ⟨z, -⟩
    · rcases hb3 (S &&& b) hI cI with y | ⟨y1, y2⟩
      · omega
      · omega
    · rcases hb3 (S &&& b) hI cI with y | ⟨y1, y2⟩
      · omega
      · exact y2
  have eb : ∀ k, k < 12 → bt (nI (S &&& b)) k = bt (nI b) k := xq_ct_sub (fun k _ h => by rw [bI] at h; simp only [Bool.and_eq_true] at h; exact h.2) (by rw [pI, pb]; exact hIge)
  have eS : ∀ k, k < 12 → bt (nI (S &&& b)) k = bt (nI S) k := xq_ct_sub (fun k _ h => by rw [bI] at h; simp only [Bool.and_eq_true] at h; exact h.1) (by rw [pI, pS]; omega)
  refine hne (Nat.eq_of_testBit_eq fun i => ?_)
  by_cases hi : i < 12
  · rw [← xm_bt_nI S i hS4, ← xm_bt_nI b i hb4, ← eS i hi, eb i hi]
  · rw [Nat.testBit_lt_two_pow (Nat.lt_of_lt_of_le hS4 (Nat.le_trans (by decide : 4096 ≤ 2 ^ 12) (Nat.pow_le_pow_right (by decide) (by omega)))), Nat.testBit_lt_two_pow (Nat.lt_of_lt_of_le hb4 (Nat.le_trans (by decide : 4096 ≤ 2 ^ 12) (Nat.pow_le_pow_right (by decide) (by omega))))]
