def xm_cn (p : Nat → Bool) : Nat → Nat → Int32 → Int32
  | 0, _, a => a
  | c + 1, k, a => xm_cn p c (k + 1) (if p k = true then a + 1 else a)
theorem xm_cn_succ (p : Nat → Bool) (c k : Nat) (a : Int32) : xm_cn p (c + 1) k a = xm_cn p c (k + 1) (if p k = true then a + 1 else a) := rfl
theorem xm_cn_acc (p : Nat → Bool) (x : Int32) : ∀ (c k : Nat) (a : Int32), xm_cn p c k (x + a) = x + xm_cn p c k a := by
  intro c
  induction c with
  | zero => intro k a; rfl
  | succ c ih =>
    intro k a
    unfold xm_cn
    cases p k
    · simp only [Bool.false_eq_true, if_false]; exact ih (k + 1) a
    · simp only [if_true]; rw [Int32.add_assoc]; exact ih (k + 1) (a + 1)
theorem xm_cn_split (p : Nat → Bool) (e : Nat) : ∀ (c k : Nat) (a : Int32), xm_cn p (c + e) k a = xm_cn p e (k + c) (xm_cn p c k a) := by
  intro c
  induction c with
  | zero => intro k a; rw [Nat.zero_add]; rfl
  | succ c ih =>
    intro k a
    rw [show c + 1 + e = (c + e) + 1 by omega, xm_cn_succ p (c + e) k a, xm_cn_succ p c k a, ih (k + 1), show k + 1 + c = k + (c + 1) by omega]
theorem xm_cn_cong {p q : Nat → Bool} : ∀ {c i j : Nat} {a : Int32}, (∀ t, t < c → p (i + t) = q (j + t)) → xm_cn p c i a = xm_cn q c j a := by
  intro c
  induction c with
  | zero => intro i j a _; rfl
  | succ c ih =>
    intro i j a h
    unfold xm_cn
    rw [show p i = q j from h 0 (by omega)]
    exact ih (i := i + 1) (j := j + 1) (fun t ht => by
      have := h (t + 1) (by omega)
      rwa [show i + (t + 1) = i + 1 + t by omega, show j + (t + 1) = j + 1 + t by omega] at this)
theorem xm_cn_ct (p : Nat → Bool) : ∀ (c k a : Nat), xm_cn p c k (nI a) = nI (a + fb_ct (fun i => p (k + i)) c) := by
  intro c
  induction c with
  | zero => intro k a; rfl
  | succ c ih =>
    intro k a
    unfold xm_cn
    have hsplit : fb_ct (fun i => p (k + i)) (c + 1) = (if p k = true then 1 else 0) + fb_ct (fun i => p (k + 1 + i)) c := by
      have := fb_ct_split (fun i => p (k + i)) 1 c
      rw [show 1 + c = c + 1 by omega] at this
      rw [this]
      have e : (fun k_1 => p (k + (1 + k_1))) = (fun i => p (k + 1 + i)) := funext fun i => by rw [show k + (1 + i) = k + 1 + i by omega]
      rw [e]
      show 0 + (if p (k + 0) = true then 1 else 0) + _ = _
      rw [Nat.zero_add, Nat.add_zero]
    rw [hsplit]
    cases p k
    · simp only [Bool.false_eq_true, if_false]
      rw [ih (k + 1) a, Nat.zero_add]
    · simp only [if_true]
      rw [nI_1, ih (k + 1) (a + 1), Nat.add_assoc]
def xm_df (f g : xF) (k : Nat) : Bool := decide (¬ f k = -1) && decide (¬ f k = g k)
theorem xm_df_0 {f g : xF} {k : Nat} (h : f k = -1) : xm_df f g k = false := by
  unfold xm_df; rw [decide_eq_false (fun q => q h), Bool.false_and]
theorem xm_df_1 {f g : xF} {k : Nat} (h : f k = g k) : xm_df f g k = false := by
  unfold xm_df; rw [decide_eq_false (p := ¬ f k = g k) (fun q => q h), Bool.and_false]
theorem xm_df_2 {f g : xF} {k : Nat} (h : ¬ f k = -1) (h2 : ¬ f k = g k) : xm_df f g k = true := by
  unfold xm_df; rw [decide_eq_true h, decide_eq_true h2]; rfl
theorem xm_cn_0 {p : Nat → Bool} {c k : Nat} {a : Int32} (h : p k = false) : xm_cn p (c + 1) k a = xm_cn p c (k + 1) a := by
  show xm_cn p c (k + 1) (if p k = true then a + 1 else a) = _
  rw [h]; rfl
theorem xm_cn_1 {p : Nat → Bool} {c k : Nat} {a : Int32} (h : p k = true) : xm_cn p (c + 1) k a = xm_cn p c (k + 1) (a + 1) := by
  show xm_cn p c (k + 1) (if p k = true then a + 1 else a) = _
  rw [h]; rfl
theorem xm_chg_loop (f g : xF) {na : Nat} (hna : na < 300) : ∀ (c k u : Nat) (a : Int32), k + c = na → c < u → f_X0_changed_l4 na f na g u (nI k) a = some (xm_cn (xm_df f g) c k a) := by
  intro c
  induction c with
  | zero =>
    intro k u a hk hu
    obtain ⟨u, rfl⟩ : ∃ q, u = q + 1 := ⟨u - 1, by omega⟩
    rw [f_X0_changed_l4_s, if_pos (nI_le (by omega) (by omega))]
    rfl
  | succ c ih =>
    intro k u a hk hu
    obtain ⟨u, rfl⟩ : ∃ q, u = q + 1 := ⟨u - 1, by omega⟩
    have hge : ¬ nI na ≤ nI k := nI_ge (by omega) (by omega)
    rw [f_X0_changed_l4_s, if_neg hge, if_neg hge, xm_g (k := k) (by omega) (by omega), nI_clamp (by omega : k < 2 ^ 31), nI_1]
    by_cases h1 : f k = -1
    · rw [if_pos h1, xm_cn_0 (xm_df_0 h1)]
      exact ih (k + 1) u a (by omega) (by omega)
    · have hg : ¬ (nI k < 0 ∨ na ≤ k) := by
        rintro (q | q)
        · exact nI_pos (by omega) q
        · omega
      rw [if_neg h1, if_neg hg]
      by_cases h2 : f k = g k
      · rw [if_pos h2, xm_cn_0 (xm_df_1 h2)]
        exact ih (k + 1) u a (by omega) (by omega)
      · rw [if_neg h2, xm_cn_1 (xm_df_2 h1 h2)]
        exact ih (k + 1) u _ (by omega) (by omega)
theorem xm_chg (f g : xF) {na : Nat} (hna : na < 300) : f_X0_changed na f na g = some (xm_cn (xm_df f g) na 0 0) := by
  rw [f_X0_changed_e]
  show Option.bind (f_X0_changed_l4 na f na g 300 (nI 0) 0) _ = _
  rw [xm_chg_loop f g hna na 0 300 0 (by omega) hna]
  rfl
theorem xm_moved (P Q : xPL) : f_X0_movedSince P Q = some (xm_cn (xm_df Q.2.1 P.2.1) 60 0 0 + xm_cn (xm_df Q.2.2.1 P.2.2.1) 36 0 0) := by
  obtain ⟨th, ld, rd, ll, rl, si, lc, tc, lu⟩ := P
  obtain ⟨th2, ld2, rd2, ll2, rl2, si2, lc2, tc2, lu2⟩ := Q
  rw [f_X0_movedSince_e, xm_chg ld2 ld (by omega), xm_chg rd2 rd (by omega)]
  rfl
-- the reference's days in one row
def xm_row (ld rd : xF) (k : Nat) : Int32 := if k < 60 then ld k else rd (k - 60)
theorem xm_rows {w ld rd ld2 rd2 lo ro lo2 ro2 : xF} (h1 : ∀ j, j < 96 → w j = xm_row lo ro j) (h2 : ∀ k, k < 60 → lo k = ld k) (h3 : ∀ k, k < 36 → ro k = rd k) (h4 : ∀ k, k < 60 → lo2 k = ld2 k) (h5 : ∀ k, k < 36 → ro2 k = rd2 k) : xm_cn (xm_df w (xm_row lo2 ro2)) 96 0 0 = xm_cn (xm_df ld ld2) 60 0 0 + xm_cn (xm_df rd rd2) 36 0 0 := by
  have e : xm_cn (xm_df w (xm_row lo2 ro2)) 96 0 0 = xm_cn (xm_df w (xm_row lo2 ro2)) 36 60 (xm_cn (xm_df w (xm_row lo2 ro2)) 60 0 0) := xm_cn_split _ 36 60 0 0
  have ea : xm_cn (xm_df w (xm_row lo2 ro2)) 60 0 0 = xm_cn (xm_df ld ld2) 60 0 0 := xm_cn_cong (fun t ht => by
    unfold xm_df
    rw [Nat.zero_add, h1 t (by omega)]
    unfold xm_row
    rw [if_pos ht, if_pos ht, h2 t ht, h4 t ht])
  have eb : ∀ a, xm_cn (xm_df w (xm_row lo2 ro2)) 36 60 a = xm_cn (xm_df rd rd2) 36 0 a := fun a => xm_cn_cong (fun t ht => by
    unfold xm_df
    rw [Nat.zero_add, h1 (60 + t) (by omega)]
    unfold xm_row
    rw [if_neg (by omega), if_neg (by omega), show 60 + t - 60 = t by omega, h3 t ht, h5 t ht])
  rw [e, ea, eb]
  have := xm_cn_acc (xm_df rd rd2) (xm_cn (xm_df ld ld2) 60 0 0) 36 0 0
  rwa [Int32.add_zero] at this
-- how many days, and the last one
theorem xm_last_eq {th th2 : xF} {x y : Int32} (h : ∀ k, k < 100 → th2 k = th k) (h1 : xm_last 100 th x) (h2 : xm_last 100 th2 y) : y = x := by
  rcases h1 with ⟨a1, a2⟩ | ⟨e, a1, a2, a3, a4⟩
  · rcases h2 with ⟨b1, b2⟩ | ⟨u, b1, b2, b3, b4⟩
    · rw [a1, b1]
    · exact absurd (by rw [h u b1]; exact a2 u b1) b3
  · rcases h2 with ⟨b1, b2⟩ | ⟨u, b1, b2, b3, b4⟩
    · exact absurd (by rw [← h e a1]; exact b2 e a1) a3
    · have : u = e := by
        rcases Nat.lt_trichotomy u e with q | q | q
        · exact absurd (by rw [← h e a1]; exact b4 e q a1) a3
        · exact q
        · exact absurd (by rw [h u b1]; exact a4 u q b1) b3
      rw [a2, b2, this]
