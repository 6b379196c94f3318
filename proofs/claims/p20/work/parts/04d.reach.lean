theorem xm_or0 (x : Int32) : x ||| 0 = x := b_ext fun i hi => by rw [b_or, b_0, Bool.or_false]
theorem xm_0or (x : Int32) : 0 ||| x = x := b_ext fun i hi => by rw [b_or, b_0, Bool.false_or]
theorem xm_orA (x y z : Int32) : x ||| (y ||| z) = (x ||| y) ||| z := b_ext fun i hi => by simp only [b_or, Bool.or_assoc]
def xm_orl (ne : xF) (S : Int32) : Nat → Nat → Int32 → Int32
  | 0, _, a => a
  | c + 1, k, a => xm_orl ne S c (k + 1) (if bt S k = true then a ||| ne k else a)
theorem xm_orl_acc (ne : xF) (S x : Int32) : ∀ (c k : Nat) (a : Int32), xm_orl ne S c k (x ||| a) = x ||| xm_orl ne S c k a := by
  intro c
  induction c with
  | zero => intro k a; rfl
  | succ c ih =>
    intro k a
    unfold xm_orl
    cases bt S k
    · simp only [Bool.false_eq_true, if_false]; exact ih (k + 1) a
    · simp only [if_true]; rw [← xm_orA]; exact ih (k + 1) (a ||| ne k)
theorem xm_orl_bt (ne : xF) (S : Int32) (i : Nat) : ∀ (c k : Nat) (a : Int32), bt (xm_orl ne S c k a) i = true ↔ bt a i = true ∨ ∃ j, k ≤ j ∧ j < k + c ∧ bt S j = true ∧ bt (ne j) i = true := by
  intro c
  induction c with
  | zero => intro k a; exact ⟨fun h => Or.inl h, fun h => h.elim id (fun ⟨j, h1, h2, _⟩ => by omega)⟩
  | succ c ih =>
    intro k a
    unfold xm_orl
    rw [ih]
    constructor
    · rintro (h | ⟨j, h1, h2, h3⟩)
      · cases hb : bt S k
        · rw [hb] at h; exact Or.inl h
        · rw [hb] at h
          simp only [if_true] at h
          rw [b_or, Bool.or_eq_true] at h
          rcases h with h | h
          · exact Or.inl h
          · exact Or.inr ⟨k, Nat.le_refl k, by omega, hb, h⟩
      · exact Or.inr ⟨j, by omega, by omega, h3⟩
    · rintro (h | ⟨j, h1, h2, h3, h4⟩)
      · left
        cases hb : bt S k
        · exact h
        · show bt (a ||| ne k) i = true
          rw [b_or, h]; rfl
      · by_cases hj : j = k
        · subst hj
          left
          rw [h3]
          show bt (a ||| ne j) i = true
          rw [b_or, h4, Bool.or_true]
        · exact Or.inr ⟨j, by omega, by omega, h3, h4⟩
def xm_T (ne : xF) (n : Nat) (S : Int32) : Int32 := xm_orl ne S n 0 S
theorem xm_T_or (ne : xF) (n : Nat) (S : Int32) : S ||| xm_orl ne S n 0 0 = xm_T ne n S := by
  unfold xm_T
  rw [← xm_orl_acc, xm_or0]
theorem xm_T_bt (ne : xF) (n : Nat) (S : Int32) (i : Nat) : bt (xm_T ne n S) i = true ↔ bt S i = true ∨ ∃ j, j < n ∧ bt S j = true ∧ bt (ne j) i = true := by
  unfold xm_T
  rw [xm_orl_bt]
  constructor
  · rintro (h | ⟨j, h1, h2, h3⟩)
    · exact Or.inl h
    · exact Or.inr ⟨j, by omega, h3⟩
  · rintro (h | ⟨j, h1, h2⟩)
    · exact Or.inl h
    · exact Or.inr ⟨j, by omega, by omega, h2⟩
theorem xm_nb_loop (ne : xF) (S : Int32) {n : Nat} (h12 : n ≤ 12) : ∀ (c k f : Nat) (a : Int32), k + c = n → c < f → f_X1_neededBy_l4 (nI n) ne S f (nI k) a = some (xm_orl ne S c k a) := by
  intro c
  induction c with
  | zero =>
    intro k f a hk hf
    obtain ⟨f, rfl⟩ : ∃ g, f = g + 1 := ⟨f - 1, by omega⟩
    rw [f_X1_neededBy_l4_s, if_pos (nI_le (by omega) (by omega))]
    rfl
  | succ c ih =>
    intro k f a hk hf
    obtain ⟨f, rfl⟩ : ∃ g, f = g + 1 := ⟨f - 1, by omega⟩
    rw [f_X1_neededBy_l4_s, if_neg (nI_ge (by omega) (by omega)), xm_has (by omega), nI_1]
    unfold xm_orl
    cases hb : bt S k
    · first | rw [xm_b0, xm_i0] | rw [Option.bind_some, xm_i0] | rw [xm_i0]
      exact ih (k + 1) f a (by omega) (by omega)
    · first | rw [xm_b1, xm_i1] | rw [Option.bind_some, xm_i1] | rw [xm_i1]
      rw [xm_g (by omega) (by omega), nI_clamp (by omega)]
      exact ih (k + 1) f _ (by omega) (by omega)
theorem xm_nb {le ki wo kt ma ga ne od : xF} (S : Int32) {n : Nat} (h12 : n ≤ 12) : f_X1_neededBy (nI n, le, ki, wo, kt, ma, ga, ne, od) S = some (xm_orl ne S n 0 0) := by
  rw [f_X1_neededBy_e]
  show Option.bind (f_X1_neededBy_l4 (nI n) ne S 300 (nI 0) 0) _ = _
  rw [xm_nb_loop ne S h12 n 0 300 0 (by omega) (by omega)]
  rfl
def xm_it (T : Int32 → Int32) : Nat → Int32 → Int32
  | 0, S => S
  | d + 1, S => xm_it T d (T S)
theorem xm_it_succ (T : Int32 → Int32) : ∀ (d : Nat) (S : Int32), xm_it T (d + 1) S = T (xm_it T d S) := by
  intro d
  induction d with
  | zero => intro S; rfl
  | succ d ih => intro S; exact ih (T S)
theorem xm_it_fix {T : Int32 → Int32} {S : Int32} (h : T S = S) : ∀ d, xm_it T d S = S := by
  intro d
  induction d with
  | zero => rfl
  | succ d ih => show xm_it T d (T S) = S; rw [h]; exact ih
theorem xm_it_more {T : Int32 → Int32} {S : Int32} {d : Nat} (h : T (xm_it T d S) = xm_it T d S) : ∀ e, d ≤ e → xm_it T e S = xm_it T d S := by
  intro e
  induction e with
  | zero => intro he; rw [show d = 0 by omega]
  | succ e ih =>
    intro he
    by_cases hq : d = e + 1
    · rw [hq]
    · rw [xm_it_succ, ih (by omega), h]
theorem xm_re_loop {le ki wo kt ma ga ne od : xF} {n : Nat} (h12 : n ≤ 12) : ∀ (c k f : Nat) (S : Int32), k + c = n → c < f → f_X1_reach_l9 (nI n) le ki wo kt ma ga ne od f (nI k) S = some (xm_it (xm_T ne n) c S) := by
  intro c
  induction c with
  | zero =>
    intro k f a hk hf
    obtain ⟨f, rfl⟩ : ∃ g, f = g + 1 := ⟨f - 1, by omega⟩
    rw [f_X1_reach_l9_s, if_pos (nI_le (by omega) (by omega))]
    rfl
  | succ c ih =>
    intro k f a hk hf
    obtain ⟨f, rfl⟩ : ∃ g, f = g + 1 := ⟨f - 1, by omega⟩
    rw [f_X1_reach_l9_s, if_neg (nI_ge (by omega) (by omega)), xm_nb a h12, nI_1]
    show f_X1_reach_l9 _ _ _ _ _ _ _ _ _ f (nI (k + 1)) (a ||| xm_orl ne a n 0 0) = _
    rw [xm_T_or]
    exact ih (k + 1) f _ (by omega) (by omega)
theorem xm_reach {le ki wo kt ma ga ne od : xF} {n a : Nat} (h12 : n ≤ 12) (ha : a < n) : f_X1_reach (nI n, le, ki, wo, kt, ma, ga, ne, od) (nI a) = some (xm_it (xm_T ne n) (n - 1) (ne a)) := by
  rw [f_X1_reach_e, xm_g (by omega) (by omega), nI_clamp (by omega)]
  show Option.bind (f_X1_reach_l9 _ _ _ _ _ _ _ _ _ 300 (nI 1) _) _ = _
  rw [xm_re_loop h12 (n - 1) 1 300 (ne a) (by omega) (by omega)]
  rfl
-- the reference
def xm_low (n : Nat) (S : Int32) : Prop := ∀ i, bt S i = true → i < n
theorem xm_T_low {ne : xF} {n : Nat} {S : Int32} (hne : ∀ a, a < n → xm_low n (ne a)) (h : xm_low n S) : xm_low n (xm_T ne n S) := by
  intro i hi
  rcases (xm_T_bt ne n S i).mp hi with q | ⟨j, q1, q2, q3⟩
  · exact h i q
  · exact hne j q1 i q3
theorem xm_it_low {ne : xF} {n : Nat} (hne : ∀ a, a < n → xm_low n (ne a)) : ∀ (d : Nat) (S : Int32), xm_low n S → xm_low n (xm_it (xm_T ne n) d S) := by
  intro d
  induction d with
  | zero => intro S h; exact h
  | succ d ih => intro S h; exact ih _ (xm_T_low hne h)
theorem xm_grow {ne : xF} {n : Nat} {S : Int32} (hne : ∀ a, a < n → xm_low n (ne a)) (h : xm_low n S) (hf : ¬ xm_T ne n S = S) : fb_ct (bt S) n + 1 ≤ fb_ct (bt (xm_T ne n S)) n := by
  have hx : ∃ i, i < 32 ∧ bt S i = false ∧ bt (xm_T ne n S) i = true := by
    apply Classical.byContradiction
    intro hno
    refine hf (b_ext fun i hi => ?_)
    cases h1 : bt (xm_T ne n S) i
    · cases h2 : bt S i
      · rfl
      · have := (xm_T_bt ne n S i).mpr (Or.inl h2)
        rw [h1] at this; cases this
    · cases h2 : bt S i
      · exact absurd ⟨i, hi, h2, h1⟩ hno
      · rfl
  obtain ⟨i, hi, h1, h2⟩ := hx
  have hin : i < n := xm_T_low hne h i h2
  have u := fb_ct_upd (bt S) true hin
  rw [h1] at u
  simp only [Bool.false_eq_true, if_false, if_true, Nat.add_zero] at u
  have s : fb_ct (fun k => if k = i then true else bt S k) n ≤ fb_ct (bt (xm_T ne n S)) n := fb_ct_sub (fun k hk hp => by
    by_cases hq : k = i
    · rw [hq]; exact h2
    · rw [if_neg hq] at hp; exact (xm_T_bt ne n S k).mpr (Or.inl hp))
  omega
theorem xm_fix {ne : xF} {n : Nat} (h12 : n ≤ 12) (hn : 0 < n) (hne : ∀ a, a < n → xm_low n (ne a)) {S : Int32} (h : xm_low n S) : ∃ d, d ≤ n - 1 ∧ xm_T ne n (xm_it (xm_T ne n) d S) = xm_it (xm_T ne n) d S := by
  by_cases hS : S = 0
  · subst hS
    refine ⟨0, by omega, ?_⟩
    show xm_T ne n 0 = 0
    refine b_ext fun i hi => ?_
    rw [b_0]
    cases hq : bt (xm_T ne n 0) i
    · rfl
    · rcases (xm_T_bt ne n 0 i).mp hq with q | ⟨j, q1, q2, q3⟩
      · rw [b_0] at q; cases q
      · rw [b_0] at q2; cases q2
  · apply Classical.byContradiction
    intro hno
    have h1 : 1 ≤ fb_ct (bt S) n := by
      have hx : ∃ i, i < n ∧ bt S i = true := by
        apply Classical.byContradiction
        intro hz
        refine hS (b_ext fun i hi => ?_)
        rw [b_0]
        cases hq : bt S i
        · rfl
        · exact absurd ⟨i, h i hq, hq⟩ hz
      exact fb_ct_pos.mpr hx
    have key : ∀ d, d ≤ n → d + 1 ≤ fb_ct (bt (xm_it (xm_T ne n) d S)) n := by
      intro d
      induction d with
      | zero => intro _; exact h1
      | succ d ih =>
        intro hd
        have := ih (by omega)
        have hg := xm_grow hne (xm_it_low hne d S h) (fun hq => hno ⟨d, by omega, hq⟩)
        rw [xm_it_succ]
        omega
    have := key n (Nat.le_refl n)
    have := fb_ct_le (bt (xm_it (xm_T ne n) n S)) n
    omega
def xm_R (ne : xF) (n a : Nat) : Int32 := xm_it (xm_T ne n) (n - 1) (ne a)
theorem xm_R_fix {ne : xF} {n a : Nat} (h12 : n ≤ 12) (ha : a < n) (hne : ∀ a, a < n → xm_low n (ne a)) : xm_T ne n (xm_R ne n a) = xm_R ne n a := by
  obtain ⟨d, hd, hf⟩ := xm_fix h12 (by omega) hne (hne a ha)
  have := xm_it_more hf (n - 1) hd
  unfold xm_R
  rw [this, hf]
theorem xm_R_mono {ne : xF} {n a : Nat} {i : Nat} (hi : bt (ne a) i = true) : bt (xm_R ne n a) i = true := by
  have key : ∀ (d : Nat) (S : Int32), bt S i = true → bt (xm_it (xm_T ne n) d S) i = true := by
    intro d
    induction d with
    | zero => intro S h; exact h
    | succ d ih => intro S h; exact ih _ ((xm_T_bt ne n S i).mpr (Or.inl h))
  exact key _ _ hi
theorem xm_acy_low {n : Nat} {ne : xF} (h12 : n ≤ 12) (h : xm_acy n ne) : ∀ a, a < n → xm_low n (ne a) := by
  obtain ⟨rk, M, hM, hr⟩ := h
  intro a ha i hi
  by_cases h32 : i < 32
  · exact (hr a ha i h32 hi).1
  · rw [b_big (by omega)] at hi; cases hi
theorem xm_acy_add {n : Nat} {ne : xF} (h12 : n ≤ 12) (h : xm_acy n ne) {a b : Nat} (ha : a < n) (hb : b < n) (hab : a ≠ b) (hR : bt (xm_R ne n b) a = false) : xm_acy n (upd ne a (ne a ||| ((1 : Int32) <<< (nI b &&& 31)))) := by
  have hlow := xm_acy_low h12 h
  have hfx := xm_R_fix h12 hb hlow
  obtain ⟨rk, M, hM, hr⟩ := h
  have hcl : ∀ x, x < n → bt (xm_R ne n b) x = true → ∀ i, bt (ne x) i = true → bt (xm_R ne n b) i = true := by
    intro x hx h1 i h2
    rw [← hfx]
    exact (xm_T_bt ne n _ i).mpr (Or.inr ⟨x, hx, h1, h2⟩)
  refine ⟨fun x => if x = b ∨ bt (xm_R ne n b) x = true then rk x else rk x + M, M + M, fun x => ?_, ?_⟩
  · have := hM x
    by_cases hq : x = b ∨ bt (xm_R ne n b) x = true
    · simp only [if_pos hq]; omega
    · simp only [if_neg hq]; omega
  · intro x hx i hi hbit
    by_cases hxa : x = a
    · subst hxa
      simp only [upd, if_true] at hbit
      rw [b_or, xm_one (by omega) hi, Bool.or_eq_true, decide_eq_true_eq] at hbit
      have hxn : ¬ (x = b ∨ bt (xm_R ne n b) x = true) := by
        rintro (q | q)
        · exact hab q
        · rw [hR] at q; cases q
      simp only [if_neg hxn]
      rcases hbit with q | q
      · obtain ⟨q1, q2⟩ := hr x hx i hi q
        refine ⟨q1, ?_⟩
        by_cases hz : i = b ∨ bt (xm_R ne n b) i = true
        · simp only [if_pos hz]; omega
        · simp only [if_neg hz]; omega
      · subst q
        refine ⟨hb, ?_⟩
        simp only [true_or, if_true]
        have := hM i
        omega
    · simp only [upd, if_neg hxa] at hbit
      obtain ⟨q1, q2⟩ := hr x hx i hi hbit
      refine ⟨q1, ?_⟩
      by_cases hz : x = b ∨ bt (xm_R ne n b) x = true
      · have hz2 : i = b ∨ bt (xm_R ne n b) i = true := by
          rcases hz with q | q
          · subst q; exact Or.inr (xm_R_mono hbit)
          · exact Or.inr (hcl x hx q i hbit)
        simp only [if_pos hz, if_pos hz2]; omega
      · simp only [if_neg hz]
        by_cases hz2 : i = b ∨ bt (xm_R ne n b) i = true
        · simp only [if_pos hz2]; omega
        · simp only [if_neg hz2]; omega
theorem xm_acy_sub {n : Nat} {ne : xF} (h : xm_acy n ne) {a : Nat} {v : Int32} (hv : ∀ i, i < 32 → bt v i = true → bt (ne a) i = true) : xm_acy n (upd ne a v) := by
  obtain ⟨rk, M, hM, hr⟩ := h
  refine ⟨rk, M, hM, fun x hx i hi hbit => ?_⟩
  by_cases hxa : x = a
  · subst hxa
    simp only [upd, if_true] at hbit
    exact hr x hx i hi (hv i hi hbit)
  · simp only [upd, if_neg hxa] at hbit
    exact hr x hx i hi hbit
theorem xm_acy_new {n : Nat} {ne : xF} (h : xm_acy n ne) (h0 : ne n = 0) : xm_acy (n + 1) ne := by
  obtain ⟨rk, M, hM, hr⟩ := h
  refine ⟨rk, M, hM, fun x hx i hi hbit => ?_⟩
  by_cases hxn : x = n
  · subst hxn
    rw [h0, b_0] at hbit; cases hbit
  · obtain ⟨q1, q2⟩ := hr x (by omega) i hi hbit
    exact ⟨by omega, q2⟩
