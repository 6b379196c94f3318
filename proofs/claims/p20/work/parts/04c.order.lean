theorem xm_g {α : Type} {k N : Nat} {X : Option α} (h : k < N) (hN : N < 2 ^ 31) : (if nI k < 0 ∨ N ≤ (nI k).toNatClampNeg then none else X) = X := if_neg (nI_in h hN)
theorem xm_b0 {α : Type} {g : Int32 → Option α} : Option.bind (some (if false = true then (1 : Int32) else 0)) g = g 0 := rfl
theorem xm_b1 {α : Type} {g : Int32 → Option α} : Option.bind (some (if true = true then (1 : Int32) else 0)) g = g 1 := rfl
theorem xm_i0 {α : Type} {A B : α} : (if (0 : Int32) = 0 then A else B) = A := if_pos rfl
theorem xm_i1 {α : Type} {A B : α} : (if (1 : Int32) = 0 then A else B) = B := if_neg (by decide)
theorem xm_bit {x : Int32} {j : Nat} (hj : j < 32) : ((x >>> (nI j &&& 31)) &&& (1 : Int32)) = if bt x j then 1 else 0 := by
  have h1 : ∀ i, i < 32 → bt 1 i = decide (i = 0) := by decide +kernel
  refine b_ext fun i hi => ?_
  rw [b_and, b_sshr j hj x hi, h1 i hi]
  by_cases h0 : i = 0
  · subst h0
    rw [if_pos (by omega : j + 0 < 32)]
    cases hb : bt x j <;> simp [hb, h1 0 (by omega), b_0]
  · cases hb : bt x j <;> simp [h0, h1 i hi, b_0]
theorem xm_has {x : Int32} {j : Nat} (hj : j < 32) : f_X2_has x (nI j) = some (if bt x j then 1 else 0) := by
  rw [f_X2_has_e, xm_bit hj]
  cases bt x j <;> rfl
theorem xm_cov (a b : Int32) : f_X1_isCovered a b = some (if (a &&& (b ^^^ (-1))) = 0 then 1 else 0) := by
  rw [f_X1_isCovered_e]
  by_cases h : (a &&& (b ^^^ (-1))) = 0
  · rw [if_pos h, if_pos h]
  · rw [if_neg h, if_neg h]
theorem xm_covb {a b : Int32} : (a &&& (b ^^^ (-1))) = 0 ↔ ∀ i, i < 32 → bt a i = true → bt b i = true := by
  constructor
  · intro h i hi ha
    have h1 : bt (a &&& (b ^^^ (-1))) i = false := by rw [h, b_0]
    rw [b_and, b_xor, b_m1 i hi, ha] at h1
    cases hb : bt b i
    · rw [hb] at h1; simp at h1
    · rfl
  · intro h
    refine b_ext fun i hi => ?_
    rw [b_and, b_xor, b_m1 i hi, b_0]
    cases ha : bt a i
    · rfl
    · rw [h i hi ha]; rfl
theorem xm_one {j : Nat} (hj : j < 32) {i : Nat} (hi : i < 32) : bt ((1 : Int32) <<< (nI j &&& 31)) i = decide (i = j) := by
  rw [b_shl j hj 1 hi]
  have h1 : ∀ i, i < 32 → bt 1 i = decide (i = 0) := by decide +kernel
  by_cases h : j ≤ i
  · rw [h1 (i - j) (by omega)]
    by_cases h2 : i = j
    · simp [h2]
    · have h3 : ¬ i - j = 0 := by omega
      rw [decide_eq_false h3, decide_eq_false h2, Bool.and_false]
  · have h3 : ¬ i = j := by omega
    rw [decide_eq_false h, decide_eq_false h3, Bool.false_and]
-- the first place with a property
def xm_f (P : Nat → Bool) : Nat → Nat → Option Nat
  | 0, _ => none
  | c + 1, k => if P k = true then some k else xm_f P c (k + 1)
theorem xm_f_succ (P : Nat → Bool) (c k : Nat) : xm_f P (c + 1) k = if P k = true then some k else xm_f P c (k + 1) := rfl
theorem xm_f_no {P : Nat → Bool} {c k : Nat} (h : P k = false) : xm_f P (c + 1) k = xm_f P c (k + 1) := by
  rw [xm_f_succ, h]; rfl
theorem xm_f_yes {P : Nat → Bool} {c k : Nat} (h : P k = true) : xm_f P (c + 1) k = some k := by
  rw [xm_f_succ, h]; rfl
theorem xm_f_some {P : Nat → Bool} : ∀ {c k a : Nat}, xm_f P c k = some a → k ≤ a ∧ a < k + c ∧ P a = true := by
  intro c
  induction c with
  | zero => intro k a h; cases h
  | succ c ih =>
    intro k a h
    rw [xm_f_succ] at h
    by_cases hp : P k = true
    · rw [if_pos hp] at h
      obtain rfl := Option.some.inj h
      exact ⟨Nat.le_refl _, by omega, hp⟩
    · rw [if_neg hp] at h
      obtain ⟨h1, h2, h3⟩ := ih h
      exact ⟨by omega, by omega, h3⟩
theorem xm_f_none {P : Nat → Bool} : ∀ {c k : Nat}, xm_f P c k = none → ∀ j, k ≤ j → j < k + c → P j = false := by
  intro c
  induction c with
  | zero => intro k h j h1 h2; omega
  | succ c ih =>
    intro k h j h1 h2
    rw [xm_f_succ] at h
    by_cases hp : P k = true
    · rw [if_pos hp] at h; cases h
    · rw [if_neg hp] at h
      by_cases hj : j = k
      · subst hj; simpa using hp
      · exact ih h j (by omega) (by omega)
theorem xm_f_ex {P : Nat → Bool} {c k j : Nat} (h1 : k ≤ j) (h2 : j < k + c) (hp : P j = true) : ∃ a, xm_f P c k = some a := by
  cases h : xm_f P c k with
  | some a => exact ⟨a, rfl⟩
  | none => rw [xm_f_none h j h1 h2] at hp; cases hp
def xm_rd (ne : xF) (tk : Int32) (j : Nat) : Bool := !(bt tk j) && decide ((ne j &&& (tk ^^^ (-1))) = 0)
theorem xm_rd_t {ne : xF} {tk : Int32} {j : Nat} (hb : bt tk j = false) (hc : (ne j &&& (tk ^^^ (-1))) = 0) : xm_rd ne tk j = true := by
  unfold xm_rd; rw [hb, decide_eq_true hc]; rfl
theorem xm_rd_f {ne : xF} {tk : Int32} {j : Nat} (hb : bt tk j = true) : xm_rd ne tk j = false := by
  unfold xm_rd; rw [hb]; rfl
theorem xm_rd_g {ne : xF} {tk : Int32} {j : Nat} (hc : ¬ (ne j &&& (tk ^^^ (-1))) = 0) : xm_rd ne tk j = false := by
  unfold xm_rd; rw [decide_eq_false hc, Bool.and_false]
theorem xm_rd_b {ne : xF} {tk : Int32} {j : Nat} (h : xm_rd ne tk j = true) : bt tk j = false := by
  cases hb : bt tk j
  · rfl
  · rw [xm_rd_f hb] at h; cases h
def xm_nx (R K : Nat → Bool) (c k : Nat) : Option Nat := match xm_f (fun j => R j && K j) c k with
  | some a => some a
  | none => xm_f R c k
def xm_o (o : Option Nat) : Int32 := match o with
  | some a => nI a
  | none => -1
theorem xm_o_none : xm_o none = -1 := rfl
theorem xm_o_some (a : Nat) : xm_o (some a) = nI a := rfl
theorem xm_nx_some {R K : Nat → Bool} {c k a : Nat} (h : xm_nx R K c k = some a) : k ≤ a ∧ a < k + c ∧ R a = true := by
  unfold xm_nx at h
  cases h1 : xm_f (fun j => R j && K j) c k with
  | some b =>
    rw [h1] at h
    obtain rfl := Option.some.inj h
    obtain ⟨q1, q2, q3⟩ := xm_f_some h1
    exact ⟨q1, q2, by simp at q3; exact q3.1⟩
  | none => rw [h1] at h; exact xm_f_some h
theorem xm_nx_ex {R K : Nat → Bool} {c k j : Nat} (h1 : k ≤ j) (h2 : j < k + c) (hp : R j = true) : ∃ a, xm_nx R K c k = some a := by
  unfold xm_nx
  cases h : xm_f (fun j => R j && K j) c k with
  | some b => exact ⟨b, rfl⟩
  | none => exact xm_f_ex h1 h2 hp
theorem xm_nx_step (R K : Nat → Bool) (c k : Nat) : xm_nx R K (c + 1) k = if (R k && (K k || !(match xm_nx R K c (k + 1) with | some a => K a | none => false))) = true then some k else xm_nx R K c (k + 1) := by
  unfold xm_nx
  rw [xm_f_succ, xm_f_succ]
  cases h1 : xm_f (fun j => R j && K j) c (k + 1) with
  | some b =>
    obtain ⟨q1, q2, q3⟩ := xm_f_some h1
    simp only [Bool.and_eq_true] at q3
    cases hr : R k <;> cases hk : K k <;> simp [hr, hk, h1, q3.2]
  | none =>
    have n1 := xm_f_none h1
    cases h2 : xm_f R c (k + 1) with
    | some b =>
      obtain ⟨q1, q2, q3⟩ := xm_f_some h2
      have n2 := n1 b q1 q2
      have hkb : K b = false := by simpa [q3] using n2
      cases hr : R k <;> cases hk : K k <;> simp [hr, hk, h1, h2, hkb]
    | none => cases hr : R k <;> cases hk : K k <;> simp [hr, hk, h1, h2]
theorem xm_nt_loop (ki ne : xF) (tk lk : Int32) {n : Nat} (h12 : n ≤ 12) : ∀ (c k fuel : Nat) (lw : Int32), k + c = n → c < fuel →
    f_X1_nextTaken_l5 (nI n) ki ne tk lk fuel (nI k) lw = some (match xm_f (fun j => xm_rd ne tk j && decide (ki j = lk)) c k with
      | some a => nI a
      | none => if lw = -1 then xm_o (xm_f (xm_rd ne tk) c k) else lw) := by
  intro c
  induction c with
  | zero =>
    intro k fuel lw hk hf
    obtain ⟨f, rfl⟩ : ∃ f, fuel = f + 1 := ⟨fuel - 1, by omega⟩
    rw [f_X1_nextTaken_l5_s, if_pos (nI_le (by omega) (by omega))]
    show some lw = some (if lw = -1 then -1 else lw)
    by_cases h : lw = -1
    · rw [if_pos h, h]
    · rw [if_neg h]
  | succ c ih =>
    intro k fuel lw hk hf
    obtain ⟨f, rfl⟩ : ∃ f, fuel = f + 1 := ⟨fuel - 1, by omega⟩
    have e1 : nI k + (1 : Int32) = nI (k + 1) := nI_1 k
    have ecl : (nI k).toNatClampNeg = k := nI_clamp (by omega)
    have hm1 : ¬ nI k = -1 := by
      intro h
      have := congrArg Int32.toInt h
      rw [nI_toInt (by omega), show (-1 : Int32).toInt = -1 from rfl] at this
      omega
    rw [f_X1_nextTaken_l5_s, if_neg (nI_ge (by omega) (by omega)), xm_has (by omega), e1]
    show (if (if bt tk k then (1 : Int32) else 0) = 0 then _ else _) = _
    simp only [xm_f_succ]
    cases hb : bt tk k with
    | true =>
      simp only [if_true]
      rw [if_neg (by decide), ih (k + 1) f lw (by omega) (by omega)]
      simp [xm_rd_f hb]
    | false =>
      simp only [Bool.false_eq_true, if_false, if_true]
      rw [xm_g (by omega) (by omega), ecl, xm_cov]
      show (if (if _ then (1 : Int32) else 0) = 0 then _ else _) = _
      by_cases hc : (ne k &&& (tk ^^^ (-1))) = 0
      · rw [if_pos hc, if_neg (by decide)]
        have hr : xm_rd ne tk k = true := xm_rd_t hb hc
        by_cases hk2 : ki k = lk
        · rw [if_pos hk2]
          simp [hr, hk2]
        · rw [if_neg hk2]
          by_cases hl : lw = -1
          · rw [if_pos hl, ih (k + 1) f _ (by omega) (by omega)]
            simp [hr, hk2, hl, hm1, xm_o]
          · rw [if_neg hl, ih (k + 1) f _ (by omega) (by omega)]
            simp [hr, hk2, hl]
      · rw [if_neg hc, if_pos rfl, ih (k + 1) f lw (by omega) (by omega)]
        simp [xm_rd_g hc]
theorem xm_nt {ct : Int32} {le ki wo kt ma ga ne od : xF} (tk lk : Int32) {n : Nat} (hn : ct = nI n) (h12 : n ≤ 12) : f_X1_nextTaken (ct, le, ki, wo, kt, ma, ga, ne, od) tk lk = some (xm_o (xm_nx (xm_rd ne tk) (fun j => decide (ki j = lk)) n 0)) := by
  subst hn
  rw [f_X1_nextTaken_e]
  show f_X1_nextTaken_l5 (nI n) ki ne tk lk 300 (nI 0) (-1) = _
  rw [xm_nt_loop ki ne tk lk h12 n 0 300 (-1) (by omega) (by omega), if_pos rfl]
  unfold xm_nx
  cases xm_f (fun j => xm_rd ne tk j && decide (ki j = lk)) n 0 <;> rfl
-- the reference's inner loop
theorem xm_sub1 (k : Nat) : nI k + (-1 : Int32) = nI k - 1 := by
  rw [Int32.sub_eq_add_neg]
-- both orders, side by side
def xm_acy (n : Nat) (ne : xF) : Prop := ∃ (rk : Nat → Nat) (M : Nat), (∀ a, rk a < M) ∧ ∀ a, a < n → ∀ b, b < 32 → bt (ne a) b = true → b < n ∧ rk b < rk a
theorem xm_ready {n : Nat} {ne : xF} {tk : Int32} (h12 : n ≤ 12) (ha : xm_acy n ne) {a : Nat} (han : a < n) (hat : bt tk a = false) : ∃ j, j < n ∧ xm_rd ne tk j = true := by
  obtain ⟨rk, M, hM, hr⟩ := ha
  have key : ∀ (r a : Nat), rk a = r → a < n → bt tk a = false → ∃ j, j < n ∧ xm_rd ne tk j = true := by
    intro r
    induction r using Nat.strongRecOn with
    | ind r ih =>
      intro a hra ha hb
      by_cases hc : (ne a &&& (tk ^^^ (-1))) = 0
      · exact ⟨a, ha, xm_rd_t hb hc⟩
      · have hx : ∃ b, b < 32 ∧ bt (ne a) b = true ∧ bt tk b = false := by
          apply Classical.byContradiction
          intro hno
          refine hc (xm_covb.mpr fun i hi hi2 => ?_)
          cases hq : bt tk i
          · exact absurd ⟨i, hi, hi2, hq⟩ hno
          · rfl
        obtain ⟨b, hb1, hb2, hb3⟩ := hx
        obtain ⟨h1, h2⟩ := hr a ha b hb1 hb2
        exact ih (rk b) (by omega) b rfl h1 hb3
  exact key (rk a) a rfl han hat
theorem xm_tk_add {tk : Int32} {a n : Nat} (ha : a < n) (h12 : n ≤ 12) (hb : bt tk a = false) (hs : ∀ i, bt tk i = true → i < n) : fb_ct (bt (tk ||| ((1 : Int32) <<< (nI a &&& 31)))) n = fb_ct (bt tk) n + 1 ∧ ∀ i, bt (tk ||| ((1 : Int32) <<< (nI a &&& 31))) i = true → i < n := by
  have hp : ∀ i, i < 32 → bt (tk ||| ((1 : Int32) <<< (nI a &&& 31))) i = (if i = a then true else bt tk i) := by
    intro i hi
    rw [b_or, xm_one (by omega) hi]
    by_cases h : i = a <;> simp [h]
  constructor
  · have e : fb_ct (bt (tk ||| ((1 : Int32) <<< (nI a &&& 31)))) n = fb_ct (fun k => if k = a then true else bt tk k) n := fb_ct_cong (fun k hk => hp k (by omega))
    have u := fb_ct_upd (bt tk) true ha
    rw [hb] at u
    simp only [Bool.false_eq_true, if_false, if_true, Nat.add_zero] at u
    rw [e, u]
  · intro i hi
    by_cases h32 : i < 32
    · rw [hp i h32] at hi
      by_cases h : i = a
      · omega
      · rw [if_neg h] at hi; exact hs i hi
    · rw [b_big (by omega)] at hi; cases hi
-- what the class's order is: whatever lay there, the reference makes the same
