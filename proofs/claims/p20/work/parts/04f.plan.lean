theorem xm_mul (a b : Nat) : nI a * nI b = nI (a * b) := by
  apply Int32.toBitVec_inj.mp
  rw [Int32.toBitVec_mul]
  show BitVec.ofNat 32 a * BitVec.ofNat 32 b = BitVec.ofNat 32 (a * b)
  rw [BitVec.ofNat_mul]
theorem xm_m1 {k : Nat} (h : k < 2 ^ 31) : ¬ nI k = -1 := by
  intro e
  have := congrArg Int32.toInt e
  rw [nI_toInt h, show (-1 : Int32).toInt = -1 from rfl] at this
  omega
theorem xm_inj {a b : Nat} (ha : a < 2 ^ 31) (hb : b < 2 ^ 31) (h : nI a = nI b) : a = b := (nI_eq ha hb).mp h
theorem xm_shl : ∀ g, g < 21 → ∀ b, b < 4 → (nI g <<< (nI b &&& 31)) = nI (g * 2 ^ b) := by decide +kernel
-- the numbers of the aims, and of a plan under way
def xm_dat (n : Nat) (le ma ga od : xF) (l m g s : Nat → Nat) : Prop := n ≤ 12 ∧ ∀ j, j < n → (le j = nI (l j) ∧ 1 ≤ l j ∧ l j ≤ 5) ∧ (ma j = nI (m j) ∧ m j ≤ 3) ∧ (ga j = nI (g j) ∧ g j ≤ 20) ∧ (od j = nI (s j) ∧ s j < n)
def xm_st (n d : Nat) (l m : Nat → Nat) (ll rl si : xF) (a b t : Nat → Nat) : Prop := ∀ j, j < n → (ll j = nI (a j) ∧ a j ≤ l j) ∧ (rl j = nI (b j) ∧ b j ≤ m j) ∧ (si j = nI (t j) ∧ t j < 100) ∧ (a j < l j → b j = 0)
def xm_due (d : Nat) (l m g a b t : Nat → Nat) (j : Nat) : Bool := decide (a j = l j) && (decide (b j < m j) && decide (t j + g j * 2 ^ b j ≤ d))
def xm_LT (g b t : Nat → Nat) (j : Nat) : Nat := t j + 2 * (g j * 2 ^ b j)
theorem xm_gb {g b : Nat} (hg : g ≤ 20) (hb : b ≤ 3) : g * 2 ^ b ≤ 160 := Nat.le_trans (Nat.mul_le_mul hg (Nat.pow_le_pow_right (by decide) hb)) (by decide)
section XP
variable {n d : Nat} {le ki wo kt ma ga ne od : xF} {l m g s a b t : Nat → Nat} {th ld rd ll rl si : xF} {lc tc lu : Int32} (hd : d < 100) (hdat : xm_dat n le ma ga od l m g s) (hst : xm_st n d l m ll rl si a b t)
theorem xm_ng (hdat : xm_dat n le ma ga od l m g s) (hst : xm_st n d l m ll rl si a b t) {j : Nat} (hj : j < n) : f_X0_nextGap (th, ld, rd, ll, rl, si, lc, tc, lu) (nI n, le, ki, wo, kt, ma, ga, ne, od) (nI j) = some (nI (g j * 2 ^ b j)) := by
  obtain ⟨h12, hdat⟩ := hdat
  obtain ⟨-, ⟨hm, hm3⟩, ⟨hg, hg20⟩, -⟩ := hdat j hj
  obtain ⟨-, ⟨hb, hbm⟩, -, -⟩ := hst j hj
  rw [f_X0_nextGap_e, xm_g (by omega) (by omega), nI_clamp (by omega), hg, hb, xm_shl (g j) (by omega) (b j) (by omega)]
theorem xm_lf (hdat : xm_dat n le ma ga od l m g s) (hst : xm_st n d l m ll rl si a b t) {j : Nat} (hj : j < n) : f_X0_lateFrom (th, ld, rd, ll, rl, si, lc, tc, lu) (nI n, le, ki, wo, kt, ma, ga, ne, od) (nI j) = some (nI (xm_LT g b t j)) := by
  have h12 := hdat.1
  obtain ⟨-, -, ⟨ht, -⟩, -⟩ := hst j hj
  rw [f_X0_lateFrom_e, xm_g (by omega) (by omega), nI_clamp (by omega), xm_ng hdat hst hj, ht]
  show some (nI (t j) + nI 2 * nI (g j * 2 ^ b j)) = _
  rw [xm_mul, nI_add]
  rfl
theorem xm_isd (hd : d < 100) (hdat : xm_dat n le ma ga od l m g s) (hst : xm_st n d l m ll rl si a b t) {j : Nat} (hj : j < n) : f_X0_isDue (th, ld, rd, ll, rl, si, lc, tc, lu) (nI n, le, ki, wo, kt, ma, ga, ne, od) (nI j) (nI d) = some (if xm_due d l m g a b t j = true then 1 else 0) := by
  have h12 := hdat.1
  obtain ⟨⟨hl, hl1, hl5⟩, ⟨hm, hm3⟩, ⟨hg, hg20⟩, -⟩ := hdat.2 j hj
  obtain ⟨⟨ha, hal⟩, ⟨hb, hbm⟩, ⟨ht, ht1⟩, -⟩ := hst j hj
  have hgb := xm_gb hg20 (Nat.le_trans hbm hm3)
  rw [f_X0_isDue_e, xm_g (by omega) (by omega), nI_clamp (by omega), ha, hl]
  by_cases h1 : a j < l j
  · rw [if_pos (nI_lt h1 (by omega))]
    rw [if_neg]
    intro h
    simp [xm_due] at h
    omega
  · rw [if_neg (nI_nlt (by omega) (by omega)), hm, hb]
    by_cases h2 : b j < m j
    · rw [if_neg (nI_ge h2 (by omega)), xm_ng hdat hst hj, ht]
      show (if nI d < nI (t j) + nI (g j * 2 ^ b j) then _ else _) = _
      rw [nI_add]
      by_cases h3 : t j + g j * 2 ^ b j ≤ d
      · rw [if_neg (nI_nlt h3 (by omega)), if_pos]
        simp [xm_due, h2, h3]
        omega
      · rw [if_pos (nI_lt (by omega) (by omega)), if_neg]
        intro h
        simp [xm_due] at h
        omega
    · rw [if_pos (nI_le (by omega) (by omega)), if_neg]
      intro h
      simp [xm_due] at h
      omega
def xm_mp (D : Nat → Bool) (LT : Nat → Nat) : Nat → Nat → Option Nat → Option Nat
  | 0, _, b => b
  | c + 1, k, b => xm_mp D LT c (k + 1) (if D k = true then (match b with | none => some k | some x => if LT x ≤ LT k then b else some k) else b)
theorem xm_mp_some {D : Nat → Bool} {LT : Nat → Nat} {n : Nat} : ∀ {c k : Nat} {b : Option Nat} {x : Nat}, k + c = n → (∀ x, b = some x → D x = true ∧ x < n) → xm_mp D LT c k b = some x → D x = true ∧ x < n := by
  intro c
  induction c with
  | zero => intro k b x _ hb h; exact hb x h
  | succ c ih =>
    intro k b x hk hb h
    unfold xm_mp at h
    refine ih (by omega) (fun y hy => ?_) h
    by_cases hD : D k = true
    · rw [if_pos hD] at hy
      cases b with
      | none => obtain rfl := Option.some.inj hy; exact ⟨hD, by omega⟩
      | some z =>
        by_cases hl : LT z ≤ LT k
        · simp only [if_pos hl] at hy; exact hb y hy
        · simp only [if_neg hl] at hy; obtain rfl := Option.some.inj hy; exact ⟨hD, by omega⟩
    · rw [if_neg hD] at hy; exact hb y hy
theorem xm_mpc (hd : d < 100) (hdat : xm_dat n le ma ga od l m g s) (hst : xm_st n d l m ll rl si a b t) : ∀ (c k f : Nat) (e : Int32) (x : Option Nat), k + c = n → c < f → (∀ y, x = some y → y < n ∧ e = nI (xm_LT g b t y)) →
    f_X0_mostPressing_l8 th ld rd ll rl si lc tc lu (nI n) le ki wo kt ma ga ne od (nI d) f (nI k) e (xm_o x) = some (xm_o (xm_mp (xm_due d l m g a b t) (xm_LT g b t) c k x)) := by
  have h12 := hdat.1
  have hLT : ∀ y, y < n → xm_LT g b t y < 2 ^ 31 := fun y hy => by
    obtain ⟨-, ⟨hm, hm3⟩, ⟨hg, hg20⟩, -⟩ := hdat.2 y hy
    obtain ⟨-, ⟨hb, hbm⟩, ⟨ht, ht1⟩, -⟩ := hst y hy
    have hgb := xm_gb hg20 (Nat.le_trans hbm hm3)
    unfold xm_LT
    omega
  intro c
  induction c with
  | zero =>
    intro k f e x hk hf hx
    obtain ⟨f, rfl⟩ : ∃ g, f = g + 1 := ⟨f - 1, by omega⟩
    rw [f_X0_mostPressing_l8_s, if_pos (nI_le (by omega) (by omega))]
    rfl
  | succ c ih =>
    intro k f e x hk hf hx
    obtain ⟨f, rfl⟩ : ∃ g, f = g + 1 := ⟨f - 1, by omega⟩
    rw [f_X0_mostPressing_l8_s, if_neg (nI_ge (by omega) (by omega)), xm_isd hd hdat hst (by omega : k < n), nI_1, xm_lf hdat hst (by omega : k < n)]
    unfold xm_mp
    by_cases hD : xm_due d l m g a b t k = true
    · rw [if_pos hD, if_pos hD]
      first | rw [xm_b1, xm_i1] | rw [Option.bind_some, xm_i1] | rw [xm_i1]
      cases x with
      | none =>
        rw [xm_o_none, Option.bind_some, if_pos (rfl : (-1 : Int32) = -1)]
        exact ih (k + 1) f _ (some k) (by omega) (by omega) (fun y hy => by obtain rfl := Option.some.inj hy; exact ⟨by omega, rfl⟩)
      | some y =>
        obtain ⟨hy, he⟩ := hx y rfl
        rw [xm_o_some, Option.bind_some, if_neg (xm_m1 (by omega)), he]
        by_cases hl : xm_LT g b t y ≤ xm_LT g b t k
        · rw [if_pos (nI_le hl (hLT k (by omega)))]
          simp only [if_pos hl]
          exact ih (k + 1) f _ (some y) (by omega) (by omega) (fun z hz => by obtain rfl := Option.some.inj hz; exact ⟨hy, rfl⟩)
        · rw [if_neg (nI_ge (by omega) (hLT y hy))]
          simp only [if_neg hl]
          exact ih (k + 1) f _ (some k) (by omega) (by omega) (fun z hz => by obtain rfl := Option.some.inj hz; exact ⟨by omega, rfl⟩)
    · rw [if_neg hD, if_neg hD]
      first | rw [xm_b0, xm_i0] | rw [Option.bind_some, xm_i0] | rw [xm_i0]
      exact ih (k + 1) f e x (by omega) (by omega) hx
theorem xm_mpr (hd : d < 100) (hdat : xm_dat n le ma ga od l m g s) (hst : xm_st n d l m ll rl si a b t) : f_X0_mostPressing (th, ld, rd, ll, rl, si, lc, tc, lu) (nI n, le, ki, wo, kt, ma, ga, ne, od) (nI d) = some (xm_o (xm_mp (xm_due d l m g a b t) (xm_LT g b t) n 0 none)) := by
  have h12 := hdat.1
  rw [f_X0_mostPressing_e]
  show Option.bind (f_X0_mostPressing_l8 th ld rd ll rl si lc tc lu (nI n) le ki wo kt ma ga ne od (nI d) 300 (nI 0) 0 (xm_o none)) _ = _
  rw [xm_mpc hd hdat hst n 0 300 0 none (by omega) (by omega) (fun y hy => by cases hy)]
  rfl
-- the next aim with lessons left
def xm_un (l a s : Nat → Nat) (p : Nat) : Bool := decide (a (s p) < l (s p))
def xm_sn (s : Nat → Nat) (o : Option Nat) : Int32 := match o with
  | some p => nI (s p)
  | none => -1
theorem xm_fuc (hdat : xm_dat n le ma ga od l m g s) (hst : xm_st n d l m ll rl si a b t) : ∀ (c k f : Nat), k + c = n → c < f → f_X0_firstUnfinished_l2 ll (nI n) le od f (nI k) = some (xm_sn s (xm_f (xm_un l a s) c k)) := by
  have h12 := hdat.1
  intro c
  induction c with
  | zero =>
    intro k f hk hf
    obtain ⟨f, rfl⟩ : ∃ g, f = g + 1 := ⟨f - 1, by omega⟩
    rw [f_X0_firstUnfinished_l2_s, if_pos (nI_le (by omega) (by omega))]
    rfl
  | succ c ih =>
    intro k f hk hf
    obtain ⟨f, rfl⟩ : ∃ g, f = g + 1 := ⟨f - 1, by omega⟩
    obtain ⟨-, -, -, hs, hsn⟩ := hdat.2 k (by omega)
    obtain ⟨⟨hl, hl1, hl5⟩, -, -, -⟩ := hdat.2 (s k) hsn
    obtain ⟨⟨ha, hal⟩, -, -, -⟩ := hst (s k) hsn
    rw [f_X0_firstUnfinished_l2_s, if_neg (nI_ge (by omega) (by omega)), xm_g (by omega) (by omega), nI_clamp (by omega), hs, xm_g (by omega) (by omega), nI_clamp (by omega), hl, ha, nI_1]
    rw [xm_f_succ]
    by_cases h : a (s k) < l (s k)
    · rw [if_neg (nI_ge h (by omega)), if_pos (by simp [xm_un, h])]
      rfl
    · rw [if_pos (nI_le (by omega) (by omega)), if_neg (by simp [xm_un, h])]
      exact ih (k + 1) f (by omega) (by omega)
theorem xm_fu (hdat : xm_dat n le ma ga od l m g s) (hst : xm_st n d l m ll rl si a b t) : f_X0_firstUnfinished (th, ld, rd, ll, rl, si, lc, tc, lu) (nI n, le, ki, wo, kt, ma, ga, ne, od) = some (xm_sn s (xm_f (xm_un l a s) n 0)) := by
  have h12 := hdat.1
  rw [f_X0_firstUnfinished_e]
  exact xm_fuc hdat hst n 0 300 (by omega) (by omega)
end XP
-- what lies on a day
def xm_th (n : Nat) (x : Int32) : Prop := x = -1 ∨ (∃ j, j < n ∧ x = nI j) ∨ ∃ j, j < n ∧ x = nI (100 + j)
theorem xm_isl {n : Nat} (h12 : n ≤ 12) {x : Int32} (hx : xm_th n x) : (x < 0 ↔ x = -1) ∧ ((¬ x < 0 ∧ ¬ (100 : Int32) ≤ x) ↔ ∃ j, j < n ∧ x = nI j) ∧ ((¬ x < 0 ∧ ¬ nI n ≤ x) ↔ ∃ j, j < n ∧ x = nI j) := by
  rcases hx with h | ⟨j, hj, h⟩ | ⟨j, hj, h⟩
  · subst h
    refine ⟨by decide, ⟨fun h => absurd (by decide) h.1, fun ⟨j, hj, h⟩ => absurd h.symm (xm_m1 (by omega))⟩, ⟨fun h => absurd (by decide) h.1, fun ⟨j, hj, h⟩ => absurd h.symm (xm_m1 (by omega))⟩⟩
  · subst h
    refine ⟨⟨fun h => absurd h (nI_pos (by omega)), fun h => absurd h (xm_m1 (by omega))⟩, ⟨fun _ => ⟨j, hj, rfl⟩, fun _ => ⟨nI_pos (by omega), nI_ge (b := 100) (by omega) (by omega)⟩⟩, ⟨fun _ => ⟨j, hj, rfl⟩, fun _ => ⟨nI_pos (by omega), nI_ge (by omega) (by omega)⟩⟩⟩
  · subst h
    refine ⟨⟨fun h => absurd h (nI_pos (by omega)), fun h => absurd h (xm_m1 (by omega))⟩, ⟨fun h => absurd (nI_le (a := 100) (by omega) (by omega)) h.2, fun ⟨i, hi, h⟩ => ?_⟩, ⟨fun h => absurd (nI_le (by omega) (by omega)) h.2, fun ⟨i, hi, h⟩ => ?_⟩⟩
    · have := xm_inj (by omega) (by omega) h; omega
    · have := xm_inj (by omega) (by omega) h; omega
-- a kit that is kept: somebody else's lesson with the same one on that day
def xm_hk (n : Nat) (kt th : xF) (j : Nat) (k : Nat) : Bool := decide (¬ th k < 0 ∧ ¬ nI n ≤ th k) && (decide (¬ th k = nI j) && decide (kt (th k).toNatClampNeg = kt j))
theorem xm_hk_a {n : Nat} {kt th : xF} {j k : Nat} (h : th k < 0) : xm_hk n kt th j k = false := by
  unfold xm_hk; rw [decide_eq_false (fun q => q.1 h), Bool.false_and]
theorem xm_hk_b {n : Nat} {kt th : xF} {j k : Nat} (h : nI n ≤ th k) : xm_hk n kt th j k = false := by
  unfold xm_hk; rw [decide_eq_false (fun q => q.2 h), Bool.false_and]
theorem xm_hk_c {n : Nat} {kt th : xF} {j k : Nat} (h : th k = nI j) : xm_hk n kt th j k = false := by
  unfold xm_hk; rw [decide_eq_false (p := ¬ th k = nI j) (fun q => q h), Bool.false_and, Bool.and_false]
theorem xm_hk_d {n : Nat} {kt th : xF} {j k : Nat} (h : ¬ kt (th k).toNatClampNeg = kt j) : xm_hk n kt th j k = false := by
  unfold xm_hk; rw [decide_eq_false h, Bool.and_false, Bool.and_false]
theorem xm_hk_e {n : Nat} {kt th : xF} {j k : Nat} (h1 : ¬ th k < 0) (h2 : ¬ nI n ≤ th k) (h3 : ¬ th k = nI j) (h4 : kt (th k).toNatClampNeg = kt j) : xm_hk n kt th j k = true := by
  unfold xm_hk; rw [decide_eq_true h4, decide_eq_true h3, decide_eq_true ⟨h1, h2⟩]; rfl
theorem xm_ikc {n : Nat} (h12 : n ≤ 12) {le ki wo kt ma ga ne od th : xF} {j d : Nat} (hj : j < n) (hd : d ≤ 100) : ∀ (c k f : Nat), k + c = d → c < f → f_X0_isKitTaken_l17 th (nI n) le ki wo kt ma ga ne od (nI j) (nI d) f (nI k) = some (if (xm_f (xm_hk n kt th j) c k).isSome = true then 1 else 0) := by
  intro c
  induction c with
  | zero =>
    intro k f hk hf
    obtain ⟨f, rfl⟩ : ∃ g, f = g + 1 := ⟨f - 1, by omega⟩
    rw [f_X0_isKitTaken_l17_s, if_pos (nI_le (by omega) (by omega))]
    rfl
  | succ c ih =>
    intro k f hk hf
    obtain ⟨f, rfl⟩ : ∃ g, f = g + 1 := ⟨f - 1, by omega⟩
    have ih' := ih (k + 1) f (by omega) (by omega)
    rw [f_X0_isKitTaken_l17_s, if_neg (nI_ge (by omega) (by omega)), if_neg (nI_pos (by omega)), xm_g (by omega) (by omega), nI_clamp (by omega : k < 2 ^ 31), nI_clamp (by omega : j < 2 ^ 31), nI_1, f_X0_isOthersLesson_e]
    by_cases h1 : th k < 0
    · rw [if_pos h1, xm_f_no (xm_hk_a h1)]
      rw [Option.bind_some, xm_i0]; exact ih'
    · rw [if_neg h1]
      by_cases h2 : nI n ≤ th k
      · rw [if_pos h2, xm_f_no (xm_hk_b h2)]
        rw [Option.bind_some, xm_i0]; exact ih'
      · rw [if_neg h2]
        by_cases h3 : th k = nI j
        · rw [if_pos h3, xm_f_no (xm_hk_c h3)]
          rw [Option.bind_some, xm_i0]; exact ih'
        · rw [if_neg h3]
          first | rw [xm_b1, xm_i1] | rw [Option.bind_some, xm_i1] | rw [xm_i1]
          have hin : ¬ (th k < 0 ∨ 12 ≤ (th k).toNatClampNeg) := by
            rintro (q | q)
            · exact h1 q
            · obtain ⟨z, hz, ez⟩ := nI_of h1
              rw [ez] at h2 q
              rw [nI_clamp hz] at q
              exact h2 (nI_le (by omega) hz)
          rw [if_neg hin]
          by_cases h4 : kt (th k).toNatClampNeg = kt j
          · rw [if_pos h4, xm_f_yes (xm_hk_e h1 h2 h3 h4)]
            rfl
          · rw [if_neg h4, xm_f_no (xm_hk_d h4)]
            exact ih'
-- the two days ahead
def xm_held (n : Nat) (kt th : xF) (j d : Nat) : Bool := decide (¬ kt j = -1) && (xm_f (xm_hk n kt th j) (d - (d - 2)) (d - 2)).isSome
theorem xm_ik {n : Nat} (h12 : n ≤ 12) {le ki wo kt ma ga ne od th ld rd ll rl si : xF} {lc tc lu : Int32} {j d : Nat} (hj : j < n) (hd : d < 100) : f_X0_isKitTaken (th, ld, rd, ll, rl, si, lc, tc, lu) (nI n, le, ki, wo, kt, ma, ga, ne, od) (nI j) (nI d) = some (if xm_held n kt th j d = true then 1 else 0) := by
  rw [f_X0_isKitTaken_e, xm_g (by omega) (by omega), nI_clamp (by omega)]
  by_cases hk : kt j = -1
  · rw [if_pos hk, if_neg (by simp [xm_held, hk])]
  · rw [if_neg hk]
    have hh : xm_held n kt th j d = (xm_f (xm_hk n kt th j) (d - (d - 2)) (d - 2)).isSome := by simp [xm_held, hk]
    rw [hh]
    rcases (by omega : d = 0 ∨ d = 1 ∨ 2 ≤ d) with h | h | h
    · subst h
      rw [f_X0_isKitTaken_l17_s, if_neg (by decide), if_pos (by decide), f_X0_isKitTaken_l17_s, if_neg (by decide), if_pos (by decide)]
      exact xm_ikc h12 hj (by omega) 0 0 298 (by omega) (by omega)
    · subst h
      rw [f_X0_isKitTaken_l17_s, if_neg (by decide), if_pos (by decide)]
      exact xm_ikc h12 hj (by omega) 1 0 299 (by omega) (by omega)
    · have e : nI d - (2 : Int32) = nI (d - 2) := by
        have := nI_add (d - 2) 2
        rw [show d - 2 + 2 = d by omega] at this
        rw [← this]
        show nI (d - 2) + nI 2 - nI 2 = _
        rw [Int32.add_sub_cancel]
      rw [e]
      exact xm_ikc h12 hj (by omega) (d - (d - 2)) (d - 2) 300 (by omega) (by omega)
