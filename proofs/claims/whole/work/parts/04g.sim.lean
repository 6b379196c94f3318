theorem xm_pred {k : Nat} (h : 1 ≤ k) : nI k - 1 = nI (k - 1) := by
  obtain ⟨q, rfl⟩ : ∃ q, k = q + 1 := ⟨k - 1, by omega⟩
  exact nI_pred q
theorem xm_x5 (j a : Nat) : (5 : Int32) * nI j + nI a = nI (5 * j + a) := by
  show nI 5 * nI j + nI a = _
  rw [xm_mul, nI_add]
theorem xm_x3 (j a : Nat) : (3 : Int32) * nI j + nI a = nI (3 * j + a) := by
  show nI 3 * nI j + nI a = _
  rw [xm_mul, nI_add]
theorem xm_y5 (j a : Nat) : nI j * (5 : Int32) + nI a = nI (5 * j + a) := by
  show nI j * nI 5 + nI a = _
  rw [xm_mul, nI_add, Nat.mul_comm]
theorem xm_y3 (j a : Nat) : nI j * (3 : Int32) + nI a = nI (3 * j + a) := by
  show nI j * nI 3 + nI a = _
  rw [xm_mul, nI_add, Nat.mul_comm]
theorem xm_100 (j : Nat) : (100 : Int32) + nI j = nI (100 + j) := by
  show nI 100 + nI j = _
  rw [nI_add]
-- the reference's own days
def xm_ms (n : Nat) (l a b : Nat → Nat) (ld rd si : xF) : Prop := ∀ j, j < n → a j = l j → (b j = 0 → ld (5 * j + l j - 1) = si j) ∧ (¬ b j = 0 → rd (3 * j + b j - 1) = si j)
def xm_DU (l m g a b t : Nat → Nat) (j : Nat) : Nat := if a j < l j then 1000 else if b j = m j then 1000 else t j + g j * 2 ^ b j
section XQ
variable {n d : Nat} {le ki wo kt ma ga ne od : xF} {l m g s a b t : Nat → Nat} {th ld rd ll rl si : xF} {lo bf : xF} {la tw : Int32}
theorem xm_duo (hdat : xm_dat n le ma ga od l m g s) (hst : xm_st n d l m ll rl si a b t) (hms : xm_ms n l a b ld rd si) {j : Nat} (hj : j < n) : f_X3_dueOn (nI n, le, ki, wo, kt, ne, ma, ga, lo, od, th, ld, rd, ll, rl, bf, la, tw) (nI j) = some (nI (xm_DU l m g a b t j)) := by
  have h12 := hdat.1
  obtain ⟨⟨hl, hl1, hl5⟩, ⟨hm, hm3⟩, ⟨hg, hg20⟩, -⟩ := hdat.2 j hj
  obtain ⟨⟨ha, hal⟩, ⟨hb, hbm⟩, ⟨ht, ht1⟩, -⟩ := hst j hj
  rw [f_X3_dueOn_e, xm_g (by omega) (by omega), nI_clamp (by omega), ha, hl]
  unfold xm_DU
  by_cases h1 : a j < l j
  · rw [if_pos (nI_lt h1 (by omega)), if_pos h1]; rfl
  · rw [if_neg (nI_nlt (by omega) (by omega)), if_neg h1, hb, hm]
    by_cases h2 : b j = m j
    · rw [if_pos (by rw [h2]), if_pos h2]; rfl
    · rw [if_neg (fun q => h2 (xm_inj (by omega) (by omega) q)), if_neg h2]
      obtain ⟨q1, q2⟩ := hms j hj (by omega)
      have hx : (if nI (b j) = 0 then (if ((5 : Int32) * nI j + nI (l j) - (1 : Int32)) < 0 ∨ 60 ≤ ((5 : Int32) * nI j + nI (l j) - (1 : Int32)).toNatClampNeg then none else some (ld ((5 : Int32) * nI j + nI (l j) - (1 : Int32)).toNatClampNeg)) else (if ((3 : Int32) * nI j + nI (b j) - (1 : Int32)) < 0 ∨ 36 ≤ ((3 : Int32) * nI j + nI (b j) - (1 : Int32)).toNatClampNeg then none else some (rd ((3 : Int32) * nI j + nI (b j) - (1 : Int32)).toNatClampNeg))) = some (nI (t j)) := by
        by_cases h3 : b j = 0
        · rw [if_pos (by rw [h3]; rfl), xm_x5, xm_pred (by omega), xm_g (by omega) (by omega), nI_clamp (by omega), q1 h3, ht]
        · rw [if_neg (nI_ne0 (by omega) (by omega)), xm_x3, xm_pred (by omega), xm_g (by omega) (by omega), nI_clamp (by omega), q2 h3, ht]
      rw [hx, Option.bind_some, hg, xm_shl (g j) (by omega) (b j) (by omega), nI_add]
theorem xm_lfo (hdat : xm_dat n le ma ga od l m g s) (hst : xm_st n d l m ll rl si a b t) (hms : xm_ms n l a b ld rd si) {j : Nat} (hj : j < n) (hdu : xm_due d l m g a b t j = true) : f_X3_lateFrom (nI n, le, ki, wo, kt, ne, ma, ga, lo, od, th, ld, rd, ll, rl, bf, la, tw) (nI j) = some (nI (xm_LT g b t j)) := by
  have h12 := hdat.1
  obtain ⟨-, ⟨hm, hm3⟩, ⟨hg, hg20⟩, -⟩ := hdat.2 j hj
  obtain ⟨-, ⟨hb, hbm⟩, -, -⟩ := hst j hj
  rw [f_X3_lateFrom_e, xm_duo hdat hst hms hj, Option.bind_some, xm_g (by omega) (by omega), nI_clamp (by omega), hg, hb, xm_shl (g j) (by omega) (b j) (by omega), nI_add]
  simp only [xm_due, Bool.and_eq_true, decide_eq_true_eq] at hdu
  have e : xm_DU l m g a b t j = t j + g j * 2 ^ b j := by
    unfold xm_DU
    rw [if_neg (by omega), if_neg (by omega)]
  rw [e]
  unfold xm_LT
  congr 2
  omega
theorem xm_due_DU (hd : d < 100) (hdat : xm_dat n le ma ga od l m g s) (hst : xm_st n d l m ll rl si a b t) {j : Nat} (hj : j < n) : xm_due d l m g a b t j = true ↔ ¬ d < xm_DU l m g a b t j := by
  obtain ⟨⟨ha, hal⟩, ⟨hb, hbm⟩, ⟨ht, ht1⟩, -⟩ := hst j hj
  simp only [xm_due, Bool.and_eq_true, decide_eq_true_eq]
  unfold xm_DU
  by_cases h1 : a j < l j
  · rw [if_pos h1]; constructor
    · intro q; omega
    · intro q; omega
  · rw [if_neg h1]
    by_cases h2 : b j = m j
    · rw [if_pos h2]; constructor
      · intro q; omega
      · intro q; omega
    · rw [if_neg h2]
      generalize g j * 2 ^ b j = z
      constructor
      · intro q; omega
      · intro q; exact ⟨by omega, by omega, by omega⟩
theorem xm_rvc (hd : d < 100) (hdat : xm_dat n le ma ga od l m g s) (hst : xm_st n d l m ll rl si a b t) (hms : xm_ms n l a b ld rd si) : ∀ (c k f : Nat) (x : Option Nat), k + c = n → c < f → (∀ y, x = some y → y < n ∧ xm_due d l m g a b t y = true) →
    f_X3_revisitFor_l4 (nI n) le ki wo kt ne ma ga lo od th ld rd ll rl bf la tw (nI d) f (nI k) (xm_o x) = some (xm_o (xm_mp (xm_due d l m g a b t) (xm_LT g b t) c k x)) := by
  have h12 := hdat.1
  have hLT : ∀ y, y < n → xm_LT g b t y < 2 ^ 31 := fun y hy => by
    obtain ⟨-, ⟨hm, hm3⟩, ⟨hg, hg20⟩, -⟩ := hdat.2 y hy
    obtain ⟨-, ⟨hb, hbm⟩, ⟨ht, ht1⟩, -⟩ := hst y hy
    have hgb := xm_gb hg20 (Nat.le_trans hbm hm3)
    unfold xm_LT
    omega
  have hDU : ∀ y, y < n → xm_DU l m g a b t y < 2 ^ 31 := fun y hy => by
    obtain ⟨-, ⟨hm, hm3⟩, ⟨hg, hg20⟩, -⟩ := hdat.2 y hy
    obtain ⟨-, ⟨hb, hbm⟩, ⟨ht, ht1⟩, -⟩ := hst y hy
    have hgb := xm_gb hg20 (Nat.le_trans hbm hm3)
    unfold xm_DU
    split
    · omega
    · split <;> omega
  intro c
  induction c with
  | zero =>
    intro k f x hk hf hx
    obtain ⟨f, rfl⟩ : ∃ g, f = g + 1 := ⟨f - 1, by omega⟩
    rw [f_X3_revisitFor_l4_s, if_pos (nI_le (by omega) (by omega))]
    rfl
  | succ c ih =>
    intro k f x hk hf hx
    obtain ⟨f, rfl⟩ : ∃ g, f = g + 1 := ⟨f - 1, by omega⟩
    rw [f_X3_revisitFor_l4_s, if_neg (nI_ge (by omega) (by omega)), xm_duo hdat hst hms (by omega : k < n), nI_1, Option.bind_some]
    unfold xm_mp
    by_cases hD : xm_due d l m g a b t k = true
    · rw [if_pos hD, if_neg (nI_nlt (Nat.not_lt.mp ((xm_due_DU hd hdat hst (by omega : k < n)).mp hD)) (by omega))]
      cases x with
      | none =>
        rw [xm_o_none, if_pos (rfl : (-1 : Int32) = -1)]
        exact ih (k + 1) f (some k) (by omega) (by omega) (fun y hy => by obtain rfl := Option.some.inj hy; exact ⟨by omega, hD⟩)
      | some y =>
        obtain ⟨hy, he⟩ := hx y rfl
        rw [xm_o_some, if_neg (xm_m1 (by omega)), xm_lfo hdat hst hms (by omega : k < n) hD, xm_lfo hdat hst hms hy he, Option.bind_some, Option.bind_some]
        by_cases hl : xm_LT g b t y ≤ xm_LT g b t k
        · rw [if_pos (nI_le hl (hLT k (by omega)))]
          simp only [if_pos hl]
          exact ih (k + 1) f (some y) (by omega) (by omega) (fun z hz => by obtain rfl := Option.some.inj hz; exact ⟨hy, he⟩)
        · rw [if_neg (nI_ge (by omega) (hLT y hy))]
          simp only [if_neg hl]
          exact ih (k + 1) f (some k) (by omega) (by omega) (fun z hz => by obtain rfl := Option.some.inj hz; exact ⟨by omega, hD⟩)
    · have hN : d < xm_DU l m g a b t k := by
        apply Classical.byContradiction
        intro q
        exact hD ((xm_due_DU hd hdat hst (by omega : k < n)).mpr q)
      rw [if_neg hD, if_pos (nI_lt hN (hDU k (by omega)))]
      exact ih (k + 1) f x (by omega) (by omega) hx
theorem xm_rvf (hd : d < 100) (hdat : xm_dat n le ma ga od l m g s) (hst : xm_st n d l m ll rl si a b t) (hms : xm_ms n l a b ld rd si) : f_X3_revisitFor (nI n, le, ki, wo, kt, ne, ma, ga, lo, od, th, ld, rd, ll, rl, bf, la, tw) (nI d) = some (xm_o (xm_mp (xm_due d l m g a b t) (xm_LT g b t) n 0 none)) := by
  have h12 := hdat.1
  rw [f_X3_revisitFor_e]
  show Option.bind (f_X3_revisitFor_l4 (nI n) le ki wo kt ne ma ga lo od th ld rd ll rl bf la tw (nI d) 300 (nI 0) (xm_o none)) _ = _
  rw [xm_rvc hd hdat hst hms n 0 300 none (by omega) (by omega) (fun y hy => by cases hy)]
  rfl
theorem xm_nxa (hdat : xm_dat n le ma ga od l m g s) (hst : xm_st n d l m ll rl si a b t) : f_X3_nextAim (nI n, le, ki, wo, kt, ne, ma, ga, lo, od, th, ld, rd, ll, rl, bf, la, tw) = some (xm_sn s (xm_f (xm_un l a s) n 0)) := by
  have h12 := hdat.1
  rw [f_X3_nextAim_e]
  have := xm_nam hdat hst n 300 (Nat.le_refl n) (by omega)
  rw [show xm_f (xm_un l a s) (n - n) n = none by rw [Nat.sub_self]; rfl] at this
  have h : f_X3_nextAim_l9 le od ll 300 (nI n - (1 : Int32)) (-1) = some (xm_sn s (xm_f (xm_un l a s) n 0)) := this
  rw [h]
  rfl
end XQ
