theorem xm_pred {k : Nat} (h : 1 ≤ k) : nI k - 1 = nI (k - 1) := by
  obtain ⟨q, rfl⟩ : ∃ q, k = q + 1 := ⟨k - 1, by omega⟩
  exact nI_pred q
theorem xm_x5 (j a : Nat) : (5 : Int32) * nI j + nI a = nI (5 * j + a) := by
  show nI 5 * nI j + nI a = _
  rw [xm_mul, nI_add]
theorem xm_x3 (j a : Nat) : (3 : Int32) * nI j + nI a = nI (3 * j + a) := by
  show nI 3 * nI j + nI a = _
  rw [xm_mul, nI_add]
theorem xm_y5 (j a : Nat) : nI j * (5 : Int32) + nI a = nI (5 * j + a) := by
  show nI j * nI 5 + nI a = _
  rw [xm_mul, nI_add, Nat.mul_comm]
theorem xm_y3 (j a : Nat) : nI j * (3 : Int32) + nI a = nI (3 * j + a) := by
  show nI j * nI 3 + nI a = _
  rw [xm_mul, nI_add, Nat.mul_comm]
theorem xm_100 (j : Nat) : (100 : Int32) + nI j = nI (100 + j) := by
  show nI 100 + nI j = _
  rw [nI_add]
-- the reference's own days
def xm_ms (n : Nat) (l a b : Nat → Nat) (ld rd si : xF) : Prop := ∀ j, j < n → a j = l j → (b j = 0 → ld (5 * j + l j - 1) = si j) ∧ (¬ b j = 0 → rd (3 * j + b j - 1) = si j)
def xm_DU (l m g a b t : Nat → Nat) (j : Nat) : Nat := if a j < l j then 1000 else if b j = m j then 1000 else t j + g j * 2 ^ b j
section XQ
variable {n d : Nat} {le ki wo kt ma ga ne od : xF} {l m g s a b t : Nat → Nat} {th ld rd ll rl si : xF} {lo bf : xF} {la tw : Int32}
theorem xm_due_DU (hd : d < 100) (hdat : xm_dat n le ma ga od l m g s) (hst : xm_st n d l m ll rl si a b t) {j : Nat} (hj : j < n) : xm_due d l m g a b t j = true ↔ ¬ d < xm_DU l m g a b t j := by
  obtain ⟨⟨ha, hal⟩, ⟨hb, hbm⟩, ⟨ht, ht1⟩, -⟩ := hst j hj
  simp only [xm_due, Bool.and_eq_true, decide_eq_true_eq]
  unfold xm_DU
  by_cases h1 : a j < l j
  · rw [if_pos h1]; constructor
    · intro q; omega
    · intro q; omega
  · rw [if_neg h1]
    by_cases h2 : b j = m j
    · rw [if_pos h2]; constructor
      · intro q; omega
      · intro q; omega
    · rw [if_neg h2]
      generalize g j * 2 ^ b j = z
      constructor
      · intro q; omega
      · intro q; exact ⟨by omega, by omega, by omega⟩
end XQ
