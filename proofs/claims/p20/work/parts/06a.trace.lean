theorem xm_f_first {P : Nat → Bool} : ∀ {c k a : Nat}, xm_f P c k = some a → ∀ j, k ≤ j → j < a → P j = false := by
  intro c
  induction c with
  | zero => intro k a h; cases h
  | succ c ih =>
    intro k a h j h1 h2
    rw [xm_f_succ] at h
    by_cases hp : P k = true
    · rw [if_pos hp] at h
      obtain rfl := Option.some.inj h
      omega
    · rw [if_neg hp] at h
      by_cases e : j = k
      · subst e; simpa using hp
      · exact ih h j (by omega) h2
-- counters
def xq_cnt (P : Nat → Bool) (C : Nat → Nat) : Prop := C 0 = 0 ∧ ∀ d, C (d + 1) = if P d = true then C d + 1 else C d
def xq_w (P : Nat → Bool) (C : Nat → Nat) (i d : Nat) : Option Nat := xm_f (fun q => P q && decide (C q = i)) d 0
section XC
variable {P : Nat → Bool} {C : Nat → Nat}
theorem xq_mono (h : xq_cnt P C) : ∀ (e d : Nat), C d ≤ C (d + e) := by
  intro e
  induction e with
  | zero => intro d; exact Nat.le_refl _
  | succ e ih =>
    intro d
    have h1 := ih d
    have h2 := h.2 (d + e)
    rw [← Nat.add_assoc, h2]
    by_cases hp : P (d + e) = true
    · rw [if_pos hp]; omega
    · rw [if_neg hp]; exact h1
theorem xq_le (h : xq_cnt P C) {d e : Nat} (hd : d ≤ e) : C d ≤ C e := by
  have := xq_mono h (e - d) d
  rwa [show d + (e - d) = e by omega] at this
theorem xq_lt (h : xq_cnt P C) {d e : Nat} (hp : P d = true) (hd : d < e) : C d < C e := by
  have h1 := h.2 d
  rw [if_pos hp] at h1
  have h2 := xq_le h (d := d + 1) (e := e) (by omega)
  omega
theorem xq_uni (h : xq_cnt P C) {q q' : Nat} (h1 : P q = true) (h2 : P q' = true) (e : C q = C q') : q = q' := by
  rcases Nat.lt_trichotomy q q' with z | z | z
  · have := xq_lt h h1 z; omega
  · exact z
  · have := xq_lt h h2 z; omega
theorem xq_w_some {i d q : Nat} (hw : xq_w P C i d = some q) : q < d ∧ P q = true ∧ C q = i := by
  obtain ⟨h1, h2, h3⟩ := xm_f_some hw
  simp only [Bool.and_eq_true, decide_eq_true_eq] at h3
  exact ⟨by omega, h3.1, h3.2⟩
theorem xq_w_of (h : xq_cnt P C) {i d q : Nat} (hq : q < d) (h1 : P q = true) (h2 : C q = i) : xq_w P C i d = some q := by
  obtain ⟨a, ha⟩ := xm_f_ex (P := fun q => P q && decide (C q = i)) (c := d) (k := 0) (j := q) (by omega) (by omega) (by simp [h1, h2])
  have hs := xq_w_some (P := P) (C := C) (i := i) (d := d) (q := a) ha
  have e : a = q := xq_uni h hs.2.1 h1 (hs.2.2.trans h2.symm)
  rw [← e]; exact ha
theorem xq_w_none {i d : Nat} (hw : xq_w P C i d = none) : ∀ q, q < d → P q = true → ¬ C q = i := by
  intro q hq h1 h2
  have := xm_f_none hw q (by omega) (by omega)
  simp [h1, h2] at this
theorem xq_w_lt (h : xq_cnt P C) : ∀ (d i : Nat), i < C d ↔ ∃ q, xq_w P C i d = some q := by
  intro d
  induction d with
  | zero =>
    intro i
    rw [h.1]
    exact ⟨fun z => by omega, fun ⟨q, hq⟩ => by have := (xq_w_some hq).1; omega⟩
  | succ d ih =>
    intro i
    rw [h.2 d]
    constructor
    · intro hi
      by_cases hp : P d = true
      · rw [if_pos hp] at hi
        by_cases e : i = C d
        · exact ⟨d, xq_w_of h (by omega) hp e.symm⟩
        · obtain ⟨q, hq⟩ := (ih i).mp (by omega)
          obtain ⟨a, b, c⟩ := xq_w_some hq
          exact ⟨q, xq_w_of h (by omega) b c⟩
      · rw [if_neg hp] at hi
        obtain ⟨q, hq⟩ := (ih i).mp hi
        obtain ⟨a, b, c⟩ := xq_w_some hq
        exact ⟨q, xq_w_of h (by omega) b c⟩
    · rintro ⟨q, hq⟩
      obtain ⟨a, b, c⟩ := xq_w_some hq
      by_cases hp : P d = true
      · rw [if_pos hp]
        by_cases e : q = d
        · subst e; omega
        · have := xq_lt h b (show q < d by omega); omega
      · rw [if_neg hp]
        have e : ¬ q = d := fun e => hp (e ▸ b)
        have := xq_lt h b (show q < d by omega); omega
theorem xq_w_more (h : xq_cnt P C) {i d e q : Nat} (hd : d ≤ e) (hw : xq_w P C i d = some q) : xq_w P C i e = some q := by
  obtain ⟨a, b, c⟩ := xq_w_some hw
  exact xq_w_of h (by omega) b c
theorem xq_w_less (h : xq_cnt P C) {i d e q : Nat} (hw : xq_w P C i e = some q) (hq : q < d) : xq_w P C i d = some q := by
  obtain ⟨a, b, c⟩ := xq_w_some hw
  exact xq_w_of h hq b c
theorem xq_w_succ (h : xq_cnt P C) (i d : Nat) : xq_w P C i (d + 1) = if P d = true ∧ C d = i then some d else xq_w P C i d := by
  by_cases hc : P d = true ∧ C d = i
  · rw [if_pos hc]; exact xq_w_of h (by omega) hc.1 hc.2
  · rw [if_neg hc]
    cases hw : xq_w P C i d with
    | some q => exact xq_w_more h (by omega) hw
    | none =>
      cases hz : xq_w P C i (d + 1) with
      | none => rfl
      | some q =>
        obtain ⟨a, b, c⟩ := xq_w_some hz
        by_cases e : q = d
        · subst e; exact absurd ⟨b, c⟩ hc
        · exact absurd c (xq_w_none hw q (by omega) b)
theorem xq_w_ord (h : xq_cnt P C) {i i' d q q' : Nat} (hw : xq_w P C i d = some q) (hw' : xq_w P C i' d = some q') (hi : i < i') : q < q' := by
  obtain ⟨a, b, c⟩ := xq_w_some hw
  obtain ⟨a', b', c'⟩ := xq_w_some hw'
  rcases Nat.lt_or_ge q q' with z | z
  · exact z
  · have := xq_le h z; omega
theorem xq_w_zero {i : Nat} : xq_w P C i 0 = none := rfl
end XC
-- the trace of a plan
def xq_ch (n : Nat) (l m g s : Nat → Nat) (kt lo : xF) (d : Nat) (a b t : Nat → Nat) (pk : Nat → Option Nat) : Option Nat :=
  if lo d = 0 then
    (match xm_mp (xm_due d l m g a b t) (xm_LT g b t) n 0 none with
    | some j => some (100 + j)
    | none => (match xm_f (xm_un l a s) n 0 with
      | some p => if xm_held n kt (fun k => xm_o (pk k)) (s p) d = true then none else some (s p)
      | none => none))
  else none
theorem xq_ch_lost {n : Nat} {l m g s : Nat → Nat} {kt lo : xF} {d : Nat} {a b t : Nat → Nat} {pk : Nat → Option Nat} (h : ¬ lo d = 0) : xq_ch n l m g s kt lo d a b t pk = none := if_neg h
theorem xq_ch_rev {n : Nat} {l m g s : Nat → Nat} {kt lo : xF} {d : Nat} {a b t : Nat → Nat} {pk : Nat → Option Nat} (h : lo d = 0) {j : Nat} (hj : xm_mp (xm_due d l m g a b t) (xm_LT g b t) n 0 none = some j) : xq_ch n l m g s kt lo d a b t pk = some (100 + j) := by
  unfold xq_ch; rw [if_pos h, hj]
theorem xq_ch_no {n : Nat} {l m g s : Nat → Nat} {kt lo : xF} {d : Nat} {a b t : Nat → Nat} {pk : Nat → Option Nat} (h : lo d = 0) (hj : xm_mp (xm_due d l m g a b t) (xm_LT g b t) n 0 none = none) (hf : xm_f (xm_un l a s) n 0 = none) : xq_ch n l m g s kt lo d a b t pk = none := by
  unfold xq_ch; rw [if_pos h, hj, hf]
theorem xq_ch_les {n : Nat} {l m g s : Nat → Nat} {kt lo : xF} {d : Nat} {a b t : Nat → Nat} {pk : Nat → Option Nat} (h : lo d = 0) (hj : xm_mp (xm_due d l m g a b t) (xm_LT g b t) n 0 none = none) {p : Nat} (hf : xm_f (xm_un l a s) n 0 = some p) : xq_ch n l m g s kt lo d a b t pk = if xm_held n kt (fun k => xm_o (pk k)) (s p) d = true then none else some (s p) := by
  unfold xq_ch; rw [if_pos h, hj, hf]
theorem xq_ch_cong {n : Nat} {l m g s : Nat → Nat} {kt lo lo2 : xF} {d : Nat} {a b t : Nat → Nat} {pk pk2 : Nat → Option Nat} (hl : lo2 d = lo d) (h : ∀ k, k < d → pk2 k = pk k) : xq_ch n l m g s kt lo2 d a b t pk2 = xq_ch n l m g s kt lo d a b t pk := by
  have e : ∀ j, xm_held n kt (fun k => xm_o (pk2 k)) j d = xm_held n kt (fun k => xm_o (pk k)) j d := fun j => xm_held_cong (fun k hk => by rw [h k hk])
  unfold xq_ch
  rw [hl]
  simp only [e]
def xq_tr (n : Nat) (l m g s : Nat → Nat) (kt lo : xF) (A B T : Nat → Nat → Nat) (pk : Nat → Option Nat) : Prop :=
  (∀ j, A 0 j = 0 ∧ B 0 j = 0 ∧ T 0 j = 0) ∧ ∀ d, pk d = xq_ch n l m g s kt lo d (A d) (B d) (T d) pk ∧ ∀ j, A (d + 1) j = (if pk d = some j then A d j + 1 else A d j) ∧ B (d + 1) j = (if pk d = some (100 + j) then B d j + 1 else B d j) ∧ T (d + 1) j = (if pk d = some j ∨ pk d = some (100 + j) then d else T d j)
abbrev xq_S : Type := (Nat → Nat) × (Nat → Nat) × (Nat → Nat) × (Nat → Option Nat)
def xq_at (n : Nat) (l m g s : Nat → Nat) (kt lo : xF) : Nat → xq_S
  | 0 => (fun _ => 0, fun _ => 0, fun _ => 0, fun _ => none)
  | d + 1 => (fun j => if xq_ch n l m g s kt lo d (xq_at n l m g s kt lo d).1 (xq_at n l m g s kt lo d).2.1 (xq_at n l m g s kt lo d).2.2.1 (xq_at n l m g s kt lo d).2.2.2 = some j then (xq_at n l m g s kt lo d).1 j + 1 else (xq_at n l m g s kt lo d).1 j,
    fun j => if xq_ch n l m g s kt lo d (xq_at n l m g s kt lo d).1 (xq_at n l m g s kt lo d).2.1 (xq_at n l m g s kt lo d).2.2.1 (xq_at n l m g s kt lo d).2.2.2 = some (100 + j) then (xq_at n l m g s kt lo d).2.1 j + 1 else (xq_at n l m g s kt lo d).2.1 j,
    fun j => if xq_ch n l m g s kt lo d (xq_at n l m g s kt lo d).1 (xq_at n l m g s kt lo d).2.1 (xq_at n l m g s kt lo d).2.2.1 (xq_at n l m g s kt lo d).2.2.2 = some j ∨ xq_ch n l m g s kt lo d (xq_at n l m g s kt lo d).1 (xq_at n l m g s kt lo d).2.1 (xq_at n l m g s kt lo d).2.2.1 (xq_at n l m g s kt lo d).2.2.2 = some (100 + j) then d else (xq_at n l m g s kt lo d).2.2.1 j,
    fun k => if k = d then xq_ch n l m g s kt lo d (xq_at n l m g s kt lo d).1 (xq_at n l m g s kt lo d).2.1 (xq_at n l m g s kt lo d).2.2.1 (xq_at n l m g s kt lo d).2.2.2 else (xq_at n l m g s kt lo d).2.2.2 k)
theorem xq_ex (n : Nat) (l m g s : Nat → Nat) (kt lo : xF) : ∃ (A B T : Nat → Nat → Nat) (pk : Nat → Option Nat), xq_tr n l m g s kt lo A B T pk := by
  let z := xq_at n l m g s kt lo
  let x : Nat → Option Nat := fun d => xq_ch n l m g s kt lo d (z d).1 (z d).2.1 (z d).2.2.1 (z d).2.2.2
  have hx : ∀ d k, k < d → (z d).2.2.2 k = x k := by
    intro d
    induction d with
    | zero => intro k hk; omega
    | succ d ih =>
      intro k hk
      show (if k = d then x d else (z d).2.2.2 k) = x k
      by_cases e : k = d
      · rw [if_pos e, e]
      · rw [if_neg e]; exact ih k (by omega)
  refine ⟨fun d => (z d).1, fun d => (z d).2.1, fun d => (z d).2.2.1, x, fun j => ⟨rfl, rfl, rfl⟩, fun d => ⟨?_, fun j => ⟨rfl, rfl, rfl⟩⟩⟩
  show xq_ch n l m g s kt lo d (z d).1 (z d).2.1 (z d).2.2.1 (z d).2.2.2 = _
  exact xq_ch_cong rfl (hx d)
-- two plans that differ from a day on
theorem xq_same {n : Nat} {l m g s : Nat → Nat} {kt lo lo2 : xF} {A B T A2 B2 T2 : Nat → Nat → Nat} {pk pk2 : Nat → Option Nat} (h : xq_tr n l m g s kt lo A B T pk) (h2 : xq_tr n l m g s kt lo2 A2 B2 T2 pk2) {D : Nat} (hl : ∀ d, d < D → lo2 d = lo d) : ∀ d, d ≤ D → A2 d = A d ∧ B2 d = B d ∧ T2 d = T d ∧ ∀ k, k < d → pk2 k = pk k := by
  intro d
  induction d with
  | zero =>
    intro _
    refine ⟨funext fun j => ?_, funext fun j => ?_, funext fun j => ?_, fun k hk => by omega⟩
    · rw [(h.1 j).1, (h2.1 j).1]
    · rw [(h.1 j).2.1, (h2.1 j).2.1]
    · rw [(h.1 j).2.2, (h2.1 j).2.2]
  | succ d ih =>
    intro hd
    obtain ⟨e1, e2, e3, e4⟩ := ih (by omega)
    have ep : pk2 d = pk d := by
      rw [(h.2 d).1, (h2.2 d).1, e1, e2, e3]
      exact xq_ch_cong (hl d (by omega)) e4
    refine ⟨funext fun j => ?_, funext fun j => ?_, funext fun j => ?_, fun k hk => ?_⟩
    · rw [((h.2 d).2 j).1, ((h2.2 d).2 j).1, ep, e1]
    · rw [((h.2 d).2 j).2.1, ((h2.2 d).2 j).2.1, ep, e2]
    · rw [((h.2 d).2 j).2.2, ((h2.2 d).2 j).2.2, ep, e3]
    · by_cases e : k = d
      · rw [e]; exact ep
      · exact e4 k (by omega)
-- the numbers of the aims
def xq_dat (n : Nat) (l m g s : Nat → Nat) : Prop := n ≤ 12 ∧ (∀ j, j < n → 1 ≤ l j ∧ l j ≤ 5 ∧ m j ≤ 3 ∧ g j ≤ 20) ∧ (∀ p, p < n → s p < n) ∧ ∀ p, p < n → ∀ p', p' < n → s p = s p' → p = p'
section XT
variable {n : Nat} {l m g s : Nat → Nat} {kt lo : xF} {A B T : Nat → Nat → Nat} {pk : Nat → Option Nat}
theorem xq_pick (hd : xq_dat n l m g s) (h : xq_tr n l m g s kt lo A B T pk) {d x : Nat} (hx : pk d = some x) : lo d = 0 ∧ ((∃ p, p < n ∧ x = s p ∧ A d (s p) < l (s p) ∧ ∀ p', p' < p → ¬ A d (s p') < l (s p')) ∨ ∃ j, j < n ∧ x = 100 + j ∧ xm_due d l m g (A d) (B d) (T d) j = true) := by
  rw [(h.2 d).1] at hx
  by_cases hl : lo d = 0
  · refine ⟨hl, ?_⟩
    cases hm : xm_mp (xm_due d l m g (A d) (B d) (T d)) (xm_LT g (B d) (T d)) n 0 none with
    | some j =>
      rw [xq_ch_rev hl hm] at hx
      obtain ⟨h1, h2⟩ := xm_mp_some (n := n) (by omega) (fun x hx => by cases hx) hm
      exact Or.inr ⟨j, h2, (Option.some.inj hx).symm, h1⟩
    | none =>
      cases hf : xm_f (xm_un l (A d) s) n 0 with
      | none => rw [xq_ch_no hl hm hf] at hx; cases hx
      | some p =>
        rw [xq_ch_les hl hm hf] at hx
        by_cases hh : xm_held n kt (fun k => xm_o (pk k)) (s p) d = true
        · rw [if_pos hh] at hx; cases hx
        · rw [if_neg hh] at hx
          obtain ⟨h1, h2, h3⟩ := xm_f_some hf
          refine Or.inl ⟨p, by omega, (Option.some.inj hx).symm, of_decide_eq_true h3, fun p' hp' => ?_⟩
          exact of_decide_eq_false (xm_f_first hf p' (by omega) hp')
  · rw [xq_ch_lost hl] at hx; cases hx
theorem xq_pick_lt (hd : xq_dat n l m g s) (h : xq_tr n l m g s kt lo A B T pk) {d x : Nat} (hx : pk d = some x) : x < 112 ∧ (x < 100 → x < n) ∧ (100 ≤ x → x - 100 < n) := by
  obtain ⟨h12, h1, h2, h3⟩ := hd
  obtain ⟨-, ⟨p, q1, q2, -⟩ | ⟨j, q1, q2, -⟩⟩ := xq_pick ⟨h12, h1, h2, h3⟩ h hx
  · have := h2 p q1; omega
  · omega
theorem xq_les (hd : xq_dat n l m g s) (h : xq_tr n l m g s kt lo A B T pk) {d j : Nat} (hj : j < 100) (hx : pk d = some j) : j < n ∧ A d j < l j := by
  obtain ⟨h12, h1, h2, h3⟩ := hd
  obtain ⟨-, ⟨p, q1, q2, q3, -⟩ | ⟨i, q1, q2, -⟩⟩ := xq_pick ⟨h12, h1, h2, h3⟩ h hx
  · rw [q2]; exact ⟨h2 p q1, q3⟩
  · omega
theorem xq_rev (hd : xq_dat n l m g s) (h : xq_tr n l m g s kt lo A B T pk) {d j : Nat} (hx : pk d = some (100 + j)) : j < n ∧ A d j = l j ∧ B d j < m j ∧ T d j + g j * 2 ^ B d j ≤ d := by
  obtain ⟨h12, h1, h2, h3⟩ := hd
  obtain ⟨-, ⟨p, q1, q2, -⟩ | ⟨i, q1, q2, q3⟩⟩ := xq_pick ⟨h12, h1, h2, h3⟩ h hx
  · have := h2 p q1; omega
  · obtain rfl : j = i := by omega
    simp only [xm_due, Bool.and_eq_true, decide_eq_true_eq] at q3
    exact ⟨q1, q3.1, q3.2.1, q3.2.2⟩
theorem xq_cA (h : xq_tr n l m g s kt lo A B T pk) (j : Nat) : xq_cnt (fun d => decide (pk d = some j)) (fun d => A d j) := ⟨(h.1 j).1, fun d => by simp only [decide_eq_true_eq]; exact ((h.2 d).2 j).1⟩
theorem xq_cB (h : xq_tr n l m g s kt lo A B T pk) (j : Nat) : xq_cnt (fun d => decide (pk d = some (100 + j))) (fun d => B d j) := ⟨(h.1 j).2.1, fun d => by simp only [decide_eq_true_eq]; exact ((h.2 d).2 j).2.1⟩
theorem xq_bnd (hd : xq_dat n l m g s) (h : xq_tr n l m g s kt lo A B T pk) {j : Nat} (hj : j < n) : ∀ d, A d j ≤ l j ∧ B d j ≤ m j ∧ (A d j < l j → B d j = 0) ∧ T d j ≤ d - 1 := by
  have h12 := hd.1
  intro d
  induction d with
  | zero =>
    obtain ⟨e1, e2, e3⟩ := h.1 j
    rw [e1, e2, e3]
    exact ⟨Nat.zero_le _, Nat.zero_le _, fun _ => rfl, Nat.le_refl _⟩
  | succ d ih =>
    obtain ⟨i1, i2, i3, i4⟩ := ih
    obtain ⟨e1, e2, e3⟩ := (h.2 d).2 j
    rw [e1, e2, e3]
    by_cases h1 : pk d = some j
    · obtain ⟨q1, q2⟩ := xq_les hd h (by omega) h1
      have h2 : ¬ pk d = some (100 + j) := by rw [h1]; intro z; have := Option.some.inj z; omega
      rw [if_pos h1, if_neg h2, if_pos (Or.inl h1)]
      exact ⟨by omega, i2, fun z => i3 (by omega), by omega⟩
    · by_cases h2 : pk d = some (100 + j)
      · obtain ⟨q1, q2, q3, q4⟩ := xq_rev hd h h2
        rw [if_neg h1, if_pos h2, if_pos (Or.inr h2)]
        exact ⟨i1, by omega, fun z => by omega, by omega⟩
      · rw [if_neg h1, if_neg h2, if_neg (fun z => z.elim h1 h2)]
        exact ⟨i1, i2, i3, by omega⟩
-- when a lesson, when a revisit is laid
def xq_E (A : Nat → Nat → Nat) (pk : Nat → Option Nat) (d j i : Nat) : Option Nat := xq_w (fun d => decide (pk d = some j)) (fun d => A d j) i d
def xq_V (B : Nat → Nat → Nat) (pk : Nat → Option Nat) (d j i : Nat) : Option Nat := xq_w (fun d => decide (pk d = some (100 + j))) (fun d => B d j) i d
theorem xq_E_some {d j i q : Nat} (he : xq_E A pk d j i = some q) : q < d ∧ pk q = some j ∧ A q j = i := by
  obtain ⟨a, b, c⟩ := xq_w_some he
  exact ⟨a, of_decide_eq_true b, c⟩
theorem xq_V_some {d j i q : Nat} (he : xq_V B pk d j i = some q) : q < d ∧ pk q = some (100 + j) ∧ B q j = i := by
  obtain ⟨a, b, c⟩ := xq_w_some he
  exact ⟨a, of_decide_eq_true b, c⟩
theorem xq_E_of (h : xq_tr n l m g s kt lo A B T pk) {d j i q : Nat} (hq : q < d) (h1 : pk q = some j) (h2 : A q j = i) : xq_E A pk d j i = some q := xq_w_of (xq_cA h j) hq (decide_eq_true h1) h2
theorem xq_V_of (h : xq_tr n l m g s kt lo A B T pk) {d j i q : Nat} (hq : q < d) (h1 : pk q = some (100 + j)) (h2 : B q j = i) : xq_V B pk d j i = some q := xq_w_of (xq_cB h j) hq (decide_eq_true h1) h2
theorem xq_E_lt (h : xq_tr n l m g s kt lo A B T pk) (d j i : Nat) : i < A d j ↔ ∃ q, xq_E A pk d j i = some q := xq_w_lt (xq_cA h j) d i
theorem xq_V_lt (h : xq_tr n l m g s kt lo A B T pk) (d j i : Nat) : i < B d j ↔ ∃ q, xq_V B pk d j i = some q := xq_w_lt (xq_cB h j) d i
theorem xq_E_succ (h : xq_tr n l m g s kt lo A B T pk) (d j i : Nat) : xq_E A pk (d + 1) j i = if pk d = some j ∧ A d j = i then some d else xq_E A pk d j i := by
  have := xq_w_succ (xq_cA h j) i d
  simp only [decide_eq_true_eq] at this
  exact this
theorem xq_V_succ (h : xq_tr n l m g s kt lo A B T pk) (d j i : Nat) : xq_V B pk (d + 1) j i = if pk d = some (100 + j) ∧ B d j = i then some d else xq_V B pk d j i := by
  have := xq_w_succ (xq_cB h j) i d
  simp only [decide_eq_true_eq] at this
  exact this
theorem xq_E_more (h : xq_tr n l m g s kt lo A B T pk) {d e j i q : Nat} (hd : d ≤ e) (hw : xq_E A pk d j i = some q) : xq_E A pk e j i = some q := xq_w_more (xq_cA h j) hd hw
theorem xq_V_more (h : xq_tr n l m g s kt lo A B T pk) {d e j i q : Nat} (hd : d ≤ e) (hw : xq_V B pk d j i = some q) : xq_V B pk e j i = some q := xq_w_more (xq_cB h j) hd hw
theorem xq_E_less (h : xq_tr n l m g s kt lo A B T pk) {d e j i q : Nat} (hw : xq_E A pk e j i = some q) (hq : q < d) : xq_E A pk d j i = some q := xq_w_less (xq_cA h j) hw hq
theorem xq_V_less (h : xq_tr n l m g s kt lo A B T pk) {d e j i q : Nat} (hw : xq_V B pk e j i = some q) (hq : q < d) : xq_V B pk d j i = some q := xq_w_less (xq_cB h j) hw hq
/-- counted at a day by what is laid ahead of it -/
theorem xq_A_of (h : xq_tr n l m g s kt lo A B T pk) {d D j i : Nat} (hd : d ≤ D) : i < A d j ↔ ∃ q, q < d ∧ xq_E A pk D j i = some q := by
  rw [xq_E_lt h]
  exact ⟨fun ⟨q, hq⟩ => ⟨q, (xq_E_some hq).1, xq_E_more h hd hq⟩, fun ⟨q, h1, h2⟩ => ⟨q, xq_E_less h h2 h1⟩⟩
theorem xq_B_of (h : xq_tr n l m g s kt lo A B T pk) {d D j i : Nat} (hd : d ≤ D) : i < B d j ↔ ∃ q, q < d ∧ xq_V B pk D j i = some q := by
  rw [xq_V_lt h]
  exact ⟨fun ⟨q, hq⟩ => ⟨q, (xq_V_some hq).1, xq_V_more h hd hq⟩, fun ⟨q, h1, h2⟩ => ⟨q, xq_V_less h h2 h1⟩⟩
theorem xq_since (hd : xq_dat n l m g s) (h : xq_tr n l m g s kt lo A B T pk) {j : Nat} (hj : j < n) : ∀ d, (0 < A d j → B d j = 0 → xq_E A pk d j (A d j - 1) = some (T d j)) ∧ (0 < B d j → xq_V B pk d j (B d j - 1) = some (T d j)) := by
  have h12 := hd.1
  intro d
  induction d with
  | zero =>
    obtain ⟨e1, e2, e3⟩ := h.1 j
    rw [e1, e2]
    exact ⟨fun z => by omega, fun z => by omega⟩
  | succ d ih =>
    obtain ⟨i1, i2⟩ := ih
    obtain ⟨e1, e2, e3⟩ := (h.2 d).2 j
    rw [e1, e2, e3]
    by_cases h1 : pk d = some j
    · obtain ⟨q1, q2⟩ := xq_les hd h (by omega) h1
      have h2 : ¬ pk d = some (100 + j) := by rw [h1]; intro z; have := Option.some.inj z; omega
      have hb := (xq_bnd hd h hj d).2.2.1 q2
      rw [if_pos h1, if_neg h2, if_pos (Or.inl h1)]
      exact ⟨fun _ _ => xq_E_of h (by omega) h1 (by omega), fun z => by omega⟩
    · by_cases h2 : pk d = some (100 + j)
      · rw [if_neg h1, if_pos h2, if_pos (Or.inr h2)]
        exact ⟨fun _ z => by omega, fun _ => xq_V_of h (by omega) h2 (by omega)⟩
      · rw [if_neg h1, if_neg h2, if_neg (fun z => z.elim h1 h2)]
        exact ⟨fun a b => xq_E_more h (by omega) (i1 a b), fun a => xq_V_more h (by omega) (i2 a)⟩
theorem xq_E_out (hd : xq_dat n l m g s) (h : xq_tr n l m g s kt lo A B T pk) {d j i : Nat} (hj : j < 100) (ho : n ≤ j ∨ l j ≤ i) : xq_E A pk d j i = none := by
  cases he : xq_E A pk d j i with
  | none => rfl
  | some q =>
    obtain ⟨a, b, c⟩ := xq_E_some he
    obtain ⟨q1, q2⟩ := xq_les hd h hj b
    omega
theorem xq_V_out (hd : xq_dat n l m g s) (h : xq_tr n l m g s kt lo A B T pk) {d j i : Nat} (ho : n ≤ j ∨ m j ≤ i) : xq_V B pk d j i = none := by
  cases he : xq_V B pk d j i with
  | none => rfl
  | some q =>
    obtain ⟨a, b, c⟩ := xq_V_some he
    obtain ⟨q1, q2, q3, q4⟩ := xq_rev hd h b
    omega
end XT
