-- whole numbers
theorem xq_sub {k a : Nat} (h : a ≤ k) : nI k - nI a = nI (k - a) := by
  have e := nI_add (k - a) a
  rw [show k - a + a = k by omega] at e
  rw [← e, Int32.add_sub_cancel]
theorem xq_div {a b : Nat} (ha : a < 2 ^ 31) (hb : 0 < b) (hb2 : b < 2 ^ 31) : nI a / nI b = nI (a / b) := by
  apply Int32.toInt_inj.mp
  rw [Int32.toInt_div_of_ne_right _ _ (xm_m1 hb2), nI_toInt ha, nI_toInt hb2, nI_toInt (Nat.lt_of_le_of_lt (Nat.div_le_self a b) ha), Int.tdiv_eq_ediv_of_nonneg (by omega)]
  rfl
theorem xq_mod {a b : Nat} (ha : a < 2 ^ 31) (hb : 0 < b) (hb2 : b < 2 ^ 31) : nI a - nI a / nI b * nI b = nI (a % b) := by
  have e : a % b + a / b * b = a := by rw [Nat.mul_comm, Nat.add_comm]; exact Nat.div_add_mod a b
  have h := nI_add (a % b) (a / b * b)
  rw [e] at h
  rw [xq_div ha hb hb2, xm_mul, ← h, Int32.add_sub_cancel]
theorem xq_d3 {a : Nat} (ha : a < 2 ^ 31) : nI a / (3 : Int32) = nI (a / 3) := xq_div (b := 3) ha (by omega) (by omega)
theorem xq_r3 {a : Nat} (ha : a < 2 ^ 31) : nI a - nI a / (3 : Int32) * (3 : Int32) = nI (a % 3) := xq_mod (b := 3) ha (by omega) (by omega)
theorem xq_d5 {a : Nat} (ha : a < 2 ^ 31) : nI a / (5 : Int32) = nI (a / 5) := xq_div (b := 5) ha (by omega) (by omega)
theorem xq_r5 {a : Nat} (ha : a < 2 ^ 31) : nI a - nI a / (5 : Int32) * (5 : Int32) = nI (a % 5) := xq_mod (b := 5) ha (by omega) (by omega)
theorem xq_d50 {a : Nat} (ha : a < 2 ^ 31) : nI a / (50 : Int32) = nI (a / 50) := xq_div (b := 50) ha (by omega) (by omega)
theorem xq_r50 {a : Nat} (ha : a < 2 ^ 31) : nI a - nI a / (50 : Int32) * (50 : Int32) = nI (a % 50) := xq_mod (b := 50) ha (by omega) (by omega)
theorem xq_s60 {k : Nat} (h : 60 ≤ k) : nI k - (60 : Int32) = nI (k - 60) := xq_sub (a := 60) h
theorem xq_o_eq {o : Option Nat} {d : Nat} (hd : d < 2 ^ 31) (ho : ∀ q, o = some q → q < 2 ^ 31) : xm_o o = nI d ↔ o = some d := by
  cases o with
  | none => exact ⟨fun h => absurd h.symm (xm_m1 hd), fun h => by cases h⟩
  | some q =>
    rw [xm_o_some]
    exact ⟨fun h => by rw [xm_inj (ho q rfl) hd h], fun h => by rw [Option.some.inj h]⟩
theorem xq_o_neg {o : Option Nat} (ho : ∀ q, o = some q → q < 2 ^ 31) : xm_o o < 0 ↔ o = none := by
  cases o with
  | none => exact ⟨fun _ => rfl, fun _ => by decide⟩
  | some q => exact ⟨fun h => absurd h (nI_pos (ho q rfl)), fun h => by cases h⟩
-- what lies on a day by the days of lessons and revisits
def xq_hit (ke kv : xF) (x : Int32) (k : Nat) : Bool := decide ((if k < 60 then ke k else kv (k - 60)) = x)
def xq_code (k : Nat) : Nat := if k < 60 then k / 5 else 100 + (k - 60) / 3
theorem xq_th_val {ke kv : xF} {k : Nat} (hk : k < 96) : (if (60 : Int32) ≤ nI k then (if (nI k - (60 : Int32)) < 0 ∨ 36 ≤ (nI k - (60 : Int32)).toNatClampNeg then none else some (kv (nI k - (60 : Int32)).toNatClampNeg)) else (if nI k < 0 ∨ 60 ≤ (nI k).toNatClampNeg then none else some (ke (nI k).toNatClampNeg))) = some (if k < 60 then ke k else kv (k - 60)) := by
  by_cases h : k < 60
  · rw [if_neg (show ¬ (60 : Int32) ≤ nI k from nI_ge (b := 60) h (by omega)), if_pos h, xm_g (k := k) (by omega) (by omega), nI_clamp (by omega : k < 2 ^ 31)]
  · rw [if_pos (show (60 : Int32) ≤ nI k from nI_le (a := 60) (by omega) (by omega)), if_neg h, xq_s60 (by omega), xm_g (k := k - 60) (by omega) (by omega), nI_clamp (by omega : k - 60 < 2 ^ 31)]
theorem xq_th_none {ke kv : xF} {x : Int32} : ∀ (c k f : Nat) (y : Int32), k + c = 96 → c < f → (∀ k', k ≤ k' → k' < 96 → xq_hit ke kv x k' = false) → f_L_thing_l5 ke kv x f (nI k) y = some y := by
  intro c
  induction c with
  | zero =>
    intro k f y hk hf h
    obtain ⟨f, rfl⟩ : ∃ g, f = g + 1 := ⟨f - 1, by omega⟩
    rw [f_L_thing_l5_s, if_pos (show (96 : Int32) ≤ nI k from nI_le (a := 96) (by omega) (by omega))]
  | succ c ih =>
    intro k f y hk hf h
    obtain ⟨f, rfl⟩ : ∃ g, f = g + 1 := ⟨f - 1, by omega⟩
    have h0 := of_decide_eq_false (h k (Nat.le_refl k) (by omega))
    rw [f_L_thing_l5_s, if_neg (show ¬ (96 : Int32) ≤ nI k from nI_ge (b := 96) (by omega) (by omega)), xq_th_val (by omega), Option.bind_some, if_neg h0, Option.bind_some, xm_i0, nI_1]
    exact ih (k + 1) f y (by omega) (by omega) (fun k' h1 h2 => h k' (by omega) h2)
theorem xq_th_one {ke kv : xF} {x : Int32} (hu : ∀ a b, a < 96 → b < 96 → xq_hit ke kv x a = true → xq_hit ke kv x b = true → a = b) : ∀ (c k f : Nat), k + c = 96 → c < f → f_L_thing_l5 ke kv x f (nI k) (-1) = some (xm_o ((xm_f (xq_hit ke kv x) c k).map xq_code)) := by
  intro c
  induction c with
  | zero =>
    intro k f hk hf
    obtain ⟨f, rfl⟩ : ∃ g, f = g + 1 := ⟨f - 1, by omega⟩
    rw [f_L_thing_l5_s, if_pos (show (96 : Int32) ≤ nI k from nI_le (a := 96) (by omega) (by omega))]
    rfl
  | succ c ih =>
    intro k f hk hf
    obtain ⟨f, rfl⟩ : ∃ g, f = g + 1 := ⟨f - 1, by omega⟩
    rw [f_L_thing_l5_s, if_neg (show ¬ (96 : Int32) ≤ nI k from nI_ge (b := 96) (by omega) (by omega)), xq_th_val (by omega), Option.bind_some]
    by_cases h0 : xq_hit ke kv x k = true
    · have hno : ∀ k', k + 1 ≤ k' → k' < 96 → xq_hit ke kv x k' = false := fun k' h1 h2 => by
        cases hz : xq_hit ke kv x k' with
        | false => rfl
        | true => have := hu k k' (by omega) h2 h0 hz; omega
      rw [if_pos (of_decide_eq_true h0), Option.bind_some, xm_i1, if_pos (rfl : (-1 : Int32) = -1), xm_f_yes h0, nI_1]
      by_cases h6 : k < 60
      · rw [if_neg (show ¬ (60 : Int32) ≤ nI k from nI_ge (b := 60) h6 (by omega)), xq_d5 (by omega), xq_th_none c (k + 1) f _ (by omega) (by omega) hno]
        show some (nI (k / 5)) = some (nI (xq_code k))
        rw [show xq_code k = k / 5 from if_pos h6]
      · rw [if_pos (show (60 : Int32) ≤ nI k from nI_le (a := 60) (by omega) (by omega)), xq_s60 (by omega), xq_d3 (by omega), xm_100, xq_th_none c (k + 1) f _ (by omega) (by omega) hno]
        show some (nI (100 + (k - 60) / 3)) = some (nI (xq_code k))
        rw [show xq_code k = 100 + (k - 60) / 3 from if_neg h6]
    · have h1 : xq_hit ke kv x k = false := by simpa using h0
      rw [if_neg (of_decide_eq_false h1), Option.bind_some, xm_i0, xm_f_no h1, nI_1]
      exact ih (k + 1) f (by omega) (by omega)
theorem xq_thing {ke kv : xF} {x : Int32} (hu : ∀ a b, a < 96 → b < 96 → xq_hit ke kv x a = true → xq_hit ke kv x b = true → a = b) : f_L_thing ke kv x = some (xm_o ((xm_f (xq_hit ke kv x) 96 0).map xq_code)) := by
  rw [f_L_thing_e]
  show Option.bind (f_L_thing_l5 ke kv x 300 (nI 0) (-1)) _ = _
  rw [xq_th_one hu 96 0 300 (by omega) (by omega)]
  rfl
-- the days of a plan in rows
def xq_ev (A B : Nat → Nat → Nat) (pk : Nat → Option Nat) (ke kv : xF) : Prop := (∀ j, j < 12 → ∀ i, i < 5 → ke (5 * j + i) = xm_o (xq_E A pk 100 j i)) ∧ ∀ j, j < 12 → ∀ i, i < 3 → kv (3 * j + i) = xm_o (xq_V B pk 100 j i)
section XE
variable {n : Nat} {l m g s : Nat → Nat} {kt lo : xF} {A B T : Nat → Nat → Nat} {pk : Nat → Option Nat} {ke kv : xF}
theorem xq_E_100 {j i q : Nat} (h : xq_E A pk 100 j i = some q) : q < 2 ^ 31 := by have := (xq_E_some h).1; omega
theorem xq_V_100 {j i q : Nat} (h : xq_V B pk 100 j i = some q) : q < 2 ^ 31 := by have := (xq_V_some h).1; omega
theorem xq_hit_e (h : xq_tr n l m g s kt lo A B T pk) (hev : xq_ev A B pk ke kv) {d k : Nat} (hd : d < 100) (hk : k < 60) : xq_hit ke kv (nI d) k = true ↔ pk d = some (k / 5) ∧ A d (k / 5) = k % 5 := by
  have e : ke k = xm_o (xq_E A pk 100 (k / 5) (k % 5)) := by
    have := hev.1 (k / 5) (by omega) (k % 5) (by omega)
    rwa [show 5 * (k / 5) + k % 5 = k by omega] at this
  unfold xq_hit
  rw [if_pos hk, decide_eq_true_eq, e, xq_o_eq (by omega) (fun q hq => xq_E_100 hq)]
  exact ⟨fun z => (xq_E_some z).2, fun z => xq_E_of h hd z.1 z.2⟩
theorem xq_hit_v (h : xq_tr n l m g s kt lo A B T pk) (hev : xq_ev A B pk ke kv) {d k : Nat} (hd : d < 100) (hk : 60 ≤ k) (hk2 : k < 96) : xq_hit ke kv (nI d) k = true ↔ pk d = some (100 + (k - 60) / 3) ∧ B d ((k - 60) / 3) = (k - 60) % 3 := by
  have e : kv (k - 60) = xm_o (xq_V B pk 100 ((k - 60) / 3) ((k - 60) % 3)) := by
    have := hev.2 ((k - 60) / 3) (by omega) ((k - 60) % 3) (by omega)
    rwa [show 3 * ((k - 60) / 3) + (k - 60) % 3 = k - 60 by omega] at this
  unfold xq_hit
  rw [if_neg (by omega), decide_eq_true_eq, e, xq_o_eq (by omega) (fun q hq => xq_V_100 hq)]
  exact ⟨fun z => (xq_V_some z).2, fun z => xq_V_of h hd z.1 z.2⟩
theorem xq_hit_code (h : xq_tr n l m g s kt lo A B T pk) (hev : xq_ev A B pk ke kv) {d k : Nat} (hd : d < 100) (hk : k < 96) (hh : xq_hit ke kv (nI d) k = true) : pk d = some (xq_code k) := by
  by_cases h6 : k < 60
  · rw [show xq_code k = k / 5 from if_pos h6]; exact ((xq_hit_e h hev hd h6).mp hh).1
  · rw [show xq_code k = 100 + (k - 60) / 3 from if_neg h6]; exact ((xq_hit_v h hev hd (by omega) hk).mp hh).1
theorem xq_hit_uni (h : xq_tr n l m g s kt lo A B T pk) (hev : xq_ev A B pk ke kv) {d : Nat} (hd : d < 100) : ∀ a b, a < 96 → b < 96 → xq_hit ke kv (nI d) a = true → xq_hit ke kv (nI d) b = true → a = b := by
  intro a b ha hb h1 h2
  have e : xq_code a = xq_code b := Option.some.inj ((xq_hit_code h hev hd ha h1).symm.trans (xq_hit_code h hev hd hb h2))
  unfold xq_code at e
  by_cases a6 : a < 60
  · rw [if_pos a6] at e
    by_cases b6 : b < 60
    · rw [if_pos b6] at e
      have e1 := ((xq_hit_e h hev hd a6).mp h1).2
      have e2 := ((xq_hit_e h hev hd b6).mp h2).2
      rw [e] at e1
      omega
    · rw [if_neg b6] at e; omega
  · rw [if_neg a6] at e
    by_cases b6 : b < 60
    · rw [if_pos b6] at e; omega
    · rw [if_neg b6] at e
      have e0 : (a - 60) / 3 = (b - 60) / 3 := by omega
      have e1 := ((xq_hit_v h hev hd (by omega) ha).mp h1).2
      have e2 := ((xq_hit_v h hev hd (by omega) hb).mp h2).2
      rw [e0] at e1
      omega
theorem xq_thing_day (hq : xq_dat n l m g s) (h : xq_tr n l m g s kt lo A B T pk) (hev : xq_ev A B pk ke kv) {d : Nat} (hd : d < 100) : f_L_thing ke kv (nI d) = some (xm_o (pk d)) := by
  have h12 := hq.1
  rw [xq_thing (xq_hit_uni h hev hd)]
  have e : (xm_f (xq_hit ke kv (nI d)) 96 0).map xq_code = pk d := by
    cases hp : pk d with
    | none =>
      cases hf : xm_f (xq_hit ke kv (nI d)) 96 0 with
      | none => rfl
      | some k =>
        obtain ⟨q1, q2, q3⟩ := xm_f_some hf
        rw [xq_hit_code h hev hd (by omega) q3] at hp
        cases hp
    | some x =>
      have hx : ∃ k, k < 96 ∧ xq_hit ke kv (nI d) k = true := by
        obtain ⟨z1, z2, z3⟩ := xq_pick_lt hq h hp
        by_cases hx : x < 100
        · obtain ⟨q1, q2⟩ := xq_les hq h hx hp
          have := (hq.2.1 x q1).2.1
          refine ⟨5 * x + A d x, by omega, (xq_hit_e h hev hd (by omega)).mpr ?_⟩
          rw [show (5 * x + A d x) / 5 = x by omega, show (5 * x + A d x) % 5 = A d x by omega]
          exact ⟨hp, rfl⟩
        · obtain ⟨j, rfl⟩ : ∃ j, x = 100 + j := ⟨x - 100, by omega⟩
          obtain ⟨q1, q2, q3, q4⟩ := xq_rev hq h hp
          have := (hq.2.1 j q1).2.2.1
          refine ⟨60 + (3 * j + B d j), by omega, (xq_hit_v h hev hd (by omega) (by omega)).mpr ?_⟩
          rw [show (60 + (3 * j + B d j) - 60) / 3 = j by omega, show (60 + (3 * j + B d j) - 60) % 3 = B d j by omega]
          exact ⟨hp, rfl⟩
      obtain ⟨k, k1, k2⟩ := hx
      obtain ⟨a, ha⟩ := xm_f_ex (c := 96) (k := 0) (Nat.zero_le k) (by omega) k2
      obtain ⟨q1, q2, q3⟩ := xm_f_some ha
      rw [ha]
      have := xq_hit_code h hev hd (by omega : a < 96) q3
      rw [hp] at this
      exact this.symm
  rw [e]
end XE
