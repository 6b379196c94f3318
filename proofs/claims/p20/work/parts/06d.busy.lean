-- the law's check of a day
theorem xq_z0 : (0 : Int32).toNatClampNeg = 0 := by decide
theorem xq_5 (j : Nat) : (5 : Int32) * nI j = nI (5 * j) := xm_mul 5 j
theorem xq_3 (j : Nat) : (3 : Int32) * nI j = nI (3 * j) := xm_mul 3 j
theorem xq_2 (j : Nat) : (2 : Int32) * nI j = nI (2 * j) := xm_mul 2 j
theorem xq_p1 (j : Nat) : nI j + (1 : Int32) = nI (j + 1) := nI_add j 1
theorem xq_p2 (j : Nat) : nI j + (2 : Int32) = nI (j + 2) := nI_add j 2
theorem xq_p3 (j : Nat) : nI j + (3 : Int32) = nI (j + 3) := nI_add j 3
theorem xq_p4 (j : Nat) : nI j + (4 : Int32) = nI (j + 4) := nI_add j 4
theorem xq_m1 (k : Nat) : nI (k + 1) + (-1 : Int32) = nI k := by rw [xm_sub1]; exact nI_pred k
theorem xq_dec (k : Nat) : nI k + (-1 : Int32) = nI k - 1 := xm_sub1 k
def xq_ln (n : Nat) (l m g s : Nat → Nat) (kt ka kr kc kp : xF) : Prop := kc 0 = nI n ∧ (∀ j, j < n → ka (5 * j) = nI (l j) ∧ ka (5 * j + 3) = kt j ∧ kr (2 * j) = nI (m j) ∧ kr (2 * j + 1) = nI (g j)) ∧ ∀ p, p < n → kp p = nI (s p)
-- the most pressing one, whichever way it is sought
def xq_Sp (D : Nat → Bool) (LT : Nat → Nat) (n k : Nat) (o : Option Nat) : Prop := (o = none ∧ ∀ j, k ≤ j → j < n → D j = false) ∨ ∃ x, o = some x ∧ k ≤ x ∧ x < n ∧ D x = true ∧ ∀ j, k ≤ j → j < n → D j = true → LT x ≤ LT j ∧ (LT j = LT x → x ≤ j)
theorem xq_Sp_uni {D : Nat → Bool} {LT : Nat → Nat} {n k : Nat} {o o2 : Option Nat} (h : xq_Sp D LT n k o) (h2 : xq_Sp D LT n k o2) : o = o2 := by
  rcases h with ⟨e, h⟩ | ⟨x, e, a1, a2, a3, a4⟩
  · rcases h2 with ⟨e2, -⟩ | ⟨x2, e2, b1, b2, b3, -⟩
    · rw [e, e2]
    · rw [h x2 b1 b2] at b3; cases b3
  · rcases h2 with ⟨e2, h2⟩ | ⟨x2, e2, b1, b2, b3, b4⟩
    · rw [h2 x a1 a2] at a3; cases a3
    · have p1 := a4 x2 b1 b2 b3
      have p2 := b4 x a1 a2 a3
      have q : LT x = LT x2 := Nat.le_antisymm p1.1 p2.1
      have := p1.2 q.symm
      have := p2.2 q
      rw [e, e2, show x = x2 by omega]
theorem xq_mp_spec {D : Nat → Bool} {LT : Nat → Nat} {n : Nat} : ∀ (c k : Nat) (b : Option Nat), k + c = n → ((b = none ∧ ∀ j, j < k → D j = false) ∨ ∃ x, b = some x ∧ x < k ∧ D x = true ∧ ∀ j, j < k → D j = true → LT x ≤ LT j ∧ (LT j = LT x → x ≤ j)) → xq_Sp D LT n 0 (xm_mp D LT c k b) := by
  intro c
  induction c with
  | zero =>
    intro k b hk hb
    obtain rfl : k = n := by omega
    rcases hb with ⟨e, h⟩ | ⟨x, e, h1, h2, h3⟩
    · exact Or.inl ⟨e, fun j _ hj => h j hj⟩
    · exact Or.inr ⟨x, e, Nat.zero_le x, h1, h2, fun j _ hj => h3 j hj⟩
  | succ c ih =>
    intro k b hk hb
    unfold xm_mp
    refine ih (k + 1) _ (by omega) ?_
    by_cases hD : D k = true
    · rw [if_pos hD]
      rcases hb with ⟨e, h⟩ | ⟨x, e, h1, h2, h3⟩
      · subst e
        refine Or.inr ⟨k, rfl, by omega, hD, fun j hj hd => ?_⟩
        by_cases z : j = k
        · rw [z]; exact ⟨Nat.le_refl _, fun _ => Nat.le_refl _⟩
        · rw [h j (by omega)] at hd; cases hd
      · subst e
        by_cases hl : LT x ≤ LT k
        · simp only [if_pos hl]
          refine Or.inr ⟨x, rfl, by omega, h2, fun j hj hd => ?_⟩
          by_cases z : j = k
          · rw [z]; exact ⟨hl, fun _ => by omega⟩
          · exact h3 j (by omega) hd
        · simp only [if_neg hl]
          refine Or.inr ⟨k, rfl, by omega, hD, fun j hj hd => ?_⟩
          by_cases z : j = k
          · rw [z]; exact ⟨Nat.le_refl _, fun _ => Nat.le_refl _⟩
          · have := (h3 j (by omega) hd).1
            exact ⟨by omega, fun q => by omega⟩
    · rw [if_neg hD]
      have hF : D k = false := by simpa using hD
      rcases hb with ⟨e, h⟩ | ⟨x, e, h1, h2, h3⟩
      · refine Or.inl ⟨e, fun j hj => ?_⟩
        by_cases z : j = k
        · rw [z]; exact hF
        · exact h j (by omega)
      · refine Or.inr ⟨x, e, by omega, h2, fun j hj hd => ?_⟩
        by_cases z : j = k
        · rw [z, hF] at hd; cases hd
        · exact h3 j (by omega) hd
section XB
variable {n : Nat} {l m g s : Nat → Nat} {kt lo : xF} {A B T : Nat → Nat → Nat} {pk : Nat → Option Nat} {ka kr kc ke kv kp : xF}
theorem xq_fin (hq : xq_dat n l m g s) (h : xq_tr n l m g s kt lo A B T pk) {d j : Nat} (hd : d ≤ 100) (hj : j < n) : (∃ q, q < d ∧ xq_E A pk 100 j (l j - 1) = some q) ↔ ¬ A d j < l j := by
  rw [← xq_A_of h hd]
  have := (xq_bnd hq h hj d).1
  have := (hq.2.1 j hj).1
  omega
theorem xq_last_e (hq : xq_dat n l m g s) (hev : xq_ev A B pk ke kv) {j : Nat} (hj : j < n) : ke (5 * j + l j - 1) = xm_o (xq_E A pk 100 j (l j - 1)) := by
  have h12 := hq.1
  obtain ⟨h1, h5, -⟩ := hq.2.1 j hj
  have := hev.1 j (by omega) (l j - 1) (by omega)
  rwa [show 5 * j + (l j - 1) = 5 * j + l j - 1 by omega] at this
theorem xq_b10 (hq : xq_dat n l m g s) (h : xq_tr n l m g s kt lo A B T pk) (hev : xq_ev A B pk ke kv) (hln : xq_ln n l m g s kt ka kr kc kp) {d : Nat} (hd : d < 100) : ∀ (k f : Nat), k ≤ n → k < f → f_L_isBusy_l10 ka ke kp (nI d) f (nI k - 1) (xm_sn s (xm_f (xm_un l (A d) s) (n - k) k)) = some (xm_sn s (xm_f (xm_un l (A d) s) n 0)) := by
  have h12 := hq.1
  intro k
  induction k with
  | zero =>
    intro f hk hf
    obtain ⟨f, rfl⟩ : ∃ g, f = g + 1 := ⟨f - 1, by omega⟩
    rw [f_L_isBusy_l10_s, if_pos (by decide : nI 0 - 1 < 0)]
    rfl
  | succ k ih =>
    intro f hk hf
    obtain ⟨f, rfl⟩ : ∃ g, f = g + 1 := ⟨f - 1, by omega⟩
    have hs := hq.2.2.1 k (by omega)
    obtain ⟨hl1, hl5, -⟩ := hq.2.1 (s k) hs
    have hkp := hln.2.2 k (by omega)
    have hka := (hln.2.1 (s k) hs).1
    have hE := xq_last_e hq hev hs
    have hfin := xq_fin hq h (d := d) (by omega) hs
    have ih' := ih f (by omega) (by omega)
    rw [show n - k = (n - (k + 1)) + 1 by omega, xm_f_succ] at ih'
    rw [f_L_isBusy_l10_s, nI_pred, if_neg (nI_pos (by omega)), xm_g (k := k) (by omega) (by omega), nI_clamp (by omega : k < 2 ^ 31), hkp, xq_5, xm_g (k := 5 * s k) (by omega) (by omega), nI_clamp (by omega : 5 * s k < 2 ^ 31), hka, nI_add, xm_pred (by omega), xm_g (k := 5 * s k + l (s k) - 1) (by omega) (by omega), nI_clamp (by omega : 5 * s k + l (s k) - 1 < 2 ^ 31), hE, xq_dec]
    by_cases hu : A d (s k) < l (s k)
    · rw [if_pos (show xm_un l (A d) s k = true from decide_eq_true hu)] at ih'
      have ih2 : f_L_isBusy_l10 ka ke kp (nI d) f (nI k - 1) (nI (s k)) = some (xm_sn s (xm_f (xm_un l (A d) s) n 0)) := ih'
      cases he : xq_E A pk 100 (s k) (l (s k) - 1) with
      | none => rw [xm_o_none, if_pos (by decide)]; exact ih2
      | some q =>
        have hqd : ¬ q < d := fun z => hfin.mp ⟨q, z, he⟩ hu
        have := (xq_E_some he).1
        rw [xm_o_some, if_neg (nI_pos (by omega)), if_neg (nI_nlt (by omega) (by omega))]
        exact ih2
    · rw [if_neg (by simp [xm_un, hu])] at ih'
      obtain ⟨q, z, he⟩ := hfin.mpr hu
      rw [he, xm_o_some, if_neg (nI_pos (by omega)), if_pos (nI_lt z (by omega))]
      exact ih'
-- the day from which the k-th revisit of an aim is counted
def xq_fr (l : Nat → Nat) (A B : Nat → Nat → Nat) (pk : Nat → Option Nat) (j k : Nat) : Option Nat := if k = 0 then xq_E A pk 100 j (l j - 1) else xq_V B pk 100 j (k - 1)
theorem xq_fr_lt {j k q : Nat} (h : xq_fr l A B pk j k = some q) : q < 100 := by
  unfold xq_fr at h
  by_cases z : k = 0
  · rw [if_pos z] at h; exact (xq_E_some h).1
  · rw [if_neg z] at h; exact (xq_V_some h).1
theorem xq_fr_T (hq : xq_dat n l m g s) (h : xq_tr n l m g s kt lo A B T pk) {d j : Nat} (hd : d ≤ 100) (hj : j < n) (ha : A d j = l j) : xq_fr l A B pk j (B d j) = some (T d j) ∧ T d j < d := by
  obtain ⟨s1, s2⟩ := xq_since hq h hj d
  have hl1 := (hq.2.1 j hj).1
  unfold xq_fr
  by_cases z : B d j = 0
  · have := s1 (by omega) z
    rw [if_pos z]
    rw [ha] at this
    exact ⟨xq_E_more h hd this, (xq_E_some this).1⟩
  · have := s2 (by omega)
    rw [if_neg z]
    exact ⟨xq_V_more h hd this, (xq_V_some this).1⟩
theorem xq_b108 (hq : xq_dat n l m g s) (h : xq_tr n l m g s kt lo A B T pk) (hev : xq_ev A B pk ke kv) (hln : xq_ln n l m g s kt ka kr kc kp) {d j : Nat} (hd : d < 100) (hj : j < n) (x10 : Int32) {e : Nat} (he : e ≤ 1000) : ∀ (c k f : Nat), k + c = B d j → c + 2 < f →
    f_L_isBusy_l108 kr kv (nI d) (nI j) f (nI k) (xm_o (xq_fr l A B pk j k)) x10 (nI e) = some (if xm_due d l m g (A d) (B d) (T d) j = true ∧ xm_LT g (B d) (T d) j ≤ e then (nI j, nI (xm_LT g (B d) (T d) j)) else (x10, nI e)) := by
  have h12 := hq.1
  obtain ⟨hl1, hl5, hm3, hg⟩ := hq.2.1 j hj
  obtain ⟨hb1, hb2, hb3, hb4⟩ := xq_bnd hq h hj d
  obtain ⟨-, -, hkm, hkg⟩ := hln.2.1 j hj
  intro c
  induction c with
  | zero =>
    intro k f hk hf
    obtain ⟨f, rfl⟩ : ∃ g, f = g + 2 := ⟨f - 2, by omega⟩
    obtain rfl : k = B d j := by omega
    rw [f_L_isBusy_l108_s, xq_2, xm_g (k := 2 * j) (by omega) (by omega), nI_clamp (by omega : 2 * j < 2 ^ 31), hkm]
    by_cases hbm : B d j = m j
    · rw [if_pos (nI_le (by omega) (by omega)), if_neg (fun z => by
        have := z.1
        simp only [xm_due, Bool.and_eq_true, decide_eq_true_eq] at this
        omega)]
    · rw [if_neg (nI_ge (by omega) (by omega))]
      by_cases ha : A d j = l j
      · obtain ⟨hfr, hT⟩ := xq_fr_T hq h (by omega : d ≤ 100) hj ha
        have hgb := xm_gb hg (show B d j ≤ 3 by omega)
        have hv := hev.2 j (by omega) (B d j) (by omega)
        have hvn : ∀ q, xq_V B pk 100 j (B d j) = some q → ¬ q < d := fun q z1 z2 => by
          have := (xq_B_of h (i := B d j) (show d ≤ 100 by omega)).mpr ⟨q, z2, z1⟩
          omega
        rw [hfr, xm_o_some, if_neg (nI_pos (by omega)), if_neg (nI_ge (by omega) (by omega)), xq_3, nI_add, xm_g (k := 3 * j + B d j) (by omega) (by omega), nI_clamp (by omega : 3 * j + B d j < 2 ^ 31), xq_p1, xm_g (k := 2 * j + 1) (by omega) (by omega), nI_clamp (by omega : 2 * j + 1 < 2 ^ 31), hkg, xm_shl (g j) (by omega) (B d j) (by omega), xq_2, nI_add, nI_add, hv, nI_1]
        -- does it wait
        have hw : (if nI d < nI (T d j + g j * 2 ^ B d j) then some (0 : Int32) else if nI e < nI (T d j + 2 * (g j * 2 ^ B d j)) then some (0 : Int32) else some (1 : Int32)) = some (if xm_due d l m g (A d) (B d) (T d) j = true ∧ xm_LT g (B d) (T d) j ≤ e then 1 else 0) := by
          have hdue : xm_due d l m g (A d) (B d) (T d) j = true ↔ T d j + g j * 2 ^ B d j ≤ d := by
            simp only [xm_due, Bool.and_eq_true, decide_eq_true_eq]
            exact ⟨fun z => z.2.2, fun z => ⟨ha, by omega, z⟩⟩
          by_cases z1 : T d j + g j * 2 ^ B d j ≤ d
          · rw [if_neg (nI_nlt z1 (by omega))]
            by_cases z2 : T d j + 2 * (g j * 2 ^ B d j) ≤ e
            · rw [if_neg (nI_nlt z2 (by omega)), if_pos ⟨hdue.mpr z1, z2⟩]
            · rw [if_pos (nI_lt (by omega) (by omega)), if_neg (fun z => z2 z.2)]
          · rw [if_pos (nI_lt (by omega) (by omega)), if_neg (fun z => z1 (hdue.mp z.1))]
        have hstep : ∀ (X Y : Int32), f_L_isBusy_l108 kr kv (nI d) (nI j) (f + 1) (nI (B d j + 1)) (xm_o (xq_V B pk 100 j (B d j))) X Y = some (X, Y) := by
          intro X Y
          rw [f_L_isBusy_l108_s, xq_2, xm_g (k := 2 * j) (by omega) (by omega), nI_clamp (by omega : 2 * j < 2 ^ 31), hkm]
          by_cases z : m j ≤ B d j + 1
          · rw [if_pos (nI_le z (by omega))]
          · rw [if_neg (nI_ge (by omega) (by omega))]
            cases hV : xq_V B pk 100 j (B d j) with
            | none => rw [xm_o_none, if_pos (by decide)]
            | some q =>
              have := (xq_V_some hV).1
              rw [xm_o_some, if_neg (nI_pos (by omega)), if_pos (nI_le (Nat.not_lt.mp (hvn q hV)) (by omega))]
        have hfinal : ∀ (w : Int32), w = (if xm_due d l m g (A d) (B d) (T d) j = true ∧ xm_LT g (B d) (T d) j ≤ e then 1 else 0) → Option.bind (some w) (fun (v22 : Int32) => Option.bind (if v22 = 0 then some x10 else some (nI j)) fun (v23 : Int32) => Option.bind (if v22 = 0 then some (nI e) else some (nI (T d j + 2 * (g j * 2 ^ B d j)))) fun (v24 : Int32) => f_L_isBusy_l108 kr kv (nI d) (nI j) (f + 1) (nI (B d j + 1)) (xm_o (xq_V B pk 100 j (B d j))) v23 v24) = some (if xm_due d l m g (A d) (B d) (T d) j = true ∧ xm_LT g (B d) (T d) j ≤ e then (nI j, nI (xm_LT g (B d) (T d) j)) else (x10, nI e)) := by
          intro w hw
          subst hw
          by_cases z : xm_due d l m g (A d) (B d) (T d) j = true ∧ xm_LT g (B d) (T d) j ≤ e
          · rw [if_pos z, if_pos z, Option.bind_some, xm_i1, xm_i1, Option.bind_some, Option.bind_some, hstep]; rfl
          · rw [if_neg z, if_neg z, Option.bind_some, xm_i0, xm_i0, Option.bind_some, Option.bind_some, hstep]
        cases hV : xq_V B pk 100 j (B d j) with
        | none =>
          rw [hV] at hfinal
          rw [xm_o_none] at hfinal ⊢
          rw [if_pos (by decide : (-1 : Int32) < 0), hw]
          exact hfinal _ rfl
        | some q =>
          have hqd := hvn q hV
          have := (xq_V_some hV).1
          rw [hV] at hfinal
          rw [xm_o_some] at hfinal ⊢
          rw [if_neg (nI_pos (by omega)), if_neg (nI_nlt (Nat.not_lt.mp hqd) (by omega)), hw]
          exact hfinal _ rfl
      · have hb0 := hb3 (by omega)
        have hno : ¬ (xm_due d l m g (A d) (B d) (T d) j = true ∧ xm_LT g (B d) (T d) j ≤ e) := fun z => by
          have := z.1
          simp only [xm_due, Bool.and_eq_true, decide_eq_true_eq] at this
          omega
        rw [if_neg hno, hb0]
        rw [show xq_fr l A B pk j 0 = xq_E A pk 100 j (l j - 1) from if_pos rfl]
        cases hE : xq_E A pk 100 j (l j - 1) with
        | none => rw [xm_o_none, if_pos (by decide)]
        | some q =>
          have hqd : ¬ q < d := fun z => (xq_fin hq h (by omega : d ≤ 100) hj).mp ⟨q, z, hE⟩ (by omega)
          have := (xq_E_some hE).1
          rw [xm_o_some, if_neg (nI_pos (by omega)), if_pos (nI_le (Nat.not_lt.mp hqd) (by omega))]
  | succ c ih =>
    intro k f hk hf
    obtain ⟨f, rfl⟩ : ∃ g, f = g + 1 := ⟨f - 1, by omega⟩
    have ha : A d j = l j := by
      by_cases z : A d j < l j
      · have := hb3 z; omega
      · omega
    obtain ⟨q, hqd, hV⟩ := (xq_B_of h (j := j) (i := k) (show d ≤ 100 by omega)).mp (by omega)
    have hv := hev.2 j (by omega) k (by omega)
    rw [hV, xm_o_some] at hv
    have hfr : ∃ t, xq_fr l A B pk j k = some t ∧ t < d := by
      by_cases z : k = 0
      · obtain ⟨t, ht, e⟩ := (xq_fin hq h (by omega : d ≤ 100) hj).mpr (by omega : ¬ A d j < l j)
        refine ⟨t, ?_, ht⟩
        unfold xq_fr; rw [if_pos z]; exact e
      · obtain ⟨t, ht, e⟩ := (xq_B_of h (j := j) (i := k - 1) (show d ≤ 100 by omega)).mp (by omega)
        refine ⟨t, ?_, ht⟩
        unfold xq_fr; rw [if_neg z]; exact e
    obtain ⟨t, ht, htd⟩ := hfr
    have ih' := ih (k + 1) f (by omega) (by omega)
    have hnext : xq_fr l A B pk j (k + 1) = some q := by
      unfold xq_fr; rw [if_neg (by omega), Nat.add_sub_cancel]; exact hV
    rw [hnext, xm_o_some] at ih'
    rw [f_L_isBusy_l108_s, xq_2, xm_g (k := 2 * j) (by omega) (by omega), nI_clamp (by omega : 2 * j < 2 ^ 31), hkm, if_neg (nI_ge (by omega) (by omega)), ht, xm_o_some, if_neg (nI_pos (by omega)), if_neg (nI_ge (by omega) (by omega)), xq_3, nI_add, xm_g (k := 3 * j + k) (by omega) (by omega), nI_clamp (by omega : 3 * j + k < 2 ^ 31), xq_p1, xm_g (k := 2 * j + 1) (by omega) (by omega), hv, if_neg (nI_pos (by omega)), if_pos (nI_lt hqd (by omega)), Option.bind_some, xm_i0, Option.bind_some, xm_i0, Option.bind_some, nI_1]
    exact ih'
theorem xq_b83 (hq : xq_dat n l m g s) (h : xq_tr n l m g s kt lo A B T pk) (hev : xq_ev A B pk ke kv) (hln : xq_ln n l m g s kt ka kr kc kp) {d : Nat} (hd : d < 100) : ∀ (k f : Nat) (o : Option Nat) (e : Nat), k ≤ n → k < f → xq_Sp (xm_due d l m g (A d) (B d) (T d)) (xm_LT g (B d) (T d)) n k o → (o = none → e = 1000) → (∀ x, o = some x → e = xm_LT g (B d) (T d) x) → e ≤ 1000 → f_L_isBusy_l83 ka kr ke kv (nI d) f (nI k - 1) (xm_o o) (nI e) = some (xm_o (xm_mp (xm_due d l m g (A d) (B d) (T d)) (xm_LT g (B d) (T d)) n 0 none)) := by
  have h12 := hq.1
  intro k
  induction k with
  | zero =>
    intro f o e hk hf hS he1 he2 he
    obtain ⟨f, rfl⟩ : ∃ g, f = g + 1 := ⟨f - 1, by omega⟩
    rw [f_L_isBusy_l83_s, if_pos (by decide : nI 0 - 1 < 0)]
    rw [xq_Sp_uni hS (xq_mp_spec n 0 none (by omega) (Or.inl ⟨rfl, fun j hj => by omega⟩))]
  | succ k ih =>
    intro f o e hk hf hS he1 he2 he
    obtain ⟨f, rfl⟩ : ∃ g, f = g + 1 := ⟨f - 1, by omega⟩
    have hj : k < n := by omega
    obtain ⟨hl1, hl5, hm3, hg⟩ := hq.2.1 k hj
    obtain ⟨hb1, hb2, hb3, hb4⟩ := xq_bnd hq h hj d
    have hgb := xm_gb hg (show B d k ≤ 3 by omega)
    have hLT : xm_LT g (B d) (T d) k < 1000 := by unfold xm_LT; omega
    have hka := (hln.2.1 k hj).1
    have hE := xq_last_e hq hev hj
    have hin := xq_b108 hq h hev hln hd hj (xm_o o) he (B d k) 0 300 (by omega) (by omega)
    rw [show xq_fr l A B pk k 0 = xq_E A pk 100 k (l k - 1) from if_pos rfl] at hin
    have hin : f_L_isBusy_l108 kr kv (nI d) (nI k) 300 (0 : Int32) (xm_o (xq_E A pk 100 k (l k - 1))) (xm_o o) (nI e) = _ := hin
    rw [f_L_isBusy_l83_s, nI_pred, if_neg (nI_pos (by omega)), xq_5, xm_g (k := 5 * k) (by omega) (by omega), nI_clamp (by omega : 5 * k < 2 ^ 31), hka, nI_add, xm_pred (by omega), xm_g (k := 5 * k + l k - 1) (by omega) (by omega), nI_clamp (by omega : 5 * k + l k - 1 < 2 ^ 31), hE, hin, Option.bind_some, xq_dec]
    by_cases hD : xm_due d l m g (A d) (B d) (T d) k = true
    · by_cases hle : xm_LT g (B d) (T d) k ≤ e
      · rw [if_pos ⟨hD, hle⟩]
        refine ih f (some k) _ (by omega) (by omega) ?_ (fun z => by cases z) (fun x z => by rw [← Option.some.inj z]) (by omega)
        refine Or.inr ⟨k, rfl, Nat.le_refl k, hj, hD, fun j h1 h2 h3 => ?_⟩
        by_cases z : j = k
        · rw [z]; exact ⟨Nat.le_refl _, fun _ => Nat.le_refl _⟩
        · rcases hS with ⟨e1, e2⟩ | ⟨x, e1, a1, a2, a3, a4⟩
          · rw [e2 j (by omega) h2] at h3; cases h3
          · have := (a4 j (by omega) h2 h3).1
            have := he2 x e1
            exact ⟨by omega, fun _ => by omega⟩
      · rw [if_neg (fun z => hle z.2)]
        refine ih f o e (by omega) (by omega) ?_ he1 he2 he
        rcases hS with ⟨e1, e2⟩ | ⟨x, e1, a1, a2, a3, a4⟩
        · have := he1 e1; omega
        · refine Or.inr ⟨x, e1, by omega, a2, a3, fun j h1 h2 h3 => ?_⟩
          have := he2 x e1
          by_cases z : j = k
          · rw [z]; exact ⟨by omega, fun _ => by omega⟩
          · exact a4 j (by omega) h2 h3
    · rw [if_neg (fun z => hD z.1)]
      refine ih f o e (by omega) (by omega) ?_ he1 he2 he
      have hF : xm_due d l m g (A d) (B d) (T d) k = false := by simpa using hD
      rcases hS with ⟨e1, e2⟩ | ⟨x, e1, a1, a2, a3, a4⟩
      · refine Or.inl ⟨e1, fun j h1 h2 => ?_⟩
        by_cases z : j = k
        · rw [z]; exact hF
        · exact e2 j (by omega) h2
      · refine Or.inr ⟨x, e1, by omega, a2, a3, fun j h1 h2 h3 => ?_⟩
        by_cases z : j = k
        · rw [z, hF] at h3; cases h3
        · exact a4 j (by omega) h2 h3
-- the kit
theorem xq_u1 (hq : xq_dat n l m g s) (h : xq_tr n l m g s kt lo A B T pk) (hev : xq_ev A B pk ke kv) {d : Nat} (hd : d < 100) (w : Int32) (hw : ¬ w < 0) : ∀ (c k f : Nat), k + c = d → c < f → f_L_isBusy_l265 ka ke kv (nI d) w f (nI k) 1 = some 1 := by
  intro c
  induction c with
  | zero =>
    intro k f hk hf
    obtain ⟨f, rfl⟩ : ∃ g, f = g + 1 := ⟨f - 1, by omega⟩
    rw [f_L_isBusy_l265_s, if_pos (nI_le (by omega) (by omega))]
  | succ c ih =>
    intro k f hk hf
    obtain ⟨f, rfl⟩ : ∃ g, f = g + 1 := ⟨f - 1, by omega⟩
    rw [f_L_isBusy_l265_s, if_neg (nI_ge (by omega) (by omega)), if_neg hw, xq_thing_day hq h hev (by omega), Option.bind_some, xm_i1, nI_1]
    exact ih (k + 1) f (by omega) (by omega)
theorem xq_u0 (hq : xq_dat n l m g s) (h : xq_tr n l m g s kt lo A B T pk) (hev : xq_ev A B pk ke kv) (hln : xq_ln n l m g s kt ka kr kc kp) (hkt : ∀ j, j < n → (kt j < 0 ↔ kt j = -1)) {d j : Nat} (hd : d < 100) (hj : j < n) : ∀ (c k f : Nat), k + c = d → c < f → f_L_isBusy_l265 ka ke kv (nI d) (nI j) f (nI k) 0 = some (if (decide (¬ kt j = -1) && (xm_f (xm_hk n kt (fun k => xm_o (pk k)) j) c k).isSome) = true then 1 else 0) := by
  have h12 := hq.1
  intro c
  induction c with
  | zero =>
    intro k f hk hf
    obtain ⟨f, rfl⟩ : ∃ g, f = g + 1 := ⟨f - 1, by omega⟩
    rw [f_L_isBusy_l265_s, if_pos (nI_le (by omega) (by omega))]
    simp [xm_f]
  | succ c ih =>
    intro k f hk hf
    obtain ⟨f, rfl⟩ : ∃ g, f = g + 1 := ⟨f - 1, by omega⟩
    have ih' := ih (k + 1) f (by omega) (by omega)
    rw [f_L_isBusy_l265_s, if_neg (nI_ge (by omega) (by omega)), if_neg (nI_pos (by omega)), xq_thing_day hq h hev (by omega), Option.bind_some, xm_i0, nI_1]
    have hkj := (hln.2.1 j hj).2.1
    cases hp : pk k with
    | none =>
      have e : xm_hk n kt (fun k => xm_o (pk k)) j k = false := xm_hk_a (by show xm_o (pk k) < 0; rw [hp]; decide)
      rw [xm_o_none, if_pos (by decide), xm_f_no e]
      exact ih'
    | some x =>
      obtain ⟨z1, z2, z3⟩ := xq_pick_lt hq h hp
      rw [xm_o_some, if_neg (nI_pos (by omega))]
      by_cases hx : x < 100
      · have hxn := z2 hx
        rw [if_neg (show ¬ (100 : Int32) ≤ nI x from nI_ge (b := 100) hx (by omega))]
        by_cases hxj : x = j
        · have e : xm_hk n kt (fun k => xm_o (pk k)) j k = false := xm_hk_c (by show xm_o (pk k) = nI j; rw [hp, hxj]; rfl)
          rw [if_pos (by rw [hxj]), xm_f_no e]
          exact ih'
        · rw [if_neg (fun z => hxj (xm_inj (by omega) (by omega) z)), xq_5, xq_p3, xm_g (k := 5 * j + 3) (by omega) (by omega), nI_clamp (by omega : 5 * j + 3 < 2 ^ 31), hkj]
          by_cases hk1 : kt j = -1
          · rw [if_pos ((hkt j hj).mpr hk1)]
            simp only [hk1, not_true_eq_false, decide_false, Bool.false_and] at ih' ⊢
            exact ih'
          · rw [if_neg (fun z => hk1 ((hkt j hj).mp z)), xq_5, xq_p3, xm_g (k := 5 * x + 3) (by omega) (by omega), nI_clamp (by omega : 5 * x + 3 < 2 ^ 31), (hln.2.1 x hxn).2.1]
            have hth : xm_o (pk k) = nI x := by rw [hp]; rfl
            by_cases he : kt x = kt j
            · have e : xm_hk n kt (fun k => xm_o (pk k)) j k = true := xm_hk_e (by rw [hth]; exact nI_pos (by omega)) (by rw [hth]; exact nI_ge hxn (by omega)) (by rw [hth]; exact fun z => hxj (xm_inj (by omega) (by omega) z)) (by rw [hth, nI_clamp (by omega : x < 2 ^ 31)]; exact he)
              rw [if_pos he, xm_f_yes e, xq_u1 hq h hev hd (nI j) (nI_pos (by omega)) c (k + 1) f (by omega) (by omega)]
              simp [hk1]
            · have e : xm_hk n kt (fun k => xm_o (pk k)) j k = false := xm_hk_d (by rw [hth, nI_clamp (by omega : x < 2 ^ 31)]; exact he)
              rw [if_neg he, xm_f_no e]
              exact ih'
      · have e : xm_hk n kt (fun k => xm_o (pk k)) j k = false := xm_hk_b (by show nI n ≤ xm_o (pk k); rw [hp]; exact nI_le (by omega) (by omega))
        rw [if_pos (show (100 : Int32) ≤ nI x from nI_le (a := 100) (by omega) (by omega)), xm_f_no e]
        exact ih'
theorem xq_un (hd : (0 : Nat) ≤ 0) {d : Nat} (hd : d < 100) : ∀ (c k f : Nat), k + c = d → c < f → f_L_isBusy_l265 ka ke kv (nI d) (-1) f (nI k) 0 = some 0 := by
  intro c k f hk hf
  obtain ⟨f, rfl⟩ : ∃ g, f = g + 1 := ⟨f - 1, by omega⟩
  rw [f_L_isBusy_l265_s]
  by_cases z : nI d ≤ nI k
  · rw [if_pos z]
  · rw [if_neg z, if_pos (by decide)]
theorem xq_busy (hq : xq_dat n l m g s) (h : xq_tr n l m g s kt lo A B T pk) (hev : xq_ev A B pk ke kv) (hln : xq_ln n l m g s kt ka kr kc kp) (hkt : ∀ j, j < n → (kt j < 0 ↔ kt j = -1)) {d : Nat} (hd : d < 100) (hlo : lo d = 0) : f_L_isBusy ka kr kc ke kv kp (nI d) (xm_o (pk d)) = some 1 := by
  have h12 := hq.1
  have e10 := xq_b10 hq h hev hln hd n 300 (Nat.le_refl n) (by omega)
  rw [show xm_f (xm_un l (A d) s) (n - n) n = none by rw [Nat.sub_self]; rfl] at e10
  have e83 := xq_b83 hq h hev hln hd n 300 none 1000 (Nat.le_refl n) (by omega) (Or.inl ⟨rfl, fun j h1 h2 => by omega⟩) (fun _ => rfl) (fun x z => by cases z) (Nat.le_refl _)
  have hc0 : kc (0 : Int32).toNatClampNeg = nI n := (congrArg kc xq_z0).trans hln.1
  have e10 : f_L_isBusy_l10 ka ke kp (nI d) 300 (nI n - (1 : Int32)) (-1) = some (xm_sn s (xm_f (xm_un l (A d) s) n 0)) := e10
  have e83 : f_L_isBusy_l83 ka kr ke kv (nI d) 300 (nI n - (1 : Int32)) (-1) (1000 : Int32) = some (xm_o (xm_mp (xm_due d l m g (A d) (B d) (T d)) (xm_LT g (B d) (T d)) n 0 none)) := e83
  have ev : (if (2 : Int32) ≤ nI d then some (nI d - (2 : Int32)) else some (0 : Int32)) = some (nI (d - 2)) := by
    by_cases z : 2 ≤ d
    · rw [if_pos (show (2 : Int32) ≤ nI d from nI_le (a := 2) z (by omega))]
      exact congrArg some (xq_sub (a := 2) z)
    · rw [if_neg (show ¬ (2 : Int32) ≤ nI d from nI_ge (b := 2) (by omega) (by omega)), show d - 2 = 0 by omega]; rfl
  rw [f_L_isBusy_e, hc0, e10, Option.bind_some, e83, Option.bind_some, ev, Option.bind_some]
  have hch := (h.2 d).1
  cases hmp : xm_mp (xm_due d l m g (A d) (B d) (T d)) (xm_LT g (B d) (T d)) n 0 none with
  | some j =>
    obtain ⟨hdue, hj⟩ := xm_mp_some (n := n) (by omega) (fun x hx => by cases hx) hmp
    rw [xq_ch_rev hlo hmp] at hch
    have hany : ∃ r, f_L_isBusy_l265 ka ke kv (nI d) (xm_sn s (xm_f (xm_un l (A d) s) n 0)) 300 (nI (d - 2)) 0 = some r := by
      cases hf : xm_f (xm_un l (A d) s) n 0 with
      | none => exact ⟨_, xq_un (Nat.le_refl 0) hd (d - (d - 2)) (d - 2) 300 (by omega) (by omega)⟩
      | some p =>
        obtain ⟨-, hp, -⟩ := xm_f_some hf
        exact ⟨_, xq_u0 hq h hev hln hkt hd (hq.2.2.1 p (by omega)) (d - (d - 2)) (d - 2) 300 (by omega) (by omega)⟩
    obtain ⟨r, hr⟩ := hany
    rw [hr, Option.bind_some, xm_o_some, if_neg (nI_pos (by omega)), xm_100, Option.bind_some, hch, xm_o_some, if_pos rfl]
  | none =>
    rw [xm_o_none]
    cases hf : xm_f (xm_un l (A d) s) n 0 with
    | none =>
      rw [xq_ch_no hlo hmp hf] at hch
      rw [xm_sn_none, xq_un (Nat.le_refl 0) hd (d - (d - 2)) (d - 2) 300 (by omega) (by omega), Option.bind_some, if_pos (by decide), if_pos (by decide), Option.bind_some, hch, xm_o_none, if_pos rfl]
    | some p =>
      obtain ⟨-, hp, -⟩ := xm_f_some hf
      have hsp := hq.2.2.1 p (by omega)
      rw [xq_ch_les hlo hmp hf] at hch
      rw [xm_sn_some, xq_u0 hq h hev hln hkt hd hsp (d - (d - 2)) (d - 2) 300 (by omega) (by omega), Option.bind_some, if_pos (by decide), if_neg (nI_pos (by omega))]
      have hh : xm_held n kt (fun k => xm_o (pk k)) (s p) d = (decide (¬ kt (s p) = -1) && (xm_f (xm_hk n kt (fun k => xm_o (pk k)) (s p)) (d - (d - 2)) (d - 2)).isSome) := rfl
      rw [← hh]
      cases hb : xm_held n kt (fun k => xm_o (pk k)) (s p) d with
      | true =>
        rw [hb, if_pos rfl] at hch
        rw [if_pos rfl, xm_i1, Option.bind_some, hch, xm_o_none, if_pos rfl]
      | false =>
        rw [hb, if_neg (by decide)] at hch
        rw [if_neg (by decide : ¬ false = true), xm_i0, Option.bind_some, hch, xm_o_some, if_pos rfl]
end XB
