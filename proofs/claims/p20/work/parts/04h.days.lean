theorem xm_f_cong {P Q : Nat → Bool} : ∀ {c k : Nat}, (∀ j, k ≤ j → j < k + c → P j = Q j) → xm_f P c k = xm_f Q c k := by
  intro c
  induction c with
  | zero => intro k _; rfl
  | succ c ih =>
    intro k h
    rw [xm_f_succ, xm_f_succ, h k (Nat.le_refl k) (by omega), ih (k := k + 1) (fun j h1 h2 => h j (by omega) (by omega))]
theorem xm_held_cong {n : Nat} {kt th th2 : xF} {j d : Nat} (h : ∀ k, k < d → th2 k = th k) : xm_held n kt th2 j d = xm_held n kt th j d := by
  unfold xm_held
  rw [xm_f_cong (P := xm_hk n kt th2 j) (Q := xm_hk n kt th j) (fun k h1 h2 => by unfold xm_hk; rw [h k (by omega)])]
theorem xm_up0 (f : xF) (k : Nat) (x : Int32) : upd f k x k = x := if_pos rfl
theorem xm_up1 (f : xF) {k j : Nat} (x : Int32) (h : ¬ j = k) : upd f k x j = f j := if_neg h
def xm_last (d : Nat) (th : xF) (lu : Int32) : Prop := (lu = -1 ∧ ∀ k, k < d → th k = -1) ∨ ∃ e, e < d ∧ lu = nI e ∧ ¬ th e = -1 ∧ ∀ k, e < k → k < d → th k = -1
def xm_sim (n d : Nat) (l m a b t : Nat → Nat) (th ld rd ll rl si : xF) (lc tc lu : Int32) (th2 ld2 rd2 ll2 rl2 : xF) (la2 : Int32) : Prop :=
  xm_st n d l m ll rl si a b t ∧ xm_ms n l a b ld rd si ∧ (∀ j, j < n → ll2 j = ll j ∧ rl2 j = rl j) ∧ (∀ k, k < 60 → ld2 k = ld k) ∧ (∀ k, k < 36 → rd2 k = rd k) ∧ (∀ k, k < d → th2 k = th k ∧ xm_th n (th k)) ∧ (∀ k, d ≤ k → k < 100 → th k = -1) ∧ la2 = tc ∧ lc = nI (fb_ct (fun k => decide (¬ th k = -1)) d) ∧ xm_last d th lu
section XS
variable {n d : Nat} {l m a b t : Nat → Nat} {th ld rd ll rl si : xF} {lc tc lu : Int32} {th2 ld2 rd2 ll2 rl2 : xF} {la2 : Int32}
theorem xm_sim_st2 (h : xm_sim n d l m a b t th ld rd ll rl si lc tc lu th2 ld2 rd2 ll2 rl2 la2) : xm_st n d l m ll2 rl2 si a b t := by
  obtain ⟨hst, hms, h1, -⟩ := h
  intro j hj
  obtain ⟨q1, q2, q3⟩ := hst j hj
  obtain ⟨e1, e2⟩ := h1 j hj
  rw [e1, e2]
  exact ⟨q1, q2, q3⟩
theorem xm_sim_ms2 (h12 : n ≤ 12) (hl : ∀ j, j < n → 1 ≤ l j ∧ l j ≤ 5) (hm : ∀ j, j < n → m j ≤ 3) (h : xm_sim n d l m a b t th ld rd ll rl si lc tc lu th2 ld2 rd2 ll2 rl2 la2) : xm_ms n l a b ld2 rd2 si := by
  obtain ⟨hst, hms, h1, h2, h3, -⟩ := h
  intro j hj ha
  obtain ⟨q1, q2⟩ := hms j hj ha
  have := hl j hj
  have := hm j hj
  obtain ⟨-, ⟨hb, hbm⟩, -, -⟩ := hst j hj
  exact ⟨fun hb => by rw [h2 _ (by omega)]; exact q1 hb, fun hb => by rw [h3 _ (by omega)]; exact q2 hb⟩
theorem xm_sim_skip (hd : d < 100) (h : xm_sim n d l m a b t th ld rd ll rl si lc tc lu th2 ld2 rd2 ll2 rl2 la2) : xm_sim n (d + 1) l m a b t th ld rd ll rl si lc tc lu (upd th2 d (-1)) ld2 rd2 ll2 rl2 la2 := by
  obtain ⟨hst, hms, h1, h2, h3, h4, h5, h6, h7, h8⟩ := h
  have hd0 := h5 d (Nat.le_refl d) hd
  refine ⟨hst, hms, h1, h2, h3, fun k hk => ?_, fun k h1 h2 => h5 k (by omega) h2, h6, ?_, ?_⟩
  · by_cases e : k = d
    · subst e
      rw [xm_up0, hd0]
      exact ⟨rfl, Or.inl rfl⟩
    · rw [xm_up1 _ _ e]; exact h4 k (by omega)
  · rw [h7, fb_ct_succ, hd0]; rfl
  · rcases h8 with ⟨q1, q2⟩ | ⟨e, q1, q2, q3, q4⟩
    · exact Or.inl ⟨q1, fun k hk => by
        by_cases e : k = d
        · rw [e]; exact hd0
        · exact q2 k (by omega)⟩
    · exact Or.inr ⟨e, by omega, q2, q3, fun k hk1 hk2 => by
        by_cases e : k = d
        · rw [e]; exact hd0
        · exact q4 k hk1 (by omega)⟩
theorem xm_lay_tail {x : Int32} (hd : d < 100) (hx : ¬ x = -1) (hxt : xm_th n x) (h4 : ∀ k, k < d → th2 k = th k ∧ xm_th n (th k)) (h5 : ∀ k, d ≤ k → k < 100 → th k = -1) (h7 : lc = nI (fb_ct (fun k => decide (¬ th k = -1)) d)) :
    (∀ k, k < d + 1 → upd (upd th2 d (-1)) d x k = upd th d x k ∧ xm_th n (upd th d x k)) ∧ (∀ k, d + 1 ≤ k → k < 100 → upd th d x k = -1) ∧ lc + 1 = nI (fb_ct (fun k => decide (¬ upd th d x k = -1)) (d + 1)) ∧ xm_last (d + 1) (upd th d x) (nI d) := by
  refine ⟨fun k hk => ?_, fun k hk1 hk2 => ?_, ?_, Or.inr ⟨d, by omega, rfl, by rw [xm_up0]; exact hx, fun k h1 h2 => by omega⟩⟩
  · by_cases e : k = d
    · subst e; rw [xm_up0, xm_up0]; exact ⟨rfl, hxt⟩
    · rw [xm_up1 _ _ e, xm_up1 _ _ e, xm_up1 _ _ e]; exact h4 k (by omega)
  · rw [xm_up1 _ _ (by omega)]; exact h5 k (by omega) hk2
  · rw [fb_ct_succ, xm_up0, decide_eq_true hx, h7, nI_1]
    have e : fb_ct (fun k => decide (¬ upd th d x k = -1)) d = fb_ct (fun k => decide (¬ th k = -1)) d := fb_ct_cong (fun k hk => by rw [xm_up1 _ _ (by omega)])
    rw [e]
    rfl
theorem xm_sim_les (h12 : n ≤ 12) (hl : ∀ j, j < n → 1 ≤ l j ∧ l j ≤ 5) (hm : ∀ j, j < n → m j ≤ 3) (hd : d < 100) {j : Nat} (hj : j < n) (hja : a j < l j) (h : xm_sim n d l m a b t th ld rd ll rl si lc tc lu th2 ld2 rd2 ll2 rl2 la2) :
    xm_sim n (d + 1) l m (fun i => if i = j then a j + 1 else a i) b (fun i => if i = j then d else t i) (upd th d (nI j)) (upd ld (5 * j + a j) (nI d)) rd (upd ll j (nI (a j + 1))) rl (upd si j (nI d)) (lc + 1) tc (nI d) (upd (upd th2 d (-1)) d (nI j)) (upd ld2 (5 * j + a j) (nI d)) rd2 (upd ll2 j (nI (a j + 1))) rl2 la2 := by
  obtain ⟨hst, hms, h1, h2, h3, h4, h5, h6, h7, h8⟩ := h
  obtain ⟨r1, r2, r3, r4⟩ := xm_lay_tail (n := n) (th := th) (th2 := th2) (lc := lc) hd (xm_m1 (by omega) : ¬ nI j = -1) (Or.inr (Or.inl ⟨j, hj, rfl⟩)) h4 h5 h7
  refine ⟨fun i hi => ?_, fun i hi ha => ?_, fun i hi => ?_, fun k hk => ?_, h3, r1, r2, h6, r3, r4⟩
  · obtain ⟨q1, q2, q3, q4⟩ := hst i hi
    by_cases e : i = j
    · subst e
      rw [xm_up0, xm_up0]
      simp only [if_true]
      exact ⟨⟨trivial, by omega⟩, q2, ⟨trivial, hd⟩, fun _ => q4 hja⟩
    · rw [xm_up1 _ _ e, xm_up1 _ _ e]
      simp only [if_neg e]
      exact ⟨q1, q2, q3, q4⟩
  · obtain ⟨q1, q2, q3, q4⟩ := hst i hi
    have := hl i hi
    have := hl j hj
    by_cases e : i = j
    · subst e
      simp only [if_true] at ha
      have hb := q4 hja
      refine ⟨fun _ => ?_, fun q => absurd hb q⟩
      rw [show 5 * i + l i - 1 = 5 * i + a i by omega, xm_up0, xm_up0]
    · simp only [if_neg e] at ha
      obtain ⟨p1, p2⟩ := hms i hi ha
      rw [xm_up1 _ _ (by omega), xm_up1 _ _ e]
      exact ⟨p1, p2⟩
  · obtain ⟨q1, q2⟩ := h1 i hi
    by_cases e : i = j
    · subst e; rw [xm_up0, xm_up0]; exact ⟨rfl, q2⟩
    · rw [xm_up1 _ _ e, xm_up1 _ _ e]; exact ⟨q1, q2⟩
  · by_cases e : k = 5 * j + a j
    · subst e; rw [xm_up0, xm_up0]
    · rw [xm_up1 _ _ e, xm_up1 _ _ e]; exact h2 k hk
theorem xm_sim_rev (h12 : n ≤ 12) (hl : ∀ j, j < n → 1 ≤ l j ∧ l j ≤ 5) (hm : ∀ j, j < n → m j ≤ 3) (hd : d < 100) {j : Nat} (hj : j < n) (hja : a j = l j) (hjb : b j < m j) {tc3 : Int32} (h : xm_sim n d l m a b t th ld rd ll rl si lc tc lu th2 ld2 rd2 ll2 rl2 la2) :
    xm_sim n (d + 1) l m a (fun i => if i = j then b j + 1 else b i) (fun i => if i = j then d else t i) (upd th d (nI (100 + j))) ld (upd rd (3 * j + b j) (nI d)) ll (upd rl j (nI (b j + 1))) (upd si j (nI d)) (lc + 1) tc3 (nI d) (upd (upd th2 d (-1)) d (nI (100 + j))) ld2 (upd rd2 (3 * j + b j) (nI d)) ll2 (upd rl2 j (nI (b j + 1))) tc3 := by
  obtain ⟨hst, hms, h1, h2, h3, h4, h5, h6, h7, h8⟩ := h
  obtain ⟨r1, r2, r3, r4⟩ := xm_lay_tail (n := n) (th := th) (th2 := th2) (lc := lc) hd (xm_m1 (by omega) : ¬ nI (100 + j) = -1) (Or.inr (Or.inr ⟨j, hj, rfl⟩)) h4 h5 h7
  refine ⟨fun i hi => ?_, fun i hi ha => ?_, fun i hi => ?_, h2, fun k hk => ?_, r1, r2, rfl, r3, r4⟩
  · obtain ⟨q1, q2, q3, q4⟩ := hst i hi
    by_cases e : i = j
    · subst e
      rw [xm_up0, xm_up0]
      simp only [if_true]
      exact ⟨q1, ⟨trivial, by omega⟩, ⟨trivial, hd⟩, fun q => by omega⟩
    · rw [xm_up1 _ _ e, xm_up1 _ _ e]
      simp only [if_neg e]
      exact ⟨q1, q2, q3, q4⟩
  · obtain ⟨q1, q2, q3, q4⟩ := hst i hi
    have := hl i hi
    have := hm j hj
    have := hm i hi
    obtain ⟨p1, p2⟩ := hms i hi ha
    by_cases e : i = j
    · subst e
      simp only [if_true]
      refine ⟨fun q => by omega, fun _ => ?_⟩
      rw [show 3 * i + (b i + 1) - 1 = 3 * i + b i by omega, xm_up0, xm_up0]
    · simp only [if_neg e]
      rw [xm_up1 _ _ e]
      refine ⟨p1, fun q => ?_⟩
      rw [xm_up1 _ _ (by omega)]
      exact p2 q
  · obtain ⟨q1, q2⟩ := h1 i hi
    by_cases e : i = j
    · subst e; rw [xm_up0, xm_up0]; exact ⟨q1, rfl⟩
    · rw [xm_up1 _ _ e, xm_up1 _ _ e]; exact ⟨q1, q2⟩
  · by_cases e : k = 3 * j + b j
    · subst e; rw [xm_up0, xm_up0]
    · rw [xm_up1 _ _ e, xm_up1 _ _ e]; exact h3 k hk
theorem xm_lyl (hd : d < 100) {j : Nat} (hj : j < 12) (ha : ll j = nI (a j)) (h5 : a j < 5) : f_X0_layLesson (th, ld, rd, ll, rl, si, lc, tc, lu) (nI j) (nI d) = some (upd th d (nI j), upd ld (5 * j + a j) (nI d), upd ll j (nI (a j + 1)), upd si j (nI d), lc + 1, nI d) := by
  rw [f_X0_layLesson_e, xm_g (k := j) (by omega) (by omega), nI_clamp (by omega : j < 2 ^ 31), ha, xm_y5, xm_g (k := 5 * j + a j) (by omega) (by omega), nI_clamp (by omega : 5 * j + a j < 2 ^ 31), f_X0_use_e, xm_g (k := d) (by omega) (by omega), xm_g (k := j) (by omega) (by omega), nI_clamp (by omega : d < 2 ^ 31), nI_clamp (by omega : j < 2 ^ 31), nI_1]
  rfl
theorem xm_lyr {le ki wo kt ma ga ne od : xF} {g s : Nat → Nat} (hd : d < 100) (hdat : xm_dat n le ma ga od l m g s) (hst : xm_st n d l m ll rl si a b t) {j : Nat} (hj : j < n) (hb3 : b j < 3) : f_X0_layRevisit (th, ld, rd, ll, rl, si, lc, tc, lu) (nI n, le, ki, wo, kt, ma, ga, ne, od) (nI j) (nI d) = some (upd th d (nI (100 + j)), upd rd (3 * j + b j) (nI d), upd rl j (nI (b j + 1)), upd si j (nI d), lc + 1, tc + (if nI d < nI (xm_LT g b t j) then 0 else 1), nI d) := by
  have h12 := hdat.1
  obtain ⟨-, ⟨hb, -⟩, -, -⟩ := hst j hj
  have hv : (if nI d < nI (xm_LT g b t j) then some tc else some (tc + (1 : Int32))) = some (tc + (if nI d < nI (xm_LT g b t j) then 0 else 1)) := by
    by_cases h : nI d < nI (xm_LT g b t j)
    · rw [if_pos h, if_pos h, Int32.add_zero]
    · rw [if_neg h, if_neg h]
  rw [f_X0_layRevisit_e, xm_lf hdat hst hj, Option.bind_some, hv, Option.bind_some, xm_g (k := j) (by omega) (by omega), nI_clamp (by omega : j < 2 ^ 31), hb, xm_y3, xm_g (k := 3 * j + b j) (by omega) (by omega), nI_clamp (by omega : 3 * j + b j < 2 ^ 31), xm_100, f_X0_use_e, xm_g (k := d) (by omega) (by omega), xm_g (k := j) (by omega) (by omega), nI_clamp (by omega : d < 2 ^ 31), nI_clamp (by omega : j < 2 ^ 31), nI_1]
  rfl
end XS
