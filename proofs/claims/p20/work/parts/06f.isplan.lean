theorem xq_bij : ∀ (N : Nat) {P Q : Nat → Bool} {M : Nat} (f : Nat → Nat), (∀ x, x < N → P x = true → f x < M ∧ Q (f x) = true) → (∀ x y, x < N → y < N → P x = true → P y = true → f x = f y → x = y) → fb_ct P N ≤ fb_ct Q M := by
  intro N
  induction N with
  | zero => intro P Q M f _ _; exact Nat.zero_le _
  | succ N ih =>
    intro P Q M f h1 h2
    rw [fb_ct_succ]
    by_cases hp : P N = true
    · rw [if_pos hp]
      obtain ⟨a1, a2⟩ := h1 N (by omega) hp
      have hu := fb_ct_upd Q false a1
      rw [if_pos a2, if_neg (by decide : ¬ false = true)] at hu
      have := ih (P := P) (Q := fun k => if k = f N then false else Q k) (M := M) f (fun x hx hpx => by
        obtain ⟨b1, b2⟩ := h1 x (by omega) hpx
        refine ⟨b1, ?_⟩
        have hne : ¬ f x = f N := fun e => by have := h2 x N (by omega) (by omega) hpx hp e; omega
        show (if f x = f N then false else Q (f x)) = true
        rw [if_neg hne]; exact b2) (fun x y hx hy => h2 x y (by omega) (by omega))
      omega
    · rw [if_neg hp]
      exact ih f (fun x hx => h1 x (by omega)) (fun x y hx hy => h2 x y (by omega) (by omega))
section XG
variable {n : Nat} {l m g s : Nat → Nat} {kt lo : xF} {A B T : Nat → Nat → Nat} {pk : Nat → Option Nat} {ka kr kc ke kv kp : xF}
-- lessons lie in their order
def xq_bf (l s : Nat → Nat) (p i p1 i1 : Nat) : Prop := (p1 < p ∧ i1 < l (s p1)) ∨ (p1 = p ∧ i1 < i)
theorem xq_order (hq : xq_dat n l m g s) (h : xq_tr n l m g s kt lo A B T pk) {p i q p1 i1 : Nat} (hp : p < n) (he : xq_E A pk 100 (s p) i = some q) (hb : xq_bf l s p i p1 i1) : ∃ q1, q1 < q ∧ xq_E A pk 100 (s p1) i1 = some q1 := by
  obtain ⟨h12, d1, d2, d3⟩ := hq
  obtain ⟨e1, e2, e3⟩ := xq_E_some he
  have hsp := d2 p hp
  have key : i1 < A q (s p1) := by
    rcases hb with ⟨b1, b2⟩ | ⟨b1, b2⟩
    · obtain ⟨-, ⟨p2, q1, q2, q3, q4⟩ | ⟨j, q1, q2, q3⟩⟩ := xq_pick ⟨h12, d1, d2, d3⟩ h e2
      · have : p = p2 := d3 p hp p2 q1 q2
        have := q4 p1 (by omega)
        omega
      · omega
    · rw [b1, e3]; exact b2
  obtain ⟨q1, z1, z2⟩ := (xq_A_of h (show q ≤ 100 by omega)).mp key
  exact ⟨q1, z1, z2⟩
def xq_iv (l s : Nat → Nat) (A : Nat → Nat → Nat) (pk : Nat → Option Nat) (p i : Nat) (x y : Int32) : Prop := (x = 0 ∨ (x = 1 ∧ ∃ p1 i1, xq_bf l s p i p1 i1 ∧ xq_E A pk 100 (s p1) i1 = none)) ∧ (y = -1 ∨ ∃ p1 i1 q, xq_bf l s p i p1 i1 ∧ xq_E A pk 100 (s p1) i1 = some q ∧ y = nI q)
theorem xq_iv_more {p i p2 i2 : Nat} {x y : Int32} (hb : ∀ p1 i1, xq_bf l s p i p1 i1 → xq_bf l s p2 i2 p1 i1) (h : xq_iv l s A pk p i x y) : xq_iv l s A pk p2 i2 x y := by
  obtain ⟨h1, h2⟩ := h
  refine ⟨h1.imp id (fun ⟨e, p1, i1, b, z⟩ => ⟨e, p1, i1, hb _ _ b, z⟩), h2.imp id (fun ⟨p1, i1, q, b, z⟩ => ⟨p1, i1, q, hb _ _ b, z⟩)⟩
theorem xq_l173 (hq : xq_dat n l m g s) (h : xq_tr n l m g s kt lo A B T pk) (hev : xq_ev A B pk ke kv) (hka : ∀ j, j < n → ka (5 * j) = nI (l j)) (hkp : ∀ p, p < n → kp p = nI (s p)) {p : Nat} (hp : p < n) : ∀ (c i f : Nat) (x y : Int32), i + c = l (s p) → c < f → xq_iv l s A pk p i x y → ∃ x2 y2, f_L_isPlan_l173 ka (ke, kv, kp) (nI p) f (nI i) x y = some (some (x2, y2)) ∧ xq_iv l s A pk (p + 1) 0 x2 y2 := by
  have h12 := hq.1
  have hs := hq.2.2.1 p hp
  obtain ⟨hl1, hl5, -⟩ := hq.2.1 (s p) hs
  intro c
  induction c with
  | zero =>
    intro i f x y hi hf hv
    obtain ⟨f, rfl⟩ : ∃ g, f = g + 1 := ⟨f - 1, by omega⟩
    refine ⟨x, y, ?_, xq_iv_more (fun p1 i1 b => ?_) hv⟩
    · rw [f_L_isPlan_l173_s, xm_g (k := p) (by omega) (by omega), nI_clamp (by omega : p < 2 ^ 31)]
      show (if ((5 : Int32) * kp p) < 0 ∨ 60 ≤ ((5 : Int32) * kp p).toNatClampNeg then none else if ka ((5 : Int32) * kp p).toNatClampNeg ≤ nI i then _ else _) = _
      rw [hkp p hp, xq_5, xm_g (k := 5 * s p) (by omega) (by omega), nI_clamp (by omega : 5 * s p < 2 ^ 31), hka (s p) hs, if_pos (nI_le (by omega) (by omega))]
    · rcases b with ⟨b1, b2⟩ | ⟨b1, b2⟩
      · exact Or.inl ⟨by omega, b2⟩
      · exact Or.inl ⟨by omega, by rw [b1]; omega⟩
  | succ c ih =>
    intro i f x y hi hf hv
    obtain ⟨f, rfl⟩ : ∃ g, f = g + 1 := ⟨f - 1, by omega⟩
    have hE := hev.1 (s p) (by omega) i (by omega)
    have hmore : ∀ p1 i1, xq_bf l s p i p1 i1 → xq_bf l s p (i + 1) p1 i1 := fun p1 i1 b => b.imp id (fun b => ⟨b.1, by omega⟩)
    have hself : xq_bf l s p (i + 1) p i := Or.inr ⟨rfl, by omega⟩
    have hunf : f_L_isPlan_l173 ka (ke, kv, kp) (nI p) (f + 1) (nI i) x y =
        if xm_o (xq_E A pk 100 (s p) i) < 0 then
          Option.bind (if x = 0 then (if 0 ≤ xm_o (xq_E A pk 100 (s p) i) then some (0 : Int32) else some (1 : Int32)) else some (1 : Int32)) fun (v37 : Int32) => if 0 ≤ xm_o (xq_E A pk 100 (s p) i) then f_L_isPlan_l173 ka (ke, kv, kp) (nI p) f (nI (i + 1)) v37 (xm_o (xq_E A pk 100 (s p) i)) else f_L_isPlan_l173 ka (ke, kv, kp) (nI p) f (nI (i + 1)) v37 y
        else if x = 0 then (if y < xm_o (xq_E A pk 100 (s p) i) then Option.bind (if 0 ≤ xm_o (xq_E A pk 100 (s p) i) then some (0 : Int32) else some (1 : Int32)) fun (v44 : Int32) => if 0 ≤ xm_o (xq_E A pk 100 (s p) i) then f_L_isPlan_l173 ka (ke, kv, kp) (nI p) f (nI (i + 1)) v44 (xm_o (xq_E A pk 100 (s p) i)) else f_L_isPlan_l173 ka (ke, kv, kp) (nI p) f (nI (i + 1)) v44 y else some none) else some none := by
      rw [f_L_isPlan_l173_s, xm_g (k := p) (by omega) (by omega), nI_clamp (by omega : p < 2 ^ 31)]
      show (if ((5 : Int32) * kp p) < 0 ∨ 60 ≤ ((5 : Int32) * kp p).toNatClampNeg then none else if ka ((5 : Int32) * kp p).toNatClampNeg ≤ nI i then _ else if (((5 : Int32) * kp p) + nI i) < 0 ∨ 60 ≤ (((5 : Int32) * kp p) + nI i).toNatClampNeg then none else if ke (((5 : Int32) * kp p) + nI i).toNatClampNeg < 0 then Option.bind (if x = 0 then (if 0 ≤ ke (((5 : Int32) * kp p) + nI i).toNatClampNeg then some (0 : Int32) else some (1 : Int32)) else some (1 : Int32)) (fun (v37 : Int32) => if 0 ≤ ke (((5 : Int32) * kp p) + nI i).toNatClampNeg then f_L_isPlan_l173 ka (ke, kv, kp) (nI p) f (nI i + (1 : Int32)) v37 (ke (((5 : Int32) * kp p) + nI i).toNatClampNeg) else f_L_isPlan_l173 ka (ke, kv, kp) (nI p) f (nI i + (1 : Int32)) v37 y) else if x = 0 then (if y < ke (((5 : Int32) * kp p) + nI i).toNatClampNeg then Option.bind (if 0 ≤ ke (((5 : Int32) * kp p) + nI i).toNatClampNeg then some (0 : Int32) else some (1 : Int32)) (fun (v44 : Int32) => if 0 ≤ ke (((5 : Int32) * kp p) + nI i).toNatClampNeg then f_L_isPlan_l173 ka (ke, kv, kp) (nI p) f (nI i + (1 : Int32)) v44 (ke (((5 : Int32) * kp p) + nI i).toNatClampNeg) else f_L_isPlan_l173 ka (ke, kv, kp) (nI p) f (nI i + (1 : Int32)) v44 y) else some none) else some none) = _
      rw [hkp p hp, xq_5, xm_g (k := 5 * s p) (by omega) (by omega), nI_clamp (by omega : 5 * s p < 2 ^ 31), hka (s p) hs, if_neg (nI_ge (by omega) (by omega)), nI_add, xm_g (k := 5 * s p + i) (by omega) (by omega), nI_clamp (by omega : 5 * s p + i < 2 ^ 31), hE, nI_1]
    rw [hunf]
    cases he : xq_E A pk 100 (s p) i with
    | none =>
      have hv1 : (if x = 0 then (if (0 : Int32) ≤ (-1 : Int32) then some (0 : Int32) else some (1 : Int32)) else some (1 : Int32)) = some 1 := by
        by_cases z : x = 0
        · rw [if_pos z, if_neg (by decide)]
        · rw [if_neg z]
      rw [xm_o_none, if_pos (by decide), hv1, Option.bind_some, if_neg (by decide)]
      exact ih (i + 1) f 1 y (by omega) (by omega) ⟨Or.inr ⟨rfl, p, i, hself, he⟩, (xq_iv_more hmore hv).2⟩
    | some q =>
      have hq100 := (xq_E_some he).1
      have hx : x = 0 := by
        rcases hv.1 with z | ⟨z, p1, i1, b, z2⟩
        · exact z
        · obtain ⟨q1, -, z3⟩ := xq_order hq h hp he b
          rw [z2] at z3; cases z3
      have hy : y < nI q := by
        rcases hv.2 with z | ⟨p1, i1, q0, b, z2, z3⟩
        · rw [z, Int32.lt_iff_toInt_lt, nI_toInt (by omega), show (-1 : Int32).toInt = -1 from rfl]; omega
        · obtain ⟨q1, z4, z5⟩ := xq_order hq h hp he b
          rw [z2] at z5
          rw [z3, Option.some.inj z5]
          exact nI_lt z4 (by omega)
      rw [xm_o_some, if_neg (nI_pos (by omega)), if_pos hx, if_pos hy, if_pos (nI_pos' (by omega)), Option.bind_some, if_pos (nI_pos' (by omega))]
      exact ih (i + 1) f 0 (nI q) (by omega) (by omega) ⟨Or.inl rfl, Or.inr ⟨p, i, q, hself, he, rfl⟩⟩
theorem xq_l162 (hq : xq_dat n l m g s) (h : xq_tr n l m g s kt lo A B T pk) (hev : xq_ev A B pk ke kv) (hc : kc (0 : Int32).toNatClampNeg = nI n) (hka : ∀ j, j < n → ka (5 * j) = nI (l j)) (hkp : ∀ p, p < n → kp p = nI (s p)) : ∀ (c p f : Nat) (x y : Int32), p + c = n → c < f → xq_iv l s A pk p 0 x y → f_L_isPlan_l162 ka kc (ke, kv, kp) f (nI p) x y = some (some ()) := by
  have h12 := hq.1
  intro c
  induction c with
  | zero =>
    intro p f x y hp hf hv
    obtain ⟨f, rfl⟩ : ∃ g, f = g + 1 := ⟨f - 1, by omega⟩
    rw [f_L_isPlan_l162_s, hc, if_pos (nI_le (by omega) (by omega))]
  | succ c ih =>
    intro p f x y hp hf hv
    obtain ⟨f, rfl⟩ : ∃ g, f = g + 1 := ⟨f - 1, by omega⟩
    have hl5 := (hq.2.1 (s p) (hq.2.2.1 p (by omega))).2.1
    obtain ⟨x2, y2, e, hv2⟩ := xq_l173 hq h hev hka hkp (p := p) (by omega) (l (s p)) 0 300 x y (by omega) (by omega) hv
    have e : f_L_isPlan_l173 ka (ke, kv, kp) (nI p) 300 (0 : Int32) x y = some (some (x2, y2)) := e
    rw [f_L_isPlan_l162_s, hc, if_neg (nI_ge (by omega) (by omega)), e, Option.bind_some, nI_1]
    exact ih (p + 1) f x2 y2 (by omega) (by omega) hv2
-- revisits lie behind what they are counted from
def xq_lw (l g : Nat → Nat) (A B : Nat → Nat → Nat) (pk : Nat → Option Nat) (j k : Nat) : Bool := match xq_V B pk 100 j k with
  | some q => (match xq_fr l A B pk j k with
    | some t => decide (t + 2 * (g j * 2 ^ k) ≤ q)
    | none => false)
  | none => false
theorem xq_lw_0 {j k : Nat} (h : xq_V B pk 100 j k = none) : xq_lw l g A B pk j k = false := by unfold xq_lw; rw [h]
theorem xq_lw_1 {j k q t : Nat} (h : xq_V B pk 100 j k = some q) (h2 : xq_fr l A B pk j k = some t) : xq_lw l g A B pk j k = decide (t + 2 * (g j * 2 ^ k) ≤ q) := by unfold xq_lw; rw [h, h2]
theorem xq_rv (hq : xq_dat n l m g s) (h : xq_tr n l m g s kt lo A B T pk) {j k q : Nat} (hV : xq_V B pk 100 j k = some q) : j < n ∧ B q j = k ∧ pk q = some (100 + j) ∧ q < 100 ∧ xq_fr l A B pk j k = some (T q j) ∧ T q j + g j * 2 ^ k ≤ q := by
  obtain ⟨e1, e2, e3⟩ := xq_V_some hV
  obtain ⟨a1, a2, a3, a4⟩ := xq_rev hq h e2
  have := (xq_fr_T hq h (show q ≤ 100 by omega) a1 a2).1
  rw [e3] at this a4
  exact ⟨a1, e3, e2, e1, this, a4⟩
theorem xq_l296 (hq : xq_dat n l m g s) (h : xq_tr n l m g s kt lo A B T pk) (hev : xq_ev A B pk ke kv) {j : Nat} (hj : j < n) (hkr : kr (2 * j) = nI (m j) ∧ kr (2 * j + 1) = nI (g j)) : ∀ (c k f x : Nat), k + c = m j → c < f → f_L_isPlan_l296 kr (ke, kv, kp) (nI j) f (nI k) (xm_o (xq_fr l A B pk j k)) (nI x) = some (some (nI (x + fb_ct (fun i => xq_lw l g A B pk j (k + i)) c))) := by
  have h12 := hq.1
  obtain ⟨hl1, hl5, hm3, hg⟩ := hq.2.1 j hj
  intro c
  induction c with
  | zero =>
    intro k f x hk hf
    obtain ⟨f, rfl⟩ : ∃ g, f = g + 1 := ⟨f - 1, by omega⟩
    rw [f_L_isPlan_l296_s, xq_2, xm_g (k := 2 * j) (by omega) (by omega), nI_clamp (by omega : 2 * j < 2 ^ 31), hkr.1, if_pos (nI_le (by omega) (by omega))]
    rfl
  | succ c ih =>
    intro k f x hk hf
    obtain ⟨f, rfl⟩ : ∃ g, f = g + 1 := ⟨f - 1, by omega⟩
    have hsplit : fb_ct (fun i => xq_lw l g A B pk j (k + i)) (c + 1) = (if xq_lw l g A B pk j k = true then 1 else 0) + fb_ct (fun i => xq_lw l g A B pk j (k + 1 + i)) c := by
      have := fb_ct_split (fun i => xq_lw l g A B pk j (k + i)) 1 c
      rw [show 1 + c = c + 1 by omega] at this
      rw [this]
      have e : (fun i => xq_lw l g A B pk j (k + (1 + i))) = (fun i => xq_lw l g A B pk j (k + 1 + i)) := funext fun i => by rw [show k + (1 + i) = k + 1 + i by omega]
      rw [e]
      show 0 + (if xq_lw l g A B pk j (k + 0) = true then 1 else 0) + _ = _
      rw [Nat.zero_add, Nat.add_zero]
    have hv := hev.2 j (by omega) k (by omega)
    have hgk := xm_gb hg (show k ≤ 3 by omega)
    have hfr : xq_fr l A B pk j (k + 1) = xq_V B pk 100 j k := by unfold xq_fr; rw [if_neg (by omega), Nat.add_sub_cancel]
    have ih' := fun x => ih (k + 1) f x (by omega) (by omega)
    rw [hfr] at ih'
    rw [f_L_isPlan_l296_s, xq_2, xm_g (k := 2 * j) (by omega) (by omega), nI_clamp (by omega : 2 * j < 2 ^ 31), hkr.1, if_neg (nI_ge (by omega) (by omega)), xq_3, nI_add, xm_g (k := 3 * j + k) (by omega) (by omega), nI_clamp (by omega : 3 * j + k < 2 ^ 31), xq_p1, xm_g (k := 2 * j + 1) (by omega) (by omega), nI_clamp (by omega : 2 * j + 1 < 2 ^ 31), hkr.2, xm_shl (g j) (by omega) (k) (by omega), nI_1, hsplit]
    show (if kv (3 * j + k) < 0 then f_L_isPlan_l296 kr (ke, kv, kp) (nI j) f (nI (k + 1)) (kv (3 * j + k)) (nI x + (0 : Int32)) else if xm_o (xq_fr l A B pk j k) < 0 then some none else if (xm_o (xq_fr l A B pk j k) + nI (g j * 2 ^ k)) ≤ kv (3 * j + k) then Option.bind (if kv (3 * j + k) < (xm_o (xq_fr l A B pk j k) + ((2 : Int32) * nI (g j * 2 ^ k))) then some (0 : Int32) else some (1 : Int32)) (fun (v65 : Int32) => f_L_isPlan_l296 kr (ke, kv, kp) (nI j) f (nI (k + 1)) (kv (3 * j + k)) (nI x + v65)) else some none) = _
    rw [hv]
    cases hV : xq_V B pk 100 j k with
    | none =>
      rw [xq_lw_0 hV, xm_o_none, if_pos (by decide), Int32.add_zero]
      have := ih' x
      rw [hV, xm_o_none] at this
      rw [this]
      simp
    | some q =>
      obtain ⟨a1, a2, a3, a4, a5, a6⟩ := xq_rv hq h hV
      have hTq := xq_fr_lt a5
      have ih2 := ih'
      simp only [hV, xm_o_some] at ih2
      rw [xq_lw_1 hV a5, a5, xm_o_some, xm_o_some, if_neg (nI_pos (by omega)), if_neg (nI_pos (by omega)), nI_add, if_pos (nI_le a6 (by omega)), xq_2, nI_add]
      by_cases z : T q j + 2 * (g j * 2 ^ k) ≤ q
      · rw [if_neg (nI_nlt z (by omega)), Option.bind_some, nI_1, ih2, decide_eq_true z, if_pos rfl, Nat.add_assoc]
      · rw [if_pos (nI_lt (by omega) (by omega)), Option.bind_some, Int32.add_zero, ih2, decide_eq_false z, if_neg (by decide), Nat.zero_add]
def xq_W (l g : Nat → Nat) (A B : Nat → Nat → Nat) (pk : Nat → Option Nat) (x : Nat) : Bool := xq_lw l g A B pk (x / 3) (x % 3)
theorem xq_l267 (hq : xq_dat n l m g s) (h : xq_tr n l m g s kt lo A B T pk) (hev : xq_ev A B pk ke kv) (hc : kc (0 : Int32).toNatClampNeg = nI n) (hka : ∀ j, j < n → ka (5 * j) = nI (l j)) (hkr : ∀ j, j < n → kr (2 * j) = nI (m j) ∧ kr (2 * j + 1) = nI (g j)) : ∀ (c j f : Nat), j + c = n → c < f → f_L_isPlan_l267 ka kr kc (ke, kv, kp) f (nI j) (nI (fb_ct (xq_W l g A B pk) (3 * j))) = some (some (nI (fb_ct (xq_W l g A B pk) (3 * n)))) := by
  have h12 := hq.1
  intro c
  induction c with
  | zero =>
    intro j f hj hf
    obtain ⟨f, rfl⟩ : ∃ g, f = g + 1 := ⟨f - 1, by omega⟩
    rw [f_L_isPlan_l267_s, hc, if_pos (nI_le (by omega) (by omega)), show j = n by omega]
  | succ c ih =>
    intro j f hj hf
    obtain ⟨f, rfl⟩ : ∃ g, f = g + 1 := ⟨f - 1, by omega⟩
    have hjn : j < n := by omega
    obtain ⟨hl1, hl5, hm3, hg⟩ := hq.2.1 j hjn
    have hE := xq_last_e hq hev hjn
    have hin := xq_l296 (kp := kp) hq h hev hjn (hkr j hjn) (m j) 0 300 (fb_ct (xq_W l g A B pk) (3 * j)) (by omega) (by omega)
    rw [show xq_fr l A B pk j 0 = xq_E A pk 100 j (l j - 1) from if_pos rfl] at hin
    have hin : f_L_isPlan_l296 kr (ke, kv, kp) (nI j) 300 (0 : Int32) (xm_o (xq_E A pk 100 j (l j - 1))) (nI (fb_ct (xq_W l g A B pk) (3 * j))) = _ := hin
    have hsum : fb_ct (xq_W l g A B pk) (3 * j) + fb_ct (fun i => xq_lw l g A B pk j (0 + i)) (m j) = fb_ct (xq_W l g A B pk) (3 * (j + 1)) := by
      rw [show 3 * (j + 1) = 3 * j + 3 by omega, fb_ct_split (xq_W l g A B pk) (3 * j) 3]
      have e3 : fb_ct (fun k => xq_W l g A B pk (3 * j + k)) 3 = fb_ct (fun i => xq_lw l g A B pk j (0 + i)) 3 := fb_ct_cong (fun k hk => by
        unfold xq_W
        rw [show (3 * j + k) / 3 = j by omega, show (3 * j + k) % 3 = k by omega, Nat.zero_add])
      have e4 : fb_ct (fun i => xq_lw l g A B pk j (0 + i)) (m j + (3 - m j)) = fb_ct (fun i => xq_lw l g A B pk j (0 + i)) (m j) + fb_ct (fun i => xq_lw l g A B pk j (0 + (m j + i))) (3 - m j) := fb_ct_split _ (m j) (3 - m j)
      rw [show m j + (3 - m j) = 3 by omega] at e4
      have e5 : fb_ct (fun i => xq_lw l g A B pk j (0 + (m j + i))) (3 - m j) = 0 := fb_ct_zero.mpr (fun k hk => xq_lw_0 (xq_V_out hq h (Or.inr (by omega))))
      rw [e3, e4, e5, Nat.add_zero]
    rw [hsum] at hin
    rw [f_L_isPlan_l267_s, hc, if_neg (nI_ge (by omega) (by omega)), xq_5, xm_g (k := 5 * j) (by omega) (by omega), nI_clamp (by omega : 5 * j < 2 ^ 31), hka j hjn, nI_add, xm_pred (by omega), xm_g (k := 5 * j + l j - 1) (by omega) (by omega), nI_clamp (by omega : 5 * j + l j - 1 < 2 ^ 31), nI_1]
    show Option.bind (f_L_isPlan_l296 kr (ke, kv, kp) (nI j) 300 (0 : Int32) (ke (5 * j + l j - 1)) (nI (fb_ct (xq_W l g A B pk) (3 * j)))) _ = _
    rw [hE, hin, Option.bind_some]
    exact ih (j + 1) f (by omega) (by omega)
theorem xq_W_late (hq : xq_dat n l m g s) (h : xq_tr n l m g s kt lo A B T pk) : fb_ct (xq_W l g A B pk) (3 * n) = fb_ct (xq_late g B T pk) 100 := by
  have h12 := hq.1
  have hW : ∀ x, xq_W l g A B pk x = true → ∃ q, xq_V B pk 100 (x / 3) (x % 3) = some q ∧ q < 100 ∧ pk q = some (100 + x / 3) ∧ B q (x / 3) = x % 3 ∧ xq_late g B T pk q = true := by
    intro x hx
    unfold xq_W at hx
    cases hV : xq_V B pk 100 (x / 3) (x % 3) with
    | none => rw [xq_lw_0 hV] at hx; cases hx
    | some q =>
      obtain ⟨a1, a2, a3, a4, a5, a6⟩ := xq_rv hq h hV
      rw [xq_lw_1 hV a5, decide_eq_true_eq] at hx
      refine ⟨q, rfl, a4, a3, a2, ?_⟩
      rw [xq_late_2 a3, decide_eq_true_eq]
      unfold xm_LT
      rw [a2]; exact hx
  have hL : ∀ q, xq_late g B T pk q = true → ∃ j, pk q = some (100 + j) := by
    intro q hq2
    cases hp : pk q with
    | none => rw [xq_late_0 hp] at hq2; cases hq2
    | some x =>
      by_cases hx : x < 100
      · rw [xq_late_1 hp hx] at hq2; cases hq2
      · exact ⟨x - 100, by rw [show 100 + (x - 100) = x by omega]⟩
  apply Nat.le_antisymm
  · refine xq_bij (3 * n) (fun x => (xq_V B pk 100 (x / 3) (x % 3)).getD 0) (fun x hx hp => ?_) (fun x y hx hy hpx hpy e => ?_)
    · obtain ⟨q, e1, e2, e3, e4, e5⟩ := hW x hp
      rw [e1]; exact ⟨e2, e5⟩
    · obtain ⟨q, e1, e2, e3, e4, e5⟩ := hW x hpx
      obtain ⟨q2, f1, f2, f3, f4, f5⟩ := hW y hpy
      have e : q = q2 := by
        have e : (xq_V B pk 100 (x / 3) (x % 3)).getD 0 = (xq_V B pk 100 (y / 3) (y % 3)).getD 0 := e
        rw [e1, f1] at e; exact e
      subst e
      have := Option.some.inj (e3.symm.trans f3)
      have ej : x / 3 = y / 3 := by omega
      rw [ej] at e4
      omega
  · refine xq_bij 100 (fun q => match pk q with | some x => 3 * (x - 100) + B q (x - 100) | none => 0) (fun q hq2 hp => ?_) (fun q q2 h1 h2 hp hp2 e => ?_)
    · obtain ⟨j, hj⟩ := hL q hp
      obtain ⟨a1, a2, a3, a4⟩ := xq_rev hq h hj
      have hm3 := (hq.2.1 j a1).2.2.1
      have hV := xq_V_of h hq2 hj rfl
      obtain ⟨b1, b2, b3, b4, b5, b6⟩ := xq_rv hq h hV
      have e : (match pk q with | some x => 3 * (x - 100) + B q (x - 100) | none => 0) = 3 * j + B q j := by rw [hj]; show 3 * (100 + j - 100) + B q (100 + j - 100) = _; rw [Nat.add_sub_cancel_left]
      show (match pk q with | some x => 3 * (x - 100) + B q (x - 100) | none => 0) < 3 * n ∧ xq_W l g A B pk (match pk q with | some x => 3 * (x - 100) + B q (x - 100) | none => 0) = true
      rw [e]
      refine ⟨by omega, ?_⟩
      unfold xq_W
      rw [show (3 * j + B q j) / 3 = j by omega, show (3 * j + B q j) % 3 = B q j by omega, xq_lw_1 hV b5, decide_eq_true_eq]
      rw [xq_late_2 hj, decide_eq_true_eq] at hp
      exact hp
    · obtain ⟨j, hj⟩ := hL q hp
      obtain ⟨j2, hj2⟩ := hL q2 hp2
      obtain ⟨a1, a2, a3, a4⟩ := xq_rev hq h hj
      obtain ⟨c1, c2, c3, c4⟩ := xq_rev hq h hj2
      have hm3 := (hq.2.1 j a1).2.2.1
      have hm3' := (hq.2.1 j2 c1).2.2.1
      have e : 3 * j + B q j = 3 * j2 + B q2 j2 := by
        have e : (match pk q with | some x => 3 * (x - 100) + B q (x - 100) | none => 0) = (match pk q2 with | some x => 3 * (x - 100) + B q2 (x - 100) | none => 0) := e
        rw [hj, hj2] at e
        have e : 3 * (100 + j - 100) + B q (100 + j - 100) = 3 * (100 + j2 - 100) + B q2 (100 + j2 - 100) := e
        rwa [Nat.add_sub_cancel_left, Nat.add_sub_cancel_left] at e
      have ej : j = j2 := by omega
      subst ej
      exact xq_uni (xq_cB h j) (decide_eq_true hj) (decide_eq_true hj2) (by show B q j = B q2 j; omega)
end XG
