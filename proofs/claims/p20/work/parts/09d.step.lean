theorem xq_r4 {a : Nat} (ha : a < 2 ^ 31) : nI a - nI a / (4 : Int32) * (4 : Int32) = nI (a % 4) := xq_mod (b := 4) ha (by omega) (by omega)
theorem xq_d4 {a : Nat} (ha : a < 2 ^ 31) : nI a / (4 : Int32) = nI (a / 4) := xq_div (b := 4) ha (by omega) (by omega)
theorem xq_d15 {a : Nat} (ha : a < 2 ^ 31) : nI a / (15 : Int32) = nI (a / 15) := xq_div (b := 15) ha (by omega) (by omega)
theorem xq_1p (a : Nat) : (1 : Int32) + nI a = nI (1 + a) := nI_add 1 a
theorem xq_pick2 {z A B : Nat} (hz : z < 2 ^ 31) : (if nI (z % 3) = 0 then some (nI A) else some (nI B)) = some (nI (if z % 3 = 0 then A else B)) := by
  by_cases h : z % 3 = 0
  · rw [if_pos h, h, if_pos (by decide)]
  · rw [if_neg h, if_neg (nI_ne0 (by omega) (by omega))]
def xq_ok (lo : xF) (y : xSY) (P : xPL) (ka kr kc : xF) (kl : Nat → Int64) : Prop := ∃ n le ki wo kt ma ga ne od, y = (nI n, le, ki, wo, kt, ma, ga, ne, od) ∧ xq_ok0 n le ki wo kt ma ga ne od lo ka kr kc kl ∧ xq_pn n le ki kt ma ga ne lo P
def xq_go (R : Option (Int32 × xF × xSY × xPL × xPL × xF × xF × xF × (Nat → Int64))) : Prop := ∃ lo y P Q ka kr kc kl, R = some (1, lo, y, P, Q, ka, kr, kc, kl) ∧ xq_ok lo y P ka kr kc kl
section XS
variable {n : Nat} {le ki wo kt ma ga ne od lo ka kr kc : xF} {kl : Nat → Int64} {P Q : xPL}
theorem xq_new (h : xq_ok0 n le ki wo kt ma ga ne od lo ka kr kc kl) (h12 : n < 12) {x z : Nat} (hx : x < 2 ^ 30) (hz : z < 2 ^ 30) (P Q : xPL) :
    ∃ a k w v od2 P2, nI a = (1 : Int32) + nI (x % 5) ∧ nI k = nI (x / 5 % 3) ∧ nI w = (1 : Int32) + nI (z % (if z % 3 = 0 then 99 else 20)) ∧ v = nI (x / 15 % 4) - (1 : Int32) ∧ f_X2_aim lo (nI n, le, ki, wo, kt, ma, ga, ne, od) P Q (nI a) (nI k) (nI w) v = some (nI n, nI (n + 1), upd le n (nI a), upd ki n (nI k), upd wo n (nI w), upd kt n v, upd ga n 1, od2, P2, P) ∧ xq_ok lo (nI (n + 1), upd le n (nI a), upd ki n (nI k), upd wo n (nI w), upd kt n v, ma, upd ga n 1, ne, od2) P2 (upd (upd (upd (upd ka (5 * n) (nI a)) (5 * n + 1) (nI k)) (5 * n + 2) (nI w)) (5 * n + 3) v) (upd kr (2 * n + 1) 1) (upd kc 0 (nI (n + 1))) kl := by
  obtain ⟨-, hv, ⟨hc, ha, hf⟩, hac, hod, hlk⟩ := h
  obtain ⟨f1, f2, f3, f4⟩ := hf n (Nat.le_refl n) h12
  have hV : 0 < (if z % 3 = 0 then 99 else 20) ∧ (if z % 3 = 0 then 99 else 20) ≤ 99 := by
    by_cases y : z % 3 = 0
    · rw [if_pos y]; omega
    · rw [if_neg y]; omega
  generalize (if z % 3 = 0 then 99 else 20) = V at hV ⊢
  have hzV : z % V < V := Nat.mod_lt _ hV.1
  have hvv : nI (x / 15 % 4) - (1 : Int32) = -1 ∨ ∃ t, t < 3 ∧ nI (x / 15 % 4) - (1 : Int32) = nI t := by
    by_cases y : x / 15 % 4 = 0
    · rw [y]; exact Or.inl (by decide)
    · exact Or.inr ⟨x / 15 % 4 - 1, by omega, xm_pred (by omega)⟩
  obtain ⟨od2, P2, e1, e2, e3, e4, e5⟩ := xq_aim (wo := wo) (od := od) h12 hv hac f1 f2 (a := 1 + x % 5) (k := x / 5 % 3) (w := 1 + z % V) (by omega) (by omega) (by omega) hvv lo P Q
  refine ⟨1 + x % 5, x / 5 % 3, 1 + z % V, _, od2, P2, (xq_1p _).symm, rfl, (xq_1p _).symm, rfl, e1, n + 1, _, _, _, _, _, _, _, _, rfl, ⟨by omega, e2, ⟨by rw [xm_up0], fun j hj => ?_, fun j h1 h2 => ?_⟩, e3, e4, hlk⟩, e5⟩
  · by_cases e : j = n
    · subst e
      rw [xm_up0, xm_up0, xm_up0, xm_up0, xm_up0, xm_up1 _ _ (by omega), xm_up1 _ _ (by omega), xm_up1 _ _ (by omega), xm_up0, xm_up1 _ _ (by omega), xm_up1 _ _ (by omega), xm_up0, xm_up1 _ _ (by omega), xm_up0, xm_up0, xm_up1 _ _ (by omega), xm_up1 _ _ (by omega), xm_up1 _ _ (by omega), xm_up1 _ _ (by omega), xm_up1 _ _ (by omega), xm_up0]
      exact ⟨rfl, rfl, rfl, rfl, f3.trans f1.symm, f4.trans f2.symm, rfl⟩
    · obtain ⟨a1, a2, a3, a4, a5, a6, a7⟩ := ha j (by omega)
      rw [xm_up1 _ _ e, xm_up1 _ _ e, xm_up1 _ _ e, xm_up1 _ _ e, xm_up1 _ _ e]
      refine ⟨?_, ?_, ?_, ?_, ?_, ?_, ?_⟩
      · rw [xm_up1 _ _ (by omega), xm_up1 _ _ (by omega), xm_up1 _ _ (by omega), xm_up1 _ _ (by omega)]; exact a1
      · rw [xm_up1 _ _ (by omega), xm_up1 _ _ (by omega), xm_up1 _ _ (by omega), xm_up1 _ _ (by omega)]; exact a2
      · rw [xm_up1 _ _ (by omega), xm_up1 _ _ (by omega), xm_up1 _ _ (by omega), xm_up1 _ _ (by omega)]; exact a3
      · rw [xm_up1 _ _ (by omega), xm_up1 _ _ (by omega), xm_up1 _ _ (by omega), xm_up1 _ _ (by omega)]; exact a4
      · rw [xm_up1 _ _ (by omega), xm_up1 _ _ (by omega), xm_up1 _ _ (by omega), xm_up1 _ _ (by omega)]; exact a5
      · rw [xm_up1 _ _ (by omega)]; exact a6
      · rw [xm_up1 _ _ (by omega)]; exact a7
  · obtain ⟨b1, b2, b3, b4⟩ := hf j (by omega) h2
    refine ⟨b1, b2, ?_, ?_⟩
    · rw [xm_up1 _ _ (by omega), xm_up1 _ _ (by omega), xm_up1 _ _ (by omega), xm_up1 _ _ (by omega)]; exact b3
    · rw [xm_up1 _ _ (by omega)]; exact b4
theorem xq_keep (h : xq_ok0 n le ki wo kt ma ga ne od lo ka kr kc kl) {a : Nat} {v : Int32} (ha : a < n) (hac : xm_acy n (upd ne a v)) {od2 : xF} (hod : ∀ p, p < n → od2 p = nI (xq_s n ki (upd ne a v) p)) : xq_ok0 n le ki wo kt ma ga (upd ne a v) od2 lo (upd ka (5 * a + 4) v) kr kc kl := by
  obtain ⟨h12, hv, ⟨hc, har, hf⟩, -, -, hlk⟩ := h
  refine ⟨h12, hv, ⟨hc, fun j hj => ?_, fun j h1 h2 => ?_⟩, hac, hod, hlk⟩
  · obtain ⟨a1, a2, a3, a4, a5, a6, a7⟩ := har j hj
    refine ⟨?_, ?_, ?_, ?_, ?_, a6, a7⟩
    · rw [xm_up1 _ _ (by omega)]; exact a1
    · rw [xm_up1 _ _ (by omega)]; exact a2
    · rw [xm_up1 _ _ (by omega)]; exact a3
    · rw [xm_up1 _ _ (by omega)]; exact a4
    · by_cases e : j = a
      · rw [e, xm_up0, xm_up0]
      · rw [xm_up1 _ _ e, xm_up1 _ _ (by omega)]; exact a5
  · obtain ⟨b1, b2, b3, b4⟩ := hf j h1 h2
    rw [xm_up1 _ _ (by omega), xm_up1 _ _ (by omega)]
    exact ⟨b1, b2, b3, b4⟩
theorem xq_keep0 (h : xq_ok0 n le ki wo kt ma ga ne od lo ka kr kc kl) {a : Nat} {v : Int32} (ha : a < n) (hv : v = ne a) : xq_ok0 n le ki wo kt ma ga ne od lo (upd ka (5 * a + 4) v) kr kc kl := by
  obtain ⟨h12, hvl, ⟨hc, har, hf⟩, hac, hod, hlk⟩ := h
  have e : ∀ j, j < 60 → upd ka (5 * a + 4) v j = ka j := fun j _ => by
    by_cases z : j = 5 * a + 4
    · rw [z, xm_up0, hv, (har a ha).2.2.2.2.1]
    · rw [xm_up1 _ _ z]
  refine ⟨h12, hvl, ⟨hc, fun j hj => ?_, fun j h1 h2 => ?_⟩, hac, hod, hlk⟩
  · rw [e _ (by omega), e _ (by omega), e _ (by omega), e _ (by omega), e _ (by omega)]; exact har j hj
  · rw [e _ (by omega)]; exact hf j h1 h2
set_option maxHeartbeats 4000000 in
theorem xq_step (h : xq_ok0 n le ki wo kt ma ga ne od lo ka kr kc kl) (hp : xq_pn n le ki kt ma ga ne lo P) {w x z : Nat} (hw : w < 14) (hx : x < 2 ^ 30) (hz : z < 2 ^ 30) : xq_go (f_L_step lo (nI n, le, ki, wo, kt, ma, ga, ne, od) P Q ka kr kc kl (nI w) (nI x) (nI z)) := by
  have h12 := h.1
  have hv := h.2.1
  have hc : kc (0 : Int32).toNatClampNeg = nI n := (congrArg kc xq_z0).trans h.2.2.1.1
  have har := h.2.2.1.2.1
  have hac := h.2.2.2.1
  have hod := h.2.2.2.2.1
  have hlk := h.2.2.2.2.2
  have same : xq_ok lo (nI n, le, ki, wo, kt, ma, ga, ne, od) P ka kr kc kl := ⟨n, le, ki, wo, kt, ma, ga, ne, od, rfl, h, hp⟩
  have n12 : ¬ n = 12 → n < 12 := fun y => by omega
  have hnew := fun y : n < 12 => xq_new h y hx hz P Q
  obtain ⟨p0, p1, p2, p3, p4, p5, p6, p7, p8⟩ := P
  obtain ⟨q0, q1, q2, q3, q4, q5, q6, q7, q8⟩ := Q
  have c12 : ¬ n = 12 → ¬ nI n = (12 : Int32) := fun y e => y (xm_inj (b := 12) (by omega) (by omega) e)
  have hr3z := xq_r3 (a := z) (by omega)
  have hr5 := xq_r5 (a := x) (by omega)
  have hd5 := xq_d5 (a := x) (by omega)
  have hr3x := xq_r3 (a := x / 5) (by omega)
  have hd15 := xq_d15 (a := x) (by omega)
  have hr4 := xq_r4 (a := x / 15) (by omega)
  have h9920 : (if nI (z % 3) = 0 then some (99 : Int32) else some (20 : Int32)) = some (nI (if z % 3 = 0 then 99 else 20)) := xq_pick2 (A := 99) (B := 20) (by omega)
  rw [f_L_step_e, hc]
  by_cases hw3 : w < 3
  · rw [if_pos (show nI w < (3 : Int32) from nI_lt (b := 3) hw3 (by omega))]
    by_cases h12' : n = 12
    · rw [if_pos (show nI n = (12 : Int32) by rw [h12']; rfl)]
      exact ⟨_, _, _, _, _, _, _, _, rfl, same⟩
    · have hn := n12 h12'
      obtain ⟨a, k, w9, v, od2, P2, e1, e2, e3, e4, e5, e6⟩ := hnew hn
      have hV0 : ¬ nI (if z % 3 = 0 then 99 else 20) = 0 := by
        by_cases y : z % 3 = 0
        · rw [if_pos y]; decide
        · rw [if_neg y]; decide
      have hV : 0 < (if z % 3 = 0 then 99 else 20) ∧ (if z % 3 = 0 then 99 else 20) < 2 ^ 31 := by
        by_cases y : z % 3 = 0
        · rw [if_pos y]; decide
        · rw [if_neg y]; decide
      have hrV := xq_mod (a := z) (b := if z % 3 = 0 then 99 else 20) (by omega) hV.1 hV.2
      rw [if_neg (c12 h12'), xq_5, xm_g (k := 5 * n) (by omega) (by omega), xq_p1, xm_g (k := 5 * n + 1) (by omega) (by omega), hr3z, h9920, Option.bind_some, if_neg hV0, xq_p2, xm_g (k := 5 * n + 2) (by omega) (by omega), xq_p3, xm_g (k := 5 * n + 3) (by omega) (by omega), xq_2, xq_p1, xm_g (k := 2 * n + 1) (by omega) (by omega), hrV, hr5, hd5, hr3x, hd15, hr4, ← e1, ← e2, ← e3, ← e4, nI_clamp (by omega : 5 * n < 2 ^ 31), nI_clamp (by omega : 5 * n + 1 < 2 ^ 31), nI_clamp (by omega : 5 * n + 2 < 2 ^ 31), nI_clamp (by omega : 5 * n + 3 < 2 ^ 31), nI_clamp (by omega : 2 * n + 1 < 2 ^ 31), xq_p1, xq_z0]
      have r0 : upd (upd (upd (upd ka (5 * n) (nI a)) (5 * n + 1) (nI k)) (5 * n + 2) (nI w9)) (5 * n + 3) v (5 * n) = nI a := by rw [xm_up1 _ _ (by omega), xm_up1 _ _ (by omega), xm_up1 _ _ (by omega), xm_up0]
      have r1 : upd (upd (upd (upd ka (5 * n) (nI a)) (5 * n + 1) (nI k)) (5 * n + 2) (nI w9)) (5 * n + 3) v (5 * n + 1) = nI k := by rw [xm_up1 _ _ (by omega), xm_up1 _ _ (by omega), xm_up0]
      have r2 : upd (upd (upd (upd ka (5 * n) (nI a)) (5 * n + 1) (nI k)) (5 * n + 2) (nI w9)) (5 * n + 3) v (5 * n + 2) = nI w9 := by rw [xm_up1 _ _ (by omega), xm_up0]
      have r3 : upd (upd (upd (upd ka (5 * n) (nI a)) (5 * n + 1) (nI k)) (5 * n + 2) (nI w9)) (5 * n + 3) v (5 * n + 3) = v := by rw [xm_up0]
      rw [r0, r1, r2, r3, e5, Option.bind_some, xm_up0, nI_pred, if_pos rfl]
      exact ⟨_, _, _, _, _, _, _, _, rfl, e6⟩
  · rw [if_neg (show ¬ nI w < (3 : Int32) from nI_nlt (b := 3) (by omega) (by omega))]
    by_cases h0 : n = 0
    · rw [if_pos (show nI n = (0 : Int32) by rw [h0]; rfl)]
      by_cases h12' : n = 12
      · rw [if_pos (show nI n = (12 : Int32) by rw [h12']; rfl)]
        exact ⟨_, _, _, _, _, _, _, _, rfl, same⟩
      · have hn := n12 h12'
        obtain ⟨a, k, w9, v, od2, P2, e1, e2, e3, e4, e5, e6⟩ := hnew hn
        have hV0 : ¬ nI (if z % 3 = 0 then 99 else 20) = 0 := by
          by_cases y : z % 3 = 0
          · rw [if_pos y]; decide
          · rw [if_neg y]; decide
        have hV : 0 < (if z % 3 = 0 then 99 else 20) ∧ (if z % 3 = 0 then 99 else 20) < 2 ^ 31 := by
          by_cases y : z % 3 = 0
          · rw [if_pos y]; decide
          · rw [if_neg y]; decide
        have hrV := xq_mod (a := z) (b := if z % 3 = 0 then 99 else 20) (by omega) hV.1 hV.2
        rw [if_neg (c12 h12'), xq_5, xm_g (k := 5 * n) (by omega) (by omega), xq_p1, xm_g (k := 5 * n + 1) (by omega) (by omega), hr3z, h9920, Option.bind_some, if_neg hV0, xq_p2, xm_g (k := 5 * n + 2) (by omega) (by omega), xq_p3, xm_g (k := 5 * n + 3) (by omega) (by omega), xq_2, xq_p1, xm_g (k := 2 * n + 1) (by omega) (by omega), hrV, hr5, hd5, hr3x, hd15, hr4, ← e1, ← e2, ← e3, ← e4, nI_clamp (by omega : 5 * n < 2 ^ 31), nI_clamp (by omega : 5 * n + 1 < 2 ^ 31), nI_clamp (by omega : 5 * n + 2 < 2 ^ 31), nI_clamp (by omega : 5 * n + 3 < 2 ^ 31), nI_clamp (by omega : 2 * n + 1 < 2 ^ 31), xq_p1, xq_z0]
        have r0 : upd (upd (upd (upd ka (5 * n) (nI a)) (5 * n + 1) (nI k)) (5 * n + 2) (nI w9)) (5 * n + 3) v (5 * n) = nI a := by rw [xm_up1 _ _ (by omega), xm_up1 _ _ (by omega), xm_up1 _ _ (by omega), xm_up0]
        have r1 : upd (upd (upd (upd ka (5 * n) (nI a)) (5 * n + 1) (nI k)) (5 * n + 2) (nI w9)) (5 * n + 3) v (5 * n + 1) = nI k := by rw [xm_up1 _ _ (by omega), xm_up1 _ _ (by omega), xm_up0]
        have r2 : upd (upd (upd (upd ka (5 * n) (nI a)) (5 * n + 1) (nI k)) (5 * n + 2) (nI w9)) (5 * n + 3) v (5 * n + 2) = nI w9 := by rw [xm_up1 _ _ (by omega), xm_up0]
        have r3 : upd (upd (upd (upd ka (5 * n) (nI a)) (5 * n + 1) (nI k)) (5 * n + 2) (nI w9)) (5 * n + 3) v (5 * n + 3) = v := by rw [xm_up0]
        rw [r0, r1, r2, r3, e5, Option.bind_some, xm_up0, nI_pred, if_pos rfl]
        exact ⟨_, _, _, _, _, _, _, _, rfl, e6⟩
    · have hn0 : 0 < n := by omega
      have hx_ := xq_mod (a := x) (b := n) (by omega) hn0 (by omega)
      have hz_ := xq_mod (a := z) (b := n) (by omega) hn0 (by omega)
      have hxa : x % n < n := Nat.mod_lt _ hn0
      have hzb : z % n < n := Nat.mod_lt _ hn0
      rw [if_neg (nI_ne0 hn0 (by omega)), if_neg (nI_ne0 hn0 (by omega)), hx_, hz_]
      generalize x % n = a at hxa
      generalize z % n = b at hzb
      have ha4 := (har a hxa).2.2.2.2.1
      by_cases hw7 : 7 ≤ w
      · rw [if_pos (show (7 : Int32) ≤ nI w from nI_le (a := 7) hw7 (by omega))]
        by_cases hw7e : w = 7
        · rw [if_pos (show nI w = (7 : Int32) by rw [hw7e]; rfl), xq_5, xq_p4, xm_g (k := 5 * a + 4) (by omega) (by omega), nI_clamp (by omega : 5 * a + 4 < 2 ^ 31), ha4, xq_isIn (by omega), Option.bind_some]
          cases hb : bt (ne a) b with
          | true =>
            obtain ⟨c, od2, P2, e1, e2, e3, e4, e5⟩ := xq_frees1 (od := od) h12 hv hac hxa hzb hb lo (p0, p1, p2, p3, p4, p5, p6, p7, p8) (q0, q1, q2, q3, q4, q5, q6, q7, q8)
            rw [if_pos rfl, e1, Option.bind_some, xm_i1, xm_up0, e2, Option.bind_some, Option.bind_some]
            show xq_go (if nI c = nI c then _ else _)
            rw [if_pos rfl]
            exact ⟨_, _, _, _, _, _, _, _, rfl, n, le, ki, wo, kt, ma, ga, _, _, rfl, xq_keep h hxa e3 e4, e5⟩
          | false =>
            rw [if_neg (by decide : ¬ false = true), xq_frees0 h12 hxa hzb hb, Option.bind_some, xm_i0, Option.bind_some]
            show xq_go (if (-9 : Int32) = -9 then _ else _)
            rw [if_pos rfl]
            refine ⟨_, _, _, _, _, _, _, _, rfl, n, le, ki, wo, kt, ma, ga, ne, od, rfl, xq_keep0 h hxa (b_ext fun i hi => ?_), hp⟩
            rw [b_and, b_xor, b_m1 i hi, xm_one (by omega) hi]
            by_cases e : i = b
            · rw [e, hb]; rfl
            · rw [decide_eq_false e]; simp
        · rw [if_neg (show ¬ nI w = (7 : Int32) from fun e => hw7e (xm_inj (b := 7) (by omega) (by omega) e))]
          by_cases hw11 : 11 ≤ w
          · rw [if_pos (show (11 : Int32) ≤ nI w from nI_le (a := 11) hw11 (by omega))]
            have hv18 : (if (nI x - nI x / (3 : Int32) * (3 : Int32)) = 0 then some (100 : Int32) else some (30 : Int32)) = some (nI (if x % 3 = 0 then 100 else 30)) := by
              rw [xq_r3 (by omega)]; exact xq_pick2 (A := 100) (B := 30) (by omega)
            have hV : 0 < (if x % 3 = 0 then 100 else 30) ∧ (if x % 3 = 0 then 100 else 30) ≤ 100 := by
              by_cases y : x % 3 = 0
              · rw [if_pos y]; omega
              · rw [if_neg y]; omega
            rw [hv18, Option.bind_some]
            generalize (if x % 3 = 0 then 100 else 30) = V at hV ⊢
            have hdV : z % V < V := Nat.mod_lt _ hV.1
            rw [if_neg (nI_ne0 hV.1 (by omega)), xq_mod (a := z) (b := V) (by omega) hV.1 (by omega)]
            generalize z % V = d at hdV ⊢
            have hd : d < 100 := by omega
            rw [hlk d hd, Option.bind_some]
            by_cases hl0 : lo d = 0
            · obtain ⟨hq, hdat⟩ := xq_dats h12 hv hac hod
              obtain ⟨A, B, T, pk, ht, hP⟩ := hp
              obtain ⟨P2, A2, B2, T2, pk2, e1, e2, e3⟩ := xq_loses (lo := lo) (ki := ki) (wo := wo) (kt := kt) (ne := ne) (Q := (q0, q1, q2, q3, q4, q5, q6, q7, q8)) (kl := kl) hd hl0 hq hdat ht hP h.2.2.1.1 (fun j hj => by
                obtain ⟨a1, a2, a3, a4, a5, a6, a7⟩ := har j hj
                exact ⟨a1.trans (hdat.2 j hj).1.1, a6.trans (hdat.2 j hj).2.1.1⟩)
              rw [if_pos hl0, xm_i0, e1, Option.bind_some]
              show xq_go (if (1 : Int32) = 0 then _ else _)
              rw [xm_i1]
              exact ⟨_, _, _, _, _, _, _, _, rfl, n, le, ki, wo, kt, ma, ga, ne, od, rfl, ⟨h12, hv, h.2.2.1, hac, hod, xq_lk_set hd hlk⟩, A2, B2, T2, pk2, e2, e3⟩
            · rw [if_neg hl0, xm_i1]
              exact ⟨_, _, _, _, _, _, _, _, rfl, same⟩
          · rw [if_neg (show ¬ (11 : Int32) ≤ nI w from nI_ge (b := 11) (by omega) (by omega))]
            have hv26 : (if (nI x - nI x / (3 : Int32) * (3 : Int32)) = 0 then some (20 : Int32) else some (6 : Int32)) = some (nI (if x % 3 = 0 then 20 else 6)) := by
              rw [xq_r3 (by omega)]; exact xq_pick2 (A := 20) (B := 6) (by omega)
            have hV : 0 < (if x % 3 = 0 then 20 else 6) ∧ (if x % 3 = 0 then 20 else 6) ≤ 20 := by
              by_cases y : x % 3 = 0
              · rw [if_pos y]; omega
              · rw [if_neg y]; omega
            rw [xq_2, xm_g (k := 2 * a) (by omega) (by omega), hv26, Option.bind_some]
            generalize (if x % 3 = 0 then 20 else 6) = V at hV ⊢
            have hgV : z / 4 % V < V := Nat.mod_lt _ hV.1
            rw [if_neg (nI_ne0 hV.1 (by omega)), xq_p1, xm_g (k := 2 * a + 1) (by omega) (by omega), nI_clamp (by omega : 2 * a < 2 ^ 31), nI_clamp (by omega : 2 * a + 1 < 2 ^ 31), xq_r4 (by omega), xq_d4 (by omega), xq_mod (a := z / 4) (b := V) (by omega) hV.1 (by omega), xq_1p]
            obtain ⟨P2, e1, e2, e3⟩ := xq_rvs (wo := wo) (od := od) h12 hv hac hod hxa (mm := z % 4) (gg := 1 + z / 4 % V) (by omega) (by omega) lo (p0, p1, p2, p3, p4, p5, p6, p7, p8) (q0, q1, q2, q3, q4, q5, q6, q7, q8)
            have r0 : upd (upd kr (2 * a) (nI (z % 4))) (2 * a + 1) (nI (1 + z / 4 % V)) (2 * a) = nI (z % 4) := by rw [xm_up1 _ _ (by omega), xm_up0]
            have r1 : upd (upd kr (2 * a) (nI (z % 4))) (2 * a + 1) (nI (1 + z / 4 % V)) (2 * a + 1) = nI (1 + z / 4 % V) := by rw [xm_up0]
            rw [r0, r1, e1, Option.bind_some]
            show xq_go (if ma a = kr (2 * a) then _ else _)
            rw [if_pos (har a hxa).2.2.2.2.2.1.symm]
            refine ⟨_, _, _, _, _, _, _, _, rfl, n, le, ki, wo, kt, upd ma a (nI (z % 4)), upd ga a (nI (1 + z / 4 % V)), ne, od, rfl, ⟨h12, e2, ⟨h.2.2.1.1, fun j hj => ?_, fun j h1 h2 => ?_⟩, hac, hod, hlk⟩, e3⟩
            · obtain ⟨a1, a2, a3, a4, a5, a6, a7⟩ := har j hj
              by_cases e : j = a
              · subst e
                rw [xm_up0, xm_up0, xm_up0, xm_up1 _ _ (by omega), xm_up0]
                exact ⟨a1, a2, a3, a4, a5, rfl, rfl⟩
              · rw [xm_up1 _ _ e, xm_up1 _ _ e, xm_up1 _ _ (by omega), xm_up1 _ _ (by omega), xm_up1 _ _ (by omega), xm_up1 _ _ (by omega)]
                exact ⟨a1, a2, a3, a4, a5, a6, a7⟩
            · obtain ⟨b1, b2, b3, b4⟩ := h.2.2.1.2.2 j h1 h2
              rw [xm_up1 _ _ (by omega), xm_up1 _ _ (by omega), xm_up1 _ _ (by omega)]
              exact ⟨b1, b2, b3, b4⟩
      · rw [if_neg (show ¬ (7 : Int32) ≤ nI w from nI_ge (b := 7) (by omega) (by omega))]
        by_cases hab : a = b
        · rw [if_pos (by rw [hab])]
          exact ⟨_, _, _, _, _, _, _, _, rfl, same⟩
        · rw [if_neg (show ¬ nI a = nI b from fun e => hab (xm_inj (by omega) (by omega) e)), xq_5, xq_p4, xm_g (k := 5 * a + 4) (by omega) (by omega), nI_clamp (by omega : 5 * a + 4 < 2 ^ 31), ha4, xq_isIn (by omega), Option.bind_some, xq_allNeeds h12 hzb]
          by_cases hcan : bt (ne a) b = false ∧ bt (xm_R ne n b) a = false
          · obtain ⟨c, od2, P2, e1, e2, e3, e4, e5⟩ := xq_needs1 (od := od) h12 hv hac hxa hzb hab hcan.1 hcan.2 lo (p0, p1, p2, p3, p4, p5, p6, p7, p8) (q0, q1, q2, q3, q4, q5, q6, q7, q8)
            rw [hcan.1, if_neg (by decide : ¬ false = true), xm_i0, Option.bind_some, xq_isIn (by omega), hcan.2, if_neg (by decide : ¬ false = true), Option.bind_some, xm_i0, Option.bind_some, xm_i1, Option.bind_some, e1, Option.bind_some, xm_i1, xm_up0, e2, Option.bind_some, Option.bind_some]
            show xq_go (if nI c = nI c then _ else _)
            rw [if_pos rfl]
            exact ⟨_, _, _, _, _, _, _, _, rfl, n, le, ki, wo, kt, ma, ga, _, _, rfl, xq_keep h hxa e3 e4, e5⟩
          · have hno : bt (ne a) b = true ∨ bt (xm_R ne n b) a = true := by
              cases h1 : bt (ne a) b with
              | true => exact Or.inl rfl
              | false =>
                cases h2 : bt (xm_R ne n b) a with
                | true => exact Or.inr rfl
                | false => exact absurd ⟨h1, h2⟩ hcan
            have hv42 : (if (if bt (ne a) b = true then (1 : Int32) else 0) = 0 then Option.bind (some (xm_R ne n b)) (fun (o51 : Int32) => Option.bind (f_L_isIn o51 (nI a)) fun (o52 : Int32) => if o52 = 0 then some (1 : Int32) else some (0 : Int32)) else some (0 : Int32)) = some 0 := by
              cases h1 : bt (ne a) b with
              | true => rw [if_pos rfl, xm_i1]
              | false =>
                have h2 := hno.resolve_left (by rw [h1]; decide)
                rw [if_neg (by decide : ¬ false = true), xm_i0, Option.bind_some, xq_isIn (by omega), h2, if_pos rfl, Option.bind_some, xm_i1]
            rw [hv42, Option.bind_some, xm_i0, Option.bind_some, xq_needs0 h12 hxa hzb hab hno, Option.bind_some, xm_i0, Option.bind_some]
            show xq_go (if (-8 : Int32) = -8 then _ else _)
            rw [if_pos rfl]
            exact ⟨_, _, _, _, _, _, _, _, rfl, n, le, ki, wo, kt, ma, ga, ne, od, rfl, xq_keep0 h hxa (xm_or0 _), hp⟩
end XS
