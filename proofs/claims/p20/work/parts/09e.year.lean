-- the draws
theorem xq_mask (v : Int32) : ∃ a, a < 2 ^ 31 ∧ v &&& (2147483647 : Int32) = nI a := by
  refine ⟨(v &&& (2147483647 : Int32)).toBitVec.toNat, ?_, ?_⟩
  · rw [Int32.toBitVec_and, BitVec.toNat_and]
    exact Nat.lt_of_le_of_lt Nat.and_le_right (by decide)
  · refine Int32.toBitVec_inj.mp ?_
    show (v &&& (2147483647 : Int32)).toBitVec = BitVec.ofNat 32 (v &&& (2147483647 : Int32)).toBitVec.toNat
    rw [BitVec.ofNat_toNat, BitVec.setWidth_eq]
theorem xq_draw {L9 a M : Nat} (xs : xF) (hL : L9 < 2 ^ 31) (ha : a < 2 ^ 31) (hM : 0 < M) (hM2 : M < 2 ^ 31) : ∃ r, r < M ∧ f_L_draw L9 xs (nI a) (nI M) = some (nI r) := by
  have e : ∀ v : Int32, ∃ r, r < M ∧ (if nI M = 0 then none else some ((v &&& (2147483647 : Int32)) - (v &&& (2147483647 : Int32)) / nI M * nI M)) = some (nI r) := fun v => by
    obtain ⟨x, hx, e⟩ := xq_mask v
    rw [e, if_neg (nI_ne0 hM hM2), xq_mod hx hM hM2]
    exact ⟨_, Nat.mod_lt _ hM, rfl⟩
  rw [f_L_draw_e]
  by_cases h : L9 ≤ a
  · rw [if_pos (nI_le h ha), Option.bind_some]; exact e _
  · rw [if_neg (nI_ge (Nat.not_le.mp h) hL), xm_g (k := a) (by omega) hL, Option.bind_some]; exact e _
-- the year's first day
theorem xq_init : ∃ P, f_X0_clear xk_p0 = some P ∧ xq_ok (fun _ => 0) xk_y0 P (fun _ => 0) (fun _ => 0) (fun _ => 0) (fun _ => 0) := by
  obtain ⟨th, ld, rd, ll, rl, si, ho, h1, h2, h3, h4⟩ := xm_clear (fun _ => 0) (fun _ => 0) (fun _ => 0) (fun _ => 0) (fun _ => 0) (fun _ => 0) 0 0 0
  refine ⟨_, ho, 0, _, _, _, _, _, _, _, _, rfl, ⟨by omega, fun j hj => by omega, ⟨rfl, fun j hj => by omega, fun j _ _ => ⟨rfl, rfl, rfl, rfl⟩⟩, ⟨fun _ => 0, 1, fun _ => Nat.zero_lt_one, fun a ha => by omega⟩, fun p hp => by omega, xq_lk_0⟩, ?_⟩
  obtain ⟨A, B, T, pk, h⟩ := xq_ex 0 (xq_N fun _ => 0) (xq_N fun _ => 0) (xq_N fun _ => 0) (xq_s 0 (fun _ => 0) (fun _ => 0)) (fun _ => 0) (fun _ => 0)
  have hn : ∀ d, pk d = none := fun d => by
    rw [(h.2 d).1]
    exact xq_ch_no rfl rfl rfl
  have hp : ∀ d, d ≤ 100 → xq_pl 0 (xq_N fun _ => 0) (xq_N fun _ => 0) (xq_N fun _ => 0) A B T pk d th ld rd ll rl si 0 0 (-1) := by
    intro d
    induction d with
    | zero => intro _; exact xq_pl_0 (by omega) h h1 h2 h3 h4
    | succ d ih => intro hd; exact xq_pl_skip (by omega) h (hn d) (ih (by omega))
  exact ⟨A, B, T, pk, h, hp 100 (Nat.le_refl _)⟩
-- the year
set_option maxHeartbeats 4000000 in
theorem xq_year {L9 a : Nat} (xs : xF) (hL : L9 < 2 ^ 31) (ha : a ≤ 1000) : ∀ (c i k : Nat) (lo : xF) (y : xSY) (P Q : xPL) (ka kr kc : xF) (kl : Nat → Int64), i + c = 36 → c < k → xq_ok lo y P ka kr kc kl → f_yr L9 xs (nI a) k (nI i) lo y P Q ka kr kc kl = some 1 := by
  intro c
  induction c with
  | zero =>
    intro i k lo y P Q ka kr kc kl hi hk hok
    obtain ⟨k, rfl⟩ : ∃ g, k = g + 1 := ⟨k - 1, by omega⟩
    obtain ⟨n, le, ki, wo, kt, ma, ga, ne, od, rfl, h, hp⟩ := hok
    obtain ⟨p0, p1, p2, p3, p4, p5, p6, p7, p8⟩ := P
    obtain ⟨q0, q1, q2, q3, q4, q5, q6, q7, q8⟩ := Q
    have hP := xq_okP (Q := (q0, q1, q2, q3, q4, q5, q6, q7, q8)) h hp
    have hW : f_L_isWorth lo (nI n, le, ki, wo, kt, ma, ga, ne, od) (p0, p1, p2, p3, p4, p5, p6, p7, p8) (q0, q1, q2, q3, q4, q5, q6, q7, q8) ka kc (99 : Int32) = some 1 := xq_okW h (p := 99) (by omega)
    have hW0 : f_L_isWorth lo (nI n, le, ki, wo, kt, ma, ga, ne, od) (p0, p1, p2, p3, p4, p5, p6, p7, p8) (q0, q1, q2, q3, q4, q5, q6, q7, q8) ka kc (0 : Int32) = some 1 := xq_okW h (p := 0) (by omega)
    rw [f_yr_s, if_pos (show (36 : Int32) ≤ nI i from nI_le (a := 36) (by omega) (by omega)), hP, Option.bind_some, xm_i1, hW, Option.bind_some, xm_i1, hW0, Option.bind_some, xm_i1]
  | succ c ih =>
    intro i k lo y P Q ka kr kc kl hi hk hok
    obtain ⟨k, rfl⟩ : ∃ g, k = g + 1 := ⟨k - 1, by omega⟩
    obtain ⟨n, le, ki, wo, kt, ma, ga, ne, od, rfl, h, hp⟩ := hok
    obtain ⟨x, hx, ex⟩ := xq_draw (a := a + 3 * i + 1) (M := 1073741824) xs hL (by omega) (by omega) (by omega)
    obtain ⟨z, hz, ez⟩ := xq_draw (a := a + 3 * i + 2) (M := 1073741824) xs hL (by omega) (by omega) (by omega)
    obtain ⟨w, hw, ew⟩ := xq_draw (a := a + 3 * i) (M := 14) xs hL (by omega) (by omega) (by omega)
    have e0 : nI a + (3 : Int32) * nI i = nI (a + 3 * i) := by rw [xq_3, nI_add]
    have ex : f_L_draw L9 xs ((nI a + ((3 : Int32) * nI i)) + (1 : Int32)) (1073741824 : Int32) = some (nI x) := by rw [e0, xq_p1]; exact ex
    have ez : f_L_draw L9 xs ((nI a + ((3 : Int32) * nI i)) + (2 : Int32)) (1073741824 : Int32) = some (nI z) := by rw [e0, xq_p2]; exact ez
    have ew : ∃ w, w < 14 ∧ (if (5 : Int32) ≤ nI i then Option.bind (f_L_draw L9 xs (nI a + ((3 : Int32) * nI i)) (14 : Int32)) (fun (o35 : Int32) => some o35) else some (0 : Int32)) = some (nI w) := by
      by_cases h5 : 5 ≤ i
      · rw [if_pos (show (5 : Int32) ≤ nI i from nI_le (a := 5) h5 (by omega)), e0, show f_L_draw L9 xs (nI (a + 3 * i)) (14 : Int32) = some (nI w) from ew]
        exact ⟨w, hw, rfl⟩
      · rw [if_neg (show ¬ (5 : Int32) ≤ nI i from nI_ge (b := 5) (by omega) (by omega))]
        exact ⟨0, by omega, rfl⟩
    obtain ⟨w, hw, ew⟩ := ew
    obtain ⟨lo2, y2, P2, Q2, ka2, kr2, kc2, kl2, es, hok2⟩ := xq_step (Q := Q) h hp hw (show x < 2 ^ 30 from hx) (show z < 2 ^ 30 from hz)
    have hy := ih (i + 1) k lo2 y2 P2 Q2 ka2 kr2 kc2 kl2 (by omega) (by omega) hok2
    rw [← xq_p1] at hy
    obtain ⟨n2, le2, ki2, wo2, kt2, ma2, ga2, ne2, od2, rfl, h2, hp2⟩ := hok2
    have hP := xq_okP (Q := Q2) h2 hp2
    have hO := xq_okO (P := P2) (Q := Q2) h2
    have hW : f_L_isWorth lo2 (nI n2, le2, ki2, wo2, kt2, ma2, ga2, ne2, od2) P2 Q2 ka2 kc2 ((nI x / (9 : Int32)) - (nI x / (9 : Int32)) / (30 : Int32) * (30 : Int32)) = some 1 := by
      rw [show nI x / (9 : Int32) = nI (x / 9) from xq_div (b := 9) (by omega) (by omega) (by omega), show nI (x / 9) - nI (x / 9) / (30 : Int32) * (30 : Int32) = nI (x / 9 % 30) from xq_mod (b := 30) (by omega) (by omega) (by omega)]
      exact xq_okW h2 (by omega)
    obtain ⟨p0, p1, p2, p3, p4, p5, p6, p7, p8⟩ := P
    obtain ⟨q0, q1, q2, q3, q4, q5, q6, q7, q8⟩ := Q
    rw [f_yr_s, if_neg (show ¬ (36 : Int32) ≤ nI i from nI_ge (b := 36) (by omega) (by omega)), ex, Option.bind_some, ez, Option.bind_some, ew, Option.bind_some, es, Option.bind_some]
    simp only [hO, hP, hW, hy, Option.bind_some, xm_i1, ite_self]
theorem xq_years {L9 : Nat} (xs : xF) (hL : L9 < 2 ^ 31) : ∃ P, f_X0_clear xk_p0 = some P ∧ ∀ a, a ≤ 1000 → f_L_year L9 xs (nI a) P = some 1 := by
  obtain ⟨P, h, hok⟩ := xq_init
  exact ⟨P, h, fun a ha => xq_year xs hL ha 36 0 37 _ _ P P _ _ _ _ (by omega) (by omega) hok⟩
