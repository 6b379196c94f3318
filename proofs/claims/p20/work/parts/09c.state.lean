-- what holds between the class and the law's own rows
def xq_N (f : xF) (j : Nat) : Nat := (f j).toNatClampNeg
theorem xq_N_of {f : xF} {j a : Nat} (h : f j = nI a) (ha : a < 2 ^ 31) : xq_N f j = a ∧ f j = nI (xq_N f j) := by
  have e : xq_N f j = a := by unfold xq_N; rw [h, nI_clamp ha]
  exact ⟨e, by rw [e]; exact h⟩
def xq_vl (n : Nat) (le ki wo kt ma ga : xF) : Prop := ∀ j, j < n → (∃ a, 1 ≤ a ∧ a ≤ 5 ∧ le j = nI a) ∧ (∃ a, a < 3 ∧ ki j = nI a) ∧ (∃ a, 1 ≤ a ∧ a ≤ 99 ∧ wo j = nI a) ∧ (kt j = -1 ∨ ∃ a, a < 3 ∧ kt j = nI a) ∧ (∃ a, a ≤ 3 ∧ ma j = nI a) ∧ ∃ a, 1 ≤ a ∧ a ≤ 20 ∧ ga j = nI a
def xq_ar (n : Nat) (le ki wo kt ma ga ne ka kr kc : xF) : Prop := kc 0 = nI n ∧ (∀ j, j < n → ka (5 * j) = le j ∧ ka (5 * j + 1) = ki j ∧ ka (5 * j + 2) = wo j ∧ ka (5 * j + 3) = kt j ∧ ka (5 * j + 4) = ne j ∧ kr (2 * j) = ma j ∧ kr (2 * j + 1) = ga j) ∧ ∀ j, n ≤ j → j < 12 → ne j = 0 ∧ ma j = 0 ∧ ka (5 * j + 4) = 0 ∧ kr (2 * j) = 0
def xq_ok0 (n : Nat) (le ki wo kt ma ga ne od lo ka kr kc : xF) (kl : Nat → Int64) : Prop := n ≤ 12 ∧ xq_vl n le ki wo kt ma ga ∧ xq_ar n le ki wo kt ma ga ne ka kr kc ∧ xm_acy n ne ∧ (∀ p, p < n → od p = nI (xq_s n ki ne p)) ∧ xq_lk lo kl
def xq_pn (n : Nat) (le ki kt ma ga ne lo : xF) (P : xPL) : Prop := ∃ A B T pk, xq_tr n (xq_N le) (xq_N ma) (xq_N ga) (xq_s n ki ne) kt lo A B T pk ∧ xq_P n (xq_N le) (xq_N ma) (xq_N ga) A B T pk P
section XS
variable {n : Nat} {le ki wo kt ma ga ne od lo ka kr kc : xF} {kl : Nat → Int64} {P Q : xPL}
theorem xq_dats (h12 : n ≤ 12) (hv : xq_vl n le ki wo kt ma ga) (hac : xm_acy n ne) (hod : ∀ p, p < n → od p = nI (xq_s n ki ne p)) : xq_dat n (xq_N le) (xq_N ma) (xq_N ga) (xq_s n ki ne) ∧ xm_dat n le ma ga od (xq_N le) (xq_N ma) (xq_N ga) (xq_s n ki ne) := by
  have key : ∀ j, j < n → (le j = nI (xq_N le j) ∧ 1 ≤ xq_N le j ∧ xq_N le j ≤ 5) ∧ (ma j = nI (xq_N ma j) ∧ xq_N ma j ≤ 3) ∧ (ga j = nI (xq_N ga j) ∧ xq_N ga j ≤ 20) := fun j hj => by
    obtain ⟨⟨a, a1, a2, a3⟩, -, -, -, ⟨b, b1, b2⟩, c, c1, c2, c3⟩ := hv j hj
    obtain ⟨e1, f1⟩ := xq_N_of a3 (by omega)
    obtain ⟨e2, f2⟩ := xq_N_of b2 (by omega)
    obtain ⟨e3, f3⟩ := xq_N_of c3 (by omega)
    exact ⟨⟨f1, by omega, by omega⟩, ⟨f2, by omega⟩, f3, by omega⟩
  refine ⟨⟨h12, fun j hj => ?_, fun p hp => (xq_od_some h12 hac hp).2, xq_s_inj h12 hac⟩, h12, fun j hj => ?_⟩
  · obtain ⟨⟨-, a1, a2⟩, ⟨-, b1⟩, -, c1⟩ := key j hj
    exact ⟨a1, a2, b1, c1⟩
  · obtain ⟨a, b, c⟩ := key j hj
    exact ⟨a, b, c, hod j hj, (xq_od_some h12 hac hj).2⟩
theorem xq_vals (hv : xq_vl n le ki wo kt ma ga) : xm_vals n le wo := fun j hj => by
  obtain ⟨⟨a, a1, a2, a3⟩, -, ⟨w, w1, w2, w3⟩, -⟩ := hv j hj
  exact ⟨⟨a, a1, a2, a3⟩, w, w1, w2, w3⟩
theorem xq_hki (hv : xq_vl n le ki wo kt ma ga) : ∀ j, j < n → ¬ ki j = -1 := fun j hj h => by
  obtain ⟨-, ⟨a, a1, a2⟩, -⟩ := hv j hj
  rw [a2] at h
  exact xm_m1 (by omega) h
theorem xq_hkt (hv : xq_vl n le ki wo kt ma ga) : ∀ j, j < n → (kt j < 0 ↔ kt j = -1) := fun j hj => by
  obtain ⟨-, -, -, z | ⟨a, a1, a2⟩, -⟩ := hv j hj
  · rw [z]; exact ⟨fun _ => rfl, fun _ => by decide⟩
  · rw [a2]; exact ⟨fun h => absurd h (nI_pos (by omega)), fun h => absurd h (xm_m1 (by omega))⟩
theorem xq_okO (h : xq_ok0 n le ki wo kt ma ga ne od lo ka kr kc kl) : f_L_isOrder lo (nI n, le, ki, wo, kt, ma, ga, ne, od) P Q ka kc = some 1 := by
  obtain ⟨h12, hv, ⟨hc, ha, -⟩, hac, hod, hlk⟩ := h
  exact xq_isOrder h12 hac (xq_hki hv) hod hc (fun j hj => ⟨(ha j hj).2.1, (ha j hj).2.2.2.2.1⟩)
theorem xq_okW (h : xq_ok0 n le ki wo kt ma ga ne od lo ka kr kc kl) {p : Nat} (hp : p < 100) : f_L_isWorth lo (nI n, le, ki, wo, kt, ma, ga, ne, od) P Q ka kc (nI p) = some 1 := by
  obtain ⟨h12, hv, ⟨hc, ha, -⟩, hac, hod, hlk⟩ := h
  exact xq_isWorth h12 hp (xq_vals hv) hc (fun j hj => ⟨(ha j hj).1, (ha j hj).2.2.1, (ha j hj).2.2.2.2.1⟩)
theorem xq_okP (h : xq_ok0 n le ki wo kt ma ga ne od lo ka kr kc kl) (hp : xq_pn n le ki kt ma ga ne lo P) : f_L_isPlan lo (nI n, le, ki, wo, kt, ma, ga, ne, od) P Q ka kr kc kl = some 1 := by
  obtain ⟨h12, hv, ⟨hc, ha, -⟩, hac, hod, hlk⟩ := h
  obtain ⟨A, B, T, pk, ht, hP⟩ := hp
  obtain ⟨hq, hdat⟩ := xq_dats h12 hv hac hod
  exact xq_isPlan hq hdat ht hP hc (fun j hj => by
    obtain ⟨e1, e2, e3, e4, e5, e6, e7⟩ := ha j hj
    obtain ⟨⟨d1, -⟩, ⟨d2, -⟩, ⟨d3, -⟩, -⟩ := hdat.2 j hj
    exact ⟨e1.trans d1, e4, e6.trans d2, e7.trans d3⟩) (xq_hkt hv) hlk
theorem xq_re (h12 : n ≤ 12) (hv : xq_vl n le ki wo kt ma ga) (hac : xm_acy n ne) (hod : ∀ p, p < n → od p = nI (xq_s n ki ne p)) (lo : xF) (P Q : xPL) : ∃ P2, f_X2_planAnew lo (nI n, le, ki, wo, kt, ma, ga, ne, od) P Q = some (P2, P) ∧ xq_pn n le ki kt ma ga ne lo P2 := by
  obtain ⟨hq, hdat⟩ := xq_dats h12 hv hac hod
  obtain ⟨P2, A, B, T, pk, e, h, hP⟩ := xq_planAnew (lo := lo) (ki := ki) (wo := wo) (kt := kt) (ne := ne) hq hdat P Q
  exact ⟨P2, e, A, B, T, pk, h, hP⟩
-- a new aim
theorem xq_aim (h12 : n < 12) (hv : xq_vl n le ki wo kt ma ga) (hac : xm_acy n ne) (hne : ne n = 0) (hma : ma n = 0) {a k w : Nat} {v : Int32} (ha : 1 ≤ a ∧ a ≤ 5) (hk : k < 3) (hw : 1 ≤ w ∧ w ≤ 99) (hvv : v = -1 ∨ ∃ t, t < 3 ∧ v = nI t) (lo : xF) (P Q : xPL) :
    ∃ od2 P2, f_X2_aim lo (nI n, le, ki, wo, kt, ma, ga, ne, od) P Q (nI a) (nI k) (nI w) v = some (nI n, nI (n + 1), upd le n (nI a), upd ki n (nI k), upd wo n (nI w), upd kt n v, upd ga n 1, od2, P2, P) ∧ xq_vl (n + 1) (upd le n (nI a)) (upd ki n (nI k)) (upd wo n (nI w)) (upd kt n v) ma (upd ga n 1) ∧ xm_acy (n + 1) ne ∧ (∀ p, p < n + 1 → od2 p = nI (xq_s (n + 1) (upd ki n (nI k)) ne p)) ∧ xq_pn (n + 1) (upd le n (nI a)) (upd ki n (nI k)) (upd kt n v) ma (upd ga n 1) ne lo P2 := by
  have hac2 := xm_acy_new hac hne
  have hv2 : xq_vl (n + 1) (upd le n (nI a)) (upd ki n (nI k)) (upd wo n (nI w)) (upd kt n v) ma (upd ga n 1) := fun j hj => by
    by_cases e : j = n
    · subst e
      rw [xm_up0, xm_up0, xm_up0, xm_up0, xm_up0]
      exact ⟨⟨a, ha.1, ha.2, rfl⟩, ⟨k, hk, rfl⟩, ⟨w, hw.1, hw.2, rfl⟩, hvv, ⟨0, by omega, hma⟩, 1, by omega, by omega, rfl⟩
    · rw [xm_up1 _ _ e, xm_up1 _ _ e, xm_up1 _ _ e, xm_up1 _ _ e, xm_up1 _ _ e]
      exact hv j (by omega)
  obtain ⟨od2, e1, e2⟩ := xq_put (le := upd le n (nI a)) (ki := upd ki n (nI k)) (wo := upd wo n (nI w)) (kt := upd kt n v) (ma := ma) (ga := upd ga n 1) (od := od) (show n + 1 ≤ 12 by omega) hac2
  obtain ⟨P2, e3, hp⟩ := xq_re (od := od2) (show n + 1 ≤ 12 by omega) hv2 hac2 e2 lo P Q
  refine ⟨od2, P2, ?_, hv2, hac2, e2, hp⟩
  have hadd : f_X1_add (nI n, le, ki, wo, kt, ma, ga, ne, od) (nI a) (nI k) (nI w) v = some (nI n, nI (n + 1), upd le n (nI a), upd ki n (nI k), upd wo n (nI w), upd kt n v, upd ga n 1, od2) := by
    rw [f_X1_add_e, xm_g (k := n) (by omega) (by omega), nI_clamp (by omega : n < 2 ^ 31), nI_1, e1, Option.bind_some]
  have i1 : f_X2_isWithin (nI a) (1 : Int32) (5 : Int32) = some 1 := xq_within (a := 1) (b := 5) ha.1 ha.2 (by omega)
  have i2 : f_X2_isWithin (nI k) (0 : Int32) (3 : Int32) = some 1 := xq_within (a := 0) (b := 3) (Nat.zero_le k) (by omega) (by omega)
  have i3 : f_X2_isWithin (nI w) (1 : Int32) (99 : Int32) = some 1 := xq_within (a := 1) (b := 99) hw.1 hw.2 (by omega)
  have hlt : nI n < (12 : Int32) := nI_lt (b := 12) h12 (by omega)
  obtain ⟨p0, p1, p2, p3, p4, p5, p6, p7, p8⟩ := P
  obtain ⟨q0, q1, q2, q3, q4, q5, q6, q7, q8⟩ := Q
  rw [f_X2_aim_e, i1, Option.bind_some, xm_i1, i2, Option.bind_some, xm_i1, i3, Option.bind_some, xm_i1]
  rcases hvv with z | ⟨t, t1, t2⟩
  · rw [if_pos z, if_pos hlt, hadd, Option.bind_some]
    show Option.bind (f_X2_planAnew lo (nI (n + 1), upd le n (nI a), upd ki n (nI k), upd wo n (nI w), upd kt n v, ma, upd ga n 1, ne, od2) (p0, p1, p2, p3, p4, p5, p6, p7, p8) (q0, q1, q2, q3, q4, q5, q6, q7, q8)) _ = _
    rw [e3, Option.bind_some]
  · have i4 : f_X2_isWithin v (0 : Int32) (2 : Int32) = some 1 := by rw [t2]; exact xq_within (a := 0) (b := 2) (Nat.zero_le t) (by omega) (by omega)
    rw [if_neg (by rw [t2]; exact xm_m1 (by omega)), i4, Option.bind_some, xm_i1, if_pos hlt, hadd, Option.bind_some]
    show Option.bind (f_X2_planAnew lo (nI (n + 1), upd le n (nI a), upd ki n (nI k), upd wo n (nI w), upd kt n v, ma, upd ga n 1, ne, od2) (p0, p1, p2, p3, p4, p5, p6, p7, p8) (q0, q1, q2, q3, q4, q5, q6, q7, q8)) _ = _
    rw [e3, Option.bind_some]
-- needs
theorem xq_low_nI {v : Int32} (h : xm_low n v) (h12 : n ≤ 12) : ∃ S, S < 4096 ∧ v = nI S := by
  have hb : ∀ i, v.toBitVec.toNat.testBit i = bt v i := fun i => BitVec.testBit_toNat _
  have hS : v.toBitVec.toNat < 4096 := Nat.lt_pow_two_of_testBit (n := 12) _ (fun i hi => by
    rw [hb]
    cases hz : bt v i with
    | false => rfl
    | true => have := h i hz; omega)
  exact ⟨v.toBitVec.toNat, hS, b_ext fun i _ => by rw [xm_bt_nI _ i hS, hb]⟩
theorem xq_cnt2 {v : Int32} (h : xm_low n v) (h12 : n ≤ 12) : ∃ c, c ≤ 12 ∧ f_J6_bitCount_0f7a4 v = some (nI c) ∧ f_L_size v = some (nI c) := by
  obtain ⟨S, hS, rfl⟩ := xq_low_nI h h12
  exact ⟨xm_pc S, xq_pc_le S, xq_bit hS, xq_size hS⟩
theorem xq_set (h12 : n ≤ 12) (hv : xq_vl n le ki wo kt ma ga) {a : Nat} {v : Int32} (ha : a < n) (hac : xm_acy n (upd ne a v)) (lo : xF) (P Q : xPL) : ∃ od2 P2, f_X1_setNeeds (nI n, le, ki, wo, kt, ma, ga, ne, od) (nI a) v = some (upd ne a v, od2) ∧ f_X2_planAnew lo (nI n, le, ki, wo, kt, ma, ga, upd ne a v, od2) P Q = some (P2, P) ∧ (∀ p, p < n → od2 p = nI (xq_s n ki (upd ne a v) p)) ∧ xq_pn n le ki kt ma ga (upd ne a v) lo P2 := by
  obtain ⟨od2, e1, e2⟩ := xq_put (le := le) (ki := ki) (wo := wo) (kt := kt) (ma := ma) (ga := ga) (od := od) h12 hac
  obtain ⟨P2, e3, hp⟩ := xq_re (od := od2) h12 hv hac e2 lo P Q
  refine ⟨od2, P2, ?_, e3, e2, hp⟩
  rw [f_X1_setNeeds_e, xm_g (k := a) (by omega) (by omega), nI_clamp (by omega : a < 2 ^ 31), e1, Option.bind_some]
theorem xq_needs0 (h12 : n ≤ 12) {a b : Nat} (ha : a < n) (hb : b < n) (hab : ¬ a = b) (hno : bt (ne a) b = true ∨ bt (xm_R ne n b) a = true) (lo : xF) (P Q : xPL) : f_L_needs lo (nI n, le, ki, wo, kt, ma, ga, ne, od) P Q (nI a) (nI b) = some (-8, ne, od, P, Q) := by
  obtain ⟨p0, p1, p2, p3, p4, p5, p6, p7, p8⟩ := P
  obtain ⟨q0, q1, q2, q3, q4, q5, q6, q7, q8⟩ := Q
  have hN : f_X2_need lo (nI n, le, ki, wo, kt, ma, ga, ne, od) (p0, p1, p2, p3, p4, p5, p6, p7, p8) (q0, q1, q2, q3, q4, q5, q6, q7, q8) (nI a) (nI b) = some (2, 0, ne, od, (p0, p1, p2, p3, p4, p5, p6, p7, p8), (q0, q1, q2, q3, q4, q5, q6, q7, q8)) := by
    rw [f_X2_need_e, xq_isAim h12 ha, Option.bind_some, xm_i1, xq_isAim h12 hb, Option.bind_some, xm_i1, if_neg (fun z => hab (xm_inj (by omega) (by omega) z)), xm_g (k := a) (by omega) (by omega), nI_clamp (by omega : a < 2 ^ 31), xm_has (by omega), Option.bind_some]
    cases h1 : bt (ne a) b with
    | true => rw [if_pos rfl, xm_i1]
    | false =>
      have h2 : bt (xm_R ne n b) a = true := hno.resolve_left (by rw [h1]; decide)
      rw [if_neg (by decide : ¬ false = true), xm_i0, xm_reach h12 hb]
      show Option.bind (some (xm_R ne n b)) _ = _
      rw [Option.bind_some, xm_has (by omega), h2, if_pos rfl, Option.bind_some, xm_i1]
  rw [f_L_needs_e, hN, Option.bind_some]
  show (if (2 : Nat) = 0 then _ else if (2 : Nat) = 2 then some _ else none) = _
  rw [if_neg (by decide), if_pos rfl]
theorem xq_needs1 (h12 : n ≤ 12) (hv : xq_vl n le ki wo kt ma ga) (hac : xm_acy n ne) {a b : Nat} (ha : a < n) (hb : b < n) (hab : ¬ a = b) (h1 : bt (ne a) b = false) (h2 : bt (xm_R ne n b) a = false) (lo : xF) (P Q : xPL) : ∃ c od2 P2, f_L_needs lo (nI n, le, ki, wo, kt, ma, ga, ne, od) P Q (nI a) (nI b) = some (nI c, upd ne a (ne a ||| ((1 : Int32) <<< (nI b &&& 31))), od2, P2, P) ∧ f_L_size (ne a ||| ((1 : Int32) <<< (nI b &&& 31))) = some (nI c) ∧ xm_acy n (upd ne a (ne a ||| ((1 : Int32) <<< (nI b &&& 31)))) ∧ (∀ p, p < n → od2 p = nI (xq_s n ki (upd ne a (ne a ||| ((1 : Int32) <<< (nI b &&& 31)))) p)) ∧ xq_pn n le ki kt ma ga (upd ne a (ne a ||| ((1 : Int32) <<< (nI b &&& 31)))) lo P2 := by
  have hac2 := xm_acy_add h12 hac ha hb hab h2
  have hlow : xm_low n (ne a ||| ((1 : Int32) <<< (nI b &&& 31))) := by
    have := xm_acy_low h12 hac2 a ha
    rwa [xm_up0] at this
  obtain ⟨c, hc12, c1, c2⟩ := xq_cnt2 hlow h12
  obtain ⟨od2, P2, e1, e2, e3, hp⟩ := xq_set (od := od) h12 hv ha hac2 lo P Q
  refine ⟨c, od2, P2, ?_, c2, hac2, e3, hp⟩
  obtain ⟨p0, p1, p2, p3, p4, p5, p6, p7, p8⟩ := P
  obtain ⟨q0, q1, q2, q3, q4, q5, q6, q7, q8⟩ := Q
  have hN : f_X2_need lo (nI n, le, ki, wo, kt, ma, ga, ne, od) (p0, p1, p2, p3, p4, p5, p6, p7, p8) (q0, q1, q2, q3, q4, q5, q6, q7, q8) (nI a) (nI b) = some (0, nI c, upd ne a (ne a ||| ((1 : Int32) <<< (nI b &&& 31))), od2, P2, (p0, p1, p2, p3, p4, p5, p6, p7, p8)) := by
    rw [f_X2_need_e, xq_isAim h12 ha, Option.bind_some, xm_i1, xq_isAim h12 hb, Option.bind_some, xm_i1, if_neg (fun z => hab (xm_inj (by omega) (by omega) z)), xm_g (k := a) (by omega) (by omega), nI_clamp (by omega : a < 2 ^ 31), xm_has (by omega), Option.bind_some, h1, if_neg (by decide : ¬ false = true), xm_i0, xm_reach h12 hb]
    show Option.bind (some (xm_R ne n b)) _ = _
    rw [Option.bind_some, xm_has (by omega), h2, if_neg (by decide : ¬ false = true), Option.bind_some, xm_i0, e1, Option.bind_some]
    show Option.bind (f_X2_planAnew lo (nI n, le, ki, wo, kt, ma, ga, upd ne a (ne a ||| ((1 : Int32) <<< (nI b &&& 31))), od2) (p0, p1, p2, p3, p4, p5, p6, p7, p8) (q0, q1, q2, q3, q4, q5, q6, q7, q8)) _ = _
    rw [e2, Option.bind_some]
    show Option.bind (f_J6_bitCount_0f7a4 (upd ne a (ne a ||| ((1 : Int32) <<< (nI b &&& 31))) a)) _ = _
    rw [xm_up0, c1, Option.bind_some]
  rw [f_L_needs_e, hN, Option.bind_some]
  show (if (0 : Nat) = 0 then _ else _) = _
  rw [if_pos rfl]
theorem xq_frees0 (h12 : n ≤ 12) {a b : Nat} (ha : a < n) (hb : b < n) (h1 : bt (ne a) b = false) (lo : xF) (P Q : xPL) : f_L_frees lo (nI n, le, ki, wo, kt, ma, ga, ne, od) P Q (nI a) (nI b) = some (-9, ne, od, P, Q) := by
  obtain ⟨p0, p1, p2, p3, p4, p5, p6, p7, p8⟩ := P
  obtain ⟨q0, q1, q2, q3, q4, q5, q6, q7, q8⟩ := Q
  have hN : f_X2_free lo (nI n, le, ki, wo, kt, ma, ga, ne, od) (p0, p1, p2, p3, p4, p5, p6, p7, p8) (q0, q1, q2, q3, q4, q5, q6, q7, q8) (nI a) (nI b) = some (4, 0, ne, od, (p0, p1, p2, p3, p4, p5, p6, p7, p8), (q0, q1, q2, q3, q4, q5, q6, q7, q8)) := by
    rw [f_X2_free_e, xq_isAim h12 ha, Option.bind_some, xm_i1, xq_isAim h12 hb, Option.bind_some, xm_i1, xm_g (k := a) (by omega) (by omega), nI_clamp (by omega : a < 2 ^ 31), xm_has (by omega), Option.bind_some, h1, if_neg (by decide : ¬ false = true), xm_i0]
  rw [f_L_frees_e, hN, Option.bind_some]
  show (if (4 : Nat) = 0 then _ else if (4 : Nat) = 4 then some _ else none) = _
  rw [if_neg (by decide), if_pos rfl]
theorem xq_frees1 (h12 : n ≤ 12) (hv : xq_vl n le ki wo kt ma ga) (hac : xm_acy n ne) {a b : Nat} (ha : a < n) (hb : b < n) (h1 : bt (ne a) b = true) (lo : xF) (P Q : xPL) : ∃ c od2 P2, f_L_frees lo (nI n, le, ki, wo, kt, ma, ga, ne, od) P Q (nI a) (nI b) = some (nI c, upd ne a (ne a &&& (((1 : Int32) <<< (nI b &&& 31)) ^^^ ((-1) : Int32))), od2, P2, P) ∧ f_L_size (ne a &&& (((1 : Int32) <<< (nI b &&& 31)) ^^^ ((-1) : Int32))) = some (nI c) ∧ xm_acy n (upd ne a (ne a &&& (((1 : Int32) <<< (nI b &&& 31)) ^^^ ((-1) : Int32)))) ∧ (∀ p, p < n → od2 p = nI (xq_s n ki (upd ne a (ne a &&& (((1 : Int32) <<< (nI b &&& 31)) ^^^ ((-1) : Int32)))) p)) ∧ xq_pn n le ki kt ma ga (upd ne a (ne a &&& (((1 : Int32) <<< (nI b &&& 31)) ^^^ ((-1) : Int32)))) lo P2 := by
  have hac2 : xm_acy n (upd ne a (ne a &&& (((1 : Int32) <<< (nI b &&& 31)) ^^^ ((-1) : Int32)))) := xm_acy_sub hac (fun i hi hz => by
    rw [b_and, Bool.and_eq_true] at hz; exact hz.1)
  have hlow : xm_low n (ne a &&& (((1 : Int32) <<< (nI b &&& 31)) ^^^ ((-1) : Int32))) := by
    have := xm_acy_low h12 hac2 a ha
    rwa [xm_up0] at this
  obtain ⟨c, hc12, c1, c2⟩ := xq_cnt2 hlow h12
  obtain ⟨od2, P2, e1, e2, e3, hp⟩ := xq_set (od := od) h12 hv ha hac2 lo P Q
  refine ⟨c, od2, P2, ?_, c2, hac2, e3, hp⟩
  obtain ⟨p0, p1, p2, p3, p4, p5, p6, p7, p8⟩ := P
  obtain ⟨q0, q1, q2, q3, q4, q5, q6, q7, q8⟩ := Q
  have hN : f_X2_free lo (nI n, le, ki, wo, kt, ma, ga, ne, od) (p0, p1, p2, p3, p4, p5, p6, p7, p8) (q0, q1, q2, q3, q4, q5, q6, q7, q8) (nI a) (nI b) = some (0, nI c, upd ne a (ne a &&& (((1 : Int32) <<< (nI b &&& 31)) ^^^ ((-1) : Int32))), od2, P2, (p0, p1, p2, p3, p4, p5, p6, p7, p8)) := by
    rw [f_X2_free_e, xq_isAim h12 ha, Option.bind_some, xm_i1, xq_isAim h12 hb, Option.bind_some, xm_i1, xm_g (k := a) (by omega) (by omega), nI_clamp (by omega : a < 2 ^ 31), xm_has (by omega), Option.bind_some, h1, if_pos rfl, xm_i1, e1, Option.bind_some]
    show Option.bind (f_X2_planAnew lo (nI n, le, ki, wo, kt, ma, ga, upd ne a (ne a &&& (((1 : Int32) <<< (nI b &&& 31)) ^^^ ((-1) : Int32))), od2) (p0, p1, p2, p3, p4, p5, p6, p7, p8) (q0, q1, q2, q3, q4, q5, q6, q7, q8)) _ = _
    rw [e2, Option.bind_some]
    show Option.bind (f_J6_bitCount_0f7a4 (upd ne a (ne a &&& (((1 : Int32) <<< (nI b &&& 31)) ^^^ ((-1) : Int32))) a)) _ = _
    rw [xm_up0, c1, Option.bind_some]
  rw [f_L_frees_e, hN, Option.bind_some]
  show (if (0 : Nat) = 0 then _ else _) = _
  rw [if_pos rfl]
-- revisits
theorem xq_rvs (h12 : n ≤ 12) (hv : xq_vl n le ki wo kt ma ga) (hac : xm_acy n ne) (hod : ∀ p, p < n → od p = nI (xq_s n ki ne p)) {a mm gg : Nat} (ha : a < n) (hm : mm ≤ 3) (hg : 1 ≤ gg ∧ gg ≤ 20) (lo : xF) (P Q : xPL) : ∃ P2, f_X2_revisits lo (nI n, le, ki, wo, kt, ma, ga, ne, od) P Q (nI a) (nI mm) (nI gg) = some (ma a, upd ma a (nI mm), upd ga a (nI gg), P2, P) ∧ xq_vl n le ki wo kt (upd ma a (nI mm)) (upd ga a (nI gg)) ∧ xq_pn n le ki kt (upd ma a (nI mm)) (upd ga a (nI gg)) ne lo P2 := by
  have hv2 : xq_vl n le ki wo kt (upd ma a (nI mm)) (upd ga a (nI gg)) := fun j hj => by
    obtain ⟨h1, h2, h3, h4, h5, h6⟩ := hv j hj
    by_cases e : j = a
    · subst e
      rw [xm_up0, xm_up0]
      exact ⟨h1, h2, h3, h4, ⟨mm, hm, rfl⟩, gg, hg.1, hg.2, rfl⟩
    · rw [xm_up1 _ _ e, xm_up1 _ _ e]
      exact ⟨h1, h2, h3, h4, h5, h6⟩
  obtain ⟨P2, e1, hp⟩ := xq_re (od := od) h12 hv2 hac hod lo P Q
  refine ⟨P2, ?_, hv2, hp⟩
  have i1 : f_X2_isWithin (nI mm) (0 : Int32) (3 : Int32) = some 1 := xq_within (a := 0) (b := 3) (Nat.zero_le mm) hm (by omega)
  have i2 : f_X2_isWithin (nI gg) (1 : Int32) (20 : Int32) = some 1 := xq_within (a := 1) (b := 20) hg.1 hg.2 (by omega)
  obtain ⟨p0, p1, p2, p3, p4, p5, p6, p7, p8⟩ := P
  obtain ⟨q0, q1, q2, q3, q4, q5, q6, q7, q8⟩ := Q
  rw [f_X2_revisits_e, xq_isAim h12 ha, Option.bind_some, xm_i1, i1, Option.bind_some, xm_i1, i2, Option.bind_some, xm_i1, xm_g (k := a) (by omega) (by omega), nI_clamp (by omega : a < 2 ^ 31), e1, Option.bind_some]
end XS
