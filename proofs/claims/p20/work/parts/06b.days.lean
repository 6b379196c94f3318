-- the class's plan is the trace
def xq_late (g : Nat → Nat) (B T : Nat → Nat → Nat) (pk : Nat → Option Nat) (k : Nat) : Bool := match pk k with
  | some x => decide (100 ≤ x) && decide (xm_LT g (B k) (T k) (x - 100) ≤ k)
  | none => false
theorem xq_late_0 {g : Nat → Nat} {B T : Nat → Nat → Nat} {pk : Nat → Option Nat} {k : Nat} (h : pk k = none) : xq_late g B T pk k = false := by unfold xq_late; rw [h]
theorem xq_late_1 {g : Nat → Nat} {B T : Nat → Nat → Nat} {pk : Nat → Option Nat} {k x : Nat} (h : pk k = some x) (hx : x < 100) : xq_late g B T pk k = false := by
  unfold xq_late; rw [h]
  show (decide (100 ≤ x) && _) = false
  rw [decide_eq_false (by omega), Bool.false_and]
theorem xq_late_2 {g : Nat → Nat} {B T : Nat → Nat → Nat} {pk : Nat → Option Nat} {k j : Nat} (h : pk k = some (100 + j)) : xq_late g B T pk k = decide (xm_LT g (B k) (T k) j ≤ k) := by
  unfold xq_late; rw [h]
  show (decide (100 ≤ 100 + j) && decide (xm_LT g (B k) (T k) (100 + j - 100) ≤ k)) = _
  rw [decide_eq_true (by omega), Bool.true_and, Nat.add_sub_cancel_left]
def xq_pl (n : Nat) (l m g : Nat → Nat) (A B T : Nat → Nat → Nat) (pk : Nat → Option Nat) (d : Nat) (th ld rd ll rl si : xF) (lc tc lu : Int32) : Prop :=
  xm_st n d l m ll rl si (A d) (B d) (T d) ∧ (∀ k, k < 100 → th k = if k < d then xm_o (pk k) else -1) ∧ (∀ j, j < 12 → ∀ i, i < 5 → ld (5 * j + i) = xm_o (xq_E A pk d j i)) ∧ (∀ j, j < 12 → ∀ i, i < 3 → rd (3 * j + i) = xm_o (xq_V B pk d j i)) ∧ lc = nI (fb_ct (fun k => (pk k).isSome) d) ∧ tc = nI (fb_ct (xq_late g B T pk) d) ∧ xm_last d th lu
section XD
variable {n d : Nat} {l m g s : Nat → Nat} {kt lo : xF} {A B T : Nat → Nat → Nat} {pk : Nat → Option Nat} {th ld rd ll rl si : xF} {lc tc lu : Int32}
theorem xq_pl_skip (hd : d < 100) (h : xq_tr n l m g s kt lo A B T pk) (hp : pk d = none) (H : xq_pl n l m g A B T pk d th ld rd ll rl si lc tc lu) : xq_pl n l m g A B T pk (d + 1) th ld rd ll rl si lc tc lu := by
  obtain ⟨h1, h2, h3, h4, h5, h6, h7⟩ := H
  have e : ∀ j, A (d + 1) j = A d j ∧ B (d + 1) j = B d j ∧ T (d + 1) j = T d j := fun j => by
    obtain ⟨q1, q2, q3⟩ := (h.2 d).2 j
    rw [q1, q2, q3, hp]
    refine ⟨if_neg (fun z => by cases z), if_neg (fun z => by cases z), if_neg (fun z => z.elim (fun z => by cases z) (fun z => by cases z))⟩
  refine ⟨fun j hj => ?_, fun k hk => ?_, fun j hj i hi => ?_, fun j hj i hi => ?_, ?_, ?_, ?_⟩
  · obtain ⟨q1, q2, q3⟩ := e j
    rw [q1, q2, q3]
    exact h1 j hj
  · rw [h2 k hk]
    by_cases z : k < d
    · rw [if_pos z, if_pos (by omega)]
    · rw [if_neg z]
      by_cases z2 : k = d
      · rw [if_pos (by omega), z2, hp]; rfl
      · rw [if_neg (by omega)]
  · rw [xq_E_succ h, hp, if_neg (fun z => by cases z.1)]; exact h3 j hj i hi
  · rw [xq_V_succ h, hp, if_neg (fun z => by cases z.1)]; exact h4 j hj i hi
  · rw [h5, fb_ct_succ, hp]; rfl
  · rw [h6, fb_ct_succ, xq_late_0 hp]; rfl
  · have hd0 : th d = -1 := by rw [h2 d hd, if_neg (Nat.lt_irrefl d)]
    rcases h7 with ⟨q1, q2⟩ | ⟨e, q1, q2, q3, q4⟩
    · exact Or.inl ⟨q1, fun k hk => by
        by_cases z : k = d
        · rw [z]; exact hd0
        · exact q2 k (by omega)⟩
    · exact Or.inr ⟨e, by omega, q2, q3, fun k hk1 hk2 => by
        by_cases z : k = d
        · rw [z]; exact hd0
        · exact q4 k hk1 (by omega)⟩
theorem xq_pl_th {x : Nat} (hx : x < 2 ^ 31) (hd : d < 100) (hp : pk d = some x) (h2 : ∀ k, k < 100 → th k = if k < d then xm_o (pk k) else -1) : (∀ k, k < 100 → upd th d (nI x) k = if k < d + 1 then xm_o (pk k) else -1) ∧ xm_last (d + 1) (upd th d (nI x)) (nI d) := by
  refine ⟨fun k hk => ?_, Or.inr ⟨d, by omega, rfl, by rw [xm_up0]; exact xm_m1 hx, fun k h1 h2 => by omega⟩⟩
  by_cases e : k = d
  · rw [e, xm_up0, if_pos (by omega), hp]; rfl
  · rw [xm_up1 _ _ e, h2 k hk]
    by_cases z : k < d
    · rw [if_pos z, if_pos (by omega)]
    · rw [if_neg z, if_neg (by omega)]
theorem xq_pl_les (hq : xq_dat n l m g s) (hd : d < 100) (h : xq_tr n l m g s kt lo A B T pk) {j : Nat} (hj : j < n) (hp : pk d = some j) (H : xq_pl n l m g A B T pk d th ld rd ll rl si lc tc lu) :
    xq_pl n l m g A B T pk (d + 1) (upd th d (nI j)) (upd ld (5 * j + A d j) (nI d)) rd (upd ll j (nI (A d j + 1))) rl (upd si j (nI d)) (lc + 1) tc (nI d) := by
  have h12 := hq.1
  obtain ⟨-, hal⟩ := xq_les hq h (by omega) hp
  have hl5 := (hq.2.1 j hj).2.1
  obtain ⟨h1, h2, h3, h4, h5, h6, h7⟩ := H
  obtain ⟨r1, r2⟩ := xq_pl_th (x := j) (by omega) hd hp h2
  have hno : ∀ i, i < 12 → ¬ pk d = some (100 + i) := fun i hi z => by rw [hp] at z; have := Option.some.inj z; omega
  refine ⟨fun i hi => ?_, r1, fun i hi k hk => ?_, fun i hi k hk => ?_, ?_, ?_, r2⟩
  · obtain ⟨q1, q2, q3⟩ := (h.2 d).2 i
    obtain ⟨p1, p2, p3, p4⟩ := h1 i hi
    rw [q1, q2, q3, if_neg (hno i (by omega))]
    by_cases e : i = j
    · subst e
      rw [if_pos hp, if_pos (Or.inl hp), xm_up0, xm_up0]
      exact ⟨⟨rfl, by omega⟩, p2, ⟨rfl, hd⟩, fun _ => p4 hal⟩
    · have e1 : ¬ pk d = some i := fun z => e (Option.some.inj (z.symm.trans hp))
      rw [if_neg e1, if_neg (fun z => z.elim e1 (hno i (by omega))), xm_up1 _ _ e, xm_up1 _ _ e]
      exact ⟨p1, p2, p3, p4⟩
  · rw [xq_E_succ h]
    by_cases e : i = j ∧ k = A d j
    · obtain ⟨e1, e2⟩ := e
      rw [e1, e2, if_pos ⟨hp, rfl⟩, xm_up0]; rfl
    · have hne : ¬ (pk d = some i ∧ A d i = k) := fun z => by
        have e1 : i = j := Option.some.inj (z.1.symm.trans hp)
        exact e ⟨e1, by rw [← z.2, e1]⟩
      rw [if_neg hne, xm_up1 _ _ (by omega)]
      exact h3 i hi k hk
  · rw [xq_V_succ h, if_neg (fun z => hno i hi z.1)]; exact h4 i hi k hk
  · rw [h5, fb_ct_succ, hp, nI_1]; rfl
  · rw [h6, fb_ct_succ, xq_late_1 hp (by omega)]; rfl
theorem xq_pl_rev (hq : xq_dat n l m g s) (hd : d < 100) (h : xq_tr n l m g s kt lo A B T pk) {j : Nat} (hj : j < n) (hp : pk d = some (100 + j)) (H : xq_pl n l m g A B T pk d th ld rd ll rl si lc tc lu) :
    xq_pl n l m g A B T pk (d + 1) (upd th d (nI (100 + j))) ld (upd rd (3 * j + B d j) (nI d)) ll (upd rl j (nI (B d j + 1))) (upd si j (nI d)) (lc + 1) (tc + (if nI d < nI (xm_LT g (B d) (T d) j) then 0 else 1)) (nI d) := by
  have h12 := hq.1
  obtain ⟨-, ha, hb, hdue⟩ := xq_rev hq h hp
  obtain ⟨hl1, hl5, hm3, hg⟩ := hq.2.1 j hj
  obtain ⟨h1, h2, h3, h4, h5, h6, h7⟩ := H
  obtain ⟨r1, r2⟩ := xq_pl_th (x := 100 + j) (by omega) hd hp h2
  have hno : ∀ i, i < 12 → ¬ pk d = some i := fun i hi z => by rw [hp] at z; have := Option.some.inj z; omega
  refine ⟨fun i hi => ?_, r1, fun i hi k hk => ?_, fun i hi k hk => ?_, ?_, ?_, r2⟩
  · obtain ⟨q1, q2, q3⟩ := (h.2 d).2 i
    obtain ⟨p1, p2, p3, p4⟩ := h1 i hi
    rw [q1, q2, q3, if_neg (hno i (by omega))]
    by_cases e : i = j
    · subst e
      rw [if_pos hp, if_pos (Or.inr hp), xm_up0, xm_up0]
      exact ⟨p1, ⟨rfl, by omega⟩, ⟨rfl, hd⟩, fun z => by omega⟩
    · have e1 : ¬ pk d = some (100 + i) := fun z => e (by have := Option.some.inj (z.symm.trans hp); omega)
      rw [if_neg e1, if_neg (fun z => z.elim (hno i (by omega)) e1), xm_up1 _ _ e, xm_up1 _ _ e]
      exact ⟨p1, p2, p3, p4⟩
  · rw [xq_E_succ h, if_neg (fun z => hno i hi z.1)]; exact h3 i hi k hk
  · rw [xq_V_succ h]
    by_cases e : i = j ∧ k = B d j
    · obtain ⟨e1, e2⟩ := e
      rw [e1, e2, if_pos ⟨hp, rfl⟩, xm_up0]; rfl
    · have hne : ¬ (pk d = some (100 + i) ∧ B d i = k) := fun z => by
        have e1 : i = j := by have := Option.some.inj (z.1.symm.trans hp); omega
        exact e ⟨e1, by rw [← z.2, e1]⟩
      rw [if_neg hne, xm_up1 _ _ (by omega)]
      exact h4 i hi k hk
  · rw [h5, fb_ct_succ, hp, nI_1]; rfl
  · have hbm := (xq_bnd hq h hj d).2.1
    have hgb := xm_gb hg (show B d j ≤ 3 by omega)
    have hLT : xm_LT g (B d) (T d) j < 2 ^ 31 := by unfold xm_LT; omega
    rw [h6, fb_ct_succ, xq_late_2 hp]
    by_cases z : xm_LT g (B d) (T d) j ≤ d
    · rw [if_neg (nI_nlt z (by omega)), decide_eq_true z, nI_1]; rfl
    · rw [if_pos (nI_lt (by omega) hLT), decide_eq_false z, Int32.add_zero]; rfl
end XD
theorem xq_days {n : Nat} {l m g s : Nat → Nat} {kt lo : xF} {A B T : Nat → Nat → Nat} {pk : Nat → Option Nat} {le ki wo ma ga ne od : xF} (hq : xq_dat n l m g s) (hdat : xm_dat n le ma ga od l m g s) (h : xq_tr n l m g s kt lo A B T pk) : ∀ (c d f : Nat) (th ld rd ll rl si : xF) (lc tc lu : Int32), d + c = 100 → c < f → xq_pl n l m g A B T pk d th ld rd ll rl si lc tc lu →
    ∃ (th2 ld2 rd2 ll2 rl2 si2 : xF) (lc2 tc2 lu2 : Int32), f_X0_lay_l6 (nI n) le ki wo kt ma ga ne od lo f (nI d) (th, ld, rd, ll, rl, si, lc, tc, lu) = some (th2, ld2, rd2, ll2, rl2, si2, lc2, tc2, lu2) ∧ xq_pl n l m g A B T pk 100 th2 ld2 rd2 ll2 rl2 si2 lc2 tc2 lu2 := by
  have h12 := hdat.1
  intro c
  induction c with
  | zero =>
    intro d f th ld rd ll rl si lc tc lu hdc hf H
    obtain ⟨f, rfl⟩ : ∃ g, f = g + 1 := ⟨f - 1, by omega⟩
    obtain rfl : d = 100 := by omega
    refine ⟨th, ld, rd, ll, rl, si, lc, tc, lu, ?_, H⟩
    rw [f_X0_lay_l6_s, if_pos (by decide)]
  | succ c ih =>
    intro d f th ld rd ll rl si lc tc lu hdc hf H
    obtain ⟨f, rfl⟩ : ∃ g, f = g + 1 := ⟨f - 1, by omega⟩
    have hd : d < 100 := by omega
    have h100 : ¬ (100 : Int32) ≤ nI d := nI_ge (b := 100) (by omega) (by omega)
    have hst := H.1
    have hskip := fun (hp : pk d = none) => ih (d + 1) f th ld rd ll rl si lc tc lu (by omega) (by omega) (xq_pl_skip hd h hp H)
    rw [f_X0_lay_l6_s, if_neg h100, xm_g (k := d) (by omega) (by omega), nI_clamp (by omega : d < 2 ^ 31), nI_1]
    by_cases hlo : lo d = 0
    · rw [if_pos hlo, f_X0_layOn_e, xm_mpr hd hdat hst, Option.bind_some]
      cases hmp : xm_mp (xm_due d l m g (A d) (B d) (T d)) (xm_LT g (B d) (T d)) n 0 none with
      | none =>
        rw [xm_o_none, if_pos (rfl : (-1 : Int32) = -1), xm_fu hdat hst, Option.bind_some]
        cases hf : xm_f (xm_un l (A d) s) n 0 with
        | none =>
          rw [xm_sn_none, if_pos (rfl : (-1 : Int32) = -1), Option.bind_some]
          exact hskip ((h.2 d).1.trans (xq_ch_no hlo hmp hf))
        | some p =>
          obtain ⟨-, hp, hun⟩ := xm_f_some hf
          have hp : p < n := by omega
          have hj := (hdat.2 p hp).2.2.2.2
          have hja : A d (s p) < l (s p) := of_decide_eq_true hun
          have hch := (h.2 d).1.trans (xq_ch_les hlo hmp hf)
          rw [xm_sn_some]
          generalize s p = j at hj hja hch ⊢
          have hm1 : ¬ nI j = -1 := xm_m1 (by omega)
          have ha := (hst j hj).1.1
          have hl5 := (hdat.2 j hj).1.2.2
          have hth : xm_held n kt th j d = xm_held n kt (fun k => xm_o (pk k)) j d := xm_held_cong (fun k hk => by rw [H.2.1 k (by omega), if_pos hk])
          rw [if_neg hm1, xm_ik h12 hj hd, hth]
          cases hh : xm_held n kt (fun k => xm_o (pk k)) j d with
          | false =>
            rw [hh, if_neg (by decide)] at hch
            rw [xm_b0, xm_i0, xm_lyl hd (by omega) ha (by omega), Option.bind_some]
            exact ih (d + 1) f _ _ _ _ _ _ _ _ _ (by omega) (by omega) (xq_pl_les hq hd h hj hch H)
          | true =>
            rw [hh, if_pos rfl] at hch
            rw [xm_b1, xm_i1, Option.bind_some]
            exact hskip hch
      | some j =>
        obtain ⟨hdue, hj⟩ := xm_mp_some (n := n) (by omega) (fun x hx => by cases hx) hmp
        have hm1 : ¬ nI j = -1 := xm_m1 (by omega)
        have hm3 := (hdat.2 j hj).2.1.2
        have hdue2 := hdue
        simp only [xm_due, Bool.and_eq_true, decide_eq_true_eq] at hdue2
        rw [xm_o_some, if_neg hm1, xm_lyr hd hdat hst hj (by omega), Option.bind_some]
        exact ih (d + 1) f _ _ _ _ _ _ _ _ _ (by omega) (by omega) (xq_pl_rev hq hd h hj ((h.2 d).1.trans (xq_ch_rev hlo hmp)) H)
    · rw [if_neg hlo]
      exact hskip ((h.2 d).1.trans (xq_ch_lost hlo))
-- a plan of the class, laid whole
def xq_P (n : Nat) (l m g : Nat → Nat) (A B T : Nat → Nat → Nat) (pk : Nat → Option Nat) (P : xPL) : Prop := xq_pl n l m g A B T pk 100 P.1 P.2.1 P.2.2.1 P.2.2.2.1 P.2.2.2.2.1 P.2.2.2.2.2.1 P.2.2.2.2.2.2.1 P.2.2.2.2.2.2.2.1 P.2.2.2.2.2.2.2.2
theorem xq_pl_0 {n : Nat} {l m g s : Nat → Nat} {kt lo : xF} {A B T : Nat → Nat → Nat} {pk : Nat → Option Nat} {th ld rd ll rl si : xF} (h12 : n ≤ 12) (h : xq_tr n l m g s kt lo A B T pk) (h1 : ∀ k, k < 100 → th k = -1) (h2 : ∀ k, k < 60 → ld k = -1) (h3 : ∀ k, k < 36 → rd k = -1) (h4 : ∀ k, k < 12 → ll k = 0 ∧ rl k = 0 ∧ si k = 0) : xq_pl n l m g A B T pk 0 th ld rd ll rl si 0 0 (-1) := by
  refine ⟨fun j hj => ?_, fun k hk => by rw [h1 k hk, if_neg (Nat.not_lt_zero k)], fun j hj i hi => by rw [h2 _ (by omega)]; rfl, fun j hj i hi => by rw [h3 _ (by omega)]; rfl, rfl, rfl, Or.inl ⟨rfl, fun k hk => by omega⟩⟩
  obtain ⟨e1, e2, e3⟩ := h4 j (by omega)
  obtain ⟨a1, a2, a3⟩ := h.1 j
  rw [e1, e2, e3, a1, a2, a3]
  exact ⟨⟨rfl, Nat.zero_le _⟩, ⟨rfl, Nat.zero_le _⟩, ⟨rfl, (by decide : (0 : Nat) < 100)⟩, fun _ => rfl⟩
theorem xq_lay {n : Nat} {l m g s : Nat → Nat} {kt lo : xF} {A B T : Nat → Nat → Nat} {pk : Nat → Option Nat} {le ki wo ma ga ne od : xF} (hq : xq_dat n l m g s) (hdat : xm_dat n le ma ga od l m g s) (h : xq_tr n l m g s kt lo A B T pk) (Q : xPL) : ∃ P, f_X0_lay Q (nI n, le, ki, wo, kt, ma, ga, ne, od) lo = some P ∧ xq_P n l m g A B T pk P := by
  obtain ⟨th, ld, rd, ll, rl, si, lc, tc, lu⟩ := Q
  obtain ⟨th1, ld1, rd1, ll1, rl1, si1, hc, h1, h2, h3, h4⟩ := xm_clear th ld rd ll rl si lc tc lu
  obtain ⟨th2, ld2, rd2, ll2, rl2, si2, lc2, tc2, lu2, e, H⟩ := xq_days (ki := ki) (wo := wo) (ne := ne) hq hdat h 100 0 300 th1 ld1 rd1 ll1 rl1 si1 0 0 (-1) (by omega) (by omega) (xq_pl_0 hq.1 h h1 h2 h3 h4)
  refine ⟨(th2, ld2, rd2, ll2, rl2, si2, lc2, tc2, lu2), ?_, H⟩
  rw [f_X0_lay_e, hc]
  have e : f_X0_lay_l6 (nI n) le ki wo kt ma ga ne od lo 300 (0 : Int32) (th1, ld1, rd1, ll1, rl1, si1, 0, 0, -1) = some (th2, ld2, rd2, ll2, rl2, si2, lc2, tc2, lu2) := e
  rw [Option.bind_some, e]
  rfl
