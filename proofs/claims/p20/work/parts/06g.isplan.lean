theorem xq_om {α β : Type} {v : α} {n : Option β} {k : α → Option β} : xf_om (some v) n k = k v := rfl
def xq_lk (lo : xF) (kl : Nat → Int64) : Prop := ∀ d, d < 100 → f_L_isLost kl (nI d) = some (if lo d = 0 then 0 else 1)
theorem xq_l43 {n : Nat} {l m g s : Nat → Nat} {lo le ki wo kt ma ga ne od th ld rd ll rl si : xF} {lc tc lu : Int32} {q0 q1 q2 q3 q4 q5 : xF} {q6 q7 q8 : Int32} {A B T : Nat → Nat → Nat} {pk : Nat → Option Nat} {ka kr kc ke kv kp : xF} {kl : Nat → Int64} (hq : xq_dat n l m g s) (h : xq_tr n l m g s kt lo A B T pk) (hev : xq_ev A B pk ke kv) (hln : xq_ln n l m g s kt ka kr kc kp) (hkt : ∀ j, j < n → (kt j < 0 ↔ kt j = -1)) (hlk : xq_lk lo kl) (hth : ∀ k, k < 100 → th k = xm_o (pk k)) :
    ∀ (c k f : Nat) (x : Int32), k + c = 100 → c < f → xm_last k th x → ∃ r, f_L_isPlan_l43 lo (nI n) le ki wo kt ma ga ne od th ld rd ll rl si lc tc lu q0 q1 q2 q3 q4 q5 q6 q7 q8 ka kr kc kl (ke, kv, kp) f (nI k) x (nI (fb_ct (fun k => (pk k).isSome) k)) = some (some (r, nI (fb_ct (fun k => (pk k).isSome) 100))) ∧ xm_last 100 th r := by
  intro c
  induction c with
  | zero =>
    intro k f x hk hf hx
    obtain ⟨f, rfl⟩ : ∃ g, f = g + 1 := ⟨f - 1, by omega⟩
    obtain rfl : k = 100 := by omega
    refine ⟨x, ?_, hx⟩
    rw [f_L_isPlan_l43_s, if_pos (by decide)]
  | succ c ih =>
    intro k f x hk hf hx
    obtain ⟨f, rfl⟩ : ∃ g, f = g + 1 := ⟨f - 1, by omega⟩
    have hk100 : k < 100 := by omega
    have ht : f_L_thing (ke, kv, kp).1 (ke, kv, kp).2.1 (nI k) = some (xm_o (pk k)) := xq_thing_day hq h hev hk100
    have hon : f_X2_on lo (nI n, le, ki, wo, kt, ma, ga, ne, od) (th, ld, rd, ll, rl, si, lc, tc, lu) (q0, q1, q2, q3, q4, q5, q6, q7, q8) (nI k) = some (xm_o (pk k)) := by rw [xq_on hk100]; exact congrArg some (hth k hk100)
    have hlo := hlk k hk100
    have hbu : lo k = 0 → f_L_isBusy ka kr kc (ke, kv, kp).1 (ke, kv, kp).2.1 (ke, kv, kp).2.2 (nI k) (xm_o (pk k)) = some 1 := fun z => xq_busy hq h hev hln hkt hk100 z
    have hth0 := hth k hk100
    rw [f_L_isPlan_l43_s, if_neg (show ¬ (100 : Int32) ≤ nI k from nI_ge (b := 100) hk100 (by omega)), ht, Option.bind_some, hon]
    cases hp : pk k with
    | none =>
      have e1 : ¬ (0 : Int32) ≤ xm_o (none : Option Nat) := by decide
      have e2 : xm_o (none : Option Nat) < 0 := by decide
      rw [hp] at hth0 hbu
      have hct : fb_ct (fun k => (pk k).isSome) (k + 1) = fb_ct (fun k => (pk k).isSome) k := by rw [fb_ct_succ, hp]; rfl
      have hx2 : xm_last (k + 1) th x := by
        rcases hx with ⟨a1, a2⟩ | ⟨e, a1, a2, a3, a4⟩
        · exact Or.inl ⟨a1, fun i hi => by
            by_cases z : i = k
            · rw [z]; exact hth0
            · exact a2 i (by omega)⟩
        · exact Or.inr ⟨e, by omega, a2, a3, fun i hi1 hi2 => by
            by_cases z : i = k
            · rw [z]; exact hth0
            · exact a4 i hi1 (by omega)⟩
      have ih' := ih (k + 1) f x (by omega) (by omega) hx2
      rw [hct] at ih'
      rw [if_neg e1, if_neg e1, Option.bind_some, Option.bind_some, Option.bind_some, if_pos rfl, if_pos e2, hlo, nI_1, Int32.add_zero]
      by_cases hl0 : lo k = 0
      · rw [if_pos hl0, Option.bind_some, xm_i0, hbu hl0, Option.bind_some, xm_i1]
        exact ih'
      · rw [if_neg hl0, Option.bind_some, xm_i1]
        exact ih'
    | some v =>
      obtain ⟨z1, -, -⟩ := xq_pick_lt hq h hp
      have hl0 := (xq_pick hq h hp).1
      have e1 : (0 : Int32) ≤ xm_o (some v) := nI_pos' (by omega)
      have e2 : ¬ xm_o (some v) < 0 := nI_pos (by omega)
      rw [hp] at hth0 hbu
      have hct : nI (fb_ct (fun k => (pk k).isSome) k) + (1 : Int32) = nI (fb_ct (fun k => (pk k).isSome) (k + 1)) := by rw [fb_ct_succ, hp, nI_1]; rfl
      have hx2 : xm_last (k + 1) th (nI k) := Or.inr ⟨k, by omega, rfl, by rw [hth0]; exact xm_m1 (by omega), fun i h1 h2 => by omega⟩
      have ih' := ih (k + 1) f (nI k) (by omega) (by omega) hx2
      rw [if_pos e1, if_pos e1, Option.bind_some, Option.bind_some, Option.bind_some, if_pos rfl, if_neg e2, hlo, if_pos hl0, Option.bind_some, xm_i0, Option.bind_some, xm_i0, hbu hl0, Option.bind_some, xm_i1, nI_1, hct]
      exact ih'
theorem xq_isPlan {n : Nat} {l m g s : Nat → Nat} {lo le ki wo kt ma ga ne od : xF} {P Q : xPL} {A B T : Nat → Nat → Nat} {pk : Nat → Option Nat} {ka kr kc : xF} {kl : Nat → Int64} (hq : xq_dat n l m g s) (hdat : xm_dat n le ma ga od l m g s) (h : xq_tr n l m g s kt lo A B T pk) (hP : xq_P n l m g A B T pk P) (hc : kc 0 = nI n) (hka : ∀ j, j < n → ka (5 * j) = nI (l j) ∧ ka (5 * j + 3) = kt j ∧ kr (2 * j) = nI (m j) ∧ kr (2 * j + 1) = nI (g j)) (hkt : ∀ j, j < n → (kt j < 0 ↔ kt j = -1)) (hlk : xq_lk lo kl) : f_L_isPlan lo (nI n, le, ki, wo, kt, ma, ga, ne, od) P Q ka kr kc kl = some 1 := by
  have h12 := hq.1
  obtain ⟨ke, kv, kp, e1, -, -, hev, hkp⟩ := xq_asks (lo := lo) (ki := ki) (wo := wo) (ne := ne) (Q := Q) hq hdat h hP hc (fun j hj => ⟨(hka j hj).1, (hka j hj).2.2.1⟩) (fun _ => (0 : Int32)) (fun _ => (0 : Int32)) (fun _ => (0 : Int32))
  obtain ⟨th, ld, rd, ll, rl, si, lc, tc, lu⟩ := P
  obtain ⟨q0, q1, q2, q3, q4, q5, q6, q7, q8⟩ := Q
  obtain ⟨-, hth, -, -, hlc, htc, hlu⟩ := hP
  have hth : ∀ k, k < 100 → th k = xm_o (pk k) := fun k hk => by
    have := hth k hk
    rwa [if_pos hk] at this
  have hlc : lc = nI (fb_ct (fun k => (pk k).isSome) 100) := hlc
  have htc : tc = nI (fb_ct (xq_late g B T pk) 100) := htc
  have hlu : xm_last 100 th lu := hlu
  have hc0 : kc (0 : Int32).toNatClampNeg = nI n := (congrArg kc xq_z0).trans hc
  obtain ⟨r, e2, hr⟩ := xq_l43 (le := le) (ki := ki) (wo := wo) (ma := ma) (ga := ga) (ne := ne) (od := od) (ld := ld) (rd := rd) (ll := ll) (rl := rl) (si := si) (lc := lc) (tc := tc) (lu := lu) (q0 := q0) (q1 := q1) (q2 := q2) (q3 := q3) (q4 := q4) (q5 := q5) (q6 := q6) (q7 := q7) (q8 := q8) hq h hev ⟨hc, hka, hkp⟩ hkt hlk hth 100 0 300 (-1) (by omega) (by omega) (Or.inl ⟨rfl, fun k hk => by omega⟩)
  have e2 : f_L_isPlan_l43 lo (nI n) le ki wo kt ma ga ne od th ld rd ll rl si lc tc lu q0 q1 q2 q3 q4 q5 q6 q7 q8 ka kr kc kl (ke, kv, kp) 300 (0 : Int32) (-1) (0 : Int32) = some (some (r, nI (fb_ct (fun k => (pk k).isSome) 100))) := e2
  have e3 := xq_l162 (kv := kv) hq h hev hc0 (fun j hj => (hka j hj).1) hkp n 0 300 0 (-1) (by omega) (by omega) ⟨Or.inl rfl, Or.inl rfl⟩
  have e3 : f_L_isPlan_l162 ka kc (ke, kv, kp) 300 (0 : Int32) (0 : Int32) (-1) = some (some ()) := e3
  have e4 := xq_l267 (kp := kp) hq h hev hc0 (fun j hj => (hka j hj).1) (fun j hj => (hka j hj).2.2) n 0 300 (by omega) (by omega)
  have e4 : f_L_isPlan_l267 ka kr kc (ke, kv, kp) 300 (0 : Int32) (0 : Int32) = some (some (nI (fb_ct (xq_W l g A B pk) (3 * n)))) := e4
  have er : r = lu := xm_last_eq (fun _ _ => rfl) hlu hr
  rw [f_L_isPlan_e, e1, Option.bind_some, e2, Option.bind_some, xq_om, e3, Option.bind_some, xq_om, e4, Option.bind_some, xq_om, f_X2_laid_e, Option.bind_some, hlc, if_pos rfl, f_X2_late_e, Option.bind_some, htc, xq_W_late hq h, if_pos rfl, f_X2_lastDay_e, Option.bind_some, er, if_pos rfl]
