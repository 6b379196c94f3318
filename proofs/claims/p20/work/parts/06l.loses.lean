-- the row of lost days
def c64 (x : Int64) (i : Nat) : Bool := x.toBitVec.getLsbD i
theorem c64_ext {x y : Int64} (h : ∀ i, i < 64 → c64 x i = c64 y i) : x = y := Int64.toBitVec_inj.mp (BitVec.eq_of_getLsbD_eq (fun i hi => h i hi))
theorem c64_or (x y : Int64) (i : Nat) : c64 (x ||| y) i = (c64 x i || c64 y i) := by unfold c64; rw [Int64.toBitVec_or, BitVec.getLsbD_or]
theorem c64_and (x y : Int64) (i : Nat) : c64 (x &&& y) i = (c64 x i && c64 y i) := by unfold c64; rw [Int64.toBitVec_and, BitVec.getLsbD_and]
theorem c64_1 : ∀ i, i < 64 → c64 1 i = decide (i = 0) := by decide +kernel
theorem c64_0 (i : Nat) : c64 0 i = false := BitVec.getLsbD_zero
theorem c64_s : ∀ n, n < 64 → (((nI n).toInt64 &&& 63).toBitVec.smod 64).toNat = n := by decide +kernel
theorem c64_shl (n : Nat) (hn : n < 64) (x : Int64) {i : Nat} (hi : i < 64) : c64 (x <<< ((nI n).toInt64 &&& 63)) i = (decide (n ≤ i) && c64 x (i - n)) := by
  unfold c64
  rw [Int64.toBitVec_shiftLeft]
  show (x.toBitVec <<< (((nI n).toInt64 &&& 63).toBitVec.smod 64).toNat).getLsbD i = _
  rw [c64_s n hn, BitVec.getLsbD_shiftLeft]
  rcases Nat.lt_or_ge i n with h | h
  · simp [h, Nat.not_le.mpr h]
  · simp [hi, h, Nat.not_lt.mpr h]
theorem c64_shr (n : Nat) (hn : n < 64) (x : Int64) {i : Nat} (hi : i < 64) : c64 (x >>> ((nI n).toInt64 &&& 63)) i = if n + i < 64 then c64 x (n + i) else c64 x 63 := by
  unfold c64
  rw [Int64.toBitVec_shiftRight]
  show (x.toBitVec.sshiftRight (((nI n).toInt64 &&& 63).toBitVec.smod 64).toNat).getLsbD i = _
  rw [c64_s n hn, BitVec.getLsbD_sshiftRight, BitVec.msb_eq_getLsbD_last]
  simp [hi]
theorem xq_lost_at {kl : Nat → Int64} {d : Nat} (hd : d < 100) : f_L_isLost kl (nI d) = some (if c64 (kl (d / 50)) (d % 50) = true then 1 else 0) := by
  have e : ((kl (d / 50)) >>> ((nI (d % 50)).toInt64 &&& 63)) &&& (1 : Int64) = if c64 (kl (d / 50)) (d % 50) = true then 1 else 0 := by
    refine c64_ext fun i hi => ?_
    rw [c64_and, c64_shr (d % 50) (by omega) _ hi, c64_1 i hi]
    by_cases h0 : i = 0
    · subst h0
      rw [if_pos (by omega : d % 50 + 0 < 64)]
      cases hb : c64 (kl (d / 50)) (d % 50) <;> simp [hb, c64_0, c64_1 0 (by omega)]
    · cases hb : c64 (kl (d / 50)) (d % 50) <;> simp [h0, c64_0, c64_1 i hi]
  rw [f_L_isLost_e, xq_r50 (by omega), xq_d50 (by omega), xm_g (k := d / 50) (by omega) (by omega), nI_clamp (by omega : d / 50 < 2 ^ 31), e]
  cases c64 (kl (d / 50)) (d % 50) with
  | true => rw [if_pos rfl, if_pos rfl, if_pos rfl]
  | false => rw [if_neg (by decide : ¬ false = true), if_neg (by decide), if_neg (by decide : ¬ false = true)]
theorem xq_lk_0 : xq_lk (fun _ => 0) (fun _ => 0) := fun d hd => by
  rw [xq_lost_at hd, c64_0]; rfl
theorem xq_lk_set {lo : xF} {kl : Nat → Int64} {d : Nat} (hd : d < 100) (h : xq_lk lo kl) : xq_lk (upd lo d 1) (vp_updL kl (d / 50) ((kl (d / 50)) ||| ((1 : Int64) <<< ((nI (d % 50)).toInt64 &&& 63)))) := by
  intro e he
  have h0 := h e he
  rw [xq_lost_at he] at h0 ⊢
  by_cases hde : e = d
  · subst hde
    rw [xm_up0, if_neg (by decide : ¬ (1 : Int32) = 0)]
    have : c64 (vp_updL kl (e / 50) ((kl (e / 50)) ||| ((1 : Int64) <<< ((nI (e % 50)).toInt64 &&& 63))) (e / 50)) (e % 50) = true := by
      show c64 (if e / 50 = e / 50 then ((kl (e / 50)) ||| ((1 : Int64) <<< ((nI (e % 50)).toInt64 &&& 63))) else kl (e / 50)) (e % 50) = true
      rw [if_pos rfl, c64_or, c64_shl (e % 50) (by omega) _ (by omega), decide_eq_true (Nat.le_refl _), Nat.sub_self, c64_1 0 (by omega)]
      simp
    rw [this, if_pos rfl]
  · rw [xm_up1 _ _ hde, ← h0]
    have : c64 (vp_updL kl (d / 50) ((kl (d / 50)) ||| ((1 : Int64) <<< ((nI (d % 50)).toInt64 &&& 63))) (e / 50)) (e % 50) = c64 (kl (e / 50)) (e % 50) := by
      show c64 (if e / 50 = d / 50 then ((kl (d / 50)) ||| ((1 : Int64) <<< ((nI (d % 50)).toInt64 &&& 63))) else kl (e / 50)) (e % 50) = _
      by_cases z : e / 50 = d / 50
      · rw [if_pos z, c64_or, c64_shl (d % 50) (by omega) _ (by omega), z]
        have hne : ¬ e % 50 = d % 50 := by omega
        by_cases y : d % 50 ≤ e % 50
        · rw [c64_1 (e % 50 - d % 50) (by omega), decide_eq_false (p := e % 50 - d % 50 = 0) (by omega), Bool.and_false, Bool.or_false]
        · rw [decide_eq_false y, Bool.false_and, Bool.or_false]
      · rw [if_neg z]
    rw [this]
-- what moves when a day is lost
section XL
variable {n d : Nat} {l m s : Nat → Nat} {lo2 le ki wo kt ma ga ne od ld rd ld2 rd2 : xF} {P2 P : xPL} {ke kv kp : xF} {mv : Int32}
theorem xq_l44 (h12 : n ≤ 12) (hd : d < 100) (hle : ∀ j, j < n → le j = nI (l j) ∧ l j ≤ 5) (hke : ∀ k, k < 60 → ke k = ld k) (hld : ∀ k, k < 60 → ld k = -1 ∨ (k / 5 < n ∧ k % 5 < l (k / 5) ∧ ∃ q, q < 100 ∧ ld k = nI q ∧ (q < d → P2.2.1 k = nI q))) :
    ∀ (c k f : Nat) (a : Int32), k + c = 60 → c < f → f_L_loses_l44 (nI n) le ki wo kt ma ga ne od (nI d) (ke, kv, kp) (mv, lo2, P2, P) f (nI k) 1 a = some (1, xm_cn (xm_df ld P2.2.1) c k a) := by
  intro c
  induction c with
  | zero =>
    intro k f a hk hf
    obtain ⟨f, rfl⟩ : ∃ g, f = g + 1 := ⟨f - 1, by omega⟩
    rw [f_L_loses_l44_s, if_pos (show (60 : Int32) ≤ nI k from nI_le (a := 60) (by omega) (by omega))]
    rfl
  | succ c ih =>
    intro k f a hk hf
    obtain ⟨f, rfl⟩ : ∃ g, f = g + 1 := ⟨f - 1, by omega⟩
    have hk60 : k < 60 := by omega
    rw [f_L_loses_l44_s, if_neg (show ¬ (60 : Int32) ≤ nI k from nI_ge (b := 60) (by omega) (by omega)), xm_g (k := k) (by omega) (by omega), nI_clamp (by omega : k < 2 ^ 31), xq_r5 (by omega), xq_d5 (by omega), nI_1]
    show Option.bind (if 0 ≤ ke k then Option.bind (f_X2_lessonDay lo2 (nI n, le, ki, wo, kt, ma, ga, ne, od) P2 P (nI (k / 5)) (nI (k % 5))) (fun (o18 : Int32) => some o18) else some (-1 : Int32)) (fun (v10 : Int32) => Option.bind (if v10 = ke k then some (0 : Int32) else some (1 : Int32)) fun (v11 : Int32) => if (1 : Int32) = 0 then f_L_loses_l44 (nI n) le ki wo kt ma ga ne od (nI d) (ke, kv, kp) (mv, lo2, P2, P) f (nI (k + 1)) 0 (a + v11) else if ke k < 0 then f_L_loses_l44 (nI n) le ki wo kt ma ga ne od (nI d) (ke, kv, kp) (mv, lo2, P2, P) f (nI (k + 1)) 1 (a + v11) else if nI d ≤ ke k then f_L_loses_l44 (nI n) le ki wo kt ma ga ne od (nI d) (ke, kv, kp) (mv, lo2, P2, P) f (nI (k + 1)) 1 (a + v11) else if v10 = ke k then f_L_loses_l44 (nI n) le ki wo kt ma ga ne od (nI d) (ke, kv, kp) (mv, lo2, P2, P) f (nI (k + 1)) 1 (a + v11) else f_L_loses_l44 (nI n) le ki wo kt ma ga ne od (nI d) (ke, kv, kp) (mv, lo2, P2, P) f (nI (k + 1)) 0 (a + v11)) = _
    rw [hke k hk60]
    rcases hld k hk60 with e | ⟨e1, e2, q, e3, e4, e5⟩
    · rw [e, if_neg (by decide), Option.bind_some, if_pos rfl, Option.bind_some, xm_i1, if_pos (by decide), Int32.add_zero, xm_cn_0 (xm_df_0 e)]
      exact ih (k + 1) f a (by omega) (by omega)
    · obtain ⟨hl1, hl2⟩ := hle (k / 5) e1
      rw [e4, if_pos (nI_pos' (by omega)), xq_lessonDay h12 e1 hl1 e2 hl2, Option.bind_some, Option.bind_some, show 5 * (k / 5) + k % 5 = k by omega]
      have hne : ¬ ld k = -1 := by rw [e4]; exact xm_m1 (by omega)
      by_cases z : P2.2.1 k = nI q
      · rw [if_pos z, Option.bind_some, xm_i1, if_neg (nI_pos (by omega)), if_pos z, Int32.add_zero, ite_self, xm_cn_0 (xm_df_1 (by rw [e4, z]))]
        exact ih (k + 1) f a (by omega) (by omega)
      · have hqd : d ≤ q := Nat.not_lt.mp (fun y => z (e5 y))
        rw [if_neg z, Option.bind_some, xm_i1, if_neg (nI_pos (by omega)), if_pos (nI_le hqd (by omega)), xm_cn_1 (xm_df_2 hne (fun y => z (by rw [← y, e4])))]
        exact ih (k + 1) f _ (by omega) (by omega)
theorem xq_l146 (h12 : n ≤ 12) (hd : d < 100) (hma : ∀ j, j < n → ma j = nI (m j) ∧ m j ≤ 3) (hkv : ∀ k, k < 36 → kv k = rd k) (hrd : ∀ k, k < 36 → rd k = -1 ∨ (k / 3 < n ∧ k % 3 < m (k / 3) ∧ ∃ q, q < 100 ∧ rd k = nI q ∧ (q < d → P2.2.2.1 k = nI q))) :
    ∀ (c k f : Nat) (a : Int32), k + c = 36 → c < f → f_L_loses_l146 (nI n) le ki wo kt ma ga ne od (nI d) (ke, kv, kp) (mv, lo2, P2, P) f (nI k) 1 a = some (1, xm_cn (xm_df rd P2.2.2.1) c k a) := by
  intro c
  induction c with
  | zero =>
    intro k f a hk hf
    obtain ⟨f, rfl⟩ : ∃ g, f = g + 1 := ⟨f - 1, by omega⟩
    rw [f_L_loses_l146_s, if_pos (show (36 : Int32) ≤ nI k from nI_le (a := 36) (by omega) (by omega))]
    rfl
  | succ c ih =>
    intro k f a hk hf
    obtain ⟨f, rfl⟩ : ∃ g, f = g + 1 := ⟨f - 1, by omega⟩
    have hk36 : k < 36 := by omega
    rw [f_L_loses_l146_s, if_neg (show ¬ (36 : Int32) ≤ nI k from nI_ge (b := 36) (by omega) (by omega)), xm_g (k := k) (by omega) (by omega), nI_clamp (by omega : k < 2 ^ 31), xq_r3 (by omega), xq_d3 (by omega), nI_1]
    show Option.bind (if 0 ≤ kv k then Option.bind (f_X2_revisitDay lo2 (nI n, le, ki, wo, kt, ma, ga, ne, od) P2 P (nI (k / 3)) (nI (k % 3))) (fun (o18 : Int32) => some o18) else some (-1 : Int32)) (fun (v10 : Int32) => Option.bind (if v10 = kv k then some (0 : Int32) else some (1 : Int32)) fun (v11 : Int32) => if (1 : Int32) = 0 then f_L_loses_l146 (nI n) le ki wo kt ma ga ne od (nI d) (ke, kv, kp) (mv, lo2, P2, P) f (nI (k + 1)) 0 (a + v11) else if kv k < 0 then f_L_loses_l146 (nI n) le ki wo kt ma ga ne od (nI d) (ke, kv, kp) (mv, lo2, P2, P) f (nI (k + 1)) 1 (a + v11) else if nI d ≤ kv k then f_L_loses_l146 (nI n) le ki wo kt ma ga ne od (nI d) (ke, kv, kp) (mv, lo2, P2, P) f (nI (k + 1)) 1 (a + v11) else if v10 = kv k then f_L_loses_l146 (nI n) le ki wo kt ma ga ne od (nI d) (ke, kv, kp) (mv, lo2, P2, P) f (nI (k + 1)) 1 (a + v11) else f_L_loses_l146 (nI n) le ki wo kt ma ga ne od (nI d) (ke, kv, kp) (mv, lo2, P2, P) f (nI (k + 1)) 0 (a + v11)) = _
    rw [hkv k hk36]
    rcases hrd k hk36 with e | ⟨e1, e2, q, e3, e4, e5⟩
    · rw [e, if_neg (by decide), Option.bind_some, if_pos rfl, Option.bind_some, xm_i1, if_pos (by decide), Int32.add_zero, xm_cn_0 (xm_df_0 e)]
      exact ih (k + 1) f a (by omega) (by omega)
    · obtain ⟨hl1, hl2⟩ := hma (k / 3) e1
      rw [e4, if_pos (nI_pos' (by omega)), xq_revisitDay h12 e1 hl1 e2 hl2, Option.bind_some, Option.bind_some, show 3 * (k / 3) + k % 3 = k by omega]
      have hne : ¬ rd k = -1 := by rw [e4]; exact xm_m1 (by omega)
      by_cases z : P2.2.2.1 k = nI q
      · rw [if_pos z, Option.bind_some, xm_i1, if_neg (nI_pos (by omega)), if_pos z, Int32.add_zero, ite_self, xm_cn_0 (xm_df_1 (by rw [e4, z]))]
        exact ih (k + 1) f a (by omega) (by omega)
      · have hqd : d ≤ q := Nat.not_lt.mp (fun y => z (e5 y))
        rw [if_neg z, Option.bind_some, xm_i1, if_neg (nI_pos (by omega)), if_pos (nI_le hqd (by omega)), xm_cn_1 (xm_df_2 hne (fun y => z (by rw [← y, e4])))]
        exact ih (k + 1) f _ (by omega) (by omega)
end XL
theorem xq_ev_same {n : Nat} {l m g s : Nat → Nat} {kt lo lo2 : xF} {A B T A2 B2 T2 : Nat → Nat → Nat} {pk pk2 : Nat → Option Nat} (h : xq_tr n l m g s kt lo A B T pk) (h2 : xq_tr n l m g s kt lo2 A2 B2 T2 pk2) {D : Nat} (hD : D < 100) (hl : ∀ d, d < D → lo2 d = lo d) {j i q : Nat} (hq : q < D) : (xq_E A pk 100 j i = some q → xq_E A2 pk2 100 j i = some q) ∧ (xq_V B pk 100 j i = some q → xq_V B2 pk2 100 j i = some q) := by
  obtain ⟨e1, e2, e3, e4⟩ := xq_same h h2 hl (q + 1) (by omega)
  obtain ⟨f1, f2, f3, f4⟩ := xq_same h h2 hl q (by omega)
  refine ⟨fun z => ?_, fun z => ?_⟩
  · obtain ⟨a, b, c⟩ := xq_E_some z
    exact xq_E_of h2 a (by rw [e4 q (by omega)]; exact b) (by rw [f1]; exact c)
  · obtain ⟨a, b, c⟩ := xq_V_some z
    exact xq_V_of h2 a (by rw [e4 q (by omega)]; exact b) (by rw [f2]; exact c)
theorem xq_planAnew {n : Nat} {l m g s : Nat → Nat} {lo le ki wo kt ma ga ne od : xF} (hq : xq_dat n l m g s) (hdat : xm_dat n le ma ga od l m g s) (P Q : xPL) : ∃ P2 A B T pk, f_X2_planAnew lo (nI n, le, ki, wo, kt, ma, ga, ne, od) P Q = some (P2, P) ∧ xq_tr n l m g s kt lo A B T pk ∧ xq_P n l m g A B T pk P2 := by
  obtain ⟨A, B, T, pk, h⟩ := xq_ex n l m g s kt lo
  obtain ⟨P2, e, hP⟩ := xq_lay (ki := ki) (wo := wo) (ne := ne) hq hdat h Q
  refine ⟨P2, A, B, T, pk, ?_, h, hP⟩
  obtain ⟨p0, p1, p2, p3, p4, p5, p6, p7, p8⟩ := P
  obtain ⟨q0, q1, q2, q3, q4, q5, q6, q7, q8⟩ := Q
  rw [f_X2_planAnew_e, e]
  rfl
theorem xq_loses {n d : Nat} {l m g s : Nat → Nat} {lo le ki wo kt ma ga ne od : xF} {P Q : xPL} {A B T : Nat → Nat → Nat} {pk : Nat → Option Nat} {ka kr kc : xF} {kl : Nat → Int64} (hd : d < 100) (hlo : lo d = 0) (hq : xq_dat n l m g s) (hdat : xm_dat n le ma ga od l m g s) (h : xq_tr n l m g s kt lo A B T pk) (hP : xq_P n l m g A B T pk P) (hc : kc 0 = nI n) (hka : ∀ j, j < n → ka (5 * j) = nI (l j) ∧ kr (2 * j) = nI (m j)) :
    ∃ P2 A2 B2 T2 pk2, f_L_loses lo (nI n, le, ki, wo, kt, ma, ga, ne, od) P Q ka kr kc kl (nI d) = some (1, upd lo d 1, P2, P, vp_updL kl (d / 50) ((kl (d / 50)) ||| ((1 : Int64) <<< ((nI (d % 50)).toInt64 &&& 63)))) ∧ xq_tr n l m g s kt (upd lo d 1) A2 B2 T2 pk2 ∧ xq_P n l m g A2 B2 T2 pk2 P2 := by
  have h12 := hq.1
  obtain ⟨P2, A2, B2, T2, pk2, e1, h2, hP2⟩ := xq_planAnew (lo := upd lo d 1) (ki := ki) (wo := wo) (kt := kt) (ne := ne) hq hdat P Q
  refine ⟨P2, A2, B2, T2, pk2, ?_, h2, hP2⟩
  obtain ⟨ke, kv, kp, ea, hke, hkv, hev, hkp⟩ := xq_asks (lo := lo) (ki := ki) (wo := wo) (ne := ne) (Q := Q) hq hdat h hP hc hka (fun _ => (0 : Int32)) (fun _ => (0 : Int32)) (fun _ => (0 : Int32))
  have hlose : f_X2_lose lo (nI n, le, ki, wo, kt, ma, ga, ne, od) P Q (nI d) = some (xm_cn (xm_df P.2.1 P2.2.1) 60 0 0 + xm_cn (xm_df P.2.2.1 P2.2.2.1) 36 0 0, upd lo d 1, P2, P) := by
    have hmv := xm_moved P2 P
    obtain ⟨p0, p1, p2, p3, p4, p5, p6, p7, p8⟩ := P
    obtain ⟨q0, q1, q2, q3, q4, q5, q6, q7, q8⟩ := Q
    obtain ⟨r0, r1, r2, r3, r4, r5, r6, r7, r8⟩ := P2
    rw [f_X2_lose_e, xq_isDay hd, Option.bind_some, xm_i1, xm_g (k := d) (by omega) (by omega), nI_clamp (by omega : d < 2 ^ 31), if_pos hlo, e1, Option.bind_some]
    show Option.bind (f_X0_movedSince (r0, r1, r2, r3, r4, r5, r6, r7, r8) (p0, p1, p2, p3, p4, p5, p6, p7, p8)) _ = _
    rw [hmv]
    rfl
  have hl : ∀ e, e < d → upd lo d 1 e = lo e := fun e he => xm_up1 _ _ (by omega)
  have h3 := hP.2.2.1
  have h4 := hP.2.2.2.1
  have g3 := hP2.2.2.1
  have g4 := hP2.2.2.2.1
  have hld : ∀ k, k < 60 → P.2.1 k = -1 ∨ (k / 5 < n ∧ k % 5 < l (k / 5) ∧ ∃ q, q < 100 ∧ P.2.1 k = nI q ∧ (q < d → P2.2.1 k = nI q)) := by
    intro k hk
    have e := h3 (k / 5) (by omega) (k % 5) (by omega)
    have e2 := g3 (k / 5) (by omega) (k % 5) (by omega)
    rw [show 5 * (k / 5) + k % 5 = k by omega] at e e2
    cases hE : xq_E A pk 100 (k / 5) (k % 5) with
    | none => rw [hE] at e; exact Or.inl e
    | some q =>
      rw [hE, xm_o_some] at e
      refine Or.inr ?_
      by_cases z : n ≤ k / 5 ∨ l (k / 5) ≤ k % 5
      · rw [xq_E_out hq h (by omega) z] at hE; cases hE
      · refine ⟨by omega, by omega, q, (xq_E_some hE).1, e, fun hqd => ?_⟩
        rw [e2, (xq_ev_same h h2 hd hl hqd).1 hE]; rfl
  have hrd : ∀ k, k < 36 → P.2.2.1 k = -1 ∨ (k / 3 < n ∧ k % 3 < m (k / 3) ∧ ∃ q, q < 100 ∧ P.2.2.1 k = nI q ∧ (q < d → P2.2.2.1 k = nI q)) := by
    intro k hk
    have e := h4 (k / 3) (by omega) (k % 3) (by omega)
    have e2 := g4 (k / 3) (by omega) (k % 3) (by omega)
    rw [show 3 * (k / 3) + k % 3 = k by omega] at e e2
    cases hV : xq_V B pk 100 (k / 3) (k % 3) with
    | none => rw [hV] at e; exact Or.inl e
    | some q =>
      rw [hV, xm_o_some] at e
      refine Or.inr ?_
      by_cases z : n ≤ k / 3 ∨ m (k / 3) ≤ k % 3
      · rw [xq_V_out hq h z] at hV; cases hV
      · refine ⟨by omega, by omega, q, (xq_V_some hV).1, e, fun hqd => ?_⟩
        rw [e2, (xq_ev_same h h2 hd hl hqd).2 hV]; rfl
  have k44 := xq_l44 (lo2 := upd lo d 1) (ki := ki) (wo := wo) (kt := kt) (ma := ma) (ga := ga) (ne := ne) (od := od) (P2 := P2) (P := P) (kv := kv) (kp := kp) (mv := xm_cn (xm_df P.2.1 P2.2.1) 60 0 0 + xm_cn (xm_df P.2.2.1 P2.2.2.1) 36 0 0) h12 hd (fun j hj => ⟨(hdat.2 j hj).1.1, (hdat.2 j hj).1.2.2⟩) hke hld 60 0 300 0 (by omega) (by omega)
  have k146 := xq_l146 (lo2 := upd lo d 1) (le := le) (ki := ki) (wo := wo) (kt := kt) (ga := ga) (ne := ne) (od := od) (P2 := P2) (P := P) (ke := ke) (kp := kp) (mv := xm_cn (xm_df P.2.1 P2.2.1) 60 0 0 + xm_cn (xm_df P.2.2.1 P2.2.2.1) 36 0 0) h12 hd (fun j hj => ⟨(hdat.2 j hj).2.1.1, (hdat.2 j hj).2.1.2⟩) hkv hrd 36 0 300 (xm_cn (xm_df P.2.1 P2.2.1) 60 0 0) (by omega) (by omega)
  have hsum : xm_cn (xm_df P.2.2.1 P2.2.2.1) 36 0 (xm_cn (xm_df P.2.1 P2.2.1) 60 0 0) = xm_cn (xm_df P.2.1 P2.2.1) 60 0 0 + xm_cn (xm_df P.2.2.1 P2.2.2.1) 36 0 0 := by
    have := xm_cn_acc (xm_df P.2.2.1 P2.2.2.1) (xm_cn (xm_df P.2.1 P2.2.1) 60 0 0) 36 0 0
    rwa [Int32.add_zero] at this
  rw [hsum] at k146
  have hon : P2.1 d = -1 := by
    have := hP2.2.1 d hd
    rw [if_pos hd, (h2.2 d).1, xq_ch_lost (by rw [xm_up0]; decide)] at this
    exact this
  generalize hmv : xm_cn (xm_df P.2.1 P2.2.1) 60 0 0 + xm_cn (xm_df P.2.2.1 P2.2.2.1) 36 0 0 = mv at *
  generalize hm1 : xm_cn (xm_df P.2.1 P2.2.1) 60 0 0 = m1 at *
  have k44 : f_L_loses_l44 (nI n) le ki wo kt ma ga ne od (nI d) (ke, kv, kp) (mv, upd lo d 1, P2, P) 300 (0 : Int32) (1 : Int32) (0 : Int32) = some (1, m1) := k44
  have k146 : f_L_loses_l146 (nI n) le ki wo kt ma ga ne od (nI d) (ke, kv, kp) (mv, upd lo d 1, P2, P) 300 (0 : Int32) (1 : Int32) m1 = some (1, mv) := k146
  clear hP h3 hke hkv hld hrd hsum
  obtain ⟨p0, p1, p2, p3, p4, p5, p6, p7, p8⟩ := P
  obtain ⟨q0, q1, q2, q3, q4, q5, q6, q7, q8⟩ := Q
  rw [f_L_loses_e, ea, Option.bind_some, hlose, Option.bind_some, k44, Option.bind_some]
  show Option.bind (f_L_loses_l146 (nI n) le ki wo kt ma ga ne od (nI d) (ke, kv, kp) (mv, upd lo d 1, P2, (p0, p1, p2, p3, p4, p5, p6, p7, p8)) 300 (0 : Int32) (1 : Int32) m1) _ = _
  rw [k146, Option.bind_some, xq_r50 (by omega), xq_d50 (by omega), xm_g (k := d / 50) (by omega) (by omega), nI_clamp (by omega : d / 50 < 2 ^ 31)]
  show (if (1 : Int32) = 0 then _ else if mv = mv then Option.bind (f_X2_on (upd lo d 1) (nI n, le, ki, wo, kt, ma, ga, ne, od) P2 (p0, p1, p2, p3, p4, p5, p6, p7, p8) (nI d)) _ else _) = _
  rw [xm_i1, if_pos rfl, xq_on hd, hon, Option.bind_some, if_pos rfl]
