theorem xm_s5 {L : Nat} (h : L < 2 ^ 20) : (nI L - (5 : Int32)).toInt = (L : Int) - 5 := by
  rw [Int32.toInt_sub, nI_toInt (by omega), show (5 : Int32).toInt = 5 from rfl, Int.bmod_eq_of_le (by omega) (by omega)]
theorem xm_chk {L i : Nat} (h : L < 2 ^ 20) (hi : i < 2 ^ 20) : (nI L - (5 : Int32) < nI i) ↔ L < i + 5 := by
  rw [Int32.lt_iff_toInt_lt, xm_s5 h, nI_toInt (by omega)]
  omega
set_option maxHeartbeats 4000000 in
set_option maxRecDepth 100000 in
theorem xm_law {L9 : Nat} (hL : L9 ≤ 2560) (xs : xF) : ∀ (fuel : Nat) {i n : Nat} {le ki wo kt ma ga ne od lo : xF} {pp qq : xPL} {om th ld rd ll rl bf : xF} {la tw : Int32} {ou : Nat → Int64}, i ≤ L9 → L9 + 5 ≤ i + 5 * fuel → xm_ok n le ki wo kt ma ga ne od lo pp →
    f_law L9 xs fuel (nI i) lo (nI n, le, ki, wo, kt, ma, ga, ne, od) pp qq ou (nI n, le, ki, wo, kt, ne, ma, ga, lo, om, th, ld, rd, ll, rl, bf, la, tw) = some () := by
  intro fuel
  induction fuel with
  | zero => intro i n le ki wo kt ma ga ne od lo pp qq om th ld rd ll rl bf la tw ou h1 h2 h3; omega
  | succ fuel ih =>
    intro i n le ki wo kt ma ga ne od lo pp qq om th ld rd ll rl bf la tw ou h1 h2 h
    have hs := fun (pp_0 pp_1 pp_2 pp_3 pp_4 pp_5 : xF) (pp_6 pp_7 pp_8 : Int32) (qq_0 qq_1 qq_2 qq_3 qq_4 qq_5 : xF) (qq_6 qq_7 qq_8 : Int32) => f_law_s L9 xs fuel (nI i) lo (nI n) le ki wo kt ma ga ne od pp_0 pp_1 pp_2 pp_3 pp_4 pp_5 pp_6 pp_7 pp_8 qq_0 qq_1 qq_2 qq_3 qq_4 qq_5 qq_6 qq_7 qq_8 ou (nI n) le ki wo kt ne ma ga lo om th ld rd ll rl bf la tw
    obtain ⟨pp_0, pp_1, pp_2, pp_3, pp_4, pp_5, pp_6, pp_7, pp_8⟩ := pp
    obtain ⟨qq_0, qq_1, qq_2, qq_3, qq_4, qq_5, qq_6, qq_7, qq_8⟩ := qq
    rw [hs]
    by_cases hc : L9 < i + 5
    · rw [if_pos ((xm_chk (by omega) (by omega)).mpr hc)]
    rw [if_neg (fun q => hc ((xm_chk (by omega) (by omega)).mp q)), xm_g (k := i) (by omega) (by omega), nI_clamp (by omega : i < 2 ^ 31)]
    have e1 : nI i + (1 : Int32) = nI (i + 1) := nI_add i 1
    have e2 : nI i + (2 : Int32) = nI (i + 2) := nI_add i 2
    have e3 : nI i + (3 : Int32) = nI (i + 3) := nI_add i 3
    have e4 : nI i + (4 : Int32) = nI (i + 4) := nI_add i 4
    have e5 : nI i + (5 : Int32) = nI (i + 5) := nI_add i 5
    generalize xs i &&& 31 = op
    by_cases o0 : op = 0
    · rw [if_pos o0, f_op_0_e, e1, e2, e3, e4, e5, xm_g (k := i + 1) (by omega) (by omega), xm_g (k := i + 2) (by omega) (by omega), xm_g (k := i + 3) (by omega) (by omega), xm_g (k := i + 4) (by omega) (by omega)]
      obtain ⟨k, n2, le2, ki2, wo2, kt2, ga2, od2, P, Q, ou2, r, q1, q2, q3, q4⟩ := xo_aim h (qq_0, qq_1, qq_2, qq_3, qq_4, qq_5, qq_6, qq_7, qq_8) ou (xs (nI (i + 1)).toNatClampNeg) (xs (nI (i + 2)).toNatClampNeg) (xs (nI (i + 3)).toNatClampNeg) (xs (nI (i + 4)).toNatClampNeg) om th ld rd ll rl bf la tw
      simp only [q1, q2, Option.bind_some, f_X3_thrown_e, eq_self, if_true]
      by_cases hk : k = 0
      · rw [if_pos hk, if_pos (q3 hk)]; exact ih (by omega) (by omega) q4
      · rw [if_neg hk]; exact ih (by omega) (by omega) q4
    rw [if_neg o0]
    by_cases o1 : op = 1
    · rw [if_pos o1, f_op_1_e, e1, e2, e5, xm_g (k := i + 1) (by omega) (by omega), xm_g (k := i + 2) (by omega) (by omega)]
      obtain ⟨k, ne2, od2, P, Q, ou2, r, q1, q2, q3, q4⟩ := xo_need h (qq_0, qq_1, qq_2, qq_3, qq_4, qq_5, qq_6, qq_7, qq_8) ou (xs (nI (i + 1)).toNatClampNeg) (xs (nI (i + 2)).toNatClampNeg) om th ld rd ll rl bf la tw
      simp only [q1, q2, Option.bind_some, f_X3_thrown_e, eq_self, if_true]
      by_cases hk : k = 0
      · rw [if_pos hk, if_pos (q3 hk)]; exact ih (by omega) (by omega) q4
      · rw [if_neg hk]; exact ih (by omega) (by omega) q4
    rw [if_neg o1]
    by_cases o2 : op = 2
    · rw [if_pos o2, f_op_2_e, e1, e2, e5, xm_g (k := i + 1) (by omega) (by omega), xm_g (k := i + 2) (by omega) (by omega)]
      obtain ⟨k, ne2, od2, P, Q, ou2, r, q1, q2, q3, q4⟩ := xo_free h (qq_0, qq_1, qq_2, qq_3, qq_4, qq_5, qq_6, qq_7, qq_8) ou (xs (nI (i + 1)).toNatClampNeg) (xs (nI (i + 2)).toNatClampNeg) om th ld rd ll rl bf la tw
      simp only [q1, q2, Option.bind_some, f_X3_thrown_e, eq_self, if_true]
      by_cases hk : k = 0
      · rw [if_pos hk, if_pos (q3 hk)]; exact ih (by omega) (by omega) q4
      · rw [if_neg hk]; exact ih (by omega) (by omega) q4
    rw [if_neg o2]
    by_cases o3 : op = 3
    · rw [if_pos o3, f_op_3_e, e1, e2, e3, e5, xm_g (k := i + 1) (by omega) (by omega), xm_g (k := i + 2) (by omega) (by omega), xm_g (k := i + 3) (by omega) (by omega)]
      obtain ⟨k, ma2, ga2, P, Q, ou2, r, q1, q2, q3, q4⟩ := xo_revisits h (qq_0, qq_1, qq_2, qq_3, qq_4, qq_5, qq_6, qq_7, qq_8) ou (xs (nI (i + 1)).toNatClampNeg) (xs (nI (i + 2)).toNatClampNeg) (xs (nI (i + 3)).toNatClampNeg) om th ld rd ll rl bf la tw
      simp only [q1, q2, Option.bind_some, f_X3_thrown_e, eq_self, if_true]
      by_cases hk : k = 0
      · rw [if_pos hk, if_pos (q3 hk)]; exact ih (by omega) (by omega) q4
      · rw [if_neg hk]; exact ih (by omega) (by omega) q4
    rw [if_neg o3]
    by_cases o4 : op = 4
    · rw [if_pos o4, f_op_4_e, e5]
      obtain ⟨q1, q2⟩ := xo_aims (lo := lo) (pp := (pp_0, pp_1, pp_2, pp_3, pp_4, pp_5, pp_6, pp_7, pp_8)) (nI n, le, ki, wo, kt, ma, ga, ne, od) (qq_0, qq_1, qq_2, qq_3, qq_4, qq_5, qq_6, qq_7, qq_8) (nI n) le ki wo kt ne ma ga lo om th ld rd ll rl bf la tw rfl
      simp only [q1, q2, Option.bind_some, eq_self, if_true]
      exact ih (by omega) (by omega) h
    rw [if_neg o4]
    by_cases o5 : op = 5
    · rw [if_pos o5, f_op_5_e, e1, e5, xm_g (k := i + 1) (by omega) (by omega)]
      obtain ⟨k, ou2, r, q1, q2, q3⟩ := xo_allNeeds h (qq_0, qq_1, qq_2, qq_3, qq_4, qq_5, qq_6, qq_7, qq_8) ou (xs (nI (i + 1)).toNatClampNeg) om th ld rd ll rl bf la tw
      simp only [q1, q2, Option.bind_some, f_X3_thrown_e, eq_self, if_true]
      by_cases hk : k = 0
      · rw [if_pos hk, if_pos (q3 hk)]; exact ih (by omega) (by omega) h
      · rw [if_neg hk]; exact ih (by omega) (by omega) h
    rw [if_neg o5]
    by_cases o6 : op = 6
    · rw [if_pos o6, f_op_6_e, e1, e5, xm_g (k := i + 1) (by omega) (by omega)]
      obtain ⟨k, ou2, r, om2, q1, q2, q3⟩ := xo_ordered h (qq_0, qq_1, qq_2, qq_3, qq_4, qq_5, qq_6, qq_7, qq_8) ou (xs (nI (i + 1)).toNatClampNeg) om th ld rd ll rl bf la tw
      simp only [q1, q2, Option.bind_some, f_X3_thrown_e, eq_self, if_true]
      by_cases hk : k = 0
      · rw [if_pos hk, if_pos (q3 hk)]; exact ih (by omega) (by omega) h
      · rw [if_neg hk]; exact ih (by omega) (by omega) h
    rw [if_neg o6]
    by_cases o7 : op = 7
    · rw [if_pos o7, f_op_7_e, e1, e5, xm_g (k := i + 1) (by omega) (by omega)]
      obtain ⟨k, lo2, P, Q, ou2, r, om2, th2, ld2, rd2, ll2, rl2, bf2, la2, q1, q2, q3, q4⟩ := xo_lose h (qq_0, qq_1, qq_2, qq_3, qq_4, qq_5, qq_6, qq_7, qq_8) ou (xs (nI (i + 1)).toNatClampNeg) om th ld rd ll rl bf la tw
      simp only [q1, q2, Option.bind_some, f_X3_thrown_e, eq_self, if_true]
      by_cases hk : k = 0
      · rw [if_pos hk, if_pos (q3 hk)]; exact ih (by omega) (by omega) q4
      · rw [if_neg hk]; exact ih (by omega) (by omega) q4
    rw [if_neg o7]
    by_cases o8 : op = 8
    · rw [if_pos o8, f_op_8_e, e1, e5, xm_g (k := i + 1) (by omega) (by omega)]
      obtain ⟨k, ou2, r, om2, th2, ld2, rd2, ll2, rl2, la2, q1, q2, q3⟩ := xo_on h (qq_0, qq_1, qq_2, qq_3, qq_4, qq_5, qq_6, qq_7, qq_8) ou (xs (nI (i + 1)).toNatClampNeg) om th ld rd ll rl bf la tw
      simp only [q1, q2, Option.bind_some, f_X3_thrown_e, eq_self, if_true]
      by_cases hk : k = 0
      · rw [if_pos hk, if_pos (q3 hk)]; exact ih (by omega) (by omega) h
      · rw [if_neg hk]; exact ih (by omega) (by omega) h
    rw [if_neg o8]
    by_cases o9 : op = 9
    · rw [if_pos o9, f_op_9_e, e1, e2, e5, xm_g (k := i + 1) (by omega) (by omega), xm_g (k := i + 2) (by omega) (by omega)]
      obtain ⟨k, ou2, r, om2, th2, ld2, rd2, ll2, rl2, la2, q1, q2, q3⟩ := xo_lessonDay h (qq_0, qq_1, qq_2, qq_3, qq_4, qq_5, qq_6, qq_7, qq_8) ou (xs (nI (i + 1)).toNatClampNeg) (xs (nI (i + 2)).toNatClampNeg) om th ld rd ll rl bf la tw
      simp only [q1, q2, Option.bind_some, f_X3_thrown_e, eq_self, if_true]
      by_cases hk : k = 0
      · rw [if_pos hk, if_pos (q3 hk)]; exact ih (by omega) (by omega) h
      · rw [if_neg hk]; exact ih (by omega) (by omega) h
    rw [if_neg o9]
    by_cases o10 : op = 10
    · rw [if_pos o10, f_op_10_e, e1, e2, e5, xm_g (k := i + 1) (by omega) (by omega), xm_g (k := i + 2) (by omega) (by omega)]
      obtain ⟨k, ou2, r, om2, th2, ld2, rd2, ll2, rl2, la2, q1, q2, q3⟩ := xo_revisitDay h (qq_0, qq_1, qq_2, qq_3, qq_4, qq_5, qq_6, qq_7, qq_8) ou (xs (nI (i + 1)).toNatClampNeg) (xs (nI (i + 2)).toNatClampNeg) om th ld rd ll rl bf la tw
      simp only [q1, q2, Option.bind_some, f_X3_thrown_e, eq_self, if_true]
      by_cases hk : k = 0
      · rw [if_pos hk, if_pos (q3 hk)]; exact ih (by omega) (by omega) h
      · rw [if_neg hk]; exact ih (by omega) (by omega) h
    rw [if_neg o10]
    by_cases o11 : op = 11
    · rw [if_pos o11, f_op_11_e, e5]
      obtain ⟨r, om2, th2, ld2, rd2, ll2, rl2, la2, q1, q2⟩ := xo_laid h (nI n, le, ki, wo, kt, ma, ga, ne, od) (qq_0, qq_1, qq_2, qq_3, qq_4, qq_5, qq_6, qq_7, qq_8) om th ld rd ll rl bf la tw
      simp only [q1, q2, Option.bind_some, eq_self, if_true]
      exact ih (by omega) (by omega) h
    rw [if_neg o11]
    by_cases o12 : op = 12
    · rw [if_pos o12, f_op_12_e, e5]
      obtain ⟨r, om2, th2, ld2, rd2, ll2, rl2, la2, q1, q2⟩ := xo_late h (nI n, le, ki, wo, kt, ma, ga, ne, od) (qq_0, qq_1, qq_2, qq_3, qq_4, qq_5, qq_6, qq_7, qq_8) om th ld rd ll rl bf la tw
      simp only [q1, q2, Option.bind_some, eq_self, if_true]
      exact ih (by omega) (by omega) h
    rw [if_neg o12]
    by_cases o13 : op = 13
    · rw [if_pos o13, f_op_13_e, e5]
      obtain ⟨r, om2, th2, ld2, rd2, ll2, rl2, la2, q1, q2⟩ := xo_lastDay h (nI n, le, ki, wo, kt, ma, ga, ne, od) (qq_0, qq_1, qq_2, qq_3, qq_4, qq_5, qq_6, qq_7, qq_8) om th ld rd ll rl bf la tw
      simp only [q1, q2, Option.bind_some, eq_self, if_true]
      exact ih (by omega) (by omega) h
    rw [if_neg o13]
    by_cases o14 : op = 14
    · rw [if_pos o14, f_op_14_e, e1, e5, xm_g (k := i + 1) (by omega) (by omega)]
      obtain ⟨k, ou2, r, q1, q2, q3⟩ := xo_worthwhile h (qq_0, qq_1, qq_2, qq_3, qq_4, qq_5, qq_6, qq_7, qq_8) ou (xs (nI (i + 1)).toNatClampNeg) om th ld rd ll rl bf la tw
      simp only [q1, q2, Option.bind_some, f_X3_thrown_e, eq_self, if_true]
      by_cases hk : k = 0
      · rw [if_pos hk, if_pos (q3 hk)]; exact ih (by omega) (by omega) h
      · rw [if_neg hk]; exact ih (by omega) (by omega) h
    rw [if_neg o14]
    by_cases o15 : op = 15
    · rw [if_pos o15, f_op_15_e, e1, e5, xm_g (k := i + 1) (by omega) (by omega)]
      obtain ⟨k, ou2, r, q1, q2, q3⟩ := xo_bestNet h (qq_0, qq_1, qq_2, qq_3, qq_4, qq_5, qq_6, qq_7, qq_8) ou (xs (nI (i + 1)).toNatClampNeg) om th ld rd ll rl bf la tw
      simp only [q1, q2, Option.bind_some, f_X3_thrown_e, eq_self, if_true]
      by_cases hk : k = 0
      · rw [if_pos hk, if_pos (q3 hk)]; exact ih (by omega) (by omega) h
      · rw [if_neg hk]; exact ih (by omega) (by omega) h
    rw [if_neg o15]
    by_cases o16 : op = 16
    · rw [if_pos o16, f_op_16_e, e5]
      obtain ⟨r, q1, q2⟩ := xo_closedSets h (qq_0, qq_1, qq_2, qq_3, qq_4, qq_5, qq_6, qq_7, qq_8) om th ld rd ll rl bf la tw
      simp only [q1, q2, Option.bind_some, eq_self, if_true]
      exact ih (by omega) (by omega) h
    rw [if_neg o16, e5]
    exact ih (by omega) (by omega) h
