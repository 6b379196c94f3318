theorem xf_p_12_8_012345679ab (g0 g1 g2 g3 g4 g5 g6 g7 g8 g9 g10 g11 : va_W) : List.Perm (g0 ++ (g1 ++ (g2 ++ (g3 ++ (g4 ++ (g5 ++ (g6 ++ (g7 ++ (g8 ++ (g9 ++ (g10 ++ (g11)))))))))))) ((g8) ++ (g0 ++ (g1 ++ (g2 ++ (g3 ++ (g4 ++ (g5 ++ (g6 ++ (g7 ++ (g9 ++ (g10 ++ (g11)))))))))))) := by
  have h1 : List.Perm (g0 ++ (g1 ++ (g2 ++ (g3 ++ (g4 ++ (g5 ++ (g6 ++ (g7 ++ (g8 ++ (g9 ++ (g10 ++ (g11)))))))))))) (g8 ++ (g0 ++ (g1 ++ (g2 ++ (g3 ++ (g4 ++ (g5 ++ (g6 ++ (g7 ++ (g9 ++ (g10 ++ (g11)))))))))))) := (((xf_c _ ((xf_c _ ((xf_c _ ((xf_c _ ((xf_c _ ((xf_c _ ((xf_c _ ((xf_c _ (List.Perm.refl _)).trans (xf_s2 _ _ _))).trans (xf_s2 _ _ _))).trans (xf_s2 _ _ _))).trans (xf_s2 _ _ _))).trans (xf_s2 _ _ _))).trans (xf_s2 _ _ _))).trans (xf_s2 _ _ _))).trans (xf_s2 _ _ _)).trans (xf_c _ (List.Perm.refl _)))
  exact h1.trans (show List.Perm (g8 ++ (g0 ++ (g1 ++ (g2 ++ (g3 ++ (g4 ++ (g5 ++ (g6 ++ (g7 ++ (g9 ++ (g10 ++ (g11)))))))))))) ((g8) ++ (g0 ++ (g1 ++ (g2 ++ (g3 ++ (g4 ++ (g5 ++ (g6 ++ (g7 ++ (g9 ++ (g10 ++ (g11)))))))))))) from (List.Perm.refl _))
theorem xf_p_12_012345678b_9a (g0 g1 g2 g3 g4 g5 g6 g7 g8 g9 g10 g11 : va_W) : List.Perm (g0 ++ (g1 ++ (g2 ++ (g3 ++ (g4 ++ (g5 ++ (g6 ++ (g7 ++ (g8 ++ (g9 ++ (g10 ++ (g11)))))))))))) ((g0 ++ (g1 ++ (g2 ++ (g3 ++ (g4 ++ (g5 ++ (g6 ++ (g7 ++ (g8 ++ (g11)))))))))) ++ (g9 ++ (g10))) := by
  have h1 : List.Perm (g0 ++ (g1 ++ (g2 ++ (g3 ++ (g4 ++ (g5 ++ (g6 ++ (g7 ++ (g8 ++ (g9 ++ (g10 ++ (g11)))))))))))) (g0 ++ (g1 ++ (g2 ++ (g3 ++ (g4 ++ (g5 ++ (g6 ++ (g7 ++ (g8 ++ (g11 ++ (g9 ++ (g10)))))))))))) := ((List.Perm.refl _).trans (xf_c _ ((List.Perm.refl _).trans (xf_c _ ((List.Perm.refl _).trans (xf_c _ ((List.Perm.refl _).trans (xf_c _ ((List.Perm.refl _).trans (xf_c _ ((List.Perm.refl _).trans (xf_c _ ((List.Perm.refl _).trans (xf_c _ ((List.Perm.refl _).trans (xf_c _ ((List.Perm.refl _).trans (xf_c _ (((xf_c _ (xf_s1 _ _)).trans (xf_s2 _ _ _)).trans (xf_c _ (List.Perm.refl _)))))))))))))))))))))
  exact h1.trans (show List.Perm (g0 ++ (g1 ++ (g2 ++ (g3 ++ (g4 ++ (g5 ++ (g6 ++ (g7 ++ (g8 ++ (g11 ++ (g9 ++ (g10)))))))))))) ((g0 ++ (g1 ++ (g2 ++ (g3 ++ (g4 ++ (g5 ++ (g6 ++ (g7 ++ (g8 ++ (g11)))))))))) ++ (g9 ++ (g10))) from ((xf_c _ ((xf_c _ ((xf_c _ ((xf_c _ ((xf_c _ ((xf_c _ ((xf_c _ ((xf_c _ ((xf_c _ (List.Perm.refl _)).trans (List.Perm.of_eq (List.append_assoc _ _ _).symm))).trans (List.Perm.of_eq (List.append_assoc _ _ _).symm))).trans (List.Perm.of_eq (List.append_assoc _ _ _).symm))).trans (List.Perm.of_eq (List.append_assoc _ _ _).symm))).trans (List.Perm.of_eq (List.append_assoc _ _ _).symm))).trans (List.Perm.of_eq (List.append_assoc _ _ _).symm))).trans (List.Perm.of_eq (List.append_assoc _ _ _).symm))).trans (List.Perm.of_eq (List.append_assoc _ _ _).symm))).trans (List.Perm.of_eq (List.append_assoc _ _ _).symm)))
theorem xf_p_12_56789ab_01234 (g0 g1 g2 g3 g4 g5 g6 g7 g8 g9 g10 g11 : va_W) : List.Perm (g0 ++ (g1 ++ (g2 ++ (g3 ++ (g4 ++ (g5 ++ (g6 ++ (g7 ++ (g8 ++ (g9 ++ (g10 ++ (g11)))))))))))) ((g5 ++ (g6 ++ (g7 ++ (g8 ++ (g9 ++ (g10 ++ (g11))))))) ++ (g0 ++ (g1 ++ (g2 ++ (g3 ++ (g4)))))) := by
  have h1 : List.Perm (g0 ++ (g1 ++ (g2 ++ (g3 ++ (g4 ++ (g5 ++ (g6 ++ (g7 ++ (g8 ++ (g9 ++ (g10 ++ (g11)))))))))))) (g5 ++ (g6 ++ (g7 ++ (g8 ++ (g9 ++ (g10 ++ (g11 ++ (g0 ++ (g1 ++ (g2 ++ (g3 ++ (g4)))))))))))) := (((xf_c _ ((xf_c _ ((xf_c _ ((xf_c _ ((xf_c _ (List.Perm.refl _)).trans (xf_s2 _ _ _))).trans (xf_s2 _ _ _))).trans (xf_s2 _ _ _))).trans (xf_s2 _ _ _))).trans (xf_s2 _ _ _)).trans (xf_c _ (((xf_c _ ((xf_c _ ((xf_c _ ((xf_c _ ((xf_c _ (List.Perm.refl _)).trans (xf_s2 _ _ _))).trans (xf_s2 _ _ _))).trans (xf_s2 _ _ _))).trans (xf_s2 _ _ _))).trans (xf_s2 _ _ _)).trans (xf_c _ (((xf_c _ ((xf_c _ ((xf_c _ ((xf_c _ ((xf_c _ (List.Perm.refl _)).trans (xf_s2 _ _ _))).trans (xf_s2 _ _ _))).trans (xf_s2 _ _ _))).trans (xf_s2 _ _ _))).trans (xf_s2 _ _ _)).trans (xf_c _ (((xf_c _ ((xf_c _ ((xf_c _ ((xf_c _ ((xf_c _ (List.Perm.refl _)).trans (xf_s2 _ _ _))).trans (xf_s2 _ _ _))).trans (xf_s2 _ _ _))).trans (xf_s2 _ _ _))).trans (xf_s2 _ _ _)).trans (xf_c _ (((xf_c _ ((xf_c _ ((xf_c _ ((xf_c _ ((xf_c _ (List.Perm.refl _)).trans (xf_s2 _ _ _))).trans (xf_s2 _ _ _))).trans (xf_s2 _ _ _))).trans (xf_s2 _ _ _))).trans (xf_s2 _ _ _)).trans (xf_c _ (((xf_c _ ((xf_c _ ((xf_c _ ((xf_c _ ((xf_c _ (List.Perm.refl _)).trans (xf_s2 _ _ _))).trans (xf_s2 _ _ _))).trans (xf_s2 _ _ _))).trans (xf_s2 _ _ _))).trans (xf_s2 _ _ _)).trans (xf_c _ (((xf_c _ ((xf_c _ ((xf_c _ ((xf_c _ (xf_s1 _ _)).trans (xf_s2 _ _ _))).trans (xf_s2 _ _ _))).trans (xf_s2 _ _ _))).trans (xf_s2 _ _ _)).trans (xf_c _ (List.Perm.refl _)))))))))))))))
  exact h1.trans (show List.Perm (g5 ++ (g6 ++ (g7 ++ (g8 ++ (g9 ++ (g10 ++ (g11 ++ (g0 ++ (g1 ++ (g2 ++ (g3 ++ (g4)))))))))))) ((g5 ++ (g6 ++ (g7 ++ (g8 ++ (g9 ++ (g10 ++ (g11))))))) ++ (g0 ++ (g1 ++ (g2 ++ (g3 ++ (g4)))))) from ((xf_c _ ((xf_c _ ((xf_c _ ((xf_c _ ((xf_c _ ((xf_c _ (List.Perm.refl _)).trans (List.Perm.of_eq (List.append_assoc _ _ _).symm))).trans (List.Perm.of_eq (List.append_assoc _ _ _).symm))).trans (List.Perm.of_eq (List.append_assoc _ _ _).symm))).trans (List.Perm.of_eq (List.append_assoc _ _ _).symm))).trans (List.Perm.of_eq (List.append_assoc _ _ _).symm))).trans (List.Perm.of_eq (List.append_assoc _ _ _).symm)))
theorem xf_p_12_012345678_9ab (g0 g1 g2 g3 g4 g5 g6 g7 g8 g9 g10 g11 : va_W) : List.Perm (g0 ++ (g1 ++ (g2 ++ (g3 ++ (g4 ++ (g5 ++ (g6 ++ (g7 ++ (g8 ++ (g9 ++ (g10 ++ (g11)))))))))))) ((g0 ++ (g1 ++ (g2 ++ (g3 ++ (g4 ++ (g5 ++ (g6 ++ (g7 ++ (g8))))))))) ++ (g9 ++ (g10 ++ (g11)))) := by
  have h1 : List.Perm (g0 ++ (g1 ++ (g2 ++ (g3 ++ (g4 ++ (g5 ++ (g6 ++ (g7 ++ (g8 ++ (g9 ++ (g10 ++ (g11)))))))))))) (g0 ++ (g1 ++ (g2 ++ (g3 ++ (g4 ++ (g5 ++ (g6 ++ (g7 ++ (g8 ++ (g9 ++ (g10 ++ (g11)))))))))))) := (List.Perm.refl _)
  exact h1.trans (show List.Perm (g0 ++ (g1 ++ (g2 ++ (g3 ++ (g4 ++ (g5 ++ (g6 ++ (g7 ++ (g8 ++ (g9 ++ (g10 ++ (g11)))))))))))) ((g0 ++ (g1 ++ (g2 ++ (g3 ++ (g4 ++ (g5 ++ (g6 ++ (g7 ++ (g8))))))))) ++ (g9 ++ (g10 ++ (g11)))) from ((xf_c _ ((xf_c _ ((xf_c _ ((xf_c _ ((xf_c _ ((xf_c _ ((xf_c _ ((xf_c _ (List.Perm.refl _)).trans (List.Perm.of_eq (List.append_assoc _ _ _).symm))).trans (List.Perm.of_eq (List.append_assoc _ _ _).symm))).trans (List.Perm.of_eq (List.append_assoc _ _ _).symm))).trans (List.Perm.of_eq (List.append_assoc _ _ _).symm))).trans (List.Perm.of_eq (List.append_assoc _ _ _).symm))).trans (List.Perm.of_eq (List.append_assoc _ _ _).symm))).trans (List.Perm.of_eq (List.append_assoc _ _ _).symm))).trans (List.Perm.of_eq (List.append_assoc _ _ _).symm)))
theorem xf_p_12_012345679ab_8 (g0 g1 g2 g3 g4 g5 g6 g7 g8 g9 g10 g11 : va_W) : List.Perm (g0 ++ (g1 ++ (g2 ++ (g3 ++ (g4 ++ (g5 ++ (g6 ++ (g7 ++ (g8 ++ (g9 ++ (g10 ++ (g11)))))))))))) ((g0 ++ (g1 ++ (g2 ++ (g3 ++ (g4 ++ (g5 ++ (g6 ++ (g7 ++ (g9 ++ (g10 ++ (g11))))))))))) ++ (g8)) := by
  have h1 : List.Perm (g0 ++ (g1 ++ (g2 ++ (g3 ++ (g4 ++ (g5 ++ (g6 ++ (g7 ++ (g8 ++ (g9 ++ (g10 ++ (g11)))))))))))) (g0 ++ (g1 ++ (g2 ++ (g3 ++ (g4 ++ (g5 ++ (g6 ++ (g7 ++ (g9 ++ (g10 ++ (g11 ++ (g8)))))))))))) := ((List.Perm.refl _).trans (xf_c _ ((List.Perm.refl _).trans (xf_c _ ((List.Perm.refl _).trans (xf_c _ ((List.Perm.refl _).trans (xf_c _ ((List.Perm.refl _).trans (xf_c _ ((List.Perm.refl _).trans (xf_c _ ((List.Perm.refl _).trans (xf_c _ ((List.Perm.refl _).trans (xf_c _ (((xf_c _ (List.Perm.refl _)).trans (xf_s2 _ _ _)).trans (xf_c _ (((xf_c _ (List.Perm.refl _)).trans (xf_s2 _ _ _)).trans (xf_c _ ((xf_s1 _ _).trans (xf_c _ (List.Perm.refl _)))))))))))))))))))))))
  exact h1.trans (show List.Perm (g0 ++ (g1 ++ (g2 ++ (g3 ++ (g4 ++ (g5 ++ (g6 ++ (g7 ++ (g9 ++ (g10 ++ (g11 ++ (g8)))))))))))) ((g0 ++ (g1 ++ (g2 ++ (g3 ++ (g4 ++ (g5 ++ (g6 ++ (g7 ++ (g9 ++ (g10 ++ (g11))))))))))) ++ (g8)) from ((xf_c _ ((xf_c _ ((xf_c _ ((xf_c _ ((xf_c _ ((xf_c _ ((xf_c _ ((xf_c _ ((xf_c _ ((xf_c _ (List.Perm.refl _)).trans (List.Perm.of_eq (List.append_assoc _ _ _).symm))).trans (List.Perm.of_eq (List.append_assoc _ _ _).symm))).trans (List.Perm.of_eq (List.append_assoc _ _ _).symm))).trans (List.Perm.of_eq (List.append_assoc _ _ _).symm))).trans (List.Perm.of_eq (List.append_assoc _ _ _).symm))).trans (List.Perm.of_eq (List.append_assoc _ _ _).symm))).trans (List.Perm.of_eq (List.append_assoc _ _ _).symm))).trans (List.Perm.of_eq (List.append_assoc _ _ _).symm))).trans (List.Perm.of_eq (List.append_assoc _ _ _).symm))).trans (List.Perm.of_eq (List.append_assoc _ _ _).symm)))
theorem xf_p_12_012348_5679ab (g0 g1 g2 g3 g4 g5 g6 g7 g8 g9 g10 g11 : va_W) : List.Perm (g0 ++ (g1 ++ (g2 ++ (g3 ++ (g4 ++ (g5 ++ (g6 ++ (g7 ++ (g8 ++ (g9 ++ (g10 ++ (g11)))))))))))) ((g0 ++ (g1 ++ (g2 ++ (g3 ++ (g4 ++ (g8)))))) ++ (g5 ++ (g6 ++ (g7 ++ (g9 ++ (g10 ++ (g11))))))) := by
  have h1 : List.Perm (g0 ++ (g1 ++ (g2 ++ (g3 ++ (g4 ++ (g5 ++ (g6 ++ (g7 ++ (g8 ++ (g9 ++ (g10 ++ (g11)))))))))))) (g0 ++ (g1 ++ (g2 ++ (g3 ++ (g4 ++ (g8 ++ (g5 ++ (g6 ++ (g7 ++ (g9 ++ (g10 ++ (g11)))))))))))) := ((List.Perm.refl _).trans (xf_c _ ((List.Perm.refl _).trans (xf_c _ ((List.Perm.refl _).trans (xf_c _ ((List.Perm.refl _).trans (xf_c _ ((List.Perm.refl _).trans (xf_c _ (((xf_c _ ((xf_c _ ((xf_c _ (List.Perm.refl _)).trans (xf_s2 _ _ _))).trans (xf_s2 _ _ _))).trans (xf_s2 _ _ _)).trans (xf_c _ (List.Perm.refl _)))))))))))))
  exact h1.trans (show List.Perm (g0 ++ (g1 ++ (g2 ++ (g3 ++ (g4 ++ (g8 ++ (g5 ++ (g6 ++ (g7 ++ (g9 ++ (g10 ++ (g11)))))))))))) ((g0 ++ (g1 ++ (g2 ++ (g3 ++ (g4 ++ (g8)))))) ++ (g5 ++ (g6 ++ (g7 ++ (g9 ++ (g10 ++ (g11))))))) from ((xf_c _ ((xf_c _ ((xf_c _ ((xf_c _ ((xf_c _ (List.Perm.refl _)).trans (List.Perm.of_eq (List.append_assoc _ _ _).symm))).trans (List.Perm.of_eq (List.append_assoc _ _ _).symm))).trans (List.Perm.of_eq (List.append_assoc _ _ _).symm))).trans (List.Perm.of_eq (List.append_assoc _ _ _).symm))).trans (List.Perm.of_eq (List.append_assoc _ _ _).symm)))
def f_L_isPlan_l43 (lo : xF) (yy_0 : Int32) (yy_1 : xF) (yy_2 : xF) (yy_3 : xF) (yy_4 : xF) (yy_5 : xF) (yy_6 : xF) (yy_7 : xF) (yy_8 : xF) (pp_0 : xF) (pp_1 : xF) (pp_2 : xF) (pp_3 : xF) (pp_4 : xF) (pp_5 : xF) (pp_6 : Int32) (pp_7 : Int32) (pp_8 : Int32) (qq_0 : xF) (qq_1 : xF) (qq_2 : xF) (qq_3 : xF) (qq_4 : xF) (qq_5 : xF) (qq_6 : Int32) (qq_7 : Int32) (qq_8 : Int32) (ka : xF) (kr : xF) (kc : xF) (kl : (Nat → Int64)) (o4 : xF × xF × xF) : Nat → Int32 → Int32 → Int32 → Option (Option (Int32 × Int32))
  | 0, _, _, _ => none
  | k9 + 1, x11_5, x10_5, x8_5 =>
    if (100 : Int32) ≤ x11_5 then
      some (some (x10_5, x8_5))
    else
      Option.bind (f_L_thing o4.1 o4.2.1 x11_5) fun (o8 : Int32) =>
      Option.bind (
        if 0 ≤ o8 then
          some (1 : Int32)
        else
          some (0 : Int32)) fun (v9 : Int32) =>
      Option.bind (
        if 0 ≤ o8 then
          some x11_5
        else
          some x10_5) fun (v10 : Int32) =>
      Option.bind (f_X2_on lo (yy_0, yy_1, yy_2, yy_3, yy_4, yy_5, yy_6, yy_7, yy_8) (pp_0, pp_1, pp_2, pp_3, pp_4, pp_5, pp_6, pp_7, pp_8) (qq_0, qq_1, qq_2, qq_3, qq_4, qq_5, qq_6, qq_7, qq_8) x11_5) fun (o11 : Int32) =>
      if o11 = o8 then
        if o8 < 0 then
          Option.bind (f_L_isLost kl x11_5) fun (o14 : Int32) =>
          if o14 = 0 then
            Option.bind (f_L_isBusy ka kr kc o4.1 o4.2.1 o4.2.2 x11_5 o8) fun (o16 : Int32) =>
            if o16 = 0 then
              some none
            else
              f_L_isPlan_l43 lo yy_0 yy_1 yy_2 yy_3 yy_4 yy_5 yy_6 yy_7 yy_8 pp_0 pp_1 pp_2 pp_3 pp_4 pp_5 pp_6 pp_7 pp_8 qq_0 qq_1 qq_2 qq_3 qq_4 qq_5 qq_6 qq_7 qq_8 ka kr kc kl o4 k9 (x11_5 + (1 : Int32)) v10 (x8_5 + v9)
          else
            f_L_isPlan_l43 lo yy_0 yy_1 yy_2 yy_3 yy_4 yy_5 yy_6 yy_7 yy_8 pp_0 pp_1 pp_2 pp_3 pp_4 pp_5 pp_6 pp_7 pp_8 qq_0 qq_1 qq_2 qq_3 qq_4 qq_5 qq_6 qq_7 qq_8 ka kr kc kl o4 k9 (x11_5 + (1 : Int32)) v10 (x8_5 + v9)
        else
          Option.bind (f_L_isLost kl x11_5) fun (o18 : Int32) =>
          if o18 = 0 then
            Option.bind (f_L_isLost kl x11_5) fun (o20 : Int32) =>
            if o20 = 0 then
              Option.bind (f_L_isBusy ka kr kc o4.1 o4.2.1 o4.2.2 x11_5 o8) fun (o22 : Int32) =>
              if o22 = 0 then
                some none
              else
                f_L_isPlan_l43 lo yy_0 yy_1 yy_2 yy_3 yy_4 yy_5 yy_6 yy_7 yy_8 pp_0 pp_1 pp_2 pp_3 pp_4 pp_5 pp_6 pp_7 pp_8 qq_0 qq_1 qq_2 qq_3 qq_4 qq_5 qq_6 qq_7 qq_8 ka kr kc kl o4 k9 (x11_5 + (1 : Int32)) v10 (x8_5 + v9)
            else
              f_L_isPlan_l43 lo yy_0 yy_1 yy_2 yy_3 yy_4 yy_5 yy_6 yy_7 yy_8 pp_0 pp_1 pp_2 pp_3 pp_4 pp_5 pp_6 pp_7 pp_8 qq_0 qq_1 qq_2 qq_3 qq_4 qq_5 qq_6 qq_7 qq_8 ka kr kc kl o4 k9 (x11_5 + (1 : Int32)) v10 (x8_5 + v9)
          else
            some none
      else
        some none
theorem f_L_isPlan_l43_z (lo : xF) (yy_0 : Int32) (yy_1 : xF) (yy_2 : xF) (yy_3 : xF) (yy_4 : xF) (yy_5 : xF) (yy_6 : xF) (yy_7 : xF) (yy_8 : xF) (pp_0 : xF) (pp_1 : xF) (pp_2 : xF) (pp_3 : xF) (pp_4 : xF) (pp_5 : xF) (pp_6 : Int32) (pp_7 : Int32) (pp_8 : Int32) (qq_0 : xF) (qq_1 : xF) (qq_2 : xF) (qq_3 : xF) (qq_4 : xF) (qq_5 : xF) (qq_6 : Int32) (qq_7 : Int32) (qq_8 : Int32) (ka : xF) (kr : xF) (kc : xF) (kl : (Nat → Int64)) (o4 : xF × xF × xF) (x11_5 : Int32) (x10_5 : Int32) (x8_5 : Int32) : f_L_isPlan_l43 lo yy_0 yy_1 yy_2 yy_3 yy_4 yy_5 yy_6 yy_7 yy_8 pp_0 pp_1 pp_2 pp_3 pp_4 pp_5 pp_6 pp_7 pp_8 qq_0 qq_1 qq_2 qq_3 qq_4 qq_5 qq_6 qq_7 qq_8 ka kr kc kl o4 0 x11_5 x10_5 x8_5 = none := rfl
theorem f_L_isPlan_l43_s (lo : xF) (yy_0 : Int32) (yy_1 : xF) (yy_2 : xF) (yy_3 : xF) (yy_4 : xF) (yy_5 : xF) (yy_6 : xF) (yy_7 : xF) (yy_8 : xF) (pp_0 : xF) (pp_1 : xF) (pp_2 : xF) (pp_3 : xF) (pp_4 : xF) (pp_5 : xF) (pp_6 : Int32) (pp_7 : Int32) (pp_8 : Int32) (qq_0 : xF) (qq_1 : xF) (qq_2 : xF) (qq_3 : xF) (qq_4 : xF) (qq_5 : xF) (qq_6 : Int32) (qq_7 : Int32) (qq_8 : Int32) (ka : xF) (kr : xF) (kc : xF) (kl : (Nat → Int64)) (o4 : xF × xF × xF) (k9 : Nat) (x11_5 : Int32) (x10_5 : Int32) (x8_5 : Int32) : f_L_isPlan_l43 lo yy_0 yy_1 yy_2 yy_3 yy_4 yy_5 yy_6 yy_7 yy_8 pp_0 pp_1 pp_2 pp_3 pp_4 pp_5 pp_6 pp_7 pp_8 qq_0 qq_1 qq_2 qq_3 qq_4 qq_5 qq_6 qq_7 qq_8 ka kr kc kl o4 (k9 + 1) x11_5 x10_5 x8_5 =
    if (100 : Int32) ≤ x11_5 then
      some (some (x10_5, x8_5))
    else
      Option.bind (f_L_thing o4.1 o4.2.1 x11_5) fun (o8 : Int32) =>
      Option.bind (
        if 0 ≤ o8 then
          some (1 : Int32)
        else
          some (0 : Int32)) fun (v9 : Int32) =>
      Option.bind (
        if 0 ≤ o8 then
          some x11_5
        else
          some x10_5) fun (v10 : Int32) =>
      Option.bind (f_X2_on lo (yy_0, yy_1, yy_2, yy_3, yy_4, yy_5, yy_6, yy_7, yy_8) (pp_0, pp_1, pp_2, pp_3, pp_4, pp_5, pp_6, pp_7, pp_8) (qq_0, qq_1, qq_2, qq_3, qq_4, qq_5, qq_6, qq_7, qq_8) x11_5) fun (o11 : Int32) =>
      if o11 = o8 then
        if o8 < 0 then
          Option.bind (f_L_isLost kl x11_5) fun (o14 : Int32) =>
          if o14 = 0 then
            Option.bind (f_L_isBusy ka kr kc o4.1 o4.2.1 o4.2.2 x11_5 o8) fun (o16 : Int32) =>
            if o16 = 0 then
              some none
            else
              f_L_isPlan_l43 lo yy_0 yy_1 yy_2 yy_3 yy_4 yy_5 yy_6 yy_7 yy_8 pp_0 pp_1 pp_2 pp_3 pp_4 pp_5 pp_6 pp_7 pp_8 qq_0 qq_1 qq_2 qq_3 qq_4 qq_5 qq_6 qq_7 qq_8 ka kr kc kl o4 k9 (x11_5 + (1 : Int32)) v10 (x8_5 + v9)
          else
            f_L_isPlan_l43 lo yy_0 yy_1 yy_2 yy_3 yy_4 yy_5 yy_6 yy_7 yy_8 pp_0 pp_1 pp_2 pp_3 pp_4 pp_5 pp_6 pp_7 pp_8 qq_0 qq_1 qq_2 qq_3 qq_4 qq_5 qq_6 qq_7 qq_8 ka kr kc kl o4 k9 (x11_5 + (1 : Int32)) v10 (x8_5 + v9)
        else
          Option.bind (f_L_isLost kl x11_5) fun (o18 : Int32) =>
          if o18 = 0 then
            Option.bind (f_L_isLost kl x11_5) fun (o20 : Int32) =>
            if o20 = 0 then
              Option.bind (f_L_isBusy ka kr kc o4.1 o4.2.1 o4.2.2 x11_5 o8) fun (o22 : Int32) =>
              if o22 = 0 then
                some none
              else
                f_L_isPlan_l43 lo yy_0 yy_1 yy_2 yy_3 yy_4 yy_5 yy_6 yy_7 yy_8 pp_0 pp_1 pp_2 pp_3 pp_4 pp_5 pp_6 pp_7 pp_8 qq_0 qq_1 qq_2 qq_3 qq_4 qq_5 qq_6 qq_7 qq_8 ka kr kc kl o4 k9 (x11_5 + (1 : Int32)) v10 (x8_5 + v9)
            else
              f_L_isPlan_l43 lo yy_0 yy_1 yy_2 yy_3 yy_4 yy_5 yy_6 yy_7 yy_8 pp_0 pp_1 pp_2 pp_3 pp_4 pp_5 pp_6 pp_7 pp_8 qq_0 qq_1 qq_2 qq_3 qq_4 qq_5 qq_6 qq_7 qq_8 ka kr kc kl o4 k9 (x11_5 + (1 : Int32)) v10 (x8_5 + v9)
          else
            some none
      else
        some none := rfl
def f_L_isPlan_l173 (ka : xF) (o4 : xF × xF × xF) (x13_27 : Int32) : Nat → Int32 → Int32 → Int32 → Option (Option (Int32 × Int32))
  | 0, _, _, _ => none
  | k9 + 1, x14_30, x12_30, x11_30 =>
    if x13_27 < 0 ∨ 12 ≤ x13_27.toNatClampNeg then none else
    if ((5 : Int32) * (o4.2.2 x13_27.toNatClampNeg)) < 0 ∨ 60 ≤ ((5 : Int32) * (o4.2.2 x13_27.toNatClampNeg)).toNatClampNeg then none else
    if (ka ((5 : Int32) * (o4.2.2 x13_27.toNatClampNeg)).toNatClampNeg) ≤ x14_30 then
      some (some (x12_30, x11_30))
    else
      if (((5 : Int32) * (o4.2.2 x13_27.toNatClampNeg)) + x14_30) < 0 ∨ 60 ≤ (((5 : Int32) * (o4.2.2 x13_27.toNatClampNeg)) + x14_30).toNatClampNeg then none else
      if (o4.1 (((5 : Int32) * (o4.2.2 x13_27.toNatClampNeg)) + x14_30).toNatClampNeg) < 0 then
        Option.bind (
          if x12_30 = 0 then
            if 0 ≤ (o4.1 (((5 : Int32) * (o4.2.2 x13_27.toNatClampNeg)) + x14_30).toNatClampNeg) then
              some (0 : Int32)
            else
              some (1 : Int32)
          else
            some (1 : Int32)) fun (v37 : Int32) =>
        if 0 ≤ (o4.1 (((5 : Int32) * (o4.2.2 x13_27.toNatClampNeg)) + x14_30).toNatClampNeg) then
          f_L_isPlan_l173 ka o4 x13_27 k9 (x14_30 + (1 : Int32)) v37 (o4.1 (((5 : Int32) * (o4.2.2 x13_27.toNatClampNeg)) + x14_30).toNatClampNeg)
        else
          f_L_isPlan_l173 ka o4 x13_27 k9 (x14_30 + (1 : Int32)) v37 x11_30
      else
        if x12_30 = 0 then
          if x11_30 < (o4.1 (((5 : Int32) * (o4.2.2 x13_27.toNatClampNeg)) + x14_30).toNatClampNeg) then
            Option.bind (
              if 0 ≤ (o4.1 (((5 : Int32) * (o4.2.2 x13_27.toNatClampNeg)) + x14_30).toNatClampNeg) then
                some (0 : Int32)
              else
                some (1 : Int32)) fun (v44 : Int32) =>
            if 0 ≤ (o4.1 (((5 : Int32) * (o4.2.2 x13_27.toNatClampNeg)) + x14_30).toNatClampNeg) then
              f_L_isPlan_l173 ka o4 x13_27 k9 (x14_30 + (1 : Int32)) v44 (o4.1 (((5 : Int32) * (o4.2.2 x13_27.toNatClampNeg)) + x14_30).toNatClampNeg)
            else
              f_L_isPlan_l173 ka o4 x13_27 k9 (x14_30 + (1 : Int32)) v44 x11_30
          else
            some none
        else
          some none
theorem f_L_isPlan_l173_z (ka : xF) (o4 : xF × xF × xF) (x13_27 : Int32) (x14_30 : Int32) (x12_30 : Int32) (x11_30 : Int32) : f_L_isPlan_l173 ka o4 x13_27 0 x14_30 x12_30 x11_30 = none := rfl
theorem f_L_isPlan_l173_s (ka : xF) (o4 : xF × xF × xF) (x13_27 : Int32) (k9 : Nat) (x14_30 : Int32) (x12_30 : Int32) (x11_30 : Int32) : f_L_isPlan_l173 ka o4 x13_27 (k9 + 1) x14_30 x12_30 x11_30 =
    if x13_27 < 0 ∨ 12 ≤ x13_27.toNatClampNeg then none else
    if ((5 : Int32) * (o4.2.2 x13_27.toNatClampNeg)) < 0 ∨ 60 ≤ ((5 : Int32) * (o4.2.2 x13_27.toNatClampNeg)).toNatClampNeg then none else
    if (ka ((5 : Int32) * (o4.2.2 x13_27.toNatClampNeg)).toNatClampNeg) ≤ x14_30 then
      some (some (x12_30, x11_30))
    else
      if (((5 : Int32) * (o4.2.2 x13_27.toNatClampNeg)) + x14_30) < 0 ∨ 60 ≤ (((5 : Int32) * (o4.2.2 x13_27.toNatClampNeg)) + x14_30).toNatClampNeg then none else
      if (o4.1 (((5 : Int32) * (o4.2.2 x13_27.toNatClampNeg)) + x14_30).toNatClampNeg) < 0 then
        Option.bind (
          if x12_30 = 0 then
            if 0 ≤ (o4.1 (((5 : Int32) * (o4.2.2 x13_27.toNatClampNeg)) + x14_30).toNatClampNeg) then
              some (0 : Int32)
            else
              some (1 : Int32)
          else
            some (1 : Int32)) fun (v37 : Int32) =>
        if 0 ≤ (o4.1 (((5 : Int32) * (o4.2.2 x13_27.toNatClampNeg)) + x14_30).toNatClampNeg) then
          f_L_isPlan_l173 ka o4 x13_27 k9 (x14_30 + (1 : Int32)) v37 (o4.1 (((5 : Int32) * (o4.2.2 x13_27.toNatClampNeg)) + x14_30).toNatClampNeg)
        else
          f_L_isPlan_l173 ka o4 x13_27 k9 (x14_30 + (1 : Int32)) v37 x11_30
      else
        if x12_30 = 0 then
          if x11_30 < (o4.1 (((5 : Int32) * (o4.2.2 x13_27.toNatClampNeg)) + x14_30).toNatClampNeg) then
            Option.bind (
              if 0 ≤ (o4.1 (((5 : Int32) * (o4.2.2 x13_27.toNatClampNeg)) + x14_30).toNatClampNeg) then
                some (0 : Int32)
              else
                some (1 : Int32)) fun (v44 : Int32) =>
            if 0 ≤ (o4.1 (((5 : Int32) * (o4.2.2 x13_27.toNatClampNeg)) + x14_30).toNatClampNeg) then
              f_L_isPlan_l173 ka o4 x13_27 k9 (x14_30 + (1 : Int32)) v44 (o4.1 (((5 : Int32) * (o4.2.2 x13_27.toNatClampNeg)) + x14_30).toNatClampNeg)
            else
              f_L_isPlan_l173 ka o4 x13_27 k9 (x14_30 + (1 : Int32)) v44 x11_30
          else
            some none
        else
          some none := rfl
def f_L_isPlan_l162 (ka : xF) (kc : xF) (o4 : xF × xF × xF) : Nat → Int32 → Int32 → Int32 → Option (Option (Unit))
  | 0, _, _, _ => none
  | k9 + 1, x13_27, x12_27, x11_27 =>
    if (kc (0 : Int32).toNatClampNeg) ≤ x13_27 then
      some (some ())
    else
      Option.bind (f_L_isPlan_l173 ka o4 x13_27 300 (0 : Int32) x12_27 x11_27) fun (w31 : Option (Int32 × Int32)) => xf_om w31 (some none) fun (v47 : Int32 × Int32) =>
      f_L_isPlan_l162 ka kc o4 k9 (x13_27 + (1 : Int32)) v47.1 v47.2
theorem f_L_isPlan_l162_z (ka : xF) (kc : xF) (o4 : xF × xF × xF) (x13_27 : Int32) (x12_27 : Int32) (x11_27 : Int32) : f_L_isPlan_l162 ka kc o4 0 x13_27 x12_27 x11_27 = none := rfl
theorem f_L_isPlan_l162_s (ka : xF) (kc : xF) (o4 : xF × xF × xF) (k9 : Nat) (x13_27 : Int32) (x12_27 : Int32) (x11_27 : Int32) : f_L_isPlan_l162 ka kc o4 (k9 + 1) x13_27 x12_27 x11_27 =
    if (kc (0 : Int32).toNatClampNeg) ≤ x13_27 then
      some (some ())
    else
      Option.bind (f_L_isPlan_l173 ka o4 x13_27 300 (0 : Int32) x12_27 x11_27) fun (w31 : Option (Int32 × Int32)) => xf_om w31 (some none) fun (v47 : Int32 × Int32) =>
      f_L_isPlan_l162 ka kc o4 k9 (x13_27 + (1 : Int32)) v47.1 v47.2 := rfl
def f_L_isPlan_l296 (kr : xF) (o4 : xF × xF × xF) (x13_49 : Int32) : Nat → Int32 → Int32 → Int32 → Option (Option (Int32))
  | 0, _, _, _ => none
  | k9 + 1, x15_54, x14_54, x9_54 =>
    if ((2 : Int32) * x13_49) < 0 ∨ 24 ≤ ((2 : Int32) * x13_49).toNatClampNeg then none else
    if (kr ((2 : Int32) * x13_49).toNatClampNeg) ≤ x15_54 then
      some (some x9_54)
    else
      if (((3 : Int32) * x13_49) + x15_54) < 0 ∨ 36 ≤ (((3 : Int32) * x13_49) + x15_54).toNatClampNeg then none else
      if (((2 : Int32) * x13_49) + (1 : Int32)) < 0 ∨ 24 ≤ (((2 : Int32) * x13_49) + (1 : Int32)).toNatClampNeg then none else
      if (o4.2.1 (((3 : Int32) * x13_49) + x15_54).toNatClampNeg) < 0 then
        f_L_isPlan_l296 kr o4 x13_49 k9 (x15_54 + (1 : Int32)) (o4.2.1 (((3 : Int32) * x13_49) + x15_54).toNatClampNeg) (x9_54 + (0 : Int32))
      else
        if x14_54 < 0 then
          some none
        else
          if (x14_54 + ((kr (((2 : Int32) * x13_49) + (1 : Int32)).toNatClampNeg) <<< (x15_54 &&& 31))) ≤ (o4.2.1 (((3 : Int32) * x13_49) + x15_54).toNatClampNeg) then
            Option.bind (
              if (o4.2.1 (((3 : Int32) * x13_49) + x15_54).toNatClampNeg) < (x14_54 + ((2 : Int32) * ((kr (((2 : Int32) * x13_49) + (1 : Int32)).toNatClampNeg) <<< (x15_54 &&& 31)))) then
                some (0 : Int32)
              else
                some (1 : Int32)) fun (v65 : Int32) =>
            f_L_isPlan_l296 kr o4 x13_49 k9 (x15_54 + (1 : Int32)) (o4.2.1 (((3 : Int32) * x13_49) + x15_54).toNatClampNeg) (x9_54 + v65)
          else
            some none
theorem f_L_isPlan_l296_z (kr : xF) (o4 : xF × xF × xF) (x13_49 : Int32) (x15_54 : Int32) (x14_54 : Int32) (x9_54 : Int32) : f_L_isPlan_l296 kr o4 x13_49 0 x15_54 x14_54 x9_54 = none := rfl
theorem f_L_isPlan_l296_s (kr : xF) (o4 : xF × xF × xF) (x13_49 : Int32) (k9 : Nat) (x15_54 : Int32) (x14_54 : Int32) (x9_54 : Int32) : f_L_isPlan_l296 kr o4 x13_49 (k9 + 1) x15_54 x14_54 x9_54 =
    if ((2 : Int32) * x13_49) < 0 ∨ 24 ≤ ((2 : Int32) * x13_49).toNatClampNeg then none else
    if (kr ((2 : Int32) * x13_49).toNatClampNeg) ≤ x15_54 then
      some (some x9_54)
    else
      if (((3 : Int32) * x13_49) + x15_54) < 0 ∨ 36 ≤ (((3 : Int32) * x13_49) + x15_54).toNatClampNeg then none else
      if (((2 : Int32) * x13_49) + (1 : Int32)) < 0 ∨ 24 ≤ (((2 : Int32) * x13_49) + (1 : Int32)).toNatClampNeg then none else
      if (o4.2.1 (((3 : Int32) * x13_49) + x15_54).toNatClampNeg) < 0 then
        f_L_isPlan_l296 kr o4 x13_49 k9 (x15_54 + (1 : Int32)) (o4.2.1 (((3 : Int32) * x13_49) + x15_54).toNatClampNeg) (x9_54 + (0 : Int32))
      else
        if x14_54 < 0 then
          some none
        else
          if (x14_54 + ((kr (((2 : Int32) * x13_49) + (1 : Int32)).toNatClampNeg) <<< (x15_54 &&& 31))) ≤ (o4.2.1 (((3 : Int32) * x13_49) + x15_54).toNatClampNeg) then
            Option.bind (
              if (o4.2.1 (((3 : Int32) * x13_49) + x15_54).toNatClampNeg) < (x14_54 + ((2 : Int32) * ((kr (((2 : Int32) * x13_49) + (1 : Int32)).toNatClampNeg) <<< (x15_54 &&& 31)))) then
                some (0 : Int32)
              else
                some (1 : Int32)) fun (v65 : Int32) =>
            f_L_isPlan_l296 kr o4 x13_49 k9 (x15_54 + (1 : Int32)) (o4.2.1 (((3 : Int32) * x13_49) + x15_54).toNatClampNeg) (x9_54 + v65)
          else
            some none := rfl
def f_L_isPlan_l267 (ka : xF) (kr : xF) (kc : xF) (o4 : xF × xF × xF) : Nat → Int32 → Int32 → Option (Option (Int32))
  | 0, _, _ => none
  | k9 + 1, x13_49, x9_49 =>
    if (kc (0 : Int32).toNatClampNeg) ≤ x13_49 then
      some (some x9_49)
    else
      if ((5 : Int32) * x13_49) < 0 ∨ 60 ≤ ((5 : Int32) * x13_49).toNatClampNeg then none else
      if ((((5 : Int32) * x13_49) + (ka ((5 : Int32) * x13_49).toNatClampNeg)) - (1 : Int32)) < 0 ∨ 60 ≤ ((((5 : Int32) * x13_49) + (ka ((5 : Int32) * x13_49).toNatClampNeg)) - (1 : Int32)).toNatClampNeg then none else
      Option.bind (f_L_isPlan_l296 kr o4 x13_49 300 (0 : Int32) (o4.1 ((((5 : Int32) * x13_49) + (ka ((5 : Int32) * x13_49).toNatClampNeg)) - (1 : Int32)).toNatClampNeg) x9_49) fun (w55 : Option (Int32)) => xf_om w55 (some none) fun (v67 : Int32) =>
      f_L_isPlan_l267 ka kr kc o4 k9 (x13_49 + (1 : Int32)) v67
theorem f_L_isPlan_l267_z (ka : xF) (kr : xF) (kc : xF) (o4 : xF × xF × xF) (x13_49 : Int32) (x9_49 : Int32) : f_L_isPlan_l267 ka kr kc o4 0 x13_49 x9_49 = none := rfl
theorem f_L_isPlan_l267_s (ka : xF) (kr : xF) (kc : xF) (o4 : xF × xF × xF) (k9 : Nat) (x13_49 : Int32) (x9_49 : Int32) : f_L_isPlan_l267 ka kr kc o4 (k9 + 1) x13_49 x9_49 =
    if (kc (0 : Int32).toNatClampNeg) ≤ x13_49 then
      some (some x9_49)
    else
      if ((5 : Int32) * x13_49) < 0 ∨ 60 ≤ ((5 : Int32) * x13_49).toNatClampNeg then none else
      if ((((5 : Int32) * x13_49) + (ka ((5 : Int32) * x13_49).toNatClampNeg)) - (1 : Int32)) < 0 ∨ 60 ≤ ((((5 : Int32) * x13_49) + (ka ((5 : Int32) * x13_49).toNatClampNeg)) - (1 : Int32)).toNatClampNeg then none else
      Option.bind (f_L_isPlan_l296 kr o4 x13_49 300 (0 : Int32) (o4.1 ((((5 : Int32) * x13_49) + (ka ((5 : Int32) * x13_49).toNatClampNeg)) - (1 : Int32)).toNatClampNeg) x9_49) fun (w55 : Option (Int32)) => xf_om w55 (some none) fun (v67 : Int32) =>
      f_L_isPlan_l267 ka kr kc o4 k9 (x13_49 + (1 : Int32)) v67 := rfl
def f_L_isPlan (lo : xF) (yy : xSY) (pp : xPL) (qq : xPL) (ka : xF) (kr : xF) (kc : xF) (kl : (Nat → Int64)) : Option (Int32) :=
  Option.bind (f_L_asks lo (yy.1, yy.2.1, yy.2.2.1, yy.2.2.2.1, yy.2.2.2.2.1, yy.2.2.2.2.2.1, yy.2.2.2.2.2.2.1, yy.2.2.2.2.2.2.2.1, yy.2.2.2.2.2.2.2.2) (pp.1, pp.2.1, pp.2.2.1, pp.2.2.2.1, pp.2.2.2.2.1, pp.2.2.2.2.2.1, pp.2.2.2.2.2.2.1, pp.2.2.2.2.2.2.2.1, pp.2.2.2.2.2.2.2.2) (qq.1, qq.2.1, qq.2.2.1, qq.2.2.2.1, qq.2.2.2.2.1, qq.2.2.2.2.2.1, qq.2.2.2.2.2.2.1, qq.2.2.2.2.2.2.2.1, qq.2.2.2.2.2.2.2.2) ka kr kc (fun _ => (0 : Int32)) (fun _ => (0 : Int32)) (fun _ => (0 : Int32))) fun (o4 : xF × xF × xF) =>
  Option.bind (f_L_isPlan_l43 lo yy.1 yy.2.1 yy.2.2.1 yy.2.2.2.1 yy.2.2.2.2.1 yy.2.2.2.2.2.1 yy.2.2.2.2.2.2.1 yy.2.2.2.2.2.2.2.1 yy.2.2.2.2.2.2.2.2 pp.1 pp.2.1 pp.2.2.1 pp.2.2.2.1 pp.2.2.2.2.1 pp.2.2.2.2.2.1 pp.2.2.2.2.2.2.1 pp.2.2.2.2.2.2.2.1 pp.2.2.2.2.2.2.2.2 qq.1 qq.2.1 qq.2.2.1 qq.2.2.2.1 qq.2.2.2.2.1 qq.2.2.2.2.2.1 qq.2.2.2.2.2.2.1 qq.2.2.2.2.2.2.2.1 qq.2.2.2.2.2.2.2.2 ka kr kc kl o4 300 (0 : Int32) ((-1) : Int32) (0 : Int32)) fun (w6 : Option (Int32 × Int32)) => xf_om w6 (some (0 : Int32)) fun (v26 : Int32 × Int32) =>
  Option.bind (f_L_isPlan_l162 ka kc o4 300 (0 : Int32) (0 : Int32) ((-1) : Int32)) fun (w28 : Option (Unit)) => xf_om w28 (some (0 : Int32)) fun (v48 : Unit) =>
  Option.bind (f_L_isPlan_l267 ka kr kc o4 300 (0 : Int32) (0 : Int32)) fun (w50 : Option (Int32)) => xf_om w50 (some (0 : Int32)) fun (v68 : Int32) =>
  Option.bind (f_X2_laid lo (yy.1, yy.2.1, yy.2.2.1, yy.2.2.2.1, yy.2.2.2.2.1, yy.2.2.2.2.2.1, yy.2.2.2.2.2.2.1, yy.2.2.2.2.2.2.2.1, yy.2.2.2.2.2.2.2.2) (pp.1, pp.2.1, pp.2.2.1, pp.2.2.2.1, pp.2.2.2.2.1, pp.2.2.2.2.2.1, pp.2.2.2.2.2.2.1, pp.2.2.2.2.2.2.2.1, pp.2.2.2.2.2.2.2.2) (qq.1, qq.2.1, qq.2.2.1, qq.2.2.2.1, qq.2.2.2.2.1, qq.2.2.2.2.2.1, qq.2.2.2.2.2.2.1, qq.2.2.2.2.2.2.2.1, qq.2.2.2.2.2.2.2.2)) fun (o69 : Int32) =>
  if o69 = v26.2 then
    Option.bind (f_X2_late lo (yy.1, yy.2.1, yy.2.2.1, yy.2.2.2.1, yy.2.2.2.2.1, yy.2.2.2.2.2.1, yy.2.2.2.2.2.2.1, yy.2.2.2.2.2.2.2.1, yy.2.2.2.2.2.2.2.2) (pp.1, pp.2.1, pp.2.2.1, pp.2.2.2.1, pp.2.2.2.2.1, pp.2.2.2.2.2.1, pp.2.2.2.2.2.2.1, pp.2.2.2.2.2.2.2.1, pp.2.2.2.2.2.2.2.2) (qq.1, qq.2.1, qq.2.2.1, qq.2.2.2.1, qq.2.2.2.2.1, qq.2.2.2.2.2.1, qq.2.2.2.2.2.2.1, qq.2.2.2.2.2.2.2.1, qq.2.2.2.2.2.2.2.2)) fun (o71 : Int32) =>
    if o71 = v68 then
      Option.bind (f_X2_lastDay lo (yy.1, yy.2.1, yy.2.2.1, yy.2.2.2.1, yy.2.2.2.2.1, yy.2.2.2.2.2.1, yy.2.2.2.2.2.2.1, yy.2.2.2.2.2.2.2.1, yy.2.2.2.2.2.2.2.2) (pp.1, pp.2.1, pp.2.2.1, pp.2.2.2.1, pp.2.2.2.2.1, pp.2.2.2.2.2.1, pp.2.2.2.2.2.2.1, pp.2.2.2.2.2.2.2.1, pp.2.2.2.2.2.2.2.2) (qq.1, qq.2.1, qq.2.2.1, qq.2.2.2.1, qq.2.2.2.2.1, qq.2.2.2.2.2.1, qq.2.2.2.2.2.2.1, qq.2.2.2.2.2.2.2.1, qq.2.2.2.2.2.2.2.2)) fun (o73 : Int32) =>
      if o73 = v26.1 then
        some (1 : Int32)
      else
        some (0 : Int32)
    else
      some (0 : Int32)
  else
    some (0 : Int32)
theorem f_L_isPlan_e (lo : xF) (yy_0 : Int32) (yy_1 : xF) (yy_2 : xF) (yy_3 : xF) (yy_4 : xF) (yy_5 : xF) (yy_6 : xF) (yy_7 : xF) (yy_8 : xF) (pp_0 : xF) (pp_1 : xF) (pp_2 : xF) (pp_3 : xF) (pp_4 : xF) (pp_5 : xF) (pp_6 : Int32) (pp_7 : Int32) (pp_8 : Int32) (qq_0 : xF) (qq_1 : xF) (qq_2 : xF) (qq_3 : xF) (qq_4 : xF) (qq_5 : xF) (qq_6 : Int32) (qq_7 : Int32) (qq_8 : Int32) (ka : xF) (kr : xF) (kc : xF) (kl : (Nat → Int64)) : f_L_isPlan lo (yy_0, yy_1, yy_2, yy_3, yy_4, yy_5, yy_6, yy_7, yy_8) (pp_0, pp_1, pp_2, pp_3, pp_4, pp_5, pp_6, pp_7, pp_8) (qq_0, qq_1, qq_2, qq_3, qq_4, qq_5, qq_6, qq_7, qq_8) ka kr kc kl =
  Option.bind (f_L_asks lo (yy_0, yy_1, yy_2, yy_3, yy_4, yy_5, yy_6, yy_7, yy_8) (pp_0, pp_1, pp_2, pp_3, pp_4, pp_5, pp_6, pp_7, pp_8) (qq_0, qq_1, qq_2, qq_3, qq_4, qq_5, qq_6, qq_7, qq_8) ka kr kc (fun _ => (0 : Int32)) (fun _ => (0 : Int32)) (fun _ => (0 : Int32))) fun (o4 : xF × xF × xF) =>
  Option.bind (f_L_isPlan_l43 lo yy_0 yy_1 yy_2 yy_3 yy_4 yy_5 yy_6 yy_7 yy_8 pp_0 pp_1 pp_2 pp_3 pp_4 pp_5 pp_6 pp_7 pp_8 qq_0 qq_1 qq_2 qq_3 qq_4 qq_5 qq_6 qq_7 qq_8 ka kr kc kl o4 300 (0 : Int32) ((-1) : Int32) (0 : Int32)) fun (w6 : Option (Int32 × Int32)) => xf_om w6 (some (0 : Int32)) fun (v26 : Int32 × Int32) =>
  Option.bind (f_L_isPlan_l162 ka kc o4 300 (0 : Int32) (0 : Int32) ((-1) : Int32)) fun (w28 : Option (Unit)) => xf_om w28 (some (0 : Int32)) fun (v48 : Unit) =>
  Option.bind (f_L_isPlan_l267 ka kr kc o4 300 (0 : Int32) (0 : Int32)) fun (w50 : Option (Int32)) => xf_om w50 (some (0 : Int32)) fun (v68 : Int32) =>
  Option.bind (f_X2_laid lo (yy_0, yy_1, yy_2, yy_3, yy_4, yy_5, yy_6, yy_7, yy_8) (pp_0, pp_1, pp_2, pp_3, pp_4, pp_5, pp_6, pp_7, pp_8) (qq_0, qq_1, qq_2, qq_3, qq_4, qq_5, qq_6, qq_7, qq_8)) fun (o69 : Int32) =>
  if o69 = v26.2 then
    Option.bind (f_X2_late lo (yy_0, yy_1, yy_2, yy_3, yy_4, yy_5, yy_6, yy_7, yy_8) (pp_0, pp_1, pp_2, pp_3, pp_4, pp_5, pp_6, pp_7, pp_8) (qq_0, qq_1, qq_2, qq_3, qq_4, qq_5, qq_6, qq_7, qq_8)) fun (o71 : Int32) =>
    if o71 = v68 then
      Option.bind (f_X2_lastDay lo (yy_0, yy_1, yy_2, yy_3, yy_4, yy_5, yy_6, yy_7, yy_8) (pp_0, pp_1, pp_2, pp_3, pp_4, pp_5, pp_6, pp_7, pp_8) (qq_0, qq_1, qq_2, qq_3, qq_4, qq_5, qq_6, qq_7, qq_8)) fun (o73 : Int32) =>
      if o73 = v26.1 then
        some (1 : Int32)
      else
        some (0 : Int32)
    else
      some (0 : Int32)
  else
    some (0 : Int32) := rfl
set_option maxHeartbeats 8000000 in
set_option maxRecDepth 100000 in
theorem c_L_isPlan (l : Launch) (G : xG) (xa : Nat) (la : Nat) (ya : (Nat → Nat)) (pa : (Nat → Nat)) (qa : (Nat → Nat)) (a9 : Nat) (r9 : Nat) (c9 : Nat) (l9 : Nat) (lo : xF) (yy : xSY) (pp : xPL) (qq : xPL) (ka : xF) (kr : xF) (kc : xF) (kl : (Nat → Int64)) (o : Int32) (h : f_L_isPlan lo yy pp qq ka kr kc kl = some o) : xk_CI l yL_isPlan wsL_isPlan ({ frames := 4, cells := 3, slots := 108, locals := 92 } : Room) 3 108 [.ref xa, .ref a9, .ref r9, .ref c9, .ref l9] G ((wXO xa (ya 0) la (pa 0) (qa 0)) ++ ((wLO G la lo) ++ ((wSYc G ya yy.1 yy.2.1 yy.2.2.1 yy.2.2.2.1 yy.2.2.2.2.1 yy.2.2.2.2.2.1 yy.2.2.2.2.2.2.1 yy.2.2.2.2.2.2.2.1 yy.2.2.2.2.2.2.2.2) ++ ((wPLc G pa pp.1 pp.2.1 pp.2.2.1 pp.2.2.2.1 pp.2.2.2.2.1 pp.2.2.2.2.2.1 pp.2.2.2.2.2.2.1 pp.2.2.2.2.2.2.2.1 pp.2.2.2.2.2.2.2.2) ++ ((wPLc G qa qq.1 qq.2.1 qq.2.2.1 qq.2.2.2.1 qq.2.2.2.2.1 qq.2.2.2.2.2.1 qq.2.2.2.2.2.2.1 qq.2.2.2.2.2.2.2.1 qq.2.2.2.2.2.2.2.2) ++ ((wAR G a9 60 ka) ++ ((wAR G r9 24 kr) ++ ((wAR G c9 1 kc) ++ ((wOU G l9 kl)))))))))) ((wXO xa (ya 0) la (pa 0) (qa 0)) ++ ((wLO G la lo) ++ ((wSYc G ya yy.1 yy.2.1 yy.2.2.1 yy.2.2.2.1 yy.2.2.2.2.1 yy.2.2.2.2.2.1 yy.2.2.2.2.2.2.1 yy.2.2.2.2.2.2.2.1 yy.2.2.2.2.2.2.2.2) ++ ((wPLc G pa pp.1 pp.2.1 pp.2.2.1 pp.2.2.2.1 pp.2.2.2.2.1 pp.2.2.2.2.2.1 pp.2.2.2.2.2.2.1 pp.2.2.2.2.2.2.2.1 pp.2.2.2.2.2.2.2.2) ++ ((wPLc G qa qq.1 qq.2.1 qq.2.2.1 qq.2.2.2.1 qq.2.2.2.2.1 qq.2.2.2.2.2.1 qq.2.2.2.2.2.2.1 qq.2.2.2.2.2.2.2.1 qq.2.2.2.2.2.2.2.2) ++ ((wAR G a9 60 ka) ++ ((wAR G r9 24 kr) ++ ((wAR G c9 1 kc) ++ ((wOU G l9 kl)))))))))) o := by
  obtain ⟨yy_0, yy_1, yy_2, yy_3, yy_4, yy_5, yy_6, yy_7, yy_8⟩ := yy
  obtain ⟨pp_0, pp_1, pp_2, pp_3, pp_4, pp_5, pp_6, pp_7, pp_8⟩ := pp
  obtain ⟨qq_0, qq_1, qq_2, qq_3, qq_4, qq_5, qq_6, qq_7, qq_8⟩ := qq
  refine xk_CI.of (cc := cL_isPlan) (maxL := 18) (ret := (some .boolean)) (by decide) rfl (Nat.le_of_ble_eq_true rfl) ?_
  intro pr9 en9 s mm9 bl9 meth9 cd9 A ls H locs hx hb hr hml hts hown hlk hA hP hK hD hNE hS hl
  have hown : s.vm.findClass RL = some mm9.cls := hown
  have hl : lv_has ls 18 [(0, .ref xa), (1, .ref a9), (2, .ref r9), (3, .ref c9), (4, .ref l9)] := hl
  have hP : va_P G.1 vwCl ((wXO xa (ya 0) la (pa 0) (qa 0)) ++ ((wLO G la lo) ++ ((wSYc G ya yy_0 yy_1 yy_2 yy_3 yy_4 yy_5 yy_6 yy_7 yy_8) ++ ((wPLc G pa pp_0 pp_1 pp_2 pp_3 pp_4 pp_5 pp_6 pp_7 pp_8) ++ ((wPLc G qa qq_0 qq_1 qq_2 qq_3 qq_4 qq_5 qq_6 qq_7 qq_8) ++ ((wAR G a9 60 ka) ++ ((wAR G r9 24 kr) ++ ((wAR G c9 1 kc) ++ ((wOU G l9 kl)))))))))) H := hP
  have hD : va_D A ((wXO xa (ya 0) la (pa 0) (qa 0)) ++ ((wLO G la lo) ++ ((wSYc G ya yy_0 yy_1 yy_2 yy_3 yy_4 yy_5 yy_6 yy_7 yy_8) ++ ((wPLc G pa pp_0 pp_1 pp_2 pp_3 pp_4 pp_5 pp_6 pp_7 pp_8) ++ ((wPLc G qa qq_0 qq_1 qq_2 qq_3 qq_4 qq_5 qq_6 qq_7 qq_8) ++ ((wAR G a9 60 ka) ++ ((wAR G r9 24 kr) ++ ((wAR G c9 1 kc) ++ ((wOU G l9 kl)))))))))) := hD
  have h := (f_L_isPlan_e lo yy_0 yy_1 yy_2 yy_3 yy_4 yy_5 yy_6 yy_7 yy_8 pp_0 pp_1 pp_2 pp_3 pp_4 pp_5 pp_6 pp_7 pp_8 qq_0 qq_1 qq_2 qq_3 qq_4 qq_5 qq_6 qq_7 qq_8 ka kr kc kl).symm.trans h
  refine lv_bipush (v := (60 : Int32)) hx hb dL_isPlan_0 (by decide) ?_
  refine xk_newI 60 hx hb (hts (.arrayClass .int) (by decide +kernel)) hK hP hD hS hA (by decide) rfl (Nat.le_of_ble_eq_true rfl) (Nat.le_of_ble_eq_true rfl) (Nat.le_of_ble_eq_true rfl) dL_isPlan_2 (fun q1 H hP hD hS => ?_)
  have hP : va_P G.1 vwCl ((wXO xa (ya 0) la (pa 0) (qa 0)) ++ ((wLO G la lo) ++ ((wSYc G ya yy_0 yy_1 yy_2 yy_3 yy_4 yy_5 yy_6 yy_7 yy_8) ++ ((wPLc G pa pp_0 pp_1 pp_2 pp_3 pp_4 pp_5 pp_6 pp_7 pp_8) ++ ((wPLc G qa qq_0 qq_1 qq_2 qq_3 qq_4 qq_5 qq_6 qq_7 qq_8) ++ ((wAR G a9 60 ka) ++ ((wAR G r9 24 kr) ++ ((wAR G c9 1 kc) ++ ((wOU G l9 kl) ++ ((wAR G q1 60 (fun _ => (0 : Int32))))))))))))) H := hP
  have hD : va_D A ((wXO xa (ya 0) la (pa 0) (qa 0)) ++ ((wLO G la lo) ++ ((wSYc G ya yy_0 yy_1 yy_2 yy_3 yy_4 yy_5 yy_6 yy_7 yy_8) ++ ((wPLc G pa pp_0 pp_1 pp_2 pp_3 pp_4 pp_5 pp_6 pp_7 pp_8) ++ ((wPLc G qa qq_0 qq_1 qq_2 qq_3 qq_4 qq_5 qq_6 qq_7 qq_8) ++ ((wAR G a9 60 ka) ++ ((wAR G r9 24 kr) ++ ((wAR G c9 1 kc) ++ ((wOU G l9 kl) ++ ((wAR G q1 60 (fun _ => (0 : Int32))))))))))))) := hD
  refine lv_astore (lv' := [(5, .ref q1), (0, .ref xa), (1, .ref a9), (2, .ref r9), (3, .ref c9), (4, .ref l9)]) hx hb dL_isPlan_4 hl (by decide) rfl (fun ls hl => ?_)
  refine lv_bipush (v := (36 : Int32)) hx hb dL_isPlan_6 (by decide) ?_
  refine xk_newI 36 hx hb (hts (.arrayClass .int) (by decide +kernel)) hK hP hD hS hA (by decide) rfl (Nat.le_of_ble_eq_true rfl) (Nat.le_of_ble_eq_true rfl) (Nat.le_of_ble_eq_true rfl) dL_isPlan_8 (fun q2 H hP hD hS => ?_)
  have hP : va_P G.1 vwCl ((wXO xa (ya 0) la (pa 0) (qa 0)) ++ ((wLO G la lo) ++ ((wSYc G ya yy_0 yy_1 yy_2 yy_3 yy_4 yy_5 yy_6 yy_7 yy_8) ++ ((wPLc G pa pp_0 pp_1 pp_2 pp_3 pp_4 pp_5 pp_6 pp_7 pp_8) ++ ((wPLc G qa qq_0 qq_1 qq_2 qq_3 qq_4 qq_5 qq_6 qq_7 qq_8) ++ ((wAR G a9 60 ka) ++ ((wAR G r9 24 kr) ++ ((wAR G c9 1 kc) ++ ((wOU G l9 kl) ++ ((wAR G q1 60 (fun _ => (0 : Int32))) ++ ((wAR G q2 36 (fun _ => (0 : Int32)))))))))))))) H := hP
  have hD : va_D A ((wXO xa (ya 0) la (pa 0) (qa 0)) ++ ((wLO G la lo) ++ ((wSYc G ya yy_0 yy_1 yy_2 yy_3 yy_4 yy_5 yy_6 yy_7 yy_8) ++ ((wPLc G pa pp_0 pp_1 pp_2 pp_3 pp_4 pp_5 pp_6 pp_7 pp_8) ++ ((wPLc G qa qq_0 qq_1 qq_2 qq_3 qq_4 qq_5 qq_6 qq_7 qq_8) ++ ((wAR G a9 60 ka) ++ ((wAR G r9 24 kr) ++ ((wAR G c9 1 kc) ++ ((wOU G l9 kl) ++ ((wAR G q1 60 (fun _ => (0 : Int32))) ++ ((wAR G q2 36 (fun _ => (0 : Int32)))))))))))))) := hD
  refine lv_astore (lv' := [(6, .ref q2), (5, .ref q1), (0, .ref xa), (1, .ref a9), (2, .ref r9), (3, .ref c9), (4, .ref l9)]) hx hb dL_isPlan_10 hl (by decide) rfl (fun ls hl => ?_)
  refine lv_bipush (v := (12 : Int32)) hx hb dL_isPlan_12 (by decide) ?_
  refine xk_newI 12 hx hb (hts (.arrayClass .int) (by decide +kernel)) hK hP hD hS hA (by decide) rfl (Nat.le_of_ble_eq_true rfl) (Nat.le_of_ble_eq_true rfl) (Nat.le_of_ble_eq_true rfl) dL_isPlan_14 (fun q3 H hP hD hS => ?_)
  have hP : va_P G.1 vwCl ((wXO xa (ya 0) la (pa 0) (qa 0)) ++ ((wLO G la lo) ++ ((wSYc G ya yy_0 yy_1 yy_2 yy_3 yy_4 yy_5 yy_6 yy_7 yy_8) ++ ((wPLc G pa pp_0 pp_1 pp_2 pp_3 pp_4 pp_5 pp_6 pp_7 pp_8) ++ ((wPLc G qa qq_0 qq_1 qq_2 qq_3 qq_4 qq_5 qq_6 qq_7 qq_8) ++ ((wAR G a9 60 ka) ++ ((wAR G r9 24 kr) ++ ((wAR G c9 1 kc) ++ ((wOU G l9 kl) ++ ((wAR G q1 60 (fun _ => (0 : Int32))) ++ ((wAR G q2 36 (fun _ => (0 : Int32))) ++ ((wAR G q3 12 (fun _ => (0 : Int32))))))))))))))) H := hP
  have hD : va_D A ((wXO xa (ya 0) la (pa 0) (qa 0)) ++ ((wLO G la lo) ++ ((wSYc G ya yy_0 yy_1 yy_2 yy_3 yy_4 yy_5 yy_6 yy_7 yy_8) ++ ((wPLc G pa pp_0 pp_1 pp_2 pp_3 pp_4 pp_5 pp_6 pp_7 pp_8) ++ ((wPLc G qa qq_0 qq_1 qq_2 qq_3 qq_4 qq_5 qq_6 qq_7 qq_8) ++ ((wAR G a9 60 ka) ++ ((wAR G r9 24 kr) ++ ((wAR G c9 1 kc) ++ ((wOU G l9 kl) ++ ((wAR G q1 60 (fun _ => (0 : Int32))) ++ ((wAR G q2 36 (fun _ => (0 : Int32))) ++ ((wAR G q3 12 (fun _ => (0 : Int32))))))))))))))) := hD
  refine lv_astore (lv' := [(7, .ref q3), (6, .ref q2), (5, .ref q1), (0, .ref xa), (1, .ref a9), (2, .ref r9), (3, .ref c9), (4, .ref l9)]) hx hb dL_isPlan_16 hl (by decide) rfl (fun ls hl => ?_)
  refine lv_aload_n hx hb dL_isPlan_18 rfl (lv_at hl 3 rfl) ?_
  refine lv_aload_n hx hb dL_isPlan_19 rfl (lv_at hl 4 rfl) ?_
  refine lv_aload_n hx hb dL_isPlan_20 rfl (lv_at hl 5 rfl) ?_
  refine lv_aload_n hx hb dL_isPlan_21 rfl (lv_at hl 6 rfl) ?_
  refine lv_aload hx hb dL_isPlan_22 (lv_at hl 2 rfl) ?_
  refine lv_aload hx hb dL_isPlan_24 (lv_at hl 1 rfl) ?_
  refine lv_aload hx hb dL_isPlan_26 (lv_at hl 0 rfl) ?_
  obtain ⟨o4, ho4, h⟩ := sp_b h
  have hP9 : va_P G.1 vwCl (((wOU G l9 kl)) ++ ((wXO xa (ya 0) la (pa 0) (qa 0)) ++ ((wLO G la lo) ++ ((wSYc G ya yy_0 yy_1 yy_2 yy_3 yy_4 yy_5 yy_6 yy_7 yy_8) ++ ((wPLc G pa pp_0 pp_1 pp_2 pp_3 pp_4 pp_5 pp_6 pp_7 pp_8) ++ ((wPLc G qa qq_0 qq_1 qq_2 qq_3 qq_4 qq_5 qq_6 qq_7 qq_8) ++ ((wAR G a9 60 ka) ++ ((wAR G r9 24 kr) ++ ((wAR G c9 1 kc) ++ ((wAR G q1 60 (fun _ => (0 : Int32))) ++ ((wAR G q2 36 (fun _ => (0 : Int32))) ++ ((wAR G q3 12 (fun _ => (0 : Int32))))))))))))))) H := xf_P (xf_p_12_8_012345679ab (wXO xa (ya 0) la (pa 0) (qa 0)) (wLO G la lo) (wSYc G ya yy_0 yy_1 yy_2 yy_3 yy_4 yy_5 yy_6 yy_7 yy_8) (wPLc G pa pp_0 pp_1 pp_2 pp_3 pp_4 pp_5 pp_6 pp_7 pp_8) (wPLc G qa qq_0 qq_1 qq_2 qq_3 qq_4 qq_5 qq_6 qq_7 qq_8) (wAR G a9 60 ka) (wAR G r9 24 kr) (wAR G c9 1 kc) (wOU G l9 kl) (wAR G q1 60 (fun _ => (0 : Int32))) (wAR G q2 36 (fun _ => (0 : Int32))) (wAR G q3 12 (fun _ => (0 : Int32)))) hP
  have hD9 : va_D A (((wOU G l9 kl)) ++ ((wXO xa (ya 0) la (pa 0) (qa 0)) ++ ((wLO G la lo) ++ ((wSYc G ya yy_0 yy_1 yy_2 yy_3 yy_4 yy_5 yy_6 yy_7 yy_8) ++ ((wPLc G pa pp_0 pp_1 pp_2 pp_3 pp_4 pp_5 pp_6 pp_7 pp_8) ++ ((wPLc G qa qq_0 qq_1 qq_2 qq_3 qq_4 qq_5 qq_6 qq_7 qq_8) ++ ((wAR G a9 60 ka) ++ ((wAR G r9 24 kr) ++ ((wAR G c9 1 kc) ++ ((wAR G q1 60 (fun _ => (0 : Int32))) ++ ((wAR G q2 36 (fun _ => (0 : Int32))) ++ ((wAR G q3 12 (fun _ => (0 : Int32))))))))))))))) := xf_D (xf_p_12_8_012345679ab (wXO xa (ya 0) la (pa 0) (qa 0)) (wLO G la lo) (wSYc G ya yy_0 yy_1 yy_2 yy_3 yy_4 yy_5 yy_6 yy_7 yy_8) (wPLc G pa pp_0 pp_1 pp_2 pp_3 pp_4 pp_5 pp_6 pp_7 pp_8) (wPLc G qa qq_0 qq_1 qq_2 qq_3 qq_4 qq_5 qq_6 qq_7 qq_8) (wAR G a9 60 ka) (wAR G r9 24 kr) (wAR G c9 1 kc) (wOU G l9 kl) (wAR G q1 60 (fun _ => (0 : Int32))) (wAR G q2 36 (fun _ => (0 : Int32))) (wAR G q3 12 (fun _ => (0 : Int32)))) hD
  refine xf_cv (va_runS (As := [.ref xa, .ref a9, .ref r9, .ref c9, .ref q1, .ref q2, .ref q3]) (rest := []) ⟨hx, hb, hml, hown, hts⟩ (c_L_asks l G xa la ya pa qa a9 r9 c9 q1 q2 q3 lo (yy_0, yy_1, yy_2, yy_3, yy_4, yy_5, yy_6, yy_7, yy_8) (pp_0, pp_1, pp_2, pp_3, pp_4, pp_5, pp_6, pp_7, pp_8) (qq_0, qq_1, qq_2, qq_3, qq_4, qq_5, qq_6, qq_7, qq_8) ka kr kc (fun _ => (0 : Int32)) (fun _ => (0 : Int32)) (fun _ => (0 : Int32)) o4 ho4 H.size) (va_cwS 7 hts gL_isPlan_L_asks rfl rfl rfl (by decide +kernel) ⟨(Nat.le_of_ble_eq_true rfl), (Nat.le_of_ble_eq_true rfl)⟩) (xk_preS hK hNE (xf_pr hP9) (xf_dr hD9)) rfl rfl hl.1 rfl (lv_room (Nat.le_of_ble_eq_true rfl)) dL_isPlan_28 ⟨(Nat.le_of_ble_eq_true rfl), (Nat.le_of_ble_eq_true rfl)⟩) hP9 hD9 hS hA (fun H locs hP hD hS => ?_)
  have hP : va_P G.1 vwCl ((wXO xa (ya 0) la (pa 0) (qa 0)) ++ ((wLO G la lo) ++ ((wSYc G ya yy_0 yy_1 yy_2 yy_3 yy_4 yy_5 yy_6 yy_7 yy_8) ++ ((wPLc G pa pp_0 pp_1 pp_2 pp_3 pp_4 pp_5 pp_6 pp_7 pp_8) ++ ((wPLc G qa qq_0 qq_1 qq_2 qq_3 qq_4 qq_5 qq_6 qq_7 qq_8) ++ ((wAR G a9 60 ka) ++ ((wAR G r9 24 kr) ++ ((wAR G c9 1 kc) ++ ((wOU G l9 kl) ++ ((wAR G q1 60 o4.1) ++ ((wAR G q2 36 o4.2.1) ++ ((wAR G q3 12 o4.2.2))))))))))))) H := xf_P (xf_p_12_8_012345679ab (wXO xa (ya 0) la (pa 0) (qa 0)) (wLO G la lo) (wSYc G ya yy_0 yy_1 yy_2 yy_3 yy_4 yy_5 yy_6 yy_7 yy_8) (wPLc G pa pp_0 pp_1 pp_2 pp_3 pp_4 pp_5 pp_6 pp_7 pp_8) (wPLc G qa qq_0 qq_1 qq_2 qq_3 qq_4 qq_5 qq_6 qq_7 qq_8) (wAR G a9 60 ka) (wAR G r9 24 kr) (wAR G c9 1 kc) (wOU G l9 kl) (wAR G q1 60 o4.1) (wAR G q2 36 o4.2.1) (wAR G q3 12 o4.2.2)).symm (show va_P G.1 vwCl (((wOU G l9 kl)) ++ ((wXO xa (ya 0) la (pa 0) (qa 0)) ++ ((wLO G la lo) ++ ((wSYc G ya yy_0 yy_1 yy_2 yy_3 yy_4 yy_5 yy_6 yy_7 yy_8) ++ ((wPLc G pa pp_0 pp_1 pp_2 pp_3 pp_4 pp_5 pp_6 pp_7 pp_8) ++ ((wPLc G qa qq_0 qq_1 qq_2 qq_3 qq_4 qq_5 qq_6 qq_7 qq_8) ++ ((wAR G a9 60 ka) ++ ((wAR G r9 24 kr) ++ ((wAR G c9 1 kc) ++ ((wAR G q1 60 o4.1) ++ ((wAR G q2 36 o4.2.1) ++ ((wAR G q3 12 o4.2.2))))))))))))) H from hP)
  have hD : va_D A ((wXO xa (ya 0) la (pa 0) (qa 0)) ++ ((wLO G la lo) ++ ((wSYc G ya yy_0 yy_1 yy_2 yy_3 yy_4 yy_5 yy_6 yy_7 yy_8) ++ ((wPLc G pa pp_0 pp_1 pp_2 pp_3 pp_4 pp_5 pp_6 pp_7 pp_8) ++ ((wPLc G qa qq_0 qq_1 qq_2 qq_3 qq_4 qq_5 qq_6 qq_7 qq_8) ++ ((wAR G a9 60 ka) ++ ((wAR G r9 24 kr) ++ ((wAR G c9 1 kc) ++ ((wOU G l9 kl) ++ ((wAR G q1 60 o4.1) ++ ((wAR G q2 36 o4.2.1) ++ ((wAR G q3 12 o4.2.2))))))))))))) := xf_D (xf_p_12_8_012345679ab (wXO xa (ya 0) la (pa 0) (qa 0)) (wLO G la lo) (wSYc G ya yy_0 yy_1 yy_2 yy_3 yy_4 yy_5 yy_6 yy_7 yy_8) (wPLc G pa pp_0 pp_1 pp_2 pp_3 pp_4 pp_5 pp_6 pp_7 pp_8) (wPLc G qa qq_0 qq_1 qq_2 qq_3 qq_4 qq_5 qq_6 qq_7 qq_8) (wAR G a9 60 ka) (wAR G r9 24 kr) (wAR G c9 1 kc) (wOU G l9 kl) (wAR G q1 60 o4.1) (wAR G q2 36 o4.2.1) (wAR G q3 12 o4.2.2)).symm (show va_D A (((wOU G l9 kl)) ++ ((wXO xa (ya 0) la (pa 0) (qa 0)) ++ ((wLO G la lo) ++ ((wSYc G ya yy_0 yy_1 yy_2 yy_3 yy_4 yy_5 yy_6 yy_7 yy_8) ++ ((wPLc G pa pp_0 pp_1 pp_2 pp_3 pp_4 pp_5 pp_6 pp_7 pp_8) ++ ((wPLc G qa qq_0 qq_1 qq_2 qq_3 qq_4 qq_5 qq_6 qq_7 qq_8) ++ ((wAR G a9 60 ka) ++ ((wAR G r9 24 kr) ++ ((wAR G c9 1 kc) ++ ((wAR G q1 60 o4.1) ++ ((wAR G q2 36 o4.2.1) ++ ((wAR G q3 12 o4.2.2))))))))))))) from hD)
  refine lv_iconst (v := (0 : Int32)) hx hb dL_isPlan_31 (by decide) ?_
  refine lv_istore (lv' := [(8, .int (0 : Int32)), (7, .ref q3), (6, .ref q2), (5, .ref q1), (0, .ref xa), (1, .ref a9), (2, .ref r9), (3, .ref c9), (4, .ref l9)]) hx hb dL_isPlan_32 hl (by decide) rfl (fun ls hl => ?_)
  refine lv_iconst (v := (0 : Int32)) hx hb dL_isPlan_34 (by decide) ?_
  refine lv_istore (lv' := [(9, .int (0 : Int32)), (8, .int (0 : Int32)), (7, .ref q3), (6, .ref q2), (5, .ref q1), (0, .ref xa), (1, .ref a9), (2, .ref r9), (3, .ref c9), (4, .ref l9)]) hx hb dL_isPlan_35 hl (by decide) rfl (fun ls hl => ?_)
  refine lv_iconst (v := ((-1) : Int32)) hx hb dL_isPlan_37 (by decide) ?_
  refine lv_istore (lv' := [(10, .int ((-1) : Int32)), (9, .int (0 : Int32)), (8, .int (0 : Int32)), (7, .ref q3), (6, .ref q2), (5, .ref q1), (0, .ref xa), (1, .ref a9), (2, .ref r9), (3, .ref c9), (4, .ref l9)]) hx hb dL_isPlan_38 hl (by decide) rfl (fun ls hl => ?_)
  refine lv_iconst (v := (0 : Int32)) hx hb dL_isPlan_40 (by decide) ?_
  refine lv_istore (lv' := [(11, .int (0 : Int32)), (10, .int ((-1) : Int32)), (9, .int (0 : Int32)), (8, .int (0 : Int32)), (7, .ref q3), (6, .ref q2), (5, .ref q1), (0, .ref xa), (1, .ref a9), (2, .ref r9), (3, .ref c9), (4, .ref l9)]) hx hb dL_isPlan_41 hl (by decide) rfl (fun ls hl => ?_)
  obtain ⟨w6, hw6, h⟩ := sp_b h
  have hq_w6 : w6 = none → o = (0 : Int32) := fun e => by subst e; exact sp_s (xf_om_n h)
  refine xk_jn2 (α := Int32 × Int32) G A s.heap ((wXO xa (ya 0) la (pa 0) (qa 0)) ++ ((wLO G la lo) ++ ((wSYc G ya yy_0 yy_1 yy_2 yy_3 yy_4 yy_5 yy_6 yy_7 yy_8) ++ ((wPLc G pa pp_0 pp_1 pp_2 pp_3 pp_4 pp_5 pp_6 pp_7 pp_8) ++ ((wPLc G qa qq_0 qq_1 qq_2 qq_3 qq_4 qq_5 qq_6 qq_7 qq_8) ++ ((wAR G a9 60 ka) ++ ((wAR G r9 24 kr) ++ ((wAR G c9 1 kc) ++ ((wOU G l9 kl) ++ ((wAR G q1 60 o4.1) ++ ((wAR G q2 36 o4.2.1) ++ ((wAR G q3 12 o4.2.2))))))))))))) 18 (fun v26 => [(10, .int v26.1), (9, .int (0 : Int32)), (8, .int v26.2), (7, .ref q3), (6, .ref q2), (5, .ref q1), (0, .ref xa), (1, .ref a9), (2, .ref r9), (3, .ref c9)]) 153 (fun v26 => w6 = some v26) (fun v26 he H locs hP hD hS ls hl => ?_) (fun J5 => ?_)
  · subst he
    have h := xf_om_s h
    refine lv_iconst (v := ((-1) : Int32)) hx hb dL_isPlan_153 (by decide) ?_
    refine lv_istore (lv' := [(11, .int ((-1) : Int32)), (10, .int v26.1), (9, .int (0 : Int32)), (8, .int v26.2), (7, .ref q3), (6, .ref q2), (5, .ref q1), (0, .ref xa), (1, .ref a9), (2, .ref r9), (3, .ref c9)]) hx hb dL_isPlan_154 hl (by decide) rfl (fun ls hl => ?_)
    refine lv_iconst (v := (0 : Int32)) hx hb dL_isPlan_156 (by decide) ?_
    refine lv_istore (lv' := [(12, .int (0 : Int32)), (11, .int ((-1) : Int32)), (10, .int v26.1), (9, .int (0 : Int32)), (8, .int v26.2), (7, .ref q3), (6, .ref q2), (5, .ref q1), (0, .ref xa), (1, .ref a9), (2, .ref r9), (3, .ref c9)]) hx hb dL_isPlan_157 hl (by decide) rfl (fun ls hl => ?_)
    refine lv_iconst (v := (0 : Int32)) hx hb dL_isPlan_159 (by decide) ?_
    refine lv_istore (lv' := [(13, .int (0 : Int32)), (12, .int (0 : Int32)), (11, .int ((-1) : Int32)), (10, .int v26.1), (9, .int (0 : Int32)), (8, .int v26.2), (7, .ref q3), (6, .ref q2), (5, .ref q1), (0, .ref xa), (1, .ref a9), (2, .ref r9), (3, .ref c9)]) hx hb dL_isPlan_160 hl (by decide) rfl (fun ls hl => ?_)
    obtain ⟨w28, hw28, h⟩ := sp_b h
    have hq_w28 : w28 = none → o = (0 : Int32) := fun e => by subst e; exact sp_s (xf_om_n h)
    refine xk_jn2 (α := Unit) G A s.heap ((wXO xa (ya 0) la (pa 0) (qa 0)) ++ ((wLO G la lo) ++ ((wSYc G ya yy_0 yy_1 yy_2 yy_3 yy_4 yy_5 yy_6 yy_7 yy_8) ++ ((wPLc G pa pp_0 pp_1 pp_2 pp_3 pp_4 pp_5 pp_6 pp_7 pp_8) ++ ((wPLc G qa qq_0 qq_1 qq_2 qq_3 qq_4 qq_5 qq_6 qq_7 qq_8) ++ ((wAR G a9 60 ka) ++ ((wAR G r9 24 kr) ++ ((wAR G c9 1 kc) ++ ((wOU G l9 kl) ++ ((wAR G q1 60 o4.1) ++ ((wAR G q2 36 o4.2.1) ++ ((wAR G q3 12 o4.2.2))))))))))))) 18 (fun v48 => [(10, .int v26.1), (9, .int (0 : Int32)), (8, .int v26.2), (6, .ref q2), (5, .ref q1), (0, .ref xa), (1, .ref a9), (2, .ref r9), (3, .ref c9)]) 264 (fun v48 => w28 = some v48) (fun v48 he H locs hP hD hS ls hl => ?_) (fun J27 => ?_)
    · subst he
      have h := xf_om_s h
      refine lv_iconst (v := (0 : Int32)) hx hb dL_isPlan_264 (by decide) ?_
      refine lv_istore (lv' := [(13, .int (0 : Int32)), (10, .int v26.1), (9, .int (0 : Int32)), (8, .int v26.2), (6, .ref q2), (5, .ref q1), (0, .ref xa), (1, .ref a9), (2, .ref r9), (3, .ref c9)]) hx hb dL_isPlan_265 hl (by decide) rfl (fun ls hl => ?_)
      obtain ⟨w50, hw50, h⟩ := sp_b h
      have hq_w50 : w50 = none → o = (0 : Int32) := fun e => by subst e; exact sp_s (xf_om_n h)
      refine xk_jn2 (α := Int32) G A s.heap ((wXO xa (ya 0) la (pa 0) (qa 0)) ++ ((wLO G la lo) ++ ((wSYc G ya yy_0 yy_1 yy_2 yy_3 yy_4 yy_5 yy_6 yy_7 yy_8) ++ ((wPLc G pa pp_0 pp_1 pp_2 pp_3 pp_4 pp_5 pp_6 pp_7 pp_8) ++ ((wPLc G qa qq_0 qq_1 qq_2 qq_3 qq_4 qq_5 qq_6 qq_7 qq_8) ++ ((wAR G a9 60 ka) ++ ((wAR G r9 24 kr) ++ ((wAR G c9 1 kc) ++ ((wOU G l9 kl) ++ ((wAR G q1 60 o4.1) ++ ((wAR G q2 36 o4.2.1) ++ ((wAR G q3 12 o4.2.2))))))))))))) 18 (fun v68 => [(10, .int v26.1), (9, .int v68), (8, .int v26.2), (0, .ref xa)]) 397 (fun v68 => w50 = some v68) (fun v68 he H locs hP hD hS ls hl => ?_) (fun J49 => ?_)
      · subst he
        have h := xf_om_s h
        refine lv_aload_n hx hb dL_isPlan_397 rfl (lv_at hl 3 rfl) ?_
        obtain ⟨o69, ho69, h⟩ := sp_b h
        have hP9 : va_P G.1 vwCl (((wAR G a9 60 ka) ++ ((wAR G r9 24 kr) ++ ((wAR G c9 1 kc) ++ ((wOU G l9 kl) ++ ((wAR G q1 60 o4.1) ++ ((wAR G q2 36 o4.2.1) ++ ((wAR G q3 12 o4.2.2)))))))) ++ ((wXO xa (ya 0) la (pa 0) (qa 0)) ++ ((wLO G la lo) ++ ((wSYc G ya yy_0 yy_1 yy_2 yy_3 yy_4 yy_5 yy_6 yy_7 yy_8) ++ ((wPLc G pa pp_0 pp_1 pp_2 pp_3 pp_4 pp_5 pp_6 pp_7 pp_8) ++ ((wPLc G qa qq_0 qq_1 qq_2 qq_3 qq_4 qq_5 qq_6 qq_7 qq_8))))))) H := xf_P (xf_p_12_56789ab_01234 (wXO xa (ya 0) la (pa 0) (qa 0)) (wLO G la lo) (wSYc G ya yy_0 yy_1 yy_2 yy_3 yy_4 yy_5 yy_6 yy_7 yy_8) (wPLc G pa pp_0 pp_1 pp_2 pp_3 pp_4 pp_5 pp_6 pp_7 pp_8) (wPLc G qa qq_0 qq_1 qq_2 qq_3 qq_4 qq_5 qq_6 qq_7 qq_8) (wAR G a9 60 ka) (wAR G r9 24 kr) (wAR G c9 1 kc) (wOU G l9 kl) (wAR G q1 60 o4.1) (wAR G q2 36 o4.2.1) (wAR G q3 12 o4.2.2)) hP
        have hD9 : va_D A (((wAR G a9 60 ka) ++ ((wAR G r9 24 kr) ++ ((wAR G c9 1 kc) ++ ((wOU G l9 kl) ++ ((wAR G q1 60 o4.1) ++ ((wAR G q2 36 o4.2.1) ++ ((wAR G q3 12 o4.2.2)))))))) ++ ((wXO xa (ya 0) la (pa 0) (qa 0)) ++ ((wLO G la lo) ++ ((wSYc G ya yy_0 yy_1 yy_2 yy_3 yy_4 yy_5 yy_6 yy_7 yy_8) ++ ((wPLc G pa pp_0 pp_1 pp_2 pp_3 pp_4 pp_5 pp_6 pp_7 pp_8) ++ ((wPLc G qa qq_0 qq_1 qq_2 qq_3 qq_4 qq_5 qq_6 qq_7 qq_8))))))) := xf_D (xf_p_12_56789ab_01234 (wXO xa (ya 0) la (pa 0) (qa 0)) (wLO G la lo) (wSYc G ya yy_0 yy_1 yy_2 yy_3 yy_4 yy_5 yy_6 yy_7 yy_8) (wPLc G pa pp_0 pp_1 pp_2 pp_3 pp_4 pp_5 pp_6 pp_7 pp_8) (wPLc G qa qq_0 qq_1 qq_2 qq_3 qq_4 qq_5 qq_6 qq_7 qq_8) (wAR G a9 60 ka) (wAR G r9 24 kr) (wAR G c9 1 kc) (wOU G l9 kl) (wAR G q1 60 o4.1) (wAR G q2 36 o4.2.1) (wAR G q3 12 o4.2.2)) hD
        refine xf_ci (va_runV (As := []) (rest := []) ⟨hx, hb, hml, hown, hts⟩ (c_X2_laid l G xa la ya pa qa lo (yy_0, yy_1, yy_2, yy_3, yy_4, yy_5, yy_6, yy_7, yy_8) (pp_0, pp_1, pp_2, pp_3, pp_4, pp_5, pp_6, pp_7, pp_8) (qq_0, qq_1, qq_2, qq_3, qq_4, qq_5, qq_6, qq_7, qq_8) o69 ho69 H.size) (cwV 0 hts gL_isPlan_X2_laid rfl rfl rfl (by decide +kernel) ⟨(Nat.le_of_ble_eq_true rfl), (Nat.le_of_ble_eq_true rfl)⟩) (xk_preV hK hNE (xf_pr hP9) (xf_dr hD9) (ci := 2) rfl rfl) rfl rfl hl.1 rfl (lv_room (Nat.le_of_ble_eq_true rfl)) dL_isPlan_398 ⟨(Nat.le_of_ble_eq_true rfl), (Nat.le_of_ble_eq_true rfl)⟩) hP9 hD9 hS hA (fun H locs hP hD hS => ?_)
        have hP : va_P G.1 vwCl ((wXO xa (ya 0) la (pa 0) (qa 0)) ++ ((wLO G la lo) ++ ((wSYc G ya yy_0 yy_1 yy_2 yy_3 yy_4 yy_5 yy_6 yy_7 yy_8) ++ ((wPLc G pa pp_0 pp_1 pp_2 pp_3 pp_4 pp_5 pp_6 pp_7 pp_8) ++ ((wPLc G qa qq_0 qq_1 qq_2 qq_3 qq_4 qq_5 qq_6 qq_7 qq_8) ++ ((wAR G a9 60 ka) ++ ((wAR G r9 24 kr) ++ ((wAR G c9 1 kc) ++ ((wOU G l9 kl) ++ ((wAR G q1 60 o4.1) ++ ((wAR G q2 36 o4.2.1) ++ ((wAR G q3 12 o4.2.2))))))))))))) H := xf_P (xf_p_12_56789ab_01234 (wXO xa (ya 0) la (pa 0) (qa 0)) (wLO G la lo) (wSYc G ya yy_0 yy_1 yy_2 yy_3 yy_4 yy_5 yy_6 yy_7 yy_8) (wPLc G pa pp_0 pp_1 pp_2 pp_3 pp_4 pp_5 pp_6 pp_7 pp_8) (wPLc G qa qq_0 qq_1 qq_2 qq_3 qq_4 qq_5 qq_6 qq_7 qq_8) (wAR G a9 60 ka) (wAR G r9 24 kr) (wAR G c9 1 kc) (wOU G l9 kl) (wAR G q1 60 o4.1) (wAR G q2 36 o4.2.1) (wAR G q3 12 o4.2.2)).symm (show va_P G.1 vwCl (((wAR G a9 60 ka) ++ ((wAR G r9 24 kr) ++ ((wAR G c9 1 kc) ++ ((wOU G l9 kl) ++ ((wAR G q1 60 o4.1) ++ ((wAR G q2 36 o4.2.1) ++ ((wAR G q3 12 o4.2.2)))))))) ++ ((wXO xa (ya 0) la (pa 0) (qa 0)) ++ ((wLO G la lo) ++ ((wSYc G ya yy_0 yy_1 yy_2 yy_3 yy_4 yy_5 yy_6 yy_7 yy_8) ++ ((wPLc G pa pp_0 pp_1 pp_2 pp_3 pp_4 pp_5 pp_6 pp_7 pp_8) ++ ((wPLc G qa qq_0 qq_1 qq_2 qq_3 qq_4 qq_5 qq_6 qq_7 qq_8))))))) H from hP)
        have hD : va_D A ((wXO xa (ya 0) la (pa 0) (qa 0)) ++ ((wLO G la lo) ++ ((wSYc G ya yy_0 yy_1 yy_2 yy_3 yy_4 yy_5 yy_6 yy_7 yy_8) ++ ((wPLc G pa pp_0 pp_1 pp_2 pp_3 pp_4 pp_5 pp_6 pp_7 pp_8) ++ ((wPLc G qa qq_0 qq_1 qq_2 qq_3 qq_4 qq_5 qq_6 qq_7 qq_8) ++ ((wAR G a9 60 ka) ++ ((wAR G r9 24 kr) ++ ((wAR G c9 1 kc) ++ ((wOU G l9 kl) ++ ((wAR G q1 60 o4.1) ++ ((wAR G q2 36 o4.2.1) ++ ((wAR G q3 12 o4.2.2))))))))))))) := xf_D (xf_p_12_56789ab_01234 (wXO xa (ya 0) la (pa 0) (qa 0)) (wLO G la lo) (wSYc G ya yy_0 yy_1 yy_2 yy_3 yy_4 yy_5 yy_6 yy_7 yy_8) (wPLc G pa pp_0 pp_1 pp_2 pp_3 pp_4 pp_5 pp_6 pp_7 pp_8) (wPLc G qa qq_0 qq_1 qq_2 qq_3 qq_4 qq_5 qq_6 qq_7 qq_8) (wAR G a9 60 ka) (wAR G r9 24 kr) (wAR G c9 1 kc) (wOU G l9 kl) (wAR G q1 60 o4.1) (wAR G q2 36 o4.2.1) (wAR G q3 12 o4.2.2)).symm (show va_D A (((wAR G a9 60 ka) ++ ((wAR G r9 24 kr) ++ ((wAR G c9 1 kc) ++ ((wOU G l9 kl) ++ ((wAR G q1 60 o4.1) ++ ((wAR G q2 36 o4.2.1) ++ ((wAR G q3 12 o4.2.2)))))))) ++ ((wXO xa (ya 0) la (pa 0) (qa 0)) ++ ((wLO G la lo) ++ ((wSYc G ya yy_0 yy_1 yy_2 yy_3 yy_4 yy_5 yy_6 yy_7 yy_8) ++ ((wPLc G pa pp_0 pp_1 pp_2 pp_3 pp_4 pp_5 pp_6 pp_7 pp_8) ++ ((wPLc G qa qq_0 qq_1 qq_2 qq_3 qq_4 qq_5 qq_6 qq_7 qq_8))))))) from hD)
        refine lv_iload hx hb dL_isPlan_401 (lv_at hl 2 rfl) ?_
        refine lv_icmp_ne (tgt := 428) hx hb dL_isPlan_403 (by decide) (fun c70 => ?_) (fun c70 => ?_)
        · have h := sp_f c70 h
          refine lv_iconst (v := (0 : Int32)) hx hb dL_isPlan_428 (by decide) ?_
          obtain rfl := sp_s h
          have hP9 : va_P G.1 vwCl (((wXO xa (ya 0) la (pa 0) (qa 0)) ++ ((wLO G la lo) ++ ((wSYc G ya yy_0 yy_1 yy_2 yy_3 yy_4 yy_5 yy_6 yy_7 yy_8) ++ ((wPLc G pa pp_0 pp_1 pp_2 pp_3 pp_4 pp_5 pp_6 pp_7 pp_8) ++ ((wPLc G qa qq_0 qq_1 qq_2 qq_3 qq_4 qq_5 qq_6 qq_7 qq_8) ++ ((wAR G a9 60 ka) ++ ((wAR G r9 24 kr) ++ ((wAR G c9 1 kc) ++ ((wOU G l9 kl)))))))))) ++ ((wAR G q1 60 o4.1) ++ ((wAR G q2 36 o4.2.1) ++ ((wAR G q3 12 o4.2.2))))) H := xf_P (xf_p_12_012345678_9ab (wXO xa (ya 0) la (pa 0) (qa 0)) (wLO G la lo) (wSYc G ya yy_0 yy_1 yy_2 yy_3 yy_4 yy_5 yy_6 yy_7 yy_8) (wPLc G pa pp_0 pp_1 pp_2 pp_3 pp_4 pp_5 pp_6 pp_7 pp_8) (wPLc G qa qq_0 qq_1 qq_2 qq_3 qq_4 qq_5 qq_6 qq_7 qq_8) (wAR G a9 60 ka) (wAR G r9 24 kr) (wAR G c9 1 kc) (wOU G l9 kl) (wAR G q1 60 o4.1) (wAR G q2 36 o4.2.1) (wAR G q3 12 o4.2.2)) hP
          have hD9 : va_D A (((wXO xa (ya 0) la (pa 0) (qa 0)) ++ ((wLO G la lo) ++ ((wSYc G ya yy_0 yy_1 yy_2 yy_3 yy_4 yy_5 yy_6 yy_7 yy_8) ++ ((wPLc G pa pp_0 pp_1 pp_2 pp_3 pp_4 pp_5 pp_6 pp_7 pp_8) ++ ((wPLc G qa qq_0 qq_1 qq_2 qq_3 qq_4 qq_5 qq_6 qq_7 qq_8) ++ ((wAR G a9 60 ka) ++ ((wAR G r9 24 kr) ++ ((wAR G c9 1 kc) ++ ((wOU G l9 kl)))))))))) ++ ((wAR G q1 60 o4.1) ++ ((wAR G q2 36 o4.2.1) ++ ((wAR G q3 12 o4.2.2))))) := xf_D (xf_p_12_012345678_9ab (wXO xa (ya 0) la (pa 0) (qa 0)) (wLO G la lo) (wSYc G ya yy_0 yy_1 yy_2 yy_3 yy_4 yy_5 yy_6 yy_7 yy_8) (wPLc G pa pp_0 pp_1 pp_2 pp_3 pp_4 pp_5 pp_6 pp_7 pp_8) (wPLc G qa qq_0 qq_1 qq_2 qq_3 qq_4 qq_5 qq_6 qq_7 qq_8) (wAR G a9 60 ka) (wAR G r9 24 kr) (wAR G c9 1 kc) (wOU G l9 kl) (wAR G q1 60 o4.1) (wAR G q2 36 o4.2.1) (wAR G q3 12 o4.2.2)) hD
          refine W.widen (k := 3) (n := 108) (Nat.le_of_ble_eq_true rfl) (Nat.le_of_ble_eq_true rfl) ?_
          exact xk_reZ hx hb hr hlk rfl (xf_pl hP9) (xf_dl hD9) hS rfl dL_isPlan_429
        · have h := sp_t c70 h
          refine lv_aload_n hx hb dL_isPlan_406 rfl (lv_at hl 3 rfl) ?_
          obtain ⟨o71, ho71, h⟩ := sp_b h
          have hP9 : va_P G.1 vwCl (((wAR G a9 60 ka) ++ ((wAR G r9 24 kr) ++ ((wAR G c9 1 kc) ++ ((wOU G l9 kl) ++ ((wAR G q1 60 o4.1) ++ ((wAR G q2 36 o4.2.1) ++ ((wAR G q3 12 o4.2.2)))))))) ++ ((wXO xa (ya 0) la (pa 0) (qa 0)) ++ ((wLO G la lo) ++ ((wSYc G ya yy_0 yy_1 yy_2 yy_3 yy_4 yy_5 yy_6 yy_7 yy_8) ++ ((wPLc G pa pp_0 pp_1 pp_2 pp_3 pp_4 pp_5 pp_6 pp_7 pp_8) ++ ((wPLc G qa qq_0 qq_1 qq_2 qq_3 qq_4 qq_5 qq_6 qq_7 qq_8))))))) H := xf_P (xf_p_12_56789ab_01234 (wXO xa (ya 0) la (pa 0) (qa 0)) (wLO G la lo) (wSYc G ya yy_0 yy_1 yy_2 yy_3 yy_4 yy_5 yy_6 yy_7 yy_8) (wPLc G pa pp_0 pp_1 pp_2 pp_3 pp_4 pp_5 pp_6 pp_7 pp_8) (wPLc G qa qq_0 qq_1 qq_2 qq_3 qq_4 qq_5 qq_6 qq_7 qq_8) (wAR G a9 60 ka) (wAR G r9 24 kr) (wAR G c9 1 kc) (wOU G l9 kl) (wAR G q1 60 o4.1) (wAR G q2 36 o4.2.1) (wAR G q3 12 o4.2.2)) hP
          have hD9 : va_D A (((wAR G a9 60 ka) ++ ((wAR G r9 24 kr) ++ ((wAR G c9 1 kc) ++ ((wOU G l9 kl) ++ ((wAR G q1 60 o4.1) ++ ((wAR G q2 36 o4.2.1) ++ ((wAR G q3 12 o4.2.2)))))))) ++ ((wXO xa (ya 0) la (pa 0) (qa 0)) ++ ((wLO G la lo) ++ ((wSYc G ya yy_0 yy_1 yy_2 yy_3 yy_4 yy_5 yy_6 yy_7 yy_8) ++ ((wPLc G pa pp_0 pp_1 pp_2 pp_3 pp_4 pp_5 pp_6 pp_7 pp_8) ++ ((wPLc G qa qq_0 qq_1 qq_2 qq_3 qq_4 qq_5 qq_6 qq_7 qq_8))))))) := xf_D (xf_p_12_56789ab_01234 (wXO xa (ya 0) la (pa 0) (qa 0)) (wLO G la lo) (wSYc G ya yy_0 yy_1 yy_2 yy_3 yy_4 yy_5 yy_6 yy_7 yy_8) (wPLc G pa pp_0 pp_1 pp_2 pp_3 pp_4 pp_5 pp_6 pp_7 pp_8) (wPLc G qa qq_0 qq_1 qq_2 qq_3 qq_4 qq_5 qq_6 qq_7 qq_8) (wAR G a9 60 ka) (wAR G r9 24 kr) (wAR G c9 1 kc) (wOU G l9 kl) (wAR G q1 60 o4.1) (wAR G q2 36 o4.2.1) (wAR G q3 12 o4.2.2)) hD
          refine xf_ci (va_runV (As := []) (rest := []) ⟨hx, hb, hml, hown, hts⟩ (c_X2_late l G xa la ya pa qa lo (yy_0, yy_1, yy_2, yy_3, yy_4, yy_5, yy_6, yy_7, yy_8) (pp_0, pp_1, pp_2, pp_3, pp_4, pp_5, pp_6, pp_7, pp_8) (qq_0, qq_1, qq_2, qq_3, qq_4, qq_5, qq_6, qq_7, qq_8) o71 ho71 H.size) (cwV 0 hts gL_isPlan_X2_late rfl rfl rfl (by decide +kernel) ⟨(Nat.le_of_ble_eq_true rfl), (Nat.le_of_ble_eq_true rfl)⟩) (xk_preV hK hNE (xf_pr hP9) (xf_dr hD9) (ci := 2) rfl rfl) rfl rfl hl.1 rfl (lv_room (Nat.le_of_ble_eq_true rfl)) dL_isPlan_407 ⟨(Nat.le_of_ble_eq_true rfl), (Nat.le_of_ble_eq_true rfl)⟩) hP9 hD9 hS hA (fun H locs hP hD hS => ?_)
          have hP : va_P G.1 vwCl ((wXO xa (ya 0) la (pa 0) (qa 0)) ++ ((wLO G la lo) ++ ((wSYc G ya yy_0 yy_1 yy_2 yy_3 yy_4 yy_5 yy_6 yy_7 yy_8) ++ ((wPLc G pa pp_0 pp_1 pp_2 pp_3 pp_4 pp_5 pp_6 pp_7 pp_8) ++ ((wPLc G qa qq_0 qq_1 qq_2 qq_3 qq_4 qq_5 qq_6 qq_7 qq_8) ++ ((wAR G a9 60 ka) ++ ((wAR G r9 24 kr) ++ ((wAR G c9 1 kc) ++ ((wOU G l9 kl) ++ ((wAR G q1 60 o4.1) ++ ((wAR G q2 36 o4.2.1) ++ ((wAR G q3 12 o4.2.2))))))))))))) H := xf_P (xf_p_12_56789ab_01234 (wXO xa (ya 0) la (pa 0) (qa 0)) (wLO G la lo) (wSYc G ya yy_0 yy_1 yy_2 yy_3 yy_4 yy_5 yy_6 yy_7 yy_8) (wPLc G pa pp_0 pp_1 pp_2 pp_3 pp_4 pp_5 pp_6 pp_7 pp_8) (wPLc G qa qq_0 qq_1 qq_2 qq_3 qq_4 qq_5 qq_6 qq_7 qq_8) (wAR G a9 60 ka) (wAR G r9 24 kr) (wAR G c9 1 kc) (wOU G l9 kl) (wAR G q1 60 o4.1) (wAR G q2 36 o4.2.1) (wAR G q3 12 o4.2.2)).symm (show va_P G.1 vwCl (((wAR G a9 60 ka) ++ ((wAR G r9 24 kr) ++ ((wAR G c9 1 kc) ++ ((wOU G l9 kl) ++ ((wAR G q1 60 o4.1) ++ ((wAR G q2 36 o4.2.1) ++ ((wAR G q3 12 o4.2.2)))))))) ++ ((wXO xa (ya 0) la (pa 0) (qa 0)) ++ ((wLO G la lo) ++ ((wSYc G ya yy_0 yy_1 yy_2 yy_3 yy_4 yy_5 yy_6 yy_7 yy_8) ++ ((wPLc G pa pp_0 pp_1 pp_2 pp_3 pp_4 pp_5 pp_6 pp_7 pp_8) ++ ((wPLc G qa qq_0 qq_1 qq_2 qq_3 qq_4 qq_5 qq_6 qq_7 qq_8))))))) H from hP)
          have hD : va_D A ((wXO xa (ya 0) la (pa 0) (qa 0)) ++ ((wLO G la lo) ++ ((wSYc G ya yy_0 yy_1 yy_2 yy_3 yy_4 yy_5 yy_6 yy_7 yy_8) ++ ((wPLc G pa pp_0 pp_1 pp_2 pp_3 pp_4 pp_5 pp_6 pp_7 pp_8) ++ ((wPLc G qa qq_0 qq_1 qq_2 qq_3 qq_4 qq_5 qq_6 qq_7 qq_8) ++ ((wAR G a9 60 ka) ++ ((wAR G r9 24 kr) ++ ((wAR G c9 1 kc) ++ ((wOU G l9 kl) ++ ((wAR G q1 60 o4.1) ++ ((wAR G q2 36 o4.2.1) ++ ((wAR G q3 12 o4.2.2))))))))))))) := xf_D (xf_p_12_56789ab_01234 (wXO xa (ya 0) la (pa 0) (qa 0)) (wLO G la lo) (wSYc G ya yy_0 yy_1 yy_2 yy_3 yy_4 yy_5 yy_6 yy_7 yy_8) (wPLc G pa pp_0 pp_1 pp_2 pp_3 pp_4 pp_5 pp_6 pp_7 pp_8) (wPLc G qa qq_0 qq_1 qq_2 qq_3 qq_4 qq_5 qq_6 qq_7 qq_8) (wAR G a9 60 ka) (wAR G r9 24 kr) (wAR G c9 1 kc) (wOU G l9 kl) (wAR G q1 60 o4.1) (wAR G q2 36 o4.2.1) (wAR G q3 12 o4.2.2)).symm (show va_D A (((wAR G a9 60 ka) ++ ((wAR G r9 24 kr) ++ ((wAR G c9 1 kc) ++ ((wOU G l9 kl) ++ ((wAR G q1 60 o4.1) ++ ((wAR G q2 36 o4.2.1) ++ ((wAR G q3 12 o4.2.2)))))))) ++ ((wXO xa (ya 0) la (pa 0) (qa 0)) ++ ((wLO G la lo) ++ ((wSYc G ya yy_0 yy_1 yy_2 yy_3 yy_4 yy_5 yy_6 yy_7 yy_8) ++ ((wPLc G pa pp_0 pp_1 pp_2 pp_3 pp_4 pp_5 pp_6 pp_7 pp_8) ++ ((wPLc G qa qq_0 qq_1 qq_2 qq_3 qq_4 qq_5 qq_6 qq_7 qq_8))))))) from hD)
          refine lv_iload hx hb dL_isPlan_410 (lv_at hl 1 rfl) ?_
          refine lv_icmp_ne (tgt := 428) hx hb dL_isPlan_412 (by decide) (fun c72 => ?_) (fun c72 => ?_)
          · have h := sp_f c72 h
            refine lv_iconst (v := (0 : Int32)) hx hb dL_isPlan_428 (by decide) ?_
            obtain rfl := sp_s h
            have hP9 : va_P G.1 vwCl (((wXO xa (ya 0) la (pa 0) (qa 0)) ++ ((wLO G la lo) ++ ((wSYc G ya yy_0 yy_1 yy_2 yy_3 yy_4 yy_5 yy_6 yy_7 yy_8) ++ ((wPLc G pa pp_0 pp_1 pp_2 pp_3 pp_4 pp_5 pp_6 pp_7 pp_8) ++ ((wPLc G qa qq_0 qq_1 qq_2 qq_3 qq_4 qq_5 qq_6 qq_7 qq_8) ++ ((wAR G a9 60 ka) ++ ((wAR G r9 24 kr) ++ ((wAR G c9 1 kc) ++ ((wOU G l9 kl)))))))))) ++ ((wAR G q1 60 o4.1) ++ ((wAR G q2 36 o4.2.1) ++ ((wAR G q3 12 o4.2.2))))) H := xf_P (xf_p_12_012345678_9ab (wXO xa (ya 0) la (pa 0) (qa 0)) (wLO G la lo) (wSYc G ya yy_0 yy_1 yy_2 yy_3 yy_4 yy_5 yy_6 yy_7 yy_8) (wPLc G pa pp_0 pp_1 pp_2 pp_3 pp_4 pp_5 pp_6 pp_7 pp_8) (wPLc G qa qq_0 qq_1 qq_2 qq_3 qq_4 qq_5 qq_6 qq_7 qq_8) (wAR G a9 60 ka) (wAR G r9 24 kr) (wAR G c9 1 kc) (wOU G l9 kl) (wAR G q1 60 o4.1) (wAR G q2 36 o4.2.1) (wAR G q3 12 o4.2.2)) hP
            have hD9 : va_D A (((wXO xa (ya 0) la (pa 0) (qa 0)) ++ ((wLO G la lo) ++ ((wSYc G ya yy_0 yy_1 yy_2 yy_3 yy_4 yy_5 yy_6 yy_7 yy_8) ++ ((wPLc G pa pp_0 pp_1 pp_2 pp_3 pp_4 pp_5 pp_6 pp_7 pp_8) ++ ((wPLc G qa qq_0 qq_1 qq_2 qq_3 qq_4 qq_5 qq_6 qq_7 qq_8) ++ ((wAR G a9 60 ka) ++ ((wAR G r9 24 kr) ++ ((wAR G c9 1 kc) ++ ((wOU G l9 kl)))))))))) ++ ((wAR G q1 60 o4.1) ++ ((wAR G q2 36 o4.2.1) ++ ((wAR G q3 12 o4.2.2))))) := xf_D (xf_p_12_012345678_9ab (wXO xa (ya 0) la (pa 0) (qa 0)) (wLO G la lo) (wSYc G ya yy_0 yy_1 yy_2 yy_3 yy_4 yy_5 yy_6 yy_7 yy_8) (wPLc G pa pp_0 pp_1 pp_2 pp_3 pp_4 pp_5 pp_6 pp_7 pp_8) (wPLc G qa qq_0 qq_1 qq_2 qq_3 qq_4 qq_5 qq_6 qq_7 qq_8) (wAR G a9 60 ka) (wAR G r9 24 kr) (wAR G c9 1 kc) (wOU G l9 kl) (wAR G q1 60 o4.1) (wAR G q2 36 o4.2.1) (wAR G q3 12 o4.2.2)) hD
            refine W.widen (k := 3) (n := 108) (Nat.le_of_ble_eq_true rfl) (Nat.le_of_ble_eq_true rfl) ?_
            exact xk_reZ hx hb hr hlk rfl (xf_pl hP9) (xf_dl hD9) hS rfl dL_isPlan_429
          · have h := sp_t c72 h
            refine lv_aload_n hx hb dL_isPlan_415 rfl (lv_at hl 3 rfl) ?_
            obtain ⟨o73, ho73, h⟩ := sp_b h
            have hP9 : va_P G.1 vwCl (((wAR G a9 60 ka) ++ ((wAR G r9 24 kr) ++ ((wAR G c9 1 kc) ++ ((wOU G l9 kl) ++ ((wAR G q1 60 o4.1) ++ ((wAR G q2 36 o4.2.1) ++ ((wAR G q3 12 o4.2.2)))))))) ++ ((wXO xa (ya 0) la (pa 0) (qa 0)) ++ ((wLO G la lo) ++ ((wSYc G ya yy_0 yy_1 yy_2 yy_3 yy_4 yy_5 yy_6 yy_7 yy_8) ++ ((wPLc G pa pp_0 pp_1 pp_2 pp_3 pp_4 pp_5 pp_6 pp_7 pp_8) ++ ((wPLc G qa qq_0 qq_1 qq_2 qq_3 qq_4 qq_5 qq_6 qq_7 qq_8))))))) H := xf_P (xf_p_12_56789ab_01234 (wXO xa (ya 0) la (pa 0) (qa 0)) (wLO G la lo) (wSYc G ya yy_0 yy_1 yy_2 yy_3 yy_4 yy_5 yy_6 yy_7 yy_8) (wPLc G pa pp_0 pp_1 pp_2 pp_3 pp_4 pp_5 pp_6 pp_7 pp_8) (wPLc G qa qq_0 qq_1 qq_2 qq_3 qq_4 qq_5 qq_6 qq_7 qq_8) (wAR G a9 60 ka) (wAR G r9 24 kr) (wAR G c9 1 kc) (wOU G l9 kl) (wAR G q1 60 o4.1) (wAR G q2 36 o4.2.1) (wAR G q3 12 o4.2.2)) hP
            have hD9 : va_D A (((wAR G a9 60 ka) ++ ((wAR G r9 24 kr) ++ ((wAR G c9 1 kc) ++ ((wOU G l9 kl) ++ ((wAR G q1 60 o4.1) ++ ((wAR G q2 36 o4.2.1) ++ ((wAR G q3 12 o4.2.2)))))))) ++ ((wXO xa (ya 0) la (pa 0) (qa 0)) ++ ((wLO G la lo) ++ ((wSYc G ya yy_0 yy_1 yy_2 yy_3 yy_4 yy_5 yy_6 yy_7 yy_8) ++ ((wPLc G pa pp_0 pp_1 pp_2 pp_3 pp_4 pp_5 pp_6 pp_7 pp_8) ++ ((wPLc G qa qq_0 qq_1 qq_2 qq_3 qq_4 qq_5 qq_6 qq_7 qq_8))))))) := xf_D (xf_p_12_56789ab_01234 (wXO xa (ya 0) la (pa 0) (qa 0)) (wLO G la lo) (wSYc G ya yy_0 yy_1 yy_2 yy_3 yy_4 yy_5 yy_6 yy_7 yy_8) (wPLc G pa pp_0 pp_1 pp_2 pp_3 pp_4 pp_5 pp_6 pp_7 pp_8) (wPLc G qa qq_0 qq_1 qq_2 qq_3 qq_4 qq_5 qq_6 qq_7 qq_8) (wAR G a9 60 ka) (wAR G r9 24 kr) (wAR G c9 1 kc) (wOU G l9 kl) (wAR G q1 60 o4.1) (wAR G q2 36 o4.2.1) (wAR G q3 12 o4.2.2)) hD
            refine xf_ci (va_runV (As := []) (rest := []) ⟨hx, hb, hml, hown, hts⟩ (c_X2_lastDay l G xa la ya pa qa lo (yy_0, yy_1, yy_2, yy_3, yy_4, yy_5, yy_6, yy_7, yy_8) (pp_0, pp_1, pp_2, pp_3, pp_4, pp_5, pp_6, pp_7, pp_8) (qq_0, qq_1, qq_2, qq_3, qq_4, qq_5, qq_6, qq_7, qq_8) o73 ho73 H.size) (cwV 0 hts gL_isPlan_X2_lastDay rfl rfl rfl (by decide +kernel) ⟨(Nat.le_of_ble_eq_true rfl), (Nat.le_of_ble_eq_true rfl)⟩) (xk_preV hK hNE (xf_pr hP9) (xf_dr hD9) (ci := 2) rfl rfl) rfl rfl hl.1 rfl (lv_room (Nat.le_of_ble_eq_true rfl)) dL_isPlan_416 ⟨(Nat.le_of_ble_eq_true rfl), (Nat.le_of_ble_eq_true rfl)⟩) hP9 hD9 hS hA (fun H locs hP hD hS => ?_)
            have hP : va_P G.1 vwCl ((wXO xa (ya 0) la (pa 0) (qa 0)) ++ ((wLO G la lo) ++ ((wSYc G ya yy_0 yy_1 yy_2 yy_3 yy_4 yy_5 yy_6 yy_7 yy_8) ++ ((wPLc G pa pp_0 pp_1 pp_2 pp_3 pp_4 pp_5 pp_6 pp_7 pp_8) ++ ((wPLc G qa qq_0 qq_1 qq_2 qq_3 qq_4 qq_5 qq_6 qq_7 qq_8) ++ ((wAR G a9 60 ka) ++ ((wAR G r9 24 kr) ++ ((wAR G c9 1 kc) ++ ((wOU G l9 kl) ++ ((wAR G q1 60 o4.1) ++ ((wAR G q2 36 o4.2.1) ++ ((wAR G q3 12 o4.2.2))))))))))))) H := xf_P (xf_p_12_56789ab_01234 (wXO xa (ya 0) la (pa 0) (qa 0)) (wLO G la lo) (wSYc G ya yy_0 yy_1 yy_2 yy_3 yy_4 yy_5 yy_6 yy_7 yy_8) (wPLc G pa pp_0 pp_1 pp_2 pp_3 pp_4 pp_5 pp_6 pp_7 pp_8) (wPLc G qa qq_0 qq_1 qq_2 qq_3 qq_4 qq_5 qq_6 qq_7 qq_8) (wAR G a9 60 ka) (wAR G r9 24 kr) (wAR G c9 1 kc) (wOU G l9 kl) (wAR G q1 60 o4.1) (wAR G q2 36 o4.2.1) (wAR G q3 12 o4.2.2)).symm (show va_P G.1 vwCl (((wAR G a9 60 ka) ++ ((wAR G r9 24 kr) ++ ((wAR G c9 1 kc) ++ ((wOU G l9 kl) ++ ((wAR G q1 60 o4.1) ++ ((wAR G q2 36 o4.2.1) ++ ((wAR G q3 12 o4.2.2)))))))) ++ ((wXO xa (ya 0) la (pa 0) (qa 0)) ++ ((wLO G la lo) ++ ((wSYc G ya yy_0 yy_1 yy_2 yy_3 yy_4 yy_5 yy_6 yy_7 yy_8) ++ ((wPLc G pa pp_0 pp_1 pp_2 pp_3 pp_4 pp_5 pp_6 pp_7 pp_8) ++ ((wPLc G qa qq_0 qq_1 qq_2 qq_3 qq_4 qq_5 qq_6 qq_7 qq_8))))))) H from hP)
            have hD : va_D A ((wXO xa (ya 0) la (pa 0) (qa 0)) ++ ((wLO G la lo) ++ ((wSYc G ya yy_0 yy_1 yy_2 yy_3 yy_4 yy_5 yy_6 yy_7 yy_8) ++ ((wPLc G pa pp_0 pp_1 pp_2 pp_3 pp_4 pp_5 pp_6 pp_7 pp_8) ++ ((wPLc G qa qq_0 qq_1 qq_2 qq_3 qq_4 qq_5 qq_6 qq_7 qq_8) ++ ((wAR G a9 60 ka) ++ ((wAR G r9 24 kr) ++ ((wAR G c9 1 kc) ++ ((wOU G l9 kl) ++ ((wAR G q1 60 o4.1) ++ ((wAR G q2 36 o4.2.1) ++ ((wAR G q3 12 o4.2.2))))))))))))) := xf_D (xf_p_12_56789ab_01234 (wXO xa (ya 0) la (pa 0) (qa 0)) (wLO G la lo) (wSYc G ya yy_0 yy_1 yy_2 yy_3 yy_4 yy_5 yy_6 yy_7 yy_8) (wPLc G pa pp_0 pp_1 pp_2 pp_3 pp_4 pp_5 pp_6 pp_7 pp_8) (wPLc G qa qq_0 qq_1 qq_2 qq_3 qq_4 qq_5 qq_6 qq_7 qq_8) (wAR G a9 60 ka) (wAR G r9 24 kr) (wAR G c9 1 kc) (wOU G l9 kl) (wAR G q1 60 o4.1) (wAR G q2 36 o4.2.1) (wAR G q3 12 o4.2.2)).symm (show va_D A (((wAR G a9 60 ka) ++ ((wAR G r9 24 kr) ++ ((wAR G c9 1 kc) ++ ((wOU G l9 kl) ++ ((wAR G q1 60 o4.1) ++ ((wAR G q2 36 o4.2.1) ++ ((wAR G q3 12 o4.2.2)))))))) ++ ((wXO xa (ya 0) la (pa 0) (qa 0)) ++ ((wLO G la lo) ++ ((wSYc G ya yy_0 yy_1 yy_2 yy_3 yy_4 yy_5 yy_6 yy_7 yy_8) ++ ((wPLc G pa pp_0 pp_1 pp_2 pp_3 pp_4 pp_5 pp_6 pp_7 pp_8) ++ ((wPLc G qa qq_0 qq_1 qq_2 qq_3 qq_4 qq_5 qq_6 qq_7 qq_8))))))) from hD)
            refine lv_iload hx hb dL_isPlan_419 (lv_at hl 0 rfl) ?_
            refine lv_icmp_ne (tgt := 428) hx hb dL_isPlan_421 (by decide) (fun c74 => ?_) (fun c74 => ?_)
            · have h := sp_f c74 h
              refine lv_iconst (v := (0 : Int32)) hx hb dL_isPlan_428 (by decide) ?_
              obtain rfl := sp_s h
              have hP9 : va_P G.1 vwCl (((wXO xa (ya 0) la (pa 0) (qa 0)) ++ ((wLO G la lo) ++ ((wSYc G ya yy_0 yy_1 yy_2 yy_3 yy_4 yy_5 yy_6 yy_7 yy_8) ++ ((wPLc G pa pp_0 pp_1 pp_2 pp_3 pp_4 pp_5 pp_6 pp_7 pp_8) ++ ((wPLc G qa qq_0 qq_1 qq_2 qq_3 qq_4 qq_5 qq_6 qq_7 qq_8) ++ ((wAR G a9 60 ka) ++ ((wAR G r9 24 kr) ++ ((wAR G c9 1 kc) ++ ((wOU G l9 kl)))))))))) ++ ((wAR G q1 60 o4.1) ++ ((wAR G q2 36 o4.2.1) ++ ((wAR G q3 12 o4.2.2))))) H := xf_P (xf_p_12_012345678_9ab (wXO xa (ya 0) la (pa 0) (qa 0)) (wLO G la lo) (wSYc G ya yy_0 yy_1 yy_2 yy_3 yy_4 yy_5 yy_6 yy_7 yy_8) (wPLc G pa pp_0 pp_1 pp_2 pp_3 pp_4 pp_5 pp_6 pp_7 pp_8) (wPLc G qa qq_0 qq_1 qq_2 qq_3 qq_4 qq_5 qq_6 qq_7 qq_8) (wAR G a9 60 ka) (wAR G r9 24 kr) (wAR G c9 1 kc) (wOU G l9 kl) (wAR G q1 60 o4.1) (wAR G q2 36 o4.2.1) (wAR G q3 12 o4.2.2)) hP
              have hD9 : va_D A (((wXO xa (ya 0) la (pa 0) (qa 0)) ++ ((wLO G la lo) ++ ((wSYc G ya yy_0 yy_1 yy_2 yy_3 yy_4 yy_5 yy_6 yy_7 yy_8) ++ ((wPLc G pa pp_0 pp_1 pp_2 pp_3 pp_4 pp_5 pp_6 pp_7 pp_8) ++ ((wPLc G qa qq_0 qq_1 qq_2 qq_3 qq_4 qq_5 qq_6 qq_7 qq_8) ++ ((wAR G a9 60 ka) ++ ((wAR G r9 24 kr) ++ ((wAR G c9 1 kc) ++ ((wOU G l9 kl)))))))))) ++ ((wAR G q1 60 o4.1) ++ ((wAR G q2 36 o4.2.1) ++ ((wAR G q3 12 o4.2.2))))) := xf_D (xf_p_12_012345678_9ab (wXO xa (ya 0) la (pa 0) (qa 0)) (wLO G la lo) (wSYc G ya yy_0 yy_1 yy_2 yy_3 yy_4 yy_5 yy_6 yy_7 yy_8) (wPLc G pa pp_0 pp_1 pp_2 pp_3 pp_4 pp_5 pp_6 pp_7 pp_8) (wPLc G qa qq_0 qq_1 qq_2 qq_3 qq_4 qq_5 qq_6 qq_7 qq_8) (wAR G a9 60 ka) (wAR G r9 24 kr) (wAR G c9 1 kc) (wOU G l9 kl) (wAR G q1 60 o4.1) (wAR G q2 36 o4.2.1) (wAR G q3 12 o4.2.2)) hD
              refine W.widen (k := 3) (n := 108) (Nat.le_of_ble_eq_true rfl) (Nat.le_of_ble_eq_true rfl) ?_
              exact xk_reZ hx hb hr hlk rfl (xf_pl hP9) (xf_dl hD9) hS rfl dL_isPlan_429
            · have h := sp_t c74 h
              refine lv_iconst (v := (1 : Int32)) hx hb dL_isPlan_424 (by decide) ?_
              refine lv_goto (tgt := 429) hx hb dL_isPlan_425 (by decide) ?_
              obtain rfl := sp_s h
              have hP9 : va_P G.1 vwCl (((wXO xa (ya 0) la (pa 0) (qa 0)) ++ ((wLO G la lo) ++ ((wSYc G ya yy_0 yy_1 yy_2 yy_3 yy_4 yy_5 yy_6 yy_7 yy_8) ++ ((wPLc G pa pp_0 pp_1 pp_2 pp_3 pp_4 pp_5 pp_6 pp_7 pp_8) ++ ((wPLc G qa qq_0 qq_1 qq_2 qq_3 qq_4 qq_5 qq_6 qq_7 qq_8) ++ ((wAR G a9 60 ka) ++ ((wAR G r9 24 kr) ++ ((wAR G c9 1 kc) ++ ((wOU G l9 kl)))))))))) ++ ((wAR G q1 60 o4.1) ++ ((wAR G q2 36 o4.2.1) ++ ((wAR G q3 12 o4.2.2))))) H := xf_P (xf_p_12_012345678_9ab (wXO xa (ya 0) la (pa 0) (qa 0)) (wLO G la lo) (wSYc G ya yy_0 yy_1 yy_2 yy_3 yy_4 yy_5 yy_6 yy_7 yy_8) (wPLc G pa pp_0 pp_1 pp_2 pp_3 pp_4 pp_5 pp_6 pp_7 pp_8) (wPLc G qa qq_0 qq_1 qq_2 qq_3 qq_4 qq_5 qq_6 qq_7 qq_8) (wAR G a9 60 ka) (wAR G r9 24 kr) (wAR G c9 1 kc) (wOU G l9 kl) (wAR G q1 60 o4.1) (wAR G q2 36 o4.2.1) (wAR G q3 12 o4.2.2)) hP
              have hD9 : va_D A (((wXO xa (ya 0) la (pa 0) (qa 0)) ++ ((wLO G la lo) ++ ((wSYc G ya yy_0 yy_1 yy_2 yy_3 yy_4 yy_5 yy_6 yy_7 yy_8) ++ ((wPLc G pa pp_0 pp_1 pp_2 pp_3 pp_4 pp_5 pp_6 pp_7 pp_8) ++ ((wPLc G qa qq_0 qq_1 qq_2 qq_3 qq_4 qq_5 qq_6 qq_7 qq_8) ++ ((wAR G a9 60 ka) ++ ((wAR G r9 24 kr) ++ ((wAR G c9 1 kc) ++ ((wOU G l9 kl)))))))))) ++ ((wAR G q1 60 o4.1) ++ ((wAR G q2 36 o4.2.1) ++ ((wAR G q3 12 o4.2.2))))) := xf_D (xf_p_12_012345678_9ab (wXO xa (ya 0) la (pa 0) (qa 0)) (wLO G la lo) (wSYc G ya yy_0 yy_1 yy_2 yy_3 yy_4 yy_5 yy_6 yy_7 yy_8) (wPLc G pa pp_0 pp_1 pp_2 pp_3 pp_4 pp_5 pp_6 pp_7 pp_8) (wPLc G qa qq_0 qq_1 qq_2 qq_3 qq_4 qq_5 qq_6 qq_7 qq_8) (wAR G a9 60 ka) (wAR G r9 24 kr) (wAR G c9 1 kc) (wOU G l9 kl) (wAR G q1 60 o4.1) (wAR G q2 36 o4.2.1) (wAR G q3 12 o4.2.2)) hD
              refine W.widen (k := 3) (n := 108) (Nat.le_of_ble_eq_true rfl) (Nat.le_of_ble_eq_true rfl) ?_
              exact xk_reZ hx hb hr hlk rfl (xf_pl hP9) (xf_dl hD9) hS rfl dL_isPlan_429
      · have h := hw50
        clear hw50
        refine xk_lp (α := Int32 × Int32) G A s.heap (fun a_49 => ((wXO xa (ya 0) la (pa 0) (qa 0)) ++ ((wLO G la lo) ++ ((wSYc G ya yy_0 yy_1 yy_2 yy_3 yy_4 yy_5 yy_6 yy_7 yy_8) ++ ((wPLc G pa pp_0 pp_1 pp_2 pp_3 pp_4 pp_5 pp_6 pp_7 pp_8) ++ ((wPLc G qa qq_0 qq_1 qq_2 qq_3 qq_4 qq_5 qq_6 qq_7 qq_8) ++ ((wAR G a9 60 ka) ++ ((wAR G r9 24 kr) ++ ((wAR G c9 1 kc) ++ ((wOU G l9 kl) ++ ((wAR G q1 60 o4.1) ++ ((wAR G q2 36 o4.2.1) ++ ((wAR G q3 12 o4.2.2)))))))))))))) 18 (fun a_49 => [(13, .int a_49.1), (10, .int v26.1), (9, .int a_49.2), (8, .int v26.2), (6, .ref q2), (5, .ref q1), (0, .ref xa), (1, .ref a9), (2, .ref r9), (3, .ref c9)]) 267 (fun n a_49 => f_L_isPlan_l267 ka kr kc o4 n a_49.1 a_49.2 = some w50) (fun a_49 h => ?_) (fun n ih_49 a_49 h H locs hP hD hS ls hl => ?_) (fun LL => ?_)
        · exact sp_n ((f_L_isPlan_l267_z _ _ _ _ _ _).symm.trans h)
        · obtain ⟨x13_49, x9_49⟩ := a_49
          have h := (f_L_isPlan_l267_s ka kr kc o4 n x13_49 x9_49).symm.trans h
          have hP : va_P G.1 vwCl ((wXO xa (ya 0) la (pa 0) (qa 0)) ++ ((wLO G la lo) ++ ((wSYc G ya yy_0 yy_1 yy_2 yy_3 yy_4 yy_5 yy_6 yy_7 yy_8) ++ ((wPLc G pa pp_0 pp_1 pp_2 pp_3 pp_4 pp_5 pp_6 pp_7 pp_8) ++ ((wPLc G qa qq_0 qq_1 qq_2 qq_3 qq_4 qq_5 qq_6 qq_7 qq_8) ++ ((wAR G a9 60 ka) ++ ((wAR G r9 24 kr) ++ ((wAR G c9 1 kc) ++ ((wOU G l9 kl) ++ ((wAR G q1 60 o4.1) ++ ((wAR G q2 36 o4.2.1) ++ ((wAR G q3 12 o4.2.2))))))))))))) H := hP
          have hD : va_D A ((wXO xa (ya 0) la (pa 0) (qa 0)) ++ ((wLO G la lo) ++ ((wSYc G ya yy_0 yy_1 yy_2 yy_3 yy_4 yy_5 yy_6 yy_7 yy_8) ++ ((wPLc G pa pp_0 pp_1 pp_2 pp_3 pp_4 pp_5 pp_6 pp_7 pp_8) ++ ((wPLc G qa qq_0 qq_1 qq_2 qq_3 qq_4 qq_5 qq_6 qq_7 qq_8) ++ ((wAR G a9 60 ka) ++ ((wAR G r9 24 kr) ++ ((wAR G c9 1 kc) ++ ((wOU G l9 kl) ++ ((wAR G q1 60 o4.1) ++ ((wAR G q2 36 o4.2.1) ++ ((wAR G q3 12 o4.2.2))))))))))))) := hD
          have hl : lv_has ls 18 [(13, .int x13_49), (10, .int v26.1), (9, .int x9_49), (8, .int v26.2), (6, .ref q2), (5, .ref q1), (0, .ref xa), (1, .ref a9), (2, .ref r9), (3, .ref c9)] := hl
          refine lv_iload hx hb dL_isPlan_267 (lv_at hl 0 rfl) ?_
          refine lv_aload_n hx hb dL_isPlan_269 rfl (lv_at hl 9 rfl) ?_
          refine lv_iconst (v := (0 : Int32)) hx hb dL_isPlan_270 (by decide) ?_
          refine va_iald hx hb hK hP 27 0 rfl rfl (xk_in0_1) dL_isPlan_271 ?_
          refine lv_icmp_ge (tgt := 397) hx hb dL_isPlan_272 (by decide) (fun c51 => ?_) (fun c51 => ?_)
          · have h := sp_t c51 h
            obtain rfl := sp_s h
            exact J49 _ rfl _ _ hP hD hS _ (lv_sub hl [1, 2, 3, 6] rfl)
          · have h := sp_f c51 h
            refine lv_aload hx hb dL_isPlan_275 (lv_at hl 5 rfl) ?_
            refine lv_iconst (v := (5 : Int32)) hx hb dL_isPlan_277 (by decide) ?_
            refine lv_iload hx hb dL_isPlan_278 (lv_at hl 0 rfl) ?_
            refine lv_imul hx hb dL_isPlan_280 ?_
            refine lv_aload_n hx hb dL_isPlan_281 rfl (lv_at hl 7 rfl) ?_
            refine lv_iconst (v := (5 : Int32)) hx hb dL_isPlan_282 (by decide) ?_
            refine lv_iload hx hb dL_isPlan_283 (lv_at hl 0 rfl) ?_
            refine lv_imul hx hb dL_isPlan_285 ?_
            obtain ⟨hin52, h⟩ := sp_g h
            refine va_iald hx hb hK hP 25 0 rfl rfl hin52 dL_isPlan_286 ?_
            refine lv_iadd hx hb dL_isPlan_287 ?_
            refine lv_iconst (v := (1 : Int32)) hx hb dL_isPlan_288 (by decide) ?_
            refine lv_isub hx hb dL_isPlan_289 ?_
            obtain ⟨hin53, h⟩ := sp_g h
            refine va_iald hx hb hK hP 29 0 rfl rfl hin53 dL_isPlan_290 ?_
            refine lv_istore (lv' := [(14, .int (o4.1 ((((5 : Int32) * x13_49) + (ka ((5 : Int32) * x13_49).toNatClampNeg)) - (1 : Int32)).toNatClampNeg)), (13, .int x13_49), (10, .int v26.1), (9, .int x9_49), (8, .int v26.2), (6, .ref q2), (5, .ref q1), (0, .ref xa), (1, .ref a9), (2, .ref r9), (3, .ref c9)]) hx hb dL_isPlan_291 hl (by decide) rfl (fun ls hl => ?_)
            refine lv_iconst (v := (0 : Int32)) hx hb dL_isPlan_293 (by decide) ?_
            refine lv_istore (lv' := [(15, .int (0 : Int32)), (14, .int (o4.1 ((((5 : Int32) * x13_49) + (ka ((5 : Int32) * x13_49).toNatClampNeg)) - (1 : Int32)).toNatClampNeg)), (13, .int x13_49), (10, .int v26.1), (9, .int x9_49), (8, .int v26.2), (6, .ref q2), (5, .ref q1), (0, .ref xa), (1, .ref a9), (2, .ref r9), (3, .ref c9)]) hx hb dL_isPlan_294 hl (by decide) rfl (fun ls hl => ?_)
            obtain ⟨w55, hw55, h⟩ := sp_b h
            have hq_w55 : w55 = none → o = (0 : Int32) := fun e => by subst e; exact hq_w50 (sp_s (xf_om_n h))
            refine xk_jn2 (α := Int32) G A s.heap ((wXO xa (ya 0) la (pa 0) (qa 0)) ++ ((wLO G la lo) ++ ((wSYc G ya yy_0 yy_1 yy_2 yy_3 yy_4 yy_5 yy_6 yy_7 yy_8) ++ ((wPLc G pa pp_0 pp_1 pp_2 pp_3 pp_4 pp_5 pp_6 pp_7 pp_8) ++ ((wPLc G qa qq_0 qq_1 qq_2 qq_3 qq_4 qq_5 qq_6 qq_7 qq_8) ++ ((wAR G a9 60 ka) ++ ((wAR G r9 24 kr) ++ ((wAR G c9 1 kc) ++ ((wOU G l9 kl) ++ ((wAR G q1 60 o4.1) ++ ((wAR G q2 36 o4.2.1) ++ ((wAR G q3 12 o4.2.2))))))))))))) 18 (fun v67 => [(13, .int x13_49), (10, .int v26.1), (9, .int v67), (8, .int v26.2), (6, .ref q2), (5, .ref q1), (0, .ref xa), (1, .ref a9), (2, .ref r9), (3, .ref c9)]) 391 (fun v67 => w55 = some v67) (fun v67 he H locs hP hD hS ls hl => ?_) (fun J54 => ?_)
            · subst he
              have h := xf_om_s h
              refine lv_iinc (v := (x13_49 + (1 : Int32))) (lv' := [(13, .int (x13_49 + (1 : Int32))), (10, .int v26.1), (9, .int v67), (8, .int v26.2), (6, .ref q2), (5, .ref q1), (0, .ref xa), (1, .ref a9), (2, .ref r9), (3, .ref c9)]) hx hb dL_isPlan_391 hl (k := 0) rfl rfl (by decide) rfl (fun ls hl => ?_)
              refine lv_goto (tgt := 267) hx hb dL_isPlan_394 (by decide) ?_
              exact ih_49 ((x13_49 + (1 : Int32)), v67) h _ _ hP hD hS _ (lv_sub hl [0, 1, 2, 3, 4, 5, 6, 7, 8, 9] rfl)
            · have h := hw55
              clear hw55
              refine xk_lp (α := Int32 × Int32 × Int32) G A s.heap (fun a_54 => ((wXO xa (ya 0) la (pa 0) (qa 0)) ++ ((wLO G la lo) ++ ((wSYc G ya yy_0 yy_1 yy_2 yy_3 yy_4 yy_5 yy_6 yy_7 yy_8) ++ ((wPLc G pa pp_0 pp_1 pp_2 pp_3 pp_4 pp_5 pp_6 pp_7 pp_8) ++ ((wPLc G qa qq_0 qq_1 qq_2 qq_3 qq_4 qq_5 qq_6 qq_7 qq_8) ++ ((wAR G a9 60 ka) ++ ((wAR G r9 24 kr) ++ ((wAR G c9 1 kc) ++ ((wOU G l9 kl) ++ ((wAR G q1 60 o4.1) ++ ((wAR G q2 36 o4.2.1) ++ ((wAR G q3 12 o4.2.2)))))))))))))) 18 (fun a_54 => [(15, .int a_54.1), (14, .int a_54.2.1), (13, .int x13_49), (10, .int v26.1), (9, .int a_54.2.2), (8, .int v26.2), (6, .ref q2), (5, .ref q1), (0, .ref xa), (1, .ref a9), (2, .ref r9), (3, .ref c9)]) 296 (fun n a_54 => f_L_isPlan_l296 kr o4 x13_49 n a_54.1 a_54.2.1 a_54.2.2 = some w55) (fun a_54 h => ?_) (fun n ih_54 a_54 h H locs hP hD hS ls hl => ?_) (fun LL => ?_)
              · exact sp_n ((f_L_isPlan_l296_z _ _ _ _ _ _).symm.trans h)
              · obtain ⟨x15_54, x14_54, x9_54⟩ := a_54
                have h := (f_L_isPlan_l296_s kr o4 x13_49 n x15_54 x14_54 x9_54).symm.trans h
                have hP : va_P G.1 vwCl ((wXO xa (ya 0) la (pa 0) (qa 0)) ++ ((wLO G la lo) ++ ((wSYc G ya yy_0 yy_1 yy_2 yy_3 yy_4 yy_5 yy_6 yy_7 yy_8) ++ ((wPLc G pa pp_0 pp_1 pp_2 pp_3 pp_4 pp_5 pp_6 pp_7 pp_8) ++ ((wPLc G qa qq_0 qq_1 qq_2 qq_3 qq_4 qq_5 qq_6 qq_7 qq_8) ++ ((wAR G a9 60 ka) ++ ((wAR G r9 24 kr) ++ ((wAR G c9 1 kc) ++ ((wOU G l9 kl) ++ ((wAR G q1 60 o4.1) ++ ((wAR G q2 36 o4.2.1) ++ ((wAR G q3 12 o4.2.2))))))))))))) H := hP
                have hD : va_D A ((wXO xa (ya 0) la (pa 0) (qa 0)) ++ ((wLO G la lo) ++ ((wSYc G ya yy_0 yy_1 yy_2 yy_3 yy_4 yy_5 yy_6 yy_7 yy_8) ++ ((wPLc G pa pp_0 pp_1 pp_2 pp_3 pp_4 pp_5 pp_6 pp_7 pp_8) ++ ((wPLc G qa qq_0 qq_1 qq_2 qq_3 qq_4 qq_5 qq_6 qq_7 qq_8) ++ ((wAR G a9 60 ka) ++ ((wAR G r9 24 kr) ++ ((wAR G c9 1 kc) ++ ((wOU G l9 kl) ++ ((wAR G q1 60 o4.1) ++ ((wAR G q2 36 o4.2.1) ++ ((wAR G q3 12 o4.2.2))))))))))))) := hD
                have hl : lv_has ls 18 [(15, .int x15_54), (14, .int x14_54), (13, .int x13_49), (10, .int v26.1), (9, .int x9_54), (8, .int v26.2), (6, .ref q2), (5, .ref q1), (0, .ref xa), (1, .ref a9), (2, .ref r9), (3, .ref c9)] := hl
                refine lv_iload hx hb dL_isPlan_296 (lv_at hl 0 rfl) ?_
                refine lv_aload_n hx hb dL_isPlan_298 rfl (lv_at hl 10 rfl) ?_
                refine lv_iconst (v := (2 : Int32)) hx hb dL_isPlan_299 (by decide) ?_
                refine lv_iload hx hb dL_isPlan_300 (lv_at hl 2 rfl) ?_
                refine lv_imul hx hb dL_isPlan_302 ?_
                obtain ⟨hin56, h⟩ := sp_g h
                refine va_iald hx hb hK hP 26 0 rfl rfl hin56 dL_isPlan_303 ?_
                refine lv_icmp_ge (tgt := 391) hx hb dL_isPlan_304 (by decide) (fun c57 => ?_) (fun c57 => ?_)
                · have h := sp_t c57 h
                  obtain rfl := sp_s h
                  exact J54 _ rfl _ _ hP hD hS _ (lv_sub hl [2, 3, 4, 5, 6, 7, 8, 9, 10, 11] rfl)
                · have h := sp_f c57 h
                  refine lv_aload hx hb dL_isPlan_307 (lv_at hl 6 rfl) ?_
                  refine lv_iconst (v := (3 : Int32)) hx hb dL_isPlan_309 (by decide) ?_
                  refine lv_iload hx hb dL_isPlan_310 (lv_at hl 2 rfl) ?_
                  refine lv_imul hx hb dL_isPlan_312 ?_
                  refine lv_iload hx hb dL_isPlan_313 (lv_at hl 0 rfl) ?_
                  refine lv_iadd hx hb dL_isPlan_315 ?_
                  obtain ⟨hin58, h⟩ := sp_g h
                  refine va_iald hx hb hK hP 30 0 rfl rfl hin58 dL_isPlan_316 ?_
                  refine lv_istore (lv' := [(16, .int (o4.2.1 (((3 : Int32) * x13_49) + x15_54).toNatClampNeg)), (15, .int x15_54), (14, .int x14_54), (13, .int x13_49), (10, .int v26.1), (9, .int x9_54), (8, .int v26.2), (6, .ref q2), (5, .ref q1), (0, .ref xa), (1, .ref a9), (2, .ref r9), (3, .ref c9)]) hx hb dL_isPlan_317 hl (by decide) rfl (fun ls hl => ?_)
                  refine lv_aload_n hx hb dL_isPlan_319 rfl (lv_at hl 11 rfl) ?_
                  refine lv_iconst (v := (2 : Int32)) hx hb dL_isPlan_320 (by decide) ?_
                  refine lv_iload hx hb dL_isPlan_321 (lv_at hl 3 rfl) ?_
                  refine lv_imul hx hb dL_isPlan_323 ?_
                  refine lv_iconst (v := (1 : Int32)) hx hb dL_isPlan_324 (by decide) ?_
                  refine lv_iadd hx hb dL_isPlan_325 ?_
                  obtain ⟨hin59, h⟩ := sp_g h
                  refine va_iald hx hb hK hP 26 0 rfl rfl hin59 dL_isPlan_326 ?_
                  refine lv_iload hx hb dL_isPlan_327 (lv_at hl 1 rfl) ?_
                  refine lv_ishl hx hb dL_isPlan_329 ?_
                  refine lv_istore (lv' := [(17, .int ((kr (((2 : Int32) * x13_49) + (1 : Int32)).toNatClampNeg) <<< (x15_54 &&& 31))), (16, .int (o4.2.1 (((3 : Int32) * x13_49) + x15_54).toNatClampNeg)), (15, .int x15_54), (14, .int x14_54), (13, .int x13_49), (10, .int v26.1), (9, .int x9_54), (8, .int v26.2), (6, .ref q2), (5, .ref q1), (0, .ref xa), (1, .ref a9), (2, .ref r9), (3, .ref c9)]) hx hb dL_isPlan_330 hl (by decide) rfl (fun ls hl => ?_)
                  refine lv_iload hx hb dL_isPlan_332 (lv_at hl 1 rfl) ?_
                  refine lv_if_lt (tgt := 354) hx hb dL_isPlan_334 (by decide) (fun c60 => ?_) (fun c60 => ?_)
                  · have h := sp_t c60 h
                    refine lv_iload hx hb dL_isPlan_354 (lv_at hl 6 rfl) ?_
                    refine lv_iload hx hb dL_isPlan_356 (lv_at hl 1 rfl) ?_
                    refine lv_if_lt (tgt := 377) hx hb dL_isPlan_358 (by decide) (fun _ => ?_) (fun c61 => absurd c60 c61)
                    refine lv_iconst (v := (0 : Int32)) hx hb dL_isPlan_377 (by decide) ?_
                    refine lv_iadd hx hb dL_isPlan_378 ?_
                    refine lv_istore (lv' := [(9, .int (x9_54 + (0 : Int32))), (17, .int ((kr (((2 : Int32) * x13_49) + (1 : Int32)).toNatClampNeg) <<< (x15_54 &&& 31))), (16, .int (o4.2.1 (((3 : Int32) * x13_49) + x15_54).toNatClampNeg)), (15, .int x15_54), (14, .int x14_54), (13, .int x13_49), (10, .int v26.1), (8, .int v26.2), (6, .ref q2), (5, .ref q1), (0, .ref xa), (1, .ref a9), (2, .ref r9), (3, .ref c9)]) hx hb dL_isPlan_379 hl (by decide) rfl (fun ls hl => ?_)
                    refine lv_iload hx hb dL_isPlan_381 (lv_at hl 2 rfl) ?_
                    refine lv_istore (lv' := [(14, .int (o4.2.1 (((3 : Int32) * x13_49) + x15_54).toNatClampNeg)), (9, .int (x9_54 + (0 : Int32))), (17, .int ((kr (((2 : Int32) * x13_49) + (1 : Int32)).toNatClampNeg) <<< (x15_54 &&& 31))), (16, .int (o4.2.1 (((3 : Int32) * x13_49) + x15_54).toNatClampNeg)), (15, .int x15_54), (13, .int x13_49), (10, .int v26.1), (8, .int v26.2), (6, .ref q2), (5, .ref q1), (0, .ref xa), (1, .ref a9), (2, .ref r9), (3, .ref c9)]) hx hb dL_isPlan_383 hl (by decide) rfl (fun ls hl => ?_)
                    refine lv_iinc (v := (x15_54 + (1 : Int32))) (lv' := [(15, .int (x15_54 + (1 : Int32))), (14, .int (o4.2.1 (((3 : Int32) * x13_49) + x15_54).toNatClampNeg)), (9, .int (x9_54 + (0 : Int32))), (17, .int ((kr (((2 : Int32) * x13_49) + (1 : Int32)).toNatClampNeg) <<< (x15_54 &&& 31))), (16, .int (o4.2.1 (((3 : Int32) * x13_49) + x15_54).toNatClampNeg)), (13, .int x13_49), (10, .int v26.1), (8, .int v26.2), (6, .ref q2), (5, .ref q1), (0, .ref xa), (1, .ref a9), (2, .ref r9), (3, .ref c9)]) hx hb dL_isPlan_385 hl (k := 4) rfl rfl (by decide) rfl (fun ls hl => ?_)
                    refine lv_goto (tgt := 296) hx hb dL_isPlan_388 (by decide) ?_
                    exact ih_54 ((x15_54 + (1 : Int32)), (o4.2.1 (((3 : Int32) * x13_49) + x15_54).toNatClampNeg), (x9_54 + (0 : Int32))) h _ _ hP hD hS _ (lv_sub hl [0, 1, 5, 6, 2, 7, 8, 9, 10, 11, 12, 13] rfl)
                  · have h := sp_f c60 h
                    refine lv_iload hx hb dL_isPlan_337 (lv_at hl 3 rfl) ?_
                    refine lv_if_lt (tgt := 352) hx hb dL_isPlan_339 (by decide) (fun c62 => ?_) (fun c62 => ?_)
                    · have h := sp_t c62 h
                      have e9 := hq_w55 (sp_s h)
                      have hP9 : va_P G.1 vwCl (((wXO xa (ya 0) la (pa 0) (qa 0)) ++ ((wLO G la lo) ++ ((wSYc G ya yy_0 yy_1 yy_2 yy_3 yy_4 yy_5 yy_6 yy_7 yy_8) ++ ((wPLc G pa pp_0 pp_1 pp_2 pp_3 pp_4 pp_5 pp_6 pp_7 pp_8) ++ ((wPLc G qa qq_0 qq_1 qq_2 qq_3 qq_4 qq_5 qq_6 qq_7 qq_8) ++ ((wAR G a9 60 ka) ++ ((wAR G r9 24 kr) ++ ((wAR G c9 1 kc) ++ ((wOU G l9 kl)))))))))) ++ ((wAR G q1 60 o4.1) ++ ((wAR G q2 36 o4.2.1) ++ ((wAR G q3 12 o4.2.2))))) H := xf_P (xf_p_12_012345678_9ab (wXO xa (ya 0) la (pa 0) (qa 0)) (wLO G la lo) (wSYc G ya yy_0 yy_1 yy_2 yy_3 yy_4 yy_5 yy_6 yy_7 yy_8) (wPLc G pa pp_0 pp_1 pp_2 pp_3 pp_4 pp_5 pp_6 pp_7 pp_8) (wPLc G qa qq_0 qq_1 qq_2 qq_3 qq_4 qq_5 qq_6 qq_7 qq_8) (wAR G a9 60 ka) (wAR G r9 24 kr) (wAR G c9 1 kc) (wOU G l9 kl) (wAR G q1 60 o4.1) (wAR G q2 36 o4.2.1) (wAR G q3 12 o4.2.2)) hP
                      have hD9 : va_D A (((wXO xa (ya 0) la (pa 0) (qa 0)) ++ ((wLO G la lo) ++ ((wSYc G ya yy_0 yy_1 yy_2 yy_3 yy_4 yy_5 yy_6 yy_7 yy_8) ++ ((wPLc G pa pp_0 pp_1 pp_2 pp_3 pp_4 pp_5 pp_6 pp_7 pp_8) ++ ((wPLc G qa qq_0 qq_1 qq_2 qq_3 qq_4 qq_5 qq_6 qq_7 qq_8) ++ ((wAR G a9 60 ka) ++ ((wAR G r9 24 kr) ++ ((wAR G c9 1 kc) ++ ((wOU G l9 kl)))))))))) ++ ((wAR G q1 60 o4.1) ++ ((wAR G q2 36 o4.2.1) ++ ((wAR G q3 12 o4.2.2))))) := xf_D (xf_p_12_012345678_9ab (wXO xa (ya 0) la (pa 0) (qa 0)) (wLO G la lo) (wSYc G ya yy_0 yy_1 yy_2 yy_3 yy_4 yy_5 yy_6 yy_7 yy_8) (wPLc G pa pp_0 pp_1 pp_2 pp_3 pp_4 pp_5 pp_6 pp_7 pp_8) (wPLc G qa qq_0 qq_1 qq_2 qq_3 qq_4 qq_5 qq_6 qq_7 qq_8) (wAR G a9 60 ka) (wAR G r9 24 kr) (wAR G c9 1 kc) (wOU G l9 kl) (wAR G q1 60 o4.1) (wAR G q2 36 o4.2.1) (wAR G q3 12 o4.2.2)) hD
                      refine lv_iconst (v := (0 : Int32)) hx hb dL_isPlan_352 (by decide) ?_
                      refine W.widen (k := 3) (n := 108) (Nat.le_of_ble_eq_true rfl) (Nat.le_of_ble_eq_true rfl) ?_
                      exact xk_reZ hx hb hr hlk rfl (xf_pl hP9) (xf_dl hD9) hS e9.symm dL_isPlan_353
                    · have h := sp_f c62 h
                      refine lv_iload hx hb dL_isPlan_342 (lv_at hl 1 rfl) ?_
                      refine lv_iload hx hb dL_isPlan_344 (lv_at hl 3 rfl) ?_
                      refine lv_iload hx hb dL_isPlan_346 (lv_at hl 0 rfl) ?_
                      refine lv_iadd hx hb dL_isPlan_348 ?_
                      refine lv_icmp_ge (tgt := 354) hx hb dL_isPlan_349 (by decide) (fun c63 => ?_) (fun c63 => ?_)
                      · have h := sp_t c63 h
                        refine lv_iload hx hb dL_isPlan_354 (lv_at hl 6 rfl) ?_
                        refine lv_iload hx hb dL_isPlan_356 (lv_at hl 1 rfl) ?_
                        refine lv_if_lt (tgt := 377) hx hb dL_isPlan_358 (by decide) (fun c64 => absurd c64 c60) (fun _ => ?_)
                        refine lv_iload hx hb dL_isPlan_361 (lv_at hl 1 rfl) ?_
                        refine lv_iload hx hb dL_isPlan_363 (lv_at hl 3 rfl) ?_
                        refine lv_iconst (v := (2 : Int32)) hx hb dL_isPlan_365 (by decide) ?_
                        refine lv_iload hx hb dL_isPlan_366 (lv_at hl 0 rfl) ?_
                        refine lv_imul hx hb dL_isPlan_368 ?_
                        refine lv_iadd hx hb dL_isPlan_369 ?_
                        obtain ⟨v65, hv65, h⟩ := sp_b h
                        refine xk_jn G A s.heap ((wXO xa (ya 0) la (pa 0) (qa 0)) ++ ((wLO G la lo) ++ ((wSYc G ya yy_0 yy_1 yy_2 yy_3 yy_4 yy_5 yy_6 yy_7 yy_8) ++ ((wPLc G pa pp_0 pp_1 pp_2 pp_3 pp_4 pp_5 pp_6 pp_7 pp_8) ++ ((wPLc G qa qq_0 qq_1 qq_2 qq_3 qq_4 qq_5 qq_6 qq_7 qq_8) ++ ((wAR G a9 60 ka) ++ ((wAR G r9 24 kr) ++ ((wAR G c9 1 kc) ++ ((wOU G l9 kl) ++ ((wAR G q1 60 o4.1) ++ ((wAR G q2 36 o4.2.1) ++ ((wAR G q3 12 o4.2.2))))))))))))) 18 [(16, .int (o4.2.1 (((3 : Int32) * x13_49) + x15_54).toNatClampNeg)), (15, .int x15_54), (13, .int x13_49), (10, .int v26.1), (8, .int v26.2), (6, .ref q2), (5, .ref q1), (0, .ref xa), (1, .ref a9), (2, .ref r9), (3, .ref c9)] 378 [.int v65, .int x9_54] (fun H locs hP hD hS ls hl => ?_) (fun J65 => ?_)
                        · refine lv_iadd hx hb dL_isPlan_378 ?_
                          refine lv_istore (lv' := [(9, .int (x9_54 + v65)), (16, .int (o4.2.1 (((3 : Int32) * x13_49) + x15_54).toNatClampNeg)), (15, .int x15_54), (13, .int x13_49), (10, .int v26.1), (8, .int v26.2), (6, .ref q2), (5, .ref q1), (0, .ref xa), (1, .ref a9), (2, .ref r9), (3, .ref c9)]) hx hb dL_isPlan_379 hl (by decide) rfl (fun ls hl => ?_)
                          refine lv_iload hx hb dL_isPlan_381 (lv_at hl 1 rfl) ?_
                          refine lv_istore (lv' := [(14, .int (o4.2.1 (((3 : Int32) * x13_49) + x15_54).toNatClampNeg)), (9, .int (x9_54 + v65)), (16, .int (o4.2.1 (((3 : Int32) * x13_49) + x15_54).toNatClampNeg)), (15, .int x15_54), (13, .int x13_49), (10, .int v26.1), (8, .int v26.2), (6, .ref q2), (5, .ref q1), (0, .ref xa), (1, .ref a9), (2, .ref r9), (3, .ref c9)]) hx hb dL_isPlan_383 hl (by decide) rfl (fun ls hl => ?_)
                          refine lv_iinc (v := (x15_54 + (1 : Int32))) (lv' := [(15, .int (x15_54 + (1 : Int32))), (14, .int (o4.2.1 (((3 : Int32) * x13_49) + x15_54).toNatClampNeg)), (9, .int (x9_54 + v65)), (16, .int (o4.2.1 (((3 : Int32) * x13_49) + x15_54).toNatClampNeg)), (13, .int x13_49), (10, .int v26.1), (8, .int v26.2), (6, .ref q2), (5, .ref q1), (0, .ref xa), (1, .ref a9), (2, .ref r9), (3, .ref c9)]) hx hb dL_isPlan_385 hl (k := 3) rfl rfl (by decide) rfl (fun ls hl => ?_)
                          refine lv_goto (tgt := 296) hx hb dL_isPlan_388 (by decide) ?_
                          exact ih_54 ((x15_54 + (1 : Int32)), (o4.2.1 (((3 : Int32) * x13_49) + x15_54).toNatClampNeg), (x9_54 + v65)) h _ _ hP hD hS _ (lv_sub hl [0, 1, 4, 5, 2, 6, 7, 8, 9, 10, 11, 12] rfl)
                        · have h := hv65
                          clear hv65
                          refine lv_icmp_lt (tgt := 377) hx hb dL_isPlan_370 (by decide) (fun c66 => ?_) (fun c66 => ?_)
                          · have h := sp_t c66 h
                            refine lv_iconst (v := (0 : Int32)) hx hb dL_isPlan_377 (by decide) ?_
                            obtain rfl := sp_s h
                            exact J65 _ _ hP hD hS _ (lv_sub hl [1, 2, 4, 5, 7, 8, 9, 10, 11, 12, 13] rfl)
                          · have h := sp_f c66 h
                            refine lv_iconst (v := (1 : Int32)) hx hb dL_isPlan_373 (by decide) ?_
                            refine lv_goto (tgt := 378) hx hb dL_isPlan_374 (by decide) ?_
                            obtain rfl := sp_s h
                            exact J65 _ _ hP hD hS _ (lv_sub hl [1, 2, 4, 5, 7, 8, 9, 10, 11, 12, 13] rfl)
                      · have h := sp_f c63 h
                        have e9 := hq_w55 (sp_s h)
                        have hP9 : va_P G.1 vwCl (((wXO xa (ya 0) la (pa 0) (qa 0)) ++ ((wLO G la lo) ++ ((wSYc G ya yy_0 yy_1 yy_2 yy_3 yy_4 yy_5 yy_6 yy_7 yy_8) ++ ((wPLc G pa pp_0 pp_1 pp_2 pp_3 pp_4 pp_5 pp_6 pp_7 pp_8) ++ ((wPLc G qa qq_0 qq_1 qq_2 qq_3 qq_4 qq_5 qq_6 qq_7 qq_8) ++ ((wAR G a9 60 ka) ++ ((wAR G r9 24 kr) ++ ((wAR G c9 1 kc) ++ ((wOU G l9 kl)))))))))) ++ ((wAR G q1 60 o4.1) ++ ((wAR G q2 36 o4.2.1) ++ ((wAR G q3 12 o4.2.2))))) H := xf_P (xf_p_12_012345678_9ab (wXO xa (ya 0) la (pa 0) (qa 0)) (wLO G la lo) (wSYc G ya yy_0 yy_1 yy_2 yy_3 yy_4 yy_5 yy_6 yy_7 yy_8) (wPLc G pa pp_0 pp_1 pp_2 pp_3 pp_4 pp_5 pp_6 pp_7 pp_8) (wPLc G qa qq_0 qq_1 qq_2 qq_3 qq_4 qq_5 qq_6 qq_7 qq_8) (wAR G a9 60 ka) (wAR G r9 24 kr) (wAR G c9 1 kc) (wOU G l9 kl) (wAR G q1 60 o4.1) (wAR G q2 36 o4.2.1) (wAR G q3 12 o4.2.2)) hP
                        have hD9 : va_D A (((wXO xa (ya 0) la (pa 0) (qa 0)) ++ ((wLO G la lo) ++ ((wSYc G ya yy_0 yy_1 yy_2 yy_3 yy_4 yy_5 yy_6 yy_7 yy_8) ++ ((wPLc G pa pp_0 pp_1 pp_2 pp_3 pp_4 pp_5 pp_6 pp_7 pp_8) ++ ((wPLc G qa qq_0 qq_1 qq_2 qq_3 qq_4 qq_5 qq_6 qq_7 qq_8) ++ ((wAR G a9 60 ka) ++ ((wAR G r9 24 kr) ++ ((wAR G c9 1 kc) ++ ((wOU G l9 kl)))))))))) ++ ((wAR G q1 60 o4.1) ++ ((wAR G q2 36 o4.2.1) ++ ((wAR G q3 12 o4.2.2))))) := xf_D (xf_p_12_012345678_9ab (wXO xa (ya 0) la (pa 0) (qa 0)) (wLO G la lo) (wSYc G ya yy_0 yy_1 yy_2 yy_3 yy_4 yy_5 yy_6 yy_7 yy_8) (wPLc G pa pp_0 pp_1 pp_2 pp_3 pp_4 pp_5 pp_6 pp_7 pp_8) (wPLc G qa qq_0 qq_1 qq_2 qq_3 qq_4 qq_5 qq_6 qq_7 qq_8) (wAR G a9 60 ka) (wAR G r9 24 kr) (wAR G c9 1 kc) (wOU G l9 kl) (wAR G q1 60 o4.1) (wAR G q2 36 o4.2.1) (wAR G q3 12 o4.2.2)) hD
                        refine lv_iconst (v := (0 : Int32)) hx hb dL_isPlan_352 (by decide) ?_
                        refine W.widen (k := 3) (n := 108) (Nat.le_of_ble_eq_true rfl) (Nat.le_of_ble_eq_true rfl) ?_
                        exact xk_reZ hx hb hr hlk rfl (xf_pl hP9) (xf_dl hD9) hS e9.symm dL_isPlan_353
              · exact LL 300 ((0 : Int32), (o4.1 ((((5 : Int32) * x13_49) + (ka ((5 : Int32) * x13_49).toNatClampNeg)) - (1 : Int32)).toNatClampNeg), x9_49) h _ _ hP hD hS _ (lv_sub hl [0, 1, 2, 3, 4, 5, 6, 7, 8, 9, 10, 11] rfl)
        · exact LL 300 ((0 : Int32), (0 : Int32)) h _ _ hP hD hS _ (lv_sub hl [0, 1, 2, 3, 4, 5, 6, 7, 8, 9] rfl)
    · have h := hw28
      clear hw28
      refine xk_lp (α := Int32 × Int32 × Int32) G A s.heap (fun a_27 => ((wXO xa (ya 0) la (pa 0) (qa 0)) ++ ((wLO G la lo) ++ ((wSYc G ya yy_0 yy_1 yy_2 yy_3 yy_4 yy_5 yy_6 yy_7 yy_8) ++ ((wPLc G pa pp_0 pp_1 pp_2 pp_3 pp_4 pp_5 pp_6 pp_7 pp_8) ++ ((wPLc G qa qq_0 qq_1 qq_2 qq_3 qq_4 qq_5 qq_6 qq_7 qq_8) ++ ((wAR G a9 60 ka) ++ ((wAR G r9 24 kr) ++ ((wAR G c9 1 kc) ++ ((wOU G l9 kl) ++ ((wAR G q1 60 o4.1) ++ ((wAR G q2 36 o4.2.1) ++ ((wAR G q3 12 o4.2.2)))))))))))))) 18 (fun a_27 => [(13, .int a_27.1), (12, .int a_27.2.1), (11, .int a_27.2.2), (10, .int v26.1), (9, .int (0 : Int32)), (8, .int v26.2), (7, .ref q3), (6, .ref q2), (5, .ref q1), (0, .ref xa), (1, .ref a9), (2, .ref r9), (3, .ref c9)]) 162 (fun n a_27 => f_L_isPlan_l162 ka kc o4 n a_27.1 a_27.2.1 a_27.2.2 = some w28) (fun a_27 h => ?_) (fun n ih_27 a_27 h H locs hP hD hS ls hl => ?_) (fun LL => ?_)
      · exact sp_n ((f_L_isPlan_l162_z _ _ _ _ _ _).symm.trans h)
      · obtain ⟨x13_27, x12_27, x11_27⟩ := a_27
        have h := (f_L_isPlan_l162_s ka kc o4 n x13_27 x12_27 x11_27).symm.trans h
        have hP : va_P G.1 vwCl ((wXO xa (ya 0) la (pa 0) (qa 0)) ++ ((wLO G la lo) ++ ((wSYc G ya yy_0 yy_1 yy_2 yy_3 yy_4 yy_5 yy_6 yy_7 yy_8) ++ ((wPLc G pa pp_0 pp_1 pp_2 pp_3 pp_4 pp_5 pp_6 pp_7 pp_8) ++ ((wPLc G qa qq_0 qq_1 qq_2 qq_3 qq_4 qq_5 qq_6 qq_7 qq_8) ++ ((wAR G a9 60 ka) ++ ((wAR G r9 24 kr) ++ ((wAR G c9 1 kc) ++ ((wOU G l9 kl) ++ ((wAR G q1 60 o4.1) ++ ((wAR G q2 36 o4.2.1) ++ ((wAR G q3 12 o4.2.2))))))))))))) H := hP
        have hD : va_D A ((wXO xa (ya 0) la (pa 0) (qa 0)) ++ ((wLO G la lo) ++ ((wSYc G ya yy_0 yy_1 yy_2 yy_3 yy_4 yy_5 yy_6 yy_7 yy_8) ++ ((wPLc G pa pp_0 pp_1 pp_2 pp_3 pp_4 pp_5 pp_6 pp_7 pp_8) ++ ((wPLc G qa qq_0 qq_1 qq_2 qq_3 qq_4 qq_5 qq_6 qq_7 qq_8) ++ ((wAR G a9 60 ka) ++ ((wAR G r9 24 kr) ++ ((wAR G c9 1 kc) ++ ((wOU G l9 kl) ++ ((wAR G q1 60 o4.1) ++ ((wAR G q2 36 o4.2.1) ++ ((wAR G q3 12 o4.2.2))))))))))))) := hD
        have hl : lv_has ls 18 [(13, .int x13_27), (12, .int x12_27), (11, .int x11_27), (10, .int v26.1), (9, .int (0 : Int32)), (8, .int v26.2), (7, .ref q3), (6, .ref q2), (5, .ref q1), (0, .ref xa), (1, .ref a9), (2, .ref r9), (3, .ref c9)] := hl
        refine lv_iload hx hb dL_isPlan_162 (lv_at hl 0 rfl) ?_
        refine lv_aload_n hx hb dL_isPlan_164 rfl (lv_at hl 12 rfl) ?_
        refine lv_iconst (v := (0 : Int32)) hx hb dL_isPlan_165 (by decide) ?_
        refine va_iald hx hb hK hP 27 0 rfl rfl (xk_in0_1) dL_isPlan_166 ?_
        refine lv_icmp_ge (tgt := 264) hx hb dL_isPlan_167 (by decide) (fun c29 => ?_) (fun c29 => ?_)
        · have h := sp_t c29 h
          obtain rfl := sp_s h
          exact J27 _ rfl _ _ hP hD hS _ (lv_sub hl [3, 4, 5, 7, 8, 9, 10, 11, 12] rfl)
        · have h := sp_f c29 h
          refine lv_iconst (v := (0 : Int32)) hx hb dL_isPlan_170 (by decide) ?_
          refine lv_istore (lv' := [(14, .int (0 : Int32)), (13, .int x13_27), (12, .int x12_27), (11, .int x11_27), (10, .int v26.1), (9, .int (0 : Int32)), (8, .int v26.2), (7, .ref q3), (6, .ref q2), (5, .ref q1), (0, .ref xa), (1, .ref a9), (2, .ref r9), (3, .ref c9)]) hx hb dL_isPlan_171 hl (by decide) rfl (fun ls hl => ?_)
          obtain ⟨w31, hw31, h⟩ := sp_b h
          have hq_w31 : w31 = none → o = (0 : Int32) := fun e => by subst e; exact hq_w28 (sp_s (xf_om_n h))
          refine xk_jn2 (α := Int32 × Int32) G A s.heap ((wXO xa (ya 0) la (pa 0) (qa 0)) ++ ((wLO G la lo) ++ ((wSYc G ya yy_0 yy_1 yy_2 yy_3 yy_4 yy_5 yy_6 yy_7 yy_8) ++ ((wPLc G pa pp_0 pp_1 pp_2 pp_3 pp_4 pp_5 pp_6 pp_7 pp_8) ++ ((wPLc G qa qq_0 qq_1 qq_2 qq_3 qq_4 qq_5 qq_6 qq_7 qq_8) ++ ((wAR G a9 60 ka) ++ ((wAR G r9 24 kr) ++ ((wAR G c9 1 kc) ++ ((wOU G l9 kl) ++ ((wAR G q1 60 o4.1) ++ ((wAR G q2 36 o4.2.1) ++ ((wAR G q3 12 o4.2.2))))))))))))) 18 (fun v47 => [(13, .int x13_27), (12, .int v47.1), (11, .int v47.2), (10, .int v26.1), (9, .int (0 : Int32)), (8, .int v26.2), (7, .ref q3), (6, .ref q2), (5, .ref q1), (0, .ref xa), (1, .ref a9), (2, .ref r9), (3, .ref c9)]) 258 (fun v47 => w31 = some v47) (fun v47 he H locs hP hD hS ls hl => ?_) (fun J30 => ?_)
          · subst he
            have h := xf_om_s h
            refine lv_iinc (v := (x13_27 + (1 : Int32))) (lv' := [(13, .int (x13_27 + (1 : Int32))), (12, .int v47.1), (11, .int v47.2), (10, .int v26.1), (9, .int (0 : Int32)), (8, .int v26.2), (7, .ref q3), (6, .ref q2), (5, .ref q1), (0, .ref xa), (1, .ref a9), (2, .ref r9), (3, .ref c9)]) hx hb dL_isPlan_258 hl (k := 0) rfl rfl (by decide) rfl (fun ls hl => ?_)
            refine lv_goto (tgt := 162) hx hb dL_isPlan_261 (by decide) ?_
            exact ih_27 ((x13_27 + (1 : Int32)), v47.1, v47.2) h _ _ hP hD hS _ (lv_sub hl [0, 1, 2, 3, 4, 5, 6, 7, 8, 9, 10, 11, 12] rfl)
          · have h := hw31
            clear hw31
            refine xk_lp (α := Int32 × Int32 × Int32) G A s.heap (fun a_30 => ((wXO xa (ya 0) la (pa 0) (qa 0)) ++ ((wLO G la lo) ++ ((wSYc G ya yy_0 yy_1 yy_2 yy_3 yy_4 yy_5 yy_6 yy_7 yy_8) ++ ((wPLc G pa pp_0 pp_1 pp_2 pp_3 pp_4 pp_5 pp_6 pp_7 pp_8) ++ ((wPLc G qa qq_0 qq_1 qq_2 qq_3 qq_4 qq_5 qq_6 qq_7 qq_8) ++ ((wAR G a9 60 ka) ++ ((wAR G r9 24 kr) ++ ((wAR G c9 1 kc) ++ ((wOU G l9 kl) ++ ((wAR G q1 60 o4.1) ++ ((wAR G q2 36 o4.2.1) ++ ((wAR G q3 12 o4.2.2)))))))))))))) 18 (fun a_30 => [(14, .int a_30.1), (13, .int x13_27), (12, .int a_30.2.1), (11, .int a_30.2.2), (10, .int v26.1), (9, .int (0 : Int32)), (8, .int v26.2), (7, .ref q3), (6, .ref q2), (5, .ref q1), (0, .ref xa), (1, .ref a9), (2, .ref r9), (3, .ref c9)]) 173 (fun n a_30 => f_L_isPlan_l173 ka o4 x13_27 n a_30.1 a_30.2.1 a_30.2.2 = some w31) (fun a_30 h => ?_) (fun n ih_30 a_30 h H locs hP hD hS ls hl => ?_) (fun LL => ?_)
            · exact sp_n ((f_L_isPlan_l173_z _ _ _ _ _ _).symm.trans h)
            · obtain ⟨x14_30, x12_30, x11_30⟩ := a_30
              have h := (f_L_isPlan_l173_s ka o4 x13_27 n x14_30 x12_30 x11_30).symm.trans h
              have hP : va_P G.1 vwCl ((wXO xa (ya 0) la (pa 0) (qa 0)) ++ ((wLO G la lo) ++ ((wSYc G ya yy_0 yy_1 yy_2 yy_3 yy_4 yy_5 yy_6 yy_7 yy_8) ++ ((wPLc G pa pp_0 pp_1 pp_2 pp_3 pp_4 pp_5 pp_6 pp_7 pp_8) ++ ((wPLc G qa qq_0 qq_1 qq_2 qq_3 qq_4 qq_5 qq_6 qq_7 qq_8) ++ ((wAR G a9 60 ka) ++ ((wAR G r9 24 kr) ++ ((wAR G c9 1 kc) ++ ((wOU G l9 kl) ++ ((wAR G q1 60 o4.1) ++ ((wAR G q2 36 o4.2.1) ++ ((wAR G q3 12 o4.2.2))))))))))))) H := hP
              have hD : va_D A ((wXO xa (ya 0) la (pa 0) (qa 0)) ++ ((wLO G la lo) ++ ((wSYc G ya yy_0 yy_1 yy_2 yy_3 yy_4 yy_5 yy_6 yy_7 yy_8) ++ ((wPLc G pa pp_0 pp_1 pp_2 pp_3 pp_4 pp_5 pp_6 pp_7 pp_8) ++ ((wPLc G qa qq_0 qq_1 qq_2 qq_3 qq_4 qq_5 qq_6 qq_7 qq_8) ++ ((wAR G a9 60 ka) ++ ((wAR G r9 24 kr) ++ ((wAR G c9 1 kc) ++ ((wOU G l9 kl) ++ ((wAR G q1 60 o4.1) ++ ((wAR G q2 36 o4.2.1) ++ ((wAR G q3 12 o4.2.2))))))))))))) := hD
              have hl : lv_has ls 18 [(14, .int x14_30), (13, .int x13_27), (12, .int x12_30), (11, .int x11_30), (10, .int v26.1), (9, .int (0 : Int32)), (8, .int v26.2), (7, .ref q3), (6, .ref q2), (5, .ref q1), (0, .ref xa), (1, .ref a9), (2, .ref r9), (3, .ref c9)] := hl
              refine lv_iload hx hb dL_isPlan_173 (lv_at hl 0 rfl) ?_
              refine lv_aload_n hx hb dL_isPlan_175 rfl (lv_at hl 11 rfl) ?_
              refine lv_iconst (v := (5 : Int32)) hx hb dL_isPlan_176 (by decide) ?_
              refine lv_aload hx hb dL_isPlan_177 (lv_at hl 7 rfl) ?_
              refine lv_iload hx hb dL_isPlan_179 (lv_at hl 1 rfl) ?_
              obtain ⟨hin32, h⟩ := sp_g h
              refine va_iald hx hb hK hP 31 0 rfl rfl hin32 dL_isPlan_181 ?_
              refine lv_imul hx hb dL_isPlan_182 ?_
              obtain ⟨hin33, h⟩ := sp_g h
              refine va_iald hx hb hK hP 25 0 rfl rfl hin33 dL_isPlan_183 ?_
              refine lv_icmp_ge (tgt := 258) hx hb dL_isPlan_184 (by decide) (fun c34 => ?_) (fun c34 => ?_)
              · have h := sp_t c34 h
                obtain rfl := sp_s h
                exact J30 _ rfl _ _ hP hD hS _ (lv_sub hl [1, 2, 3, 4, 5, 6, 7, 8, 9, 10, 11, 12, 13] rfl)
              · have h := sp_f c34 h
                refine lv_aload hx hb dL_isPlan_187 (lv_at hl 9 rfl) ?_
                refine lv_iconst (v := (5 : Int32)) hx hb dL_isPlan_189 (by decide) ?_
                refine lv_aload hx hb dL_isPlan_190 (lv_at hl 7 rfl) ?_
                refine lv_iload hx hb dL_isPlan_192 (lv_at hl 1 rfl) ?_
                refine va_iald hx hb hK hP 31 0 rfl rfl hin32 dL_isPlan_194 ?_
                refine lv_imul hx hb dL_isPlan_195 ?_
                refine lv_iload hx hb dL_isPlan_196 (lv_at hl 0 rfl) ?_
                refine lv_iadd hx hb dL_isPlan_198 ?_
                obtain ⟨hin35, h⟩ := sp_g h
                refine va_iald hx hb hK hP 29 0 rfl rfl hin35 dL_isPlan_199 ?_
                refine lv_istore (lv' := [(15, .int (o4.1 (((5 : Int32) * (o4.2.2 x13_27.toNatClampNeg)) + x14_30).toNatClampNeg)), (14, .int x14_30), (13, .int x13_27), (12, .int x12_30), (11, .int x11_30), (10, .int v26.1), (9, .int (0 : Int32)), (8, .int v26.2), (7, .ref q3), (6, .ref q2), (5, .ref q1), (0, .ref xa), (1, .ref a9), (2, .ref r9), (3, .ref c9)]) hx hb dL_isPlan_200 hl (by decide) rfl (fun ls hl => ?_)
                refine lv_iload hx hb dL_isPlan_202 (lv_at hl 0 rfl) ?_
                refine lv_if_lt (tgt := 221) hx hb dL_isPlan_204 (by decide) (fun c36 => ?_) (fun c36 => ?_)
                · have h := sp_t c36 h
                  refine lv_iload hx hb dL_isPlan_221 (lv_at hl 3 rfl) ?_
                  obtain ⟨v37, hv37, h⟩ := sp_b h
                  refine xk_jn G A s.heap ((wXO xa (ya 0) la (pa 0) (qa 0)) ++ ((wLO G la lo) ++ ((wSYc G ya yy_0 yy_1 yy_2 yy_3 yy_4 yy_5 yy_6 yy_7 yy_8) ++ ((wPLc G pa pp_0 pp_1 pp_2 pp_3 pp_4 pp_5 pp_6 pp_7 pp_8) ++ ((wPLc G qa qq_0 qq_1 qq_2 qq_3 qq_4 qq_5 qq_6 qq_7 qq_8) ++ ((wAR G a9 60 ka) ++ ((wAR G r9 24 kr) ++ ((wAR G c9 1 kc) ++ ((wOU G l9 kl) ++ ((wAR G q1 60 o4.1) ++ ((wAR G q2 36 o4.2.1) ++ ((wAR G q3 12 o4.2.2))))))))))))) 18 [(15, .int (o4.1 (((5 : Int32) * (o4.2.2 x13_27.toNatClampNeg)) + x14_30).toNatClampNeg)), (14, .int x14_30), (13, .int x13_27), (11, .int x11_30), (10, .int v26.1), (9, .int (0 : Int32)), (8, .int v26.2), (7, .ref q3), (6, .ref q2), (5, .ref q1), (0, .ref xa), (1, .ref a9), (2, .ref r9), (3, .ref c9)] 236 [.int v37] (fun H locs hP hD hS ls hl => ?_) (fun J37 => ?_)
                  · refine lv_istore (lv' := [(12, .int v37), (15, .int (o4.1 (((5 : Int32) * (o4.2.2 x13_27.toNatClampNeg)) + x14_30).toNatClampNeg)), (14, .int x14_30), (13, .int x13_27), (11, .int x11_30), (10, .int v26.1), (9, .int (0 : Int32)), (8, .int v26.2), (7, .ref q3), (6, .ref q2), (5, .ref q1), (0, .ref xa), (1, .ref a9), (2, .ref r9), (3, .ref c9)]) hx hb dL_isPlan_236 hl (by decide) rfl (fun ls hl => ?_)
                    refine lv_iload hx hb dL_isPlan_238 (lv_at hl 1 rfl) ?_
                    refine lv_if_ge (tgt := 248) hx hb dL_isPlan_240 (by decide) (fun c38 => ?_) (fun c38 => ?_)
                    · have h := sp_t c38 h
                      refine lv_iload hx hb dL_isPlan_248 (lv_at hl 1 rfl) ?_
                      refine lv_istore (lv' := [(11, .int (o4.1 (((5 : Int32) * (o4.2.2 x13_27.toNatClampNeg)) + x14_30).toNatClampNeg)), (12, .int v37), (15, .int (o4.1 (((5 : Int32) * (o4.2.2 x13_27.toNatClampNeg)) + x14_30).toNatClampNeg)), (14, .int x14_30), (13, .int x13_27), (10, .int v26.1), (9, .int (0 : Int32)), (8, .int v26.2), (7, .ref q3), (6, .ref q2), (5, .ref q1), (0, .ref xa), (1, .ref a9), (2, .ref r9), (3, .ref c9)]) hx hb dL_isPlan_250 hl (by decide) rfl (fun ls hl => ?_)
                      refine lv_iinc (v := (x14_30 + (1 : Int32))) (lv' := [(14, .int (x14_30 + (1 : Int32))), (11, .int (o4.1 (((5 : Int32) * (o4.2.2 x13_27.toNatClampNeg)) + x14_30).toNatClampNeg)), (12, .int v37), (15, .int (o4.1 (((5 : Int32) * (o4.2.2 x13_27.toNatClampNeg)) + x14_30).toNatClampNeg)), (13, .int x13_27), (10, .int v26.1), (9, .int (0 : Int32)), (8, .int v26.2), (7, .ref q3), (6, .ref q2), (5, .ref q1), (0, .ref xa), (1, .ref a9), (2, .ref r9), (3, .ref c9)]) hx hb dL_isPlan_252 hl (k := 3) rfl rfl (by decide) rfl (fun ls hl => ?_)
                      refine lv_goto (tgt := 173) hx hb dL_isPlan_255 (by decide) ?_
                      exact ih_30 ((x14_30 + (1 : Int32)), v37, (o4.1 (((5 : Int32) * (o4.2.2 x13_27.toNatClampNeg)) + x14_30).toNatClampNeg)) h _ _ hP hD hS _ (lv_sub hl [0, 4, 2, 1, 5, 6, 7, 8, 9, 10, 11, 12, 13, 14] rfl)
                    · have h := sp_f c38 h
                      refine lv_iload hx hb dL_isPlan_243 (lv_at hl 4 rfl) ?_
                      refine lv_goto (tgt := 250) hx hb dL_isPlan_245 (by decide) ?_
                      refine lv_istore (lv' := [(11, .int x11_30), (12, .int v37), (15, .int (o4.1 (((5 : Int32) * (o4.2.2 x13_27.toNatClampNeg)) + x14_30).toNatClampNeg)), (14, .int x14_30), (13, .int x13_27), (10, .int v26.1), (9, .int (0 : Int32)), (8, .int v26.2), (7, .ref q3), (6, .ref q2), (5, .ref q1), (0, .ref xa), (1, .ref a9), (2, .ref r9), (3, .ref c9)]) hx hb dL_isPlan_250 hl (by decide) rfl (fun ls hl => ?_)
                      refine lv_iinc (v := (x14_30 + (1 : Int32))) (lv' := [(14, .int (x14_30 + (1 : Int32))), (11, .int x11_30), (12, .int v37), (15, .int (o4.1 (((5 : Int32) * (o4.2.2 x13_27.toNatClampNeg)) + x14_30).toNatClampNeg)), (13, .int x13_27), (10, .int v26.1), (9, .int (0 : Int32)), (8, .int v26.2), (7, .ref q3), (6, .ref q2), (5, .ref q1), (0, .ref xa), (1, .ref a9), (2, .ref r9), (3, .ref c9)]) hx hb dL_isPlan_252 hl (k := 3) rfl rfl (by decide) rfl (fun ls hl => ?_)
                      refine lv_goto (tgt := 173) hx hb dL_isPlan_255 (by decide) ?_
                      exact ih_30 ((x14_30 + (1 : Int32)), v37, x11_30) h _ _ hP hD hS _ (lv_sub hl [0, 4, 2, 1, 5, 6, 7, 8, 9, 10, 11, 12, 13, 14] rfl)
                  · have h := hv37
                    clear hv37
                    refine lv_if_ne (tgt := 231) hx hb dL_isPlan_223 (by decide) (fun c39 => ?_) (fun c39 => ?_)
                    · have h := sp_f c39 h
                      refine lv_iconst (v := (1 : Int32)) hx hb dL_isPlan_231 (by decide) ?_
                      refine lv_goto (tgt := 236) hx hb dL_isPlan_232 (by decide) ?_
                      obtain rfl := sp_s h
                      exact J37 _ _ hP hD hS _ (lv_sub hl [0, 1, 2, 4, 5, 6, 7, 8, 9, 10, 11, 12, 13, 14] rfl)
                    · have h := sp_t c39 h
                      refine lv_iload hx hb dL_isPlan_226 (lv_at hl 0 rfl) ?_
                      refine lv_if_ge (tgt := 235) hx hb dL_isPlan_228 (by decide) (fun c40 => ?_) (fun c40 => ?_)
                      · have h := sp_t c40 h
                        refine lv_iconst (v := (0 : Int32)) hx hb dL_isPlan_235 (by decide) ?_
                        obtain rfl := sp_s h
                        exact J37 _ _ hP hD hS _ (lv_sub hl [0, 1, 2, 4, 5, 6, 7, 8, 9, 10, 11, 12, 13, 14] rfl)
                      · have h := sp_f c40 h
                        refine lv_iconst (v := (1 : Int32)) hx hb dL_isPlan_231 (by decide) ?_
                        refine lv_goto (tgt := 236) hx hb dL_isPlan_232 (by decide) ?_
                        obtain rfl := sp_s h
                        exact J37 _ _ hP hD hS _ (lv_sub hl [0, 1, 2, 4, 5, 6, 7, 8, 9, 10, 11, 12, 13, 14] rfl)
                · have h := sp_f c36 h
                  refine lv_iload hx hb dL_isPlan_207 (lv_at hl 3 rfl) ?_
                  refine lv_if_ne (tgt := 219) hx hb dL_isPlan_209 (by decide) (fun c41 => ?_) (fun c41 => ?_)
                  · have h := sp_f c41 h
                    have e9 := hq_w31 (sp_s h)
                    have hP9 : va_P G.1 vwCl (((wXO xa (ya 0) la (pa 0) (qa 0)) ++ ((wLO G la lo) ++ ((wSYc G ya yy_0 yy_1 yy_2 yy_3 yy_4 yy_5 yy_6 yy_7 yy_8) ++ ((wPLc G pa pp_0 pp_1 pp_2 pp_3 pp_4 pp_5 pp_6 pp_7 pp_8) ++ ((wPLc G qa qq_0 qq_1 qq_2 qq_3 qq_4 qq_5 qq_6 qq_7 qq_8) ++ ((wAR G a9 60 ka) ++ ((wAR G r9 24 kr) ++ ((wAR G c9 1 kc) ++ ((wOU G l9 kl)))))))))) ++ ((wAR G q1 60 o4.1) ++ ((wAR G q2 36 o4.2.1) ++ ((wAR G q3 12 o4.2.2))))) H := xf_P (xf_p_12_012345678_9ab (wXO xa (ya 0) la (pa 0) (qa 0)) (wLO G la lo) (wSYc G ya yy_0 yy_1 yy_2 yy_3 yy_4 yy_5 yy_6 yy_7 yy_8) (wPLc G pa pp_0 pp_1 pp_2 pp_3 pp_4 pp_5 pp_6 pp_7 pp_8) (wPLc G qa qq_0 qq_1 qq_2 qq_3 qq_4 qq_5 qq_6 qq_7 qq_8) (wAR G a9 60 ka) (wAR G r9 24 kr) (wAR G c9 1 kc) (wOU G l9 kl) (wAR G q1 60 o4.1) (wAR G q2 36 o4.2.1) (wAR G q3 12 o4.2.2)) hP
                    have hD9 : va_D A (((wXO xa (ya 0) la (pa 0) (qa 0)) ++ ((wLO G la lo) ++ ((wSYc G ya yy_0 yy_1 yy_2 yy_3 yy_4 yy_5 yy_6 yy_7 yy_8) ++ ((wPLc G pa pp_0 pp_1 pp_2 pp_3 pp_4 pp_5 pp_6 pp_7 pp_8) ++ ((wPLc G qa qq_0 qq_1 qq_2 qq_3 qq_4 qq_5 qq_6 qq_7 qq_8) ++ ((wAR G a9 60 ka) ++ ((wAR G r9 24 kr) ++ ((wAR G c9 1 kc) ++ ((wOU G l9 kl)))))))))) ++ ((wAR G q1 60 o4.1) ++ ((wAR G q2 36 o4.2.1) ++ ((wAR G q3 12 o4.2.2))))) := xf_D (xf_p_12_012345678_9ab (wXO xa (ya 0) la (pa 0) (qa 0)) (wLO G la lo) (wSYc G ya yy_0 yy_1 yy_2 yy_3 yy_4 yy_5 yy_6 yy_7 yy_8) (wPLc G pa pp_0 pp_1 pp_2 pp_3 pp_4 pp_5 pp_6 pp_7 pp_8) (wPLc G qa qq_0 qq_1 qq_2 qq_3 qq_4 qq_5 qq_6 qq_7 qq_8) (wAR G a9 60 ka) (wAR G r9 24 kr) (wAR G c9 1 kc) (wOU G l9 kl) (wAR G q1 60 o4.1) (wAR G q2 36 o4.2.1) (wAR G q3 12 o4.2.2)) hD
                    refine lv_iconst (v := (0 : Int32)) hx hb dL_isPlan_219 (by decide) ?_
                    refine W.widen (k := 3) (n := 108) (Nat.le_of_ble_eq_true rfl) (Nat.le_of_ble_eq_true rfl) ?_
                    exact xk_reZ hx hb hr hlk rfl (xf_pl hP9) (xf_dl hD9) hS e9.symm dL_isPlan_220
                  · have h := sp_t c41 h
                    refine lv_iload hx hb dL_isPlan_212 (lv_at hl 0 rfl) ?_
                    refine lv_iload hx hb dL_isPlan_214 (lv_at hl 4 rfl) ?_
                    refine lv_icmp_gt (tgt := 221) hx hb dL_isPlan_216 (by decide) (fun c42 => ?_) (fun c42 => ?_)
                    · have h := sp_t c42 h
                      refine lv_iload hx hb dL_isPlan_221 (lv_at hl 3 rfl) ?_
                      refine lv_if_ne (tgt := 231) hx hb dL_isPlan_223 (by decide) (fun c43 => absurd c41 c43) (fun _ => ?_)
                      refine lv_iload hx hb dL_isPlan_226 (lv_at hl 0 rfl) ?_
                      obtain ⟨v44, hv44, h⟩ := sp_b h
                      refine xk_jn G A s.heap ((wXO xa (ya 0) la (pa 0) (qa 0)) ++ ((wLO G la lo) ++ ((wSYc G ya yy_0 yy_1 yy_2 yy_3 yy_4 yy_5 yy_6 yy_7 yy_8) ++ ((wPLc G pa pp_0 pp_1 pp_2 pp_3 pp_4 pp_5 pp_6 pp_7 pp_8) ++ ((wPLc G qa qq_0 qq_1 qq_2 qq_3 qq_4 qq_5 qq_6 qq_7 qq_8) ++ ((wAR G a9 60 ka) ++ ((wAR G r9 24 kr) ++ ((wAR G c9 1 kc) ++ ((wOU G l9 kl) ++ ((wAR G q1 60 o4.1) ++ ((wAR G q2 36 o4.2.1) ++ ((wAR G q3 12 o4.2.2))))))))))))) 18 [(15, .int (o4.1 (((5 : Int32) * (o4.2.2 x13_27.toNatClampNeg)) + x14_30).toNatClampNeg)), (14, .int x14_30), (13, .int x13_27), (11, .int x11_30), (10, .int v26.1), (9, .int (0 : Int32)), (8, .int v26.2), (7, .ref q3), (6, .ref q2), (5, .ref q1), (0, .ref xa), (1, .ref a9), (2, .ref r9), (3, .ref c9)] 236 [.int v44] (fun H locs hP hD hS ls hl => ?_) (fun J44 => ?_)
                      · refine lv_istore (lv' := [(12, .int v44), (15, .int (o4.1 (((5 : Int32) * (o4.2.2 x13_27.toNatClampNeg)) + x14_30).toNatClampNeg)), (14, .int x14_30), (13, .int x13_27), (11, .int x11_30), (10, .int v26.1), (9, .int (0 : Int32)), (8, .int v26.2), (7, .ref q3), (6, .ref q2), (5, .ref q1), (0, .ref xa), (1, .ref a9), (2, .ref r9), (3, .ref c9)]) hx hb dL_isPlan_236 hl (by decide) rfl (fun ls hl => ?_)
                        refine lv_iload hx hb dL_isPlan_238 (lv_at hl 1 rfl) ?_
                        refine lv_if_ge (tgt := 248) hx hb dL_isPlan_240 (by decide) (fun c45 => ?_) (fun c45 => ?_)
                        · have h := sp_t c45 h
                          refine lv_iload hx hb dL_isPlan_248 (lv_at hl 1 rfl) ?_
                          refine lv_istore (lv' := [(11, .int (o4.1 (((5 : Int32) * (o4.2.2 x13_27.toNatClampNeg)) + x14_30).toNatClampNeg)), (12, .int v44), (15, .int (o4.1 (((5 : Int32) * (o4.2.2 x13_27.toNatClampNeg)) + x14_30).toNatClampNeg)), (14, .int x14_30), (13, .int x13_27), (10, .int v26.1), (9, .int (0 : Int32)), (8, .int v26.2), (7, .ref q3), (6, .ref q2), (5, .ref q1), (0, .ref xa), (1, .ref a9), (2, .ref r9), (3, .ref c9)]) hx hb dL_isPlan_250 hl (by decide) rfl (fun ls hl => ?_)
                          refine lv_iinc (v := (x14_30 + (1 : Int32))) (lv' := [(14, .int (x14_30 + (1 : Int32))), (11, .int (o4.1 (((5 : Int32) * (o4.2.2 x13_27.toNatClampNeg)) + x14_30).toNatClampNeg)), (12, .int v44), (15, .int (o4.1 (((5 : Int32) * (o4.2.2 x13_27.toNatClampNeg)) + x14_30).toNatClampNeg)), (13, .int x13_27), (10, .int v26.1), (9, .int (0 : Int32)), (8, .int v26.2), (7, .ref q3), (6, .ref q2), (5, .ref q1), (0, .ref xa), (1, .ref a9), (2, .ref r9), (3, .ref c9)]) hx hb dL_isPlan_252 hl (k := 3) rfl rfl (by decide) rfl (fun ls hl => ?_)
                          refine lv_goto (tgt := 173) hx hb dL_isPlan_255 (by decide) ?_
                          exact ih_30 ((x14_30 + (1 : Int32)), v44, (o4.1 (((5 : Int32) * (o4.2.2 x13_27.toNatClampNeg)) + x14_30).toNatClampNeg)) h _ _ hP hD hS _ (lv_sub hl [0, 4, 2, 1, 5, 6, 7, 8, 9, 10, 11, 12, 13, 14] rfl)
                        · have h := sp_f c45 h
                          refine lv_iload hx hb dL_isPlan_243 (lv_at hl 4 rfl) ?_
                          refine lv_goto (tgt := 250) hx hb dL_isPlan_245 (by decide) ?_
                          refine lv_istore (lv' := [(11, .int x11_30), (12, .int v44), (15, .int (o4.1 (((5 : Int32) * (o4.2.2 x13_27.toNatClampNeg)) + x14_30).toNatClampNeg)), (14, .int x14_30), (13, .int x13_27), (10, .int v26.1), (9, .int (0 : Int32)), (8, .int v26.2), (7, .ref q3), (6, .ref q2), (5, .ref q1), (0, .ref xa), (1, .ref a9), (2, .ref r9), (3, .ref c9)]) hx hb dL_isPlan_250 hl (by decide) rfl (fun ls hl => ?_)
                          refine lv_iinc (v := (x14_30 + (1 : Int32))) (lv' := [(14, .int (x14_30 + (1 : Int32))), (11, .int x11_30), (12, .int v44), (15, .int (o4.1 (((5 : Int32) * (o4.2.2 x13_27.toNatClampNeg)) + x14_30).toNatClampNeg)), (13, .int x13_27), (10, .int v26.1), (9, .int (0 : Int32)), (8, .int v26.2), (7, .ref q3), (6, .ref q2), (5, .ref q1), (0, .ref xa), (1, .ref a9), (2, .ref r9), (3, .ref c9)]) hx hb dL_isPlan_252 hl (k := 3) rfl rfl (by decide) rfl (fun ls hl => ?_)
                          refine lv_goto (tgt := 173) hx hb dL_isPlan_255 (by decide) ?_
                          exact ih_30 ((x14_30 + (1 : Int32)), v44, x11_30) h _ _ hP hD hS _ (lv_sub hl [0, 4, 2, 1, 5, 6, 7, 8, 9, 10, 11, 12, 13, 14] rfl)
                      · have h := hv44
                        clear hv44
                        refine lv_if_ge (tgt := 235) hx hb dL_isPlan_228 (by decide) (fun c46 => ?_) (fun c46 => ?_)
                        · have h := sp_t c46 h
                          refine lv_iconst (v := (0 : Int32)) hx hb dL_isPlan_235 (by decide) ?_
                          obtain rfl := sp_s h
                          exact J44 _ _ hP hD hS _ (lv_sub hl [0, 1, 2, 4, 5, 6, 7, 8, 9, 10, 11, 12, 13, 14] rfl)
                        · have h := sp_f c46 h
                          refine lv_iconst (v := (1 : Int32)) hx hb dL_isPlan_231 (by decide) ?_
                          refine lv_goto (tgt := 236) hx hb dL_isPlan_232 (by decide) ?_
                          obtain rfl := sp_s h
                          exact J44 _ _ hP hD hS _ (lv_sub hl [0, 1, 2, 4, 5, 6, 7, 8, 9, 10, 11, 12, 13, 14] rfl)
                    · have h := sp_f c42 h
                      have e9 := hq_w31 (sp_s h)
                      have hP9 : va_P G.1 vwCl (((wXO xa (ya 0) la (pa 0) (qa 0)) ++ ((wLO G la lo) ++ ((wSYc G ya yy_0 yy_1 yy_2 yy_3 yy_4 yy_5 yy_6 yy_7 yy_8) ++ ((wPLc G pa pp_0 pp_1 pp_2 pp_3 pp_4 pp_5 pp_6 pp_7 pp_8) ++ ((wPLc G qa qq_0 qq_1 qq_2 qq_3 qq_4 qq_5 qq_6 qq_7 qq_8) ++ ((wAR G a9 60 ka) ++ ((wAR G r9 24 kr) ++ ((wAR G c9 1 kc) ++ ((wOU G l9 kl)))))))))) ++ ((wAR G q1 60 o4.1) ++ ((wAR G q2 36 o4.2.1) ++ ((wAR G q3 12 o4.2.2))))) H := xf_P (xf_p_12_012345678_9ab (wXO xa (ya 0) la (pa 0) (qa 0)) (wLO G la lo) (wSYc G ya yy_0 yy_1 yy_2 yy_3 yy_4 yy_5 yy_6 yy_7 yy_8) (wPLc G pa pp_0 pp_1 pp_2 pp_3 pp_4 pp_5 pp_6 pp_7 pp_8) (wPLc G qa qq_0 qq_1 qq_2 qq_3 qq_4 qq_5 qq_6 qq_7 qq_8) (wAR G a9 60 ka) (wAR G r9 24 kr) (wAR G c9 1 kc) (wOU G l9 kl) (wAR G q1 60 o4.1) (wAR G q2 36 o4.2.1) (wAR G q3 12 o4.2.2)) hP
                      have hD9 : va_D A (((wXO xa (ya 0) la (pa 0) (qa 0)) ++ ((wLO G la lo) ++ ((wSYc G ya yy_0 yy_1 yy_2 yy_3 yy_4 yy_5 yy_6 yy_7 yy_8) ++ ((wPLc G pa pp_0 pp_1 pp_2 pp_3 pp_4 pp_5 pp_6 pp_7 pp_8) ++ ((wPLc G qa qq_0 qq_1 qq_2 qq_3 qq_4 qq_5 qq_6 qq_7 qq_8) ++ ((wAR G a9 60 ka) ++ ((wAR G r9 24 kr) ++ ((wAR G c9 1 kc) ++ ((wOU G l9 kl)))))))))) ++ ((wAR G q1 60 o4.1) ++ ((wAR G q2 36 o4.2.1) ++ ((wAR G q3 12 o4.2.2))))) := xf_D (xf_p_12_012345678_9ab (wXO xa (ya 0) la (pa 0) (qa 0)) (wLO G la lo) (wSYc G ya yy_0 yy_1 yy_2 yy_3 yy_4 yy_5 yy_6 yy_7 yy_8) (wPLc G pa pp_0 pp_1 pp_2 pp_3 pp_4 pp_5 pp_6 pp_7 pp_8) (wPLc G qa qq_0 qq_1 qq_2 qq_3 qq_4 qq_5 qq_6 qq_7 qq_8) (wAR G a9 60 ka) (wAR G r9 24 kr) (wAR G c9 1 kc) (wOU G l9 kl) (wAR G q1 60 o4.1) (wAR G q2 36 o4.2.1) (wAR G q3 12 o4.2.2)) hD
                      refine lv_iconst (v := (0 : Int32)) hx hb dL_isPlan_219 (by decide) ?_
                      refine W.widen (k := 3) (n := 108) (Nat.le_of_ble_eq_true rfl) (Nat.le_of_ble_eq_true rfl) ?_
                      exact xk_reZ hx hb hr hlk rfl (xf_pl hP9) (xf_dl hD9) hS e9.symm dL_isPlan_220
            · exact LL 300 ((0 : Int32), x12_27, x11_27) h _ _ hP hD hS _ (lv_sub hl [0, 1, 2, 3, 4, 5, 6, 7, 8, 9, 10, 11, 12, 13] rfl)
      · exact LL 300 ((0 : Int32), (0 : Int32), ((-1) : Int32)) h _ _ hP hD hS _ (lv_sub hl [0, 1, 2, 3, 4, 5, 6, 7, 8, 9, 10, 11, 12] rfl)
  · have h := hw6
    clear hw6
    refine xk_lp (α := Int32 × Int32 × Int32) G A s.heap (fun a_5 => ((wXO xa (ya 0) la (pa 0) (qa 0)) ++ ((wLO G la lo) ++ ((wSYc G ya yy_0 yy_1 yy_2 yy_3 yy_4 yy_5 yy_6 yy_7 yy_8) ++ ((wPLc G pa pp_0 pp_1 pp_2 pp_3 pp_4 pp_5 pp_6 pp_7 pp_8) ++ ((wPLc G qa qq_0 qq_1 qq_2 qq_3 qq_4 qq_5 qq_6 qq_7 qq_8) ++ ((wAR G a9 60 ka) ++ ((wAR G r9 24 kr) ++ ((wAR G c9 1 kc) ++ ((wOU G l9 kl) ++ ((wAR G q1 60 o4.1) ++ ((wAR G q2 36 o4.2.1) ++ ((wAR G q3 12 o4.2.2)))))))))))))) 18 (fun a_5 => [(11, .int a_5.1), (10, .int a_5.2.1), (9, .int (0 : Int32)), (8, .int a_5.2.2), (7, .ref q3), (6, .ref q2), (5, .ref q1), (0, .ref xa), (1, .ref a9), (2, .ref r9), (3, .ref c9), (4, .ref l9)]) 43 (fun n a_5 => f_L_isPlan_l43 lo yy_0 yy_1 yy_2 yy_3 yy_4 yy_5 yy_6 yy_7 yy_8 pp_0 pp_1 pp_2 pp_3 pp_4 pp_5 pp_6 pp_7 pp_8 qq_0 qq_1 qq_2 qq_3 qq_4 qq_5 qq_6 qq_7 qq_8 ka kr kc kl o4 n a_5.1 a_5.2.1 a_5.2.2 = some w6) (fun a_5 h => ?_) (fun n ih_5 a_5 h H locs hP hD hS ls hl => ?_) (fun LL => ?_)
    · exact sp_n ((f_L_isPlan_l43_z _ _ _ _ _ _ _ _ _ _ _ _ _ _ _ _ _ _ _ _ _ _ _ _ _ _ _ _ _ _ _ _ _ _ _ _).symm.trans h)
    · obtain ⟨x11_5, x10_5, x8_5⟩ := a_5
      have h := (f_L_isPlan_l43_s lo yy_0 yy_1 yy_2 yy_3 yy_4 yy_5 yy_6 yy_7 yy_8 pp_0 pp_1 pp_2 pp_3 pp_4 pp_5 pp_6 pp_7 pp_8 qq_0 qq_1 qq_2 qq_3 qq_4 qq_5 qq_6 qq_7 qq_8 ka kr kc kl o4 n x11_5 x10_5 x8_5).symm.trans h
      have hP : va_P G.1 vwCl ((wXO xa (ya 0) la (pa 0) (qa 0)) ++ ((wLO G la lo) ++ ((wSYc G ya yy_0 yy_1 yy_2 yy_3 yy_4 yy_5 yy_6 yy_7 yy_8) ++ ((wPLc G pa pp_0 pp_1 pp_2 pp_3 pp_4 pp_5 pp_6 pp_7 pp_8) ++ ((wPLc G qa qq_0 qq_1 qq_2 qq_3 qq_4 qq_5 qq_6 qq_7 qq_8) ++ ((wAR G a9 60 ka) ++ ((wAR G r9 24 kr) ++ ((wAR G c9 1 kc) ++ ((wOU G l9 kl) ++ ((wAR G q1 60 o4.1) ++ ((wAR G q2 36 o4.2.1) ++ ((wAR G q3 12 o4.2.2))))))))))))) H := hP
      have hD : va_D A ((wXO xa (ya 0) la (pa 0) (qa 0)) ++ ((wLO G la lo) ++ ((wSYc G ya yy_0 yy_1 yy_2 yy_3 yy_4 yy_5 yy_6 yy_7 yy_8) ++ ((wPLc G pa pp_0 pp_1 pp_2 pp_3 pp_4 pp_5 pp_6 pp_7 pp_8) ++ ((wPLc G qa qq_0 qq_1 qq_2 qq_3 qq_4 qq_5 qq_6 qq_7 qq_8) ++ ((wAR G a9 60 ka) ++ ((wAR G r9 24 kr) ++ ((wAR G c9 1 kc) ++ ((wOU G l9 kl) ++ ((wAR G q1 60 o4.1) ++ ((wAR G q2 36 o4.2.1) ++ ((wAR G q3 12 o4.2.2))))))))))))) := hD
      have hl : lv_has ls 18 [(11, .int x11_5), (10, .int x10_5), (9, .int (0 : Int32)), (8, .int x8_5), (7, .ref q3), (6, .ref q2), (5, .ref q1), (0, .ref xa), (1, .ref a9), (2, .ref r9), (3, .ref c9), (4, .ref l9)] := hl
      refine lv_iload hx hb dL_isPlan_43 (lv_at hl 0 rfl) ?_
      refine lv_bipush (v := (100 : Int32)) hx hb dL_isPlan_45 (by decide) ?_
      refine lv_icmp_ge (tgt := 153) hx hb dL_isPlan_47 (by decide) (fun c7 => ?_) (fun c7 => ?_)
      · have h := sp_t c7 h
        obtain rfl := sp_s h
        exact J5 _ rfl _ _ hP hD hS _ (lv_sub hl [1, 2, 3, 4, 5, 6, 7, 8, 9, 10] rfl)
      · have h := sp_f c7 h
        refine lv_aload hx hb dL_isPlan_50 (lv_at hl 6 rfl) ?_
        refine lv_aload hx hb dL_isPlan_52 (lv_at hl 5 rfl) ?_
        refine lv_iload hx hb dL_isPlan_54 (lv_at hl 0 rfl) ?_
        obtain ⟨o8, ho8, h⟩ := sp_b h
        have hP9 : va_P G.1 vwCl (((wXO xa (ya 0) la (pa 0) (qa 0)) ++ ((wLO G la lo) ++ ((wSYc G ya yy_0 yy_1 yy_2 yy_3 yy_4 yy_5 yy_6 yy_7 yy_8) ++ ((wPLc G pa pp_0 pp_1 pp_2 pp_3 pp_4 pp_5 pp_6 pp_7 pp_8) ++ ((wPLc G qa qq_0 qq_1 qq_2 qq_3 qq_4 qq_5 qq_6 qq_7 qq_8) ++ ((wAR G a9 60 ka) ++ ((wAR G r9 24 kr) ++ ((wAR G c9 1 kc) ++ ((wOU G l9 kl) ++ ((wAR G q3 12 o4.2.2))))))))))) ++ ((wAR G q1 60 o4.1) ++ ((wAR G q2 36 o4.2.1)))) H := xf_P (xf_p_12_012345678b_9a (wXO xa (ya 0) la (pa 0) (qa 0)) (wLO G la lo) (wSYc G ya yy_0 yy_1 yy_2 yy_3 yy_4 yy_5 yy_6 yy_7 yy_8) (wPLc G pa pp_0 pp_1 pp_2 pp_3 pp_4 pp_5 pp_6 pp_7 pp_8) (wPLc G qa qq_0 qq_1 qq_2 qq_3 qq_4 qq_5 qq_6 qq_7 qq_8) (wAR G a9 60 ka) (wAR G r9 24 kr) (wAR G c9 1 kc) (wOU G l9 kl) (wAR G q1 60 o4.1) (wAR G q2 36 o4.2.1) (wAR G q3 12 o4.2.2)) hP
        have hD9 : va_D A (((wXO xa (ya 0) la (pa 0) (qa 0)) ++ ((wLO G la lo) ++ ((wSYc G ya yy_0 yy_1 yy_2 yy_3 yy_4 yy_5 yy_6 yy_7 yy_8) ++ ((wPLc G pa pp_0 pp_1 pp_2 pp_3 pp_4 pp_5 pp_6 pp_7 pp_8) ++ ((wPLc G qa qq_0 qq_1 qq_2 qq_3 qq_4 qq_5 qq_6 qq_7 qq_8) ++ ((wAR G a9 60 ka) ++ ((wAR G r9 24 kr) ++ ((wAR G c9 1 kc) ++ ((wOU G l9 kl) ++ ((wAR G q3 12 o4.2.2))))))))))) ++ ((wAR G q1 60 o4.1) ++ ((wAR G q2 36 o4.2.1)))) := xf_D (xf_p_12_012345678b_9a (wXO xa (ya 0) la (pa 0) (qa 0)) (wLO G la lo) (wSYc G ya yy_0 yy_1 yy_2 yy_3 yy_4 yy_5 yy_6 yy_7 yy_8) (wPLc G pa pp_0 pp_1 pp_2 pp_3 pp_4 pp_5 pp_6 pp_7 pp_8) (wPLc G qa qq_0 qq_1 qq_2 qq_3 qq_4 qq_5 qq_6 qq_7 qq_8) (wAR G a9 60 ka) (wAR G r9 24 kr) (wAR G c9 1 kc) (wOU G l9 kl) (wAR G q1 60 o4.1) (wAR G q2 36 o4.2.1) (wAR G q3 12 o4.2.2)) hD
        refine xf_ci (va_runS (As := [.ref q1, .ref q2, .int x11_5]) (rest := []) ⟨hx, hb, hml, hown, hts⟩ (c_L_thing l G q1 q2 o4.1 o4.2.1 x11_5 o8 ho8 H.size) (va_cwS 3 hts gL_isPlan_L_thing rfl rfl rfl (by decide +kernel) ⟨(Nat.le_of_ble_eq_true rfl), (Nat.le_of_ble_eq_true rfl)⟩) (xk_preS hK hNE (xf_pr hP9) (xf_dr hD9)) rfl rfl hl.1 rfl (lv_room (Nat.le_of_ble_eq_true rfl)) dL_isPlan_56 ⟨(Nat.le_of_ble_eq_true rfl), (Nat.le_of_ble_eq_true rfl)⟩) hP9 hD9 hS hA (fun H locs hP hD hS => ?_)
        have hP : va_P G.1 vwCl ((wXO xa (ya 0) la (pa 0) (qa 0)) ++ ((wLO G la lo) ++ ((wSYc G ya yy_0 yy_1 yy_2 yy_3 yy_4 yy_5 yy_6 yy_7 yy_8) ++ ((wPLc G pa pp_0 pp_1 pp_2 pp_3 pp_4 pp_5 pp_6 pp_7 pp_8) ++ ((wPLc G qa qq_0 qq_1 qq_2 qq_3 qq_4 qq_5 qq_6 qq_7 qq_8) ++ ((wAR G a9 60 ka) ++ ((wAR G r9 24 kr) ++ ((wAR G c9 1 kc) ++ ((wOU G l9 kl) ++ ((wAR G q1 60 o4.1) ++ ((wAR G q2 36 o4.2.1) ++ ((wAR G q3 12 o4.2.2))))))))))))) H := xf_P (xf_p_12_012345678b_9a (wXO xa (ya 0) la (pa 0) (qa 0)) (wLO G la lo) (wSYc G ya yy_0 yy_1 yy_2 yy_3 yy_4 yy_5 yy_6 yy_7 yy_8) (wPLc G pa pp_0 pp_1 pp_2 pp_3 pp_4 pp_5 pp_6 pp_7 pp_8) (wPLc G qa qq_0 qq_1 qq_2 qq_3 qq_4 qq_5 qq_6 qq_7 qq_8) (wAR G a9 60 ka) (wAR G r9 24 kr) (wAR G c9 1 kc) (wOU G l9 kl) (wAR G q1 60 o4.1) (wAR G q2 36 o4.2.1) (wAR G q3 12 o4.2.2)).symm (show va_P G.1 vwCl (((wXO xa (ya 0) la (pa 0) (qa 0)) ++ ((wLO G la lo) ++ ((wSYc G ya yy_0 yy_1 yy_2 yy_3 yy_4 yy_5 yy_6 yy_7 yy_8) ++ ((wPLc G pa pp_0 pp_1 pp_2 pp_3 pp_4 pp_5 pp_6 pp_7 pp_8) ++ ((wPLc G qa qq_0 qq_1 qq_2 qq_3 qq_4 qq_5 qq_6 qq_7 qq_8) ++ ((wAR G a9 60 ka) ++ ((wAR G r9 24 kr) ++ ((wAR G c9 1 kc) ++ ((wOU G l9 kl) ++ ((wAR G q3 12 o4.2.2))))))))))) ++ ((wAR G q1 60 o4.1) ++ ((wAR G q2 36 o4.2.1)))) H from hP)
        have hD : va_D A ((wXO xa (ya 0) la (pa 0) (qa 0)) ++ ((wLO G la lo) ++ ((wSYc G ya yy_0 yy_1 yy_2 yy_3 yy_4 yy_5 yy_6 yy_7 yy_8) ++ ((wPLc G pa pp_0 pp_1 pp_2 pp_3 pp_4 pp_5 pp_6 pp_7 pp_8) ++ ((wPLc G qa qq_0 qq_1 qq_2 qq_3 qq_4 qq_5 qq_6 qq_7 qq_8) ++ ((wAR G a9 60 ka) ++ ((wAR G r9 24 kr) ++ ((wAR G c9 1 kc) ++ ((wOU G l9 kl) ++ ((wAR G q1 60 o4.1) ++ ((wAR G q2 36 o4.2.1) ++ ((wAR G q3 12 o4.2.2))))))))))))) := xf_D (xf_p_12_012345678b_9a (wXO xa (ya 0) la (pa 0) (qa 0)) (wLO G la lo) (wSYc G ya yy_0 yy_1 yy_2 yy_3 yy_4 yy_5 yy_6 yy_7 yy_8) (wPLc G pa pp_0 pp_1 pp_2 pp_3 pp_4 pp_5 pp_6 pp_7 pp_8) (wPLc G qa qq_0 qq_1 qq_2 qq_3 qq_4 qq_5 qq_6 qq_7 qq_8) (wAR G a9 60 ka) (wAR G r9 24 kr) (wAR G c9 1 kc) (wOU G l9 kl) (wAR G q1 60 o4.1) (wAR G q2 36 o4.2.1) (wAR G q3 12 o4.2.2)).symm (show va_D A (((wXO xa (ya 0) la (pa 0) (qa 0)) ++ ((wLO G la lo) ++ ((wSYc G ya yy_0 yy_1 yy_2 yy_3 yy_4 yy_5 yy_6 yy_7 yy_8) ++ ((wPLc G pa pp_0 pp_1 pp_2 pp_3 pp_4 pp_5 pp_6 pp_7 pp_8) ++ ((wPLc G qa qq_0 qq_1 qq_2 qq_3 qq_4 qq_5 qq_6 qq_7 qq_8) ++ ((wAR G a9 60 ka) ++ ((wAR G r9 24 kr) ++ ((wAR G c9 1 kc) ++ ((wOU G l9 kl) ++ ((wAR G q3 12 o4.2.2))))))))))) ++ ((wAR G q1 60 o4.1) ++ ((wAR G q2 36 o4.2.1)))) from hD)
        refine lv_istore (lv' := [(12, .int o8), (11, .int x11_5), (10, .int x10_5), (9, .int (0 : Int32)), (8, .int x8_5), (7, .ref q3), (6, .ref q2), (5, .ref q1), (0, .ref xa), (1, .ref a9), (2, .ref r9), (3, .ref c9), (4, .ref l9)]) hx hb dL_isPlan_59 hl (by decide) rfl (fun ls hl => ?_)
        refine lv_iload hx hb dL_isPlan_61 (lv_at hl 4 rfl) ?_
        refine lv_iload hx hb dL_isPlan_63 (lv_at hl 0 rfl) ?_
        obtain ⟨v9, hv9, h⟩ := sp_b h
        refine xk_jn G A s.heap ((wXO xa (ya 0) la (pa 0) (qa 0)) ++ ((wLO G la lo) ++ ((wSYc G ya yy_0 yy_1 yy_2 yy_3 yy_4 yy_5 yy_6 yy_7 yy_8) ++ ((wPLc G pa pp_0 pp_1 pp_2 pp_3 pp_4 pp_5 pp_6 pp_7 pp_8) ++ ((wPLc G qa qq_0 qq_1 qq_2 qq_3 qq_4 qq_5 qq_6 qq_7 qq_8) ++ ((wAR G a9 60 ka) ++ ((wAR G r9 24 kr) ++ ((wAR G c9 1 kc) ++ ((wOU G l9 kl) ++ ((wAR G q1 60 o4.1) ++ ((wAR G q2 36 o4.2.1) ++ ((wAR G q3 12 o4.2.2))))))))))))) 18 [(12, .int o8), (11, .int x11_5), (10, .int x10_5), (9, .int (0 : Int32)), (7, .ref q3), (6, .ref q2), (5, .ref q1), (0, .ref xa), (1, .ref a9), (2, .ref r9), (3, .ref c9), (4, .ref l9)] 73 [.int v9, .int x8_5] (fun H locs hP hD hS ls hl => ?_) (fun J9 => ?_)
        · refine lv_iadd hx hb dL_isPlan_73 ?_
          refine lv_istore (lv' := [(8, .int (x8_5 + v9)), (12, .int o8), (11, .int x11_5), (10, .int x10_5), (9, .int (0 : Int32)), (7, .ref q3), (6, .ref q2), (5, .ref q1), (0, .ref xa), (1, .ref a9), (2, .ref r9), (3, .ref c9), (4, .ref l9)]) hx hb dL_isPlan_74 hl (by decide) rfl (fun ls hl => ?_)
          refine lv_iload hx hb dL_isPlan_76 (lv_at hl 1 rfl) ?_
          obtain ⟨v10, hv10, h⟩ := sp_b h
          refine xk_jn G A s.heap ((wXO xa (ya 0) la (pa 0) (qa 0)) ++ ((wLO G la lo) ++ ((wSYc G ya yy_0 yy_1 yy_2 yy_3 yy_4 yy_5 yy_6 yy_7 yy_8) ++ ((wPLc G pa pp_0 pp_1 pp_2 pp_3 pp_4 pp_5 pp_6 pp_7 pp_8) ++ ((wPLc G qa qq_0 qq_1 qq_2 qq_3 qq_4 qq_5 qq_6 qq_7 qq_8) ++ ((wAR G a9 60 ka) ++ ((wAR G r9 24 kr) ++ ((wAR G c9 1 kc) ++ ((wOU G l9 kl) ++ ((wAR G q1 60 o4.1) ++ ((wAR G q2 36 o4.2.1) ++ ((wAR G q3 12 o4.2.2))))))))))))) 18 [(8, .int (x8_5 + v9)), (12, .int o8), (11, .int x11_5), (9, .int (0 : Int32)), (7, .ref q3), (6, .ref q2), (5, .ref q1), (0, .ref xa), (1, .ref a9), (2, .ref r9), (3, .ref c9), (4, .ref l9)] 88 [.int v10] (fun H locs hP hD hS ls hl => ?_) (fun J10 => ?_)
          · refine lv_istore (lv' := [(10, .int v10), (8, .int (x8_5 + v9)), (12, .int o8), (11, .int x11_5), (9, .int (0 : Int32)), (7, .ref q3), (6, .ref q2), (5, .ref q1), (0, .ref xa), (1, .ref a9), (2, .ref r9), (3, .ref c9), (4, .ref l9)]) hx hb dL_isPlan_88 hl (by decide) rfl (fun ls hl => ?_)
            refine lv_aload_n hx hb dL_isPlan_90 rfl (lv_at hl 8 rfl) ?_
            refine lv_iload hx hb dL_isPlan_91 (lv_at hl 3 rfl) ?_
            obtain ⟨o11, ho11, h⟩ := sp_b h
            have hP9 : va_P G.1 vwCl (((wAR G a9 60 ka) ++ ((wAR G r9 24 kr) ++ ((wAR G c9 1 kc) ++ ((wOU G l9 kl) ++ ((wAR G q1 60 o4.1) ++ ((wAR G q2 36 o4.2.1) ++ ((wAR G q3 12 o4.2.2)))))))) ++ ((wXO xa (ya 0) la (pa 0) (qa 0)) ++ ((wLO G la lo) ++ ((wSYc G ya yy_0 yy_1 yy_2 yy_3 yy_4 yy_5 yy_6 yy_7 yy_8) ++ ((wPLc G pa pp_0 pp_1 pp_2 pp_3 pp_4 pp_5 pp_6 pp_7 pp_8) ++ ((wPLc G qa qq_0 qq_1 qq_2 qq_3 qq_4 qq_5 qq_6 qq_7 qq_8))))))) H := xf_P (xf_p_12_56789ab_01234 (wXO xa (ya 0) la (pa 0) (qa 0)) (wLO G la lo) (wSYc G ya yy_0 yy_1 yy_2 yy_3 yy_4 yy_5 yy_6 yy_7 yy_8) (wPLc G pa pp_0 pp_1 pp_2 pp_3 pp_4 pp_5 pp_6 pp_7 pp_8) (wPLc G qa qq_0 qq_1 qq_2 qq_3 qq_4 qq_5 qq_6 qq_7 qq_8) (wAR G a9 60 ka) (wAR G r9 24 kr) (wAR G c9 1 kc) (wOU G l9 kl) (wAR G q1 60 o4.1) (wAR G q2 36 o4.2.1) (wAR G q3 12 o4.2.2)) hP
            have hD9 : va_D A (((wAR G a9 60 ka) ++ ((wAR G r9 24 kr) ++ ((wAR G c9 1 kc) ++ ((wOU G l9 kl) ++ ((wAR G q1 60 o4.1) ++ ((wAR G q2 36 o4.2.1) ++ ((wAR G q3 12 o4.2.2)))))))) ++ ((wXO xa (ya 0) la (pa 0) (qa 0)) ++ ((wLO G la lo) ++ ((wSYc G ya yy_0 yy_1 yy_2 yy_3 yy_4 yy_5 yy_6 yy_7 yy_8) ++ ((wPLc G pa pp_0 pp_1 pp_2 pp_3 pp_4 pp_5 pp_6 pp_7 pp_8) ++ ((wPLc G qa qq_0 qq_1 qq_2 qq_3 qq_4 qq_5 qq_6 qq_7 qq_8))))))) := xf_D (xf_p_12_56789ab_01234 (wXO xa (ya 0) la (pa 0) (qa 0)) (wLO G la lo) (wSYc G ya yy_0 yy_1 yy_2 yy_3 yy_4 yy_5 yy_6 yy_7 yy_8) (wPLc G pa pp_0 pp_1 pp_2 pp_3 pp_4 pp_5 pp_6 pp_7 pp_8) (wPLc G qa qq_0 qq_1 qq_2 qq_3 qq_4 qq_5 qq_6 qq_7 qq_8) (wAR G a9 60 ka) (wAR G r9 24 kr) (wAR G c9 1 kc) (wOU G l9 kl) (wAR G q1 60 o4.1) (wAR G q2 36 o4.2.1) (wAR G q3 12 o4.2.2)) hD
            refine xf_ci (va_runV (As := [.int x11_5]) (rest := []) ⟨hx, hb, hml, hown, hts⟩ (c_X2_on l G xa la ya pa qa lo (yy_0, yy_1, yy_2, yy_3, yy_4, yy_5, yy_6, yy_7, yy_8) (pp_0, pp_1, pp_2, pp_3, pp_4, pp_5, pp_6, pp_7, pp_8) (qq_0, qq_1, qq_2, qq_3, qq_4, qq_5, qq_6, qq_7, qq_8) x11_5 o11 ho11 H.size) (cwV 1 hts gL_isPlan_X2_on rfl rfl rfl (by decide +kernel) ⟨(Nat.le_of_ble_eq_true rfl), (Nat.le_of_ble_eq_true rfl)⟩) (xk_preV hK hNE (xf_pr hP9) (xf_dr hD9) (ci := 2) rfl rfl) rfl rfl hl.1 rfl (lv_room (Nat.le_of_ble_eq_true rfl)) dL_isPlan_93 ⟨(Nat.le_of_ble_eq_true rfl), (Nat.le_of_ble_eq_true rfl)⟩) hP9 hD9 hS hA (fun H locs hP hD hS => ?_)
            have hP : va_P G.1 vwCl ((wXO xa (ya 0) la (pa 0) (qa 0)) ++ ((wLO G la lo) ++ ((wSYc G ya yy_0 yy_1 yy_2 yy_3 yy_4 yy_5 yy_6 yy_7 yy_8) ++ ((wPLc G pa pp_0 pp_1 pp_2 pp_3 pp_4 pp_5 pp_6 pp_7 pp_8) ++ ((wPLc G qa qq_0 qq_1 qq_2 qq_3 qq_4 qq_5 qq_6 qq_7 qq_8) ++ ((wAR G a9 60 ka) ++ ((wAR G r9 24 kr) ++ ((wAR G c9 1 kc) ++ ((wOU G l9 kl) ++ ((wAR G q1 60 o4.1) ++ ((wAR G q2 36 o4.2.1) ++ ((wAR G q3 12 o4.2.2))))))))))))) H := xf_P (xf_p_12_56789ab_01234 (wXO xa (ya 0) la (pa 0) (qa 0)) (wLO G la lo) (wSYc G ya yy_0 yy_1 yy_2 yy_3 yy_4 yy_5 yy_6 yy_7 yy_8) (wPLc G pa pp_0 pp_1 pp_2 pp_3 pp_4 pp_5 pp_6 pp_7 pp_8) (wPLc G qa qq_0 qq_1 qq_2 qq_3 qq_4 qq_5 qq_6 qq_7 qq_8) (wAR G a9 60 ka) (wAR G r9 24 kr) (wAR G c9 1 kc) (wOU G l9 kl) (wAR G q1 60 o4.1) (wAR G q2 36 o4.2.1) (wAR G q3 12 o4.2.2)).symm (show va_P G.1 vwCl (((wAR G a9 60 ka) ++ ((wAR G r9 24 kr) ++ ((wAR G c9 1 kc) ++ ((wOU G l9 kl) ++ ((wAR G q1 60 o4.1) ++ ((wAR G q2 36 o4.2.1) ++ ((wAR G q3 12 o4.2.2)))))))) ++ ((wXO xa (ya 0) la (pa 0) (qa 0)) ++ ((wLO G la lo) ++ ((wSYc G ya yy_0 yy_1 yy_2 yy_3 yy_4 yy_5 yy_6 yy_7 yy_8) ++ ((wPLc G pa pp_0 pp_1 pp_2 pp_3 pp_4 pp_5 pp_6 pp_7 pp_8) ++ ((wPLc G qa qq_0 qq_1 qq_2 qq_3 qq_4 qq_5 qq_6 qq_7 qq_8))))))) H from hP)
            have hD : va_D A ((wXO xa (ya 0) la (pa 0) (qa 0)) ++ ((wLO G la lo) ++ ((wSYc G ya yy_0 yy_1 yy_2 yy_3 yy_4 yy_5 yy_6 yy_7 yy_8) ++ ((wPLc G pa pp_0 pp_1 pp_2 pp_3 pp_4 pp_5 pp_6 pp_7 pp_8) ++ ((wPLc G qa qq_0 qq_1 qq_2 qq_3 qq_4 qq_5 qq_6 qq_7 qq_8) ++ ((wAR G a9 60 ka) ++ ((wAR G r9 24 kr) ++ ((wAR G c9 1 kc) ++ ((wOU G l9 kl) ++ ((wAR G q1 60 o4.1) ++ ((wAR G q2 36 o4.2.1) ++ ((wAR G q3 12 o4.2.2))))))))))))) := xf_D (xf_p_12_56789ab_01234 (wXO xa (ya 0) la (pa 0) (qa 0)) (wLO G la lo) (wSYc G ya yy_0 yy_1 yy_2 yy_3 yy_4 yy_5 yy_6 yy_7 yy_8) (wPLc G pa pp_0 pp_1 pp_2 pp_3 pp_4 pp_5 pp_6 pp_7 pp_8) (wPLc G qa qq_0 qq_1 qq_2 qq_3 qq_4 qq_5 qq_6 qq_7 qq_8) (wAR G a9 60 ka) (wAR G r9 24 kr) (wAR G c9 1 kc) (wOU G l9 kl) (wAR G q1 60 o4.1) (wAR G q2 36 o4.2.1) (wAR G q3 12 o4.2.2)).symm (show va_D A (((wAR G a9 60 ka) ++ ((wAR G r9 24 kr) ++ ((wAR G c9 1 kc) ++ ((wOU G l9 kl) ++ ((wAR G q1 60 o4.1) ++ ((wAR G q2 36 o4.2.1) ++ ((wAR G q3 12 o4.2.2)))))))) ++ ((wXO xa (ya 0) la (pa 0) (qa 0)) ++ ((wLO G la lo) ++ ((wSYc G ya yy_0 yy_1 yy_2 yy_3 yy_4 yy_5 yy_6 yy_7 yy_8) ++ ((wPLc G pa pp_0 pp_1 pp_2 pp_3 pp_4 pp_5 pp_6 pp_7 pp_8) ++ ((wPLc G qa qq_0 qq_1 qq_2 qq_3 qq_4 qq_5 qq_6 qq_7 qq_8))))))) from hD)
            refine lv_iload hx hb dL_isPlan_96 (lv_at hl 2 rfl) ?_
            refine lv_icmp_ne (tgt := 145) hx hb dL_isPlan_98 (by decide) (fun c12 => ?_) (fun c12 => ?_)
            · have h := sp_f c12 h
              have e9 := hq_w6 (sp_s h)
              have hP9 : va_P G.1 vwCl (((wXO xa (ya 0) la (pa 0) (qa 0)) ++ ((wLO G la lo) ++ ((wSYc G ya yy_0 yy_1 yy_2 yy_3 yy_4 yy_5 yy_6 yy_7 yy_8) ++ ((wPLc G pa pp_0 pp_1 pp_2 pp_3 pp_4 pp_5 pp_6 pp_7 pp_8) ++ ((wPLc G qa qq_0 qq_1 qq_2 qq_3 qq_4 qq_5 qq_6 qq_7 qq_8) ++ ((wAR G a9 60 ka) ++ ((wAR G r9 24 kr) ++ ((wAR G c9 1 kc) ++ ((wOU G l9 kl)))))))))) ++ ((wAR G q1 60 o4.1) ++ ((wAR G q2 36 o4.2.1) ++ ((wAR G q3 12 o4.2.2))))) H := xf_P (xf_p_12_012345678_9ab (wXO xa (ya 0) la (pa 0) (qa 0)) (wLO G la lo) (wSYc G ya yy_0 yy_1 yy_2 yy_3 yy_4 yy_5 yy_6 yy_7 yy_8) (wPLc G pa pp_0 pp_1 pp_2 pp_3 pp_4 pp_5 pp_6 pp_7 pp_8) (wPLc G qa qq_0 qq_1 qq_2 qq_3 qq_4 qq_5 qq_6 qq_7 qq_8) (wAR G a9 60 ka) (wAR G r9 24 kr) (wAR G c9 1 kc) (wOU G l9 kl) (wAR G q1 60 o4.1) (wAR G q2 36 o4.2.1) (wAR G q3 12 o4.2.2)) hP
              have hD9 : va_D A (((wXO xa (ya 0) la (pa 0) (qa 0)) ++ ((wLO G la lo) ++ ((wSYc G ya yy_0 yy_1 yy_2 yy_3 yy_4 yy_5 yy_6 yy_7 yy_8) ++ ((wPLc G pa pp_0 pp_1 pp_2 pp_3 pp_4 pp_5 pp_6 pp_7 pp_8) ++ ((wPLc G qa qq_0 qq_1 qq_2 qq_3 qq_4 qq_5 qq_6 qq_7 qq_8) ++ ((wAR G a9 60 ka) ++ ((wAR G r9 24 kr) ++ ((wAR G c9 1 kc) ++ ((wOU G l9 kl)))))))))) ++ ((wAR G q1 60 o4.1) ++ ((wAR G q2 36 o4.2.1) ++ ((wAR G q3 12 o4.2.2))))) := xf_D (xf_p_12_012345678_9ab (wXO xa (ya 0) la (pa 0) (qa 0)) (wLO G la lo) (wSYc G ya yy_0 yy_1 yy_2 yy_3 yy_4 yy_5 yy_6 yy_7 yy_8) (wPLc G pa pp_0 pp_1 pp_2 pp_3 pp_4 pp_5 pp_6 pp_7 pp_8) (wPLc G qa qq_0 qq_1 qq_2 qq_3 qq_4 qq_5 qq_6 qq_7 qq_8) (wAR G a9 60 ka) (wAR G r9 24 kr) (wAR G c9 1 kc) (wOU G l9 kl) (wAR G q1 60 o4.1) (wAR G q2 36 o4.2.1) (wAR G q3 12 o4.2.2)) hD
              refine lv_iconst (v := (0 : Int32)) hx hb dL_isPlan_145 (by decide) ?_
              refine W.widen (k := 3) (n := 108) (Nat.le_of_ble_eq_true rfl) (Nat.le_of_ble_eq_true rfl) ?_
              exact xk_reZ hx hb hr hlk rfl (xf_pl hP9) (xf_dl hD9) hS e9.symm dL_isPlan_146
            · have h := sp_t c12 h
              refine lv_iload hx hb dL_isPlan_101 (lv_at hl 2 rfl) ?_
              refine lv_if_lt (tgt := 116) hx hb dL_isPlan_103 (by decide) (fun c13 => ?_) (fun c13 => ?_)
              · have h := sp_t c13 h
                refine lv_aload hx hb dL_isPlan_116 (lv_at hl 12 rfl) ?_
                refine lv_iload hx hb dL_isPlan_118 (lv_at hl 3 rfl) ?_
                obtain ⟨o14, ho14, h⟩ := sp_b h
                have hP9 : va_P G.1 vwCl (((wXO xa (ya 0) la (pa 0) (qa 0)) ++ ((wLO G la lo) ++ ((wSYc G ya yy_0 yy_1 yy_2 yy_3 yy_4 yy_5 yy_6 yy_7 yy_8) ++ ((wPLc G pa pp_0 pp_1 pp_2 pp_3 pp_4 pp_5 pp_6 pp_7 pp_8) ++ ((wPLc G qa qq_0 qq_1 qq_2 qq_3 qq_4 qq_5 qq_6 qq_7 qq_8) ++ ((wAR G a9 60 ka) ++ ((wAR G r9 24 kr) ++ ((wAR G c9 1 kc) ++ ((wAR G q1 60 o4.1) ++ ((wAR G q2 36 o4.2.1) ++ ((wAR G q3 12 o4.2.2)))))))))))) ++ ((wOU G l9 kl))) H := xf_P (xf_p_12_012345679ab_8 (wXO xa (ya 0) la (pa 0) (qa 0)) (wLO G la lo) (wSYc G ya yy_0 yy_1 yy_2 yy_3 yy_4 yy_5 yy_6 yy_7 yy_8) (wPLc G pa pp_0 pp_1 pp_2 pp_3 pp_4 pp_5 pp_6 pp_7 pp_8) (wPLc G qa qq_0 qq_1 qq_2 qq_3 qq_4 qq_5 qq_6 qq_7 qq_8) (wAR G a9 60 ka) (wAR G r9 24 kr) (wAR G c9 1 kc) (wOU G l9 kl) (wAR G q1 60 o4.1) (wAR G q2 36 o4.2.1) (wAR G q3 12 o4.2.2)) hP
                have hD9 : va_D A (((wXO xa (ya 0) la (pa 0) (qa 0)) ++ ((wLO G la lo) ++ ((wSYc G ya yy_0 yy_1 yy_2 yy_3 yy_4 yy_5 yy_6 yy_7 yy_8) ++ ((wPLc G pa pp_0 pp_1 pp_2 pp_3 pp_4 pp_5 pp_6 pp_7 pp_8) ++ ((wPLc G qa qq_0 qq_1 qq_2 qq_3 qq_4 qq_5 qq_6 qq_7 qq_8) ++ ((wAR G a9 60 ka) ++ ((wAR G r9 24 kr) ++ ((wAR G c9 1 kc) ++ ((wAR G q1 60 o4.1) ++ ((wAR G q2 36 o4.2.1) ++ ((wAR G q3 12 o4.2.2)))))))))))) ++ ((wOU G l9 kl))) := xf_D (xf_p_12_012345679ab_8 (wXO xa (ya 0) la (pa 0) (qa 0)) (wLO G la lo) (wSYc G ya yy_0 yy_1 yy_2 yy_3 yy_4 yy_5 yy_6 yy_7 yy_8) (wPLc G pa pp_0 pp_1 pp_2 pp_3 pp_4 pp_5 pp_6 pp_7 pp_8) (wPLc G qa qq_0 qq_1 qq_2 qq_3 qq_4 qq_5 qq_6 qq_7 qq_8) (wAR G a9 60 ka) (wAR G r9 24 kr) (wAR G c9 1 kc) (wOU G l9 kl) (wAR G q1 60 o4.1) (wAR G q2 36 o4.2.1) (wAR G q3 12 o4.2.2)) hD
                refine xf_ci (va_runS (As := [.ref l9, .int x11_5]) (rest := []) ⟨hx, hb, hml, hown, hts⟩ (c_L_isLost l G l9 kl x11_5 o14 ho14 H.size) (va_cwS 2 hts gL_isPlan_L_isLost rfl rfl rfl (by decide +kernel) ⟨(Nat.le_of_ble_eq_true rfl), (Nat.le_of_ble_eq_true rfl)⟩) (xk_preS hK hNE (xf_pr hP9) (xf_dr hD9)) rfl rfl hl.1 rfl (lv_room (Nat.le_of_ble_eq_true rfl)) dL_isPlan_120 ⟨(Nat.le_of_ble_eq_true rfl), (Nat.le_of_ble_eq_true rfl)⟩) hP9 hD9 hS hA (fun H locs hP hD hS => ?_)
                have hP : va_P G.1 vwCl ((wXO xa (ya 0) la (pa 0) (qa 0)) ++ ((wLO G la lo) ++ ((wSYc G ya yy_0 yy_1 yy_2 yy_3 yy_4 yy_5 yy_6 yy_7 yy_8) ++ ((wPLc G pa pp_0 pp_1 pp_2 pp_3 pp_4 pp_5 pp_6 pp_7 pp_8) ++ ((wPLc G qa qq_0 qq_1 qq_2 qq_3 qq_4 qq_5 qq_6 qq_7 qq_8) ++ ((wAR G a9 60 ka) ++ ((wAR G r9 24 kr) ++ ((wAR G c9 1 kc) ++ ((wOU G l9 kl) ++ ((wAR G q1 60 o4.1) ++ ((wAR G q2 36 o4.2.1) ++ ((wAR G q3 12 o4.2.2))))))))))))) H := xf_P (xf_p_12_012345679ab_8 (wXO xa (ya 0) la (pa 0) (qa 0)) (wLO G la lo) (wSYc G ya yy_0 yy_1 yy_2 yy_3 yy_4 yy_5 yy_6 yy_7 yy_8) (wPLc G pa pp_0 pp_1 pp_2 pp_3 pp_4 pp_5 pp_6 pp_7 pp_8) (wPLc G qa qq_0 qq_1 qq_2 qq_3 qq_4 qq_5 qq_6 qq_7 qq_8) (wAR G a9 60 ka) (wAR G r9 24 kr) (wAR G c9 1 kc) (wOU G l9 kl) (wAR G q1 60 o4.1) (wAR G q2 36 o4.2.1) (wAR G q3 12 o4.2.2)).symm (show va_P G.1 vwCl (((wXO xa (ya 0) la (pa 0) (qa 0)) ++ ((wLO G la lo) ++ ((wSYc G ya yy_0 yy_1 yy_2 yy_3 yy_4 yy_5 yy_6 yy_7 yy_8) ++ ((wPLc G pa pp_0 pp_1 pp_2 pp_3 pp_4 pp_5 pp_6 pp_7 pp_8) ++ ((wPLc G qa qq_0 qq_1 qq_2 qq_3 qq_4 qq_5 qq_6 qq_7 qq_8) ++ ((wAR G a9 60 ka) ++ ((wAR G r9 24 kr) ++ ((wAR G c9 1 kc) ++ ((wAR G q1 60 o4.1) ++ ((wAR G q2 36 o4.2.1) ++ ((wAR G q3 12 o4.2.2)))))))))))) ++ ((wOU G l9 kl))) H from hP)
                have hD : va_D A ((wXO xa (ya 0) la (pa 0) (qa 0)) ++ ((wLO G la lo) ++ ((wSYc G ya yy_0 yy_1 yy_2 yy_3 yy_4 yy_5 yy_6 yy_7 yy_8) ++ ((wPLc G pa pp_0 pp_1 pp_2 pp_3 pp_4 pp_5 pp_6 pp_7 pp_8) ++ ((wPLc G qa qq_0 qq_1 qq_2 qq_3 qq_4 qq_5 qq_6 qq_7 qq_8) ++ ((wAR G a9 60 ka) ++ ((wAR G r9 24 kr) ++ ((wAR G c9 1 kc) ++ ((wOU G l9 kl) ++ ((wAR G q1 60 o4.1) ++ ((wAR G q2 36 o4.2.1) ++ ((wAR G q3 12 o4.2.2))))))))))))) := xf_D (xf_p_12_012345679ab_8 (wXO xa (ya 0) la (pa 0) (qa 0)) (wLO G la lo) (wSYc G ya yy_0 yy_1 yy_2 yy_3 yy_4 yy_5 yy_6 yy_7 yy_8) (wPLc G pa pp_0 pp_1 pp_2 pp_3 pp_4 pp_5 pp_6 pp_7 pp_8) (wPLc G qa qq_0 qq_1 qq_2 qq_3 qq_4 qq_5 qq_6 qq_7 qq_8) (wAR G a9 60 ka) (wAR G r9 24 kr) (wAR G c9 1 kc) (wOU G l9 kl) (wAR G q1 60 o4.1) (wAR G q2 36 o4.2.1) (wAR G q3 12 o4.2.2)).symm (show va_D A (((wXO xa (ya 0) la (pa 0) (qa 0)) ++ ((wLO G la lo) ++ ((wSYc G ya yy_0 yy_1 yy_2 yy_3 yy_4 yy_5 yy_6 yy_7 yy_8) ++ ((wPLc G pa pp_0 pp_1 pp_2 pp_3 pp_4 pp_5 pp_6 pp_7 pp_8) ++ ((wPLc G qa qq_0 qq_1 qq_2 qq_3 qq_4 qq_5 qq_6 qq_7 qq_8) ++ ((wAR G a9 60 ka) ++ ((wAR G r9 24 kr) ++ ((wAR G c9 1 kc) ++ ((wAR G q1 60 o4.1) ++ ((wAR G q2 36 o4.2.1) ++ ((wAR G q3 12 o4.2.2)))))))))))) ++ ((wOU G l9 kl))) from hD)
                refine lv_if_ne (tgt := 147) hx hb dL_isPlan_123 (by decide) (fun c15 => ?_) (fun c15 => ?_)
                · have h := sp_f c15 h
                  refine lv_iinc (v := (x11_5 + (1 : Int32))) (lv' := [(11, .int (x11_5 + (1 : Int32))), (10, .int v10), (8, .int (x8_5 + v9)), (12, .int o8), (9, .int (0 : Int32)), (7, .ref q3), (6, .ref q2), (5, .ref q1), (0, .ref xa), (1, .ref a9), (2, .ref r9), (3, .ref c9), (4, .ref l9)]) hx hb dL_isPlan_147 hl (k := 3) rfl rfl (by decide) rfl (fun ls hl => ?_)
                  refine lv_goto (tgt := 43) hx hb dL_isPlan_150 (by decide) ?_
                  exact ih_5 ((x11_5 + (1 : Int32)), v10, (x8_5 + v9)) h _ _ hP hD hS _ (lv_sub hl [0, 1, 4, 2, 5, 6, 7, 8, 9, 10, 11, 12] rfl)
                · have h := sp_t c15 h
                  refine lv_aload_n hx hb dL_isPlan_126 rfl (lv_at hl 9 rfl) ?_
                  refine lv_aload_n hx hb dL_isPlan_127 rfl (lv_at hl 10 rfl) ?_
                  refine lv_aload_n hx hb dL_isPlan_128 rfl (lv_at hl 11 rfl) ?_
                  refine lv_aload hx hb dL_isPlan_129 (lv_at hl 7 rfl) ?_
                  refine lv_aload hx hb dL_isPlan_131 (lv_at hl 6 rfl) ?_
                  refine lv_aload hx hb dL_isPlan_133 (lv_at hl 5 rfl) ?_
                  refine lv_iload hx hb dL_isPlan_135 (lv_at hl 3 rfl) ?_
                  refine lv_iload hx hb dL_isPlan_137 (lv_at hl 2 rfl) ?_
                  obtain ⟨o16, ho16, h⟩ := sp_b h
                  have hP9 : va_P G.1 vwCl (((wXO xa (ya 0) la (pa 0) (qa 0)) ++ ((wLO G la lo) ++ ((wSYc G ya yy_0 yy_1 yy_2 yy_3 yy_4 yy_5 yy_6 yy_7 yy_8) ++ ((wPLc G pa pp_0 pp_1 pp_2 pp_3 pp_4 pp_5 pp_6 pp_7 pp_8) ++ ((wPLc G qa qq_0 qq_1 qq_2 qq_3 qq_4 qq_5 qq_6 qq_7 qq_8) ++ ((wOU G l9 kl))))))) ++ ((wAR G a9 60 ka) ++ ((wAR G r9 24 kr) ++ ((wAR G c9 1 kc) ++ ((wAR G q1 60 o4.1) ++ ((wAR G q2 36 o4.2.1) ++ ((wAR G q3 12 o4.2.2)))))))) H := xf_P (xf_p_12_012348_5679ab (wXO xa (ya 0) la (pa 0) (qa 0)) (wLO G la lo) (wSYc G ya yy_0 yy_1 yy_2 yy_3 yy_4 yy_5 yy_6 yy_7 yy_8) (wPLc G pa pp_0 pp_1 pp_2 pp_3 pp_4 pp_5 pp_6 pp_7 pp_8) (wPLc G qa qq_0 qq_1 qq_2 qq_3 qq_4 qq_5 qq_6 qq_7 qq_8) (wAR G a9 60 ka) (wAR G r9 24 kr) (wAR G c9 1 kc) (wOU G l9 kl) (wAR G q1 60 o4.1) (wAR G q2 36 o4.2.1) (wAR G q3 12 o4.2.2)) hP
                  have hD9 : va_D A (((wXO xa (ya 0) la (pa 0) (qa 0)) ++ ((wLO G la lo) ++ ((wSYc G ya yy_0 yy_1 yy_2 yy_3 yy_4 yy_5 yy_6 yy_7 yy_8) ++ ((wPLc G pa pp_0 pp_1 pp_2 pp_3 pp_4 pp_5 pp_6 pp_7 pp_8) ++ ((wPLc G qa qq_0 qq_1 qq_2 qq_3 qq_4 qq_5 qq_6 qq_7 qq_8) ++ ((wOU G l9 kl))))))) ++ ((wAR G a9 60 ka) ++ ((wAR G r9 24 kr) ++ ((wAR G c9 1 kc) ++ ((wAR G q1 60 o4.1) ++ ((wAR G q2 36 o4.2.1) ++ ((wAR G q3 12 o4.2.2)))))))) := xf_D (xf_p_12_012348_5679ab (wXO xa (ya 0) la (pa 0) (qa 0)) (wLO G la lo) (wSYc G ya yy_0 yy_1 yy_2 yy_3 yy_4 yy_5 yy_6 yy_7 yy_8) (wPLc G pa pp_0 pp_1 pp_2 pp_3 pp_4 pp_5 pp_6 pp_7 pp_8) (wPLc G qa qq_0 qq_1 qq_2 qq_3 qq_4 qq_5 qq_6 qq_7 qq_8) (wAR G a9 60 ka) (wAR G r9 24 kr) (wAR G c9 1 kc) (wOU G l9 kl) (wAR G q1 60 o4.1) (wAR G q2 36 o4.2.1) (wAR G q3 12 o4.2.2)) hD
                  refine xf_ci (va_runS (As := [.ref a9, .ref r9, .ref c9, .ref q1, .ref q2, .ref q3, .int x11_5, .int o8]) (rest := []) ⟨hx, hb, hml, hown, hts⟩ (c_L_isBusy l G a9 r9 c9 q1 q2 q3 ka kr kc o4.1 o4.2.1 o4.2.2 x11_5 o8 o16 ho16 H.size) (va_cwS 8 hts gL_isPlan_L_isBusy rfl rfl rfl (by decide +kernel) ⟨(Nat.le_of_ble_eq_true rfl), (Nat.le_of_ble_eq_true rfl)⟩) (xk_preS hK hNE (xf_pr hP9) (xf_dr hD9)) rfl rfl hl.1 rfl (lv_room (Nat.le_of_ble_eq_true rfl)) dL_isPlan_139 ⟨(Nat.le_of_ble_eq_true rfl), (Nat.le_of_ble_eq_true rfl)⟩) hP9 hD9 hS hA (fun H locs hP hD hS => ?_)
                  have hP : va_P G.1 vwCl ((wXO xa (ya 0) la (pa 0) (qa 0)) ++ ((wLO G la lo) ++ ((wSYc G ya yy_0 yy_1 yy_2 yy_3 yy_4 yy_5 yy_6 yy_7 yy_8) ++ ((wPLc G pa pp_0 pp_1 pp_2 pp_3 pp_4 pp_5 pp_6 pp_7 pp_8) ++ ((wPLc G qa qq_0 qq_1 qq_2 qq_3 qq_4 qq_5 qq_6 qq_7 qq_8) ++ ((wAR G a9 60 ka) ++ ((wAR G r9 24 kr) ++ ((wAR G c9 1 kc) ++ ((wOU G l9 kl) ++ ((wAR G q1 60 o4.1) ++ ((wAR G q2 36 o4.2.1) ++ ((wAR G q3 12 o4.2.2))))))))))))) H := xf_P (xf_p_12_012348_5679ab (wXO xa (ya 0) la (pa 0) (qa 0)) (wLO G la lo) (wSYc G ya yy_0 yy_1 yy_2 yy_3 yy_4 yy_5 yy_6 yy_7 yy_8) (wPLc G pa pp_0 pp_1 pp_2 pp_3 pp_4 pp_5 pp_6 pp_7 pp_8) (wPLc G qa qq_0 qq_1 qq_2 qq_3 qq_4 qq_5 qq_6 qq_7 qq_8) (wAR G a9 60 ka) (wAR G r9 24 kr) (wAR G c9 1 kc) (wOU G l9 kl) (wAR G q1 60 o4.1) (wAR G q2 36 o4.2.1) (wAR G q3 12 o4.2.2)).symm (show va_P G.1 vwCl (((wXO xa (ya 0) la (pa 0) (qa 0)) ++ ((wLO G la lo) ++ ((wSYc G ya yy_0 yy_1 yy_2 yy_3 yy_4 yy_5 yy_6 yy_7 yy_8) ++ ((wPLc G pa pp_0 pp_1 pp_2 pp_3 pp_4 pp_5 pp_6 pp_7 pp_8) ++ ((wPLc G qa qq_0 qq_1 qq_2 qq_3 qq_4 qq_5 qq_6 qq_7 qq_8) ++ ((wOU G l9 kl))))))) ++ ((wAR G a9 60 ka) ++ ((wAR G r9 24 kr) ++ ((wAR G c9 1 kc) ++ ((wAR G q1 60 o4.1) ++ ((wAR G q2 36 o4.2.1) ++ ((wAR G q3 12 o4.2.2)))))))) H from hP)
                  have hD : va_D A ((wXO xa (ya 0) la (pa 0) (qa 0)) ++ ((wLO G la lo) ++ ((wSYc G ya yy_0 yy_1 yy_2 yy_3 yy_4 yy_5 yy_6 yy_7 yy_8) ++ ((wPLc G pa pp_0 pp_1 pp_2 pp_3 pp_4 pp_5 pp_6 pp_7 pp_8) ++ ((wPLc G qa qq_0 qq_1 qq_2 qq_3 qq_4 qq_5 qq_6 qq_7 qq_8) ++ ((wAR G a9 60 ka) ++ ((wAR G r9 24 kr) ++ ((wAR G c9 1 kc) ++ ((wOU G l9 kl) ++ ((wAR G q1 60 o4.1) ++ ((wAR G q2 36 o4.2.1) ++ ((wAR G q3 12 o4.2.2))))))))))))) := xf_D (xf_p_12_012348_5679ab (wXO xa (ya 0) la (pa 0) (qa 0)) (wLO G la lo) (wSYc G ya yy_0 yy_1 yy_2 yy_3 yy_4 yy_5 yy_6 yy_7 yy_8) (wPLc G pa pp_0 pp_1 pp_2 pp_3 pp_4 pp_5 pp_6 pp_7 pp_8) (wPLc G qa qq_0 qq_1 qq_2 qq_3 qq_4 qq_5 qq_6 qq_7 qq_8) (wAR G a9 60 ka) (wAR G r9 24 kr) (wAR G c9 1 kc) (wOU G l9 kl) (wAR G q1 60 o4.1) (wAR G q2 36 o4.2.1) (wAR G q3 12 o4.2.2)).symm (show va_D A (((wXO xa (ya 0) la (pa 0) (qa 0)) ++ ((wLO G la lo) ++ ((wSYc G ya yy_0 yy_1 yy_2 yy_3 yy_4 yy_5 yy_6 yy_7 yy_8) ++ ((wPLc G pa pp_0 pp_1 pp_2 pp_3 pp_4 pp_5 pp_6 pp_7 pp_8) ++ ((wPLc G qa qq_0 qq_1 qq_2 qq_3 qq_4 qq_5 qq_6 qq_7 qq_8) ++ ((wOU G l9 kl))))))) ++ ((wAR G a9 60 ka) ++ ((wAR G r9 24 kr) ++ ((wAR G c9 1 kc) ++ ((wAR G q1 60 o4.1) ++ ((wAR G q2 36 o4.2.1) ++ ((wAR G q3 12 o4.2.2)))))))) from hD)
                  refine lv_if_ne (tgt := 147) hx hb dL_isPlan_142 (by decide) (fun c17 => ?_) (fun c17 => ?_)
                  · have h := sp_f c17 h
                    refine lv_iinc (v := (x11_5 + (1 : Int32))) (lv' := [(11, .int (x11_5 + (1 : Int32))), (10, .int v10), (8, .int (x8_5 + v9)), (12, .int o8), (9, .int (0 : Int32)), (7, .ref q3), (6, .ref q2), (5, .ref q1), (0, .ref xa), (1, .ref a9), (2, .ref r9), (3, .ref c9), (4, .ref l9)]) hx hb dL_isPlan_147 hl (k := 3) rfl rfl (by decide) rfl (fun ls hl => ?_)
                    refine lv_goto (tgt := 43) hx hb dL_isPlan_150 (by decide) ?_
                    exact ih_5 ((x11_5 + (1 : Int32)), v10, (x8_5 + v9)) h _ _ hP hD hS _ (lv_sub hl [0, 1, 4, 2, 5, 6, 7, 8, 9, 10, 11, 12] rfl)
                  · have h := sp_t c17 h
                    have e9 := hq_w6 (sp_s h)
                    have hP9 : va_P G.1 vwCl (((wXO xa (ya 0) la (pa 0) (qa 0)) ++ ((wLO G la lo) ++ ((wSYc G ya yy_0 yy_1 yy_2 yy_3 yy_4 yy_5 yy_6 yy_7 yy_8) ++ ((wPLc G pa pp_0 pp_1 pp_2 pp_3 pp_4 pp_5 pp_6 pp_7 pp_8) ++ ((wPLc G qa qq_0 qq_1 qq_2 qq_3 qq_4 qq_5 qq_6 qq_7 qq_8) ++ ((wAR G a9 60 ka) ++ ((wAR G r9 24 kr) ++ ((wAR G c9 1 kc) ++ ((wOU G l9 kl)))))))))) ++ ((wAR G q1 60 o4.1) ++ ((wAR G q2 36 o4.2.1) ++ ((wAR G q3 12 o4.2.2))))) H := xf_P (xf_p_12_012345678_9ab (wXO xa (ya 0) la (pa 0) (qa 0)) (wLO G la lo) (wSYc G ya yy_0 yy_1 yy_2 yy_3 yy_4 yy_5 yy_6 yy_7 yy_8) (wPLc G pa pp_0 pp_1 pp_2 pp_3 pp_4 pp_5 pp_6 pp_7 pp_8) (wPLc G qa qq_0 qq_1 qq_2 qq_3 qq_4 qq_5 qq_6 qq_7 qq_8) (wAR G a9 60 ka) (wAR G r9 24 kr) (wAR G c9 1 kc) (wOU G l9 kl) (wAR G q1 60 o4.1) (wAR G q2 36 o4.2.1) (wAR G q3 12 o4.2.2)) hP
                    have hD9 : va_D A (((wXO xa (ya 0) la (pa 0) (qa 0)) ++ ((wLO G la lo) ++ ((wSYc G ya yy_0 yy_1 yy_2 yy_3 yy_4 yy_5 yy_6 yy_7 yy_8) ++ ((wPLc G pa pp_0 pp_1 pp_2 pp_3 pp_4 pp_5 pp_6 pp_7 pp_8) ++ ((wPLc G qa qq_0 qq_1 qq_2 qq_3 qq_4 qq_5 qq_6 qq_7 qq_8) ++ ((wAR G a9 60 ka) ++ ((wAR G r9 24 kr) ++ ((wAR G c9 1 kc) ++ ((wOU G l9 kl)))))))))) ++ ((wAR G q1 60 o4.1) ++ ((wAR G q2 36 o4.2.1) ++ ((wAR G q3 12 o4.2.2))))) := xf_D (xf_p_12_012345678_9ab (wXO xa (ya 0) la (pa 0) (qa 0)) (wLO G la lo) (wSYc G ya yy_0 yy_1 yy_2 yy_3 yy_4 yy_5 yy_6 yy_7 yy_8) (wPLc G pa pp_0 pp_1 pp_2 pp_3 pp_4 pp_5 pp_6 pp_7 pp_8) (wPLc G qa qq_0 qq_1 qq_2 qq_3 qq_4 qq_5 qq_6 qq_7 qq_8) (wAR G a9 60 ka) (wAR G r9 24 kr) (wAR G c9 1 kc) (wOU G l9 kl) (wAR G q1 60 o4.1) (wAR G q2 36 o4.2.1) (wAR G q3 12 o4.2.2)) hD
                    refine lv_iconst (v := (0 : Int32)) hx hb dL_isPlan_145 (by decide) ?_
                    refine W.widen (k := 3) (n := 108) (Nat.le_of_ble_eq_true rfl) (Nat.le_of_ble_eq_true rfl) ?_
                    exact xk_reZ hx hb hr hlk rfl (xf_pl hP9) (xf_dl hD9) hS e9.symm dL_isPlan_146
              · have h := sp_f c13 h
                refine lv_aload hx hb dL_isPlan_106 (lv_at hl 12 rfl) ?_
                refine lv_iload hx hb dL_isPlan_108 (lv_at hl 3 rfl) ?_
                obtain ⟨o18, ho18, h⟩ := sp_b h
                have hP9 : va_P G.1 vwCl (((wXO xa (ya 0) la (pa 0) (qa 0)) ++ ((wLO G la lo) ++ ((wSYc G ya yy_0 yy_1 yy_2 yy_3 yy_4 yy_5 yy_6 yy_7 yy_8) ++ ((wPLc G pa pp_0 pp_1 pp_2 pp_3 pp_4 pp_5 pp_6 pp_7 pp_8) ++ ((wPLc G qa qq_0 qq_1 qq_2 qq_3 qq_4 qq_5 qq_6 qq_7 qq_8) ++ ((wAR G a9 60 ka) ++ ((wAR G r9 24 kr) ++ ((wAR G c9 1 kc) ++ ((wAR G q1 60 o4.1) ++ ((wAR G q2 36 o4.2.1) ++ ((wAR G q3 12 o4.2.2)))))))))))) ++ ((wOU G l9 kl))) H := xf_P (xf_p_12_012345679ab_8 (wXO xa (ya 0) la (pa 0) (qa 0)) (wLO G la lo) (wSYc G ya yy_0 yy_1 yy_2 yy_3 yy_4 yy_5 yy_6 yy_7 yy_8) (wPLc G pa pp_0 pp_1 pp_2 pp_3 pp_4 pp_5 pp_6 pp_7 pp_8) (wPLc G qa qq_0 qq_1 qq_2 qq_3 qq_4 qq_5 qq_6 qq_7 qq_8) (wAR G a9 60 ka) (wAR G r9 24 kr) (wAR G c9 1 kc) (wOU G l9 kl) (wAR G q1 60 o4.1) (wAR G q2 36 o4.2.1) (wAR G q3 12 o4.2.2)) hP
                have hD9 : va_D A (((wXO xa (ya 0) la (pa 0) (qa 0)) ++ ((wLO G la lo) ++ ((wSYc G ya yy_0 yy_1 yy_2 yy_3 yy_4 yy_5 yy_6 yy_7 yy_8) ++ ((wPLc G pa pp_0 pp_1 pp_2 pp_3 pp_4 pp_5 pp_6 pp_7 pp_8) ++ ((wPLc G qa qq_0 qq_1 qq_2 qq_3 qq_4 qq_5 qq_6 qq_7 qq_8) ++ ((wAR G a9 60 ka) ++ ((wAR G r9 24 kr) ++ ((wAR G c9 1 kc) ++ ((wAR G q1 60 o4.1) ++ ((wAR G q2 36 o4.2.1) ++ ((wAR G q3 12 o4.2.2)))))))))))) ++ ((wOU G l9 kl))) := xf_D (xf_p_12_012345679ab_8 (wXO xa (ya 0) la (pa 0) (qa 0)) (wLO G la lo) (wSYc G ya yy_0 yy_1 yy_2 yy_3 yy_4 yy_5 yy_6 yy_7 yy_8) (wPLc G pa pp_0 pp_1 pp_2 pp_3 pp_4 pp_5 pp_6 pp_7 pp_8) (wPLc G qa qq_0 qq_1 qq_2 qq_3 qq_4 qq_5 qq_6 qq_7 qq_8) (wAR G a9 60 ka) (wAR G r9 24 kr) (wAR G c9 1 kc) (wOU G l9 kl) (wAR G q1 60 o4.1) (wAR G q2 36 o4.2.1) (wAR G q3 12 o4.2.2)) hD
                refine xf_ci (va_runS (As := [.ref l9, .int x11_5]) (rest := []) ⟨hx, hb, hml, hown, hts⟩ (c_L_isLost l G l9 kl x11_5 o18 ho18 H.size) (va_cwS 2 hts gL_isPlan_L_isLost rfl rfl rfl (by decide +kernel) ⟨(Nat.le_of_ble_eq_true rfl), (Nat.le_of_ble_eq_true rfl)⟩) (xk_preS hK hNE (xf_pr hP9) (xf_dr hD9)) rfl rfl hl.1 rfl (lv_room (Nat.le_of_ble_eq_true rfl)) dL_isPlan_110 ⟨(Nat.le_of_ble_eq_true rfl), (Nat.le_of_ble_eq_true rfl)⟩) hP9 hD9 hS hA (fun H locs hP hD hS => ?_)
                have hP : va_P G.1 vwCl ((wXO xa (ya 0) la (pa 0) (qa 0)) ++ ((wLO G la lo) ++ ((wSYc G ya yy_0 yy_1 yy_2 yy_3 yy_4 yy_5 yy_6 yy_7 yy_8) ++ ((wPLc G pa pp_0 pp_1 pp_2 pp_3 pp_4 pp_5 pp_6 pp_7 pp_8) ++ ((wPLc G qa qq_0 qq_1 qq_2 qq_3 qq_4 qq_5 qq_6 qq_7 qq_8) ++ ((wAR G a9 60 ka) ++ ((wAR G r9 24 kr) ++ ((wAR G c9 1 kc) ++ ((wOU G l9 kl) ++ ((wAR G q1 60 o4.1) ++ ((wAR G q2 36 o4.2.1) ++ ((wAR G q3 12 o4.2.2))))))))))))) H := xf_P (xf_p_12_012345679ab_8 (wXO xa (ya 0) la (pa 0) (qa 0)) (wLO G la lo) (wSYc G ya yy_0 yy_1 yy_2 yy_3 yy_4 yy_5 yy_6 yy_7 yy_8) (wPLc G pa pp_0 pp_1 pp_2 pp_3 pp_4 pp_5 pp_6 pp_7 pp_8) (wPLc G qa qq_0 qq_1 qq_2 qq_3 qq_4 qq_5 qq_6 qq_7 qq_8) (wAR G a9 60 ka) (wAR G r9 24 kr) (wAR G c9 1 kc) (wOU G l9 kl) (wAR G q1 60 o4.1) (wAR G q2 36 o4.2.1) (wAR G q3 12 o4.2.2)).symm (show va_P G.1 vwCl (((wXO xa (ya 0) la (pa 0) (qa 0)) ++ ((wLO G la lo) ++ ((wSYc G ya yy_0 yy_1 yy_2 yy_3 yy_4 yy_5 yy_6 yy_7 yy_8) ++ ((wPLc G pa pp_0 pp_1 pp_2 pp_3 pp_4 pp_5 pp_6 pp_7 pp_8) ++ ((wPLc G qa qq_0 qq_1 qq_2 qq_3 qq_4 qq_5 qq_6 qq_7 qq_8) ++ ((wAR G a9 60 ka) ++ ((wAR G r9 24 kr) ++ ((wAR G c9 1 kc) ++ ((wAR G q1 60 o4.1) ++ ((wAR G q2 36 o4.2.1) ++ ((wAR G q3 12 o4.2.2)))))))))))) ++ ((wOU G l9 kl))) H from hP)
                have hD : va_D A ((wXO xa (ya 0) la (pa 0) (qa 0)) ++ ((wLO G la lo) ++ ((wSYc G ya yy_0 yy_1 yy_2 yy_3 yy_4 yy_5 yy_6 yy_7 yy_8) ++ ((wPLc G pa pp_0 pp_1 pp_2 pp_3 pp_4 pp_5 pp_6 pp_7 pp_8) ++ ((wPLc G qa qq_0 qq_1 qq_2 qq_3 qq_4 qq_5 qq_6 qq_7 qq_8) ++ ((wAR G a9 60 ka) ++ ((wAR G r9 24 kr) ++ ((wAR G c9 1 kc) ++ ((wOU G l9 kl) ++ ((wAR G q1 60 o4.1) ++ ((wAR G q2 36 o4.2.1) ++ ((wAR G q3 12 o4.2.2))))))))))))) := xf_D (xf_p_12_012345679ab_8 (wXO xa (ya 0) la (pa 0) (qa 0)) (wLO G la lo) (wSYc G ya yy_0 yy_1 yy_2 yy_3 yy_4 yy_5 yy_6 yy_7 yy_8) (wPLc G pa pp_0 pp_1 pp_2 pp_3 pp_4 pp_5 pp_6 pp_7 pp_8) (wPLc G qa qq_0 qq_1 qq_2 qq_3 qq_4 qq_5 qq_6 qq_7 qq_8) (wAR G a9 60 ka) (wAR G r9 24 kr) (wAR G c9 1 kc) (wOU G l9 kl) (wAR G q1 60 o4.1) (wAR G q2 36 o4.2.1) (wAR G q3 12 o4.2.2)).symm (show va_D A (((wXO xa (ya 0) la (pa 0) (qa 0)) ++ ((wLO G la lo) ++ ((wSYc G ya yy_0 yy_1 yy_2 yy_3 yy_4 yy_5 yy_6 yy_7 yy_8) ++ ((wPLc G pa pp_0 pp_1 pp_2 pp_3 pp_4 pp_5 pp_6 pp_7 pp_8) ++ ((wPLc G qa qq_0 qq_1 qq_2 qq_3 qq_4 qq_5 qq_6 qq_7 qq_8) ++ ((wAR G a9 60 ka) ++ ((wAR G r9 24 kr) ++ ((wAR G c9 1 kc) ++ ((wAR G q1 60 o4.1) ++ ((wAR G q2 36 o4.2.1) ++ ((wAR G q3 12 o4.2.2)))))))))))) ++ ((wOU G l9 kl))) from hD)
                refine lv_if_ne (tgt := 145) hx hb dL_isPlan_113 (by decide) (fun c19 => ?_) (fun c19 => ?_)
                · have h := sp_f c19 h
                  have e9 := hq_w6 (sp_s h)
                  have hP9 : va_P G.1 vwCl (((wXO xa (ya 0) la (pa 0) (qa 0)) ++ ((wLO G la lo) ++ ((wSYc G ya yy_0 yy_1 yy_2 yy_3 yy_4 yy_5 yy_6 yy_7 yy_8) ++ ((wPLc G pa pp_0 pp_1 pp_2 pp_3 pp_4 pp_5 pp_6 pp_7 pp_8) ++ ((wPLc G qa qq_0 qq_1 qq_2 qq_3 qq_4 qq_5 qq_6 qq_7 qq_8) ++ ((wAR G a9 60 ka) ++ ((wAR G r9 24 kr) ++ ((wAR G c9 1 kc) ++ ((wOU G l9 kl)))))))))) ++ ((wAR G q1 60 o4.1) ++ ((wAR G q2 36 o4.2.1) ++ ((wAR G q3 12 o4.2.2))))) H := xf_P (xf_p_12_012345678_9ab (wXO xa (ya 0) la (pa 0) (qa 0)) (wLO G la lo) (wSYc G ya yy_0 yy_1 yy_2 yy_3 yy_4 yy_5 yy_6 yy_7 yy_8) (wPLc G pa pp_0 pp_1 pp_2 pp_3 pp_4 pp_5 pp_6 pp_7 pp_8) (wPLc G qa qq_0 qq_1 qq_2 qq_3 qq_4 qq_5 qq_6 qq_7 qq_8) (wAR G a9 60 ka) (wAR G r9 24 kr) (wAR G c9 1 kc) (wOU G l9 kl) (wAR G q1 60 o4.1) (wAR G q2 36 o4.2.1) (wAR G q3 12 o4.2.2)) hP
                  have hD9 : va_D A (((wXO xa (ya 0) la (pa 0) (qa 0)) ++ ((wLO G la lo) ++ ((wSYc G ya yy_0 yy_1 yy_2 yy_3 yy_4 yy_5 yy_6 yy_7 yy_8) ++ ((wPLc G pa pp_0 pp_1 pp_2 pp_3 pp_4 pp_5 pp_6 pp_7 pp_8) ++ ((wPLc G qa qq_0 qq_1 qq_2 qq_3 qq_4 qq_5 qq_6 qq_7 qq_8) ++ ((wAR G a9 60 ka) ++ ((wAR G r9 24 kr) ++ ((wAR G c9 1 kc) ++ ((wOU G l9 kl)))))))))) ++ ((wAR G q1 60 o4.1) ++ ((wAR G q2 36 o4.2.1) ++ ((wAR G q3 12 o4.2.2))))) := xf_D (xf_p_12_012345678_9ab (wXO xa (ya 0) la (pa 0) (qa 0)) (wLO G la lo) (wSYc G ya yy_0 yy_1 yy_2 yy_3 yy_4 yy_5 yy_6 yy_7 yy_8) (wPLc G pa pp_0 pp_1 pp_2 pp_3 pp_4 pp_5 pp_6 pp_7 pp_8) (wPLc G qa qq_0 qq_1 qq_2 qq_3 qq_4 qq_5 qq_6 qq_7 qq_8) (wAR G a9 60 ka) (wAR G r9 24 kr) (wAR G c9 1 kc) (wOU G l9 kl) (wAR G q1 60 o4.1) (wAR G q2 36 o4.2.1) (wAR G q3 12 o4.2.2)) hD
                  refine lv_iconst (v := (0 : Int32)) hx hb dL_isPlan_145 (by decide) ?_
                  refine W.widen (k := 3) (n := 108) (Nat.le_of_ble_eq_true rfl) (Nat.le_of_ble_eq_true rfl) ?_
                  exact xk_reZ hx hb hr hlk rfl (xf_pl hP9) (xf_dl hD9) hS e9.symm dL_isPlan_146
                · have h := sp_t c19 h
                  refine lv_aload hx hb dL_isPlan_116 (lv_at hl 12 rfl) ?_
                  refine lv_iload hx hb dL_isPlan_118 (lv_at hl 3 rfl) ?_
                  obtain ⟨o20, ho20, h⟩ := sp_b h
                  have hP9 : va_P G.1 vwCl (((wXO xa (ya 0) la (pa 0) (qa 0)) ++ ((wLO G la lo) ++ ((wSYc G ya yy_0 yy_1 yy_2 yy_3 yy_4 yy_5 yy_6 yy_7 yy_8) ++ ((wPLc G pa pp_0 pp_1 pp_2 pp_3 pp_4 pp_5 pp_6 pp_7 pp_8) ++ ((wPLc G qa qq_0 qq_1 qq_2 qq_3 qq_4 qq_5 qq_6 qq_7 qq_8) ++ ((wAR G a9 60 ka) ++ ((wAR G r9 24 kr) ++ ((wAR G c9 1 kc) ++ ((wAR G q1 60 o4.1) ++ ((wAR G q2 36 o4.2.1) ++ ((wAR G q3 12 o4.2.2)))))))))))) ++ ((wOU G l9 kl))) H := xf_P (xf_p_12_012345679ab_8 (wXO xa (ya 0) la (pa 0) (qa 0)) (wLO G la lo) (wSYc G ya yy_0 yy_1 yy_2 yy_3 yy_4 yy_5 yy_6 yy_7 yy_8) (wPLc G pa pp_0 pp_1 pp_2 pp_3 pp_4 pp_5 pp_6 pp_7 pp_8) (wPLc G qa qq_0 qq_1 qq_2 qq_3 qq_4 qq_5 qq_6 qq_7 qq_8) (wAR G a9 60 ka) (wAR G r9 24 kr) (wAR G c9 1 kc) (wOU G l9 kl) (wAR G q1 60 o4.1) (wAR G q2 36 o4.2.1) (wAR G q3 12 o4.2.2)) hP
                  have hD9 : va_D A (((wXO xa (ya 0) la (pa 0) (qa 0)) ++ ((wLO G la lo) ++ ((wSYc G ya yy_0 yy_1 yy_2 yy_3 yy_4 yy_5 yy_6 yy_7 yy_8) ++ ((wPLc G pa pp_0 pp_1 pp_2 pp_3 pp_4 pp_5 pp_6 pp_7 pp_8) ++ ((wPLc G qa qq_0 qq_1 qq_2 qq_3 qq_4 qq_5 qq_6 qq_7 qq_8) ++ ((wAR G a9 60 ka) ++ ((wAR G r9 24 kr) ++ ((wAR G c9 1 kc) ++ ((wAR G q1 60 o4.1) ++ ((wAR G q2 36 o4.2.1) ++ ((wAR G q3 12 o4.2.2)))))))))))) ++ ((wOU G l9 kl))) := xf_D (xf_p_12_012345679ab_8 (wXO xa (ya 0) la (pa 0) (qa 0)) (wLO G la lo) (wSYc G ya yy_0 yy_1 yy_2 yy_3 yy_4 yy_5 yy_6 yy_7 yy_8) (wPLc G pa pp_0 pp_1 pp_2 pp_3 pp_4 pp_5 pp_6 pp_7 pp_8) (wPLc G qa qq_0 qq_1 qq_2 qq_3 qq_4 qq_5 qq_6 qq_7 qq_8) (wAR G a9 60 ka) (wAR G r9 24 kr) (wAR G c9 1 kc) (wOU G l9 kl) (wAR G q1 60 o4.1) (wAR G q2 36 o4.2.1) (wAR G q3 12 o4.2.2)) hD
                  refine xf_ci (va_runS (As := [.ref l9, .int x11_5]) (rest := []) ⟨hx, hb, hml, hown, hts⟩ (c_L_isLost l G l9 kl x11_5 o20 ho20 H.size) (va_cwS 2 hts gL_isPlan_L_isLost rfl rfl rfl (by decide +kernel) ⟨(Nat.le_of_ble_eq_true rfl), (Nat.le_of_ble_eq_true rfl)⟩) (xk_preS hK hNE (xf_pr hP9) (xf_dr hD9)) rfl rfl hl.1 rfl (lv_room (Nat.le_of_ble_eq_true rfl)) dL_isPlan_120 ⟨(Nat.le_of_ble_eq_true rfl), (Nat.le_of_ble_eq_true rfl)⟩) hP9 hD9 hS hA (fun H locs hP hD hS => ?_)
                  have hP : va_P G.1 vwCl ((wXO xa (ya 0) la (pa 0) (qa 0)) ++ ((wLO G la lo) ++ ((wSYc G ya yy_0 yy_1 yy_2 yy_3 yy_4 yy_5 yy_6 yy_7 yy_8) ++ ((wPLc G pa pp_0 pp_1 pp_2 pp_3 pp_4 pp_5 pp_6 pp_7 pp_8) ++ ((wPLc G qa qq_0 qq_1 qq_2 qq_3 qq_4 qq_5 qq_6 qq_7 qq_8) ++ ((wAR G a9 60 ka) ++ ((wAR G r9 24 kr) ++ ((wAR G c9 1 kc) ++ ((wOU G l9 kl) ++ ((wAR G q1 60 o4.1) ++ ((wAR G q2 36 o4.2.1) ++ ((wAR G q3 12 o4.2.2))))))))))))) H := xf_P (xf_p_12_012345679ab_8 (wXO xa (ya 0) la (pa 0) (qa 0)) (wLO G la lo) (wSYc G ya yy_0 yy_1 yy_2 yy_3 yy_4 yy_5 yy_6 yy_7 yy_8) (wPLc G pa pp_0 pp_1 pp_2 pp_3 pp_4 pp_5 pp_6 pp_7 pp_8) (wPLc G qa qq_0 qq_1 qq_2 qq_3 qq_4 qq_5 qq_6 qq_7 qq_8) (wAR G a9 60 ka) (wAR G r9 24 kr) (wAR G c9 1 kc) (wOU G l9 kl) (wAR G q1 60 o4.1) (wAR G q2 36 o4.2.1) (wAR G q3 12 o4.2.2)).symm (show va_P G.1 vwCl (((wXO xa (ya 0) la (pa 0) (qa 0)) ++ ((wLO G la lo) ++ ((wSYc G ya yy_0 yy_1 yy_2 yy_3 yy_4 yy_5 yy_6 yy_7 yy_8) ++ ((wPLc G pa pp_0 pp_1 pp_2 pp_3 pp_4 pp_5 pp_6 pp_7 pp_8) ++ ((wPLc G qa qq_0 qq_1 qq_2 qq_3 qq_4 qq_5 qq_6 qq_7 qq_8) ++ ((wAR G a9 60 ka) ++ ((wAR G r9 24 kr) ++ ((wAR G c9 1 kc) ++ ((wAR G q1 60 o4.1) ++ ((wAR G q2 36 o4.2.1) ++ ((wAR G q3 12 o4.2.2)))))))))))) ++ ((wOU G l9 kl))) H from hP)
                  have hD : va_D A ((wXO xa (ya 0) la (pa 0) (qa 0)) ++ ((wLO G la lo) ++ ((wSYc G ya yy_0 yy_1 yy_2 yy_3 yy_4 yy_5 yy_6 yy_7 yy_8) ++ ((wPLc G pa pp_0 pp_1 pp_2 pp_3 pp_4 pp_5 pp_6 pp_7 pp_8) ++ ((wPLc G qa qq_0 qq_1 qq_2 qq_3 qq_4 qq_5 qq_6 qq_7 qq_8) ++ ((wAR G a9 60 ka) ++ ((wAR G r9 24 kr) ++ ((wAR G c9 1 kc) ++ ((wOU G l9 kl) ++ ((wAR G q1 60 o4.1) ++ ((wAR G q2 36 o4.2.1) ++ ((wAR G q3 12 o4.2.2))))))))))))) := xf_D (xf_p_12_012345679ab_8 (wXO xa (ya 0) la (pa 0) (qa 0)) (wLO G la lo) (wSYc G ya yy_0 yy_1 yy_2 yy_3 yy_4 yy_5 yy_6 yy_7 yy_8) (wPLc G pa pp_0 pp_1 pp_2 pp_3 pp_4 pp_5 pp_6 pp_7 pp_8) (wPLc G qa qq_0 qq_1 qq_2 qq_3 qq_4 qq_5 qq_6 qq_7 qq_8) (wAR G a9 60 ka) (wAR G r9 24 kr) (wAR G c9 1 kc) (wOU G l9 kl) (wAR G q1 60 o4.1) (wAR G q2 36 o4.2.1) (wAR G q3 12 o4.2.2)).symm (show va_D A (((wXO xa (ya 0) la (pa 0) (qa 0)) ++ ((wLO G la lo) ++ ((wSYc G ya yy_0 yy_1 yy_2 yy_3 yy_4 yy_5 yy_6 yy_7 yy_8) ++ ((wPLc G pa pp_0 pp_1 pp_2 pp_3 pp_4 pp_5 pp_6 pp_7 pp_8) ++ ((wPLc G qa qq_0 qq_1 qq_2 qq_3 qq_4 qq_5 qq_6 qq_7 qq_8) ++ ((wAR G a9 60 ka) ++ ((wAR G r9 24 kr) ++ ((wAR G c9 1 kc) ++ ((wAR G q1 60 o4.1) ++ ((wAR G q2 36 o4.2.1) ++ ((wAR G q3 12 o4.2.2)))))))))))) ++ ((wOU G l9 kl))) from hD)
                  refine lv_if_ne (tgt := 147) hx hb dL_isPlan_123 (by decide) (fun c21 => ?_) (fun c21 => ?_)
                  · have h := sp_f c21 h
                    refine lv_iinc (v := (x11_5 + (1 : Int32))) (lv' := [(11, .int (x11_5 + (1 : Int32))), (10, .int v10), (8, .int (x8_5 + v9)), (12, .int o8), (9, .int (0 : Int32)), (7, .ref q3), (6, .ref q2), (5, .ref q1), (0, .ref xa), (1, .ref a9), (2, .ref r9), (3, .ref c9), (4, .ref l9)]) hx hb dL_isPlan_147 hl (k := 3) rfl rfl (by decide) rfl (fun ls hl => ?_)
                    refine lv_goto (tgt := 43) hx hb dL_isPlan_150 (by decide) ?_
                    exact ih_5 ((x11_5 + (1 : Int32)), v10, (x8_5 + v9)) h _ _ hP hD hS _ (lv_sub hl [0, 1, 4, 2, 5, 6, 7, 8, 9, 10, 11, 12] rfl)
                  · have h := sp_t c21 h
                    refine lv_aload_n hx hb dL_isPlan_126 rfl (lv_at hl 9 rfl) ?_
                    refine lv_aload_n hx hb dL_isPlan_127 rfl (lv_at hl 10 rfl) ?_
                    refine lv_aload_n hx hb dL_isPlan_128 rfl (lv_at hl 11 rfl) ?_
                    refine lv_aload hx hb dL_isPlan_129 (lv_at hl 7 rfl) ?_
                    refine lv_aload hx hb dL_isPlan_131 (lv_at hl 6 rfl) ?_
                    refine lv_aload hx hb dL_isPlan_133 (lv_at hl 5 rfl) ?_
                    refine lv_iload hx hb dL_isPlan_135 (lv_at hl 3 rfl) ?_
                    refine lv_iload hx hb dL_isPlan_137 (lv_at hl 2 rfl) ?_
                    obtain ⟨o22, ho22, h⟩ := sp_b h
                    have hP9 : va_P G.1 vwCl (((wXO xa (ya 0) la (pa 0) (qa 0)) ++ ((wLO G la lo) ++ ((wSYc G ya yy_0 yy_1 yy_2 yy_3 yy_4 yy_5 yy_6 yy_7 yy_8) ++ ((wPLc G pa pp_0 pp_1 pp_2 pp_3 pp_4 pp_5 pp_6 pp_7 pp_8) ++ ((wPLc G qa qq_0 qq_1 qq_2 qq_3 qq_4 qq_5 qq_6 qq_7 qq_8) ++ ((wOU G l9 kl))))))) ++ ((wAR G a9 60 ka) ++ ((wAR G r9 24 kr) ++ ((wAR G c9 1 kc) ++ ((wAR G q1 60 o4.1) ++ ((wAR G q2 36 o4.2.1) ++ ((wAR G q3 12 o4.2.2)))))))) H := xf_P (xf_p_12_012348_5679ab (wXO xa (ya 0) la (pa 0) (qa 0)) (wLO G la lo) (wSYc G ya yy_0 yy_1 yy_2 yy_3 yy_4 yy_5 yy_6 yy_7 yy_8) (wPLc G pa pp_0 pp_1 pp_2 pp_3 pp_4 pp_5 pp_6 pp_7 pp_8) (wPLc G qa qq_0 qq_1 qq_2 qq_3 qq_4 qq_5 qq_6 qq_7 qq_8) (wAR G a9 60 ka) (wAR G r9 24 kr) (wAR G c9 1 kc) (wOU G l9 kl) (wAR G q1 60 o4.1) (wAR G q2 36 o4.2.1) (wAR G q3 12 o4.2.2)) hP
                    have hD9 : va_D A (((wXO xa (ya 0) la (pa 0) (qa 0)) ++ ((wLO G la lo) ++ ((wSYc G ya yy_0 yy_1 yy_2 yy_3 yy_4 yy_5 yy_6 yy_7 yy_8) ++ ((wPLc G pa pp_0 pp_1 pp_2 pp_3 pp_4 pp_5 pp_6 pp_7 pp_8) ++ ((wPLc G qa qq_0 qq_1 qq_2 qq_3 qq_4 qq_5 qq_6 qq_7 qq_8) ++ ((wOU G l9 kl))))))) ++ ((wAR G a9 60 ka) ++ ((wAR G r9 24 kr) ++ ((wAR G c9 1 kc) ++ ((wAR G q1 60 o4.1) ++ ((wAR G q2 36 o4.2.1) ++ ((wAR G q3 12 o4.2.2)))))))) := xf_D (xf_p_12_012348_5679ab (wXO xa (ya 0) la (pa 0) (qa 0)) (wLO G la lo) (wSYc G ya yy_0 yy_1 yy_2 yy_3 yy_4 yy_5 yy_6 yy_7 yy_8) (wPLc G pa pp_0 pp_1 pp_2 pp_3 pp_4 pp_5 pp_6 pp_7 pp_8) (wPLc G qa qq_0 qq_1 qq_2 qq_3 qq_4 qq_5 qq_6 qq_7 qq_8) (wAR G a9 60 ka) (wAR G r9 24 kr) (wAR G c9 1 kc) (wOU G l9 kl) (wAR G q1 60 o4.1) (wAR G q2 36 o4.2.1) (wAR G q3 12 o4.2.2)) hD
                    refine xf_ci (va_runS (As := [.ref a9, .ref r9, .ref c9, .ref q1, .ref q2, .ref q3, .int x11_5, .int o8]) (rest := []) ⟨hx, hb, hml, hown, hts⟩ (c_L_isBusy l G a9 r9 c9 q1 q2 q3 ka kr kc o4.1 o4.2.1 o4.2.2 x11_5 o8 o22 ho22 H.size) (va_cwS 8 hts gL_isPlan_L_isBusy rfl rfl rfl (by decide +kernel) ⟨(Nat.le_of_ble_eq_true rfl), (Nat.le_of_ble_eq_true rfl)⟩) (xk_preS hK hNE (xf_pr hP9) (xf_dr hD9)) rfl rfl hl.1 rfl (lv_room (Nat.le_of_ble_eq_true rfl)) dL_isPlan_139 ⟨(Nat.le_of_ble_eq_true rfl), (Nat.le_of_ble_eq_true rfl)⟩) hP9 hD9 hS hA (fun H locs hP hD hS => ?_)
                    have hP : va_P G.1 vwCl ((wXO xa (ya 0) la (pa 0) (qa 0)) ++ ((wLO G la lo) ++ ((wSYc G ya yy_0 yy_1 yy_2 yy_3 yy_4 yy_5 yy_6 yy_7 yy_8) ++ ((wPLc G pa pp_0 pp_1 pp_2 pp_3 pp_4 pp_5 pp_6 pp_7 pp_8) ++ ((wPLc G qa qq_0 qq_1 qq_2 qq_3 qq_4 qq_5 qq_6 qq_7 qq_8) ++ ((wAR G a9 60 ka) ++ ((wAR G r9 24 kr) ++ ((wAR G c9 1 kc) ++ ((wOU G l9 kl) ++ ((wAR G q1 60 o4.1) ++ ((wAR G q2 36 o4.2.1) ++ ((wAR G q3 12 o4.2.2))))))))))))) H := xf_P (xf_p_12_012348_5679ab (wXO xa (ya 0) la (pa 0) (qa 0)) (wLO G la lo) (wSYc G ya yy_0 yy_1 yy_2 yy_3 yy_4 yy_5 yy_6 yy_7 yy_8) (wPLc G pa pp_0 pp_1 pp_2 pp_3 pp_4 pp_5 pp_6 pp_7 pp_8) (wPLc G qa qq_0 qq_1 qq_2 qq_3 qq_4 qq_5 qq_6 qq_7 qq_8) (wAR G a9 60 ka) (wAR G r9 24 kr) (wAR G c9 1 kc) (wOU G l9 kl) (wAR G q1 60 o4.1) (wAR G q2 36 o4.2.1) (wAR G q3 12 o4.2.2)).symm (show va_P G.1 vwCl (((wXO xa (ya 0) la (pa 0) (qa 0)) ++ ((wLO G la lo) ++ ((wSYc G ya yy_0 yy_1 yy_2 yy_3 yy_4 yy_5 yy_6 yy_7 yy_8) ++ ((wPLc G pa pp_0 pp_1 pp_2 pp_3 pp_4 pp_5 pp_6 pp_7 pp_8) ++ ((wPLc G qa qq_0 qq_1 qq_2 qq_3 qq_4 qq_5 qq_6 qq_7 qq_8) ++ ((wOU G l9 kl))))))) ++ ((wAR G a9 60 ka) ++ ((wAR G r9 24 kr) ++ ((wAR G c9 1 kc) ++ ((wAR G q1 60 o4.1) ++ ((wAR G q2 36 o4.2.1) ++ ((wAR G q3 12 o4.2.2)))))))) H from hP)
                    have hD : va_D A ((wXO xa (ya 0) la (pa 0) (qa 0)) ++ ((wLO G la lo) ++ ((wSYc G ya yy_0 yy_1 yy_2 yy_3 yy_4 yy_5 yy_6 yy_7 yy_8) ++ ((wPLc G pa pp_0 pp_1 pp_2 pp_3 pp_4 pp_5 pp_6 pp_7 pp_8) ++ ((wPLc G qa qq_0 qq_1 qq_2 qq_3 qq_4 qq_5 qq_6 qq_7 qq_8) ++ ((wAR G a9 60 ka) ++ ((wAR G r9 24 kr) ++ ((wAR G c9 1 kc) ++ ((wOU G l9 kl) ++ ((wAR G q1 60 o4.1) ++ ((wAR G q2 36 o4.2.1) ++ ((wAR G q3 12 o4.2.2))))))))))))) := xf_D (xf_p_12_012348_5679ab (wXO xa (ya 0) la (pa 0) (qa 0)) (wLO G la lo) (wSYc G ya yy_0 yy_1 yy_2 yy_3 yy_4 yy_5 yy_6 yy_7 yy_8) (wPLc G pa pp_0 pp_1 pp_2 pp_3 pp_4 pp_5 pp_6 pp_7 pp_8) (wPLc G qa qq_0 qq_1 qq_2 qq_3 qq_4 qq_5 qq_6 qq_7 qq_8) (wAR G a9 60 ka) (wAR G r9 24 kr) (wAR G c9 1 kc) (wOU G l9 kl) (wAR G q1 60 o4.1) (wAR G q2 36 o4.2.1) (wAR G q3 12 o4.2.2)).symm (show va_D A (((wXO xa (ya 0) la (pa 0) (qa 0)) ++ ((wLO G la lo) ++ ((wSYc G ya yy_0 yy_1 yy_2 yy_3 yy_4 yy_5 yy_6 yy_7 yy_8) ++ ((wPLc G pa pp_0 pp_1 pp_2 pp_3 pp_4 pp_5 pp_6 pp_7 pp_8) ++ ((wPLc G qa qq_0 qq_1 qq_2 qq_3 qq_4 qq_5 qq_6 qq_7 qq_8) ++ ((wOU G l9 kl))))))) ++ ((wAR G a9 60 ka) ++ ((wAR G r9 24 kr) ++ ((wAR G c9 1 kc) ++ ((wAR G q1 60 o4.1) ++ ((wAR G q2 36 o4.2.1) ++ ((wAR G q3 12 o4.2.2)))))))) from hD)
                    refine lv_if_ne (tgt := 147) hx hb dL_isPlan_142 (by decide) (fun c23 => ?_) (fun c23 => ?_)
                    · have h := sp_f c23 h
                      refine lv_iinc (v := (x11_5 + (1 : Int32))) (lv' := [(11, .int (x11_5 + (1 : Int32))), (10, .int v10), (8, .int (x8_5 + v9)), (12, .int o8), (9, .int (0 : Int32)), (7, .ref q3), (6, .ref q2), (5, .ref q1), (0, .ref xa), (1, .ref a9), (2, .ref r9), (3, .ref c9), (4, .ref l9)]) hx hb dL_isPlan_147 hl (k := 3) rfl rfl (by decide) rfl (fun ls hl => ?_)
                      refine lv_goto (tgt := 43) hx hb dL_isPlan_150 (by decide) ?_
                      exact ih_5 ((x11_5 + (1 : Int32)), v10, (x8_5 + v9)) h _ _ hP hD hS _ (lv_sub hl [0, 1, 4, 2, 5, 6, 7, 8, 9, 10, 11, 12] rfl)
                    · have h := sp_t c23 h
                      have e9 := hq_w6 (sp_s h)
                      have hP9 : va_P G.1 vwCl (((wXO xa (ya 0) la (pa 0) (qa 0)) ++ ((wLO G la lo) ++ ((wSYc G ya yy_0 yy_1 yy_2 yy_3 yy_4 yy_5 yy_6 yy_7 yy_8) ++ ((wPLc G pa pp_0 pp_1 pp_2 pp_3 pp_4 pp_5 pp_6 pp_7 pp_8) ++ ((wPLc G qa qq_0 qq_1 qq_2 qq_3 qq_4 qq_5 qq_6 qq_7 qq_8) ++ ((wAR G a9 60 ka) ++ ((wAR G r9 24 kr) ++ ((wAR G c9 1 kc) ++ ((wOU G l9 kl)))))))))) ++ ((wAR G q1 60 o4.1) ++ ((wAR G q2 36 o4.2.1) ++ ((wAR G q3 12 o4.2.2))))) H := xf_P (xf_p_12_012345678_9ab (wXO xa (ya 0) la (pa 0) (qa 0)) (wLO G la lo) (wSYc G ya yy_0 yy_1 yy_2 yy_3 yy_4 yy_5 yy_6 yy_7 yy_8) (wPLc G pa pp_0 pp_1 pp_2 pp_3 pp_4 pp_5 pp_6 pp_7 pp_8) (wPLc G qa qq_0 qq_1 qq_2 qq_3 qq_4 qq_5 qq_6 qq_7 qq_8) (wAR G a9 60 ka) (wAR G r9 24 kr) (wAR G c9 1 kc) (wOU G l9 kl) (wAR G q1 60 o4.1) (wAR G q2 36 o4.2.1) (wAR G q3 12 o4.2.2)) hP
                      have hD9 : va_D A (((wXO xa (ya 0) la (pa 0) (qa 0)) ++ ((wLO G la lo) ++ ((wSYc G ya yy_0 yy_1 yy_2 yy_3 yy_4 yy_5 yy_6 yy_7 yy_8) ++ ((wPLc G pa pp_0 pp_1 pp_2 pp_3 pp_4 pp_5 pp_6 pp_7 pp_8) ++ ((wPLc G qa qq_0 qq_1 qq_2 qq_3 qq_4 qq_5 qq_6 qq_7 qq_8) ++ ((wAR G a9 60 ka) ++ ((wAR G r9 24 kr) ++ ((wAR G c9 1 kc) ++ ((wOU G l9 kl)))))))))) ++ ((wAR G q1 60 o4.1) ++ ((wAR G q2 36 o4.2.1) ++ ((wAR G q3 12 o4.2.2))))) := xf_D (xf_p_12_012345678_9ab (wXO xa (ya 0) la (pa 0) (qa 0)) (wLO G la lo) (wSYc G ya yy_0 yy_1 yy_2 yy_3 yy_4 yy_5 yy_6 yy_7 yy_8) (wPLc G pa pp_0 pp_1 pp_2 pp_3 pp_4 pp_5 pp_6 pp_7 pp_8) (wPLc G qa qq_0 qq_1 qq_2 qq_3 qq_4 qq_5 qq_6 qq_7 qq_8) (wAR G a9 60 ka) (wAR G r9 24 kr) (wAR G c9 1 kc) (wOU G l9 kl) (wAR G q1 60 o4.1) (wAR G q2 36 o4.2.1) (wAR G q3 12 o4.2.2)) hD
                      refine lv_iconst (v := (0 : Int32)) hx hb dL_isPlan_145 (by decide) ?_
                      refine W.widen (k := 3) (n := 108) (Nat.le_of_ble_eq_true rfl) (Nat.le_of_ble_eq_true rfl) ?_
                      exact xk_reZ hx hb hr hlk rfl (xf_pl hP9) (xf_dl hD9) hS e9.symm dL_isPlan_146
          · have h := hv10
            clear hv10
            refine lv_if_ge (tgt := 86) hx hb dL_isPlan_78 (by decide) (fun c24 => ?_) (fun c24 => ?_)
            · have h := sp_t c24 h
              refine lv_iload hx hb dL_isPlan_86 (lv_at hl 2 rfl) ?_
              obtain rfl := sp_s h
              exact J10 _ _ hP hD hS _ (lv_sub hl [0, 1, 2, 4, 5, 6, 7, 8, 9, 10, 11, 12] rfl)
            · have h := sp_f c24 h
              refine lv_iload hx hb dL_isPlan_81 (lv_at hl 3 rfl) ?_
              refine lv_goto (tgt := 88) hx hb dL_isPlan_83 (by decide) ?_
              obtain rfl := sp_s h
              exact J10 _ _ hP hD hS _ (lv_sub hl [0, 1, 2, 4, 5, 6, 7, 8, 9, 10, 11, 12] rfl)
        · have h := hv9
          clear hv9
          refine lv_if_ge (tgt := 72) hx hb dL_isPlan_65 (by decide) (fun c25 => ?_) (fun c25 => ?_)
          · have h := sp_t c25 h
            refine lv_iconst (v := (1 : Int32)) hx hb dL_isPlan_72 (by decide) ?_
            obtain rfl := sp_s h
            exact J9 _ _ hP hD hS _ (lv_sub hl [0, 1, 2, 3, 5, 6, 7, 8, 9, 10, 11, 12] rfl)
          · have h := sp_f c25 h
            refine lv_iconst (v := (0 : Int32)) hx hb dL_isPlan_68 (by decide) ?_
            refine lv_goto (tgt := 73) hx hb dL_isPlan_69 (by decide) ?_
            obtain rfl := sp_s h
            exact J9 _ _ hP hD hS _ (lv_sub hl [0, 1, 2, 3, 5, 6, 7, 8, 9, 10, 11, 12] rfl)
    · exact LL 300 ((0 : Int32), ((-1) : Int32), (0 : Int32)) h _ _ hP hD hS _ (lv_sub hl [0, 1, 2, 3, 4, 5, 6, 7, 8, 9, 10, 11] rfl)
theorem xf_p_12_56789ab_01243 (g0 g1 g2 g3 g4 g5 g6 g7 g8 g9 g10 g11 : va_W) : List.Perm (g0 ++ (g1 ++ (g2 ++ (g3 ++ (g4 ++ (g5 ++ (g6 ++ (g7 ++ (g8 ++ (g9 ++ (g10 ++ (g11)))))))))))) ((g5 ++ (g6 ++ (g7 ++ (g8 ++ (g9 ++ (g10 ++ (g11))))))) ++ (g0 ++ (g1 ++ (g2 ++ (g4 ++ (g3)))))) := by
  have h1 : List.Perm (g0 ++ (g1 ++ (g2 ++ (g3 ++ (g4 ++ (g5 ++ (g6 ++ (g7 ++ (g8 ++ (g9 ++ (g10 ++ (g11)))))))))))) (g5 ++ (g6 ++ (g7 ++ (g8 ++ (g9 ++ (g10 ++ (g11 ++ (g0 ++ (g1 ++ (g2 ++ (g4 ++ (g3)))))))))))) := (((xf_c _ ((xf_c _ ((xf_c _ ((xf_c _ ((xf_c _ (List.Perm.refl _)).trans (xf_s2 _ _ _))).trans (xf_s2 _ _ _))).trans (xf_s2 _ _ _))).trans (xf_s2 _ _ _))).trans (xf_s2 _ _ _)).trans (xf_c _ (((xf_c _ ((xf_c _ ((xf_c _ ((xf_c _ ((xf_c _ (List.Perm.refl _)).trans (xf_s2 _ _ _))).trans (xf_s2 _ _ _))).trans (xf_s2 _ _ _))).trans (xf_s2 _ _ _))).trans (xf_s2 _ _ _)).trans (xf_c _ (((xf_c _ ((xf_c _ ((xf_c _ ((xf_c _ ((xf_c _ (List.Perm.refl _)).trans (xf_s2 _ _ _))).trans (xf_s2 _ _ _))).trans (xf_s2 _ _ _))).trans (xf_s2 _ _ _))).trans (xf_s2 _ _ _)).trans (xf_c _ (((xf_c _ ((xf_c _ ((xf_c _ ((xf_c _ ((xf_c _ (List.Perm.refl _)).trans (xf_s2 _ _ _))).trans (xf_s2 _ _ _))).trans (xf_s2 _ _ _))).trans (xf_s2 _ _ _))).trans (xf_s2 _ _ _)).trans (xf_c _ (((xf_c _ ((xf_c _ ((xf_c _ ((xf_c _ ((xf_c _ (List.Perm.refl _)).trans (xf_s2 _ _ _))).trans (xf_s2 _ _ _))).trans (xf_s2 _ _ _))).trans (xf_s2 _ _ _))).trans (xf_s2 _ _ _)).trans (xf_c _ (((xf_c _ ((xf_c _ ((xf_c _ ((xf_c _ ((xf_c _ (List.Perm.refl _)).trans (xf_s2 _ _ _))).trans (xf_s2 _ _ _))).trans (xf_s2 _ _ _))).trans (xf_s2 _ _ _))).trans (xf_s2 _ _ _)).trans (xf_c _ (((xf_c _ ((xf_c _ ((xf_c _ ((xf_c _ (xf_s1 _ _)).trans (xf_s2 _ _ _))).trans (xf_s2 _ _ _))).trans (xf_s2 _ _ _))).trans (xf_s2 _ _ _)).trans (xf_c _ ((List.Perm.refl _).trans (xf_c _ ((List.Perm.refl _).trans (xf_c _ ((List.Perm.refl _).trans (xf_c _ ((xf_s1 _ _).trans (xf_c _ (List.Perm.refl _)))))))))))))))))))))))
  exact h1.trans (show List.Perm (g5 ++ (g6 ++ (g7 ++ (g8 ++ (g9 ++ (g10 ++ (g11 ++ (g0 ++ (g1 ++ (g2 ++ (g4 ++ (g3)))))))))))) ((g5 ++ (g6 ++ (g7 ++ (g8 ++ (g9 ++ (g10 ++ (g11))))))) ++ (g0 ++ (g1 ++ (g2 ++ (g4 ++ (g3)))))) from ((xf_c _ ((xf_c _ ((xf_c _ ((xf_c _ ((xf_c _ ((xf_c _ (List.Perm.refl _)).trans (List.Perm.of_eq (List.append_assoc _ _ _).symm))).trans (List.Perm.of_eq (List.append_assoc _ _ _).symm))).trans (List.Perm.of_eq (List.append_assoc _ _ _).symm))).trans (List.Perm.of_eq (List.append_assoc _ _ _).symm))).trans (List.Perm.of_eq (List.append_assoc _ _ _).symm))).trans (List.Perm.of_eq (List.append_assoc _ _ _).symm)))
theorem xf_p_12_012435678_9ab (g0 g1 g2 g3 g4 g5 g6 g7 g8 g9 g10 g11 : va_W) : List.Perm (g0 ++ (g1 ++ (g2 ++ (g3 ++ (g4 ++ (g5 ++ (g6 ++ (g7 ++ (g8 ++ (g9 ++ (g10 ++ (g11)))))))))))) ((g0 ++ (g1 ++ (g2 ++ (g4 ++ (g3 ++ (g5 ++ (g6 ++ (g7 ++ (g8))))))))) ++ (g9 ++ (g10 ++ (g11)))) := by
  have h1 : List.Perm (g0 ++ (g1 ++ (g2 ++ (g3 ++ (g4 ++ (g5 ++ (g6 ++ (g7 ++ (g8 ++ (g9 ++ (g10 ++ (g11)))))))))))) (g0 ++ (g1 ++ (g2 ++ (g4 ++ (g3 ++ (g5 ++ (g6 ++ (g7 ++ (g8 ++ (g9 ++ (g10 ++ (g11)))))))))))) := ((List.Perm.refl _).trans (xf_c _ ((List.Perm.refl _).trans (xf_c _ ((List.Perm.refl _).trans (xf_c _ (((xf_c _ (List.Perm.refl _)).trans (xf_s2 _ _ _)).trans (xf_c _ (List.Perm.refl _)))))))))
  exact h1.trans (show List.Perm (g0 ++ (g1 ++ (g2 ++ (g4 ++ (g3 ++ (g5 ++ (g6 ++ (g7 ++ (g8 ++ (g9 ++ (g10 ++ (g11)))))))))))) ((g0 ++ (g1 ++ (g2 ++ (g4 ++ (g3 ++ (g5 ++ (g6 ++ (g7 ++ (g8))))))))) ++ (g9 ++ (g10 ++ (g11)))) from ((xf_c _ ((xf_c _ ((xf_c _ ((xf_c _ ((xf_c _ ((xf_c _ ((xf_c _ ((xf_c _ (List.Perm.refl _)).trans (List.Perm.of_eq (List.append_assoc _ _ _).symm))).trans (List.Perm.of_eq (List.append_assoc _ _ _).symm))).trans (List.Perm.of_eq (List.append_assoc _ _ _).symm))).trans (List.Perm.of_eq (List.append_assoc _ _ _).symm))).trans (List.Perm.of_eq (List.append_assoc _ _ _).symm))).trans (List.Perm.of_eq (List.append_assoc _ _ _).symm))).trans (List.Perm.of_eq (List.append_assoc _ _ _).symm))).trans (List.Perm.of_eq (List.append_assoc _ _ _).symm)))
def f_L_loses_l44 (yy_0 : Int32) (yy_1 : xF) (yy_2 : xF) (yy_3 : xF) (yy_4 : xF) (yy_5 : xF) (yy_6 : xF) (yy_7 : xF) (yy_8 : xF) (i5 : Int32) (o4 : xF × xF × xF) (o5 : Int32 × xF × xPL × xPL) : Nat → Int32 → Int32 → Int32 → Option (Int32 × Int32)
  | 0, _, _, _ => none
  | k9 + 1, x11_6, x10_6, x9_6 =>
    if (60 : Int32) ≤ x11_6 then
      some (x10_6, x9_6)
    else
      if x11_6 < 0 ∨ 60 ≤ x11_6.toNatClampNeg then none else
      Option.bind (
        if 0 ≤ (o4.1 x11_6.toNatClampNeg) then
          Option.bind (f_X2_lessonDay o5.2.1 (yy_0, yy_1, yy_2, yy_3, yy_4, yy_5, yy_6, yy_7, yy_8) o5.2.2.1 o5.2.2.2 (x11_6 / (5 : Int32)) (x11_6 - x11_6 / (5 : Int32) * (5 : Int32))) fun (o18 : Int32) =>
          some o18
        else
          some ((-1) : Int32)) fun (v10 : Int32) =>
      Option.bind (
        if v10 = (o4.1 x11_6.toNatClampNeg) then
          some (0 : Int32)
        else
          some (1 : Int32)) fun (v11 : Int32) =>
      if x10_6 = 0 then
        f_L_loses_l44 yy_0 yy_1 yy_2 yy_3 yy_4 yy_5 yy_6 yy_7 yy_8 i5 o4 o5 k9 (x11_6 + (1 : Int32)) (0 : Int32) (x9_6 + v11)
      else
        if (o4.1 x11_6.toNatClampNeg) < 0 then
          f_L_loses_l44 yy_0 yy_1 yy_2 yy_3 yy_4 yy_5 yy_6 yy_7 yy_8 i5 o4 o5 k9 (x11_6 + (1 : Int32)) (1 : Int32) (x9_6 + v11)
        else
          if i5 ≤ (o4.1 x11_6.toNatClampNeg) then
            f_L_loses_l44 yy_0 yy_1 yy_2 yy_3 yy_4 yy_5 yy_6 yy_7 yy_8 i5 o4 o5 k9 (x11_6 + (1 : Int32)) (1 : Int32) (x9_6 + v11)
          else
            if v10 = (o4.1 x11_6.toNatClampNeg) then
              f_L_loses_l44 yy_0 yy_1 yy_2 yy_3 yy_4 yy_5 yy_6 yy_7 yy_8 i5 o4 o5 k9 (x11_6 + (1 : Int32)) (1 : Int32) (x9_6 + v11)
            else
              f_L_loses_l44 yy_0 yy_1 yy_2 yy_3 yy_4 yy_5 yy_6 yy_7 yy_8 i5 o4 o5 k9 (x11_6 + (1 : Int32)) (0 : Int32) (x9_6 + v11)
theorem f_L_loses_l44_z (yy_0 : Int32) (yy_1 : xF) (yy_2 : xF) (yy_3 : xF) (yy_4 : xF) (yy_5 : xF) (yy_6 : xF) (yy_7 : xF) (yy_8 : xF) (i5 : Int32) (o4 : xF × xF × xF) (o5 : Int32 × xF × xPL × xPL) (x11_6 : Int32) (x10_6 : Int32) (x9_6 : Int32) : f_L_loses_l44 yy_0 yy_1 yy_2 yy_3 yy_4 yy_5 yy_6 yy_7 yy_8 i5 o4 o5 0 x11_6 x10_6 x9_6 = none := rfl
theorem f_L_loses_l44_s (yy_0 : Int32) (yy_1 : xF) (yy_2 : xF) (yy_3 : xF) (yy_4 : xF) (yy_5 : xF) (yy_6 : xF) (yy_7 : xF) (yy_8 : xF) (i5 : Int32) (o4 : xF × xF × xF) (o5 : Int32 × xF × xPL × xPL) (k9 : Nat) (x11_6 : Int32) (x10_6 : Int32) (x9_6 : Int32) : f_L_loses_l44 yy_0 yy_1 yy_2 yy_3 yy_4 yy_5 yy_6 yy_7 yy_8 i5 o4 o5 (k9 + 1) x11_6 x10_6 x9_6 =
    if (60 : Int32) ≤ x11_6 then
      some (x10_6, x9_6)
    else
      if x11_6 < 0 ∨ 60 ≤ x11_6.toNatClampNeg then none else
      Option.bind (
        if 0 ≤ (o4.1 x11_6.toNatClampNeg) then
          Option.bind (f_X2_lessonDay o5.2.1 (yy_0, yy_1, yy_2, yy_3, yy_4, yy_5, yy_6, yy_7, yy_8) o5.2.2.1 o5.2.2.2 (x11_6 / (5 : Int32)) (x11_6 - x11_6 / (5 : Int32) * (5 : Int32))) fun (o18 : Int32) =>
          some o18
        else
          some ((-1) : Int32)) fun (v10 : Int32) =>
      Option.bind (
        if v10 = (o4.1 x11_6.toNatClampNeg) then
          some (0 : Int32)
        else
          some (1 : Int32)) fun (v11 : Int32) =>
      if x10_6 = 0 then
        f_L_loses_l44 yy_0 yy_1 yy_2 yy_3 yy_4 yy_5 yy_6 yy_7 yy_8 i5 o4 o5 k9 (x11_6 + (1 : Int32)) (0 : Int32) (x9_6 + v11)
      else
        if (o4.1 x11_6.toNatClampNeg) < 0 then
          f_L_loses_l44 yy_0 yy_1 yy_2 yy_3 yy_4 yy_5 yy_6 yy_7 yy_8 i5 o4 o5 k9 (x11_6 + (1 : Int32)) (1 : Int32) (x9_6 + v11)
        else
          if i5 ≤ (o4.1 x11_6.toNatClampNeg) then
            f_L_loses_l44 yy_0 yy_1 yy_2 yy_3 yy_4 yy_5 yy_6 yy_7 yy_8 i5 o4 o5 k9 (x11_6 + (1 : Int32)) (1 : Int32) (x9_6 + v11)
          else
            if v10 = (o4.1 x11_6.toNatClampNeg) then
              f_L_loses_l44 yy_0 yy_1 yy_2 yy_3 yy_4 yy_5 yy_6 yy_7 yy_8 i5 o4 o5 k9 (x11_6 + (1 : Int32)) (1 : Int32) (x9_6 + v11)
            else
              f_L_loses_l44 yy_0 yy_1 yy_2 yy_3 yy_4 yy_5 yy_6 yy_7 yy_8 i5 o4 o5 k9 (x11_6 + (1 : Int32)) (0 : Int32) (x9_6 + v11) := rfl
def f_L_loses_l146 (yy_0 : Int32) (yy_1 : xF) (yy_2 : xF) (yy_3 : xF) (yy_4 : xF) (yy_5 : xF) (yy_6 : xF) (yy_7 : xF) (yy_8 : xF) (i5 : Int32) (o4 : xF × xF × xF) (o5 : Int32 × xF × xPL × xPL) : Nat → Int32 → Int32 → Int32 → Option (Int32 × Int32)
  | 0, _, _, _ => none
  | k9 + 1, x11_19, x10_19, x9_19 =>
    if (36 : Int32) ≤ x11_19 then
      some (x10_19, x9_19)
    else
      if x11_19 < 0 ∨ 36 ≤ x11_19.toNatClampNeg then none else
      Option.bind (
        if 0 ≤ (o4.2.1 x11_19.toNatClampNeg) then
          Option.bind (f_X2_revisitDay o5.2.1 (yy_0, yy_1, yy_2, yy_3, yy_4, yy_5, yy_6, yy_7, yy_8) o5.2.2.1 o5.2.2.2 (x11_19 / (3 : Int32)) (x11_19 - x11_19 / (3 : Int32) * (3 : Int32))) fun (o31 : Int32) =>
          some o31
        else
          some ((-1) : Int32)) fun (v23 : Int32) =>
      Option.bind (
        if v23 = (o4.2.1 x11_19.toNatClampNeg) then
          some (0 : Int32)
        else
          some (1 : Int32)) fun (v24 : Int32) =>
      if x10_19 = 0 then
        f_L_loses_l146 yy_0 yy_1 yy_2 yy_3 yy_4 yy_5 yy_6 yy_7 yy_8 i5 o4 o5 k9 (x11_19 + (1 : Int32)) (0 : Int32) (x9_19 + v24)
      else
        if (o4.2.1 x11_19.toNatClampNeg) < 0 then
          f_L_loses_l146 yy_0 yy_1 yy_2 yy_3 yy_4 yy_5 yy_6 yy_7 yy_8 i5 o4 o5 k9 (x11_19 + (1 : Int32)) (1 : Int32) (x9_19 + v24)
        else
          if i5 ≤ (o4.2.1 x11_19.toNatClampNeg) then
            f_L_loses_l146 yy_0 yy_1 yy_2 yy_3 yy_4 yy_5 yy_6 yy_7 yy_8 i5 o4 o5 k9 (x11_19 + (1 : Int32)) (1 : Int32) (x9_19 + v24)
          else
            if v23 = (o4.2.1 x11_19.toNatClampNeg) then
              f_L_loses_l146 yy_0 yy_1 yy_2 yy_3 yy_4 yy_5 yy_6 yy_7 yy_8 i5 o4 o5 k9 (x11_19 + (1 : Int32)) (1 : Int32) (x9_19 + v24)
            else
              f_L_loses_l146 yy_0 yy_1 yy_2 yy_3 yy_4 yy_5 yy_6 yy_7 yy_8 i5 o4 o5 k9 (x11_19 + (1 : Int32)) (0 : Int32) (x9_19 + v24)
theorem f_L_loses_l146_z (yy_0 : Int32) (yy_1 : xF) (yy_2 : xF) (yy_3 : xF) (yy_4 : xF) (yy_5 : xF) (yy_6 : xF) (yy_7 : xF) (yy_8 : xF) (i5 : Int32) (o4 : xF × xF × xF) (o5 : Int32 × xF × xPL × xPL) (x11_19 : Int32) (x10_19 : Int32) (x9_19 : Int32) : f_L_loses_l146 yy_0 yy_1 yy_2 yy_3 yy_4 yy_5 yy_6 yy_7 yy_8 i5 o4 o5 0 x11_19 x10_19 x9_19 = none := rfl
theorem f_L_loses_l146_s (yy_0 : Int32) (yy_1 : xF) (yy_2 : xF) (yy_3 : xF) (yy_4 : xF) (yy_5 : xF) (yy_6 : xF) (yy_7 : xF) (yy_8 : xF) (i5 : Int32) (o4 : xF × xF × xF) (o5 : Int32 × xF × xPL × xPL) (k9 : Nat) (x11_19 : Int32) (x10_19 : Int32) (x9_19 : Int32) : f_L_loses_l146 yy_0 yy_1 yy_2 yy_3 yy_4 yy_5 yy_6 yy_7 yy_8 i5 o4 o5 (k9 + 1) x11_19 x10_19 x9_19 =
    if (36 : Int32) ≤ x11_19 then
      some (x10_19, x9_19)
    else
      if x11_19 < 0 ∨ 36 ≤ x11_19.toNatClampNeg then none else
      Option.bind (
        if 0 ≤ (o4.2.1 x11_19.toNatClampNeg) then
          Option.bind (f_X2_revisitDay o5.2.1 (yy_0, yy_1, yy_2, yy_3, yy_4, yy_5, yy_6, yy_7, yy_8) o5.2.2.1 o5.2.2.2 (x11_19 / (3 : Int32)) (x11_19 - x11_19 / (3 : Int32) * (3 : Int32))) fun (o31 : Int32) =>
          some o31
        else
          some ((-1) : Int32)) fun (v23 : Int32) =>
      Option.bind (
        if v23 = (o4.2.1 x11_19.toNatClampNeg) then
          some (0 : Int32)
        else
          some (1 : Int32)) fun (v24 : Int32) =>
      if x10_19 = 0 then
        f_L_loses_l146 yy_0 yy_1 yy_2 yy_3 yy_4 yy_5 yy_6 yy_7 yy_8 i5 o4 o5 k9 (x11_19 + (1 : Int32)) (0 : Int32) (x9_19 + v24)
      else
        if (o4.2.1 x11_19.toNatClampNeg) < 0 then
          f_L_loses_l146 yy_0 yy_1 yy_2 yy_3 yy_4 yy_5 yy_6 yy_7 yy_8 i5 o4 o5 k9 (x11_19 + (1 : Int32)) (1 : Int32) (x9_19 + v24)
        else
          if i5 ≤ (o4.2.1 x11_19.toNatClampNeg) then
            f_L_loses_l146 yy_0 yy_1 yy_2 yy_3 yy_4 yy_5 yy_6 yy_7 yy_8 i5 o4 o5 k9 (x11_19 + (1 : Int32)) (1 : Int32) (x9_19 + v24)
          else
            if v23 = (o4.2.1 x11_19.toNatClampNeg) then
              f_L_loses_l146 yy_0 yy_1 yy_2 yy_3 yy_4 yy_5 yy_6 yy_7 yy_8 i5 o4 o5 k9 (x11_19 + (1 : Int32)) (1 : Int32) (x9_19 + v24)
            else
              f_L_loses_l146 yy_0 yy_1 yy_2 yy_3 yy_4 yy_5 yy_6 yy_7 yy_8 i5 o4 o5 k9 (x11_19 + (1 : Int32)) (0 : Int32) (x9_19 + v24) := rfl
def f_L_loses (lo : xF) (yy : xSY) (pp : xPL) (qq : xPL) (ka : xF) (kr : xF) (kc : xF) (kl : (Nat → Int64)) (i5 : Int32) : Option (Int32 × xF × xPL × xPL × (Nat → Int64)) :=
  Option.bind (f_L_asks lo (yy.1, yy.2.1, yy.2.2.1, yy.2.2.2.1, yy.2.2.2.2.1, yy.2.2.2.2.2.1, yy.2.2.2.2.2.2.1, yy.2.2.2.2.2.2.2.1, yy.2.2.2.2.2.2.2.2) (pp.1, pp.2.1, pp.2.2.1, pp.2.2.2.1, pp.2.2.2.2.1, pp.2.2.2.2.2.1, pp.2.2.2.2.2.2.1, pp.2.2.2.2.2.2.2.1, pp.2.2.2.2.2.2.2.2) (qq.1, qq.2.1, qq.2.2.1, qq.2.2.2.1, qq.2.2.2.2.1, qq.2.2.2.2.2.1, qq.2.2.2.2.2.2.1, qq.2.2.2.2.2.2.2.1, qq.2.2.2.2.2.2.2.2) ka kr kc (fun _ => (0 : Int32)) (fun _ => (0 : Int32)) (fun _ => (0 : Int32))) fun (o4 : xF × xF × xF) =>
  Option.bind (f_X2_lose lo (yy.1, yy.2.1, yy.2.2.1, yy.2.2.2.1, yy.2.2.2.2.1, yy.2.2.2.2.2.1, yy.2.2.2.2.2.2.1, yy.2.2.2.2.2.2.2.1, yy.2.2.2.2.2.2.2.2) (pp.1, pp.2.1, pp.2.2.1, pp.2.2.2.1, pp.2.2.2.2.1, pp.2.2.2.2.2.1, pp.2.2.2.2.2.2.1, pp.2.2.2.2.2.2.2.1, pp.2.2.2.2.2.2.2.2) (qq.1, qq.2.1, qq.2.2.1, qq.2.2.2.1, qq.2.2.2.2.1, qq.2.2.2.2.2.1, qq.2.2.2.2.2.2.1, qq.2.2.2.2.2.2.2.1, qq.2.2.2.2.2.2.2.2) i5) fun (o5 : Int32 × xF × xPL × xPL) =>
  Option.bind (f_L_loses_l44 yy.1 yy.2.1 yy.2.2.1 yy.2.2.2.1 yy.2.2.2.2.1 yy.2.2.2.2.2.1 yy.2.2.2.2.2.2.1 yy.2.2.2.2.2.2.2.1 yy.2.2.2.2.2.2.2.2 i5 o4 o5 300 (0 : Int32) (1 : Int32) (0 : Int32)) fun (w7 : Int32 × Int32) =>
  Option.bind (f_L_loses_l146 yy.1 yy.2.1 yy.2.2.1 yy.2.2.2.1 yy.2.2.2.2.1 yy.2.2.2.2.2.1 yy.2.2.2.2.2.2.1 yy.2.2.2.2.2.2.2.1 yy.2.2.2.2.2.2.2.2 i5 o4 o5 300 (0 : Int32) w7.1 w7.2) fun (w20 : Int32 × Int32) =>
  if (i5 / (50 : Int32)) < 0 ∨ 2 ≤ (i5 / (50 : Int32)).toNatClampNeg then none else
  if w20.1 = 0 then
    some ((0 : Int32), o5.2.1, o5.2.2.1, o5.2.2.2, (vp_updL kl (i5 / (50 : Int32)).toNatClampNeg ((kl (i5 / (50 : Int32)).toNatClampNeg) ||| ((1 : Int64) <<< ((i5 - i5 / (50 : Int32) * (50 : Int32)).toInt64 &&& 63)))))
  else
    if o5.1 = w20.2 then
      Option.bind (f_X2_on o5.2.1 (yy.1, yy.2.1, yy.2.2.1, yy.2.2.2.1, yy.2.2.2.2.1, yy.2.2.2.2.2.1, yy.2.2.2.2.2.2.1, yy.2.2.2.2.2.2.2.1, yy.2.2.2.2.2.2.2.2) o5.2.2.1 o5.2.2.2 i5) fun (o35 : Int32) =>
      if o35 = ((-1) : Int32) then
        some ((1 : Int32), o5.2.1, o5.2.2.1, o5.2.2.2, (vp_updL kl (i5 / (50 : Int32)).toNatClampNeg ((kl (i5 / (50 : Int32)).toNatClampNeg) ||| ((1 : Int64) <<< ((i5 - i5 / (50 : Int32) * (50 : Int32)).toInt64 &&& 63)))))
      else
        some ((0 : Int32), o5.2.1, o5.2.2.1, o5.2.2.2, (vp_updL kl (i5 / (50 : Int32)).toNatClampNeg ((kl (i5 / (50 : Int32)).toNatClampNeg) ||| ((1 : Int64) <<< ((i5 - i5 / (50 : Int32) * (50 : Int32)).toInt64 &&& 63)))))
    else
      some ((0 : Int32), o5.2.1, o5.2.2.1, o5.2.2.2, (vp_updL kl (i5 / (50 : Int32)).toNatClampNeg ((kl (i5 / (50 : Int32)).toNatClampNeg) ||| ((1 : Int64) <<< ((i5 - i5 / (50 : Int32) * (50 : Int32)).toInt64 &&& 63)))))
theorem f_L_loses_e (lo : xF) (yy_0 : Int32) (yy_1 : xF) (yy_2 : xF) (yy_3 : xF) (yy_4 : xF) (yy_5 : xF) (yy_6 : xF) (yy_7 : xF) (yy_8 : xF) (pp_0 : xF) (pp_1 : xF) (pp_2 : xF) (pp_3 : xF) (pp_4 : xF) (pp_5 : xF) (pp_6 : Int32) (pp_7 : Int32) (pp_8 : Int32) (qq_0 : xF) (qq_1 : xF) (qq_2 : xF) (qq_3 : xF) (qq_4 : xF) (qq_5 : xF) (qq_6 : Int32) (qq_7 : Int32) (qq_8 : Int32) (ka : xF) (kr : xF) (kc : xF) (kl : (Nat → Int64)) (i5 : Int32) : f_L_loses lo (yy_0, yy_1, yy_2, yy_3, yy_4, yy_5, yy_6, yy_7, yy_8) (pp_0, pp_1, pp_2, pp_3, pp_4, pp_5, pp_6, pp_7, pp_8) (qq_0, qq_1, qq_2, qq_3, qq_4, qq_5, qq_6, qq_7, qq_8) ka kr kc kl i5 =
  Option.bind (f_L_asks lo (yy_0, yy_1, yy_2, yy_3, yy_4, yy_5, yy_6, yy_7, yy_8) (pp_0, pp_1, pp_2, pp_3, pp_4, pp_5, pp_6, pp_7, pp_8) (qq_0, qq_1, qq_2, qq_3, qq_4, qq_5, qq_6, qq_7, qq_8) ka kr kc (fun _ => (0 : Int32)) (fun _ => (0 : Int32)) (fun _ => (0 : Int32))) fun (o4 : xF × xF × xF) =>
  Option.bind (f_X2_lose lo (yy_0, yy_1, yy_2, yy_3, yy_4, yy_5, yy_6, yy_7, yy_8) (pp_0, pp_1, pp_2, pp_3, pp_4, pp_5, pp_6, pp_7, pp_8) (qq_0, qq_1, qq_2, qq_3, qq_4, qq_5, qq_6, qq_7, qq_8) i5) fun (o5 : Int32 × xF × xPL × xPL) =>
  Option.bind (f_L_loses_l44 yy_0 yy_1 yy_2 yy_3 yy_4 yy_5 yy_6 yy_7 yy_8 i5 o4 o5 300 (0 : Int32) (1 : Int32) (0 : Int32)) fun (w7 : Int32 × Int32) =>
  Option.bind (f_L_loses_l146 yy_0 yy_1 yy_2 yy_3 yy_4 yy_5 yy_6 yy_7 yy_8 i5 o4 o5 300 (0 : Int32) w7.1 w7.2) fun (w20 : Int32 × Int32) =>
  if (i5 / (50 : Int32)) < 0 ∨ 2 ≤ (i5 / (50 : Int32)).toNatClampNeg then none else
  if w20.1 = 0 then
    some ((0 : Int32), o5.2.1, o5.2.2.1, o5.2.2.2, (vp_updL kl (i5 / (50 : Int32)).toNatClampNeg ((kl (i5 / (50 : Int32)).toNatClampNeg) ||| ((1 : Int64) <<< ((i5 - i5 / (50 : Int32) * (50 : Int32)).toInt64 &&& 63)))))
  else
    if o5.1 = w20.2 then
      Option.bind (f_X2_on o5.2.1 (yy_0, yy_1, yy_2, yy_3, yy_4, yy_5, yy_6, yy_7, yy_8) o5.2.2.1 o5.2.2.2 i5) fun (o35 : Int32) =>
      if o35 = ((-1) : Int32) then
        some ((1 : Int32), o5.2.1, o5.2.2.1, o5.2.2.2, (vp_updL kl (i5 / (50 : Int32)).toNatClampNeg ((kl (i5 / (50 : Int32)).toNatClampNeg) ||| ((1 : Int64) <<< ((i5 - i5 / (50 : Int32) * (50 : Int32)).toInt64 &&& 63)))))
      else
        some ((0 : Int32), o5.2.1, o5.2.2.1, o5.2.2.2, (vp_updL kl (i5 / (50 : Int32)).toNatClampNeg ((kl (i5 / (50 : Int32)).toNatClampNeg) ||| ((1 : Int64) <<< ((i5 - i5 / (50 : Int32) * (50 : Int32)).toInt64 &&& 63)))))
    else
      some ((0 : Int32), o5.2.1, o5.2.2.1, o5.2.2.2, (vp_updL kl (i5 / (50 : Int32)).toNatClampNeg ((kl (i5 / (50 : Int32)).toNatClampNeg) ||| ((1 : Int64) <<< ((i5 - i5 / (50 : Int32) * (50 : Int32)).toInt64 &&& 63))))) := rfl
set_option maxHeartbeats 8000000 in
set_option maxRecDepth 100000 in
theorem c_L_loses (l : Launch) (G : xG) (xa : Nat) (la : Nat) (ya : (Nat → Nat)) (pa : (Nat → Nat)) (qa : (Nat → Nat)) (a9 : Nat) (r9 : Nat) (c9 : Nat) (l9 : Nat) (lo : xF) (yy : xSY) (pp : xPL) (qq : xPL) (ka : xF) (kr : xF) (kc : xF) (kl : (Nat → Int64)) (i5 : Int32) (o : Int32 × xF × xPL × xPL × (Nat → Int64)) (h : f_L_loses lo yy pp qq ka kr kc kl i5 = some o) : xk_CI l yL_loses wsL_loses ({ frames := 7, cells := 3, slots := 108, locals := 160 } : Room) 3 108 [.ref xa, .ref a9, .ref r9, .ref c9, .ref l9, .int i5] G ((wXO xa (ya 0) la (pa 0) (qa 0)) ++ ((wLO G la lo) ++ ((wSYc G ya yy.1 yy.2.1 yy.2.2.1 yy.2.2.2.1 yy.2.2.2.2.1 yy.2.2.2.2.2.1 yy.2.2.2.2.2.2.1 yy.2.2.2.2.2.2.2.1 yy.2.2.2.2.2.2.2.2) ++ ((wPLc G pa pp.1 pp.2.1 pp.2.2.1 pp.2.2.2.1 pp.2.2.2.2.1 pp.2.2.2.2.2.1 pp.2.2.2.2.2.2.1 pp.2.2.2.2.2.2.2.1 pp.2.2.2.2.2.2.2.2) ++ ((wPLc G qa qq.1 qq.2.1 qq.2.2.1 qq.2.2.2.1 qq.2.2.2.2.1 qq.2.2.2.2.2.1 qq.2.2.2.2.2.2.1 qq.2.2.2.2.2.2.2.1 qq.2.2.2.2.2.2.2.2) ++ ((wAR G a9 60 ka) ++ ((wAR G r9 24 kr) ++ ((wAR G c9 1 kc) ++ ((wOU G l9 kl)))))))))) ((wXO xa (ya 0) la (qa 0) (pa 0)) ++ ((wLO G la o.2.1) ++ ((wSYc G ya yy.1 yy.2.1 yy.2.2.1 yy.2.2.2.1 yy.2.2.2.2.1 yy.2.2.2.2.2.1 yy.2.2.2.2.2.2.1 yy.2.2.2.2.2.2.2.1 yy.2.2.2.2.2.2.2.2) ++ ((wPLc G qa o.2.2.1.1 o.2.2.1.2.1 o.2.2.1.2.2.1 o.2.2.1.2.2.2.1 o.2.2.1.2.2.2.2.1 o.2.2.1.2.2.2.2.2.1 o.2.2.1.2.2.2.2.2.2.1 o.2.2.1.2.2.2.2.2.2.2.1 o.2.2.1.2.2.2.2.2.2.2.2) ++ ((wPLc G pa o.2.2.2.1.1 o.2.2.2.1.2.1 o.2.2.2.1.2.2.1 o.2.2.2.1.2.2.2.1 o.2.2.2.1.2.2.2.2.1 o.2.2.2.1.2.2.2.2.2.1 o.2.2.2.1.2.2.2.2.2.2.1 o.2.2.2.1.2.2.2.2.2.2.2.1 o.2.2.2.1.2.2.2.2.2.2.2.2) ++ ((wAR G a9 60 ka) ++ ((wAR G r9 24 kr) ++ ((wAR G c9 1 kc) ++ ((wOU G l9 o.2.2.2.2)))))))))) o.1 := by
  obtain ⟨yy_0, yy_1, yy_2, yy_3, yy_4, yy_5, yy_6, yy_7, yy_8⟩ := yy
  obtain ⟨pp_0, pp_1, pp_2, pp_3, pp_4, pp_5, pp_6, pp_7, pp_8⟩ := pp
  obtain ⟨qq_0, qq_1, qq_2, qq_3, qq_4, qq_5, qq_6, qq_7, qq_8⟩ := qq
  refine xk_CI.of (cc := cL_loses) (maxL := 13) (ret := (some .boolean)) (by decide) rfl (Nat.le_of_ble_eq_true rfl) ?_
  intro pr9 en9 s mm9 bl9 meth9 cd9 A ls H locs hx hb hr hml hts hown hlk hA hP hK hD hNE hS hl
  have hown : s.vm.findClass RL = some mm9.cls := hown
  have hl : lv_has ls 13 [(0, .ref xa), (1, .ref a9), (2, .ref r9), (3, .ref c9), (4, .ref l9), (5, .int i5)] := hl
  have hP : va_P G.1 vwCl ((wXO xa (ya 0) la (pa 0) (qa 0)) ++ ((wLO G la lo) ++ ((wSYc G ya yy_0 yy_1 yy_2 yy_3 yy_4 yy_5 yy_6 yy_7 yy_8) ++ ((wPLc G pa pp_0 pp_1 pp_2 pp_3 pp_4 pp_5 pp_6 pp_7 pp_8) ++ ((wPLc G qa qq_0 qq_1 qq_2 qq_3 qq_4 qq_5 qq_6 qq_7 qq_8) ++ ((wAR G a9 60 ka) ++ ((wAR G r9 24 kr) ++ ((wAR G c9 1 kc) ++ ((wOU G l9 kl)))))))))) H := hP
  have hD : va_D A ((wXO xa (ya 0) la (pa 0) (qa 0)) ++ ((wLO G la lo) ++ ((wSYc G ya yy_0 yy_1 yy_2 yy_3 yy_4 yy_5 yy_6 yy_7 yy_8) ++ ((wPLc G pa pp_0 pp_1 pp_2 pp_3 pp_4 pp_5 pp_6 pp_7 pp_8) ++ ((wPLc G qa qq_0 qq_1 qq_2 qq_3 qq_4 qq_5 qq_6 qq_7 qq_8) ++ ((wAR G a9 60 ka) ++ ((wAR G r9 24 kr) ++ ((wAR G c9 1 kc) ++ ((wOU G l9 kl)))))))))) := hD
  have h := (f_L_loses_e lo yy_0 yy_1 yy_2 yy_3 yy_4 yy_5 yy_6 yy_7 yy_8 pp_0 pp_1 pp_2 pp_3 pp_4 pp_5 pp_6 pp_7 pp_8 qq_0 qq_1 qq_2 qq_3 qq_4 qq_5 qq_6 qq_7 qq_8 ka kr kc kl i5).symm.trans h
  refine lv_bipush (v := (60 : Int32)) hx hb dL_loses_0 (by decide) ?_
  refine xk_newI 60 hx hb (hts (.arrayClass .int) (by decide +kernel)) hK hP hD hS hA (by decide) rfl (Nat.le_of_ble_eq_true rfl) (Nat.le_of_ble_eq_true rfl) (Nat.le_of_ble_eq_true rfl) dL_loses_2 (fun q1 H hP hD hS => ?_)
  have hP : va_P G.1 vwCl ((wXO xa (ya 0) la (pa 0) (qa 0)) ++ ((wLO G la lo) ++ ((wSYc G ya yy_0 yy_1 yy_2 yy_3 yy_4 yy_5 yy_6 yy_7 yy_8) ++ ((wPLc G pa pp_0 pp_1 pp_2 pp_3 pp_4 pp_5 pp_6 pp_7 pp_8) ++ ((wPLc G qa qq_0 qq_1 qq_2 qq_3 qq_4 qq_5 qq_6 qq_7 qq_8) ++ ((wAR G a9 60 ka) ++ ((wAR G r9 24 kr) ++ ((wAR G c9 1 kc) ++ ((wOU G l9 kl) ++ ((wAR G q1 60 (fun _ => (0 : Int32))))))))))))) H := hP
  have hD : va_D A ((wXO xa (ya 0) la (pa 0) (qa 0)) ++ ((wLO G la lo) ++ ((wSYc G ya yy_0 yy_1 yy_2 yy_3 yy_4 yy_5 yy_6 yy_7 yy_8) ++ ((wPLc G pa pp_0 pp_1 pp_2 pp_3 pp_4 pp_5 pp_6 pp_7 pp_8) ++ ((wPLc G qa qq_0 qq_1 qq_2 qq_3 qq_4 qq_5 qq_6 qq_7 qq_8) ++ ((wAR G a9 60 ka) ++ ((wAR G r9 24 kr) ++ ((wAR G c9 1 kc) ++ ((wOU G l9 kl) ++ ((wAR G q1 60 (fun _ => (0 : Int32))))))))))))) := hD
  refine lv_astore (lv' := [(6, .ref q1), (0, .ref xa), (1, .ref a9), (2, .ref r9), (3, .ref c9), (4, .ref l9), (5, .int i5)]) hx hb dL_loses_4 hl (by decide) rfl (fun ls hl => ?_)
  refine lv_bipush (v := (36 : Int32)) hx hb dL_loses_6 (by decide) ?_
  refine xk_newI 36 hx hb (hts (.arrayClass .int) (by decide +kernel)) hK hP hD hS hA (by decide) rfl (Nat.le_of_ble_eq_true rfl) (Nat.le_of_ble_eq_true rfl) (Nat.le_of_ble_eq_true rfl) dL_loses_8 (fun q2 H hP hD hS => ?_)
  have hP : va_P G.1 vwCl ((wXO xa (ya 0) la (pa 0) (qa 0)) ++ ((wLO G la lo) ++ ((wSYc G ya yy_0 yy_1 yy_2 yy_3 yy_4 yy_5 yy_6 yy_7 yy_8) ++ ((wPLc G pa pp_0 pp_1 pp_2 pp_3 pp_4 pp_5 pp_6 pp_7 pp_8) ++ ((wPLc G qa qq_0 qq_1 qq_2 qq_3 qq_4 qq_5 qq_6 qq_7 qq_8) ++ ((wAR G a9 60 ka) ++ ((wAR G r9 24 kr) ++ ((wAR G c9 1 kc) ++ ((wOU G l9 kl) ++ ((wAR G q1 60 (fun _ => (0 : Int32))) ++ ((wAR G q2 36 (fun _ => (0 : Int32)))))))))))))) H := hP
  have hD : va_D A ((wXO xa (ya 0) la (pa 0) (qa 0)) ++ ((wLO G la lo) ++ ((wSYc G ya yy_0 yy_1 yy_2 yy_3 yy_4 yy_5 yy_6 yy_7 yy_8) ++ ((wPLc G pa pp_0 pp_1 pp_2 pp_3 pp_4 pp_5 pp_6 pp_7 pp_8) ++ ((wPLc G qa qq_0 qq_1 qq_2 qq_3 qq_4 qq_5 qq_6 qq_7 qq_8) ++ ((wAR G a9 60 ka) ++ ((wAR G r9 24 kr) ++ ((wAR G c9 1 kc) ++ ((wOU G l9 kl) ++ ((wAR G q1 60 (fun _ => (0 : Int32))) ++ ((wAR G q2 36 (fun _ => (0 : Int32)))))))))))))) := hD
  refine lv_astore (lv' := [(7, .ref q2), (6, .ref q1), (0, .ref xa), (1, .ref a9), (2, .ref r9), (3, .ref c9), (4, .ref l9), (5, .int i5)]) hx hb dL_loses_10 hl (by decide) rfl (fun ls hl => ?_)
  refine lv_aload_n hx hb dL_loses_12 rfl (lv_at hl 2 rfl) ?_
  refine lv_aload_n hx hb dL_loses_13 rfl (lv_at hl 3 rfl) ?_
  refine lv_aload_n hx hb dL_loses_14 rfl (lv_at hl 4 rfl) ?_
  refine lv_aload_n hx hb dL_loses_15 rfl (lv_at hl 5 rfl) ?_
  refine lv_aload hx hb dL_loses_16 (lv_at hl 1 rfl) ?_
  refine lv_aload hx hb dL_loses_18 (lv_at hl 0 rfl) ?_
  refine lv_bipush (v := (12 : Int32)) hx hb dL_loses_20 (by decide) ?_
  refine xk_newI 12 hx hb (hts (.arrayClass .int) (by decide +kernel)) hK hP hD hS hA (by decide) rfl (Nat.le_of_ble_eq_true rfl) (Nat.le_of_ble_eq_true rfl) (Nat.le_of_ble_eq_true rfl) dL_loses_22 (fun q3 H hP hD hS => ?_)
  have hP : va_P G.1 vwCl ((wXO xa (ya 0) la (pa 0) (qa 0)) ++ ((wLO G la lo) ++ ((wSYc G ya yy_0 yy_1 yy_2 yy_3 yy_4 yy_5 yy_6 yy_7 yy_8) ++ ((wPLc G pa pp_0 pp_1 pp_2 pp_3 pp_4 pp_5 pp_6 pp_7 pp_8) ++ ((wPLc G qa qq_0 qq_1 qq_2 qq_3 qq_4 qq_5 qq_6 qq_7 qq_8) ++ ((wAR G a9 60 ka) ++ ((wAR G r9 24 kr) ++ ((wAR G c9 1 kc) ++ ((wOU G l9 kl) ++ ((wAR G q1 60 (fun _ => (0 : Int32))) ++ ((wAR G q2 36 (fun _ => (0 : Int32))) ++ ((wAR G q3 12 (fun _ => (0 : Int32))))))))))))))) H := hP
  have hD : va_D A ((wXO xa (ya 0) la (pa 0) (qa 0)) ++ ((wLO G la lo) ++ ((wSYc G ya yy_0 yy_1 yy_2 yy_3 yy_4 yy_5 yy_6 yy_7 yy_8) ++ ((wPLc G pa pp_0 pp_1 pp_2 pp_3 pp_4 pp_5 pp_6 pp_7 pp_8) ++ ((wPLc G qa qq_0 qq_1 qq_2 qq_3 qq_4 qq_5 qq_6 qq_7 qq_8) ++ ((wAR G a9 60 ka) ++ ((wAR G r9 24 kr) ++ ((wAR G c9 1 kc) ++ ((wOU G l9 kl) ++ ((wAR G q1 60 (fun _ => (0 : Int32))) ++ ((wAR G q2 36 (fun _ => (0 : Int32))) ++ ((wAR G q3 12 (fun _ => (0 : Int32))))))))))))))) := hD
  obtain ⟨o4, ho4, h⟩ := sp_b h
  have hP9 : va_P G.1 vwCl (((wOU G l9 kl)) ++ ((wXO xa (ya 0) la (pa 0) (qa 0)) ++ ((wLO G la lo) ++ ((wSYc G ya yy_0 yy_1 yy_2 yy_3 yy_4 yy_5 yy_6 yy_7 yy_8) ++ ((wPLc G pa pp_0 pp_1 pp_2 pp_3 pp_4 pp_5 pp_6 pp_7 pp_8) ++ ((wPLc G qa qq_0 qq_1 qq_2 qq_3 qq_4 qq_5 qq_6 qq_7 qq_8) ++ ((wAR G a9 60 ka) ++ ((wAR G r9 24 kr) ++ ((wAR G c9 1 kc) ++ ((wAR G q1 60 (fun _ => (0 : Int32))) ++ ((wAR G q2 36 (fun _ => (0 : Int32))) ++ ((wAR G q3 12 (fun _ => (0 : Int32))))))))))))))) H := xf_P (xf_p_12_8_012345679ab (wXO xa (ya 0) la (pa 0) (qa 0)) (wLO G la lo) (wSYc G ya yy_0 yy_1 yy_2 yy_3 yy_4 yy_5 yy_6 yy_7 yy_8) (wPLc G pa pp_0 pp_1 pp_2 pp_3 pp_4 pp_5 pp_6 pp_7 pp_8) (wPLc G qa qq_0 qq_1 qq_2 qq_3 qq_4 qq_5 qq_6 qq_7 qq_8) (wAR G a9 60 ka) (wAR G r9 24 kr) (wAR G c9 1 kc) (wOU G l9 kl) (wAR G q1 60 (fun _ => (0 : Int32))) (wAR G q2 36 (fun _ => (0 : Int32))) (wAR G q3 12 (fun _ => (0 : Int32)))) hP
  have hD9 : va_D A (((wOU G l9 kl)) ++ ((wXO xa (ya 0) la (pa 0) (qa 0)) ++ ((wLO G la lo) ++ ((wSYc G ya yy_0 yy_1 yy_2 yy_3 yy_4 yy_5 yy_6 yy_7 yy_8) ++ ((wPLc G pa pp_0 pp_1 pp_2 pp_3 pp_4 pp_5 pp_6 pp_7 pp_8) ++ ((wPLc G qa qq_0 qq_1 qq_2 qq_3 qq_4 qq_5 qq_6 qq_7 qq_8) ++ ((wAR G a9 60 ka) ++ ((wAR G r9 24 kr) ++ ((wAR G c9 1 kc) ++ ((wAR G q1 60 (fun _ => (0 : Int32))) ++ ((wAR G q2 36 (fun _ => (0 : Int32))) ++ ((wAR G q3 12 (fun _ => (0 : Int32))))))))))))))) := xf_D (xf_p_12_8_012345679ab (wXO xa (ya 0) la (pa 0) (qa 0)) (wLO G la lo) (wSYc G ya yy_0 yy_1 yy_2 yy_3 yy_4 yy_5 yy_6 yy_7 yy_8) (wPLc G pa pp_0 pp_1 pp_2 pp_3 pp_4 pp_5 pp_6 pp_7 pp_8) (wPLc G qa qq_0 qq_1 qq_2 qq_3 qq_4 qq_5 qq_6 qq_7 qq_8) (wAR G a9 60 ka) (wAR G r9 24 kr) (wAR G c9 1 kc) (wOU G l9 kl) (wAR G q1 60 (fun _ => (0 : Int32))) (wAR G q2 36 (fun _ => (0 : Int32))) (wAR G q3 12 (fun _ => (0 : Int32)))) hD
  refine xf_cv (va_runS (As := [.ref xa, .ref a9, .ref r9, .ref c9, .ref q1, .ref q2, .ref q3]) (rest := []) ⟨hx, hb, hml, hown, hts⟩ (c_L_asks l G xa la ya pa qa a9 r9 c9 q1 q2 q3 lo (yy_0, yy_1, yy_2, yy_3, yy_4, yy_5, yy_6, yy_7, yy_8) (pp_0, pp_1, pp_2, pp_3, pp_4, pp_5, pp_6, pp_7, pp_8) (qq_0, qq_1, qq_2, qq_3, qq_4, qq_5, qq_6, qq_7, qq_8) ka kr kc (fun _ => (0 : Int32)) (fun _ => (0 : Int32)) (fun _ => (0 : Int32)) o4 ho4 H.size) (va_cwS 7 hts gL_loses_L_asks rfl rfl rfl (by decide +kernel) ⟨(Nat.le_of_ble_eq_true rfl), (Nat.le_of_ble_eq_true rfl)⟩) (xk_preS hK hNE (xf_pr hP9) (xf_dr hD9)) rfl rfl hl.1 rfl (lv_room (Nat.le_of_ble_eq_true rfl)) dL_loses_24 ⟨(Nat.le_of_ble_eq_true rfl), (Nat.le_of_ble_eq_true rfl)⟩) hP9 hD9 hS hA (fun H locs hP hD hS => ?_)
  have hP : va_P G.1 vwCl ((wXO xa (ya 0) la (pa 0) (qa 0)) ++ ((wLO G la lo) ++ ((wSYc G ya yy_0 yy_1 yy_2 yy_3 yy_4 yy_5 yy_6 yy_7 yy_8) ++ ((wPLc G pa pp_0 pp_1 pp_2 pp_3 pp_4 pp_5 pp_6 pp_7 pp_8) ++ ((wPLc G qa qq_0 qq_1 qq_2 qq_3 qq_4 qq_5 qq_6 qq_7 qq_8) ++ ((wAR G a9 60 ka) ++ ((wAR G r9 24 kr) ++ ((wAR G c9 1 kc) ++ ((wOU G l9 kl) ++ ((wAR G q1 60 o4.1) ++ ((wAR G q2 36 o4.2.1) ++ ((wAR G q3 12 o4.2.2))))))))))))) H := xf_P (xf_p_12_8_012345679ab (wXO xa (ya 0) la (pa 0) (qa 0)) (wLO G la lo) (wSYc G ya yy_0 yy_1 yy_2 yy_3 yy_4 yy_5 yy_6 yy_7 yy_8) (wPLc G pa pp_0 pp_1 pp_2 pp_3 pp_4 pp_5 pp_6 pp_7 pp_8) (wPLc G qa qq_0 qq_1 qq_2 qq_3 qq_4 qq_5 qq_6 qq_7 qq_8) (wAR G a9 60 ka) (wAR G r9 24 kr) (wAR G c9 1 kc) (wOU G l9 kl) (wAR G q1 60 o4.1) (wAR G q2 36 o4.2.1) (wAR G q3 12 o4.2.2)).symm (show va_P G.1 vwCl (((wOU G l9 kl)) ++ ((wXO xa (ya 0) la (pa 0) (qa 0)) ++ ((wLO G la lo) ++ ((wSYc G ya yy_0 yy_1 yy_2 yy_3 yy_4 yy_5 yy_6 yy_7 yy_8) ++ ((wPLc G pa pp_0 pp_1 pp_2 pp_3 pp_4 pp_5 pp_6 pp_7 pp_8) ++ ((wPLc G qa qq_0 qq_1 qq_2 qq_3 qq_4 qq_5 qq_6 qq_7 qq_8) ++ ((wAR G a9 60 ka) ++ ((wAR G r9 24 kr) ++ ((wAR G c9 1 kc) ++ ((wAR G q1 60 o4.1) ++ ((wAR G q2 36 o4.2.1) ++ ((wAR G q3 12 o4.2.2))))))))))))) H from hP)
  have hD : va_D A ((wXO xa (ya 0) la (pa 0) (qa 0)) ++ ((wLO G la lo) ++ ((wSYc G ya yy_0 yy_1 yy_2 yy_3 yy_4 yy_5 yy_6 yy_7 yy_8) ++ ((wPLc G pa pp_0 pp_1 pp_2 pp_3 pp_4 pp_5 pp_6 pp_7 pp_8) ++ ((wPLc G qa qq_0 qq_1 qq_2 qq_3 qq_4 qq_5 qq_6 qq_7 qq_8) ++ ((wAR G a9 60 ka) ++ ((wAR G r9 24 kr) ++ ((wAR G c9 1 kc) ++ ((wOU G l9 kl) ++ ((wAR G q1 60 o4.1) ++ ((wAR G q2 36 o4.2.1) ++ ((wAR G q3 12 o4.2.2))))))))))))) := xf_D (xf_p_12_8_012345679ab (wXO xa (ya 0) la (pa 0) (qa 0)) (wLO G la lo) (wSYc G ya yy_0 yy_1 yy_2 yy_3 yy_4 yy_5 yy_6 yy_7 yy_8) (wPLc G pa pp_0 pp_1 pp_2 pp_3 pp_4 pp_5 pp_6 pp_7 pp_8) (wPLc G qa qq_0 qq_1 qq_2 qq_3 qq_4 qq_5 qq_6 qq_7 qq_8) (wAR G a9 60 ka) (wAR G r9 24 kr) (wAR G c9 1 kc) (wOU G l9 kl) (wAR G q1 60 o4.1) (wAR G q2 36 o4.2.1) (wAR G q3 12 o4.2.2)).symm (show va_D A (((wOU G l9 kl)) ++ ((wXO xa (ya 0) la (pa 0) (qa 0)) ++ ((wLO G la lo) ++ ((wSYc G ya yy_0 yy_1 yy_2 yy_3 yy_4 yy_5 yy_6 yy_7 yy_8) ++ ((wPLc G pa pp_0 pp_1 pp_2 pp_3 pp_4 pp_5 pp_6 pp_7 pp_8) ++ ((wPLc G qa qq_0 qq_1 qq_2 qq_3 qq_4 qq_5 qq_6 qq_7 qq_8) ++ ((wAR G a9 60 ka) ++ ((wAR G r9 24 kr) ++ ((wAR G c9 1 kc) ++ ((wAR G q1 60 o4.1) ++ ((wAR G q2 36 o4.2.1) ++ ((wAR G q3 12 o4.2.2))))))))))))) from hD)
  refine lv_aload_n hx hb dL_loses_27 rfl (lv_at hl 2 rfl) ?_
  refine lv_iload hx hb dL_loses_28 (lv_at hl 7 rfl) ?_
  obtain ⟨o5, ho5, h⟩ := sp_b h
  have hP9 : va_P G.1 vwCl (((wAR G a9 60 ka) ++ ((wAR G r9 24 kr) ++ ((wAR G c9 1 kc) ++ ((wOU G l9 kl) ++ ((wAR G q1 60 o4.1) ++ ((wAR G q2 36 o4.2.1) ++ ((wAR G q3 12 o4.2.2)))))))) ++ ((wXO xa (ya 0) la (pa 0) (qa 0)) ++ ((wLO G la lo) ++ ((wSYc G ya yy_0 yy_1 yy_2 yy_3 yy_4 yy_5 yy_6 yy_7 yy_8) ++ ((wPLc G pa pp_0 pp_1 pp_2 pp_3 pp_4 pp_5 pp_6 pp_7 pp_8) ++ ((wPLc G qa qq_0 qq_1 qq_2 qq_3 qq_4 qq_5 qq_6 qq_7 qq_8))))))) H := xf_P (xf_p_12_56789ab_01234 (wXO xa (ya 0) la (pa 0) (qa 0)) (wLO G la lo) (wSYc G ya yy_0 yy_1 yy_2 yy_3 yy_4 yy_5 yy_6 yy_7 yy_8) (wPLc G pa pp_0 pp_1 pp_2 pp_3 pp_4 pp_5 pp_6 pp_7 pp_8) (wPLc G qa qq_0 qq_1 qq_2 qq_3 qq_4 qq_5 qq_6 qq_7 qq_8) (wAR G a9 60 ka) (wAR G r9 24 kr) (wAR G c9 1 kc) (wOU G l9 kl) (wAR G q1 60 o4.1) (wAR G q2 36 o4.2.1) (wAR G q3 12 o4.2.2)) hP
  have hD9 : va_D A (((wAR G a9 60 ka) ++ ((wAR G r9 24 kr) ++ ((wAR G c9 1 kc) ++ ((wOU G l9 kl) ++ ((wAR G q1 60 o4.1) ++ ((wAR G q2 36 o4.2.1) ++ ((wAR G q3 12 o4.2.2)))))))) ++ ((wXO xa (ya 0) la (pa 0) (qa 0)) ++ ((wLO G la lo) ++ ((wSYc G ya yy_0 yy_1 yy_2 yy_3 yy_4 yy_5 yy_6 yy_7 yy_8) ++ ((wPLc G pa pp_0 pp_1 pp_2 pp_3 pp_4 pp_5 pp_6 pp_7 pp_8) ++ ((wPLc G qa qq_0 qq_1 qq_2 qq_3 qq_4 qq_5 qq_6 qq_7 qq_8))))))) := xf_D (xf_p_12_56789ab_01234 (wXO xa (ya 0) la (pa 0) (qa 0)) (wLO G la lo) (wSYc G ya yy_0 yy_1 yy_2 yy_3 yy_4 yy_5 yy_6 yy_7 yy_8) (wPLc G pa pp_0 pp_1 pp_2 pp_3 pp_4 pp_5 pp_6 pp_7 pp_8) (wPLc G qa qq_0 qq_1 qq_2 qq_3 qq_4 qq_5 qq_6 qq_7 qq_8) (wAR G a9 60 ka) (wAR G r9 24 kr) (wAR G c9 1 kc) (wOU G l9 kl) (wAR G q1 60 o4.1) (wAR G q2 36 o4.2.1) (wAR G q3 12 o4.2.2)) hD
  refine xf_ci (va_runV (As := [.int i5]) (rest := []) ⟨hx, hb, hml, hown, hts⟩ (c_X2_lose l G xa la ya pa qa lo (yy_0, yy_1, yy_2, yy_3, yy_4, yy_5, yy_6, yy_7, yy_8) (pp_0, pp_1, pp_2, pp_3, pp_4, pp_5, pp_6, pp_7, pp_8) (qq_0, qq_1, qq_2, qq_3, qq_4, qq_5, qq_6, qq_7, qq_8) i5 o5 ho5 H.size) (cwV 1 hts gL_loses_X2_lose rfl rfl rfl (by decide +kernel) ⟨(Nat.le_of_ble_eq_true rfl), (Nat.le_of_ble_eq_true rfl)⟩) (xk_preV hK hNE (xf_pr hP9) (xf_dr hD9) (ci := 2) rfl rfl) rfl rfl hl.1 rfl (lv_room (Nat.le_of_ble_eq_true rfl)) dL_loses_30 ⟨(Nat.le_of_ble_eq_true rfl), (Nat.le_of_ble_eq_true rfl)⟩) hP9 hD9 hS hA (fun H locs hP hD hS => ?_)
  have hP : va_P G.1 vwCl ((wXO xa (ya 0) la (qa 0) (pa 0)) ++ ((wLO G la o5.2.1) ++ ((wSYc G ya yy_0 yy_1 yy_2 yy_3 yy_4 yy_5 yy_6 yy_7 yy_8) ++ ((wPLc G pa o5.2.2.2.1 o5.2.2.2.2.1 o5.2.2.2.2.2.1 o5.2.2.2.2.2.2.1 o5.2.2.2.2.2.2.2.1 o5.2.2.2.2.2.2.2.2.1 o5.2.2.2.2.2.2.2.2.2.1 o5.2.2.2.2.2.2.2.2.2.2.1 o5.2.2.2.2.2.2.2.2.2.2.2) ++ ((wPLc G qa o5.2.2.1.1 o5.2.2.1.2.1 o5.2.2.1.2.2.1 o5.2.2.1.2.2.2.1 o5.2.2.1.2.2.2.2.1 o5.2.2.1.2.2.2.2.2.1 o5.2.2.1.2.2.2.2.2.2.1 o5.2.2.1.2.2.2.2.2.2.2.1 o5.2.2.1.2.2.2.2.2.2.2.2) ++ ((wAR G a9 60 ka) ++ ((wAR G r9 24 kr) ++ ((wAR G c9 1 kc) ++ ((wOU G l9 kl) ++ ((wAR G q1 60 o4.1) ++ ((wAR G q2 36 o4.2.1) ++ ((wAR G q3 12 o4.2.2))))))))))))) H := xf_P (xf_p_12_56789ab_01243 (wXO xa (ya 0) la (qa 0) (pa 0)) (wLO G la o5.2.1) (wSYc G ya yy_0 yy_1 yy_2 yy_3 yy_4 yy_5 yy_6 yy_7 yy_8) (wPLc G pa o5.2.2.2.1 o5.2.2.2.2.1 o5.2.2.2.2.2.1 o5.2.2.2.2.2.2.1 o5.2.2.2.2.2.2.2.1 o5.2.2.2.2.2.2.2.2.1 o5.2.2.2.2.2.2.2.2.2.1 o5.2.2.2.2.2.2.2.2.2.2.1 o5.2.2.2.2.2.2.2.2.2.2.2) (wPLc G qa o5.2.2.1.1 o5.2.2.1.2.1 o5.2.2.1.2.2.1 o5.2.2.1.2.2.2.1 o5.2.2.1.2.2.2.2.1 o5.2.2.1.2.2.2.2.2.1 o5.2.2.1.2.2.2.2.2.2.1 o5.2.2.1.2.2.2.2.2.2.2.1 o5.2.2.1.2.2.2.2.2.2.2.2) (wAR G a9 60 ka) (wAR G r9 24 kr) (wAR G c9 1 kc) (wOU G l9 kl) (wAR G q1 60 o4.1) (wAR G q2 36 o4.2.1) (wAR G q3 12 o4.2.2)).symm (show va_P G.1 vwCl (((wAR G a9 60 ka) ++ ((wAR G r9 24 kr) ++ ((wAR G c9 1 kc) ++ ((wOU G l9 kl) ++ ((wAR G q1 60 o4.1) ++ ((wAR G q2 36 o4.2.1) ++ ((wAR G q3 12 o4.2.2)))))))) ++ ((wXO xa (ya 0) la (qa 0) (pa 0)) ++ ((wLO G la o5.2.1) ++ ((wSYc G ya yy_0 yy_1 yy_2 yy_3 yy_4 yy_5 yy_6 yy_7 yy_8) ++ ((wPLc G qa o5.2.2.1.1 o5.2.2.1.2.1 o5.2.2.1.2.2.1 o5.2.2.1.2.2.2.1 o5.2.2.1.2.2.2.2.1 o5.2.2.1.2.2.2.2.2.1 o5.2.2.1.2.2.2.2.2.2.1 o5.2.2.1.2.2.2.2.2.2.2.1 o5.2.2.1.2.2.2.2.2.2.2.2) ++ ((wPLc G pa o5.2.2.2.1 o5.2.2.2.2.1 o5.2.2.2.2.2.1 o5.2.2.2.2.2.2.1 o5.2.2.2.2.2.2.2.1 o5.2.2.2.2.2.2.2.2.1 o5.2.2.2.2.2.2.2.2.2.1 o5.2.2.2.2.2.2.2.2.2.2.1 o5.2.2.2.2.2.2.2.2.2.2.2))))))) H from hP)
  have hD : va_D A ((wXO xa (ya 0) la (qa 0) (pa 0)) ++ ((wLO G la o5.2.1) ++ ((wSYc G ya yy_0 yy_1 yy_2 yy_3 yy_4 yy_5 yy_6 yy_7 yy_8) ++ ((wPLc G pa o5.2.2.2.1 o5.2.2.2.2.1 o5.2.2.2.2.2.1 o5.2.2.2.2.2.2.1 o5.2.2.2.2.2.2.2.1 o5.2.2.2.2.2.2.2.2.1 o5.2.2.2.2.2.2.2.2.2.1 o5.2.2.2.2.2.2.2.2.2.2.1 o5.2.2.2.2.2.2.2.2.2.2.2) ++ ((wPLc G qa o5.2.2.1.1 o5.2.2.1.2.1 o5.2.2.1.2.2.1 o5.2.2.1.2.2.2.1 o5.2.2.1.2.2.2.2.1 o5.2.2.1.2.2.2.2.2.1 o5.2.2.1.2.2.2.2.2.2.1 o5.2.2.1.2.2.2.2.2.2.2.1 o5.2.2.1.2.2.2.2.2.2.2.2) ++ ((wAR G a9 60 ka) ++ ((wAR G r9 24 kr) ++ ((wAR G c9 1 kc) ++ ((wOU G l9 kl) ++ ((wAR G q1 60 o4.1) ++ ((wAR G q2 36 o4.2.1) ++ ((wAR G q3 12 o4.2.2))))))))))))) := xf_D (xf_p_12_56789ab_01243 (wXO xa (ya 0) la (qa 0) (pa 0)) (wLO G la o5.2.1) (wSYc G ya yy_0 yy_1 yy_2 yy_3 yy_4 yy_5 yy_6 yy_7 yy_8) (wPLc G pa o5.2.2.2.1 o5.2.2.2.2.1 o5.2.2.2.2.2.1 o5.2.2.2.2.2.2.1 o5.2.2.2.2.2.2.2.1 o5.2.2.2.2.2.2.2.2.1 o5.2.2.2.2.2.2.2.2.2.1 o5.2.2.2.2.2.2.2.2.2.2.1 o5.2.2.2.2.2.2.2.2.2.2.2) (wPLc G qa o5.2.2.1.1 o5.2.2.1.2.1 o5.2.2.1.2.2.1 o5.2.2.1.2.2.2.1 o5.2.2.1.2.2.2.2.1 o5.2.2.1.2.2.2.2.2.1 o5.2.2.1.2.2.2.2.2.2.1 o5.2.2.1.2.2.2.2.2.2.2.1 o5.2.2.1.2.2.2.2.2.2.2.2) (wAR G a9 60 ka) (wAR G r9 24 kr) (wAR G c9 1 kc) (wOU G l9 kl) (wAR G q1 60 o4.1) (wAR G q2 36 o4.2.1) (wAR G q3 12 o4.2.2)).symm (show va_D A (((wAR G a9 60 ka) ++ ((wAR G r9 24 kr) ++ ((wAR G c9 1 kc) ++ ((wOU G l9 kl) ++ ((wAR G q1 60 o4.1) ++ ((wAR G q2 36 o4.2.1) ++ ((wAR G q3 12 o4.2.2)))))))) ++ ((wXO xa (ya 0) la (qa 0) (pa 0)) ++ ((wLO G la o5.2.1) ++ ((wSYc G ya yy_0 yy_1 yy_2 yy_3 yy_4 yy_5 yy_6 yy_7 yy_8) ++ ((wPLc G qa o5.2.2.1.1 o5.2.2.1.2.1 o5.2.2.1.2.2.1 o5.2.2.1.2.2.2.1 o5.2.2.1.2.2.2.2.1 o5.2.2.1.2.2.2.2.2.1 o5.2.2.1.2.2.2.2.2.2.1 o5.2.2.1.2.2.2.2.2.2.2.1 o5.2.2.1.2.2.2.2.2.2.2.2) ++ ((wPLc G pa o5.2.2.2.1 o5.2.2.2.2.1 o5.2.2.2.2.2.1 o5.2.2.2.2.2.2.1 o5.2.2.2.2.2.2.2.1 o5.2.2.2.2.2.2.2.2.1 o5.2.2.2.2.2.2.2.2.2.1 o5.2.2.2.2.2.2.2.2.2.2.1 o5.2.2.2.2.2.2.2.2.2.2.2))))))) from hD)
  refine lv_istore (lv' := [(8, .int o5.1), (7, .ref q2), (6, .ref q1), (0, .ref xa), (1, .ref a9), (2, .ref r9), (3, .ref c9), (4, .ref l9), (5, .int i5)]) hx hb dL_loses_33 hl (by decide) rfl (fun ls hl => ?_)
  refine lv_iconst (v := (0 : Int32)) hx hb dL_loses_35 (by decide) ?_
  refine lv_istore (lv' := [(9, .int (0 : Int32)), (8, .int o5.1), (7, .ref q2), (6, .ref q1), (0, .ref xa), (1, .ref a9), (2, .ref r9), (3, .ref c9), (4, .ref l9), (5, .int i5)]) hx hb dL_loses_36 hl (by decide) rfl (fun ls hl => ?_)
  refine lv_iconst (v := (1 : Int32)) hx hb dL_loses_38 (by decide) ?_
  refine lv_istore (lv' := [(10, .int (1 : Int32)), (9, .int (0 : Int32)), (8, .int o5.1), (7, .ref q2), (6, .ref q1), (0, .ref xa), (1, .ref a9), (2, .ref r9), (3, .ref c9), (4, .ref l9), (5, .int i5)]) hx hb dL_loses_39 hl (by decide) rfl (fun ls hl => ?_)
  refine lv_iconst (v := (0 : Int32)) hx hb dL_loses_41 (by decide) ?_
  refine lv_istore (lv' := [(11, .int (0 : Int32)), (10, .int (1 : Int32)), (9, .int (0 : Int32)), (8, .int o5.1), (7, .ref q2), (6, .ref q1), (0, .ref xa), (1, .ref a9), (2, .ref r9), (3, .ref c9), (4, .ref l9), (5, .int i5)]) hx hb dL_loses_42 hl (by decide) rfl (fun ls hl => ?_)
  obtain ⟨w7, hw7, h⟩ := sp_b h
  refine xk_jn G A s.heap ((wXO xa (ya 0) la (qa 0) (pa 0)) ++ ((wLO G la o5.2.1) ++ ((wSYc G ya yy_0 yy_1 yy_2 yy_3 yy_4 yy_5 yy_6 yy_7 yy_8) ++ ((wPLc G pa o5.2.2.2.1 o5.2.2.2.2.1 o5.2.2.2.2.2.1 o5.2.2.2.2.2.2.1 o5.2.2.2.2.2.2.2.1 o5.2.2.2.2.2.2.2.2.1 o5.2.2.2.2.2.2.2.2.2.1 o5.2.2.2.2.2.2.2.2.2.2.1 o5.2.2.2.2.2.2.2.2.2.2.2) ++ ((wPLc G qa o5.2.2.1.1 o5.2.2.1.2.1 o5.2.2.1.2.2.1 o5.2.2.1.2.2.2.1 o5.2.2.1.2.2.2.2.1 o5.2.2.1.2.2.2.2.2.1 o5.2.2.1.2.2.2.2.2.2.1 o5.2.2.1.2.2.2.2.2.2.2.1 o5.2.2.1.2.2.2.2.2.2.2.2) ++ ((wAR G a9 60 ka) ++ ((wAR G r9 24 kr) ++ ((wAR G c9 1 kc) ++ ((wOU G l9 kl) ++ ((wAR G q1 60 o4.1) ++ ((wAR G q2 36 o4.2.1) ++ ((wAR G q3 12 o4.2.2))))))))))))) 13 [(10, .int w7.1), (9, .int w7.2), (8, .int o5.1), (7, .ref q2), (0, .ref xa), (4, .ref l9), (5, .int i5)] 143 [] (fun H locs hP hD hS ls hl => ?_) (fun J6 => ?_)
  · refine lv_iconst (v := (0 : Int32)) hx hb dL_loses_143 (by decide) ?_
    refine lv_istore (lv' := [(11, .int (0 : Int32)), (10, .int w7.1), (9, .int w7.2), (8, .int o5.1), (7, .ref q2), (0, .ref xa), (4, .ref l9), (5, .int i5)]) hx hb dL_loses_144 hl (by decide) rfl (fun ls hl => ?_)
    obtain ⟨w20, hw20, h⟩ := sp_b h
    refine xk_jn G A s.heap ((wXO xa (ya 0) la (qa 0) (pa 0)) ++ ((wLO G la o5.2.1) ++ ((wSYc G ya yy_0 yy_1 yy_2 yy_3 yy_4 yy_5 yy_6 yy_7 yy_8) ++ ((wPLc G pa o5.2.2.2.1 o5.2.2.2.2.1 o5.2.2.2.2.2.1 o5.2.2.2.2.2.2.1 o5.2.2.2.2.2.2.2.1 o5.2.2.2.2.2.2.2.2.1 o5.2.2.2.2.2.2.2.2.2.1 o5.2.2.2.2.2.2.2.2.2.2.1 o5.2.2.2.2.2.2.2.2.2.2.2) ++ ((wPLc G qa o5.2.2.1.1 o5.2.2.1.2.1 o5.2.2.1.2.2.1 o5.2.2.1.2.2.2.1 o5.2.2.1.2.2.2.2.1 o5.2.2.1.2.2.2.2.2.1 o5.2.2.1.2.2.2.2.2.2.1 o5.2.2.1.2.2.2.2.2.2.2.1 o5.2.2.1.2.2.2.2.2.2.2.2) ++ ((wAR G a9 60 ka) ++ ((wAR G r9 24 kr) ++ ((wAR G c9 1 kc) ++ ((wOU G l9 kl) ++ ((wAR G q1 60 o4.1) ++ ((wAR G q2 36 o4.2.1) ++ ((wAR G q3 12 o4.2.2))))))))))))) 13 [(10, .int w20.1), (9, .int w20.2), (8, .int o5.1), (0, .ref xa), (4, .ref l9), (5, .int i5)] 245 [] (fun H locs hP hD hS ls hl => ?_) (fun J19 => ?_)
    · refine lv_aload hx hb dL_loses_245 (lv_at hl 4 rfl) ?_
      refine lv_iload hx hb dL_loses_247 (lv_at hl 5 rfl) ?_
      refine lv_bipush (v := (50 : Int32)) hx hb dL_loses_249 (by decide) ?_
      refine lv_idiv hx hb dL_loses_251 (by decide) ?_
      refine lv_dup2_11 hx hb dL_loses_252 rfl rfl ?_
      obtain ⟨hin32, h⟩ := sp_g h
      refine va_lald hx hb hK hP 28 2 rfl rfl hin32 dL_loses_253 ?_
      refine lv_lconst (v := (1 : Int64)) hx hb dL_loses_254 (by decide) ?_
      refine lv_iload hx hb dL_loses_255 (lv_at hl 5 rfl) ?_
      refine lv_bipush (v := (50 : Int32)) hx hb dL_loses_257 (by decide) ?_
      refine lv_irem hx hb dL_loses_259 (by decide) ?_
      refine lv_lshl (v := ((1 : Int64) <<< ((i5 - i5 / (50 : Int32) * (50 : Int32)).toInt64 &&& 63))) hx hb dL_loses_260 rfl ?_
      refine lv_lor hx hb dL_loses_261 ?_
      refine va_last hx hb hK hP hD hS 28 2 rfl rfl hin32 dL_loses_262 (fun H locs hP hD hS => ?_)
      have hP : va_P G.1 vwCl ((wXO xa (ya 0) la (qa 0) (pa 0)) ++ ((wLO G la o5.2.1) ++ ((wSYc G ya yy_0 yy_1 yy_2 yy_3 yy_4 yy_5 yy_6 yy_7 yy_8) ++ ((wPLc G pa o5.2.2.2.1 o5.2.2.2.2.1 o5.2.2.2.2.2.1 o5.2.2.2.2.2.2.1 o5.2.2.2.2.2.2.2.1 o5.2.2.2.2.2.2.2.2.1 o5.2.2.2.2.2.2.2.2.2.1 o5.2.2.2.2.2.2.2.2.2.2.1 o5.2.2.2.2.2.2.2.2.2.2.2) ++ ((wPLc G qa o5.2.2.1.1 o5.2.2.1.2.1 o5.2.2.1.2.2.1 o5.2.2.1.2.2.2.1 o5.2.2.1.2.2.2.2.1 o5.2.2.1.2.2.2.2.2.1 o5.2.2.1.2.2.2.2.2.2.1 o5.2.2.1.2.2.2.2.2.2.2.1 o5.2.2.1.2.2.2.2.2.2.2.2) ++ ((wAR G a9 60 ka) ++ ((wAR G r9 24 kr) ++ ((wAR G c9 1 kc) ++ ((wOU G l9 (vp_updL kl (i5 / (50 : Int32)).toNatClampNeg ((kl (i5 / (50 : Int32)).toNatClampNeg) ||| ((1 : Int64) <<< ((i5 - i5 / (50 : Int32) * (50 : Int32)).toInt64 &&& 63))))) ++ ((wAR G q1 60 o4.1) ++ ((wAR G q2 36 o4.2.1) ++ ((wAR G q3 12 o4.2.2))))))))))))) H := hP
      have hD : va_D A ((wXO xa (ya 0) la (qa 0) (pa 0)) ++ ((wLO G la o5.2.1) ++ ((wSYc G ya yy_0 yy_1 yy_2 yy_3 yy_4 yy_5 yy_6 yy_7 yy_8) ++ ((wPLc G pa o5.2.2.2.1 o5.2.2.2.2.1 o5.2.2.2.2.2.1 o5.2.2.2.2.2.2.1 o5.2.2.2.2.2.2.2.1 o5.2.2.2.2.2.2.2.2.1 o5.2.2.2.2.2.2.2.2.2.1 o5.2.2.2.2.2.2.2.2.2.2.1 o5.2.2.2.2.2.2.2.2.2.2.2) ++ ((wPLc G qa o5.2.2.1.1 o5.2.2.1.2.1 o5.2.2.1.2.2.1 o5.2.2.1.2.2.2.1 o5.2.2.1.2.2.2.2.1 o5.2.2.1.2.2.2.2.2.1 o5.2.2.1.2.2.2.2.2.2.1 o5.2.2.1.2.2.2.2.2.2.2.1 o5.2.2.1.2.2.2.2.2.2.2.2) ++ ((wAR G a9 60 ka) ++ ((wAR G r9 24 kr) ++ ((wAR G c9 1 kc) ++ ((wOU G l9 (vp_updL kl (i5 / (50 : Int32)).toNatClampNeg ((kl (i5 / (50 : Int32)).toNatClampNeg) ||| ((1 : Int64) <<< ((i5 - i5 / (50 : Int32) * (50 : Int32)).toInt64 &&& 63))))) ++ ((wAR G q1 60 o4.1) ++ ((wAR G q2 36 o4.2.1) ++ ((wAR G q3 12 o4.2.2))))))))))))) := hD
      refine lv_iload hx hb dL_loses_263 (lv_at hl 0 rfl) ?_
      refine lv_if_eq (tgt := 289) hx hb dL_loses_265 (by decide) (fun c33 => ?_) (fun c33 => ?_)
      · have h := sp_t c33 h
        refine lv_iconst (v := (0 : Int32)) hx hb dL_loses_289 (by decide) ?_
        obtain rfl := sp_s h
        have hP9 : va_P G.1 vwCl (((wXO xa (ya 0) la (qa 0) (pa 0)) ++ ((wLO G la o5.2.1) ++ ((wSYc G ya yy_0 yy_1 yy_2 yy_3 yy_4 yy_5 yy_6 yy_7 yy_8) ++ ((wPLc G qa o5.2.2.1.1 o5.2.2.1.2.1 o5.2.2.1.2.2.1 o5.2.2.1.2.2.2.1 o5.2.2.1.2.2.2.2.1 o5.2.2.1.2.2.2.2.2.1 o5.2.2.1.2.2.2.2.2.2.1 o5.2.2.1.2.2.2.2.2.2.2.1 o5.2.2.1.2.2.2.2.2.2.2.2) ++ ((wPLc G pa o5.2.2.2.1 o5.2.2.2.2.1 o5.2.2.2.2.2.1 o5.2.2.2.2.2.2.1 o5.2.2.2.2.2.2.2.1 o5.2.2.2.2.2.2.2.2.1 o5.2.2.2.2.2.2.2.2.2.1 o5.2.2.2.2.2.2.2.2.2.2.1 o5.2.2.2.2.2.2.2.2.2.2.2) ++ ((wAR G a9 60 ka) ++ ((wAR G r9 24 kr) ++ ((wAR G c9 1 kc) ++ ((wOU G l9 (vp_updL kl (i5 / (50 : Int32)).toNatClampNeg ((kl (i5 / (50 : Int32)).toNatClampNeg) ||| ((1 : Int64) <<< ((i5 - i5 / (50 : Int32) * (50 : Int32)).toInt64 &&& 63)))))))))))))) ++ ((wAR G q1 60 o4.1) ++ ((wAR G q2 36 o4.2.1) ++ ((wAR G q3 12 o4.2.2))))) H := xf_P (xf_p_12_012435678_9ab (wXO xa (ya 0) la (qa 0) (pa 0)) (wLO G la o5.2.1) (wSYc G ya yy_0 yy_1 yy_2 yy_3 yy_4 yy_5 yy_6 yy_7 yy_8) (wPLc G pa o5.2.2.2.1 o5.2.2.2.2.1 o5.2.2.2.2.2.1 o5.2.2.2.2.2.2.1 o5.2.2.2.2.2.2.2.1 o5.2.2.2.2.2.2.2.2.1 o5.2.2.2.2.2.2.2.2.2.1 o5.2.2.2.2.2.2.2.2.2.2.1 o5.2.2.2.2.2.2.2.2.2.2.2) (wPLc G qa o5.2.2.1.1 o5.2.2.1.2.1 o5.2.2.1.2.2.1 o5.2.2.1.2.2.2.1 o5.2.2.1.2.2.2.2.1 o5.2.2.1.2.2.2.2.2.1 o5.2.2.1.2.2.2.2.2.2.1 o5.2.2.1.2.2.2.2.2.2.2.1 o5.2.2.1.2.2.2.2.2.2.2.2) (wAR G a9 60 ka) (wAR G r9 24 kr) (wAR G c9 1 kc) (wOU G l9 (vp_updL kl (i5 / (50 : Int32)).toNatClampNeg ((kl (i5 / (50 : Int32)).toNatClampNeg) ||| ((1 : Int64) <<< ((i5 - i5 / (50 : Int32) * (50 : Int32)).toInt64 &&& 63))))) (wAR G q1 60 o4.1) (wAR G q2 36 o4.2.1) (wAR G q3 12 o4.2.2)) hP
        have hD9 : va_D A (((wXO xa (ya 0) la (qa 0) (pa 0)) ++ ((wLO G la o5.2.1) ++ ((wSYc G ya yy_0 yy_1 yy_2 yy_3 yy_4 yy_5 yy_6 yy_7 yy_8) ++ ((wPLc G qa o5.2.2.1.1 o5.2.2.1.2.1 o5.2.2.1.2.2.1 o5.2.2.1.2.2.2.1 o5.2.2.1.2.2.2.2.1 o5.2.2.1.2.2.2.2.2.1 o5.2.2.1.2.2.2.2.2.2.1 o5.2.2.1.2.2.2.2.2.2.2.1 o5.2.2.1.2.2.2.2.2.2.2.2) ++ ((wPLc G pa o5.2.2.2.1 o5.2.2.2.2.1 o5.2.2.2.2.2.1 o5.2.2.2.2.2.2.1 o5.2.2.2.2.2.2.2.1 o5.2.2.2.2.2.2.2.2.1 o5.2.2.2.2.2.2.2.2.2.1 o5.2.2.2.2.2.2.2.2.2.2.1 o5.2.2.2.2.2.2.2.2.2.2.2) ++ ((wAR G a9 60 ka) ++ ((wAR G r9 24 kr) ++ ((wAR G c9 1 kc) ++ ((wOU G l9 (vp_updL kl (i5 / (50 : Int32)).toNatClampNeg ((kl (i5 / (50 : Int32)).toNatClampNeg) ||| ((1 : Int64) <<< ((i5 - i5 / (50 : Int32) * (50 : Int32)).toInt64 &&& 63)))))))))))))) ++ ((wAR G q1 60 o4.1) ++ ((wAR G q2 36 o4.2.1) ++ ((wAR G q3 12 o4.2.2))))) := xf_D (xf_p_12_012435678_9ab (wXO xa (ya 0) la (qa 0) (pa 0)) (wLO G la o5.2.1) (wSYc G ya yy_0 yy_1 yy_2 yy_3 yy_4 yy_5 yy_6 yy_7 yy_8) (wPLc G pa o5.2.2.2.1 o5.2.2.2.2.1 o5.2.2.2.2.2.1 o5.2.2.2.2.2.2.1 o5.2.2.2.2.2.2.2.1 o5.2.2.2.2.2.2.2.2.1 o5.2.2.2.2.2.2.2.2.2.1 o5.2.2.2.2.2.2.2.2.2.2.1 o5.2.2.2.2.2.2.2.2.2.2.2) (wPLc G qa o5.2.2.1.1 o5.2.2.1.2.1 o5.2.2.1.2.2.1 o5.2.2.1.2.2.2.1 o5.2.2.1.2.2.2.2.1 o5.2.2.1.2.2.2.2.2.1 o5.2.2.1.2.2.2.2.2.2.1 o5.2.2.1.2.2.2.2.2.2.2.1 o5.2.2.1.2.2.2.2.2.2.2.2) (wAR G a9 60 ka) (wAR G r9 24 kr) (wAR G c9 1 kc) (wOU G l9 (vp_updL kl (i5 / (50 : Int32)).toNatClampNeg ((kl (i5 / (50 : Int32)).toNatClampNeg) ||| ((1 : Int64) <<< ((i5 - i5 / (50 : Int32) * (50 : Int32)).toInt64 &&& 63))))) (wAR G q1 60 o4.1) (wAR G q2 36 o4.2.1) (wAR G q3 12 o4.2.2)) hD
        refine W.widen (k := 3) (n := 108) (Nat.le_of_ble_eq_true rfl) (Nat.le_of_ble_eq_true rfl) ?_
        exact xk_reZ hx hb hr hlk rfl (xf_pl hP9) (xf_dl hD9) hS rfl dL_loses_290
      · have h := sp_f c33 h
        refine lv_iload hx hb dL_loses_268 (lv_at hl 2 rfl) ?_
        refine lv_iload hx hb dL_loses_270 (lv_at hl 1 rfl) ?_
        refine lv_icmp_ne (tgt := 289) hx hb dL_loses_272 (by decide) (fun c34 => ?_) (fun c34 => ?_)
        · have h := sp_f c34 h
          refine lv_iconst (v := (0 : Int32)) hx hb dL_loses_289 (by decide) ?_
          obtain rfl := sp_s h
          have hP9 : va_P G.1 vwCl (((wXO xa (ya 0) la (qa 0) (pa 0)) ++ ((wLO G la o5.2.1) ++ ((wSYc G ya yy_0 yy_1 yy_2 yy_3 yy_4 yy_5 yy_6 yy_7 yy_8) ++ ((wPLc G qa o5.2.2.1.1 o5.2.2.1.2.1 o5.2.2.1.2.2.1 o5.2.2.1.2.2.2.1 o5.2.2.1.2.2.2.2.1 o5.2.2.1.2.2.2.2.2.1 o5.2.2.1.2.2.2.2.2.2.1 o5.2.2.1.2.2.2.2.2.2.2.1 o5.2.2.1.2.2.2.2.2.2.2.2) ++ ((wPLc G pa o5.2.2.2.1 o5.2.2.2.2.1 o5.2.2.2.2.2.1 o5.2.2.2.2.2.2.1 o5.2.2.2.2.2.2.2.1 o5.2.2.2.2.2.2.2.2.1 o5.2.2.2.2.2.2.2.2.2.1 o5.2.2.2.2.2.2.2.2.2.2.1 o5.2.2.2.2.2.2.2.2.2.2.2) ++ ((wAR G a9 60 ka) ++ ((wAR G r9 24 kr) ++ ((wAR G c9 1 kc) ++ ((wOU G l9 (vp_updL kl (i5 / (50 : Int32)).toNatClampNeg ((kl (i5 / (50 : Int32)).toNatClampNeg) ||| ((1 : Int64) <<< ((i5 - i5 / (50 : Int32) * (50 : Int32)).toInt64 &&& 63)))))))))))))) ++ ((wAR G q1 60 o4.1) ++ ((wAR G q2 36 o4.2.1) ++ ((wAR G q3 12 o4.2.2))))) H := xf_P (xf_p_12_012435678_9ab (wXO xa (ya 0) la (qa 0) (pa 0)) (wLO G la o5.2.1) (wSYc G ya yy_0 yy_1 yy_2 yy_3 yy_4 yy_5 yy_6 yy_7 yy_8) (wPLc G pa o5.2.2.2.1 o5.2.2.2.2.1 o5.2.2.2.2.2.1 o5.2.2.2.2.2.2.1 o5.2.2.2.2.2.2.2.1 o5.2.2.2.2.2.2.2.2.1 o5.2.2.2.2.2.2.2.2.2.1 o5.2.2.2.2.2.2.2.2.2.2.1 o5.2.2.2.2.2.2.2.2.2.2.2) (wPLc G qa o5.2.2.1.1 o5.2.2.1.2.1 o5.2.2.1.2.2.1 o5.2.2.1.2.2.2.1 o5.2.2.1.2.2.2.2.1 o5.2.2.1.2.2.2.2.2.1 o5.2.2.1.2.2.2.2.2.2.1 o5.2.2.1.2.2.2.2.2.2.2.1 o5.2.2.1.2.2.2.2.2.2.2.2) (wAR G a9 60 ka) (wAR G r9 24 kr) (wAR G c9 1 kc) (wOU G l9 (vp_updL kl (i5 / (50 : Int32)).toNatClampNeg ((kl (i5 / (50 : Int32)).toNatClampNeg) ||| ((1 : Int64) <<< ((i5 - i5 / (50 : Int32) * (50 : Int32)).toInt64 &&& 63))))) (wAR G q1 60 o4.1) (wAR G q2 36 o4.2.1) (wAR G q3 12 o4.2.2)) hP
          have hD9 : va_D A (((wXO xa (ya 0) la (qa 0) (pa 0)) ++ ((wLO G la o5.2.1) ++ ((wSYc G ya yy_0 yy_1 yy_2 yy_3 yy_4 yy_5 yy_6 yy_7 yy_8) ++ ((wPLc G qa o5.2.2.1.1 o5.2.2.1.2.1 o5.2.2.1.2.2.1 o5.2.2.1.2.2.2.1 o5.2.2.1.2.2.2.2.1 o5.2.2.1.2.2.2.2.2.1 o5.2.2.1.2.2.2.2.2.2.1 o5.2.2.1.2.2.2.2.2.2.2.1 o5.2.2.1.2.2.2.2.2.2.2.2) ++ ((wPLc G pa o5.2.2.2.1 o5.2.2.2.2.1 o5.2.2.2.2.2.1 o5.2.2.2.2.2.2.1 o5.2.2.2.2.2.2.2.1 o5.2.2.2.2.2.2.2.2.1 o5.2.2.2.2.2.2.2.2.2.1 o5.2.2.2.2.2.2.2.2.2.2.1 o5.2.2.2.2.2.2.2.2.2.2.2) ++ ((wAR G a9 60 ka) ++ ((wAR G r9 24 kr) ++ ((wAR G c9 1 kc) ++ ((wOU G l9 (vp_updL kl (i5 / (50 : Int32)).toNatClampNeg ((kl (i5 / (50 : Int32)).toNatClampNeg) ||| ((1 : Int64) <<< ((i5 - i5 / (50 : Int32) * (50 : Int32)).toInt64 &&& 63)))))))))))))) ++ ((wAR G q1 60 o4.1) ++ ((wAR G q2 36 o4.2.1) ++ ((wAR G q3 12 o4.2.2))))) := xf_D (xf_p_12_012435678_9ab (wXO xa (ya 0) la (qa 0) (pa 0)) (wLO G la o5.2.1) (wSYc G ya yy_0 yy_1 yy_2 yy_3 yy_4 yy_5 yy_6 yy_7 yy_8) (wPLc G pa o5.2.2.2.1 o5.2.2.2.2.1 o5.2.2.2.2.2.1 o5.2.2.2.2.2.2.1 o5.2.2.2.2.2.2.2.1 o5.2.2.2.2.2.2.2.2.1 o5.2.2.2.2.2.2.2.2.2.1 o5.2.2.2.2.2.2.2.2.2.2.1 o5.2.2.2.2.2.2.2.2.2.2.2) (wPLc G qa o5.2.2.1.1 o5.2.2.1.2.1 o5.2.2.1.2.2.1 o5.2.2.1.2.2.2.1 o5.2.2.1.2.2.2.2.1 o5.2.2.1.2.2.2.2.2.1 o5.2.2.1.2.2.2.2.2.2.1 o5.2.2.1.2.2.2.2.2.2.2.1 o5.2.2.1.2.2.2.2.2.2.2.2) (wAR G a9 60 ka) (wAR G r9 24 kr) (wAR G c9 1 kc) (wOU G l9 (vp_updL kl (i5 / (50 : Int32)).toNatClampNeg ((kl (i5 / (50 : Int32)).toNatClampNeg) ||| ((1 : Int64) <<< ((i5 - i5 / (50 : Int32) * (50 : Int32)).toInt64 &&& 63))))) (wAR G q1 60 o4.1) (wAR G q2 36 o4.2.1) (wAR G q3 12 o4.2.2)) hD
          refine W.widen (k := 3) (n := 108) (Nat.le_of_ble_eq_true rfl) (Nat.le_of_ble_eq_true rfl) ?_
          exact xk_reZ hx hb hr hlk rfl (xf_pl hP9) (xf_dl hD9) hS rfl dL_loses_290
        · have h := sp_t c34 h
          refine lv_aload_n hx hb dL_loses_275 rfl (lv_at hl 3 rfl) ?_
          refine lv_iload hx hb dL_loses_276 (lv_at hl 5 rfl) ?_
          obtain ⟨o35, ho35, h⟩ := sp_b h
          have hP9 : va_P G.1 vwCl (((wAR G a9 60 ka) ++ ((wAR G r9 24 kr) ++ ((wAR G c9 1 kc) ++ ((wOU G l9 (vp_updL kl (i5 / (50 : Int32)).toNatClampNeg ((kl (i5 / (50 : Int32)).toNatClampNeg) ||| ((1 : Int64) <<< ((i5 - i5 / (50 : Int32) * (50 : Int32)).toInt64 &&& 63))))) ++ ((wAR G q1 60 o4.1) ++ ((wAR G q2 36 o4.2.1) ++ ((wAR G q3 12 o4.2.2)))))))) ++ ((wXO xa (ya 0) la (qa 0) (pa 0)) ++ ((wLO G la o5.2.1) ++ ((wSYc G ya yy_0 yy_1 yy_2 yy_3 yy_4 yy_5 yy_6 yy_7 yy_8) ++ ((wPLc G qa o5.2.2.1.1 o5.2.2.1.2.1 o5.2.2.1.2.2.1 o5.2.2.1.2.2.2.1 o5.2.2.1.2.2.2.2.1 o5.2.2.1.2.2.2.2.2.1 o5.2.2.1.2.2.2.2.2.2.1 o5.2.2.1.2.2.2.2.2.2.2.1 o5.2.2.1.2.2.2.2.2.2.2.2) ++ ((wPLc G pa o5.2.2.2.1 o5.2.2.2.2.1 o5.2.2.2.2.2.1 o5.2.2.2.2.2.2.1 o5.2.2.2.2.2.2.2.1 o5.2.2.2.2.2.2.2.2.1 o5.2.2.2.2.2.2.2.2.2.1 o5.2.2.2.2.2.2.2.2.2.2.1 o5.2.2.2.2.2.2.2.2.2.2.2))))))) H := xf_P (xf_p_12_56789ab_01243 (wXO xa (ya 0) la (qa 0) (pa 0)) (wLO G la o5.2.1) (wSYc G ya yy_0 yy_1 yy_2 yy_3 yy_4 yy_5 yy_6 yy_7 yy_8) (wPLc G pa o5.2.2.2.1 o5.2.2.2.2.1 o5.2.2.2.2.2.1 o5.2.2.2.2.2.2.1 o5.2.2.2.2.2.2.2.1 o5.2.2.2.2.2.2.2.2.1 o5.2.2.2.2.2.2.2.2.2.1 o5.2.2.2.2.2.2.2.2.2.2.1 o5.2.2.2.2.2.2.2.2.2.2.2) (wPLc G qa o5.2.2.1.1 o5.2.2.1.2.1 o5.2.2.1.2.2.1 o5.2.2.1.2.2.2.1 o5.2.2.1.2.2.2.2.1 o5.2.2.1.2.2.2.2.2.1 o5.2.2.1.2.2.2.2.2.2.1 o5.2.2.1.2.2.2.2.2.2.2.1 o5.2.2.1.2.2.2.2.2.2.2.2) (wAR G a9 60 ka) (wAR G r9 24 kr) (wAR G c9 1 kc) (wOU G l9 (vp_updL kl (i5 / (50 : Int32)).toNatClampNeg ((kl (i5 / (50 : Int32)).toNatClampNeg) ||| ((1 : Int64) <<< ((i5 - i5 / (50 : Int32) * (50 : Int32)).toInt64 &&& 63))))) (wAR G q1 60 o4.1) (wAR G q2 36 o4.2.1) (wAR G q3 12 o4.2.2)) hP
          have hD9 : va_D A (((wAR G a9 60 ka) ++ ((wAR G r9 24 kr) ++ ((wAR G c9 1 kc) ++ ((wOU G l9 (vp_updL kl (i5 / (50 : Int32)).toNatClampNeg ((kl (i5 / (50 : Int32)).toNatClampNeg) ||| ((1 : Int64) <<< ((i5 - i5 / (50 : Int32) * (50 : Int32)).toInt64 &&& 63))))) ++ ((wAR G q1 60 o4.1) ++ ((wAR G q2 36 o4.2.1) ++ ((wAR G q3 12 o4.2.2)))))))) ++ ((wXO xa (ya 0) la (qa 0) (pa 0)) ++ ((wLO G la o5.2.1) ++ ((wSYc G ya yy_0 yy_1 yy_2 yy_3 yy_4 yy_5 yy_6 yy_7 yy_8) ++ ((wPLc G qa o5.2.2.1.1 o5.2.2.1.2.1 o5.2.2.1.2.2.1 o5.2.2.1.2.2.2.1 o5.2.2.1.2.2.2.2.1 o5.2.2.1.2.2.2.2.2.1 o5.2.2.1.2.2.2.2.2.2.1 o5.2.2.1.2.2.2.2.2.2.2.1 o5.2.2.1.2.2.2.2.2.2.2.2) ++ ((wPLc G pa o5.2.2.2.1 o5.2.2.2.2.1 o5.2.2.2.2.2.1 o5.2.2.2.2.2.2.1 o5.2.2.2.2.2.2.2.1 o5.2.2.2.2.2.2.2.2.1 o5.2.2.2.2.2.2.2.2.2.1 o5.2.2.2.2.2.2.2.2.2.2.1 o5.2.2.2.2.2.2.2.2.2.2.2))))))) := xf_D (xf_p_12_56789ab_01243 (wXO xa (ya 0) la (qa 0) (pa 0)) (wLO G la o5.2.1) (wSYc G ya yy_0 yy_1 yy_2 yy_3 yy_4 yy_5 yy_6 yy_7 yy_8) (wPLc G pa o5.2.2.2.1 o5.2.2.2.2.1 o5.2.2.2.2.2.1 o5.2.2.2.2.2.2.1 o5.2.2.2.2.2.2.2.1 o5.2.2.2.2.2.2.2.2.1 o5.2.2.2.2.2.2.2.2.2.1 o5.2.2.2.2.2.2.2.2.2.2.1 o5.2.2.2.2.2.2.2.2.2.2.2) (wPLc G qa o5.2.2.1.1 o5.2.2.1.2.1 o5.2.2.1.2.2.1 o5.2.2.1.2.2.2.1 o5.2.2.1.2.2.2.2.1 o5.2.2.1.2.2.2.2.2.1 o5.2.2.1.2.2.2.2.2.2.1 o5.2.2.1.2.2.2.2.2.2.2.1 o5.2.2.1.2.2.2.2.2.2.2.2) (wAR G a9 60 ka) (wAR G r9 24 kr) (wAR G c9 1 kc) (wOU G l9 (vp_updL kl (i5 / (50 : Int32)).toNatClampNeg ((kl (i5 / (50 : Int32)).toNatClampNeg) ||| ((1 : Int64) <<< ((i5 - i5 / (50 : Int32) * (50 : Int32)).toInt64 &&& 63))))) (wAR G q1 60 o4.1) (wAR G q2 36 o4.2.1) (wAR G q3 12 o4.2.2)) hD
          refine xf_ci (va_runV (As := [.int i5]) (rest := []) ⟨hx, hb, hml, hown, hts⟩ (c_X2_on l G xa la ya qa pa o5.2.1 (yy_0, yy_1, yy_2, yy_3, yy_4, yy_5, yy_6, yy_7, yy_8) o5.2.2.1 o5.2.2.2 i5 o35 ho35 H.size) (cwV 1 hts gL_loses_X2_on rfl rfl rfl (by decide +kernel) ⟨(Nat.le_of_ble_eq_true rfl), (Nat.le_of_ble_eq_true rfl)⟩) (xk_preV hK hNE (xf_pr hP9) (xf_dr hD9) (ci := 2) rfl rfl) rfl rfl hl.1 rfl (lv_room (Nat.le_of_ble_eq_true rfl)) dL_loses_278 ⟨(Nat.le_of_ble_eq_true rfl), (Nat.le_of_ble_eq_true rfl)⟩) hP9 hD9 hS hA (fun H locs hP hD hS => ?_)
          have hP : va_P G.1 vwCl ((wXO xa (ya 0) la (qa 0) (pa 0)) ++ ((wLO G la o5.2.1) ++ ((wSYc G ya yy_0 yy_1 yy_2 yy_3 yy_4 yy_5 yy_6 yy_7 yy_8) ++ ((wPLc G pa o5.2.2.2.1 o5.2.2.2.2.1 o5.2.2.2.2.2.1 o5.2.2.2.2.2.2.1 o5.2.2.2.2.2.2.2.1 o5.2.2.2.2.2.2.2.2.1 o5.2.2.2.2.2.2.2.2.2.1 o5.2.2.2.2.2.2.2.2.2.2.1 o5.2.2.2.2.2.2.2.2.2.2.2) ++ ((wPLc G qa o5.2.2.1.1 o5.2.2.1.2.1 o5.2.2.1.2.2.1 o5.2.2.1.2.2.2.1 o5.2.2.1.2.2.2.2.1 o5.2.2.1.2.2.2.2.2.1 o5.2.2.1.2.2.2.2.2.2.1 o5.2.2.1.2.2.2.2.2.2.2.1 o5.2.2.1.2.2.2.2.2.2.2.2) ++ ((wAR G a9 60 ka) ++ ((wAR G r9 24 kr) ++ ((wAR G c9 1 kc) ++ ((wOU G l9 (vp_updL kl (i5 / (50 : Int32)).toNatClampNeg ((kl (i5 / (50 : Int32)).toNatClampNeg) ||| ((1 : Int64) <<< ((i5 - i5 / (50 : Int32) * (50 : Int32)).toInt64 &&& 63))))) ++ ((wAR G q1 60 o4.1) ++ ((wAR G q2 36 o4.2.1) ++ ((wAR G q3 12 o4.2.2))))))))))))) H := xf_P (xf_p_12_56789ab_01243 (wXO xa (ya 0) la (qa 0) (pa 0)) (wLO G la o5.2.1) (wSYc G ya yy_0 yy_1 yy_2 yy_3 yy_4 yy_5 yy_6 yy_7 yy_8) (wPLc G pa o5.2.2.2.1 o5.2.2.2.2.1 o5.2.2.2.2.2.1 o5.2.2.2.2.2.2.1 o5.2.2.2.2.2.2.2.1 o5.2.2.2.2.2.2.2.2.1 o5.2.2.2.2.2.2.2.2.2.1 o5.2.2.2.2.2.2.2.2.2.2.1 o5.2.2.2.2.2.2.2.2.2.2.2) (wPLc G qa o5.2.2.1.1 o5.2.2.1.2.1 o5.2.2.1.2.2.1 o5.2.2.1.2.2.2.1 o5.2.2.1.2.2.2.2.1 o5.2.2.1.2.2.2.2.2.1 o5.2.2.1.2.2.2.2.2.2.1 o5.2.2.1.2.2.2.2.2.2.2.1 o5.2.2.1.2.2.2.2.2.2.2.2) (wAR G a9 60 ka) (wAR G r9 24 kr) (wAR G c9 1 kc) (wOU G l9 (vp_updL kl (i5 / (50 : Int32)).toNatClampNeg ((kl (i5 / (50 : Int32)).toNatClampNeg) ||| ((1 : Int64) <<< ((i5 - i5 / (50 : Int32) * (50 : Int32)).toInt64 &&& 63))))) (wAR G q1 60 o4.1) (wAR G q2 36 o4.2.1) (wAR G q3 12 o4.2.2)).symm (show va_P G.1 vwCl (((wAR G a9 60 ka) ++ ((wAR G r9 24 kr) ++ ((wAR G c9 1 kc) ++ ((wOU G l9 (vp_updL kl (i5 / (50 : Int32)).toNatClampNeg ((kl (i5 / (50 : Int32)).toNatClampNeg) ||| ((1 : Int64) <<< ((i5 - i5 / (50 : Int32) * (50 : Int32)).toInt64 &&& 63))))) ++ ((wAR G q1 60 o4.1) ++ ((wAR G q2 36 o4.2.1) ++ ((wAR G q3 12 o4.2.2)))))))) ++ ((wXO xa (ya 0) la (qa 0) (pa 0)) ++ ((wLO G la o5.2.1) ++ ((wSYc G ya yy_0 yy_1 yy_2 yy_3 yy_4 yy_5 yy_6 yy_7 yy_8) ++ ((wPLc G qa o5.2.2.1.1 o5.2.2.1.2.1 o5.2.2.1.2.2.1 o5.2.2.1.2.2.2.1 o5.2.2.1.2.2.2.2.1 o5.2.2.1.2.2.2.2.2.1 o5.2.2.1.2.2.2.2.2.2.1 o5.2.2.1.2.2.2.2.2.2.2.1 o5.2.2.1.2.2.2.2.2.2.2.2) ++ ((wPLc G pa o5.2.2.2.1 o5.2.2.2.2.1 o5.2.2.2.2.2.1 o5.2.2.2.2.2.2.1 o5.2.2.2.2.2.2.2.1 o5.2.2.2.2.2.2.2.2.1 o5.2.2.2.2.2.2.2.2.2.1 o5.2.2.2.2.2.2.2.2.2.2.1 o5.2.2.2.2.2.2.2.2.2.2.2))))))) H from hP)
          have hD : va_D A ((wXO xa (ya 0) la (qa 0) (pa 0)) ++ ((wLO G la o5.2.1) ++ ((wSYc G ya yy_0 yy_1 yy_2 yy_3 yy_4 yy_5 yy_6 yy_7 yy_8) ++ ((wPLc G pa o5.2.2.2.1 o5.2.2.2.2.1 o5.2.2.2.2.2.1 o5.2.2.2.2.2.2.1 o5.2.2.2.2.2.2.2.1 o5.2.2.2.2.2.2.2.2.1 o5.2.2.2.2.2.2.2.2.2.1 o5.2.2.2.2.2.2.2.2.2.2.1 o5.2.2.2.2.2.2.2.2.2.2.2) ++ ((wPLc G qa o5.2.2.1.1 o5.2.2.1.2.1 o5.2.2.1.2.2.1 o5.2.2.1.2.2.2.1 o5.2.2.1.2.2.2.2.1 o5.2.2.1.2.2.2.2.2.1 o5.2.2.1.2.2.2.2.2.2.1 o5.2.2.1.2.2.2.2.2.2.2.1 o5.2.2.1.2.2.2.2.2.2.2.2) ++ ((wAR G a9 60 ka) ++ ((wAR G r9 24 kr) ++ ((wAR G c9 1 kc) ++ ((wOU G l9 (vp_updL kl (i5 / (50 : Int32)).toNatClampNeg ((kl (i5 / (50 : Int32)).toNatClampNeg) ||| ((1 : Int64) <<< ((i5 - i5 / (50 : Int32) * (50 : Int32)).toInt64 &&& 63))))) ++ ((wAR G q1 60 o4.1) ++ ((wAR G q2 36 o4.2.1) ++ ((wAR G q3 12 o4.2.2))))))))))))) := xf_D (xf_p_12_56789ab_01243 (wXO xa (ya 0) la (qa 0) (pa 0)) (wLO G la o5.2.1) (wSYc G ya yy_0 yy_1 yy_2 yy_3 yy_4 yy_5 yy_6 yy_7 yy_8) (wPLc G pa o5.2.2.2.1 o5.2.2.2.2.1 o5.2.2.2.2.2.1 o5.2.2.2.2.2.2.1 o5.2.2.2.2.2.2.2.1 o5.2.2.2.2.2.2.2.2.1 o5.2.2.2.2.2.2.2.2.2.1 o5.2.2.2.2.2.2.2.2.2.2.1 o5.2.2.2.2.2.2.2.2.2.2.2) (wPLc G qa o5.2.2.1.1 o5.2.2.1.2.1 o5.2.2.1.2.2.1 o5.2.2.1.2.2.2.1 o5.2.2.1.2.2.2.2.1 o5.2.2.1.2.2.2.2.2.1 o5.2.2.1.2.2.2.2.2.2.1 o5.2.2.1.2.2.2.2.2.2.2.1 o5.2.2.1.2.2.2.2.2.2.2.2) (wAR G a9 60 ka) (wAR G r9 24 kr) (wAR G c9 1 kc) (wOU G l9 (vp_updL kl (i5 / (50 : Int32)).toNatClampNeg ((kl (i5 / (50 : Int32)).toNatClampNeg) ||| ((1 : Int64) <<< ((i5 - i5 / (50 : Int32) * (50 : Int32)).toInt64 &&& 63))))) (wAR G q1 60 o4.1) (wAR G q2 36 o4.2.1) (wAR G q3 12 o4.2.2)).symm (show va_D A (((wAR G a9 60 ka) ++ ((wAR G r9 24 kr) ++ ((wAR G c9 1 kc) ++ ((wOU G l9 (vp_updL kl (i5 / (50 : Int32)).toNatClampNeg ((kl (i5 / (50 : Int32)).toNatClampNeg) ||| ((1 : Int64) <<< ((i5 - i5 / (50 : Int32) * (50 : Int32)).toInt64 &&& 63))))) ++ ((wAR G q1 60 o4.1) ++ ((wAR G q2 36 o4.2.1) ++ ((wAR G q3 12 o4.2.2)))))))) ++ ((wXO xa (ya 0) la (qa 0) (pa 0)) ++ ((wLO G la o5.2.1) ++ ((wSYc G ya yy_0 yy_1 yy_2 yy_3 yy_4 yy_5 yy_6 yy_7 yy_8) ++ ((wPLc G qa o5.2.2.1.1 o5.2.2.1.2.1 o5.2.2.1.2.2.1 o5.2.2.1.2.2.2.1 o5.2.2.1.2.2.2.2.1 o5.2.2.1.2.2.2.2.2.1 o5.2.2.1.2.2.2.2.2.2.1 o5.2.2.1.2.2.2.2.2.2.2.1 o5.2.2.1.2.2.2.2.2.2.2.2) ++ ((wPLc G pa o5.2.2.2.1 o5.2.2.2.2.1 o5.2.2.2.2.2.1 o5.2.2.2.2.2.2.1 o5.2.2.2.2.2.2.2.1 o5.2.2.2.2.2.2.2.2.1 o5.2.2.2.2.2.2.2.2.2.1 o5.2.2.2.2.2.2.2.2.2.2.1 o5.2.2.2.2.2.2.2.2.2.2.2))))))) from hD)
          refine lv_iconst (v := ((-1) : Int32)) hx hb dL_loses_281 (by decide) ?_
          refine lv_icmp_ne (tgt := 289) hx hb dL_loses_282 (by decide) (fun c36 => ?_) (fun c36 => ?_)
          · have h := sp_f c36 h
            refine lv_iconst (v := (0 : Int32)) hx hb dL_loses_289 (by decide) ?_
            obtain rfl := sp_s h
            have hP9 : va_P G.1 vwCl (((wXO xa (ya 0) la (qa 0) (pa 0)) ++ ((wLO G la o5.2.1) ++ ((wSYc G ya yy_0 yy_1 yy_2 yy_3 yy_4 yy_5 yy_6 yy_7 yy_8) ++ ((wPLc G qa o5.2.2.1.1 o5.2.2.1.2.1 o5.2.2.1.2.2.1 o5.2.2.1.2.2.2.1 o5.2.2.1.2.2.2.2.1 o5.2.2.1.2.2.2.2.2.1 o5.2.2.1.2.2.2.2.2.2.1 o5.2.2.1.2.2.2.2.2.2.2.1 o5.2.2.1.2.2.2.2.2.2.2.2) ++ ((wPLc G pa o5.2.2.2.1 o5.2.2.2.2.1 o5.2.2.2.2.2.1 o5.2.2.2.2.2.2.1 o5.2.2.2.2.2.2.2.1 o5.2.2.2.2.2.2.2.2.1 o5.2.2.2.2.2.2.2.2.2.1 o5.2.2.2.2.2.2.2.2.2.2.1 o5.2.2.2.2.2.2.2.2.2.2.2) ++ ((wAR G a9 60 ka) ++ ((wAR G r9 24 kr) ++ ((wAR G c9 1 kc) ++ ((wOU G l9 (vp_updL kl (i5 / (50 : Int32)).toNatClampNeg ((kl (i5 / (50 : Int32)).toNatClampNeg) ||| ((1 : Int64) <<< ((i5 - i5 / (50 : Int32) * (50 : Int32)).toInt64 &&& 63)))))))))))))) ++ ((wAR G q1 60 o4.1) ++ ((wAR G q2 36 o4.2.1) ++ ((wAR G q3 12 o4.2.2))))) H := xf_P (xf_p_12_012435678_9ab (wXO xa (ya 0) la (qa 0) (pa 0)) (wLO G la o5.2.1) (wSYc G ya yy_0 yy_1 yy_2 yy_3 yy_4 yy_5 yy_6 yy_7 yy_8) (wPLc G pa o5.2.2.2.1 o5.2.2.2.2.1 o5.2.2.2.2.2.1 o5.2.2.2.2.2.2.1 o5.2.2.2.2.2.2.2.1 o5.2.2.2.2.2.2.2.2.1 o5.2.2.2.2.2.2.2.2.2.1 o5.2.2.2.2.2.2.2.2.2.2.1 o5.2.2.2.2.2.2.2.2.2.2.2) (wPLc G qa o5.2.2.1.1 o5.2.2.1.2.1 o5.2.2.1.2.2.1 o5.2.2.1.2.2.2.1 o5.2.2.1.2.2.2.2.1 o5.2.2.1.2.2.2.2.2.1 o5.2.2.1.2.2.2.2.2.2.1 o5.2.2.1.2.2.2.2.2.2.2.1 o5.2.2.1.2.2.2.2.2.2.2.2) (wAR G a9 60 ka) (wAR G r9 24 kr) (wAR G c9 1 kc) (wOU G l9 (vp_updL kl (i5 / (50 : Int32)).toNatClampNeg ((kl (i5 / (50 : Int32)).toNatClampNeg) ||| ((1 : Int64) <<< ((i5 - i5 / (50 : Int32) * (50 : Int32)).toInt64 &&& 63))))) (wAR G q1 60 o4.1) (wAR G q2 36 o4.2.1) (wAR G q3 12 o4.2.2)) hP
            have hD9 : va_D A (((wXO xa (ya 0) la (qa 0) (pa 0)) ++ ((wLO G la o5.2.1) ++ ((wSYc G ya yy_0 yy_1 yy_2 yy_3 yy_4 yy_5 yy_6 yy_7 yy_8) ++ ((wPLc G qa o5.2.2.1.1 o5.2.2.1.2.1 o5.2.2.1.2.2.1 o5.2.2.1.2.2.2.1 o5.2.2.1.2.2.2.2.1 o5.2.2.1.2.2.2.2.2.1 o5.2.2.1.2.2.2.2.2.2.1 o5.2.2.1.2.2.2.2.2.2.2.1 o5.2.2.1.2.2.2.2.2.2.2.2) ++ ((wPLc G pa o5.2.2.2.1 o5.2.2.2.2.1 o5.2.2.2.2.2.1 o5.2.2.2.2.2.2.1 o5.2.2.2.2.2.2.2.1 o5.2.2.2.2.2.2.2.2.1 o5.2.2.2.2.2.2.2.2.2.1 o5.2.2.2.2.2.2.2.2.2.2.1 o5.2.2.2.2.2.2.2.2.2.2.2) ++ ((wAR G a9 60 ka) ++ ((wAR G r9 24 kr) ++ ((wAR G c9 1 kc) ++ ((wOU G l9 (vp_updL kl (i5 / (50 : Int32)).toNatClampNeg ((kl (i5 / (50 : Int32)).toNatClampNeg) ||| ((1 : Int64) <<< ((i5 - i5 / (50 : Int32) * (50 : Int32)).toInt64 &&& 63)))))))))))))) ++ ((wAR G q1 60 o4.1) ++ ((wAR G q2 36 o4.2.1) ++ ((wAR G q3 12 o4.2.2))))) := xf_D (xf_p_12_012435678_9ab (wXO xa (ya 0) la (qa 0) (pa 0)) (wLO G la o5.2.1) (wSYc G ya yy_0 yy_1 yy_2 yy_3 yy_4 yy_5 yy_6 yy_7 yy_8) (wPLc G pa o5.2.2.2.1 o5.2.2.2.2.1 o5.2.2.2.2.2.1 o5.2.2.2.2.2.2.1 o5.2.2.2.2.2.2.2.1 o5.2.2.2.2.2.2.2.2.1 o5.2.2.2.2.2.2.2.2.2.1 o5.2.2.2.2.2.2.2.2.2.2.1 o5.2.2.2.2.2.2.2.2.2.2.2) (wPLc G qa o5.2.2.1.1 o5.2.2.1.2.1 o5.2.2.1.2.2.1 o5.2.2.1.2.2.2.1 o5.2.2.1.2.2.2.2.1 o5.2.2.1.2.2.2.2.2.1 o5.2.2.1.2.2.2.2.2.2.1 o5.2.2.1.2.2.2.2.2.2.2.1 o5.2.2.1.2.2.2.2.2.2.2.2) (wAR G a9 60 ka) (wAR G r9 24 kr) (wAR G c9 1 kc) (wOU G l9 (vp_updL kl (i5 / (50 : Int32)).toNatClampNeg ((kl (i5 / (50 : Int32)).toNatClampNeg) ||| ((1 : Int64) <<< ((i5 - i5 / (50 : Int32) * (50 : Int32)).toInt64 &&& 63))))) (wAR G q1 60 o4.1) (wAR G q2 36 o4.2.1) (wAR G q3 12 o4.2.2)) hD
            refine W.widen (k := 3) (n := 108) (Nat.le_of_ble_eq_true rfl) (Nat.le_of_ble_eq_true rfl) ?_
            exact xk_reZ hx hb hr hlk rfl (xf_pl hP9) (xf_dl hD9) hS rfl dL_loses_290
          · have h := sp_t c36 h
            refine lv_iconst (v := (1 : Int32)) hx hb dL_loses_285 (by decide) ?_
            refine lv_goto (tgt := 290) hx hb dL_loses_286 (by decide) ?_
            obtain rfl := sp_s h
            have hP9 : va_P G.1 vwCl (((wXO xa (ya 0) la (qa 0) (pa 0)) ++ ((wLO G la o5.2.1) ++ ((wSYc G ya yy_0 yy_1 yy_2 yy_3 yy_4 yy_5 yy_6 yy_7 yy_8) ++ ((wPLc G qa o5.2.2.1.1 o5.2.2.1.2.1 o5.2.2.1.2.2.1 o5.2.2.1.2.2.2.1 o5.2.2.1.2.2.2.2.1 o5.2.2.1.2.2.2.2.2.1 o5.2.2.1.2.2.2.2.2.2.1 o5.2.2.1.2.2.2.2.2.2.2.1 o5.2.2.1.2.2.2.2.2.2.2.2) ++ ((wPLc G pa o5.2.2.2.1 o5.2.2.2.2.1 o5.2.2.2.2.2.1 o5.2.2.2.2.2.2.1 o5.2.2.2.2.2.2.2.1 o5.2.2.2.2.2.2.2.2.1 o5.2.2.2.2.2.2.2.2.2.1 o5.2.2.2.2.2.2.2.2.2.2.1 o5.2.2.2.2.2.2.2.2.2.2.2) ++ ((wAR G a9 60 ka) ++ ((wAR G r9 24 kr) ++ ((wAR G c9 1 kc) ++ ((wOU G l9 (vp_updL kl (i5 / (50 : Int32)).toNatClampNeg ((kl (i5 / (50 : Int32)).toNatClampNeg) ||| ((1 : Int64) <<< ((i5 - i5 / (50 : Int32) * (50 : Int32)).toInt64 &&& 63)))))))))))))) ++ ((wAR G q1 60 o4.1) ++ ((wAR G q2 36 o4.2.1) ++ ((wAR G q3 12 o4.2.2))))) H := xf_P (xf_p_12_012435678_9ab (wXO xa (ya 0) la (qa 0) (pa 0)) (wLO G la o5.2.1) (wSYc G ya yy_0 yy_1 yy_2 yy_3 yy_4 yy_5 yy_6 yy_7 yy_8) (wPLc G pa o5.2.2.2.1 o5.2.2.2.2.1 o5.2.2.2.2.2.1 o5.2.2.2.2.2.2.1 o5.2.2.2.2.2.2.2.1 o5.2.2.2.2.2.2.2.2.1 o5.2.2.2.2.2.2.2.2.2.1 o5.2.2.2.2.2.2.2.2.2.2.1 o5.2.2.2.2.2.2.2.2.2.2.2) (wPLc G qa o5.2.2.1.1 o5.2.2.1.2.1 o5.2.2.1.2.2.1 o5.2.2.1.2.2.2.1 o5.2.2.1.2.2.2.2.1 o5.2.2.1.2.2.2.2.2.1 o5.2.2.1.2.2.2.2.2.2.1 o5.2.2.1.2.2.2.2.2.2.2.1 o5.2.2.1.2.2.2.2.2.2.2.2) (wAR G a9 60 ka) (wAR G r9 24 kr) (wAR G c9 1 kc) (wOU G l9 (vp_updL kl (i5 / (50 : Int32)).toNatClampNeg ((kl (i5 / (50 : Int32)).toNatClampNeg) ||| ((1 : Int64) <<< ((i5 - i5 / (50 : Int32) * (50 : Int32)).toInt64 &&& 63))))) (wAR G q1 60 o4.1) (wAR G q2 36 o4.2.1) (wAR G q3 12 o4.2.2)) hP
            have hD9 : va_D A (((wXO xa (ya 0) la (qa 0) (pa 0)) ++ ((wLO G la o5.2.1) ++ ((wSYc G ya yy_0 yy_1 yy_2 yy_3 yy_4 yy_5 yy_6 yy_7 yy_8) ++ ((wPLc G qa o5.2.2.1.1 o5.2.2.1.2.1 o5.2.2.1.2.2.1 o5.2.2.1.2.2.2.1 o5.2.2.1.2.2.2.2.1 o5.2.2.1.2.2.2.2.2.1 o5.2.2.1.2.2.2.2.2.2.1 o5.2.2.1.2.2.2.2.2.2.2.1 o5.2.2.1.2.2.2.2.2.2.2.2) ++ ((wPLc G pa o5.2.2.2.1 o5.2.2.2.2.1 o5.2.2.2.2.2.1 o5.2.2.2.2.2.2.1 o5.2.2.2.2.2.2.2.1 o5.2.2.2.2.2.2.2.2.1 o5.2.2.2.2.2.2.2.2.2.1 o5.2.2.2.2.2.2.2.2.2.2.1 o5.2.2.2.2.2.2.2.2.2.2.2) ++ ((wAR G a9 60 ka) ++ ((wAR G r9 24 kr) ++ ((wAR G c9 1 kc) ++ ((wOU G l9 (vp_updL kl (i5 / (50 : Int32)).toNatClampNeg ((kl (i5 / (50 : Int32)).toNatClampNeg) ||| ((1 : Int64) <<< ((i5 - i5 / (50 : Int32) * (50 : Int32)).toInt64 &&& 63)))))))))))))) ++ ((wAR G q1 60 o4.1) ++ ((wAR G q2 36 o4.2.1) ++ ((wAR G q3 12 o4.2.2))))) := xf_D (xf_p_12_012435678_9ab (wXO xa (ya 0) la (qa 0) (pa 0)) (wLO G la o5.2.1) (wSYc G ya yy_0 yy_1 yy_2 yy_3 yy_4 yy_5 yy_6 yy_7 yy_8) (wPLc G pa o5.2.2.2.1 o5.2.2.2.2.1 o5.2.2.2.2.2.1 o5.2.2.2.2.2.2.1 o5.2.2.2.2.2.2.2.1 o5.2.2.2.2.2.2.2.2.1 o5.2.2.2.2.2.2.2.2.2.1 o5.2.2.2.2.2.2.2.2.2.2.1 o5.2.2.2.2.2.2.2.2.2.2.2) (wPLc G qa o5.2.2.1.1 o5.2.2.1.2.1 o5.2.2.1.2.2.1 o5.2.2.1.2.2.2.1 o5.2.2.1.2.2.2.2.1 o5.2.2.1.2.2.2.2.2.1 o5.2.2.1.2.2.2.2.2.2.1 o5.2.2.1.2.2.2.2.2.2.2.1 o5.2.2.1.2.2.2.2.2.2.2.2) (wAR G a9 60 ka) (wAR G r9 24 kr) (wAR G c9 1 kc) (wOU G l9 (vp_updL kl (i5 / (50 : Int32)).toNatClampNeg ((kl (i5 / (50 : Int32)).toNatClampNeg) ||| ((1 : Int64) <<< ((i5 - i5 / (50 : Int32) * (50 : Int32)).toInt64 &&& 63))))) (wAR G q1 60 o4.1) (wAR G q2 36 o4.2.1) (wAR G q3 12 o4.2.2)) hD
            refine W.widen (k := 3) (n := 108) (Nat.le_of_ble_eq_true rfl) (Nat.le_of_ble_eq_true rfl) ?_
            exact xk_reZ hx hb hr hlk rfl (xf_pl hP9) (xf_dl hD9) hS rfl dL_loses_290
    · have h := hw20
      clear hw20
      refine xk_lp (α := Int32 × Int32 × Int32) G A s.heap (fun a_19 => ((wXO xa (ya 0) la (qa 0) (pa 0)) ++ ((wLO G la o5.2.1) ++ ((wSYc G ya yy_0 yy_1 yy_2 yy_3 yy_4 yy_5 yy_6 yy_7 yy_8) ++ ((wPLc G pa o5.2.2.2.1 o5.2.2.2.2.1 o5.2.2.2.2.2.1 o5.2.2.2.2.2.2.1 o5.2.2.2.2.2.2.2.1 o5.2.2.2.2.2.2.2.2.1 o5.2.2.2.2.2.2.2.2.2.1 o5.2.2.2.2.2.2.2.2.2.2.1 o5.2.2.2.2.2.2.2.2.2.2.2) ++ ((wPLc G qa o5.2.2.1.1 o5.2.2.1.2.1 o5.2.2.1.2.2.1 o5.2.2.1.2.2.2.1 o5.2.2.1.2.2.2.2.1 o5.2.2.1.2.2.2.2.2.1 o5.2.2.1.2.2.2.2.2.2.1 o5.2.2.1.2.2.2.2.2.2.2.1 o5.2.2.1.2.2.2.2.2.2.2.2) ++ ((wAR G a9 60 ka) ++ ((wAR G r9 24 kr) ++ ((wAR G c9 1 kc) ++ ((wOU G l9 kl) ++ ((wAR G q1 60 o4.1) ++ ((wAR G q2 36 o4.2.1) ++ ((wAR G q3 12 o4.2.2)))))))))))))) 13 (fun a_19 => [(11, .int a_19.1), (10, .int a_19.2.1), (9, .int a_19.2.2), (8, .int o5.1), (7, .ref q2), (0, .ref xa), (4, .ref l9), (5, .int i5)]) 146 (fun n a_19 => f_L_loses_l146 yy_0 yy_1 yy_2 yy_3 yy_4 yy_5 yy_6 yy_7 yy_8 i5 o4 o5 n a_19.1 a_19.2.1 a_19.2.2 = some w20) (fun a_19 h => ?_) (fun n ih_19 a_19 h H locs hP hD hS ls hl => ?_) (fun LL => ?_)
      · exact sp_n ((f_L_loses_l146_z _ _ _ _ _ _ _ _ _ _ _ _ _ _ _).symm.trans h)
      · obtain ⟨x11_19, x10_19, x9_19⟩ := a_19
        have h := (f_L_loses_l146_s yy_0 yy_1 yy_2 yy_3 yy_4 yy_5 yy_6 yy_7 yy_8 i5 o4 o5 n x11_19 x10_19 x9_19).symm.trans h
        have hP : va_P G.1 vwCl ((wXO xa (ya 0) la (qa 0) (pa 0)) ++ ((wLO G la o5.2.1) ++ ((wSYc G ya yy_0 yy_1 yy_2 yy_3 yy_4 yy_5 yy_6 yy_7 yy_8) ++ ((wPLc G pa o5.2.2.2.1 o5.2.2.2.2.1 o5.2.2.2.2.2.1 o5.2.2.2.2.2.2.1 o5.2.2.2.2.2.2.2.1 o5.2.2.2.2.2.2.2.2.1 o5.2.2.2.2.2.2.2.2.2.1 o5.2.2.2.2.2.2.2.2.2.2.1 o5.2.2.2.2.2.2.2.2.2.2.2) ++ ((wPLc G qa o5.2.2.1.1 o5.2.2.1.2.1 o5.2.2.1.2.2.1 o5.2.2.1.2.2.2.1 o5.2.2.1.2.2.2.2.1 o5.2.2.1.2.2.2.2.2.1 o5.2.2.1.2.2.2.2.2.2.1 o5.2.2.1.2.2.2.2.2.2.2.1 o5.2.2.1.2.2.2.2.2.2.2.2) ++ ((wAR G a9 60 ka) ++ ((wAR G r9 24 kr) ++ ((wAR G c9 1 kc) ++ ((wOU G l9 kl) ++ ((wAR G q1 60 o4.1) ++ ((wAR G q2 36 o4.2.1) ++ ((wAR G q3 12 o4.2.2))))))))))))) H := hP
        have hD : va_D A ((wXO xa (ya 0) la (qa 0) (pa 0)) ++ ((wLO G la o5.2.1) ++ ((wSYc G ya yy_0 yy_1 yy_2 yy_3 yy_4 yy_5 yy_6 yy_7 yy_8) ++ ((wPLc G pa o5.2.2.2.1 o5.2.2.2.2.1 o5.2.2.2.2.2.1 o5.2.2.2.2.2.2.1 o5.2.2.2.2.2.2.2.1 o5.2.2.2.2.2.2.2.2.1 o5.2.2.2.2.2.2.2.2.2.1 o5.2.2.2.2.2.2.2.2.2.2.1 o5.2.2.2.2.2.2.2.2.2.2.2) ++ ((wPLc G qa o5.2.2.1.1 o5.2.2.1.2.1 o5.2.2.1.2.2.1 o5.2.2.1.2.2.2.1 o5.2.2.1.2.2.2.2.1 o5.2.2.1.2.2.2.2.2.1 o5.2.2.1.2.2.2.2.2.2.1 o5.2.2.1.2.2.2.2.2.2.2.1 o5.2.2.1.2.2.2.2.2.2.2.2) ++ ((wAR G a9 60 ka) ++ ((wAR G r9 24 kr) ++ ((wAR G c9 1 kc) ++ ((wOU G l9 kl) ++ ((wAR G q1 60 o4.1) ++ ((wAR G q2 36 o4.2.1) ++ ((wAR G q3 12 o4.2.2))))))))))))) := hD
        have hl : lv_has ls 13 [(11, .int x11_19), (10, .int x10_19), (9, .int x9_19), (8, .int o5.1), (7, .ref q2), (0, .ref xa), (4, .ref l9), (5, .int i5)] := hl
        refine lv_iload hx hb dL_loses_146 (lv_at hl 0 rfl) ?_
        refine lv_bipush (v := (36 : Int32)) hx hb dL_loses_148 (by decide) ?_
        refine lv_icmp_ge (tgt := 245) hx hb dL_loses_150 (by decide) (fun c21 => ?_) (fun c21 => ?_)
        · have h := sp_t c21 h
          obtain rfl := sp_s h
          exact J19 _ _ hP hD hS _ (lv_sub hl [1, 2, 3, 5, 6, 7] rfl)
        · have h := sp_f c21 h
          refine lv_aload hx hb dL_loses_153 (lv_at hl 4 rfl) ?_
          refine lv_iload hx hb dL_loses_155 (lv_at hl 0 rfl) ?_
          obtain ⟨hin22, h⟩ := sp_g h
          refine va_iald hx hb hK hP 30 0 rfl rfl hin22 dL_loses_157 ?_
          obtain ⟨v23, hv23, h⟩ := sp_b h
          refine xk_jn G A s.heap ((wXO xa (ya 0) la (qa 0) (pa 0)) ++ ((wLO G la o5.2.1) ++ ((wSYc G ya yy_0 yy_1 yy_2 yy_3 yy_4 yy_5 yy_6 yy_7 yy_8) ++ ((wPLc G pa o5.2.2.2.1 o5.2.2.2.2.1 o5.2.2.2.2.2.1 o5.2.2.2.2.2.2.1 o5.2.2.2.2.2.2.2.1 o5.2.2.2.2.2.2.2.2.1 o5.2.2.2.2.2.2.2.2.2.1 o5.2.2.2.2.2.2.2.2.2.2.1 o5.2.2.2.2.2.2.2.2.2.2.2) ++ ((wPLc G qa o5.2.2.1.1 o5.2.2.1.2.1 o5.2.2.1.2.2.1 o5.2.2.1.2.2.2.1 o5.2.2.1.2.2.2.2.1 o5.2.2.1.2.2.2.2.2.1 o5.2.2.1.2.2.2.2.2.2.1 o5.2.2.1.2.2.2.2.2.2.2.1 o5.2.2.1.2.2.2.2.2.2.2.2) ++ ((wAR G a9 60 ka) ++ ((wAR G r9 24 kr) ++ ((wAR G c9 1 kc) ++ ((wOU G l9 kl) ++ ((wAR G q1 60 o4.1) ++ ((wAR G q2 36 o4.2.1) ++ ((wAR G q3 12 o4.2.2))))))))))))) 13 [(11, .int x11_19), (10, .int x10_19), (9, .int x9_19), (8, .int o5.1), (7, .ref q2), (0, .ref xa), (4, .ref l9), (5, .int i5)] 177 [.int v23] (fun H locs hP hD hS ls hl => ?_) (fun J23 => ?_)
          · refine lv_istore (lv' := [(12, .int v23), (11, .int x11_19), (10, .int x10_19), (9, .int x9_19), (8, .int o5.1), (7, .ref q2), (0, .ref xa), (4, .ref l9), (5, .int i5)]) hx hb dL_loses_177 hl (by decide) rfl (fun ls hl => ?_)
            refine lv_iload hx hb dL_loses_179 (lv_at hl 3 rfl) ?_
            refine lv_iload hx hb dL_loses_181 (lv_at hl 0 rfl) ?_
            refine lv_aload hx hb dL_loses_183 (lv_at hl 5 rfl) ?_
            refine lv_iload hx hb dL_loses_185 (lv_at hl 1 rfl) ?_
            refine va_iald hx hb hK hP 30 0 rfl rfl hin22 dL_loses_187 ?_
            obtain ⟨v24, hv24, h⟩ := sp_b h
            refine xk_jn G A s.heap ((wXO xa (ya 0) la (qa 0) (pa 0)) ++ ((wLO G la o5.2.1) ++ ((wSYc G ya yy_0 yy_1 yy_2 yy_3 yy_4 yy_5 yy_6 yy_7 yy_8) ++ ((wPLc G pa o5.2.2.2.1 o5.2.2.2.2.1 o5.2.2.2.2.2.1 o5.2.2.2.2.2.2.1 o5.2.2.2.2.2.2.2.1 o5.2.2.2.2.2.2.2.2.1 o5.2.2.2.2.2.2.2.2.2.1 o5.2.2.2.2.2.2.2.2.2.2.1 o5.2.2.2.2.2.2.2.2.2.2.2) ++ ((wPLc G qa o5.2.2.1.1 o5.2.2.1.2.1 o5.2.2.1.2.2.1 o5.2.2.1.2.2.2.1 o5.2.2.1.2.2.2.2.1 o5.2.2.1.2.2.2.2.2.1 o5.2.2.1.2.2.2.2.2.2.1 o5.2.2.1.2.2.2.2.2.2.2.1 o5.2.2.1.2.2.2.2.2.2.2.2) ++ ((wAR G a9 60 ka) ++ ((wAR G r9 24 kr) ++ ((wAR G c9 1 kc) ++ ((wOU G l9 kl) ++ ((wAR G q1 60 o4.1) ++ ((wAR G q2 36 o4.2.1) ++ ((wAR G q3 12 o4.2.2))))))))))))) 13 [(12, .int v23), (11, .int x11_19), (10, .int x10_19), (8, .int o5.1), (7, .ref q2), (0, .ref xa), (4, .ref l9), (5, .int i5)] 196 [.int v24, .int x9_19] (fun H locs hP hD hS ls hl => ?_) (fun J24 => ?_)
            · refine lv_iadd hx hb dL_loses_196 ?_
              refine lv_istore (lv' := [(9, .int (x9_19 + v24)), (12, .int v23), (11, .int x11_19), (10, .int x10_19), (8, .int o5.1), (7, .ref q2), (0, .ref xa), (4, .ref l9), (5, .int i5)]) hx hb dL_loses_197 hl (by decide) rfl (fun ls hl => ?_)
              refine lv_iload hx hb dL_loses_199 (lv_at hl 3 rfl) ?_
              refine lv_if_eq (tgt := 236) hx hb dL_loses_201 (by decide) (fun c25 => ?_) (fun c25 => ?_)
              · have h := sp_t c25 h
                refine lv_iconst (v := (0 : Int32)) hx hb dL_loses_236 (by decide) ?_
                refine lv_istore (lv' := [(10, .int (0 : Int32)), (9, .int (x9_19 + v24)), (12, .int v23), (11, .int x11_19), (8, .int o5.1), (7, .ref q2), (0, .ref xa), (4, .ref l9), (5, .int i5)]) hx hb dL_loses_237 hl (by decide) rfl (fun ls hl => ?_)
                refine lv_iinc (v := (x11_19 + (1 : Int32))) (lv' := [(11, .int (x11_19 + (1 : Int32))), (10, .int (0 : Int32)), (9, .int (x9_19 + v24)), (12, .int v23), (8, .int o5.1), (7, .ref q2), (0, .ref xa), (4, .ref l9), (5, .int i5)]) hx hb dL_loses_239 hl (k := 3) rfl rfl (by decide) rfl (fun ls hl => ?_)
                refine lv_goto (tgt := 146) hx hb dL_loses_242 (by decide) ?_
                exact ih_19 ((x11_19 + (1 : Int32)), (0 : Int32), (x9_19 + v24)) h _ _ hP hD hS _ (lv_sub hl [0, 1, 2, 4, 5, 6, 7, 8] rfl)
              · have h := sp_f c25 h
                refine lv_aload hx hb dL_loses_204 (lv_at hl 5 rfl) ?_
                refine lv_iload hx hb dL_loses_206 (lv_at hl 2 rfl) ?_
                refine va_iald hx hb hK hP 30 0 rfl rfl hin22 dL_loses_208 ?_
                refine lv_if_lt (tgt := 232) hx hb dL_loses_209 (by decide) (fun c26 => ?_) (fun c26 => ?_)
                · have h := sp_t c26 h
                  refine lv_iconst (v := (1 : Int32)) hx hb dL_loses_232 (by decide) ?_
                  refine lv_goto (tgt := 237) hx hb dL_loses_233 (by decide) ?_
                  refine lv_istore (lv' := [(10, .int (1 : Int32)), (9, .int (x9_19 + v24)), (12, .int v23), (11, .int x11_19), (8, .int o5.1), (7, .ref q2), (0, .ref xa), (4, .ref l9), (5, .int i5)]) hx hb dL_loses_237 hl (by decide) rfl (fun ls hl => ?_)
                  refine lv_iinc (v := (x11_19 + (1 : Int32))) (lv' := [(11, .int (x11_19 + (1 : Int32))), (10, .int (1 : Int32)), (9, .int (x9_19 + v24)), (12, .int v23), (8, .int o5.1), (7, .ref q2), (0, .ref xa), (4, .ref l9), (5, .int i5)]) hx hb dL_loses_239 hl (k := 3) rfl rfl (by decide) rfl (fun ls hl => ?_)
                  refine lv_goto (tgt := 146) hx hb dL_loses_242 (by decide) ?_
                  exact ih_19 ((x11_19 + (1 : Int32)), (1 : Int32), (x9_19 + v24)) h _ _ hP hD hS _ (lv_sub hl [0, 1, 2, 4, 5, 6, 7, 8] rfl)
                · have h := sp_f c26 h
                  refine lv_aload hx hb dL_loses_212 (lv_at hl 5 rfl) ?_
                  refine lv_iload hx hb dL_loses_214 (lv_at hl 2 rfl) ?_
                  refine va_iald hx hb hK hP 30 0 rfl rfl hin22 dL_loses_216 ?_
                  refine lv_iload hx hb dL_loses_217 (lv_at hl 8 rfl) ?_
                  refine lv_icmp_ge (tgt := 232) hx hb dL_loses_219 (by decide) (fun c27 => ?_) (fun c27 => ?_)
                  · have h := sp_t c27 h
                    refine lv_iconst (v := (1 : Int32)) hx hb dL_loses_232 (by decide) ?_
                    refine lv_goto (tgt := 237) hx hb dL_loses_233 (by decide) ?_
                    refine lv_istore (lv' := [(10, .int (1 : Int32)), (9, .int (x9_19 + v24)), (12, .int v23), (11, .int x11_19), (8, .int o5.1), (7, .ref q2), (0, .ref xa), (4, .ref l9), (5, .int i5)]) hx hb dL_loses_237 hl (by decide) rfl (fun ls hl => ?_)
                    refine lv_iinc (v := (x11_19 + (1 : Int32))) (lv' := [(11, .int (x11_19 + (1 : Int32))), (10, .int (1 : Int32)), (9, .int (x9_19 + v24)), (12, .int v23), (8, .int o5.1), (7, .ref q2), (0, .ref xa), (4, .ref l9), (5, .int i5)]) hx hb dL_loses_239 hl (k := 3) rfl rfl (by decide) rfl (fun ls hl => ?_)
                    refine lv_goto (tgt := 146) hx hb dL_loses_242 (by decide) ?_
                    exact ih_19 ((x11_19 + (1 : Int32)), (1 : Int32), (x9_19 + v24)) h _ _ hP hD hS _ (lv_sub hl [0, 1, 2, 4, 5, 6, 7, 8] rfl)
                  · have h := sp_f c27 h
                    refine lv_iload hx hb dL_loses_222 (lv_at hl 1 rfl) ?_
                    refine lv_aload hx hb dL_loses_224 (lv_at hl 5 rfl) ?_
                    refine lv_iload hx hb dL_loses_226 (lv_at hl 2 rfl) ?_
                    refine va_iald hx hb hK hP 30 0 rfl rfl hin22 dL_loses_228 ?_
                    refine lv_icmp_ne (tgt := 236) hx hb dL_loses_229 (by decide) (fun c28 => ?_) (fun c28 => ?_)
                    · have h := sp_f c28 h
                      refine lv_iconst (v := (0 : Int32)) hx hb dL_loses_236 (by decide) ?_
                      refine lv_istore (lv' := [(10, .int (0 : Int32)), (9, .int (x9_19 + v24)), (12, .int v23), (11, .int x11_19), (8, .int o5.1), (7, .ref q2), (0, .ref xa), (4, .ref l9), (5, .int i5)]) hx hb dL_loses_237 hl (by decide) rfl (fun ls hl => ?_)
                      refine lv_iinc (v := (x11_19 + (1 : Int32))) (lv' := [(11, .int (x11_19 + (1 : Int32))), (10, .int (0 : Int32)), (9, .int (x9_19 + v24)), (12, .int v23), (8, .int o5.1), (7, .ref q2), (0, .ref xa), (4, .ref l9), (5, .int i5)]) hx hb dL_loses_239 hl (k := 3) rfl rfl (by decide) rfl (fun ls hl => ?_)
                      refine lv_goto (tgt := 146) hx hb dL_loses_242 (by decide) ?_
                      exact ih_19 ((x11_19 + (1 : Int32)), (0 : Int32), (x9_19 + v24)) h _ _ hP hD hS _ (lv_sub hl [0, 1, 2, 4, 5, 6, 7, 8] rfl)
                    · have h := sp_t c28 h
                      refine lv_iconst (v := (1 : Int32)) hx hb dL_loses_232 (by decide) ?_
                      refine lv_goto (tgt := 237) hx hb dL_loses_233 (by decide) ?_
                      refine lv_istore (lv' := [(10, .int (1 : Int32)), (9, .int (x9_19 + v24)), (12, .int v23), (11, .int x11_19), (8, .int o5.1), (7, .ref q2), (0, .ref xa), (4, .ref l9), (5, .int i5)]) hx hb dL_loses_237 hl (by decide) rfl (fun ls hl => ?_)
                      refine lv_iinc (v := (x11_19 + (1 : Int32))) (lv' := [(11, .int (x11_19 + (1 : Int32))), (10, .int (1 : Int32)), (9, .int (x9_19 + v24)), (12, .int v23), (8, .int o5.1), (7, .ref q2), (0, .ref xa), (4, .ref l9), (5, .int i5)]) hx hb dL_loses_239 hl (k := 3) rfl rfl (by decide) rfl (fun ls hl => ?_)
                      refine lv_goto (tgt := 146) hx hb dL_loses_242 (by decide) ?_
                      exact ih_19 ((x11_19 + (1 : Int32)), (1 : Int32), (x9_19 + v24)) h _ _ hP hD hS _ (lv_sub hl [0, 1, 2, 4, 5, 6, 7, 8] rfl)
            · have h := hv24
              clear hv24
              refine lv_icmp_ne (tgt := 195) hx hb dL_loses_188 (by decide) (fun c29 => ?_) (fun c29 => ?_)
              · have h := sp_f c29 h
                refine lv_iconst (v := (1 : Int32)) hx hb dL_loses_195 (by decide) ?_
                obtain rfl := sp_s h
                exact J24 _ _ hP hD hS _ (lv_sub hl [0, 1, 2, 4, 5, 6, 7, 8] rfl)
              · have h := sp_t c29 h
                refine lv_iconst (v := (0 : Int32)) hx hb dL_loses_191 (by decide) ?_
                refine lv_goto (tgt := 196) hx hb dL_loses_192 (by decide) ?_
                obtain rfl := sp_s h
                exact J24 _ _ hP hD hS _ (lv_sub hl [0, 1, 2, 4, 5, 6, 7, 8] rfl)
          · have h := hv23
            clear hv23
            refine lv_if_ge (tgt := 165) hx hb dL_loses_158 (by decide) (fun c30 => ?_) (fun c30 => ?_)
            · have h := sp_t c30 h
              refine lv_aload_n hx hb dL_loses_165 rfl (lv_at hl 5 rfl) ?_
              refine lv_iload hx hb dL_loses_166 (lv_at hl 0 rfl) ?_
              refine lv_iconst (v := (3 : Int32)) hx hb dL_loses_168 (by decide) ?_
              refine lv_idiv hx hb dL_loses_169 (by decide) ?_
              refine lv_iload hx hb dL_loses_170 (lv_at hl 0 rfl) ?_
              refine lv_iconst (v := (3 : Int32)) hx hb dL_loses_172 (by decide) ?_
              refine lv_irem hx hb dL_loses_173 (by decide) ?_
              obtain ⟨o31, ho31, h⟩ := sp_b h
              have hP9 : va_P G.1 vwCl (((wAR G a9 60 ka) ++ ((wAR G r9 24 kr) ++ ((wAR G c9 1 kc) ++ ((wOU G l9 kl) ++ ((wAR G q1 60 o4.1) ++ ((wAR G q2 36 o4.2.1) ++ ((wAR G q3 12 o4.2.2)))))))) ++ ((wXO xa (ya 0) la (qa 0) (pa 0)) ++ ((wLO G la o5.2.1) ++ ((wSYc G ya yy_0 yy_1 yy_2 yy_3 yy_4 yy_5 yy_6 yy_7 yy_8) ++ ((wPLc G qa o5.2.2.1.1 o5.2.2.1.2.1 o5.2.2.1.2.2.1 o5.2.2.1.2.2.2.1 o5.2.2.1.2.2.2.2.1 o5.2.2.1.2.2.2.2.2.1 o5.2.2.1.2.2.2.2.2.2.1 o5.2.2.1.2.2.2.2.2.2.2.1 o5.2.2.1.2.2.2.2.2.2.2.2) ++ ((wPLc G pa o5.2.2.2.1 o5.2.2.2.2.1 o5.2.2.2.2.2.1 o5.2.2.2.2.2.2.1 o5.2.2.2.2.2.2.2.1 o5.2.2.2.2.2.2.2.2.1 o5.2.2.2.2.2.2.2.2.2.1 o5.2.2.2.2.2.2.2.2.2.2.1 o5.2.2.2.2.2.2.2.2.2.2.2))))))) H := xf_P (xf_p_12_56789ab_01243 (wXO xa (ya 0) la (qa 0) (pa 0)) (wLO G la o5.2.1) (wSYc G ya yy_0 yy_1 yy_2 yy_3 yy_4 yy_5 yy_6 yy_7 yy_8) (wPLc G pa o5.2.2.2.1 o5.2.2.2.2.1 o5.2.2.2.2.2.1 o5.2.2.2.2.2.2.1 o5.2.2.2.2.2.2.2.1 o5.2.2.2.2.2.2.2.2.1 o5.2.2.2.2.2.2.2.2.2.1 o5.2.2.2.2.2.2.2.2.2.2.1 o5.2.2.2.2.2.2.2.2.2.2.2) (wPLc G qa o5.2.2.1.1 o5.2.2.1.2.1 o5.2.2.1.2.2.1 o5.2.2.1.2.2.2.1 o5.2.2.1.2.2.2.2.1 o5.2.2.1.2.2.2.2.2.1 o5.2.2.1.2.2.2.2.2.2.1 o5.2.2.1.2.2.2.2.2.2.2.1 o5.2.2.1.2.2.2.2.2.2.2.2) (wAR G a9 60 ka) (wAR G r9 24 kr) (wAR G c9 1 kc) (wOU G l9 kl) (wAR G q1 60 o4.1) (wAR G q2 36 o4.2.1) (wAR G q3 12 o4.2.2)) hP
              have hD9 : va_D A (((wAR G a9 60 ka) ++ ((wAR G r9 24 kr) ++ ((wAR G c9 1 kc) ++ ((wOU G l9 kl) ++ ((wAR G q1 60 o4.1) ++ ((wAR G q2 36 o4.2.1) ++ ((wAR G q3 12 o4.2.2)))))))) ++ ((wXO xa (ya 0) la (qa 0) (pa 0)) ++ ((wLO G la o5.2.1) ++ ((wSYc G ya yy_0 yy_1 yy_2 yy_3 yy_4 yy_5 yy_6 yy_7 yy_8) ++ ((wPLc G qa o5.2.2.1.1 o5.2.2.1.2.1 o5.2.2.1.2.2.1 o5.2.2.1.2.2.2.1 o5.2.2.1.2.2.2.2.1 o5.2.2.1.2.2.2.2.2.1 o5.2.2.1.2.2.2.2.2.2.1 o5.2.2.1.2.2.2.2.2.2.2.1 o5.2.2.1.2.2.2.2.2.2.2.2) ++ ((wPLc G pa o5.2.2.2.1 o5.2.2.2.2.1 o5.2.2.2.2.2.1 o5.2.2.2.2.2.2.1 o5.2.2.2.2.2.2.2.1 o5.2.2.2.2.2.2.2.2.1 o5.2.2.2.2.2.2.2.2.2.1 o5.2.2.2.2.2.2.2.2.2.2.1 o5.2.2.2.2.2.2.2.2.2.2.2))))))) := xf_D (xf_p_12_56789ab_01243 (wXO xa (ya 0) la (qa 0) (pa 0)) (wLO G la o5.2.1) (wSYc G ya yy_0 yy_1 yy_2 yy_3 yy_4 yy_5 yy_6 yy_7 yy_8) (wPLc G pa o5.2.2.2.1 o5.2.2.2.2.1 o5.2.2.2.2.2.1 o5.2.2.2.2.2.2.1 o5.2.2.2.2.2.2.2.1 o5.2.2.2.2.2.2.2.2.1 o5.2.2.2.2.2.2.2.2.2.1 o5.2.2.2.2.2.2.2.2.2.2.1 o5.2.2.2.2.2.2.2.2.2.2.2) (wPLc G qa o5.2.2.1.1 o5.2.2.1.2.1 o5.2.2.1.2.2.1 o5.2.2.1.2.2.2.1 o5.2.2.1.2.2.2.2.1 o5.2.2.1.2.2.2.2.2.1 o5.2.2.1.2.2.2.2.2.2.1 o5.2.2.1.2.2.2.2.2.2.2.1 o5.2.2.1.2.2.2.2.2.2.2.2) (wAR G a9 60 ka) (wAR G r9 24 kr) (wAR G c9 1 kc) (wOU G l9 kl) (wAR G q1 60 o4.1) (wAR G q2 36 o4.2.1) (wAR G q3 12 o4.2.2)) hD
              refine xf_ci (va_runV (As := [.int (x11_19 / (3 : Int32)), .int (x11_19 - x11_19 / (3 : Int32) * (3 : Int32))]) (rest := []) ⟨hx, hb, hml, hown, hts⟩ (c_X2_revisitDay l G xa la ya qa pa o5.2.1 (yy_0, yy_1, yy_2, yy_3, yy_4, yy_5, yy_6, yy_7, yy_8) o5.2.2.1 o5.2.2.2 (x11_19 / (3 : Int32)) (x11_19 - x11_19 / (3 : Int32) * (3 : Int32)) o31 ho31 H.size) (cwV 2 hts gL_loses_X2_revisitDay rfl rfl rfl (by decide +kernel) ⟨(Nat.le_of_ble_eq_true rfl), (Nat.le_of_ble_eq_true rfl)⟩) (xk_preV hK hNE (xf_pr hP9) (xf_dr hD9) (ci := 2) rfl rfl) rfl rfl hl.1 rfl (lv_room (Nat.le_of_ble_eq_true rfl)) dL_loses_174 ⟨(Nat.le_of_ble_eq_true rfl), (Nat.le_of_ble_eq_true rfl)⟩) hP9 hD9 hS hA (fun H locs hP hD hS => ?_)
              have hP : va_P G.1 vwCl ((wXO xa (ya 0) la (qa 0) (pa 0)) ++ ((wLO G la o5.2.1) ++ ((wSYc G ya yy_0 yy_1 yy_2 yy_3 yy_4 yy_5 yy_6 yy_7 yy_8) ++ ((wPLc G pa o5.2.2.2.1 o5.2.2.2.2.1 o5.2.2.2.2.2.1 o5.2.2.2.2.2.2.1 o5.2.2.2.2.2.2.2.1 o5.2.2.2.2.2.2.2.2.1 o5.2.2.2.2.2.2.2.2.2.1 o5.2.2.2.2.2.2.2.2.2.2.1 o5.2.2.2.2.2.2.2.2.2.2.2) ++ ((wPLc G qa o5.2.2.1.1 o5.2.2.1.2.1 o5.2.2.1.2.2.1 o5.2.2.1.2.2.2.1 o5.2.2.1.2.2.2.2.1 o5.2.2.1.2.2.2.2.2.1 o5.2.2.1.2.2.2.2.2.2.1 o5.2.2.1.2.2.2.2.2.2.2.1 o5.2.2.1.2.2.2.2.2.2.2.2) ++ ((wAR G a9 60 ka) ++ ((wAR G r9 24 kr) ++ ((wAR G c9 1 kc) ++ ((wOU G l9 kl) ++ ((wAR G q1 60 o4.1) ++ ((wAR G q2 36 o4.2.1) ++ ((wAR G q3 12 o4.2.2))))))))))))) H := xf_P (xf_p_12_56789ab_01243 (wXO xa (ya 0) la (qa 0) (pa 0)) (wLO G la o5.2.1) (wSYc G ya yy_0 yy_1 yy_2 yy_3 yy_4 yy_5 yy_6 yy_7 yy_8) (wPLc G pa o5.2.2.2.1 o5.2.2.2.2.1 o5.2.2.2.2.2.1 o5.2.2.2.2.2.2.1 o5.2.2.2.2.2.2.2.1 o5.2.2.2.2.2.2.2.2.1 o5.2.2.2.2.2.2.2.2.2.1 o5.2.2.2.2.2.2.2.2.2.2.1 o5.2.2.2.2.2.2.2.2.2.2.2) (wPLc G qa o5.2.2.1.1 o5.2.2.1.2.1 o5.2.2.1.2.2.1 o5.2.2.1.2.2.2.1 o5.2.2.1.2.2.2.2.1 o5.2.2.1.2.2.2.2.2.1 o5.2.2.1.2.2.2.2.2.2.1 o5.2.2.1.2.2.2.2.2.2.2.1 o5.2.2.1.2.2.2.2.2.2.2.2) (wAR G a9 60 ka) (wAR G r9 24 kr) (wAR G c9 1 kc) (wOU G l9 kl) (wAR G q1 60 o4.1) (wAR G q2 36 o4.2.1) (wAR G q3 12 o4.2.2)).symm (show va_P G.1 vwCl (((wAR G a9 60 ka) ++ ((wAR G r9 24 kr) ++ ((wAR G c9 1 kc) ++ ((wOU G l9 kl) ++ ((wAR G q1 60 o4.1) ++ ((wAR G q2 36 o4.2.1) ++ ((wAR G q3 12 o4.2.2)))))))) ++ ((wXO xa (ya 0) la (qa 0) (pa 0)) ++ ((wLO G la o5.2.1) ++ ((wSYc G ya yy_0 yy_1 yy_2 yy_3 yy_4 yy_5 yy_6 yy_7 yy_8) ++ ((wPLc G qa o5.2.2.1.1 o5.2.2.1.2.1 o5.2.2.1.2.2.1 o5.2.2.1.2.2.2.1 o5.2.2.1.2.2.2.2.1 o5.2.2.1.2.2.2.2.2.1 o5.2.2.1.2.2.2.2.2.2.1 o5.2.2.1.2.2.2.2.2.2.2.1 o5.2.2.1.2.2.2.2.2.2.2.2) ++ ((wPLc G pa o5.2.2.2.1 o5.2.2.2.2.1 o5.2.2.2.2.2.1 o5.2.2.2.2.2.2.1 o5.2.2.2.2.2.2.2.1 o5.2.2.2.2.2.2.2.2.1 o5.2.2.2.2.2.2.2.2.2.1 o5.2.2.2.2.2.2.2.2.2.2.1 o5.2.2.2.2.2.2.2.2.2.2.2))))))) H from hP)
              have hD : va_D A ((wXO xa (ya 0) la (qa 0) (pa 0)) ++ ((wLO G la o5.2.1) ++ ((wSYc G ya yy_0 yy_1 yy_2 yy_3 yy_4 yy_5 yy_6 yy_7 yy_8) ++ ((wPLc G pa o5.2.2.2.1 o5.2.2.2.2.1 o5.2.2.2.2.2.1 o5.2.2.2.2.2.2.1 o5.2.2.2.2.2.2.2.1 o5.2.2.2.2.2.2.2.2.1 o5.2.2.2.2.2.2.2.2.2.1 o5.2.2.2.2.2.2.2.2.2.2.1 o5.2.2.2.2.2.2.2.2.2.2.2) ++ ((wPLc G qa o5.2.2.1.1 o5.2.2.1.2.1 o5.2.2.1.2.2.1 o5.2.2.1.2.2.2.1 o5.2.2.1.2.2.2.2.1 o5.2.2.1.2.2.2.2.2.1 o5.2.2.1.2.2.2.2.2.2.1 o5.2.2.1.2.2.2.2.2.2.2.1 o5.2.2.1.2.2.2.2.2.2.2.2) ++ ((wAR G a9 60 ka) ++ ((wAR G r9 24 kr) ++ ((wAR G c9 1 kc) ++ ((wOU G l9 kl) ++ ((wAR G q1 60 o4.1) ++ ((wAR G q2 36 o4.2.1) ++ ((wAR G q3 12 o4.2.2))))))))))))) := xf_D (xf_p_12_56789ab_01243 (wXO xa (ya 0) la (qa 0) (pa 0)) (wLO G la o5.2.1) (wSYc G ya yy_0 yy_1 yy_2 yy_3 yy_4 yy_5 yy_6 yy_7 yy_8) (wPLc G pa o5.2.2.2.1 o5.2.2.2.2.1 o5.2.2.2.2.2.1 o5.2.2.2.2.2.2.1 o5.2.2.2.2.2.2.2.1 o5.2.2.2.2.2.2.2.2.1 o5.2.2.2.2.2.2.2.2.2.1 o5.2.2.2.2.2.2.2.2.2.2.1 o5.2.2.2.2.2.2.2.2.2.2.2) (wPLc G qa o5.2.2.1.1 o5.2.2.1.2.1 o5.2.2.1.2.2.1 o5.2.2.1.2.2.2.1 o5.2.2.1.2.2.2.2.1 o5.2.2.1.2.2.2.2.2.1 o5.2.2.1.2.2.2.2.2.2.1 o5.2.2.1.2.2.2.2.2.2.2.1 o5.2.2.1.2.2.2.2.2.2.2.2) (wAR G a9 60 ka) (wAR G r9 24 kr) (wAR G c9 1 kc) (wOU G l9 kl) (wAR G q1 60 o4.1) (wAR G q2 36 o4.2.1) (wAR G q3 12 o4.2.2)).symm (show va_D A (((wAR G a9 60 ka) ++ ((wAR G r9 24 kr) ++ ((wAR G c9 1 kc) ++ ((wOU G l9 kl) ++ ((wAR G q1 60 o4.1) ++ ((wAR G q2 36 o4.2.1) ++ ((wAR G q3 12 o4.2.2)))))))) ++ ((wXO xa (ya 0) la (qa 0) (pa 0)) ++ ((wLO G la o5.2.1) ++ ((wSYc G ya yy_0 yy_1 yy_2 yy_3 yy_4 yy_5 yy_6 yy_7 yy_8) ++ ((wPLc G qa o5.2.2.1.1 o5.2.2.1.2.1 o5.2.2.1.2.2.1 o5.2.2.1.2.2.2.1 o5.2.2.1.2.2.2.2.1 o5.2.2.1.2.2.2.2.2.1 o5.2.2.1.2.2.2.2.2.2.1 o5.2.2.1.2.2.2.2.2.2.2.1 o5.2.2.1.2.2.2.2.2.2.2.2) ++ ((wPLc G pa o5.2.2.2.1 o5.2.2.2.2.1 o5.2.2.2.2.2.1 o5.2.2.2.2.2.2.1 o5.2.2.2.2.2.2.2.1 o5.2.2.2.2.2.2.2.2.1 o5.2.2.2.2.2.2.2.2.2.1 o5.2.2.2.2.2.2.2.2.2.2.1 o5.2.2.2.2.2.2.2.2.2.2.2))))))) from hD)
              obtain rfl := sp_s h
              exact J23 _ _ hP hD hS _ (lv_sub hl [0, 1, 2, 3, 4, 5, 6, 7] rfl)
            · have h := sp_f c30 h
              refine lv_iconst (v := ((-1) : Int32)) hx hb dL_loses_161 (by decide) ?_
              refine lv_goto (tgt := 177) hx hb dL_loses_162 (by decide) ?_
              obtain rfl := sp_s h
              exact J23 _ _ hP hD hS _ (lv_sub hl [0, 1, 2, 3, 4, 5, 6, 7] rfl)
      · exact LL 300 ((0 : Int32), w7.1, w7.2) h _ _ hP hD hS _ (lv_sub hl [0, 1, 2, 3, 4, 5, 6, 7] rfl)
  · have h := hw7
    clear hw7
    refine xk_lp (α := Int32 × Int32 × Int32) G A s.heap (fun a_6 => ((wXO xa (ya 0) la (qa 0) (pa 0)) ++ ((wLO G la o5.2.1) ++ ((wSYc G ya yy_0 yy_1 yy_2 yy_3 yy_4 yy_5 yy_6 yy_7 yy_8) ++ ((wPLc G pa o5.2.2.2.1 o5.2.2.2.2.1 o5.2.2.2.2.2.1 o5.2.2.2.2.2.2.1 o5.2.2.2.2.2.2.2.1 o5.2.2.2.2.2.2.2.2.1 o5.2.2.2.2.2.2.2.2.2.1 o5.2.2.2.2.2.2.2.2.2.2.1 o5.2.2.2.2.2.2.2.2.2.2.2) ++ ((wPLc G qa o5.2.2.1.1 o5.2.2.1.2.1 o5.2.2.1.2.2.1 o5.2.2.1.2.2.2.1 o5.2.2.1.2.2.2.2.1 o5.2.2.1.2.2.2.2.2.1 o5.2.2.1.2.2.2.2.2.2.1 o5.2.2.1.2.2.2.2.2.2.2.1 o5.2.2.1.2.2.2.2.2.2.2.2) ++ ((wAR G a9 60 ka) ++ ((wAR G r9 24 kr) ++ ((wAR G c9 1 kc) ++ ((wOU G l9 kl) ++ ((wAR G q1 60 o4.1) ++ ((wAR G q2 36 o4.2.1) ++ ((wAR G q3 12 o4.2.2)))))))))))))) 13 (fun a_6 => [(11, .int a_6.1), (10, .int a_6.2.1), (9, .int a_6.2.2), (8, .int o5.1), (7, .ref q2), (6, .ref q1), (0, .ref xa), (4, .ref l9), (5, .int i5)]) 44 (fun n a_6 => f_L_loses_l44 yy_0 yy_1 yy_2 yy_3 yy_4 yy_5 yy_6 yy_7 yy_8 i5 o4 o5 n a_6.1 a_6.2.1 a_6.2.2 = some w7) (fun a_6 h => ?_) (fun n ih_6 a_6 h H locs hP hD hS ls hl => ?_) (fun LL => ?_)
    · exact sp_n ((f_L_loses_l44_z _ _ _ _ _ _ _ _ _ _ _ _ _ _ _).symm.trans h)
    · obtain ⟨x11_6, x10_6, x9_6⟩ := a_6
      have h := (f_L_loses_l44_s yy_0 yy_1 yy_2 yy_3 yy_4 yy_5 yy_6 yy_7 yy_8 i5 o4 o5 n x11_6 x10_6 x9_6).symm.trans h
      have hP : va_P G.1 vwCl ((wXO xa (ya 0) la (qa 0) (pa 0)) ++ ((wLO G la o5.2.1) ++ ((wSYc G ya yy_0 yy_1 yy_2 yy_3 yy_4 yy_5 yy_6 yy_7 yy_8) ++ ((wPLc G pa o5.2.2.2.1 o5.2.2.2.2.1 o5.2.2.2.2.2.1 o5.2.2.2.2.2.2.1 o5.2.2.2.2.2.2.2.1 o5.2.2.2.2.2.2.2.2.1 o5.2.2.2.2.2.2.2.2.2.1 o5.2.2.2.2.2.2.2.2.2.2.1 o5.2.2.2.2.2.2.2.2.2.2.2) ++ ((wPLc G qa o5.2.2.1.1 o5.2.2.1.2.1 o5.2.2.1.2.2.1 o5.2.2.1.2.2.2.1 o5.2.2.1.2.2.2.2.1 o5.2.2.1.2.2.2.2.2.1 o5.2.2.1.2.2.2.2.2.2.1 o5.2.2.1.2.2.2.2.2.2.2.1 o5.2.2.1.2.2.2.2.2.2.2.2) ++ ((wAR G a9 60 ka) ++ ((wAR G r9 24 kr) ++ ((wAR G c9 1 kc) ++ ((wOU G l9 kl) ++ ((wAR G q1 60 o4.1) ++ ((wAR G q2 36 o4.2.1) ++ ((wAR G q3 12 o4.2.2))))))))))))) H := hP
      have hD : va_D A ((wXO xa (ya 0) la (qa 0) (pa 0)) ++ ((wLO G la o5.2.1) ++ ((wSYc G ya yy_0 yy_1 yy_2 yy_3 yy_4 yy_5 yy_6 yy_7 yy_8) ++ ((wPLc G pa o5.2.2.2.1 o5.2.2.2.2.1 o5.2.2.2.2.2.1 o5.2.2.2.2.2.2.1 o5.2.2.2.2.2.2.2.1 o5.2.2.2.2.2.2.2.2.1 o5.2.2.2.2.2.2.2.2.2.1 o5.2.2.2.2.2.2.2.2.2.2.1 o5.2.2.2.2.2.2.2.2.2.2.2) ++ ((wPLc G qa o5.2.2.1.1 o5.2.2.1.2.1 o5.2.2.1.2.2.1 o5.2.2.1.2.2.2.1 o5.2.2.1.2.2.2.2.1 o5.2.2.1.2.2.2.2.2.1 o5.2.2.1.2.2.2.2.2.2.1 o5.2.2.1.2.2.2.2.2.2.2.1 o5.2.2.1.2.2.2.2.2.2.2.2) ++ ((wAR G a9 60 ka) ++ ((wAR G r9 24 kr) ++ ((wAR G c9 1 kc) ++ ((wOU G l9 kl) ++ ((wAR G q1 60 o4.1) ++ ((wAR G q2 36 o4.2.1) ++ ((wAR G q3 12 o4.2.2))))))))))))) := hD
      have hl : lv_has ls 13 [(11, .int x11_6), (10, .int x10_6), (9, .int x9_6), (8, .int o5.1), (7, .ref q2), (6, .ref q1), (0, .ref xa), (4, .ref l9), (5, .int i5)] := hl
      refine lv_iload hx hb dL_loses_44 (lv_at hl 0 rfl) ?_
      refine lv_bipush (v := (60 : Int32)) hx hb dL_loses_46 (by decide) ?_
      refine lv_icmp_ge (tgt := 143) hx hb dL_loses_48 (by decide) (fun c8 => ?_) (fun c8 => ?_)
      · have h := sp_t c8 h
        obtain rfl := sp_s h
        exact J6 _ _ hP hD hS _ (lv_sub hl [1, 2, 3, 4, 6, 7, 8] rfl)
      · have h := sp_f c8 h
        refine lv_aload hx hb dL_loses_51 (lv_at hl 5 rfl) ?_
        refine lv_iload hx hb dL_loses_53 (lv_at hl 0 rfl) ?_
        obtain ⟨hin9, h⟩ := sp_g h
        refine va_iald hx hb hK hP 29 0 rfl rfl hin9 dL_loses_55 ?_
        obtain ⟨v10, hv10, h⟩ := sp_b h
        refine xk_jn G A s.heap ((wXO xa (ya 0) la (qa 0) (pa 0)) ++ ((wLO G la o5.2.1) ++ ((wSYc G ya yy_0 yy_1 yy_2 yy_3 yy_4 yy_5 yy_6 yy_7 yy_8) ++ ((wPLc G pa o5.2.2.2.1 o5.2.2.2.2.1 o5.2.2.2.2.2.1 o5.2.2.2.2.2.2.1 o5.2.2.2.2.2.2.2.1 o5.2.2.2.2.2.2.2.2.1 o5.2.2.2.2.2.2.2.2.2.1 o5.2.2.2.2.2.2.2.2.2.2.1 o5.2.2.2.2.2.2.2.2.2.2.2) ++ ((wPLc G qa o5.2.2.1.1 o5.2.2.1.2.1 o5.2.2.1.2.2.1 o5.2.2.1.2.2.2.1 o5.2.2.1.2.2.2.2.1 o5.2.2.1.2.2.2.2.2.1 o5.2.2.1.2.2.2.2.2.2.1 o5.2.2.1.2.2.2.2.2.2.2.1 o5.2.2.1.2.2.2.2.2.2.2.2) ++ ((wAR G a9 60 ka) ++ ((wAR G r9 24 kr) ++ ((wAR G c9 1 kc) ++ ((wOU G l9 kl) ++ ((wAR G q1 60 o4.1) ++ ((wAR G q2 36 o4.2.1) ++ ((wAR G q3 12 o4.2.2))))))))))))) 13 [(11, .int x11_6), (10, .int x10_6), (9, .int x9_6), (8, .int o5.1), (7, .ref q2), (6, .ref q1), (0, .ref xa), (4, .ref l9), (5, .int i5)] 75 [.int v10] (fun H locs hP hD hS ls hl => ?_) (fun J10 => ?_)
        · refine lv_istore (lv' := [(12, .int v10), (11, .int x11_6), (10, .int x10_6), (9, .int x9_6), (8, .int o5.1), (7, .ref q2), (6, .ref q1), (0, .ref xa), (4, .ref l9), (5, .int i5)]) hx hb dL_loses_75 hl (by decide) rfl (fun ls hl => ?_)
          refine lv_iload hx hb dL_loses_77 (lv_at hl 3 rfl) ?_
          refine lv_iload hx hb dL_loses_79 (lv_at hl 0 rfl) ?_
          refine lv_aload hx hb dL_loses_81 (lv_at hl 6 rfl) ?_
          refine lv_iload hx hb dL_loses_83 (lv_at hl 1 rfl) ?_
          refine va_iald hx hb hK hP 29 0 rfl rfl hin9 dL_loses_85 ?_
          obtain ⟨v11, hv11, h⟩ := sp_b h
          refine xk_jn G A s.heap ((wXO xa (ya 0) la (qa 0) (pa 0)) ++ ((wLO G la o5.2.1) ++ ((wSYc G ya yy_0 yy_1 yy_2 yy_3 yy_4 yy_5 yy_6 yy_7 yy_8) ++ ((wPLc G pa o5.2.2.2.1 o5.2.2.2.2.1 o5.2.2.2.2.2.1 o5.2.2.2.2.2.2.1 o5.2.2.2.2.2.2.2.1 o5.2.2.2.2.2.2.2.2.1 o5.2.2.2.2.2.2.2.2.2.1 o5.2.2.2.2.2.2.2.2.2.2.1 o5.2.2.2.2.2.2.2.2.2.2.2) ++ ((wPLc G qa o5.2.2.1.1 o5.2.2.1.2.1 o5.2.2.1.2.2.1 o5.2.2.1.2.2.2.1 o5.2.2.1.2.2.2.2.1 o5.2.2.1.2.2.2.2.2.1 o5.2.2.1.2.2.2.2.2.2.1 o5.2.2.1.2.2.2.2.2.2.2.1 o5.2.2.1.2.2.2.2.2.2.2.2) ++ ((wAR G a9 60 ka) ++ ((wAR G r9 24 kr) ++ ((wAR G c9 1 kc) ++ ((wOU G l9 kl) ++ ((wAR G q1 60 o4.1) ++ ((wAR G q2 36 o4.2.1) ++ ((wAR G q3 12 o4.2.2))))))))))))) 13 [(12, .int v10), (11, .int x11_6), (10, .int x10_6), (8, .int o5.1), (7, .ref q2), (6, .ref q1), (0, .ref xa), (4, .ref l9), (5, .int i5)] 94 [.int v11, .int x9_6] (fun H locs hP hD hS ls hl => ?_) (fun J11 => ?_)
          · refine lv_iadd hx hb dL_loses_94 ?_
            refine lv_istore (lv' := [(9, .int (x9_6 + v11)), (12, .int v10), (11, .int x11_6), (10, .int x10_6), (8, .int o5.1), (7, .ref q2), (6, .ref q1), (0, .ref xa), (4, .ref l9), (5, .int i5)]) hx hb dL_loses_95 hl (by decide) rfl (fun ls hl => ?_)
            refine lv_iload hx hb dL_loses_97 (lv_at hl 3 rfl) ?_
            refine lv_if_eq (tgt := 134) hx hb dL_loses_99 (by decide) (fun c12 => ?_) (fun c12 => ?_)
            · have h := sp_t c12 h
              refine lv_iconst (v := (0 : Int32)) hx hb dL_loses_134 (by decide) ?_
              refine lv_istore (lv' := [(10, .int (0 : Int32)), (9, .int (x9_6 + v11)), (12, .int v10), (11, .int x11_6), (8, .int o5.1), (7, .ref q2), (6, .ref q1), (0, .ref xa), (4, .ref l9), (5, .int i5)]) hx hb dL_loses_135 hl (by decide) rfl (fun ls hl => ?_)
              refine lv_iinc (v := (x11_6 + (1 : Int32))) (lv' := [(11, .int (x11_6 + (1 : Int32))), (10, .int (0 : Int32)), (9, .int (x9_6 + v11)), (12, .int v10), (8, .int o5.1), (7, .ref q2), (6, .ref q1), (0, .ref xa), (4, .ref l9), (5, .int i5)]) hx hb dL_loses_137 hl (k := 3) rfl rfl (by decide) rfl (fun ls hl => ?_)
              refine lv_goto (tgt := 44) hx hb dL_loses_140 (by decide) ?_
              exact ih_6 ((x11_6 + (1 : Int32)), (0 : Int32), (x9_6 + v11)) h _ _ hP hD hS _ (lv_sub hl [0, 1, 2, 4, 5, 6, 7, 8, 9] rfl)
            · have h := sp_f c12 h
              refine lv_aload hx hb dL_loses_102 (lv_at hl 6 rfl) ?_
              refine lv_iload hx hb dL_loses_104 (lv_at hl 2 rfl) ?_
              refine va_iald hx hb hK hP 29 0 rfl rfl hin9 dL_loses_106 ?_
              refine lv_if_lt (tgt := 130) hx hb dL_loses_107 (by decide) (fun c13 => ?_) (fun c13 => ?_)
              · have h := sp_t c13 h
                refine lv_iconst (v := (1 : Int32)) hx hb dL_loses_130 (by decide) ?_
                refine lv_goto (tgt := 135) hx hb dL_loses_131 (by decide) ?_
                refine lv_istore (lv' := [(10, .int (1 : Int32)), (9, .int (x9_6 + v11)), (12, .int v10), (11, .int x11_6), (8, .int o5.1), (7, .ref q2), (6, .ref q1), (0, .ref xa), (4, .ref l9), (5, .int i5)]) hx hb dL_loses_135 hl (by decide) rfl (fun ls hl => ?_)
                refine lv_iinc (v := (x11_6 + (1 : Int32))) (lv' := [(11, .int (x11_6 + (1 : Int32))), (10, .int (1 : Int32)), (9, .int (x9_6 + v11)), (12, .int v10), (8, .int o5.1), (7, .ref q2), (6, .ref q1), (0, .ref xa), (4, .ref l9), (5, .int i5)]) hx hb dL_loses_137 hl (k := 3) rfl rfl (by decide) rfl (fun ls hl => ?_)
                refine lv_goto (tgt := 44) hx hb dL_loses_140 (by decide) ?_
                exact ih_6 ((x11_6 + (1 : Int32)), (1 : Int32), (x9_6 + v11)) h _ _ hP hD hS _ (lv_sub hl [0, 1, 2, 4, 5, 6, 7, 8, 9] rfl)
              · have h := sp_f c13 h
                refine lv_aload hx hb dL_loses_110 (lv_at hl 6 rfl) ?_
                refine lv_iload hx hb dL_loses_112 (lv_at hl 2 rfl) ?_
                refine va_iald hx hb hK hP 29 0 rfl rfl hin9 dL_loses_114 ?_
                refine lv_iload hx hb dL_loses_115 (lv_at hl 9 rfl) ?_
                refine lv_icmp_ge (tgt := 130) hx hb dL_loses_117 (by decide) (fun c14 => ?_) (fun c14 => ?_)
                · have h := sp_t c14 h
                  refine lv_iconst (v := (1 : Int32)) hx hb dL_loses_130 (by decide) ?_
                  refine lv_goto (tgt := 135) hx hb dL_loses_131 (by decide) ?_
                  refine lv_istore (lv' := [(10, .int (1 : Int32)), (9, .int (x9_6 + v11)), (12, .int v10), (11, .int x11_6), (8, .int o5.1), (7, .ref q2), (6, .ref q1), (0, .ref xa), (4, .ref l9), (5, .int i5)]) hx hb dL_loses_135 hl (by decide) rfl (fun ls hl => ?_)
                  refine lv_iinc (v := (x11_6 + (1 : Int32))) (lv' := [(11, .int (x11_6 + (1 : Int32))), (10, .int (1 : Int32)), (9, .int (x9_6 + v11)), (12, .int v10), (8, .int o5.1), (7, .ref q2), (6, .ref q1), (0, .ref xa), (4, .ref l9), (5, .int i5)]) hx hb dL_loses_137 hl (k := 3) rfl rfl (by decide) rfl (fun ls hl => ?_)
                  refine lv_goto (tgt := 44) hx hb dL_loses_140 (by decide) ?_
                  exact ih_6 ((x11_6 + (1 : Int32)), (1 : Int32), (x9_6 + v11)) h _ _ hP hD hS _ (lv_sub hl [0, 1, 2, 4, 5, 6, 7, 8, 9] rfl)
                · have h := sp_f c14 h
                  refine lv_iload hx hb dL_loses_120 (lv_at hl 1 rfl) ?_
                  refine lv_aload hx hb dL_loses_122 (lv_at hl 6 rfl) ?_
                  refine lv_iload hx hb dL_loses_124 (lv_at hl 2 rfl) ?_
                  refine va_iald hx hb hK hP 29 0 rfl rfl hin9 dL_loses_126 ?_
                  refine lv_icmp_ne (tgt := 134) hx hb dL_loses_127 (by decide) (fun c15 => ?_) (fun c15 => ?_)
                  · have h := sp_f c15 h
                    refine lv_iconst (v := (0 : Int32)) hx hb dL_loses_134 (by decide) ?_
                    refine lv_istore (lv' := [(10, .int (0 : Int32)), (9, .int (x9_6 + v11)), (12, .int v10), (11, .int x11_6), (8, .int o5.1), (7, .ref q2), (6, .ref q1), (0, .ref xa), (4, .ref l9), (5, .int i5)]) hx hb dL_loses_135 hl (by decide) rfl (fun ls hl => ?_)
                    refine lv_iinc (v := (x11_6 + (1 : Int32))) (lv' := [(11, .int (x11_6 + (1 : Int32))), (10, .int (0 : Int32)), (9, .int (x9_6 + v11)), (12, .int v10), (8, .int o5.1), (7, .ref q2), (6, .ref q1), (0, .ref xa), (4, .ref l9), (5, .int i5)]) hx hb dL_loses_137 hl (k := 3) rfl rfl (by decide) rfl (fun ls hl => ?_)
                    refine lv_goto (tgt := 44) hx hb dL_loses_140 (by decide) ?_
                    exact ih_6 ((x11_6 + (1 : Int32)), (0 : Int32), (x9_6 + v11)) h _ _ hP hD hS _ (lv_sub hl [0, 1, 2, 4, 5, 6, 7, 8, 9] rfl)
                  · have h := sp_t c15 h
                    refine lv_iconst (v := (1 : Int32)) hx hb dL_loses_130 (by decide) ?_
                    refine lv_goto (tgt := 135) hx hb dL_loses_131 (by decide) ?_
                    refine lv_istore (lv' := [(10, .int (1 : Int32)), (9, .int (x9_6 + v11)), (12, .int v10), (11, .int x11_6), (8, .int o5.1), (7, .ref q2), (6, .ref q1), (0, .ref xa), (4, .ref l9), (5, .int i5)]) hx hb dL_loses_135 hl (by decide) rfl (fun ls hl => ?_)
                    refine lv_iinc (v := (x11_6 + (1 : Int32))) (lv' := [(11, .int (x11_6 + (1 : Int32))), (10, .int (1 : Int32)), (9, .int (x9_6 + v11)), (12, .int v10), (8, .int o5.1), (7, .ref q2), (6, .ref q1), (0, .ref xa), (4, .ref l9), (5, .int i5)]) hx hb dL_loses_137 hl (k := 3) rfl rfl (by decide) rfl (fun ls hl => ?_)
                    refine lv_goto (tgt := 44) hx hb dL_loses_140 (by decide) ?_
                    exact ih_6 ((x11_6 + (1 : Int32)), (1 : Int32), (x9_6 + v11)) h _ _ hP hD hS _ (lv_sub hl [0, 1, 2, 4, 5, 6, 7, 8, 9] rfl)
          · have h := hv11
            clear hv11
            refine lv_icmp_ne (tgt := 93) hx hb dL_loses_86 (by decide) (fun c16 => ?_) (fun c16 => ?_)
            · have h := sp_f c16 h
              refine lv_iconst (v := (1 : Int32)) hx hb dL_loses_93 (by decide) ?_
              obtain rfl := sp_s h
              exact J11 _ _ hP hD hS _ (lv_sub hl [0, 1, 2, 4, 5, 6, 7, 8, 9] rfl)
            · have h := sp_t c16 h
              refine lv_iconst (v := (0 : Int32)) hx hb dL_loses_89 (by decide) ?_
              refine lv_goto (tgt := 94) hx hb dL_loses_90 (by decide) ?_
              obtain rfl := sp_s h
              exact J11 _ _ hP hD hS _ (lv_sub hl [0, 1, 2, 4, 5, 6, 7, 8, 9] rfl)
        · have h := hv10
          clear hv10
          refine lv_if_ge (tgt := 63) hx hb dL_loses_56 (by decide) (fun c17 => ?_) (fun c17 => ?_)
          · have h := sp_t c17 h
            refine lv_aload_n hx hb dL_loses_63 rfl (lv_at hl 6 rfl) ?_
            refine lv_iload hx hb dL_loses_64 (lv_at hl 0 rfl) ?_
            refine lv_iconst (v := (5 : Int32)) hx hb dL_loses_66 (by decide) ?_
            refine lv_idiv hx hb dL_loses_67 (by decide) ?_
            refine lv_iload hx hb dL_loses_68 (lv_at hl 0 rfl) ?_
            refine lv_iconst (v := (5 : Int32)) hx hb dL_loses_70 (by decide) ?_
            refine lv_irem hx hb dL_loses_71 (by decide) ?_
            obtain ⟨o18, ho18, h⟩ := sp_b h
            have hP9 : va_P G.1 vwCl (((wAR G a9 60 ka) ++ ((wAR G r9 24 kr) ++ ((wAR G c9 1 kc) ++ ((wOU G l9 kl) ++ ((wAR G q1 60 o4.1) ++ ((wAR G q2 36 o4.2.1) ++ ((wAR G q3 12 o4.2.2)))))))) ++ ((wXO xa (ya 0) la (qa 0) (pa 0)) ++ ((wLO G la o5.2.1) ++ ((wSYc G ya yy_0 yy_1 yy_2 yy_3 yy_4 yy_5 yy_6 yy_7 yy_8) ++ ((wPLc G qa o5.2.2.1.1 o5.2.2.1.2.1 o5.2.2.1.2.2.1 o5.2.2.1.2.2.2.1 o5.2.2.1.2.2.2.2.1 o5.2.2.1.2.2.2.2.2.1 o5.2.2.1.2.2.2.2.2.2.1 o5.2.2.1.2.2.2.2.2.2.2.1 o5.2.2.1.2.2.2.2.2.2.2.2) ++ ((wPLc G pa o5.2.2.2.1 o5.2.2.2.2.1 o5.2.2.2.2.2.1 o5.2.2.2.2.2.2.1 o5.2.2.2.2.2.2.2.1 o5.2.2.2.2.2.2.2.2.1 o5.2.2.2.2.2.2.2.2.2.1 o5.2.2.2.2.2.2.2.2.2.2.1 o5.2.2.2.2.2.2.2.2.2.2.2))))))) H := xf_P (xf_p_12_56789ab_01243 (wXO xa (ya 0) la (qa 0) (pa 0)) (wLO G la o5.2.1) (wSYc G ya yy_0 yy_1 yy_2 yy_3 yy_4 yy_5 yy_6 yy_7 yy_8) (wPLc G pa o5.2.2.2.1 o5.2.2.2.2.1 o5.2.2.2.2.2.1 o5.2.2.2.2.2.2.1 o5.2.2.2.2.2.2.2.1 o5.2.2.2.2.2.2.2.2.1 o5.2.2.2.2.2.2.2.2.2.1 o5.2.2.2.2.2.2.2.2.2.2.1 o5.2.2.2.2.2.2.2.2.2.2.2) (wPLc G qa o5.2.2.1.1 o5.2.2.1.2.1 o5.2.2.1.2.2.1 o5.2.2.1.2.2.2.1 o5.2.2.1.2.2.2.2.1 o5.2.2.1.2.2.2.2.2.1 o5.2.2.1.2.2.2.2.2.2.1 o5.2.2.1.2.2.2.2.2.2.2.1 o5.2.2.1.2.2.2.2.2.2.2.2) (wAR G a9 60 ka) (wAR G r9 24 kr) (wAR G c9 1 kc) (wOU G l9 kl) (wAR G q1 60 o4.1) (wAR G q2 36 o4.2.1) (wAR G q3 12 o4.2.2)) hP
            have hD9 : va_D A (((wAR G a9 60 ka) ++ ((wAR G r9 24 kr) ++ ((wAR G c9 1 kc) ++ ((wOU G l9 kl) ++ ((wAR G q1 60 o4.1) ++ ((wAR G q2 36 o4.2.1) ++ ((wAR G q3 12 o4.2.2)))))))) ++ ((wXO xa (ya 0) la (qa 0) (pa 0)) ++ ((wLO G la o5.2.1) ++ ((wSYc G ya yy_0 yy_1 yy_2 yy_3 yy_4 yy_5 yy_6 yy_7 yy_8) ++ ((wPLc G qa o5.2.2.1.1 o5.2.2.1.2.1 o5.2.2.1.2.2.1 o5.2.2.1.2.2.2.1 o5.2.2.1.2.2.2.2.1 o5.2.2.1.2.2.2.2.2.1 o5.2.2.1.2.2.2.2.2.2.1 o5.2.2.1.2.2.2.2.2.2.2.1 o5.2.2.1.2.2.2.2.2.2.2.2) ++ ((wPLc G pa o5.2.2.2.1 o5.2.2.2.2.1 o5.2.2.2.2.2.1 o5.2.2.2.2.2.2.1 o5.2.2.2.2.2.2.2.1 o5.2.2.2.2.2.2.2.2.1 o5.2.2.2.2.2.2.2.2.2.1 o5.2.2.2.2.2.2.2.2.2.2.1 o5.2.2.2.2.2.2.2.2.2.2.2))))))) := xf_D (xf_p_12_56789ab_01243 (wXO xa (ya 0) la (qa 0) (pa 0)) (wLO G la o5.2.1) (wSYc G ya yy_0 yy_1 yy_2 yy_3 yy_4 yy_5 yy_6 yy_7 yy_8) (wPLc G pa o5.2.2.2.1 o5.2.2.2.2.1 o5.2.2.2.2.2.1 o5.2.2.2.2.2.2.1 o5.2.2.2.2.2.2.2.1 o5.2.2.2.2.2.2.2.2.1 o5.2.2.2.2.2.2.2.2.2.1 o5.2.2.2.2.2.2.2.2.2.2.1 o5.2.2.2.2.2.2.2.2.2.2.2) (wPLc G qa o5.2.2.1.1 o5.2.2.1.2.1 o5.2.2.1.2.2.1 o5.2.2.1.2.2.2.1 o5.2.2.1.2.2.2.2.1 o5.2.2.1.2.2.2.2.2.1 o5.2.2.1.2.2.2.2.2.2.1 o5.2.2.1.2.2.2.2.2.2.2.1 o5.2.2.1.2.2.2.2.2.2.2.2) (wAR G a9 60 ka) (wAR G r9 24 kr) (wAR G c9 1 kc) (wOU G l9 kl) (wAR G q1 60 o4.1) (wAR G q2 36 o4.2.1) (wAR G q3 12 o4.2.2)) hD
            refine xf_ci (va_runV (As := [.int (x11_6 / (5 : Int32)), .int (x11_6 - x11_6 / (5 : Int32) * (5 : Int32))]) (rest := []) ⟨hx, hb, hml, hown, hts⟩ (c_X2_lessonDay l G xa la ya qa pa o5.2.1 (yy_0, yy_1, yy_2, yy_3, yy_4, yy_5, yy_6, yy_7, yy_8) o5.2.2.1 o5.2.2.2 (x11_6 / (5 : Int32)) (x11_6 - x11_6 / (5 : Int32) * (5 : Int32)) o18 ho18 H.size) (cwV 2 hts gL_loses_X2_lessonDay rfl rfl rfl (by decide +kernel) ⟨(Nat.le_of_ble_eq_true rfl), (Nat.le_of_ble_eq_true rfl)⟩) (xk_preV hK hNE (xf_pr hP9) (xf_dr hD9) (ci := 2) rfl rfl) rfl rfl hl.1 rfl (lv_room (Nat.le_of_ble_eq_true rfl)) dL_loses_72 ⟨(Nat.le_of_ble_eq_true rfl), (Nat.le_of_ble_eq_true rfl)⟩) hP9 hD9 hS hA (fun H locs hP hD hS => ?_)
            have hP : va_P G.1 vwCl ((wXO xa (ya 0) la (qa 0) (pa 0)) ++ ((wLO G la o5.2.1) ++ ((wSYc G ya yy_0 yy_1 yy_2 yy_3 yy_4 yy_5 yy_6 yy_7 yy_8) ++ ((wPLc G pa o5.2.2.2.1 o5.2.2.2.2.1 o5.2.2.2.2.2.1 o5.2.2.2.2.2.2.1 o5.2.2.2.2.2.2.2.1 o5.2.2.2.2.2.2.2.2.1 o5.2.2.2.2.2.2.2.2.2.1 o5.2.2.2.2.2.2.2.2.2.2.1 o5.2.2.2.2.2.2.2.2.2.2.2) ++ ((wPLc G qa o5.2.2.1.1 o5.2.2.1.2.1 o5.2.2.1.2.2.1 o5.2.2.1.2.2.2.1 o5.2.2.1.2.2.2.2.1 o5.2.2.1.2.2.2.2.2.1 o5.2.2.1.2.2.2.2.2.2.1 o5.2.2.1.2.2.2.2.2.2.2.1 o5.2.2.1.2.2.2.2.2.2.2.2) ++ ((wAR G a9 60 ka) ++ ((wAR G r9 24 kr) ++ ((wAR G c9 1 kc) ++ ((wOU G l9 kl) ++ ((wAR G q1 60 o4.1) ++ ((wAR G q2 36 o4.2.1) ++ ((wAR G q3 12 o4.2.2))))))))))))) H := xf_P (xf_p_12_56789ab_01243 (wXO xa (ya 0) la (qa 0) (pa 0)) (wLO G la o5.2.1) (wSYc G ya yy_0 yy_1 yy_2 yy_3 yy_4 yy_5 yy_6 yy_7 yy_8) (wPLc G pa o5.2.2.2.1 o5.2.2.2.2.1 o5.2.2.2.2.2.1 o5.2.2.2.2.2.2.1 o5.2.2.2.2.2.2.2.1 o5.2.2.2.2.2.2.2.2.1 o5.2.2.2.2.2.2.2.2.2.1 o5.2.2.2.2.2.2.2.2.2.2.1 o5.2.2.2.2.2.2.2.2.2.2.2) (wPLc G qa o5.2.2.1.1 o5.2.2.1.2.1 o5.2.2.1.2.2.1 o5.2.2.1.2.2.2.1 o5.2.2.1.2.2.2.2.1 o5.2.2.1.2.2.2.2.2.1 o5.2.2.1.2.2.2.2.2.2.1 o5.2.2.1.2.2.2.2.2.2.2.1 o5.2.2.1.2.2.2.2.2.2.2.2) (wAR G a9 60 ka) (wAR G r9 24 kr) (wAR G c9 1 kc) (wOU G l9 kl) (wAR G q1 60 o4.1) (wAR G q2 36 o4.2.1) (wAR G q3 12 o4.2.2)).symm (show va_P G.1 vwCl (((wAR G a9 60 ka) ++ ((wAR G r9 24 kr) ++ ((wAR G c9 1 kc) ++ ((wOU G l9 kl) ++ ((wAR G q1 60 o4.1) ++ ((wAR G q2 36 o4.2.1) ++ ((wAR G q3 12 o4.2.2)))))))) ++ ((wXO xa (ya 0) la (qa 0) (pa 0)) ++ ((wLO G la o5.2.1) ++ ((wSYc G ya yy_0 yy_1 yy_2 yy_3 yy_4 yy_5 yy_6 yy_7 yy_8) ++ ((wPLc G qa o5.2.2.1.1 o5.2.2.1.2.1 o5.2.2.1.2.2.1 o5.2.2.1.2.2.2.1 o5.2.2.1.2.2.2.2.1 o5.2.2.1.2.2.2.2.2.1 o5.2.2.1.2.2.2.2.2.2.1 o5.2.2.1.2.2.2.2.2.2.2.1 o5.2.2.1.2.2.2.2.2.2.2.2) ++ ((wPLc G pa o5.2.2.2.1 o5.2.2.2.2.1 o5.2.2.2.2.2.1 o5.2.2.2.2.2.2.1 o5.2.2.2.2.2.2.2.1 o5.2.2.2.2.2.2.2.2.1 o5.2.2.2.2.2.2.2.2.2.1 o5.2.2.2.2.2.2.2.2.2.2.1 o5.2.2.2.2.2.2.2.2.2.2.2))))))) H from hP)
            have hD : va_D A ((wXO xa (ya 0) la (qa 0) (pa 0)) ++ ((wLO G la o5.2.1) ++ ((wSYc G ya yy_0 yy_1 yy_2 yy_3 yy_4 yy_5 yy_6 yy_7 yy_8) ++ ((wPLc G pa o5.2.2.2.1 o5.2.2.2.2.1 o5.2.2.2.2.2.1 o5.2.2.2.2.2.2.1 o5.2.2.2.2.2.2.2.1 o5.2.2.2.2.2.2.2.2.1 o5.2.2.2.2.2.2.2.2.2.1 o5.2.2.2.2.2.2.2.2.2.2.1 o5.2.2.2.2.2.2.2.2.2.2.2) ++ ((wPLc G qa o5.2.2.1.1 o5.2.2.1.2.1 o5.2.2.1.2.2.1 o5.2.2.1.2.2.2.1 o5.2.2.1.2.2.2.2.1 o5.2.2.1.2.2.2.2.2.1 o5.2.2.1.2.2.2.2.2.2.1 o5.2.2.1.2.2.2.2.2.2.2.1 o5.2.2.1.2.2.2.2.2.2.2.2) ++ ((wAR G a9 60 ka) ++ ((wAR G r9 24 kr) ++ ((wAR G c9 1 kc) ++ ((wOU G l9 kl) ++ ((wAR G q1 60 o4.1) ++ ((wAR G q2 36 o4.2.1) ++ ((wAR G q3 12 o4.2.2))))))))))))) := xf_D (xf_p_12_56789ab_01243 (wXO xa (ya 0) la (qa 0) (pa 0)) (wLO G la o5.2.1) (wSYc G ya yy_0 yy_1 yy_2 yy_3 yy_4 yy_5 yy_6 yy_7 yy_8) (wPLc G pa o5.2.2.2.1 o5.2.2.2.2.1 o5.2.2.2.2.2.1 o5.2.2.2.2.2.2.1 o5.2.2.2.2.2.2.2.1 o5.2.2.2.2.2.2.2.2.1 o5.2.2.2.2.2.2.2.2.2.1 o5.2.2.2.2.2.2.2.2.2.2.1 o5.2.2.2.2.2.2.2.2.2.2.2) (wPLc G qa o5.2.2.1.1 o5.2.2.1.2.1 o5.2.2.1.2.2.1 o5.2.2.1.2.2.2.1 o5.2.2.1.2.2.2.2.1 o5.2.2.1.2.2.2.2.2.1 o5.2.2.1.2.2.2.2.2.2.1 o5.2.2.1.2.2.2.2.2.2.2.1 o5.2.2.1.2.2.2.2.2.2.2.2) (wAR G a9 60 ka) (wAR G r9 24 kr) (wAR G c9 1 kc) (wOU G l9 kl) (wAR G q1 60 o4.1) (wAR G q2 36 o4.2.1) (wAR G q3 12 o4.2.2)).symm (show va_D A (((wAR G a9 60 ka) ++ ((wAR G r9 24 kr) ++ ((wAR G c9 1 kc) ++ ((wOU G l9 kl) ++ ((wAR G q1 60 o4.1) ++ ((wAR G q2 36 o4.2.1) ++ ((wAR G q3 12 o4.2.2)))))))) ++ ((wXO xa (ya 0) la (qa 0) (pa 0)) ++ ((wLO G la o5.2.1) ++ ((wSYc G ya yy_0 yy_1 yy_2 yy_3 yy_4 yy_5 yy_6 yy_7 yy_8) ++ ((wPLc G qa o5.2.2.1.1 o5.2.2.1.2.1 o5.2.2.1.2.2.1 o5.2.2.1.2.2.2.1 o5.2.2.1.2.2.2.2.1 o5.2.2.1.2.2.2.2.2.1 o5.2.2.1.2.2.2.2.2.2.1 o5.2.2.1.2.2.2.2.2.2.2.1 o5.2.2.1.2.2.2.2.2.2.2.2) ++ ((wPLc G pa o5.2.2.2.1 o5.2.2.2.2.1 o5.2.2.2.2.2.1 o5.2.2.2.2.2.2.1 o5.2.2.2.2.2.2.2.1 o5.2.2.2.2.2.2.2.2.1 o5.2.2.2.2.2.2.2.2.2.1 o5.2.2.2.2.2.2.2.2.2.2.1 o5.2.2.2.2.2.2.2.2.2.2.2))))))) from hD)
            obtain rfl := sp_s h
            exact J10 _ _ hP hD hS _ (lv_sub hl [0, 1, 2, 3, 4, 5, 6, 7, 8] rfl)
          · have h := sp_f c17 h
            refine lv_iconst (v := ((-1) : Int32)) hx hb dL_loses_59 (by decide) ?_
            refine lv_goto (tgt := 75) hx hb dL_loses_60 (by decide) ?_
            obtain rfl := sp_s h
            exact J10 _ _ hP hD hS _ (lv_sub hl [0, 1, 2, 3, 4, 5, 6, 7, 8] rfl)
    · exact LL 300 ((0 : Int32), (1 : Int32), (0 : Int32)) h _ _ hP hD hS _ (lv_sub hl [0, 1, 2, 3, 4, 5, 6, 10, 11] rfl)
