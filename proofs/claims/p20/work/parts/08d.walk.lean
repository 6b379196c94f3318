theorem xf_p_11_56789a_01234 (g0 g1 g2 g3 g4 g5 g6 g7 g8 g9 g10 : va_W) : List.Perm (g0 ++ (g1 ++ (g2 ++ (g3 ++ (g4 ++ (g5 ++ (g6 ++ (g7 ++ (g8 ++ (g9 ++ (g10))))))))))) ((g5 ++ (g6 ++ (g7 ++ (g8 ++ (g9 ++ (g10)))))) ++ (g0 ++ (g1 ++ (g2 ++ (g3 ++ (g4)))))) := by
  have h1 : List.Perm (g0 ++ (g1 ++ (g2 ++ (g3 ++ (g4 ++ (g5 ++ (g6 ++ (g7 ++ (g8 ++ (g9 ++ (g10))))))))))) (g5 ++ (g6 ++ (g7 ++ (g8 ++ (g9 ++ (g10 ++ (g0 ++ (g1 ++ (g2 ++ (g3 ++ (g4))))))))))) := (((xf_c _ ((xf_c _ ((xf_c _ ((xf_c _ ((xf_c _ (List.Perm.refl _)).trans (xf_s2 _ _ _))).trans (xf_s2 _ _ _))).trans (xf_s2 _ _ _))).trans (xf_s2 _ _ _))).trans (xf_s2 _ _ _)).trans (xf_c _ (((xf_c _ ((xf_c _ ((xf_c _ ((xf_c _ ((xf_c _ (List.Perm.refl _)).trans (xf_s2 _ _ _))).trans (xf_s2 _ _ _))).trans (xf_s2 _ _ _))).trans (xf_s2 _ _ _))).trans (xf_s2 _ _ _)).trans (xf_c _ (((xf_c _ ((xf_c _ ((xf_c _ ((xf_c _ ((xf_c _ (List.Perm.refl _)).trans (xf_s2 _ _ _))).trans (xf_s2 _ _ _))).trans (xf_s2 _ _ _))).trans (xf_s2 _ _ _))).trans (xf_s2 _ _ _)).trans (xf_c _ (((xf_c _ ((xf_c _ ((xf_c _ ((xf_c _ ((xf_c _ (List.Perm.refl _)).trans (xf_s2 _ _ _))).trans (xf_s2 _ _ _))).trans (xf_s2 _ _ _))).trans (xf_s2 _ _ _))).trans (xf_s2 _ _ _)).trans (xf_c _ (((xf_c _ ((xf_c _ ((xf_c _ ((xf_c _ ((xf_c _ (List.Perm.refl _)).trans (xf_s2 _ _ _))).trans (xf_s2 _ _ _))).trans (xf_s2 _ _ _))).trans (xf_s2 _ _ _))).trans (xf_s2 _ _ _)).trans (xf_c _ (((xf_c _ ((xf_c _ ((xf_c _ ((xf_c _ (xf_s1 _ _)).trans (xf_s2 _ _ _))).trans (xf_s2 _ _ _))).trans (xf_s2 _ _ _))).trans (xf_s2 _ _ _)).trans (xf_c _ (List.Perm.refl _)))))))))))))
  exact h1.trans (show List.Perm (g5 ++ (g6 ++ (g7 ++ (g8 ++ (g9 ++ (g10 ++ (g0 ++ (g1 ++ (g2 ++ (g3 ++ (g4))))))))))) ((g5 ++ (g6 ++ (g7 ++ (g8 ++ (g9 ++ (g10)))))) ++ (g0 ++ (g1 ++ (g2 ++ (g3 ++ (g4)))))) from ((xf_c _ ((xf_c _ ((xf_c _ ((xf_c _ ((xf_c _ (List.Perm.refl _)).trans (List.Perm.of_eq (List.append_assoc _ _ _).symm))).trans (List.Perm.of_eq (List.append_assoc _ _ _).symm))).trans (List.Perm.of_eq (List.append_assoc _ _ _).symm))).trans (List.Perm.of_eq (List.append_assoc _ _ _).symm))).trans (List.Perm.of_eq (List.append_assoc _ _ _).symm)))
set_option maxHeartbeats 8000000 in
set_option maxRecDepth 100000 in
theorem c_L_asks (l : Launch) (G : xG) (xa : Nat) (la : Nat) (ya : (Nat → Nat)) (pa : (Nat → Nat)) (qa : (Nat → Nat)) (aka : Nat) (akr : Nat) (akc : Nat) (ake : Nat) (akv : Nat) (akp : Nat) (lo : xF) (yy : xSY) (pp : xPL) (qq : xPL) (ka : xF) (kr : xF) (kc : xF) (ke : xF) (kv : xF) (kp : xF) (o : xF × xF × xF) (h : f_L_asks lo yy pp qq ka kr kc ke kv kp = some o) : xk_CV l yL_asks wsL_asks ({ frames := 3, cells := 0, slots := 0, locals := 65 } : Room) 0 0 [.ref xa, .ref aka, .ref akr, .ref akc, .ref ake, .ref akv, .ref akp] G ((wXO xa (ya 0) la (pa 0) (qa 0)) ++ ((wLO G la lo) ++ ((wSYc G ya yy.1 yy.2.1 yy.2.2.1 yy.2.2.2.1 yy.2.2.2.2.1 yy.2.2.2.2.2.1 yy.2.2.2.2.2.2.1 yy.2.2.2.2.2.2.2.1 yy.2.2.2.2.2.2.2.2) ++ ((wPLc G pa pp.1 pp.2.1 pp.2.2.1 pp.2.2.2.1 pp.2.2.2.2.1 pp.2.2.2.2.2.1 pp.2.2.2.2.2.2.1 pp.2.2.2.2.2.2.2.1 pp.2.2.2.2.2.2.2.2) ++ ((wPLc G qa qq.1 qq.2.1 qq.2.2.1 qq.2.2.2.1 qq.2.2.2.2.1 qq.2.2.2.2.2.1 qq.2.2.2.2.2.2.1 qq.2.2.2.2.2.2.2.1 qq.2.2.2.2.2.2.2.2) ++ ((wAR G aka 60 ka) ++ ((wAR G akr 24 kr) ++ ((wAR G akc 1 kc) ++ ((wAR G ake 60 ke) ++ ((wAR G akv 36 kv) ++ ((wAR G akp 12 kp)))))))))))) ((wXO xa (ya 0) la (pa 0) (qa 0)) ++ ((wLO G la lo) ++ ((wSYc G ya yy.1 yy.2.1 yy.2.2.1 yy.2.2.2.1 yy.2.2.2.2.1 yy.2.2.2.2.2.1 yy.2.2.2.2.2.2.1 yy.2.2.2.2.2.2.2.1 yy.2.2.2.2.2.2.2.2) ++ ((wPLc G pa pp.1 pp.2.1 pp.2.2.1 pp.2.2.2.1 pp.2.2.2.2.1 pp.2.2.2.2.2.1 pp.2.2.2.2.2.2.1 pp.2.2.2.2.2.2.2.1 pp.2.2.2.2.2.2.2.2) ++ ((wPLc G qa qq.1 qq.2.1 qq.2.2.1 qq.2.2.2.1 qq.2.2.2.2.1 qq.2.2.2.2.2.1 qq.2.2.2.2.2.2.1 qq.2.2.2.2.2.2.2.1 qq.2.2.2.2.2.2.2.2) ++ ((wAR G aka 60 ka) ++ ((wAR G akr 24 kr) ++ ((wAR G akc 1 kc) ++ ((wAR G ake 60 o.1) ++ ((wAR G akv 36 o.2.1) ++ ((wAR G akp 12 o.2.2)))))))))))) := by
  obtain ⟨yy_0, yy_1, yy_2, yy_3, yy_4, yy_5, yy_6, yy_7, yy_8⟩ := yy
  obtain ⟨pp_0, pp_1, pp_2, pp_3, pp_4, pp_5, pp_6, pp_7, pp_8⟩ := pp
  obtain ⟨qq_0, qq_1, qq_2, qq_3, qq_4, qq_5, qq_6, qq_7, qq_8⟩ := qq
  refine xk_CV.of (cc := cL_asks) (maxL := 8) (ret := none) (by decide) rfl (Nat.le_of_ble_eq_true rfl) ?_
  intro pr9 en9 s mm9 bl9 meth9 cd9 A ls H locs hx hb hr hml hts hown hlk hA hP hK hD hNE hS hl
  have hown : s.vm.findClass RL = some mm9.cls := hown
  have hl : lv_has ls 8 [(0, .ref xa), (1, .ref aka), (2, .ref akr), (3, .ref akc), (4, .ref ake), (5, .ref akv), (6, .ref akp)] := hl
  have hP : va_P G.1 vwCl ((wXO xa (ya 0) la (pa 0) (qa 0)) ++ ((wLO G la lo) ++ ((wSYc G ya yy_0 yy_1 yy_2 yy_3 yy_4 yy_5 yy_6 yy_7 yy_8) ++ ((wPLc G pa pp_0 pp_1 pp_2 pp_3 pp_4 pp_5 pp_6 pp_7 pp_8) ++ ((wPLc G qa qq_0 qq_1 qq_2 qq_3 qq_4 qq_5 qq_6 qq_7 qq_8) ++ ((wAR G aka 60 ka) ++ ((wAR G akr 24 kr) ++ ((wAR G akc 1 kc) ++ ((wAR G ake 60 ke) ++ ((wAR G akv 36 kv) ++ ((wAR G akp 12 kp)))))))))))) H := hP
  have hD : va_D A ((wXO xa (ya 0) la (pa 0) (qa 0)) ++ ((wLO G la lo) ++ ((wSYc G ya yy_0 yy_1 yy_2 yy_3 yy_4 yy_5 yy_6 yy_7 yy_8) ++ ((wPLc G pa pp_0 pp_1 pp_2 pp_3 pp_4 pp_5 pp_6 pp_7 pp_8) ++ ((wPLc G qa qq_0 qq_1 qq_2 qq_3 qq_4 qq_5 qq_6 qq_7 qq_8) ++ ((wAR G aka 60 ka) ++ ((wAR G akr 24 kr) ++ ((wAR G akc 1 kc) ++ ((wAR G ake 60 ke) ++ ((wAR G akv 36 kv) ++ ((wAR G akp 12 kp)))))))))))) := hD
  have h := (f_L_asks_e lo yy_0 yy_1 yy_2 yy_3 yy_4 yy_5 yy_6 yy_7 yy_8 pp_0 pp_1 pp_2 pp_3 pp_4 pp_5 pp_6 pp_7 pp_8 qq_0 qq_1 qq_2 qq_3 qq_4 qq_5 qq_6 qq_7 qq_8 ka kr kc ke kv kp).symm.trans h
  refine lv_iconst (v := (0 : Int32)) hx hb dL_asks_0 (by decide) ?_
  refine lv_istore (lv' := [(7, .int (0 : Int32)), (0, .ref xa), (1, .ref aka), (2, .ref akr), (3, .ref akc), (4, .ref ake), (5, .ref akv), (6, .ref akp)]) hx hb dL_asks_1 hl (by decide) rfl (fun ls hl => ?_)
  obtain ⟨w2, hw2, h⟩ := sp_b h
  refine xk_jn G A s.heap ((wXO xa (ya 0) la (pa 0) (qa 0)) ++ ((wLO G la lo) ++ ((wSYc G ya yy_0 yy_1 yy_2 yy_3 yy_4 yy_5 yy_6 yy_7 yy_8) ++ ((wPLc G pa pp_0 pp_1 pp_2 pp_3 pp_4 pp_5 pp_6 pp_7 pp_8) ++ ((wPLc G qa qq_0 qq_1 qq_2 qq_3 qq_4 qq_5 qq_6 qq_7 qq_8) ++ ((wAR G aka 60 ka) ++ ((wAR G akr 24 kr) ++ ((wAR G akc 1 kc) ++ ((wAR G ake 60 w2) ++ ((wAR G akv 36 kv) ++ ((wAR G akp 12 kp)))))))))))) 8 [(0, .ref xa), (2, .ref akr), (3, .ref akc), (5, .ref akv), (6, .ref akp)] 62 [] (fun H locs hP hD hS ls hl => ?_) (fun J1 => ?_)
  · refine lv_iconst (v := (0 : Int32)) hx hb dL_asks_62 (by decide) ?_
    refine lv_istore (lv' := [(7, .int (0 : Int32)), (0, .ref xa), (2, .ref akr), (3, .ref akc), (5, .ref akv), (6, .ref akp)]) hx hb dL_asks_63 hl (by decide) rfl (fun ls hl => ?_)
    obtain ⟨w12, hw12, h⟩ := sp_b h
    refine xk_jn G A s.heap ((wXO xa (ya 0) la (pa 0) (qa 0)) ++ ((wLO G la lo) ++ ((wSYc G ya yy_0 yy_1 yy_2 yy_3 yy_4 yy_5 yy_6 yy_7 yy_8) ++ ((wPLc G pa pp_0 pp_1 pp_2 pp_3 pp_4 pp_5 pp_6 pp_7 pp_8) ++ ((wPLc G qa qq_0 qq_1 qq_2 qq_3 qq_4 qq_5 qq_6 qq_7 qq_8) ++ ((wAR G aka 60 ka) ++ ((wAR G akr 24 kr) ++ ((wAR G akc 1 kc) ++ ((wAR G ake 60 w2) ++ ((wAR G akv 36 w12) ++ ((wAR G akp 12 kp)))))))))))) 8 [(0, .ref xa), (3, .ref akc), (6, .ref akp)] 124 [] (fun H locs hP hD hS ls hl => ?_) (fun J11 => ?_)
    · refine lv_iconst (v := (0 : Int32)) hx hb dL_asks_124 (by decide) ?_
      refine lv_istore (lv' := [(7, .int (0 : Int32)), (0, .ref xa), (3, .ref akc), (6, .ref akp)]) hx hb dL_asks_125 hl (by decide) rfl (fun ls hl => ?_)
      obtain ⟨w22, hw22, h⟩ := sp_b h
      refine xk_jn G A s.heap ((wXO xa (ya 0) la (pa 0) (qa 0)) ++ ((wLO G la lo) ++ ((wSYc G ya yy_0 yy_1 yy_2 yy_3 yy_4 yy_5 yy_6 yy_7 yy_8) ++ ((wPLc G pa pp_0 pp_1 pp_2 pp_3 pp_4 pp_5 pp_6 pp_7 pp_8) ++ ((wPLc G qa qq_0 qq_1 qq_2 qq_3 qq_4 qq_5 qq_6 qq_7 qq_8) ++ ((wAR G aka 60 ka) ++ ((wAR G akr 24 kr) ++ ((wAR G akc 1 kc) ++ ((wAR G ake 60 w2) ++ ((wAR G akv 36 w12) ++ ((wAR G akp 12 w22)))))))))))) 8 [] 152 [] (fun H locs hP hD hS ls hl => ?_) (fun J21 => ?_)
      · obtain rfl := sp_s h
        exact xk_reV hx hb hr hlk hP hD hS dL_asks_152
      · have h := hw22
        clear hw22
        refine xk_lp (α := Int32 × xF) G A s.heap (fun a_21 => ((wXO xa (ya 0) la (pa 0) (qa 0)) ++ ((wLO G la lo) ++ ((wSYc G ya yy_0 yy_1 yy_2 yy_3 yy_4 yy_5 yy_6 yy_7 yy_8) ++ ((wPLc G pa pp_0 pp_1 pp_2 pp_3 pp_4 pp_5 pp_6 pp_7 pp_8) ++ ((wPLc G qa qq_0 qq_1 qq_2 qq_3 qq_4 qq_5 qq_6 qq_7 qq_8) ++ ((wAR G aka 60 ka) ++ ((wAR G akr 24 kr) ++ ((wAR G akc 1 kc) ++ ((wAR G ake 60 w2) ++ ((wAR G akv 36 w12) ++ ((wAR G akp 12 a_21.2))))))))))))) 8 (fun a_21 => [(7, .int a_21.1), (0, .ref xa), (3, .ref akc), (6, .ref akp)]) 127 (fun n a_21 => f_L_asks_l127 lo yy_0 yy_1 yy_2 yy_3 yy_4 yy_5 yy_6 yy_7 yy_8 pp_0 pp_1 pp_2 pp_3 pp_4 pp_5 pp_6 pp_7 pp_8 qq_0 qq_1 qq_2 qq_3 qq_4 qq_5 qq_6 qq_7 qq_8 kc n a_21.1 a_21.2 = some w22) (fun a_21 h => ?_) (fun n ih_21 a_21 h H locs hP hD hS ls hl => ?_) (fun LL => ?_)
        · exact sp_n ((f_L_asks_l127_z _ _ _ _ _ _ _ _ _ _ _ _ _ _ _ _ _ _ _ _ _ _ _ _ _ _ _ _ _ _ _).symm.trans h)
        · obtain ⟨x7_21, kp0_21⟩ := a_21
          have h := (f_L_asks_l127_s lo yy_0 yy_1 yy_2 yy_3 yy_4 yy_5 yy_6 yy_7 yy_8 pp_0 pp_1 pp_2 pp_3 pp_4 pp_5 pp_6 pp_7 pp_8 qq_0 qq_1 qq_2 qq_3 qq_4 qq_5 qq_6 qq_7 qq_8 kc n x7_21 kp0_21).symm.trans h
          have hP : va_P G.1 vwCl ((wXO xa (ya 0) la (pa 0) (qa 0)) ++ ((wLO G la lo) ++ ((wSYc G ya yy_0 yy_1 yy_2 yy_3 yy_4 yy_5 yy_6 yy_7 yy_8) ++ ((wPLc G pa pp_0 pp_1 pp_2 pp_3 pp_4 pp_5 pp_6 pp_7 pp_8) ++ ((wPLc G qa qq_0 qq_1 qq_2 qq_3 qq_4 qq_5 qq_6 qq_7 qq_8) ++ ((wAR G aka 60 ka) ++ ((wAR G akr 24 kr) ++ ((wAR G akc 1 kc) ++ ((wAR G ake 60 w2) ++ ((wAR G akv 36 w12) ++ ((wAR G akp 12 kp0_21)))))))))))) H := hP
          have hD : va_D A ((wXO xa (ya 0) la (pa 0) (qa 0)) ++ ((wLO G la lo) ++ ((wSYc G ya yy_0 yy_1 yy_2 yy_3 yy_4 yy_5 yy_6 yy_7 yy_8) ++ ((wPLc G pa pp_0 pp_1 pp_2 pp_3 pp_4 pp_5 pp_6 pp_7 pp_8) ++ ((wPLc G qa qq_0 qq_1 qq_2 qq_3 qq_4 qq_5 qq_6 qq_7 qq_8) ++ ((wAR G aka 60 ka) ++ ((wAR G akr 24 kr) ++ ((wAR G akc 1 kc) ++ ((wAR G ake 60 w2) ++ ((wAR G akv 36 w12) ++ ((wAR G akp 12 kp0_21)))))))))))) := hD
          have hl : lv_has ls 8 [(7, .int x7_21), (0, .ref xa), (3, .ref akc), (6, .ref akp)] := hl
          refine lv_iload hx hb dL_asks_127 (lv_at hl 0 rfl) ?_
          refine lv_aload_n hx hb dL_asks_129 rfl (lv_at hl 2 rfl) ?_
          refine lv_iconst (v := (0 : Int32)) hx hb dL_asks_130 (by decide) ?_
          refine va_iald hx hb hK hP 27 0 rfl rfl (xk_in0_1) dL_asks_131 ?_
          refine lv_icmp_ge (tgt := 152) hx hb dL_asks_132 (by decide) (fun c23 => ?_) (fun c23 => ?_)
          · have h := sp_t c23 h
            obtain rfl := sp_s h
            exact J21 _ _ hP hD hS _ (lv_sub hl [] rfl)
          · have h := sp_f c23 h
            refine lv_aload hx hb dL_asks_135 (lv_at hl 3 rfl) ?_
            refine lv_iload hx hb dL_asks_137 (lv_at hl 0 rfl) ?_
            refine lv_aload_n hx hb dL_asks_139 rfl (lv_at hl 1 rfl) ?_
            refine lv_iload hx hb dL_asks_140 (lv_at hl 0 rfl) ?_
            obtain ⟨o24, ho24, h⟩ := sp_b h
            have hP9 : va_P G.1 vwCl (((wAR G aka 60 ka) ++ ((wAR G akr 24 kr) ++ ((wAR G akc 1 kc) ++ ((wAR G ake 60 w2) ++ ((wAR G akv 36 w12) ++ ((wAR G akp 12 kp0_21))))))) ++ ((wXO xa (ya 0) la (pa 0) (qa 0)) ++ ((wLO G la lo) ++ ((wSYc G ya yy_0 yy_1 yy_2 yy_3 yy_4 yy_5 yy_6 yy_7 yy_8) ++ ((wPLc G pa pp_0 pp_1 pp_2 pp_3 pp_4 pp_5 pp_6 pp_7 pp_8) ++ ((wPLc G qa qq_0 qq_1 qq_2 qq_3 qq_4 qq_5 qq_6 qq_7 qq_8))))))) H := xf_P (xf_p_11_56789a_01234 (wXO xa (ya 0) la (pa 0) (qa 0)) (wLO G la lo) (wSYc G ya yy_0 yy_1 yy_2 yy_3 yy_4 yy_5 yy_6 yy_7 yy_8) (wPLc G pa pp_0 pp_1 pp_2 pp_3 pp_4 pp_5 pp_6 pp_7 pp_8) (wPLc G qa qq_0 qq_1 qq_2 qq_3 qq_4 qq_5 qq_6 qq_7 qq_8) (wAR G aka 60 ka) (wAR G akr 24 kr) (wAR G akc 1 kc) (wAR G ake 60 w2) (wAR G akv 36 w12) (wAR G akp 12 kp0_21)) hP
            have hD9 : va_D A (((wAR G aka 60 ka) ++ ((wAR G akr 24 kr) ++ ((wAR G akc 1 kc) ++ ((wAR G ake 60 w2) ++ ((wAR G akv 36 w12) ++ ((wAR G akp 12 kp0_21))))))) ++ ((wXO xa (ya 0) la (pa 0) (qa 0)) ++ ((wLO G la lo) ++ ((wSYc G ya yy_0 yy_1 yy_2 yy_3 yy_4 yy_5 yy_6 yy_7 yy_8) ++ ((wPLc G pa pp_0 pp_1 pp_2 pp_3 pp_4 pp_5 pp_6 pp_7 pp_8) ++ ((wPLc G qa qq_0 qq_1 qq_2 qq_3 qq_4 qq_5 qq_6 qq_7 qq_8))))))) := xf_D (xf_p_11_56789a_01234 (wXO xa (ya 0) la (pa 0) (qa 0)) (wLO G la lo) (wSYc G ya yy_0 yy_1 yy_2 yy_3 yy_4 yy_5 yy_6 yy_7 yy_8) (wPLc G pa pp_0 pp_1 pp_2 pp_3 pp_4 pp_5 pp_6 pp_7 pp_8) (wPLc G qa qq_0 qq_1 qq_2 qq_3 qq_4 qq_5 qq_6 qq_7 qq_8) (wAR G aka 60 ka) (wAR G akr 24 kr) (wAR G akc 1 kc) (wAR G ake 60 w2) (wAR G akv 36 w12) (wAR G akp 12 kp0_21)) hD
            refine xf_ci (va_runV (As := [.int x7_21]) (rest := [.int x7_21, .ref akp]) ⟨hx, hb, hml, hown, hts⟩ (c_X2_ordered l G xa la ya pa qa lo (yy_0, yy_1, yy_2, yy_3, yy_4, yy_5, yy_6, yy_7, yy_8) (pp_0, pp_1, pp_2, pp_3, pp_4, pp_5, pp_6, pp_7, pp_8) (qq_0, qq_1, qq_2, qq_3, qq_4, qq_5, qq_6, qq_7, qq_8) x7_21 o24 ho24 H.size) (cwV 1 hts gL_asks_X2_ordered rfl rfl rfl (by decide +kernel) ⟨(Nat.le_of_ble_eq_true rfl), (Nat.le_of_ble_eq_true rfl)⟩) (xk_preV hK hNE (xf_pr hP9) (xf_dr hD9) (ci := 2) rfl rfl) rfl rfl hl.1 rfl (lv_room (Nat.le_of_ble_eq_true rfl)) dL_asks_142 ⟨(Nat.le_of_ble_eq_true rfl), (Nat.le_of_ble_eq_true rfl)⟩) hP9 hD9 hS hA (fun H locs hP hD hS => ?_)
            have hP : va_P G.1 vwCl ((wXO xa (ya 0) la (pa 0) (qa 0)) ++ ((wLO G la lo) ++ ((wSYc G ya yy_0 yy_1 yy_2 yy_3 yy_4 yy_5 yy_6 yy_7 yy_8) ++ ((wPLc G pa pp_0 pp_1 pp_2 pp_3 pp_4 pp_5 pp_6 pp_7 pp_8) ++ ((wPLc G qa qq_0 qq_1 qq_2 qq_3 qq_4 qq_5 qq_6 qq_7 qq_8) ++ ((wAR G aka 60 ka) ++ ((wAR G akr 24 kr) ++ ((wAR G akc 1 kc) ++ ((wAR G ake 60 w2) ++ ((wAR G akv 36 w12) ++ ((wAR G akp 12 kp0_21)))))))))))) H := xf_P (xf_p_11_56789a_01234 (wXO xa (ya 0) la (pa 0) (qa 0)) (wLO G la lo) (wSYc G ya yy_0 yy_1 yy_2 yy_3 yy_4 yy_5 yy_6 yy_7 yy_8) (wPLc G pa pp_0 pp_1 pp_2 pp_3 pp_4 pp_5 pp_6 pp_7 pp_8) (wPLc G qa qq_0 qq_1 qq_2 qq_3 qq_4 qq_5 qq_6 qq_7 qq_8) (wAR G aka 60 ka) (wAR G akr 24 kr) (wAR G akc 1 kc) (wAR G ake 60 w2) (wAR G akv 36 w12) (wAR G akp 12 kp0_21)).symm (show va_P G.1 vwCl (((wAR G aka 60 ka) ++ ((wAR G akr 24 kr) ++ ((wAR G akc 1 kc) ++ ((wAR G ake 60 w2) ++ ((wAR G akv 36 w12) ++ ((wAR G akp 12 kp0_21))))))) ++ ((wXO xa (ya 0) la (pa 0) (qa 0)) ++ ((wLO G la lo) ++ ((wSYc G ya yy_0 yy_1 yy_2 yy_3 yy_4 yy_5 yy_6 yy_7 yy_8) ++ ((wPLc G pa pp_0 pp_1 pp_2 pp_3 pp_4 pp_5 pp_6 pp_7 pp_8) ++ ((wPLc G qa qq_0 qq_1 qq_2 qq_3 qq_4 qq_5 qq_6 qq_7 qq_8))))))) H from hP)
            have hD : va_D A ((wXO xa (ya 0) la (pa 0) (qa 0)) ++ ((wLO G la lo) ++ ((wSYc G ya yy_0 yy_1 yy_2 yy_3 yy_4 yy_5 yy_6 yy_7 yy_8) ++ ((wPLc G pa pp_0 pp_1 pp_2 pp_3 pp_4 pp_5 pp_6 pp_7 pp_8) ++ ((wPLc G qa qq_0 qq_1 qq_2 qq_3 qq_4 qq_5 qq_6 qq_7 qq_8) ++ ((wAR G aka 60 ka) ++ ((wAR G akr 24 kr) ++ ((wAR G akc 1 kc) ++ ((wAR G ake 60 w2) ++ ((wAR G akv 36 w12) ++ ((wAR G akp 12 kp0_21)))))))))))) := xf_D (xf_p_11_56789a_01234 (wXO xa (ya 0) la (pa 0) (qa 0)) (wLO G la lo) (wSYc G ya yy_0 yy_1 yy_2 yy_3 yy_4 yy_5 yy_6 yy_7 yy_8) (wPLc G pa pp_0 pp_1 pp_2 pp_3 pp_4 pp_5 pp_6 pp_7 pp_8) (wPLc G qa qq_0 qq_1 qq_2 qq_3 qq_4 qq_5 qq_6 qq_7 qq_8) (wAR G aka 60 ka) (wAR G akr 24 kr) (wAR G akc 1 kc) (wAR G ake 60 w2) (wAR G akv 36 w12) (wAR G akp 12 kp0_21)).symm (show va_D A (((wAR G aka 60 ka) ++ ((wAR G akr 24 kr) ++ ((wAR G akc 1 kc) ++ ((wAR G ake 60 w2) ++ ((wAR G akv 36 w12) ++ ((wAR G akp 12 kp0_21))))))) ++ ((wXO xa (ya 0) la (pa 0) (qa 0)) ++ ((wLO G la lo) ++ ((wSYc G ya yy_0 yy_1 yy_2 yy_3 yy_4 yy_5 yy_6 yy_7 yy_8) ++ ((wPLc G pa pp_0 pp_1 pp_2 pp_3 pp_4 pp_5 pp_6 pp_7 pp_8) ++ ((wPLc G qa qq_0 qq_1 qq_2 qq_3 qq_4 qq_5 qq_6 qq_7 qq_8))))))) from hD)
            obtain ⟨hin25, h⟩ := sp_g h
            refine va_iast hx hb hK hP hD hS 30 0 rfl rfl hin25 dL_asks_145 (fun H locs hP hD hS => ?_)
            have hP : va_P G.1 vwCl ((wXO xa (ya 0) la (pa 0) (qa 0)) ++ ((wLO G la lo) ++ ((wSYc G ya yy_0 yy_1 yy_2 yy_3 yy_4 yy_5 yy_6 yy_7 yy_8) ++ ((wPLc G pa pp_0 pp_1 pp_2 pp_3 pp_4 pp_5 pp_6 pp_7 pp_8) ++ ((wPLc G qa qq_0 qq_1 qq_2 qq_3 qq_4 qq_5 qq_6 qq_7 qq_8) ++ ((wAR G aka 60 ka) ++ ((wAR G akr 24 kr) ++ ((wAR G akc 1 kc) ++ ((wAR G ake 60 w2) ++ ((wAR G akv 36 w12) ++ ((wAR G akp 12 (upd kp0_21 x7_21.toNatClampNeg o24))))))))))))) H := hP
            have hD : va_D A ((wXO xa (ya 0) la (pa 0) (qa 0)) ++ ((wLO G la lo) ++ ((wSYc G ya yy_0 yy_1 yy_2 yy_3 yy_4 yy_5 yy_6 yy_7 yy_8) ++ ((wPLc G pa pp_0 pp_1 pp_2 pp_3 pp_4 pp_5 pp_6 pp_7 pp_8) ++ ((wPLc G qa qq_0 qq_1 qq_2 qq_3 qq_4 qq_5 qq_6 qq_7 qq_8) ++ ((wAR G aka 60 ka) ++ ((wAR G akr 24 kr) ++ ((wAR G akc 1 kc) ++ ((wAR G ake 60 w2) ++ ((wAR G akv 36 w12) ++ ((wAR G akp 12 (upd kp0_21 x7_21.toNatClampNeg o24))))))))))))) := hD
            refine lv_iinc (v := (x7_21 + (1 : Int32))) (lv' := [(7, .int (x7_21 + (1 : Int32))), (0, .ref xa), (3, .ref akc), (6, .ref akp)]) hx hb dL_asks_146 hl (k := 0) rfl rfl (by decide) rfl (fun ls hl => ?_)
            refine lv_goto (tgt := 127) hx hb dL_asks_149 (by decide) ?_
            exact ih_21 ((x7_21 + (1 : Int32)), (upd kp0_21 x7_21.toNatClampNeg o24)) h _ _ hP hD hS _ (lv_sub hl [0, 1, 2, 3] rfl)
        · exact LL 300 ((0 : Int32), kp) h _ _ hP hD hS _ (lv_sub hl [0, 1, 2, 3] rfl)
    · have h := hw12
      clear hw12
      refine xk_lp (α := Int32 × xF) G A s.heap (fun a_11 => ((wXO xa (ya 0) la (pa 0) (qa 0)) ++ ((wLO G la lo) ++ ((wSYc G ya yy_0 yy_1 yy_2 yy_3 yy_4 yy_5 yy_6 yy_7 yy_8) ++ ((wPLc G pa pp_0 pp_1 pp_2 pp_3 pp_4 pp_5 pp_6 pp_7 pp_8) ++ ((wPLc G qa qq_0 qq_1 qq_2 qq_3 qq_4 qq_5 qq_6 qq_7 qq_8) ++ ((wAR G aka 60 ka) ++ ((wAR G akr 24 kr) ++ ((wAR G akc 1 kc) ++ ((wAR G ake 60 w2) ++ ((wAR G akv 36 a_11.2) ++ ((wAR G akp 12 kp))))))))))))) 8 (fun a_11 => [(7, .int a_11.1), (0, .ref xa), (2, .ref akr), (3, .ref akc), (5, .ref akv), (6, .ref akp)]) 65 (fun n a_11 => f_L_asks_l65 lo yy_0 yy_1 yy_2 yy_3 yy_4 yy_5 yy_6 yy_7 yy_8 pp_0 pp_1 pp_2 pp_3 pp_4 pp_5 pp_6 pp_7 pp_8 qq_0 qq_1 qq_2 qq_3 qq_4 qq_5 qq_6 qq_7 qq_8 kr kc n a_11.1 a_11.2 = some w12) (fun a_11 h => ?_) (fun n ih_11 a_11 h H locs hP hD hS ls hl => ?_) (fun LL => ?_)
      · exact sp_n ((f_L_asks_l65_z _ _ _ _ _ _ _ _ _ _ _ _ _ _ _ _ _ _ _ _ _ _ _ _ _ _ _ _ _ _ _ _).symm.trans h)
      · obtain ⟨x7_11, kv0_11⟩ := a_11
        have h := (f_L_asks_l65_s lo yy_0 yy_1 yy_2 yy_3 yy_4 yy_5 yy_6 yy_7 yy_8 pp_0 pp_1 pp_2 pp_3 pp_4 pp_5 pp_6 pp_7 pp_8 qq_0 qq_1 qq_2 qq_3 qq_4 qq_5 qq_6 qq_7 qq_8 kr kc n x7_11 kv0_11).symm.trans h
        have hP : va_P G.1 vwCl ((wXO xa (ya 0) la (pa 0) (qa 0)) ++ ((wLO G la lo) ++ ((wSYc G ya yy_0 yy_1 yy_2 yy_3 yy_4 yy_5 yy_6 yy_7 yy_8) ++ ((wPLc G pa pp_0 pp_1 pp_2 pp_3 pp_4 pp_5 pp_6 pp_7 pp_8) ++ ((wPLc G qa qq_0 qq_1 qq_2 qq_3 qq_4 qq_5 qq_6 qq_7 qq_8) ++ ((wAR G aka 60 ka) ++ ((wAR G akr 24 kr) ++ ((wAR G akc 1 kc) ++ ((wAR G ake 60 w2) ++ ((wAR G akv 36 kv0_11) ++ ((wAR G akp 12 kp)))))))))))) H := hP
        have hD : va_D A ((wXO xa (ya 0) la (pa 0) (qa 0)) ++ ((wLO G la lo) ++ ((wSYc G ya yy_0 yy_1 yy_2 yy_3 yy_4 yy_5 yy_6 yy_7 yy_8) ++ ((wPLc G pa pp_0 pp_1 pp_2 pp_3 pp_4 pp_5 pp_6 pp_7 pp_8) ++ ((wPLc G qa qq_0 qq_1 qq_2 qq_3 qq_4 qq_5 qq_6 qq_7 qq_8) ++ ((wAR G aka 60 ka) ++ ((wAR G akr 24 kr) ++ ((wAR G akc 1 kc) ++ ((wAR G ake 60 w2) ++ ((wAR G akv 36 kv0_11) ++ ((wAR G akp 12 kp)))))))))))) := hD
        have hl : lv_has ls 8 [(7, .int x7_11), (0, .ref xa), (2, .ref akr), (3, .ref akc), (5, .ref akv), (6, .ref akp)] := hl
        refine lv_iload hx hb dL_asks_65 (lv_at hl 0 rfl) ?_
        refine lv_bipush (v := (36 : Int32)) hx hb dL_asks_67 (by decide) ?_
        refine lv_icmp_ge (tgt := 124) hx hb dL_asks_69 (by decide) (fun c13 => ?_) (fun c13 => ?_)
        · have h := sp_t c13 h
          obtain rfl := sp_s h
          exact J11 _ _ hP hD hS _ (lv_sub hl [1, 3, 5] rfl)
        · have h := sp_f c13 h
          refine lv_aload hx hb dL_asks_72 (lv_at hl 4 rfl) ?_
          refine lv_iload hx hb dL_asks_74 (lv_at hl 0 rfl) ?_
          refine lv_iload hx hb dL_asks_76 (lv_at hl 0 rfl) ?_
          refine lv_iconst (v := (3 : Int32)) hx hb dL_asks_78 (by decide) ?_
          refine lv_idiv hx hb dL_asks_79 (by decide) ?_
          refine lv_aload_n hx hb dL_asks_80 rfl (lv_at hl 3 rfl) ?_
          refine lv_iconst (v := (0 : Int32)) hx hb dL_asks_81 (by decide) ?_
          refine va_iald hx hb hK hP 27 0 rfl rfl (xk_in0_1) dL_asks_82 ?_
          refine lv_icmp_ge (tgt := 116) hx hb dL_asks_83 (by decide) (fun c14 => ?_) (fun c14 => ?_)
          · have h := sp_t c14 h
            refine lv_iconst (v := ((-1) : Int32)) hx hb dL_asks_116 (by decide) ?_
            obtain ⟨hin15, h⟩ := sp_g h
            refine va_iast hx hb hK hP hD hS 29 0 rfl rfl hin15 dL_asks_117 (fun H locs hP hD hS => ?_)
            have hP : va_P G.1 vwCl ((wXO xa (ya 0) la (pa 0) (qa 0)) ++ ((wLO G la lo) ++ ((wSYc G ya yy_0 yy_1 yy_2 yy_3 yy_4 yy_5 yy_6 yy_7 yy_8) ++ ((wPLc G pa pp_0 pp_1 pp_2 pp_3 pp_4 pp_5 pp_6 pp_7 pp_8) ++ ((wPLc G qa qq_0 qq_1 qq_2 qq_3 qq_4 qq_5 qq_6 qq_7 qq_8) ++ ((wAR G aka 60 ka) ++ ((wAR G akr 24 kr) ++ ((wAR G akc 1 kc) ++ ((wAR G ake 60 w2) ++ ((wAR G akv 36 (upd kv0_11 x7_11.toNatClampNeg ((-1) : Int32))) ++ ((wAR G akp 12 kp)))))))))))) H := hP
            have hD : va_D A ((wXO xa (ya 0) la (pa 0) (qa 0)) ++ ((wLO G la lo) ++ ((wSYc G ya yy_0 yy_1 yy_2 yy_3 yy_4 yy_5 yy_6 yy_7 yy_8) ++ ((wPLc G pa pp_0 pp_1 pp_2 pp_3 pp_4 pp_5 pp_6 pp_7 pp_8) ++ ((wPLc G qa qq_0 qq_1 qq_2 qq_3 qq_4 qq_5 qq_6 qq_7 qq_8) ++ ((wAR G aka 60 ka) ++ ((wAR G akr 24 kr) ++ ((wAR G akc 1 kc) ++ ((wAR G ake 60 w2) ++ ((wAR G akv 36 (upd kv0_11 x7_11.toNatClampNeg ((-1) : Int32))) ++ ((wAR G akp 12 kp)))))))))))) := hD
            refine lv_iinc (v := (x7_11 + (1 : Int32))) (lv' := [(7, .int (x7_11 + (1 : Int32))), (0, .ref xa), (2, .ref akr), (3, .ref akc), (5, .ref akv), (6, .ref akp)]) hx hb dL_asks_118 hl (k := 0) rfl rfl (by decide) rfl (fun ls hl => ?_)
            refine lv_goto (tgt := 65) hx hb dL_asks_121 (by decide) ?_
            exact ih_11 ((x7_11 + (1 : Int32)), (upd kv0_11 x7_11.toNatClampNeg ((-1) : Int32))) h _ _ hP hD hS _ (lv_sub hl [0, 1, 2, 3, 4, 5] rfl)
          · have h := sp_f c14 h
            refine lv_iload hx hb dL_asks_86 (lv_at hl 0 rfl) ?_
            refine lv_iconst (v := (3 : Int32)) hx hb dL_asks_88 (by decide) ?_
            refine lv_irem hx hb dL_asks_89 (by decide) ?_
            refine lv_aload_n hx hb dL_asks_90 rfl (lv_at hl 2 rfl) ?_
            refine lv_iconst (v := (2 : Int32)) hx hb dL_asks_91 (by decide) ?_
            refine lv_iload hx hb dL_asks_92 (lv_at hl 0 rfl) ?_
            refine lv_iconst (v := (3 : Int32)) hx hb dL_asks_94 (by decide) ?_
            refine lv_idiv hx hb dL_asks_95 (by decide) ?_
            refine lv_imul hx hb dL_asks_96 ?_
            obtain ⟨hin16, h⟩ := sp_g h
            refine va_iald hx hb hK hP 26 0 rfl rfl hin16 dL_asks_97 ?_
            refine lv_icmp_ge (tgt := 116) hx hb dL_asks_98 (by decide) (fun c17 => ?_) (fun c17 => ?_)
            · have h := sp_t c17 h
              refine lv_iconst (v := ((-1) : Int32)) hx hb dL_asks_116 (by decide) ?_
              obtain ⟨hin18, h⟩ := sp_g h
              refine va_iast hx hb hK hP hD hS 29 0 rfl rfl hin18 dL_asks_117 (fun H locs hP hD hS => ?_)
              have hP : va_P G.1 vwCl ((wXO xa (ya 0) la (pa 0) (qa 0)) ++ ((wLO G la lo) ++ ((wSYc G ya yy_0 yy_1 yy_2 yy_3 yy_4 yy_5 yy_6 yy_7 yy_8) ++ ((wPLc G pa pp_0 pp_1 pp_2 pp_3 pp_4 pp_5 pp_6 pp_7 pp_8) ++ ((wPLc G qa qq_0 qq_1 qq_2 qq_3 qq_4 qq_5 qq_6 qq_7 qq_8) ++ ((wAR G aka 60 ka) ++ ((wAR G akr 24 kr) ++ ((wAR G akc 1 kc) ++ ((wAR G ake 60 w2) ++ ((wAR G akv 36 (upd kv0_11 x7_11.toNatClampNeg ((-1) : Int32))) ++ ((wAR G akp 12 kp)))))))))))) H := hP
              have hD : va_D A ((wXO xa (ya 0) la (pa 0) (qa 0)) ++ ((wLO G la lo) ++ ((wSYc G ya yy_0 yy_1 yy_2 yy_3 yy_4 yy_5 yy_6 yy_7 yy_8) ++ ((wPLc G pa pp_0 pp_1 pp_2 pp_3 pp_4 pp_5 pp_6 pp_7 pp_8) ++ ((wPLc G qa qq_0 qq_1 qq_2 qq_3 qq_4 qq_5 qq_6 qq_7 qq_8) ++ ((wAR G aka 60 ka) ++ ((wAR G akr 24 kr) ++ ((wAR G akc 1 kc) ++ ((wAR G ake 60 w2) ++ ((wAR G akv 36 (upd kv0_11 x7_11.toNatClampNeg ((-1) : Int32))) ++ ((wAR G akp 12 kp)))))))))))) := hD
              refine lv_iinc (v := (x7_11 + (1 : Int32))) (lv' := [(7, .int (x7_11 + (1 : Int32))), (0, .ref xa), (2, .ref akr), (3, .ref akc), (5, .ref akv), (6, .ref akp)]) hx hb dL_asks_118 hl (k := 0) rfl rfl (by decide) rfl (fun ls hl => ?_)
              refine lv_goto (tgt := 65) hx hb dL_asks_121 (by decide) ?_
              exact ih_11 ((x7_11 + (1 : Int32)), (upd kv0_11 x7_11.toNatClampNeg ((-1) : Int32))) h _ _ hP hD hS _ (lv_sub hl [0, 1, 2, 3, 4, 5] rfl)
            · have h := sp_f c17 h
              refine lv_aload_n hx hb dL_asks_101 rfl (lv_at hl 1 rfl) ?_
              refine lv_iload hx hb dL_asks_102 (lv_at hl 0 rfl) ?_
              refine lv_iconst (v := (3 : Int32)) hx hb dL_asks_104 (by decide) ?_
              refine lv_idiv hx hb dL_asks_105 (by decide) ?_
              refine lv_iload hx hb dL_asks_106 (lv_at hl 0 rfl) ?_
              refine lv_iconst (v := (3 : Int32)) hx hb dL_asks_108 (by decide) ?_
              refine lv_irem hx hb dL_asks_109 (by decide) ?_
              obtain ⟨o19, ho19, h⟩ := sp_b h
              have hP9 : va_P G.1 vwCl (((wAR G aka 60 ka) ++ ((wAR G akr 24 kr) ++ ((wAR G akc 1 kc) ++ ((wAR G ake 60 w2) ++ ((wAR G akv 36 kv0_11) ++ ((wAR G akp 12 kp))))))) ++ ((wXO xa (ya 0) la (pa 0) (qa 0)) ++ ((wLO G la lo) ++ ((wSYc G ya yy_0 yy_1 yy_2 yy_3 yy_4 yy_5 yy_6 yy_7 yy_8) ++ ((wPLc G pa pp_0 pp_1 pp_2 pp_3 pp_4 pp_5 pp_6 pp_7 pp_8) ++ ((wPLc G qa qq_0 qq_1 qq_2 qq_3 qq_4 qq_5 qq_6 qq_7 qq_8))))))) H := xf_P (xf_p_11_56789a_01234 (wXO xa (ya 0) la (pa 0) (qa 0)) (wLO G la lo) (wSYc G ya yy_0 yy_1 yy_2 yy_3 yy_4 yy_5 yy_6 yy_7 yy_8) (wPLc G pa pp_0 pp_1 pp_2 pp_3 pp_4 pp_5 pp_6 pp_7 pp_8) (wPLc G qa qq_0 qq_1 qq_2 qq_3 qq_4 qq_5 qq_6 qq_7 qq_8) (wAR G aka 60 ka) (wAR G akr 24 kr) (wAR G akc 1 kc) (wAR G ake 60 w2) (wAR G akv 36 kv0_11) (wAR G akp 12 kp)) hP
              have hD9 : va_D A (((wAR G aka 60 ka) ++ ((wAR G akr 24 kr) ++ ((wAR G akc 1 kc) ++ ((wAR G ake 60 w2) ++ ((wAR G akv 36 kv0_11) ++ ((wAR G akp 12 kp))))))) ++ ((wXO xa (ya 0) la (pa 0) (qa 0)) ++ ((wLO G la lo) ++ ((wSYc G ya yy_0 yy_1 yy_2 yy_3 yy_4 yy_5 yy_6 yy_7 yy_8) ++ ((wPLc G pa pp_0 pp_1 pp_2 pp_3 pp_4 pp_5 pp_6 pp_7 pp_8) ++ ((wPLc G qa qq_0 qq_1 qq_2 qq_3 qq_4 qq_5 qq_6 qq_7 qq_8))))))) := xf_D (xf_p_11_56789a_01234 (wXO xa (ya 0) la (pa 0) (qa 0)) (wLO G la lo) (wSYc G ya yy_0 yy_1 yy_2 yy_3 yy_4 yy_5 yy_6 yy_7 yy_8) (wPLc G pa pp_0 pp_1 pp_2 pp_3 pp_4 pp_5 pp_6 pp_7 pp_8) (wPLc G qa qq_0 qq_1 qq_2 qq_3 qq_4 qq_5 qq_6 qq_7 qq_8) (wAR G aka 60 ka) (wAR G akr 24 kr) (wAR G akc 1 kc) (wAR G ake 60 w2) (wAR G akv 36 kv0_11) (wAR G akp 12 kp)) hD
              refine xf_ci (va_runV (As := [.int (x7_11 / (3 : Int32)), .int (x7_11 - x7_11 / (3 : Int32) * (3 : Int32))]) (rest := [.int x7_11, .ref akv]) ⟨hx, hb, hml, hown, hts⟩ (c_X2_revisitDay l G xa la ya pa qa lo (yy_0, yy_1, yy_2, yy_3, yy_4, yy_5, yy_6, yy_7, yy_8) (pp_0, pp_1, pp_2, pp_3, pp_4, pp_5, pp_6, pp_7, pp_8) (qq_0, qq_1, qq_2, qq_3, qq_4, qq_5, qq_6, qq_7, qq_8) (x7_11 / (3 : Int32)) (x7_11 - x7_11 / (3 : Int32) * (3 : Int32)) o19 ho19 H.size) (cwV 2 hts gL_asks_X2_revisitDay rfl rfl rfl (by decide +kernel) ⟨(Nat.le_of_ble_eq_true rfl), (Nat.le_of_ble_eq_true rfl)⟩) (xk_preV hK hNE (xf_pr hP9) (xf_dr hD9) (ci := 2) rfl rfl) rfl rfl hl.1 rfl (lv_room (Nat.le_of_ble_eq_true rfl)) dL_asks_110 ⟨(Nat.le_of_ble_eq_true rfl), (Nat.le_of_ble_eq_true rfl)⟩) hP9 hD9 hS hA (fun H locs hP hD hS => ?_)
              have hP : va_P G.1 vwCl ((wXO xa (ya 0) la (pa 0) (qa 0)) ++ ((wLO G la lo) ++ ((wSYc G ya yy_0 yy_1 yy_2 yy_3 yy_4 yy_5 yy_6 yy_7 yy_8) ++ ((wPLc G pa pp_0 pp_1 pp_2 pp_3 pp_4 pp_5 pp_6 pp_7 pp_8) ++ ((wPLc G qa qq_0 qq_1 qq_2 qq_3 qq_4 qq_5 qq_6 qq_7 qq_8) ++ ((wAR G aka 60 ka) ++ ((wAR G akr 24 kr) ++ ((wAR G akc 1 kc) ++ ((wAR G ake 60 w2) ++ ((wAR G akv 36 kv0_11) ++ ((wAR G akp 12 kp)))))))))))) H := xf_P (xf_p_11_56789a_01234 (wXO xa (ya 0) la (pa 0) (qa 0)) (wLO G la lo) (wSYc G ya yy_0 yy_1 yy_2 yy_3 yy_4 yy_5 yy_6 yy_7 yy_8) (wPLc G pa pp_0 pp_1 pp_2 pp_3 pp_4 pp_5 pp_6 pp_7 pp_8) (wPLc G qa qq_0 qq_1 qq_2 qq_3 qq_4 qq_5 qq_6 qq_7 qq_8) (wAR G aka 60 ka) (wAR G akr 24 kr) (wAR G akc 1 kc) (wAR G ake 60 w2) (wAR G akv 36 kv0_11) (wAR G akp 12 kp)).symm (show va_P G.1 vwCl (((wAR G aka 60 ka) ++ ((wAR G akr 24 kr) ++ ((wAR G akc 1 kc) ++ ((wAR G ake 60 w2) ++ ((wAR G akv 36 kv0_11) ++ ((wAR G akp 12 kp))))))) ++ ((wXO xa (ya 0) la (pa 0) (qa 0)) ++ ((wLO G la lo) ++ ((wSYc G ya yy_0 yy_1 yy_2 yy_3 yy_4 yy_5 yy_6 yy_7 yy_8) ++ ((wPLc G pa pp_0 pp_1 pp_2 pp_3 pp_4 pp_5 pp_6 pp_7 pp_8) ++ ((wPLc G qa qq_0 qq_1 qq_2 qq_3 qq_4 qq_5 qq_6 qq_7 qq_8))))))) H from hP)
              have hD : va_D A ((wXO xa (ya 0) la (pa 0) (qa 0)) ++ ((wLO G la lo) ++ ((wSYc G ya yy_0 yy_1 yy_2 yy_3 yy_4 yy_5 yy_6 yy_7 yy_8) ++ ((wPLc G pa pp_0 pp_1 pp_2 pp_3 pp_4 pp_5 pp_6 pp_7 pp_8) ++ ((wPLc G qa qq_0 qq_1 qq_2 qq_3 qq_4 qq_5 qq_6 qq_7 qq_8) ++ ((wAR G aka 60 ka) ++ ((wAR G akr 24 kr) ++ ((wAR G akc 1 kc) ++ ((wAR G ake 60 w2) ++ ((wAR G akv 36 kv0_11) ++ ((wAR G akp 12 kp)))))))))))) := xf_D (xf_p_11_56789a_01234 (wXO xa (ya 0) la (pa 0) (qa 0)) (wLO G la lo) (wSYc G ya yy_0 yy_1 yy_2 yy_3 yy_4 yy_5 yy_6 yy_7 yy_8) (wPLc G pa pp_0 pp_1 pp_2 pp_3 pp_4 pp_5 pp_6 pp_7 pp_8) (wPLc G qa qq_0 qq_1 qq_2 qq_3 qq_4 qq_5 qq_6 qq_7 qq_8) (wAR G aka 60 ka) (wAR G akr 24 kr) (wAR G akc 1 kc) (wAR G ake 60 w2) (wAR G akv 36 kv0_11) (wAR G akp 12 kp)).symm (show va_D A (((wAR G aka 60 ka) ++ ((wAR G akr 24 kr) ++ ((wAR G akc 1 kc) ++ ((wAR G ake 60 w2) ++ ((wAR G akv 36 kv0_11) ++ ((wAR G akp 12 kp))))))) ++ ((wXO xa (ya 0) la (pa 0) (qa 0)) ++ ((wLO G la lo) ++ ((wSYc G ya yy_0 yy_1 yy_2 yy_3 yy_4 yy_5 yy_6 yy_7 yy_8) ++ ((wPLc G pa pp_0 pp_1 pp_2 pp_3 pp_4 pp_5 pp_6 pp_7 pp_8) ++ ((wPLc G qa qq_0 qq_1 qq_2 qq_3 qq_4 qq_5 qq_6 qq_7 qq_8))))))) from hD)
              refine lv_goto (tgt := 117) hx hb dL_asks_113 (by decide) ?_
              obtain ⟨hin20, h⟩ := sp_g h
              refine va_iast hx hb hK hP hD hS 29 0 rfl rfl hin20 dL_asks_117 (fun H locs hP hD hS => ?_)
              have hP : va_P G.1 vwCl ((wXO xa (ya 0) la (pa 0) (qa 0)) ++ ((wLO G la lo) ++ ((wSYc G ya yy_0 yy_1 yy_2 yy_3 yy_4 yy_5 yy_6 yy_7 yy_8) ++ ((wPLc G pa pp_0 pp_1 pp_2 pp_3 pp_4 pp_5 pp_6 pp_7 pp_8) ++ ((wPLc G qa qq_0 qq_1 qq_2 qq_3 qq_4 qq_5 qq_6 qq_7 qq_8) ++ ((wAR G aka 60 ka) ++ ((wAR G akr 24 kr) ++ ((wAR G akc 1 kc) ++ ((wAR G ake 60 w2) ++ ((wAR G akv 36 (upd kv0_11 x7_11.toNatClampNeg o19)) ++ ((wAR G akp 12 kp)))))))))))) H := hP
              have hD : va_D A ((wXO xa (ya 0) la (pa 0) (qa 0)) ++ ((wLO G la lo) ++ ((wSYc G ya yy_0 yy_1 yy_2 yy_3 yy_4 yy_5 yy_6 yy_7 yy_8) ++ ((wPLc G pa pp_0 pp_1 pp_2 pp_3 pp_4 pp_5 pp_6 pp_7 pp_8) ++ ((wPLc G qa qq_0 qq_1 qq_2 qq_3 qq_4 qq_5 qq_6 qq_7 qq_8) ++ ((wAR G aka 60 ka) ++ ((wAR G akr 24 kr) ++ ((wAR G akc 1 kc) ++ ((wAR G ake 60 w2) ++ ((wAR G akv 36 (upd kv0_11 x7_11.toNatClampNeg o19)) ++ ((wAR G akp 12 kp)))))))))))) := hD
              refine lv_iinc (v := (x7_11 + (1 : Int32))) (lv' := [(7, .int (x7_11 + (1 : Int32))), (0, .ref xa), (2, .ref akr), (3, .ref akc), (5, .ref akv), (6, .ref akp)]) hx hb dL_asks_118 hl (k := 0) rfl rfl (by decide) rfl (fun ls hl => ?_)
              refine lv_goto (tgt := 65) hx hb dL_asks_121 (by decide) ?_
              exact ih_11 ((x7_11 + (1 : Int32)), (upd kv0_11 x7_11.toNatClampNeg o19)) h _ _ hP hD hS _ (lv_sub hl [0, 1, 2, 3, 4, 5] rfl)
      · exact LL 300 ((0 : Int32), kv) h _ _ hP hD hS _ (lv_sub hl [0, 1, 2, 3, 4, 5] rfl)
  · have h := hw2
    clear hw2
    refine xk_lp (α := Int32 × xF) G A s.heap (fun a_1 => ((wXO xa (ya 0) la (pa 0) (qa 0)) ++ ((wLO G la lo) ++ ((wSYc G ya yy_0 yy_1 yy_2 yy_3 yy_4 yy_5 yy_6 yy_7 yy_8) ++ ((wPLc G pa pp_0 pp_1 pp_2 pp_3 pp_4 pp_5 pp_6 pp_7 pp_8) ++ ((wPLc G qa qq_0 qq_1 qq_2 qq_3 qq_4 qq_5 qq_6 qq_7 qq_8) ++ ((wAR G aka 60 ka) ++ ((wAR G akr 24 kr) ++ ((wAR G akc 1 kc) ++ ((wAR G ake 60 a_1.2) ++ ((wAR G akv 36 kv) ++ ((wAR G akp 12 kp))))))))))))) 8 (fun a_1 => [(7, .int a_1.1), (0, .ref xa), (1, .ref aka), (2, .ref akr), (3, .ref akc), (4, .ref ake), (5, .ref akv), (6, .ref akp)]) 3 (fun n a_1 => f_L_asks_l3 lo yy_0 yy_1 yy_2 yy_3 yy_4 yy_5 yy_6 yy_7 yy_8 pp_0 pp_1 pp_2 pp_3 pp_4 pp_5 pp_6 pp_7 pp_8 qq_0 qq_1 qq_2 qq_3 qq_4 qq_5 qq_6 qq_7 qq_8 ka kc n a_1.1 a_1.2 = some w2) (fun a_1 h => ?_) (fun n ih_1 a_1 h H locs hP hD hS ls hl => ?_) (fun LL => ?_)
    · exact sp_n ((f_L_asks_l3_z _ _ _ _ _ _ _ _ _ _ _ _ _ _ _ _ _ _ _ _ _ _ _ _ _ _ _ _ _ _ _ _).symm.trans h)
    · obtain ⟨x7_1, ke0_1⟩ := a_1
      have h := (f_L_asks_l3_s lo yy_0 yy_1 yy_2 yy_3 yy_4 yy_5 yy_6 yy_7 yy_8 pp_0 pp_1 pp_2 pp_3 pp_4 pp_5 pp_6 pp_7 pp_8 qq_0 qq_1 qq_2 qq_3 qq_4 qq_5 qq_6 qq_7 qq_8 ka kc n x7_1 ke0_1).symm.trans h
      have hP : va_P G.1 vwCl ((wXO xa (ya 0) la (pa 0) (qa 0)) ++ ((wLO G la lo) ++ ((wSYc G ya yy_0 yy_1 yy_2 yy_3 yy_4 yy_5 yy_6 yy_7 yy_8) ++ ((wPLc G pa pp_0 pp_1 pp_2 pp_3 pp_4 pp_5 pp_6 pp_7 pp_8) ++ ((wPLc G qa qq_0 qq_1 qq_2 qq_3 qq_4 qq_5 qq_6 qq_7 qq_8) ++ ((wAR G aka 60 ka) ++ ((wAR G akr 24 kr) ++ ((wAR G akc 1 kc) ++ ((wAR G ake 60 ke0_1) ++ ((wAR G akv 36 kv) ++ ((wAR G akp 12 kp)))))))))))) H := hP
      have hD : va_D A ((wXO xa (ya 0) la (pa 0) (qa 0)) ++ ((wLO G la lo) ++ ((wSYc G ya yy_0 yy_1 yy_2 yy_3 yy_4 yy_5 yy_6 yy_7 yy_8) ++ ((wPLc G pa pp_0 pp_1 pp_2 pp_3 pp_4 pp_5 pp_6 pp_7 pp_8) ++ ((wPLc G qa qq_0 qq_1 qq_2 qq_3 qq_4 qq_5 qq_6 qq_7 qq_8) ++ ((wAR G aka 60 ka) ++ ((wAR G akr 24 kr) ++ ((wAR G akc 1 kc) ++ ((wAR G ake 60 ke0_1) ++ ((wAR G akv 36 kv) ++ ((wAR G akp 12 kp)))))))))))) := hD
      have hl : lv_has ls 8 [(7, .int x7_1), (0, .ref xa), (1, .ref aka), (2, .ref akr), (3, .ref akc), (4, .ref ake), (5, .ref akv), (6, .ref akp)] := hl
      refine lv_iload hx hb dL_asks_3 (lv_at hl 0 rfl) ?_
      refine lv_bipush (v := (60 : Int32)) hx hb dL_asks_5 (by decide) ?_
      refine lv_icmp_ge (tgt := 62) hx hb dL_asks_7 (by decide) (fun c3 => ?_) (fun c3 => ?_)
      · have h := sp_t c3 h
        obtain rfl := sp_s h
        exact J1 _ _ hP hD hS _ (lv_sub hl [1, 3, 4, 6, 7] rfl)
      · have h := sp_f c3 h
        refine lv_aload hx hb dL_asks_10 (lv_at hl 5 rfl) ?_
        refine lv_iload hx hb dL_asks_12 (lv_at hl 0 rfl) ?_
        refine lv_iload hx hb dL_asks_14 (lv_at hl 0 rfl) ?_
        refine lv_iconst (v := (5 : Int32)) hx hb dL_asks_16 (by decide) ?_
        refine lv_idiv hx hb dL_asks_17 (by decide) ?_
        refine lv_aload_n hx hb dL_asks_18 rfl (lv_at hl 4 rfl) ?_
        refine lv_iconst (v := (0 : Int32)) hx hb dL_asks_19 (by decide) ?_
        refine va_iald hx hb hK hP 27 0 rfl rfl (xk_in0_1) dL_asks_20 ?_
        refine lv_icmp_ge (tgt := 54) hx hb dL_asks_21 (by decide) (fun c4 => ?_) (fun c4 => ?_)
        · have h := sp_t c4 h
          refine lv_iconst (v := ((-1) : Int32)) hx hb dL_asks_54 (by decide) ?_
          obtain ⟨hin5, h⟩ := sp_g h
          refine va_iast hx hb hK hP hD hS 28 0 rfl rfl hin5 dL_asks_55 (fun H locs hP hD hS => ?_)
          have hP : va_P G.1 vwCl ((wXO xa (ya 0) la (pa 0) (qa 0)) ++ ((wLO G la lo) ++ ((wSYc G ya yy_0 yy_1 yy_2 yy_3 yy_4 yy_5 yy_6 yy_7 yy_8) ++ ((wPLc G pa pp_0 pp_1 pp_2 pp_3 pp_4 pp_5 pp_6 pp_7 pp_8) ++ ((wPLc G qa qq_0 qq_1 qq_2 qq_3 qq_4 qq_5 qq_6 qq_7 qq_8) ++ ((wAR G aka 60 ka) ++ ((wAR G akr 24 kr) ++ ((wAR G akc 1 kc) ++ ((wAR G ake 60 (upd ke0_1 x7_1.toNatClampNeg ((-1) : Int32))) ++ ((wAR G akv 36 kv) ++ ((wAR G akp 12 kp)))))))))))) H := hP
          have hD : va_D A ((wXO xa (ya 0) la (pa 0) (qa 0)) ++ ((wLO G la lo) ++ ((wSYc G ya yy_0 yy_1 yy_2 yy_3 yy_4 yy_5 yy_6 yy_7 yy_8) ++ ((wPLc G pa pp_0 pp_1 pp_2 pp_3 pp_4 pp_5 pp_6 pp_7 pp_8) ++ ((wPLc G qa qq_0 qq_1 qq_2 qq_3 qq_4 qq_5 qq_6 qq_7 qq_8) ++ ((wAR G aka 60 ka) ++ ((wAR G akr 24 kr) ++ ((wAR G akc 1 kc) ++ ((wAR G ake 60 (upd ke0_1 x7_1.toNatClampNeg ((-1) : Int32))) ++ ((wAR G akv 36 kv) ++ ((wAR G akp 12 kp)))))))))))) := hD
          refine lv_iinc (v := (x7_1 + (1 : Int32))) (lv' := [(7, .int (x7_1 + (1 : Int32))), (0, .ref xa), (1, .ref aka), (2, .ref akr), (3, .ref akc), (4, .ref ake), (5, .ref akv), (6, .ref akp)]) hx hb dL_asks_56 hl (k := 0) rfl rfl (by decide) rfl (fun ls hl => ?_)
          refine lv_goto (tgt := 3) hx hb dL_asks_59 (by decide) ?_
          exact ih_1 ((x7_1 + (1 : Int32)), (upd ke0_1 x7_1.toNatClampNeg ((-1) : Int32))) h _ _ hP hD hS _ (lv_sub hl [0, 1, 2, 3, 4, 5, 6, 7] rfl)
        · have h := sp_f c4 h
          refine lv_iload hx hb dL_asks_24 (lv_at hl 0 rfl) ?_
          refine lv_iconst (v := (5 : Int32)) hx hb dL_asks_26 (by decide) ?_
          refine lv_irem hx hb dL_asks_27 (by decide) ?_
          refine lv_aload_n hx hb dL_asks_28 rfl (lv_at hl 2 rfl) ?_
          refine lv_iconst (v := (5 : Int32)) hx hb dL_asks_29 (by decide) ?_
          refine lv_iload hx hb dL_asks_30 (lv_at hl 0 rfl) ?_
          refine lv_iconst (v := (5 : Int32)) hx hb dL_asks_32 (by decide) ?_
          refine lv_idiv hx hb dL_asks_33 (by decide) ?_
          refine lv_imul hx hb dL_asks_34 ?_
          obtain ⟨hin6, h⟩ := sp_g h
          refine va_iald hx hb hK hP 25 0 rfl rfl hin6 dL_asks_35 ?_
          refine lv_icmp_ge (tgt := 54) hx hb dL_asks_36 (by decide) (fun c7 => ?_) (fun c7 => ?_)
          · have h := sp_t c7 h
            refine lv_iconst (v := ((-1) : Int32)) hx hb dL_asks_54 (by decide) ?_
            obtain ⟨hin8, h⟩ := sp_g h
            refine va_iast hx hb hK hP hD hS 28 0 rfl rfl hin8 dL_asks_55 (fun H locs hP hD hS => ?_)
            have hP : va_P G.1 vwCl ((wXO xa (ya 0) la (pa 0) (qa 0)) ++ ((wLO G la lo) ++ ((wSYc G ya yy_0 yy_1 yy_2 yy_3 yy_4 yy_5 yy_6 yy_7 yy_8) ++ ((wPLc G pa pp_0 pp_1 pp_2 pp_3 pp_4 pp_5 pp_6 pp_7 pp_8) ++ ((wPLc G qa qq_0 qq_1 qq_2 qq_3 qq_4 qq_5 qq_6 qq_7 qq_8) ++ ((wAR G aka 60 ka) ++ ((wAR G akr 24 kr) ++ ((wAR G akc 1 kc) ++ ((wAR G ake 60 (upd ke0_1 x7_1.toNatClampNeg ((-1) : Int32))) ++ ((wAR G akv 36 kv) ++ ((wAR G akp 12 kp)))))))))))) H := hP
            have hD : va_D A ((wXO xa (ya 0) la (pa 0) (qa 0)) ++ ((wLO G la lo) ++ ((wSYc G ya yy_0 yy_1 yy_2 yy_3 yy_4 yy_5 yy_6 yy_7 yy_8) ++ ((wPLc G pa pp_0 pp_1 pp_2 pp_3 pp_4 pp_5 pp_6 pp_7 pp_8) ++ ((wPLc G qa qq_0 qq_1 qq_2 qq_3 qq_4 qq_5 qq_6 qq_7 qq_8) ++ ((wAR G aka 60 ka) ++ ((wAR G akr 24 kr) ++ ((wAR G akc 1 kc) ++ ((wAR G ake 60 (upd ke0_1 x7_1.toNatClampNeg ((-1) : Int32))) ++ ((wAR G akv 36 kv) ++ ((wAR G akp 12 kp)))))))))))) := hD
            refine lv_iinc (v := (x7_1 + (1 : Int32))) (lv' := [(7, .int (x7_1 + (1 : Int32))), (0, .ref xa), (1, .ref aka), (2, .ref akr), (3, .ref akc), (4, .ref ake), (5, .ref akv), (6, .ref akp)]) hx hb dL_asks_56 hl (k := 0) rfl rfl (by decide) rfl (fun ls hl => ?_)
            refine lv_goto (tgt := 3) hx hb dL_asks_59 (by decide) ?_
            exact ih_1 ((x7_1 + (1 : Int32)), (upd ke0_1 x7_1.toNatClampNeg ((-1) : Int32))) h _ _ hP hD hS _ (lv_sub hl [0, 1, 2, 3, 4, 5, 6, 7] rfl)
          · have h := sp_f c7 h
            refine lv_aload_n hx hb dL_asks_39 rfl (lv_at hl 1 rfl) ?_
            refine lv_iload hx hb dL_asks_40 (lv_at hl 0 rfl) ?_
            refine lv_iconst (v := (5 : Int32)) hx hb dL_asks_42 (by decide) ?_
            refine lv_idiv hx hb dL_asks_43 (by decide) ?_
            refine lv_iload hx hb dL_asks_44 (lv_at hl 0 rfl) ?_
            refine lv_iconst (v := (5 : Int32)) hx hb dL_asks_46 (by decide) ?_
            refine lv_irem hx hb dL_asks_47 (by decide) ?_
            obtain ⟨o9, ho9, h⟩ := sp_b h
            have hP9 : va_P G.1 vwCl (((wAR G aka 60 ka) ++ ((wAR G akr 24 kr) ++ ((wAR G akc 1 kc) ++ ((wAR G ake 60 ke0_1) ++ ((wAR G akv 36 kv) ++ ((wAR G akp 12 kp))))))) ++ ((wXO xa (ya 0) la (pa 0) (qa 0)) ++ ((wLO G la lo) ++ ((wSYc G ya yy_0 yy_1 yy_2 yy_3 yy_4 yy_5 yy_6 yy_7 yy_8) ++ ((wPLc G pa pp_0 pp_1 pp_2 pp_3 pp_4 pp_5 pp_6 pp_7 pp_8) ++ ((wPLc G qa qq_0 qq_1 qq_2 qq_3 qq_4 qq_5 qq_6 qq_7 qq_8))))))) H := xf_P (xf_p_11_56789a_01234 (wXO xa (ya 0) la (pa 0) (qa 0)) (wLO G la lo) (wSYc G ya yy_0 yy_1 yy_2 yy_3 yy_4 yy_5 yy_6 yy_7 yy_8) (wPLc G pa pp_0 pp_1 pp_2 pp_3 pp_4 pp_5 pp_6 pp_7 pp_8) (wPLc G qa qq_0 qq_1 qq_2 qq_3 qq_4 qq_5 qq_6 qq_7 qq_8) (wAR G aka 60 ka) (wAR G akr 24 kr) (wAR G akc 1 kc) (wAR G ake 60 ke0_1) (wAR G akv 36 kv) (wAR G akp 12 kp)) hP
            have hD9 : va_D A (((wAR G aka 60 ka) ++ ((wAR G akr 24 kr) ++ ((wAR G akc 1 kc) ++ ((wAR G ake 60 ke0_1) ++ ((wAR G akv 36 kv) ++ ((wAR G akp 12 kp))))))) ++ ((wXO xa (ya 0) la (pa 0) (qa 0)) ++ ((wLO G la lo) ++ ((wSYc G ya yy_0 yy_1 yy_2 yy_3 yy_4 yy_5 yy_6 yy_7 yy_8) ++ ((wPLc G pa pp_0 pp_1 pp_2 pp_3 pp_4 pp_5 pp_6 pp_7 pp_8) ++ ((wPLc G qa qq_0 qq_1 qq_2 qq_3 qq_4 qq_5 qq_6 qq_7 qq_8))))))) := xf_D (xf_p_11_56789a_01234 (wXO xa (ya 0) la (pa 0) (qa 0)) (wLO G la lo) (wSYc G ya yy_0 yy_1 yy_2 yy_3 yy_4 yy_5 yy_6 yy_7 yy_8) (wPLc G pa pp_0 pp_1 pp_2 pp_3 pp_4 pp_5 pp_6 pp_7 pp_8) (wPLc G qa qq_0 qq_1 qq_2 qq_3 qq_4 qq_5 qq_6 qq_7 qq_8) (wAR G aka 60 ka) (wAR G akr 24 kr) (wAR G akc 1 kc) (wAR G ake 60 ke0_1) (wAR G akv 36 kv) (wAR G akp 12 kp)) hD
            refine xf_ci (va_runV (As := [.int (x7_1 / (5 : Int32)), .int (x7_1 - x7_1 / (5 : Int32) * (5 : Int32))]) (rest := [.int x7_1, .ref ake]) ⟨hx, hb, hml, hown, hts⟩ (c_X2_lessonDay l G xa la ya pa qa lo (yy_0, yy_1, yy_2, yy_3, yy_4, yy_5, yy_6, yy_7, yy_8) (pp_0, pp_1, pp_2, pp_3, pp_4, pp_5, pp_6, pp_7, pp_8) (qq_0, qq_1, qq_2, qq_3, qq_4, qq_5, qq_6, qq_7, qq_8) (x7_1 / (5 : Int32)) (x7_1 - x7_1 / (5 : Int32) * (5 : Int32)) o9 ho9 H.size) (cwV 2 hts gL_asks_X2_lessonDay rfl rfl rfl (by decide +kernel) ⟨(Nat.le_of_ble_eq_true rfl), (Nat.le_of_ble_eq_true rfl)⟩) (xk_preV hK hNE (xf_pr hP9) (xf_dr hD9) (ci := 2) rfl rfl) rfl rfl hl.1 rfl (lv_room (Nat.le_of_ble_eq_true rfl)) dL_asks_48 ⟨(Nat.le_of_ble_eq_true rfl), (Nat.le_of_ble_eq_true rfl)⟩) hP9 hD9 hS hA (fun H locs hP hD hS => ?_)
            have hP : va_P G.1 vwCl ((wXO xa (ya 0) la (pa 0) (qa 0)) ++ ((wLO G la lo) ++ ((wSYc G ya yy_0 yy_1 yy_2 yy_3 yy_4 yy_5 yy_6 yy_7 yy_8) ++ ((wPLc G pa pp_0 pp_1 pp_2 pp_3 pp_4 pp_5 pp_6 pp_7 pp_8) ++ ((wPLc G qa qq_0 qq_1 qq_2 qq_3 qq_4 qq_5 qq_6 qq_7 qq_8) ++ ((wAR G aka 60 ka) ++ ((wAR G akr 24 kr) ++ ((wAR G akc 1 kc) ++ ((wAR G ake 60 ke0_1) ++ ((wAR G akv 36 kv) ++ ((wAR G akp 12 kp)))))))))))) H := xf_P (xf_p_11_56789a_01234 (wXO xa (ya 0) la (pa 0) (qa 0)) (wLO G la lo) (wSYc G ya yy_0 yy_1 yy_2 yy_3 yy_4 yy_5 yy_6 yy_7 yy_8) (wPLc G pa pp_0 pp_1 pp_2 pp_3 pp_4 pp_5 pp_6 pp_7 pp_8) (wPLc G qa qq_0 qq_1 qq_2 qq_3 qq_4 qq_5 qq_6 qq_7 qq_8) (wAR G aka 60 ka) (wAR G akr 24 kr) (wAR G akc 1 kc) (wAR G ake 60 ke0_1) (wAR G akv 36 kv) (wAR G akp 12 kp)).symm (show va_P G.1 vwCl (((wAR G aka 60 ka) ++ ((wAR G akr 24 kr) ++ ((wAR G akc 1 kc) ++ ((wAR G ake 60 ke0_1) ++ ((wAR G akv 36 kv) ++ ((wAR G akp 12 kp))))))) ++ ((wXO xa (ya 0) la (pa 0) (qa 0)) ++ ((wLO G la lo) ++ ((wSYc G ya yy_0 yy_1 yy_2 yy_3 yy_4 yy_5 yy_6 yy_7 yy_8) ++ ((wPLc G pa pp_0 pp_1 pp_2 pp_3 pp_4 pp_5 pp_6 pp_7 pp_8) ++ ((wPLc G qa qq_0 qq_1 qq_2 qq_3 qq_4 qq_5 qq_6 qq_7 qq_8))))))) H from hP)
            have hD : va_D A ((wXO xa (ya 0) la (pa 0) (qa 0)) ++ ((wLO G la lo) ++ ((wSYc G ya yy_0 yy_1 yy_2 yy_3 yy_4 yy_5 yy_6 yy_7 yy_8) ++ ((wPLc G pa pp_0 pp_1 pp_2 pp_3 pp_4 pp_5 pp_6 pp_7 pp_8) ++ ((wPLc G qa qq_0 qq_1 qq_2 qq_3 qq_4 qq_5 qq_6 qq_7 qq_8) ++ ((wAR G aka 60 ka) ++ ((wAR G akr 24 kr) ++ ((wAR G akc 1 kc) ++ ((wAR G ake 60 ke0_1) ++ ((wAR G akv 36 kv) ++ ((wAR G akp 12 kp)))))))))))) := xf_D (xf_p_11_56789a_01234 (wXO xa (ya 0) la (pa 0) (qa 0)) (wLO G la lo) (wSYc G ya yy_0 yy_1 yy_2 yy_3 yy_4 yy_5 yy_6 yy_7 yy_8) (wPLc G pa pp_0 pp_1 pp_2 pp_3 pp_4 pp_5 pp_6 pp_7 pp_8) (wPLc G qa qq_0 qq_1 qq_2 qq_3 qq_4 qq_5 qq_6 qq_7 qq_8) (wAR G aka 60 ka) (wAR G akr 24 kr) (wAR G akc 1 kc) (wAR G ake 60 ke0_1) (wAR G akv 36 kv) (wAR G akp 12 kp)).symm (show va_D A (((wAR G aka 60 ka) ++ ((wAR G akr 24 kr) ++ ((wAR G akc 1 kc) ++ ((wAR G ake 60 ke0_1) ++ ((wAR G akv 36 kv) ++ ((wAR G akp 12 kp))))))) ++ ((wXO xa (ya 0) la (pa 0) (qa 0)) ++ ((wLO G la lo) ++ ((wSYc G ya yy_0 yy_1 yy_2 yy_3 yy_4 yy_5 yy_6 yy_7 yy_8) ++ ((wPLc G pa pp_0 pp_1 pp_2 pp_3 pp_4 pp_5 pp_6 pp_7 pp_8) ++ ((wPLc G qa qq_0 qq_1 qq_2 qq_3 qq_4 qq_5 qq_6 qq_7 qq_8))))))) from hD)
            refine lv_goto (tgt := 55) hx hb dL_asks_51 (by decide) ?_
            obtain ⟨hin10, h⟩ := sp_g h
            refine va_iast hx hb hK hP hD hS 28 0 rfl rfl hin10 dL_asks_55 (fun H locs hP hD hS => ?_)
            have hP : va_P G.1 vwCl ((wXO xa (ya 0) la (pa 0) (qa 0)) ++ ((wLO G la lo) ++ ((wSYc G ya yy_0 yy_1 yy_2 yy_3 yy_4 yy_5 yy_6 yy_7 yy_8) ++ ((wPLc G pa pp_0 pp_1 pp_2 pp_3 pp_4 pp_5 pp_6 pp_7 pp_8) ++ ((wPLc G qa qq_0 qq_1 qq_2 qq_3 qq_4 qq_5 qq_6 qq_7 qq_8) ++ ((wAR G aka 60 ka) ++ ((wAR G akr 24 kr) ++ ((wAR G akc 1 kc) ++ ((wAR G ake 60 (upd ke0_1 x7_1.toNatClampNeg o9)) ++ ((wAR G akv 36 kv) ++ ((wAR G akp 12 kp)))))))))))) H := hP
            have hD : va_D A ((wXO xa (ya 0) la (pa 0) (qa 0)) ++ ((wLO G la lo) ++ ((wSYc G ya yy_0 yy_1 yy_2 yy_3 yy_4 yy_5 yy_6 yy_7 yy_8) ++ ((wPLc G pa pp_0 pp_1 pp_2 pp_3 pp_4 pp_5 pp_6 pp_7 pp_8) ++ ((wPLc G qa qq_0 qq_1 qq_2 qq_3 qq_4 qq_5 qq_6 qq_7 qq_8) ++ ((wAR G aka 60 ka) ++ ((wAR G akr 24 kr) ++ ((wAR G akc 1 kc) ++ ((wAR G ake 60 (upd ke0_1 x7_1.toNatClampNeg o9)) ++ ((wAR G akv 36 kv) ++ ((wAR G akp 12 kp)))))))))))) := hD
            refine lv_iinc (v := (x7_1 + (1 : Int32))) (lv' := [(7, .int (x7_1 + (1 : Int32))), (0, .ref xa), (1, .ref aka), (2, .ref akr), (3, .ref akc), (4, .ref ake), (5, .ref akv), (6, .ref akp)]) hx hb dL_asks_56 hl (k := 0) rfl rfl (by decide) rfl (fun ls hl => ?_)
            refine lv_goto (tgt := 3) hx hb dL_asks_59 (by decide) ?_
            exact ih_1 ((x7_1 + (1 : Int32)), (upd ke0_1 x7_1.toNatClampNeg o9)) h _ _ hP hD hS _ (lv_sub hl [0, 1, 2, 3, 4, 5, 6, 7] rfl)
    · exact LL 300 ((0 : Int32), ke) h _ _ hP hD hS _ (lv_sub hl [0, 1, 2, 3, 4, 5, 6, 7] rfl)
theorem xf_p_7_56_01234 (g0 g1 g2 g3 g4 g5 g6 : va_W) : List.Perm (g0 ++ (g1 ++ (g2 ++ (g3 ++ (g4 ++ (g5 ++ (g6))))))) ((g5 ++ (g6)) ++ (g0 ++ (g1 ++ (g2 ++ (g3 ++ (g4)))))) := by
  have h1 : List.Perm (g0 ++ (g1 ++ (g2 ++ (g3 ++ (g4 ++ (g5 ++ (g6))))))) (g5 ++ (g6 ++ (g0 ++ (g1 ++ (g2 ++ (g3 ++ (g4))))))) := (((xf_c _ ((xf_c _ ((xf_c _ ((xf_c _ ((xf_c _ (List.Perm.refl _)).trans (xf_s2 _ _ _))).trans (xf_s2 _ _ _))).trans (xf_s2 _ _ _))).trans (xf_s2 _ _ _))).trans (xf_s2 _ _ _)).trans (xf_c _ (((xf_c _ ((xf_c _ ((xf_c _ ((xf_c _ (xf_s1 _ _)).trans (xf_s2 _ _ _))).trans (xf_s2 _ _ _))).trans (xf_s2 _ _ _))).trans (xf_s2 _ _ _)).trans (xf_c _ (List.Perm.refl _)))))
  exact h1.trans (show List.Perm (g5 ++ (g6 ++ (g0 ++ (g1 ++ (g2 ++ (g3 ++ (g4))))))) ((g5 ++ (g6)) ++ (g0 ++ (g1 ++ (g2 ++ (g3 ++ (g4)))))) from ((xf_c _ (List.Perm.refl _)).trans (List.Perm.of_eq (List.append_assoc _ _ _).symm)))
set_option maxHeartbeats 8000000 in
set_option maxRecDepth 100000 in
theorem c_L_isOrder (l : Launch) (G : xG) (xa : Nat) (la : Nat) (ya : (Nat → Nat)) (pa : (Nat → Nat)) (qa : (Nat → Nat)) (aka : Nat) (akc : Nat) (lo : xF) (yy : xSY) (pp : xPL) (qq : xPL) (ka : xF) (kc : xF) (o : Int32) (h : f_L_isOrder lo yy pp qq ka kc = some o) : xk_CI l yL_isOrder wsL_isOrder ({ frames := 4, cells := 0, slots := 0, locals := 88 } : Room) 0 0 [.ref xa, .ref aka, .ref akc] G ((wXO xa (ya 0) la (pa 0) (qa 0)) ++ ((wLO G la lo) ++ ((wSYc G ya yy.1 yy.2.1 yy.2.2.1 yy.2.2.2.1 yy.2.2.2.2.1 yy.2.2.2.2.2.1 yy.2.2.2.2.2.2.1 yy.2.2.2.2.2.2.2.1 yy.2.2.2.2.2.2.2.2) ++ ((wPLc G pa pp.1 pp.2.1 pp.2.2.1 pp.2.2.2.1 pp.2.2.2.2.1 pp.2.2.2.2.2.1 pp.2.2.2.2.2.2.1 pp.2.2.2.2.2.2.2.1 pp.2.2.2.2.2.2.2.2) ++ ((wPLc G qa qq.1 qq.2.1 qq.2.2.1 qq.2.2.2.1 qq.2.2.2.2.1 qq.2.2.2.2.2.1 qq.2.2.2.2.2.2.1 qq.2.2.2.2.2.2.2.1 qq.2.2.2.2.2.2.2.2) ++ ((wAR G aka 60 ka) ++ ((wAR G akc 1 kc)))))))) ((wXO xa (ya 0) la (pa 0) (qa 0)) ++ ((wLO G la lo) ++ ((wSYc G ya yy.1 yy.2.1 yy.2.2.1 yy.2.2.2.1 yy.2.2.2.2.1 yy.2.2.2.2.2.1 yy.2.2.2.2.2.2.1 yy.2.2.2.2.2.2.2.1 yy.2.2.2.2.2.2.2.2) ++ ((wPLc G pa pp.1 pp.2.1 pp.2.2.1 pp.2.2.2.1 pp.2.2.2.2.1 pp.2.2.2.2.2.1 pp.2.2.2.2.2.2.1 pp.2.2.2.2.2.2.2.1 pp.2.2.2.2.2.2.2.2) ++ ((wPLc G qa qq.1 qq.2.1 qq.2.2.1 qq.2.2.2.1 qq.2.2.2.2.1 qq.2.2.2.2.2.1 qq.2.2.2.2.2.2.1 qq.2.2.2.2.2.2.2.1 qq.2.2.2.2.2.2.2.2) ++ ((wAR G aka 60 ka) ++ ((wAR G akc 1 kc)))))))) o := by
  obtain ⟨yy_0, yy_1, yy_2, yy_3, yy_4, yy_5, yy_6, yy_7, yy_8⟩ := yy
  obtain ⟨pp_0, pp_1, pp_2, pp_3, pp_4, pp_5, pp_6, pp_7, pp_8⟩ := pp
  obtain ⟨qq_0, qq_1, qq_2, qq_3, qq_4, qq_5, qq_6, qq_7, qq_8⟩ := qq
  refine xk_CI.of (cc := cL_isOrder) (maxL := 12) (ret := (some .boolean)) (by decide) rfl (Nat.le_of_ble_eq_true rfl) ?_
  intro pr9 en9 s mm9 bl9 meth9 cd9 A ls H locs hx hb hr hml hts hown hlk hA hP hK hD hNE hS hl
  have hown : s.vm.findClass RL = some mm9.cls := hown
  have hl : lv_has ls 12 [(0, .ref xa), (1, .ref aka), (2, .ref akc)] := hl
  have hP : va_P G.1 vwCl ((wXO xa (ya 0) la (pa 0) (qa 0)) ++ ((wLO G la lo) ++ ((wSYc G ya yy_0 yy_1 yy_2 yy_3 yy_4 yy_5 yy_6 yy_7 yy_8) ++ ((wPLc G pa pp_0 pp_1 pp_2 pp_3 pp_4 pp_5 pp_6 pp_7 pp_8) ++ ((wPLc G qa qq_0 qq_1 qq_2 qq_3 qq_4 qq_5 qq_6 qq_7 qq_8) ++ ((wAR G aka 60 ka) ++ ((wAR G akc 1 kc)))))))) H := hP
  have hD : va_D A ((wXO xa (ya 0) la (pa 0) (qa 0)) ++ ((wLO G la lo) ++ ((wSYc G ya yy_0 yy_1 yy_2 yy_3 yy_4 yy_5 yy_6 yy_7 yy_8) ++ ((wPLc G pa pp_0 pp_1 pp_2 pp_3 pp_4 pp_5 pp_6 pp_7 pp_8) ++ ((wPLc G qa qq_0 qq_1 qq_2 qq_3 qq_4 qq_5 qq_6 qq_7 qq_8) ++ ((wAR G aka 60 ka) ++ ((wAR G akc 1 kc)))))))) := hD
  have h := (f_L_isOrder_e lo yy_0 yy_1 yy_2 yy_3 yy_4 yy_5 yy_6 yy_7 yy_8 pp_0 pp_1 pp_2 pp_3 pp_4 pp_5 pp_6 pp_7 pp_8 qq_0 qq_1 qq_2 qq_3 qq_4 qq_5 qq_6 qq_7 qq_8 ka kc).symm.trans h
  refine lv_iconst (v := (0 : Int32)) hx hb dL_isOrder_0 (by decide) ?_
  refine lv_istore_n (lv' := [(3, .int (0 : Int32)), (0, .ref xa), (1, .ref aka), (2, .ref akc)]) hx hb dL_isOrder_1 rfl hl (by decide) rfl (fun ls hl => ?_)
  refine lv_iconst (v := ((-1) : Int32)) hx hb dL_isOrder_2 (by decide) ?_
  refine lv_istore (lv' := [(4, .int ((-1) : Int32)), (3, .int (0 : Int32)), (0, .ref xa), (1, .ref aka), (2, .ref akc)]) hx hb dL_isOrder_3 hl (by decide) rfl (fun ls hl => ?_)
  refine lv_aload_n hx hb dL_isOrder_5 rfl (lv_at hl 2 rfl) ?_
  obtain ⟨o1, ho1, h⟩ := sp_b h
  have hP9 : va_P G.1 vwCl (((wAR G aka 60 ka) ++ ((wAR G akc 1 kc))) ++ ((wXO xa (ya 0) la (pa 0) (qa 0)) ++ ((wLO G la lo) ++ ((wSYc G ya yy_0 yy_1 yy_2 yy_3 yy_4 yy_5 yy_6 yy_7 yy_8) ++ ((wPLc G pa pp_0 pp_1 pp_2 pp_3 pp_4 pp_5 pp_6 pp_7 pp_8) ++ ((wPLc G qa qq_0 qq_1 qq_2 qq_3 qq_4 qq_5 qq_6 qq_7 qq_8))))))) H := xf_P (xf_p_7_56_01234 (wXO xa (ya 0) la (pa 0) (qa 0)) (wLO G la lo) (wSYc G ya yy_0 yy_1 yy_2 yy_3 yy_4 yy_5 yy_6 yy_7 yy_8) (wPLc G pa pp_0 pp_1 pp_2 pp_3 pp_4 pp_5 pp_6 pp_7 pp_8) (wPLc G qa qq_0 qq_1 qq_2 qq_3 qq_4 qq_5 qq_6 qq_7 qq_8) (wAR G aka 60 ka) (wAR G akc 1 kc)) hP
  have hD9 : va_D A (((wAR G aka 60 ka) ++ ((wAR G akc 1 kc))) ++ ((wXO xa (ya 0) la (pa 0) (qa 0)) ++ ((wLO G la lo) ++ ((wSYc G ya yy_0 yy_1 yy_2 yy_3 yy_4 yy_5 yy_6 yy_7 yy_8) ++ ((wPLc G pa pp_0 pp_1 pp_2 pp_3 pp_4 pp_5 pp_6 pp_7 pp_8) ++ ((wPLc G qa qq_0 qq_1 qq_2 qq_3 qq_4 qq_5 qq_6 qq_7 qq_8))))))) := xf_D (xf_p_7_56_01234 (wXO xa (ya 0) la (pa 0) (qa 0)) (wLO G la lo) (wSYc G ya yy_0 yy_1 yy_2 yy_3 yy_4 yy_5 yy_6 yy_7 yy_8) (wPLc G pa pp_0 pp_1 pp_2 pp_3 pp_4 pp_5 pp_6 pp_7 pp_8) (wPLc G qa qq_0 qq_1 qq_2 qq_3 qq_4 qq_5 qq_6 qq_7 qq_8) (wAR G aka 60 ka) (wAR G akc 1 kc)) hD
  refine xf_ci (va_runV (As := []) (rest := []) ⟨hx, hb, hml, hown, hts⟩ (c_X2_aims l G xa la ya pa qa lo (yy_0, yy_1, yy_2, yy_3, yy_4, yy_5, yy_6, yy_7, yy_8) (pp_0, pp_1, pp_2, pp_3, pp_4, pp_5, pp_6, pp_7, pp_8) (qq_0, qq_1, qq_2, qq_3, qq_4, qq_5, qq_6, qq_7, qq_8) o1 ho1 H.size) (cwV 0 hts gL_isOrder_X2_aims rfl rfl rfl (by decide +kernel) ⟨(Nat.le_of_ble_eq_true rfl), (Nat.le_of_ble_eq_true rfl)⟩) (xk_preV hK hNE (xf_pr hP9) (xf_dr hD9) (ci := 2) rfl rfl) rfl rfl hl.1 rfl (lv_room (Nat.le_of_ble_eq_true rfl)) dL_isOrder_6 ⟨(Nat.le_of_ble_eq_true rfl), (Nat.le_of_ble_eq_true rfl)⟩) hP9 hD9 hS hA (fun H locs hP hD hS => ?_)
  have hP : va_P G.1 vwCl ((wXO xa (ya 0) la (pa 0) (qa 0)) ++ ((wLO G la lo) ++ ((wSYc G ya yy_0 yy_1 yy_2 yy_3 yy_4 yy_5 yy_6 yy_7 yy_8) ++ ((wPLc G pa pp_0 pp_1 pp_2 pp_3 pp_4 pp_5 pp_6 pp_7 pp_8) ++ ((wPLc G qa qq_0 qq_1 qq_2 qq_3 qq_4 qq_5 qq_6 qq_7 qq_8) ++ ((wAR G aka 60 ka) ++ ((wAR G akc 1 kc)))))))) H := xf_P (xf_p_7_56_01234 (wXO xa (ya 0) la (pa 0) (qa 0)) (wLO G la lo) (wSYc G ya yy_0 yy_1 yy_2 yy_3 yy_4 yy_5 yy_6 yy_7 yy_8) (wPLc G pa pp_0 pp_1 pp_2 pp_3 pp_4 pp_5 pp_6 pp_7 pp_8) (wPLc G qa qq_0 qq_1 qq_2 qq_3 qq_4 qq_5 qq_6 qq_7 qq_8) (wAR G aka 60 ka) (wAR G akc 1 kc)).symm (show va_P G.1 vwCl (((wAR G aka 60 ka) ++ ((wAR G akc 1 kc))) ++ ((wXO xa (ya 0) la (pa 0) (qa 0)) ++ ((wLO G la lo) ++ ((wSYc G ya yy_0 yy_1 yy_2 yy_3 yy_4 yy_5 yy_6 yy_7 yy_8) ++ ((wPLc G pa pp_0 pp_1 pp_2 pp_3 pp_4 pp_5 pp_6 pp_7 pp_8) ++ ((wPLc G qa qq_0 qq_1 qq_2 qq_3 qq_4 qq_5 qq_6 qq_7 qq_8))))))) H from hP)
  have hD : va_D A ((wXO xa (ya 0) la (pa 0) (qa 0)) ++ ((wLO G la lo) ++ ((wSYc G ya yy_0 yy_1 yy_2 yy_3 yy_4 yy_5 yy_6 yy_7 yy_8) ++ ((wPLc G pa pp_0 pp_1 pp_2 pp_3 pp_4 pp_5 pp_6 pp_7 pp_8) ++ ((wPLc G qa qq_0 qq_1 qq_2 qq_3 qq_4 qq_5 qq_6 qq_7 qq_8) ++ ((wAR G aka 60 ka) ++ ((wAR G akc 1 kc)))))))) := xf_D (xf_p_7_56_01234 (wXO xa (ya 0) la (pa 0) (qa 0)) (wLO G la lo) (wSYc G ya yy_0 yy_1 yy_2 yy_3 yy_4 yy_5 yy_6 yy_7 yy_8) (wPLc G pa pp_0 pp_1 pp_2 pp_3 pp_4 pp_5 pp_6 pp_7 pp_8) (wPLc G qa qq_0 qq_1 qq_2 qq_3 qq_4 qq_5 qq_6 qq_7 qq_8) (wAR G aka 60 ka) (wAR G akc 1 kc)).symm (show va_D A (((wAR G aka 60 ka) ++ ((wAR G akc 1 kc))) ++ ((wXO xa (ya 0) la (pa 0) (qa 0)) ++ ((wLO G la lo) ++ ((wSYc G ya yy_0 yy_1 yy_2 yy_3 yy_4 yy_5 yy_6 yy_7 yy_8) ++ ((wPLc G pa pp_0 pp_1 pp_2 pp_3 pp_4 pp_5 pp_6 pp_7 pp_8) ++ ((wPLc G qa qq_0 qq_1 qq_2 qq_3 qq_4 qq_5 qq_6 qq_7 qq_8))))))) from hD)
  refine lv_aload_n hx hb dL_isOrder_9 rfl (lv_at hl 4 rfl) ?_
  refine lv_iconst (v := (0 : Int32)) hx hb dL_isOrder_10 (by decide) ?_
  refine va_iald hx hb hK hP 26 0 rfl rfl (xk_in0_1) dL_isOrder_11 ?_
  obtain ⟨v2, hv2, h⟩ := sp_b h
  refine xk_jn G A s.heap ((wXO xa (ya 0) la (pa 0) (qa 0)) ++ ((wLO G la lo) ++ ((wSYc G ya yy_0 yy_1 yy_2 yy_3 yy_4 yy_5 yy_6 yy_7 yy_8) ++ ((wPLc G pa pp_0 pp_1 pp_2 pp_3 pp_4 pp_5 pp_6 pp_7 pp_8) ++ ((wPLc G qa qq_0 qq_1 qq_2 qq_3 qq_4 qq_5 qq_6 qq_7 qq_8) ++ ((wAR G aka 60 ka) ++ ((wAR G akc 1 kc)))))))) 12 [(4, .int ((-1) : Int32)), (3, .int (0 : Int32)), (0, .ref xa), (1, .ref aka), (2, .ref akc)] 20 [.int v2] (fun H locs hP hD hS ls hl => ?_) (fun J2 => ?_)
  · refine lv_istore (lv' := [(5, .int v2), (4, .int ((-1) : Int32)), (3, .int (0 : Int32)), (0, .ref xa), (1, .ref aka), (2, .ref akc)]) hx hb dL_isOrder_20 hl (by decide) rfl (fun ls hl => ?_)
    refine lv_iconst (v := (0 : Int32)) hx hb dL_isOrder_22 (by decide) ?_
    refine lv_istore (lv' := [(6, .int (0 : Int32)), (5, .int v2), (4, .int ((-1) : Int32)), (3, .int (0 : Int32)), (0, .ref xa), (1, .ref aka), (2, .ref akc)]) hx hb dL_isOrder_23 hl (by decide) rfl (fun ls hl => ?_)
    obtain ⟨w4, hw4, h⟩ := sp_b h
    refine xk_jn G A s.heap ((wXO xa (ya 0) la (pa 0) (qa 0)) ++ ((wLO G la lo) ++ ((wSYc G ya yy_0 yy_1 yy_2 yy_3 yy_4 yy_5 yy_6 yy_7 yy_8) ++ ((wPLc G pa pp_0 pp_1 pp_2 pp_3 pp_4 pp_5 pp_6 pp_7 pp_8) ++ ((wPLc G qa qq_0 qq_1 qq_2 qq_3 qq_4 qq_5 qq_6 qq_7 qq_8) ++ ((wAR G aka 60 ka) ++ ((wAR G akc 1 kc)))))))) 12 [(5, .int w4), (0, .ref xa), (1, .ref aka), (2, .ref akc)] 277 [] (fun H locs hP hD hS ls hl => ?_) (fun J3 => ?_)
    · refine lv_iconst (v := (0 : Int32)) hx hb dL_isOrder_277 (by decide) ?_
      refine lv_istore (lv' := [(6, .int (0 : Int32)), (5, .int w4), (0, .ref xa), (1, .ref aka), (2, .ref akc)]) hx hb dL_isOrder_278 hl (by decide) rfl (fun ls hl => ?_)
      obtain ⟨w43, hw43, h⟩ := sp_b h
      refine xk_jn G A s.heap ((wXO xa (ya 0) la (pa 0) (qa 0)) ++ ((wLO G la lo) ++ ((wSYc G ya yy_0 yy_1 yy_2 yy_3 yy_4 yy_5 yy_6 yy_7 yy_8) ++ ((wPLc G pa pp_0 pp_1 pp_2 pp_3 pp_4 pp_5 pp_6 pp_7 pp_8) ++ ((wPLc G qa qq_0 qq_1 qq_2 qq_3 qq_4 qq_5 qq_6 qq_7 qq_8) ++ ((wAR G aka 60 ka) ++ ((wAR G akc 1 kc)))))))) 12 [(5, .int w43)] 389 [] (fun H locs hP hD hS ls hl => ?_) (fun J42 => ?_)
      · refine lv_iload hx hb dL_isOrder_389 (lv_at hl 0 rfl) ?_
        obtain ⟨hz, h⟩ := sp_c h
        obtain rfl := sp_s h
        exact xk_reZ hx hb hr hlk (xk_nar hz) hP hD hS rfl dL_isOrder_391
      · have h := hw43
        clear hw43
        refine xk_lp (α := Int32 × Int32) G A s.heap (fun a_42 => ((wXO xa (ya 0) la (pa 0) (qa 0)) ++ ((wLO G la lo) ++ ((wSYc G ya yy_0 yy_1 yy_2 yy_3 yy_4 yy_5 yy_6 yy_7 yy_8) ++ ((wPLc G pa pp_0 pp_1 pp_2 pp_3 pp_4 pp_5 pp_6 pp_7 pp_8) ++ ((wPLc G qa qq_0 qq_1 qq_2 qq_3 qq_4 qq_5 qq_6 qq_7 qq_8) ++ ((wAR G aka 60 ka) ++ ((wAR G akc 1 kc))))))))) 12 (fun a_42 => [(6, .int a_42.1), (5, .int a_42.2), (0, .ref xa), (1, .ref aka), (2, .ref akc)]) 280 (fun n a_42 => f_L_isOrder_l280 lo yy_0 yy_1 yy_2 yy_3 yy_4 yy_5 yy_6 yy_7 yy_8 pp_0 pp_1 pp_2 pp_3 pp_4 pp_5 pp_6 pp_7 pp_8 qq_0 qq_1 qq_2 qq_3 qq_4 qq_5 qq_6 qq_7 qq_8 ka kc n a_42.1 a_42.2 = some w43) (fun a_42 h => ?_) (fun n ih_42 a_42 h H locs hP hD hS ls hl => ?_) (fun LL => ?_)
        · exact sp_n ((f_L_isOrder_l280_z _ _ _ _ _ _ _ _ _ _ _ _ _ _ _ _ _ _ _ _ _ _ _ _ _ _ _ _ _ _ _ _).symm.trans h)
        · obtain ⟨x6_42, x5_42⟩ := a_42
          have h := (f_L_isOrder_l280_s lo yy_0 yy_1 yy_2 yy_3 yy_4 yy_5 yy_6 yy_7 yy_8 pp_0 pp_1 pp_2 pp_3 pp_4 pp_5 pp_6 pp_7 pp_8 qq_0 qq_1 qq_2 qq_3 qq_4 qq_5 qq_6 qq_7 qq_8 ka kc n x6_42 x5_42).symm.trans h
          have hP : va_P G.1 vwCl ((wXO xa (ya 0) la (pa 0) (qa 0)) ++ ((wLO G la lo) ++ ((wSYc G ya yy_0 yy_1 yy_2 yy_3 yy_4 yy_5 yy_6 yy_7 yy_8) ++ ((wPLc G pa pp_0 pp_1 pp_2 pp_3 pp_4 pp_5 pp_6 pp_7 pp_8) ++ ((wPLc G qa qq_0 qq_1 qq_2 qq_3 qq_4 qq_5 qq_6 qq_7 qq_8) ++ ((wAR G aka 60 ka) ++ ((wAR G akc 1 kc)))))))) H := hP
          have hD : va_D A ((wXO xa (ya 0) la (pa 0) (qa 0)) ++ ((wLO G la lo) ++ ((wSYc G ya yy_0 yy_1 yy_2 yy_3 yy_4 yy_5 yy_6 yy_7 yy_8) ++ ((wPLc G pa pp_0 pp_1 pp_2 pp_3 pp_4 pp_5 pp_6 pp_7 pp_8) ++ ((wPLc G qa qq_0 qq_1 qq_2 qq_3 qq_4 qq_5 qq_6 qq_7 qq_8) ++ ((wAR G aka 60 ka) ++ ((wAR G akc 1 kc)))))))) := hD
          have hl : lv_has ls 12 [(6, .int x6_42), (5, .int x5_42), (0, .ref xa), (1, .ref aka), (2, .ref akc)] := hl
          refine lv_iload hx hb dL_isOrder_280 (lv_at hl 0 rfl) ?_
          refine lv_aload_n hx hb dL_isOrder_282 rfl (lv_at hl 4 rfl) ?_
          refine lv_iconst (v := (0 : Int32)) hx hb dL_isOrder_283 (by decide) ?_
          refine va_iald hx hb hK hP 26 0 rfl rfl (xk_in0_1) dL_isOrder_284 ?_
          refine lv_icmp_ge (tgt := 389) hx hb dL_isOrder_285 (by decide) (fun c44 => ?_) (fun c44 => ?_)
          · have h := sp_t c44 h
            obtain rfl := sp_s h
            exact J42 _ _ hP hD hS _ (lv_sub hl [1] rfl)
          · have h := sp_f c44 h
            refine lv_iload hx hb dL_isOrder_288 (lv_at hl 1 rfl) ?_
            refine lv_if_eq (tgt := 389) hx hb dL_isOrder_290 (by decide) (fun c45 => ?_) (fun c45 => ?_)
            · have h := sp_t c45 h
              obtain rfl := sp_s h
              exact J42 _ _ hP hD hS _ (lv_sub hl [1] rfl)
            · have h := sp_f c45 h
              refine lv_aload_n hx hb dL_isOrder_293 rfl (lv_at hl 2 rfl) ?_
              refine lv_iload hx hb dL_isOrder_294 (lv_at hl 0 rfl) ?_
              obtain ⟨o46, ho46, h⟩ := sp_b h
              have hP9 : va_P G.1 vwCl (((wAR G aka 60 ka) ++ ((wAR G akc 1 kc))) ++ ((wXO xa (ya 0) la (pa 0) (qa 0)) ++ ((wLO G la lo) ++ ((wSYc G ya yy_0 yy_1 yy_2 yy_3 yy_4 yy_5 yy_6 yy_7 yy_8) ++ ((wPLc G pa pp_0 pp_1 pp_2 pp_3 pp_4 pp_5 pp_6 pp_7 pp_8) ++ ((wPLc G qa qq_0 qq_1 qq_2 qq_3 qq_4 qq_5 qq_6 qq_7 qq_8))))))) H := xf_P (xf_p_7_56_01234 (wXO xa (ya 0) la (pa 0) (qa 0)) (wLO G la lo) (wSYc G ya yy_0 yy_1 yy_2 yy_3 yy_4 yy_5 yy_6 yy_7 yy_8) (wPLc G pa pp_0 pp_1 pp_2 pp_3 pp_4 pp_5 pp_6 pp_7 pp_8) (wPLc G qa qq_0 qq_1 qq_2 qq_3 qq_4 qq_5 qq_6 qq_7 qq_8) (wAR G aka 60 ka) (wAR G akc 1 kc)) hP
              have hD9 : va_D A (((wAR G aka 60 ka) ++ ((wAR G akc 1 kc))) ++ ((wXO xa (ya 0) la (pa 0) (qa 0)) ++ ((wLO G la lo) ++ ((wSYc G ya yy_0 yy_1 yy_2 yy_3 yy_4 yy_5 yy_6 yy_7 yy_8) ++ ((wPLc G pa pp_0 pp_1 pp_2 pp_3 pp_4 pp_5 pp_6 pp_7 pp_8) ++ ((wPLc G qa qq_0 qq_1 qq_2 qq_3 qq_4 qq_5 qq_6 qq_7 qq_8))))))) := xf_D (xf_p_7_56_01234 (wXO xa (ya 0) la (pa 0) (qa 0)) (wLO G la lo) (wSYc G ya yy_0 yy_1 yy_2 yy_3 yy_4 yy_5 yy_6 yy_7 yy_8) (wPLc G pa pp_0 pp_1 pp_2 pp_3 pp_4 pp_5 pp_6 pp_7 pp_8) (wPLc G qa qq_0 qq_1 qq_2 qq_3 qq_4 qq_5 qq_6 qq_7 qq_8) (wAR G aka 60 ka) (wAR G akc 1 kc)) hD
              refine xf_ci (va_runV (As := [.int x6_42]) (rest := []) ⟨hx, hb, hml, hown, hts⟩ (c_X2_allNeeds l G xa la ya pa qa lo (yy_0, yy_1, yy_2, yy_3, yy_4, yy_5, yy_6, yy_7, yy_8) (pp_0, pp_1, pp_2, pp_3, pp_4, pp_5, pp_6, pp_7, pp_8) (qq_0, qq_1, qq_2, qq_3, qq_4, qq_5, qq_6, qq_7, qq_8) x6_42 o46 ho46 H.size) (cwV 1 hts gL_isOrder_X2_allNeeds rfl rfl rfl (by decide +kernel) ⟨(Nat.le_of_ble_eq_true rfl), (Nat.le_of_ble_eq_true rfl)⟩) (xk_preV hK hNE (xf_pr hP9) (xf_dr hD9) (ci := 2) rfl rfl) rfl rfl hl.1 rfl (lv_room (Nat.le_of_ble_eq_true rfl)) dL_isOrder_296 ⟨(Nat.le_of_ble_eq_true rfl), (Nat.le_of_ble_eq_true rfl)⟩) hP9 hD9 hS hA (fun H locs hP hD hS => ?_)
              have hP : va_P G.1 vwCl ((wXO xa (ya 0) la (pa 0) (qa 0)) ++ ((wLO G la lo) ++ ((wSYc G ya yy_0 yy_1 yy_2 yy_3 yy_4 yy_5 yy_6 yy_7 yy_8) ++ ((wPLc G pa pp_0 pp_1 pp_2 pp_3 pp_4 pp_5 pp_6 pp_7 pp_8) ++ ((wPLc G qa qq_0 qq_1 qq_2 qq_3 qq_4 qq_5 qq_6 qq_7 qq_8) ++ ((wAR G aka 60 ka) ++ ((wAR G akc 1 kc)))))))) H := xf_P (xf_p_7_56_01234 (wXO xa (ya 0) la (pa 0) (qa 0)) (wLO G la lo) (wSYc G ya yy_0 yy_1 yy_2 yy_3 yy_4 yy_5 yy_6 yy_7 yy_8) (wPLc G pa pp_0 pp_1 pp_2 pp_3 pp_4 pp_5 pp_6 pp_7 pp_8) (wPLc G qa qq_0 qq_1 qq_2 qq_3 qq_4 qq_5 qq_6 qq_7 qq_8) (wAR G aka 60 ka) (wAR G akc 1 kc)).symm (show va_P G.1 vwCl (((wAR G aka 60 ka) ++ ((wAR G akc 1 kc))) ++ ((wXO xa (ya 0) la (pa 0) (qa 0)) ++ ((wLO G la lo) ++ ((wSYc G ya yy_0 yy_1 yy_2 yy_3 yy_4 yy_5 yy_6 yy_7 yy_8) ++ ((wPLc G pa pp_0 pp_1 pp_2 pp_3 pp_4 pp_5 pp_6 pp_7 pp_8) ++ ((wPLc G qa qq_0 qq_1 qq_2 qq_3 qq_4 qq_5 qq_6 qq_7 qq_8))))))) H from hP)
              have hD : va_D A ((wXO xa (ya 0) la (pa 0) (qa 0)) ++ ((wLO G la lo) ++ ((wSYc G ya yy_0 yy_1 yy_2 yy_3 yy_4 yy_5 yy_6 yy_7 yy_8) ++ ((wPLc G pa pp_0 pp_1 pp_2 pp_3 pp_4 pp_5 pp_6 pp_7 pp_8) ++ ((wPLc G qa qq_0 qq_1 qq_2 qq_3 qq_4 qq_5 qq_6 qq_7 qq_8) ++ ((wAR G aka 60 ka) ++ ((wAR G akc 1 kc)))))))) := xf_D (xf_p_7_56_01234 (wXO xa (ya 0) la (pa 0) (qa 0)) (wLO G la lo) (wSYc G ya yy_0 yy_1 yy_2 yy_3 yy_4 yy_5 yy_6 yy_7 yy_8) (wPLc G pa pp_0 pp_1 pp_2 pp_3 pp_4 pp_5 pp_6 pp_7 pp_8) (wPLc G qa qq_0 qq_1 qq_2 qq_3 qq_4 qq_5 qq_6 qq_7 qq_8) (wAR G aka 60 ka) (wAR G akc 1 kc)).symm (show va_D A (((wAR G aka 60 ka) ++ ((wAR G akc 1 kc))) ++ ((wXO xa (ya 0) la (pa 0) (qa 0)) ++ ((wLO G la lo) ++ ((wSYc G ya yy_0 yy_1 yy_2 yy_3 yy_4 yy_5 yy_6 yy_7 yy_8) ++ ((wPLc G pa pp_0 pp_1 pp_2 pp_3 pp_4 pp_5 pp_6 pp_7 pp_8) ++ ((wPLc G qa qq_0 qq_1 qq_2 qq_3 qq_4 qq_5 qq_6 qq_7 qq_8))))))) from hD)
              refine lv_istore (lv' := [(7, .int o46), (6, .int x6_42), (5, .int x5_42), (0, .ref xa), (1, .ref aka), (2, .ref akc)]) hx hb dL_isOrder_299 hl (by decide) rfl (fun ls hl => ?_)
              refine lv_aload_n hx hb dL_isOrder_301 rfl (lv_at hl 4 rfl) ?_
              refine lv_iconst (v := (5 : Int32)) hx hb dL_isOrder_302 (by decide) ?_
              refine lv_iload hx hb dL_isOrder_303 (lv_at hl 1 rfl) ?_
              refine lv_imul hx hb dL_isOrder_305 ?_
              refine lv_iconst (v := (4 : Int32)) hx hb dL_isOrder_306 (by decide) ?_
              refine lv_iadd hx hb dL_isOrder_307 ?_
              obtain ⟨hin47, h⟩ := sp_g h
              refine va_iald hx hb hK hP 25 0 rfl rfl hin47 dL_isOrder_308 ?_
              refine lv_istore (lv' := [(8, .int (ka (((5 : Int32) * x6_42) + (4 : Int32)).toNatClampNeg)), (7, .int o46), (6, .int x6_42), (5, .int x5_42), (0, .ref xa), (1, .ref aka), (2, .ref akc)]) hx hb dL_isOrder_309 hl (by decide) rfl (fun ls hl => ?_)
              refine lv_iconst (v := (0 : Int32)) hx hb dL_isOrder_311 (by decide) ?_
              refine lv_istore (lv' := [(9, .int (0 : Int32)), (8, .int (ka (((5 : Int32) * x6_42) + (4 : Int32)).toNatClampNeg)), (7, .int o46), (6, .int x6_42), (5, .int x5_42), (0, .ref xa), (1, .ref aka), (2, .ref akc)]) hx hb dL_isOrder_312 hl (by decide) rfl (fun ls hl => ?_)
              obtain ⟨w49, hw49, h⟩ := sp_b h
              refine xk_jn G A s.heap ((wXO xa (ya 0) la (pa 0) (qa 0)) ++ ((wLO G la lo) ++ ((wSYc G ya yy_0 yy_1 yy_2 yy_3 yy_4 yy_5 yy_6 yy_7 yy_8) ++ ((wPLc G pa pp_0 pp_1 pp_2 pp_3 pp_4 pp_5 pp_6 pp_7 pp_8) ++ ((wPLc G qa qq_0 qq_1 qq_2 qq_3 qq_4 qq_5 qq_6 qq_7 qq_8) ++ ((wAR G aka 60 ka) ++ ((wAR G akc 1 kc)))))))) 12 [(8, .int w49), (7, .int o46), (6, .int x6_42), (0, .ref xa), (1, .ref aka), (2, .ref akc)] 359 [] (fun H locs hP hD hS ls hl => ?_) (fun J48 => ?_)
              · refine lv_iload hx hb dL_isOrder_359 (lv_at hl 1 rfl) ?_
                refine lv_iload hx hb dL_isOrder_361 (lv_at hl 0 rfl) ?_
                refine lv_icmp_ne (tgt := 380) hx hb dL_isOrder_363 (by decide) (fun c55 => ?_) (fun c55 => ?_)
                · have h := sp_f c55 h
                  refine lv_iconst (v := (0 : Int32)) hx hb dL_isOrder_380 (by decide) ?_
                  refine lv_istore (lv' := [(5, .int (0 : Int32)), (8, .int w49), (7, .int o46), (6, .int x6_42), (0, .ref xa), (1, .ref aka), (2, .ref akc)]) hx hb dL_isOrder_381 hl (by decide) rfl (fun ls hl => ?_)
                  refine lv_iinc (v := (x6_42 + (1 : Int32))) (lv' := [(6, .int (x6_42 + (1 : Int32))), (5, .int (0 : Int32)), (8, .int w49), (7, .int o46), (0, .ref xa), (1, .ref aka), (2, .ref akc)]) hx hb dL_isOrder_383 hl (k := 3) rfl rfl (by decide) rfl (fun ls hl => ?_)
                  refine lv_goto (tgt := 280) hx hb dL_isOrder_386 (by decide) ?_
                  exact ih_42 ((x6_42 + (1 : Int32)), (0 : Int32)) h _ _ hP hD hS _ (lv_sub hl [0, 1, 4, 5, 6] rfl)
                · have h := sp_t c55 h
                  refine lv_iload hx hb dL_isOrder_366 (lv_at hl 1 rfl) ?_
                  refine lv_iload hx hb dL_isOrder_368 (lv_at hl 2 rfl) ?_
                  obtain ⟨o56, ho56, h⟩ := sp_b h
                  refine xf_ci0 (va_runS (As := [.int o46, .int x6_42]) (rest := []) ⟨hx, hb, hml, hown, hts⟩ (c_L_isIn l G o46 x6_42 o56 ho56 H.size) (va_cwS 2 hts gL_isOrder_L_isIn rfl rfl rfl (by decide +kernel) ⟨(Nat.le_of_ble_eq_true rfl), (Nat.le_of_ble_eq_true rfl)⟩) (xk_preS hK hNE (xf_p0 : va_P G.1 vwCl [] H) (xf_d0 : va_D A [])) rfl rfl hl.1 rfl (lv_room (Nat.le_of_ble_eq_true rfl)) dL_isOrder_370 ⟨(Nat.le_of_ble_eq_true rfl), (Nat.le_of_ble_eq_true rfl)⟩) hP hD hS hA (fun H locs hP hD hS => ?_)
                  refine lv_if_ne (tgt := 380) hx hb dL_isOrder_373 (by decide) (fun c57 => ?_) (fun c57 => ?_)
                  · have h := sp_f c57 h
                    refine lv_iconst (v := (0 : Int32)) hx hb dL_isOrder_380 (by decide) ?_
                    refine lv_istore (lv' := [(5, .int (0 : Int32)), (8, .int w49), (7, .int o46), (6, .int x6_42), (0, .ref xa), (1, .ref aka), (2, .ref akc)]) hx hb dL_isOrder_381 hl (by decide) rfl (fun ls hl => ?_)
                    refine lv_iinc (v := (x6_42 + (1 : Int32))) (lv' := [(6, .int (x6_42 + (1 : Int32))), (5, .int (0 : Int32)), (8, .int w49), (7, .int o46), (0, .ref xa), (1, .ref aka), (2, .ref akc)]) hx hb dL_isOrder_383 hl (k := 3) rfl rfl (by decide) rfl (fun ls hl => ?_)
                    refine lv_goto (tgt := 280) hx hb dL_isOrder_386 (by decide) ?_
                    exact ih_42 ((x6_42 + (1 : Int32)), (0 : Int32)) h _ _ hP hD hS _ (lv_sub hl [0, 1, 4, 5, 6] rfl)
                  · have h := sp_t c57 h
                    refine lv_iconst (v := (1 : Int32)) hx hb dL_isOrder_376 (by decide) ?_
                    refine lv_goto (tgt := 381) hx hb dL_isOrder_377 (by decide) ?_
                    refine lv_istore (lv' := [(5, .int (1 : Int32)), (8, .int w49), (7, .int o46), (6, .int x6_42), (0, .ref xa), (1, .ref aka), (2, .ref akc)]) hx hb dL_isOrder_381 hl (by decide) rfl (fun ls hl => ?_)
                    refine lv_iinc (v := (x6_42 + (1 : Int32))) (lv' := [(6, .int (x6_42 + (1 : Int32))), (5, .int (1 : Int32)), (8, .int w49), (7, .int o46), (0, .ref xa), (1, .ref aka), (2, .ref akc)]) hx hb dL_isOrder_383 hl (k := 3) rfl rfl (by decide) rfl (fun ls hl => ?_)
                    refine lv_goto (tgt := 280) hx hb dL_isOrder_386 (by decide) ?_
                    exact ih_42 ((x6_42 + (1 : Int32)), (1 : Int32)) h _ _ hP hD hS _ (lv_sub hl [0, 1, 4, 5, 6] rfl)
              · have h := hw49
                clear hw49
                refine xk_lp (α := Int32 × Int32) G A s.heap (fun a_48 => ((wXO xa (ya 0) la (pa 0) (qa 0)) ++ ((wLO G la lo) ++ ((wSYc G ya yy_0 yy_1 yy_2 yy_3 yy_4 yy_5 yy_6 yy_7 yy_8) ++ ((wPLc G pa pp_0 pp_1 pp_2 pp_3 pp_4 pp_5 pp_6 pp_7 pp_8) ++ ((wPLc G qa qq_0 qq_1 qq_2 qq_3 qq_4 qq_5 qq_6 qq_7 qq_8) ++ ((wAR G aka 60 ka) ++ ((wAR G akc 1 kc))))))))) 12 (fun a_48 => [(9, .int a_48.1), (8, .int a_48.2), (7, .int o46), (6, .int x6_42), (0, .ref xa), (1, .ref aka), (2, .ref akc)]) 314 (fun n a_48 => f_L_isOrder_l314 lo yy_0 yy_1 yy_2 yy_3 yy_4 yy_5 yy_6 yy_7 yy_8 pp_0 pp_1 pp_2 pp_3 pp_4 pp_5 pp_6 pp_7 pp_8 qq_0 qq_1 qq_2 qq_3 qq_4 qq_5 qq_6 qq_7 qq_8 ka kc x6_42 n a_48.1 a_48.2 = some w49) (fun a_48 h => ?_) (fun n ih_48 a_48 h H locs hP hD hS ls hl => ?_) (fun LL => ?_)
                · exact sp_n ((f_L_isOrder_l314_z _ _ _ _ _ _ _ _ _ _ _ _ _ _ _ _ _ _ _ _ _ _ _ _ _ _ _ _ _ _ _ _ _).symm.trans h)
                · obtain ⟨x9_48, x8_48⟩ := a_48
                  have h := (f_L_isOrder_l314_s lo yy_0 yy_1 yy_2 yy_3 yy_4 yy_5 yy_6 yy_7 yy_8 pp_0 pp_1 pp_2 pp_3 pp_4 pp_5 pp_6 pp_7 pp_8 qq_0 qq_1 qq_2 qq_3 qq_4 qq_5 qq_6 qq_7 qq_8 ka kc x6_42 n x9_48 x8_48).symm.trans h
                  have hP : va_P G.1 vwCl ((wXO xa (ya 0) la (pa 0) (qa 0)) ++ ((wLO G la lo) ++ ((wSYc G ya yy_0 yy_1 yy_2 yy_3 yy_4 yy_5 yy_6 yy_7 yy_8) ++ ((wPLc G pa pp_0 pp_1 pp_2 pp_3 pp_4 pp_5 pp_6 pp_7 pp_8) ++ ((wPLc G qa qq_0 qq_1 qq_2 qq_3 qq_4 qq_5 qq_6 qq_7 qq_8) ++ ((wAR G aka 60 ka) ++ ((wAR G akc 1 kc)))))))) H := hP
                  have hD : va_D A ((wXO xa (ya 0) la (pa 0) (qa 0)) ++ ((wLO G la lo) ++ ((wSYc G ya yy_0 yy_1 yy_2 yy_3 yy_4 yy_5 yy_6 yy_7 yy_8) ++ ((wPLc G pa pp_0 pp_1 pp_2 pp_3 pp_4 pp_5 pp_6 pp_7 pp_8) ++ ((wPLc G qa qq_0 qq_1 qq_2 qq_3 qq_4 qq_5 qq_6 qq_7 qq_8) ++ ((wAR G aka 60 ka) ++ ((wAR G akc 1 kc)))))))) := hD
                  have hl : lv_has ls 12 [(9, .int x9_48), (8, .int x8_48), (7, .int o46), (6, .int x6_42), (0, .ref xa), (1, .ref aka), (2, .ref akc)] := hl
                  refine lv_iload hx hb dL_isOrder_314 (lv_at hl 0 rfl) ?_
                  refine lv_aload_n hx hb dL_isOrder_316 rfl (lv_at hl 6 rfl) ?_
                  refine lv_iconst (v := (0 : Int32)) hx hb dL_isOrder_317 (by decide) ?_
                  refine va_iald hx hb hK hP 26 0 rfl rfl (xk_in0_1) dL_isOrder_318 ?_
                  refine lv_icmp_ge (tgt := 359) hx hb dL_isOrder_319 (by decide) (fun c50 => ?_) (fun c50 => ?_)
                  · have h := sp_t c50 h
                    obtain rfl := sp_s h
                    exact J48 _ _ hP hD hS _ (lv_sub hl [1, 2, 3, 4, 5, 6] rfl)
                  · have h := sp_f c50 h
                    refine lv_iload hx hb dL_isOrder_322 (lv_at hl 1 rfl) ?_
                    refine lv_aload_n hx hb dL_isOrder_324 rfl (lv_at hl 5 rfl) ?_
                    refine lv_iconst (v := (5 : Int32)) hx hb dL_isOrder_325 (by decide) ?_
                    refine lv_iload hx hb dL_isOrder_326 (lv_at hl 3 rfl) ?_
                    refine lv_imul hx hb dL_isOrder_328 ?_
                    refine lv_iconst (v := (4 : Int32)) hx hb dL_isOrder_329 (by decide) ?_
                    refine lv_iadd hx hb dL_isOrder_330 ?_
                    refine va_iald hx hb hK hP 25 0 rfl rfl hin47 dL_isOrder_331 ?_
                    refine lv_iload hx hb dL_isOrder_332 (lv_at hl 0 rfl) ?_
                    obtain ⟨o51, ho51, h⟩ := sp_b h
                    refine xf_ci0 (va_runS (As := [.int (ka (((5 : Int32) * x6_42) + (4 : Int32)).toNatClampNeg), .int x9_48]) (rest := [.int x8_48]) ⟨hx, hb, hml, hown, hts⟩ (c_L_isIn l G (ka (((5 : Int32) * x6_42) + (4 : Int32)).toNatClampNeg) x9_48 o51 ho51 H.size) (va_cwS 2 hts gL_isOrder_L_isIn rfl rfl rfl (by decide +kernel) ⟨(Nat.le_of_ble_eq_true rfl), (Nat.le_of_ble_eq_true rfl)⟩) (xk_preS hK hNE (xf_p0 : va_P G.1 vwCl [] H) (xf_d0 : va_D A [])) rfl rfl hl.1 rfl (lv_room (Nat.le_of_ble_eq_true rfl)) dL_isOrder_334 ⟨(Nat.le_of_ble_eq_true rfl), (Nat.le_of_ble_eq_true rfl)⟩) hP hD hS hA (fun H locs hP hD hS => ?_)
                    obtain ⟨v52, hv52, h⟩ := sp_b h
                    refine xk_jn G A s.heap ((wXO xa (ya 0) la (pa 0) (qa 0)) ++ ((wLO G la lo) ++ ((wSYc G ya yy_0 yy_1 yy_2 yy_3 yy_4 yy_5 yy_6 yy_7 yy_8) ++ ((wPLc G pa pp_0 pp_1 pp_2 pp_3 pp_4 pp_5 pp_6 pp_7 pp_8) ++ ((wPLc G qa qq_0 qq_1 qq_2 qq_3 qq_4 qq_5 qq_6 qq_7 qq_8) ++ ((wAR G aka 60 ka) ++ ((wAR G akc 1 kc)))))))) 12 [(9, .int x9_48), (7, .int o46), (6, .int x6_42), (0, .ref xa), (1, .ref aka), (2, .ref akc)] 350 [.int v52, .int x8_48] (fun H locs hP hD hS ls hl => ?_) (fun J52 => ?_)
                    · refine lv_ior hx hb dL_isOrder_350 ?_
                      refine lv_istore (lv' := [(8, .int (x8_48 ||| v52)), (9, .int x9_48), (7, .int o46), (6, .int x6_42), (0, .ref xa), (1, .ref aka), (2, .ref akc)]) hx hb dL_isOrder_351 hl (by decide) rfl (fun ls hl => ?_)
                      refine lv_iinc (v := (x9_48 + (1 : Int32))) (lv' := [(9, .int (x9_48 + (1 : Int32))), (8, .int (x8_48 ||| v52)), (7, .int o46), (6, .int x6_42), (0, .ref xa), (1, .ref aka), (2, .ref akc)]) hx hb dL_isOrder_353 hl (k := 1) rfl rfl (by decide) rfl (fun ls hl => ?_)
                      refine lv_goto (tgt := 314) hx hb dL_isOrder_356 (by decide) ?_
                      exact ih_48 ((x9_48 + (1 : Int32)), (x8_48 ||| v52)) h _ _ hP hD hS _ (lv_sub hl [0, 1, 2, 3, 4, 5, 6] rfl)
                    · have h := hv52
                      clear hv52
                      refine lv_if_eq (tgt := 349) hx hb dL_isOrder_337 (by decide) (fun c53 => ?_) (fun c53 => ?_)
                      · have h := sp_t c53 h
                        refine lv_iconst (v := (0 : Int32)) hx hb dL_isOrder_349 (by decide) ?_
                        obtain rfl := sp_s h
                        exact J52 _ _ hP hD hS _ (lv_sub hl [0, 2, 3, 4, 5, 6] rfl)
                      · have h := sp_f c53 h
                        refine lv_aload_n hx hb dL_isOrder_340 rfl (lv_at hl 4 rfl) ?_
                        refine lv_iload hx hb dL_isOrder_341 (lv_at hl 0 rfl) ?_
                        obtain ⟨o54, ho54, h⟩ := sp_b h
                        have hP9 : va_P G.1 vwCl (((wAR G aka 60 ka) ++ ((wAR G akc 1 kc))) ++ ((wXO xa (ya 0) la (pa 0) (qa 0)) ++ ((wLO G la lo) ++ ((wSYc G ya yy_0 yy_1 yy_2 yy_3 yy_4 yy_5 yy_6 yy_7 yy_8) ++ ((wPLc G pa pp_0 pp_1 pp_2 pp_3 pp_4 pp_5 pp_6 pp_7 pp_8) ++ ((wPLc G qa qq_0 qq_1 qq_2 qq_3 qq_4 qq_5 qq_6 qq_7 qq_8))))))) H := xf_P (xf_p_7_56_01234 (wXO xa (ya 0) la (pa 0) (qa 0)) (wLO G la lo) (wSYc G ya yy_0 yy_1 yy_2 yy_3 yy_4 yy_5 yy_6 yy_7 yy_8) (wPLc G pa pp_0 pp_1 pp_2 pp_3 pp_4 pp_5 pp_6 pp_7 pp_8) (wPLc G qa qq_0 qq_1 qq_2 qq_3 qq_4 qq_5 qq_6 qq_7 qq_8) (wAR G aka 60 ka) (wAR G akc 1 kc)) hP
                        have hD9 : va_D A (((wAR G aka 60 ka) ++ ((wAR G akc 1 kc))) ++ ((wXO xa (ya 0) la (pa 0) (qa 0)) ++ ((wLO G la lo) ++ ((wSYc G ya yy_0 yy_1 yy_2 yy_3 yy_4 yy_5 yy_6 yy_7 yy_8) ++ ((wPLc G pa pp_0 pp_1 pp_2 pp_3 pp_4 pp_5 pp_6 pp_7 pp_8) ++ ((wPLc G qa qq_0 qq_1 qq_2 qq_3 qq_4 qq_5 qq_6 qq_7 qq_8))))))) := xf_D (xf_p_7_56_01234 (wXO xa (ya 0) la (pa 0) (qa 0)) (wLO G la lo) (wSYc G ya yy_0 yy_1 yy_2 yy_3 yy_4 yy_5 yy_6 yy_7 yy_8) (wPLc G pa pp_0 pp_1 pp_2 pp_3 pp_4 pp_5 pp_6 pp_7 pp_8) (wPLc G qa qq_0 qq_1 qq_2 qq_3 qq_4 qq_5 qq_6 qq_7 qq_8) (wAR G aka 60 ka) (wAR G akc 1 kc)) hD
                        refine xf_ci (va_runV (As := [.int x9_48]) (rest := [.int x8_48]) ⟨hx, hb, hml, hown, hts⟩ (c_X2_allNeeds l G xa la ya pa qa lo (yy_0, yy_1, yy_2, yy_3, yy_4, yy_5, yy_6, yy_7, yy_8) (pp_0, pp_1, pp_2, pp_3, pp_4, pp_5, pp_6, pp_7, pp_8) (qq_0, qq_1, qq_2, qq_3, qq_4, qq_5, qq_6, qq_7, qq_8) x9_48 o54 ho54 H.size) (cwV 1 hts gL_isOrder_X2_allNeeds rfl rfl rfl (by decide +kernel) ⟨(Nat.le_of_ble_eq_true rfl), (Nat.le_of_ble_eq_true rfl)⟩) (xk_preV hK hNE (xf_pr hP9) (xf_dr hD9) (ci := 2) rfl rfl) rfl rfl hl.1 rfl (lv_room (Nat.le_of_ble_eq_true rfl)) dL_isOrder_343 ⟨(Nat.le_of_ble_eq_true rfl), (Nat.le_of_ble_eq_true rfl)⟩) hP9 hD9 hS hA (fun H locs hP hD hS => ?_)
                        have hP : va_P G.1 vwCl ((wXO xa (ya 0) la (pa 0) (qa 0)) ++ ((wLO G la lo) ++ ((wSYc G ya yy_0 yy_1 yy_2 yy_3 yy_4 yy_5 yy_6 yy_7 yy_8) ++ ((wPLc G pa pp_0 pp_1 pp_2 pp_3 pp_4 pp_5 pp_6 pp_7 pp_8) ++ ((wPLc G qa qq_0 qq_1 qq_2 qq_3 qq_4 qq_5 qq_6 qq_7 qq_8) ++ ((wAR G aka 60 ka) ++ ((wAR G akc 1 kc)))))))) H := xf_P (xf_p_7_56_01234 (wXO xa (ya 0) la (pa 0) (qa 0)) (wLO G la lo) (wSYc G ya yy_0 yy_1 yy_2 yy_3 yy_4 yy_5 yy_6 yy_7 yy_8) (wPLc G pa pp_0 pp_1 pp_2 pp_3 pp_4 pp_5 pp_6 pp_7 pp_8) (wPLc G qa qq_0 qq_1 qq_2 qq_3 qq_4 qq_5 qq_6 qq_7 qq_8) (wAR G aka 60 ka) (wAR G akc 1 kc)).symm (show va_P G.1 vwCl (((wAR G aka 60 ka) ++ ((wAR G akc 1 kc))) ++ ((wXO xa (ya 0) la (pa 0) (qa 0)) ++ ((wLO G la lo) ++ ((wSYc G ya yy_0 yy_1 yy_2 yy_3 yy_4 yy_5 yy_6 yy_7 yy_8) ++ ((wPLc G pa pp_0 pp_1 pp_2 pp_3 pp_4 pp_5 pp_6 pp_7 pp_8) ++ ((wPLc G qa qq_0 qq_1 qq_2 qq_3 qq_4 qq_5 qq_6 qq_7 qq_8))))))) H from hP)
                        have hD : va_D A ((wXO xa (ya 0) la (pa 0) (qa 0)) ++ ((wLO G la lo) ++ ((wSYc G ya yy_0 yy_1 yy_2 yy_3 yy_4 yy_5 yy_6 yy_7 yy_8) ++ ((wPLc G pa pp_0 pp_1 pp_2 pp_3 pp_4 pp_5 pp_6 pp_7 pp_8) ++ ((wPLc G qa qq_0 qq_1 qq_2 qq_3 qq_4 qq_5 qq_6 qq_7 qq_8) ++ ((wAR G aka 60 ka) ++ ((wAR G akc 1 kc)))))))) := xf_D (xf_p_7_56_01234 (wXO xa (ya 0) la (pa 0) (qa 0)) (wLO G la lo) (wSYc G ya yy_0 yy_1 yy_2 yy_3 yy_4 yy_5 yy_6 yy_7 yy_8) (wPLc G pa pp_0 pp_1 pp_2 pp_3 pp_4 pp_5 pp_6 pp_7 pp_8) (wPLc G qa qq_0 qq_1 qq_2 qq_3 qq_4 qq_5 qq_6 qq_7 qq_8) (wAR G aka 60 ka) (wAR G akc 1 kc)).symm (show va_D A (((wAR G aka 60 ka) ++ ((wAR G akc 1 kc))) ++ ((wXO xa (ya 0) la (pa 0) (qa 0)) ++ ((wLO G la lo) ++ ((wSYc G ya yy_0 yy_1 yy_2 yy_3 yy_4 yy_5 yy_6 yy_7 yy_8) ++ ((wPLc G pa pp_0 pp_1 pp_2 pp_3 pp_4 pp_5 pp_6 pp_7 pp_8) ++ ((wPLc G qa qq_0 qq_1 qq_2 qq_3 qq_4 qq_5 qq_6 qq_7 qq_8))))))) from hD)
                        refine lv_goto (tgt := 350) hx hb dL_isOrder_346 (by decide) ?_
                        obtain rfl := sp_s h
                        exact J52 _ _ hP hD hS _ (lv_sub hl [0, 2, 3, 4, 5, 6] rfl)
                · exact LL 300 ((0 : Int32), (ka (((5 : Int32) * x6_42) + (4 : Int32)).toNatClampNeg)) h _ _ hP hD hS _ (lv_sub hl [0, 1, 2, 3, 5, 6, 7] rfl)
        · exact LL 300 ((0 : Int32), w4) h _ _ hP hD hS _ (lv_sub hl [0, 1, 2, 3, 4] rfl)
    · have h := hw4
      clear hw4
      refine xk_lp (α := Int32 × Int32 × Int32 × Int32) G A s.heap (fun a_3 => ((wXO xa (ya 0) la (pa 0) (qa 0)) ++ ((wLO G la lo) ++ ((wSYc G ya yy_0 yy_1 yy_2 yy_3 yy_4 yy_5 yy_6 yy_7 yy_8) ++ ((wPLc G pa pp_0 pp_1 pp_2 pp_3 pp_4 pp_5 pp_6 pp_7 pp_8) ++ ((wPLc G qa qq_0 qq_1 qq_2 qq_3 qq_4 qq_5 qq_6 qq_7 qq_8) ++ ((wAR G aka 60 ka) ++ ((wAR G akc 1 kc))))))))) 12 (fun a_3 => [(6, .int a_3.1), (5, .int a_3.2.1), (4, .int a_3.2.2.1), (3, .int a_3.2.2.2), (0, .ref xa), (1, .ref aka), (2, .ref akc)]) 25 (fun n a_3 => f_L_isOrder_l25 lo yy_0 yy_1 yy_2 yy_3 yy_4 yy_5 yy_6 yy_7 yy_8 pp_0 pp_1 pp_2 pp_3 pp_4 pp_5 pp_6 pp_7 pp_8 qq_0 qq_1 qq_2 qq_3 qq_4 qq_5 qq_6 qq_7 qq_8 ka kc n a_3.1 a_3.2.1 a_3.2.2.1 a_3.2.2.2 = some w4) (fun a_3 h => ?_) (fun n ih_3 a_3 h H locs hP hD hS ls hl => ?_) (fun LL => ?_)
      · exact sp_n ((f_L_isOrder_l25_z _ _ _ _ _ _ _ _ _ _ _ _ _ _ _ _ _ _ _ _ _ _ _ _ _ _ _ _ _ _ _ _ _ _).symm.trans h)
      · obtain ⟨x6_3, x5_3, x4_3, x3_3⟩ := a_3
        have h := (f_L_isOrder_l25_s lo yy_0 yy_1 yy_2 yy_3 yy_4 yy_5 yy_6 yy_7 yy_8 pp_0 pp_1 pp_2 pp_3 pp_4 pp_5 pp_6 pp_7 pp_8 qq_0 qq_1 qq_2 qq_3 qq_4 qq_5 qq_6 qq_7 qq_8 ka kc n x6_3 x5_3 x4_3 x3_3).symm.trans h
        have hP : va_P G.1 vwCl ((wXO xa (ya 0) la (pa 0) (qa 0)) ++ ((wLO G la lo) ++ ((wSYc G ya yy_0 yy_1 yy_2 yy_3 yy_4 yy_5 yy_6 yy_7 yy_8) ++ ((wPLc G pa pp_0 pp_1 pp_2 pp_3 pp_4 pp_5 pp_6 pp_7 pp_8) ++ ((wPLc G qa qq_0 qq_1 qq_2 qq_3 qq_4 qq_5 qq_6 qq_7 qq_8) ++ ((wAR G aka 60 ka) ++ ((wAR G akc 1 kc)))))))) H := hP
        have hD : va_D A ((wXO xa (ya 0) la (pa 0) (qa 0)) ++ ((wLO G la lo) ++ ((wSYc G ya yy_0 yy_1 yy_2 yy_3 yy_4 yy_5 yy_6 yy_7 yy_8) ++ ((wPLc G pa pp_0 pp_1 pp_2 pp_3 pp_4 pp_5 pp_6 pp_7 pp_8) ++ ((wPLc G qa qq_0 qq_1 qq_2 qq_3 qq_4 qq_5 qq_6 qq_7 qq_8) ++ ((wAR G aka 60 ka) ++ ((wAR G akc 1 kc)))))))) := hD
        have hl : lv_has ls 12 [(6, .int x6_3), (5, .int x5_3), (4, .int x4_3), (3, .int x3_3), (0, .ref xa), (1, .ref aka), (2, .ref akc)] := hl
        refine lv_iload hx hb dL_isOrder_25 (lv_at hl 0 rfl) ?_
        refine lv_aload_n hx hb dL_isOrder_27 rfl (lv_at hl 6 rfl) ?_
        refine lv_iconst (v := (0 : Int32)) hx hb dL_isOrder_28 (by decide) ?_
        refine va_iald hx hb hK hP 26 0 rfl rfl (xk_in0_1) dL_isOrder_29 ?_
        refine lv_icmp_ge (tgt := 277) hx hb dL_isOrder_30 (by decide) (fun c5 => ?_) (fun c5 => ?_)
        · have h := sp_t c5 h
          obtain rfl := sp_s h
          exact J3 _ _ hP hD hS _ (lv_sub hl [1, 4, 5, 6] rfl)
        · have h := sp_f c5 h
          refine lv_iload hx hb dL_isOrder_33 (lv_at hl 1 rfl) ?_
          refine lv_if_eq (tgt := 277) hx hb dL_isOrder_35 (by decide) (fun c6 => ?_) (fun c6 => ?_)
          · have h := sp_t c6 h
            obtain rfl := sp_s h
            exact J3 _ _ hP hD hS _ (lv_sub hl [1, 4, 5, 6] rfl)
          · have h := sp_f c6 h
            refine lv_aload_n hx hb dL_isOrder_38 rfl (lv_at hl 4 rfl) ?_
            refine lv_iload hx hb dL_isOrder_39 (lv_at hl 0 rfl) ?_
            obtain ⟨o7, ho7, h⟩ := sp_b h
            have hP9 : va_P G.1 vwCl (((wAR G aka 60 ka) ++ ((wAR G akc 1 kc))) ++ ((wXO xa (ya 0) la (pa 0) (qa 0)) ++ ((wLO G la lo) ++ ((wSYc G ya yy_0 yy_1 yy_2 yy_3 yy_4 yy_5 yy_6 yy_7 yy_8) ++ ((wPLc G pa pp_0 pp_1 pp_2 pp_3 pp_4 pp_5 pp_6 pp_7 pp_8) ++ ((wPLc G qa qq_0 qq_1 qq_2 qq_3 qq_4 qq_5 qq_6 qq_7 qq_8))))))) H := xf_P (xf_p_7_56_01234 (wXO xa (ya 0) la (pa 0) (qa 0)) (wLO G la lo) (wSYc G ya yy_0 yy_1 yy_2 yy_3 yy_4 yy_5 yy_6 yy_7 yy_8) (wPLc G pa pp_0 pp_1 pp_2 pp_3 pp_4 pp_5 pp_6 pp_7 pp_8) (wPLc G qa qq_0 qq_1 qq_2 qq_3 qq_4 qq_5 qq_6 qq_7 qq_8) (wAR G aka 60 ka) (wAR G akc 1 kc)) hP
            have hD9 : va_D A (((wAR G aka 60 ka) ++ ((wAR G akc 1 kc))) ++ ((wXO xa (ya 0) la (pa 0) (qa 0)) ++ ((wLO G la lo) ++ ((wSYc G ya yy_0 yy_1 yy_2 yy_3 yy_4 yy_5 yy_6 yy_7 yy_8) ++ ((wPLc G pa pp_0 pp_1 pp_2 pp_3 pp_4 pp_5 pp_6 pp_7 pp_8) ++ ((wPLc G qa qq_0 qq_1 qq_2 qq_3 qq_4 qq_5 qq_6 qq_7 qq_8))))))) := xf_D (xf_p_7_56_01234 (wXO xa (ya 0) la (pa 0) (qa 0)) (wLO G la lo) (wSYc G ya yy_0 yy_1 yy_2 yy_3 yy_4 yy_5 yy_6 yy_7 yy_8) (wPLc G pa pp_0 pp_1 pp_2 pp_3 pp_4 pp_5 pp_6 pp_7 pp_8) (wPLc G qa qq_0 qq_1 qq_2 qq_3 qq_4 qq_5 qq_6 qq_7 qq_8) (wAR G aka 60 ka) (wAR G akc 1 kc)) hD
            refine xf_ci (va_runV (As := [.int x6_3]) (rest := []) ⟨hx, hb, hml, hown, hts⟩ (c_X2_ordered l G xa la ya pa qa lo (yy_0, yy_1, yy_2, yy_3, yy_4, yy_5, yy_6, yy_7, yy_8) (pp_0, pp_1, pp_2, pp_3, pp_4, pp_5, pp_6, pp_7, pp_8) (qq_0, qq_1, qq_2, qq_3, qq_4, qq_5, qq_6, qq_7, qq_8) x6_3 o7 ho7 H.size) (cwV 1 hts gL_isOrder_X2_ordered rfl rfl rfl (by decide +kernel) ⟨(Nat.le_of_ble_eq_true rfl), (Nat.le_of_ble_eq_true rfl)⟩) (xk_preV hK hNE (xf_pr hP9) (xf_dr hD9) (ci := 2) rfl rfl) rfl rfl hl.1 rfl (lv_room (Nat.le_of_ble_eq_true rfl)) dL_isOrder_41 ⟨(Nat.le_of_ble_eq_true rfl), (Nat.le_of_ble_eq_true rfl)⟩) hP9 hD9 hS hA (fun H locs hP hD hS => ?_)
            have hP : va_P G.1 vwCl ((wXO xa (ya 0) la (pa 0) (qa 0)) ++ ((wLO G la lo) ++ ((wSYc G ya yy_0 yy_1 yy_2 yy_3 yy_4 yy_5 yy_6 yy_7 yy_8) ++ ((wPLc G pa pp_0 pp_1 pp_2 pp_3 pp_4 pp_5 pp_6 pp_7 pp_8) ++ ((wPLc G qa qq_0 qq_1 qq_2 qq_3 qq_4 qq_5 qq_6 qq_7 qq_8) ++ ((wAR G aka 60 ka) ++ ((wAR G akc 1 kc)))))))) H := xf_P (xf_p_7_56_01234 (wXO xa (ya 0) la (pa 0) (qa 0)) (wLO G la lo) (wSYc G ya yy_0 yy_1 yy_2 yy_3 yy_4 yy_5 yy_6 yy_7 yy_8) (wPLc G pa pp_0 pp_1 pp_2 pp_3 pp_4 pp_5 pp_6 pp_7 pp_8) (wPLc G qa qq_0 qq_1 qq_2 qq_3 qq_4 qq_5 qq_6 qq_7 qq_8) (wAR G aka 60 ka) (wAR G akc 1 kc)).symm (show va_P G.1 vwCl (((wAR G aka 60 ka) ++ ((wAR G akc 1 kc))) ++ ((wXO xa (ya 0) la (pa 0) (qa 0)) ++ ((wLO G la lo) ++ ((wSYc G ya yy_0 yy_1 yy_2 yy_3 yy_4 yy_5 yy_6 yy_7 yy_8) ++ ((wPLc G pa pp_0 pp_1 pp_2 pp_3 pp_4 pp_5 pp_6 pp_7 pp_8) ++ ((wPLc G qa qq_0 qq_1 qq_2 qq_3 qq_4 qq_5 qq_6 qq_7 qq_8))))))) H from hP)
            have hD : va_D A ((wXO xa (ya 0) la (pa 0) (qa 0)) ++ ((wLO G la lo) ++ ((wSYc G ya yy_0 yy_1 yy_2 yy_3 yy_4 yy_5 yy_6 yy_7 yy_8) ++ ((wPLc G pa pp_0 pp_1 pp_2 pp_3 pp_4 pp_5 pp_6 pp_7 pp_8) ++ ((wPLc G qa qq_0 qq_1 qq_2 qq_3 qq_4 qq_5 qq_6 qq_7 qq_8) ++ ((wAR G aka 60 ka) ++ ((wAR G akc 1 kc)))))))) := xf_D (xf_p_7_56_01234 (wXO xa (ya 0) la (pa 0) (qa 0)) (wLO G la lo) (wSYc G ya yy_0 yy_1 yy_2 yy_3 yy_4 yy_5 yy_6 yy_7 yy_8) (wPLc G pa pp_0 pp_1 pp_2 pp_3 pp_4 pp_5 pp_6 pp_7 pp_8) (wPLc G qa qq_0 qq_1 qq_2 qq_3 qq_4 qq_5 qq_6 qq_7 qq_8) (wAR G aka 60 ka) (wAR G akc 1 kc)).symm (show va_D A (((wAR G aka 60 ka) ++ ((wAR G akc 1 kc))) ++ ((wXO xa (ya 0) la (pa 0) (qa 0)) ++ ((wLO G la lo) ++ ((wSYc G ya yy_0 yy_1 yy_2 yy_3 yy_4 yy_5 yy_6 yy_7 yy_8) ++ ((wPLc G pa pp_0 pp_1 pp_2 pp_3 pp_4 pp_5 pp_6 pp_7 pp_8) ++ ((wPLc G qa qq_0 qq_1 qq_2 qq_3 qq_4 qq_5 qq_6 qq_7 qq_8))))))) from hD)
            refine lv_istore (lv' := [(7, .int o7), (6, .int x6_3), (5, .int x5_3), (4, .int x4_3), (3, .int x3_3), (0, .ref xa), (1, .ref aka), (2, .ref akc)]) hx hb dL_isOrder_44 hl (by decide) rfl (fun ls hl => ?_)
            refine lv_iload hx hb dL_isOrder_46 (lv_at hl 0 rfl) ?_
            obtain ⟨v8, hv8, h⟩ := sp_b h
            refine xk_jn G A s.heap ((wXO xa (ya 0) la (pa 0) (qa 0)) ++ ((wLO G la lo) ++ ((wSYc G ya yy_0 yy_1 yy_2 yy_3 yy_4 yy_5 yy_6 yy_7 yy_8) ++ ((wPLc G pa pp_0 pp_1 pp_2 pp_3 pp_4 pp_5 pp_6 pp_7 pp_8) ++ ((wPLc G qa qq_0 qq_1 qq_2 qq_3 qq_4 qq_5 qq_6 qq_7 qq_8) ++ ((wAR G aka 60 ka) ++ ((wAR G akc 1 kc)))))))) 12 [(7, .int o7), (6, .int x6_3), (4, .int x4_3), (3, .int x3_3), (0, .ref xa), (1, .ref aka), (2, .ref akc)] 88 [.int v8] (fun H locs hP hD hS ls hl => ?_) (fun J8 => ?_)
            · refine lv_istore (lv' := [(5, .int v8), (7, .int o7), (6, .int x6_3), (4, .int x4_3), (3, .int x3_3), (0, .ref xa), (1, .ref aka), (2, .ref akc)]) hx hb dL_isOrder_88 hl (by decide) rfl (fun ls hl => ?_)
              refine lv_iload hx hb dL_isOrder_90 (lv_at hl 0 rfl) ?_
              obtain ⟨v9, hv9, h⟩ := sp_b h
              refine xk_jn G A s.heap ((wXO xa (ya 0) la (pa 0) (qa 0)) ++ ((wLO G la lo) ++ ((wSYc G ya yy_0 yy_1 yy_2 yy_3 yy_4 yy_5 yy_6 yy_7 yy_8) ++ ((wPLc G pa pp_0 pp_1 pp_2 pp_3 pp_4 pp_5 pp_6 pp_7 pp_8) ++ ((wPLc G qa qq_0 qq_1 qq_2 qq_3 qq_4 qq_5 qq_6 qq_7 qq_8) ++ ((wAR G aka 60 ka) ++ ((wAR G akc 1 kc)))))))) 12 [(5, .int v8), (7, .int o7), (6, .int x6_3), (4, .int x4_3), (3, .int x3_3), (0, .ref xa), (1, .ref aka), (2, .ref akc)] 124 [.int v9] (fun H locs hP hD hS ls hl => ?_) (fun J9 => ?_)
              · refine lv_istore (lv' := [(8, .int v9), (5, .int v8), (7, .int o7), (6, .int x6_3), (4, .int x4_3), (3, .int x3_3), (0, .ref xa), (1, .ref aka), (2, .ref akc)]) hx hb dL_isOrder_124 hl (by decide) rfl (fun ls hl => ?_)
                refine lv_iconst (v := (0 : Int32)) hx hb dL_isOrder_126 (by decide) ?_
                refine lv_istore (lv' := [(9, .int (0 : Int32)), (8, .int v9), (5, .int v8), (7, .int o7), (6, .int x6_3), (4, .int x4_3), (3, .int x3_3), (0, .ref xa), (1, .ref aka), (2, .ref akc)]) hx hb dL_isOrder_127 hl (by decide) rfl (fun ls hl => ?_)
                obtain ⟨w11, hw11, h⟩ := sp_b h
                refine xk_jn G A s.heap ((wXO xa (ya 0) la (pa 0) (qa 0)) ++ ((wLO G la lo) ++ ((wSYc G ya yy_0 yy_1 yy_2 yy_3 yy_4 yy_5 yy_6 yy_7 yy_8) ++ ((wPLc G pa pp_0 pp_1 pp_2 pp_3 pp_4 pp_5 pp_6 pp_7 pp_8) ++ ((wPLc G qa qq_0 qq_1 qq_2 qq_3 qq_4 qq_5 qq_6 qq_7 qq_8) ++ ((wAR G aka 60 ka) ++ ((wAR G akc 1 kc)))))))) 12 [(5, .int w11), (7, .int o7), (6, .int x6_3), (3, .int x3_3), (0, .ref xa), (1, .ref aka), (2, .ref akc)] 251 [] (fun H locs hP hD hS ls hl => ?_) (fun J10 => ?_)
                · refine lv_iload_n hx hb dL_isOrder_251 rfl (lv_at hl 3 rfl) ?_
                  refine lv_iload hx hb dL_isOrder_252 (lv_at hl 0 rfl) ?_
                  obtain ⟨v29, hv29, h⟩ := sp_b h
                  refine xk_jn G A s.heap ((wXO xa (ya 0) la (pa 0) (qa 0)) ++ ((wLO G la lo) ++ ((wSYc G ya yy_0 yy_1 yy_2 yy_3 yy_4 yy_5 yy_6 yy_7 yy_8) ++ ((wPLc G pa pp_0 pp_1 pp_2 pp_3 pp_4 pp_5 pp_6 pp_7 pp_8) ++ ((wPLc G qa qq_0 qq_1 qq_2 qq_3 qq_4 qq_5 qq_6 qq_7 qq_8) ++ ((wAR G aka 60 ka) ++ ((wAR G akc 1 kc)))))))) 12 [(5, .int w11), (7, .int o7), (6, .int x6_3), (0, .ref xa), (1, .ref aka), (2, .ref akc)] 265 [.int v29, .int x3_3] (fun H locs hP hD hS ls hl => ?_) (fun J29 => ?_)
                  · refine lv_ior hx hb dL_isOrder_265 ?_
                    refine lv_istore_n (lv' := [(3, .int (x3_3 ||| v29)), (5, .int w11), (7, .int o7), (6, .int x6_3), (0, .ref xa), (1, .ref aka), (2, .ref akc)]) hx hb dL_isOrder_266 rfl hl (by decide) rfl (fun ls hl => ?_)
                    refine lv_iload hx hb dL_isOrder_267 (lv_at hl 2 rfl) ?_
                    refine lv_istore (lv' := [(4, .int o7), (3, .int (x3_3 ||| v29)), (5, .int w11), (7, .int o7), (6, .int x6_3), (0, .ref xa), (1, .ref aka), (2, .ref akc)]) hx hb dL_isOrder_269 hl (by decide) rfl (fun ls hl => ?_)
                    refine lv_iinc (v := (x6_3 + (1 : Int32))) (lv' := [(6, .int (x6_3 + (1 : Int32))), (4, .int o7), (3, .int (x3_3 ||| v29)), (5, .int w11), (7, .int o7), (0, .ref xa), (1, .ref aka), (2, .ref akc)]) hx hb dL_isOrder_271 hl (k := 4) rfl rfl (by decide) rfl (fun ls hl => ?_)
                    refine lv_goto (tgt := 25) hx hb dL_isOrder_274 (by decide) ?_
                    exact ih_3 ((x6_3 + (1 : Int32)), w11, o7, (x3_3 ||| v29)) h _ _ hP hD hS _ (lv_sub hl [0, 3, 1, 2, 5, 6, 7] rfl)
                  · have h := hv29
                    clear hv29
                    refine lv_if_eq (tgt := 264) hx hb dL_isOrder_254 (by decide) (fun c30 => ?_) (fun c30 => ?_)
                    · have h := sp_t c30 h
                      refine lv_iconst (v := (0 : Int32)) hx hb dL_isOrder_264 (by decide) ?_
                      obtain rfl := sp_s h
                      exact J29 _ _ hP hD hS _ (lv_sub hl [0, 1, 2, 4, 5, 6] rfl)
                    · have h := sp_f c30 h
                      refine lv_iconst (v := (1 : Int32)) hx hb dL_isOrder_257 (by decide) ?_
                      refine lv_iload hx hb dL_isOrder_258 (lv_at hl 1 rfl) ?_
                      refine lv_ishl hx hb dL_isOrder_260 ?_
                      refine lv_goto (tgt := 265) hx hb dL_isOrder_261 (by decide) ?_
                      obtain rfl := sp_s h
                      exact J29 _ _ hP hD hS _ (lv_sub hl [0, 1, 2, 4, 5, 6] rfl)
                · have h := hw11
                  clear hw11
                  refine xk_lp (α := Int32 × Int32) G A s.heap (fun a_10 => ((wXO xa (ya 0) la (pa 0) (qa 0)) ++ ((wLO G la lo) ++ ((wSYc G ya yy_0 yy_1 yy_2 yy_3 yy_4 yy_5 yy_6 yy_7 yy_8) ++ ((wPLc G pa pp_0 pp_1 pp_2 pp_3 pp_4 pp_5 pp_6 pp_7 pp_8) ++ ((wPLc G qa qq_0 qq_1 qq_2 qq_3 qq_4 qq_5 qq_6 qq_7 qq_8) ++ ((wAR G aka 60 ka) ++ ((wAR G akc 1 kc))))))))) 12 (fun a_10 => [(9, .int a_10.1), (8, .int v9), (5, .int a_10.2), (7, .int o7), (6, .int x6_3), (4, .int x4_3), (3, .int x3_3), (0, .ref xa), (1, .ref aka), (2, .ref akc)]) 129 (fun n a_10 => f_L_isOrder_l129 ka kc x4_3 x3_3 o7 v9 n a_10.1 a_10.2 = some w11) (fun a_10 h => ?_) (fun n ih_10 a_10 h H locs hP hD hS ls hl => ?_) (fun LL => ?_)
                  · exact sp_n ((f_L_isOrder_l129_z _ _ _ _ _ _ _ _).symm.trans h)
                  · obtain ⟨x9_10, x5_10⟩ := a_10
                    have h := (f_L_isOrder_l129_s ka kc x4_3 x3_3 o7 v9 n x9_10 x5_10).symm.trans h
                    have hP : va_P G.1 vwCl ((wXO xa (ya 0) la (pa 0) (qa 0)) ++ ((wLO G la lo) ++ ((wSYc G ya yy_0 yy_1 yy_2 yy_3 yy_4 yy_5 yy_6 yy_7 yy_8) ++ ((wPLc G pa pp_0 pp_1 pp_2 pp_3 pp_4 pp_5 pp_6 pp_7 pp_8) ++ ((wPLc G qa qq_0 qq_1 qq_2 qq_3 qq_4 qq_5 qq_6 qq_7 qq_8) ++ ((wAR G aka 60 ka) ++ ((wAR G akc 1 kc)))))))) H := hP
                    have hD : va_D A ((wXO xa (ya 0) la (pa 0) (qa 0)) ++ ((wLO G la lo) ++ ((wSYc G ya yy_0 yy_1 yy_2 yy_3 yy_4 yy_5 yy_6 yy_7 yy_8) ++ ((wPLc G pa pp_0 pp_1 pp_2 pp_3 pp_4 pp_5 pp_6 pp_7 pp_8) ++ ((wPLc G qa qq_0 qq_1 qq_2 qq_3 qq_4 qq_5 qq_6 qq_7 qq_8) ++ ((wAR G aka 60 ka) ++ ((wAR G akc 1 kc)))))))) := hD
                    have hl : lv_has ls 12 [(9, .int x9_10), (8, .int v9), (5, .int x5_10), (7, .int o7), (6, .int x6_3), (4, .int x4_3), (3, .int x3_3), (0, .ref xa), (1, .ref aka), (2, .ref akc)] := hl
                    refine lv_iload hx hb dL_isOrder_129 (lv_at hl 0 rfl) ?_
                    refine lv_aload_n hx hb dL_isOrder_131 rfl (lv_at hl 9 rfl) ?_
                    refine lv_iconst (v := (0 : Int32)) hx hb dL_isOrder_132 (by decide) ?_
                    refine va_iald hx hb hK hP 26 0 rfl rfl (xk_in0_1) dL_isOrder_133 ?_
                    refine lv_icmp_ge (tgt := 251) hx hb dL_isOrder_134 (by decide) (fun c12 => ?_) (fun c12 => ?_)
                    · have h := sp_t c12 h
                      obtain rfl := sp_s h
                      exact J10 _ _ hP hD hS _ (lv_sub hl [2, 3, 4, 6, 7, 8, 9] rfl)
                    · have h := sp_f c12 h
                      refine lv_iload hx hb dL_isOrder_137 (lv_at hl 2 rfl) ?_
                      refine lv_if_eq (tgt := 251) hx hb dL_isOrder_139 (by decide) (fun c13 => ?_) (fun c13 => ?_)
                      · have h := sp_t c13 h
                        obtain rfl := sp_s h
                        exact J10 _ _ hP hD hS _ (lv_sub hl [2, 3, 4, 6, 7, 8, 9] rfl)
                      · have h := sp_f c13 h
                        refine lv_iload hx hb dL_isOrder_142 (lv_at hl 0 rfl) ?_
                        refine lv_iload hx hb dL_isOrder_144 (lv_at hl 3 rfl) ?_
                        obtain ⟨v14, hv14, h⟩ := sp_b h
                        refine xk_jn G A s.heap ((wXO xa (ya 0) la (pa 0) (qa 0)) ++ ((wLO G la lo) ++ ((wSYc G ya yy_0 yy_1 yy_2 yy_3 yy_4 yy_5 yy_6 yy_7 yy_8) ++ ((wPLc G pa pp_0 pp_1 pp_2 pp_3 pp_4 pp_5 pp_6 pp_7 pp_8) ++ ((wPLc G qa qq_0 qq_1 qq_2 qq_3 qq_4 qq_5 qq_6 qq_7 qq_8) ++ ((wAR G aka 60 ka) ++ ((wAR G akc 1 kc)))))))) 12 [(9, .int x9_10), (8, .int v9), (7, .int o7), (6, .int x6_3), (4, .int x4_3), (3, .int x3_3), (0, .ref xa), (1, .ref aka), (2, .ref akc)] 178 [.int v14] (fun H locs hP hD hS ls hl => ?_) (fun J14 => ?_)
                        · refine lv_istore (lv' := [(10, .int v14), (9, .int x9_10), (8, .int v9), (7, .int o7), (6, .int x6_3), (4, .int x4_3), (3, .int x3_3), (0, .ref xa), (1, .ref aka), (2, .ref akc)]) hx hb dL_isOrder_178 hl (by decide) rfl (fun ls hl => ?_)
                          refine lv_iload hx hb dL_isOrder_180 (lv_at hl 5 rfl) ?_
                          obtain ⟨v15, hv15, h⟩ := sp_b h
                          refine xk_jn G A s.heap ((wXO xa (ya 0) la (pa 0) (qa 0)) ++ ((wLO G la lo) ++ ((wSYc G ya yy_0 yy_1 yy_2 yy_3 yy_4 yy_5 yy_6 yy_7 yy_8) ++ ((wPLc G pa pp_0 pp_1 pp_2 pp_3 pp_4 pp_5 pp_6 pp_7 pp_8) ++ ((wPLc G qa qq_0 qq_1 qq_2 qq_3 qq_4 qq_5 qq_6 qq_7 qq_8) ++ ((wAR G aka 60 ka) ++ ((wAR G akc 1 kc)))))))) 12 [(10, .int v14), (9, .int x9_10), (8, .int v9), (7, .int o7), (6, .int x6_3), (4, .int x4_3), (3, .int x3_3), (0, .ref xa), (1, .ref aka), (2, .ref akc)] 209 [.int v15] (fun H locs hP hD hS ls hl => ?_) (fun J15 => ?_)
                          · refine lv_istore (lv' := [(11, .int v15), (10, .int v14), (9, .int x9_10), (8, .int v9), (7, .int o7), (6, .int x6_3), (4, .int x4_3), (3, .int x3_3), (0, .ref xa), (1, .ref aka), (2, .ref akc)]) hx hb dL_isOrder_209 hl (by decide) rfl (fun ls hl => ?_)
                            refine lv_iload hx hb dL_isOrder_211 (lv_at hl 1 rfl) ?_
                            refine lv_if_eq (tgt := 238) hx hb dL_isOrder_213 (by decide) (fun c16 => ?_) (fun c16 => ?_)
                            · have h := sp_t c16 h
                              refine lv_iconst (v := (1 : Int32)) hx hb dL_isOrder_238 (by decide) ?_
                              refine lv_goto (tgt := 243) hx hb dL_isOrder_239 (by decide) ?_
                              refine lv_istore (lv' := [(5, .int (1 : Int32)), (11, .int v15), (10, .int v14), (9, .int x9_10), (8, .int v9), (7, .int o7), (6, .int x6_3), (4, .int x4_3), (3, .int x3_3), (0, .ref xa), (1, .ref aka), (2, .ref akc)]) hx hb dL_isOrder_243 hl (by decide) rfl (fun ls hl => ?_)
                              refine lv_iinc (v := (x9_10 + (1 : Int32))) (lv' := [(9, .int (x9_10 + (1 : Int32))), (5, .int (1 : Int32)), (11, .int v15), (10, .int v14), (8, .int v9), (7, .int o7), (6, .int x6_3), (4, .int x4_3), (3, .int x3_3), (0, .ref xa), (1, .ref aka), (2, .ref akc)]) hx hb dL_isOrder_245 hl (k := 3) rfl rfl (by decide) rfl (fun ls hl => ?_)
                              refine lv_goto (tgt := 129) hx hb dL_isOrder_248 (by decide) ?_
                              exact ih_10 ((x9_10 + (1 : Int32)), (1 : Int32)) h _ _ hP hD hS _ (lv_sub hl [0, 4, 1, 5, 6, 7, 8, 9, 10, 11] rfl)
                            · have h := sp_f c16 h
                              refine lv_iload hx hb dL_isOrder_216 (lv_at hl 0 rfl) ?_
                              refine lv_iload hx hb dL_isOrder_218 (lv_at hl 3 rfl) ?_
                              refine lv_icmp_ne (tgt := 233) hx hb dL_isOrder_220 (by decide) (fun c17 => ?_) (fun c17 => ?_)
                              · have h := sp_f c17 h
                                refine lv_iload hx hb dL_isOrder_233 (lv_at hl 3 rfl) ?_
                                refine lv_if_eq (tgt := 242) hx hb dL_isOrder_235 (by decide) (fun c18 => ?_) (fun c18 => ?_)
                                · have h := sp_t c18 h
                                  refine lv_iconst (v := (0 : Int32)) hx hb dL_isOrder_242 (by decide) ?_
                                  refine lv_istore (lv' := [(5, .int (0 : Int32)), (11, .int v15), (10, .int v14), (9, .int x9_10), (8, .int v9), (7, .int o7), (6, .int x6_3), (4, .int x4_3), (3, .int x3_3), (0, .ref xa), (1, .ref aka), (2, .ref akc)]) hx hb dL_isOrder_243 hl (by decide) rfl (fun ls hl => ?_)
                                  refine lv_iinc (v := (x9_10 + (1 : Int32))) (lv' := [(9, .int (x9_10 + (1 : Int32))), (5, .int (0 : Int32)), (11, .int v15), (10, .int v14), (8, .int v9), (7, .int o7), (6, .int x6_3), (4, .int x4_3), (3, .int x3_3), (0, .ref xa), (1, .ref aka), (2, .ref akc)]) hx hb dL_isOrder_245 hl (k := 3) rfl rfl (by decide) rfl (fun ls hl => ?_)
                                  refine lv_goto (tgt := 129) hx hb dL_isOrder_248 (by decide) ?_
                                  exact ih_10 ((x9_10 + (1 : Int32)), (0 : Int32)) h _ _ hP hD hS _ (lv_sub hl [0, 4, 1, 5, 6, 7, 8, 9, 10, 11] rfl)
                                · have h := sp_f c18 h
                                  refine lv_iconst (v := (1 : Int32)) hx hb dL_isOrder_238 (by decide) ?_
                                  refine lv_goto (tgt := 243) hx hb dL_isOrder_239 (by decide) ?_
                                  refine lv_istore (lv' := [(5, .int (1 : Int32)), (11, .int v15), (10, .int v14), (9, .int x9_10), (8, .int v9), (7, .int o7), (6, .int x6_3), (4, .int x4_3), (3, .int x3_3), (0, .ref xa), (1, .ref aka), (2, .ref akc)]) hx hb dL_isOrder_243 hl (by decide) rfl (fun ls hl => ?_)
                                  refine lv_iinc (v := (x9_10 + (1 : Int32))) (lv' := [(9, .int (x9_10 + (1 : Int32))), (5, .int (1 : Int32)), (11, .int v15), (10, .int v14), (8, .int v9), (7, .int o7), (6, .int x6_3), (4, .int x4_3), (3, .int x3_3), (0, .ref xa), (1, .ref aka), (2, .ref akc)]) hx hb dL_isOrder_245 hl (k := 3) rfl rfl (by decide) rfl (fun ls hl => ?_)
                                  refine lv_goto (tgt := 129) hx hb dL_isOrder_248 (by decide) ?_
                                  exact ih_10 ((x9_10 + (1 : Int32)), (1 : Int32)) h _ _ hP hD hS _ (lv_sub hl [0, 4, 1, 5, 6, 7, 8, 9, 10, 11] rfl)
                              · have h := sp_t c17 h
                                refine lv_iload hx hb dL_isOrder_223 (lv_at hl 2 rfl) ?_
                                refine lv_iload hx hb dL_isOrder_225 (lv_at hl 4 rfl) ?_
                                refine lv_icmp_le (tgt := 242) hx hb dL_isOrder_227 (by decide) (fun c19 => ?_) (fun c19 => ?_)
                                · have h := sp_t c19 h
                                  refine lv_iconst (v := (0 : Int32)) hx hb dL_isOrder_242 (by decide) ?_
                                  refine lv_istore (lv' := [(5, .int (0 : Int32)), (11, .int v15), (10, .int v14), (9, .int x9_10), (8, .int v9), (7, .int o7), (6, .int x6_3), (4, .int x4_3), (3, .int x3_3), (0, .ref xa), (1, .ref aka), (2, .ref akc)]) hx hb dL_isOrder_243 hl (by decide) rfl (fun ls hl => ?_)
                                  refine lv_iinc (v := (x9_10 + (1 : Int32))) (lv' := [(9, .int (x9_10 + (1 : Int32))), (5, .int (0 : Int32)), (11, .int v15), (10, .int v14), (8, .int v9), (7, .int o7), (6, .int x6_3), (4, .int x4_3), (3, .int x3_3), (0, .ref xa), (1, .ref aka), (2, .ref akc)]) hx hb dL_isOrder_245 hl (k := 3) rfl rfl (by decide) rfl (fun ls hl => ?_)
                                  refine lv_goto (tgt := 129) hx hb dL_isOrder_248 (by decide) ?_
                                  exact ih_10 ((x9_10 + (1 : Int32)), (0 : Int32)) h _ _ hP hD hS _ (lv_sub hl [0, 4, 1, 5, 6, 7, 8, 9, 10, 11] rfl)
                                · have h := sp_f c19 h
                                  refine lv_goto (tgt := 238) hx hb dL_isOrder_230 (by decide) ?_
                                  refine lv_iconst (v := (1 : Int32)) hx hb dL_isOrder_238 (by decide) ?_
                                  refine lv_goto (tgt := 243) hx hb dL_isOrder_239 (by decide) ?_
                                  refine lv_istore (lv' := [(5, .int (1 : Int32)), (11, .int v15), (10, .int v14), (9, .int x9_10), (8, .int v9), (7, .int o7), (6, .int x6_3), (4, .int x4_3), (3, .int x3_3), (0, .ref xa), (1, .ref aka), (2, .ref akc)]) hx hb dL_isOrder_243 hl (by decide) rfl (fun ls hl => ?_)
                                  refine lv_iinc (v := (x9_10 + (1 : Int32))) (lv' := [(9, .int (x9_10 + (1 : Int32))), (5, .int (1 : Int32)), (11, .int v15), (10, .int v14), (8, .int v9), (7, .int o7), (6, .int x6_3), (4, .int x4_3), (3, .int x3_3), (0, .ref xa), (1, .ref aka), (2, .ref akc)]) hx hb dL_isOrder_245 hl (k := 3) rfl rfl (by decide) rfl (fun ls hl => ?_)
                                  refine lv_goto (tgt := 129) hx hb dL_isOrder_248 (by decide) ?_
                                  exact ih_10 ((x9_10 + (1 : Int32)), (1 : Int32)) h _ _ hP hD hS _ (lv_sub hl [0, 4, 1, 5, 6, 7, 8, 9, 10, 11] rfl)
                          · have h := hv15
                            clear hv15
                            refine lv_if_lt (tgt := 208) hx hb dL_isOrder_182 (by decide) (fun c20 => ?_) (fun c20 => ?_)
                            · have h := sp_t c20 h
                              refine lv_iconst (v := (0 : Int32)) hx hb dL_isOrder_208 (by decide) ?_
                              obtain rfl := sp_s h
                              exact J15 _ _ hP hD hS _ (lv_sub hl [0, 1, 2, 3, 4, 5, 6, 7, 8, 9] rfl)
                            · have h := sp_f c20 h
                              refine lv_aload_n hx hb dL_isOrder_185 rfl (lv_at hl 8 rfl) ?_
                              refine lv_iconst (v := (5 : Int32)) hx hb dL_isOrder_186 (by decide) ?_
                              refine lv_iload hx hb dL_isOrder_187 (lv_at hl 1 rfl) ?_
                              refine lv_imul hx hb dL_isOrder_189 ?_
                              refine lv_iconst (v := (1 : Int32)) hx hb dL_isOrder_190 (by decide) ?_
                              refine lv_iadd hx hb dL_isOrder_191 ?_
                              obtain ⟨hin21, h⟩ := sp_g h
                              refine va_iald hx hb hK hP 25 0 rfl rfl hin21 dL_isOrder_192 ?_
                              refine lv_aload_n hx hb dL_isOrder_193 rfl (lv_at hl 8 rfl) ?_
                              refine lv_iconst (v := (5 : Int32)) hx hb dL_isOrder_194 (by decide) ?_
                              refine lv_iload hx hb dL_isOrder_195 (lv_at hl 5 rfl) ?_
                              refine lv_imul hx hb dL_isOrder_197 ?_
                              refine lv_iconst (v := (1 : Int32)) hx hb dL_isOrder_198 (by decide) ?_
                              refine lv_iadd hx hb dL_isOrder_199 ?_
                              obtain ⟨hin22, h⟩ := sp_g h
                              refine va_iald hx hb hK hP 25 0 rfl rfl hin22 dL_isOrder_200 ?_
                              refine lv_icmp_ne (tgt := 208) hx hb dL_isOrder_201 (by decide) (fun c23 => ?_) (fun c23 => ?_)
                              · have h := sp_f c23 h
                                refine lv_iconst (v := (0 : Int32)) hx hb dL_isOrder_208 (by decide) ?_
                                obtain rfl := sp_s h
                                exact J15 _ _ hP hD hS _ (lv_sub hl [0, 1, 2, 3, 4, 5, 6, 7, 8, 9] rfl)
                              · have h := sp_t c23 h
                                refine lv_iconst (v := (1 : Int32)) hx hb dL_isOrder_204 (by decide) ?_
                                refine lv_goto (tgt := 209) hx hb dL_isOrder_205 (by decide) ?_
                                obtain rfl := sp_s h
                                exact J15 _ _ hP hD hS _ (lv_sub hl [0, 1, 2, 3, 4, 5, 6, 7, 8, 9] rfl)
                        · have h := hv14
                          clear hv14
                          refine lv_icmp_eq (tgt := 177) hx hb dL_isOrder_146 (by decide) (fun c24 => ?_) (fun c24 => ?_)
                          · have h := sp_t c24 h
                            refine lv_iconst (v := (0 : Int32)) hx hb dL_isOrder_177 (by decide) ?_
                            obtain rfl := sp_s h
                            exact J14 _ _ hP hD hS _ (lv_sub hl [0, 1, 3, 4, 5, 6, 7, 8, 9] rfl)
                          · have h := sp_f c24 h
                            refine lv_iload_n hx hb dL_isOrder_149 rfl (lv_at hl 6 rfl) ?_
                            refine lv_iload hx hb dL_isOrder_150 (lv_at hl 0 rfl) ?_
                            obtain ⟨o25, ho25, h⟩ := sp_b h
                            refine xf_ci0 (va_runS (As := [.int x3_3, .int x9_10]) (rest := []) ⟨hx, hb, hml, hown, hts⟩ (c_L_isIn l G x3_3 x9_10 o25 ho25 H.size) (va_cwS 2 hts gL_isOrder_L_isIn rfl rfl rfl (by decide +kernel) ⟨(Nat.le_of_ble_eq_true rfl), (Nat.le_of_ble_eq_true rfl)⟩) (xk_preS hK hNE (xf_p0 : va_P G.1 vwCl [] H) (xf_d0 : va_D A [])) rfl rfl hl.1 rfl (lv_room (Nat.le_of_ble_eq_true rfl)) dL_isOrder_152 ⟨(Nat.le_of_ble_eq_true rfl), (Nat.le_of_ble_eq_true rfl)⟩) hP hD hS hA (fun H locs hP hD hS => ?_)
                            refine lv_if_ne (tgt := 177) hx hb dL_isOrder_155 (by decide) (fun c26 => ?_) (fun c26 => ?_)
                            · have h := sp_f c26 h
                              refine lv_iconst (v := (0 : Int32)) hx hb dL_isOrder_177 (by decide) ?_
                              obtain rfl := sp_s h
                              exact J14 _ _ hP hD hS _ (lv_sub hl [0, 1, 3, 4, 5, 6, 7, 8, 9] rfl)
                            · have h := sp_t c26 h
                              refine lv_aload_n hx hb dL_isOrder_158 rfl (lv_at hl 8 rfl) ?_
                              refine lv_iconst (v := (5 : Int32)) hx hb dL_isOrder_159 (by decide) ?_
                              refine lv_iload hx hb dL_isOrder_160 (lv_at hl 0 rfl) ?_
                              refine lv_imul hx hb dL_isOrder_162 ?_
                              refine lv_iconst (v := (4 : Int32)) hx hb dL_isOrder_163 (by decide) ?_
                              refine lv_iadd hx hb dL_isOrder_164 ?_
                              obtain ⟨hin27, h⟩ := sp_g h
                              refine va_iald hx hb hK hP 25 0 rfl rfl hin27 dL_isOrder_165 ?_
                              refine lv_iload_n hx hb dL_isOrder_166 rfl (lv_at hl 6 rfl) ?_
                              refine lv_iconst (v := ((-1) : Int32)) hx hb dL_isOrder_167 (by decide) ?_
                              refine lv_ixor hx hb dL_isOrder_168 ?_
                              refine lv_iand hx hb dL_isOrder_169 ?_
                              refine lv_if_ne (tgt := 177) hx hb dL_isOrder_170 (by decide) (fun c28 => ?_) (fun c28 => ?_)
                              · have h := sp_f c28 h
                                refine lv_iconst (v := (0 : Int32)) hx hb dL_isOrder_177 (by decide) ?_
                                obtain rfl := sp_s h
                                exact J14 _ _ hP hD hS _ (lv_sub hl [0, 1, 3, 4, 5, 6, 7, 8, 9] rfl)
                              · have h := sp_t c28 h
                                refine lv_iconst (v := (1 : Int32)) hx hb dL_isOrder_173 (by decide) ?_
                                refine lv_goto (tgt := 178) hx hb dL_isOrder_174 (by decide) ?_
                                obtain rfl := sp_s h
                                exact J14 _ _ hP hD hS _ (lv_sub hl [0, 1, 3, 4, 5, 6, 7, 8, 9] rfl)
                  · exact LL 300 ((0 : Int32), v8) h _ _ hP hD hS _ (lv_sub hl [0, 1, 2, 3, 4, 5, 6, 7, 8, 9] rfl)
              · have h := hv9
                clear hv9
                refine lv_if_eq (tgt := 123) hx hb dL_isOrder_92 (by decide) (fun c31 => ?_) (fun c31 => ?_)
                · have h := sp_t c31 h
                  refine lv_iconst (v := (0 : Int32)) hx hb dL_isOrder_123 (by decide) ?_
                  obtain rfl := sp_s h
                  exact J9 _ _ hP hD hS _ (lv_sub hl [0, 1, 2, 3, 4, 5, 6, 7] rfl)
                · have h := sp_f c31 h
                  refine lv_iload hx hb dL_isOrder_95 (lv_at hl 3 rfl) ?_
                  refine lv_if_lt (tgt := 123) hx hb dL_isOrder_97 (by decide) (fun c32 => ?_) (fun c32 => ?_)
                  · have h := sp_t c32 h
                    refine lv_iconst (v := (0 : Int32)) hx hb dL_isOrder_123 (by decide) ?_
                    obtain rfl := sp_s h
                    exact J9 _ _ hP hD hS _ (lv_sub hl [0, 1, 2, 3, 4, 5, 6, 7] rfl)
                  · have h := sp_f c32 h
                    refine lv_aload_n hx hb dL_isOrder_100 rfl (lv_at hl 6 rfl) ?_
                    refine lv_iconst (v := (5 : Int32)) hx hb dL_isOrder_101 (by decide) ?_
                    refine lv_iload hx hb dL_isOrder_102 (lv_at hl 1 rfl) ?_
                    refine lv_imul hx hb dL_isOrder_104 ?_
                    refine lv_iconst (v := (1 : Int32)) hx hb dL_isOrder_105 (by decide) ?_
                    refine lv_iadd hx hb dL_isOrder_106 ?_
                    obtain ⟨hin33, h⟩ := sp_g h
                    refine va_iald hx hb hK hP 25 0 rfl rfl hin33 dL_isOrder_107 ?_
                    refine lv_aload_n hx hb dL_isOrder_108 rfl (lv_at hl 6 rfl) ?_
                    refine lv_iconst (v := (5 : Int32)) hx hb dL_isOrder_109 (by decide) ?_
                    refine lv_iload hx hb dL_isOrder_110 (lv_at hl 3 rfl) ?_
                    refine lv_imul hx hb dL_isOrder_112 ?_
                    refine lv_iconst (v := (1 : Int32)) hx hb dL_isOrder_113 (by decide) ?_
                    refine lv_iadd hx hb dL_isOrder_114 ?_
                    obtain ⟨hin34, h⟩ := sp_g h
                    refine va_iald hx hb hK hP 25 0 rfl rfl hin34 dL_isOrder_115 ?_
                    refine lv_icmp_ne (tgt := 123) hx hb dL_isOrder_116 (by decide) (fun c35 => ?_) (fun c35 => ?_)
                    · have h := sp_f c35 h
                      refine lv_iconst (v := (0 : Int32)) hx hb dL_isOrder_123 (by decide) ?_
                      obtain rfl := sp_s h
                      exact J9 _ _ hP hD hS _ (lv_sub hl [0, 1, 2, 3, 4, 5, 6, 7] rfl)
                    · have h := sp_t c35 h
                      refine lv_iconst (v := (1 : Int32)) hx hb dL_isOrder_119 (by decide) ?_
                      refine lv_goto (tgt := 124) hx hb dL_isOrder_120 (by decide) ?_
                      obtain rfl := sp_s h
                      exact J9 _ _ hP hD hS _ (lv_sub hl [0, 1, 2, 3, 4, 5, 6, 7] rfl)
            · have h := hv8
              clear hv8
              refine lv_if_lt (tgt := 87) hx hb dL_isOrder_48 (by decide) (fun c36 => ?_) (fun c36 => ?_)
              · have h := sp_t c36 h
                refine lv_iconst (v := (0 : Int32)) hx hb dL_isOrder_87 (by decide) ?_
                obtain rfl := sp_s h
                exact J8 _ _ hP hD hS _ (lv_sub hl [0, 1, 3, 4, 5, 6, 7] rfl)
              · have h := sp_f c36 h
                refine lv_iload hx hb dL_isOrder_51 (lv_at hl 0 rfl) ?_
                refine lv_aload_n hx hb dL_isOrder_53 rfl (lv_at hl 7 rfl) ?_
                refine lv_iconst (v := (0 : Int32)) hx hb dL_isOrder_54 (by decide) ?_
                refine va_iald hx hb hK hP 26 0 rfl rfl (xk_in0_1) dL_isOrder_55 ?_
                refine lv_icmp_ge (tgt := 87) hx hb dL_isOrder_56 (by decide) (fun c37 => ?_) (fun c37 => ?_)
                · have h := sp_t c37 h
                  refine lv_iconst (v := (0 : Int32)) hx hb dL_isOrder_87 (by decide) ?_
                  obtain rfl := sp_s h
                  exact J8 _ _ hP hD hS _ (lv_sub hl [0, 1, 3, 4, 5, 6, 7] rfl)
                · have h := sp_f c37 h
                  refine lv_iload_n hx hb dL_isOrder_59 rfl (lv_at hl 4 rfl) ?_
                  refine lv_iload hx hb dL_isOrder_60 (lv_at hl 0 rfl) ?_
                  obtain ⟨o38, ho38, h⟩ := sp_b h
                  refine xf_ci0 (va_runS (As := [.int x3_3, .int o7]) (rest := []) ⟨hx, hb, hml, hown, hts⟩ (c_L_isIn l G x3_3 o7 o38 ho38 H.size) (va_cwS 2 hts gL_isOrder_L_isIn rfl rfl rfl (by decide +kernel) ⟨(Nat.le_of_ble_eq_true rfl), (Nat.le_of_ble_eq_true rfl)⟩) (xk_preS hK hNE (xf_p0 : va_P G.1 vwCl [] H) (xf_d0 : va_D A [])) rfl rfl hl.1 rfl (lv_room (Nat.le_of_ble_eq_true rfl)) dL_isOrder_62 ⟨(Nat.le_of_ble_eq_true rfl), (Nat.le_of_ble_eq_true rfl)⟩) hP hD hS hA (fun H locs hP hD hS => ?_)
                  refine lv_if_ne (tgt := 87) hx hb dL_isOrder_65 (by decide) (fun c39 => ?_) (fun c39 => ?_)
                  · have h := sp_f c39 h
                    refine lv_iconst (v := (0 : Int32)) hx hb dL_isOrder_87 (by decide) ?_
                    obtain rfl := sp_s h
                    exact J8 _ _ hP hD hS _ (lv_sub hl [0, 1, 3, 4, 5, 6, 7] rfl)
                  · have h := sp_t c39 h
                    refine lv_aload_n hx hb dL_isOrder_68 rfl (lv_at hl 6 rfl) ?_
                    refine lv_iconst (v := (5 : Int32)) hx hb dL_isOrder_69 (by decide) ?_
                    refine lv_iload hx hb dL_isOrder_70 (lv_at hl 0 rfl) ?_
                    refine lv_imul hx hb dL_isOrder_72 ?_
                    refine lv_iconst (v := (4 : Int32)) hx hb dL_isOrder_73 (by decide) ?_
                    refine lv_iadd hx hb dL_isOrder_74 ?_
                    obtain ⟨hin40, h⟩ := sp_g h
                    refine va_iald hx hb hK hP 25 0 rfl rfl hin40 dL_isOrder_75 ?_
                    refine lv_iload_n hx hb dL_isOrder_76 rfl (lv_at hl 4 rfl) ?_
                    refine lv_iconst (v := ((-1) : Int32)) hx hb dL_isOrder_77 (by decide) ?_
                    refine lv_ixor hx hb dL_isOrder_78 ?_
                    refine lv_iand hx hb dL_isOrder_79 ?_
                    refine lv_if_ne (tgt := 87) hx hb dL_isOrder_80 (by decide) (fun c41 => ?_) (fun c41 => ?_)
                    · have h := sp_f c41 h
                      refine lv_iconst (v := (0 : Int32)) hx hb dL_isOrder_87 (by decide) ?_
                      obtain rfl := sp_s h
                      exact J8 _ _ hP hD hS _ (lv_sub hl [0, 1, 3, 4, 5, 6, 7] rfl)
                    · have h := sp_t c41 h
                      refine lv_iconst (v := (1 : Int32)) hx hb dL_isOrder_83 (by decide) ?_
                      refine lv_goto (tgt := 88) hx hb dL_isOrder_84 (by decide) ?_
                      obtain rfl := sp_s h
                      exact J8 _ _ hP hD hS _ (lv_sub hl [0, 1, 3, 4, 5, 6, 7] rfl)
      · exact LL 300 ((0 : Int32), v2, ((-1) : Int32), (0 : Int32)) h _ _ hP hD hS _ (lv_sub hl [0, 1, 2, 3, 4, 5, 6] rfl)
  · have h := hv2
    clear hv2
    refine lv_icmp_ne (tgt := 19) hx hb dL_isOrder_12 (by decide) (fun c58 => ?_) (fun c58 => ?_)
    · have h := sp_f c58 h
      refine lv_iconst (v := (0 : Int32)) hx hb dL_isOrder_19 (by decide) ?_
      obtain rfl := sp_s h
      exact J2 _ _ hP hD hS _ (lv_sub hl [0, 1, 2, 3, 4] rfl)
    · have h := sp_t c58 h
      refine lv_iconst (v := (1 : Int32)) hx hb dL_isOrder_15 (by decide) ?_
      refine lv_goto (tgt := 20) hx hb dL_isOrder_16 (by decide) ?_
      obtain rfl := sp_s h
      exact J2 _ _ hP hD hS _ (lv_sub hl [0, 1, 2, 3, 4] rfl)
theorem xf_p_7_01234_56 (g0 g1 g2 g3 g4 g5 g6 : va_W) : List.Perm (g0 ++ (g1 ++ (g2 ++ (g3 ++ (g4 ++ (g5 ++ (g6))))))) ((g0 ++ (g1 ++ (g2 ++ (g3 ++ (g4))))) ++ (g5 ++ (g6))) := by
  have h1 : List.Perm (g0 ++ (g1 ++ (g2 ++ (g3 ++ (g4 ++ (g5 ++ (g6))))))) (g0 ++ (g1 ++ (g2 ++ (g3 ++ (g4 ++ (g5 ++ (g6))))))) := (List.Perm.refl _)
  exact h1.trans (show List.Perm (g0 ++ (g1 ++ (g2 ++ (g3 ++ (g4 ++ (g5 ++ (g6))))))) ((g0 ++ (g1 ++ (g2 ++ (g3 ++ (g4))))) ++ (g5 ++ (g6))) from ((xf_c _ ((xf_c _ ((xf_c _ ((xf_c _ (List.Perm.refl _)).trans (List.Perm.of_eq (List.append_assoc _ _ _).symm))).trans (List.Perm.of_eq (List.append_assoc _ _ _).symm))).trans (List.Perm.of_eq (List.append_assoc _ _ _).symm))).trans (List.Perm.of_eq (List.append_assoc _ _ _).symm)))
set_option maxHeartbeats 8000000 in
set_option maxRecDepth 100000 in
theorem c_L_isWorth (l : Launch) (G : xG) (xa : Nat) (la : Nat) (ya : (Nat → Nat)) (pa : (Nat → Nat)) (qa : (Nat → Nat)) (aka : Nat) (akc : Nat) (lo : xF) (yy : xSY) (pp : xPL) (qq : xPL) (ka : xF) (kc : xF) (i3 : Int32) (o : Int32) (h : f_L_isWorth lo yy pp qq ka kc i3 = some o) : xk_CI l yL_isWorth wsL_isWorth ({ frames := 4, cells := 0, slots := 0, locals := 91 } : Room) 0 0 [.ref xa, .ref aka, .ref akc, .int i3] G ((wXO xa (ya 0) la (pa 0) (qa 0)) ++ ((wLO G la lo) ++ ((wSYc G ya yy.1 yy.2.1 yy.2.2.1 yy.2.2.2.1 yy.2.2.2.2.1 yy.2.2.2.2.2.1 yy.2.2.2.2.2.2.1 yy.2.2.2.2.2.2.2.1 yy.2.2.2.2.2.2.2.2) ++ ((wPLc G pa pp.1 pp.2.1 pp.2.2.1 pp.2.2.2.1 pp.2.2.2.2.1 pp.2.2.2.2.2.1 pp.2.2.2.2.2.2.1 pp.2.2.2.2.2.2.2.1 pp.2.2.2.2.2.2.2.2) ++ ((wPLc G qa qq.1 qq.2.1 qq.2.2.1 qq.2.2.2.1 qq.2.2.2.2.1 qq.2.2.2.2.2.1 qq.2.2.2.2.2.2.1 qq.2.2.2.2.2.2.2.1 qq.2.2.2.2.2.2.2.2) ++ ((wAR G aka 60 ka) ++ ((wAR G akc 1 kc)))))))) ((wXO xa (ya 0) la (pa 0) (qa 0)) ++ ((wLO G la lo) ++ ((wSYc G ya yy.1 yy.2.1 yy.2.2.1 yy.2.2.2.1 yy.2.2.2.2.1 yy.2.2.2.2.2.1 yy.2.2.2.2.2.2.1 yy.2.2.2.2.2.2.2.1 yy.2.2.2.2.2.2.2.2) ++ ((wPLc G pa pp.1 pp.2.1 pp.2.2.1 pp.2.2.2.1 pp.2.2.2.2.1 pp.2.2.2.2.2.1 pp.2.2.2.2.2.2.1 pp.2.2.2.2.2.2.2.1 pp.2.2.2.2.2.2.2.2) ++ ((wPLc G qa qq.1 qq.2.1 qq.2.2.1 qq.2.2.2.1 qq.2.2.2.2.1 qq.2.2.2.2.2.1 qq.2.2.2.2.2.2.1 qq.2.2.2.2.2.2.2.1 qq.2.2.2.2.2.2.2.2) ++ ((wAR G aka 60 ka) ++ ((wAR G akc 1 kc)))))))) o := by
  obtain ⟨yy_0, yy_1, yy_2, yy_3, yy_4, yy_5, yy_6, yy_7, yy_8⟩ := yy
  obtain ⟨pp_0, pp_1, pp_2, pp_3, pp_4, pp_5, pp_6, pp_7, pp_8⟩ := pp
  obtain ⟨qq_0, qq_1, qq_2, qq_3, qq_4, qq_5, qq_6, qq_7, qq_8⟩ := qq
  refine xk_CI.of (cc := cL_isWorth) (maxL := 11) (ret := (some .boolean)) (by decide) rfl (Nat.le_of_ble_eq_true rfl) ?_
  intro pr9 en9 s mm9 bl9 meth9 cd9 A ls H locs hx hb hr hml hts hown hlk hA hP hK hD hNE hS hl
  have hown : s.vm.findClass RL = some mm9.cls := hown
  have hl : lv_has ls 11 [(0, .ref xa), (1, .ref aka), (2, .ref akc), (3, .int i3)] := hl
  have hP : va_P G.1 vwCl ((wXO xa (ya 0) la (pa 0) (qa 0)) ++ ((wLO G la lo) ++ ((wSYc G ya yy_0 yy_1 yy_2 yy_3 yy_4 yy_5 yy_6 yy_7 yy_8) ++ ((wPLc G pa pp_0 pp_1 pp_2 pp_3 pp_4 pp_5 pp_6 pp_7 pp_8) ++ ((wPLc G qa qq_0 qq_1 qq_2 qq_3 qq_4 qq_5 qq_6 qq_7 qq_8) ++ ((wAR G aka 60 ka) ++ ((wAR G akc 1 kc)))))))) H := hP
  have hD : va_D A ((wXO xa (ya 0) la (pa 0) (qa 0)) ++ ((wLO G la lo) ++ ((wSYc G ya yy_0 yy_1 yy_2 yy_3 yy_4 yy_5 yy_6 yy_7 yy_8) ++ ((wPLc G pa pp_0 pp_1 pp_2 pp_3 pp_4 pp_5 pp_6 pp_7 pp_8) ++ ((wPLc G qa qq_0 qq_1 qq_2 qq_3 qq_4 qq_5 qq_6 qq_7 qq_8) ++ ((wAR G aka 60 ka) ++ ((wAR G akc 1 kc)))))))) := hD
  have h := (f_L_isWorth_e lo yy_0 yy_1 yy_2 yy_3 yy_4 yy_5 yy_6 yy_7 yy_8 pp_0 pp_1 pp_2 pp_3 pp_4 pp_5 pp_6 pp_7 pp_8 qq_0 qq_1 qq_2 qq_3 qq_4 qq_5 qq_6 qq_7 qq_8 ka kc i3).symm.trans h
  refine lv_aload_n hx hb dL_isWorth_0 rfl (lv_at hl 0 rfl) ?_
  refine lv_iload_n hx hb dL_isWorth_1 rfl (lv_at hl 3 rfl) ?_
  obtain ⟨o1, ho1, h⟩ := sp_b h
  have hP9 : va_P G.1 vwCl (((wAR G aka 60 ka) ++ ((wAR G akc 1 kc))) ++ ((wXO xa (ya 0) la (pa 0) (qa 0)) ++ ((wLO G la lo) ++ ((wSYc G ya yy_0 yy_1 yy_2 yy_3 yy_4 yy_5 yy_6 yy_7 yy_8) ++ ((wPLc G pa pp_0 pp_1 pp_2 pp_3 pp_4 pp_5 pp_6 pp_7 pp_8) ++ ((wPLc G qa qq_0 qq_1 qq_2 qq_3 qq_4 qq_5 qq_6 qq_7 qq_8))))))) H := xf_P (xf_p_7_56_01234 (wXO xa (ya 0) la (pa 0) (qa 0)) (wLO G la lo) (wSYc G ya yy_0 yy_1 yy_2 yy_3 yy_4 yy_5 yy_6 yy_7 yy_8) (wPLc G pa pp_0 pp_1 pp_2 pp_3 pp_4 pp_5 pp_6 pp_7 pp_8) (wPLc G qa qq_0 qq_1 qq_2 qq_3 qq_4 qq_5 qq_6 qq_7 qq_8) (wAR G aka 60 ka) (wAR G akc 1 kc)) hP
  have hD9 : va_D A (((wAR G aka 60 ka) ++ ((wAR G akc 1 kc))) ++ ((wXO xa (ya 0) la (pa 0) (qa 0)) ++ ((wLO G la lo) ++ ((wSYc G ya yy_0 yy_1 yy_2 yy_3 yy_4 yy_5 yy_6 yy_7 yy_8) ++ ((wPLc G pa pp_0 pp_1 pp_2 pp_3 pp_4 pp_5 pp_6 pp_7 pp_8) ++ ((wPLc G qa qq_0 qq_1 qq_2 qq_3 qq_4 qq_5 qq_6 qq_7 qq_8))))))) := xf_D (xf_p_7_56_01234 (wXO xa (ya 0) la (pa 0) (qa 0)) (wLO G la lo) (wSYc G ya yy_0 yy_1 yy_2 yy_3 yy_4 yy_5 yy_6 yy_7 yy_8) (wPLc G pa pp_0 pp_1 pp_2 pp_3 pp_4 pp_5 pp_6 pp_7 pp_8) (wPLc G qa qq_0 qq_1 qq_2 qq_3 qq_4 qq_5 qq_6 qq_7 qq_8) (wAR G aka 60 ka) (wAR G akc 1 kc)) hD
  refine xf_ci (va_runV (As := [.int i3]) (rest := []) ⟨hx, hb, hml, hown, hts⟩ (c_X2_worthwhile l G xa la ya pa qa lo (yy_0, yy_1, yy_2, yy_3, yy_4, yy_5, yy_6, yy_7, yy_8) (pp_0, pp_1, pp_2, pp_3, pp_4, pp_5, pp_6, pp_7, pp_8) (qq_0, qq_1, qq_2, qq_3, qq_4, qq_5, qq_6, qq_7, qq_8) i3 o1 ho1 H.size) (cwV 1 hts gL_isWorth_X2_worthwhile rfl rfl rfl (by decide +kernel) ⟨(Nat.le_of_ble_eq_true rfl), (Nat.le_of_ble_eq_true rfl)⟩) (xk_preV hK hNE (xf_pr hP9) (xf_dr hD9) (ci := 2) rfl rfl) rfl rfl hl.1 rfl (lv_room (Nat.le_of_ble_eq_true rfl)) dL_isWorth_2 ⟨(Nat.le_of_ble_eq_true rfl), (Nat.le_of_ble_eq_true rfl)⟩) hP9 hD9 hS hA (fun H locs hP hD hS => ?_)
  have hP : va_P G.1 vwCl ((wXO xa (ya 0) la (pa 0) (qa 0)) ++ ((wLO G la lo) ++ ((wSYc G ya yy_0 yy_1 yy_2 yy_3 yy_4 yy_5 yy_6 yy_7 yy_8) ++ ((wPLc G pa pp_0 pp_1 pp_2 pp_3 pp_4 pp_5 pp_6 pp_7 pp_8) ++ ((wPLc G qa qq_0 qq_1 qq_2 qq_3 qq_4 qq_5 qq_6 qq_7 qq_8) ++ ((wAR G aka 60 ka) ++ ((wAR G akc 1 kc)))))))) H := xf_P (xf_p_7_56_01234 (wXO xa (ya 0) la (pa 0) (qa 0)) (wLO G la lo) (wSYc G ya yy_0 yy_1 yy_2 yy_3 yy_4 yy_5 yy_6 yy_7 yy_8) (wPLc G pa pp_0 pp_1 pp_2 pp_3 pp_4 pp_5 pp_6 pp_7 pp_8) (wPLc G qa qq_0 qq_1 qq_2 qq_3 qq_4 qq_5 qq_6 qq_7 qq_8) (wAR G aka 60 ka) (wAR G akc 1 kc)).symm (show va_P G.1 vwCl (((wAR G aka 60 ka) ++ ((wAR G akc 1 kc))) ++ ((wXO xa (ya 0) la (pa 0) (qa 0)) ++ ((wLO G la lo) ++ ((wSYc G ya yy_0 yy_1 yy_2 yy_3 yy_4 yy_5 yy_6 yy_7 yy_8) ++ ((wPLc G pa pp_0 pp_1 pp_2 pp_3 pp_4 pp_5 pp_6 pp_7 pp_8) ++ ((wPLc G qa qq_0 qq_1 qq_2 qq_3 qq_4 qq_5 qq_6 qq_7 qq_8))))))) H from hP)
  have hD : va_D A ((wXO xa (ya 0) la (pa 0) (qa 0)) ++ ((wLO G la lo) ++ ((wSYc G ya yy_0 yy_1 yy_2 yy_3 yy_4 yy_5 yy_6 yy_7 yy_8) ++ ((wPLc G pa pp_0 pp_1 pp_2 pp_3 pp_4 pp_5 pp_6 pp_7 pp_8) ++ ((wPLc G qa qq_0 qq_1 qq_2 qq_3 qq_4 qq_5 qq_6 qq_7 qq_8) ++ ((wAR G aka 60 ka) ++ ((wAR G akc 1 kc)))))))) := xf_D (xf_p_7_56_01234 (wXO xa (ya 0) la (pa 0) (qa 0)) (wLO G la lo) (wSYc G ya yy_0 yy_1 yy_2 yy_3 yy_4 yy_5 yy_6 yy_7 yy_8) (wPLc G pa pp_0 pp_1 pp_2 pp_3 pp_4 pp_5 pp_6 pp_7 pp_8) (wPLc G qa qq_0 qq_1 qq_2 qq_3 qq_4 qq_5 qq_6 qq_7 qq_8) (wAR G aka 60 ka) (wAR G akc 1 kc)).symm (show va_D A (((wAR G aka 60 ka) ++ ((wAR G akc 1 kc))) ++ ((wXO xa (ya 0) la (pa 0) (qa 0)) ++ ((wLO G la lo) ++ ((wSYc G ya yy_0 yy_1 yy_2 yy_3 yy_4 yy_5 yy_6 yy_7 yy_8) ++ ((wPLc G pa pp_0 pp_1 pp_2 pp_3 pp_4 pp_5 pp_6 pp_7 pp_8) ++ ((wPLc G qa qq_0 qq_1 qq_2 qq_3 qq_4 qq_5 qq_6 qq_7 qq_8))))))) from hD)
  refine lv_istore (lv' := [(4, .int o1), (0, .ref xa), (1, .ref aka), (2, .ref akc), (3, .int i3)]) hx hb dL_isWorth_5 hl (by decide) rfl (fun ls hl => ?_)
  refine lv_aload_n hx hb dL_isWorth_7 rfl (lv_at hl 2 rfl) ?_
  refine lv_aload_n hx hb dL_isWorth_8 rfl (lv_at hl 3 rfl) ?_
  refine lv_iload hx hb dL_isWorth_9 (lv_at hl 0 rfl) ?_
  refine lv_iload_n hx hb dL_isWorth_11 rfl (lv_at hl 4 rfl) ?_
  obtain ⟨o2, ho2, h⟩ := sp_b h
  have hP9 : va_P G.1 vwCl (((wXO xa (ya 0) la (pa 0) (qa 0)) ++ ((wLO G la lo) ++ ((wSYc G ya yy_0 yy_1 yy_2 yy_3 yy_4 yy_5 yy_6 yy_7 yy_8) ++ ((wPLc G pa pp_0 pp_1 pp_2 pp_3 pp_4 pp_5 pp_6 pp_7 pp_8) ++ ((wPLc G qa qq_0 qq_1 qq_2 qq_3 qq_4 qq_5 qq_6 qq_7 qq_8)))))) ++ ((wAR G aka 60 ka) ++ ((wAR G akc 1 kc)))) H := xf_P (xf_p_7_01234_56 (wXO xa (ya 0) la (pa 0) (qa 0)) (wLO G la lo) (wSYc G ya yy_0 yy_1 yy_2 yy_3 yy_4 yy_5 yy_6 yy_7 yy_8) (wPLc G pa pp_0 pp_1 pp_2 pp_3 pp_4 pp_5 pp_6 pp_7 pp_8) (wPLc G qa qq_0 qq_1 qq_2 qq_3 qq_4 qq_5 qq_6 qq_7 qq_8) (wAR G aka 60 ka) (wAR G akc 1 kc)) hP
  have hD9 : va_D A (((wXO xa (ya 0) la (pa 0) (qa 0)) ++ ((wLO G la lo) ++ ((wSYc G ya yy_0 yy_1 yy_2 yy_3 yy_4 yy_5 yy_6 yy_7 yy_8) ++ ((wPLc G pa pp_0 pp_1 pp_2 pp_3 pp_4 pp_5 pp_6 pp_7 pp_8) ++ ((wPLc G qa qq_0 qq_1 qq_2 qq_3 qq_4 qq_5 qq_6 qq_7 qq_8)))))) ++ ((wAR G aka 60 ka) ++ ((wAR G akc 1 kc)))) := xf_D (xf_p_7_01234_56 (wXO xa (ya 0) la (pa 0) (qa 0)) (wLO G la lo) (wSYc G ya yy_0 yy_1 yy_2 yy_3 yy_4 yy_5 yy_6 yy_7 yy_8) (wPLc G pa pp_0 pp_1 pp_2 pp_3 pp_4 pp_5 pp_6 pp_7 pp_8) (wPLc G qa qq_0 qq_1 qq_2 qq_3 qq_4 qq_5 qq_6 qq_7 qq_8) (wAR G aka 60 ka) (wAR G akc 1 kc)) hD
  refine xf_ci (va_runS (As := [.ref aka, .ref akc, .int o1, .int i3]) (rest := []) ⟨hx, hb, hml, hown, hts⟩ (c_L_net l G aka akc ka kc o1 i3 o2 ho2 H.size) (va_cwS 4 hts gL_isWorth_L_net rfl rfl rfl (by decide +kernel) ⟨(Nat.le_of_ble_eq_true rfl), (Nat.le_of_ble_eq_true rfl)⟩) (xk_preS hK hNE (xf_pr hP9) (xf_dr hD9)) rfl rfl hl.1 rfl (lv_room (Nat.le_of_ble_eq_true rfl)) dL_isWorth_12 ⟨(Nat.le_of_ble_eq_true rfl), (Nat.le_of_ble_eq_true rfl)⟩) hP9 hD9 hS hA (fun H locs hP hD hS => ?_)
  have hP : va_P G.1 vwCl ((wXO xa (ya 0) la (pa 0) (qa 0)) ++ ((wLO G la lo) ++ ((wSYc G ya yy_0 yy_1 yy_2 yy_3 yy_4 yy_5 yy_6 yy_7 yy_8) ++ ((wPLc G pa pp_0 pp_1 pp_2 pp_3 pp_4 pp_5 pp_6 pp_7 pp_8) ++ ((wPLc G qa qq_0 qq_1 qq_2 qq_3 qq_4 qq_5 qq_6 qq_7 qq_8) ++ ((wAR G aka 60 ka) ++ ((wAR G akc 1 kc)))))))) H := xf_P (xf_p_7_01234_56 (wXO xa (ya 0) la (pa 0) (qa 0)) (wLO G la lo) (wSYc G ya yy_0 yy_1 yy_2 yy_3 yy_4 yy_5 yy_6 yy_7 yy_8) (wPLc G pa pp_0 pp_1 pp_2 pp_3 pp_4 pp_5 pp_6 pp_7 pp_8) (wPLc G qa qq_0 qq_1 qq_2 qq_3 qq_4 qq_5 qq_6 qq_7 qq_8) (wAR G aka 60 ka) (wAR G akc 1 kc)).symm (show va_P G.1 vwCl (((wXO xa (ya 0) la (pa 0) (qa 0)) ++ ((wLO G la lo) ++ ((wSYc G ya yy_0 yy_1 yy_2 yy_3 yy_4 yy_5 yy_6 yy_7 yy_8) ++ ((wPLc G pa pp_0 pp_1 pp_2 pp_3 pp_4 pp_5 pp_6 pp_7 pp_8) ++ ((wPLc G qa qq_0 qq_1 qq_2 qq_3 qq_4 qq_5 qq_6 qq_7 qq_8)))))) ++ ((wAR G aka 60 ka) ++ ((wAR G akc 1 kc)))) H from hP)
  have hD : va_D A ((wXO xa (ya 0) la (pa 0) (qa 0)) ++ ((wLO G la lo) ++ ((wSYc G ya yy_0 yy_1 yy_2 yy_3 yy_4 yy_5 yy_6 yy_7 yy_8) ++ ((wPLc G pa pp_0 pp_1 pp_2 pp_3 pp_4 pp_5 pp_6 pp_7 pp_8) ++ ((wPLc G qa qq_0 qq_1 qq_2 qq_3 qq_4 qq_5 qq_6 qq_7 qq_8) ++ ((wAR G aka 60 ka) ++ ((wAR G akc 1 kc)))))))) := xf_D (xf_p_7_01234_56 (wXO xa (ya 0) la (pa 0) (qa 0)) (wLO G la lo) (wSYc G ya yy_0 yy_1 yy_2 yy_3 yy_4 yy_5 yy_6 yy_7 yy_8) (wPLc G pa pp_0 pp_1 pp_2 pp_3 pp_4 pp_5 pp_6 pp_7 pp_8) (wPLc G qa qq_0 qq_1 qq_2 qq_3 qq_4 qq_5 qq_6 qq_7 qq_8) (wAR G aka 60 ka) (wAR G akc 1 kc)).symm (show va_D A (((wXO xa (ya 0) la (pa 0) (qa 0)) ++ ((wLO G la lo) ++ ((wSYc G ya yy_0 yy_1 yy_2 yy_3 yy_4 yy_5 yy_6 yy_7 yy_8) ++ ((wPLc G pa pp_0 pp_1 pp_2 pp_3 pp_4 pp_5 pp_6 pp_7 pp_8) ++ ((wPLc G qa qq_0 qq_1 qq_2 qq_3 qq_4 qq_5 qq_6 qq_7 qq_8)))))) ++ ((wAR G aka 60 ka) ++ ((wAR G akc 1 kc)))) from hD)
  refine lv_istore (lv' := [(5, .int o2), (4, .int o1), (0, .ref xa), (1, .ref aka), (2, .ref akc), (3, .int i3)]) hx hb dL_isWorth_15 hl (by decide) rfl (fun ls hl => ?_)
  refine lv_iconst (v := (0 : Int32)) hx hb dL_isWorth_17 (by decide) ?_
  refine lv_istore (lv' := [(6, .int (0 : Int32)), (5, .int o2), (4, .int o1), (0, .ref xa), (1, .ref aka), (2, .ref akc), (3, .int i3)]) hx hb dL_isWorth_18 hl (by decide) rfl (fun ls hl => ?_)
  refine lv_aload_n hx hb dL_isWorth_20 rfl (lv_at hl 4 rfl) ?_
  refine lv_aload_n hx hb dL_isWorth_21 rfl (lv_at hl 5 rfl) ?_
  refine lv_iload hx hb dL_isWorth_22 (lv_at hl 2 rfl) ?_
  obtain ⟨o3, ho3, h⟩ := sp_b h
  have hP9 : va_P G.1 vwCl (((wXO xa (ya 0) la (pa 0) (qa 0)) ++ ((wLO G la lo) ++ ((wSYc G ya yy_0 yy_1 yy_2 yy_3 yy_4 yy_5 yy_6 yy_7 yy_8) ++ ((wPLc G pa pp_0 pp_1 pp_2 pp_3 pp_4 pp_5 pp_6 pp_7 pp_8) ++ ((wPLc G qa qq_0 qq_1 qq_2 qq_3 qq_4 qq_5 qq_6 qq_7 qq_8)))))) ++ ((wAR G aka 60 ka) ++ ((wAR G akc 1 kc)))) H := xf_P (xf_p_7_01234_56 (wXO xa (ya 0) la (pa 0) (qa 0)) (wLO G la lo) (wSYc G ya yy_0 yy_1 yy_2 yy_3 yy_4 yy_5 yy_6 yy_7 yy_8) (wPLc G pa pp_0 pp_1 pp_2 pp_3 pp_4 pp_5 pp_6 pp_7 pp_8) (wPLc G qa qq_0 qq_1 qq_2 qq_3 qq_4 qq_5 qq_6 qq_7 qq_8) (wAR G aka 60 ka) (wAR G akc 1 kc)) hP
  have hD9 : va_D A (((wXO xa (ya 0) la (pa 0) (qa 0)) ++ ((wLO G la lo) ++ ((wSYc G ya yy_0 yy_1 yy_2 yy_3 yy_4 yy_5 yy_6 yy_7 yy_8) ++ ((wPLc G pa pp_0 pp_1 pp_2 pp_3 pp_4 pp_5 pp_6 pp_7 pp_8) ++ ((wPLc G qa qq_0 qq_1 qq_2 qq_3 qq_4 qq_5 qq_6 qq_7 qq_8)))))) ++ ((wAR G aka 60 ka) ++ ((wAR G akc 1 kc)))) := xf_D (xf_p_7_01234_56 (wXO xa (ya 0) la (pa 0) (qa 0)) (wLO G la lo) (wSYc G ya yy_0 yy_1 yy_2 yy_3 yy_4 yy_5 yy_6 yy_7 yy_8) (wPLc G pa pp_0 pp_1 pp_2 pp_3 pp_4 pp_5 pp_6 pp_7 pp_8) (wPLc G qa qq_0 qq_1 qq_2 qq_3 qq_4 qq_5 qq_6 qq_7 qq_8) (wAR G aka 60 ka) (wAR G akc 1 kc)) hD
  refine xf_ci (va_runS (As := [.ref aka, .ref akc, .int o1]) (rest := []) ⟨hx, hb, hml, hown, hts⟩ (c_L_isClosed l G aka akc ka kc o1 o3 ho3 H.size) (va_cwS 3 hts gL_isWorth_L_isClosed rfl rfl rfl (by decide +kernel) ⟨(Nat.le_of_ble_eq_true rfl), (Nat.le_of_ble_eq_true rfl)⟩) (xk_preS hK hNE (xf_pr hP9) (xf_dr hD9)) rfl rfl hl.1 rfl (lv_room (Nat.le_of_ble_eq_true rfl)) dL_isWorth_24 ⟨(Nat.le_of_ble_eq_true rfl), (Nat.le_of_ble_eq_true rfl)⟩) hP9 hD9 hS hA (fun H locs hP hD hS => ?_)
  have hP : va_P G.1 vwCl ((wXO xa (ya 0) la (pa 0) (qa 0)) ++ ((wLO G la lo) ++ ((wSYc G ya yy_0 yy_1 yy_2 yy_3 yy_4 yy_5 yy_6 yy_7 yy_8) ++ ((wPLc G pa pp_0 pp_1 pp_2 pp_3 pp_4 pp_5 pp_6 pp_7 pp_8) ++ ((wPLc G qa qq_0 qq_1 qq_2 qq_3 qq_4 qq_5 qq_6 qq_7 qq_8) ++ ((wAR G aka 60 ka) ++ ((wAR G akc 1 kc)))))))) H := xf_P (xf_p_7_01234_56 (wXO xa (ya 0) la (pa 0) (qa 0)) (wLO G la lo) (wSYc G ya yy_0 yy_1 yy_2 yy_3 yy_4 yy_5 yy_6 yy_7 yy_8) (wPLc G pa pp_0 pp_1 pp_2 pp_3 pp_4 pp_5 pp_6 pp_7 pp_8) (wPLc G qa qq_0 qq_1 qq_2 qq_3 qq_4 qq_5 qq_6 qq_7 qq_8) (wAR G aka 60 ka) (wAR G akc 1 kc)).symm (show va_P G.1 vwCl (((wXO xa (ya 0) la (pa 0) (qa 0)) ++ ((wLO G la lo) ++ ((wSYc G ya yy_0 yy_1 yy_2 yy_3 yy_4 yy_5 yy_6 yy_7 yy_8) ++ ((wPLc G pa pp_0 pp_1 pp_2 pp_3 pp_4 pp_5 pp_6 pp_7 pp_8) ++ ((wPLc G qa qq_0 qq_1 qq_2 qq_3 qq_4 qq_5 qq_6 qq_7 qq_8)))))) ++ ((wAR G aka 60 ka) ++ ((wAR G akc 1 kc)))) H from hP)
  have hD : va_D A ((wXO xa (ya 0) la (pa 0) (qa 0)) ++ ((wLO G la lo) ++ ((wSYc G ya yy_0 yy_1 yy_2 yy_3 yy_4 yy_5 yy_6 yy_7 yy_8) ++ ((wPLc G pa pp_0 pp_1 pp_2 pp_3 pp_4 pp_5 pp_6 pp_7 pp_8) ++ ((wPLc G qa qq_0 qq_1 qq_2 qq_3 qq_4 qq_5 qq_6 qq_7 qq_8) ++ ((wAR G aka 60 ka) ++ ((wAR G akc 1 kc)))))))) := xf_D (xf_p_7_01234_56 (wXO xa (ya 0) la (pa 0) (qa 0)) (wLO G la lo) (wSYc G ya yy_0 yy_1 yy_2 yy_3 yy_4 yy_5 yy_6 yy_7 yy_8) (wPLc G pa pp_0 pp_1 pp_2 pp_3 pp_4 pp_5 pp_6 pp_7 pp_8) (wPLc G qa qq_0 qq_1 qq_2 qq_3 qq_4 qq_5 qq_6 qq_7 qq_8) (wAR G aka 60 ka) (wAR G akc 1 kc)).symm (show va_D A (((wXO xa (ya 0) la (pa 0) (qa 0)) ++ ((wLO G la lo) ++ ((wSYc G ya yy_0 yy_1 yy_2 yy_3 yy_4 yy_5 yy_6 yy_7 yy_8) ++ ((wPLc G pa pp_0 pp_1 pp_2 pp_3 pp_4 pp_5 pp_6 pp_7 pp_8) ++ ((wPLc G qa qq_0 qq_1 qq_2 qq_3 qq_4 qq_5 qq_6 qq_7 qq_8)))))) ++ ((wAR G aka 60 ka) ++ ((wAR G akc 1 kc)))) from hD)
  obtain ⟨v4, hv4, h⟩ := sp_b h
  refine xk_jn G A s.heap ((wXO xa (ya 0) la (pa 0) (qa 0)) ++ ((wLO G la lo) ++ ((wSYc G ya yy_0 yy_1 yy_2 yy_3 yy_4 yy_5 yy_6 yy_7 yy_8) ++ ((wPLc G pa pp_0 pp_1 pp_2 pp_3 pp_4 pp_5 pp_6 pp_7 pp_8) ++ ((wPLc G qa qq_0 qq_1 qq_2 qq_3 qq_4 qq_5 qq_6 qq_7 qq_8) ++ ((wAR G aka 60 ka) ++ ((wAR G akc 1 kc)))))))) 11 [(6, .int (0 : Int32)), (5, .int o2), (4, .int o1), (0, .ref xa), (1, .ref aka), (2, .ref akc), (3, .int i3)] 50 [.int v4] (fun H locs hP hD hS ls hl => ?_) (fun J4 => ?_)
  · refine lv_istore (lv' := [(7, .int v4), (6, .int (0 : Int32)), (5, .int o2), (4, .int o1), (0, .ref xa), (1, .ref aka), (2, .ref akc), (3, .int i3)]) hx hb dL_isWorth_50 hl (by decide) rfl (fun ls hl => ?_)
    refine lv_iconst (v := (0 : Int32)) hx hb dL_isWorth_52 (by decide) ?_
    refine lv_istore (lv' := [(8, .int (0 : Int32)), (7, .int v4), (6, .int (0 : Int32)), (5, .int o2), (4, .int o1), (0, .ref xa), (1, .ref aka), (2, .ref akc), (3, .int i3)]) hx hb dL_isWorth_53 hl (by decide) rfl (fun ls hl => ?_)
    obtain ⟨w6, hw6, h⟩ := sp_b h
    refine xk_jn G A s.heap ((wXO xa (ya 0) la (pa 0) (qa 0)) ++ ((wLO G la lo) ++ ((wSYc G ya yy_0 yy_1 yy_2 yy_3 yy_4 yy_5 yy_6 yy_7 yy_8) ++ ((wPLc G pa pp_0 pp_1 pp_2 pp_3 pp_4 pp_5 pp_6 pp_7 pp_8) ++ ((wPLc G qa qq_0 qq_1 qq_2 qq_3 qq_4 qq_5 qq_6 qq_7 qq_8) ++ ((wAR G aka 60 ka) ++ ((wAR G akc 1 kc)))))))) 11 [(7, .int w6.1), (6, .int w6.2), (0, .ref xa)] 156 [] (fun H locs hP hD hS ls hl => ?_) (fun J5 => ?_)
    · refine lv_iload hx hb dL_isWorth_156 (lv_at hl 0 rfl) ?_
      refine lv_if_eq (tgt := 174) hx hb dL_isWorth_158 (by decide) (fun c20 => ?_) (fun c20 => ?_)
      · have h := sp_t c20 h
        refine lv_iconst (v := (0 : Int32)) hx hb dL_isWorth_174 (by decide) ?_
        obtain rfl := sp_s h
        exact xk_reZ hx hb hr hlk rfl hP hD hS rfl dL_isWorth_175
      · have h := sp_f c20 h
        refine lv_aload_n hx hb dL_isWorth_161 rfl (lv_at hl 2 rfl) ?_
        obtain ⟨o21, ho21, h⟩ := sp_b h
        have hP9 : va_P G.1 vwCl (((wAR G aka 60 ka) ++ ((wAR G akc 1 kc))) ++ ((wXO xa (ya 0) la (pa 0) (qa 0)) ++ ((wLO G la lo) ++ ((wSYc G ya yy_0 yy_1 yy_2 yy_3 yy_4 yy_5 yy_6 yy_7 yy_8) ++ ((wPLc G pa pp_0 pp_1 pp_2 pp_3 pp_4 pp_5 pp_6 pp_7 pp_8) ++ ((wPLc G qa qq_0 qq_1 qq_2 qq_3 qq_4 qq_5 qq_6 qq_7 qq_8))))))) H := xf_P (xf_p_7_56_01234 (wXO xa (ya 0) la (pa 0) (qa 0)) (wLO G la lo) (wSYc G ya yy_0 yy_1 yy_2 yy_3 yy_4 yy_5 yy_6 yy_7 yy_8) (wPLc G pa pp_0 pp_1 pp_2 pp_3 pp_4 pp_5 pp_6 pp_7 pp_8) (wPLc G qa qq_0 qq_1 qq_2 qq_3 qq_4 qq_5 qq_6 qq_7 qq_8) (wAR G aka 60 ka) (wAR G akc 1 kc)) hP
        have hD9 : va_D A (((wAR G aka 60 ka) ++ ((wAR G akc 1 kc))) ++ ((wXO xa (ya 0) la (pa 0) (qa 0)) ++ ((wLO G la lo) ++ ((wSYc G ya yy_0 yy_1 yy_2 yy_3 yy_4 yy_5 yy_6 yy_7 yy_8) ++ ((wPLc G pa pp_0 pp_1 pp_2 pp_3 pp_4 pp_5 pp_6 pp_7 pp_8) ++ ((wPLc G qa qq_0 qq_1 qq_2 qq_3 qq_4 qq_5 qq_6 qq_7 qq_8))))))) := xf_D (xf_p_7_56_01234 (wXO xa (ya 0) la (pa 0) (qa 0)) (wLO G la lo) (wSYc G ya yy_0 yy_1 yy_2 yy_3 yy_4 yy_5 yy_6 yy_7 yy_8) (wPLc G pa pp_0 pp_1 pp_2 pp_3 pp_4 pp_5 pp_6 pp_7 pp_8) (wPLc G qa qq_0 qq_1 qq_2 qq_3 qq_4 qq_5 qq_6 qq_7 qq_8) (wAR G aka 60 ka) (wAR G akc 1 kc)) hD
        refine xf_ci (va_runV (As := []) (rest := []) ⟨hx, hb, hml, hown, hts⟩ (c_X2_closedSets l G xa la ya pa qa lo (yy_0, yy_1, yy_2, yy_3, yy_4, yy_5, yy_6, yy_7, yy_8) (pp_0, pp_1, pp_2, pp_3, pp_4, pp_5, pp_6, pp_7, pp_8) (qq_0, qq_1, qq_2, qq_3, qq_4, qq_5, qq_6, qq_7, qq_8) o21 ho21 H.size) (cwV 0 hts gL_isWorth_X2_closedSets rfl rfl rfl (by decide +kernel) ⟨(Nat.le_of_ble_eq_true rfl), (Nat.le_of_ble_eq_true rfl)⟩) (xk_preV hK hNE (xf_pr hP9) (xf_dr hD9) (ci := 2) rfl rfl) rfl rfl hl.1 rfl (lv_room (Nat.le_of_ble_eq_true rfl)) dL_isWorth_162 ⟨(Nat.le_of_ble_eq_true rfl), (Nat.le_of_ble_eq_true rfl)⟩) hP9 hD9 hS hA (fun H locs hP hD hS => ?_)
        have hP : va_P G.1 vwCl ((wXO xa (ya 0) la (pa 0) (qa 0)) ++ ((wLO G la lo) ++ ((wSYc G ya yy_0 yy_1 yy_2 yy_3 yy_4 yy_5 yy_6 yy_7 yy_8) ++ ((wPLc G pa pp_0 pp_1 pp_2 pp_3 pp_4 pp_5 pp_6 pp_7 pp_8) ++ ((wPLc G qa qq_0 qq_1 qq_2 qq_3 qq_4 qq_5 qq_6 qq_7 qq_8) ++ ((wAR G aka 60 ka) ++ ((wAR G akc 1 kc)))))))) H := xf_P (xf_p_7_56_01234 (wXO xa (ya 0) la (pa 0) (qa 0)) (wLO G la lo) (wSYc G ya yy_0 yy_1 yy_2 yy_3 yy_4 yy_5 yy_6 yy_7 yy_8) (wPLc G pa pp_0 pp_1 pp_2 pp_3 pp_4 pp_5 pp_6 pp_7 pp_8) (wPLc G qa qq_0 qq_1 qq_2 qq_3 qq_4 qq_5 qq_6 qq_7 qq_8) (wAR G aka 60 ka) (wAR G akc 1 kc)).symm (show va_P G.1 vwCl (((wAR G aka 60 ka) ++ ((wAR G akc 1 kc))) ++ ((wXO xa (ya 0) la (pa 0) (qa 0)) ++ ((wLO G la lo) ++ ((wSYc G ya yy_0 yy_1 yy_2 yy_3 yy_4 yy_5 yy_6 yy_7 yy_8) ++ ((wPLc G pa pp_0 pp_1 pp_2 pp_3 pp_4 pp_5 pp_6 pp_7 pp_8) ++ ((wPLc G qa qq_0 qq_1 qq_2 qq_3 qq_4 qq_5 qq_6 qq_7 qq_8))))))) H from hP)
        have hD : va_D A ((wXO xa (ya 0) la (pa 0) (qa 0)) ++ ((wLO G la lo) ++ ((wSYc G ya yy_0 yy_1 yy_2 yy_3 yy_4 yy_5 yy_6 yy_7 yy_8) ++ ((wPLc G pa pp_0 pp_1 pp_2 pp_3 pp_4 pp_5 pp_6 pp_7 pp_8) ++ ((wPLc G qa qq_0 qq_1 qq_2 qq_3 qq_4 qq_5 qq_6 qq_7 qq_8) ++ ((wAR G aka 60 ka) ++ ((wAR G akc 1 kc)))))))) := xf_D (xf_p_7_56_01234 (wXO xa (ya 0) la (pa 0) (qa 0)) (wLO G la lo) (wSYc G ya yy_0 yy_1 yy_2 yy_3 yy_4 yy_5 yy_6 yy_7 yy_8) (wPLc G pa pp_0 pp_1 pp_2 pp_3 pp_4 pp_5 pp_6 pp_7 pp_8) (wPLc G qa qq_0 qq_1 qq_2 qq_3 qq_4 qq_5 qq_6 qq_7 qq_8) (wAR G aka 60 ka) (wAR G akc 1 kc)).symm (show va_D A (((wAR G aka 60 ka) ++ ((wAR G akc 1 kc))) ++ ((wXO xa (ya 0) la (pa 0) (qa 0)) ++ ((wLO G la lo) ++ ((wSYc G ya yy_0 yy_1 yy_2 yy_3 yy_4 yy_5 yy_6 yy_7 yy_8) ++ ((wPLc G pa pp_0 pp_1 pp_2 pp_3 pp_4 pp_5 pp_6 pp_7 pp_8) ++ ((wPLc G qa qq_0 qq_1 qq_2 qq_3 qq_4 qq_5 qq_6 qq_7 qq_8))))))) from hD)
        refine lv_iload hx hb dL_isWorth_165 (lv_at hl 1 rfl) ?_
        refine lv_icmp_ne (tgt := 174) hx hb dL_isWorth_167 (by decide) (fun c22 => ?_) (fun c22 => ?_)
        · have h := sp_f c22 h
          refine lv_iconst (v := (0 : Int32)) hx hb dL_isWorth_174 (by decide) ?_
          obtain rfl := sp_s h
          exact xk_reZ hx hb hr hlk rfl hP hD hS rfl dL_isWorth_175
        · have h := sp_t c22 h
          refine lv_iconst (v := (1 : Int32)) hx hb dL_isWorth_170 (by decide) ?_
          refine lv_goto (tgt := 175) hx hb dL_isWorth_171 (by decide) ?_
          obtain rfl := sp_s h
          exact xk_reZ hx hb hr hlk rfl hP hD hS rfl dL_isWorth_175
    · have h := hw6
      clear hw6
      refine xk_lp (α := Int32 × Int32 × Int32) G A s.heap (fun a_5 => ((wXO xa (ya 0) la (pa 0) (qa 0)) ++ ((wLO G la lo) ++ ((wSYc G ya yy_0 yy_1 yy_2 yy_3 yy_4 yy_5 yy_6 yy_7 yy_8) ++ ((wPLc G pa pp_0 pp_1 pp_2 pp_3 pp_4 pp_5 pp_6 pp_7 pp_8) ++ ((wPLc G qa qq_0 qq_1 qq_2 qq_3 qq_4 qq_5 qq_6 qq_7 qq_8) ++ ((wAR G aka 60 ka) ++ ((wAR G akc 1 kc))))))))) 11 (fun a_5 => [(8, .int a_5.1), (7, .int a_5.2.1), (6, .int a_5.2.2), (5, .int o2), (4, .int o1), (0, .ref xa), (1, .ref aka), (2, .ref akc), (3, .int i3)]) 55 (fun n a_5 => f_L_isWorth_l55 ka kc i3 o1 o2 n a_5.1 a_5.2.1 a_5.2.2 = some w6) (fun a_5 h => ?_) (fun n ih_5 a_5 h H locs hP hD hS ls hl => ?_) (fun LL => ?_)
      · exact sp_n ((f_L_isWorth_l55_z _ _ _ _ _ _ _ _).symm.trans h)
      · obtain ⟨x8_5, x7_5, x6_5⟩ := a_5
        have h := (f_L_isWorth_l55_s ka kc i3 o1 o2 n x8_5 x7_5 x6_5).symm.trans h
        have hP : va_P G.1 vwCl ((wXO xa (ya 0) la (pa 0) (qa 0)) ++ ((wLO G la lo) ++ ((wSYc G ya yy_0 yy_1 yy_2 yy_3 yy_4 yy_5 yy_6 yy_7 yy_8) ++ ((wPLc G pa pp_0 pp_1 pp_2 pp_3 pp_4 pp_5 pp_6 pp_7 pp_8) ++ ((wPLc G qa qq_0 qq_1 qq_2 qq_3 qq_4 qq_5 qq_6 qq_7 qq_8) ++ ((wAR G aka 60 ka) ++ ((wAR G akc 1 kc)))))))) H := hP
        have hD : va_D A ((wXO xa (ya 0) la (pa 0) (qa 0)) ++ ((wLO G la lo) ++ ((wSYc G ya yy_0 yy_1 yy_2 yy_3 yy_4 yy_5 yy_6 yy_7 yy_8) ++ ((wPLc G pa pp_0 pp_1 pp_2 pp_3 pp_4 pp_5 pp_6 pp_7 pp_8) ++ ((wPLc G qa qq_0 qq_1 qq_2 qq_3 qq_4 qq_5 qq_6 qq_7 qq_8) ++ ((wAR G aka 60 ka) ++ ((wAR G akc 1 kc)))))))) := hD
        have hl : lv_has ls 11 [(8, .int x8_5), (7, .int x7_5), (6, .int x6_5), (5, .int o2), (4, .int o1), (0, .ref xa), (1, .ref aka), (2, .ref akc), (3, .int i3)] := hl
        refine lv_iload hx hb dL_isWorth_55 (lv_at hl 0 rfl) ?_
        refine lv_iconst (v := (1 : Int32)) hx hb dL_isWorth_57 (by decide) ?_
        refine lv_aload_n hx hb dL_isWorth_58 rfl (lv_at hl 7 rfl) ?_
        refine lv_iconst (v := (0 : Int32)) hx hb dL_isWorth_59 (by decide) ?_
        refine va_iald hx hb hK hP 26 0 rfl rfl (xk_in0_1) dL_isWorth_60 ?_
        refine lv_ishl hx hb dL_isWorth_61 ?_
        refine lv_icmp_ge (tgt := 156) hx hb dL_isWorth_62 (by decide) (fun c7 => ?_) (fun c7 => ?_)
        · have h := sp_t c7 h
          obtain rfl := sp_s h
          exact J5 _ _ hP hD hS _ (lv_sub hl [1, 2, 5] rfl)
        · have h := sp_f c7 h
          refine lv_aload_n hx hb dL_isWorth_65 rfl (lv_at hl 6 rfl) ?_
          refine lv_aload_n hx hb dL_isWorth_66 rfl (lv_at hl 7 rfl) ?_
          refine lv_iload hx hb dL_isWorth_67 (lv_at hl 0 rfl) ?_
          obtain ⟨o8, ho8, h⟩ := sp_b h
          have hP9 : va_P G.1 vwCl (((wXO xa (ya 0) la (pa 0) (qa 0)) ++ ((wLO G la lo) ++ ((wSYc G ya yy_0 yy_1 yy_2 yy_3 yy_4 yy_5 yy_6 yy_7 yy_8) ++ ((wPLc G pa pp_0 pp_1 pp_2 pp_3 pp_4 pp_5 pp_6 pp_7 pp_8) ++ ((wPLc G qa qq_0 qq_1 qq_2 qq_3 qq_4 qq_5 qq_6 qq_7 qq_8)))))) ++ ((wAR G aka 60 ka) ++ ((wAR G akc 1 kc)))) H := xf_P (xf_p_7_01234_56 (wXO xa (ya 0) la (pa 0) (qa 0)) (wLO G la lo) (wSYc G ya yy_0 yy_1 yy_2 yy_3 yy_4 yy_5 yy_6 yy_7 yy_8) (wPLc G pa pp_0 pp_1 pp_2 pp_3 pp_4 pp_5 pp_6 pp_7 pp_8) (wPLc G qa qq_0 qq_1 qq_2 qq_3 qq_4 qq_5 qq_6 qq_7 qq_8) (wAR G aka 60 ka) (wAR G akc 1 kc)) hP
          have hD9 : va_D A (((wXO xa (ya 0) la (pa 0) (qa 0)) ++ ((wLO G la lo) ++ ((wSYc G ya yy_0 yy_1 yy_2 yy_3 yy_4 yy_5 yy_6 yy_7 yy_8) ++ ((wPLc G pa pp_0 pp_1 pp_2 pp_3 pp_4 pp_5 pp_6 pp_7 pp_8) ++ ((wPLc G qa qq_0 qq_1 qq_2 qq_3 qq_4 qq_5 qq_6 qq_7 qq_8)))))) ++ ((wAR G aka 60 ka) ++ ((wAR G akc 1 kc)))) := xf_D (xf_p_7_01234_56 (wXO xa (ya 0) la (pa 0) (qa 0)) (wLO G la lo) (wSYc G ya yy_0 yy_1 yy_2 yy_3 yy_4 yy_5 yy_6 yy_7 yy_8) (wPLc G pa pp_0 pp_1 pp_2 pp_3 pp_4 pp_5 pp_6 pp_7 pp_8) (wPLc G qa qq_0 qq_1 qq_2 qq_3 qq_4 qq_5 qq_6 qq_7 qq_8) (wAR G aka 60 ka) (wAR G akc 1 kc)) hD
          refine xf_ci (va_runS (As := [.ref aka, .ref akc, .int x8_5]) (rest := []) ⟨hx, hb, hml, hown, hts⟩ (c_L_isClosed l G aka akc ka kc x8_5 o8 ho8 H.size) (va_cwS 3 hts gL_isWorth_L_isClosed rfl rfl rfl (by decide +kernel) ⟨(Nat.le_of_ble_eq_true rfl), (Nat.le_of_ble_eq_true rfl)⟩) (xk_preS hK hNE (xf_pr hP9) (xf_dr hD9)) rfl rfl hl.1 rfl (lv_room (Nat.le_of_ble_eq_true rfl)) dL_isWorth_69 ⟨(Nat.le_of_ble_eq_true rfl), (Nat.le_of_ble_eq_true rfl)⟩) hP9 hD9 hS hA (fun H locs hP hD hS => ?_)
          have hP : va_P G.1 vwCl ((wXO xa (ya 0) la (pa 0) (qa 0)) ++ ((wLO G la lo) ++ ((wSYc G ya yy_0 yy_1 yy_2 yy_3 yy_4 yy_5 yy_6 yy_7 yy_8) ++ ((wPLc G pa pp_0 pp_1 pp_2 pp_3 pp_4 pp_5 pp_6 pp_7 pp_8) ++ ((wPLc G qa qq_0 qq_1 qq_2 qq_3 qq_4 qq_5 qq_6 qq_7 qq_8) ++ ((wAR G aka 60 ka) ++ ((wAR G akc 1 kc)))))))) H := xf_P (xf_p_7_01234_56 (wXO xa (ya 0) la (pa 0) (qa 0)) (wLO G la lo) (wSYc G ya yy_0 yy_1 yy_2 yy_3 yy_4 yy_5 yy_6 yy_7 yy_8) (wPLc G pa pp_0 pp_1 pp_2 pp_3 pp_4 pp_5 pp_6 pp_7 pp_8) (wPLc G qa qq_0 qq_1 qq_2 qq_3 qq_4 qq_5 qq_6 qq_7 qq_8) (wAR G aka 60 ka) (wAR G akc 1 kc)).symm (show va_P G.1 vwCl (((wXO xa (ya 0) la (pa 0) (qa 0)) ++ ((wLO G la lo) ++ ((wSYc G ya yy_0 yy_1 yy_2 yy_3 yy_4 yy_5 yy_6 yy_7 yy_8) ++ ((wPLc G pa pp_0 pp_1 pp_2 pp_3 pp_4 pp_5 pp_6 pp_7 pp_8) ++ ((wPLc G qa qq_0 qq_1 qq_2 qq_3 qq_4 qq_5 qq_6 qq_7 qq_8)))))) ++ ((wAR G aka 60 ka) ++ ((wAR G akc 1 kc)))) H from hP)
          have hD : va_D A ((wXO xa (ya 0) la (pa 0) (qa 0)) ++ ((wLO G la lo) ++ ((wSYc G ya yy_0 yy_1 yy_2 yy_3 yy_4 yy_5 yy_6 yy_7 yy_8) ++ ((wPLc G pa pp_0 pp_1 pp_2 pp_3 pp_4 pp_5 pp_6 pp_7 pp_8) ++ ((wPLc G qa qq_0 qq_1 qq_2 qq_3 qq_4 qq_5 qq_6 qq_7 qq_8) ++ ((wAR G aka 60 ka) ++ ((wAR G akc 1 kc)))))))) := xf_D (xf_p_7_01234_56 (wXO xa (ya 0) la (pa 0) (qa 0)) (wLO G la lo) (wSYc G ya yy_0 yy_1 yy_2 yy_3 yy_4 yy_5 yy_6 yy_7 yy_8) (wPLc G pa pp_0 pp_1 pp_2 pp_3 pp_4 pp_5 pp_6 pp_7 pp_8) (wPLc G qa qq_0 qq_1 qq_2 qq_3 qq_4 qq_5 qq_6 qq_7 qq_8) (wAR G aka 60 ka) (wAR G akc 1 kc)).symm (show va_D A (((wXO xa (ya 0) la (pa 0) (qa 0)) ++ ((wLO G la lo) ++ ((wSYc G ya yy_0 yy_1 yy_2 yy_3 yy_4 yy_5 yy_6 yy_7 yy_8) ++ ((wPLc G pa pp_0 pp_1 pp_2 pp_3 pp_4 pp_5 pp_6 pp_7 pp_8) ++ ((wPLc G qa qq_0 qq_1 qq_2 qq_3 qq_4 qq_5 qq_6 qq_7 qq_8)))))) ++ ((wAR G aka 60 ka) ++ ((wAR G akc 1 kc)))) from hD)
          refine lv_istore (lv' := [(9, .int o8), (8, .int x8_5), (7, .int x7_5), (6, .int x6_5), (5, .int o2), (4, .int o1), (0, .ref xa), (1, .ref aka), (2, .ref akc), (3, .int i3)]) hx hb dL_isWorth_72 hl (by decide) rfl (fun ls hl => ?_)
          refine lv_iload hx hb dL_isWorth_74 (lv_at hl 3 rfl) ?_
          refine lv_iload hx hb dL_isWorth_76 (lv_at hl 0 rfl) ?_
          obtain ⟨v9, hv9, h⟩ := sp_b h
          refine xk_jn G A s.heap ((wXO xa (ya 0) la (pa 0) (qa 0)) ++ ((wLO G la lo) ++ ((wSYc G ya yy_0 yy_1 yy_2 yy_3 yy_4 yy_5 yy_6 yy_7 yy_8) ++ ((wPLc G pa pp_0 pp_1 pp_2 pp_3 pp_4 pp_5 pp_6 pp_7 pp_8) ++ ((wPLc G qa qq_0 qq_1 qq_2 qq_3 qq_4 qq_5 qq_6 qq_7 qq_8) ++ ((wAR G aka 60 ka) ++ ((wAR G akc 1 kc)))))))) 11 [(9, .int o8), (8, .int x8_5), (7, .int x7_5), (5, .int o2), (4, .int o1), (0, .ref xa), (1, .ref aka), (2, .ref akc), (3, .int i3)] 86 [.int v9, .int x6_5] (fun H locs hP hD hS ls hl => ?_) (fun J9 => ?_)
          · refine lv_iadd hx hb dL_isWorth_86 ?_
            refine lv_istore (lv' := [(6, .int (x6_5 + v9)), (9, .int o8), (8, .int x8_5), (7, .int x7_5), (5, .int o2), (4, .int o1), (0, .ref xa), (1, .ref aka), (2, .ref akc), (3, .int i3)]) hx hb dL_isWorth_87 hl (by decide) rfl (fun ls hl => ?_)
            refine lv_aload_n hx hb dL_isWorth_89 rfl (lv_at hl 7 rfl) ?_
            refine lv_aload_n hx hb dL_isWorth_90 rfl (lv_at hl 8 rfl) ?_
            refine lv_iload hx hb dL_isWorth_91 (lv_at hl 2 rfl) ?_
            refine lv_iload_n hx hb dL_isWorth_93 rfl (lv_at hl 9 rfl) ?_
            obtain ⟨o10, ho10, h⟩ := sp_b h
            have hP9 : va_P G.1 vwCl (((wXO xa (ya 0) la (pa 0) (qa 0)) ++ ((wLO G la lo) ++ ((wSYc G ya yy_0 yy_1 yy_2 yy_3 yy_4 yy_5 yy_6 yy_7 yy_8) ++ ((wPLc G pa pp_0 pp_1 pp_2 pp_3 pp_4 pp_5 pp_6 pp_7 pp_8) ++ ((wPLc G qa qq_0 qq_1 qq_2 qq_3 qq_4 qq_5 qq_6 qq_7 qq_8)))))) ++ ((wAR G aka 60 ka) ++ ((wAR G akc 1 kc)))) H := xf_P (xf_p_7_01234_56 (wXO xa (ya 0) la (pa 0) (qa 0)) (wLO G la lo) (wSYc G ya yy_0 yy_1 yy_2 yy_3 yy_4 yy_5 yy_6 yy_7 yy_8) (wPLc G pa pp_0 pp_1 pp_2 pp_3 pp_4 pp_5 pp_6 pp_7 pp_8) (wPLc G qa qq_0 qq_1 qq_2 qq_3 qq_4 qq_5 qq_6 qq_7 qq_8) (wAR G aka 60 ka) (wAR G akc 1 kc)) hP
            have hD9 : va_D A (((wXO xa (ya 0) la (pa 0) (qa 0)) ++ ((wLO G la lo) ++ ((wSYc G ya yy_0 yy_1 yy_2 yy_3 yy_4 yy_5 yy_6 yy_7 yy_8) ++ ((wPLc G pa pp_0 pp_1 pp_2 pp_3 pp_4 pp_5 pp_6 pp_7 pp_8) ++ ((wPLc G qa qq_0 qq_1 qq_2 qq_3 qq_4 qq_5 qq_6 qq_7 qq_8)))))) ++ ((wAR G aka 60 ka) ++ ((wAR G akc 1 kc)))) := xf_D (xf_p_7_01234_56 (wXO xa (ya 0) la (pa 0) (qa 0)) (wLO G la lo) (wSYc G ya yy_0 yy_1 yy_2 yy_3 yy_4 yy_5 yy_6 yy_7 yy_8) (wPLc G pa pp_0 pp_1 pp_2 pp_3 pp_4 pp_5 pp_6 pp_7 pp_8) (wPLc G qa qq_0 qq_1 qq_2 qq_3 qq_4 qq_5 qq_6 qq_7 qq_8) (wAR G aka 60 ka) (wAR G akc 1 kc)) hD
            refine xf_ci (va_runS (As := [.ref aka, .ref akc, .int x8_5, .int i3]) (rest := []) ⟨hx, hb, hml, hown, hts⟩ (c_L_net l G aka akc ka kc x8_5 i3 o10 ho10 H.size) (va_cwS 4 hts gL_isWorth_L_net rfl rfl rfl (by decide +kernel) ⟨(Nat.le_of_ble_eq_true rfl), (Nat.le_of_ble_eq_true rfl)⟩) (xk_preS hK hNE (xf_pr hP9) (xf_dr hD9)) rfl rfl hl.1 rfl (lv_room (Nat.le_of_ble_eq_true rfl)) dL_isWorth_94 ⟨(Nat.le_of_ble_eq_true rfl), (Nat.le_of_ble_eq_true rfl)⟩) hP9 hD9 hS hA (fun H locs hP hD hS => ?_)
            have hP : va_P G.1 vwCl ((wXO xa (ya 0) la (pa 0) (qa 0)) ++ ((wLO G la lo) ++ ((wSYc G ya yy_0 yy_1 yy_2 yy_3 yy_4 yy_5 yy_6 yy_7 yy_8) ++ ((wPLc G pa pp_0 pp_1 pp_2 pp_3 pp_4 pp_5 pp_6 pp_7 pp_8) ++ ((wPLc G qa qq_0 qq_1 qq_2 qq_3 qq_4 qq_5 qq_6 qq_7 qq_8) ++ ((wAR G aka 60 ka) ++ ((wAR G akc 1 kc)))))))) H := xf_P (xf_p_7_01234_56 (wXO xa (ya 0) la (pa 0) (qa 0)) (wLO G la lo) (wSYc G ya yy_0 yy_1 yy_2 yy_3 yy_4 yy_5 yy_6 yy_7 yy_8) (wPLc G pa pp_0 pp_1 pp_2 pp_3 pp_4 pp_5 pp_6 pp_7 pp_8) (wPLc G qa qq_0 qq_1 qq_2 qq_3 qq_4 qq_5 qq_6 qq_7 qq_8) (wAR G aka 60 ka) (wAR G akc 1 kc)).symm (show va_P G.1 vwCl (((wXO xa (ya 0) la (pa 0) (qa 0)) ++ ((wLO G la lo) ++ ((wSYc G ya yy_0 yy_1 yy_2 yy_3 yy_4 yy_5 yy_6 yy_7 yy_8) ++ ((wPLc G pa pp_0 pp_1 pp_2 pp_3 pp_4 pp_5 pp_6 pp_7 pp_8) ++ ((wPLc G qa qq_0 qq_1 qq_2 qq_3 qq_4 qq_5 qq_6 qq_7 qq_8)))))) ++ ((wAR G aka 60 ka) ++ ((wAR G akc 1 kc)))) H from hP)
            have hD : va_D A ((wXO xa (ya 0) la (pa 0) (qa 0)) ++ ((wLO G la lo) ++ ((wSYc G ya yy_0 yy_1 yy_2 yy_3 yy_4 yy_5 yy_6 yy_7 yy_8) ++ ((wPLc G pa pp_0 pp_1 pp_2 pp_3 pp_4 pp_5 pp_6 pp_7 pp_8) ++ ((wPLc G qa qq_0 qq_1 qq_2 qq_3 qq_4 qq_5 qq_6 qq_7 qq_8) ++ ((wAR G aka 60 ka) ++ ((wAR G akc 1 kc)))))))) := xf_D (xf_p_7_01234_56 (wXO xa (ya 0) la (pa 0) (qa 0)) (wLO G la lo) (wSYc G ya yy_0 yy_1 yy_2 yy_3 yy_4 yy_5 yy_6 yy_7 yy_8) (wPLc G pa pp_0 pp_1 pp_2 pp_3 pp_4 pp_5 pp_6 pp_7 pp_8) (wPLc G qa qq_0 qq_1 qq_2 qq_3 qq_4 qq_5 qq_6 qq_7 qq_8) (wAR G aka 60 ka) (wAR G akc 1 kc)).symm (show va_D A (((wXO xa (ya 0) la (pa 0) (qa 0)) ++ ((wLO G la lo) ++ ((wSYc G ya yy_0 yy_1 yy_2 yy_3 yy_4 yy_5 yy_6 yy_7 yy_8) ++ ((wPLc G pa pp_0 pp_1 pp_2 pp_3 pp_4 pp_5 pp_6 pp_7 pp_8) ++ ((wPLc G qa qq_0 qq_1 qq_2 qq_3 qq_4 qq_5 qq_6 qq_7 qq_8)))))) ++ ((wAR G aka 60 ka) ++ ((wAR G akc 1 kc)))) from hD)
            refine lv_istore (lv' := [(10, .int o10), (6, .int (x6_5 + v9)), (9, .int o8), (8, .int x8_5), (7, .int x7_5), (5, .int o2), (4, .int o1), (0, .ref xa), (1, .ref aka), (2, .ref akc), (3, .int i3)]) hx hb dL_isWorth_97 hl (by decide) rfl (fun ls hl => ?_)
            refine lv_iload hx hb dL_isWorth_99 (lv_at hl 4 rfl) ?_
            refine lv_if_eq (tgt := 147) hx hb dL_isWorth_101 (by decide) (fun c11 => ?_) (fun c11 => ?_)
            · have h := sp_t c11 h
              refine lv_iconst (v := (0 : Int32)) hx hb dL_isWorth_147 (by decide) ?_
              refine lv_istore (lv' := [(7, .int (0 : Int32)), (10, .int o10), (6, .int (x6_5 + v9)), (9, .int o8), (8, .int x8_5), (5, .int o2), (4, .int o1), (0, .ref xa), (1, .ref aka), (2, .ref akc), (3, .int i3)]) hx hb dL_isWorth_148 hl (by decide) rfl (fun ls hl => ?_)
              refine lv_iinc (v := (x8_5 + (1 : Int32))) (lv' := [(8, .int (x8_5 + (1 : Int32))), (7, .int (0 : Int32)), (10, .int o10), (6, .int (x6_5 + v9)), (9, .int o8), (5, .int o2), (4, .int o1), (0, .ref xa), (1, .ref aka), (2, .ref akc), (3, .int i3)]) hx hb dL_isWorth_150 hl (k := 4) rfl rfl (by decide) rfl (fun ls hl => ?_)
              refine lv_goto (tgt := 55) hx hb dL_isWorth_153 (by decide) ?_
              exact ih_5 ((x8_5 + (1 : Int32)), (0 : Int32), (x6_5 + v9)) h _ _ hP hD hS _ (lv_sub hl [0, 1, 3, 5, 6, 7, 8, 9, 10] rfl)
            · have h := sp_f c11 h
              refine lv_iload hx hb dL_isWorth_104 (lv_at hl 2 rfl) ?_
              refine lv_if_eq (tgt := 143) hx hb dL_isWorth_106 (by decide) (fun c12 => ?_) (fun c12 => ?_)
              · have h := sp_t c12 h
                refine lv_iconst (v := (1 : Int32)) hx hb dL_isWorth_143 (by decide) ?_
                refine lv_goto (tgt := 148) hx hb dL_isWorth_144 (by decide) ?_
                refine lv_istore (lv' := [(7, .int (1 : Int32)), (10, .int o10), (6, .int (x6_5 + v9)), (9, .int o8), (8, .int x8_5), (5, .int o2), (4, .int o1), (0, .ref xa), (1, .ref aka), (2, .ref akc), (3, .int i3)]) hx hb dL_isWorth_148 hl (by decide) rfl (fun ls hl => ?_)
                refine lv_iinc (v := (x8_5 + (1 : Int32))) (lv' := [(8, .int (x8_5 + (1 : Int32))), (7, .int (1 : Int32)), (10, .int o10), (6, .int (x6_5 + v9)), (9, .int o8), (5, .int o2), (4, .int o1), (0, .ref xa), (1, .ref aka), (2, .ref akc), (3, .int i3)]) hx hb dL_isWorth_150 hl (k := 4) rfl rfl (by decide) rfl (fun ls hl => ?_)
                refine lv_goto (tgt := 55) hx hb dL_isWorth_153 (by decide) ?_
                exact ih_5 ((x8_5 + (1 : Int32)), (1 : Int32), (x6_5 + v9)) h _ _ hP hD hS _ (lv_sub hl [0, 1, 3, 5, 6, 7, 8, 9, 10] rfl)
              · have h := sp_f c12 h
                refine lv_iload hx hb dL_isWorth_109 (lv_at hl 3 rfl) ?_
                refine lv_iload hx hb dL_isWorth_111 (lv_at hl 6 rfl) ?_
                refine lv_icmp_eq (tgt := 143) hx hb dL_isWorth_113 (by decide) (fun c13 => ?_) (fun c13 => ?_)
                · have h := sp_t c13 h
                  refine lv_iconst (v := (1 : Int32)) hx hb dL_isWorth_143 (by decide) ?_
                  refine lv_goto (tgt := 148) hx hb dL_isWorth_144 (by decide) ?_
                  refine lv_istore (lv' := [(7, .int (1 : Int32)), (10, .int o10), (6, .int (x6_5 + v9)), (9, .int o8), (8, .int x8_5), (5, .int o2), (4, .int o1), (0, .ref xa), (1, .ref aka), (2, .ref akc), (3, .int i3)]) hx hb dL_isWorth_148 hl (by decide) rfl (fun ls hl => ?_)
                  refine lv_iinc (v := (x8_5 + (1 : Int32))) (lv' := [(8, .int (x8_5 + (1 : Int32))), (7, .int (1 : Int32)), (10, .int o10), (6, .int (x6_5 + v9)), (9, .int o8), (5, .int o2), (4, .int o1), (0, .ref xa), (1, .ref aka), (2, .ref akc), (3, .int i3)]) hx hb dL_isWorth_150 hl (k := 4) rfl rfl (by decide) rfl (fun ls hl => ?_)
                  refine lv_goto (tgt := 55) hx hb dL_isWorth_153 (by decide) ?_
                  exact ih_5 ((x8_5 + (1 : Int32)), (1 : Int32), (x6_5 + v9)) h _ _ hP hD hS _ (lv_sub hl [0, 1, 3, 5, 6, 7, 8, 9, 10] rfl)
                · have h := sp_f c13 h
                  refine lv_iload hx hb dL_isWorth_116 (lv_at hl 0 rfl) ?_
                  refine lv_iload hx hb dL_isWorth_118 (lv_at hl 5 rfl) ?_
                  refine lv_icmp_lt (tgt := 143) hx hb dL_isWorth_120 (by decide) (fun c14 => ?_) (fun c14 => ?_)
                  · have h := sp_t c14 h
                    refine lv_iconst (v := (1 : Int32)) hx hb dL_isWorth_143 (by decide) ?_
                    refine lv_goto (tgt := 148) hx hb dL_isWorth_144 (by decide) ?_
                    refine lv_istore (lv' := [(7, .int (1 : Int32)), (10, .int o10), (6, .int (x6_5 + v9)), (9, .int o8), (8, .int x8_5), (5, .int o2), (4, .int o1), (0, .ref xa), (1, .ref aka), (2, .ref akc), (3, .int i3)]) hx hb dL_isWorth_148 hl (by decide) rfl (fun ls hl => ?_)
                    refine lv_iinc (v := (x8_5 + (1 : Int32))) (lv' := [(8, .int (x8_5 + (1 : Int32))), (7, .int (1 : Int32)), (10, .int o10), (6, .int (x6_5 + v9)), (9, .int o8), (5, .int o2), (4, .int o1), (0, .ref xa), (1, .ref aka), (2, .ref akc), (3, .int i3)]) hx hb dL_isWorth_150 hl (k := 4) rfl rfl (by decide) rfl (fun ls hl => ?_)
                    refine lv_goto (tgt := 55) hx hb dL_isWorth_153 (by decide) ?_
                    exact ih_5 ((x8_5 + (1 : Int32)), (1 : Int32), (x6_5 + v9)) h _ _ hP hD hS _ (lv_sub hl [0, 1, 3, 5, 6, 7, 8, 9, 10] rfl)
                  · have h := sp_f c14 h
                    refine lv_iload hx hb dL_isWorth_123 (lv_at hl 0 rfl) ?_
                    refine lv_iload hx hb dL_isWorth_125 (lv_at hl 5 rfl) ?_
                    refine lv_icmp_ne (tgt := 147) hx hb dL_isWorth_127 (by decide) (fun c15 => ?_) (fun c15 => ?_)
                    · have h := sp_f c15 h
                      refine lv_iconst (v := (0 : Int32)) hx hb dL_isWorth_147 (by decide) ?_
                      refine lv_istore (lv' := [(7, .int (0 : Int32)), (10, .int o10), (6, .int (x6_5 + v9)), (9, .int o8), (8, .int x8_5), (5, .int o2), (4, .int o1), (0, .ref xa), (1, .ref aka), (2, .ref akc), (3, .int i3)]) hx hb dL_isWorth_148 hl (by decide) rfl (fun ls hl => ?_)
                      refine lv_iinc (v := (x8_5 + (1 : Int32))) (lv' := [(8, .int (x8_5 + (1 : Int32))), (7, .int (0 : Int32)), (10, .int o10), (6, .int (x6_5 + v9)), (9, .int o8), (5, .int o2), (4, .int o1), (0, .ref xa), (1, .ref aka), (2, .ref akc), (3, .int i3)]) hx hb dL_isWorth_150 hl (k := 4) rfl rfl (by decide) rfl (fun ls hl => ?_)
                      refine lv_goto (tgt := 55) hx hb dL_isWorth_153 (by decide) ?_
                      exact ih_5 ((x8_5 + (1 : Int32)), (0 : Int32), (x6_5 + v9)) h _ _ hP hD hS _ (lv_sub hl [0, 1, 3, 5, 6, 7, 8, 9, 10] rfl)
                    · have h := sp_t c15 h
                      refine lv_iload hx hb dL_isWorth_130 (lv_at hl 3 rfl) ?_
                      obtain ⟨o16, ho16, h⟩ := sp_b h
                      refine xf_ci0 (va_runS (As := [.int x8_5]) (rest := []) ⟨hx, hb, hml, hown, hts⟩ (c_L_size l G x8_5 o16 ho16 H.size) (va_cwS 1 hts gL_isWorth_L_size rfl rfl rfl (by decide +kernel) ⟨(Nat.le_of_ble_eq_true rfl), (Nat.le_of_ble_eq_true rfl)⟩) (xk_preS hK hNE (xf_p0 : va_P G.1 vwCl [] H) (xf_d0 : va_D A [])) rfl rfl hl.1 rfl (lv_room (Nat.le_of_ble_eq_true rfl)) dL_isWorth_132 ⟨(Nat.le_of_ble_eq_true rfl), (Nat.le_of_ble_eq_true rfl)⟩) hP hD hS hA (fun H locs hP hD hS => ?_)
                      refine lv_iload hx hb dL_isWorth_135 (lv_at hl 6 rfl) ?_
                      obtain ⟨o17, ho17, h⟩ := sp_b h
                      refine xf_ci0 (va_runS (As := [.int o1]) (rest := [.int o16]) ⟨hx, hb, hml, hown, hts⟩ (c_L_size l G o1 o17 ho17 H.size) (va_cwS 1 hts gL_isWorth_L_size rfl rfl rfl (by decide +kernel) ⟨(Nat.le_of_ble_eq_true rfl), (Nat.le_of_ble_eq_true rfl)⟩) (xk_preS hK hNE (xf_p0 : va_P G.1 vwCl [] H) (xf_d0 : va_D A [])) rfl rfl hl.1 rfl (lv_room (Nat.le_of_ble_eq_true rfl)) dL_isWorth_137 ⟨(Nat.le_of_ble_eq_true rfl), (Nat.le_of_ble_eq_true rfl)⟩) hP hD hS hA (fun H locs hP hD hS => ?_)
                      refine lv_icmp_le (tgt := 147) hx hb dL_isWorth_140 (by decide) (fun c18 => ?_) (fun c18 => ?_)
                      · have h := sp_t c18 h
                        refine lv_iconst (v := (0 : Int32)) hx hb dL_isWorth_147 (by decide) ?_
                        refine lv_istore (lv' := [(7, .int (0 : Int32)), (10, .int o10), (6, .int (x6_5 + v9)), (9, .int o8), (8, .int x8_5), (5, .int o2), (4, .int o1), (0, .ref xa), (1, .ref aka), (2, .ref akc), (3, .int i3)]) hx hb dL_isWorth_148 hl (by decide) rfl (fun ls hl => ?_)
                        refine lv_iinc (v := (x8_5 + (1 : Int32))) (lv' := [(8, .int (x8_5 + (1 : Int32))), (7, .int (0 : Int32)), (10, .int o10), (6, .int (x6_5 + v9)), (9, .int o8), (5, .int o2), (4, .int o1), (0, .ref xa), (1, .ref aka), (2, .ref akc), (3, .int i3)]) hx hb dL_isWorth_150 hl (k := 4) rfl rfl (by decide) rfl (fun ls hl => ?_)
                        refine lv_goto (tgt := 55) hx hb dL_isWorth_153 (by decide) ?_
                        exact ih_5 ((x8_5 + (1 : Int32)), (0 : Int32), (x6_5 + v9)) h _ _ hP hD hS _ (lv_sub hl [0, 1, 3, 5, 6, 7, 8, 9, 10] rfl)
                      · have h := sp_f c18 h
                        refine lv_iconst (v := (1 : Int32)) hx hb dL_isWorth_143 (by decide) ?_
                        refine lv_goto (tgt := 148) hx hb dL_isWorth_144 (by decide) ?_
                        refine lv_istore (lv' := [(7, .int (1 : Int32)), (10, .int o10), (6, .int (x6_5 + v9)), (9, .int o8), (8, .int x8_5), (5, .int o2), (4, .int o1), (0, .ref xa), (1, .ref aka), (2, .ref akc), (3, .int i3)]) hx hb dL_isWorth_148 hl (by decide) rfl (fun ls hl => ?_)
                        refine lv_iinc (v := (x8_5 + (1 : Int32))) (lv' := [(8, .int (x8_5 + (1 : Int32))), (7, .int (1 : Int32)), (10, .int o10), (6, .int (x6_5 + v9)), (9, .int o8), (5, .int o2), (4, .int o1), (0, .ref xa), (1, .ref aka), (2, .ref akc), (3, .int i3)]) hx hb dL_isWorth_150 hl (k := 4) rfl rfl (by decide) rfl (fun ls hl => ?_)
                        refine lv_goto (tgt := 55) hx hb dL_isWorth_153 (by decide) ?_
                        exact ih_5 ((x8_5 + (1 : Int32)), (1 : Int32), (x6_5 + v9)) h _ _ hP hD hS _ (lv_sub hl [0, 1, 3, 5, 6, 7, 8, 9, 10] rfl)
          · have h := hv9
            clear hv9
            refine lv_if_eq (tgt := 85) hx hb dL_isWorth_78 (by decide) (fun c19 => ?_) (fun c19 => ?_)
            · have h := sp_t c19 h
              refine lv_iconst (v := (0 : Int32)) hx hb dL_isWorth_85 (by decide) ?_
              obtain rfl := sp_s h
              exact J9 _ _ hP hD hS _ (lv_sub hl [0, 1, 2, 4, 5, 6, 7, 8, 9] rfl)
            · have h := sp_f c19 h
              refine lv_iconst (v := (1 : Int32)) hx hb dL_isWorth_81 (by decide) ?_
              refine lv_goto (tgt := 86) hx hb dL_isWorth_82 (by decide) ?_
              obtain rfl := sp_s h
              exact J9 _ _ hP hD hS _ (lv_sub hl [0, 1, 2, 4, 5, 6, 7, 8, 9] rfl)
      · exact LL 5000 ((0 : Int32), v4, (0 : Int32)) h _ _ hP hD hS _ (lv_sub hl [0, 1, 2, 3, 4, 5, 6, 7, 8] rfl)
  · have h := hv4
    clear hv4
    refine lv_if_eq (tgt := 49) hx hb dL_isWorth_27 (by decide) (fun c23 => ?_) (fun c23 => ?_)
    · have h := sp_t c23 h
      refine lv_iconst (v := (0 : Int32)) hx hb dL_isWorth_49 (by decide) ?_
      obtain rfl := sp_s h
      exact J4 _ _ hP hD hS _ (lv_sub hl [0, 1, 2, 3, 4, 5, 6] rfl)
    · have h := sp_f c23 h
      refine lv_aload_n hx hb dL_isWorth_30 rfl (lv_at hl 3 rfl) ?_
      refine lv_iload_n hx hb dL_isWorth_31 rfl (lv_at hl 6 rfl) ?_
      obtain ⟨o24, ho24, h⟩ := sp_b h
      have hP9 : va_P G.1 vwCl (((wAR G aka 60 ka) ++ ((wAR G akc 1 kc))) ++ ((wXO xa (ya 0) la (pa 0) (qa 0)) ++ ((wLO G la lo) ++ ((wSYc G ya yy_0 yy_1 yy_2 yy_3 yy_4 yy_5 yy_6 yy_7 yy_8) ++ ((wPLc G pa pp_0 pp_1 pp_2 pp_3 pp_4 pp_5 pp_6 pp_7 pp_8) ++ ((wPLc G qa qq_0 qq_1 qq_2 qq_3 qq_4 qq_5 qq_6 qq_7 qq_8))))))) H := xf_P (xf_p_7_56_01234 (wXO xa (ya 0) la (pa 0) (qa 0)) (wLO G la lo) (wSYc G ya yy_0 yy_1 yy_2 yy_3 yy_4 yy_5 yy_6 yy_7 yy_8) (wPLc G pa pp_0 pp_1 pp_2 pp_3 pp_4 pp_5 pp_6 pp_7 pp_8) (wPLc G qa qq_0 qq_1 qq_2 qq_3 qq_4 qq_5 qq_6 qq_7 qq_8) (wAR G aka 60 ka) (wAR G akc 1 kc)) hP
      have hD9 : va_D A (((wAR G aka 60 ka) ++ ((wAR G akc 1 kc))) ++ ((wXO xa (ya 0) la (pa 0) (qa 0)) ++ ((wLO G la lo) ++ ((wSYc G ya yy_0 yy_1 yy_2 yy_3 yy_4 yy_5 yy_6 yy_7 yy_8) ++ ((wPLc G pa pp_0 pp_1 pp_2 pp_3 pp_4 pp_5 pp_6 pp_7 pp_8) ++ ((wPLc G qa qq_0 qq_1 qq_2 qq_3 qq_4 qq_5 qq_6 qq_7 qq_8))))))) := xf_D (xf_p_7_56_01234 (wXO xa (ya 0) la (pa 0) (qa 0)) (wLO G la lo) (wSYc G ya yy_0 yy_1 yy_2 yy_3 yy_4 yy_5 yy_6 yy_7 yy_8) (wPLc G pa pp_0 pp_1 pp_2 pp_3 pp_4 pp_5 pp_6 pp_7 pp_8) (wPLc G qa qq_0 qq_1 qq_2 qq_3 qq_4 qq_5 qq_6 qq_7 qq_8) (wAR G aka 60 ka) (wAR G akc 1 kc)) hD
      refine xf_ci (va_runV (As := [.int i3]) (rest := []) ⟨hx, hb, hml, hown, hts⟩ (c_X2_bestNet l G xa la ya pa qa lo (yy_0, yy_1, yy_2, yy_3, yy_4, yy_5, yy_6, yy_7, yy_8) (pp_0, pp_1, pp_2, pp_3, pp_4, pp_5, pp_6, pp_7, pp_8) (qq_0, qq_1, qq_2, qq_3, qq_4, qq_5, qq_6, qq_7, qq_8) i3 o24 ho24 H.size) (cwV 1 hts gL_isWorth_X2_bestNet rfl rfl rfl (by decide +kernel) ⟨(Nat.le_of_ble_eq_true rfl), (Nat.le_of_ble_eq_true rfl)⟩) (xk_preV hK hNE (xf_pr hP9) (xf_dr hD9) (ci := 2) rfl rfl) rfl rfl hl.1 rfl (lv_room (Nat.le_of_ble_eq_true rfl)) dL_isWorth_32 ⟨(Nat.le_of_ble_eq_true rfl), (Nat.le_of_ble_eq_true rfl)⟩) hP9 hD9 hS hA (fun H locs hP hD hS => ?_)
      have hP : va_P G.1 vwCl ((wXO xa (ya 0) la (pa 0) (qa 0)) ++ ((wLO G la lo) ++ ((wSYc G ya yy_0 yy_1 yy_2 yy_3 yy_4 yy_5 yy_6 yy_7 yy_8) ++ ((wPLc G pa pp_0 pp_1 pp_2 pp_3 pp_4 pp_5 pp_6 pp_7 pp_8) ++ ((wPLc G qa qq_0 qq_1 qq_2 qq_3 qq_4 qq_5 qq_6 qq_7 qq_8) ++ ((wAR G aka 60 ka) ++ ((wAR G akc 1 kc)))))))) H := xf_P (xf_p_7_56_01234 (wXO xa (ya 0) la (pa 0) (qa 0)) (wLO G la lo) (wSYc G ya yy_0 yy_1 yy_2 yy_3 yy_4 yy_5 yy_6 yy_7 yy_8) (wPLc G pa pp_0 pp_1 pp_2 pp_3 pp_4 pp_5 pp_6 pp_7 pp_8) (wPLc G qa qq_0 qq_1 qq_2 qq_3 qq_4 qq_5 qq_6 qq_7 qq_8) (wAR G aka 60 ka) (wAR G akc 1 kc)).symm (show va_P G.1 vwCl (((wAR G aka 60 ka) ++ ((wAR G akc 1 kc))) ++ ((wXO xa (ya 0) la (pa 0) (qa 0)) ++ ((wLO G la lo) ++ ((wSYc G ya yy_0 yy_1 yy_2 yy_3 yy_4 yy_5 yy_6 yy_7 yy_8) ++ ((wPLc G pa pp_0 pp_1 pp_2 pp_3 pp_4 pp_5 pp_6 pp_7 pp_8) ++ ((wPLc G qa qq_0 qq_1 qq_2 qq_3 qq_4 qq_5 qq_6 qq_7 qq_8))))))) H from hP)
      have hD : va_D A ((wXO xa (ya 0) la (pa 0) (qa 0)) ++ ((wLO G la lo) ++ ((wSYc G ya yy_0 yy_1 yy_2 yy_3 yy_4 yy_5 yy_6 yy_7 yy_8) ++ ((wPLc G pa pp_0 pp_1 pp_2 pp_3 pp_4 pp_5 pp_6 pp_7 pp_8) ++ ((wPLc G qa qq_0 qq_1 qq_2 qq_3 qq_4 qq_5 qq_6 qq_7 qq_8) ++ ((wAR G aka 60 ka) ++ ((wAR G akc 1 kc)))))))) := xf_D (xf_p_7_56_01234 (wXO xa (ya 0) la (pa 0) (qa 0)) (wLO G la lo) (wSYc G ya yy_0 yy_1 yy_2 yy_3 yy_4 yy_5 yy_6 yy_7 yy_8) (wPLc G pa pp_0 pp_1 pp_2 pp_3 pp_4 pp_5 pp_6 pp_7 pp_8) (wPLc G qa qq_0 qq_1 qq_2 qq_3 qq_4 qq_5 qq_6 qq_7 qq_8) (wAR G aka 60 ka) (wAR G akc 1 kc)).symm (show va_D A (((wAR G aka 60 ka) ++ ((wAR G akc 1 kc))) ++ ((wXO xa (ya 0) la (pa 0) (qa 0)) ++ ((wLO G la lo) ++ ((wSYc G ya yy_0 yy_1 yy_2 yy_3 yy_4 yy_5 yy_6 yy_7 yy_8) ++ ((wPLc G pa pp_0 pp_1 pp_2 pp_3 pp_4 pp_5 pp_6 pp_7 pp_8) ++ ((wPLc G qa qq_0 qq_1 qq_2 qq_3 qq_4 qq_5 qq_6 qq_7 qq_8))))))) from hD)
      refine lv_iload hx hb dL_isWorth_35 (lv_at hl 1 rfl) ?_
      refine lv_icmp_ne (tgt := 49) hx hb dL_isWorth_37 (by decide) (fun c25 => ?_) (fun c25 => ?_)
      · have h := sp_f c25 h
        refine lv_iconst (v := (0 : Int32)) hx hb dL_isWorth_49 (by decide) ?_
        obtain rfl := sp_s h
        exact J4 _ _ hP hD hS _ (lv_sub hl [0, 1, 2, 3, 4, 5, 6] rfl)
      · have h := sp_t c25 h
        refine lv_iload hx hb dL_isWorth_40 (lv_at hl 1 rfl) ?_
        refine lv_if_lt (tgt := 49) hx hb dL_isWorth_42 (by decide) (fun c26 => ?_) (fun c26 => ?_)
        · have h := sp_t c26 h
          refine lv_iconst (v := (0 : Int32)) hx hb dL_isWorth_49 (by decide) ?_
          obtain rfl := sp_s h
          exact J4 _ _ hP hD hS _ (lv_sub hl [0, 1, 2, 3, 4, 5, 6] rfl)
        · have h := sp_f c26 h
          refine lv_iconst (v := (1 : Int32)) hx hb dL_isWorth_45 (by decide) ?_
          refine lv_goto (tgt := 50) hx hb dL_isWorth_46 (by decide) ?_
          obtain rfl := sp_s h
          exact J4 _ _ hP hD hS _ (lv_sub hl [0, 1, 2, 3, 4, 5, 6] rfl)
