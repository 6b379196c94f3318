def f_L_aim (lo : xF) (yy : xSY) (pp : xPL) (qq : xPL) (ou : (Nat → Int64)) (i1 : Int32) (i2 : Int32) (i3 : Int32) (i4 : Int32) : Option (Int32 × Int32 × xF × xF × xF × xF × xF × xF × xPL × xPL × (Nat → Int64)) :=
  Option.bind (f_X2_aim lo (yy.1, yy.2.1, yy.2.2.1, yy.2.2.2.1, yy.2.2.2.2.1, yy.2.2.2.2.2.1, yy.2.2.2.2.2.2.1, yy.2.2.2.2.2.2.2.1, yy.2.2.2.2.2.2.2.2) (pp.1, pp.2.1, pp.2.2.1, pp.2.2.2.1, pp.2.2.2.2.1, pp.2.2.2.2.2.1, pp.2.2.2.2.2.2.1, pp.2.2.2.2.2.2.2.1, pp.2.2.2.2.2.2.2.2) (qq.1, qq.2.1, qq.2.2.1, qq.2.2.2.1, qq.2.2.2.2.1, qq.2.2.2.2.2.1, qq.2.2.2.2.2.2.1, qq.2.2.2.2.2.2.2.1, qq.2.2.2.2.2.2.2.2) i1 i2 i3 i4) fun (o1 : Nat × Int32 × Int32 × xF × xF × xF × xF × xF × xF × xPL × xPL) =>
  if o1.1 = 0 then
    some ((0 : Int32), o1.2.2.1, o1.2.2.2.1, o1.2.2.2.2.1, o1.2.2.2.2.2.1, o1.2.2.2.2.2.2.1, o1.2.2.2.2.2.2.2.1, o1.2.2.2.2.2.2.2.2.1, o1.2.2.2.2.2.2.2.2.2.1, o1.2.2.2.2.2.2.2.2.2.2, (vp_updL ou (0 : Int32).toNatClampNeg o1.2.1.toInt64))
  else
    if o1.1 = 1 then
      some ((1 : Int32), yy.1, yy.2.1, yy.2.2.1, yy.2.2.2.1, yy.2.2.2.2.1, yy.2.2.2.2.2.2.1, yy.2.2.2.2.2.2.2.2, (pp.1, pp.2.1, pp.2.2.1, pp.2.2.2.1, pp.2.2.2.2.1, pp.2.2.2.2.2.1, pp.2.2.2.2.2.2.1, pp.2.2.2.2.2.2.2.1, pp.2.2.2.2.2.2.2.2), (qq.1, qq.2.1, qq.2.2.1, qq.2.2.2.1, qq.2.2.2.2.1, qq.2.2.2.2.2.1, qq.2.2.2.2.2.2.1, qq.2.2.2.2.2.2.2.1, qq.2.2.2.2.2.2.2.2), ou)
    else
      if o1.1 = 2 then
        some ((2 : Int32), yy.1, yy.2.1, yy.2.2.1, yy.2.2.2.1, yy.2.2.2.2.1, yy.2.2.2.2.2.2.1, yy.2.2.2.2.2.2.2.2, (pp.1, pp.2.1, pp.2.2.1, pp.2.2.2.1, pp.2.2.2.2.1, pp.2.2.2.2.2.1, pp.2.2.2.2.2.2.1, pp.2.2.2.2.2.2.2.1, pp.2.2.2.2.2.2.2.2), (qq.1, qq.2.1, qq.2.2.1, qq.2.2.2.1, qq.2.2.2.2.1, qq.2.2.2.2.2.1, qq.2.2.2.2.2.2.1, qq.2.2.2.2.2.2.2.1, qq.2.2.2.2.2.2.2.2), ou)
      else
        none
theorem f_L_aim_e (lo : xF) (yy_0 : Int32) (yy_1 : xF) (yy_2 : xF) (yy_3 : xF) (yy_4 : xF) (yy_5 : xF) (yy_6 : xF) (yy_7 : xF) (yy_8 : xF) (pp_0 : xF) (pp_1 : xF) (pp_2 : xF) (pp_3 : xF) (pp_4 : xF) (pp_5 : xF) (pp_6 : Int32) (pp_7 : Int32) (pp_8 : Int32) (qq_0 : xF) (qq_1 : xF) (qq_2 : xF) (qq_3 : xF) (qq_4 : xF) (qq_5 : xF) (qq_6 : Int32) (qq_7 : Int32) (qq_8 : Int32) (ou : (Nat → Int64)) (i1 : Int32) (i2 : Int32) (i3 : Int32) (i4 : Int32) : f_L_aim lo (yy_0, yy_1, yy_2, yy_3, yy_4, yy_5, yy_6, yy_7, yy_8) (pp_0, pp_1, pp_2, pp_3, pp_4, pp_5, pp_6, pp_7, pp_8) (qq_0, qq_1, qq_2, qq_3, qq_4, qq_5, qq_6, qq_7, qq_8) ou i1 i2 i3 i4 =
  Option.bind (f_X2_aim lo (yy_0, yy_1, yy_2, yy_3, yy_4, yy_5, yy_6, yy_7, yy_8) (pp_0, pp_1, pp_2, pp_3, pp_4, pp_5, pp_6, pp_7, pp_8) (qq_0, qq_1, qq_2, qq_3, qq_4, qq_5, qq_6, qq_7, qq_8) i1 i2 i3 i4) fun (o1 : Nat × Int32 × Int32 × xF × xF × xF × xF × xF × xF × xPL × xPL) =>
  if o1.1 = 0 then
    some ((0 : Int32), o1.2.2.1, o1.2.2.2.1, o1.2.2.2.2.1, o1.2.2.2.2.2.1, o1.2.2.2.2.2.2.1, o1.2.2.2.2.2.2.2.1, o1.2.2.2.2.2.2.2.2.1, o1.2.2.2.2.2.2.2.2.2.1, o1.2.2.2.2.2.2.2.2.2.2, (vp_updL ou (0 : Int32).toNatClampNeg o1.2.1.toInt64))
  else
    if o1.1 = 1 then
      some ((1 : Int32), yy_0, yy_1, yy_2, yy_3, yy_4, yy_6, yy_8, (pp_0, pp_1, pp_2, pp_3, pp_4, pp_5, pp_6, pp_7, pp_8), (qq_0, qq_1, qq_2, qq_3, qq_4, qq_5, qq_6, qq_7, qq_8), ou)
    else
      if o1.1 = 2 then
        some ((2 : Int32), yy_0, yy_1, yy_2, yy_3, yy_4, yy_6, yy_8, (pp_0, pp_1, pp_2, pp_3, pp_4, pp_5, pp_6, pp_7, pp_8), (qq_0, qq_1, qq_2, qq_3, qq_4, qq_5, qq_6, qq_7, qq_8), ou)
      else
        none := rfl
set_option maxHeartbeats 4000000 in
set_option maxRecDepth 100000 in
theorem c_L_aim (l : Launch) (hl9 : l.stackTraces = false) (G : xG) (xa : Nat) (la : Nat) (ya : (Nat → Nat)) (pa : (Nat → Nat)) (qa : (Nat → Nat)) (oa : Nat) (lo : xF) (yy : xSY) (pp : xPL) (qq : xPL) (ou : (Nat → Int64)) (i1 : Int32) (i2 : Int32) (i3 : Int32) (i4 : Int32) (o : Int32 × Int32 × xF × xF × xF × xF × xF × xF × xPL × xPL × (Nat → Int64)) (pa1 qa1 : Nat → Nat) (hpq : (o.1 = 0 → pa1 = qa ∧ qa1 = pa) ∧ (¬ o.1 = 0 → pa1 = pa ∧ qa1 = qa)) (h : f_L_aim lo yy pp qq ou i1 i2 i3 i4 = some o) : xk_CL l yL_aim wsL_aim ({ frames := 7, cells := 1, slots := 6, locals := 164 } : Room) [.ref xa, .int i1, .int i2, .int i3, .int i4, .ref oa] G (wXO xa (ya 0) la (pa 0) (qa 0) ++ (wLO G la lo ++ (wSYc G ya yy.1 yy.2.1 yy.2.2.1 yy.2.2.2.1 yy.2.2.2.2.1 yy.2.2.2.2.2.1 yy.2.2.2.2.2.2.1 yy.2.2.2.2.2.2.2.1 yy.2.2.2.2.2.2.2.2 ++ (wPLc G pa pp.1 pp.2.1 pp.2.2.1 pp.2.2.2.1 pp.2.2.2.2.1 pp.2.2.2.2.2.1 pp.2.2.2.2.2.2.1 pp.2.2.2.2.2.2.2.1 pp.2.2.2.2.2.2.2.2 ++ (wPLc G qa qq.1 qq.2.1 qq.2.2.1 qq.2.2.2.1 qq.2.2.2.2.1 qq.2.2.2.2.2.1 qq.2.2.2.2.2.2.1 qq.2.2.2.2.2.2.2.1 qq.2.2.2.2.2.2.2.2 ++ (wOU G oa ou)))))) (wXO xa (ya 0) la (pa1 0) (qa1 0) ++ (wLO G la lo ++ (wSYc G ya o.2.1 o.2.2.1 o.2.2.2.1 o.2.2.2.2.1 o.2.2.2.2.2.1 yy.2.2.2.2.2.1 o.2.2.2.2.2.2.1 yy.2.2.2.2.2.2.2.1 o.2.2.2.2.2.2.2.1 ++ (wPLc G pa1 o.2.2.2.2.2.2.2.2.1.1 o.2.2.2.2.2.2.2.2.1.2.1 o.2.2.2.2.2.2.2.2.1.2.2.1 o.2.2.2.2.2.2.2.2.1.2.2.2.1 o.2.2.2.2.2.2.2.2.1.2.2.2.2.1 o.2.2.2.2.2.2.2.2.1.2.2.2.2.2.1 o.2.2.2.2.2.2.2.2.1.2.2.2.2.2.2.1 o.2.2.2.2.2.2.2.2.1.2.2.2.2.2.2.2.1 o.2.2.2.2.2.2.2.2.1.2.2.2.2.2.2.2.2 ++ (wPLc G qa1 o.2.2.2.2.2.2.2.2.2.1.1 o.2.2.2.2.2.2.2.2.2.1.2.1 o.2.2.2.2.2.2.2.2.2.1.2.2.1 o.2.2.2.2.2.2.2.2.2.1.2.2.2.1 o.2.2.2.2.2.2.2.2.2.1.2.2.2.2.1 o.2.2.2.2.2.2.2.2.2.1.2.2.2.2.2.1 o.2.2.2.2.2.2.2.2.2.1.2.2.2.2.2.2.1 o.2.2.2.2.2.2.2.2.2.1.2.2.2.2.2.2.2.1 o.2.2.2.2.2.2.2.2.2.1.2.2.2.2.2.2.2.2 ++ (wOU G oa o.2.2.2.2.2.2.2.2.2.2)))))) o.1 := by
  obtain ⟨yy_0, yy_1, yy_2, yy_3, yy_4, yy_5, yy_6, yy_7, yy_8⟩ := yy
  obtain ⟨pp_0, pp_1, pp_2, pp_3, pp_4, pp_5, pp_6, pp_7, pp_8⟩ := pp
  obtain ⟨qq_0, qq_1, qq_2, qq_3, qq_4, qq_5, qq_6, qq_7, qq_8⟩ := qq
  refine xk_CL.of (cc := cL_aim) (maxL := 7) (ret := (some .int)) (by decide) rfl (Nat.le_of_ble_eq_true rfl) ?_
  intro pr9 en9 s mm9 bl9 meth9 cd9 A ls H locs hx hb hr hml hts hown hlk hA hP hK hD hNE hS hl hXB hSR hZX hxt
  have hown : s.vm.findClass RL = some mm9.cls := hown
  have hl : lv_has ls 7 [(0, .ref xa), (1, .int i1), (2, .int i2), (3, .int i3), (4, .int i4), (5, .ref oa)] := hl
  have hP : va_P G.1 vwCl (wXO xa (ya 0) la (pa 0) (qa 0) ++ (wLO G la lo ++ (wSYc G ya yy_0 yy_1 yy_2 yy_3 yy_4 yy_5 yy_6 yy_7 yy_8 ++ (wPLc G pa pp_0 pp_1 pp_2 pp_3 pp_4 pp_5 pp_6 pp_7 pp_8 ++ (wPLc G qa qq_0 qq_1 qq_2 qq_3 qq_4 qq_5 qq_6 qq_7 qq_8 ++ (wOU G oa ou)))))) H := hP
  have hD : va_D A (wXO xa (ya 0) la (pa 0) (qa 0) ++ (wLO G la lo ++ (wSYc G ya yy_0 yy_1 yy_2 yy_3 yy_4 yy_5 yy_6 yy_7 yy_8 ++ (wPLc G pa pp_0 pp_1 pp_2 pp_3 pp_4 pp_5 pp_6 pp_7 pp_8 ++ (wPLc G qa qq_0 qq_1 qq_2 qq_3 qq_4 qq_5 qq_6 qq_7 qq_8 ++ (wOU G oa ou)))))) := hD
  have h := (f_L_aim_e lo yy_0 yy_1 yy_2 yy_3 yy_4 yy_5 yy_6 yy_7 yy_8 pp_0 pp_1 pp_2 pp_3 pp_4 pp_5 pp_6 pp_7 pp_8 qq_0 qq_1 qq_2 qq_3 qq_4 qq_5 qq_6 qq_7 qq_8 ou i1 i2 i3 i4).symm.trans h
  refine lv_aload hx hb dL_aim_0 (lv_at hl 5 rfl) ?_
  refine lv_iconst (v := (0 : Int32)) hx hb dL_aim_2 (by decide) ?_
  refine lv_aload_n hx hb dL_aim_3 rfl (lv_at hl 0 rfl) ?_
  refine lv_iload_n hx hb dL_aim_4 rfl (lv_at hl 1 rfl) ?_
  refine lv_iload_n hx hb dL_aim_5 rfl (lv_at hl 2 rfl) ?_
  refine lv_iload_n hx hb dL_aim_6 rfl (lv_at hl 3 rfl) ?_
  refine lv_iload hx hb dL_aim_7 (lv_at hl 4 rfl) ?_
  obtain ⟨o1, ho1, h⟩ := sp_b h
  refine xk_cx (vx_runV (As := [.int i1, .int i2, .int i3, .int i4]) (rest := [.int (0 : Int32), .ref oa]) ⟨hx, hb, hml, hown, hts⟩ (c_X2_aim l hl9 G xa la ya pa qa lo (yy_0, yy_1, yy_2, yy_3, yy_4, yy_5, yy_6, yy_7, yy_8) (pp_0, pp_1, pp_2, pp_3, pp_4, pp_5, pp_6, pp_7, pp_8) (qq_0, qq_1, qq_2, qq_3, qq_4, qq_5, qq_6, qq_7, qq_8) i1 i2 i3 i4 o1 ho1 H.size) (cwV 4 hts gL_aim_X2_aim rfl rfl rfl (by decide +kernel) ⟨Nat.le_of_ble_eq_true rfl, Nat.le_of_ble_eq_true rfl⟩) (xk_preVX hK hNE hXB hSR hZX hS (va_free (wc := (wXO xa (ya 0) la (pa 0) (qa 0) ++ (wLO G la lo ++ (wSYc G ya yy_0 yy_1 yy_2 yy_3 yy_4 yy_5 yy_6 yy_7 yy_8 ++ (wPLc G pa pp_0 pp_1 pp_2 pp_3 pp_4 pp_5 pp_6 pp_7 pp_8 ++ (wPLc G qa qq_0 qq_1 qq_2 qq_3 qq_4 qq_5 qq_6 qq_7 qq_8)))))) hD hS hA [0, 1, 2, 3, 4, 5, 6, 7, 8, 9, 10, 11, 12, 13, 14, 15, 16, 17, 18, 19, 20, 21, 22, 23, 24] rfl) (hP.sub (ws' := (wXO xa (ya 0) la (pa 0) (qa 0) ++ (wLO G la lo ++ (wSYc G ya yy_0 yy_1 yy_2 yy_3 yy_4 yy_5 yy_6 yy_7 yy_8 ++ (wPLc G pa pp_0 pp_1 pp_2 pp_3 pp_4 pp_5 pp_6 pp_7 pp_8 ++ (wPLc G qa qq_0 qq_1 qq_2 qq_3 qq_4 qq_5 qq_6 qq_7 qq_8)))))) [0, 1, 2, 3, 4, 5, 6, 7, 8, 9, 10, 11, 12, 13, 14, 15, 16, 17, 18, 19, 20, 21, 22, 23, 24] rfl) (hD.sub (ws' := (wXO xa (ya 0) la (pa 0) (qa 0) ++ (wLO G la lo ++ (wSYc G ya yy_0 yy_1 yy_2 yy_3 yy_4 yy_5 yy_6 yy_7 yy_8 ++ (wPLc G pa pp_0 pp_1 pp_2 pp_3 pp_4 pp_5 pp_6 pp_7 pp_8 ++ (wPLc G qa qq_0 qq_1 qq_2 qq_3 qq_4 qq_5 qq_6 qq_7 qq_8)))))) [0, 1, 2, 3, 4, 5, 6, 7, 8, 9, 10, 11, 12, 13, 14, 15, 16, 17, 18, 19, 20, 21, 22, 23, 24] (by decide) rfl) (ci := 2) rfl rfl) rfl rfl hl.1 rfl (lv_room (Nat.le_of_ble_eq_true rfl)) dL_aim_9 ⟨Nat.le_of_ble_eq_true rfl, Nat.le_of_ble_eq_true rfl⟩) hP hD hS hA [0, 1, 2, 3, 4, 5, 6, 7, 8, 9, 10, 11, 12, 13, 14, 15, 16, 17, 18, 19, 20, 21, 22, 23, 24] [25] [1, 2, 3, 4, 5, 6, 7, 8, 9, 10, 11, 19, 20, 21, 22, 23, 24, 25, 12, 13, 14, 15, 16, 17, 18, 0] [1, 2, 3, 4, 5, 6, 7, 8, 9, 10, 11, 12, 13, 14, 15, 16, 17, 18, 19, 20, 21, 22, 23, 24, 25, 0] rfl rfl (by decide) (by decide) rfl (by decide) rfl (by decide) (fun ce9 q9 H locs hk0 hP hD hS hce hcv hcl => ?_) (fun H locs hk0 hP hD hS => ?_)
  · have h := sp_f hk0 h
    by_cases e1 : o1.1 = 1
    · have h := sp_t e1 h
      rw [e1] at hcl
      refine vx_catch (E := "java/lang/IllegalArgumentException") (name := "java/lang/IllegalArgumentException") hown [] (⟨0, 14, 17, 13⟩ : ExceptionTableEntry) [(⟨0, 14, 21, 15⟩ : ExceptionTableEntry)] hxt (fun z hz => by cases hz) (by decide) (by decide) (hts (.classLink RL 13 "java/lang/IllegalArgumentException") (by decide +kernel)) (va_Nw.use rfl (hXB.2.2.2.1)) hce hcv hcl ?_
      refine lv_astore (lv' := [(6, .ref q9), (0, .ref xa), (1, .int i1), (2, .int i2), (3, .int i3), (4, .int i4), (5, .ref oa)]) hx hb dL_aim_17 hl (by decide) rfl (fun ls hl => ?_)
      refine lv_iconst (v := (1 : Int32)) hx hb dL_aim_19 (by decide) ?_
      obtain rfl := sp_s h
      obtain ⟨h8, h9⟩ := hpq.2 (show ¬ (1 : Int32) = 0 by decide)
      subst pa1
      subst qa1
      exact xk_reL hx hb hr hlk hP hD hS rfl dL_aim_20 (Nat.le_refl _) (Nat.le_refl _)
    · have h := sp_f e1 h
      by_cases e2 : o1.1 = 2
      · have h := sp_t e2 h
        rw [e2] at hcl
        refine vx_catch (E := "java/lang/IllegalStateException") (name := "java/lang/IllegalStateException") hown [(⟨0, 14, 17, 13⟩ : ExceptionTableEntry)] (⟨0, 14, 21, 15⟩ : ExceptionTableEntry) [] hxt (by intro z hz; simp only [List.mem_cons, List.not_mem_nil, or_false] at hz; rcases hz with rfl; exact Or.inr ⟨by decide, "java/lang/IllegalArgumentException", hts (.classLink RL 13 "java/lang/IllegalArgumentException") (by decide +kernel), hXB.2.2.2.2.2.2.2.1⟩) (by decide) (by decide) (hts (.classLink RL 15 "java/lang/IllegalStateException") (by decide +kernel)) (va_Nw.use rfl (hXB.2.2.2.2.1)) hce hcv hcl ?_
        refine lv_astore (lv' := [(6, .ref q9), (0, .ref xa), (1, .int i1), (2, .int i2), (3, .int i3), (4, .int i4), (5, .ref oa)]) hx hb dL_aim_21 hl (by decide) rfl (fun ls hl => ?_)
        refine lv_iconst (v := (2 : Int32)) hx hb dL_aim_23 (by decide) ?_
        obtain rfl := sp_s h
        obtain ⟨h8, h9⟩ := hpq.2 (show ¬ (2 : Int32) = 0 by decide)
        subst pa1
        subst qa1
        exact xk_reL hx hb hr hlk hP hD hS rfl dL_aim_24 (Nat.le_refl _) (Nat.le_refl _)
      · have h := sp_f e2 h
        exact sp_n h
  · have h := sp_t hk0 h
    have hP : va_P G.1 vwCl (wXO xa (ya 0) la (qa 0) (pa 0) ++ (wLO G la lo ++ (wSYc G ya o1.2.2.1 o1.2.2.2.1 o1.2.2.2.2.1 o1.2.2.2.2.2.1 o1.2.2.2.2.2.2.1 yy_5 o1.2.2.2.2.2.2.2.1 yy_7 o1.2.2.2.2.2.2.2.2.1 ++ (wPLc G pa o1.2.2.2.2.2.2.2.2.2.2.1 o1.2.2.2.2.2.2.2.2.2.2.2.1 o1.2.2.2.2.2.2.2.2.2.2.2.2.1 o1.2.2.2.2.2.2.2.2.2.2.2.2.2.1 o1.2.2.2.2.2.2.2.2.2.2.2.2.2.2.1 o1.2.2.2.2.2.2.2.2.2.2.2.2.2.2.2.1 o1.2.2.2.2.2.2.2.2.2.2.2.2.2.2.2.2.1 o1.2.2.2.2.2.2.2.2.2.2.2.2.2.2.2.2.2.1 o1.2.2.2.2.2.2.2.2.2.2.2.2.2.2.2.2.2.2 ++ (wPLc G qa o1.2.2.2.2.2.2.2.2.2.1.1 o1.2.2.2.2.2.2.2.2.2.1.2.1 o1.2.2.2.2.2.2.2.2.2.1.2.2.1 o1.2.2.2.2.2.2.2.2.2.1.2.2.2.1 o1.2.2.2.2.2.2.2.2.2.1.2.2.2.2.1 o1.2.2.2.2.2.2.2.2.2.1.2.2.2.2.2.1 o1.2.2.2.2.2.2.2.2.2.1.2.2.2.2.2.2.1 o1.2.2.2.2.2.2.2.2.2.1.2.2.2.2.2.2.2.1 o1.2.2.2.2.2.2.2.2.2.1.2.2.2.2.2.2.2.2 ++ (wOU G oa ou)))))) H := hP
    have hD : va_D A (wXO xa (ya 0) la (qa 0) (pa 0) ++ (wLO G la lo ++ (wSYc G ya o1.2.2.1 o1.2.2.2.1 o1.2.2.2.2.1 o1.2.2.2.2.2.1 o1.2.2.2.2.2.2.1 yy_5 o1.2.2.2.2.2.2.2.1 yy_7 o1.2.2.2.2.2.2.2.2.1 ++ (wPLc G pa o1.2.2.2.2.2.2.2.2.2.2.1 o1.2.2.2.2.2.2.2.2.2.2.2.1 o1.2.2.2.2.2.2.2.2.2.2.2.2.1 o1.2.2.2.2.2.2.2.2.2.2.2.2.2.1 o1.2.2.2.2.2.2.2.2.2.2.2.2.2.2.1 o1.2.2.2.2.2.2.2.2.2.2.2.2.2.2.2.1 o1.2.2.2.2.2.2.2.2.2.2.2.2.2.2.2.2.1 o1.2.2.2.2.2.2.2.2.2.2.2.2.2.2.2.2.2.1 o1.2.2.2.2.2.2.2.2.2.2.2.2.2.2.2.2.2.2 ++ (wPLc G qa o1.2.2.2.2.2.2.2.2.2.1.1 o1.2.2.2.2.2.2.2.2.2.1.2.1 o1.2.2.2.2.2.2.2.2.2.1.2.2.1 o1.2.2.2.2.2.2.2.2.2.1.2.2.2.1 o1.2.2.2.2.2.2.2.2.2.1.2.2.2.2.1 o1.2.2.2.2.2.2.2.2.2.1.2.2.2.2.2.1 o1.2.2.2.2.2.2.2.2.2.1.2.2.2.2.2.2.1 o1.2.2.2.2.2.2.2.2.2.1.2.2.2.2.2.2.2.1 o1.2.2.2.2.2.2.2.2.2.1.2.2.2.2.2.2.2.2 ++ (wOU G oa ou)))))) := hD
    refine lv_i2l (v := o1.2.1.toInt64) hx hb dL_aim_12 rfl ?_
    refine va_last hx hb hK hP hD hS 25 2 rfl rfl (xk_in0_1) dL_aim_13 (fun H locs hP hD hS => ?_)
    have hP : va_P G.1 vwCl (wXO xa (ya 0) la (qa 0) (pa 0) ++ (wLO G la lo ++ (wSYc G ya o1.2.2.1 o1.2.2.2.1 o1.2.2.2.2.1 o1.2.2.2.2.2.1 o1.2.2.2.2.2.2.1 yy_5 o1.2.2.2.2.2.2.2.1 yy_7 o1.2.2.2.2.2.2.2.2.1 ++ (wPLc G pa o1.2.2.2.2.2.2.2.2.2.2.1 o1.2.2.2.2.2.2.2.2.2.2.2.1 o1.2.2.2.2.2.2.2.2.2.2.2.2.1 o1.2.2.2.2.2.2.2.2.2.2.2.2.2.1 o1.2.2.2.2.2.2.2.2.2.2.2.2.2.2.1 o1.2.2.2.2.2.2.2.2.2.2.2.2.2.2.2.1 o1.2.2.2.2.2.2.2.2.2.2.2.2.2.2.2.2.1 o1.2.2.2.2.2.2.2.2.2.2.2.2.2.2.2.2.2.1 o1.2.2.2.2.2.2.2.2.2.2.2.2.2.2.2.2.2.2 ++ (wPLc G qa o1.2.2.2.2.2.2.2.2.2.1.1 o1.2.2.2.2.2.2.2.2.2.1.2.1 o1.2.2.2.2.2.2.2.2.2.1.2.2.1 o1.2.2.2.2.2.2.2.2.2.1.2.2.2.1 o1.2.2.2.2.2.2.2.2.2.1.2.2.2.2.1 o1.2.2.2.2.2.2.2.2.2.1.2.2.2.2.2.1 o1.2.2.2.2.2.2.2.2.2.1.2.2.2.2.2.2.1 o1.2.2.2.2.2.2.2.2.2.1.2.2.2.2.2.2.2.1 o1.2.2.2.2.2.2.2.2.2.1.2.2.2.2.2.2.2.2 ++ (wOU G oa (vp_updL ou (0 : Int32).toNatClampNeg o1.2.1.toInt64))))))) H := hP
    have hD : va_D A (wXO xa (ya 0) la (qa 0) (pa 0) ++ (wLO G la lo ++ (wSYc G ya o1.2.2.1 o1.2.2.2.1 o1.2.2.2.2.1 o1.2.2.2.2.2.1 o1.2.2.2.2.2.2.1 yy_5 o1.2.2.2.2.2.2.2.1 yy_7 o1.2.2.2.2.2.2.2.2.1 ++ (wPLc G pa o1.2.2.2.2.2.2.2.2.2.2.1 o1.2.2.2.2.2.2.2.2.2.2.2.1 o1.2.2.2.2.2.2.2.2.2.2.2.2.1 o1.2.2.2.2.2.2.2.2.2.2.2.2.2.1 o1.2.2.2.2.2.2.2.2.2.2.2.2.2.2.1 o1.2.2.2.2.2.2.2.2.2.2.2.2.2.2.2.1 o1.2.2.2.2.2.2.2.2.2.2.2.2.2.2.2.2.1 o1.2.2.2.2.2.2.2.2.2.2.2.2.2.2.2.2.2.1 o1.2.2.2.2.2.2.2.2.2.2.2.2.2.2.2.2.2.2 ++ (wPLc G qa o1.2.2.2.2.2.2.2.2.2.1.1 o1.2.2.2.2.2.2.2.2.2.1.2.1 o1.2.2.2.2.2.2.2.2.2.1.2.2.1 o1.2.2.2.2.2.2.2.2.2.1.2.2.2.1 o1.2.2.2.2.2.2.2.2.2.1.2.2.2.2.1 o1.2.2.2.2.2.2.2.2.2.1.2.2.2.2.2.1 o1.2.2.2.2.2.2.2.2.2.1.2.2.2.2.2.2.1 o1.2.2.2.2.2.2.2.2.2.1.2.2.2.2.2.2.2.1 o1.2.2.2.2.2.2.2.2.2.1.2.2.2.2.2.2.2.2 ++ (wOU G oa (vp_updL ou (0 : Int32).toNatClampNeg o1.2.1.toInt64))))))) := hD
    refine lv_goto (tgt := 25) hx hb dL_aim_14 (by decide) ?_
    refine lv_iconst (v := (0 : Int32)) hx hb dL_aim_25 (by decide) ?_
    obtain rfl := sp_s h
    obtain ⟨h8, h9⟩ := hpq.1 rfl
    subst pa1
    subst qa1
    exact xk_reL hx hb hr hlk (hP.sub (ws' := (wXO xa (ya 0) la (qa 0) (pa 0) ++ (wLO G la lo ++ (wSYc G ya o1.2.2.1 o1.2.2.2.1 o1.2.2.2.2.1 o1.2.2.2.2.2.1 o1.2.2.2.2.2.2.1 yy_5 o1.2.2.2.2.2.2.2.1 yy_7 o1.2.2.2.2.2.2.2.2.1 ++ (wPLc G qa o1.2.2.2.2.2.2.2.2.2.1.1 o1.2.2.2.2.2.2.2.2.2.1.2.1 o1.2.2.2.2.2.2.2.2.2.1.2.2.1 o1.2.2.2.2.2.2.2.2.2.1.2.2.2.1 o1.2.2.2.2.2.2.2.2.2.1.2.2.2.2.1 o1.2.2.2.2.2.2.2.2.2.1.2.2.2.2.2.1 o1.2.2.2.2.2.2.2.2.2.1.2.2.2.2.2.2.1 o1.2.2.2.2.2.2.2.2.2.1.2.2.2.2.2.2.2.1 o1.2.2.2.2.2.2.2.2.2.1.2.2.2.2.2.2.2.2 ++ (wPLc G pa o1.2.2.2.2.2.2.2.2.2.2.1 o1.2.2.2.2.2.2.2.2.2.2.2.1 o1.2.2.2.2.2.2.2.2.2.2.2.2.1 o1.2.2.2.2.2.2.2.2.2.2.2.2.2.1 o1.2.2.2.2.2.2.2.2.2.2.2.2.2.2.1 o1.2.2.2.2.2.2.2.2.2.2.2.2.2.2.2.1 o1.2.2.2.2.2.2.2.2.2.2.2.2.2.2.2.2.1 o1.2.2.2.2.2.2.2.2.2.2.2.2.2.2.2.2.2.1 o1.2.2.2.2.2.2.2.2.2.2.2.2.2.2.2.2.2.2 ++ (wOU G oa (vp_updL ou (0 : Int32).toNatClampNeg o1.2.1.toInt64)))))))) [0, 1, 2, 3, 4, 5, 6, 7, 8, 9, 10, 18, 19, 20, 21, 22, 23, 24, 11, 12, 13, 14, 15, 16, 17, 25] rfl) (hD.sub (ws' := (wXO xa (ya 0) la (qa 0) (pa 0) ++ (wLO G la lo ++ (wSYc G ya o1.2.2.1 o1.2.2.2.1 o1.2.2.2.2.1 o1.2.2.2.2.2.1 o1.2.2.2.2.2.2.1 yy_5 o1.2.2.2.2.2.2.2.1 yy_7 o1.2.2.2.2.2.2.2.2.1 ++ (wPLc G qa o1.2.2.2.2.2.2.2.2.2.1.1 o1.2.2.2.2.2.2.2.2.2.1.2.1 o1.2.2.2.2.2.2.2.2.2.1.2.2.1 o1.2.2.2.2.2.2.2.2.2.1.2.2.2.1 o1.2.2.2.2.2.2.2.2.2.1.2.2.2.2.1 o1.2.2.2.2.2.2.2.2.2.1.2.2.2.2.2.1 o1.2.2.2.2.2.2.2.2.2.1.2.2.2.2.2.2.1 o1.2.2.2.2.2.2.2.2.2.1.2.2.2.2.2.2.2.1 o1.2.2.2.2.2.2.2.2.2.1.2.2.2.2.2.2.2.2 ++ (wPLc G pa o1.2.2.2.2.2.2.2.2.2.2.1 o1.2.2.2.2.2.2.2.2.2.2.2.1 o1.2.2.2.2.2.2.2.2.2.2.2.2.1 o1.2.2.2.2.2.2.2.2.2.2.2.2.2.1 o1.2.2.2.2.2.2.2.2.2.2.2.2.2.2.1 o1.2.2.2.2.2.2.2.2.2.2.2.2.2.2.2.1 o1.2.2.2.2.2.2.2.2.2.2.2.2.2.2.2.2.1 o1.2.2.2.2.2.2.2.2.2.2.2.2.2.2.2.2.2.1 o1.2.2.2.2.2.2.2.2.2.2.2.2.2.2.2.2.2.2 ++ (wOU G oa (vp_updL ou (0 : Int32).toNatClampNeg o1.2.1.toInt64)))))))) [0, 1, 2, 3, 4, 5, 6, 7, 8, 9, 10, 18, 19, 20, 21, 22, 23, 24, 11, 12, 13, 14, 15, 16, 17, 25] (by decide) rfl) hS rfl dL_aim_26 (Nat.le_refl _) (Nat.le_refl _)
def f_L_need (lo : xF) (yy : xSY) (pp : xPL) (qq : xPL) (ou : (Nat → Int64)) (i1 : Int32) (i2 : Int32) : Option (Int32 × xF × xF × xPL × xPL × (Nat → Int64)) :=
  Option.bind (f_X2_need lo (yy.1, yy.2.1, yy.2.2.1, yy.2.2.2.1, yy.2.2.2.2.1, yy.2.2.2.2.2.1, yy.2.2.2.2.2.2.1, yy.2.2.2.2.2.2.2.1, yy.2.2.2.2.2.2.2.2) (pp.1, pp.2.1, pp.2.2.1, pp.2.2.2.1, pp.2.2.2.2.1, pp.2.2.2.2.2.1, pp.2.2.2.2.2.2.1, pp.2.2.2.2.2.2.2.1, pp.2.2.2.2.2.2.2.2) (qq.1, qq.2.1, qq.2.2.1, qq.2.2.2.1, qq.2.2.2.2.1, qq.2.2.2.2.2.1, qq.2.2.2.2.2.2.1, qq.2.2.2.2.2.2.2.1, qq.2.2.2.2.2.2.2.2) i1 i2) fun (o1 : Nat × Int32 × xF × xF × xPL × xPL) =>
  if o1.1 = 0 then
    some ((0 : Int32), o1.2.2.1, o1.2.2.2.1, o1.2.2.2.2.1, o1.2.2.2.2.2, (vp_updL ou (0 : Int32).toNatClampNeg o1.2.1.toInt64))
  else
    if o1.1 = 3 then
      some ((1 : Int32), yy.2.2.2.2.2.2.2.1, yy.2.2.2.2.2.2.2.2, (pp.1, pp.2.1, pp.2.2.1, pp.2.2.2.1, pp.2.2.2.2.1, pp.2.2.2.2.2.1, pp.2.2.2.2.2.2.1, pp.2.2.2.2.2.2.2.1, pp.2.2.2.2.2.2.2.2), (qq.1, qq.2.1, qq.2.2.1, qq.2.2.2.1, qq.2.2.2.2.1, qq.2.2.2.2.2.1, qq.2.2.2.2.2.2.1, qq.2.2.2.2.2.2.2.1, qq.2.2.2.2.2.2.2.2), ou)
    else
      if o1.1 = 1 then
        some ((2 : Int32), yy.2.2.2.2.2.2.2.1, yy.2.2.2.2.2.2.2.2, (pp.1, pp.2.1, pp.2.2.1, pp.2.2.2.1, pp.2.2.2.2.1, pp.2.2.2.2.2.1, pp.2.2.2.2.2.2.1, pp.2.2.2.2.2.2.2.1, pp.2.2.2.2.2.2.2.2), (qq.1, qq.2.1, qq.2.2.1, qq.2.2.2.1, qq.2.2.2.2.1, qq.2.2.2.2.2.1, qq.2.2.2.2.2.2.1, qq.2.2.2.2.2.2.2.1, qq.2.2.2.2.2.2.2.2), ou)
      else
        if o1.1 = 2 then
          some ((3 : Int32), yy.2.2.2.2.2.2.2.1, yy.2.2.2.2.2.2.2.2, (pp.1, pp.2.1, pp.2.2.1, pp.2.2.2.1, pp.2.2.2.2.1, pp.2.2.2.2.2.1, pp.2.2.2.2.2.2.1, pp.2.2.2.2.2.2.2.1, pp.2.2.2.2.2.2.2.2), (qq.1, qq.2.1, qq.2.2.1, qq.2.2.2.1, qq.2.2.2.2.1, qq.2.2.2.2.2.1, qq.2.2.2.2.2.2.1, qq.2.2.2.2.2.2.2.1, qq.2.2.2.2.2.2.2.2), ou)
        else
          none
theorem f_L_need_e (lo : xF) (yy_0 : Int32) (yy_1 : xF) (yy_2 : xF) (yy_3 : xF) (yy_4 : xF) (yy_5 : xF) (yy_6 : xF) (yy_7 : xF) (yy_8 : xF) (pp_0 : xF) (pp_1 : xF) (pp_2 : xF) (pp_3 : xF) (pp_4 : xF) (pp_5 : xF) (pp_6 : Int32) (pp_7 : Int32) (pp_8 : Int32) (qq_0 : xF) (qq_1 : xF) (qq_2 : xF) (qq_3 : xF) (qq_4 : xF) (qq_5 : xF) (qq_6 : Int32) (qq_7 : Int32) (qq_8 : Int32) (ou : (Nat → Int64)) (i1 : Int32) (i2 : Int32) : f_L_need lo (yy_0, yy_1, yy_2, yy_3, yy_4, yy_5, yy_6, yy_7, yy_8) (pp_0, pp_1, pp_2, pp_3, pp_4, pp_5, pp_6, pp_7, pp_8) (qq_0, qq_1, qq_2, qq_3, qq_4, qq_5, qq_6, qq_7, qq_8) ou i1 i2 =
  Option.bind (f_X2_need lo (yy_0, yy_1, yy_2, yy_3, yy_4, yy_5, yy_6, yy_7, yy_8) (pp_0, pp_1, pp_2, pp_3, pp_4, pp_5, pp_6, pp_7, pp_8) (qq_0, qq_1, qq_2, qq_3, qq_4, qq_5, qq_6, qq_7, qq_8) i1 i2) fun (o1 : Nat × Int32 × xF × xF × xPL × xPL) =>
  if o1.1 = 0 then
    some ((0 : Int32), o1.2.2.1, o1.2.2.2.1, o1.2.2.2.2.1, o1.2.2.2.2.2, (vp_updL ou (0 : Int32).toNatClampNeg o1.2.1.toInt64))
  else
    if o1.1 = 3 then
      some ((1 : Int32), yy_7, yy_8, (pp_0, pp_1, pp_2, pp_3, pp_4, pp_5, pp_6, pp_7, pp_8), (qq_0, qq_1, qq_2, qq_3, qq_4, qq_5, qq_6, qq_7, qq_8), ou)
    else
      if o1.1 = 1 then
        some ((2 : Int32), yy_7, yy_8, (pp_0, pp_1, pp_2, pp_3, pp_4, pp_5, pp_6, pp_7, pp_8), (qq_0, qq_1, qq_2, qq_3, qq_4, qq_5, qq_6, qq_7, qq_8), ou)
      else
        if o1.1 = 2 then
          some ((3 : Int32), yy_7, yy_8, (pp_0, pp_1, pp_2, pp_3, pp_4, pp_5, pp_6, pp_7, pp_8), (qq_0, qq_1, qq_2, qq_3, qq_4, qq_5, qq_6, qq_7, qq_8), ou)
        else
          none := rfl
set_option maxHeartbeats 4000000 in
set_option maxRecDepth 100000 in
theorem c_L_need (l : Launch) (hl9 : l.stackTraces = false) (G : xG) (xa : Nat) (la : Nat) (ya : (Nat → Nat)) (pa : (Nat → Nat)) (qa : (Nat → Nat)) (oa : Nat) (lo : xF) (yy : xSY) (pp : xPL) (qq : xPL) (ou : (Nat → Int64)) (i1 : Int32) (i2 : Int32) (o : Int32 × xF × xF × xPL × xPL × (Nat → Int64)) (pa1 qa1 : Nat → Nat) (hpq : (o.1 = 0 → pa1 = qa ∧ qa1 = pa) ∧ (¬ o.1 = 0 → pa1 = pa ∧ qa1 = qa)) (h : f_L_need lo yy pp qq ou i1 i2 = some o) : xk_CL l yL_need wsL_need ({ frames := 7, cells := 1, slots := 6, locals := 161 } : Room) [.ref xa, .int i1, .int i2, .ref oa] G (wXO xa (ya 0) la (pa 0) (qa 0) ++ (wLO G la lo ++ (wSYc G ya yy.1 yy.2.1 yy.2.2.1 yy.2.2.2.1 yy.2.2.2.2.1 yy.2.2.2.2.2.1 yy.2.2.2.2.2.2.1 yy.2.2.2.2.2.2.2.1 yy.2.2.2.2.2.2.2.2 ++ (wPLc G pa pp.1 pp.2.1 pp.2.2.1 pp.2.2.2.1 pp.2.2.2.2.1 pp.2.2.2.2.2.1 pp.2.2.2.2.2.2.1 pp.2.2.2.2.2.2.2.1 pp.2.2.2.2.2.2.2.2 ++ (wPLc G qa qq.1 qq.2.1 qq.2.2.1 qq.2.2.2.1 qq.2.2.2.2.1 qq.2.2.2.2.2.1 qq.2.2.2.2.2.2.1 qq.2.2.2.2.2.2.2.1 qq.2.2.2.2.2.2.2.2 ++ (wOU G oa ou)))))) (wXO xa (ya 0) la (pa1 0) (qa1 0) ++ (wLO G la lo ++ (wSYc G ya yy.1 yy.2.1 yy.2.2.1 yy.2.2.2.1 yy.2.2.2.2.1 yy.2.2.2.2.2.1 yy.2.2.2.2.2.2.1 o.2.1 o.2.2.1 ++ (wPLc G pa1 o.2.2.2.1.1 o.2.2.2.1.2.1 o.2.2.2.1.2.2.1 o.2.2.2.1.2.2.2.1 o.2.2.2.1.2.2.2.2.1 o.2.2.2.1.2.2.2.2.2.1 o.2.2.2.1.2.2.2.2.2.2.1 o.2.2.2.1.2.2.2.2.2.2.2.1 o.2.2.2.1.2.2.2.2.2.2.2.2 ++ (wPLc G qa1 o.2.2.2.2.1.1 o.2.2.2.2.1.2.1 o.2.2.2.2.1.2.2.1 o.2.2.2.2.1.2.2.2.1 o.2.2.2.2.1.2.2.2.2.1 o.2.2.2.2.1.2.2.2.2.2.1 o.2.2.2.2.1.2.2.2.2.2.2.1 o.2.2.2.2.1.2.2.2.2.2.2.2.1 o.2.2.2.2.1.2.2.2.2.2.2.2.2 ++ (wOU G oa o.2.2.2.2.2)))))) o.1 := by
  obtain ⟨yy_0, yy_1, yy_2, yy_3, yy_4, yy_5, yy_6, yy_7, yy_8⟩ := yy
  obtain ⟨pp_0, pp_1, pp_2, pp_3, pp_4, pp_5, pp_6, pp_7, pp_8⟩ := pp
  obtain ⟨qq_0, qq_1, qq_2, qq_3, qq_4, qq_5, qq_6, qq_7, qq_8⟩ := qq
  refine xk_CL.of (cc := cL_need) (maxL := 5) (ret := (some .int)) (by decide) rfl (Nat.le_of_ble_eq_true rfl) ?_
  intro pr9 en9 s mm9 bl9 meth9 cd9 A ls H locs hx hb hr hml hts hown hlk hA hP hK hD hNE hS hl hXB hSR hZX hxt
  have hown : s.vm.findClass RL = some mm9.cls := hown
  have hl : lv_has ls 5 [(0, .ref xa), (1, .int i1), (2, .int i2), (3, .ref oa)] := hl
  have hP : va_P G.1 vwCl (wXO xa (ya 0) la (pa 0) (qa 0) ++ (wLO G la lo ++ (wSYc G ya yy_0 yy_1 yy_2 yy_3 yy_4 yy_5 yy_6 yy_7 yy_8 ++ (wPLc G pa pp_0 pp_1 pp_2 pp_3 pp_4 pp_5 pp_6 pp_7 pp_8 ++ (wPLc G qa qq_0 qq_1 qq_2 qq_3 qq_4 qq_5 qq_6 qq_7 qq_8 ++ (wOU G oa ou)))))) H := hP
  have hD : va_D A (wXO xa (ya 0) la (pa 0) (qa 0) ++ (wLO G la lo ++ (wSYc G ya yy_0 yy_1 yy_2 yy_3 yy_4 yy_5 yy_6 yy_7 yy_8 ++ (wPLc G pa pp_0 pp_1 pp_2 pp_3 pp_4 pp_5 pp_6 pp_7 pp_8 ++ (wPLc G qa qq_0 qq_1 qq_2 qq_3 qq_4 qq_5 qq_6 qq_7 qq_8 ++ (wOU G oa ou)))))) := hD
  have h := (f_L_need_e lo yy_0 yy_1 yy_2 yy_3 yy_4 yy_5 yy_6 yy_7 yy_8 pp_0 pp_1 pp_2 pp_3 pp_4 pp_5 pp_6 pp_7 pp_8 qq_0 qq_1 qq_2 qq_3 qq_4 qq_5 qq_6 qq_7 qq_8 ou i1 i2).symm.trans h
  refine lv_aload_n hx hb dL_need_0 rfl (lv_at hl 3 rfl) ?_
  refine lv_iconst (v := (0 : Int32)) hx hb dL_need_1 (by decide) ?_
  refine lv_aload_n hx hb dL_need_2 rfl (lv_at hl 0 rfl) ?_
  refine lv_iload_n hx hb dL_need_3 rfl (lv_at hl 1 rfl) ?_
  refine lv_iload_n hx hb dL_need_4 rfl (lv_at hl 2 rfl) ?_
  obtain ⟨o1, ho1, h⟩ := sp_b h
  refine xk_cx (vx_runV (As := [.int i1, .int i2]) (rest := [.int (0 : Int32), .ref oa]) ⟨hx, hb, hml, hown, hts⟩ (c_X2_need l hl9 G xa la ya pa qa lo (yy_0, yy_1, yy_2, yy_3, yy_4, yy_5, yy_6, yy_7, yy_8) (pp_0, pp_1, pp_2, pp_3, pp_4, pp_5, pp_6, pp_7, pp_8) (qq_0, qq_1, qq_2, qq_3, qq_4, qq_5, qq_6, qq_7, qq_8) i1 i2 o1 ho1 H.size) (cwV 2 hts gL_need_X2_need rfl rfl rfl (by decide +kernel) ⟨Nat.le_of_ble_eq_true rfl, Nat.le_of_ble_eq_true rfl⟩) (xk_preVX hK hNE hXB hSR hZX hS (va_free (wc := (wXO xa (ya 0) la (pa 0) (qa 0) ++ (wLO G la lo ++ (wSYc G ya yy_0 yy_1 yy_2 yy_3 yy_4 yy_5 yy_6 yy_7 yy_8 ++ (wPLc G pa pp_0 pp_1 pp_2 pp_3 pp_4 pp_5 pp_6 pp_7 pp_8 ++ (wPLc G qa qq_0 qq_1 qq_2 qq_3 qq_4 qq_5 qq_6 qq_7 qq_8)))))) hD hS hA [0, 1, 2, 3, 4, 5, 6, 7, 8, 9, 10, 11, 12, 13, 14, 15, 16, 17, 18, 19, 20, 21, 22, 23, 24] rfl) (hP.sub (ws' := (wXO xa (ya 0) la (pa 0) (qa 0) ++ (wLO G la lo ++ (wSYc G ya yy_0 yy_1 yy_2 yy_3 yy_4 yy_5 yy_6 yy_7 yy_8 ++ (wPLc G pa pp_0 pp_1 pp_2 pp_3 pp_4 pp_5 pp_6 pp_7 pp_8 ++ (wPLc G qa qq_0 qq_1 qq_2 qq_3 qq_4 qq_5 qq_6 qq_7 qq_8)))))) [0, 1, 2, 3, 4, 5, 6, 7, 8, 9, 10, 11, 12, 13, 14, 15, 16, 17, 18, 19, 20, 21, 22, 23, 24] rfl) (hD.sub (ws' := (wXO xa (ya 0) la (pa 0) (qa 0) ++ (wLO G la lo ++ (wSYc G ya yy_0 yy_1 yy_2 yy_3 yy_4 yy_5 yy_6 yy_7 yy_8 ++ (wPLc G pa pp_0 pp_1 pp_2 pp_3 pp_4 pp_5 pp_6 pp_7 pp_8 ++ (wPLc G qa qq_0 qq_1 qq_2 qq_3 qq_4 qq_5 qq_6 qq_7 qq_8)))))) [0, 1, 2, 3, 4, 5, 6, 7, 8, 9, 10, 11, 12, 13, 14, 15, 16, 17, 18, 19, 20, 21, 22, 23, 24] (by decide) rfl) (ci := 2) rfl rfl) rfl rfl hl.1 rfl (lv_room (Nat.le_of_ble_eq_true rfl)) dL_need_5 ⟨Nat.le_of_ble_eq_true rfl, Nat.le_of_ble_eq_true rfl⟩) hP hD hS hA [0, 1, 2, 3, 4, 5, 6, 7, 8, 9, 10, 11, 12, 13, 14, 15, 16, 17, 18, 19, 20, 21, 22, 23, 24] [25] [1, 2, 3, 4, 5, 6, 7, 8, 9, 10, 11, 19, 20, 21, 22, 23, 24, 25, 12, 13, 14, 15, 16, 17, 18, 0] [1, 2, 3, 4, 5, 6, 7, 8, 9, 10, 11, 12, 13, 14, 15, 16, 17, 18, 19, 20, 21, 22, 23, 24, 25, 0] rfl rfl (by decide) (by decide) rfl (by decide) rfl (by decide) (fun ce9 q9 H locs hk0 hP hD hS hce hcv hcl => ?_) (fun H locs hk0 hP hD hS => ?_)
  · have h := sp_f hk0 h
    by_cases e3 : o1.1 = 3
    · have h := sp_t e3 h
      rw [e3] at hcl
      refine vx_catch (E := "java/lang/IndexOutOfBoundsException") (name := "java/lang/IndexOutOfBoundsException") hown [] (⟨0, 10, 13, 21⟩ : ExceptionTableEntry) [(⟨0, 10, 17, 13⟩ : ExceptionTableEntry), (⟨0, 10, 21, 15⟩ : ExceptionTableEntry)] hxt (fun z hz => by cases hz) (by decide) (by decide) (hts (.classLink RL 21 "java/lang/IndexOutOfBoundsException") (by decide +kernel)) (va_Nw.use rfl (hXB.2.2.2.2.2.1)) hce hcv hcl ?_
      refine lv_astore (lv' := [(4, .ref q9), (0, .ref xa), (1, .int i1), (2, .int i2), (3, .ref oa)]) hx hb dL_need_13 hl (by decide) rfl (fun ls hl => ?_)
      refine lv_iconst (v := (1 : Int32)) hx hb dL_need_15 (by decide) ?_
      obtain rfl := sp_s h
      obtain ⟨h8, h9⟩ := hpq.2 (show ¬ (1 : Int32) = 0 by decide)
      subst pa1
      subst qa1
      exact xk_reL hx hb hr hlk hP hD hS rfl dL_need_16 (Nat.le_refl _) (Nat.le_refl _)
    · have h := sp_f e3 h
      by_cases e1 : o1.1 = 1
      · have h := sp_t e1 h
        rw [e1] at hcl
        refine vx_catch (E := "java/lang/IllegalArgumentException") (name := "java/lang/IllegalArgumentException") hown [(⟨0, 10, 13, 21⟩ : ExceptionTableEntry)] (⟨0, 10, 17, 13⟩ : ExceptionTableEntry) [(⟨0, 10, 21, 15⟩ : ExceptionTableEntry)] hxt (by intro z hz; simp only [List.mem_cons, List.not_mem_nil, or_false] at hz; rcases hz with rfl; exact Or.inr ⟨by decide, "java/lang/IndexOutOfBoundsException", hts (.classLink RL 21 "java/lang/IndexOutOfBoundsException") (by decide +kernel), hXB.2.2.2.2.2.2.2.2.1⟩) (by decide) (by decide) (hts (.classLink RL 13 "java/lang/IllegalArgumentException") (by decide +kernel)) (va_Nw.use rfl (hXB.2.2.2.1)) hce hcv hcl ?_
        refine lv_astore (lv' := [(4, .ref q9), (0, .ref xa), (1, .int i1), (2, .int i2), (3, .ref oa)]) hx hb dL_need_17 hl (by decide) rfl (fun ls hl => ?_)
        refine lv_iconst (v := (2 : Int32)) hx hb dL_need_19 (by decide) ?_
        obtain rfl := sp_s h
        obtain ⟨h8, h9⟩ := hpq.2 (show ¬ (2 : Int32) = 0 by decide)
        subst pa1
        subst qa1
        exact xk_reL hx hb hr hlk hP hD hS rfl dL_need_20 (Nat.le_refl _) (Nat.le_refl _)
      · have h := sp_f e1 h
        by_cases e2 : o1.1 = 2
        · have h := sp_t e2 h
          rw [e2] at hcl
          refine vx_catch (E := "java/lang/IllegalStateException") (name := "java/lang/IllegalStateException") hown [(⟨0, 10, 13, 21⟩ : ExceptionTableEntry), (⟨0, 10, 17, 13⟩ : ExceptionTableEntry)] (⟨0, 10, 21, 15⟩ : ExceptionTableEntry) [] hxt (by intro z hz; simp only [List.mem_cons, List.not_mem_nil, or_false] at hz; rcases hz with rfl | rfl <;> first | (exact Or.inr ⟨by decide, "java/lang/IndexOutOfBoundsException", hts (.classLink RL 21 "java/lang/IndexOutOfBoundsException") (by decide +kernel), hXB.2.2.2.2.2.2.2.2.2.1⟩) | (exact Or.inr ⟨by decide, "java/lang/IllegalArgumentException", hts (.classLink RL 13 "java/lang/IllegalArgumentException") (by decide +kernel), hXB.2.2.2.2.2.2.2.1⟩)) (by decide) (by decide) (hts (.classLink RL 15 "java/lang/IllegalStateException") (by decide +kernel)) (va_Nw.use rfl (hXB.2.2.2.2.1)) hce hcv hcl ?_
          refine lv_astore (lv' := [(4, .ref q9), (0, .ref xa), (1, .int i1), (2, .int i2), (3, .ref oa)]) hx hb dL_need_21 hl (by decide) rfl (fun ls hl => ?_)
          refine lv_iconst (v := (3 : Int32)) hx hb dL_need_23 (by decide) ?_
          obtain rfl := sp_s h
          obtain ⟨h8, h9⟩ := hpq.2 (show ¬ (3 : Int32) = 0 by decide)
          subst pa1
          subst qa1
          exact xk_reL hx hb hr hlk hP hD hS rfl dL_need_24 (Nat.le_refl _) (Nat.le_refl _)
        · have h := sp_f e2 h
          exact sp_n h
  · have h := sp_t hk0 h
    have hP : va_P G.1 vwCl (wXO xa (ya 0) la (qa 0) (pa 0) ++ (wLO G la lo ++ (wSYc G ya yy_0 yy_1 yy_2 yy_3 yy_4 yy_5 yy_6 o1.2.2.1 o1.2.2.2.1 ++ (wPLc G pa o1.2.2.2.2.2.1 o1.2.2.2.2.2.2.1 o1.2.2.2.2.2.2.2.1 o1.2.2.2.2.2.2.2.2.1 o1.2.2.2.2.2.2.2.2.2.1 o1.2.2.2.2.2.2.2.2.2.2.1 o1.2.2.2.2.2.2.2.2.2.2.2.1 o1.2.2.2.2.2.2.2.2.2.2.2.2.1 o1.2.2.2.2.2.2.2.2.2.2.2.2.2 ++ (wPLc G qa o1.2.2.2.2.1.1 o1.2.2.2.2.1.2.1 o1.2.2.2.2.1.2.2.1 o1.2.2.2.2.1.2.2.2.1 o1.2.2.2.2.1.2.2.2.2.1 o1.2.2.2.2.1.2.2.2.2.2.1 o1.2.2.2.2.1.2.2.2.2.2.2.1 o1.2.2.2.2.1.2.2.2.2.2.2.2.1 o1.2.2.2.2.1.2.2.2.2.2.2.2.2 ++ (wOU G oa ou)))))) H := hP
    have hD : va_D A (wXO xa (ya 0) la (qa 0) (pa 0) ++ (wLO G la lo ++ (wSYc G ya yy_0 yy_1 yy_2 yy_3 yy_4 yy_5 yy_6 o1.2.2.1 o1.2.2.2.1 ++ (wPLc G pa o1.2.2.2.2.2.1 o1.2.2.2.2.2.2.1 o1.2.2.2.2.2.2.2.1 o1.2.2.2.2.2.2.2.2.1 o1.2.2.2.2.2.2.2.2.2.1 o1.2.2.2.2.2.2.2.2.2.2.1 o1.2.2.2.2.2.2.2.2.2.2.2.1 o1.2.2.2.2.2.2.2.2.2.2.2.2.1 o1.2.2.2.2.2.2.2.2.2.2.2.2.2 ++ (wPLc G qa o1.2.2.2.2.1.1 o1.2.2.2.2.1.2.1 o1.2.2.2.2.1.2.2.1 o1.2.2.2.2.1.2.2.2.1 o1.2.2.2.2.1.2.2.2.2.1 o1.2.2.2.2.1.2.2.2.2.2.1 o1.2.2.2.2.1.2.2.2.2.2.2.1 o1.2.2.2.2.1.2.2.2.2.2.2.2.1 o1.2.2.2.2.1.2.2.2.2.2.2.2.2 ++ (wOU G oa ou)))))) := hD
    refine lv_i2l (v := o1.2.1.toInt64) hx hb dL_need_8 rfl ?_
    refine va_last hx hb hK hP hD hS 25 2 rfl rfl (xk_in0_1) dL_need_9 (fun H locs hP hD hS => ?_)
    have hP : va_P G.1 vwCl (wXO xa (ya 0) la (qa 0) (pa 0) ++ (wLO G la lo ++ (wSYc G ya yy_0 yy_1 yy_2 yy_3 yy_4 yy_5 yy_6 o1.2.2.1 o1.2.2.2.1 ++ (wPLc G pa o1.2.2.2.2.2.1 o1.2.2.2.2.2.2.1 o1.2.2.2.2.2.2.2.1 o1.2.2.2.2.2.2.2.2.1 o1.2.2.2.2.2.2.2.2.2.1 o1.2.2.2.2.2.2.2.2.2.2.1 o1.2.2.2.2.2.2.2.2.2.2.2.1 o1.2.2.2.2.2.2.2.2.2.2.2.2.1 o1.2.2.2.2.2.2.2.2.2.2.2.2.2 ++ (wPLc G qa o1.2.2.2.2.1.1 o1.2.2.2.2.1.2.1 o1.2.2.2.2.1.2.2.1 o1.2.2.2.2.1.2.2.2.1 o1.2.2.2.2.1.2.2.2.2.1 o1.2.2.2.2.1.2.2.2.2.2.1 o1.2.2.2.2.1.2.2.2.2.2.2.1 o1.2.2.2.2.1.2.2.2.2.2.2.2.1 o1.2.2.2.2.1.2.2.2.2.2.2.2.2 ++ (wOU G oa (vp_updL ou (0 : Int32).toNatClampNeg o1.2.1.toInt64))))))) H := hP
    have hD : va_D A (wXO xa (ya 0) la (qa 0) (pa 0) ++ (wLO G la lo ++ (wSYc G ya yy_0 yy_1 yy_2 yy_3 yy_4 yy_5 yy_6 o1.2.2.1 o1.2.2.2.1 ++ (wPLc G pa o1.2.2.2.2.2.1 o1.2.2.2.2.2.2.1 o1.2.2.2.2.2.2.2.1 o1.2.2.2.2.2.2.2.2.1 o1.2.2.2.2.2.2.2.2.2.1 o1.2.2.2.2.2.2.2.2.2.2.1 o1.2.2.2.2.2.2.2.2.2.2.2.1 o1.2.2.2.2.2.2.2.2.2.2.2.2.1 o1.2.2.2.2.2.2.2.2.2.2.2.2.2 ++ (wPLc G qa o1.2.2.2.2.1.1 o1.2.2.2.2.1.2.1 o1.2.2.2.2.1.2.2.1 o1.2.2.2.2.1.2.2.2.1 o1.2.2.2.2.1.2.2.2.2.1 o1.2.2.2.2.1.2.2.2.2.2.1 o1.2.2.2.2.1.2.2.2.2.2.2.1 o1.2.2.2.2.1.2.2.2.2.2.2.2.1 o1.2.2.2.2.1.2.2.2.2.2.2.2.2 ++ (wOU G oa (vp_updL ou (0 : Int32).toNatClampNeg o1.2.1.toInt64))))))) := hD
    refine lv_goto (tgt := 25) hx hb dL_need_10 (by decide) ?_
    refine lv_iconst (v := (0 : Int32)) hx hb dL_need_25 (by decide) ?_
    obtain rfl := sp_s h
    obtain ⟨h8, h9⟩ := hpq.1 rfl
    subst pa1
    subst qa1
    exact xk_reL hx hb hr hlk (hP.sub (ws' := (wXO xa (ya 0) la (qa 0) (pa 0) ++ (wLO G la lo ++ (wSYc G ya yy_0 yy_1 yy_2 yy_3 yy_4 yy_5 yy_6 o1.2.2.1 o1.2.2.2.1 ++ (wPLc G qa o1.2.2.2.2.1.1 o1.2.2.2.2.1.2.1 o1.2.2.2.2.1.2.2.1 o1.2.2.2.2.1.2.2.2.1 o1.2.2.2.2.1.2.2.2.2.1 o1.2.2.2.2.1.2.2.2.2.2.1 o1.2.2.2.2.1.2.2.2.2.2.2.1 o1.2.2.2.2.1.2.2.2.2.2.2.2.1 o1.2.2.2.2.1.2.2.2.2.2.2.2.2 ++ (wPLc G pa o1.2.2.2.2.2.1 o1.2.2.2.2.2.2.1 o1.2.2.2.2.2.2.2.1 o1.2.2.2.2.2.2.2.2.1 o1.2.2.2.2.2.2.2.2.2.1 o1.2.2.2.2.2.2.2.2.2.2.1 o1.2.2.2.2.2.2.2.2.2.2.2.1 o1.2.2.2.2.2.2.2.2.2.2.2.2.1 o1.2.2.2.2.2.2.2.2.2.2.2.2.2 ++ (wOU G oa (vp_updL ou (0 : Int32).toNatClampNeg o1.2.1.toInt64)))))))) [0, 1, 2, 3, 4, 5, 6, 7, 8, 9, 10, 18, 19, 20, 21, 22, 23, 24, 11, 12, 13, 14, 15, 16, 17, 25] rfl) (hD.sub (ws' := (wXO xa (ya 0) la (qa 0) (pa 0) ++ (wLO G la lo ++ (wSYc G ya yy_0 yy_1 yy_2 yy_3 yy_4 yy_5 yy_6 o1.2.2.1 o1.2.2.2.1 ++ (wPLc G qa o1.2.2.2.2.1.1 o1.2.2.2.2.1.2.1 o1.2.2.2.2.1.2.2.1 o1.2.2.2.2.1.2.2.2.1 o1.2.2.2.2.1.2.2.2.2.1 o1.2.2.2.2.1.2.2.2.2.2.1 o1.2.2.2.2.1.2.2.2.2.2.2.1 o1.2.2.2.2.1.2.2.2.2.2.2.2.1 o1.2.2.2.2.1.2.2.2.2.2.2.2.2 ++ (wPLc G pa o1.2.2.2.2.2.1 o1.2.2.2.2.2.2.1 o1.2.2.2.2.2.2.2.1 o1.2.2.2.2.2.2.2.2.1 o1.2.2.2.2.2.2.2.2.2.1 o1.2.2.2.2.2.2.2.2.2.2.1 o1.2.2.2.2.2.2.2.2.2.2.2.1 o1.2.2.2.2.2.2.2.2.2.2.2.2.1 o1.2.2.2.2.2.2.2.2.2.2.2.2.2 ++ (wOU G oa (vp_updL ou (0 : Int32).toNatClampNeg o1.2.1.toInt64)))))))) [0, 1, 2, 3, 4, 5, 6, 7, 8, 9, 10, 18, 19, 20, 21, 22, 23, 24, 11, 12, 13, 14, 15, 16, 17, 25] (by decide) rfl) hS rfl dL_need_26 (Nat.le_refl _) (Nat.le_refl _)
def f_L_revisits (lo : xF) (yy : xSY) (pp : xPL) (qq : xPL) (ou : (Nat → Int64)) (i1 : Int32) (i2 : Int32) (i3 : Int32) : Option (Int32 × xF × xF × xPL × xPL × (Nat → Int64)) :=
  Option.bind (f_X2_revisits lo (yy.1, yy.2.1, yy.2.2.1, yy.2.2.2.1, yy.2.2.2.2.1, yy.2.2.2.2.2.1, yy.2.2.2.2.2.2.1, yy.2.2.2.2.2.2.2.1, yy.2.2.2.2.2.2.2.2) (pp.1, pp.2.1, pp.2.2.1, pp.2.2.2.1, pp.2.2.2.2.1, pp.2.2.2.2.2.1, pp.2.2.2.2.2.2.1, pp.2.2.2.2.2.2.2.1, pp.2.2.2.2.2.2.2.2) (qq.1, qq.2.1, qq.2.2.1, qq.2.2.2.1, qq.2.2.2.2.1, qq.2.2.2.2.2.1, qq.2.2.2.2.2.2.1, qq.2.2.2.2.2.2.2.1, qq.2.2.2.2.2.2.2.2) i1 i2 i3) fun (o1 : Nat × Int32 × xF × xF × xPL × xPL) =>
  if o1.1 = 0 then
    some ((0 : Int32), o1.2.2.1, o1.2.2.2.1, o1.2.2.2.2.1, o1.2.2.2.2.2, (vp_updL ou (0 : Int32).toNatClampNeg o1.2.1.toInt64))
  else
    if o1.1 = 3 then
      some ((1 : Int32), yy.2.2.2.2.2.1, yy.2.2.2.2.2.2.1, (pp.1, pp.2.1, pp.2.2.1, pp.2.2.2.1, pp.2.2.2.2.1, pp.2.2.2.2.2.1, pp.2.2.2.2.2.2.1, pp.2.2.2.2.2.2.2.1, pp.2.2.2.2.2.2.2.2), (qq.1, qq.2.1, qq.2.2.1, qq.2.2.2.1, qq.2.2.2.2.1, qq.2.2.2.2.2.1, qq.2.2.2.2.2.2.1, qq.2.2.2.2.2.2.2.1, qq.2.2.2.2.2.2.2.2), ou)
    else
      if o1.1 = 1 then
        some ((2 : Int32), yy.2.2.2.2.2.1, yy.2.2.2.2.2.2.1, (pp.1, pp.2.1, pp.2.2.1, pp.2.2.2.1, pp.2.2.2.2.1, pp.2.2.2.2.2.1, pp.2.2.2.2.2.2.1, pp.2.2.2.2.2.2.2.1, pp.2.2.2.2.2.2.2.2), (qq.1, qq.2.1, qq.2.2.1, qq.2.2.2.1, qq.2.2.2.2.1, qq.2.2.2.2.2.1, qq.2.2.2.2.2.2.1, qq.2.2.2.2.2.2.2.1, qq.2.2.2.2.2.2.2.2), ou)
      else
        none
theorem f_L_revisits_e (lo : xF) (yy_0 : Int32) (yy_1 : xF) (yy_2 : xF) (yy_3 : xF) (yy_4 : xF) (yy_5 : xF) (yy_6 : xF) (yy_7 : xF) (yy_8 : xF) (pp_0 : xF) (pp_1 : xF) (pp_2 : xF) (pp_3 : xF) (pp_4 : xF) (pp_5 : xF) (pp_6 : Int32) (pp_7 : Int32) (pp_8 : Int32) (qq_0 : xF) (qq_1 : xF) (qq_2 : xF) (qq_3 : xF) (qq_4 : xF) (qq_5 : xF) (qq_6 : Int32) (qq_7 : Int32) (qq_8 : Int32) (ou : (Nat → Int64)) (i1 : Int32) (i2 : Int32) (i3 : Int32) : f_L_revisits lo (yy_0, yy_1, yy_2, yy_3, yy_4, yy_5, yy_6, yy_7, yy_8) (pp_0, pp_1, pp_2, pp_3, pp_4, pp_5, pp_6, pp_7, pp_8) (qq_0, qq_1, qq_2, qq_3, qq_4, qq_5, qq_6, qq_7, qq_8) ou i1 i2 i3 =
  Option.bind (f_X2_revisits lo (yy_0, yy_1, yy_2, yy_3, yy_4, yy_5, yy_6, yy_7, yy_8) (pp_0, pp_1, pp_2, pp_3, pp_4, pp_5, pp_6, pp_7, pp_8) (qq_0, qq_1, qq_2, qq_3, qq_4, qq_5, qq_6, qq_7, qq_8) i1 i2 i3) fun (o1 : Nat × Int32 × xF × xF × xPL × xPL) =>
  if o1.1 = 0 then
    some ((0 : Int32), o1.2.2.1, o1.2.2.2.1, o1.2.2.2.2.1, o1.2.2.2.2.2, (vp_updL ou (0 : Int32).toNatClampNeg o1.2.1.toInt64))
  else
    if o1.1 = 3 then
      some ((1 : Int32), yy_5, yy_6, (pp_0, pp_1, pp_2, pp_3, pp_4, pp_5, pp_6, pp_7, pp_8), (qq_0, qq_1, qq_2, qq_3, qq_4, qq_5, qq_6, qq_7, qq_8), ou)
    else
      if o1.1 = 1 then
        some ((2 : Int32), yy_5, yy_6, (pp_0, pp_1, pp_2, pp_3, pp_4, pp_5, pp_6, pp_7, pp_8), (qq_0, qq_1, qq_2, qq_3, qq_4, qq_5, qq_6, qq_7, qq_8), ou)
      else
        none := rfl
set_option maxHeartbeats 4000000 in
set_option maxRecDepth 100000 in
theorem c_L_revisits (l : Launch) (hl9 : l.stackTraces = false) (G : xG) (xa : Nat) (la : Nat) (ya : (Nat → Nat)) (pa : (Nat → Nat)) (qa : (Nat → Nat)) (oa : Nat) (lo : xF) (yy : xSY) (pp : xPL) (qq : xPL) (ou : (Nat → Int64)) (i1 : Int32) (i2 : Int32) (i3 : Int32) (o : Int32 × xF × xF × xPL × xPL × (Nat → Int64)) (pa1 qa1 : Nat → Nat) (hpq : (o.1 = 0 → pa1 = qa ∧ qa1 = pa) ∧ (¬ o.1 = 0 → pa1 = pa ∧ qa1 = qa)) (h : f_L_revisits lo yy pp qq ou i1 i2 i3 = some o) : xk_CL l yL_revisits wsL_revisits ({ frames := 7, cells := 1, slots := 6, locals := 163 } : Room) [.ref xa, .int i1, .int i2, .int i3, .ref oa] G (wXO xa (ya 0) la (pa 0) (qa 0) ++ (wLO G la lo ++ (wSYc G ya yy.1 yy.2.1 yy.2.2.1 yy.2.2.2.1 yy.2.2.2.2.1 yy.2.2.2.2.2.1 yy.2.2.2.2.2.2.1 yy.2.2.2.2.2.2.2.1 yy.2.2.2.2.2.2.2.2 ++ (wPLc G pa pp.1 pp.2.1 pp.2.2.1 pp.2.2.2.1 pp.2.2.2.2.1 pp.2.2.2.2.2.1 pp.2.2.2.2.2.2.1 pp.2.2.2.2.2.2.2.1 pp.2.2.2.2.2.2.2.2 ++ (wPLc G qa qq.1 qq.2.1 qq.2.2.1 qq.2.2.2.1 qq.2.2.2.2.1 qq.2.2.2.2.2.1 qq.2.2.2.2.2.2.1 qq.2.2.2.2.2.2.2.1 qq.2.2.2.2.2.2.2.2 ++ (wOU G oa ou)))))) (wXO xa (ya 0) la (pa1 0) (qa1 0) ++ (wLO G la lo ++ (wSYc G ya yy.1 yy.2.1 yy.2.2.1 yy.2.2.2.1 yy.2.2.2.2.1 o.2.1 o.2.2.1 yy.2.2.2.2.2.2.2.1 yy.2.2.2.2.2.2.2.2 ++ (wPLc G pa1 o.2.2.2.1.1 o.2.2.2.1.2.1 o.2.2.2.1.2.2.1 o.2.2.2.1.2.2.2.1 o.2.2.2.1.2.2.2.2.1 o.2.2.2.1.2.2.2.2.2.1 o.2.2.2.1.2.2.2.2.2.2.1 o.2.2.2.1.2.2.2.2.2.2.2.1 o.2.2.2.1.2.2.2.2.2.2.2.2 ++ (wPLc G qa1 o.2.2.2.2.1.1 o.2.2.2.2.1.2.1 o.2.2.2.2.1.2.2.1 o.2.2.2.2.1.2.2.2.1 o.2.2.2.2.1.2.2.2.2.1 o.2.2.2.2.1.2.2.2.2.2.1 o.2.2.2.2.1.2.2.2.2.2.2.1 o.2.2.2.2.1.2.2.2.2.2.2.2.1 o.2.2.2.2.1.2.2.2.2.2.2.2.2 ++ (wOU G oa o.2.2.2.2.2)))))) o.1 := by
  obtain ⟨yy_0, yy_1, yy_2, yy_3, yy_4, yy_5, yy_6, yy_7, yy_8⟩ := yy
  obtain ⟨pp_0, pp_1, pp_2, pp_3, pp_4, pp_5, pp_6, pp_7, pp_8⟩ := pp
  obtain ⟨qq_0, qq_1, qq_2, qq_3, qq_4, qq_5, qq_6, qq_7, qq_8⟩ := qq
  refine xk_CL.of (cc := cL_revisits) (maxL := 6) (ret := (some .int)) (by decide) rfl (Nat.le_of_ble_eq_true rfl) ?_
  intro pr9 en9 s mm9 bl9 meth9 cd9 A ls H locs hx hb hr hml hts hown hlk hA hP hK hD hNE hS hl hXB hSR hZX hxt
  have hown : s.vm.findClass RL = some mm9.cls := hown
  have hl : lv_has ls 6 [(0, .ref xa), (1, .int i1), (2, .int i2), (3, .int i3), (4, .ref oa)] := hl
  have hP : va_P G.1 vwCl (wXO xa (ya 0) la (pa 0) (qa 0) ++ (wLO G la lo ++ (wSYc G ya yy_0 yy_1 yy_2 yy_3 yy_4 yy_5 yy_6 yy_7 yy_8 ++ (wPLc G pa pp_0 pp_1 pp_2 pp_3 pp_4 pp_5 pp_6 pp_7 pp_8 ++ (wPLc G qa qq_0 qq_1 qq_2 qq_3 qq_4 qq_5 qq_6 qq_7 qq_8 ++ (wOU G oa ou)))))) H := hP
  have hD : va_D A (wXO xa (ya 0) la (pa 0) (qa 0) ++ (wLO G la lo ++ (wSYc G ya yy_0 yy_1 yy_2 yy_3 yy_4 yy_5 yy_6 yy_7 yy_8 ++ (wPLc G pa pp_0 pp_1 pp_2 pp_3 pp_4 pp_5 pp_6 pp_7 pp_8 ++ (wPLc G qa qq_0 qq_1 qq_2 qq_3 qq_4 qq_5 qq_6 qq_7 qq_8 ++ (wOU G oa ou)))))) := hD
  have h := (f_L_revisits_e lo yy_0 yy_1 yy_2 yy_3 yy_4 yy_5 yy_6 yy_7 yy_8 pp_0 pp_1 pp_2 pp_3 pp_4 pp_5 pp_6 pp_7 pp_8 qq_0 qq_1 qq_2 qq_3 qq_4 qq_5 qq_6 qq_7 qq_8 ou i1 i2 i3).symm.trans h
  refine lv_aload hx hb dL_revisits_0 (lv_at hl 4 rfl) ?_
  refine lv_iconst (v := (0 : Int32)) hx hb dL_revisits_2 (by decide) ?_
  refine lv_aload_n hx hb dL_revisits_3 rfl (lv_at hl 0 rfl) ?_
  refine lv_iload_n hx hb dL_revisits_4 rfl (lv_at hl 1 rfl) ?_
  refine lv_iload_n hx hb dL_revisits_5 rfl (lv_at hl 2 rfl) ?_
  refine lv_iload_n hx hb dL_revisits_6 rfl (lv_at hl 3 rfl) ?_
  obtain ⟨o1, ho1, h⟩ := sp_b h
  refine xk_cx (vx_runV (As := [.int i1, .int i2, .int i3]) (rest := [.int (0 : Int32), .ref oa]) ⟨hx, hb, hml, hown, hts⟩ (c_X2_revisits l hl9 G xa la ya pa qa lo (yy_0, yy_1, yy_2, yy_3, yy_4, yy_5, yy_6, yy_7, yy_8) (pp_0, pp_1, pp_2, pp_3, pp_4, pp_5, pp_6, pp_7, pp_8) (qq_0, qq_1, qq_2, qq_3, qq_4, qq_5, qq_6, qq_7, qq_8) i1 i2 i3 o1 ho1 H.size) (cwV 3 hts gL_revisits_X2_revisits rfl rfl rfl (by decide +kernel) ⟨Nat.le_of_ble_eq_true rfl, Nat.le_of_ble_eq_true rfl⟩) (xk_preVX hK hNE hXB hSR hZX hS (va_free (wc := (wXO xa (ya 0) la (pa 0) (qa 0) ++ (wLO G la lo ++ (wSYc G ya yy_0 yy_1 yy_2 yy_3 yy_4 yy_5 yy_6 yy_7 yy_8 ++ (wPLc G pa pp_0 pp_1 pp_2 pp_3 pp_4 pp_5 pp_6 pp_7 pp_8 ++ (wPLc G qa qq_0 qq_1 qq_2 qq_3 qq_4 qq_5 qq_6 qq_7 qq_8)))))) hD hS hA [0, 1, 2, 3, 4, 5, 6, 7, 8, 9, 10, 11, 12, 13, 14, 15, 16, 17, 18, 19, 20, 21, 22, 23, 24] rfl) (hP.sub (ws' := (wXO xa (ya 0) la (pa 0) (qa 0) ++ (wLO G la lo ++ (wSYc G ya yy_0 yy_1 yy_2 yy_3 yy_4 yy_5 yy_6 yy_7 yy_8 ++ (wPLc G pa pp_0 pp_1 pp_2 pp_3 pp_4 pp_5 pp_6 pp_7 pp_8 ++ (wPLc G qa qq_0 qq_1 qq_2 qq_3 qq_4 qq_5 qq_6 qq_7 qq_8)))))) [0, 1, 2, 3, 4, 5, 6, 7, 8, 9, 10, 11, 12, 13, 14, 15, 16, 17, 18, 19, 20, 21, 22, 23, 24] rfl) (hD.sub (ws' := (wXO xa (ya 0) la (pa 0) (qa 0) ++ (wLO G la lo ++ (wSYc G ya yy_0 yy_1 yy_2 yy_3 yy_4 yy_5 yy_6 yy_7 yy_8 ++ (wPLc G pa pp_0 pp_1 pp_2 pp_3 pp_4 pp_5 pp_6 pp_7 pp_8 ++ (wPLc G qa qq_0 qq_1 qq_2 qq_3 qq_4 qq_5 qq_6 qq_7 qq_8)))))) [0, 1, 2, 3, 4, 5, 6, 7, 8, 9, 10, 11, 12, 13, 14, 15, 16, 17, 18, 19, 20, 21, 22, 23, 24] (by decide) rfl) (ci := 2) rfl rfl) rfl rfl hl.1 rfl (lv_room (Nat.le_of_ble_eq_true rfl)) dL_revisits_7 ⟨Nat.le_of_ble_eq_true rfl, Nat.le_of_ble_eq_true rfl⟩) hP hD hS hA [0, 1, 2, 3, 4, 5, 6, 7, 8, 9, 10, 11, 12, 13, 14, 15, 16, 17, 18, 19, 20, 21, 22, 23, 24] [25] [1, 2, 3, 4, 5, 6, 7, 8, 9, 10, 11, 19, 20, 21, 22, 23, 24, 25, 12, 13, 14, 15, 16, 17, 18, 0] [1, 2, 3, 4, 5, 6, 7, 8, 9, 10, 11, 12, 13, 14, 15, 16, 17, 18, 19, 20, 21, 22, 23, 24, 25, 0] rfl rfl (by decide) (by decide) rfl (by decide) rfl (by decide) (fun ce9 q9 H locs hk0 hP hD hS hce hcv hcl => ?_) (fun H locs hk0 hP hD hS => ?_)
  · have h := sp_f hk0 h
    by_cases e3 : o1.1 = 3
    · have h := sp_t e3 h
      rw [e3] at hcl
      refine vx_catch (E := "java/lang/IndexOutOfBoundsException") (name := "java/lang/IndexOutOfBoundsException") hown [] (⟨0, 12, 15, 21⟩ : ExceptionTableEntry) [(⟨0, 12, 19, 13⟩ : ExceptionTableEntry)] hxt (fun z hz => by cases hz) (by decide) (by decide) (hts (.classLink RL 21 "java/lang/IndexOutOfBoundsException") (by decide +kernel)) (va_Nw.use rfl (hXB.2.2.2.2.2.1)) hce hcv hcl ?_
      refine lv_astore (lv' := [(5, .ref q9), (0, .ref xa), (1, .int i1), (2, .int i2), (3, .int i3), (4, .ref oa)]) hx hb dL_revisits_15 hl (by decide) rfl (fun ls hl => ?_)
      refine lv_iconst (v := (1 : Int32)) hx hb dL_revisits_17 (by decide) ?_
      obtain rfl := sp_s h
      obtain ⟨h8, h9⟩ := hpq.2 (show ¬ (1 : Int32) = 0 by decide)
      subst pa1
      subst qa1
      exact xk_reL hx hb hr hlk hP hD hS rfl dL_revisits_18 (Nat.le_refl _) (Nat.le_refl _)
    · have h := sp_f e3 h
      by_cases e1 : o1.1 = 1
      · have h := sp_t e1 h
        rw [e1] at hcl
        refine vx_catch (E := "java/lang/IllegalArgumentException") (name := "java/lang/IllegalArgumentException") hown [(⟨0, 12, 15, 21⟩ : ExceptionTableEntry)] (⟨0, 12, 19, 13⟩ : ExceptionTableEntry) [] hxt (by intro z hz; simp only [List.mem_cons, List.not_mem_nil, or_false] at hz; rcases hz with rfl; exact Or.inr ⟨by decide, "java/lang/IndexOutOfBoundsException", hts (.classLink RL 21 "java/lang/IndexOutOfBoundsException") (by decide +kernel), hXB.2.2.2.2.2.2.2.2.1⟩) (by decide) (by decide) (hts (.classLink RL 13 "java/lang/IllegalArgumentException") (by decide +kernel)) (va_Nw.use rfl (hXB.2.2.2.1)) hce hcv hcl ?_
        refine lv_astore (lv' := [(5, .ref q9), (0, .ref xa), (1, .int i1), (2, .int i2), (3, .int i3), (4, .ref oa)]) hx hb dL_revisits_19 hl (by decide) rfl (fun ls hl => ?_)
        refine lv_iconst (v := (2 : Int32)) hx hb dL_revisits_21 (by decide) ?_
        obtain rfl := sp_s h
        obtain ⟨h8, h9⟩ := hpq.2 (show ¬ (2 : Int32) = 0 by decide)
        subst pa1
        subst qa1
        exact xk_reL hx hb hr hlk hP hD hS rfl dL_revisits_22 (Nat.le_refl _) (Nat.le_refl _)
      · have h := sp_f e1 h
        exact sp_n h
  · have h := sp_t hk0 h
    have hP : va_P G.1 vwCl (wXO xa (ya 0) la (qa 0) (pa 0) ++ (wLO G la lo ++ (wSYc G ya yy_0 yy_1 yy_2 yy_3 yy_4 o1.2.2.1 o1.2.2.2.1 yy_7 yy_8 ++ (wPLc G pa o1.2.2.2.2.2.1 o1.2.2.2.2.2.2.1 o1.2.2.2.2.2.2.2.1 o1.2.2.2.2.2.2.2.2.1 o1.2.2.2.2.2.2.2.2.2.1 o1.2.2.2.2.2.2.2.2.2.2.1 o1.2.2.2.2.2.2.2.2.2.2.2.1 o1.2.2.2.2.2.2.2.2.2.2.2.2.1 o1.2.2.2.2.2.2.2.2.2.2.2.2.2 ++ (wPLc G qa o1.2.2.2.2.1.1 o1.2.2.2.2.1.2.1 o1.2.2.2.2.1.2.2.1 o1.2.2.2.2.1.2.2.2.1 o1.2.2.2.2.1.2.2.2.2.1 o1.2.2.2.2.1.2.2.2.2.2.1 o1.2.2.2.2.1.2.2.2.2.2.2.1 o1.2.2.2.2.1.2.2.2.2.2.2.2.1 o1.2.2.2.2.1.2.2.2.2.2.2.2.2 ++ (wOU G oa ou)))))) H := hP
    have hD : va_D A (wXO xa (ya 0) la (qa 0) (pa 0) ++ (wLO G la lo ++ (wSYc G ya yy_0 yy_1 yy_2 yy_3 yy_4 o1.2.2.1 o1.2.2.2.1 yy_7 yy_8 ++ (wPLc G pa o1.2.2.2.2.2.1 o1.2.2.2.2.2.2.1 o1.2.2.2.2.2.2.2.1 o1.2.2.2.2.2.2.2.2.1 o1.2.2.2.2.2.2.2.2.2.1 o1.2.2.2.2.2.2.2.2.2.2.1 o1.2.2.2.2.2.2.2.2.2.2.2.1 o1.2.2.2.2.2.2.2.2.2.2.2.2.1 o1.2.2.2.2.2.2.2.2.2.2.2.2.2 ++ (wPLc G qa o1.2.2.2.2.1.1 o1.2.2.2.2.1.2.1 o1.2.2.2.2.1.2.2.1 o1.2.2.2.2.1.2.2.2.1 o1.2.2.2.2.1.2.2.2.2.1 o1.2.2.2.2.1.2.2.2.2.2.1 o1.2.2.2.2.1.2.2.2.2.2.2.1 o1.2.2.2.2.1.2.2.2.2.2.2.2.1 o1.2.2.2.2.1.2.2.2.2.2.2.2.2 ++ (wOU G oa ou)))))) := hD
    refine lv_i2l (v := o1.2.1.toInt64) hx hb dL_revisits_10 rfl ?_
    refine va_last hx hb hK hP hD hS 25 2 rfl rfl (xk_in0_1) dL_revisits_11 (fun H locs hP hD hS => ?_)
    have hP : va_P G.1 vwCl (wXO xa (ya 0) la (qa 0) (pa 0) ++ (wLO G la lo ++ (wSYc G ya yy_0 yy_1 yy_2 yy_3 yy_4 o1.2.2.1 o1.2.2.2.1 yy_7 yy_8 ++ (wPLc G pa o1.2.2.2.2.2.1 o1.2.2.2.2.2.2.1 o1.2.2.2.2.2.2.2.1 o1.2.2.2.2.2.2.2.2.1 o1.2.2.2.2.2.2.2.2.2.1 o1.2.2.2.2.2.2.2.2.2.2.1 o1.2.2.2.2.2.2.2.2.2.2.2.1 o1.2.2.2.2.2.2.2.2.2.2.2.2.1 o1.2.2.2.2.2.2.2.2.2.2.2.2.2 ++ (wPLc G qa o1.2.2.2.2.1.1 o1.2.2.2.2.1.2.1 o1.2.2.2.2.1.2.2.1 o1.2.2.2.2.1.2.2.2.1 o1.2.2.2.2.1.2.2.2.2.1 o1.2.2.2.2.1.2.2.2.2.2.1 o1.2.2.2.2.1.2.2.2.2.2.2.1 o1.2.2.2.2.1.2.2.2.2.2.2.2.1 o1.2.2.2.2.1.2.2.2.2.2.2.2.2 ++ (wOU G oa (vp_updL ou (0 : Int32).toNatClampNeg o1.2.1.toInt64))))))) H := hP
    have hD : va_D A (wXO xa (ya 0) la (qa 0) (pa 0) ++ (wLO G la lo ++ (wSYc G ya yy_0 yy_1 yy_2 yy_3 yy_4 o1.2.2.1 o1.2.2.2.1 yy_7 yy_8 ++ (wPLc G pa o1.2.2.2.2.2.1 o1.2.2.2.2.2.2.1 o1.2.2.2.2.2.2.2.1 o1.2.2.2.2.2.2.2.2.1 o1.2.2.2.2.2.2.2.2.2.1 o1.2.2.2.2.2.2.2.2.2.2.1 o1.2.2.2.2.2.2.2.2.2.2.2.1 o1.2.2.2.2.2.2.2.2.2.2.2.2.1 o1.2.2.2.2.2.2.2.2.2.2.2.2.2 ++ (wPLc G qa o1.2.2.2.2.1.1 o1.2.2.2.2.1.2.1 o1.2.2.2.2.1.2.2.1 o1.2.2.2.2.1.2.2.2.1 o1.2.2.2.2.1.2.2.2.2.1 o1.2.2.2.2.1.2.2.2.2.2.1 o1.2.2.2.2.1.2.2.2.2.2.2.1 o1.2.2.2.2.1.2.2.2.2.2.2.2.1 o1.2.2.2.2.1.2.2.2.2.2.2.2.2 ++ (wOU G oa (vp_updL ou (0 : Int32).toNatClampNeg o1.2.1.toInt64))))))) := hD
    refine lv_goto (tgt := 23) hx hb dL_revisits_12 (by decide) ?_
    refine lv_iconst (v := (0 : Int32)) hx hb dL_revisits_23 (by decide) ?_
    obtain rfl := sp_s h
    obtain ⟨h8, h9⟩ := hpq.1 rfl
    subst pa1
    subst qa1
    exact xk_reL hx hb hr hlk (hP.sub (ws' := (wXO xa (ya 0) la (qa 0) (pa 0) ++ (wLO G la lo ++ (wSYc G ya yy_0 yy_1 yy_2 yy_3 yy_4 o1.2.2.1 o1.2.2.2.1 yy_7 yy_8 ++ (wPLc G qa o1.2.2.2.2.1.1 o1.2.2.2.2.1.2.1 o1.2.2.2.2.1.2.2.1 o1.2.2.2.2.1.2.2.2.1 o1.2.2.2.2.1.2.2.2.2.1 o1.2.2.2.2.1.2.2.2.2.2.1 o1.2.2.2.2.1.2.2.2.2.2.2.1 o1.2.2.2.2.1.2.2.2.2.2.2.2.1 o1.2.2.2.2.1.2.2.2.2.2.2.2.2 ++ (wPLc G pa o1.2.2.2.2.2.1 o1.2.2.2.2.2.2.1 o1.2.2.2.2.2.2.2.1 o1.2.2.2.2.2.2.2.2.1 o1.2.2.2.2.2.2.2.2.2.1 o1.2.2.2.2.2.2.2.2.2.2.1 o1.2.2.2.2.2.2.2.2.2.2.2.1 o1.2.2.2.2.2.2.2.2.2.2.2.2.1 o1.2.2.2.2.2.2.2.2.2.2.2.2.2 ++ (wOU G oa (vp_updL ou (0 : Int32).toNatClampNeg o1.2.1.toInt64)))))))) [0, 1, 2, 3, 4, 5, 6, 7, 8, 9, 10, 18, 19, 20, 21, 22, 23, 24, 11, 12, 13, 14, 15, 16, 17, 25] rfl) (hD.sub (ws' := (wXO xa (ya 0) la (qa 0) (pa 0) ++ (wLO G la lo ++ (wSYc G ya yy_0 yy_1 yy_2 yy_3 yy_4 o1.2.2.1 o1.2.2.2.1 yy_7 yy_8 ++ (wPLc G qa o1.2.2.2.2.1.1 o1.2.2.2.2.1.2.1 o1.2.2.2.2.1.2.2.1 o1.2.2.2.2.1.2.2.2.1 o1.2.2.2.2.1.2.2.2.2.1 o1.2.2.2.2.1.2.2.2.2.2.1 o1.2.2.2.2.1.2.2.2.2.2.2.1 o1.2.2.2.2.1.2.2.2.2.2.2.2.1 o1.2.2.2.2.1.2.2.2.2.2.2.2.2 ++ (wPLc G pa o1.2.2.2.2.2.1 o1.2.2.2.2.2.2.1 o1.2.2.2.2.2.2.2.1 o1.2.2.2.2.2.2.2.2.1 o1.2.2.2.2.2.2.2.2.2.1 o1.2.2.2.2.2.2.2.2.2.2.1 o1.2.2.2.2.2.2.2.2.2.2.2.1 o1.2.2.2.2.2.2.2.2.2.2.2.2.1 o1.2.2.2.2.2.2.2.2.2.2.2.2.2 ++ (wOU G oa (vp_updL ou (0 : Int32).toNatClampNeg o1.2.1.toInt64)))))))) [0, 1, 2, 3, 4, 5, 6, 7, 8, 9, 10, 18, 19, 20, 21, 22, 23, 24, 11, 12, 13, 14, 15, 16, 17, 25] (by decide) rfl) hS rfl dL_revisits_24 (Nat.le_refl _) (Nat.le_refl _)
def f_L_allNeeds (lo : xF) (yy : xSY) (pp : xPL) (qq : xPL) (ou : (Nat → Int64)) (i1 : Int32) : Option (Int32 × (Nat → Int64)) :=
  Option.bind (f_X2_allNeeds lo (yy.1, yy.2.1, yy.2.2.1, yy.2.2.2.1, yy.2.2.2.2.1, yy.2.2.2.2.2.1, yy.2.2.2.2.2.2.1, yy.2.2.2.2.2.2.2.1, yy.2.2.2.2.2.2.2.2) (pp.1, pp.2.1, pp.2.2.1, pp.2.2.2.1, pp.2.2.2.2.1, pp.2.2.2.2.2.1, pp.2.2.2.2.2.2.1, pp.2.2.2.2.2.2.2.1, pp.2.2.2.2.2.2.2.2) (qq.1, qq.2.1, qq.2.2.1, qq.2.2.2.1, qq.2.2.2.2.1, qq.2.2.2.2.2.1, qq.2.2.2.2.2.2.1, qq.2.2.2.2.2.2.2.1, qq.2.2.2.2.2.2.2.2) i1) fun (o1 : Nat × Int32) =>
  if o1.1 = 0 then
    some ((0 : Int32), (vp_updL ou (0 : Int32).toNatClampNeg o1.2.toInt64))
  else
    if o1.1 = 3 then
      some ((1 : Int32), ou)
    else
      none
theorem f_L_allNeeds_e (lo : xF) (yy_0 : Int32) (yy_1 : xF) (yy_2 : xF) (yy_3 : xF) (yy_4 : xF) (yy_5 : xF) (yy_6 : xF) (yy_7 : xF) (yy_8 : xF) (pp_0 : xF) (pp_1 : xF) (pp_2 : xF) (pp_3 : xF) (pp_4 : xF) (pp_5 : xF) (pp_6 : Int32) (pp_7 : Int32) (pp_8 : Int32) (qq_0 : xF) (qq_1 : xF) (qq_2 : xF) (qq_3 : xF) (qq_4 : xF) (qq_5 : xF) (qq_6 : Int32) (qq_7 : Int32) (qq_8 : Int32) (ou : (Nat → Int64)) (i1 : Int32) : f_L_allNeeds lo (yy_0, yy_1, yy_2, yy_3, yy_4, yy_5, yy_6, yy_7, yy_8) (pp_0, pp_1, pp_2, pp_3, pp_4, pp_5, pp_6, pp_7, pp_8) (qq_0, qq_1, qq_2, qq_3, qq_4, qq_5, qq_6, qq_7, qq_8) ou i1 =
  Option.bind (f_X2_allNeeds lo (yy_0, yy_1, yy_2, yy_3, yy_4, yy_5, yy_6, yy_7, yy_8) (pp_0, pp_1, pp_2, pp_3, pp_4, pp_5, pp_6, pp_7, pp_8) (qq_0, qq_1, qq_2, qq_3, qq_4, qq_5, qq_6, qq_7, qq_8) i1) fun (o1 : Nat × Int32) =>
  if o1.1 = 0 then
    some ((0 : Int32), (vp_updL ou (0 : Int32).toNatClampNeg o1.2.toInt64))
  else
    if o1.1 = 3 then
      some ((1 : Int32), ou)
    else
      none := rfl
set_option maxHeartbeats 4000000 in
set_option maxRecDepth 100000 in
theorem c_L_allNeeds (l : Launch) (hl9 : l.stackTraces = false) (G : xG) (xa : Nat) (la : Nat) (ya : (Nat → Nat)) (pa : (Nat → Nat)) (qa : (Nat → Nat)) (oa : Nat) (lo : xF) (yy : xSY) (pp : xPL) (qq : xPL) (ou : (Nat → Int64)) (i1 : Int32) (o : Int32 × (Nat → Int64)) (h : f_L_allNeeds lo yy pp qq ou i1 = some o) : xk_CL l yL_allNeeds wsL_allNeeds ({ frames := 7, cells := 1, slots := 6, locals := 111 } : Room) [.ref xa, .int i1, .ref oa] G (wXO xa (ya 0) la (pa 0) (qa 0) ++ (wLO G la lo ++ (wSYc G ya yy.1 yy.2.1 yy.2.2.1 yy.2.2.2.1 yy.2.2.2.2.1 yy.2.2.2.2.2.1 yy.2.2.2.2.2.2.1 yy.2.2.2.2.2.2.2.1 yy.2.2.2.2.2.2.2.2 ++ (wPLc G pa pp.1 pp.2.1 pp.2.2.1 pp.2.2.2.1 pp.2.2.2.2.1 pp.2.2.2.2.2.1 pp.2.2.2.2.2.2.1 pp.2.2.2.2.2.2.2.1 pp.2.2.2.2.2.2.2.2 ++ (wPLc G qa qq.1 qq.2.1 qq.2.2.1 qq.2.2.2.1 qq.2.2.2.2.1 qq.2.2.2.2.2.1 qq.2.2.2.2.2.2.1 qq.2.2.2.2.2.2.2.1 qq.2.2.2.2.2.2.2.2 ++ (wOU G oa ou)))))) (wXO xa (ya 0) la (pa 0) (qa 0) ++ (wLO G la lo ++ (wSYc G ya yy.1 yy.2.1 yy.2.2.1 yy.2.2.2.1 yy.2.2.2.2.1 yy.2.2.2.2.2.1 yy.2.2.2.2.2.2.1 yy.2.2.2.2.2.2.2.1 yy.2.2.2.2.2.2.2.2 ++ (wPLc G pa pp.1 pp.2.1 pp.2.2.1 pp.2.2.2.1 pp.2.2.2.2.1 pp.2.2.2.2.2.1 pp.2.2.2.2.2.2.1 pp.2.2.2.2.2.2.2.1 pp.2.2.2.2.2.2.2.2 ++ (wPLc G qa qq.1 qq.2.1 qq.2.2.1 qq.2.2.2.1 qq.2.2.2.2.1 qq.2.2.2.2.2.1 qq.2.2.2.2.2.2.1 qq.2.2.2.2.2.2.2.1 qq.2.2.2.2.2.2.2.2 ++ (wOU G oa o.2)))))) o.1 := by
  obtain ⟨yy_0, yy_1, yy_2, yy_3, yy_4, yy_5, yy_6, yy_7, yy_8⟩ := yy
  obtain ⟨pp_0, pp_1, pp_2, pp_3, pp_4, pp_5, pp_6, pp_7, pp_8⟩ := pp
  obtain ⟨qq_0, qq_1, qq_2, qq_3, qq_4, qq_5, qq_6, qq_7, qq_8⟩ := qq
  refine xk_CL.of (cc := cL_allNeeds) (maxL := 4) (ret := (some .int)) (by decide) rfl (Nat.le_of_ble_eq_true rfl) ?_
  intro pr9 en9 s mm9 bl9 meth9 cd9 A ls H locs hx hb hr hml hts hown hlk hA hP hK hD hNE hS hl hXB hSR hZX hxt
  have hown : s.vm.findClass RL = some mm9.cls := hown
  have hl : lv_has ls 4 [(0, .ref xa), (1, .int i1), (2, .ref oa)] := hl
  have hP : va_P G.1 vwCl (wXO xa (ya 0) la (pa 0) (qa 0) ++ (wLO G la lo ++ (wSYc G ya yy_0 yy_1 yy_2 yy_3 yy_4 yy_5 yy_6 yy_7 yy_8 ++ (wPLc G pa pp_0 pp_1 pp_2 pp_3 pp_4 pp_5 pp_6 pp_7 pp_8 ++ (wPLc G qa qq_0 qq_1 qq_2 qq_3 qq_4 qq_5 qq_6 qq_7 qq_8 ++ (wOU G oa ou)))))) H := hP
  have hD : va_D A (wXO xa (ya 0) la (pa 0) (qa 0) ++ (wLO G la lo ++ (wSYc G ya yy_0 yy_1 yy_2 yy_3 yy_4 yy_5 yy_6 yy_7 yy_8 ++ (wPLc G pa pp_0 pp_1 pp_2 pp_3 pp_4 pp_5 pp_6 pp_7 pp_8 ++ (wPLc G qa qq_0 qq_1 qq_2 qq_3 qq_4 qq_5 qq_6 qq_7 qq_8 ++ (wOU G oa ou)))))) := hD
  have h := (f_L_allNeeds_e lo yy_0 yy_1 yy_2 yy_3 yy_4 yy_5 yy_6 yy_7 yy_8 pp_0 pp_1 pp_2 pp_3 pp_4 pp_5 pp_6 pp_7 pp_8 qq_0 qq_1 qq_2 qq_3 qq_4 qq_5 qq_6 qq_7 qq_8 ou i1).symm.trans h
  refine lv_aload_n hx hb dL_allNeeds_0 rfl (lv_at hl 2 rfl) ?_
  refine lv_iconst (v := (0 : Int32)) hx hb dL_allNeeds_1 (by decide) ?_
  refine lv_aload_n hx hb dL_allNeeds_2 rfl (lv_at hl 0 rfl) ?_
  refine lv_iload_n hx hb dL_allNeeds_3 rfl (lv_at hl 1 rfl) ?_
  obtain ⟨o1, ho1, h⟩ := sp_b h
  refine xk_cx (vx_runV (As := [.int i1]) (rest := [.int (0 : Int32), .ref oa]) ⟨hx, hb, hml, hown, hts⟩ (c_X2_allNeeds l hl9 G xa la ya pa qa lo (yy_0, yy_1, yy_2, yy_3, yy_4, yy_5, yy_6, yy_7, yy_8) (pp_0, pp_1, pp_2, pp_3, pp_4, pp_5, pp_6, pp_7, pp_8) (qq_0, qq_1, qq_2, qq_3, qq_4, qq_5, qq_6, qq_7, qq_8) i1 o1 ho1 H.size) (cwV 1 hts gL_allNeeds_X2_allNeeds rfl rfl rfl (by decide +kernel) ⟨Nat.le_of_ble_eq_true rfl, Nat.le_of_ble_eq_true rfl⟩) (xk_preVX hK hNE hXB hSR hZX hS (va_free (wc := (wXO xa (ya 0) la (pa 0) (qa 0) ++ (wLO G la lo ++ (wSYc G ya yy_0 yy_1 yy_2 yy_3 yy_4 yy_5 yy_6 yy_7 yy_8 ++ (wPLc G pa pp_0 pp_1 pp_2 pp_3 pp_4 pp_5 pp_6 pp_7 pp_8 ++ (wPLc G qa qq_0 qq_1 qq_2 qq_3 qq_4 qq_5 qq_6 qq_7 qq_8)))))) hD hS hA [0, 1, 2, 3, 4, 5, 6, 7, 8, 9, 10, 11, 12, 13, 14, 15, 16, 17, 18, 19, 20, 21, 22, 23, 24] rfl) (hP.sub (ws' := (wXO xa (ya 0) la (pa 0) (qa 0) ++ (wLO G la lo ++ (wSYc G ya yy_0 yy_1 yy_2 yy_3 yy_4 yy_5 yy_6 yy_7 yy_8 ++ (wPLc G pa pp_0 pp_1 pp_2 pp_3 pp_4 pp_5 pp_6 pp_7 pp_8 ++ (wPLc G qa qq_0 qq_1 qq_2 qq_3 qq_4 qq_5 qq_6 qq_7 qq_8)))))) [0, 1, 2, 3, 4, 5, 6, 7, 8, 9, 10, 11, 12, 13, 14, 15, 16, 17, 18, 19, 20, 21, 22, 23, 24] rfl) (hD.sub (ws' := (wXO xa (ya 0) la (pa 0) (qa 0) ++ (wLO G la lo ++ (wSYc G ya yy_0 yy_1 yy_2 yy_3 yy_4 yy_5 yy_6 yy_7 yy_8 ++ (wPLc G pa pp_0 pp_1 pp_2 pp_3 pp_4 pp_5 pp_6 pp_7 pp_8 ++ (wPLc G qa qq_0 qq_1 qq_2 qq_3 qq_4 qq_5 qq_6 qq_7 qq_8)))))) [0, 1, 2, 3, 4, 5, 6, 7, 8, 9, 10, 11, 12, 13, 14, 15, 16, 17, 18, 19, 20, 21, 22, 23, 24] (by decide) rfl) (ci := 2) rfl rfl) rfl rfl hl.1 rfl (lv_room (Nat.le_of_ble_eq_true rfl)) dL_allNeeds_4 ⟨Nat.le_of_ble_eq_true rfl, Nat.le_of_ble_eq_true rfl⟩) hP hD hS hA [0, 1, 2, 3, 4, 5, 6, 7, 8, 9, 10, 11, 12, 13, 14, 15, 16, 17, 18, 19, 20, 21, 22, 23, 24] [25] [1, 2, 3, 4, 5, 6, 7, 8, 9, 10, 11, 12, 13, 14, 15, 16, 17, 18, 19, 20, 21, 22, 23, 24, 25, 0] [1, 2, 3, 4, 5, 6, 7, 8, 9, 10, 11, 12, 13, 14, 15, 16, 17, 18, 19, 20, 21, 22, 23, 24, 25, 0] rfl rfl (by decide) (by decide) rfl (by decide) rfl (by decide) (fun ce9 q9 H locs hk0 hP hD hS hce hcv hcl => ?_) (fun H locs hk0 hP hD hS => ?_)
  · have h := sp_f hk0 h
    by_cases e3 : o1.1 = 3
    · have h := sp_t e3 h
      rw [e3] at hcl
      refine vx_catch (E := "java/lang/IndexOutOfBoundsException") (name := "java/lang/IndexOutOfBoundsException") hown [] (⟨0, 9, 12, 21⟩ : ExceptionTableEntry) [] hxt (fun z hz => by cases hz) (by decide) (by decide) (hts (.classLink RL 21 "java/lang/IndexOutOfBoundsException") (by decide +kernel)) (va_Nw.use rfl (hXB.2.2.2.2.2.1)) hce hcv hcl ?_
      refine lv_astore_n (lv' := [(3, .ref q9), (0, .ref xa), (1, .int i1), (2, .ref oa)]) hx hb dL_allNeeds_12 rfl hl (by decide) rfl (fun ls hl => ?_)
      refine lv_iconst (v := (1 : Int32)) hx hb dL_allNeeds_13 (by decide) ?_
      obtain rfl := sp_s h
      exact xk_reL hx hb hr hlk hP hD hS rfl dL_allNeeds_14 (Nat.le_refl _) (Nat.le_refl _)
    · have h := sp_f e3 h
      exact sp_n h
  · have h := sp_t hk0 h
    have hP : va_P G.1 vwCl (wXO xa (ya 0) la (pa 0) (qa 0) ++ (wLO G la lo ++ (wSYc G ya yy_0 yy_1 yy_2 yy_3 yy_4 yy_5 yy_6 yy_7 yy_8 ++ (wPLc G pa pp_0 pp_1 pp_2 pp_3 pp_4 pp_5 pp_6 pp_7 pp_8 ++ (wPLc G qa qq_0 qq_1 qq_2 qq_3 qq_4 qq_5 qq_6 qq_7 qq_8 ++ (wOU G oa ou)))))) H := hP
    have hD : va_D A (wXO xa (ya 0) la (pa 0) (qa 0) ++ (wLO G la lo ++ (wSYc G ya yy_0 yy_1 yy_2 yy_3 yy_4 yy_5 yy_6 yy_7 yy_8 ++ (wPLc G pa pp_0 pp_1 pp_2 pp_3 pp_4 pp_5 pp_6 pp_7 pp_8 ++ (wPLc G qa qq_0 qq_1 qq_2 qq_3 qq_4 qq_5 qq_6 qq_7 qq_8 ++ (wOU G oa ou)))))) := hD
    refine lv_i2l (v := o1.2.toInt64) hx hb dL_allNeeds_7 rfl ?_
    refine va_last hx hb hK hP hD hS 25 2 rfl rfl (xk_in0_1) dL_allNeeds_8 (fun H locs hP hD hS => ?_)
    have hP : va_P G.1 vwCl (wXO xa (ya 0) la (pa 0) (qa 0) ++ (wLO G la lo ++ (wSYc G ya yy_0 yy_1 yy_2 yy_3 yy_4 yy_5 yy_6 yy_7 yy_8 ++ (wPLc G pa pp_0 pp_1 pp_2 pp_3 pp_4 pp_5 pp_6 pp_7 pp_8 ++ (wPLc G qa qq_0 qq_1 qq_2 qq_3 qq_4 qq_5 qq_6 qq_7 qq_8 ++ (wOU G oa (vp_updL ou (0 : Int32).toNatClampNeg o1.2.toInt64))))))) H := hP
    have hD : va_D A (wXO xa (ya 0) la (pa 0) (qa 0) ++ (wLO G la lo ++ (wSYc G ya yy_0 yy_1 yy_2 yy_3 yy_4 yy_5 yy_6 yy_7 yy_8 ++ (wPLc G pa pp_0 pp_1 pp_2 pp_3 pp_4 pp_5 pp_6 pp_7 pp_8 ++ (wPLc G qa qq_0 qq_1 qq_2 qq_3 qq_4 qq_5 qq_6 qq_7 qq_8 ++ (wOU G oa (vp_updL ou (0 : Int32).toNatClampNeg o1.2.toInt64))))))) := hD
    refine lv_goto (tgt := 15) hx hb dL_allNeeds_9 (by decide) ?_
    refine lv_iconst (v := (0 : Int32)) hx hb dL_allNeeds_15 (by decide) ?_
    obtain rfl := sp_s h
    exact xk_reL hx hb hr hlk hP hD hS rfl dL_allNeeds_16 (Nat.le_refl _) (Nat.le_refl _)
def f_L_ordered (lo : xF) (yy : xSY) (pp : xPL) (qq : xPL) (ou : (Nat → Int64)) (i1 : Int32) : Option (Int32 × (Nat → Int64)) :=
  Option.bind (f_X2_ordered lo (yy.1, yy.2.1, yy.2.2.1, yy.2.2.2.1, yy.2.2.2.2.1, yy.2.2.2.2.2.1, yy.2.2.2.2.2.2.1, yy.2.2.2.2.2.2.2.1, yy.2.2.2.2.2.2.2.2) (pp.1, pp.2.1, pp.2.2.1, pp.2.2.2.1, pp.2.2.2.2.1, pp.2.2.2.2.2.1, pp.2.2.2.2.2.2.1, pp.2.2.2.2.2.2.2.1, pp.2.2.2.2.2.2.2.2) (qq.1, qq.2.1, qq.2.2.1, qq.2.2.2.1, qq.2.2.2.2.1, qq.2.2.2.2.2.1, qq.2.2.2.2.2.2.1, qq.2.2.2.2.2.2.2.1, qq.2.2.2.2.2.2.2.2) i1) fun (o1 : Nat × Int32) =>
  if o1.1 = 0 then
    some ((0 : Int32), (vp_updL ou (0 : Int32).toNatClampNeg o1.2.toInt64))
  else
    if o1.1 = 3 then
      some ((1 : Int32), ou)
    else
      none
theorem f_L_ordered_e (lo : xF) (yy_0 : Int32) (yy_1 : xF) (yy_2 : xF) (yy_3 : xF) (yy_4 : xF) (yy_5 : xF) (yy_6 : xF) (yy_7 : xF) (yy_8 : xF) (pp_0 : xF) (pp_1 : xF) (pp_2 : xF) (pp_3 : xF) (pp_4 : xF) (pp_5 : xF) (pp_6 : Int32) (pp_7 : Int32) (pp_8 : Int32) (qq_0 : xF) (qq_1 : xF) (qq_2 : xF) (qq_3 : xF) (qq_4 : xF) (qq_5 : xF) (qq_6 : Int32) (qq_7 : Int32) (qq_8 : Int32) (ou : (Nat → Int64)) (i1 : Int32) : f_L_ordered lo (yy_0, yy_1, yy_2, yy_3, yy_4, yy_5, yy_6, yy_7, yy_8) (pp_0, pp_1, pp_2, pp_3, pp_4, pp_5, pp_6, pp_7, pp_8) (qq_0, qq_1, qq_2, qq_3, qq_4, qq_5, qq_6, qq_7, qq_8) ou i1 =
  Option.bind (f_X2_ordered lo (yy_0, yy_1, yy_2, yy_3, yy_4, yy_5, yy_6, yy_7, yy_8) (pp_0, pp_1, pp_2, pp_3, pp_4, pp_5, pp_6, pp_7, pp_8) (qq_0, qq_1, qq_2, qq_3, qq_4, qq_5, qq_6, qq_7, qq_8) i1) fun (o1 : Nat × Int32) =>
  if o1.1 = 0 then
    some ((0 : Int32), (vp_updL ou (0 : Int32).toNatClampNeg o1.2.toInt64))
  else
    if o1.1 = 3 then
      some ((1 : Int32), ou)
    else
      none := rfl
set_option maxHeartbeats 4000000 in
set_option maxRecDepth 100000 in
theorem c_L_ordered (l : Launch) (hl9 : l.stackTraces = false) (G : xG) (xa : Nat) (la : Nat) (ya : (Nat → Nat)) (pa : (Nat → Nat)) (qa : (Nat → Nat)) (oa : Nat) (lo : xF) (yy : xSY) (pp : xPL) (qq : xPL) (ou : (Nat → Int64)) (i1 : Int32) (o : Int32 × (Nat → Int64)) (h : f_L_ordered lo yy pp qq ou i1 = some o) : xk_CL l yL_ordered wsL_ordered ({ frames := 7, cells := 1, slots := 6, locals := 111 } : Room) [.ref xa, .int i1, .ref oa] G (wXO xa (ya 0) la (pa 0) (qa 0) ++ (wLO G la lo ++ (wSYc G ya yy.1 yy.2.1 yy.2.2.1 yy.2.2.2.1 yy.2.2.2.2.1 yy.2.2.2.2.2.1 yy.2.2.2.2.2.2.1 yy.2.2.2.2.2.2.2.1 yy.2.2.2.2.2.2.2.2 ++ (wPLc G pa pp.1 pp.2.1 pp.2.2.1 pp.2.2.2.1 pp.2.2.2.2.1 pp.2.2.2.2.2.1 pp.2.2.2.2.2.2.1 pp.2.2.2.2.2.2.2.1 pp.2.2.2.2.2.2.2.2 ++ (wPLc G qa qq.1 qq.2.1 qq.2.2.1 qq.2.2.2.1 qq.2.2.2.2.1 qq.2.2.2.2.2.1 qq.2.2.2.2.2.2.1 qq.2.2.2.2.2.2.2.1 qq.2.2.2.2.2.2.2.2 ++ (wOU G oa ou)))))) (wXO xa (ya 0) la (pa 0) (qa 0) ++ (wLO G la lo ++ (wSYc G ya yy.1 yy.2.1 yy.2.2.1 yy.2.2.2.1 yy.2.2.2.2.1 yy.2.2.2.2.2.1 yy.2.2.2.2.2.2.1 yy.2.2.2.2.2.2.2.1 yy.2.2.2.2.2.2.2.2 ++ (wPLc G pa pp.1 pp.2.1 pp.2.2.1 pp.2.2.2.1 pp.2.2.2.2.1 pp.2.2.2.2.2.1 pp.2.2.2.2.2.2.1 pp.2.2.2.2.2.2.2.1 pp.2.2.2.2.2.2.2.2 ++ (wPLc G qa qq.1 qq.2.1 qq.2.2.1 qq.2.2.2.1 qq.2.2.2.2.1 qq.2.2.2.2.2.1 qq.2.2.2.2.2.2.1 qq.2.2.2.2.2.2.2.1 qq.2.2.2.2.2.2.2.2 ++ (wOU G oa o.2)))))) o.1 := by
  obtain ⟨yy_0, yy_1, yy_2, yy_3, yy_4, yy_5, yy_6, yy_7, yy_8⟩ := yy
  obtain ⟨pp_0, pp_1, pp_2, pp_3, pp_4, pp_5, pp_6, pp_7, pp_8⟩ := pp
  obtain ⟨qq_0, qq_1, qq_2, qq_3, qq_4, qq_5, qq_6, qq_7, qq_8⟩ := qq
  refine xk_CL.of (cc := cL_ordered) (maxL := 4) (ret := (some .int)) (by decide) rfl (Nat.le_of_ble_eq_true rfl) ?_
  intro pr9 en9 s mm9 bl9 meth9 cd9 A ls H locs hx hb hr hml hts hown hlk hA hP hK hD hNE hS hl hXB hSR hZX hxt
  have hown : s.vm.findClass RL = some mm9.cls := hown
  have hl : lv_has ls 4 [(0, .ref xa), (1, .int i1), (2, .ref oa)] := hl
  have hP : va_P G.1 vwCl (wXO xa (ya 0) la (pa 0) (qa 0) ++ (wLO G la lo ++ (wSYc G ya yy_0 yy_1 yy_2 yy_3 yy_4 yy_5 yy_6 yy_7 yy_8 ++ (wPLc G pa pp_0 pp_1 pp_2 pp_3 pp_4 pp_5 pp_6 pp_7 pp_8 ++ (wPLc G qa qq_0 qq_1 qq_2 qq_3 qq_4 qq_5 qq_6 qq_7 qq_8 ++ (wOU G oa ou)))))) H := hP
  have hD : va_D A (wXO xa (ya 0) la (pa 0) (qa 0) ++ (wLO G la lo ++ (wSYc G ya yy_0 yy_1 yy_2 yy_3 yy_4 yy_5 yy_6 yy_7 yy_8 ++ (wPLc G pa pp_0 pp_1 pp_2 pp_3 pp_4 pp_5 pp_6 pp_7 pp_8 ++ (wPLc G qa qq_0 qq_1 qq_2 qq_3 qq_4 qq_5 qq_6 qq_7 qq_8 ++ (wOU G oa ou)))))) := hD
  have h := (f_L_ordered_e lo yy_0 yy_1 yy_2 yy_3 yy_4 yy_5 yy_6 yy_7 yy_8 pp_0 pp_1 pp_2 pp_3 pp_4 pp_5 pp_6 pp_7 pp_8 qq_0 qq_1 qq_2 qq_3 qq_4 qq_5 qq_6 qq_7 qq_8 ou i1).symm.trans h
  refine lv_aload_n hx hb dL_ordered_0 rfl (lv_at hl 2 rfl) ?_
  refine lv_iconst (v := (0 : Int32)) hx hb dL_ordered_1 (by decide) ?_
  refine lv_aload_n hx hb dL_ordered_2 rfl (lv_at hl 0 rfl) ?_
  refine lv_iload_n hx hb dL_ordered_3 rfl (lv_at hl 1 rfl) ?_
  obtain ⟨o1, ho1, h⟩ := sp_b h
  refine xk_cx (vx_runV (As := [.int i1]) (rest := [.int (0 : Int32), .ref oa]) ⟨hx, hb, hml, hown, hts⟩ (c_X2_ordered l hl9 G xa la ya pa qa lo (yy_0, yy_1, yy_2, yy_3, yy_4, yy_5, yy_6, yy_7, yy_8) (pp_0, pp_1, pp_2, pp_3, pp_4, pp_5, pp_6, pp_7, pp_8) (qq_0, qq_1, qq_2, qq_3, qq_4, qq_5, qq_6, qq_7, qq_8) i1 o1 ho1 H.size) (cwV 1 hts gL_ordered_X2_ordered rfl rfl rfl (by decide +kernel) ⟨Nat.le_of_ble_eq_true rfl, Nat.le_of_ble_eq_true rfl⟩) (xk_preVX hK hNE hXB hSR hZX hS (va_free (wc := (wXO xa (ya 0) la (pa 0) (qa 0) ++ (wLO G la lo ++ (wSYc G ya yy_0 yy_1 yy_2 yy_3 yy_4 yy_5 yy_6 yy_7 yy_8 ++ (wPLc G pa pp_0 pp_1 pp_2 pp_3 pp_4 pp_5 pp_6 pp_7 pp_8 ++ (wPLc G qa qq_0 qq_1 qq_2 qq_3 qq_4 qq_5 qq_6 qq_7 qq_8)))))) hD hS hA [0, 1, 2, 3, 4, 5, 6, 7, 8, 9, 10, 11, 12, 13, 14, 15, 16, 17, 18, 19, 20, 21, 22, 23, 24] rfl) (hP.sub (ws' := (wXO xa (ya 0) la (pa 0) (qa 0) ++ (wLO G la lo ++ (wSYc G ya yy_0 yy_1 yy_2 yy_3 yy_4 yy_5 yy_6 yy_7 yy_8 ++ (wPLc G pa pp_0 pp_1 pp_2 pp_3 pp_4 pp_5 pp_6 pp_7 pp_8 ++ (wPLc G qa qq_0 qq_1 qq_2 qq_3 qq_4 qq_5 qq_6 qq_7 qq_8)))))) [0, 1, 2, 3, 4, 5, 6, 7, 8, 9, 10, 11, 12, 13, 14, 15, 16, 17, 18, 19, 20, 21, 22, 23, 24] rfl) (hD.sub (ws' := (wXO xa (ya 0) la (pa 0) (qa 0) ++ (wLO G la lo ++ (wSYc G ya yy_0 yy_1 yy_2 yy_3 yy_4 yy_5 yy_6 yy_7 yy_8 ++ (wPLc G pa pp_0 pp_1 pp_2 pp_3 pp_4 pp_5 pp_6 pp_7 pp_8 ++ (wPLc G qa qq_0 qq_1 qq_2 qq_3 qq_4 qq_5 qq_6 qq_7 qq_8)))))) [0, 1, 2, 3, 4, 5, 6, 7, 8, 9, 10, 11, 12, 13, 14, 15, 16, 17, 18, 19, 20, 21, 22, 23, 24] (by decide) rfl) (ci := 2) rfl rfl) rfl rfl hl.1 rfl (lv_room (Nat.le_of_ble_eq_true rfl)) dL_ordered_4 ⟨Nat.le_of_ble_eq_true rfl, Nat.le_of_ble_eq_true rfl⟩) hP hD hS hA [0, 1, 2, 3, 4, 5, 6, 7, 8, 9, 10, 11, 12, 13, 14, 15, 16, 17, 18, 19, 20, 21, 22, 23, 24] [25] [1, 2, 3, 4, 5, 6, 7, 8, 9, 10, 11, 12, 13, 14, 15, 16, 17, 18, 19, 20, 21, 22, 23, 24, 25, 0] [1, 2, 3, 4, 5, 6, 7, 8, 9, 10, 11, 12, 13, 14, 15, 16, 17, 18, 19, 20, 21, 22, 23, 24, 25, 0] rfl rfl (by decide) (by decide) rfl (by decide) rfl (by decide) (fun ce9 q9 H locs hk0 hP hD hS hce hcv hcl => ?_) (fun H locs hk0 hP hD hS => ?_)
  · have h := sp_f hk0 h
    by_cases e3 : o1.1 = 3
    · have h := sp_t e3 h
      rw [e3] at hcl
      refine vx_catch (E := "java/lang/IndexOutOfBoundsException") (name := "java/lang/IndexOutOfBoundsException") hown [] (⟨0, 9, 12, 21⟩ : ExceptionTableEntry) [] hxt (fun z hz => by cases hz) (by decide) (by decide) (hts (.classLink RL 21 "java/lang/IndexOutOfBoundsException") (by decide +kernel)) (va_Nw.use rfl (hXB.2.2.2.2.2.1)) hce hcv hcl ?_
      refine lv_astore_n (lv' := [(3, .ref q9), (0, .ref xa), (1, .int i1), (2, .ref oa)]) hx hb dL_ordered_12 rfl hl (by decide) rfl (fun ls hl => ?_)
      refine lv_iconst (v := (1 : Int32)) hx hb dL_ordered_13 (by decide) ?_
      obtain rfl := sp_s h
      exact xk_reL hx hb hr hlk hP hD hS rfl dL_ordered_14 (Nat.le_refl _) (Nat.le_refl _)
    · have h := sp_f e3 h
      exact sp_n h
  · have h := sp_t hk0 h
    have hP : va_P G.1 vwCl (wXO xa (ya 0) la (pa 0) (qa 0) ++ (wLO G la lo ++ (wSYc G ya yy_0 yy_1 yy_2 yy_3 yy_4 yy_5 yy_6 yy_7 yy_8 ++ (wPLc G pa pp_0 pp_1 pp_2 pp_3 pp_4 pp_5 pp_6 pp_7 pp_8 ++ (wPLc G qa qq_0 qq_1 qq_2 qq_3 qq_4 qq_5 qq_6 qq_7 qq_8 ++ (wOU G oa ou)))))) H := hP
    have hD : va_D A (wXO xa (ya 0) la (pa 0) (qa 0) ++ (wLO G la lo ++ (wSYc G ya yy_0 yy_1 yy_2 yy_3 yy_4 yy_5 yy_6 yy_7 yy_8 ++ (wPLc G pa pp_0 pp_1 pp_2 pp_3 pp_4 pp_5 pp_6 pp_7 pp_8 ++ (wPLc G qa qq_0 qq_1 qq_2 qq_3 qq_4 qq_5 qq_6 qq_7 qq_8 ++ (wOU G oa ou)))))) := hD
    refine lv_i2l (v := o1.2.toInt64) hx hb dL_ordered_7 rfl ?_
    refine va_last hx hb hK hP hD hS 25 2 rfl rfl (xk_in0_1) dL_ordered_8 (fun H locs hP hD hS => ?_)
    have hP : va_P G.1 vwCl (wXO xa (ya 0) la (pa 0) (qa 0) ++ (wLO G la lo ++ (wSYc G ya yy_0 yy_1 yy_2 yy_3 yy_4 yy_5 yy_6 yy_7 yy_8 ++ (wPLc G pa pp_0 pp_1 pp_2 pp_3 pp_4 pp_5 pp_6 pp_7 pp_8 ++ (wPLc G qa qq_0 qq_1 qq_2 qq_3 qq_4 qq_5 qq_6 qq_7 qq_8 ++ (wOU G oa (vp_updL ou (0 : Int32).toNatClampNeg o1.2.toInt64))))))) H := hP
    have hD : va_D A (wXO xa (ya 0) la (pa 0) (qa 0) ++ (wLO G la lo ++ (wSYc G ya yy_0 yy_1 yy_2 yy_3 yy_4 yy_5 yy_6 yy_7 yy_8 ++ (wPLc G pa pp_0 pp_1 pp_2 pp_3 pp_4 pp_5 pp_6 pp_7 pp_8 ++ (wPLc G qa qq_0 qq_1 qq_2 qq_3 qq_4 qq_5 qq_6 qq_7 qq_8 ++ (wOU G oa (vp_updL ou (0 : Int32).toNatClampNeg o1.2.toInt64))))))) := hD
    refine lv_goto (tgt := 15) hx hb dL_ordered_9 (by decide) ?_
    refine lv_iconst (v := (0 : Int32)) hx hb dL_ordered_15 (by decide) ?_
    obtain rfl := sp_s h
    exact xk_reL hx hb hr hlk hP hD hS rfl dL_ordered_16 (Nat.le_refl _) (Nat.le_refl _)
def f_L_lose (lo : xF) (yy : xSY) (pp : xPL) (qq : xPL) (ou : (Nat → Int64)) (i1 : Int32) : Option (Int32 × xF × xPL × xPL × (Nat → Int64)) :=
  Option.bind (f_X2_lose lo (yy.1, yy.2.1, yy.2.2.1, yy.2.2.2.1, yy.2.2.2.2.1, yy.2.2.2.2.2.1, yy.2.2.2.2.2.2.1, yy.2.2.2.2.2.2.2.1, yy.2.2.2.2.2.2.2.2) (pp.1, pp.2.1, pp.2.2.1, pp.2.2.2.1, pp.2.2.2.2.1, pp.2.2.2.2.2.1, pp.2.2.2.2.2.2.1, pp.2.2.2.2.2.2.2.1, pp.2.2.2.2.2.2.2.2) (qq.1, qq.2.1, qq.2.2.1, qq.2.2.2.1, qq.2.2.2.2.1, qq.2.2.2.2.2.1, qq.2.2.2.2.2.2.1, qq.2.2.2.2.2.2.2.1, qq.2.2.2.2.2.2.2.2) i1) fun (o1 : Nat × Int32 × xF × xPL × xPL) =>
  if o1.1 = 0 then
    some ((0 : Int32), o1.2.2.1, o1.2.2.2.1, o1.2.2.2.2, (vp_updL ou (0 : Int32).toNatClampNeg o1.2.1.toInt64))
  else
    if o1.1 = 3 then
      some ((1 : Int32), lo, (pp.1, pp.2.1, pp.2.2.1, pp.2.2.2.1, pp.2.2.2.2.1, pp.2.2.2.2.2.1, pp.2.2.2.2.2.2.1, pp.2.2.2.2.2.2.2.1, pp.2.2.2.2.2.2.2.2), (qq.1, qq.2.1, qq.2.2.1, qq.2.2.2.1, qq.2.2.2.2.1, qq.2.2.2.2.2.1, qq.2.2.2.2.2.2.1, qq.2.2.2.2.2.2.2.1, qq.2.2.2.2.2.2.2.2), ou)
    else
      if o1.1 = 2 then
        some ((2 : Int32), lo, (pp.1, pp.2.1, pp.2.2.1, pp.2.2.2.1, pp.2.2.2.2.1, pp.2.2.2.2.2.1, pp.2.2.2.2.2.2.1, pp.2.2.2.2.2.2.2.1, pp.2.2.2.2.2.2.2.2), (qq.1, qq.2.1, qq.2.2.1, qq.2.2.2.1, qq.2.2.2.2.1, qq.2.2.2.2.2.1, qq.2.2.2.2.2.2.1, qq.2.2.2.2.2.2.2.1, qq.2.2.2.2.2.2.2.2), ou)
      else
        none
theorem f_L_lose_e (lo : xF) (yy_0 : Int32) (yy_1 : xF) (yy_2 : xF) (yy_3 : xF) (yy_4 : xF) (yy_5 : xF) (yy_6 : xF) (yy_7 : xF) (yy_8 : xF) (pp_0 : xF) (pp_1 : xF) (pp_2 : xF) (pp_3 : xF) (pp_4 : xF) (pp_5 : xF) (pp_6 : Int32) (pp_7 : Int32) (pp_8 : Int32) (qq_0 : xF) (qq_1 : xF) (qq_2 : xF) (qq_3 : xF) (qq_4 : xF) (qq_5 : xF) (qq_6 : Int32) (qq_7 : Int32) (qq_8 : Int32) (ou : (Nat → Int64)) (i1 : Int32) : f_L_lose lo (yy_0, yy_1, yy_2, yy_3, yy_4, yy_5, yy_6, yy_7, yy_8) (pp_0, pp_1, pp_2, pp_3, pp_4, pp_5, pp_6, pp_7, pp_8) (qq_0, qq_1, qq_2, qq_3, qq_4, qq_5, qq_6, qq_7, qq_8) ou i1 =
  Option.bind (f_X2_lose lo (yy_0, yy_1, yy_2, yy_3, yy_4, yy_5, yy_6, yy_7, yy_8) (pp_0, pp_1, pp_2, pp_3, pp_4, pp_5, pp_6, pp_7, pp_8) (qq_0, qq_1, qq_2, qq_3, qq_4, qq_5, qq_6, qq_7, qq_8) i1) fun (o1 : Nat × Int32 × xF × xPL × xPL) =>
  if o1.1 = 0 then
    some ((0 : Int32), o1.2.2.1, o1.2.2.2.1, o1.2.2.2.2, (vp_updL ou (0 : Int32).toNatClampNeg o1.2.1.toInt64))
  else
    if o1.1 = 3 then
      some ((1 : Int32), lo, (pp_0, pp_1, pp_2, pp_3, pp_4, pp_5, pp_6, pp_7, pp_8), (qq_0, qq_1, qq_2, qq_3, qq_4, qq_5, qq_6, qq_7, qq_8), ou)
    else
      if o1.1 = 2 then
        some ((2 : Int32), lo, (pp_0, pp_1, pp_2, pp_3, pp_4, pp_5, pp_6, pp_7, pp_8), (qq_0, qq_1, qq_2, qq_3, qq_4, qq_5, qq_6, qq_7, qq_8), ou)
      else
        none := rfl
set_option maxHeartbeats 4000000 in
set_option maxRecDepth 100000 in
theorem c_L_lose (l : Launch) (hl9 : l.stackTraces = false) (G : xG) (xa : Nat) (la : Nat) (ya : (Nat → Nat)) (pa : (Nat → Nat)) (qa : (Nat → Nat)) (oa : Nat) (lo : xF) (yy : xSY) (pp : xPL) (qq : xPL) (ou : (Nat → Int64)) (i1 : Int32) (o : Int32 × xF × xPL × xPL × (Nat → Int64)) (pa1 qa1 : Nat → Nat) (hpq : (o.1 = 0 → pa1 = qa ∧ qa1 = pa) ∧ (¬ o.1 = 0 → pa1 = pa ∧ qa1 = qa)) (h : f_L_lose lo yy pp qq ou i1 = some o) : xk_CL l yL_lose wsL_lose ({ frames := 7, cells := 1, slots := 6, locals := 160 } : Room) [.ref xa, .int i1, .ref oa] G (wXO xa (ya 0) la (pa 0) (qa 0) ++ (wLO G la lo ++ (wSYc G ya yy.1 yy.2.1 yy.2.2.1 yy.2.2.2.1 yy.2.2.2.2.1 yy.2.2.2.2.2.1 yy.2.2.2.2.2.2.1 yy.2.2.2.2.2.2.2.1 yy.2.2.2.2.2.2.2.2 ++ (wPLc G pa pp.1 pp.2.1 pp.2.2.1 pp.2.2.2.1 pp.2.2.2.2.1 pp.2.2.2.2.2.1 pp.2.2.2.2.2.2.1 pp.2.2.2.2.2.2.2.1 pp.2.2.2.2.2.2.2.2 ++ (wPLc G qa qq.1 qq.2.1 qq.2.2.1 qq.2.2.2.1 qq.2.2.2.2.1 qq.2.2.2.2.2.1 qq.2.2.2.2.2.2.1 qq.2.2.2.2.2.2.2.1 qq.2.2.2.2.2.2.2.2 ++ (wOU G oa ou)))))) (wXO xa (ya 0) la (pa1 0) (qa1 0) ++ (wLO G la o.2.1 ++ (wSYc G ya yy.1 yy.2.1 yy.2.2.1 yy.2.2.2.1 yy.2.2.2.2.1 yy.2.2.2.2.2.1 yy.2.2.2.2.2.2.1 yy.2.2.2.2.2.2.2.1 yy.2.2.2.2.2.2.2.2 ++ (wPLc G pa1 o.2.2.1.1 o.2.2.1.2.1 o.2.2.1.2.2.1 o.2.2.1.2.2.2.1 o.2.2.1.2.2.2.2.1 o.2.2.1.2.2.2.2.2.1 o.2.2.1.2.2.2.2.2.2.1 o.2.2.1.2.2.2.2.2.2.2.1 o.2.2.1.2.2.2.2.2.2.2.2 ++ (wPLc G qa1 o.2.2.2.1.1 o.2.2.2.1.2.1 o.2.2.2.1.2.2.1 o.2.2.2.1.2.2.2.1 o.2.2.2.1.2.2.2.2.1 o.2.2.2.1.2.2.2.2.2.1 o.2.2.2.1.2.2.2.2.2.2.1 o.2.2.2.1.2.2.2.2.2.2.2.1 o.2.2.2.1.2.2.2.2.2.2.2.2 ++ (wOU G oa o.2.2.2.2)))))) o.1 := by
  obtain ⟨yy_0, yy_1, yy_2, yy_3, yy_4, yy_5, yy_6, yy_7, yy_8⟩ := yy
  obtain ⟨pp_0, pp_1, pp_2, pp_3, pp_4, pp_5, pp_6, pp_7, pp_8⟩ := pp
  obtain ⟨qq_0, qq_1, qq_2, qq_3, qq_4, qq_5, qq_6, qq_7, qq_8⟩ := qq
  refine xk_CL.of (cc := cL_lose) (maxL := 4) (ret := (some .int)) (by decide) rfl (Nat.le_of_ble_eq_true rfl) ?_
  intro pr9 en9 s mm9 bl9 meth9 cd9 A ls H locs hx hb hr hml hts hown hlk hA hP hK hD hNE hS hl hXB hSR hZX hxt
  have hown : s.vm.findClass RL = some mm9.cls := hown
  have hl : lv_has ls 4 [(0, .ref xa), (1, .int i1), (2, .ref oa)] := hl
  have hP : va_P G.1 vwCl (wXO xa (ya 0) la (pa 0) (qa 0) ++ (wLO G la lo ++ (wSYc G ya yy_0 yy_1 yy_2 yy_3 yy_4 yy_5 yy_6 yy_7 yy_8 ++ (wPLc G pa pp_0 pp_1 pp_2 pp_3 pp_4 pp_5 pp_6 pp_7 pp_8 ++ (wPLc G qa qq_0 qq_1 qq_2 qq_3 qq_4 qq_5 qq_6 qq_7 qq_8 ++ (wOU G oa ou)))))) H := hP
  have hD : va_D A (wXO xa (ya 0) la (pa 0) (qa 0) ++ (wLO G la lo ++ (wSYc G ya yy_0 yy_1 yy_2 yy_3 yy_4 yy_5 yy_6 yy_7 yy_8 ++ (wPLc G pa pp_0 pp_1 pp_2 pp_3 pp_4 pp_5 pp_6 pp_7 pp_8 ++ (wPLc G qa qq_0 qq_1 qq_2 qq_3 qq_4 qq_5 qq_6 qq_7 qq_8 ++ (wOU G oa ou)))))) := hD
  have h := (f_L_lose_e lo yy_0 yy_1 yy_2 yy_3 yy_4 yy_5 yy_6 yy_7 yy_8 pp_0 pp_1 pp_2 pp_3 pp_4 pp_5 pp_6 pp_7 pp_8 qq_0 qq_1 qq_2 qq_3 qq_4 qq_5 qq_6 qq_7 qq_8 ou i1).symm.trans h
  refine lv_aload_n hx hb dL_lose_0 rfl (lv_at hl 2 rfl) ?_
  refine lv_iconst (v := (0 : Int32)) hx hb dL_lose_1 (by decide) ?_
  refine lv_aload_n hx hb dL_lose_2 rfl (lv_at hl 0 rfl) ?_
  refine lv_iload_n hx hb dL_lose_3 rfl (lv_at hl 1 rfl) ?_
  obtain ⟨o1, ho1, h⟩ := sp_b h
  refine xk_cx (vx_runV (As := [.int i1]) (rest := [.int (0 : Int32), .ref oa]) ⟨hx, hb, hml, hown, hts⟩ (c_X2_lose l hl9 G xa la ya pa qa lo (yy_0, yy_1, yy_2, yy_3, yy_4, yy_5, yy_6, yy_7, yy_8) (pp_0, pp_1, pp_2, pp_3, pp_4, pp_5, pp_6, pp_7, pp_8) (qq_0, qq_1, qq_2, qq_3, qq_4, qq_5, qq_6, qq_7, qq_8) i1 o1 ho1 H.size) (cwV 1 hts gL_lose_X2_lose rfl rfl rfl (by decide +kernel) ⟨Nat.le_of_ble_eq_true rfl, Nat.le_of_ble_eq_true rfl⟩) (xk_preVX hK hNE hXB hSR hZX hS (va_free (wc := (wXO xa (ya 0) la (pa 0) (qa 0) ++ (wLO G la lo ++ (wSYc G ya yy_0 yy_1 yy_2 yy_3 yy_4 yy_5 yy_6 yy_7 yy_8 ++ (wPLc G pa pp_0 pp_1 pp_2 pp_3 pp_4 pp_5 pp_6 pp_7 pp_8 ++ (wPLc G qa qq_0 qq_1 qq_2 qq_3 qq_4 qq_5 qq_6 qq_7 qq_8)))))) hD hS hA [0, 1, 2, 3, 4, 5, 6, 7, 8, 9, 10, 11, 12, 13, 14, 15, 16, 17, 18, 19, 20, 21, 22, 23, 24] rfl) (hP.sub (ws' := (wXO xa (ya 0) la (pa 0) (qa 0) ++ (wLO G la lo ++ (wSYc G ya yy_0 yy_1 yy_2 yy_3 yy_4 yy_5 yy_6 yy_7 yy_8 ++ (wPLc G pa pp_0 pp_1 pp_2 pp_3 pp_4 pp_5 pp_6 pp_7 pp_8 ++ (wPLc G qa qq_0 qq_1 qq_2 qq_3 qq_4 qq_5 qq_6 qq_7 qq_8)))))) [0, 1, 2, 3, 4, 5, 6, 7, 8, 9, 10, 11, 12, 13, 14, 15, 16, 17, 18, 19, 20, 21, 22, 23, 24] rfl) (hD.sub (ws' := (wXO xa (ya 0) la (pa 0) (qa 0) ++ (wLO G la lo ++ (wSYc G ya yy_0 yy_1 yy_2 yy_3 yy_4 yy_5 yy_6 yy_7 yy_8 ++ (wPLc G pa pp_0 pp_1 pp_2 pp_3 pp_4 pp_5 pp_6 pp_7 pp_8 ++ (wPLc G qa qq_0 qq_1 qq_2 qq_3 qq_4 qq_5 qq_6 qq_7 qq_8)))))) [0, 1, 2, 3, 4, 5, 6, 7, 8, 9, 10, 11, 12, 13, 14, 15, 16, 17, 18, 19, 20, 21, 22, 23, 24] (by decide) rfl) (ci := 2) rfl rfl) rfl rfl hl.1 rfl (lv_room (Nat.le_of_ble_eq_true rfl)) dL_lose_4 ⟨Nat.le_of_ble_eq_true rfl, Nat.le_of_ble_eq_true rfl⟩) hP hD hS hA [0, 1, 2, 3, 4, 5, 6, 7, 8, 9, 10, 11, 12, 13, 14, 15, 16, 17, 18, 19, 20, 21, 22, 23, 24] [25] [1, 2, 3, 4, 5, 6, 7, 8, 9, 10, 11, 19, 20, 21, 22, 23, 24, 25, 12, 13, 14, 15, 16, 17, 18, 0] [1, 2, 3, 4, 5, 6, 7, 8, 9, 10, 11, 12, 13, 14, 15, 16, 17, 18, 19, 20, 21, 22, 23, 24, 25, 0] rfl rfl (by decide) (by decide) rfl (by decide) rfl (by decide) (fun ce9 q9 H locs hk0 hP hD hS hce hcv hcl => ?_) (fun H locs hk0 hP hD hS => ?_)
  · have h := sp_f hk0 h
    by_cases e3 : o1.1 = 3
    · have h := sp_t e3 h
      rw [e3] at hcl
      refine vx_catch (E := "java/lang/IndexOutOfBoundsException") (name := "java/lang/IndexOutOfBoundsException") hown [] (⟨0, 9, 12, 21⟩ : ExceptionTableEntry) [(⟨0, 9, 15, 15⟩ : ExceptionTableEntry)] hxt (fun z hz => by cases hz) (by decide) (by decide) (hts (.classLink RL 21 "java/lang/IndexOutOfBoundsException") (by decide +kernel)) (va_Nw.use rfl (hXB.2.2.2.2.2.1)) hce hcv hcl ?_
      refine lv_astore_n (lv' := [(3, .ref q9), (0, .ref xa), (1, .int i1), (2, .ref oa)]) hx hb dL_lose_12 rfl hl (by decide) rfl (fun ls hl => ?_)
      refine lv_iconst (v := (1 : Int32)) hx hb dL_lose_13 (by decide) ?_
      obtain rfl := sp_s h
      obtain ⟨h8, h9⟩ := hpq.2 (show ¬ (1 : Int32) = 0 by decide)
      subst pa1
      subst qa1
      exact xk_reL hx hb hr hlk hP hD hS rfl dL_lose_14 (Nat.le_refl _) (Nat.le_refl _)
    · have h := sp_f e3 h
      by_cases e2 : o1.1 = 2
      · have h := sp_t e2 h
        rw [e2] at hcl
        refine vx_catch (E := "java/lang/IllegalStateException") (name := "java/lang/IllegalStateException") hown [(⟨0, 9, 12, 21⟩ : ExceptionTableEntry)] (⟨0, 9, 15, 15⟩ : ExceptionTableEntry) [] hxt (by intro z hz; simp only [List.mem_cons, List.not_mem_nil, or_false] at hz; rcases hz with rfl; exact Or.inr ⟨by decide, "java/lang/IndexOutOfBoundsException", hts (.classLink RL 21 "java/lang/IndexOutOfBoundsException") (by decide +kernel), hXB.2.2.2.2.2.2.2.2.2.1⟩) (by decide) (by decide) (hts (.classLink RL 15 "java/lang/IllegalStateException") (by decide +kernel)) (va_Nw.use rfl (hXB.2.2.2.2.1)) hce hcv hcl ?_
        refine lv_astore_n (lv' := [(3, .ref q9), (0, .ref xa), (1, .int i1), (2, .ref oa)]) hx hb dL_lose_15 rfl hl (by decide) rfl (fun ls hl => ?_)
        refine lv_iconst (v := (2 : Int32)) hx hb dL_lose_16 (by decide) ?_
        obtain rfl := sp_s h
        obtain ⟨h8, h9⟩ := hpq.2 (show ¬ (2 : Int32) = 0 by decide)
        subst pa1
        subst qa1
        exact xk_reL hx hb hr hlk hP hD hS rfl dL_lose_17 (Nat.le_refl _) (Nat.le_refl _)
      · have h := sp_f e2 h
        exact sp_n h
  · have h := sp_t hk0 h
    have hP : va_P G.1 vwCl (wXO xa (ya 0) la (qa 0) (pa 0) ++ (wLO G la o1.2.2.1 ++ (wSYc G ya yy_0 yy_1 yy_2 yy_3 yy_4 yy_5 yy_6 yy_7 yy_8 ++ (wPLc G pa o1.2.2.2.2.1 o1.2.2.2.2.2.1 o1.2.2.2.2.2.2.1 o1.2.2.2.2.2.2.2.1 o1.2.2.2.2.2.2.2.2.1 o1.2.2.2.2.2.2.2.2.2.1 o1.2.2.2.2.2.2.2.2.2.2.1 o1.2.2.2.2.2.2.2.2.2.2.2.1 o1.2.2.2.2.2.2.2.2.2.2.2.2 ++ (wPLc G qa o1.2.2.2.1.1 o1.2.2.2.1.2.1 o1.2.2.2.1.2.2.1 o1.2.2.2.1.2.2.2.1 o1.2.2.2.1.2.2.2.2.1 o1.2.2.2.1.2.2.2.2.2.1 o1.2.2.2.1.2.2.2.2.2.2.1 o1.2.2.2.1.2.2.2.2.2.2.2.1 o1.2.2.2.1.2.2.2.2.2.2.2.2 ++ (wOU G oa ou)))))) H := hP
    have hD : va_D A (wXO xa (ya 0) la (qa 0) (pa 0) ++ (wLO G la o1.2.2.1 ++ (wSYc G ya yy_0 yy_1 yy_2 yy_3 yy_4 yy_5 yy_6 yy_7 yy_8 ++ (wPLc G pa o1.2.2.2.2.1 o1.2.2.2.2.2.1 o1.2.2.2.2.2.2.1 o1.2.2.2.2.2.2.2.1 o1.2.2.2.2.2.2.2.2.1 o1.2.2.2.2.2.2.2.2.2.1 o1.2.2.2.2.2.2.2.2.2.2.1 o1.2.2.2.2.2.2.2.2.2.2.2.1 o1.2.2.2.2.2.2.2.2.2.2.2.2 ++ (wPLc G qa o1.2.2.2.1.1 o1.2.2.2.1.2.1 o1.2.2.2.1.2.2.1 o1.2.2.2.1.2.2.2.1 o1.2.2.2.1.2.2.2.2.1 o1.2.2.2.1.2.2.2.2.2.1 o1.2.2.2.1.2.2.2.2.2.2.1 o1.2.2.2.1.2.2.2.2.2.2.2.1 o1.2.2.2.1.2.2.2.2.2.2.2.2 ++ (wOU G oa ou)))))) := hD
    refine lv_i2l (v := o1.2.1.toInt64) hx hb dL_lose_7 rfl ?_
    refine va_last hx hb hK hP hD hS 25 2 rfl rfl (xk_in0_1) dL_lose_8 (fun H locs hP hD hS => ?_)
    have hP : va_P G.1 vwCl (wXO xa (ya 0) la (qa 0) (pa 0) ++ (wLO G la o1.2.2.1 ++ (wSYc G ya yy_0 yy_1 yy_2 yy_3 yy_4 yy_5 yy_6 yy_7 yy_8 ++ (wPLc G pa o1.2.2.2.2.1 o1.2.2.2.2.2.1 o1.2.2.2.2.2.2.1 o1.2.2.2.2.2.2.2.1 o1.2.2.2.2.2.2.2.2.1 o1.2.2.2.2.2.2.2.2.2.1 o1.2.2.2.2.2.2.2.2.2.2.1 o1.2.2.2.2.2.2.2.2.2.2.2.1 o1.2.2.2.2.2.2.2.2.2.2.2.2 ++ (wPLc G qa o1.2.2.2.1.1 o1.2.2.2.1.2.1 o1.2.2.2.1.2.2.1 o1.2.2.2.1.2.2.2.1 o1.2.2.2.1.2.2.2.2.1 o1.2.2.2.1.2.2.2.2.2.1 o1.2.2.2.1.2.2.2.2.2.2.1 o1.2.2.2.1.2.2.2.2.2.2.2.1 o1.2.2.2.1.2.2.2.2.2.2.2.2 ++ (wOU G oa (vp_updL ou (0 : Int32).toNatClampNeg o1.2.1.toInt64))))))) H := hP
    have hD : va_D A (wXO xa (ya 0) la (qa 0) (pa 0) ++ (wLO G la o1.2.2.1 ++ (wSYc G ya yy_0 yy_1 yy_2 yy_3 yy_4 yy_5 yy_6 yy_7 yy_8 ++ (wPLc G pa o1.2.2.2.2.1 o1.2.2.2.2.2.1 o1.2.2.2.2.2.2.1 o1.2.2.2.2.2.2.2.1 o1.2.2.2.2.2.2.2.2.1 o1.2.2.2.2.2.2.2.2.2.1 o1.2.2.2.2.2.2.2.2.2.2.1 o1.2.2.2.2.2.2.2.2.2.2.2.1 o1.2.2.2.2.2.2.2.2.2.2.2.2 ++ (wPLc G qa o1.2.2.2.1.1 o1.2.2.2.1.2.1 o1.2.2.2.1.2.2.1 o1.2.2.2.1.2.2.2.1 o1.2.2.2.1.2.2.2.2.1 o1.2.2.2.1.2.2.2.2.2.1 o1.2.2.2.1.2.2.2.2.2.2.1 o1.2.2.2.1.2.2.2.2.2.2.2.1 o1.2.2.2.1.2.2.2.2.2.2.2.2 ++ (wOU G oa (vp_updL ou (0 : Int32).toNatClampNeg o1.2.1.toInt64))))))) := hD
    refine lv_goto (tgt := 18) hx hb dL_lose_9 (by decide) ?_
    refine lv_iconst (v := (0 : Int32)) hx hb dL_lose_18 (by decide) ?_
    obtain rfl := sp_s h
    obtain ⟨h8, h9⟩ := hpq.1 rfl
    subst pa1
    subst qa1
    exact xk_reL hx hb hr hlk (hP.sub (ws' := (wXO xa (ya 0) la (qa 0) (pa 0) ++ (wLO G la o1.2.2.1 ++ (wSYc G ya yy_0 yy_1 yy_2 yy_3 yy_4 yy_5 yy_6 yy_7 yy_8 ++ (wPLc G qa o1.2.2.2.1.1 o1.2.2.2.1.2.1 o1.2.2.2.1.2.2.1 o1.2.2.2.1.2.2.2.1 o1.2.2.2.1.2.2.2.2.1 o1.2.2.2.1.2.2.2.2.2.1 o1.2.2.2.1.2.2.2.2.2.2.1 o1.2.2.2.1.2.2.2.2.2.2.2.1 o1.2.2.2.1.2.2.2.2.2.2.2.2 ++ (wPLc G pa o1.2.2.2.2.1 o1.2.2.2.2.2.1 o1.2.2.2.2.2.2.1 o1.2.2.2.2.2.2.2.1 o1.2.2.2.2.2.2.2.2.1 o1.2.2.2.2.2.2.2.2.2.1 o1.2.2.2.2.2.2.2.2.2.2.1 o1.2.2.2.2.2.2.2.2.2.2.2.1 o1.2.2.2.2.2.2.2.2.2.2.2.2 ++ (wOU G oa (vp_updL ou (0 : Int32).toNatClampNeg o1.2.1.toInt64)))))))) [0, 1, 2, 3, 4, 5, 6, 7, 8, 9, 10, 18, 19, 20, 21, 22, 23, 24, 11, 12, 13, 14, 15, 16, 17, 25] rfl) (hD.sub (ws' := (wXO xa (ya 0) la (qa 0) (pa 0) ++ (wLO G la o1.2.2.1 ++ (wSYc G ya yy_0 yy_1 yy_2 yy_3 yy_4 yy_5 yy_6 yy_7 yy_8 ++ (wPLc G qa o1.2.2.2.1.1 o1.2.2.2.1.2.1 o1.2.2.2.1.2.2.1 o1.2.2.2.1.2.2.2.1 o1.2.2.2.1.2.2.2.2.1 o1.2.2.2.1.2.2.2.2.2.1 o1.2.2.2.1.2.2.2.2.2.2.1 o1.2.2.2.1.2.2.2.2.2.2.2.1 o1.2.2.2.1.2.2.2.2.2.2.2.2 ++ (wPLc G pa o1.2.2.2.2.1 o1.2.2.2.2.2.1 o1.2.2.2.2.2.2.1 o1.2.2.2.2.2.2.2.1 o1.2.2.2.2.2.2.2.2.1 o1.2.2.2.2.2.2.2.2.2.1 o1.2.2.2.2.2.2.2.2.2.2.1 o1.2.2.2.2.2.2.2.2.2.2.2.1 o1.2.2.2.2.2.2.2.2.2.2.2.2 ++ (wOU G oa (vp_updL ou (0 : Int32).toNatClampNeg o1.2.1.toInt64)))))))) [0, 1, 2, 3, 4, 5, 6, 7, 8, 9, 10, 18, 19, 20, 21, 22, 23, 24, 11, 12, 13, 14, 15, 16, 17, 25] (by decide) rfl) hS rfl dL_lose_19 (Nat.le_refl _) (Nat.le_refl _)
def f_L_on (lo : xF) (yy : xSY) (pp : xPL) (qq : xPL) (ou : (Nat → Int64)) (i1 : Int32) : Option (Int32 × (Nat → Int64)) :=
  Option.bind (f_X2_on lo (yy.1, yy.2.1, yy.2.2.1, yy.2.2.2.1, yy.2.2.2.2.1, yy.2.2.2.2.2.1, yy.2.2.2.2.2.2.1, yy.2.2.2.2.2.2.2.1, yy.2.2.2.2.2.2.2.2) (pp.1, pp.2.1, pp.2.2.1, pp.2.2.2.1, pp.2.2.2.2.1, pp.2.2.2.2.2.1, pp.2.2.2.2.2.2.1, pp.2.2.2.2.2.2.2.1, pp.2.2.2.2.2.2.2.2) (qq.1, qq.2.1, qq.2.2.1, qq.2.2.2.1, qq.2.2.2.2.1, qq.2.2.2.2.2.1, qq.2.2.2.2.2.2.1, qq.2.2.2.2.2.2.2.1, qq.2.2.2.2.2.2.2.2) i1) fun (o1 : Nat × Int32) =>
  if o1.1 = 0 then
    some ((0 : Int32), (vp_updL ou (0 : Int32).toNatClampNeg o1.2.toInt64))
  else
    if o1.1 = 3 then
      some ((1 : Int32), ou)
    else
      none
theorem f_L_on_e (lo : xF) (yy_0 : Int32) (yy_1 : xF) (yy_2 : xF) (yy_3 : xF) (yy_4 : xF) (yy_5 : xF) (yy_6 : xF) (yy_7 : xF) (yy_8 : xF) (pp_0 : xF) (pp_1 : xF) (pp_2 : xF) (pp_3 : xF) (pp_4 : xF) (pp_5 : xF) (pp_6 : Int32) (pp_7 : Int32) (pp_8 : Int32) (qq_0 : xF) (qq_1 : xF) (qq_2 : xF) (qq_3 : xF) (qq_4 : xF) (qq_5 : xF) (qq_6 : Int32) (qq_7 : Int32) (qq_8 : Int32) (ou : (Nat → Int64)) (i1 : Int32) : f_L_on lo (yy_0, yy_1, yy_2, yy_3, yy_4, yy_5, yy_6, yy_7, yy_8) (pp_0, pp_1, pp_2, pp_3, pp_4, pp_5, pp_6, pp_7, pp_8) (qq_0, qq_1, qq_2, qq_3, qq_4, qq_5, qq_6, qq_7, qq_8) ou i1 =
  Option.bind (f_X2_on lo (yy_0, yy_1, yy_2, yy_3, yy_4, yy_5, yy_6, yy_7, yy_8) (pp_0, pp_1, pp_2, pp_3, pp_4, pp_5, pp_6, pp_7, pp_8) (qq_0, qq_1, qq_2, qq_3, qq_4, qq_5, qq_6, qq_7, qq_8) i1) fun (o1 : Nat × Int32) =>
  if o1.1 = 0 then
    some ((0 : Int32), (vp_updL ou (0 : Int32).toNatClampNeg o1.2.toInt64))
  else
    if o1.1 = 3 then
      some ((1 : Int32), ou)
    else
      none := rfl
set_option maxHeartbeats 4000000 in
set_option maxRecDepth 100000 in
theorem c_L_on (l : Launch) (hl9 : l.stackTraces = false) (G : xG) (xa : Nat) (la : Nat) (ya : (Nat → Nat)) (pa : (Nat → Nat)) (qa : (Nat → Nat)) (oa : Nat) (lo : xF) (yy : xSY) (pp : xPL) (qq : xPL) (ou : (Nat → Int64)) (i1 : Int32) (o : Int32 × (Nat → Int64)) (h : f_L_on lo yy pp qq ou i1 = some o) : xk_CL l yL_on wsL_on ({ frames := 7, cells := 1, slots := 6, locals := 111 } : Room) [.ref xa, .int i1, .ref oa] G (wXO xa (ya 0) la (pa 0) (qa 0) ++ (wLO G la lo ++ (wSYc G ya yy.1 yy.2.1 yy.2.2.1 yy.2.2.2.1 yy.2.2.2.2.1 yy.2.2.2.2.2.1 yy.2.2.2.2.2.2.1 yy.2.2.2.2.2.2.2.1 yy.2.2.2.2.2.2.2.2 ++ (wPLc G pa pp.1 pp.2.1 pp.2.2.1 pp.2.2.2.1 pp.2.2.2.2.1 pp.2.2.2.2.2.1 pp.2.2.2.2.2.2.1 pp.2.2.2.2.2.2.2.1 pp.2.2.2.2.2.2.2.2 ++ (wPLc G qa qq.1 qq.2.1 qq.2.2.1 qq.2.2.2.1 qq.2.2.2.2.1 qq.2.2.2.2.2.1 qq.2.2.2.2.2.2.1 qq.2.2.2.2.2.2.2.1 qq.2.2.2.2.2.2.2.2 ++ (wOU G oa ou)))))) (wXO xa (ya 0) la (pa 0) (qa 0) ++ (wLO G la lo ++ (wSYc G ya yy.1 yy.2.1 yy.2.2.1 yy.2.2.2.1 yy.2.2.2.2.1 yy.2.2.2.2.2.1 yy.2.2.2.2.2.2.1 yy.2.2.2.2.2.2.2.1 yy.2.2.2.2.2.2.2.2 ++ (wPLc G pa pp.1 pp.2.1 pp.2.2.1 pp.2.2.2.1 pp.2.2.2.2.1 pp.2.2.2.2.2.1 pp.2.2.2.2.2.2.1 pp.2.2.2.2.2.2.2.1 pp.2.2.2.2.2.2.2.2 ++ (wPLc G qa qq.1 qq.2.1 qq.2.2.1 qq.2.2.2.1 qq.2.2.2.2.1 qq.2.2.2.2.2.1 qq.2.2.2.2.2.2.1 qq.2.2.2.2.2.2.2.1 qq.2.2.2.2.2.2.2.2 ++ (wOU G oa o.2)))))) o.1 := by
  obtain ⟨yy_0, yy_1, yy_2, yy_3, yy_4, yy_5, yy_6, yy_7, yy_8⟩ := yy
  obtain ⟨pp_0, pp_1, pp_2, pp_3, pp_4, pp_5, pp_6, pp_7, pp_8⟩ := pp
  obtain ⟨qq_0, qq_1, qq_2, qq_3, qq_4, qq_5, qq_6, qq_7, qq_8⟩ := qq
  refine xk_CL.of (cc := cL_on) (maxL := 4) (ret := (some .int)) (by decide) rfl (Nat.le_of_ble_eq_true rfl) ?_
  intro pr9 en9 s mm9 bl9 meth9 cd9 A ls H locs hx hb hr hml hts hown hlk hA hP hK hD hNE hS hl hXB hSR hZX hxt
  have hown : s.vm.findClass RL = some mm9.cls := hown
  have hl : lv_has ls 4 [(0, .ref xa), (1, .int i1), (2, .ref oa)] := hl
  have hP : va_P G.1 vwCl (wXO xa (ya 0) la (pa 0) (qa 0) ++ (wLO G la lo ++ (wSYc G ya yy_0 yy_1 yy_2 yy_3 yy_4 yy_5 yy_6 yy_7 yy_8 ++ (wPLc G pa pp_0 pp_1 pp_2 pp_3 pp_4 pp_5 pp_6 pp_7 pp_8 ++ (wPLc G qa qq_0 qq_1 qq_2 qq_3 qq_4 qq_5 qq_6 qq_7 qq_8 ++ (wOU G oa ou)))))) H := hP
  have hD : va_D A (wXO xa (ya 0) la (pa 0) (qa 0) ++ (wLO G la lo ++ (wSYc G ya yy_0 yy_1 yy_2 yy_3 yy_4 yy_5 yy_6 yy_7 yy_8 ++ (wPLc G pa pp_0 pp_1 pp_2 pp_3 pp_4 pp_5 pp_6 pp_7 pp_8 ++ (wPLc G qa qq_0 qq_1 qq_2 qq_3 qq_4 qq_5 qq_6 qq_7 qq_8 ++ (wOU G oa ou)))))) := hD
  have h := (f_L_on_e lo yy_0 yy_1 yy_2 yy_3 yy_4 yy_5 yy_6 yy_7 yy_8 pp_0 pp_1 pp_2 pp_3 pp_4 pp_5 pp_6 pp_7 pp_8 qq_0 qq_1 qq_2 qq_3 qq_4 qq_5 qq_6 qq_7 qq_8 ou i1).symm.trans h
  refine lv_aload_n hx hb dL_on_0 rfl (lv_at hl 2 rfl) ?_
  refine lv_iconst (v := (0 : Int32)) hx hb dL_on_1 (by decide) ?_
  refine lv_aload_n hx hb dL_on_2 rfl (lv_at hl 0 rfl) ?_
  refine lv_iload_n hx hb dL_on_3 rfl (lv_at hl 1 rfl) ?_
  obtain ⟨o1, ho1, h⟩ := sp_b h
  refine xk_cx (vx_runV (As := [.int i1]) (rest := [.int (0 : Int32), .ref oa]) ⟨hx, hb, hml, hown, hts⟩ (c_X2_on l hl9 G xa la ya pa qa lo (yy_0, yy_1, yy_2, yy_3, yy_4, yy_5, yy_6, yy_7, yy_8) (pp_0, pp_1, pp_2, pp_3, pp_4, pp_5, pp_6, pp_7, pp_8) (qq_0, qq_1, qq_2, qq_3, qq_4, qq_5, qq_6, qq_7, qq_8) i1 o1 ho1 H.size) (cwV 1 hts gL_on_X2_on rfl rfl rfl (by decide +kernel) ⟨Nat.le_of_ble_eq_true rfl, Nat.le_of_ble_eq_true rfl⟩) (xk_preVX hK hNE hXB hSR hZX hS (va_free (wc := (wXO xa (ya 0) la (pa 0) (qa 0) ++ (wLO G la lo ++ (wSYc G ya yy_0 yy_1 yy_2 yy_3 yy_4 yy_5 yy_6 yy_7 yy_8 ++ (wPLc G pa pp_0 pp_1 pp_2 pp_3 pp_4 pp_5 pp_6 pp_7 pp_8 ++ (wPLc G qa qq_0 qq_1 qq_2 qq_3 qq_4 qq_5 qq_6 qq_7 qq_8)))))) hD hS hA [0, 1, 2, 3, 4, 5, 6, 7, 8, 9, 10, 11, 12, 13, 14, 15, 16, 17, 18, 19, 20, 21, 22, 23, 24] rfl) (hP.sub (ws' := (wXO xa (ya 0) la (pa 0) (qa 0) ++ (wLO G la lo ++ (wSYc G ya yy_0 yy_1 yy_2 yy_3 yy_4 yy_5 yy_6 yy_7 yy_8 ++ (wPLc G pa pp_0 pp_1 pp_2 pp_3 pp_4 pp_5 pp_6 pp_7 pp_8 ++ (wPLc G qa qq_0 qq_1 qq_2 qq_3 qq_4 qq_5 qq_6 qq_7 qq_8)))))) [0, 1, 2, 3, 4, 5, 6, 7, 8, 9, 10, 11, 12, 13, 14, 15, 16, 17, 18, 19, 20, 21, 22, 23, 24] rfl) (hD.sub (ws' := (wXO xa (ya 0) la (pa 0) (qa 0) ++ (wLO G la lo ++ (wSYc G ya yy_0 yy_1 yy_2 yy_3 yy_4 yy_5 yy_6 yy_7 yy_8 ++ (wPLc G pa pp_0 pp_1 pp_2 pp_3 pp_4 pp_5 pp_6 pp_7 pp_8 ++ (wPLc G qa qq_0 qq_1 qq_2 qq_3 qq_4 qq_5 qq_6 qq_7 qq_8)))))) [0, 1, 2, 3, 4, 5, 6, 7, 8, 9, 10, 11, 12, 13, 14, 15, 16, 17, 18, 19, 20, 21, 22, 23, 24] (by decide) rfl) (ci := 2) rfl rfl) rfl rfl hl.1 rfl (lv_room (Nat.le_of_ble_eq_true rfl)) dL_on_4 ⟨Nat.le_of_ble_eq_true rfl, Nat.le_of_ble_eq_true rfl⟩) hP hD hS hA [0, 1, 2, 3, 4, 5, 6, 7, 8, 9, 10, 11, 12, 13, 14, 15, 16, 17, 18, 19, 20, 21, 22, 23, 24] [25] [1, 2, 3, 4, 5, 6, 7, 8, 9, 10, 11, 12, 13, 14, 15, 16, 17, 18, 19, 20, 21, 22, 23, 24, 25, 0] [1, 2, 3, 4, 5, 6, 7, 8, 9, 10, 11, 12, 13, 14, 15, 16, 17, 18, 19, 20, 21, 22, 23, 24, 25, 0] rfl rfl (by decide) (by decide) rfl (by decide) rfl (by decide) (fun ce9 q9 H locs hk0 hP hD hS hce hcv hcl => ?_) (fun H locs hk0 hP hD hS => ?_)
  · have h := sp_f hk0 h
    by_cases e3 : o1.1 = 3
    · have h := sp_t e3 h
      rw [e3] at hcl
      refine vx_catch (E := "java/lang/IndexOutOfBoundsException") (name := "java/lang/IndexOutOfBoundsException") hown [] (⟨0, 9, 12, 21⟩ : ExceptionTableEntry) [] hxt (fun z hz => by cases hz) (by decide) (by decide) (hts (.classLink RL 21 "java/lang/IndexOutOfBoundsException") (by decide +kernel)) (va_Nw.use rfl (hXB.2.2.2.2.2.1)) hce hcv hcl ?_
      refine lv_astore_n (lv' := [(3, .ref q9), (0, .ref xa), (1, .int i1), (2, .ref oa)]) hx hb dL_on_12 rfl hl (by decide) rfl (fun ls hl => ?_)
      refine lv_iconst (v := (1 : Int32)) hx hb dL_on_13 (by decide) ?_
      obtain rfl := sp_s h
      exact xk_reL hx hb hr hlk hP hD hS rfl dL_on_14 (Nat.le_refl _) (Nat.le_refl _)
    · have h := sp_f e3 h
      exact sp_n h
  · have h := sp_t hk0 h
    have hP : va_P G.1 vwCl (wXO xa (ya 0) la (pa 0) (qa 0) ++ (wLO G la lo ++ (wSYc G ya yy_0 yy_1 yy_2 yy_3 yy_4 yy_5 yy_6 yy_7 yy_8 ++ (wPLc G pa pp_0 pp_1 pp_2 pp_3 pp_4 pp_5 pp_6 pp_7 pp_8 ++ (wPLc G qa qq_0 qq_1 qq_2 qq_3 qq_4 qq_5 qq_6 qq_7 qq_8 ++ (wOU G oa ou)))))) H := hP
    have hD : va_D A (wXO xa (ya 0) la (pa 0) (qa 0) ++ (wLO G la lo ++ (wSYc G ya yy_0 yy_1 yy_2 yy_3 yy_4 yy_5 yy_6 yy_7 yy_8 ++ (wPLc G pa pp_0 pp_1 pp_2 pp_3 pp_4 pp_5 pp_6 pp_7 pp_8 ++ (wPLc G qa qq_0 qq_1 qq_2 qq_3 qq_4 qq_5 qq_6 qq_7 qq_8 ++ (wOU G oa ou)))))) := hD
    refine lv_i2l (v := o1.2.toInt64) hx hb dL_on_7 rfl ?_
    refine va_last hx hb hK hP hD hS 25 2 rfl rfl (xk_in0_1) dL_on_8 (fun H locs hP hD hS => ?_)
    have hP : va_P G.1 vwCl (wXO xa (ya 0) la (pa 0) (qa 0) ++ (wLO G la lo ++ (wSYc G ya yy_0 yy_1 yy_2 yy_3 yy_4 yy_5 yy_6 yy_7 yy_8 ++ (wPLc G pa pp_0 pp_1 pp_2 pp_3 pp_4 pp_5 pp_6 pp_7 pp_8 ++ (wPLc G qa qq_0 qq_1 qq_2 qq_3 qq_4 qq_5 qq_6 qq_7 qq_8 ++ (wOU G oa (vp_updL ou (0 : Int32).toNatClampNeg o1.2.toInt64))))))) H := hP
    have hD : va_D A (wXO xa (ya 0) la (pa 0) (qa 0) ++ (wLO G la lo ++ (wSYc G ya yy_0 yy_1 yy_2 yy_3 yy_4 yy_5 yy_6 yy_7 yy_8 ++ (wPLc G pa pp_0 pp_1 pp_2 pp_3 pp_4 pp_5 pp_6 pp_7 pp_8 ++ (wPLc G qa qq_0 qq_1 qq_2 qq_3 qq_4 qq_5 qq_6 qq_7 qq_8 ++ (wOU G oa (vp_updL ou (0 : Int32).toNatClampNeg o1.2.toInt64))))))) := hD
    refine lv_goto (tgt := 15) hx hb dL_on_9 (by decide) ?_
    refine lv_iconst (v := (0 : Int32)) hx hb dL_on_15 (by decide) ?_
    obtain rfl := sp_s h
    exact xk_reL hx hb hr hlk hP hD hS rfl dL_on_16 (Nat.le_refl _) (Nat.le_refl _)
def f_L_lessonDay (lo : xF) (yy : xSY) (pp : xPL) (qq : xPL) (ou : (Nat → Int64)) (i1 : Int32) (i2 : Int32) : Option (Int32 × (Nat → Int64)) :=
  Option.bind (f_X2_lessonDay lo (yy.1, yy.2.1, yy.2.2.1, yy.2.2.2.1, yy.2.2.2.2.1, yy.2.2.2.2.2.1, yy.2.2.2.2.2.2.1, yy.2.2.2.2.2.2.2.1, yy.2.2.2.2.2.2.2.2) (pp.1, pp.2.1, pp.2.2.1, pp.2.2.2.1, pp.2.2.2.2.1, pp.2.2.2.2.2.1, pp.2.2.2.2.2.2.1, pp.2.2.2.2.2.2.2.1, pp.2.2.2.2.2.2.2.2) (qq.1, qq.2.1, qq.2.2.1, qq.2.2.2.1, qq.2.2.2.2.1, qq.2.2.2.2.2.1, qq.2.2.2.2.2.2.1, qq.2.2.2.2.2.2.2.1, qq.2.2.2.2.2.2.2.2) i1 i2) fun (o1 : Nat × Int32) =>
  if o1.1 = 0 then
    some ((0 : Int32), (vp_updL ou (0 : Int32).toNatClampNeg o1.2.toInt64))
  else
    if o1.1 = 3 then
      some ((1 : Int32), ou)
    else
      none
theorem f_L_lessonDay_e (lo : xF) (yy_0 : Int32) (yy_1 : xF) (yy_2 : xF) (yy_3 : xF) (yy_4 : xF) (yy_5 : xF) (yy_6 : xF) (yy_7 : xF) (yy_8 : xF) (pp_0 : xF) (pp_1 : xF) (pp_2 : xF) (pp_3 : xF) (pp_4 : xF) (pp_5 : xF) (pp_6 : Int32) (pp_7 : Int32) (pp_8 : Int32) (qq_0 : xF) (qq_1 : xF) (qq_2 : xF) (qq_3 : xF) (qq_4 : xF) (qq_5 : xF) (qq_6 : Int32) (qq_7 : Int32) (qq_8 : Int32) (ou : (Nat → Int64)) (i1 : Int32) (i2 : Int32) : f_L_lessonDay lo (yy_0, yy_1, yy_2, yy_3, yy_4, yy_5, yy_6, yy_7, yy_8) (pp_0, pp_1, pp_2, pp_3, pp_4, pp_5, pp_6, pp_7, pp_8) (qq_0, qq_1, qq_2, qq_3, qq_4, qq_5, qq_6, qq_7, qq_8) ou i1 i2 =
  Option.bind (f_X2_lessonDay lo (yy_0, yy_1, yy_2, yy_3, yy_4, yy_5, yy_6, yy_7, yy_8) (pp_0, pp_1, pp_2, pp_3, pp_4, pp_5, pp_6, pp_7, pp_8) (qq_0, qq_1, qq_2, qq_3, qq_4, qq_5, qq_6, qq_7, qq_8) i1 i2) fun (o1 : Nat × Int32) =>
  if o1.1 = 0 then
    some ((0 : Int32), (vp_updL ou (0 : Int32).toNatClampNeg o1.2.toInt64))
  else
    if o1.1 = 3 then
      some ((1 : Int32), ou)
    else
      none := rfl
set_option maxHeartbeats 4000000 in
set_option maxRecDepth 100000 in
theorem c_L_lessonDay (l : Launch) (hl9 : l.stackTraces = false) (G : xG) (xa : Nat) (la : Nat) (ya : (Nat → Nat)) (pa : (Nat → Nat)) (qa : (Nat → Nat)) (oa : Nat) (lo : xF) (yy : xSY) (pp : xPL) (qq : xPL) (ou : (Nat → Int64)) (i1 : Int32) (i2 : Int32) (o : Int32 × (Nat → Int64)) (h : f_L_lessonDay lo yy pp qq ou i1 i2 = some o) : xk_CL l yL_lessonDay wsL_lessonDay ({ frames := 7, cells := 1, slots := 6, locals := 112 } : Room) [.ref xa, .int i1, .int i2, .ref oa] G (wXO xa (ya 0) la (pa 0) (qa 0) ++ (wLO G la lo ++ (wSYc G ya yy.1 yy.2.1 yy.2.2.1 yy.2.2.2.1 yy.2.2.2.2.1 yy.2.2.2.2.2.1 yy.2.2.2.2.2.2.1 yy.2.2.2.2.2.2.2.1 yy.2.2.2.2.2.2.2.2 ++ (wPLc G pa pp.1 pp.2.1 pp.2.2.1 pp.2.2.2.1 pp.2.2.2.2.1 pp.2.2.2.2.2.1 pp.2.2.2.2.2.2.1 pp.2.2.2.2.2.2.2.1 pp.2.2.2.2.2.2.2.2 ++ (wPLc G qa qq.1 qq.2.1 qq.2.2.1 qq.2.2.2.1 qq.2.2.2.2.1 qq.2.2.2.2.2.1 qq.2.2.2.2.2.2.1 qq.2.2.2.2.2.2.2.1 qq.2.2.2.2.2.2.2.2 ++ (wOU G oa ou)))))) (wXO xa (ya 0) la (pa 0) (qa 0) ++ (wLO G la lo ++ (wSYc G ya yy.1 yy.2.1 yy.2.2.1 yy.2.2.2.1 yy.2.2.2.2.1 yy.2.2.2.2.2.1 yy.2.2.2.2.2.2.1 yy.2.2.2.2.2.2.2.1 yy.2.2.2.2.2.2.2.2 ++ (wPLc G pa pp.1 pp.2.1 pp.2.2.1 pp.2.2.2.1 pp.2.2.2.2.1 pp.2.2.2.2.2.1 pp.2.2.2.2.2.2.1 pp.2.2.2.2.2.2.2.1 pp.2.2.2.2.2.2.2.2 ++ (wPLc G qa qq.1 qq.2.1 qq.2.2.1 qq.2.2.2.1 qq.2.2.2.2.1 qq.2.2.2.2.2.1 qq.2.2.2.2.2.2.1 qq.2.2.2.2.2.2.2.1 qq.2.2.2.2.2.2.2.2 ++ (wOU G oa o.2)))))) o.1 := by
  obtain ⟨yy_0, yy_1, yy_2, yy_3, yy_4, yy_5, yy_6, yy_7, yy_8⟩ := yy
  obtain ⟨pp_0, pp_1, pp_2, pp_3, pp_4, pp_5, pp_6, pp_7, pp_8⟩ := pp
  obtain ⟨qq_0, qq_1, qq_2, qq_3, qq_4, qq_5, qq_6, qq_7, qq_8⟩ := qq
  refine xk_CL.of (cc := cL_lessonDay) (maxL := 5) (ret := (some .int)) (by decide) rfl (Nat.le_of_ble_eq_true rfl) ?_
  intro pr9 en9 s mm9 bl9 meth9 cd9 A ls H locs hx hb hr hml hts hown hlk hA hP hK hD hNE hS hl hXB hSR hZX hxt
  have hown : s.vm.findClass RL = some mm9.cls := hown
  have hl : lv_has ls 5 [(0, .ref xa), (1, .int i1), (2, .int i2), (3, .ref oa)] := hl
  have hP : va_P G.1 vwCl (wXO xa (ya 0) la (pa 0) (qa 0) ++ (wLO G la lo ++ (wSYc G ya yy_0 yy_1 yy_2 yy_3 yy_4 yy_5 yy_6 yy_7 yy_8 ++ (wPLc G pa pp_0 pp_1 pp_2 pp_3 pp_4 pp_5 pp_6 pp_7 pp_8 ++ (wPLc G qa qq_0 qq_1 qq_2 qq_3 qq_4 qq_5 qq_6 qq_7 qq_8 ++ (wOU G oa ou)))))) H := hP
  have hD : va_D A (wXO xa (ya 0) la (pa 0) (qa 0) ++ (wLO G la lo ++ (wSYc G ya yy_0 yy_1 yy_2 yy_3 yy_4 yy_5 yy_6 yy_7 yy_8 ++ (wPLc G pa pp_0 pp_1 pp_2 pp_3 pp_4 pp_5 pp_6 pp_7 pp_8 ++ (wPLc G qa qq_0 qq_1 qq_2 qq_3 qq_4 qq_5 qq_6 qq_7 qq_8 ++ (wOU G oa ou)))))) := hD
  have h := (f_L_lessonDay_e lo yy_0 yy_1 yy_2 yy_3 yy_4 yy_5 yy_6 yy_7 yy_8 pp_0 pp_1 pp_2 pp_3 pp_4 pp_5 pp_6 pp_7 pp_8 qq_0 qq_1 qq_2 qq_3 qq_4 qq_5 qq_6 qq_7 qq_8 ou i1 i2).symm.trans h
  refine lv_aload_n hx hb dL_lessonDay_0 rfl (lv_at hl 3 rfl) ?_
  refine lv_iconst (v := (0 : Int32)) hx hb dL_lessonDay_1 (by decide) ?_
  refine lv_aload_n hx hb dL_lessonDay_2 rfl (lv_at hl 0 rfl) ?_
  refine lv_iload_n hx hb dL_lessonDay_3 rfl (lv_at hl 1 rfl) ?_
  refine lv_iload_n hx hb dL_lessonDay_4 rfl (lv_at hl 2 rfl) ?_
  obtain ⟨o1, ho1, h⟩ := sp_b h
  refine xk_cx (vx_runV (As := [.int i1, .int i2]) (rest := [.int (0 : Int32), .ref oa]) ⟨hx, hb, hml, hown, hts⟩ (c_X2_lessonDay l hl9 G xa la ya pa qa lo (yy_0, yy_1, yy_2, yy_3, yy_4, yy_5, yy_6, yy_7, yy_8) (pp_0, pp_1, pp_2, pp_3, pp_4, pp_5, pp_6, pp_7, pp_8) (qq_0, qq_1, qq_2, qq_3, qq_4, qq_5, qq_6, qq_7, qq_8) i1 i2 o1 ho1 H.size) (cwV 2 hts gL_lessonDay_X2_lessonDay rfl rfl rfl (by decide +kernel) ⟨Nat.le_of_ble_eq_true rfl, Nat.le_of_ble_eq_true rfl⟩) (xk_preVX hK hNE hXB hSR hZX hS (va_free (wc := (wXO xa (ya 0) la (pa 0) (qa 0) ++ (wLO G la lo ++ (wSYc G ya yy_0 yy_1 yy_2 yy_3 yy_4 yy_5 yy_6 yy_7 yy_8 ++ (wPLc G pa pp_0 pp_1 pp_2 pp_3 pp_4 pp_5 pp_6 pp_7 pp_8 ++ (wPLc G qa qq_0 qq_1 qq_2 qq_3 qq_4 qq_5 qq_6 qq_7 qq_8)))))) hD hS hA [0, 1, 2, 3, 4, 5, 6, 7, 8, 9, 10, 11, 12, 13, 14, 15, 16, 17, 18, 19, 20, 21, 22, 23, 24] rfl) (hP.sub (ws' := (wXO xa (ya 0) la (pa 0) (qa 0) ++ (wLO G la lo ++ (wSYc G ya yy_0 yy_1 yy_2 yy_3 yy_4 yy_5 yy_6 yy_7 yy_8 ++ (wPLc G pa pp_0 pp_1 pp_2 pp_3 pp_4 pp_5 pp_6 pp_7 pp_8 ++ (wPLc G qa qq_0 qq_1 qq_2 qq_3 qq_4 qq_5 qq_6 qq_7 qq_8)))))) [0, 1, 2, 3, 4, 5, 6, 7, 8, 9, 10, 11, 12, 13, 14, 15, 16, 17, 18, 19, 20, 21, 22, 23, 24] rfl) (hD.sub (ws' := (wXO xa (ya 0) la (pa 0) (qa 0) ++ (wLO G la lo ++ (wSYc G ya yy_0 yy_1 yy_2 yy_3 yy_4 yy_5 yy_6 yy_7 yy_8 ++ (wPLc G pa pp_0 pp_1 pp_2 pp_3 pp_4 pp_5 pp_6 pp_7 pp_8 ++ (wPLc G qa qq_0 qq_1 qq_2 qq_3 qq_4 qq_5 qq_6 qq_7 qq_8)))))) [0, 1, 2, 3, 4, 5, 6, 7, 8, 9, 10, 11, 12, 13, 14, 15, 16, 17, 18, 19, 20, 21, 22, 23, 24] (by decide) rfl) (ci := 2) rfl rfl) rfl rfl hl.1 rfl (lv_room (Nat.le_of_ble_eq_true rfl)) dL_lessonDay_5 ⟨Nat.le_of_ble_eq_true rfl, Nat.le_of_ble_eq_true rfl⟩) hP hD hS hA [0, 1, 2, 3, 4, 5, 6, 7, 8, 9, 10, 11, 12, 13, 14, 15, 16, 17, 18, 19, 20, 21, 22, 23, 24] [25] [1, 2, 3, 4, 5, 6, 7, 8, 9, 10, 11, 12, 13, 14, 15, 16, 17, 18, 19, 20, 21, 22, 23, 24, 25, 0] [1, 2, 3, 4, 5, 6, 7, 8, 9, 10, 11, 12, 13, 14, 15, 16, 17, 18, 19, 20, 21, 22, 23, 24, 25, 0] rfl rfl (by decide) (by decide) rfl (by decide) rfl (by decide) (fun ce9 q9 H locs hk0 hP hD hS hce hcv hcl => ?_) (fun H locs hk0 hP hD hS => ?_)
  · have h := sp_f hk0 h
    by_cases e3 : o1.1 = 3
    · have h := sp_t e3 h
      rw [e3] at hcl
      refine vx_catch (E := "java/lang/IndexOutOfBoundsException") (name := "java/lang/IndexOutOfBoundsException") hown [] (⟨0, 10, 13, 21⟩ : ExceptionTableEntry) [] hxt (fun z hz => by cases hz) (by decide) (by decide) (hts (.classLink RL 21 "java/lang/IndexOutOfBoundsException") (by decide +kernel)) (va_Nw.use rfl (hXB.2.2.2.2.2.1)) hce hcv hcl ?_
      refine lv_astore (lv' := [(4, .ref q9), (0, .ref xa), (1, .int i1), (2, .int i2), (3, .ref oa)]) hx hb dL_lessonDay_13 hl (by decide) rfl (fun ls hl => ?_)
      refine lv_iconst (v := (1 : Int32)) hx hb dL_lessonDay_15 (by decide) ?_
      obtain rfl := sp_s h
      exact xk_reL hx hb hr hlk hP hD hS rfl dL_lessonDay_16 (Nat.le_refl _) (Nat.le_refl _)
    · have h := sp_f e3 h
      exact sp_n h
  · have h := sp_t hk0 h
    have hP : va_P G.1 vwCl (wXO xa (ya 0) la (pa 0) (qa 0) ++ (wLO G la lo ++ (wSYc G ya yy_0 yy_1 yy_2 yy_3 yy_4 yy_5 yy_6 yy_7 yy_8 ++ (wPLc G pa pp_0 pp_1 pp_2 pp_3 pp_4 pp_5 pp_6 pp_7 pp_8 ++ (wPLc G qa qq_0 qq_1 qq_2 qq_3 qq_4 qq_5 qq_6 qq_7 qq_8 ++ (wOU G oa ou)))))) H := hP
    have hD : va_D A (wXO xa (ya 0) la (pa 0) (qa 0) ++ (wLO G la lo ++ (wSYc G ya yy_0 yy_1 yy_2 yy_3 yy_4 yy_5 yy_6 yy_7 yy_8 ++ (wPLc G pa pp_0 pp_1 pp_2 pp_3 pp_4 pp_5 pp_6 pp_7 pp_8 ++ (wPLc G qa qq_0 qq_1 qq_2 qq_3 qq_4 qq_5 qq_6 qq_7 qq_8 ++ (wOU G oa ou)))))) := hD
    refine lv_i2l (v := o1.2.toInt64) hx hb dL_lessonDay_8 rfl ?_
    refine va_last hx hb hK hP hD hS 25 2 rfl rfl (xk_in0_1) dL_lessonDay_9 (fun H locs hP hD hS => ?_)
    have hP : va_P G.1 vwCl (wXO xa (ya 0) la (pa 0) (qa 0) ++ (wLO G la lo ++ (wSYc G ya yy_0 yy_1 yy_2 yy_3 yy_4 yy_5 yy_6 yy_7 yy_8 ++ (wPLc G pa pp_0 pp_1 pp_2 pp_3 pp_4 pp_5 pp_6 pp_7 pp_8 ++ (wPLc G qa qq_0 qq_1 qq_2 qq_3 qq_4 qq_5 qq_6 qq_7 qq_8 ++ (wOU G oa (vp_updL ou (0 : Int32).toNatClampNeg o1.2.toInt64))))))) H := hP
    have hD : va_D A (wXO xa (ya 0) la (pa 0) (qa 0) ++ (wLO G la lo ++ (wSYc G ya yy_0 yy_1 yy_2 yy_3 yy_4 yy_5 yy_6 yy_7 yy_8 ++ (wPLc G pa pp_0 pp_1 pp_2 pp_3 pp_4 pp_5 pp_6 pp_7 pp_8 ++ (wPLc G qa qq_0 qq_1 qq_2 qq_3 qq_4 qq_5 qq_6 qq_7 qq_8 ++ (wOU G oa (vp_updL ou (0 : Int32).toNatClampNeg o1.2.toInt64))))))) := hD
    refine lv_goto (tgt := 17) hx hb dL_lessonDay_10 (by decide) ?_
    refine lv_iconst (v := (0 : Int32)) hx hb dL_lessonDay_17 (by decide) ?_
    obtain rfl := sp_s h
    exact xk_reL hx hb hr hlk hP hD hS rfl dL_lessonDay_18 (Nat.le_refl _) (Nat.le_refl _)
def f_L_revisitDay (lo : xF) (yy : xSY) (pp : xPL) (qq : xPL) (ou : (Nat → Int64)) (i1 : Int32) (i2 : Int32) : Option (Int32 × (Nat → Int64)) :=
  Option.bind (f_X2_revisitDay lo (yy.1, yy.2.1, yy.2.2.1, yy.2.2.2.1, yy.2.2.2.2.1, yy.2.2.2.2.2.1, yy.2.2.2.2.2.2.1, yy.2.2.2.2.2.2.2.1, yy.2.2.2.2.2.2.2.2) (pp.1, pp.2.1, pp.2.2.1, pp.2.2.2.1, pp.2.2.2.2.1, pp.2.2.2.2.2.1, pp.2.2.2.2.2.2.1, pp.2.2.2.2.2.2.2.1, pp.2.2.2.2.2.2.2.2) (qq.1, qq.2.1, qq.2.2.1, qq.2.2.2.1, qq.2.2.2.2.1, qq.2.2.2.2.2.1, qq.2.2.2.2.2.2.1, qq.2.2.2.2.2.2.2.1, qq.2.2.2.2.2.2.2.2) i1 i2) fun (o1 : Nat × Int32) =>
  if o1.1 = 0 then
    some ((0 : Int32), (vp_updL ou (0 : Int32).toNatClampNeg o1.2.toInt64))
  else
    if o1.1 = 3 then
      some ((1 : Int32), ou)
    else
      none
theorem f_L_revisitDay_e (lo : xF) (yy_0 : Int32) (yy_1 : xF) (yy_2 : xF) (yy_3 : xF) (yy_4 : xF) (yy_5 : xF) (yy_6 : xF) (yy_7 : xF) (yy_8 : xF) (pp_0 : xF) (pp_1 : xF) (pp_2 : xF) (pp_3 : xF) (pp_4 : xF) (pp_5 : xF) (pp_6 : Int32) (pp_7 : Int32) (pp_8 : Int32) (qq_0 : xF) (qq_1 : xF) (qq_2 : xF) (qq_3 : xF) (qq_4 : xF) (qq_5 : xF) (qq_6 : Int32) (qq_7 : Int32) (qq_8 : Int32) (ou : (Nat → Int64)) (i1 : Int32) (i2 : Int32) : f_L_revisitDay lo (yy_0, yy_1, yy_2, yy_3, yy_4, yy_5, yy_6, yy_7, yy_8) (pp_0, pp_1, pp_2, pp_3, pp_4, pp_5, pp_6, pp_7, pp_8) (qq_0, qq_1, qq_2, qq_3, qq_4, qq_5, qq_6, qq_7, qq_8) ou i1 i2 =
  Option.bind (f_X2_revisitDay lo (yy_0, yy_1, yy_2, yy_3, yy_4, yy_5, yy_6, yy_7, yy_8) (pp_0, pp_1, pp_2, pp_3, pp_4, pp_5, pp_6, pp_7, pp_8) (qq_0, qq_1, qq_2, qq_3, qq_4, qq_5, qq_6, qq_7, qq_8) i1 i2) fun (o1 : Nat × Int32) =>
  if o1.1 = 0 then
    some ((0 : Int32), (vp_updL ou (0 : Int32).toNatClampNeg o1.2.toInt64))
  else
    if o1.1 = 3 then
      some ((1 : Int32), ou)
    else
      none := rfl
set_option maxHeartbeats 4000000 in
set_option maxRecDepth 100000 in
theorem c_L_revisitDay (l : Launch) (hl9 : l.stackTraces = false) (G : xG) (xa : Nat) (la : Nat) (ya : (Nat → Nat)) (pa : (Nat → Nat)) (qa : (Nat → Nat)) (oa : Nat) (lo : xF) (yy : xSY) (pp : xPL) (qq : xPL) (ou : (Nat → Int64)) (i1 : Int32) (i2 : Int32) (o : Int32 × (Nat → Int64)) (h : f_L_revisitDay lo yy pp qq ou i1 i2 = some o) : xk_CL l yL_revisitDay wsL_revisitDay ({ frames := 7, cells := 1, slots := 6, locals := 112 } : Room) [.ref xa, .int i1, .int i2, .ref oa] G (wXO xa (ya 0) la (pa 0) (qa 0) ++ (wLO G la lo ++ (wSYc G ya yy.1 yy.2.1 yy.2.2.1 yy.2.2.2.1 yy.2.2.2.2.1 yy.2.2.2.2.2.1 yy.2.2.2.2.2.2.1 yy.2.2.2.2.2.2.2.1 yy.2.2.2.2.2.2.2.2 ++ (wPLc G pa pp.1 pp.2.1 pp.2.2.1 pp.2.2.2.1 pp.2.2.2.2.1 pp.2.2.2.2.2.1 pp.2.2.2.2.2.2.1 pp.2.2.2.2.2.2.2.1 pp.2.2.2.2.2.2.2.2 ++ (wPLc G qa qq.1 qq.2.1 qq.2.2.1 qq.2.2.2.1 qq.2.2.2.2.1 qq.2.2.2.2.2.1 qq.2.2.2.2.2.2.1 qq.2.2.2.2.2.2.2.1 qq.2.2.2.2.2.2.2.2 ++ (wOU G oa ou)))))) (wXO xa (ya 0) la (pa 0) (qa 0) ++ (wLO G la lo ++ (wSYc G ya yy.1 yy.2.1 yy.2.2.1 yy.2.2.2.1 yy.2.2.2.2.1 yy.2.2.2.2.2.1 yy.2.2.2.2.2.2.1 yy.2.2.2.2.2.2.2.1 yy.2.2.2.2.2.2.2.2 ++ (wPLc G pa pp.1 pp.2.1 pp.2.2.1 pp.2.2.2.1 pp.2.2.2.2.1 pp.2.2.2.2.2.1 pp.2.2.2.2.2.2.1 pp.2.2.2.2.2.2.2.1 pp.2.2.2.2.2.2.2.2 ++ (wPLc G qa qq.1 qq.2.1 qq.2.2.1 qq.2.2.2.1 qq.2.2.2.2.1 qq.2.2.2.2.2.1 qq.2.2.2.2.2.2.1 qq.2.2.2.2.2.2.2.1 qq.2.2.2.2.2.2.2.2 ++ (wOU G oa o.2)))))) o.1 := by
  obtain ⟨yy_0, yy_1, yy_2, yy_3, yy_4, yy_5, yy_6, yy_7, yy_8⟩ := yy
  obtain ⟨pp_0, pp_1, pp_2, pp_3, pp_4, pp_5, pp_6, pp_7, pp_8⟩ := pp
  obtain ⟨qq_0, qq_1, qq_2, qq_3, qq_4, qq_5, qq_6, qq_7, qq_8⟩ := qq
  refine xk_CL.of (cc := cL_revisitDay) (maxL := 5) (ret := (some .int)) (by decide) rfl (Nat.le_of_ble_eq_true rfl) ?_
  intro pr9 en9 s mm9 bl9 meth9 cd9 A ls H locs hx hb hr hml hts hown hlk hA hP hK hD hNE hS hl hXB hSR hZX hxt
  have hown : s.vm.findClass RL = some mm9.cls := hown
  have hl : lv_has ls 5 [(0, .ref xa), (1, .int i1), (2, .int i2), (3, .ref oa)] := hl
  have hP : va_P G.1 vwCl (wXO xa (ya 0) la (pa 0) (qa 0) ++ (wLO G la lo ++ (wSYc G ya yy_0 yy_1 yy_2 yy_3 yy_4 yy_5 yy_6 yy_7 yy_8 ++ (wPLc G pa pp_0 pp_1 pp_2 pp_3 pp_4 pp_5 pp_6 pp_7 pp_8 ++ (wPLc G qa qq_0 qq_1 qq_2 qq_3 qq_4 qq_5 qq_6 qq_7 qq_8 ++ (wOU G oa ou)))))) H := hP
  have hD : va_D A (wXO xa (ya 0) la (pa 0) (qa 0) ++ (wLO G la lo ++ (wSYc G ya yy_0 yy_1 yy_2 yy_3 yy_4 yy_5 yy_6 yy_7 yy_8 ++ (wPLc G pa pp_0 pp_1 pp_2 pp_3 pp_4 pp_5 pp_6 pp_7 pp_8 ++ (wPLc G qa qq_0 qq_1 qq_2 qq_3 qq_4 qq_5 qq_6 qq_7 qq_8 ++ (wOU G oa ou)))))) := hD
  have h := (f_L_revisitDay_e lo yy_0 yy_1 yy_2 yy_3 yy_4 yy_5 yy_6 yy_7 yy_8 pp_0 pp_1 pp_2 pp_3 pp_4 pp_5 pp_6 pp_7 pp_8 qq_0 qq_1 qq_2 qq_3 qq_4 qq_5 qq_6 qq_7 qq_8 ou i1 i2).symm.trans h
  refine lv_aload_n hx hb dL_revisitDay_0 rfl (lv_at hl 3 rfl) ?_
  refine lv_iconst (v := (0 : Int32)) hx hb dL_revisitDay_1 (by decide) ?_
  refine lv_aload_n hx hb dL_revisitDay_2 rfl (lv_at hl 0 rfl) ?_
  refine lv_iload_n hx hb dL_revisitDay_3 rfl (lv_at hl 1 rfl) ?_
  refine lv_iload_n hx hb dL_revisitDay_4 rfl (lv_at hl 2 rfl) ?_
  obtain ⟨o1, ho1, h⟩ := sp_b h
  refine xk_cx (vx_runV (As := [.int i1, .int i2]) (rest := [.int (0 : Int32), .ref oa]) ⟨hx, hb, hml, hown, hts⟩ (c_X2_revisitDay l hl9 G xa la ya pa qa lo (yy_0, yy_1, yy_2, yy_3, yy_4, yy_5, yy_6, yy_7, yy_8) (pp_0, pp_1, pp_2, pp_3, pp_4, pp_5, pp_6, pp_7, pp_8) (qq_0, qq_1, qq_2, qq_3, qq_4, qq_5, qq_6, qq_7, qq_8) i1 i2 o1 ho1 H.size) (cwV 2 hts gL_revisitDay_X2_revisitDay rfl rfl rfl (by decide +kernel) ⟨Nat.le_of_ble_eq_true rfl, Nat.le_of_ble_eq_true rfl⟩) (xk_preVX hK hNE hXB hSR hZX hS (va_free (wc := (wXO xa (ya 0) la (pa 0) (qa 0) ++ (wLO G la lo ++ (wSYc G ya yy_0 yy_1 yy_2 yy_3 yy_4 yy_5 yy_6 yy_7 yy_8 ++ (wPLc G pa pp_0 pp_1 pp_2 pp_3 pp_4 pp_5 pp_6 pp_7 pp_8 ++ (wPLc G qa qq_0 qq_1 qq_2 qq_3 qq_4 qq_5 qq_6 qq_7 qq_8)))))) hD hS hA [0, 1, 2, 3, 4, 5, 6, 7, 8, 9, 10, 11, 12, 13, 14, 15, 16, 17, 18, 19, 20, 21, 22, 23, 24] rfl) (hP.sub (ws' := (wXO xa (ya 0) la (pa 0) (qa 0) ++ (wLO G la lo ++ (wSYc G ya yy_0 yy_1 yy_2 yy_3 yy_4 yy_5 yy_6 yy_7 yy_8 ++ (wPLc G pa pp_0 pp_1 pp_2 pp_3 pp_4 pp_5 pp_6 pp_7 pp_8 ++ (wPLc G qa qq_0 qq_1 qq_2 qq_3 qq_4 qq_5 qq_6 qq_7 qq_8)))))) [0, 1, 2, 3, 4, 5, 6, 7, 8, 9, 10, 11, 12, 13, 14, 15, 16, 17, 18, 19, 20, 21, 22, 23, 24] rfl) (hD.sub (ws' := (wXO xa (ya 0) la (pa 0) (qa 0) ++ (wLO G la lo ++ (wSYc G ya yy_0 yy_1 yy_2 yy_3 yy_4 yy_5 yy_6 yy_7 yy_8 ++ (wPLc G pa pp_0 pp_1 pp_2 pp_3 pp_4 pp_5 pp_6 pp_7 pp_8 ++ (wPLc G qa qq_0 qq_1 qq_2 qq_3 qq_4 qq_5 qq_6 qq_7 qq_8)))))) [0, 1, 2, 3, 4, 5, 6, 7, 8, 9, 10, 11, 12, 13, 14, 15, 16, 17, 18, 19, 20, 21, 22, 23, 24] (by decide) rfl) (ci := 2) rfl rfl) rfl rfl hl.1 rfl (lv_room (Nat.le_of_ble_eq_true rfl)) dL_revisitDay_5 ⟨Nat.le_of_ble_eq_true rfl, Nat.le_of_ble_eq_true rfl⟩) hP hD hS hA [0, 1, 2, 3, 4, 5, 6, 7, 8, 9, 10, 11, 12, 13, 14, 15, 16, 17, 18, 19, 20, 21, 22, 23, 24] [25] [1, 2, 3, 4, 5, 6, 7, 8, 9, 10, 11, 12, 13, 14, 15, 16, 17, 18, 19, 20, 21, 22, 23, 24, 25, 0] [1, 2, 3, 4, 5, 6, 7, 8, 9, 10, 11, 12, 13, 14, 15, 16, 17, 18, 19, 20, 21, 22, 23, 24, 25, 0] rfl rfl (by decide) (by decide) rfl (by decide) rfl (by decide) (fun ce9 q9 H locs hk0 hP hD hS hce hcv hcl => ?_) (fun H locs hk0 hP hD hS => ?_)
  · have h := sp_f hk0 h
    by_cases e3 : o1.1 = 3
    · have h := sp_t e3 h
      rw [e3] at hcl
      refine vx_catch (E := "java/lang/IndexOutOfBoundsException") (name := "java/lang/IndexOutOfBoundsException") hown [] (⟨0, 10, 13, 21⟩ : ExceptionTableEntry) [] hxt (fun z hz => by cases hz) (by decide) (by decide) (hts (.classLink RL 21 "java/lang/IndexOutOfBoundsException") (by decide +kernel)) (va_Nw.use rfl (hXB.2.2.2.2.2.1)) hce hcv hcl ?_
      refine lv_astore (lv' := [(4, .ref q9), (0, .ref xa), (1, .int i1), (2, .int i2), (3, .ref oa)]) hx hb dL_revisitDay_13 hl (by decide) rfl (fun ls hl => ?_)
      refine lv_iconst (v := (1 : Int32)) hx hb dL_revisitDay_15 (by decide) ?_
      obtain rfl := sp_s h
      exact xk_reL hx hb hr hlk hP hD hS rfl dL_revisitDay_16 (Nat.le_refl _) (Nat.le_refl _)
    · have h := sp_f e3 h
      exact sp_n h
  · have h := sp_t hk0 h
    have hP : va_P G.1 vwCl (wXO xa (ya 0) la (pa 0) (qa 0) ++ (wLO G la lo ++ (wSYc G ya yy_0 yy_1 yy_2 yy_3 yy_4 yy_5 yy_6 yy_7 yy_8 ++ (wPLc G pa pp_0 pp_1 pp_2 pp_3 pp_4 pp_5 pp_6 pp_7 pp_8 ++ (wPLc G qa qq_0 qq_1 qq_2 qq_3 qq_4 qq_5 qq_6 qq_7 qq_8 ++ (wOU G oa ou)))))) H := hP
    have hD : va_D A (wXO xa (ya 0) la (pa 0) (qa 0) ++ (wLO G la lo ++ (wSYc G ya yy_0 yy_1 yy_2 yy_3 yy_4 yy_5 yy_6 yy_7 yy_8 ++ (wPLc G pa pp_0 pp_1 pp_2 pp_3 pp_4 pp_5 pp_6 pp_7 pp_8 ++ (wPLc G qa qq_0 qq_1 qq_2 qq_3 qq_4 qq_5 qq_6 qq_7 qq_8 ++ (wOU G oa ou)))))) := hD
    refine lv_i2l (v := o1.2.toInt64) hx hb dL_revisitDay_8 rfl ?_
    refine va_last hx hb hK hP hD hS 25 2 rfl rfl (xk_in0_1) dL_revisitDay_9 (fun H locs hP hD hS => ?_)
    have hP : va_P G.1 vwCl (wXO xa (ya 0) la (pa 0) (qa 0) ++ (wLO G la lo ++ (wSYc G ya yy_0 yy_1 yy_2 yy_3 yy_4 yy_5 yy_6 yy_7 yy_8 ++ (wPLc G pa pp_0 pp_1 pp_2 pp_3 pp_4 pp_5 pp_6 pp_7 pp_8 ++ (wPLc G qa qq_0 qq_1 qq_2 qq_3 qq_4 qq_5 qq_6 qq_7 qq_8 ++ (wOU G oa (vp_updL ou (0 : Int32).toNatClampNeg o1.2.toInt64))))))) H := hP
    have hD : va_D A (wXO xa (ya 0) la (pa 0) (qa 0) ++ (wLO G la lo ++ (wSYc G ya yy_0 yy_1 yy_2 yy_3 yy_4 yy_5 yy_6 yy_7 yy_8 ++ (wPLc G pa pp_0 pp_1 pp_2 pp_3 pp_4 pp_5 pp_6 pp_7 pp_8 ++ (wPLc G qa qq_0 qq_1 qq_2 qq_3 qq_4 qq_5 qq_6 qq_7 qq_8 ++ (wOU G oa (vp_updL ou (0 : Int32).toNatClampNeg o1.2.toInt64))))))) := hD
    refine lv_goto (tgt := 17) hx hb dL_revisitDay_10 (by decide) ?_
    refine lv_iconst (v := (0 : Int32)) hx hb dL_revisitDay_17 (by decide) ?_
    obtain rfl := sp_s h
    exact xk_reL hx hb hr hlk hP hD hS rfl dL_revisitDay_18 (Nat.le_refl _) (Nat.le_refl _)
def f_L_worthwhile (lo : xF) (yy : xSY) (pp : xPL) (qq : xPL) (ou : (Nat → Int64)) (i1 : Int32) : Option (Int32 × (Nat → Int64)) :=
  Option.bind (f_X2_worthwhile lo (yy.1, yy.2.1, yy.2.2.1, yy.2.2.2.1, yy.2.2.2.2.1, yy.2.2.2.2.2.1, yy.2.2.2.2.2.2.1, yy.2.2.2.2.2.2.2.1, yy.2.2.2.2.2.2.2.2) (pp.1, pp.2.1, pp.2.2.1, pp.2.2.2.1, pp.2.2.2.2.1, pp.2.2.2.2.2.1, pp.2.2.2.2.2.2.1, pp.2.2.2.2.2.2.2.1, pp.2.2.2.2.2.2.2.2) (qq.1, qq.2.1, qq.2.2.1, qq.2.2.2.1, qq.2.2.2.2.1, qq.2.2.2.2.2.1, qq.2.2.2.2.2.2.1, qq.2.2.2.2.2.2.2.1, qq.2.2.2.2.2.2.2.2) i1) fun (o1 : Nat × Int32) =>
  if o1.1 = 0 then
    some ((0 : Int32), (vp_updL ou (0 : Int32).toNatClampNeg o1.2.toInt64))
  else
    if o1.1 = 1 then
      some ((1 : Int32), ou)
    else
      none
theorem f_L_worthwhile_e (lo : xF) (yy_0 : Int32) (yy_1 : xF) (yy_2 : xF) (yy_3 : xF) (yy_4 : xF) (yy_5 : xF) (yy_6 : xF) (yy_7 : xF) (yy_8 : xF) (pp_0 : xF) (pp_1 : xF) (pp_2 : xF) (pp_3 : xF) (pp_4 : xF) (pp_5 : xF) (pp_6 : Int32) (pp_7 : Int32) (pp_8 : Int32) (qq_0 : xF) (qq_1 : xF) (qq_2 : xF) (qq_3 : xF) (qq_4 : xF) (qq_5 : xF) (qq_6 : Int32) (qq_7 : Int32) (qq_8 : Int32) (ou : (Nat → Int64)) (i1 : Int32) : f_L_worthwhile lo (yy_0, yy_1, yy_2, yy_3, yy_4, yy_5, yy_6, yy_7, yy_8) (pp_0, pp_1, pp_2, pp_3, pp_4, pp_5, pp_6, pp_7, pp_8) (qq_0, qq_1, qq_2, qq_3, qq_4, qq_5, qq_6, qq_7, qq_8) ou i1 =
  Option.bind (f_X2_worthwhile lo (yy_0, yy_1, yy_2, yy_3, yy_4, yy_5, yy_6, yy_7, yy_8) (pp_0, pp_1, pp_2, pp_3, pp_4, pp_5, pp_6, pp_7, pp_8) (qq_0, qq_1, qq_2, qq_3, qq_4, qq_5, qq_6, qq_7, qq_8) i1) fun (o1 : Nat × Int32) =>
  if o1.1 = 0 then
    some ((0 : Int32), (vp_updL ou (0 : Int32).toNatClampNeg o1.2.toInt64))
  else
    if o1.1 = 1 then
      some ((1 : Int32), ou)
    else
      none := rfl
set_option maxHeartbeats 4000000 in
set_option maxRecDepth 100000 in
theorem c_L_worthwhile (l : Launch) (hl9 : l.stackTraces = false) (G : xG) (xa : Nat) (la : Nat) (ya : (Nat → Nat)) (pa : (Nat → Nat)) (qa : (Nat → Nat)) (oa : Nat) (lo : xF) (yy : xSY) (pp : xPL) (qq : xPL) (ou : (Nat → Int64)) (i1 : Int32) (o : Int32 × (Nat → Int64)) (h : f_L_worthwhile lo yy pp qq ou i1 = some o) : xk_CL l yL_worthwhile wsL_worthwhile ({ frames := 7, cells := 1, slots := 6, locals := 111 } : Room) [.ref xa, .int i1, .ref oa] G (wXO xa (ya 0) la (pa 0) (qa 0) ++ (wLO G la lo ++ (wSYc G ya yy.1 yy.2.1 yy.2.2.1 yy.2.2.2.1 yy.2.2.2.2.1 yy.2.2.2.2.2.1 yy.2.2.2.2.2.2.1 yy.2.2.2.2.2.2.2.1 yy.2.2.2.2.2.2.2.2 ++ (wPLc G pa pp.1 pp.2.1 pp.2.2.1 pp.2.2.2.1 pp.2.2.2.2.1 pp.2.2.2.2.2.1 pp.2.2.2.2.2.2.1 pp.2.2.2.2.2.2.2.1 pp.2.2.2.2.2.2.2.2 ++ (wPLc G qa qq.1 qq.2.1 qq.2.2.1 qq.2.2.2.1 qq.2.2.2.2.1 qq.2.2.2.2.2.1 qq.2.2.2.2.2.2.1 qq.2.2.2.2.2.2.2.1 qq.2.2.2.2.2.2.2.2 ++ (wOU G oa ou)))))) (wXO xa (ya 0) la (pa 0) (qa 0) ++ (wLO G la lo ++ (wSYc G ya yy.1 yy.2.1 yy.2.2.1 yy.2.2.2.1 yy.2.2.2.2.1 yy.2.2.2.2.2.1 yy.2.2.2.2.2.2.1 yy.2.2.2.2.2.2.2.1 yy.2.2.2.2.2.2.2.2 ++ (wPLc G pa pp.1 pp.2.1 pp.2.2.1 pp.2.2.2.1 pp.2.2.2.2.1 pp.2.2.2.2.2.1 pp.2.2.2.2.2.2.1 pp.2.2.2.2.2.2.2.1 pp.2.2.2.2.2.2.2.2 ++ (wPLc G qa qq.1 qq.2.1 qq.2.2.1 qq.2.2.2.1 qq.2.2.2.2.1 qq.2.2.2.2.2.1 qq.2.2.2.2.2.2.1 qq.2.2.2.2.2.2.2.1 qq.2.2.2.2.2.2.2.2 ++ (wOU G oa o.2)))))) o.1 := by
  obtain ⟨yy_0, yy_1, yy_2, yy_3, yy_4, yy_5, yy_6, yy_7, yy_8⟩ := yy
  obtain ⟨pp_0, pp_1, pp_2, pp_3, pp_4, pp_5, pp_6, pp_7, pp_8⟩ := pp
  obtain ⟨qq_0, qq_1, qq_2, qq_3, qq_4, qq_5, qq_6, qq_7, qq_8⟩ := qq
  refine xk_CL.of (cc := cL_worthwhile) (maxL := 4) (ret := (some .int)) (by decide) rfl (Nat.le_of_ble_eq_true rfl) ?_
  intro pr9 en9 s mm9 bl9 meth9 cd9 A ls H locs hx hb hr hml hts hown hlk hA hP hK hD hNE hS hl hXB hSR hZX hxt
  have hown : s.vm.findClass RL = some mm9.cls := hown
  have hl : lv_has ls 4 [(0, .ref xa), (1, .int i1), (2, .ref oa)] := hl
  have hP : va_P G.1 vwCl (wXO xa (ya 0) la (pa 0) (qa 0) ++ (wLO G la lo ++ (wSYc G ya yy_0 yy_1 yy_2 yy_3 yy_4 yy_5 yy_6 yy_7 yy_8 ++ (wPLc G pa pp_0 pp_1 pp_2 pp_3 pp_4 pp_5 pp_6 pp_7 pp_8 ++ (wPLc G qa qq_0 qq_1 qq_2 qq_3 qq_4 qq_5 qq_6 qq_7 qq_8 ++ (wOU G oa ou)))))) H := hP
  have hD : va_D A (wXO xa (ya 0) la (pa 0) (qa 0) ++ (wLO G la lo ++ (wSYc G ya yy_0 yy_1 yy_2 yy_3 yy_4 yy_5 yy_6 yy_7 yy_8 ++ (wPLc G pa pp_0 pp_1 pp_2 pp_3 pp_4 pp_5 pp_6 pp_7 pp_8 ++ (wPLc G qa qq_0 qq_1 qq_2 qq_3 qq_4 qq_5 qq_6 qq_7 qq_8 ++ (wOU G oa ou)))))) := hD
  have h := (f_L_worthwhile_e lo yy_0 yy_1 yy_2 yy_3 yy_4 yy_5 yy_6 yy_7 yy_8 pp_0 pp_1 pp_2 pp_3 pp_4 pp_5 pp_6 pp_7 pp_8 qq_0 qq_1 qq_2 qq_3 qq_4 qq_5 qq_6 qq_7 qq_8 ou i1).symm.trans h
  refine lv_aload_n hx hb dL_worthwhile_0 rfl (lv_at hl 2 rfl) ?_
  refine lv_iconst (v := (0 : Int32)) hx hb dL_worthwhile_1 (by decide) ?_
  refine lv_aload_n hx hb dL_worthwhile_2 rfl (lv_at hl 0 rfl) ?_
  refine lv_iload_n hx hb dL_worthwhile_3 rfl (lv_at hl 1 rfl) ?_
  obtain ⟨o1, ho1, h⟩ := sp_b h
  refine xk_cx (vx_runV (As := [.int i1]) (rest := [.int (0 : Int32), .ref oa]) ⟨hx, hb, hml, hown, hts⟩ (c_X2_worthwhile l hl9 G xa la ya pa qa lo (yy_0, yy_1, yy_2, yy_3, yy_4, yy_5, yy_6, yy_7, yy_8) (pp_0, pp_1, pp_2, pp_3, pp_4, pp_5, pp_6, pp_7, pp_8) (qq_0, qq_1, qq_2, qq_3, qq_4, qq_5, qq_6, qq_7, qq_8) i1 o1 ho1 H.size) (cwV 1 hts gL_worthwhile_X2_worthwhile rfl rfl rfl (by decide +kernel) ⟨Nat.le_of_ble_eq_true rfl, Nat.le_of_ble_eq_true rfl⟩) (xk_preVX hK hNE hXB hSR hZX hS (va_free (wc := (wXO xa (ya 0) la (pa 0) (qa 0) ++ (wLO G la lo ++ (wSYc G ya yy_0 yy_1 yy_2 yy_3 yy_4 yy_5 yy_6 yy_7 yy_8 ++ (wPLc G pa pp_0 pp_1 pp_2 pp_3 pp_4 pp_5 pp_6 pp_7 pp_8 ++ (wPLc G qa qq_0 qq_1 qq_2 qq_3 qq_4 qq_5 qq_6 qq_7 qq_8)))))) hD hS hA [0, 1, 2, 3, 4, 5, 6, 7, 8, 9, 10, 11, 12, 13, 14, 15, 16, 17, 18, 19, 20, 21, 22, 23, 24] rfl) (hP.sub (ws' := (wXO xa (ya 0) la (pa 0) (qa 0) ++ (wLO G la lo ++ (wSYc G ya yy_0 yy_1 yy_2 yy_3 yy_4 yy_5 yy_6 yy_7 yy_8 ++ (wPLc G pa pp_0 pp_1 pp_2 pp_3 pp_4 pp_5 pp_6 pp_7 pp_8 ++ (wPLc G qa qq_0 qq_1 qq_2 qq_3 qq_4 qq_5 qq_6 qq_7 qq_8)))))) [0, 1, 2, 3, 4, 5, 6, 7, 8, 9, 10, 11, 12, 13, 14, 15, 16, 17, 18, 19, 20, 21, 22, 23, 24] rfl) (hD.sub (ws' := (wXO xa (ya 0) la (pa 0) (qa 0) ++ (wLO G la lo ++ (wSYc G ya yy_0 yy_1 yy_2 yy_3 yy_4 yy_5 yy_6 yy_7 yy_8 ++ (wPLc G pa pp_0 pp_1 pp_2 pp_3 pp_4 pp_5 pp_6 pp_7 pp_8 ++ (wPLc G qa qq_0 qq_1 qq_2 qq_3 qq_4 qq_5 qq_6 qq_7 qq_8)))))) [0, 1, 2, 3, 4, 5, 6, 7, 8, 9, 10, 11, 12, 13, 14, 15, 16, 17, 18, 19, 20, 21, 22, 23, 24] (by decide) rfl) (ci := 2) rfl rfl) rfl rfl hl.1 rfl (lv_room (Nat.le_of_ble_eq_true rfl)) dL_worthwhile_4 ⟨Nat.le_of_ble_eq_true rfl, Nat.le_of_ble_eq_true rfl⟩) hP hD hS hA [0, 1, 2, 3, 4, 5, 6, 7, 8, 9, 10, 11, 12, 13, 14, 15, 16, 17, 18, 19, 20, 21, 22, 23, 24] [25] [1, 2, 3, 4, 5, 6, 7, 8, 9, 10, 11, 12, 13, 14, 15, 16, 17, 18, 19, 20, 21, 22, 23, 24, 25, 0] [1, 2, 3, 4, 5, 6, 7, 8, 9, 10, 11, 12, 13, 14, 15, 16, 17, 18, 19, 20, 21, 22, 23, 24, 25, 0] rfl rfl (by decide) (by decide) rfl (by decide) rfl (by decide) (fun ce9 q9 H locs hk0 hP hD hS hce hcv hcl => ?_) (fun H locs hk0 hP hD hS => ?_)
  · have h := sp_f hk0 h
    by_cases e1 : o1.1 = 1
    · have h := sp_t e1 h
      rw [e1] at hcl
      refine vx_catch (E := "java/lang/IllegalArgumentException") (name := "java/lang/IllegalArgumentException") hown [] (⟨0, 9, 12, 13⟩ : ExceptionTableEntry) [] hxt (fun z hz => by cases hz) (by decide) (by decide) (hts (.classLink RL 13 "java/lang/IllegalArgumentException") (by decide +kernel)) (va_Nw.use rfl (hXB.2.2.2.1)) hce hcv hcl ?_
      refine lv_astore_n (lv' := [(3, .ref q9), (0, .ref xa), (1, .int i1), (2, .ref oa)]) hx hb dL_worthwhile_12 rfl hl (by decide) rfl (fun ls hl => ?_)
      refine lv_iconst (v := (1 : Int32)) hx hb dL_worthwhile_13 (by decide) ?_
      obtain rfl := sp_s h
      exact xk_reL hx hb hr hlk hP hD hS rfl dL_worthwhile_14 (Nat.le_refl _) (Nat.le_refl _)
    · have h := sp_f e1 h
      exact sp_n h
  · have h := sp_t hk0 h
    have hP : va_P G.1 vwCl (wXO xa (ya 0) la (pa 0) (qa 0) ++ (wLO G la lo ++ (wSYc G ya yy_0 yy_1 yy_2 yy_3 yy_4 yy_5 yy_6 yy_7 yy_8 ++ (wPLc G pa pp_0 pp_1 pp_2 pp_3 pp_4 pp_5 pp_6 pp_7 pp_8 ++ (wPLc G qa qq_0 qq_1 qq_2 qq_3 qq_4 qq_5 qq_6 qq_7 qq_8 ++ (wOU G oa ou)))))) H := hP
    have hD : va_D A (wXO xa (ya 0) la (pa 0) (qa 0) ++ (wLO G la lo ++ (wSYc G ya yy_0 yy_1 yy_2 yy_3 yy_4 yy_5 yy_6 yy_7 yy_8 ++ (wPLc G pa pp_0 pp_1 pp_2 pp_3 pp_4 pp_5 pp_6 pp_7 pp_8 ++ (wPLc G qa qq_0 qq_1 qq_2 qq_3 qq_4 qq_5 qq_6 qq_7 qq_8 ++ (wOU G oa ou)))))) := hD
    refine lv_i2l (v := o1.2.toInt64) hx hb dL_worthwhile_7 rfl ?_
    refine va_last hx hb hK hP hD hS 25 2 rfl rfl (xk_in0_1) dL_worthwhile_8 (fun H locs hP hD hS => ?_)
    have hP : va_P G.1 vwCl (wXO xa (ya 0) la (pa 0) (qa 0) ++ (wLO G la lo ++ (wSYc G ya yy_0 yy_1 yy_2 yy_3 yy_4 yy_5 yy_6 yy_7 yy_8 ++ (wPLc G pa pp_0 pp_1 pp_2 pp_3 pp_4 pp_5 pp_6 pp_7 pp_8 ++ (wPLc G qa qq_0 qq_1 qq_2 qq_3 qq_4 qq_5 qq_6 qq_7 qq_8 ++ (wOU G oa (vp_updL ou (0 : Int32).toNatClampNeg o1.2.toInt64))))))) H := hP
    have hD : va_D A (wXO xa (ya 0) la (pa 0) (qa 0) ++ (wLO G la lo ++ (wSYc G ya yy_0 yy_1 yy_2 yy_3 yy_4 yy_5 yy_6 yy_7 yy_8 ++ (wPLc G pa pp_0 pp_1 pp_2 pp_3 pp_4 pp_5 pp_6 pp_7 pp_8 ++ (wPLc G qa qq_0 qq_1 qq_2 qq_3 qq_4 qq_5 qq_6 qq_7 qq_8 ++ (wOU G oa (vp_updL ou (0 : Int32).toNatClampNeg o1.2.toInt64))))))) := hD
    refine lv_goto (tgt := 15) hx hb dL_worthwhile_9 (by decide) ?_
    refine lv_iconst (v := (0 : Int32)) hx hb dL_worthwhile_15 (by decide) ?_
    obtain rfl := sp_s h
    exact xk_reL hx hb hr hlk hP hD hS rfl dL_worthwhile_16 (Nat.le_refl _) (Nat.le_refl _)
def f_L_bestNet (lo : xF) (yy : xSY) (pp : xPL) (qq : xPL) (ou : (Nat → Int64)) (i1 : Int32) : Option (Int32 × (Nat → Int64)) :=
  Option.bind (f_X2_bestNet lo (yy.1, yy.2.1, yy.2.2.1, yy.2.2.2.1, yy.2.2.2.2.1, yy.2.2.2.2.2.1, yy.2.2.2.2.2.2.1, yy.2.2.2.2.2.2.2.1, yy.2.2.2.2.2.2.2.2) (pp.1, pp.2.1, pp.2.2.1, pp.2.2.2.1, pp.2.2.2.2.1, pp.2.2.2.2.2.1, pp.2.2.2.2.2.2.1, pp.2.2.2.2.2.2.2.1, pp.2.2.2.2.2.2.2.2) (qq.1, qq.2.1, qq.2.2.1, qq.2.2.2.1, qq.2.2.2.2.1, qq.2.2.2.2.2.1, qq.2.2.2.2.2.2.1, qq.2.2.2.2.2.2.2.1, qq.2.2.2.2.2.2.2.2) i1) fun (o1 : Nat × Int32) =>
  if o1.1 = 0 then
    some ((0 : Int32), (vp_updL ou (0 : Int32).toNatClampNeg o1.2.toInt64))
  else
    if o1.1 = 1 then
      some ((1 : Int32), ou)
    else
      none
theorem f_L_bestNet_e (lo : xF) (yy_0 : Int32) (yy_1 : xF) (yy_2 : xF) (yy_3 : xF) (yy_4 : xF) (yy_5 : xF) (yy_6 : xF) (yy_7 : xF) (yy_8 : xF) (pp_0 : xF) (pp_1 : xF) (pp_2 : xF) (pp_3 : xF) (pp_4 : xF) (pp_5 : xF) (pp_6 : Int32) (pp_7 : Int32) (pp_8 : Int32) (qq_0 : xF) (qq_1 : xF) (qq_2 : xF) (qq_3 : xF) (qq_4 : xF) (qq_5 : xF) (qq_6 : Int32) (qq_7 : Int32) (qq_8 : Int32) (ou : (Nat → Int64)) (i1 : Int32) : f_L_bestNet lo (yy_0, yy_1, yy_2, yy_3, yy_4, yy_5, yy_6, yy_7, yy_8) (pp_0, pp_1, pp_2, pp_3, pp_4, pp_5, pp_6, pp_7, pp_8) (qq_0, qq_1, qq_2, qq_3, qq_4, qq_5, qq_6, qq_7, qq_8) ou i1 =
  Option.bind (f_X2_bestNet lo (yy_0, yy_1, yy_2, yy_3, yy_4, yy_5, yy_6, yy_7, yy_8) (pp_0, pp_1, pp_2, pp_3, pp_4, pp_5, pp_6, pp_7, pp_8) (qq_0, qq_1, qq_2, qq_3, qq_4, qq_5, qq_6, qq_7, qq_8) i1) fun (o1 : Nat × Int32) =>
  if o1.1 = 0 then
    some ((0 : Int32), (vp_updL ou (0 : Int32).toNatClampNeg o1.2.toInt64))
  else
    if o1.1 = 1 then
      some ((1 : Int32), ou)
    else
      none := rfl
set_option maxHeartbeats 4000000 in
set_option maxRecDepth 100000 in
theorem c_L_bestNet (l : Launch) (hl9 : l.stackTraces = false) (G : xG) (xa : Nat) (la : Nat) (ya : (Nat → Nat)) (pa : (Nat → Nat)) (qa : (Nat → Nat)) (oa : Nat) (lo : xF) (yy : xSY) (pp : xPL) (qq : xPL) (ou : (Nat → Int64)) (i1 : Int32) (o : Int32 × (Nat → Int64)) (h : f_L_bestNet lo yy pp qq ou i1 = some o) : xk_CL l yL_bestNet wsL_bestNet ({ frames := 7, cells := 1, slots := 6, locals := 111 } : Room) [.ref xa, .int i1, .ref oa] G (wXO xa (ya 0) la (pa 0) (qa 0) ++ (wLO G la lo ++ (wSYc G ya yy.1 yy.2.1 yy.2.2.1 yy.2.2.2.1 yy.2.2.2.2.1 yy.2.2.2.2.2.1 yy.2.2.2.2.2.2.1 yy.2.2.2.2.2.2.2.1 yy.2.2.2.2.2.2.2.2 ++ (wPLc G pa pp.1 pp.2.1 pp.2.2.1 pp.2.2.2.1 pp.2.2.2.2.1 pp.2.2.2.2.2.1 pp.2.2.2.2.2.2.1 pp.2.2.2.2.2.2.2.1 pp.2.2.2.2.2.2.2.2 ++ (wPLc G qa qq.1 qq.2.1 qq.2.2.1 qq.2.2.2.1 qq.2.2.2.2.1 qq.2.2.2.2.2.1 qq.2.2.2.2.2.2.1 qq.2.2.2.2.2.2.2.1 qq.2.2.2.2.2.2.2.2 ++ (wOU G oa ou)))))) (wXO xa (ya 0) la (pa 0) (qa 0) ++ (wLO G la lo ++ (wSYc G ya yy.1 yy.2.1 yy.2.2.1 yy.2.2.2.1 yy.2.2.2.2.1 yy.2.2.2.2.2.1 yy.2.2.2.2.2.2.1 yy.2.2.2.2.2.2.2.1 yy.2.2.2.2.2.2.2.2 ++ (wPLc G pa pp.1 pp.2.1 pp.2.2.1 pp.2.2.2.1 pp.2.2.2.2.1 pp.2.2.2.2.2.1 pp.2.2.2.2.2.2.1 pp.2.2.2.2.2.2.2.1 pp.2.2.2.2.2.2.2.2 ++ (wPLc G qa qq.1 qq.2.1 qq.2.2.1 qq.2.2.2.1 qq.2.2.2.2.1 qq.2.2.2.2.2.1 qq.2.2.2.2.2.2.1 qq.2.2.2.2.2.2.2.1 qq.2.2.2.2.2.2.2.2 ++ (wOU G oa o.2)))))) o.1 := by
  obtain ⟨yy_0, yy_1, yy_2, yy_3, yy_4, yy_5, yy_6, yy_7, yy_8⟩ := yy
  obtain ⟨pp_0, pp_1, pp_2, pp_3, pp_4, pp_5, pp_6, pp_7, pp_8⟩ := pp
  obtain ⟨qq_0, qq_1, qq_2, qq_3, qq_4, qq_5, qq_6, qq_7, qq_8⟩ := qq
  refine xk_CL.of (cc := cL_bestNet) (maxL := 4) (ret := (some .int)) (by decide) rfl (Nat.le_of_ble_eq_true rfl) ?_
  intro pr9 en9 s mm9 bl9 meth9 cd9 A ls H locs hx hb hr hml hts hown hlk hA hP hK hD hNE hS hl hXB hSR hZX hxt
  have hown : s.vm.findClass RL = some mm9.cls := hown
  have hl : lv_has ls 4 [(0, .ref xa), (1, .int i1), (2, .ref oa)] := hl
  have hP : va_P G.1 vwCl (wXO xa (ya 0) la (pa 0) (qa 0) ++ (wLO G la lo ++ (wSYc G ya yy_0 yy_1 yy_2 yy_3 yy_4 yy_5 yy_6 yy_7 yy_8 ++ (wPLc G pa pp_0 pp_1 pp_2 pp_3 pp_4 pp_5 pp_6 pp_7 pp_8 ++ (wPLc G qa qq_0 qq_1 qq_2 qq_3 qq_4 qq_5 qq_6 qq_7 qq_8 ++ (wOU G oa ou)))))) H := hP
  have hD : va_D A (wXO xa (ya 0) la (pa 0) (qa 0) ++ (wLO G la lo ++ (wSYc G ya yy_0 yy_1 yy_2 yy_3 yy_4 yy_5 yy_6 yy_7 yy_8 ++ (wPLc G pa pp_0 pp_1 pp_2 pp_3 pp_4 pp_5 pp_6 pp_7 pp_8 ++ (wPLc G qa qq_0 qq_1 qq_2 qq_3 qq_4 qq_5 qq_6 qq_7 qq_8 ++ (wOU G oa ou)))))) := hD
  have h := (f_L_bestNet_e lo yy_0 yy_1 yy_2 yy_3 yy_4 yy_5 yy_6 yy_7 yy_8 pp_0 pp_1 pp_2 pp_3 pp_4 pp_5 pp_6 pp_7 pp_8 qq_0 qq_1 qq_2 qq_3 qq_4 qq_5 qq_6 qq_7 qq_8 ou i1).symm.trans h
  refine lv_aload_n hx hb dL_bestNet_0 rfl (lv_at hl 2 rfl) ?_
  refine lv_iconst (v := (0 : Int32)) hx hb dL_bestNet_1 (by decide) ?_
  refine lv_aload_n hx hb dL_bestNet_2 rfl (lv_at hl 0 rfl) ?_
  refine lv_iload_n hx hb dL_bestNet_3 rfl (lv_at hl 1 rfl) ?_
  obtain ⟨o1, ho1, h⟩ := sp_b h
  refine xk_cx (vx_runV (As := [.int i1]) (rest := [.int (0 : Int32), .ref oa]) ⟨hx, hb, hml, hown, hts⟩ (c_X2_bestNet l hl9 G xa la ya pa qa lo (yy_0, yy_1, yy_2, yy_3, yy_4, yy_5, yy_6, yy_7, yy_8) (pp_0, pp_1, pp_2, pp_3, pp_4, pp_5, pp_6, pp_7, pp_8) (qq_0, qq_1, qq_2, qq_3, qq_4, qq_5, qq_6, qq_7, qq_8) i1 o1 ho1 H.size) (cwV 1 hts gL_bestNet_X2_bestNet rfl rfl rfl (by decide +kernel) ⟨Nat.le_of_ble_eq_true rfl, Nat.le_of_ble_eq_true rfl⟩) (xk_preVX hK hNE hXB hSR hZX hS (va_free (wc := (wXO xa (ya 0) la (pa 0) (qa 0) ++ (wLO G la lo ++ (wSYc G ya yy_0 yy_1 yy_2 yy_3 yy_4 yy_5 yy_6 yy_7 yy_8 ++ (wPLc G pa pp_0 pp_1 pp_2 pp_3 pp_4 pp_5 pp_6 pp_7 pp_8 ++ (wPLc G qa qq_0 qq_1 qq_2 qq_3 qq_4 qq_5 qq_6 qq_7 qq_8)))))) hD hS hA [0, 1, 2, 3, 4, 5, 6, 7, 8, 9, 10, 11, 12, 13, 14, 15, 16, 17, 18, 19, 20, 21, 22, 23, 24] rfl) (hP.sub (ws' := (wXO xa (ya 0) la (pa 0) (qa 0) ++ (wLO G la lo ++ (wSYc G ya yy_0 yy_1 yy_2 yy_3 yy_4 yy_5 yy_6 yy_7 yy_8 ++ (wPLc G pa pp_0 pp_1 pp_2 pp_3 pp_4 pp_5 pp_6 pp_7 pp_8 ++ (wPLc G qa qq_0 qq_1 qq_2 qq_3 qq_4 qq_5 qq_6 qq_7 qq_8)))))) [0, 1, 2, 3, 4, 5, 6, 7, 8, 9, 10, 11, 12, 13, 14, 15, 16, 17, 18, 19, 20, 21, 22, 23, 24] rfl) (hD.sub (ws' := (wXO xa (ya 0) la (pa 0) (qa 0) ++ (wLO G la lo ++ (wSYc G ya yy_0 yy_1 yy_2 yy_3 yy_4 yy_5 yy_6 yy_7 yy_8 ++ (wPLc G pa pp_0 pp_1 pp_2 pp_3 pp_4 pp_5 pp_6 pp_7 pp_8 ++ (wPLc G qa qq_0 qq_1 qq_2 qq_3 qq_4 qq_5 qq_6 qq_7 qq_8)))))) [0, 1, 2, 3, 4, 5, 6, 7, 8, 9, 10, 11, 12, 13, 14, 15, 16, 17, 18, 19, 20, 21, 22, 23, 24] (by decide) rfl) (ci := 2) rfl rfl) rfl rfl hl.1 rfl (lv_room (Nat.le_of_ble_eq_true rfl)) dL_bestNet_4 ⟨Nat.le_of_ble_eq_true rfl, Nat.le_of_ble_eq_true rfl⟩) hP hD hS hA [0, 1, 2, 3, 4, 5, 6, 7, 8, 9, 10, 11, 12, 13, 14, 15, 16, 17, 18, 19, 20, 21, 22, 23, 24] [25] [1, 2, 3, 4, 5, 6, 7, 8, 9, 10, 11, 12, 13, 14, 15, 16, 17, 18, 19, 20, 21, 22, 23, 24, 25, 0] [1, 2, 3, 4, 5, 6, 7, 8, 9, 10, 11, 12, 13, 14, 15, 16, 17, 18, 19, 20, 21, 22, 23, 24, 25, 0] rfl rfl (by decide) (by decide) rfl (by decide) rfl (by decide) (fun ce9 q9 H locs hk0 hP hD hS hce hcv hcl => ?_) (fun H locs hk0 hP hD hS => ?_)
  · have h := sp_f hk0 h
    by_cases e1 : o1.1 = 1
    · have h := sp_t e1 h
      rw [e1] at hcl
      refine vx_catch (E := "java/lang/IllegalArgumentException") (name := "java/lang/IllegalArgumentException") hown [] (⟨0, 9, 12, 13⟩ : ExceptionTableEntry) [] hxt (fun z hz => by cases hz) (by decide) (by decide) (hts (.classLink RL 13 "java/lang/IllegalArgumentException") (by decide +kernel)) (va_Nw.use rfl (hXB.2.2.2.1)) hce hcv hcl ?_
      refine lv_astore_n (lv' := [(3, .ref q9), (0, .ref xa), (1, .int i1), (2, .ref oa)]) hx hb dL_bestNet_12 rfl hl (by decide) rfl (fun ls hl => ?_)
      refine lv_iconst (v := (1 : Int32)) hx hb dL_bestNet_13 (by decide) ?_
      obtain rfl := sp_s h
      exact xk_reL hx hb hr hlk hP hD hS rfl dL_bestNet_14 (Nat.le_refl _) (Nat.le_refl _)
    · have h := sp_f e1 h
      exact sp_n h
  · have h := sp_t hk0 h
    have hP : va_P G.1 vwCl (wXO xa (ya 0) la (pa 0) (qa 0) ++ (wLO G la lo ++ (wSYc G ya yy_0 yy_1 yy_2 yy_3 yy_4 yy_5 yy_6 yy_7 yy_8 ++ (wPLc G pa pp_0 pp_1 pp_2 pp_3 pp_4 pp_5 pp_6 pp_7 pp_8 ++ (wPLc G qa qq_0 qq_1 qq_2 qq_3 qq_4 qq_5 qq_6 qq_7 qq_8 ++ (wOU G oa ou)))))) H := hP
    have hD : va_D A (wXO xa (ya 0) la (pa 0) (qa 0) ++ (wLO G la lo ++ (wSYc G ya yy_0 yy_1 yy_2 yy_3 yy_4 yy_5 yy_6 yy_7 yy_8 ++ (wPLc G pa pp_0 pp_1 pp_2 pp_3 pp_4 pp_5 pp_6 pp_7 pp_8 ++ (wPLc G qa qq_0 qq_1 qq_2 qq_3 qq_4 qq_5 qq_6 qq_7 qq_8 ++ (wOU G oa ou)))))) := hD
    refine lv_i2l (v := o1.2.toInt64) hx hb dL_bestNet_7 rfl ?_
    refine va_last hx hb hK hP hD hS 25 2 rfl rfl (xk_in0_1) dL_bestNet_8 (fun H locs hP hD hS => ?_)
    have hP : va_P G.1 vwCl (wXO xa (ya 0) la (pa 0) (qa 0) ++ (wLO G la lo ++ (wSYc G ya yy_0 yy_1 yy_2 yy_3 yy_4 yy_5 yy_6 yy_7 yy_8 ++ (wPLc G pa pp_0 pp_1 pp_2 pp_3 pp_4 pp_5 pp_6 pp_7 pp_8 ++ (wPLc G qa qq_0 qq_1 qq_2 qq_3 qq_4 qq_5 qq_6 qq_7 qq_8 ++ (wOU G oa (vp_updL ou (0 : Int32).toNatClampNeg o1.2.toInt64))))))) H := hP
    have hD : va_D A (wXO xa (ya 0) la (pa 0) (qa 0) ++ (wLO G la lo ++ (wSYc G ya yy_0 yy_1 yy_2 yy_3 yy_4 yy_5 yy_6 yy_7 yy_8 ++ (wPLc G pa pp_0 pp_1 pp_2 pp_3 pp_4 pp_5 pp_6 pp_7 pp_8 ++ (wPLc G qa qq_0 qq_1 qq_2 qq_3 qq_4 qq_5 qq_6 qq_7 qq_8 ++ (wOU G oa (vp_updL ou (0 : Int32).toNatClampNeg o1.2.toInt64))))))) := hD
    refine lv_goto (tgt := 15) hx hb dL_bestNet_9 (by decide) ?_
    refine lv_iconst (v := (0 : Int32)) hx hb dL_bestNet_15 (by decide) ?_
    obtain rfl := sp_s h
    exact xk_reL hx hb hr hlk hP hD hS rfl dL_bestNet_16 (Nat.le_refl _) (Nat.le_refl _)
