def f_X2_allNeeds (lo : xF) (yy : xSY) (pp : xPL) (qq : xPL) (i1 : Int32) : Option (Int32) :=
  Option.bind (f_X2_isAim lo (yy.1, yy.2.1, yy.2.2.1, yy.2.2.2.1, yy.2.2.2.2.1, yy.2.2.2.2.2.1, yy.2.2.2.2.2.2.1, yy.2.2.2.2.2.2.2.1, yy.2.2.2.2.2.2.2.2) (pp.1, pp.2.1, pp.2.2.1, pp.2.2.2.1, pp.2.2.2.2.1, pp.2.2.2.2.2.1, pp.2.2.2.2.2.2.1, pp.2.2.2.2.2.2.2.1, pp.2.2.2.2.2.2.2.2) (qq.1, qq.2.1, qq.2.2.1, qq.2.2.2.1, qq.2.2.2.2.1, qq.2.2.2.2.2.1, qq.2.2.2.2.2.2.1, qq.2.2.2.2.2.2.2.1, qq.2.2.2.2.2.2.2.2) i1) fun (o1 : Int32) =>
  if o1 = 0 then
    none
  else
    Option.bind (f_X1_reach (yy.1, yy.2.1, yy.2.2.1, yy.2.2.2.1, yy.2.2.2.2.1, yy.2.2.2.2.2.1, yy.2.2.2.2.2.2.1, yy.2.2.2.2.2.2.2.1, yy.2.2.2.2.2.2.2.2) i1) fun (o3 : Int32) =>
    some o3
theorem f_X2_allNeeds_e (lo : xF) (yy_0 : Int32) (yy_1 : xF) (yy_2 : xF) (yy_3 : xF) (yy_4 : xF) (yy_5 : xF) (yy_6 : xF) (yy_7 : xF) (yy_8 : xF) (pp_0 : xF) (pp_1 : xF) (pp_2 : xF) (pp_3 : xF) (pp_4 : xF) (pp_5 : xF) (pp_6 : Int32) (pp_7 : Int32) (pp_8 : Int32) (qq_0 : xF) (qq_1 : xF) (qq_2 : xF) (qq_3 : xF) (qq_4 : xF) (qq_5 : xF) (qq_6 : Int32) (qq_7 : Int32) (qq_8 : Int32) (i1 : Int32) : f_X2_allNeeds lo (yy_0, yy_1, yy_2, yy_3, yy_4, yy_5, yy_6, yy_7, yy_8) (pp_0, pp_1, pp_2, pp_3, pp_4, pp_5, pp_6, pp_7, pp_8) (qq_0, qq_1, qq_2, qq_3, qq_4, qq_5, qq_6, qq_7, qq_8) i1 =
  Option.bind (f_X2_isAim lo (yy_0, yy_1, yy_2, yy_3, yy_4, yy_5, yy_6, yy_7, yy_8) (pp_0, pp_1, pp_2, pp_3, pp_4, pp_5, pp_6, pp_7, pp_8) (qq_0, qq_1, qq_2, qq_3, qq_4, qq_5, qq_6, qq_7, qq_8) i1) fun (o1 : Int32) =>
  if o1 = 0 then
    none
  else
    Option.bind (f_X1_reach (yy_0, yy_1, yy_2, yy_3, yy_4, yy_5, yy_6, yy_7, yy_8) i1) fun (o3 : Int32) =>
    some o3 := rfl
set_option maxHeartbeats 8000000 in
set_option maxRecDepth 100000 in
theorem c_X2_allNeeds (l : Launch) (G : xG) (xa : Nat) (la : Nat) (ya : (Nat → Nat)) (pa : (Nat → Nat)) (qa : (Nat → Nat)) (lo : xF) (yy : xSY) (pp : xPL) (qq : xPL) (i1 : Int32) (o : Int32) (h : f_X2_allNeeds lo yy pp qq i1 = some o) : xk_CI l yX2_allNeeds wsX2_allNeeds ({ frames := 3, cells := 0, slots := 0, locals := 67 } : Room) 0 0 [.ref xa, .int i1] G ((wXO xa (ya 0) la (pa 0) (qa 0)) ++ ((wLO G la lo) ++ ((wSYc G ya yy.1 yy.2.1 yy.2.2.1 yy.2.2.2.1 yy.2.2.2.2.1 yy.2.2.2.2.2.1 yy.2.2.2.2.2.2.1 yy.2.2.2.2.2.2.2.1 yy.2.2.2.2.2.2.2.2) ++ ((wPLc G pa pp.1 pp.2.1 pp.2.2.1 pp.2.2.2.1 pp.2.2.2.2.1 pp.2.2.2.2.2.1 pp.2.2.2.2.2.2.1 pp.2.2.2.2.2.2.2.1 pp.2.2.2.2.2.2.2.2) ++ ((wPLc G qa qq.1 qq.2.1 qq.2.2.1 qq.2.2.2.1 qq.2.2.2.2.1 qq.2.2.2.2.2.1 qq.2.2.2.2.2.2.1 qq.2.2.2.2.2.2.2.1 qq.2.2.2.2.2.2.2.2)))))) ((wXO xa (ya 0) la (pa 0) (qa 0)) ++ ((wLO G la lo) ++ ((wSYc G ya yy.1 yy.2.1 yy.2.2.1 yy.2.2.2.1 yy.2.2.2.2.1 yy.2.2.2.2.2.1 yy.2.2.2.2.2.2.1 yy.2.2.2.2.2.2.2.1 yy.2.2.2.2.2.2.2.2) ++ ((wPLc G pa pp.1 pp.2.1 pp.2.2.1 pp.2.2.2.1 pp.2.2.2.2.1 pp.2.2.2.2.2.1 pp.2.2.2.2.2.2.1 pp.2.2.2.2.2.2.2.1 pp.2.2.2.2.2.2.2.2) ++ ((wPLc G qa qq.1 qq.2.1 qq.2.2.1 qq.2.2.2.1 qq.2.2.2.2.1 qq.2.2.2.2.2.1 qq.2.2.2.2.2.2.1 qq.2.2.2.2.2.2.2.1 qq.2.2.2.2.2.2.2.2)))))) o := by
  obtain ⟨yy_0, yy_1, yy_2, yy_3, yy_4, yy_5, yy_6, yy_7, yy_8⟩ := yy
  obtain ⟨pp_0, pp_1, pp_2, pp_3, pp_4, pp_5, pp_6, pp_7, pp_8⟩ := pp
  obtain ⟨qq_0, qq_1, qq_2, qq_3, qq_4, qq_5, qq_6, qq_7, qq_8⟩ := qq
  refine xk_CI.of (cc := cX2_allNeeds) (maxL := 2) (ret := (some .int)) (by decide) rfl (Nat.le_of_ble_eq_true rfl) ?_
  intro pr9 en9 s mm9 bl9 meth9 cd9 A ls H locs hx hb hr hml hts hown hlk hA hP hK hD hNE hS hl
  have hown : s.vm.findClass RX2 = some mm9.cls := hown
  have hl : lv_has ls 2 [(0, .ref xa), (1, .int i1)] := hl
  have hinX2 : ∀ w ∈ u_ws RX2 TX2 4, w ∈ wsX2_allNeeds := by decide +kernel
  have hP : va_P G.1 vwCl ((wXO xa (ya 0) la (pa 0) (qa 0)) ++ ((wLO G la lo) ++ ((wSYc G ya yy_0 yy_1 yy_2 yy_3 yy_4 yy_5 yy_6 yy_7 yy_8) ++ ((wPLc G pa pp_0 pp_1 pp_2 pp_3 pp_4 pp_5 pp_6 pp_7 pp_8) ++ ((wPLc G qa qq_0 qq_1 qq_2 qq_3 qq_4 qq_5 qq_6 qq_7 qq_8)))))) H := hP
  have hD : va_D A ((wXO xa (ya 0) la (pa 0) (qa 0)) ++ ((wLO G la lo) ++ ((wSYc G ya yy_0 yy_1 yy_2 yy_3 yy_4 yy_5 yy_6 yy_7 yy_8) ++ ((wPLc G pa pp_0 pp_1 pp_2 pp_3 pp_4 pp_5 pp_6 pp_7 pp_8) ++ ((wPLc G qa qq_0 qq_1 qq_2 qq_3 qq_4 qq_5 qq_6 qq_7 qq_8)))))) := hD
  have h := (f_X2_allNeeds_e lo yy_0 yy_1 yy_2 yy_3 yy_4 yy_5 yy_6 yy_7 yy_8 pp_0 pp_1 pp_2 pp_3 pp_4 pp_5 pp_6 pp_7 pp_8 qq_0 qq_1 qq_2 qq_3 qq_4 qq_5 qq_6 qq_7 qq_8 i1).symm.trans h
  refine lv_aload_n hx hb dX2_allNeeds_0 rfl (lv_at hl 0 rfl) ?_
  refine lv_iload_n hx hb dX2_allNeeds_1 rfl (lv_at hl 1 rfl) ?_
  obtain ⟨o1, ho1, h⟩ := sp_b h
  have hP9 : va_P G.1 vwCl (([] : va_W) ++ ((wXO xa (ya 0) la (pa 0) (qa 0)) ++ ((wLO G la lo) ++ ((wSYc G ya yy_0 yy_1 yy_2 yy_3 yy_4 yy_5 yy_6 yy_7 yy_8) ++ ((wPLc G pa pp_0 pp_1 pp_2 pp_3 pp_4 pp_5 pp_6 pp_7 pp_8) ++ ((wPLc G qa qq_0 qq_1 qq_2 qq_3 qq_4 qq_5 qq_6 qq_7 qq_8))))))) H := xf_P (xf_p_5_n_01234 (wXO xa (ya 0) la (pa 0) (qa 0)) (wLO G la lo) (wSYc G ya yy_0 yy_1 yy_2 yy_3 yy_4 yy_5 yy_6 yy_7 yy_8) (wPLc G pa pp_0 pp_1 pp_2 pp_3 pp_4 pp_5 pp_6 pp_7 pp_8) (wPLc G qa qq_0 qq_1 qq_2 qq_3 qq_4 qq_5 qq_6 qq_7 qq_8)) hP
  have hD9 : va_D A (([] : va_W) ++ ((wXO xa (ya 0) la (pa 0) (qa 0)) ++ ((wLO G la lo) ++ ((wSYc G ya yy_0 yy_1 yy_2 yy_3 yy_4 yy_5 yy_6 yy_7 yy_8) ++ ((wPLc G pa pp_0 pp_1 pp_2 pp_3 pp_4 pp_5 pp_6 pp_7 pp_8) ++ ((wPLc G qa qq_0 qq_1 qq_2 qq_3 qq_4 qq_5 qq_6 qq_7 qq_8))))))) := xf_D (xf_p_5_n_01234 (wXO xa (ya 0) la (pa 0) (qa 0)) (wLO G la lo) (wSYc G ya yy_0 yy_1 yy_2 yy_3 yy_4 yy_5 yy_6 yy_7 yy_8) (wPLc G pa pp_0 pp_1 pp_2 pp_3 pp_4 pp_5 pp_6 pp_7 pp_8) (wPLc G qa qq_0 qq_1 qq_2 qq_3 qq_4 qq_5 qq_6 qq_7 qq_8)) hD
  refine xf_ci (va_runV (As := [.int i1]) (rest := []) ⟨hx, hb, hml, hown, hts⟩ (c_X2_isAim l G xa la ya pa qa lo (yy_0, yy_1, yy_2, yy_3, yy_4, yy_5, yy_6, yy_7, yy_8) (pp_0, pp_1, pp_2, pp_3, pp_4, pp_5, pp_6, pp_7, pp_8) (qq_0, qq_1, qq_2, qq_3, qq_4, qq_5, qq_6, qq_7, qq_8) i1 o1 ho1 H.size) (cwV 1 hts gX2_allNeeds_X2_isAim rfl rfl rfl (by decide +kernel) ⟨(Nat.le_of_ble_eq_true rfl), (Nat.le_of_ble_eq_true rfl)⟩) (xk_preV hK hNE (xf_pr hP9) (xf_dr hD9) (ci := 2) rfl rfl) rfl rfl hl.1 rfl (lv_room (Nat.le_of_ble_eq_true rfl)) dX2_allNeeds_2 ⟨(Nat.le_of_ble_eq_true rfl), (Nat.le_of_ble_eq_true rfl)⟩) hP9 hD9 hS hA (fun H locs hP hD hS => ?_)
  have hP : va_P G.1 vwCl ((wXO xa (ya 0) la (pa 0) (qa 0)) ++ ((wLO G la lo) ++ ((wSYc G ya yy_0 yy_1 yy_2 yy_3 yy_4 yy_5 yy_6 yy_7 yy_8) ++ ((wPLc G pa pp_0 pp_1 pp_2 pp_3 pp_4 pp_5 pp_6 pp_7 pp_8) ++ ((wPLc G qa qq_0 qq_1 qq_2 qq_3 qq_4 qq_5 qq_6 qq_7 qq_8)))))) H := xf_P (xf_p_5_n_01234 (wXO xa (ya 0) la (pa 0) (qa 0)) (wLO G la lo) (wSYc G ya yy_0 yy_1 yy_2 yy_3 yy_4 yy_5 yy_6 yy_7 yy_8) (wPLc G pa pp_0 pp_1 pp_2 pp_3 pp_4 pp_5 pp_6 pp_7 pp_8) (wPLc G qa qq_0 qq_1 qq_2 qq_3 qq_4 qq_5 qq_6 qq_7 qq_8)).symm (show va_P G.1 vwCl (([] : va_W) ++ ((wXO xa (ya 0) la (pa 0) (qa 0)) ++ ((wLO G la lo) ++ ((wSYc G ya yy_0 yy_1 yy_2 yy_3 yy_4 yy_5 yy_6 yy_7 yy_8) ++ ((wPLc G pa pp_0 pp_1 pp_2 pp_3 pp_4 pp_5 pp_6 pp_7 pp_8) ++ ((wPLc G qa qq_0 qq_1 qq_2 qq_3 qq_4 qq_5 qq_6 qq_7 qq_8))))))) H from hP)
  have hD : va_D A ((wXO xa (ya 0) la (pa 0) (qa 0)) ++ ((wLO G la lo) ++ ((wSYc G ya yy_0 yy_1 yy_2 yy_3 yy_4 yy_5 yy_6 yy_7 yy_8) ++ ((wPLc G pa pp_0 pp_1 pp_2 pp_3 pp_4 pp_5 pp_6 pp_7 pp_8) ++ ((wPLc G qa qq_0 qq_1 qq_2 qq_3 qq_4 qq_5 qq_6 qq_7 qq_8)))))) := xf_D (xf_p_5_n_01234 (wXO xa (ya 0) la (pa 0) (qa 0)) (wLO G la lo) (wSYc G ya yy_0 yy_1 yy_2 yy_3 yy_4 yy_5 yy_6 yy_7 yy_8) (wPLc G pa pp_0 pp_1 pp_2 pp_3 pp_4 pp_5 pp_6 pp_7 pp_8) (wPLc G qa qq_0 qq_1 qq_2 qq_3 qq_4 qq_5 qq_6 qq_7 qq_8)).symm (show va_D A (([] : va_W) ++ ((wXO xa (ya 0) la (pa 0) (qa 0)) ++ ((wLO G la lo) ++ ((wSYc G ya yy_0 yy_1 yy_2 yy_3 yy_4 yy_5 yy_6 yy_7 yy_8) ++ ((wPLc G pa pp_0 pp_1 pp_2 pp_3 pp_4 pp_5 pp_6 pp_7 pp_8) ++ ((wPLc G qa qq_0 qq_1 qq_2 qq_3 qq_4 qq_5 qq_6 qq_7 qq_8))))))) from hD)
  refine lv_if_ne (tgt := 18) hx hb dX2_allNeeds_5 (by decide) (fun c2 => ?_) (fun c2 => ?_)
  · have h := sp_f c2 h
    refine lv_aload_n hx hb dX2_allNeeds_18 rfl (lv_at hl 0 rfl) ?_
    refine va_get (D := G.1) (ci := 2) (v := .ref (ya 0)) (C := RX2) (T := TX2) (N := 4) hx hb hts hinX2 hown hK hP 0 rfl rfl 0 (by decide) (hts (.fieldLink RX2 10 "LessonWeave" "syllabus" "LLessonWeave$Syllabus;") (by decide +kernel)) (fun _ h9 => h9) rfl dX2_allNeeds_19 ?_
    refine lv_iload_n hx hb dX2_allNeeds_22 rfl (lv_at hl 1 rfl) ?_
    obtain ⟨o3, ho3, h⟩ := sp_b h
    have hP9 : va_P G.1 vwCl (((wXO xa (ya 0) la (pa 0) (qa 0)) ++ ((wLO G la lo) ++ ((wPLc G pa pp_0 pp_1 pp_2 pp_3 pp_4 pp_5 pp_6 pp_7 pp_8) ++ ((wPLc G qa qq_0 qq_1 qq_2 qq_3 qq_4 qq_5 qq_6 qq_7 qq_8))))) ++ ((wSYc G ya yy_0 yy_1 yy_2 yy_3 yy_4 yy_5 yy_6 yy_7 yy_8))) H := xf_P (xf_p_5_0134_2 (wXO xa (ya 0) la (pa 0) (qa 0)) (wLO G la lo) (wSYc G ya yy_0 yy_1 yy_2 yy_3 yy_4 yy_5 yy_6 yy_7 yy_8) (wPLc G pa pp_0 pp_1 pp_2 pp_3 pp_4 pp_5 pp_6 pp_7 pp_8) (wPLc G qa qq_0 qq_1 qq_2 qq_3 qq_4 qq_5 qq_6 qq_7 qq_8)) hP
    have hD9 : va_D A (((wXO xa (ya 0) la (pa 0) (qa 0)) ++ ((wLO G la lo) ++ ((wPLc G pa pp_0 pp_1 pp_2 pp_3 pp_4 pp_5 pp_6 pp_7 pp_8) ++ ((wPLc G qa qq_0 qq_1 qq_2 qq_3 qq_4 qq_5 qq_6 qq_7 qq_8))))) ++ ((wSYc G ya yy_0 yy_1 yy_2 yy_3 yy_4 yy_5 yy_6 yy_7 yy_8))) := xf_D (xf_p_5_0134_2 (wXO xa (ya 0) la (pa 0) (qa 0)) (wLO G la lo) (wSYc G ya yy_0 yy_1 yy_2 yy_3 yy_4 yy_5 yy_6 yy_7 yy_8) (wPLc G pa pp_0 pp_1 pp_2 pp_3 pp_4 pp_5 pp_6 pp_7 pp_8) (wPLc G qa qq_0 qq_1 qq_2 qq_3 qq_4 qq_5 qq_6 qq_7 qq_8)) hD
    refine xf_ci (va_runV (As := [.int i1]) (rest := []) ⟨hx, hb, hml, hown, hts⟩ (c_X1_reach l G ya (yy_0, yy_1, yy_2, yy_3, yy_4, yy_5, yy_6, yy_7, yy_8) i1 o3 ho3 H.size) (cwV 1 hts gX2_allNeeds_X1_reach rfl rfl rfl (by decide +kernel) ⟨(Nat.le_of_ble_eq_true rfl), (Nat.le_of_ble_eq_true rfl)⟩) (xk_preV hK hNE (xf_pr hP9) (xf_dr hD9) (ci := 1) rfl rfl) rfl rfl hl.1 rfl (lv_room (Nat.le_of_ble_eq_true rfl)) dX2_allNeeds_23 ⟨(Nat.le_of_ble_eq_true rfl), (Nat.le_of_ble_eq_true rfl)⟩) hP9 hD9 hS hA (fun H locs hP hD hS => ?_)
    have hP : va_P G.1 vwCl ((wXO xa (ya 0) la (pa 0) (qa 0)) ++ ((wLO G la lo) ++ ((wSYc G ya yy_0 yy_1 yy_2 yy_3 yy_4 yy_5 yy_6 yy_7 yy_8) ++ ((wPLc G pa pp_0 pp_1 pp_2 pp_3 pp_4 pp_5 pp_6 pp_7 pp_8) ++ ((wPLc G qa qq_0 qq_1 qq_2 qq_3 qq_4 qq_5 qq_6 qq_7 qq_8)))))) H := xf_P (xf_p_5_0134_2 (wXO xa (ya 0) la (pa 0) (qa 0)) (wLO G la lo) (wSYc G ya yy_0 yy_1 yy_2 yy_3 yy_4 yy_5 yy_6 yy_7 yy_8) (wPLc G pa pp_0 pp_1 pp_2 pp_3 pp_4 pp_5 pp_6 pp_7 pp_8) (wPLc G qa qq_0 qq_1 qq_2 qq_3 qq_4 qq_5 qq_6 qq_7 qq_8)).symm (show va_P G.1 vwCl (((wXO xa (ya 0) la (pa 0) (qa 0)) ++ ((wLO G la lo) ++ ((wPLc G pa pp_0 pp_1 pp_2 pp_3 pp_4 pp_5 pp_6 pp_7 pp_8) ++ ((wPLc G qa qq_0 qq_1 qq_2 qq_3 qq_4 qq_5 qq_6 qq_7 qq_8))))) ++ ((wSYc G ya yy_0 yy_1 yy_2 yy_3 yy_4 yy_5 yy_6 yy_7 yy_8))) H from hP)
    have hD : va_D A ((wXO xa (ya 0) la (pa 0) (qa 0)) ++ ((wLO G la lo) ++ ((wSYc G ya yy_0 yy_1 yy_2 yy_3 yy_4 yy_5 yy_6 yy_7 yy_8) ++ ((wPLc G pa pp_0 pp_1 pp_2 pp_3 pp_4 pp_5 pp_6 pp_7 pp_8) ++ ((wPLc G qa qq_0 qq_1 qq_2 qq_3 qq_4 qq_5 qq_6 qq_7 qq_8)))))) := xf_D (xf_p_5_0134_2 (wXO xa (ya 0) la (pa 0) (qa 0)) (wLO G la lo) (wSYc G ya yy_0 yy_1 yy_2 yy_3 yy_4 yy_5 yy_6 yy_7 yy_8) (wPLc G pa pp_0 pp_1 pp_2 pp_3 pp_4 pp_5 pp_6 pp_7 pp_8) (wPLc G qa qq_0 qq_1 qq_2 qq_3 qq_4 qq_5 qq_6 qq_7 qq_8)).symm (show va_D A (((wXO xa (ya 0) la (pa 0) (qa 0)) ++ ((wLO G la lo) ++ ((wPLc G pa pp_0 pp_1 pp_2 pp_3 pp_4 pp_5 pp_6 pp_7 pp_8) ++ ((wPLc G qa qq_0 qq_1 qq_2 qq_3 qq_4 qq_5 qq_6 qq_7 qq_8))))) ++ ((wSYc G ya yy_0 yy_1 yy_2 yy_3 yy_4 yy_5 yy_6 yy_7 yy_8))) from hD)
    obtain rfl := sp_s h
    exact xk_reI hx hb hr hlk hP hD hS rfl dX2_allNeeds_26
  · have h := sp_t c2 h
    exact sp_n h
def f_X2_ordered (lo : xF) (yy : xSY) (pp : xPL) (qq : xPL) (i1 : Int32) : Option (Int32) :=
  Option.bind (f_X2_isWithin i1 (0 : Int32) (yy.1 - (1 : Int32))) fun (o1 : Int32) =>
  if o1 = 0 then
    none
  else
    if i1 < 0 ∨ 12 ≤ i1.toNatClampNeg then none else
    some (yy.2.2.2.2.2.2.2.2 i1.toNatClampNeg)
theorem f_X2_ordered_e (lo : xF) (yy_0 : Int32) (yy_1 : xF) (yy_2 : xF) (yy_3 : xF) (yy_4 : xF) (yy_5 : xF) (yy_6 : xF) (yy_7 : xF) (yy_8 : xF) (pp_0 : xF) (pp_1 : xF) (pp_2 : xF) (pp_3 : xF) (pp_4 : xF) (pp_5 : xF) (pp_6 : Int32) (pp_7 : Int32) (pp_8 : Int32) (qq_0 : xF) (qq_1 : xF) (qq_2 : xF) (qq_3 : xF) (qq_4 : xF) (qq_5 : xF) (qq_6 : Int32) (qq_7 : Int32) (qq_8 : Int32) (i1 : Int32) : f_X2_ordered lo (yy_0, yy_1, yy_2, yy_3, yy_4, yy_5, yy_6, yy_7, yy_8) (pp_0, pp_1, pp_2, pp_3, pp_4, pp_5, pp_6, pp_7, pp_8) (qq_0, qq_1, qq_2, qq_3, qq_4, qq_5, qq_6, qq_7, qq_8) i1 =
  Option.bind (f_X2_isWithin i1 (0 : Int32) (yy_0 - (1 : Int32))) fun (o1 : Int32) =>
  if o1 = 0 then
    none
  else
    if i1 < 0 ∨ 12 ≤ i1.toNatClampNeg then none else
    some (yy_8 i1.toNatClampNeg) := rfl
set_option maxHeartbeats 8000000 in
set_option maxRecDepth 100000 in
theorem c_X2_ordered (l : Launch) (G : xG) (xa : Nat) (la : Nat) (ya : (Nat → Nat)) (pa : (Nat → Nat)) (qa : (Nat → Nat)) (lo : xF) (yy : xSY) (pp : xPL) (qq : xPL) (i1 : Int32) (o : Int32) (h : f_X2_ordered lo yy pp qq i1 = some o) : xk_CI l yX2_ordered wsX2_ordered ({ frames := 1, cells := 0, slots := 0, locals := 22 } : Room) 0 0 [.ref xa, .int i1] G ((wXO xa (ya 0) la (pa 0) (qa 0)) ++ ((wLO G la lo) ++ ((wSYc G ya yy.1 yy.2.1 yy.2.2.1 yy.2.2.2.1 yy.2.2.2.2.1 yy.2.2.2.2.2.1 yy.2.2.2.2.2.2.1 yy.2.2.2.2.2.2.2.1 yy.2.2.2.2.2.2.2.2) ++ ((wPLc G pa pp.1 pp.2.1 pp.2.2.1 pp.2.2.2.1 pp.2.2.2.2.1 pp.2.2.2.2.2.1 pp.2.2.2.2.2.2.1 pp.2.2.2.2.2.2.2.1 pp.2.2.2.2.2.2.2.2) ++ ((wPLc G qa qq.1 qq.2.1 qq.2.2.1 qq.2.2.2.1 qq.2.2.2.2.1 qq.2.2.2.2.2.1 qq.2.2.2.2.2.2.1 qq.2.2.2.2.2.2.2.1 qq.2.2.2.2.2.2.2.2)))))) ((wXO xa (ya 0) la (pa 0) (qa 0)) ++ ((wLO G la lo) ++ ((wSYc G ya yy.1 yy.2.1 yy.2.2.1 yy.2.2.2.1 yy.2.2.2.2.1 yy.2.2.2.2.2.1 yy.2.2.2.2.2.2.1 yy.2.2.2.2.2.2.2.1 yy.2.2.2.2.2.2.2.2) ++ ((wPLc G pa pp.1 pp.2.1 pp.2.2.1 pp.2.2.2.1 pp.2.2.2.2.1 pp.2.2.2.2.2.1 pp.2.2.2.2.2.2.1 pp.2.2.2.2.2.2.2.1 pp.2.2.2.2.2.2.2.2) ++ ((wPLc G qa qq.1 qq.2.1 qq.2.2.1 qq.2.2.2.1 qq.2.2.2.2.1 qq.2.2.2.2.2.1 qq.2.2.2.2.2.2.1 qq.2.2.2.2.2.2.2.1 qq.2.2.2.2.2.2.2.2)))))) o := by
  obtain ⟨yy_0, yy_1, yy_2, yy_3, yy_4, yy_5, yy_6, yy_7, yy_8⟩ := yy
  obtain ⟨pp_0, pp_1, pp_2, pp_3, pp_4, pp_5, pp_6, pp_7, pp_8⟩ := pp
  obtain ⟨qq_0, qq_1, qq_2, qq_3, qq_4, qq_5, qq_6, qq_7, qq_8⟩ := qq
  refine xk_CI.of (cc := cX2_ordered) (maxL := 2) (ret := (some .int)) (by decide) rfl (Nat.le_of_ble_eq_true rfl) ?_
  intro pr9 en9 s mm9 bl9 meth9 cd9 A ls H locs hx hb hr hml hts hown hlk hA hP hK hD hNE hS hl
  have hown : s.vm.findClass RX2 = some mm9.cls := hown
  have hl : lv_has ls 2 [(0, .ref xa), (1, .int i1)] := hl
  have hinX1 : ∀ w ∈ u_ws RX1 TX1 9, w ∈ wsX2_ordered := by decide +kernel
  have hinX2 : ∀ w ∈ u_ws RX2 TX2 4, w ∈ wsX2_ordered := by decide +kernel
  have hP : va_P G.1 vwCl ((wXO xa (ya 0) la (pa 0) (qa 0)) ++ ((wLO G la lo) ++ ((wSYc G ya yy_0 yy_1 yy_2 yy_3 yy_4 yy_5 yy_6 yy_7 yy_8) ++ ((wPLc G pa pp_0 pp_1 pp_2 pp_3 pp_4 pp_5 pp_6 pp_7 pp_8) ++ ((wPLc G qa qq_0 qq_1 qq_2 qq_3 qq_4 qq_5 qq_6 qq_7 qq_8)))))) H := hP
  have hD : va_D A ((wXO xa (ya 0) la (pa 0) (qa 0)) ++ ((wLO G la lo) ++ ((wSYc G ya yy_0 yy_1 yy_2 yy_3 yy_4 yy_5 yy_6 yy_7 yy_8) ++ ((wPLc G pa pp_0 pp_1 pp_2 pp_3 pp_4 pp_5 pp_6 pp_7 pp_8) ++ ((wPLc G qa qq_0 qq_1 qq_2 qq_3 qq_4 qq_5 qq_6 qq_7 qq_8)))))) := hD
  have h := (f_X2_ordered_e lo yy_0 yy_1 yy_2 yy_3 yy_4 yy_5 yy_6 yy_7 yy_8 pp_0 pp_1 pp_2 pp_3 pp_4 pp_5 pp_6 pp_7 pp_8 qq_0 qq_1 qq_2 qq_3 qq_4 qq_5 qq_6 qq_7 qq_8 i1).symm.trans h
  refine lv_iload_n hx hb dX2_ordered_0 rfl (lv_at hl 1 rfl) ?_
  refine lv_iconst (v := (0 : Int32)) hx hb dX2_ordered_1 (by decide) ?_
  refine lv_aload_n hx hb dX2_ordered_2 rfl (lv_at hl 0 rfl) ?_
  refine va_get (D := G.1) (ci := 2) (v := .ref (ya 0)) (C := RX2) (T := TX2) (N := 4) hx hb hts hinX2 hown hK hP 0 rfl rfl 0 (by decide) (hts (.fieldLink RX2 10 "LessonWeave" "syllabus" "LLessonWeave$Syllabus;") (by decide +kernel)) (fun _ h9 => h9) rfl dX2_ordered_3 ?_
  refine va_getN (D := G.1) (ci := 1) (v := .int yy_0) (C := RX1) (T := TX1) (N := 9) hx hb hts hinX1 hown hK hP 2 rfl rfl 0 (by decide) (va_Nw.use rfl hNE.1) (fun _ h9 => h9) rfl dX2_ordered_6 ?_
  refine lv_iconst (v := (1 : Int32)) hx hb dX2_ordered_9 (by decide) ?_
  refine lv_isub hx hb dX2_ordered_10 ?_
  obtain ⟨o1, ho1, h⟩ := sp_b h
  refine xf_ci0 (va_runS (As := [.int i1, .int (0 : Int32), .int (yy_0 - (1 : Int32))]) (rest := []) ⟨hx, hb, hml, hown, hts⟩ (c_X2_isWithin l G i1 (0 : Int32) (yy_0 - (1 : Int32)) o1 ho1 H.size) (va_cwS 3 hts gX2_ordered_X2_isWithin rfl rfl rfl (by decide +kernel) ⟨(Nat.le_of_ble_eq_true rfl), (Nat.le_of_ble_eq_true rfl)⟩) (xk_preS hK hNE (xf_p0 : va_P G.1 vwCl [] H) (xf_d0 : va_D A [])) rfl rfl hl.1 rfl (lv_room (Nat.le_of_ble_eq_true rfl)) dX2_ordered_11 ⟨(Nat.le_of_ble_eq_true rfl), (Nat.le_of_ble_eq_true rfl)⟩) hP hD hS hA (fun H locs hP hD hS => ?_)
  refine lv_if_ne (tgt := 27) hx hb dX2_ordered_14 (by decide) (fun c2 => ?_) (fun c2 => ?_)
  · have h := sp_f c2 h
    refine lv_aload_n hx hb dX2_ordered_27 rfl (lv_at hl 0 rfl) ?_
    refine va_get (D := G.1) (ci := 2) (v := .ref (ya 0)) (C := RX2) (T := TX2) (N := 4) hx hb hts hinX2 hown hK hP 0 rfl rfl 0 (by decide) (hts (.fieldLink RX2 10 "LessonWeave" "syllabus" "LLessonWeave$Syllabus;") (by decide +kernel)) (fun _ h9 => h9) rfl dX2_ordered_28 ?_
    refine va_getN (D := G.1) (ci := 1) (v := .ref (ya 8)) (C := RX1) (T := TX1) (N := 9) hx hb hts hinX1 hown hK hP 2 rfl rfl 8 (by decide) (va_Nw.use rfl hNE.2.2.2.2.2.2.2.2.2.2.1) (fun _ h9 => h9) rfl dX2_ordered_31 ?_
    refine lv_iload_n hx hb dX2_ordered_34 rfl (lv_at hl 1 rfl) ?_
    obtain ⟨hin3, h⟩ := sp_g h
    refine va_iald hx hb hK hP 10 0 rfl rfl hin3 dX2_ordered_35 ?_
    obtain rfl := sp_s h
    exact xk_reI hx hb hr hlk hP hD hS rfl dX2_ordered_36
  · have h := sp_t c2 h
    exact sp_n h
theorem xf_p_5_012_43 (g0 g1 g2 g3 g4 : va_W) : List.Perm (g0 ++ (g1 ++ (g2 ++ (g3 ++ (g4))))) ((g0 ++ (g1 ++ (g2))) ++ (g4 ++ (g3))) := by
  have h1 : List.Perm (g0 ++ (g1 ++ (g2 ++ (g3 ++ (g4))))) (g0 ++ (g1 ++ (g2 ++ (g4 ++ (g3))))) := ((List.Perm.refl _).trans (xf_c _ ((List.Perm.refl _).trans (xf_c _ ((List.Perm.refl _).trans (xf_c _ ((xf_s1 _ _).trans (xf_c _ (List.Perm.refl _)))))))))
  exact h1.trans (show List.Perm (g0 ++ (g1 ++ (g2 ++ (g4 ++ (g3))))) ((g0 ++ (g1 ++ (g2))) ++ (g4 ++ (g3))) from ((xf_c _ ((xf_c _ (List.Perm.refl _)).trans (List.Perm.of_eq (List.append_assoc _ _ _).symm))).trans (List.Perm.of_eq (List.append_assoc _ _ _).symm)))
def f_X2_lose (lo : xF) (yy : xSY) (pp : xPL) (qq : xPL) (i1 : Int32) : Option (Int32 × xF × xPL × xPL) :=
  Option.bind (f_X2_isDay i1) fun (o1 : Int32) =>
  if o1 = 0 then
    none
  else
    if i1 < 0 ∨ 100 ≤ i1.toNatClampNeg then none else
    if (lo i1.toNatClampNeg) = 0 then
      Option.bind (f_X2_planAnew (upd lo i1.toNatClampNeg (1 : Int32)) (yy.1, yy.2.1, yy.2.2.1, yy.2.2.2.1, yy.2.2.2.2.1, yy.2.2.2.2.2.1, yy.2.2.2.2.2.2.1, yy.2.2.2.2.2.2.2.1, yy.2.2.2.2.2.2.2.2) (pp.1, pp.2.1, pp.2.2.1, pp.2.2.2.1, pp.2.2.2.2.1, pp.2.2.2.2.2.1, pp.2.2.2.2.2.2.1, pp.2.2.2.2.2.2.2.1, pp.2.2.2.2.2.2.2.2) (qq.1, qq.2.1, qq.2.2.1, qq.2.2.2.1, qq.2.2.2.2.1, qq.2.2.2.2.2.1, qq.2.2.2.2.2.2.1, qq.2.2.2.2.2.2.2.1, qq.2.2.2.2.2.2.2.2)) fun (o5 : xPL × xPL) =>
      Option.bind (f_X0_movedSince o5.1 o5.2) fun (o6 : Int32) =>
      some (o6, (upd lo i1.toNatClampNeg (1 : Int32)), o5.1, o5.2)
    else
      none
theorem f_X2_lose_e (lo : xF) (yy_0 : Int32) (yy_1 : xF) (yy_2 : xF) (yy_3 : xF) (yy_4 : xF) (yy_5 : xF) (yy_6 : xF) (yy_7 : xF) (yy_8 : xF) (pp_0 : xF) (pp_1 : xF) (pp_2 : xF) (pp_3 : xF) (pp_4 : xF) (pp_5 : xF) (pp_6 : Int32) (pp_7 : Int32) (pp_8 : Int32) (qq_0 : xF) (qq_1 : xF) (qq_2 : xF) (qq_3 : xF) (qq_4 : xF) (qq_5 : xF) (qq_6 : Int32) (qq_7 : Int32) (qq_8 : Int32) (i1 : Int32) : f_X2_lose lo (yy_0, yy_1, yy_2, yy_3, yy_4, yy_5, yy_6, yy_7, yy_8) (pp_0, pp_1, pp_2, pp_3, pp_4, pp_5, pp_6, pp_7, pp_8) (qq_0, qq_1, qq_2, qq_3, qq_4, qq_5, qq_6, qq_7, qq_8) i1 =
  Option.bind (f_X2_isDay i1) fun (o1 : Int32) =>
  if o1 = 0 then
    none
  else
    if i1 < 0 ∨ 100 ≤ i1.toNatClampNeg then none else
    if (lo i1.toNatClampNeg) = 0 then
      Option.bind (f_X2_planAnew (upd lo i1.toNatClampNeg (1 : Int32)) (yy_0, yy_1, yy_2, yy_3, yy_4, yy_5, yy_6, yy_7, yy_8) (pp_0, pp_1, pp_2, pp_3, pp_4, pp_5, pp_6, pp_7, pp_8) (qq_0, qq_1, qq_2, qq_3, qq_4, qq_5, qq_6, qq_7, qq_8)) fun (o5 : xPL × xPL) =>
      Option.bind (f_X0_movedSince o5.1 o5.2) fun (o6 : Int32) =>
      some (o6, (upd lo i1.toNatClampNeg (1 : Int32)), o5.1, o5.2)
    else
      none := rfl
set_option maxHeartbeats 8000000 in
set_option maxRecDepth 100000 in
theorem c_X2_lose (l : Launch) (G : xG) (xa : Nat) (la : Nat) (ya : (Nat → Nat)) (pa : (Nat → Nat)) (qa : (Nat → Nat)) (lo : xF) (yy : xSY) (pp : xPL) (qq : xPL) (i1 : Int32) (o : Int32 × xF × xPL × xPL) (h : f_X2_lose lo yy pp qq i1 = some o) : xk_CI l yX2_lose wsX2_lose ({ frames := 6, cells := 0, slots := 0, locals := 139 } : Room) 0 0 [.ref xa, .int i1] G ((wXO xa (ya 0) la (pa 0) (qa 0)) ++ ((wLO G la lo) ++ ((wSYc G ya yy.1 yy.2.1 yy.2.2.1 yy.2.2.2.1 yy.2.2.2.2.1 yy.2.2.2.2.2.1 yy.2.2.2.2.2.2.1 yy.2.2.2.2.2.2.2.1 yy.2.2.2.2.2.2.2.2) ++ ((wPLc G pa pp.1 pp.2.1 pp.2.2.1 pp.2.2.2.1 pp.2.2.2.2.1 pp.2.2.2.2.2.1 pp.2.2.2.2.2.2.1 pp.2.2.2.2.2.2.2.1 pp.2.2.2.2.2.2.2.2) ++ ((wPLc G qa qq.1 qq.2.1 qq.2.2.1 qq.2.2.2.1 qq.2.2.2.2.1 qq.2.2.2.2.2.1 qq.2.2.2.2.2.2.1 qq.2.2.2.2.2.2.2.1 qq.2.2.2.2.2.2.2.2)))))) ((wXO xa (ya 0) la (qa 0) (pa 0)) ++ ((wLO G la o.2.1) ++ ((wSYc G ya yy.1 yy.2.1 yy.2.2.1 yy.2.2.2.1 yy.2.2.2.2.1 yy.2.2.2.2.2.1 yy.2.2.2.2.2.2.1 yy.2.2.2.2.2.2.2.1 yy.2.2.2.2.2.2.2.2) ++ ((wPLc G qa o.2.2.1.1 o.2.2.1.2.1 o.2.2.1.2.2.1 o.2.2.1.2.2.2.1 o.2.2.1.2.2.2.2.1 o.2.2.1.2.2.2.2.2.1 o.2.2.1.2.2.2.2.2.2.1 o.2.2.1.2.2.2.2.2.2.2.1 o.2.2.1.2.2.2.2.2.2.2.2) ++ ((wPLc G pa o.2.2.2.1 o.2.2.2.2.1 o.2.2.2.2.2.1 o.2.2.2.2.2.2.1 o.2.2.2.2.2.2.2.1 o.2.2.2.2.2.2.2.2.1 o.2.2.2.2.2.2.2.2.2.1 o.2.2.2.2.2.2.2.2.2.2.1 o.2.2.2.2.2.2.2.2.2.2.2)))))) o.1 := by
  obtain ⟨yy_0, yy_1, yy_2, yy_3, yy_4, yy_5, yy_6, yy_7, yy_8⟩ := yy
  obtain ⟨pp_0, pp_1, pp_2, pp_3, pp_4, pp_5, pp_6, pp_7, pp_8⟩ := pp
  obtain ⟨qq_0, qq_1, qq_2, qq_3, qq_4, qq_5, qq_6, qq_7, qq_8⟩ := qq
  refine xk_CI.of (cc := cX2_lose) (maxL := 2) (ret := (some .int)) (by decide) rfl (Nat.le_of_ble_eq_true rfl) ?_
  intro pr9 en9 s mm9 bl9 meth9 cd9 A ls H locs hx hb hr hml hts hown hlk hA hP hK hD hNE hS hl
  have hown : s.vm.findClass RX2 = some mm9.cls := hown
  have hl : lv_has ls 2 [(0, .ref xa), (1, .int i1)] := hl
  have hinX2 : ∀ w ∈ u_ws RX2 TX2 4, w ∈ wsX2_lose := by decide +kernel
  have hP : va_P G.1 vwCl ((wXO xa (ya 0) la (pa 0) (qa 0)) ++ ((wLO G la lo) ++ ((wSYc G ya yy_0 yy_1 yy_2 yy_3 yy_4 yy_5 yy_6 yy_7 yy_8) ++ ((wPLc G pa pp_0 pp_1 pp_2 pp_3 pp_4 pp_5 pp_6 pp_7 pp_8) ++ ((wPLc G qa qq_0 qq_1 qq_2 qq_3 qq_4 qq_5 qq_6 qq_7 qq_8)))))) H := hP
  have hD : va_D A ((wXO xa (ya 0) la (pa 0) (qa 0)) ++ ((wLO G la lo) ++ ((wSYc G ya yy_0 yy_1 yy_2 yy_3 yy_4 yy_5 yy_6 yy_7 yy_8) ++ ((wPLc G pa pp_0 pp_1 pp_2 pp_3 pp_4 pp_5 pp_6 pp_7 pp_8) ++ ((wPLc G qa qq_0 qq_1 qq_2 qq_3 qq_4 qq_5 qq_6 qq_7 qq_8)))))) := hD
  have h := (f_X2_lose_e lo yy_0 yy_1 yy_2 yy_3 yy_4 yy_5 yy_6 yy_7 yy_8 pp_0 pp_1 pp_2 pp_3 pp_4 pp_5 pp_6 pp_7 pp_8 qq_0 qq_1 qq_2 qq_3 qq_4 qq_5 qq_6 qq_7 qq_8 i1).symm.trans h
  refine lv_iload_n hx hb dX2_lose_0 rfl (lv_at hl 1 rfl) ?_
  obtain ⟨o1, ho1, h⟩ := sp_b h
  refine xf_ci0 (va_runS (As := [.int i1]) (rest := []) ⟨hx, hb, hml, hown, hts⟩ (c_X2_isDay l G i1 o1 ho1 H.size) (va_cwS 1 hts gX2_lose_X2_isDay rfl rfl rfl (by decide +kernel) ⟨(Nat.le_of_ble_eq_true rfl), (Nat.le_of_ble_eq_true rfl)⟩) (xk_preS hK hNE (xf_p0 : va_P G.1 vwCl [] H) (xf_d0 : va_D A [])) rfl rfl hl.1 rfl (lv_room (Nat.le_of_ble_eq_true rfl)) dX2_lose_1 ⟨(Nat.le_of_ble_eq_true rfl), (Nat.le_of_ble_eq_true rfl)⟩) hP hD hS hA (fun H locs hP hD hS => ?_)
  refine lv_if_ne (tgt := 17) hx hb dX2_lose_4 (by decide) (fun c2 => ?_) (fun c2 => ?_)
  · have h := sp_f c2 h
    refine lv_aload_n hx hb dX2_lose_17 rfl (lv_at hl 0 rfl) ?_
    refine va_get (D := G.1) (ci := 2) (v := .ref la) (C := RX2) (T := TX2) (N := 4) hx hb hts hinX2 hown hK hP 0 rfl rfl 1 (by decide) (hts (.fieldLink RX2 16 "LessonWeave" "lost" "[Z") (by decide +kernel)) (fun _ h9 => h9) rfl dX2_lose_18 ?_
    refine lv_iload_n hx hb dX2_lose_21 rfl (lv_at hl 1 rfl) ?_
    obtain ⟨hin3, h⟩ := sp_g h
    refine va_zald hx hb hK hP 1 1 rfl rfl hin3 dX2_lose_22 ?_
    refine lv_if_eq (tgt := 36) hx hb dX2_lose_23 (by decide) (fun c4 => ?_) (fun c4 => ?_)
    · have h := sp_t c4 h
      refine lv_aload_n hx hb dX2_lose_36 rfl (lv_at hl 0 rfl) ?_
      refine va_get (D := G.1) (ci := 2) (v := .ref la) (C := RX2) (T := TX2) (N := 4) hx hb hts hinX2 hown hK hP 0 rfl rfl 1 (by decide) (hts (.fieldLink RX2 16 "LessonWeave" "lost" "[Z") (by decide +kernel)) (fun _ h9 => h9) rfl dX2_lose_37 ?_
      refine lv_iload_n hx hb dX2_lose_40 rfl (lv_at hl 1 rfl) ?_
      refine lv_iconst (v := (1 : Int32)) hx hb dX2_lose_41 (by decide) ?_
      refine va_zast hx hb hK hP hD hS 1 1 rfl rfl hin3 dX2_lose_42 (fun H locs hP hD hS => ?_)
      have hP : va_P G.1 vwCl ((wXO xa (ya 0) la (pa 0) (qa 0)) ++ ((wLO G la (upd lo i1.toNatClampNeg (1 : Int32))) ++ ((wSYc G ya yy_0 yy_1 yy_2 yy_3 yy_4 yy_5 yy_6 yy_7 yy_8) ++ ((wPLc G pa pp_0 pp_1 pp_2 pp_3 pp_4 pp_5 pp_6 pp_7 pp_8) ++ ((wPLc G qa qq_0 qq_1 qq_2 qq_3 qq_4 qq_5 qq_6 qq_7 qq_8)))))) H := hP
      have hD : va_D A ((wXO xa (ya 0) la (pa 0) (qa 0)) ++ ((wLO G la (upd lo i1.toNatClampNeg (1 : Int32))) ++ ((wSYc G ya yy_0 yy_1 yy_2 yy_3 yy_4 yy_5 yy_6 yy_7 yy_8) ++ ((wPLc G pa pp_0 pp_1 pp_2 pp_3 pp_4 pp_5 pp_6 pp_7 pp_8) ++ ((wPLc G qa qq_0 qq_1 qq_2 qq_3 qq_4 qq_5 qq_6 qq_7 qq_8)))))) := hD
      refine lv_aload_n hx hb dX2_lose_43 rfl (lv_at hl 0 rfl) ?_
      obtain ⟨o5, ho5, h⟩ := sp_b h
      have hP9 : va_P G.1 vwCl (([] : va_W) ++ ((wXO xa (ya 0) la (pa 0) (qa 0)) ++ ((wLO G la (upd lo i1.toNatClampNeg (1 : Int32))) ++ ((wSYc G ya yy_0 yy_1 yy_2 yy_3 yy_4 yy_5 yy_6 yy_7 yy_8) ++ ((wPLc G pa pp_0 pp_1 pp_2 pp_3 pp_4 pp_5 pp_6 pp_7 pp_8) ++ ((wPLc G qa qq_0 qq_1 qq_2 qq_3 qq_4 qq_5 qq_6 qq_7 qq_8))))))) H := xf_P (xf_p_5_n_01234 (wXO xa (ya 0) la (pa 0) (qa 0)) (wLO G la (upd lo i1.toNatClampNeg (1 : Int32))) (wSYc G ya yy_0 yy_1 yy_2 yy_3 yy_4 yy_5 yy_6 yy_7 yy_8) (wPLc G pa pp_0 pp_1 pp_2 pp_3 pp_4 pp_5 pp_6 pp_7 pp_8) (wPLc G qa qq_0 qq_1 qq_2 qq_3 qq_4 qq_5 qq_6 qq_7 qq_8)) hP
      have hD9 : va_D A (([] : va_W) ++ ((wXO xa (ya 0) la (pa 0) (qa 0)) ++ ((wLO G la (upd lo i1.toNatClampNeg (1 : Int32))) ++ ((wSYc G ya yy_0 yy_1 yy_2 yy_3 yy_4 yy_5 yy_6 yy_7 yy_8) ++ ((wPLc G pa pp_0 pp_1 pp_2 pp_3 pp_4 pp_5 pp_6 pp_7 pp_8) ++ ((wPLc G qa qq_0 qq_1 qq_2 qq_3 qq_4 qq_5 qq_6 qq_7 qq_8))))))) := xf_D (xf_p_5_n_01234 (wXO xa (ya 0) la (pa 0) (qa 0)) (wLO G la (upd lo i1.toNatClampNeg (1 : Int32))) (wSYc G ya yy_0 yy_1 yy_2 yy_3 yy_4 yy_5 yy_6 yy_7 yy_8) (wPLc G pa pp_0 pp_1 pp_2 pp_3 pp_4 pp_5 pp_6 pp_7 pp_8) (wPLc G qa qq_0 qq_1 qq_2 qq_3 qq_4 qq_5 qq_6 qq_7 qq_8)) hD
      refine xf_cv (va_runV (As := []) (rest := []) ⟨hx, hb, hml, hown, hts⟩ (c_X2_planAnew l G xa la ya pa qa (upd lo i1.toNatClampNeg (1 : Int32)) (yy_0, yy_1, yy_2, yy_3, yy_4, yy_5, yy_6, yy_7, yy_8) (pp_0, pp_1, pp_2, pp_3, pp_4, pp_5, pp_6, pp_7, pp_8) (qq_0, qq_1, qq_2, qq_3, qq_4, qq_5, qq_6, qq_7, qq_8) o5 ho5 H.size) (cwV 0 hts gX2_lose_X2_planAnew rfl rfl rfl (by decide +kernel) ⟨(Nat.le_of_ble_eq_true rfl), (Nat.le_of_ble_eq_true rfl)⟩) (xk_preV hK hNE (xf_pr hP9) (xf_dr hD9) (ci := 2) rfl rfl) rfl rfl hl.1 rfl (lv_room (Nat.le_of_ble_eq_true rfl)) dX2_lose_44 ⟨(Nat.le_of_ble_eq_true rfl), (Nat.le_of_ble_eq_true rfl)⟩) hP9 hD9 hS hA (fun H locs hP hD hS => ?_)
      have hP : va_P G.1 vwCl ((wXO xa (ya 0) la (qa 0) (pa 0)) ++ ((wLO G la (upd lo i1.toNatClampNeg (1 : Int32))) ++ ((wSYc G ya yy_0 yy_1 yy_2 yy_3 yy_4 yy_5 yy_6 yy_7 yy_8) ++ ((wPLc G pa o5.2.1 o5.2.2.1 o5.2.2.2.1 o5.2.2.2.2.1 o5.2.2.2.2.2.1 o5.2.2.2.2.2.2.1 o5.2.2.2.2.2.2.2.1 o5.2.2.2.2.2.2.2.2.1 o5.2.2.2.2.2.2.2.2.2) ++ ((wPLc G qa o5.1.1 o5.1.2.1 o5.1.2.2.1 o5.1.2.2.2.1 o5.1.2.2.2.2.1 o5.1.2.2.2.2.2.1 o5.1.2.2.2.2.2.2.1 o5.1.2.2.2.2.2.2.2.1 o5.1.2.2.2.2.2.2.2.2)))))) H := xf_P (xf_p_5_n_01243 (wXO xa (ya 0) la (qa 0) (pa 0)) (wLO G la (upd lo i1.toNatClampNeg (1 : Int32))) (wSYc G ya yy_0 yy_1 yy_2 yy_3 yy_4 yy_5 yy_6 yy_7 yy_8) (wPLc G pa o5.2.1 o5.2.2.1 o5.2.2.2.1 o5.2.2.2.2.1 o5.2.2.2.2.2.1 o5.2.2.2.2.2.2.1 o5.2.2.2.2.2.2.2.1 o5.2.2.2.2.2.2.2.2.1 o5.2.2.2.2.2.2.2.2.2) (wPLc G qa o5.1.1 o5.1.2.1 o5.1.2.2.1 o5.1.2.2.2.1 o5.1.2.2.2.2.1 o5.1.2.2.2.2.2.1 o5.1.2.2.2.2.2.2.1 o5.1.2.2.2.2.2.2.2.1 o5.1.2.2.2.2.2.2.2.2)).symm (show va_P G.1 vwCl (([] : va_W) ++ ((wXO xa (ya 0) la (qa 0) (pa 0)) ++ ((wLO G la (upd lo i1.toNatClampNeg (1 : Int32))) ++ ((wSYc G ya yy_0 yy_1 yy_2 yy_3 yy_4 yy_5 yy_6 yy_7 yy_8) ++ ((wPLc G qa o5.1.1 o5.1.2.1 o5.1.2.2.1 o5.1.2.2.2.1 o5.1.2.2.2.2.1 o5.1.2.2.2.2.2.1 o5.1.2.2.2.2.2.2.1 o5.1.2.2.2.2.2.2.2.1 o5.1.2.2.2.2.2.2.2.2) ++ ((wPLc G pa o5.2.1 o5.2.2.1 o5.2.2.2.1 o5.2.2.2.2.1 o5.2.2.2.2.2.1 o5.2.2.2.2.2.2.1 o5.2.2.2.2.2.2.2.1 o5.2.2.2.2.2.2.2.2.1 o5.2.2.2.2.2.2.2.2.2))))))) H from hP)
      have hD : va_D A ((wXO xa (ya 0) la (qa 0) (pa 0)) ++ ((wLO G la (upd lo i1.toNatClampNeg (1 : Int32))) ++ ((wSYc G ya yy_0 yy_1 yy_2 yy_3 yy_4 yy_5 yy_6 yy_7 yy_8) ++ ((wPLc G pa o5.2.1 o5.2.2.1 o5.2.2.2.1 o5.2.2.2.2.1 o5.2.2.2.2.2.1 o5.2.2.2.2.2.2.1 o5.2.2.2.2.2.2.2.1 o5.2.2.2.2.2.2.2.2.1 o5.2.2.2.2.2.2.2.2.2) ++ ((wPLc G qa o5.1.1 o5.1.2.1 o5.1.2.2.1 o5.1.2.2.2.1 o5.1.2.2.2.2.1 o5.1.2.2.2.2.2.1 o5.1.2.2.2.2.2.2.1 o5.1.2.2.2.2.2.2.2.1 o5.1.2.2.2.2.2.2.2.2)))))) := xf_D (xf_p_5_n_01243 (wXO xa (ya 0) la (qa 0) (pa 0)) (wLO G la (upd lo i1.toNatClampNeg (1 : Int32))) (wSYc G ya yy_0 yy_1 yy_2 yy_3 yy_4 yy_5 yy_6 yy_7 yy_8) (wPLc G pa o5.2.1 o5.2.2.1 o5.2.2.2.1 o5.2.2.2.2.1 o5.2.2.2.2.2.1 o5.2.2.2.2.2.2.1 o5.2.2.2.2.2.2.2.1 o5.2.2.2.2.2.2.2.2.1 o5.2.2.2.2.2.2.2.2.2) (wPLc G qa o5.1.1 o5.1.2.1 o5.1.2.2.1 o5.1.2.2.2.1 o5.1.2.2.2.2.1 o5.1.2.2.2.2.2.1 o5.1.2.2.2.2.2.2.1 o5.1.2.2.2.2.2.2.2.1 o5.1.2.2.2.2.2.2.2.2)).symm (show va_D A (([] : va_W) ++ ((wXO xa (ya 0) la (qa 0) (pa 0)) ++ ((wLO G la (upd lo i1.toNatClampNeg (1 : Int32))) ++ ((wSYc G ya yy_0 yy_1 yy_2 yy_3 yy_4 yy_5 yy_6 yy_7 yy_8) ++ ((wPLc G qa o5.1.1 o5.1.2.1 o5.1.2.2.1 o5.1.2.2.2.1 o5.1.2.2.2.2.1 o5.1.2.2.2.2.2.1 o5.1.2.2.2.2.2.2.1 o5.1.2.2.2.2.2.2.2.1 o5.1.2.2.2.2.2.2.2.2) ++ ((wPLc G pa o5.2.1 o5.2.2.1 o5.2.2.2.1 o5.2.2.2.2.1 o5.2.2.2.2.2.1 o5.2.2.2.2.2.2.1 o5.2.2.2.2.2.2.2.1 o5.2.2.2.2.2.2.2.2.1 o5.2.2.2.2.2.2.2.2.2))))))) from hD)
      refine lv_aload_n hx hb dX2_lose_47 rfl (lv_at hl 0 rfl) ?_
      refine va_get (D := G.1) (ci := 2) (v := .ref (qa 0)) (C := RX2) (T := TX2) (N := 4) hx hb hts hinX2 hown hK hP 0 rfl rfl 2 (by decide) (hts (.fieldLink RX2 23 "LessonWeave" "plan" "LLessonWeave$Plan;") (by decide +kernel)) (fun _ h9 => h9) rfl dX2_lose_48 ?_
      refine lv_aload_n hx hb dX2_lose_51 rfl (lv_at hl 0 rfl) ?_
      refine va_get (D := G.1) (ci := 2) (v := .ref (pa 0)) (C := RX2) (T := TX2) (N := 4) hx hb hts hinX2 hown hK hP 0 rfl rfl 3 (by decide) (hts (.fieldLink RX2 27 "LessonWeave" "formerPlan" "LLessonWeave$Plan;") (by decide +kernel)) (fun _ h9 => h9) rfl dX2_lose_52 ?_
      obtain ⟨o6, ho6, h⟩ := sp_b h
      have hP9 : va_P G.1 vwCl (((wXO xa (ya 0) la (qa 0) (pa 0)) ++ ((wLO G la (upd lo i1.toNatClampNeg (1 : Int32))) ++ ((wSYc G ya yy_0 yy_1 yy_2 yy_3 yy_4 yy_5 yy_6 yy_7 yy_8)))) ++ ((wPLc G qa o5.1.1 o5.1.2.1 o5.1.2.2.1 o5.1.2.2.2.1 o5.1.2.2.2.2.1 o5.1.2.2.2.2.2.1 o5.1.2.2.2.2.2.2.1 o5.1.2.2.2.2.2.2.2.1 o5.1.2.2.2.2.2.2.2.2) ++ ((wPLc G pa o5.2.1 o5.2.2.1 o5.2.2.2.1 o5.2.2.2.2.1 o5.2.2.2.2.2.1 o5.2.2.2.2.2.2.1 o5.2.2.2.2.2.2.2.1 o5.2.2.2.2.2.2.2.2.1 o5.2.2.2.2.2.2.2.2.2)))) H := xf_P (xf_p_5_012_43 (wXO xa (ya 0) la (qa 0) (pa 0)) (wLO G la (upd lo i1.toNatClampNeg (1 : Int32))) (wSYc G ya yy_0 yy_1 yy_2 yy_3 yy_4 yy_5 yy_6 yy_7 yy_8) (wPLc G pa o5.2.1 o5.2.2.1 o5.2.2.2.1 o5.2.2.2.2.1 o5.2.2.2.2.2.1 o5.2.2.2.2.2.2.1 o5.2.2.2.2.2.2.2.1 o5.2.2.2.2.2.2.2.2.1 o5.2.2.2.2.2.2.2.2.2) (wPLc G qa o5.1.1 o5.1.2.1 o5.1.2.2.1 o5.1.2.2.2.1 o5.1.2.2.2.2.1 o5.1.2.2.2.2.2.1 o5.1.2.2.2.2.2.2.1 o5.1.2.2.2.2.2.2.2.1 o5.1.2.2.2.2.2.2.2.2)) hP
      have hD9 : va_D A (((wXO xa (ya 0) la (qa 0) (pa 0)) ++ ((wLO G la (upd lo i1.toNatClampNeg (1 : Int32))) ++ ((wSYc G ya yy_0 yy_1 yy_2 yy_3 yy_4 yy_5 yy_6 yy_7 yy_8)))) ++ ((wPLc G qa o5.1.1 o5.1.2.1 o5.1.2.2.1 o5.1.2.2.2.1 o5.1.2.2.2.2.1 o5.1.2.2.2.2.2.1 o5.1.2.2.2.2.2.2.1 o5.1.2.2.2.2.2.2.2.1 o5.1.2.2.2.2.2.2.2.2) ++ ((wPLc G pa o5.2.1 o5.2.2.1 o5.2.2.2.1 o5.2.2.2.2.1 o5.2.2.2.2.2.1 o5.2.2.2.2.2.2.1 o5.2.2.2.2.2.2.2.1 o5.2.2.2.2.2.2.2.2.1 o5.2.2.2.2.2.2.2.2.2)))) := xf_D (xf_p_5_012_43 (wXO xa (ya 0) la (qa 0) (pa 0)) (wLO G la (upd lo i1.toNatClampNeg (1 : Int32))) (wSYc G ya yy_0 yy_1 yy_2 yy_3 yy_4 yy_5 yy_6 yy_7 yy_8) (wPLc G pa o5.2.1 o5.2.2.1 o5.2.2.2.1 o5.2.2.2.2.1 o5.2.2.2.2.2.1 o5.2.2.2.2.2.2.1 o5.2.2.2.2.2.2.2.1 o5.2.2.2.2.2.2.2.2.1 o5.2.2.2.2.2.2.2.2.2) (wPLc G qa o5.1.1 o5.1.2.1 o5.1.2.2.1 o5.1.2.2.2.1 o5.1.2.2.2.2.1 o5.1.2.2.2.2.2.1 o5.1.2.2.2.2.2.2.1 o5.1.2.2.2.2.2.2.2.1 o5.1.2.2.2.2.2.2.2.2)) hD
      refine xf_ci (va_runV (As := [.ref (pa 0)]) (rest := []) ⟨hx, hb, hml, hown, hts⟩ (c_X0_movedSince l G qa pa o5.1 o5.2 o6 ho6 H.size) (cwV 1 hts gX2_lose_X0_movedSince rfl rfl rfl (by decide +kernel) ⟨(Nat.le_of_ble_eq_true rfl), (Nat.le_of_ble_eq_true rfl)⟩) (xk_preV hK hNE (xf_pr hP9) (xf_dr hD9) (ci := 0) rfl rfl) rfl rfl hl.1 rfl (lv_room (Nat.le_of_ble_eq_true rfl)) dX2_lose_55 ⟨(Nat.le_of_ble_eq_true rfl), (Nat.le_of_ble_eq_true rfl)⟩) hP9 hD9 hS hA (fun H locs hP hD hS => ?_)
      have hP : va_P G.1 vwCl ((wXO xa (ya 0) la (qa 0) (pa 0)) ++ ((wLO G la (upd lo i1.toNatClampNeg (1 : Int32))) ++ ((wSYc G ya yy_0 yy_1 yy_2 yy_3 yy_4 yy_5 yy_6 yy_7 yy_8) ++ ((wPLc G pa o5.2.1 o5.2.2.1 o5.2.2.2.1 o5.2.2.2.2.1 o5.2.2.2.2.2.1 o5.2.2.2.2.2.2.1 o5.2.2.2.2.2.2.2.1 o5.2.2.2.2.2.2.2.2.1 o5.2.2.2.2.2.2.2.2.2) ++ ((wPLc G qa o5.1.1 o5.1.2.1 o5.1.2.2.1 o5.1.2.2.2.1 o5.1.2.2.2.2.1 o5.1.2.2.2.2.2.1 o5.1.2.2.2.2.2.2.1 o5.1.2.2.2.2.2.2.2.1 o5.1.2.2.2.2.2.2.2.2)))))) H := xf_P (xf_p_5_012_43 (wXO xa (ya 0) la (qa 0) (pa 0)) (wLO G la (upd lo i1.toNatClampNeg (1 : Int32))) (wSYc G ya yy_0 yy_1 yy_2 yy_3 yy_4 yy_5 yy_6 yy_7 yy_8) (wPLc G pa o5.2.1 o5.2.2.1 o5.2.2.2.1 o5.2.2.2.2.1 o5.2.2.2.2.2.1 o5.2.2.2.2.2.2.1 o5.2.2.2.2.2.2.2.1 o5.2.2.2.2.2.2.2.2.1 o5.2.2.2.2.2.2.2.2.2) (wPLc G qa o5.1.1 o5.1.2.1 o5.1.2.2.1 o5.1.2.2.2.1 o5.1.2.2.2.2.1 o5.1.2.2.2.2.2.1 o5.1.2.2.2.2.2.2.1 o5.1.2.2.2.2.2.2.2.1 o5.1.2.2.2.2.2.2.2.2)).symm (show va_P G.1 vwCl (((wXO xa (ya 0) la (qa 0) (pa 0)) ++ ((wLO G la (upd lo i1.toNatClampNeg (1 : Int32))) ++ ((wSYc G ya yy_0 yy_1 yy_2 yy_3 yy_4 yy_5 yy_6 yy_7 yy_8)))) ++ ((wPLc G qa o5.1.1 o5.1.2.1 o5.1.2.2.1 o5.1.2.2.2.1 o5.1.2.2.2.2.1 o5.1.2.2.2.2.2.1 o5.1.2.2.2.2.2.2.1 o5.1.2.2.2.2.2.2.2.1 o5.1.2.2.2.2.2.2.2.2) ++ ((wPLc G pa o5.2.1 o5.2.2.1 o5.2.2.2.1 o5.2.2.2.2.1 o5.2.2.2.2.2.1 o5.2.2.2.2.2.2.1 o5.2.2.2.2.2.2.2.1 o5.2.2.2.2.2.2.2.2.1 o5.2.2.2.2.2.2.2.2.2)))) H from hP)
      have hD : va_D A ((wXO xa (ya 0) la (qa 0) (pa 0)) ++ ((wLO G la (upd lo i1.toNatClampNeg (1 : Int32))) ++ ((wSYc G ya yy_0 yy_1 yy_2 yy_3 yy_4 yy_5 yy_6 yy_7 yy_8) ++ ((wPLc G pa o5.2.1 o5.2.2.1 o5.2.2.2.1 o5.2.2.2.2.1 o5.2.2.2.2.2.1 o5.2.2.2.2.2.2.1 o5.2.2.2.2.2.2.2.1 o5.2.2.2.2.2.2.2.2.1 o5.2.2.2.2.2.2.2.2.2) ++ ((wPLc G qa o5.1.1 o5.1.2.1 o5.1.2.2.1 o5.1.2.2.2.1 o5.1.2.2.2.2.1 o5.1.2.2.2.2.2.1 o5.1.2.2.2.2.2.2.1 o5.1.2.2.2.2.2.2.2.1 o5.1.2.2.2.2.2.2.2.2)))))) := xf_D (xf_p_5_012_43 (wXO xa (ya 0) la (qa 0) (pa 0)) (wLO G la (upd lo i1.toNatClampNeg (1 : Int32))) (wSYc G ya yy_0 yy_1 yy_2 yy_3 yy_4 yy_5 yy_6 yy_7 yy_8) (wPLc G pa o5.2.1 o5.2.2.1 o5.2.2.2.1 o5.2.2.2.2.1 o5.2.2.2.2.2.1 o5.2.2.2.2.2.2.1 o5.2.2.2.2.2.2.2.1 o5.2.2.2.2.2.2.2.2.1 o5.2.2.2.2.2.2.2.2.2) (wPLc G qa o5.1.1 o5.1.2.1 o5.1.2.2.1 o5.1.2.2.2.1 o5.1.2.2.2.2.1 o5.1.2.2.2.2.2.1 o5.1.2.2.2.2.2.2.1 o5.1.2.2.2.2.2.2.2.1 o5.1.2.2.2.2.2.2.2.2)).symm (show va_D A (((wXO xa (ya 0) la (qa 0) (pa 0)) ++ ((wLO G la (upd lo i1.toNatClampNeg (1 : Int32))) ++ ((wSYc G ya yy_0 yy_1 yy_2 yy_3 yy_4 yy_5 yy_6 yy_7 yy_8)))) ++ ((wPLc G qa o5.1.1 o5.1.2.1 o5.1.2.2.1 o5.1.2.2.2.1 o5.1.2.2.2.2.1 o5.1.2.2.2.2.2.1 o5.1.2.2.2.2.2.2.1 o5.1.2.2.2.2.2.2.2.1 o5.1.2.2.2.2.2.2.2.2) ++ ((wPLc G pa o5.2.1 o5.2.2.1 o5.2.2.2.1 o5.2.2.2.2.1 o5.2.2.2.2.2.1 o5.2.2.2.2.2.2.1 o5.2.2.2.2.2.2.2.1 o5.2.2.2.2.2.2.2.2.1 o5.2.2.2.2.2.2.2.2.2)))) from hD)
      obtain rfl := sp_s h
      have hP9 : va_P G.1 vwCl (((wXO xa (ya 0) la (qa 0) (pa 0)) ++ ((wLO G la (upd lo i1.toNatClampNeg (1 : Int32))) ++ ((wSYc G ya yy_0 yy_1 yy_2 yy_3 yy_4 yy_5 yy_6 yy_7 yy_8) ++ ((wPLc G qa o5.1.1 o5.1.2.1 o5.1.2.2.1 o5.1.2.2.2.1 o5.1.2.2.2.2.1 o5.1.2.2.2.2.2.1 o5.1.2.2.2.2.2.2.1 o5.1.2.2.2.2.2.2.2.1 o5.1.2.2.2.2.2.2.2.2) ++ ((wPLc G pa o5.2.1 o5.2.2.1 o5.2.2.2.1 o5.2.2.2.2.1 o5.2.2.2.2.2.1 o5.2.2.2.2.2.2.1 o5.2.2.2.2.2.2.2.1 o5.2.2.2.2.2.2.2.2.1 o5.2.2.2.2.2.2.2.2.2)))))) ++ ([] : va_W)) H := xf_P (xf_p_5_01243_n (wXO xa (ya 0) la (qa 0) (pa 0)) (wLO G la (upd lo i1.toNatClampNeg (1 : Int32))) (wSYc G ya yy_0 yy_1 yy_2 yy_3 yy_4 yy_5 yy_6 yy_7 yy_8) (wPLc G pa o5.2.1 o5.2.2.1 o5.2.2.2.1 o5.2.2.2.2.1 o5.2.2.2.2.2.1 o5.2.2.2.2.2.2.1 o5.2.2.2.2.2.2.2.1 o5.2.2.2.2.2.2.2.2.1 o5.2.2.2.2.2.2.2.2.2) (wPLc G qa o5.1.1 o5.1.2.1 o5.1.2.2.1 o5.1.2.2.2.1 o5.1.2.2.2.2.1 o5.1.2.2.2.2.2.1 o5.1.2.2.2.2.2.2.1 o5.1.2.2.2.2.2.2.2.1 o5.1.2.2.2.2.2.2.2.2)) hP
      have hD9 : va_D A (((wXO xa (ya 0) la (qa 0) (pa 0)) ++ ((wLO G la (upd lo i1.toNatClampNeg (1 : Int32))) ++ ((wSYc G ya yy_0 yy_1 yy_2 yy_3 yy_4 yy_5 yy_6 yy_7 yy_8) ++ ((wPLc G qa o5.1.1 o5.1.2.1 o5.1.2.2.1 o5.1.2.2.2.1 o5.1.2.2.2.2.1 o5.1.2.2.2.2.2.1 o5.1.2.2.2.2.2.2.1 o5.1.2.2.2.2.2.2.2.1 o5.1.2.2.2.2.2.2.2.2) ++ ((wPLc G pa o5.2.1 o5.2.2.1 o5.2.2.2.1 o5.2.2.2.2.1 o5.2.2.2.2.2.1 o5.2.2.2.2.2.2.1 o5.2.2.2.2.2.2.2.1 o5.2.2.2.2.2.2.2.2.1 o5.2.2.2.2.2.2.2.2.2)))))) ++ ([] : va_W)) := xf_D (xf_p_5_01243_n (wXO xa (ya 0) la (qa 0) (pa 0)) (wLO G la (upd lo i1.toNatClampNeg (1 : Int32))) (wSYc G ya yy_0 yy_1 yy_2 yy_3 yy_4 yy_5 yy_6 yy_7 yy_8) (wPLc G pa o5.2.1 o5.2.2.1 o5.2.2.2.1 o5.2.2.2.2.1 o5.2.2.2.2.2.1 o5.2.2.2.2.2.2.1 o5.2.2.2.2.2.2.2.1 o5.2.2.2.2.2.2.2.2.1 o5.2.2.2.2.2.2.2.2.2) (wPLc G qa o5.1.1 o5.1.2.1 o5.1.2.2.1 o5.1.2.2.2.1 o5.1.2.2.2.2.1 o5.1.2.2.2.2.2.1 o5.1.2.2.2.2.2.2.1 o5.1.2.2.2.2.2.2.2.1 o5.1.2.2.2.2.2.2.2.2)) hD
      exact xk_reI hx hb hr hlk (xf_pl hP9) (xf_dl hD9) hS rfl dX2_lose_58
    · have h := sp_f c4 h
      exact sp_n h
  · have h := sp_t c2 h
    exact sp_n h
def f_X2_on (lo : xF) (yy : xSY) (pp : xPL) (qq : xPL) (i1 : Int32) : Option (Int32) :=
  Option.bind (f_X2_isDay i1) fun (o1 : Int32) =>
  if o1 = 0 then
    none
  else
    if i1 < 0 ∨ 100 ≤ i1.toNatClampNeg then none else
    some (pp.1 i1.toNatClampNeg)
theorem f_X2_on_e (lo : xF) (yy_0 : Int32) (yy_1 : xF) (yy_2 : xF) (yy_3 : xF) (yy_4 : xF) (yy_5 : xF) (yy_6 : xF) (yy_7 : xF) (yy_8 : xF) (pp_0 : xF) (pp_1 : xF) (pp_2 : xF) (pp_3 : xF) (pp_4 : xF) (pp_5 : xF) (pp_6 : Int32) (pp_7 : Int32) (pp_8 : Int32) (qq_0 : xF) (qq_1 : xF) (qq_2 : xF) (qq_3 : xF) (qq_4 : xF) (qq_5 : xF) (qq_6 : Int32) (qq_7 : Int32) (qq_8 : Int32) (i1 : Int32) : f_X2_on lo (yy_0, yy_1, yy_2, yy_3, yy_4, yy_5, yy_6, yy_7, yy_8) (pp_0, pp_1, pp_2, pp_3, pp_4, pp_5, pp_6, pp_7, pp_8) (qq_0, qq_1, qq_2, qq_3, qq_4, qq_5, qq_6, qq_7, qq_8) i1 =
  Option.bind (f_X2_isDay i1) fun (o1 : Int32) =>
  if o1 = 0 then
    none
  else
    if i1 < 0 ∨ 100 ≤ i1.toNatClampNeg then none else
    some (pp_0 i1.toNatClampNeg) := rfl
set_option maxHeartbeats 8000000 in
set_option maxRecDepth 100000 in
theorem c_X2_on (l : Launch) (G : xG) (xa : Nat) (la : Nat) (ya : (Nat → Nat)) (pa : (Nat → Nat)) (qa : (Nat → Nat)) (lo : xF) (yy : xSY) (pp : xPL) (qq : xPL) (i1 : Int32) (o : Int32) (h : f_X2_on lo yy pp qq i1 = some o) : xk_CI l yX2_on wsX2_on ({ frames := 2, cells := 0, slots := 0, locals := 42 } : Room) 0 0 [.ref xa, .int i1] G ((wXO xa (ya 0) la (pa 0) (qa 0)) ++ ((wLO G la lo) ++ ((wSYc G ya yy.1 yy.2.1 yy.2.2.1 yy.2.2.2.1 yy.2.2.2.2.1 yy.2.2.2.2.2.1 yy.2.2.2.2.2.2.1 yy.2.2.2.2.2.2.2.1 yy.2.2.2.2.2.2.2.2) ++ ((wPLc G pa pp.1 pp.2.1 pp.2.2.1 pp.2.2.2.1 pp.2.2.2.2.1 pp.2.2.2.2.2.1 pp.2.2.2.2.2.2.1 pp.2.2.2.2.2.2.2.1 pp.2.2.2.2.2.2.2.2) ++ ((wPLc G qa qq.1 qq.2.1 qq.2.2.1 qq.2.2.2.1 qq.2.2.2.2.1 qq.2.2.2.2.2.1 qq.2.2.2.2.2.2.1 qq.2.2.2.2.2.2.2.1 qq.2.2.2.2.2.2.2.2)))))) ((wXO xa (ya 0) la (pa 0) (qa 0)) ++ ((wLO G la lo) ++ ((wSYc G ya yy.1 yy.2.1 yy.2.2.1 yy.2.2.2.1 yy.2.2.2.2.1 yy.2.2.2.2.2.1 yy.2.2.2.2.2.2.1 yy.2.2.2.2.2.2.2.1 yy.2.2.2.2.2.2.2.2) ++ ((wPLc G pa pp.1 pp.2.1 pp.2.2.1 pp.2.2.2.1 pp.2.2.2.2.1 pp.2.2.2.2.2.1 pp.2.2.2.2.2.2.1 pp.2.2.2.2.2.2.2.1 pp.2.2.2.2.2.2.2.2) ++ ((wPLc G qa qq.1 qq.2.1 qq.2.2.1 qq.2.2.2.1 qq.2.2.2.2.1 qq.2.2.2.2.2.1 qq.2.2.2.2.2.2.1 qq.2.2.2.2.2.2.2.1 qq.2.2.2.2.2.2.2.2)))))) o := by
  obtain ⟨yy_0, yy_1, yy_2, yy_3, yy_4, yy_5, yy_6, yy_7, yy_8⟩ := yy
  obtain ⟨pp_0, pp_1, pp_2, pp_3, pp_4, pp_5, pp_6, pp_7, pp_8⟩ := pp
  obtain ⟨qq_0, qq_1, qq_2, qq_3, qq_4, qq_5, qq_6, qq_7, qq_8⟩ := qq
  refine xk_CI.of (cc := cX2_on) (maxL := 2) (ret := (some .int)) (by decide) rfl (Nat.le_of_ble_eq_true rfl) ?_
  intro pr9 en9 s mm9 bl9 meth9 cd9 A ls H locs hx hb hr hml hts hown hlk hA hP hK hD hNE hS hl
  have hown : s.vm.findClass RX2 = some mm9.cls := hown
  have hl : lv_has ls 2 [(0, .ref xa), (1, .int i1)] := hl
  have hinX0 : ∀ w ∈ u_ws RX0 TX0 9, w ∈ wsX2_on := by decide +kernel
  have hinX2 : ∀ w ∈ u_ws RX2 TX2 4, w ∈ wsX2_on := by decide +kernel
  have hP : va_P G.1 vwCl ((wXO xa (ya 0) la (pa 0) (qa 0)) ++ ((wLO G la lo) ++ ((wSYc G ya yy_0 yy_1 yy_2 yy_3 yy_4 yy_5 yy_6 yy_7 yy_8) ++ ((wPLc G pa pp_0 pp_1 pp_2 pp_3 pp_4 pp_5 pp_6 pp_7 pp_8) ++ ((wPLc G qa qq_0 qq_1 qq_2 qq_3 qq_4 qq_5 qq_6 qq_7 qq_8)))))) H := hP
  have hD : va_D A ((wXO xa (ya 0) la (pa 0) (qa 0)) ++ ((wLO G la lo) ++ ((wSYc G ya yy_0 yy_1 yy_2 yy_3 yy_4 yy_5 yy_6 yy_7 yy_8) ++ ((wPLc G pa pp_0 pp_1 pp_2 pp_3 pp_4 pp_5 pp_6 pp_7 pp_8) ++ ((wPLc G qa qq_0 qq_1 qq_2 qq_3 qq_4 qq_5 qq_6 qq_7 qq_8)))))) := hD
  have h := (f_X2_on_e lo yy_0 yy_1 yy_2 yy_3 yy_4 yy_5 yy_6 yy_7 yy_8 pp_0 pp_1 pp_2 pp_3 pp_4 pp_5 pp_6 pp_7 pp_8 qq_0 qq_1 qq_2 qq_3 qq_4 qq_5 qq_6 qq_7 qq_8 i1).symm.trans h
  refine lv_iload_n hx hb dX2_on_0 rfl (lv_at hl 1 rfl) ?_
  obtain ⟨o1, ho1, h⟩ := sp_b h
  refine xf_ci0 (va_runS (As := [.int i1]) (rest := []) ⟨hx, hb, hml, hown, hts⟩ (c_X2_isDay l G i1 o1 ho1 H.size) (va_cwS 1 hts gX2_on_X2_isDay rfl rfl rfl (by decide +kernel) ⟨(Nat.le_of_ble_eq_true rfl), (Nat.le_of_ble_eq_true rfl)⟩) (xk_preS hK hNE (xf_p0 : va_P G.1 vwCl [] H) (xf_d0 : va_D A [])) rfl rfl hl.1 rfl (lv_room (Nat.le_of_ble_eq_true rfl)) dX2_on_1 ⟨(Nat.le_of_ble_eq_true rfl), (Nat.le_of_ble_eq_true rfl)⟩) hP hD hS hA (fun H locs hP hD hS => ?_)
  refine lv_if_ne (tgt := 17) hx hb dX2_on_4 (by decide) (fun c2 => ?_) (fun c2 => ?_)
  · have h := sp_f c2 h
    refine lv_aload_n hx hb dX2_on_17 rfl (lv_at hl 0 rfl) ?_
    refine va_get (D := G.1) (ci := 2) (v := .ref (pa 0)) (C := RX2) (T := TX2) (N := 4) hx hb hts hinX2 hown hK hP 0 rfl rfl 2 (by decide) (hts (.fieldLink RX2 23 "LessonWeave" "plan" "LLessonWeave$Plan;") (by decide +kernel)) (fun _ h9 => h9) rfl dX2_on_18 ?_
    refine va_getN (D := G.1) (ci := 0) (v := .ref (pa 1)) (C := RX0) (T := TX0) (N := 9) hx hb hts hinX0 hown hK hP 11 rfl rfl 0 (by decide) (va_Nw.use rfl hNE.2.2.2.2.2.2.2.2.2.2.2.2.1) (fun _ h9 => h9) rfl dX2_on_21 ?_
    refine lv_iload_n hx hb dX2_on_24 rfl (lv_at hl 1 rfl) ?_
    obtain ⟨hin3, h⟩ := sp_g h
    refine va_iald hx hb hK hP 12 0 rfl rfl hin3 dX2_on_25 ?_
    obtain rfl := sp_s h
    exact xk_reI hx hb hr hlk hP hD hS rfl dX2_on_26
  · have h := sp_t c2 h
    exact sp_n h
def f_X2_lessonDay (lo : xF) (yy : xSY) (pp : xPL) (qq : xPL) (i1 : Int32) (i2 : Int32) : Option (Int32) :=
  Option.bind (f_X2_isAim lo (yy.1, yy.2.1, yy.2.2.1, yy.2.2.2.1, yy.2.2.2.2.1, yy.2.2.2.2.2.1, yy.2.2.2.2.2.2.1, yy.2.2.2.2.2.2.2.1, yy.2.2.2.2.2.2.2.2) (pp.1, pp.2.1, pp.2.2.1, pp.2.2.2.1, pp.2.2.2.2.1, pp.2.2.2.2.2.1, pp.2.2.2.2.2.2.1, pp.2.2.2.2.2.2.2.1, pp.2.2.2.2.2.2.2.2) (qq.1, qq.2.1, qq.2.2.1, qq.2.2.2.1, qq.2.2.2.2.1, qq.2.2.2.2.2.1, qq.2.2.2.2.2.2.1, qq.2.2.2.2.2.2.2.1, qq.2.2.2.2.2.2.2.2) i1) fun (o1 : Int32) =>
  if o1 = 0 then
    none
  else
    if i1 < 0 ∨ 12 ≤ i1.toNatClampNeg then none else
    Option.bind (f_X2_isWithin i2 (0 : Int32) ((yy.2.1 i1.toNatClampNeg) - (1 : Int32))) fun (o4 : Int32) =>
    if o4 = 0 then
      none
    else
      if ((i1 * (5 : Int32)) + i2) < 0 ∨ 60 ≤ ((i1 * (5 : Int32)) + i2).toNatClampNeg then none else
      some (pp.2.1 ((i1 * (5 : Int32)) + i2).toNatClampNeg)
theorem f_X2_lessonDay_e (lo : xF) (yy_0 : Int32) (yy_1 : xF) (yy_2 : xF) (yy_3 : xF) (yy_4 : xF) (yy_5 : xF) (yy_6 : xF) (yy_7 : xF) (yy_8 : xF) (pp_0 : xF) (pp_1 : xF) (pp_2 : xF) (pp_3 : xF) (pp_4 : xF) (pp_5 : xF) (pp_6 : Int32) (pp_7 : Int32) (pp_8 : Int32) (qq_0 : xF) (qq_1 : xF) (qq_2 : xF) (qq_3 : xF) (qq_4 : xF) (qq_5 : xF) (qq_6 : Int32) (qq_7 : Int32) (qq_8 : Int32) (i1 : Int32) (i2 : Int32) : f_X2_lessonDay lo (yy_0, yy_1, yy_2, yy_3, yy_4, yy_5, yy_6, yy_7, yy_8) (pp_0, pp_1, pp_2, pp_3, pp_4, pp_5, pp_6, pp_7, pp_8) (qq_0, qq_1, qq_2, qq_3, qq_4, qq_5, qq_6, qq_7, qq_8) i1 i2 =
  Option.bind (f_X2_isAim lo (yy_0, yy_1, yy_2, yy_3, yy_4, yy_5, yy_6, yy_7, yy_8) (pp_0, pp_1, pp_2, pp_3, pp_4, pp_5, pp_6, pp_7, pp_8) (qq_0, qq_1, qq_2, qq_3, qq_4, qq_5, qq_6, qq_7, qq_8) i1) fun (o1 : Int32) =>
  if o1 = 0 then
    none
  else
    if i1 < 0 ∨ 12 ≤ i1.toNatClampNeg then none else
    Option.bind (f_X2_isWithin i2 (0 : Int32) ((yy_1 i1.toNatClampNeg) - (1 : Int32))) fun (o4 : Int32) =>
    if o4 = 0 then
      none
    else
      if ((i1 * (5 : Int32)) + i2) < 0 ∨ 60 ≤ ((i1 * (5 : Int32)) + i2).toNatClampNeg then none else
      some (pp_1 ((i1 * (5 : Int32)) + i2).toNatClampNeg) := rfl
set_option maxHeartbeats 8000000 in
set_option maxRecDepth 100000 in
theorem c_X2_lessonDay (l : Launch) (G : xG) (xa : Nat) (la : Nat) (ya : (Nat → Nat)) (pa : (Nat → Nat)) (qa : (Nat → Nat)) (lo : xF) (yy : xSY) (pp : xPL) (qq : xPL) (i1 : Int32) (i2 : Int32) (o : Int32) (h : f_X2_lessonDay lo yy pp qq i1 i2 = some o) : xk_CI l yX2_lessonDay wsX2_lessonDay ({ frames := 2, cells := 0, slots := 0, locals := 43 } : Room) 0 0 [.ref xa, .int i1, .int i2] G ((wXO xa (ya 0) la (pa 0) (qa 0)) ++ ((wLO G la lo) ++ ((wSYc G ya yy.1 yy.2.1 yy.2.2.1 yy.2.2.2.1 yy.2.2.2.2.1 yy.2.2.2.2.2.1 yy.2.2.2.2.2.2.1 yy.2.2.2.2.2.2.2.1 yy.2.2.2.2.2.2.2.2) ++ ((wPLc G pa pp.1 pp.2.1 pp.2.2.1 pp.2.2.2.1 pp.2.2.2.2.1 pp.2.2.2.2.2.1 pp.2.2.2.2.2.2.1 pp.2.2.2.2.2.2.2.1 pp.2.2.2.2.2.2.2.2) ++ ((wPLc G qa qq.1 qq.2.1 qq.2.2.1 qq.2.2.2.1 qq.2.2.2.2.1 qq.2.2.2.2.2.1 qq.2.2.2.2.2.2.1 qq.2.2.2.2.2.2.2.1 qq.2.2.2.2.2.2.2.2)))))) ((wXO xa (ya 0) la (pa 0) (qa 0)) ++ ((wLO G la lo) ++ ((wSYc G ya yy.1 yy.2.1 yy.2.2.1 yy.2.2.2.1 yy.2.2.2.2.1 yy.2.2.2.2.2.1 yy.2.2.2.2.2.2.1 yy.2.2.2.2.2.2.2.1 yy.2.2.2.2.2.2.2.2) ++ ((wPLc G pa pp.1 pp.2.1 pp.2.2.1 pp.2.2.2.1 pp.2.2.2.2.1 pp.2.2.2.2.2.1 pp.2.2.2.2.2.2.1 pp.2.2.2.2.2.2.2.1 pp.2.2.2.2.2.2.2.2) ++ ((wPLc G qa qq.1 qq.2.1 qq.2.2.1 qq.2.2.2.1 qq.2.2.2.2.1 qq.2.2.2.2.2.1 qq.2.2.2.2.2.2.1 qq.2.2.2.2.2.2.2.1 qq.2.2.2.2.2.2.2.2)))))) o := by
  obtain ⟨yy_0, yy_1, yy_2, yy_3, yy_4, yy_5, yy_6, yy_7, yy_8⟩ := yy
  obtain ⟨pp_0, pp_1, pp_2, pp_3, pp_4, pp_5, pp_6, pp_7, pp_8⟩ := pp
  obtain ⟨qq_0, qq_1, qq_2, qq_3, qq_4, qq_5, qq_6, qq_7, qq_8⟩ := qq
  refine xk_CI.of (cc := cX2_lessonDay) (maxL := 3) (ret := (some .int)) (by decide) rfl (Nat.le_of_ble_eq_true rfl) ?_
  intro pr9 en9 s mm9 bl9 meth9 cd9 A ls H locs hx hb hr hml hts hown hlk hA hP hK hD hNE hS hl
  have hown : s.vm.findClass RX2 = some mm9.cls := hown
  have hl : lv_has ls 3 [(0, .ref xa), (1, .int i1), (2, .int i2)] := hl
  have hinX0 : ∀ w ∈ u_ws RX0 TX0 9, w ∈ wsX2_lessonDay := by decide +kernel
  have hinX1 : ∀ w ∈ u_ws RX1 TX1 9, w ∈ wsX2_lessonDay := by decide +kernel
  have hinX2 : ∀ w ∈ u_ws RX2 TX2 4, w ∈ wsX2_lessonDay := by decide +kernel
  have hP : va_P G.1 vwCl ((wXO xa (ya 0) la (pa 0) (qa 0)) ++ ((wLO G la lo) ++ ((wSYc G ya yy_0 yy_1 yy_2 yy_3 yy_4 yy_5 yy_6 yy_7 yy_8) ++ ((wPLc G pa pp_0 pp_1 pp_2 pp_3 pp_4 pp_5 pp_6 pp_7 pp_8) ++ ((wPLc G qa qq_0 qq_1 qq_2 qq_3 qq_4 qq_5 qq_6 qq_7 qq_8)))))) H := hP
  have hD : va_D A ((wXO xa (ya 0) la (pa 0) (qa 0)) ++ ((wLO G la lo) ++ ((wSYc G ya yy_0 yy_1 yy_2 yy_3 yy_4 yy_5 yy_6 yy_7 yy_8) ++ ((wPLc G pa pp_0 pp_1 pp_2 pp_3 pp_4 pp_5 pp_6 pp_7 pp_8) ++ ((wPLc G qa qq_0 qq_1 qq_2 qq_3 qq_4 qq_5 qq_6 qq_7 qq_8)))))) := hD
  have h := (f_X2_lessonDay_e lo yy_0 yy_1 yy_2 yy_3 yy_4 yy_5 yy_6 yy_7 yy_8 pp_0 pp_1 pp_2 pp_3 pp_4 pp_5 pp_6 pp_7 pp_8 qq_0 qq_1 qq_2 qq_3 qq_4 qq_5 qq_6 qq_7 qq_8 i1 i2).symm.trans h
  refine lv_aload_n hx hb dX2_lessonDay_0 rfl (lv_at hl 0 rfl) ?_
  refine lv_iload_n hx hb dX2_lessonDay_1 rfl (lv_at hl 1 rfl) ?_
  obtain ⟨o1, ho1, h⟩ := sp_b h
  have hP9 : va_P G.1 vwCl (([] : va_W) ++ ((wXO xa (ya 0) la (pa 0) (qa 0)) ++ ((wLO G la lo) ++ ((wSYc G ya yy_0 yy_1 yy_2 yy_3 yy_4 yy_5 yy_6 yy_7 yy_8) ++ ((wPLc G pa pp_0 pp_1 pp_2 pp_3 pp_4 pp_5 pp_6 pp_7 pp_8) ++ ((wPLc G qa qq_0 qq_1 qq_2 qq_3 qq_4 qq_5 qq_6 qq_7 qq_8))))))) H := xf_P (xf_p_5_n_01234 (wXO xa (ya 0) la (pa 0) (qa 0)) (wLO G la lo) (wSYc G ya yy_0 yy_1 yy_2 yy_3 yy_4 yy_5 yy_6 yy_7 yy_8) (wPLc G pa pp_0 pp_1 pp_2 pp_3 pp_4 pp_5 pp_6 pp_7 pp_8) (wPLc G qa qq_0 qq_1 qq_2 qq_3 qq_4 qq_5 qq_6 qq_7 qq_8)) hP
  have hD9 : va_D A (([] : va_W) ++ ((wXO xa (ya 0) la (pa 0) (qa 0)) ++ ((wLO G la lo) ++ ((wSYc G ya yy_0 yy_1 yy_2 yy_3 yy_4 yy_5 yy_6 yy_7 yy_8) ++ ((wPLc G pa pp_0 pp_1 pp_2 pp_3 pp_4 pp_5 pp_6 pp_7 pp_8) ++ ((wPLc G qa qq_0 qq_1 qq_2 qq_3 qq_4 qq_5 qq_6 qq_7 qq_8))))))) := xf_D (xf_p_5_n_01234 (wXO xa (ya 0) la (pa 0) (qa 0)) (wLO G la lo) (wSYc G ya yy_0 yy_1 yy_2 yy_3 yy_4 yy_5 yy_6 yy_7 yy_8) (wPLc G pa pp_0 pp_1 pp_2 pp_3 pp_4 pp_5 pp_6 pp_7 pp_8) (wPLc G qa qq_0 qq_1 qq_2 qq_3 qq_4 qq_5 qq_6 qq_7 qq_8)) hD
  refine xf_ci (va_runV (As := [.int i1]) (rest := []) ⟨hx, hb, hml, hown, hts⟩ (c_X2_isAim l G xa la ya pa qa lo (yy_0, yy_1, yy_2, yy_3, yy_4, yy_5, yy_6, yy_7, yy_8) (pp_0, pp_1, pp_2, pp_3, pp_4, pp_5, pp_6, pp_7, pp_8) (qq_0, qq_1, qq_2, qq_3, qq_4, qq_5, qq_6, qq_7, qq_8) i1 o1 ho1 H.size) (cwV 1 hts gX2_lessonDay_X2_isAim rfl rfl rfl (by decide +kernel) ⟨(Nat.le_of_ble_eq_true rfl), (Nat.le_of_ble_eq_true rfl)⟩) (xk_preV hK hNE (xf_pr hP9) (xf_dr hD9) (ci := 2) rfl rfl) rfl rfl hl.1 rfl (lv_room (Nat.le_of_ble_eq_true rfl)) dX2_lessonDay_2 ⟨(Nat.le_of_ble_eq_true rfl), (Nat.le_of_ble_eq_true rfl)⟩) hP9 hD9 hS hA (fun H locs hP hD hS => ?_)
  have hP : va_P G.1 vwCl ((wXO xa (ya 0) la (pa 0) (qa 0)) ++ ((wLO G la lo) ++ ((wSYc G ya yy_0 yy_1 yy_2 yy_3 yy_4 yy_5 yy_6 yy_7 yy_8) ++ ((wPLc G pa pp_0 pp_1 pp_2 pp_3 pp_4 pp_5 pp_6 pp_7 pp_8) ++ ((wPLc G qa qq_0 qq_1 qq_2 qq_3 qq_4 qq_5 qq_6 qq_7 qq_8)))))) H := xf_P (xf_p_5_n_01234 (wXO xa (ya 0) la (pa 0) (qa 0)) (wLO G la lo) (wSYc G ya yy_0 yy_1 yy_2 yy_3 yy_4 yy_5 yy_6 yy_7 yy_8) (wPLc G pa pp_0 pp_1 pp_2 pp_3 pp_4 pp_5 pp_6 pp_7 pp_8) (wPLc G qa qq_0 qq_1 qq_2 qq_3 qq_4 qq_5 qq_6 qq_7 qq_8)).symm (show va_P G.1 vwCl (([] : va_W) ++ ((wXO xa (ya 0) la (pa 0) (qa 0)) ++ ((wLO G la lo) ++ ((wSYc G ya yy_0 yy_1 yy_2 yy_3 yy_4 yy_5 yy_6 yy_7 yy_8) ++ ((wPLc G pa pp_0 pp_1 pp_2 pp_3 pp_4 pp_5 pp_6 pp_7 pp_8) ++ ((wPLc G qa qq_0 qq_1 qq_2 qq_3 qq_4 qq_5 qq_6 qq_7 qq_8))))))) H from hP)
  have hD : va_D A ((wXO xa (ya 0) la (pa 0) (qa 0)) ++ ((wLO G la lo) ++ ((wSYc G ya yy_0 yy_1 yy_2 yy_3 yy_4 yy_5 yy_6 yy_7 yy_8) ++ ((wPLc G pa pp_0 pp_1 pp_2 pp_3 pp_4 pp_5 pp_6 pp_7 pp_8) ++ ((wPLc G qa qq_0 qq_1 qq_2 qq_3 qq_4 qq_5 qq_6 qq_7 qq_8)))))) := xf_D (xf_p_5_n_01234 (wXO xa (ya 0) la (pa 0) (qa 0)) (wLO G la lo) (wSYc G ya yy_0 yy_1 yy_2 yy_3 yy_4 yy_5 yy_6 yy_7 yy_8) (wPLc G pa pp_0 pp_1 pp_2 pp_3 pp_4 pp_5 pp_6 pp_7 pp_8) (wPLc G qa qq_0 qq_1 qq_2 qq_3 qq_4 qq_5 qq_6 qq_7 qq_8)).symm (show va_D A (([] : va_W) ++ ((wXO xa (ya 0) la (pa 0) (qa 0)) ++ ((wLO G la lo) ++ ((wSYc G ya yy_0 yy_1 yy_2 yy_3 yy_4 yy_5 yy_6 yy_7 yy_8) ++ ((wPLc G pa pp_0 pp_1 pp_2 pp_3 pp_4 pp_5 pp_6 pp_7 pp_8) ++ ((wPLc G qa qq_0 qq_1 qq_2 qq_3 qq_4 qq_5 qq_6 qq_7 qq_8))))))) from hD)
  refine lv_if_ne (tgt := 18) hx hb dX2_lessonDay_5 (by decide) (fun c2 => ?_) (fun c2 => ?_)
  · have h := sp_f c2 h
    refine lv_iload_n hx hb dX2_lessonDay_18 rfl (lv_at hl 2 rfl) ?_
    refine lv_iconst (v := (0 : Int32)) hx hb dX2_lessonDay_19 (by decide) ?_
    refine lv_aload_n hx hb dX2_lessonDay_20 rfl (lv_at hl 0 rfl) ?_
    refine va_get (D := G.1) (ci := 2) (v := .ref (ya 0)) (C := RX2) (T := TX2) (N := 4) hx hb hts hinX2 hown hK hP 0 rfl rfl 0 (by decide) (hts (.fieldLink RX2 10 "LessonWeave" "syllabus" "LLessonWeave$Syllabus;") (by decide +kernel)) (fun _ h9 => h9) rfl dX2_lessonDay_21 ?_
    refine va_getN (D := G.1) (ci := 1) (v := .ref (ya 1)) (C := RX1) (T := TX1) (N := 9) hx hb hts hinX1 hown hK hP 2 rfl rfl 1 (by decide) (va_Nw.use rfl hNE.2.2.2.1) (fun _ h9 => h9) rfl dX2_lessonDay_24 ?_
    refine lv_iload_n hx hb dX2_lessonDay_27 rfl (lv_at hl 1 rfl) ?_
    obtain ⟨hin3, h⟩ := sp_g h
    refine va_iald hx hb hK hP 3 0 rfl rfl hin3 dX2_lessonDay_28 ?_
    refine lv_iconst (v := (1 : Int32)) hx hb dX2_lessonDay_29 (by decide) ?_
    refine lv_isub hx hb dX2_lessonDay_30 ?_
    obtain ⟨o4, ho4, h⟩ := sp_b h
    refine xf_ci0 (va_runS (As := [.int i2, .int (0 : Int32), .int ((yy_1 i1.toNatClampNeg) - (1 : Int32))]) (rest := []) ⟨hx, hb, hml, hown, hts⟩ (c_X2_isWithin l G i2 (0 : Int32) ((yy_1 i1.toNatClampNeg) - (1 : Int32)) o4 ho4 H.size) (va_cwS 3 hts gX2_lessonDay_X2_isWithin rfl rfl rfl (by decide +kernel) ⟨(Nat.le_of_ble_eq_true rfl), (Nat.le_of_ble_eq_true rfl)⟩) (xk_preS hK hNE (xf_p0 : va_P G.1 vwCl [] H) (xf_d0 : va_D A [])) rfl rfl hl.1 rfl (lv_room (Nat.le_of_ble_eq_true rfl)) dX2_lessonDay_31 ⟨(Nat.le_of_ble_eq_true rfl), (Nat.le_of_ble_eq_true rfl)⟩) hP hD hS hA (fun H locs hP hD hS => ?_)
    refine lv_if_ne (tgt := 47) hx hb dX2_lessonDay_34 (by decide) (fun c5 => ?_) (fun c5 => ?_)
    · have h := sp_f c5 h
      refine lv_aload_n hx hb dX2_lessonDay_47 rfl (lv_at hl 0 rfl) ?_
      refine va_get (D := G.1) (ci := 2) (v := .ref (pa 0)) (C := RX2) (T := TX2) (N := 4) hx hb hts hinX2 hown hK hP 0 rfl rfl 2 (by decide) (hts (.fieldLink RX2 23 "LessonWeave" "plan" "LLessonWeave$Plan;") (by decide +kernel)) (fun _ h9 => h9) rfl dX2_lessonDay_48 ?_
      refine va_getN (D := G.1) (ci := 0) (v := .ref (pa 2)) (C := RX0) (T := TX0) (N := 9) hx hb hts hinX0 hown hK hP 11 rfl rfl 1 (by decide) (va_Nw.use rfl hNE.2.2.2.2.2.2.2.2.2.2.2.2.2.1) (fun _ h9 => h9) rfl dX2_lessonDay_51 ?_
      refine lv_iload_n hx hb dX2_lessonDay_54 rfl (lv_at hl 1 rfl) ?_
      refine lv_iconst (v := (5 : Int32)) hx hb dX2_lessonDay_55 (by decide) ?_
      refine lv_imul hx hb dX2_lessonDay_56 ?_
      refine lv_iload_n hx hb dX2_lessonDay_57 rfl (lv_at hl 2 rfl) ?_
      refine lv_iadd hx hb dX2_lessonDay_58 ?_
      obtain ⟨hin6, h⟩ := sp_g h
      refine va_iald hx hb hK hP 13 0 rfl rfl hin6 dX2_lessonDay_59 ?_
      obtain rfl := sp_s h
      exact xk_reI hx hb hr hlk hP hD hS rfl dX2_lessonDay_60
    · have h := sp_t c5 h
      exact sp_n h
  · have h := sp_t c2 h
    exact sp_n h
def f_X2_revisitDay (lo : xF) (yy : xSY) (pp : xPL) (qq : xPL) (i1 : Int32) (i2 : Int32) : Option (Int32) :=
  Option.bind (f_X2_isAim lo (yy.1, yy.2.1, yy.2.2.1, yy.2.2.2.1, yy.2.2.2.2.1, yy.2.2.2.2.2.1, yy.2.2.2.2.2.2.1, yy.2.2.2.2.2.2.2.1, yy.2.2.2.2.2.2.2.2) (pp.1, pp.2.1, pp.2.2.1, pp.2.2.2.1, pp.2.2.2.2.1, pp.2.2.2.2.2.1, pp.2.2.2.2.2.2.1, pp.2.2.2.2.2.2.2.1, pp.2.2.2.2.2.2.2.2) (qq.1, qq.2.1, qq.2.2.1, qq.2.2.2.1, qq.2.2.2.2.1, qq.2.2.2.2.2.1, qq.2.2.2.2.2.2.1, qq.2.2.2.2.2.2.2.1, qq.2.2.2.2.2.2.2.2) i1) fun (o1 : Int32) =>
  if o1 = 0 then
    none
  else
    if i1 < 0 ∨ 12 ≤ i1.toNatClampNeg then none else
    Option.bind (f_X2_isWithin i2 (0 : Int32) ((yy.2.2.2.2.2.1 i1.toNatClampNeg) - (1 : Int32))) fun (o4 : Int32) =>
    if o4 = 0 then
      none
    else
      if ((i1 * (3 : Int32)) + i2) < 0 ∨ 36 ≤ ((i1 * (3 : Int32)) + i2).toNatClampNeg then none else
      some (pp.2.2.1 ((i1 * (3 : Int32)) + i2).toNatClampNeg)
theorem f_X2_revisitDay_e (lo : xF) (yy_0 : Int32) (yy_1 : xF) (yy_2 : xF) (yy_3 : xF) (yy_4 : xF) (yy_5 : xF) (yy_6 : xF) (yy_7 : xF) (yy_8 : xF) (pp_0 : xF) (pp_1 : xF) (pp_2 : xF) (pp_3 : xF) (pp_4 : xF) (pp_5 : xF) (pp_6 : Int32) (pp_7 : Int32) (pp_8 : Int32) (qq_0 : xF) (qq_1 : xF) (qq_2 : xF) (qq_3 : xF) (qq_4 : xF) (qq_5 : xF) (qq_6 : Int32) (qq_7 : Int32) (qq_8 : Int32) (i1 : Int32) (i2 : Int32) : f_X2_revisitDay lo (yy_0, yy_1, yy_2, yy_3, yy_4, yy_5, yy_6, yy_7, yy_8) (pp_0, pp_1, pp_2, pp_3, pp_4, pp_5, pp_6, pp_7, pp_8) (qq_0, qq_1, qq_2, qq_3, qq_4, qq_5, qq_6, qq_7, qq_8) i1 i2 =
  Option.bind (f_X2_isAim lo (yy_0, yy_1, yy_2, yy_3, yy_4, yy_5, yy_6, yy_7, yy_8) (pp_0, pp_1, pp_2, pp_3, pp_4, pp_5, pp_6, pp_7, pp_8) (qq_0, qq_1, qq_2, qq_3, qq_4, qq_5, qq_6, qq_7, qq_8) i1) fun (o1 : Int32) =>
  if o1 = 0 then
    none
  else
    if i1 < 0 ∨ 12 ≤ i1.toNatClampNeg then none else
    Option.bind (f_X2_isWithin i2 (0 : Int32) ((yy_5 i1.toNatClampNeg) - (1 : Int32))) fun (o4 : Int32) =>
    if o4 = 0 then
      none
    else
      if ((i1 * (3 : Int32)) + i2) < 0 ∨ 36 ≤ ((i1 * (3 : Int32)) + i2).toNatClampNeg then none else
      some (pp_2 ((i1 * (3 : Int32)) + i2).toNatClampNeg) := rfl
set_option maxHeartbeats 8000000 in
set_option maxRecDepth 100000 in
theorem c_X2_revisitDay (l : Launch) (G : xG) (xa : Nat) (la : Nat) (ya : (Nat → Nat)) (pa : (Nat → Nat)) (qa : (Nat → Nat)) (lo : xF) (yy : xSY) (pp : xPL) (qq : xPL) (i1 : Int32) (i2 : Int32) (o : Int32) (h : f_X2_revisitDay lo yy pp qq i1 i2 = some o) : xk_CI l yX2_revisitDay wsX2_revisitDay ({ frames := 2, cells := 0, slots := 0, locals := 43 } : Room) 0 0 [.ref xa, .int i1, .int i2] G ((wXO xa (ya 0) la (pa 0) (qa 0)) ++ ((wLO G la lo) ++ ((wSYc G ya yy.1 yy.2.1 yy.2.2.1 yy.2.2.2.1 yy.2.2.2.2.1 yy.2.2.2.2.2.1 yy.2.2.2.2.2.2.1 yy.2.2.2.2.2.2.2.1 yy.2.2.2.2.2.2.2.2) ++ ((wPLc G pa pp.1 pp.2.1 pp.2.2.1 pp.2.2.2.1 pp.2.2.2.2.1 pp.2.2.2.2.2.1 pp.2.2.2.2.2.2.1 pp.2.2.2.2.2.2.2.1 pp.2.2.2.2.2.2.2.2) ++ ((wPLc G qa qq.1 qq.2.1 qq.2.2.1 qq.2.2.2.1 qq.2.2.2.2.1 qq.2.2.2.2.2.1 qq.2.2.2.2.2.2.1 qq.2.2.2.2.2.2.2.1 qq.2.2.2.2.2.2.2.2)))))) ((wXO xa (ya 0) la (pa 0) (qa 0)) ++ ((wLO G la lo) ++ ((wSYc G ya yy.1 yy.2.1 yy.2.2.1 yy.2.2.2.1 yy.2.2.2.2.1 yy.2.2.2.2.2.1 yy.2.2.2.2.2.2.1 yy.2.2.2.2.2.2.2.1 yy.2.2.2.2.2.2.2.2) ++ ((wPLc G pa pp.1 pp.2.1 pp.2.2.1 pp.2.2.2.1 pp.2.2.2.2.1 pp.2.2.2.2.2.1 pp.2.2.2.2.2.2.1 pp.2.2.2.2.2.2.2.1 pp.2.2.2.2.2.2.2.2) ++ ((wPLc G qa qq.1 qq.2.1 qq.2.2.1 qq.2.2.2.1 qq.2.2.2.2.1 qq.2.2.2.2.2.1 qq.2.2.2.2.2.2.1 qq.2.2.2.2.2.2.2.1 qq.2.2.2.2.2.2.2.2)))))) o := by
  obtain ⟨yy_0, yy_1, yy_2, yy_3, yy_4, yy_5, yy_6, yy_7, yy_8⟩ := yy
  obtain ⟨pp_0, pp_1, pp_2, pp_3, pp_4, pp_5, pp_6, pp_7, pp_8⟩ := pp
  obtain ⟨qq_0, qq_1, qq_2, qq_3, qq_4, qq_5, qq_6, qq_7, qq_8⟩ := qq
  refine xk_CI.of (cc := cX2_revisitDay) (maxL := 3) (ret := (some .int)) (by decide) rfl (Nat.le_of_ble_eq_true rfl) ?_
  intro pr9 en9 s mm9 bl9 meth9 cd9 A ls H locs hx hb hr hml hts hown hlk hA hP hK hD hNE hS hl
  have hown : s.vm.findClass RX2 = some mm9.cls := hown
  have hl : lv_has ls 3 [(0, .ref xa), (1, .int i1), (2, .int i2)] := hl
  have hinX0 : ∀ w ∈ u_ws RX0 TX0 9, w ∈ wsX2_revisitDay := by decide +kernel
  have hinX1 : ∀ w ∈ u_ws RX1 TX1 9, w ∈ wsX2_revisitDay := by decide +kernel
  have hinX2 : ∀ w ∈ u_ws RX2 TX2 4, w ∈ wsX2_revisitDay := by decide +kernel
  have hP : va_P G.1 vwCl ((wXO xa (ya 0) la (pa 0) (qa 0)) ++ ((wLO G la lo) ++ ((wSYc G ya yy_0 yy_1 yy_2 yy_3 yy_4 yy_5 yy_6 yy_7 yy_8) ++ ((wPLc G pa pp_0 pp_1 pp_2 pp_3 pp_4 pp_5 pp_6 pp_7 pp_8) ++ ((wPLc G qa qq_0 qq_1 qq_2 qq_3 qq_4 qq_5 qq_6 qq_7 qq_8)))))) H := hP
  have hD : va_D A ((wXO xa (ya 0) la (pa 0) (qa 0)) ++ ((wLO G la lo) ++ ((wSYc G ya yy_0 yy_1 yy_2 yy_3 yy_4 yy_5 yy_6 yy_7 yy_8) ++ ((wPLc G pa pp_0 pp_1 pp_2 pp_3 pp_4 pp_5 pp_6 pp_7 pp_8) ++ ((wPLc G qa qq_0 qq_1 qq_2 qq_3 qq_4 qq_5 qq_6 qq_7 qq_8)))))) := hD
  have h := (f_X2_revisitDay_e lo yy_0 yy_1 yy_2 yy_3 yy_4 yy_5 yy_6 yy_7 yy_8 pp_0 pp_1 pp_2 pp_3 pp_4 pp_5 pp_6 pp_7 pp_8 qq_0 qq_1 qq_2 qq_3 qq_4 qq_5 qq_6 qq_7 qq_8 i1 i2).symm.trans h
  refine lv_aload_n hx hb dX2_revisitDay_0 rfl (lv_at hl 0 rfl) ?_
  refine lv_iload_n hx hb dX2_revisitDay_1 rfl (lv_at hl 1 rfl) ?_
  obtain ⟨o1, ho1, h⟩ := sp_b h
  have hP9 : va_P G.1 vwCl (([] : va_W) ++ ((wXO xa (ya 0) la (pa 0) (qa 0)) ++ ((wLO G la lo) ++ ((wSYc G ya yy_0 yy_1 yy_2 yy_3 yy_4 yy_5 yy_6 yy_7 yy_8) ++ ((wPLc G pa pp_0 pp_1 pp_2 pp_3 pp_4 pp_5 pp_6 pp_7 pp_8) ++ ((wPLc G qa qq_0 qq_1 qq_2 qq_3 qq_4 qq_5 qq_6 qq_7 qq_8))))))) H := xf_P (xf_p_5_n_01234 (wXO xa (ya 0) la (pa 0) (qa 0)) (wLO G la lo) (wSYc G ya yy_0 yy_1 yy_2 yy_3 yy_4 yy_5 yy_6 yy_7 yy_8) (wPLc G pa pp_0 pp_1 pp_2 pp_3 pp_4 pp_5 pp_6 pp_7 pp_8) (wPLc G qa qq_0 qq_1 qq_2 qq_3 qq_4 qq_5 qq_6 qq_7 qq_8)) hP
  have hD9 : va_D A (([] : va_W) ++ ((wXO xa (ya 0) la (pa 0) (qa 0)) ++ ((wLO G la lo) ++ ((wSYc G ya yy_0 yy_1 yy_2 yy_3 yy_4 yy_5 yy_6 yy_7 yy_8) ++ ((wPLc G pa pp_0 pp_1 pp_2 pp_3 pp_4 pp_5 pp_6 pp_7 pp_8) ++ ((wPLc G qa qq_0 qq_1 qq_2 qq_3 qq_4 qq_5 qq_6 qq_7 qq_8))))))) := xf_D (xf_p_5_n_01234 (wXO xa (ya 0) la (pa 0) (qa 0)) (wLO G la lo) (wSYc G ya yy_0 yy_1 yy_2 yy_3 yy_4 yy_5 yy_6 yy_7 yy_8) (wPLc G pa pp_0 pp_1 pp_2 pp_3 pp_4 pp_5 pp_6 pp_7 pp_8) (wPLc G qa qq_0 qq_1 qq_2 qq_3 qq_4 qq_5 qq_6 qq_7 qq_8)) hD
  refine xf_ci (va_runV (As := [.int i1]) (rest := []) ⟨hx, hb, hml, hown, hts⟩ (c_X2_isAim l G xa la ya pa qa lo (yy_0, yy_1, yy_2, yy_3, yy_4, yy_5, yy_6, yy_7, yy_8) (pp_0, pp_1, pp_2, pp_3, pp_4, pp_5, pp_6, pp_7, pp_8) (qq_0, qq_1, qq_2, qq_3, qq_4, qq_5, qq_6, qq_7, qq_8) i1 o1 ho1 H.size) (cwV 1 hts gX2_revisitDay_X2_isAim rfl rfl rfl (by decide +kernel) ⟨(Nat.le_of_ble_eq_true rfl), (Nat.le_of_ble_eq_true rfl)⟩) (xk_preV hK hNE (xf_pr hP9) (xf_dr hD9) (ci := 2) rfl rfl) rfl rfl hl.1 rfl (lv_room (Nat.le_of_ble_eq_true rfl)) dX2_revisitDay_2 ⟨(Nat.le_of_ble_eq_true rfl), (Nat.le_of_ble_eq_true rfl)⟩) hP9 hD9 hS hA (fun H locs hP hD hS => ?_)
  have hP : va_P G.1 vwCl ((wXO xa (ya 0) la (pa 0) (qa 0)) ++ ((wLO G la lo) ++ ((wSYc G ya yy_0 yy_1 yy_2 yy_3 yy_4 yy_5 yy_6 yy_7 yy_8) ++ ((wPLc G pa pp_0 pp_1 pp_2 pp_3 pp_4 pp_5 pp_6 pp_7 pp_8) ++ ((wPLc G qa qq_0 qq_1 qq_2 qq_3 qq_4 qq_5 qq_6 qq_7 qq_8)))))) H := xf_P (xf_p_5_n_01234 (wXO xa (ya 0) la (pa 0) (qa 0)) (wLO G la lo) (wSYc G ya yy_0 yy_1 yy_2 yy_3 yy_4 yy_5 yy_6 yy_7 yy_8) (wPLc G pa pp_0 pp_1 pp_2 pp_3 pp_4 pp_5 pp_6 pp_7 pp_8) (wPLc G qa qq_0 qq_1 qq_2 qq_3 qq_4 qq_5 qq_6 qq_7 qq_8)).symm (show va_P G.1 vwCl (([] : va_W) ++ ((wXO xa (ya 0) la (pa 0) (qa 0)) ++ ((wLO G la lo) ++ ((wSYc G ya yy_0 yy_1 yy_2 yy_3 yy_4 yy_5 yy_6 yy_7 yy_8) ++ ((wPLc G pa pp_0 pp_1 pp_2 pp_3 pp_4 pp_5 pp_6 pp_7 pp_8) ++ ((wPLc G qa qq_0 qq_1 qq_2 qq_3 qq_4 qq_5 qq_6 qq_7 qq_8))))))) H from hP)
  have hD : va_D A ((wXO xa (ya 0) la (pa 0) (qa 0)) ++ ((wLO G la lo) ++ ((wSYc G ya yy_0 yy_1 yy_2 yy_3 yy_4 yy_5 yy_6 yy_7 yy_8) ++ ((wPLc G pa pp_0 pp_1 pp_2 pp_3 pp_4 pp_5 pp_6 pp_7 pp_8) ++ ((wPLc G qa qq_0 qq_1 qq_2 qq_3 qq_4 qq_5 qq_6 qq_7 qq_8)))))) := xf_D (xf_p_5_n_01234 (wXO xa (ya 0) la (pa 0) (qa 0)) (wLO G la lo) (wSYc G ya yy_0 yy_1 yy_2 yy_3 yy_4 yy_5 yy_6 yy_7 yy_8) (wPLc G pa pp_0 pp_1 pp_2 pp_3 pp_4 pp_5 pp_6 pp_7 pp_8) (wPLc G qa qq_0 qq_1 qq_2 qq_3 qq_4 qq_5 qq_6 qq_7 qq_8)).symm (show va_D A (([] : va_W) ++ ((wXO xa (ya 0) la (pa 0) (qa 0)) ++ ((wLO G la lo) ++ ((wSYc G ya yy_0 yy_1 yy_2 yy_3 yy_4 yy_5 yy_6 yy_7 yy_8) ++ ((wPLc G pa pp_0 pp_1 pp_2 pp_3 pp_4 pp_5 pp_6 pp_7 pp_8) ++ ((wPLc G qa qq_0 qq_1 qq_2 qq_3 qq_4 qq_5 qq_6 qq_7 qq_8))))))) from hD)
  refine lv_if_ne (tgt := 18) hx hb dX2_revisitDay_5 (by decide) (fun c2 => ?_) (fun c2 => ?_)
  · have h := sp_f c2 h
    refine lv_iload_n hx hb dX2_revisitDay_18 rfl (lv_at hl 2 rfl) ?_
    refine lv_iconst (v := (0 : Int32)) hx hb dX2_revisitDay_19 (by decide) ?_
    refine lv_aload_n hx hb dX2_revisitDay_20 rfl (lv_at hl 0 rfl) ?_
    refine va_get (D := G.1) (ci := 2) (v := .ref (ya 0)) (C := RX2) (T := TX2) (N := 4) hx hb hts hinX2 hown hK hP 0 rfl rfl 0 (by decide) (hts (.fieldLink RX2 10 "LessonWeave" "syllabus" "LLessonWeave$Syllabus;") (by decide +kernel)) (fun _ h9 => h9) rfl dX2_revisitDay_21 ?_
    refine va_getN (D := G.1) (ci := 1) (v := .ref (ya 5)) (C := RX1) (T := TX1) (N := 9) hx hb hts hinX1 hown hK hP 2 rfl rfl 5 (by decide) (va_Nw.use rfl hNE.2.2.2.2.2.1) (fun _ h9 => h9) rfl dX2_revisitDay_24 ?_
    refine lv_iload_n hx hb dX2_revisitDay_27 rfl (lv_at hl 1 rfl) ?_
    obtain ⟨hin3, h⟩ := sp_g h
    refine va_iald hx hb hK hP 7 0 rfl rfl hin3 dX2_revisitDay_28 ?_
    refine lv_iconst (v := (1 : Int32)) hx hb dX2_revisitDay_29 (by decide) ?_
    refine lv_isub hx hb dX2_revisitDay_30 ?_
    obtain ⟨o4, ho4, h⟩ := sp_b h
    refine xf_ci0 (va_runS (As := [.int i2, .int (0 : Int32), .int ((yy_5 i1.toNatClampNeg) - (1 : Int32))]) (rest := []) ⟨hx, hb, hml, hown, hts⟩ (c_X2_isWithin l G i2 (0 : Int32) ((yy_5 i1.toNatClampNeg) - (1 : Int32)) o4 ho4 H.size) (va_cwS 3 hts gX2_revisitDay_X2_isWithin rfl rfl rfl (by decide +kernel) ⟨(Nat.le_of_ble_eq_true rfl), (Nat.le_of_ble_eq_true rfl)⟩) (xk_preS hK hNE (xf_p0 : va_P G.1 vwCl [] H) (xf_d0 : va_D A [])) rfl rfl hl.1 rfl (lv_room (Nat.le_of_ble_eq_true rfl)) dX2_revisitDay_31 ⟨(Nat.le_of_ble_eq_true rfl), (Nat.le_of_ble_eq_true rfl)⟩) hP hD hS hA (fun H locs hP hD hS => ?_)
    refine lv_if_ne (tgt := 47) hx hb dX2_revisitDay_34 (by decide) (fun c5 => ?_) (fun c5 => ?_)
    · have h := sp_f c5 h
      refine lv_aload_n hx hb dX2_revisitDay_47 rfl (lv_at hl 0 rfl) ?_
      refine va_get (D := G.1) (ci := 2) (v := .ref (pa 0)) (C := RX2) (T := TX2) (N := 4) hx hb hts hinX2 hown hK hP 0 rfl rfl 2 (by decide) (hts (.fieldLink RX2 23 "LessonWeave" "plan" "LLessonWeave$Plan;") (by decide +kernel)) (fun _ h9 => h9) rfl dX2_revisitDay_48 ?_
      refine va_getN (D := G.1) (ci := 0) (v := .ref (pa 3)) (C := RX0) (T := TX0) (N := 9) hx hb hts hinX0 hown hK hP 11 rfl rfl 2 (by decide) (va_Nw.use rfl hNE.2.2.2.2.2.2.2.2.2.2.2.2.2.2.1) (fun _ h9 => h9) rfl dX2_revisitDay_51 ?_
      refine lv_iload_n hx hb dX2_revisitDay_54 rfl (lv_at hl 1 rfl) ?_
      refine lv_iconst (v := (3 : Int32)) hx hb dX2_revisitDay_55 (by decide) ?_
      refine lv_imul hx hb dX2_revisitDay_56 ?_
      refine lv_iload_n hx hb dX2_revisitDay_57 rfl (lv_at hl 2 rfl) ?_
      refine lv_iadd hx hb dX2_revisitDay_58 ?_
      obtain ⟨hin6, h⟩ := sp_g h
      refine va_iald hx hb hK hP 14 0 rfl rfl hin6 dX2_revisitDay_59 ?_
      obtain rfl := sp_s h
      exact xk_reI hx hb hr hlk hP hD hS rfl dX2_revisitDay_60
    · have h := sp_t c5 h
      exact sp_n h
  · have h := sp_t c2 h
    exact sp_n h
def f_X2_worthwhile (lo : xF) (yy : xSY) (pp : xPL) (qq : xPL) (i1 : Int32) : Option (Int32) :=
  Option.bind (f_X2_isWithin i1 (0 : Int32) (99 : Int32)) fun (o1 : Int32) =>
  if o1 = 0 then
    none
  else
    Option.bind (f_X1_bestSet (yy.1, yy.2.1, yy.2.2.1, yy.2.2.2.1, yy.2.2.2.2.1, yy.2.2.2.2.2.1, yy.2.2.2.2.2.2.1, yy.2.2.2.2.2.2.2.1, yy.2.2.2.2.2.2.2.2) i1) fun (o3 : Int32) =>
    some o3
theorem f_X2_worthwhile_e (lo : xF) (yy_0 : Int32) (yy_1 : xF) (yy_2 : xF) (yy_3 : xF) (yy_4 : xF) (yy_5 : xF) (yy_6 : xF) (yy_7 : xF) (yy_8 : xF) (pp_0 : xF) (pp_1 : xF) (pp_2 : xF) (pp_3 : xF) (pp_4 : xF) (pp_5 : xF) (pp_6 : Int32) (pp_7 : Int32) (pp_8 : Int32) (qq_0 : xF) (qq_1 : xF) (qq_2 : xF) (qq_3 : xF) (qq_4 : xF) (qq_5 : xF) (qq_6 : Int32) (qq_7 : Int32) (qq_8 : Int32) (i1 : Int32) : f_X2_worthwhile lo (yy_0, yy_1, yy_2, yy_3, yy_4, yy_5, yy_6, yy_7, yy_8) (pp_0, pp_1, pp_2, pp_3, pp_4, pp_5, pp_6, pp_7, pp_8) (qq_0, qq_1, qq_2, qq_3, qq_4, qq_5, qq_6, qq_7, qq_8) i1 =
  Option.bind (f_X2_isWithin i1 (0 : Int32) (99 : Int32)) fun (o1 : Int32) =>
  if o1 = 0 then
    none
  else
    Option.bind (f_X1_bestSet (yy_0, yy_1, yy_2, yy_3, yy_4, yy_5, yy_6, yy_7, yy_8) i1) fun (o3 : Int32) =>
    some o3 := rfl
set_option maxHeartbeats 8000000 in
set_option maxRecDepth 100000 in
theorem c_X2_worthwhile (l : Launch) (G : xG) (xa : Nat) (la : Nat) (ya : (Nat → Nat)) (pa : (Nat → Nat)) (qa : (Nat → Nat)) (lo : xF) (yy : xSY) (pp : xPL) (qq : xPL) (i1 : Int32) (o : Int32) (h : f_X2_worthwhile lo yy pp qq i1 = some o) : xk_CI l yX2_worthwhile wsX2_worthwhile ({ frames := 3, cells := 0, slots := 0, locals := 70 } : Room) 0 0 [.ref xa, .int i1] G ((wXO xa (ya 0) la (pa 0) (qa 0)) ++ ((wLO G la lo) ++ ((wSYc G ya yy.1 yy.2.1 yy.2.2.1 yy.2.2.2.1 yy.2.2.2.2.1 yy.2.2.2.2.2.1 yy.2.2.2.2.2.2.1 yy.2.2.2.2.2.2.2.1 yy.2.2.2.2.2.2.2.2) ++ ((wPLc G pa pp.1 pp.2.1 pp.2.2.1 pp.2.2.2.1 pp.2.2.2.2.1 pp.2.2.2.2.2.1 pp.2.2.2.2.2.2.1 pp.2.2.2.2.2.2.2.1 pp.2.2.2.2.2.2.2.2) ++ ((wPLc G qa qq.1 qq.2.1 qq.2.2.1 qq.2.2.2.1 qq.2.2.2.2.1 qq.2.2.2.2.2.1 qq.2.2.2.2.2.2.1 qq.2.2.2.2.2.2.2.1 qq.2.2.2.2.2.2.2.2)))))) ((wXO xa (ya 0) la (pa 0) (qa 0)) ++ ((wLO G la lo) ++ ((wSYc G ya yy.1 yy.2.1 yy.2.2.1 yy.2.2.2.1 yy.2.2.2.2.1 yy.2.2.2.2.2.1 yy.2.2.2.2.2.2.1 yy.2.2.2.2.2.2.2.1 yy.2.2.2.2.2.2.2.2) ++ ((wPLc G pa pp.1 pp.2.1 pp.2.2.1 pp.2.2.2.1 pp.2.2.2.2.1 pp.2.2.2.2.2.1 pp.2.2.2.2.2.2.1 pp.2.2.2.2.2.2.2.1 pp.2.2.2.2.2.2.2.2) ++ ((wPLc G qa qq.1 qq.2.1 qq.2.2.1 qq.2.2.2.1 qq.2.2.2.2.1 qq.2.2.2.2.2.1 qq.2.2.2.2.2.2.1 qq.2.2.2.2.2.2.2.1 qq.2.2.2.2.2.2.2.2)))))) o := by
  obtain ⟨yy_0, yy_1, yy_2, yy_3, yy_4, yy_5, yy_6, yy_7, yy_8⟩ := yy
  obtain ⟨pp_0, pp_1, pp_2, pp_3, pp_4, pp_5, pp_6, pp_7, pp_8⟩ := pp
  obtain ⟨qq_0, qq_1, qq_2, qq_3, qq_4, qq_5, qq_6, qq_7, qq_8⟩ := qq
  refine xk_CI.of (cc := cX2_worthwhile) (maxL := 2) (ret := (some .int)) (by decide) rfl (Nat.le_of_ble_eq_true rfl) ?_
  intro pr9 en9 s mm9 bl9 meth9 cd9 A ls H locs hx hb hr hml hts hown hlk hA hP hK hD hNE hS hl
  have hown : s.vm.findClass RX2 = some mm9.cls := hown
  have hl : lv_has ls 2 [(0, .ref xa), (1, .int i1)] := hl
  have hinX2 : ∀ w ∈ u_ws RX2 TX2 4, w ∈ wsX2_worthwhile := by decide +kernel
  have hP : va_P G.1 vwCl ((wXO xa (ya 0) la (pa 0) (qa 0)) ++ ((wLO G la lo) ++ ((wSYc G ya yy_0 yy_1 yy_2 yy_3 yy_4 yy_5 yy_6 yy_7 yy_8) ++ ((wPLc G pa pp_0 pp_1 pp_2 pp_3 pp_4 pp_5 pp_6 pp_7 pp_8) ++ ((wPLc G qa qq_0 qq_1 qq_2 qq_3 qq_4 qq_5 qq_6 qq_7 qq_8)))))) H := hP
  have hD : va_D A ((wXO xa (ya 0) la (pa 0) (qa 0)) ++ ((wLO G la lo) ++ ((wSYc G ya yy_0 yy_1 yy_2 yy_3 yy_4 yy_5 yy_6 yy_7 yy_8) ++ ((wPLc G pa pp_0 pp_1 pp_2 pp_3 pp_4 pp_5 pp_6 pp_7 pp_8) ++ ((wPLc G qa qq_0 qq_1 qq_2 qq_3 qq_4 qq_5 qq_6 qq_7 qq_8)))))) := hD
  have h := (f_X2_worthwhile_e lo yy_0 yy_1 yy_2 yy_3 yy_4 yy_5 yy_6 yy_7 yy_8 pp_0 pp_1 pp_2 pp_3 pp_4 pp_5 pp_6 pp_7 pp_8 qq_0 qq_1 qq_2 qq_3 qq_4 qq_5 qq_6 qq_7 qq_8 i1).symm.trans h
  refine lv_iload_n hx hb dX2_worthwhile_0 rfl (lv_at hl 1 rfl) ?_
  refine lv_iconst (v := (0 : Int32)) hx hb dX2_worthwhile_1 (by decide) ?_
  refine lv_bipush (v := (99 : Int32)) hx hb dX2_worthwhile_2 (by decide) ?_
  obtain ⟨o1, ho1, h⟩ := sp_b h
  refine xf_ci0 (va_runS (As := [.int i1, .int (0 : Int32), .int (99 : Int32)]) (rest := []) ⟨hx, hb, hml, hown, hts⟩ (c_X2_isWithin l G i1 (0 : Int32) (99 : Int32) o1 ho1 H.size) (va_cwS 3 hts gX2_worthwhile_X2_isWithin rfl rfl rfl (by decide +kernel) ⟨(Nat.le_of_ble_eq_true rfl), (Nat.le_of_ble_eq_true rfl)⟩) (xk_preS hK hNE (xf_p0 : va_P G.1 vwCl [] H) (xf_d0 : va_D A [])) rfl rfl hl.1 rfl (lv_room (Nat.le_of_ble_eq_true rfl)) dX2_worthwhile_4 ⟨(Nat.le_of_ble_eq_true rfl), (Nat.le_of_ble_eq_true rfl)⟩) hP hD hS hA (fun H locs hP hD hS => ?_)
  refine lv_if_ne (tgt := 20) hx hb dX2_worthwhile_7 (by decide) (fun c2 => ?_) (fun c2 => ?_)
  · have h := sp_f c2 h
    refine lv_aload_n hx hb dX2_worthwhile_20 rfl (lv_at hl 0 rfl) ?_
    refine va_get (D := G.1) (ci := 2) (v := .ref (ya 0)) (C := RX2) (T := TX2) (N := 4) hx hb hts hinX2 hown hK hP 0 rfl rfl 0 (by decide) (hts (.fieldLink RX2 10 "LessonWeave" "syllabus" "LLessonWeave$Syllabus;") (by decide +kernel)) (fun _ h9 => h9) rfl dX2_worthwhile_21 ?_
    refine lv_iload_n hx hb dX2_worthwhile_24 rfl (lv_at hl 1 rfl) ?_
    obtain ⟨o3, ho3, h⟩ := sp_b h
    have hP9 : va_P G.1 vwCl (((wXO xa (ya 0) la (pa 0) (qa 0)) ++ ((wLO G la lo) ++ ((wPLc G pa pp_0 pp_1 pp_2 pp_3 pp_4 pp_5 pp_6 pp_7 pp_8) ++ ((wPLc G qa qq_0 qq_1 qq_2 qq_3 qq_4 qq_5 qq_6 qq_7 qq_8))))) ++ ((wSYc G ya yy_0 yy_1 yy_2 yy_3 yy_4 yy_5 yy_6 yy_7 yy_8))) H := xf_P (xf_p_5_0134_2 (wXO xa (ya 0) la (pa 0) (qa 0)) (wLO G la lo) (wSYc G ya yy_0 yy_1 yy_2 yy_3 yy_4 yy_5 yy_6 yy_7 yy_8) (wPLc G pa pp_0 pp_1 pp_2 pp_3 pp_4 pp_5 pp_6 pp_7 pp_8) (wPLc G qa qq_0 qq_1 qq_2 qq_3 qq_4 qq_5 qq_6 qq_7 qq_8)) hP
    have hD9 : va_D A (((wXO xa (ya 0) la (pa 0) (qa 0)) ++ ((wLO G la lo) ++ ((wPLc G pa pp_0 pp_1 pp_2 pp_3 pp_4 pp_5 pp_6 pp_7 pp_8) ++ ((wPLc G qa qq_0 qq_1 qq_2 qq_3 qq_4 qq_5 qq_6 qq_7 qq_8))))) ++ ((wSYc G ya yy_0 yy_1 yy_2 yy_3 yy_4 yy_5 yy_6 yy_7 yy_8))) := xf_D (xf_p_5_0134_2 (wXO xa (ya 0) la (pa 0) (qa 0)) (wLO G la lo) (wSYc G ya yy_0 yy_1 yy_2 yy_3 yy_4 yy_5 yy_6 yy_7 yy_8) (wPLc G pa pp_0 pp_1 pp_2 pp_3 pp_4 pp_5 pp_6 pp_7 pp_8) (wPLc G qa qq_0 qq_1 qq_2 qq_3 qq_4 qq_5 qq_6 qq_7 qq_8)) hD
    refine xf_ci (va_runV (As := [.int i1]) (rest := []) ⟨hx, hb, hml, hown, hts⟩ (c_X1_bestSet l G ya (yy_0, yy_1, yy_2, yy_3, yy_4, yy_5, yy_6, yy_7, yy_8) i1 o3 ho3 H.size) (cwV 1 hts gX2_worthwhile_X1_bestSet rfl rfl rfl (by decide +kernel) ⟨(Nat.le_of_ble_eq_true rfl), (Nat.le_of_ble_eq_true rfl)⟩) (xk_preV hK hNE (xf_pr hP9) (xf_dr hD9) (ci := 1) rfl rfl) rfl rfl hl.1 rfl (lv_room (Nat.le_of_ble_eq_true rfl)) dX2_worthwhile_25 ⟨(Nat.le_of_ble_eq_true rfl), (Nat.le_of_ble_eq_true rfl)⟩) hP9 hD9 hS hA (fun H locs hP hD hS => ?_)
    have hP : va_P G.1 vwCl ((wXO xa (ya 0) la (pa 0) (qa 0)) ++ ((wLO G la lo) ++ ((wSYc G ya yy_0 yy_1 yy_2 yy_3 yy_4 yy_5 yy_6 yy_7 yy_8) ++ ((wPLc G pa pp_0 pp_1 pp_2 pp_3 pp_4 pp_5 pp_6 pp_7 pp_8) ++ ((wPLc G qa qq_0 qq_1 qq_2 qq_3 qq_4 qq_5 qq_6 qq_7 qq_8)))))) H := xf_P (xf_p_5_0134_2 (wXO xa (ya 0) la (pa 0) (qa 0)) (wLO G la lo) (wSYc G ya yy_0 yy_1 yy_2 yy_3 yy_4 yy_5 yy_6 yy_7 yy_8) (wPLc G pa pp_0 pp_1 pp_2 pp_3 pp_4 pp_5 pp_6 pp_7 pp_8) (wPLc G qa qq_0 qq_1 qq_2 qq_3 qq_4 qq_5 qq_6 qq_7 qq_8)).symm (show va_P G.1 vwCl (((wXO xa (ya 0) la (pa 0) (qa 0)) ++ ((wLO G la lo) ++ ((wPLc G pa pp_0 pp_1 pp_2 pp_3 pp_4 pp_5 pp_6 pp_7 pp_8) ++ ((wPLc G qa qq_0 qq_1 qq_2 qq_3 qq_4 qq_5 qq_6 qq_7 qq_8))))) ++ ((wSYc G ya yy_0 yy_1 yy_2 yy_3 yy_4 yy_5 yy_6 yy_7 yy_8))) H from hP)
    have hD : va_D A ((wXO xa (ya 0) la (pa 0) (qa 0)) ++ ((wLO G la lo) ++ ((wSYc G ya yy_0 yy_1 yy_2 yy_3 yy_4 yy_5 yy_6 yy_7 yy_8) ++ ((wPLc G pa pp_0 pp_1 pp_2 pp_3 pp_4 pp_5 pp_6 pp_7 pp_8) ++ ((wPLc G qa qq_0 qq_1 qq_2 qq_3 qq_4 qq_5 qq_6 qq_7 qq_8)))))) := xf_D (xf_p_5_0134_2 (wXO xa (ya 0) la (pa 0) (qa 0)) (wLO G la lo) (wSYc G ya yy_0 yy_1 yy_2 yy_3 yy_4 yy_5 yy_6 yy_7 yy_8) (wPLc G pa pp_0 pp_1 pp_2 pp_3 pp_4 pp_5 pp_6 pp_7 pp_8) (wPLc G qa qq_0 qq_1 qq_2 qq_3 qq_4 qq_5 qq_6 qq_7 qq_8)).symm (show va_D A (((wXO xa (ya 0) la (pa 0) (qa 0)) ++ ((wLO G la lo) ++ ((wPLc G pa pp_0 pp_1 pp_2 pp_3 pp_4 pp_5 pp_6 pp_7 pp_8) ++ ((wPLc G qa qq_0 qq_1 qq_2 qq_3 qq_4 qq_5 qq_6 qq_7 qq_8))))) ++ ((wSYc G ya yy_0 yy_1 yy_2 yy_3 yy_4 yy_5 yy_6 yy_7 yy_8))) from hD)
    obtain rfl := sp_s h
    exact xk_reI hx hb hr hlk hP hD hS rfl dX2_worthwhile_28
  · have h := sp_t c2 h
    exact sp_n h
def f_X2_bestNet (lo : xF) (yy : xSY) (pp : xPL) (qq : xPL) (i1 : Int32) : Option (Int32) :=
  Option.bind (f_X2_isWithin i1 (0 : Int32) (99 : Int32)) fun (o1 : Int32) =>
  if o1 = 0 then
    none
  else
    Option.bind (f_X1_bestSet (yy.1, yy.2.1, yy.2.2.1, yy.2.2.2.1, yy.2.2.2.2.1, yy.2.2.2.2.2.1, yy.2.2.2.2.2.2.1, yy.2.2.2.2.2.2.2.1, yy.2.2.2.2.2.2.2.2) i1) fun (o3 : Int32) =>
    Option.bind (f_X1_netOf (yy.1, yy.2.1, yy.2.2.1, yy.2.2.2.1, yy.2.2.2.2.1, yy.2.2.2.2.2.1, yy.2.2.2.2.2.2.1, yy.2.2.2.2.2.2.2.1, yy.2.2.2.2.2.2.2.2) o3 i1) fun (o4 : Int32) =>
    some o4
theorem f_X2_bestNet_e (lo : xF) (yy_0 : Int32) (yy_1 : xF) (yy_2 : xF) (yy_3 : xF) (yy_4 : xF) (yy_5 : xF) (yy_6 : xF) (yy_7 : xF) (yy_8 : xF) (pp_0 : xF) (pp_1 : xF) (pp_2 : xF) (pp_3 : xF) (pp_4 : xF) (pp_5 : xF) (pp_6 : Int32) (pp_7 : Int32) (pp_8 : Int32) (qq_0 : xF) (qq_1 : xF) (qq_2 : xF) (qq_3 : xF) (qq_4 : xF) (qq_5 : xF) (qq_6 : Int32) (qq_7 : Int32) (qq_8 : Int32) (i1 : Int32) : f_X2_bestNet lo (yy_0, yy_1, yy_2, yy_3, yy_4, yy_5, yy_6, yy_7, yy_8) (pp_0, pp_1, pp_2, pp_3, pp_4, pp_5, pp_6, pp_7, pp_8) (qq_0, qq_1, qq_2, qq_3, qq_4, qq_5, qq_6, qq_7, qq_8) i1 =
  Option.bind (f_X2_isWithin i1 (0 : Int32) (99 : Int32)) fun (o1 : Int32) =>
  if o1 = 0 then
    none
  else
    Option.bind (f_X1_bestSet (yy_0, yy_1, yy_2, yy_3, yy_4, yy_5, yy_6, yy_7, yy_8) i1) fun (o3 : Int32) =>
    Option.bind (f_X1_netOf (yy_0, yy_1, yy_2, yy_3, yy_4, yy_5, yy_6, yy_7, yy_8) o3 i1) fun (o4 : Int32) =>
    some o4 := rfl
set_option maxHeartbeats 8000000 in
set_option maxRecDepth 100000 in
theorem c_X2_bestNet (l : Launch) (G : xG) (xa : Nat) (la : Nat) (ya : (Nat → Nat)) (pa : (Nat → Nat)) (qa : (Nat → Nat)) (lo : xF) (yy : xSY) (pp : xPL) (qq : xPL) (i1 : Int32) (o : Int32) (h : f_X2_bestNet lo yy pp qq i1 = some o) : xk_CI l yX2_bestNet wsX2_bestNet ({ frames := 3, cells := 0, slots := 0, locals := 70 } : Room) 0 0 [.ref xa, .int i1] G ((wXO xa (ya 0) la (pa 0) (qa 0)) ++ ((wLO G la lo) ++ ((wSYc G ya yy.1 yy.2.1 yy.2.2.1 yy.2.2.2.1 yy.2.2.2.2.1 yy.2.2.2.2.2.1 yy.2.2.2.2.2.2.1 yy.2.2.2.2.2.2.2.1 yy.2.2.2.2.2.2.2.2) ++ ((wPLc G pa pp.1 pp.2.1 pp.2.2.1 pp.2.2.2.1 pp.2.2.2.2.1 pp.2.2.2.2.2.1 pp.2.2.2.2.2.2.1 pp.2.2.2.2.2.2.2.1 pp.2.2.2.2.2.2.2.2) ++ ((wPLc G qa qq.1 qq.2.1 qq.2.2.1 qq.2.2.2.1 qq.2.2.2.2.1 qq.2.2.2.2.2.1 qq.2.2.2.2.2.2.1 qq.2.2.2.2.2.2.2.1 qq.2.2.2.2.2.2.2.2)))))) ((wXO xa (ya 0) la (pa 0) (qa 0)) ++ ((wLO G la lo) ++ ((wSYc G ya yy.1 yy.2.1 yy.2.2.1 yy.2.2.2.1 yy.2.2.2.2.1 yy.2.2.2.2.2.1 yy.2.2.2.2.2.2.1 yy.2.2.2.2.2.2.2.1 yy.2.2.2.2.2.2.2.2) ++ ((wPLc G pa pp.1 pp.2.1 pp.2.2.1 pp.2.2.2.1 pp.2.2.2.2.1 pp.2.2.2.2.2.1 pp.2.2.2.2.2.2.1 pp.2.2.2.2.2.2.2.1 pp.2.2.2.2.2.2.2.2) ++ ((wPLc G qa qq.1 qq.2.1 qq.2.2.1 qq.2.2.2.1 qq.2.2.2.2.1 qq.2.2.2.2.2.1 qq.2.2.2.2.2.2.1 qq.2.2.2.2.2.2.2.1 qq.2.2.2.2.2.2.2.2)))))) o := by
  obtain ⟨yy_0, yy_1, yy_2, yy_3, yy_4, yy_5, yy_6, yy_7, yy_8⟩ := yy
  obtain ⟨pp_0, pp_1, pp_2, pp_3, pp_4, pp_5, pp_6, pp_7, pp_8⟩ := pp
  obtain ⟨qq_0, qq_1, qq_2, qq_3, qq_4, qq_5, qq_6, qq_7, qq_8⟩ := qq
  refine xk_CI.of (cc := cX2_bestNet) (maxL := 2) (ret := (some .int)) (by decide) rfl (Nat.le_of_ble_eq_true rfl) ?_
  intro pr9 en9 s mm9 bl9 meth9 cd9 A ls H locs hx hb hr hml hts hown hlk hA hP hK hD hNE hS hl
  have hown : s.vm.findClass RX2 = some mm9.cls := hown
  have hl : lv_has ls 2 [(0, .ref xa), (1, .int i1)] := hl
  have hinX2 : ∀ w ∈ u_ws RX2 TX2 4, w ∈ wsX2_bestNet := by decide +kernel
  have hP : va_P G.1 vwCl ((wXO xa (ya 0) la (pa 0) (qa 0)) ++ ((wLO G la lo) ++ ((wSYc G ya yy_0 yy_1 yy_2 yy_3 yy_4 yy_5 yy_6 yy_7 yy_8) ++ ((wPLc G pa pp_0 pp_1 pp_2 pp_3 pp_4 pp_5 pp_6 pp_7 pp_8) ++ ((wPLc G qa qq_0 qq_1 qq_2 qq_3 qq_4 qq_5 qq_6 qq_7 qq_8)))))) H := hP
  have hD : va_D A ((wXO xa (ya 0) la (pa 0) (qa 0)) ++ ((wLO G la lo) ++ ((wSYc G ya yy_0 yy_1 yy_2 yy_3 yy_4 yy_5 yy_6 yy_7 yy_8) ++ ((wPLc G pa pp_0 pp_1 pp_2 pp_3 pp_4 pp_5 pp_6 pp_7 pp_8) ++ ((wPLc G qa qq_0 qq_1 qq_2 qq_3 qq_4 qq_5 qq_6 qq_7 qq_8)))))) := hD
  have h := (f_X2_bestNet_e lo yy_0 yy_1 yy_2 yy_3 yy_4 yy_5 yy_6 yy_7 yy_8 pp_0 pp_1 pp_2 pp_3 pp_4 pp_5 pp_6 pp_7 pp_8 qq_0 qq_1 qq_2 qq_3 qq_4 qq_5 qq_6 qq_7 qq_8 i1).symm.trans h
  refine lv_iload_n hx hb dX2_bestNet_0 rfl (lv_at hl 1 rfl) ?_
  refine lv_iconst (v := (0 : Int32)) hx hb dX2_bestNet_1 (by decide) ?_
  refine lv_bipush (v := (99 : Int32)) hx hb dX2_bestNet_2 (by decide) ?_
  obtain ⟨o1, ho1, h⟩ := sp_b h
  refine xf_ci0 (va_runS (As := [.int i1, .int (0 : Int32), .int (99 : Int32)]) (rest := []) ⟨hx, hb, hml, hown, hts⟩ (c_X2_isWithin l G i1 (0 : Int32) (99 : Int32) o1 ho1 H.size) (va_cwS 3 hts gX2_bestNet_X2_isWithin rfl rfl rfl (by decide +kernel) ⟨(Nat.le_of_ble_eq_true rfl), (Nat.le_of_ble_eq_true rfl)⟩) (xk_preS hK hNE (xf_p0 : va_P G.1 vwCl [] H) (xf_d0 : va_D A [])) rfl rfl hl.1 rfl (lv_room (Nat.le_of_ble_eq_true rfl)) dX2_bestNet_4 ⟨(Nat.le_of_ble_eq_true rfl), (Nat.le_of_ble_eq_true rfl)⟩) hP hD hS hA (fun H locs hP hD hS => ?_)
  refine lv_if_ne (tgt := 20) hx hb dX2_bestNet_7 (by decide) (fun c2 => ?_) (fun c2 => ?_)
  · have h := sp_f c2 h
    refine lv_aload_n hx hb dX2_bestNet_20 rfl (lv_at hl 0 rfl) ?_
    refine va_get (D := G.1) (ci := 2) (v := .ref (ya 0)) (C := RX2) (T := TX2) (N := 4) hx hb hts hinX2 hown hK hP 0 rfl rfl 0 (by decide) (hts (.fieldLink RX2 10 "LessonWeave" "syllabus" "LLessonWeave$Syllabus;") (by decide +kernel)) (fun _ h9 => h9) rfl dX2_bestNet_21 ?_
    refine lv_aload_n hx hb dX2_bestNet_24 rfl (lv_at hl 0 rfl) ?_
    refine va_get (D := G.1) (ci := 2) (v := .ref (ya 0)) (C := RX2) (T := TX2) (N := 4) hx hb hts hinX2 hown hK hP 0 rfl rfl 0 (by decide) (hts (.fieldLink RX2 10 "LessonWeave" "syllabus" "LLessonWeave$Syllabus;") (by decide +kernel)) (fun _ h9 => h9) rfl dX2_bestNet_25 ?_
    refine lv_iload_n hx hb dX2_bestNet_28 rfl (lv_at hl 1 rfl) ?_
    obtain ⟨o3, ho3, h⟩ := sp_b h
    have hP9 : va_P G.1 vwCl (((wXO xa (ya 0) la (pa 0) (qa 0)) ++ ((wLO G la lo) ++ ((wPLc G pa pp_0 pp_1 pp_2 pp_3 pp_4 pp_5 pp_6 pp_7 pp_8) ++ ((wPLc G qa qq_0 qq_1 qq_2 qq_3 qq_4 qq_5 qq_6 qq_7 qq_8))))) ++ ((wSYc G ya yy_0 yy_1 yy_2 yy_3 yy_4 yy_5 yy_6 yy_7 yy_8))) H := xf_P (xf_p_5_0134_2 (wXO xa (ya 0) la (pa 0) (qa 0)) (wLO G la lo) (wSYc G ya yy_0 yy_1 yy_2 yy_3 yy_4 yy_5 yy_6 yy_7 yy_8) (wPLc G pa pp_0 pp_1 pp_2 pp_3 pp_4 pp_5 pp_6 pp_7 pp_8) (wPLc G qa qq_0 qq_1 qq_2 qq_3 qq_4 qq_5 qq_6 qq_7 qq_8)) hP
    have hD9 : va_D A (((wXO xa (ya 0) la (pa 0) (qa 0)) ++ ((wLO G la lo) ++ ((wPLc G pa pp_0 pp_1 pp_2 pp_3 pp_4 pp_5 pp_6 pp_7 pp_8) ++ ((wPLc G qa qq_0 qq_1 qq_2 qq_3 qq_4 qq_5 qq_6 qq_7 qq_8))))) ++ ((wSYc G ya yy_0 yy_1 yy_2 yy_3 yy_4 yy_5 yy_6 yy_7 yy_8))) := xf_D (xf_p_5_0134_2 (wXO xa (ya 0) la (pa 0) (qa 0)) (wLO G la lo) (wSYc G ya yy_0 yy_1 yy_2 yy_3 yy_4 yy_5 yy_6 yy_7 yy_8) (wPLc G pa pp_0 pp_1 pp_2 pp_3 pp_4 pp_5 pp_6 pp_7 pp_8) (wPLc G qa qq_0 qq_1 qq_2 qq_3 qq_4 qq_5 qq_6 qq_7 qq_8)) hD
    refine xf_ci (va_runV (As := [.int i1]) (rest := [.ref (ya 0)]) ⟨hx, hb, hml, hown, hts⟩ (c_X1_bestSet l G ya (yy_0, yy_1, yy_2, yy_3, yy_4, yy_5, yy_6, yy_7, yy_8) i1 o3 ho3 H.size) (cwV 1 hts gX2_bestNet_X1_bestSet rfl rfl rfl (by decide +kernel) ⟨(Nat.le_of_ble_eq_true rfl), (Nat.le_of_ble_eq_true rfl)⟩) (xk_preV hK hNE (xf_pr hP9) (xf_dr hD9) (ci := 1) rfl rfl) rfl rfl hl.1 rfl (lv_room (Nat.le_of_ble_eq_true rfl)) dX2_bestNet_29 ⟨(Nat.le_of_ble_eq_true rfl), (Nat.le_of_ble_eq_true rfl)⟩) hP9 hD9 hS hA (fun H locs hP hD hS => ?_)
    have hP : va_P G.1 vwCl ((wXO xa (ya 0) la (pa 0) (qa 0)) ++ ((wLO G la lo) ++ ((wSYc G ya yy_0 yy_1 yy_2 yy_3 yy_4 yy_5 yy_6 yy_7 yy_8) ++ ((wPLc G pa pp_0 pp_1 pp_2 pp_3 pp_4 pp_5 pp_6 pp_7 pp_8) ++ ((wPLc G qa qq_0 qq_1 qq_2 qq_3 qq_4 qq_5 qq_6 qq_7 qq_8)))))) H := xf_P (xf_p_5_0134_2 (wXO xa (ya 0) la (pa 0) (qa 0)) (wLO G la lo) (wSYc G ya yy_0 yy_1 yy_2 yy_3 yy_4 yy_5 yy_6 yy_7 yy_8) (wPLc G pa pp_0 pp_1 pp_2 pp_3 pp_4 pp_5 pp_6 pp_7 pp_8) (wPLc G qa qq_0 qq_1 qq_2 qq_3 qq_4 qq_5 qq_6 qq_7 qq_8)).symm (show va_P G.1 vwCl (((wXO xa (ya 0) la (pa 0) (qa 0)) ++ ((wLO G la lo) ++ ((wPLc G pa pp_0 pp_1 pp_2 pp_3 pp_4 pp_5 pp_6 pp_7 pp_8) ++ ((wPLc G qa qq_0 qq_1 qq_2 qq_3 qq_4 qq_5 qq_6 qq_7 qq_8))))) ++ ((wSYc G ya yy_0 yy_1 yy_2 yy_3 yy_4 yy_5 yy_6 yy_7 yy_8))) H from hP)
    have hD : va_D A ((wXO xa (ya 0) la (pa 0) (qa 0)) ++ ((wLO G la lo) ++ ((wSYc G ya yy_0 yy_1 yy_2 yy_3 yy_4 yy_5 yy_6 yy_7 yy_8) ++ ((wPLc G pa pp_0 pp_1 pp_2 pp_3 pp_4 pp_5 pp_6 pp_7 pp_8) ++ ((wPLc G qa qq_0 qq_1 qq_2 qq_3 qq_4 qq_5 qq_6 qq_7 qq_8)))))) := xf_D (xf_p_5_0134_2 (wXO xa (ya 0) la (pa 0) (qa 0)) (wLO G la lo) (wSYc G ya yy_0 yy_1 yy_2 yy_3 yy_4 yy_5 yy_6 yy_7 yy_8) (wPLc G pa pp_0 pp_1 pp_2 pp_3 pp_4 pp_5 pp_6 pp_7 pp_8) (wPLc G qa qq_0 qq_1 qq_2 qq_3 qq_4 qq_5 qq_6 qq_7 qq_8)).symm (show va_D A (((wXO xa (ya 0) la (pa 0) (qa 0)) ++ ((wLO G la lo) ++ ((wPLc G pa pp_0 pp_1 pp_2 pp_3 pp_4 pp_5 pp_6 pp_7 pp_8) ++ ((wPLc G qa qq_0 qq_1 qq_2 qq_3 qq_4 qq_5 qq_6 qq_7 qq_8))))) ++ ((wSYc G ya yy_0 yy_1 yy_2 yy_3 yy_4 yy_5 yy_6 yy_7 yy_8))) from hD)
    refine lv_iload_n hx hb dX2_bestNet_32 rfl (lv_at hl 1 rfl) ?_
    obtain ⟨o4, ho4, h⟩ := sp_b h
    have hP9 : va_P G.1 vwCl (((wXO xa (ya 0) la (pa 0) (qa 0)) ++ ((wLO G la lo) ++ ((wPLc G pa pp_0 pp_1 pp_2 pp_3 pp_4 pp_5 pp_6 pp_7 pp_8) ++ ((wPLc G qa qq_0 qq_1 qq_2 qq_3 qq_4 qq_5 qq_6 qq_7 qq_8))))) ++ ((wSYc G ya yy_0 yy_1 yy_2 yy_3 yy_4 yy_5 yy_6 yy_7 yy_8))) H := xf_P (xf_p_5_0134_2 (wXO xa (ya 0) la (pa 0) (qa 0)) (wLO G la lo) (wSYc G ya yy_0 yy_1 yy_2 yy_3 yy_4 yy_5 yy_6 yy_7 yy_8) (wPLc G pa pp_0 pp_1 pp_2 pp_3 pp_4 pp_5 pp_6 pp_7 pp_8) (wPLc G qa qq_0 qq_1 qq_2 qq_3 qq_4 qq_5 qq_6 qq_7 qq_8)) hP
    have hD9 : va_D A (((wXO xa (ya 0) la (pa 0) (qa 0)) ++ ((wLO G la lo) ++ ((wPLc G pa pp_0 pp_1 pp_2 pp_3 pp_4 pp_5 pp_6 pp_7 pp_8) ++ ((wPLc G qa qq_0 qq_1 qq_2 qq_3 qq_4 qq_5 qq_6 qq_7 qq_8))))) ++ ((wSYc G ya yy_0 yy_1 yy_2 yy_3 yy_4 yy_5 yy_6 yy_7 yy_8))) := xf_D (xf_p_5_0134_2 (wXO xa (ya 0) la (pa 0) (qa 0)) (wLO G la lo) (wSYc G ya yy_0 yy_1 yy_2 yy_3 yy_4 yy_5 yy_6 yy_7 yy_8) (wPLc G pa pp_0 pp_1 pp_2 pp_3 pp_4 pp_5 pp_6 pp_7 pp_8) (wPLc G qa qq_0 qq_1 qq_2 qq_3 qq_4 qq_5 qq_6 qq_7 qq_8)) hD
    refine xf_ci (va_runV (As := [.int o3, .int i1]) (rest := []) ⟨hx, hb, hml, hown, hts⟩ (c_X1_netOf l G ya (yy_0, yy_1, yy_2, yy_3, yy_4, yy_5, yy_6, yy_7, yy_8) o3 i1 o4 ho4 H.size) (cwV 2 hts gX2_bestNet_X1_netOf rfl rfl rfl (by decide +kernel) ⟨(Nat.le_of_ble_eq_true rfl), (Nat.le_of_ble_eq_true rfl)⟩) (xk_preV hK hNE (xf_pr hP9) (xf_dr hD9) (ci := 1) rfl rfl) rfl rfl hl.1 rfl (lv_room (Nat.le_of_ble_eq_true rfl)) dX2_bestNet_33 ⟨(Nat.le_of_ble_eq_true rfl), (Nat.le_of_ble_eq_true rfl)⟩) hP9 hD9 hS hA (fun H locs hP hD hS => ?_)
    have hP : va_P G.1 vwCl ((wXO xa (ya 0) la (pa 0) (qa 0)) ++ ((wLO G la lo) ++ ((wSYc G ya yy_0 yy_1 yy_2 yy_3 yy_4 yy_5 yy_6 yy_7 yy_8) ++ ((wPLc G pa pp_0 pp_1 pp_2 pp_3 pp_4 pp_5 pp_6 pp_7 pp_8) ++ ((wPLc G qa qq_0 qq_1 qq_2 qq_3 qq_4 qq_5 qq_6 qq_7 qq_8)))))) H := xf_P (xf_p_5_0134_2 (wXO xa (ya 0) la (pa 0) (qa 0)) (wLO G la lo) (wSYc G ya yy_0 yy_1 yy_2 yy_3 yy_4 yy_5 yy_6 yy_7 yy_8) (wPLc G pa pp_0 pp_1 pp_2 pp_3 pp_4 pp_5 pp_6 pp_7 pp_8) (wPLc G qa qq_0 qq_1 qq_2 qq_3 qq_4 qq_5 qq_6 qq_7 qq_8)).symm (show va_P G.1 vwCl (((wXO xa (ya 0) la (pa 0) (qa 0)) ++ ((wLO G la lo) ++ ((wPLc G pa pp_0 pp_1 pp_2 pp_3 pp_4 pp_5 pp_6 pp_7 pp_8) ++ ((wPLc G qa qq_0 qq_1 qq_2 qq_3 qq_4 qq_5 qq_6 qq_7 qq_8))))) ++ ((wSYc G ya yy_0 yy_1 yy_2 yy_3 yy_4 yy_5 yy_6 yy_7 yy_8))) H from hP)
    have hD : va_D A ((wXO xa (ya 0) la (pa 0) (qa 0)) ++ ((wLO G la lo) ++ ((wSYc G ya yy_0 yy_1 yy_2 yy_3 yy_4 yy_5 yy_6 yy_7 yy_8) ++ ((wPLc G pa pp_0 pp_1 pp_2 pp_3 pp_4 pp_5 pp_6 pp_7 pp_8) ++ ((wPLc G qa qq_0 qq_1 qq_2 qq_3 qq_4 qq_5 qq_6 qq_7 qq_8)))))) := xf_D (xf_p_5_0134_2 (wXO xa (ya 0) la (pa 0) (qa 0)) (wLO G la lo) (wSYc G ya yy_0 yy_1 yy_2 yy_3 yy_4 yy_5 yy_6 yy_7 yy_8) (wPLc G pa pp_0 pp_1 pp_2 pp_3 pp_4 pp_5 pp_6 pp_7 pp_8) (wPLc G qa qq_0 qq_1 qq_2 qq_3 qq_4 qq_5 qq_6 qq_7 qq_8)).symm (show va_D A (((wXO xa (ya 0) la (pa 0) (qa 0)) ++ ((wLO G la lo) ++ ((wPLc G pa pp_0 pp_1 pp_2 pp_3 pp_4 pp_5 pp_6 pp_7 pp_8) ++ ((wPLc G qa qq_0 qq_1 qq_2 qq_3 qq_4 qq_5 qq_6 qq_7 qq_8))))) ++ ((wSYc G ya yy_0 yy_1 yy_2 yy_3 yy_4 yy_5 yy_6 yy_7 yy_8))) from hD)
    obtain rfl := sp_s h
    exact xk_reI hx hb hr hlk hP hD hS rfl dX2_bestNet_36
  · have h := sp_t c2 h
    exact sp_n h
