def f_X2_free (lo : xF) (yy : xSY) (pp : xPL) (qq : xPL) (i1 : Int32) (i2 : Int32) : Option (Nat × Int32 × xF × xF × xPL × xPL) :=
  Option.bind (f_X2_isAim lo (yy.1, yy.2.1, yy.2.2.1, yy.2.2.2.1, yy.2.2.2.2.1, yy.2.2.2.2.2.1, yy.2.2.2.2.2.2.1, yy.2.2.2.2.2.2.2.1, yy.2.2.2.2.2.2.2.2) (pp.1, pp.2.1, pp.2.2.1, pp.2.2.2.1, pp.2.2.2.2.1, pp.2.2.2.2.2.1, pp.2.2.2.2.2.2.1, pp.2.2.2.2.2.2.2.1, pp.2.2.2.2.2.2.2.2) (qq.1, qq.2.1, qq.2.2.1, qq.2.2.2.1, qq.2.2.2.2.1, qq.2.2.2.2.2.1, qq.2.2.2.2.2.2.1, qq.2.2.2.2.2.2.2.1, qq.2.2.2.2.2.2.2.2) i1) fun (o1 : Int32) =>
  if o1 = 0 then
    some (3, (0 : Int32), yy.2.2.2.2.2.2.2.1, yy.2.2.2.2.2.2.2.2, (pp.1, pp.2.1, pp.2.2.1, pp.2.2.2.1, pp.2.2.2.2.1, pp.2.2.2.2.2.1, pp.2.2.2.2.2.2.1, pp.2.2.2.2.2.2.2.1, pp.2.2.2.2.2.2.2.2), (qq.1, qq.2.1, qq.2.2.1, qq.2.2.2.1, qq.2.2.2.2.1, qq.2.2.2.2.2.1, qq.2.2.2.2.2.2.1, qq.2.2.2.2.2.2.2.1, qq.2.2.2.2.2.2.2.2))
  else
    Option.bind (f_X2_isAim lo (yy.1, yy.2.1, yy.2.2.1, yy.2.2.2.1, yy.2.2.2.2.1, yy.2.2.2.2.2.1, yy.2.2.2.2.2.2.1, yy.2.2.2.2.2.2.2.1, yy.2.2.2.2.2.2.2.2) (pp.1, pp.2.1, pp.2.2.1, pp.2.2.2.1, pp.2.2.2.2.1, pp.2.2.2.2.2.1, pp.2.2.2.2.2.2.1, pp.2.2.2.2.2.2.2.1, pp.2.2.2.2.2.2.2.2) (qq.1, qq.2.1, qq.2.2.1, qq.2.2.2.1, qq.2.2.2.2.1, qq.2.2.2.2.2.1, qq.2.2.2.2.2.2.1, qq.2.2.2.2.2.2.2.1, qq.2.2.2.2.2.2.2.2) i2) fun (o3 : Int32) =>
    if o3 = 0 then
      some (3, (0 : Int32), yy.2.2.2.2.2.2.2.1, yy.2.2.2.2.2.2.2.2, (pp.1, pp.2.1, pp.2.2.1, pp.2.2.2.1, pp.2.2.2.2.1, pp.2.2.2.2.2.1, pp.2.2.2.2.2.2.1, pp.2.2.2.2.2.2.2.1, pp.2.2.2.2.2.2.2.2), (qq.1, qq.2.1, qq.2.2.1, qq.2.2.2.1, qq.2.2.2.2.1, qq.2.2.2.2.2.1, qq.2.2.2.2.2.2.1, qq.2.2.2.2.2.2.2.1, qq.2.2.2.2.2.2.2.2))
    else
      if i1 < 0 ∨ 12 ≤ i1.toNatClampNeg then none else
      Option.bind (f_X2_has (yy.2.2.2.2.2.2.2.1 i1.toNatClampNeg) i2) fun (o6 : Int32) =>
      if o6 = 0 then
        some (4, (0 : Int32), yy.2.2.2.2.2.2.2.1, yy.2.2.2.2.2.2.2.2, (pp.1, pp.2.1, pp.2.2.1, pp.2.2.2.1, pp.2.2.2.2.1, pp.2.2.2.2.2.1, pp.2.2.2.2.2.2.1, pp.2.2.2.2.2.2.2.1, pp.2.2.2.2.2.2.2.2), (qq.1, qq.2.1, qq.2.2.1, qq.2.2.2.1, qq.2.2.2.2.1, qq.2.2.2.2.2.1, qq.2.2.2.2.2.2.1, qq.2.2.2.2.2.2.2.1, qq.2.2.2.2.2.2.2.2))
      else
        Option.bind (f_X1_setNeeds (yy.1, yy.2.1, yy.2.2.1, yy.2.2.2.1, yy.2.2.2.2.1, yy.2.2.2.2.2.1, yy.2.2.2.2.2.2.1, yy.2.2.2.2.2.2.2.1, yy.2.2.2.2.2.2.2.2) i1 ((yy.2.2.2.2.2.2.2.1 i1.toNatClampNeg) &&& (((1 : Int32) <<< (i2 &&& 31)) ^^^ ((-1) : Int32)))) fun (o8 : xF × xF) =>
        Option.bind (f_X2_planAnew lo (yy.1, yy.2.1, yy.2.2.1, yy.2.2.2.1, yy.2.2.2.2.1, yy.2.2.2.2.2.1, yy.2.2.2.2.2.2.1, o8.1, o8.2) (pp.1, pp.2.1, pp.2.2.1, pp.2.2.2.1, pp.2.2.2.2.1, pp.2.2.2.2.2.1, pp.2.2.2.2.2.2.1, pp.2.2.2.2.2.2.2.1, pp.2.2.2.2.2.2.2.2) (qq.1, qq.2.1, qq.2.2.1, qq.2.2.2.1, qq.2.2.2.2.1, qq.2.2.2.2.2.1, qq.2.2.2.2.2.2.1, qq.2.2.2.2.2.2.2.1, qq.2.2.2.2.2.2.2.2)) fun (o9 : xPL × xPL) =>
        Option.bind (f_J6_bitCount_0f7a4 (o8.1 i1.toNatClampNeg)) fun (o10 : Int32) =>
        some (0, o10, o8.1, o8.2, o9.1, o9.2)
theorem f_X2_free_e (lo : xF) (yy_0 : Int32) (yy_1 : xF) (yy_2 : xF) (yy_3 : xF) (yy_4 : xF) (yy_5 : xF) (yy_6 : xF) (yy_7 : xF) (yy_8 : xF) (pp_0 : xF) (pp_1 : xF) (pp_2 : xF) (pp_3 : xF) (pp_4 : xF) (pp_5 : xF) (pp_6 : Int32) (pp_7 : Int32) (pp_8 : Int32) (qq_0 : xF) (qq_1 : xF) (qq_2 : xF) (qq_3 : xF) (qq_4 : xF) (qq_5 : xF) (qq_6 : Int32) (qq_7 : Int32) (qq_8 : Int32) (i1 : Int32) (i2 : Int32) : f_X2_free lo (yy_0, yy_1, yy_2, yy_3, yy_4, yy_5, yy_6, yy_7, yy_8) (pp_0, pp_1, pp_2, pp_3, pp_4, pp_5, pp_6, pp_7, pp_8) (qq_0, qq_1, qq_2, qq_3, qq_4, qq_5, qq_6, qq_7, qq_8) i1 i2 =
  Option.bind (f_X2_isAim lo (yy_0, yy_1, yy_2, yy_3, yy_4, yy_5, yy_6, yy_7, yy_8) (pp_0, pp_1, pp_2, pp_3, pp_4, pp_5, pp_6, pp_7, pp_8) (qq_0, qq_1, qq_2, qq_3, qq_4, qq_5, qq_6, qq_7, qq_8) i1) fun (o1 : Int32) =>
  if o1 = 0 then
    some (3, (0 : Int32), yy_7, yy_8, (pp_0, pp_1, pp_2, pp_3, pp_4, pp_5, pp_6, pp_7, pp_8), (qq_0, qq_1, qq_2, qq_3, qq_4, qq_5, qq_6, qq_7, qq_8))
  else
    Option.bind (f_X2_isAim lo (yy_0, yy_1, yy_2, yy_3, yy_4, yy_5, yy_6, yy_7, yy_8) (pp_0, pp_1, pp_2, pp_3, pp_4, pp_5, pp_6, pp_7, pp_8) (qq_0, qq_1, qq_2, qq_3, qq_4, qq_5, qq_6, qq_7, qq_8) i2) fun (o3 : Int32) =>
    if o3 = 0 then
      some (3, (0 : Int32), yy_7, yy_8, (pp_0, pp_1, pp_2, pp_3, pp_4, pp_5, pp_6, pp_7, pp_8), (qq_0, qq_1, qq_2, qq_3, qq_4, qq_5, qq_6, qq_7, qq_8))
    else
      if i1 < 0 ∨ 12 ≤ i1.toNatClampNeg then none else
      Option.bind (f_X2_has (yy_7 i1.toNatClampNeg) i2) fun (o6 : Int32) =>
      if o6 = 0 then
        some (4, (0 : Int32), yy_7, yy_8, (pp_0, pp_1, pp_2, pp_3, pp_4, pp_5, pp_6, pp_7, pp_8), (qq_0, qq_1, qq_2, qq_3, qq_4, qq_5, qq_6, qq_7, qq_8))
      else
        Option.bind (f_X1_setNeeds (yy_0, yy_1, yy_2, yy_3, yy_4, yy_5, yy_6, yy_7, yy_8) i1 ((yy_7 i1.toNatClampNeg) &&& (((1 : Int32) <<< (i2 &&& 31)) ^^^ ((-1) : Int32)))) fun (o8 : xF × xF) =>
        Option.bind (f_X2_planAnew lo (yy_0, yy_1, yy_2, yy_3, yy_4, yy_5, yy_6, o8.1, o8.2) (pp_0, pp_1, pp_2, pp_3, pp_4, pp_5, pp_6, pp_7, pp_8) (qq_0, qq_1, qq_2, qq_3, qq_4, qq_5, qq_6, qq_7, qq_8)) fun (o9 : xPL × xPL) =>
        Option.bind (f_J6_bitCount_0f7a4 (o8.1 i1.toNatClampNeg)) fun (o10 : Int32) =>
        some (0, o10, o8.1, o8.2, o9.1, o9.2) := rfl
set_option maxHeartbeats 4000000 in
set_option maxRecDepth 100000 in
theorem c_X2_free (l : Launch) (hl9 : l.stackTraces = false) (G : xG) (xa : Nat) (la : Nat) (ya : (Nat → Nat)) (pa : (Nat → Nat)) (qa : (Nat → Nat)) (lo : xF) (yy : xSY) (pp : xPL) (qq : xPL) (i1 : Int32) (i2 : Int32) (o : Nat × Int32 × xF × xF × xPL × xPL) (h : f_X2_free lo yy pp qq i1 i2 = some o) : xk_CX l yX2_free wsX2_free ({ frames := 6, cells := 1, slots := 6, locals := 139 } : Room) [.ref xa, .int i1, .int i2] G (wXO xa (ya 0) la (pa 0) (qa 0) ++ (wLO G la lo ++ (wSYc G ya yy.1 yy.2.1 yy.2.2.1 yy.2.2.2.1 yy.2.2.2.2.1 yy.2.2.2.2.2.1 yy.2.2.2.2.2.2.1 yy.2.2.2.2.2.2.2.1 yy.2.2.2.2.2.2.2.2 ++ (wPLc G pa pp.1 pp.2.1 pp.2.2.1 pp.2.2.2.1 pp.2.2.2.2.1 pp.2.2.2.2.2.1 pp.2.2.2.2.2.2.1 pp.2.2.2.2.2.2.2.1 pp.2.2.2.2.2.2.2.2 ++ (wPLc G qa qq.1 qq.2.1 qq.2.2.1 qq.2.2.2.1 qq.2.2.2.2.1 qq.2.2.2.2.2.1 qq.2.2.2.2.2.2.1 qq.2.2.2.2.2.2.2.1 qq.2.2.2.2.2.2.2.2))))) (wXO xa (ya 0) la (qa 0) (pa 0) ++ (wLO G la lo ++ (wSYc G ya yy.1 yy.2.1 yy.2.2.1 yy.2.2.2.1 yy.2.2.2.2.1 yy.2.2.2.2.2.1 yy.2.2.2.2.2.2.1 o.2.2.1 o.2.2.2.1 ++ (wPLc G qa o.2.2.2.2.1.1 o.2.2.2.2.1.2.1 o.2.2.2.2.1.2.2.1 o.2.2.2.2.1.2.2.2.1 o.2.2.2.2.1.2.2.2.2.1 o.2.2.2.2.1.2.2.2.2.2.1 o.2.2.2.2.1.2.2.2.2.2.2.1 o.2.2.2.2.1.2.2.2.2.2.2.2.1 o.2.2.2.2.1.2.2.2.2.2.2.2.2 ++ (wPLc G pa o.2.2.2.2.2.1 o.2.2.2.2.2.2.1 o.2.2.2.2.2.2.2.1 o.2.2.2.2.2.2.2.2.1 o.2.2.2.2.2.2.2.2.2.1 o.2.2.2.2.2.2.2.2.2.2.1 o.2.2.2.2.2.2.2.2.2.2.2.1 o.2.2.2.2.2.2.2.2.2.2.2.2.1 o.2.2.2.2.2.2.2.2.2.2.2.2.2))))) o.1 o.2.1 := by
  obtain ⟨yy_0, yy_1, yy_2, yy_3, yy_4, yy_5, yy_6, yy_7, yy_8⟩ := yy
  obtain ⟨pp_0, pp_1, pp_2, pp_3, pp_4, pp_5, pp_6, pp_7, pp_8⟩ := pp
  obtain ⟨qq_0, qq_1, qq_2, qq_3, qq_4, qq_5, qq_6, qq_7, qq_8⟩ := qq
  refine xk_CX.of (cc := cX2_free) (maxL := 3) (ret := (some .int)) (by decide) rfl (Nat.le_of_ble_eq_true rfl) ?_
  intro pr9 en9 s mm9 bl9 meth9 cd9 A ls H locs hx hb hr hml hts hown hlk hA hP hK hD hNE hS hl hXB hSR hZX hxt
  have hown : s.vm.findClass RX2 = some mm9.cls := hown
  have hl : lv_has ls 3 [(0, .ref xa), (1, .int i1), (2, .int i2)] := hl
  have hinX1 : ∀ w ∈ u_ws RX1 TX1 9, w ∈ wsX2_free := by decide +kernel
  have hinX2 : ∀ w ∈ u_ws RX2 TX2 4, w ∈ wsX2_free := by decide +kernel
  have hwIOB : ∀ w ∈ (vx_atS RX2 71 "java/lang/IndexOutOfBoundsException" xk_NM).filter goodWord, w.before _ s = true := fun w hw => hts w (List.mem_cons_of_mem _ (List.mem_append_left _ (List.mem_append_right _ hw)))
  have hwNSE : ∀ w ∈ xk_nsS.filter goodWord, w.before _ s = true := fun w hw => hts w (List.mem_cons_of_mem _ (List.mem_append_right _ hw))
  have hP : va_P G.1 vwCl (wXO xa (ya 0) la (pa 0) (qa 0) ++ (wLO G la lo ++ (wSYc G ya yy_0 yy_1 yy_2 yy_3 yy_4 yy_5 yy_6 yy_7 yy_8 ++ (wPLc G pa pp_0 pp_1 pp_2 pp_3 pp_4 pp_5 pp_6 pp_7 pp_8 ++ (wPLc G qa qq_0 qq_1 qq_2 qq_3 qq_4 qq_5 qq_6 qq_7 qq_8))))) H := hP
  have hD : va_D A (wXO xa (ya 0) la (pa 0) (qa 0) ++ (wLO G la lo ++ (wSYc G ya yy_0 yy_1 yy_2 yy_3 yy_4 yy_5 yy_6 yy_7 yy_8 ++ (wPLc G pa pp_0 pp_1 pp_2 pp_3 pp_4 pp_5 pp_6 pp_7 pp_8 ++ (wPLc G qa qq_0 qq_1 qq_2 qq_3 qq_4 qq_5 qq_6 qq_7 qq_8))))) := hD
  have h := (f_X2_free_e lo yy_0 yy_1 yy_2 yy_3 yy_4 yy_5 yy_6 yy_7 yy_8 pp_0 pp_1 pp_2 pp_3 pp_4 pp_5 pp_6 pp_7 pp_8 qq_0 qq_1 qq_2 qq_3 qq_4 qq_5 qq_6 qq_7 qq_8 i1 i2).symm.trans h
  refine lv_aload_n hx hb dX2_free_0 rfl (lv_at hl 0 rfl) ?_
  refine lv_iload_n hx hb dX2_free_1 rfl (lv_at hl 1 rfl) ?_
  obtain ⟨o1, ho1, h⟩ := sp_b h
  refine xk_ci (va_runV (As := [.int i1]) (rest := []) ⟨hx, hb, hml, hown, hts⟩ (c_X2_isAim l G xa la ya pa qa lo (yy_0, yy_1, yy_2, yy_3, yy_4, yy_5, yy_6, yy_7, yy_8) (pp_0, pp_1, pp_2, pp_3, pp_4, pp_5, pp_6, pp_7, pp_8) (qq_0, qq_1, qq_2, qq_3, qq_4, qq_5, qq_6, qq_7, qq_8) i1 o1 ho1 H.size) (cwV 1 hts gX2_free_X2_isAim rfl rfl rfl (by decide +kernel) ⟨Nat.le_of_ble_eq_true rfl, Nat.le_of_ble_eq_true rfl⟩) (xk_preV hK hNE (hP.sub (ws' := (wXO xa (ya 0) la (pa 0) (qa 0) ++ (wLO G la lo ++ (wSYc G ya yy_0 yy_1 yy_2 yy_3 yy_4 yy_5 yy_6 yy_7 yy_8 ++ (wPLc G pa pp_0 pp_1 pp_2 pp_3 pp_4 pp_5 pp_6 pp_7 pp_8 ++ (wPLc G qa qq_0 qq_1 qq_2 qq_3 qq_4 qq_5 qq_6 qq_7 qq_8)))))) [0, 1, 2, 3, 4, 5, 6, 7, 8, 9, 10, 11, 12, 13, 14, 15, 16, 17, 18, 19, 20, 21, 22, 23, 24] rfl) (hD.sub (ws' := (wXO xa (ya 0) la (pa 0) (qa 0) ++ (wLO G la lo ++ (wSYc G ya yy_0 yy_1 yy_2 yy_3 yy_4 yy_5 yy_6 yy_7 yy_8 ++ (wPLc G pa pp_0 pp_1 pp_2 pp_3 pp_4 pp_5 pp_6 pp_7 pp_8 ++ (wPLc G qa qq_0 qq_1 qq_2 qq_3 qq_4 qq_5 qq_6 qq_7 qq_8)))))) [0, 1, 2, 3, 4, 5, 6, 7, 8, 9, 10, 11, 12, 13, 14, 15, 16, 17, 18, 19, 20, 21, 22, 23, 24] (by decide) rfl) (ci := 2) rfl rfl) rfl rfl hl.1 rfl (lv_room (Nat.le_of_ble_eq_true rfl)) dX2_free_2 ⟨Nat.le_of_ble_eq_true rfl, Nat.le_of_ble_eq_true rfl⟩) hP hD hS hA [0, 1, 2, 3, 4, 5, 6, 7, 8, 9, 10, 11, 12, 13, 14, 15, 16, 17, 18, 19, 20, 21, 22, 23, 24] [] [0, 1, 2, 3, 4, 5, 6, 7, 8, 9, 10, 11, 12, 13, 14, 15, 16, 17, 18, 19, 20, 21, 22, 23, 24] rfl rfl (by decide) (by decide) rfl (by decide) (fun H locs hP hD hS => ?_)
  have hP : va_P G.1 vwCl (wXO xa (ya 0) la (pa 0) (qa 0) ++ (wLO G la lo ++ (wSYc G ya yy_0 yy_1 yy_2 yy_3 yy_4 yy_5 yy_6 yy_7 yy_8 ++ (wPLc G pa pp_0 pp_1 pp_2 pp_3 pp_4 pp_5 pp_6 pp_7 pp_8 ++ (wPLc G qa qq_0 qq_1 qq_2 qq_3 qq_4 qq_5 qq_6 qq_7 qq_8))))) H := hP
  have hD : va_D A (wXO xa (ya 0) la (pa 0) (qa 0) ++ (wLO G la lo ++ (wSYc G ya yy_0 yy_1 yy_2 yy_3 yy_4 yy_5 yy_6 yy_7 yy_8 ++ (wPLc G pa pp_0 pp_1 pp_2 pp_3 pp_4 pp_5 pp_6 pp_7 pp_8 ++ (wPLc G qa qq_0 qq_1 qq_2 qq_3 qq_4 qq_5 qq_6 qq_7 qq_8))))) := hD
  refine lv_if_eq (tgt := 16) hx hb dX2_free_5 (by decide) (fun c2 => ?_) (fun c2 => ?_)
  · have h := sp_t c2 h
    obtain rfl := sp_s h
    exact xk_throw (text := "there is no such aim") hx hb hl9 hown xk_ft_IOB (hts (.classLink RX2 67 "java/lang/IndexOutOfBoundsException") (by decide +kernel)) (hts (.initialized "java/lang/IndexOutOfBoundsException") (by decide +kernel)) (hSR.2.2.2.2.2.1) hwIOB hXB (hXB.2.2.2.2.2.1) xk_ng_IOB xk_gd_IOB hZX hP hD hS (hl.1.trans hml.symm) dX2_free_16 dX2_free_19 dX2_free_20 dX2_free_22 dX2_free_25 hxt (by decide) (by decide) (Nat.le_refl _) (Nat.le_refl _) hlk (show ¬ (3 : Nat) = 0 by decide) rfl (Nat.le_refl _) (Nat.le_refl _)
  · have h := sp_f c2 h
    refine lv_aload_n hx hb dX2_free_8 rfl (lv_at hl 0 rfl) ?_
    refine lv_iload_n hx hb dX2_free_9 rfl (lv_at hl 2 rfl) ?_
    obtain ⟨o3, ho3, h⟩ := sp_b h
    refine xk_ci (va_runV (As := [.int i2]) (rest := []) ⟨hx, hb, hml, hown, hts⟩ (c_X2_isAim l G xa la ya pa qa lo (yy_0, yy_1, yy_2, yy_3, yy_4, yy_5, yy_6, yy_7, yy_8) (pp_0, pp_1, pp_2, pp_3, pp_4, pp_5, pp_6, pp_7, pp_8) (qq_0, qq_1, qq_2, qq_3, qq_4, qq_5, qq_6, qq_7, qq_8) i2 o3 ho3 H.size) (cwV 1 hts gX2_free_X2_isAim rfl rfl rfl (by decide +kernel) ⟨Nat.le_of_ble_eq_true rfl, Nat.le_of_ble_eq_true rfl⟩) (xk_preV hK hNE (hP.sub (ws' := (wXO xa (ya 0) la (pa 0) (qa 0) ++ (wLO G la lo ++ (wSYc G ya yy_0 yy_1 yy_2 yy_3 yy_4 yy_5 yy_6 yy_7 yy_8 ++ (wPLc G pa pp_0 pp_1 pp_2 pp_3 pp_4 pp_5 pp_6 pp_7 pp_8 ++ (wPLc G qa qq_0 qq_1 qq_2 qq_3 qq_4 qq_5 qq_6 qq_7 qq_8)))))) [0, 1, 2, 3, 4, 5, 6, 7, 8, 9, 10, 11, 12, 13, 14, 15, 16, 17, 18, 19, 20, 21, 22, 23, 24] rfl) (hD.sub (ws' := (wXO xa (ya 0) la (pa 0) (qa 0) ++ (wLO G la lo ++ (wSYc G ya yy_0 yy_1 yy_2 yy_3 yy_4 yy_5 yy_6 yy_7 yy_8 ++ (wPLc G pa pp_0 pp_1 pp_2 pp_3 pp_4 pp_5 pp_6 pp_7 pp_8 ++ (wPLc G qa qq_0 qq_1 qq_2 qq_3 qq_4 qq_5 qq_6 qq_7 qq_8)))))) [0, 1, 2, 3, 4, 5, 6, 7, 8, 9, 10, 11, 12, 13, 14, 15, 16, 17, 18, 19, 20, 21, 22, 23, 24] (by decide) rfl) (ci := 2) rfl rfl) rfl rfl hl.1 rfl (lv_room (Nat.le_of_ble_eq_true rfl)) dX2_free_10 ⟨Nat.le_of_ble_eq_true rfl, Nat.le_of_ble_eq_true rfl⟩) hP hD hS hA [0, 1, 2, 3, 4, 5, 6, 7, 8, 9, 10, 11, 12, 13, 14, 15, 16, 17, 18, 19, 20, 21, 22, 23, 24] [] [0, 1, 2, 3, 4, 5, 6, 7, 8, 9, 10, 11, 12, 13, 14, 15, 16, 17, 18, 19, 20, 21, 22, 23, 24] rfl rfl (by decide) (by decide) rfl (by decide) (fun H locs hP hD hS => ?_)
    have hP : va_P G.1 vwCl (wXO xa (ya 0) la (pa 0) (qa 0) ++ (wLO G la lo ++ (wSYc G ya yy_0 yy_1 yy_2 yy_3 yy_4 yy_5 yy_6 yy_7 yy_8 ++ (wPLc G pa pp_0 pp_1 pp_2 pp_3 pp_4 pp_5 pp_6 pp_7 pp_8 ++ (wPLc G qa qq_0 qq_1 qq_2 qq_3 qq_4 qq_5 qq_6 qq_7 qq_8))))) H := hP
    have hD : va_D A (wXO xa (ya 0) la (pa 0) (qa 0) ++ (wLO G la lo ++ (wSYc G ya yy_0 yy_1 yy_2 yy_3 yy_4 yy_5 yy_6 yy_7 yy_8 ++ (wPLc G pa pp_0 pp_1 pp_2 pp_3 pp_4 pp_5 pp_6 pp_7 pp_8 ++ (wPLc G qa qq_0 qq_1 qq_2 qq_3 qq_4 qq_5 qq_6 qq_7 qq_8))))) := hD
    refine lv_if_ne (tgt := 26) hx hb dX2_free_13 (by decide) (fun c4 => ?_) (fun c4 => ?_)
    · have h := sp_f c4 h
      refine lv_aload_n hx hb dX2_free_26 rfl (lv_at hl 0 rfl) ?_
      refine va_get (D := G.1) (ci := 2) (v := .ref (ya 0)) (C := RX2) (T := TX2) (N := 4) hx hb hts hinX2 hown hK hP 0 rfl rfl 0 (by decide) (hts (.fieldLink RX2 10 "LessonWeave" "syllabus" "LLessonWeave$Syllabus;") (by decide +kernel)) (fun _ h9 => h9) rfl dX2_free_27 ?_
      refine va_getN (D := G.1) (ci := 1) (v := .ref (ya 7)) (C := RX1) (T := TX1) (N := 9) hx hb hts hinX1 hown hK hP 2 rfl rfl 7 (by decide) (va_Nw.use rfl hNE.2.2.2.2.2.2.2.2.2.1) (fun _ h9 => h9) rfl dX2_free_30 ?_
      refine lv_iload_n hx hb dX2_free_33 rfl (lv_at hl 1 rfl) ?_
      obtain ⟨hin5, h⟩ := sp_g h
      refine va_iald hx hb hK hP 9 0 rfl rfl hin5 dX2_free_34 ?_
      refine lv_iload_n hx hb dX2_free_35 rfl (lv_at hl 2 rfl) ?_
      obtain ⟨o6, ho6, h⟩ := sp_b h
      refine xk_ci (va_runS (As := [.int (yy_7 i1.toNatClampNeg), .int i2]) (rest := []) ⟨hx, hb, hml, hown, hts⟩ (c_X2_has l G (yy_7 i1.toNatClampNeg) i2 o6 ho6 H.size) (va_cwS 2 hts gX2_free_X2_has rfl rfl rfl (by decide +kernel) ⟨Nat.le_of_ble_eq_true rfl, Nat.le_of_ble_eq_true rfl⟩) (xk_preS hK hNE (hP.sub (ws' := []) [] rfl) (hD.sub (ws' := []) [] (by decide) rfl)) rfl rfl hl.1 rfl (lv_room (Nat.le_of_ble_eq_true rfl)) dX2_free_36 ⟨Nat.le_of_ble_eq_true rfl, Nat.le_of_ble_eq_true rfl⟩) hP hD hS hA [] [0, 1, 2, 3, 4, 5, 6, 7, 8, 9, 10, 11, 12, 13, 14, 15, 16, 17, 18, 19, 20, 21, 22, 23, 24] [0, 1, 2, 3, 4, 5, 6, 7, 8, 9, 10, 11, 12, 13, 14, 15, 16, 17, 18, 19, 20, 21, 22, 23, 24] rfl rfl (by decide) (by decide) rfl (by decide) (fun H locs hP hD hS => ?_)
      have hP : va_P G.1 vwCl (wXO xa (ya 0) la (pa 0) (qa 0) ++ (wLO G la lo ++ (wSYc G ya yy_0 yy_1 yy_2 yy_3 yy_4 yy_5 yy_6 yy_7 yy_8 ++ (wPLc G pa pp_0 pp_1 pp_2 pp_3 pp_4 pp_5 pp_6 pp_7 pp_8 ++ (wPLc G qa qq_0 qq_1 qq_2 qq_3 qq_4 qq_5 qq_6 qq_7 qq_8))))) H := hP
      have hD : va_D A (wXO xa (ya 0) la (pa 0) (qa 0) ++ (wLO G la lo ++ (wSYc G ya yy_0 yy_1 yy_2 yy_3 yy_4 yy_5 yy_6 yy_7 yy_8 ++ (wPLc G pa pp_0 pp_1 pp_2 pp_3 pp_4 pp_5 pp_6 pp_7 pp_8 ++ (wPLc G qa qq_0 qq_1 qq_2 qq_3 qq_4 qq_5 qq_6 qq_7 qq_8))))) := hD
      refine lv_if_ne (tgt := 52) hx hb dX2_free_39 (by decide) (fun c7 => ?_) (fun c7 => ?_)
      · have h := sp_f c7 h
        refine lv_aload_n hx hb dX2_free_52 rfl (lv_at hl 0 rfl) ?_
        refine va_get (D := G.1) (ci := 2) (v := .ref (ya 0)) (C := RX2) (T := TX2) (N := 4) hx hb hts hinX2 hown hK hP 0 rfl rfl 0 (by decide) (hts (.fieldLink RX2 10 "LessonWeave" "syllabus" "LLessonWeave$Syllabus;") (by decide +kernel)) (fun _ h9 => h9) rfl dX2_free_53 ?_
        refine lv_iload_n hx hb dX2_free_56 rfl (lv_at hl 1 rfl) ?_
        refine lv_aload_n hx hb dX2_free_57 rfl (lv_at hl 0 rfl) ?_
        refine va_get (D := G.1) (ci := 2) (v := .ref (ya 0)) (C := RX2) (T := TX2) (N := 4) hx hb hts hinX2 hown hK hP 0 rfl rfl 0 (by decide) (hts (.fieldLink RX2 10 "LessonWeave" "syllabus" "LLessonWeave$Syllabus;") (by decide +kernel)) (fun _ h9 => h9) rfl dX2_free_58 ?_
        refine va_getN (D := G.1) (ci := 1) (v := .ref (ya 7)) (C := RX1) (T := TX1) (N := 9) hx hb hts hinX1 hown hK hP 2 rfl rfl 7 (by decide) (va_Nw.use rfl hNE.2.2.2.2.2.2.2.2.2.1) (fun _ h9 => h9) rfl dX2_free_61 ?_
        refine lv_iload_n hx hb dX2_free_64 rfl (lv_at hl 1 rfl) ?_
        refine va_iald hx hb hK hP 9 0 rfl rfl hin5 dX2_free_65 ?_
        refine lv_iconst (v := (1 : Int32)) hx hb dX2_free_66 (by decide) ?_
        refine lv_iload_n hx hb dX2_free_67 rfl (lv_at hl 2 rfl) ?_
        refine lv_ishl hx hb dX2_free_68 ?_
        refine lv_iconst (v := ((-1) : Int32)) hx hb dX2_free_69 (by decide) ?_
        refine lv_ixor hx hb dX2_free_70 ?_
        refine lv_iand hx hb dX2_free_71 ?_
        obtain ⟨o8, ho8, h⟩ := sp_b h
        refine xk_cv (va_runV (As := [.int i1, .int ((yy_7 i1.toNatClampNeg) &&& (((1 : Int32) <<< (i2 &&& 31)) ^^^ ((-1) : Int32)))]) (rest := []) ⟨hx, hb, hml, hown, hts⟩ (c_X1_setNeeds l G ya (yy_0, yy_1, yy_2, yy_3, yy_4, yy_5, yy_6, yy_7, yy_8) i1 ((yy_7 i1.toNatClampNeg) &&& (((1 : Int32) <<< (i2 &&& 31)) ^^^ ((-1) : Int32))) o8 ho8 H.size) (cwV 2 hts gX2_free_X1_setNeeds rfl rfl rfl (by decide +kernel) ⟨Nat.le_of_ble_eq_true rfl, Nat.le_of_ble_eq_true rfl⟩) (xk_preV hK hNE (hP.sub (ws' := (wSYc G ya yy_0 yy_1 yy_2 yy_3 yy_4 yy_5 yy_6 yy_7 yy_8)) [2, 3, 4, 5, 6, 7, 8, 9, 10] rfl) (hD.sub (ws' := (wSYc G ya yy_0 yy_1 yy_2 yy_3 yy_4 yy_5 yy_6 yy_7 yy_8)) [2, 3, 4, 5, 6, 7, 8, 9, 10] (by decide) rfl) (ci := 1) rfl rfl) rfl rfl hl.1 rfl (lv_room (Nat.le_of_ble_eq_true rfl)) dX2_free_72 ⟨Nat.le_of_ble_eq_true rfl, Nat.le_of_ble_eq_true rfl⟩) hP hD hS hA [2, 3, 4, 5, 6, 7, 8, 9, 10] [0, 1, 11, 12, 13, 14, 15, 16, 17, 18, 19, 20, 21, 22, 23, 24] [0, 1, 16, 17, 18, 19, 20, 21, 22, 23, 24, 2, 3, 4, 5, 6, 7, 8, 9, 10, 11, 12, 13, 14, 15] rfl rfl (by decide) (by decide) rfl (by decide) (fun H locs hP hD hS => ?_)
        have hP : va_P G.1 vwCl (wXO xa (ya 0) la (pa 0) (qa 0) ++ (wLO G la lo ++ (wSYc G ya yy_0 yy_1 yy_2 yy_3 yy_4 yy_5 yy_6 o8.1 o8.2 ++ (wPLc G pa pp_0 pp_1 pp_2 pp_3 pp_4 pp_5 pp_6 pp_7 pp_8 ++ (wPLc G qa qq_0 qq_1 qq_2 qq_3 qq_4 qq_5 qq_6 qq_7 qq_8))))) H := hP
        have hD : va_D A (wXO xa (ya 0) la (pa 0) (qa 0) ++ (wLO G la lo ++ (wSYc G ya yy_0 yy_1 yy_2 yy_3 yy_4 yy_5 yy_6 o8.1 o8.2 ++ (wPLc G pa pp_0 pp_1 pp_2 pp_3 pp_4 pp_5 pp_6 pp_7 pp_8 ++ (wPLc G qa qq_0 qq_1 qq_2 qq_3 qq_4 qq_5 qq_6 qq_7 qq_8))))) := hD
        refine lv_aload_n hx hb dX2_free_75 rfl (lv_at hl 0 rfl) ?_
        obtain ⟨o9, ho9, h⟩ := sp_b h
        refine xk_cv (va_runV (As := []) (rest := []) ⟨hx, hb, hml, hown, hts⟩ (c_X2_planAnew l G xa la ya pa qa lo (yy_0, yy_1, yy_2, yy_3, yy_4, yy_5, yy_6, o8.1, o8.2) (pp_0, pp_1, pp_2, pp_3, pp_4, pp_5, pp_6, pp_7, pp_8) (qq_0, qq_1, qq_2, qq_3, qq_4, qq_5, qq_6, qq_7, qq_8) o9 ho9 H.size) (cwV 0 hts gX2_free_X2_planAnew rfl rfl rfl (by decide +kernel) ⟨Nat.le_of_ble_eq_true rfl, Nat.le_of_ble_eq_true rfl⟩) (xk_preV hK hNE (hP.sub (ws' := (wXO xa (ya 0) la (pa 0) (qa 0) ++ (wLO G la lo ++ (wSYc G ya yy_0 yy_1 yy_2 yy_3 yy_4 yy_5 yy_6 o8.1 o8.2 ++ (wPLc G pa pp_0 pp_1 pp_2 pp_3 pp_4 pp_5 pp_6 pp_7 pp_8 ++ (wPLc G qa qq_0 qq_1 qq_2 qq_3 qq_4 qq_5 qq_6 qq_7 qq_8)))))) [0, 1, 2, 3, 4, 5, 6, 7, 8, 9, 10, 11, 12, 13, 14, 15, 16, 17, 18, 19, 20, 21, 22, 23, 24] rfl) (hD.sub (ws' := (wXO xa (ya 0) la (pa 0) (qa 0) ++ (wLO G la lo ++ (wSYc G ya yy_0 yy_1 yy_2 yy_3 yy_4 yy_5 yy_6 o8.1 o8.2 ++ (wPLc G pa pp_0 pp_1 pp_2 pp_3 pp_4 pp_5 pp_6 pp_7 pp_8 ++ (wPLc G qa qq_0 qq_1 qq_2 qq_3 qq_4 qq_5 qq_6 qq_7 qq_8)))))) [0, 1, 2, 3, 4, 5, 6, 7, 8, 9, 10, 11, 12, 13, 14, 15, 16, 17, 18, 19, 20, 21, 22, 23, 24] (by decide) rfl) (ci := 2) rfl rfl) rfl rfl hl.1 rfl (lv_room (Nat.le_of_ble_eq_true rfl)) dX2_free_76 ⟨Nat.le_of_ble_eq_true rfl, Nat.le_of_ble_eq_true rfl⟩) hP hD hS hA [0, 1, 2, 3, 4, 5, 6, 7, 8, 9, 10, 11, 12, 13, 14, 15, 16, 17, 18, 19, 20, 21, 22, 23, 24] [] [0, 1, 2, 3, 4, 5, 6, 7, 8, 9, 10, 18, 19, 20, 21, 22, 23, 24, 11, 12, 13, 14, 15, 16, 17] rfl rfl (by decide) (by decide) rfl (by decide) (fun H locs hP hD hS => ?_)
        have hP : va_P G.1 vwCl (wXO xa (ya 0) la (qa 0) (pa 0) ++ (wLO G la lo ++ (wSYc G ya yy_0 yy_1 yy_2 yy_3 yy_4 yy_5 yy_6 o8.1 o8.2 ++ (wPLc G pa o9.2.1 o9.2.2.1 o9.2.2.2.1 o9.2.2.2.2.1 o9.2.2.2.2.2.1 o9.2.2.2.2.2.2.1 o9.2.2.2.2.2.2.2.1 o9.2.2.2.2.2.2.2.2.1 o9.2.2.2.2.2.2.2.2.2 ++ (wPLc G qa o9.1.1 o9.1.2.1 o9.1.2.2.1 o9.1.2.2.2.1 o9.1.2.2.2.2.1 o9.1.2.2.2.2.2.1 o9.1.2.2.2.2.2.2.1 o9.1.2.2.2.2.2.2.2.1 o9.1.2.2.2.2.2.2.2.2))))) H := hP
        have hD : va_D A (wXO xa (ya 0) la (qa 0) (pa 0) ++ (wLO G la lo ++ (wSYc G ya yy_0 yy_1 yy_2 yy_3 yy_4 yy_5 yy_6 o8.1 o8.2 ++ (wPLc G pa o9.2.1 o9.2.2.1 o9.2.2.2.1 o9.2.2.2.2.1 o9.2.2.2.2.2.1 o9.2.2.2.2.2.2.1 o9.2.2.2.2.2.2.2.1 o9.2.2.2.2.2.2.2.2.1 o9.2.2.2.2.2.2.2.2.2 ++ (wPLc G qa o9.1.1 o9.1.2.1 o9.1.2.2.1 o9.1.2.2.2.1 o9.1.2.2.2.2.1 o9.1.2.2.2.2.2.1 o9.1.2.2.2.2.2.2.1 o9.1.2.2.2.2.2.2.2.1 o9.1.2.2.2.2.2.2.2.2))))) := hD
        refine lv_aload_n hx hb dX2_free_79 rfl (lv_at hl 0 rfl) ?_
        refine va_get (D := G.1) (ci := 2) (v := .ref (ya 0)) (C := RX2) (T := TX2) (N := 4) hx hb hts hinX2 hown hK hP 0 rfl rfl 0 (by decide) (hts (.fieldLink RX2 10 "LessonWeave" "syllabus" "LLessonWeave$Syllabus;") (by decide +kernel)) (fun _ h9 => h9) rfl dX2_free_80 ?_
        refine va_getN (D := G.1) (ci := 1) (v := .ref (ya 7)) (C := RX1) (T := TX1) (N := 9) hx hb hts hinX1 hown hK hP 2 rfl rfl 7 (by decide) (va_Nw.use rfl hNE.2.2.2.2.2.2.2.2.2.1) (fun _ h9 => h9) rfl dX2_free_83 ?_
        refine lv_iload_n hx hb dX2_free_86 rfl (lv_at hl 1 rfl) ?_
        refine va_iald hx hb hK hP 9 0 rfl rfl hin5 dX2_free_87 ?_
        obtain ⟨o10, ho10, h⟩ := sp_b h
        refine xk_ci (va_runS (As := [.int (o8.1 i1.toNatClampNeg)]) (rest := []) ⟨hx, hb, hml, hown, hts⟩ (c_J6_bitCount_0f7a4 l G (o8.1 i1.toNatClampNeg) o10 ho10 H.size) (va_cwS 1 hts gX2_free_J6_bitCount_0f7a4 rfl rfl rfl (by decide +kernel) ⟨Nat.le_of_ble_eq_true rfl, Nat.le_of_ble_eq_true rfl⟩) (xk_preS hK hNE (hP.sub (ws' := []) [] rfl) (hD.sub (ws' := []) [] (by decide) rfl)) rfl rfl hl.1 rfl (lv_room (Nat.le_of_ble_eq_true rfl)) dX2_free_88 ⟨Nat.le_of_ble_eq_true rfl, Nat.le_of_ble_eq_true rfl⟩) hP hD hS hA [] [0, 1, 2, 3, 4, 5, 6, 7, 8, 9, 10, 11, 12, 13, 14, 15, 16, 17, 18, 19, 20, 21, 22, 23, 24] [0, 1, 2, 3, 4, 5, 6, 7, 8, 9, 10, 11, 12, 13, 14, 15, 16, 17, 18, 19, 20, 21, 22, 23, 24] rfl rfl (by decide) (by decide) rfl (by decide) (fun H locs hP hD hS => ?_)
        have hP : va_P G.1 vwCl (wXO xa (ya 0) la (qa 0) (pa 0) ++ (wLO G la lo ++ (wSYc G ya yy_0 yy_1 yy_2 yy_3 yy_4 yy_5 yy_6 o8.1 o8.2 ++ (wPLc G pa o9.2.1 o9.2.2.1 o9.2.2.2.1 o9.2.2.2.2.1 o9.2.2.2.2.2.1 o9.2.2.2.2.2.2.1 o9.2.2.2.2.2.2.2.1 o9.2.2.2.2.2.2.2.2.1 o9.2.2.2.2.2.2.2.2.2 ++ (wPLc G qa o9.1.1 o9.1.2.1 o9.1.2.2.1 o9.1.2.2.2.1 o9.1.2.2.2.2.1 o9.1.2.2.2.2.2.1 o9.1.2.2.2.2.2.2.1 o9.1.2.2.2.2.2.2.2.1 o9.1.2.2.2.2.2.2.2.2))))) H := hP
        have hD : va_D A (wXO xa (ya 0) la (qa 0) (pa 0) ++ (wLO G la lo ++ (wSYc G ya yy_0 yy_1 yy_2 yy_3 yy_4 yy_5 yy_6 o8.1 o8.2 ++ (wPLc G pa o9.2.1 o9.2.2.1 o9.2.2.2.1 o9.2.2.2.2.1 o9.2.2.2.2.2.1 o9.2.2.2.2.2.2.1 o9.2.2.2.2.2.2.2.1 o9.2.2.2.2.2.2.2.2.1 o9.2.2.2.2.2.2.2.2.2 ++ (wPLc G qa o9.1.1 o9.1.2.1 o9.1.2.2.1 o9.1.2.2.2.1 o9.1.2.2.2.2.1 o9.1.2.2.2.2.2.1 o9.1.2.2.2.2.2.2.1 o9.1.2.2.2.2.2.2.2.1 o9.1.2.2.2.2.2.2.2.2))))) := hD
        obtain rfl := sp_s h
        exact xk_reX hx hb hr hlk (hP.sub (ws' := (wXO xa (ya 0) la (qa 0) (pa 0) ++ (wLO G la lo ++ (wSYc G ya yy_0 yy_1 yy_2 yy_3 yy_4 yy_5 yy_6 o8.1 o8.2 ++ (wPLc G qa o9.1.1 o9.1.2.1 o9.1.2.2.1 o9.1.2.2.2.1 o9.1.2.2.2.2.1 o9.1.2.2.2.2.2.1 o9.1.2.2.2.2.2.2.1 o9.1.2.2.2.2.2.2.2.1 o9.1.2.2.2.2.2.2.2.2 ++ (wPLc G pa o9.2.1 o9.2.2.1 o9.2.2.2.1 o9.2.2.2.2.1 o9.2.2.2.2.2.1 o9.2.2.2.2.2.2.1 o9.2.2.2.2.2.2.2.1 o9.2.2.2.2.2.2.2.2.1 o9.2.2.2.2.2.2.2.2.2)))))) [0, 1, 2, 3, 4, 5, 6, 7, 8, 9, 10, 18, 19, 20, 21, 22, 23, 24, 11, 12, 13, 14, 15, 16, 17] rfl) (hD.sub (ws' := (wXO xa (ya 0) la (qa 0) (pa 0) ++ (wLO G la lo ++ (wSYc G ya yy_0 yy_1 yy_2 yy_3 yy_4 yy_5 yy_6 o8.1 o8.2 ++ (wPLc G qa o9.1.1 o9.1.2.1 o9.1.2.2.1 o9.1.2.2.2.1 o9.1.2.2.2.2.1 o9.1.2.2.2.2.2.1 o9.1.2.2.2.2.2.2.1 o9.1.2.2.2.2.2.2.2.1 o9.1.2.2.2.2.2.2.2.2 ++ (wPLc G pa o9.2.1 o9.2.2.1 o9.2.2.2.1 o9.2.2.2.2.1 o9.2.2.2.2.2.1 o9.2.2.2.2.2.2.1 o9.2.2.2.2.2.2.2.1 o9.2.2.2.2.2.2.2.2.1 o9.2.2.2.2.2.2.2.2.2)))))) [0, 1, 2, 3, 4, 5, 6, 7, 8, 9, 10, 18, 19, 20, 21, 22, 23, 24, 11, 12, 13, 14, 15, 16, 17] (by decide) rfl) hS rfl rfl dX2_free_91 (Nat.zero_le _) (Nat.zero_le _)
      · have h := sp_t c7 h
        obtain rfl := sp_s h
        exact xk_throwN hx hb hl9 hown (hts (.classLink RX2 99 "java/util/NoSuchElementException") (by decide +kernel)) (hts (.initialized "java/util/NoSuchElementException") (by decide +kernel)) (hSR.2.2.2.2.2.2.2.2.2.1) hwNSE hXB (hXB.2.2.2.2.2.2.1) hZX hP hD hS (hl.1.trans hml.symm) dX2_free_42 dX2_free_45 dX2_free_46 dX2_free_48 dX2_free_51 hxt (by decide) (by decide) (Nat.le_refl _) (Nat.le_refl _) hlk (show ¬ (4 : Nat) = 0 by decide) rfl (Nat.le_refl _) (Nat.le_refl _)
    · have h := sp_t c4 h
      obtain rfl := sp_s h
      exact xk_throw (text := "there is no such aim") hx hb hl9 hown xk_ft_IOB (hts (.classLink RX2 67 "java/lang/IndexOutOfBoundsException") (by decide +kernel)) (hts (.initialized "java/lang/IndexOutOfBoundsException") (by decide +kernel)) (hSR.2.2.2.2.2.1) hwIOB hXB (hXB.2.2.2.2.2.1) xk_ng_IOB xk_gd_IOB hZX hP hD hS (hl.1.trans hml.symm) dX2_free_16 dX2_free_19 dX2_free_20 dX2_free_22 dX2_free_25 hxt (by decide) (by decide) (Nat.le_refl _) (Nat.le_refl _) hlk (show ¬ (3 : Nat) = 0 by decide) rfl (Nat.le_refl _) (Nat.le_refl _)
def f_L_free (lo : xF) (yy : xSY) (pp : xPL) (qq : xPL) (ou : (Nat → Int64)) (i1 : Int32) (i2 : Int32) : Option (Int32 × xF × xF × xPL × xPL × (Nat → Int64)) :=
  Option.bind (f_X2_free lo (yy.1, yy.2.1, yy.2.2.1, yy.2.2.2.1, yy.2.2.2.2.1, yy.2.2.2.2.2.1, yy.2.2.2.2.2.2.1, yy.2.2.2.2.2.2.2.1, yy.2.2.2.2.2.2.2.2) (pp.1, pp.2.1, pp.2.2.1, pp.2.2.2.1, pp.2.2.2.2.1, pp.2.2.2.2.2.1, pp.2.2.2.2.2.2.1, pp.2.2.2.2.2.2.2.1, pp.2.2.2.2.2.2.2.2) (qq.1, qq.2.1, qq.2.2.1, qq.2.2.2.1, qq.2.2.2.2.1, qq.2.2.2.2.2.1, qq.2.2.2.2.2.2.1, qq.2.2.2.2.2.2.2.1, qq.2.2.2.2.2.2.2.2) i1 i2) fun (o1 : Nat × Int32 × xF × xF × xPL × xPL) =>
  if o1.1 = 0 then
    some ((0 : Int32), o1.2.2.1, o1.2.2.2.1, o1.2.2.2.2.1, o1.2.2.2.2.2, (vp_updL ou (0 : Int32).toNatClampNeg o1.2.1.toInt64))
  else
    if o1.1 = 3 then
      some ((1 : Int32), yy.2.2.2.2.2.2.2.1, yy.2.2.2.2.2.2.2.2, (pp.1, pp.2.1, pp.2.2.1, pp.2.2.2.1, pp.2.2.2.2.1, pp.2.2.2.2.2.1, pp.2.2.2.2.2.2.1, pp.2.2.2.2.2.2.2.1, pp.2.2.2.2.2.2.2.2), (qq.1, qq.2.1, qq.2.2.1, qq.2.2.2.1, qq.2.2.2.2.1, qq.2.2.2.2.2.1, qq.2.2.2.2.2.2.1, qq.2.2.2.2.2.2.2.1, qq.2.2.2.2.2.2.2.2), ou)
    else
      if o1.1 = 4 then
        some ((2 : Int32), yy.2.2.2.2.2.2.2.1, yy.2.2.2.2.2.2.2.2, (pp.1, pp.2.1, pp.2.2.1, pp.2.2.2.1, pp.2.2.2.2.1, pp.2.2.2.2.2.1, pp.2.2.2.2.2.2.1, pp.2.2.2.2.2.2.2.1, pp.2.2.2.2.2.2.2.2), (qq.1, qq.2.1, qq.2.2.1, qq.2.2.2.1, qq.2.2.2.2.1, qq.2.2.2.2.2.1, qq.2.2.2.2.2.2.1, qq.2.2.2.2.2.2.2.1, qq.2.2.2.2.2.2.2.2), ou)
      else
        none
theorem f_L_free_e (lo : xF) (yy_0 : Int32) (yy_1 : xF) (yy_2 : xF) (yy_3 : xF) (yy_4 : xF) (yy_5 : xF) (yy_6 : xF) (yy_7 : xF) (yy_8 : xF) (pp_0 : xF) (pp_1 : xF) (pp_2 : xF) (pp_3 : xF) (pp_4 : xF) (pp_5 : xF) (pp_6 : Int32) (pp_7 : Int32) (pp_8 : Int32) (qq_0 : xF) (qq_1 : xF) (qq_2 : xF) (qq_3 : xF) (qq_4 : xF) (qq_5 : xF) (qq_6 : Int32) (qq_7 : Int32) (qq_8 : Int32) (ou : (Nat → Int64)) (i1 : Int32) (i2 : Int32) : f_L_free lo (yy_0, yy_1, yy_2, yy_3, yy_4, yy_5, yy_6, yy_7, yy_8) (pp_0, pp_1, pp_2, pp_3, pp_4, pp_5, pp_6, pp_7, pp_8) (qq_0, qq_1, qq_2, qq_3, qq_4, qq_5, qq_6, qq_7, qq_8) ou i1 i2 =
  Option.bind (f_X2_free lo (yy_0, yy_1, yy_2, yy_3, yy_4, yy_5, yy_6, yy_7, yy_8) (pp_0, pp_1, pp_2, pp_3, pp_4, pp_5, pp_6, pp_7, pp_8) (qq_0, qq_1, qq_2, qq_3, qq_4, qq_5, qq_6, qq_7, qq_8) i1 i2) fun (o1 : Nat × Int32 × xF × xF × xPL × xPL) =>
  if o1.1 = 0 then
    some ((0 : Int32), o1.2.2.1, o1.2.2.2.1, o1.2.2.2.2.1, o1.2.2.2.2.2, (vp_updL ou (0 : Int32).toNatClampNeg o1.2.1.toInt64))
  else
    if o1.1 = 3 then
      some ((1 : Int32), yy_7, yy_8, (pp_0, pp_1, pp_2, pp_3, pp_4, pp_5, pp_6, pp_7, pp_8), (qq_0, qq_1, qq_2, qq_3, qq_4, qq_5, qq_6, qq_7, qq_8), ou)
    else
      if o1.1 = 4 then
        some ((2 : Int32), yy_7, yy_8, (pp_0, pp_1, pp_2, pp_3, pp_4, pp_5, pp_6, pp_7, pp_8), (qq_0, qq_1, qq_2, qq_3, qq_4, qq_5, qq_6, qq_7, qq_8), ou)
      else
        none := rfl
set_option maxHeartbeats 4000000 in
set_option maxRecDepth 100000 in
theorem c_L_free (l : Launch) (hl9 : l.stackTraces = false) (G : xG) (xa : Nat) (la : Nat) (ya : (Nat → Nat)) (pa : (Nat → Nat)) (qa : (Nat → Nat)) (oa : Nat) (lo : xF) (yy : xSY) (pp : xPL) (qq : xPL) (ou : (Nat → Int64)) (i1 : Int32) (i2 : Int32) (o : Int32 × xF × xF × xPL × xPL × (Nat → Int64)) (pa1 qa1 : Nat → Nat) (hpq : (o.1 = 0 → pa1 = qa ∧ qa1 = pa) ∧ (¬ o.1 = 0 → pa1 = pa ∧ qa1 = qa)) (h : f_L_free lo yy pp qq ou i1 i2 = some o) : xk_CL l yL_free wsL_free ({ frames := 7, cells := 1, slots := 6, locals := 161 } : Room) [.ref xa, .int i1, .int i2, .ref oa] G (wXO xa (ya 0) la (pa 0) (qa 0) ++ (wLO G la lo ++ (wSYc G ya yy.1 yy.2.1 yy.2.2.1 yy.2.2.2.1 yy.2.2.2.2.1 yy.2.2.2.2.2.1 yy.2.2.2.2.2.2.1 yy.2.2.2.2.2.2.2.1 yy.2.2.2.2.2.2.2.2 ++ (wPLc G pa pp.1 pp.2.1 pp.2.2.1 pp.2.2.2.1 pp.2.2.2.2.1 pp.2.2.2.2.2.1 pp.2.2.2.2.2.2.1 pp.2.2.2.2.2.2.2.1 pp.2.2.2.2.2.2.2.2 ++ (wPLc G qa qq.1 qq.2.1 qq.2.2.1 qq.2.2.2.1 qq.2.2.2.2.1 qq.2.2.2.2.2.1 qq.2.2.2.2.2.2.1 qq.2.2.2.2.2.2.2.1 qq.2.2.2.2.2.2.2.2 ++ (wOU G oa ou)))))) (wXO xa (ya 0) la (pa1 0) (qa1 0) ++ (wLO G la lo ++ (wSYc G ya yy.1 yy.2.1 yy.2.2.1 yy.2.2.2.1 yy.2.2.2.2.1 yy.2.2.2.2.2.1 yy.2.2.2.2.2.2.1 o.2.1 o.2.2.1 ++ (wPLc G pa1 o.2.2.2.1.1 o.2.2.2.1.2.1 o.2.2.2.1.2.2.1 o.2.2.2.1.2.2.2.1 o.2.2.2.1.2.2.2.2.1 o.2.2.2.1.2.2.2.2.2.1 o.2.2.2.1.2.2.2.2.2.2.1 o.2.2.2.1.2.2.2.2.2.2.2.1 o.2.2.2.1.2.2.2.2.2.2.2.2 ++ (wPLc G qa1 o.2.2.2.2.1.1 o.2.2.2.2.1.2.1 o.2.2.2.2.1.2.2.1 o.2.2.2.2.1.2.2.2.1 o.2.2.2.2.1.2.2.2.2.1 o.2.2.2.2.1.2.2.2.2.2.1 o.2.2.2.2.1.2.2.2.2.2.2.1 o.2.2.2.2.1.2.2.2.2.2.2.2.1 o.2.2.2.2.1.2.2.2.2.2.2.2.2 ++ (wOU G oa o.2.2.2.2.2)))))) o.1 := by
  obtain ⟨yy_0, yy_1, yy_2, yy_3, yy_4, yy_5, yy_6, yy_7, yy_8⟩ := yy
  obtain ⟨pp_0, pp_1, pp_2, pp_3, pp_4, pp_5, pp_6, pp_7, pp_8⟩ := pp
  obtain ⟨qq_0, qq_1, qq_2, qq_3, qq_4, qq_5, qq_6, qq_7, qq_8⟩ := qq
  refine xk_CL.of (cc := cL_free) (maxL := 5) (ret := (some .int)) (by decide) rfl (Nat.le_of_ble_eq_true rfl) ?_
  intro pr9 en9 s mm9 bl9 meth9 cd9 A ls H locs hx hb hr hml hts hown hlk hA hP hK hD hNE hS hl hXB hSR hZX hxt
  have hown : s.vm.findClass RL = some mm9.cls := hown
  have hl : lv_has ls 5 [(0, .ref xa), (1, .int i1), (2, .int i2), (3, .ref oa)] := hl
  have hP : va_P G.1 vwCl (wXO xa (ya 0) la (pa 0) (qa 0) ++ (wLO G la lo ++ (wSYc G ya yy_0 yy_1 yy_2 yy_3 yy_4 yy_5 yy_6 yy_7 yy_8 ++ (wPLc G pa pp_0 pp_1 pp_2 pp_3 pp_4 pp_5 pp_6 pp_7 pp_8 ++ (wPLc G qa qq_0 qq_1 qq_2 qq_3 qq_4 qq_5 qq_6 qq_7 qq_8 ++ (wOU G oa ou)))))) H := hP
  have hD : va_D A (wXO xa (ya 0) la (pa 0) (qa 0) ++ (wLO G la lo ++ (wSYc G ya yy_0 yy_1 yy_2 yy_3 yy_4 yy_5 yy_6 yy_7 yy_8 ++ (wPLc G pa pp_0 pp_1 pp_2 pp_3 pp_4 pp_5 pp_6 pp_7 pp_8 ++ (wPLc G qa qq_0 qq_1 qq_2 qq_3 qq_4 qq_5 qq_6 qq_7 qq_8 ++ (wOU G oa ou)))))) := hD
  have h := (f_L_free_e lo yy_0 yy_1 yy_2 yy_3 yy_4 yy_5 yy_6 yy_7 yy_8 pp_0 pp_1 pp_2 pp_3 pp_4 pp_5 pp_6 pp_7 pp_8 qq_0 qq_1 qq_2 qq_3 qq_4 qq_5 qq_6 qq_7 qq_8 ou i1 i2).symm.trans h
  refine lv_aload_n hx hb dL_free_0 rfl (lv_at hl 3 rfl) ?_
  refine lv_iconst (v := (0 : Int32)) hx hb dL_free_1 (by decide) ?_
  refine lv_aload_n hx hb dL_free_2 rfl (lv_at hl 0 rfl) ?_
  refine lv_iload_n hx hb dL_free_3 rfl (lv_at hl 1 rfl) ?_
  refine lv_iload_n hx hb dL_free_4 rfl (lv_at hl 2 rfl) ?_
  obtain ⟨o1, ho1, h⟩ := sp_b h
  refine xk_cx (vx_runV (As := [.int i1, .int i2]) (rest := [.int (0 : Int32), .ref oa]) ⟨hx, hb, hml, hown, hts⟩ (c_X2_free l hl9 G xa la ya pa qa lo (yy_0, yy_1, yy_2, yy_3, yy_4, yy_5, yy_6, yy_7, yy_8) (pp_0, pp_1, pp_2, pp_3, pp_4, pp_5, pp_6, pp_7, pp_8) (qq_0, qq_1, qq_2, qq_3, qq_4, qq_5, qq_6, qq_7, qq_8) i1 i2 o1 ho1 H.size) (cwV 2 hts gL_free_X2_free rfl rfl rfl (by decide +kernel) ⟨Nat.le_of_ble_eq_true rfl, Nat.le_of_ble_eq_true rfl⟩) (xk_preVX hK hNE hXB hSR hZX hS (va_free (wc := (wXO xa (ya 0) la (pa 0) (qa 0) ++ (wLO G la lo ++ (wSYc G ya yy_0 yy_1 yy_2 yy_3 yy_4 yy_5 yy_6 yy_7 yy_8 ++ (wPLc G pa pp_0 pp_1 pp_2 pp_3 pp_4 pp_5 pp_6 pp_7 pp_8 ++ (wPLc G qa qq_0 qq_1 qq_2 qq_3 qq_4 qq_5 qq_6 qq_7 qq_8)))))) hD hS hA [0, 1, 2, 3, 4, 5, 6, 7, 8, 9, 10, 11, 12, 13, 14, 15, 16, 17, 18, 19, 20, 21, 22, 23, 24] rfl) (hP.sub (ws' := (wXO xa (ya 0) la (pa 0) (qa 0) ++ (wLO G la lo ++ (wSYc G ya yy_0 yy_1 yy_2 yy_3 yy_4 yy_5 yy_6 yy_7 yy_8 ++ (wPLc G pa pp_0 pp_1 pp_2 pp_3 pp_4 pp_5 pp_6 pp_7 pp_8 ++ (wPLc G qa qq_0 qq_1 qq_2 qq_3 qq_4 qq_5 qq_6 qq_7 qq_8)))))) [0, 1, 2, 3, 4, 5, 6, 7, 8, 9, 10, 11, 12, 13, 14, 15, 16, 17, 18, 19, 20, 21, 22, 23, 24] rfl) (hD.sub (ws' := (wXO xa (ya 0) la (pa 0) (qa 0) ++ (wLO G la lo ++ (wSYc G ya yy_0 yy_1 yy_2 yy_3 yy_4 yy_5 yy_6 yy_7 yy_8 ++ (wPLc G pa pp_0 pp_1 pp_2 pp_3 pp_4 pp_5 pp_6 pp_7 pp_8 ++ (wPLc G qa qq_0 qq_1 qq_2 qq_3 qq_4 qq_5 qq_6 qq_7 qq_8)))))) [0, 1, 2, 3, 4, 5, 6, 7, 8, 9, 10, 11, 12, 13, 14, 15, 16, 17, 18, 19, 20, 21, 22, 23, 24] (by decide) rfl) (ci := 2) rfl rfl) rfl rfl hl.1 rfl (lv_room (Nat.le_of_ble_eq_true rfl)) dL_free_5 ⟨Nat.le_of_ble_eq_true rfl, Nat.le_of_ble_eq_true rfl⟩) hP hD hS hA [0, 1, 2, 3, 4, 5, 6, 7, 8, 9, 10, 11, 12, 13, 14, 15, 16, 17, 18, 19, 20, 21, 22, 23, 24] [25] [1, 2, 3, 4, 5, 6, 7, 8, 9, 10, 11, 19, 20, 21, 22, 23, 24, 25, 12, 13, 14, 15, 16, 17, 18, 0] [1, 2, 3, 4, 5, 6, 7, 8, 9, 10, 11, 12, 13, 14, 15, 16, 17, 18, 19, 20, 21, 22, 23, 24, 25, 0] rfl rfl (by decide) (by decide) rfl (by decide) rfl (by decide) (fun ce9 q9 H locs hk0 hP hD hS hce hcv hcl => ?_) (fun H locs hk0 hP hD hS => ?_)
  · have h := sp_f hk0 h
    by_cases e3 : o1.1 = 3
    · have h := sp_t e3 h
      rw [e3] at hcl
      refine vx_catch (E := "java/lang/IndexOutOfBoundsException") (name := "java/lang/IndexOutOfBoundsException") hown [] (⟨0, 10, 13, 21⟩ : ExceptionTableEntry) [(⟨0, 10, 17, 26⟩ : ExceptionTableEntry)] hxt (fun z hz => by cases hz) (by decide) (by decide) (hts (.classLink RL 21 "java/lang/IndexOutOfBoundsException") (by decide +kernel)) (va_Nw.use rfl (hXB.2.2.2.2.2.1)) hce hcv hcl ?_
      refine lv_astore (lv' := [(4, .ref q9), (0, .ref xa), (1, .int i1), (2, .int i2), (3, .ref oa)]) hx hb dL_free_13 hl (by decide) rfl (fun ls hl => ?_)
      refine lv_iconst (v := (1 : Int32)) hx hb dL_free_15 (by decide) ?_
      obtain rfl := sp_s h
      obtain ⟨h8, h9⟩ := hpq.2 (show ¬ (1 : Int32) = 0 by decide)
      subst pa1
      subst qa1
      exact xk_reL hx hb hr hlk hP hD hS rfl dL_free_16 (Nat.le_refl _) (Nat.le_refl _)
    · have h := sp_f e3 h
      by_cases e4 : o1.1 = 4
      · have h := sp_t e4 h
        rw [e4] at hcl
        refine vx_catch (E := "java/util/NoSuchElementException") (name := "java/util/NoSuchElementException") hown [(⟨0, 10, 13, 21⟩ : ExceptionTableEntry)] (⟨0, 10, 17, 26⟩ : ExceptionTableEntry) [] hxt (by intro z hz; simp only [List.mem_cons, List.not_mem_nil, or_false] at hz; rcases hz with rfl; exact Or.inr ⟨by decide, "java/lang/IndexOutOfBoundsException", hts (.classLink RL 21 "java/lang/IndexOutOfBoundsException") (by decide +kernel), hXB.2.2.2.2.2.2.2.2.2.2⟩) (by decide) (by decide) (hts (.classLink RL 26 "java/util/NoSuchElementException") (by decide +kernel)) (va_Nw.use rfl (hXB.2.2.2.2.2.2.1)) hce hcv hcl ?_
        refine lv_astore (lv' := [(4, .ref q9), (0, .ref xa), (1, .int i1), (2, .int i2), (3, .ref oa)]) hx hb dL_free_17 hl (by decide) rfl (fun ls hl => ?_)
        refine lv_iconst (v := (2 : Int32)) hx hb dL_free_19 (by decide) ?_
        obtain rfl := sp_s h
        obtain ⟨h8, h9⟩ := hpq.2 (show ¬ (2 : Int32) = 0 by decide)
        subst pa1
        subst qa1
        exact xk_reL hx hb hr hlk hP hD hS rfl dL_free_20 (Nat.le_refl _) (Nat.le_refl _)
      · have h := sp_f e4 h
        exact sp_n h
  · have h := sp_t hk0 h
    have hP : va_P G.1 vwCl (wXO xa (ya 0) la (qa 0) (pa 0) ++ (wLO G la lo ++ (wSYc G ya yy_0 yy_1 yy_2 yy_3 yy_4 yy_5 yy_6 o1.2.2.1 o1.2.2.2.1 ++ (wPLc G pa o1.2.2.2.2.2.1 o1.2.2.2.2.2.2.1 o1.2.2.2.2.2.2.2.1 o1.2.2.2.2.2.2.2.2.1 o1.2.2.2.2.2.2.2.2.2.1 o1.2.2.2.2.2.2.2.2.2.2.1 o1.2.2.2.2.2.2.2.2.2.2.2.1 o1.2.2.2.2.2.2.2.2.2.2.2.2.1 o1.2.2.2.2.2.2.2.2.2.2.2.2.2 ++ (wPLc G qa o1.2.2.2.2.1.1 o1.2.2.2.2.1.2.1 o1.2.2.2.2.1.2.2.1 o1.2.2.2.2.1.2.2.2.1 o1.2.2.2.2.1.2.2.2.2.1 o1.2.2.2.2.1.2.2.2.2.2.1 o1.2.2.2.2.1.2.2.2.2.2.2.1 o1.2.2.2.2.1.2.2.2.2.2.2.2.1 o1.2.2.2.2.1.2.2.2.2.2.2.2.2 ++ (wOU G oa ou)))))) H := hP
    have hD : va_D A (wXO xa (ya 0) la (qa 0) (pa 0) ++ (wLO G la lo ++ (wSYc G ya yy_0 yy_1 yy_2 yy_3 yy_4 yy_5 yy_6 o1.2.2.1 o1.2.2.2.1 ++ (wPLc G pa o1.2.2.2.2.2.1 o1.2.2.2.2.2.2.1 o1.2.2.2.2.2.2.2.1 o1.2.2.2.2.2.2.2.2.1 o1.2.2.2.2.2.2.2.2.2.1 o1.2.2.2.2.2.2.2.2.2.2.1 o1.2.2.2.2.2.2.2.2.2.2.2.1 o1.2.2.2.2.2.2.2.2.2.2.2.2.1 o1.2.2.2.2.2.2.2.2.2.2.2.2.2 ++ (wPLc G qa o1.2.2.2.2.1.1 o1.2.2.2.2.1.2.1 o1.2.2.2.2.1.2.2.1 o1.2.2.2.2.1.2.2.2.1 o1.2.2.2.2.1.2.2.2.2.1 o1.2.2.2.2.1.2.2.2.2.2.1 o1.2.2.2.2.1.2.2.2.2.2.2.1 o1.2.2.2.2.1.2.2.2.2.2.2.2.1 o1.2.2.2.2.1.2.2.2.2.2.2.2.2 ++ (wOU G oa ou)))))) := hD
    refine lv_i2l (v := o1.2.1.toInt64) hx hb dL_free_8 rfl ?_
    refine va_last hx hb hK hP hD hS 25 2 rfl rfl (xk_in0_1) dL_free_9 (fun H locs hP hD hS => ?_)
    have hP : va_P G.1 vwCl (wXO xa (ya 0) la (qa 0) (pa 0) ++ (wLO G la lo ++ (wSYc G ya yy_0 yy_1 yy_2 yy_3 yy_4 yy_5 yy_6 o1.2.2.1 o1.2.2.2.1 ++ (wPLc G pa o1.2.2.2.2.2.1 o1.2.2.2.2.2.2.1 o1.2.2.2.2.2.2.2.1 o1.2.2.2.2.2.2.2.2.1 o1.2.2.2.2.2.2.2.2.2.1 o1.2.2.2.2.2.2.2.2.2.2.1 o1.2.2.2.2.2.2.2.2.2.2.2.1 o1.2.2.2.2.2.2.2.2.2.2.2.2.1 o1.2.2.2.2.2.2.2.2.2.2.2.2.2 ++ (wPLc G qa o1.2.2.2.2.1.1 o1.2.2.2.2.1.2.1 o1.2.2.2.2.1.2.2.1 o1.2.2.2.2.1.2.2.2.1 o1.2.2.2.2.1.2.2.2.2.1 o1.2.2.2.2.1.2.2.2.2.2.1 o1.2.2.2.2.1.2.2.2.2.2.2.1 o1.2.2.2.2.1.2.2.2.2.2.2.2.1 o1.2.2.2.2.1.2.2.2.2.2.2.2.2 ++ (wOU G oa (vp_updL ou (0 : Int32).toNatClampNeg o1.2.1.toInt64))))))) H := hP
    have hD : va_D A (wXO xa (ya 0) la (qa 0) (pa 0) ++ (wLO G la lo ++ (wSYc G ya yy_0 yy_1 yy_2 yy_3 yy_4 yy_5 yy_6 o1.2.2.1 o1.2.2.2.1 ++ (wPLc G pa o1.2.2.2.2.2.1 o1.2.2.2.2.2.2.1 o1.2.2.2.2.2.2.2.1 o1.2.2.2.2.2.2.2.2.1 o1.2.2.2.2.2.2.2.2.2.1 o1.2.2.2.2.2.2.2.2.2.2.1 o1.2.2.2.2.2.2.2.2.2.2.2.1 o1.2.2.2.2.2.2.2.2.2.2.2.2.1 o1.2.2.2.2.2.2.2.2.2.2.2.2.2 ++ (wPLc G qa o1.2.2.2.2.1.1 o1.2.2.2.2.1.2.1 o1.2.2.2.2.1.2.2.1 o1.2.2.2.2.1.2.2.2.1 o1.2.2.2.2.1.2.2.2.2.1 o1.2.2.2.2.1.2.2.2.2.2.1 o1.2.2.2.2.1.2.2.2.2.2.2.1 o1.2.2.2.2.1.2.2.2.2.2.2.2.1 o1.2.2.2.2.1.2.2.2.2.2.2.2.2 ++ (wOU G oa (vp_updL ou (0 : Int32).toNatClampNeg o1.2.1.toInt64))))))) := hD
    refine lv_goto (tgt := 21) hx hb dL_free_10 (by decide) ?_
    refine lv_iconst (v := (0 : Int32)) hx hb dL_free_21 (by decide) ?_
    obtain rfl := sp_s h
    obtain ⟨h8, h9⟩ := hpq.1 rfl
    subst pa1
    subst qa1
    exact xk_reL hx hb hr hlk (hP.sub (ws' := (wXO xa (ya 0) la (qa 0) (pa 0) ++ (wLO G la lo ++ (wSYc G ya yy_0 yy_1 yy_2 yy_3 yy_4 yy_5 yy_6 o1.2.2.1 o1.2.2.2.1 ++ (wPLc G qa o1.2.2.2.2.1.1 o1.2.2.2.2.1.2.1 o1.2.2.2.2.1.2.2.1 o1.2.2.2.2.1.2.2.2.1 o1.2.2.2.2.1.2.2.2.2.1 o1.2.2.2.2.1.2.2.2.2.2.1 o1.2.2.2.2.1.2.2.2.2.2.2.1 o1.2.2.2.2.1.2.2.2.2.2.2.2.1 o1.2.2.2.2.1.2.2.2.2.2.2.2.2 ++ (wPLc G pa o1.2.2.2.2.2.1 o1.2.2.2.2.2.2.1 o1.2.2.2.2.2.2.2.1 o1.2.2.2.2.2.2.2.2.1 o1.2.2.2.2.2.2.2.2.2.1 o1.2.2.2.2.2.2.2.2.2.2.1 o1.2.2.2.2.2.2.2.2.2.2.2.1 o1.2.2.2.2.2.2.2.2.2.2.2.2.1 o1.2.2.2.2.2.2.2.2.2.2.2.2.2 ++ (wOU G oa (vp_updL ou (0 : Int32).toNatClampNeg o1.2.1.toInt64)))))))) [0, 1, 2, 3, 4, 5, 6, 7, 8, 9, 10, 18, 19, 20, 21, 22, 23, 24, 11, 12, 13, 14, 15, 16, 17, 25] rfl) (hD.sub (ws' := (wXO xa (ya 0) la (qa 0) (pa 0) ++ (wLO G la lo ++ (wSYc G ya yy_0 yy_1 yy_2 yy_3 yy_4 yy_5 yy_6 o1.2.2.1 o1.2.2.2.1 ++ (wPLc G qa o1.2.2.2.2.1.1 o1.2.2.2.2.1.2.1 o1.2.2.2.2.1.2.2.1 o1.2.2.2.2.1.2.2.2.1 o1.2.2.2.2.1.2.2.2.2.1 o1.2.2.2.2.1.2.2.2.2.2.1 o1.2.2.2.2.1.2.2.2.2.2.2.1 o1.2.2.2.2.1.2.2.2.2.2.2.2.1 o1.2.2.2.2.1.2.2.2.2.2.2.2.2 ++ (wPLc G pa o1.2.2.2.2.2.1 o1.2.2.2.2.2.2.1 o1.2.2.2.2.2.2.2.1 o1.2.2.2.2.2.2.2.2.1 o1.2.2.2.2.2.2.2.2.2.1 o1.2.2.2.2.2.2.2.2.2.2.1 o1.2.2.2.2.2.2.2.2.2.2.2.1 o1.2.2.2.2.2.2.2.2.2.2.2.2.1 o1.2.2.2.2.2.2.2.2.2.2.2.2.2 ++ (wOU G oa (vp_updL ou (0 : Int32).toNatClampNeg o1.2.1.toInt64)))))))) [0, 1, 2, 3, 4, 5, 6, 7, 8, 9, 10, 18, 19, 20, 21, 22, 23, 24, 11, 12, 13, 14, 15, 16, 17, 25] (by decide) rfl) hS rfl dL_free_22 (Nat.le_refl _) (Nat.le_refl _)
