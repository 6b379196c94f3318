def f_X0_nextGap (pp : xPL) (yy : xSY) (i1 : Int32) : Option (Int32) :=
  if i1 < 0 ∨ 12 ≤ i1.toNatClampNeg then none else
  some ((yy.2.2.2.2.2.2.1 i1.toNatClampNeg) <<< ((pp.2.2.2.2.1 i1.toNatClampNeg) &&& 31))
theorem f_X0_nextGap_e (pp_0 : xF) (pp_1 : xF) (pp_2 : xF) (pp_3 : xF) (pp_4 : xF) (pp_5 : xF) (pp_6 : Int32) (pp_7 : Int32) (pp_8 : Int32) (yy_0 : Int32) (yy_1 : xF) (yy_2 : xF) (yy_3 : xF) (yy_4 : xF) (yy_5 : xF) (yy_6 : xF) (yy_7 : xF) (yy_8 : xF) (i1 : Int32) : f_X0_nextGap (pp_0, pp_1, pp_2, pp_3, pp_4, pp_5, pp_6, pp_7, pp_8) (yy_0, yy_1, yy_2, yy_3, yy_4, yy_5, yy_6, yy_7, yy_8) i1 =
  if i1 < 0 ∨ 12 ≤ i1.toNatClampNeg then none else
  some ((yy_6 i1.toNatClampNeg) <<< ((pp_4 i1.toNatClampNeg) &&& 31)) := rfl
set_option maxHeartbeats 4000000 in
set_option maxRecDepth 100000 in
theorem c_X0_nextGap (l : Launch) (G : xG) (pa : (Nat → Nat)) (ya : (Nat → Nat)) (pp : xPL) (yy : xSY) (i1 : Int32) (o : Int32) (h : f_X0_nextGap pp yy i1 = some o) : xk_CI l yX0_nextGap wsX0_nextGap ({ frames := 0, cells := 0, slots := 0, locals := 0 } : Room) 0 0 [.ref (pa 0), .int i1, .ref (ya 0)] G (wPLc G pa pp.1 pp.2.1 pp.2.2.1 pp.2.2.2.1 pp.2.2.2.2.1 pp.2.2.2.2.2.1 pp.2.2.2.2.2.2.1 pp.2.2.2.2.2.2.2.1 pp.2.2.2.2.2.2.2.2 ++ (wSYc G ya yy.1 yy.2.1 yy.2.2.1 yy.2.2.2.1 yy.2.2.2.2.1 yy.2.2.2.2.2.1 yy.2.2.2.2.2.2.1 yy.2.2.2.2.2.2.2.1 yy.2.2.2.2.2.2.2.2)) (wPLc G pa pp.1 pp.2.1 pp.2.2.1 pp.2.2.2.1 pp.2.2.2.2.1 pp.2.2.2.2.2.1 pp.2.2.2.2.2.2.1 pp.2.2.2.2.2.2.2.1 pp.2.2.2.2.2.2.2.2 ++ (wSYc G ya yy.1 yy.2.1 yy.2.2.1 yy.2.2.2.1 yy.2.2.2.2.1 yy.2.2.2.2.2.1 yy.2.2.2.2.2.2.1 yy.2.2.2.2.2.2.2.1 yy.2.2.2.2.2.2.2.2)) o := by
  obtain ⟨pp_0, pp_1, pp_2, pp_3, pp_4, pp_5, pp_6, pp_7, pp_8⟩ := pp
  obtain ⟨yy_0, yy_1, yy_2, yy_3, yy_4, yy_5, yy_6, yy_7, yy_8⟩ := yy
  refine xk_CI.of (cc := cX0_nextGap) (maxL := 3) (ret := (some .int)) (by decide) rfl (Nat.le_of_ble_eq_true rfl) ?_
  intro pr9 en9 s mm9 bl9 meth9 cd9 A ls H locs hx hb hr hml hts hown hlk hA hP hK hD hNE hS hl
  have hown : s.vm.findClass RX0 = some mm9.cls := hown
  have hl : lv_has ls 3 [(0, .ref (pa 0)), (1, .int i1), (2, .ref (ya 0))] := hl
  have hinX0 : ∀ w ∈ u_ws RX0 TX0 9, w ∈ wsX0_nextGap := by decide +kernel
  have hinX1 : ∀ w ∈ u_ws RX1 TX1 9, w ∈ wsX0_nextGap := by decide +kernel
  have hP : va_P G.1 vwCl (wPLc G pa pp_0 pp_1 pp_2 pp_3 pp_4 pp_5 pp_6 pp_7 pp_8 ++ (wSYc G ya yy_0 yy_1 yy_2 yy_3 yy_4 yy_5 yy_6 yy_7 yy_8)) H := hP
  have hD : va_D A (wPLc G pa pp_0 pp_1 pp_2 pp_3 pp_4 pp_5 pp_6 pp_7 pp_8 ++ (wSYc G ya yy_0 yy_1 yy_2 yy_3 yy_4 yy_5 yy_6 yy_7 yy_8)) := hD
  have h := (f_X0_nextGap_e pp_0 pp_1 pp_2 pp_3 pp_4 pp_5 pp_6 pp_7 pp_8 yy_0 yy_1 yy_2 yy_3 yy_4 yy_5 yy_6 yy_7 yy_8 i1).symm.trans h
  refine lv_aload_n hx hb dX0_nextGap_0 rfl (lv_at hl 2 rfl) ?_
  refine va_getN (D := G.1) (ci := 1) (v := .ref (ya 6)) (C := RX1) (T := TX1) (N := 9) hx hb hts hinX1 hown hK hP 7 rfl rfl 6 (by decide) (va_Nw.use rfl hNE.2.2.2.2.2.2.2.2.1) (fun _ h9 => h9) rfl dX0_nextGap_1 ?_
  refine lv_iload_n hx hb dX0_nextGap_4 rfl (lv_at hl 1 rfl) ?_
  obtain ⟨hin1, h⟩ := sp_g h
  refine va_iald hx hb hK hP 13 0 rfl rfl hin1 dX0_nextGap_5 ?_
  refine lv_aload_n hx hb dX0_nextGap_6 rfl (lv_at hl 0 rfl) ?_
  refine va_get (D := G.1) (ci := 0) (v := .ref (pa 5)) (C := RX0) (T := TX0) (N := 9) hx hb hts hinX0 hown hK hP 0 rfl rfl 4 (by decide) (hts (.fieldLink RX0 24 "LessonWeave$Plan" "revisitsLaid" "[I") (by decide +kernel)) (fun _ h9 => h9) rfl dX0_nextGap_7 ?_
  refine lv_iload_n hx hb dX0_nextGap_10 rfl (lv_at hl 1 rfl) ?_
  refine va_iald hx hb hK hP 5 0 rfl rfl hin1 dX0_nextGap_11 ?_
  refine lv_ishl hx hb dX0_nextGap_12 ?_
  obtain rfl := sp_s h
  exact xk_reI hx hb hr hlk hP hD hS rfl dX0_nextGap_13
def f_X0_isDue (pp : xPL) (yy : xSY) (i1 : Int32) (i2 : Int32) : Option (Int32) :=
  if i1 < 0 ∨ 12 ≤ i1.toNatClampNeg then none else
  if (pp.2.2.2.1 i1.toNatClampNeg) < (yy.2.1 i1.toNatClampNeg) then
    some (0 : Int32)
  else
    if (yy.2.2.2.2.2.1 i1.toNatClampNeg) ≤ (pp.2.2.2.2.1 i1.toNatClampNeg) then
      some (0 : Int32)
    else
      Option.bind (f_X0_nextGap (pp.1, pp.2.1, pp.2.2.1, pp.2.2.2.1, pp.2.2.2.2.1, pp.2.2.2.2.2.1, pp.2.2.2.2.2.2.1, pp.2.2.2.2.2.2.2.1, pp.2.2.2.2.2.2.2.2) (yy.1, yy.2.1, yy.2.2.1, yy.2.2.2.1, yy.2.2.2.2.1, yy.2.2.2.2.2.1, yy.2.2.2.2.2.2.1, yy.2.2.2.2.2.2.2.1, yy.2.2.2.2.2.2.2.2) i1) fun (o4 : Int32) =>
      if i2 < ((pp.2.2.2.2.2.1 i1.toNatClampNeg) + o4) then
        some (0 : Int32)
      else
        some (1 : Int32)
theorem f_X0_isDue_e (pp_0 : xF) (pp_1 : xF) (pp_2 : xF) (pp_3 : xF) (pp_4 : xF) (pp_5 : xF) (pp_6 : Int32) (pp_7 : Int32) (pp_8 : Int32) (yy_0 : Int32) (yy_1 : xF) (yy_2 : xF) (yy_3 : xF) (yy_4 : xF) (yy_5 : xF) (yy_6 : xF) (yy_7 : xF) (yy_8 : xF) (i1 : Int32) (i2 : Int32) : f_X0_isDue (pp_0, pp_1, pp_2, pp_3, pp_4, pp_5, pp_6, pp_7, pp_8) (yy_0, yy_1, yy_2, yy_3, yy_4, yy_5, yy_6, yy_7, yy_8) i1 i2 =
  if i1 < 0 ∨ 12 ≤ i1.toNatClampNeg then none else
  if (pp_3 i1.toNatClampNeg) < (yy_1 i1.toNatClampNeg) then
    some (0 : Int32)
  else
    if (yy_5 i1.toNatClampNeg) ≤ (pp_4 i1.toNatClampNeg) then
      some (0 : Int32)
    else
      Option.bind (f_X0_nextGap (pp_0, pp_1, pp_2, pp_3, pp_4, pp_5, pp_6, pp_7, pp_8) (yy_0, yy_1, yy_2, yy_3, yy_4, yy_5, yy_6, yy_7, yy_8) i1) fun (o4 : Int32) =>
      if i2 < ((pp_5 i1.toNatClampNeg) + o4) then
        some (0 : Int32)
      else
        some (1 : Int32) := rfl
set_option maxHeartbeats 4000000 in
set_option maxRecDepth 100000 in
theorem c_X0_isDue (l : Launch) (G : xG) (pa : (Nat → Nat)) (ya : (Nat → Nat)) (pp : xPL) (yy : xSY) (i1 : Int32) (i2 : Int32) (o : Int32) (h : f_X0_isDue pp yy i1 i2 = some o) : xk_CI l yX0_isDue wsX0_isDue ({ frames := 1, cells := 0, slots := 0, locals := 22 } : Room) 0 0 [.ref (pa 0), .int i1, .int i2, .ref (ya 0)] G (wPLc G pa pp.1 pp.2.1 pp.2.2.1 pp.2.2.2.1 pp.2.2.2.2.1 pp.2.2.2.2.2.1 pp.2.2.2.2.2.2.1 pp.2.2.2.2.2.2.2.1 pp.2.2.2.2.2.2.2.2 ++ (wSYc G ya yy.1 yy.2.1 yy.2.2.1 yy.2.2.2.1 yy.2.2.2.2.1 yy.2.2.2.2.2.1 yy.2.2.2.2.2.2.1 yy.2.2.2.2.2.2.2.1 yy.2.2.2.2.2.2.2.2)) (wPLc G pa pp.1 pp.2.1 pp.2.2.1 pp.2.2.2.1 pp.2.2.2.2.1 pp.2.2.2.2.2.1 pp.2.2.2.2.2.2.1 pp.2.2.2.2.2.2.2.1 pp.2.2.2.2.2.2.2.2 ++ (wSYc G ya yy.1 yy.2.1 yy.2.2.1 yy.2.2.2.1 yy.2.2.2.2.1 yy.2.2.2.2.2.1 yy.2.2.2.2.2.2.1 yy.2.2.2.2.2.2.2.1 yy.2.2.2.2.2.2.2.2)) o := by
  obtain ⟨pp_0, pp_1, pp_2, pp_3, pp_4, pp_5, pp_6, pp_7, pp_8⟩ := pp
  obtain ⟨yy_0, yy_1, yy_2, yy_3, yy_4, yy_5, yy_6, yy_7, yy_8⟩ := yy
  refine xk_CI.of (cc := cX0_isDue) (maxL := 4) (ret := (some .boolean)) (by decide) rfl (Nat.le_of_ble_eq_true rfl) ?_
  intro pr9 en9 s mm9 bl9 meth9 cd9 A ls H locs hx hb hr hml hts hown hlk hA hP hK hD hNE hS hl
  have hown : s.vm.findClass RX0 = some mm9.cls := hown
  have hl : lv_has ls 4 [(0, .ref (pa 0)), (1, .int i1), (2, .int i2), (3, .ref (ya 0))] := hl
  have hinX0 : ∀ w ∈ u_ws RX0 TX0 9, w ∈ wsX0_isDue := by decide +kernel
  have hinX1 : ∀ w ∈ u_ws RX1 TX1 9, w ∈ wsX0_isDue := by decide +kernel
  have hP : va_P G.1 vwCl (wPLc G pa pp_0 pp_1 pp_2 pp_3 pp_4 pp_5 pp_6 pp_7 pp_8 ++ (wSYc G ya yy_0 yy_1 yy_2 yy_3 yy_4 yy_5 yy_6 yy_7 yy_8)) H := hP
  have hD : va_D A (wPLc G pa pp_0 pp_1 pp_2 pp_3 pp_4 pp_5 pp_6 pp_7 pp_8 ++ (wSYc G ya yy_0 yy_1 yy_2 yy_3 yy_4 yy_5 yy_6 yy_7 yy_8)) := hD
  have h := (f_X0_isDue_e pp_0 pp_1 pp_2 pp_3 pp_4 pp_5 pp_6 pp_7 pp_8 yy_0 yy_1 yy_2 yy_3 yy_4 yy_5 yy_6 yy_7 yy_8 i1 i2).symm.trans h
  refine lv_aload_n hx hb dX0_isDue_0 rfl (lv_at hl 0 rfl) ?_
  refine va_get (D := G.1) (ci := 0) (v := .ref (pa 4)) (C := RX0) (T := TX0) (N := 9) hx hb hts hinX0 hown hK hP 0 rfl rfl 3 (by decide) (hts (.fieldLink RX0 21 "LessonWeave$Plan" "lessonsLaid" "[I") (by decide +kernel)) (fun _ h9 => h9) rfl dX0_isDue_1 ?_
  refine lv_iload_n hx hb dX0_isDue_4 rfl (lv_at hl 1 rfl) ?_
  obtain ⟨hin1, h⟩ := sp_g h
  refine va_iald hx hb hK hP 4 0 rfl rfl hin1 dX0_isDue_5 ?_
  refine lv_aload_n hx hb dX0_isDue_6 rfl (lv_at hl 3 rfl) ?_
  refine va_getN (D := G.1) (ci := 1) (v := .ref (ya 1)) (C := RX1) (T := TX1) (N := 9) hx hb hts hinX1 hown hK hP 7 rfl rfl 1 (by decide) (va_Nw.use rfl hNE.2.2.1) (fun _ h9 => h9) rfl dX0_isDue_7 ?_
  refine lv_iload_n hx hb dX0_isDue_10 rfl (lv_at hl 1 rfl) ?_
  refine va_iald hx hb hK hP 8 0 rfl rfl hin1 dX0_isDue_11 ?_
  refine lv_icmp_lt (tgt := 51) hx hb dX0_isDue_12 (by decide) (fun c2 => ?_) (fun c2 => ?_)
  · have h := sp_t c2 h
    refine lv_iconst (v := (0 : Int32)) hx hb dX0_isDue_51 (by decide) ?_
    obtain rfl := sp_s h
    exact xk_reZ hx hb hr hlk rfl hP hD hS rfl dX0_isDue_52
  · have h := sp_f c2 h
    refine lv_aload_n hx hb dX0_isDue_15 rfl (lv_at hl 0 rfl) ?_
    refine va_get (D := G.1) (ci := 0) (v := .ref (pa 5)) (C := RX0) (T := TX0) (N := 9) hx hb hts hinX0 hown hK hP 0 rfl rfl 4 (by decide) (hts (.fieldLink RX0 24 "LessonWeave$Plan" "revisitsLaid" "[I") (by decide +kernel)) (fun _ h9 => h9) rfl dX0_isDue_16 ?_
    refine lv_iload_n hx hb dX0_isDue_19 rfl (lv_at hl 1 rfl) ?_
    refine va_iald hx hb hK hP 5 0 rfl rfl hin1 dX0_isDue_20 ?_
    refine lv_aload_n hx hb dX0_isDue_21 rfl (lv_at hl 3 rfl) ?_
    refine va_getN (D := G.1) (ci := 1) (v := .ref (ya 5)) (C := RX1) (T := TX1) (N := 9) hx hb hts hinX1 hown hK hP 7 rfl rfl 5 (by decide) (va_Nw.use rfl hNE.2.2.2.2.2.2.1) (fun _ h9 => h9) rfl dX0_isDue_22 ?_
    refine lv_iload_n hx hb dX0_isDue_25 rfl (lv_at hl 1 rfl) ?_
    refine va_iald hx hb hK hP 12 0 rfl rfl hin1 dX0_isDue_26 ?_
    refine lv_icmp_ge (tgt := 51) hx hb dX0_isDue_27 (by decide) (fun c3 => ?_) (fun c3 => ?_)
    · have h := sp_t c3 h
      refine lv_iconst (v := (0 : Int32)) hx hb dX0_isDue_51 (by decide) ?_
      obtain rfl := sp_s h
      exact xk_reZ hx hb hr hlk rfl hP hD hS rfl dX0_isDue_52
    · have h := sp_f c3 h
      refine lv_iload_n hx hb dX0_isDue_30 rfl (lv_at hl 2 rfl) ?_
      refine lv_aload_n hx hb dX0_isDue_31 rfl (lv_at hl 0 rfl) ?_
      refine va_get (D := G.1) (ci := 0) (v := .ref (pa 6)) (C := RX0) (T := TX0) (N := 9) hx hb hts hinX0 hown hK hP 0 rfl rfl 5 (by decide) (hts (.fieldLink RX0 27 "LessonWeave$Plan" "since" "[I") (by decide +kernel)) (fun _ h9 => h9) rfl dX0_isDue_32 ?_
      refine lv_iload_n hx hb dX0_isDue_35 rfl (lv_at hl 1 rfl) ?_
      refine va_iald hx hb hK hP 6 0 rfl rfl hin1 dX0_isDue_36 ?_
      refine lv_aload_n hx hb dX0_isDue_37 rfl (lv_at hl 0 rfl) ?_
      refine lv_iload_n hx hb dX0_isDue_38 rfl (lv_at hl 1 rfl) ?_
      refine lv_aload_n hx hb dX0_isDue_39 rfl (lv_at hl 3 rfl) ?_
      obtain ⟨o4, ho4, h⟩ := sp_b h
      refine xk_ci (va_runV (As := [.int i1, .ref (ya 0)]) (rest := [.int (pp_5 i1.toNatClampNeg), .int i2]) ⟨hx, hb, hml, hown, hts⟩ (c_X0_nextGap l G pa ya (pp_0, pp_1, pp_2, pp_3, pp_4, pp_5, pp_6, pp_7, pp_8) (yy_0, yy_1, yy_2, yy_3, yy_4, yy_5, yy_6, yy_7, yy_8) i1 o4 ho4 H.size) (cwV 2 hts gX0_isDue_X0_nextGap rfl rfl rfl (by decide +kernel) ⟨Nat.le_of_ble_eq_true rfl, Nat.le_of_ble_eq_true rfl⟩) (xk_preV hK hNE (hP.sub (ws' := (wPLc G pa pp_0 pp_1 pp_2 pp_3 pp_4 pp_5 pp_6 pp_7 pp_8 ++ (wSYc G ya yy_0 yy_1 yy_2 yy_3 yy_4 yy_5 yy_6 yy_7 yy_8))) [0, 1, 2, 3, 4, 5, 6, 7, 8, 9, 10, 11, 12, 13, 14, 15] rfl) (hD.sub (ws' := (wPLc G pa pp_0 pp_1 pp_2 pp_3 pp_4 pp_5 pp_6 pp_7 pp_8 ++ (wSYc G ya yy_0 yy_1 yy_2 yy_3 yy_4 yy_5 yy_6 yy_7 yy_8))) [0, 1, 2, 3, 4, 5, 6, 7, 8, 9, 10, 11, 12, 13, 14, 15] (by decide) rfl) (ci := 0) rfl rfl) rfl rfl hl.1 rfl (lv_room (Nat.le_of_ble_eq_true rfl)) dX0_isDue_40 ⟨Nat.le_of_ble_eq_true rfl, Nat.le_of_ble_eq_true rfl⟩) hP hD hS hA [0, 1, 2, 3, 4, 5, 6, 7, 8, 9, 10, 11, 12, 13, 14, 15] [] [0, 1, 2, 3, 4, 5, 6, 7, 8, 9, 10, 11, 12, 13, 14, 15] rfl rfl (by decide) (by decide) rfl (by decide) (fun H locs hP hD hS => ?_)
      have hP : va_P G.1 vwCl (wPLc G pa pp_0 pp_1 pp_2 pp_3 pp_4 pp_5 pp_6 pp_7 pp_8 ++ (wSYc G ya yy_0 yy_1 yy_2 yy_3 yy_4 yy_5 yy_6 yy_7 yy_8)) H := hP
      have hD : va_D A (wPLc G pa pp_0 pp_1 pp_2 pp_3 pp_4 pp_5 pp_6 pp_7 pp_8 ++ (wSYc G ya yy_0 yy_1 yy_2 yy_3 yy_4 yy_5 yy_6 yy_7 yy_8)) := hD
      refine lv_iadd hx hb dX0_isDue_43 ?_
      refine lv_icmp_lt (tgt := 51) hx hb dX0_isDue_44 (by decide) (fun c5 => ?_) (fun c5 => ?_)
      · have h := sp_t c5 h
        refine lv_iconst (v := (0 : Int32)) hx hb dX0_isDue_51 (by decide) ?_
        obtain rfl := sp_s h
        exact xk_reZ hx hb hr hlk rfl hP hD hS rfl dX0_isDue_52
      · have h := sp_f c5 h
        refine lv_iconst (v := (1 : Int32)) hx hb dX0_isDue_47 (by decide) ?_
        refine lv_goto (tgt := 52) hx hb dX0_isDue_48 (by decide) ?_
        obtain rfl := sp_s h
        exact xk_reZ hx hb hr hlk rfl hP hD hS rfl dX0_isDue_52
def f_X0_lateFrom (pp : xPL) (yy : xSY) (i1 : Int32) : Option (Int32) :=
  if i1 < 0 ∨ 12 ≤ i1.toNatClampNeg then none else
  Option.bind (f_X0_nextGap (pp.1, pp.2.1, pp.2.2.1, pp.2.2.2.1, pp.2.2.2.2.1, pp.2.2.2.2.2.1, pp.2.2.2.2.2.2.1, pp.2.2.2.2.2.2.2.1, pp.2.2.2.2.2.2.2.2) (yy.1, yy.2.1, yy.2.2.1, yy.2.2.2.1, yy.2.2.2.2.1, yy.2.2.2.2.2.1, yy.2.2.2.2.2.2.1, yy.2.2.2.2.2.2.2.1, yy.2.2.2.2.2.2.2.2) i1) fun (o2 : Int32) =>
  some ((pp.2.2.2.2.2.1 i1.toNatClampNeg) + ((2 : Int32) * o2))
theorem f_X0_lateFrom_e (pp_0 : xF) (pp_1 : xF) (pp_2 : xF) (pp_3 : xF) (pp_4 : xF) (pp_5 : xF) (pp_6 : Int32) (pp_7 : Int32) (pp_8 : Int32) (yy_0 : Int32) (yy_1 : xF) (yy_2 : xF) (yy_3 : xF) (yy_4 : xF) (yy_5 : xF) (yy_6 : xF) (yy_7 : xF) (yy_8 : xF) (i1 : Int32) : f_X0_lateFrom (pp_0, pp_1, pp_2, pp_3, pp_4, pp_5, pp_6, pp_7, pp_8) (yy_0, yy_1, yy_2, yy_3, yy_4, yy_5, yy_6, yy_7, yy_8) i1 =
  if i1 < 0 ∨ 12 ≤ i1.toNatClampNeg then none else
  Option.bind (f_X0_nextGap (pp_0, pp_1, pp_2, pp_3, pp_4, pp_5, pp_6, pp_7, pp_8) (yy_0, yy_1, yy_2, yy_3, yy_4, yy_5, yy_6, yy_7, yy_8) i1) fun (o2 : Int32) =>
  some ((pp_5 i1.toNatClampNeg) + ((2 : Int32) * o2)) := rfl
set_option maxHeartbeats 4000000 in
set_option maxRecDepth 100000 in
theorem c_X0_lateFrom (l : Launch) (G : xG) (pa : (Nat → Nat)) (ya : (Nat → Nat)) (pp : xPL) (yy : xSY) (i1 : Int32) (o : Int32) (h : f_X0_lateFrom pp yy i1 = some o) : xk_CI l yX0_lateFrom wsX0_lateFrom ({ frames := 1, cells := 0, slots := 0, locals := 22 } : Room) 0 0 [.ref (pa 0), .int i1, .ref (ya 0)] G (wPLc G pa pp.1 pp.2.1 pp.2.2.1 pp.2.2.2.1 pp.2.2.2.2.1 pp.2.2.2.2.2.1 pp.2.2.2.2.2.2.1 pp.2.2.2.2.2.2.2.1 pp.2.2.2.2.2.2.2.2 ++ (wSYc G ya yy.1 yy.2.1 yy.2.2.1 yy.2.2.2.1 yy.2.2.2.2.1 yy.2.2.2.2.2.1 yy.2.2.2.2.2.2.1 yy.2.2.2.2.2.2.2.1 yy.2.2.2.2.2.2.2.2)) (wPLc G pa pp.1 pp.2.1 pp.2.2.1 pp.2.2.2.1 pp.2.2.2.2.1 pp.2.2.2.2.2.1 pp.2.2.2.2.2.2.1 pp.2.2.2.2.2.2.2.1 pp.2.2.2.2.2.2.2.2 ++ (wSYc G ya yy.1 yy.2.1 yy.2.2.1 yy.2.2.2.1 yy.2.2.2.2.1 yy.2.2.2.2.2.1 yy.2.2.2.2.2.2.1 yy.2.2.2.2.2.2.2.1 yy.2.2.2.2.2.2.2.2)) o := by
  obtain ⟨pp_0, pp_1, pp_2, pp_3, pp_4, pp_5, pp_6, pp_7, pp_8⟩ := pp
  obtain ⟨yy_0, yy_1, yy_2, yy_3, yy_4, yy_5, yy_6, yy_7, yy_8⟩ := yy
  refine xk_CI.of (cc := cX0_lateFrom) (maxL := 3) (ret := (some .int)) (by decide) rfl (Nat.le_of_ble_eq_true rfl) ?_
  intro pr9 en9 s mm9 bl9 meth9 cd9 A ls H locs hx hb hr hml hts hown hlk hA hP hK hD hNE hS hl
  have hown : s.vm.findClass RX0 = some mm9.cls := hown
  have hl : lv_has ls 3 [(0, .ref (pa 0)), (1, .int i1), (2, .ref (ya 0))] := hl
  have hinX0 : ∀ w ∈ u_ws RX0 TX0 9, w ∈ wsX0_lateFrom := by decide +kernel
  have hP : va_P G.1 vwCl (wPLc G pa pp_0 pp_1 pp_2 pp_3 pp_4 pp_5 pp_6 pp_7 pp_8 ++ (wSYc G ya yy_0 yy_1 yy_2 yy_3 yy_4 yy_5 yy_6 yy_7 yy_8)) H := hP
  have hD : va_D A (wPLc G pa pp_0 pp_1 pp_2 pp_3 pp_4 pp_5 pp_6 pp_7 pp_8 ++ (wSYc G ya yy_0 yy_1 yy_2 yy_3 yy_4 yy_5 yy_6 yy_7 yy_8)) := hD
  have h := (f_X0_lateFrom_e pp_0 pp_1 pp_2 pp_3 pp_4 pp_5 pp_6 pp_7 pp_8 yy_0 yy_1 yy_2 yy_3 yy_4 yy_5 yy_6 yy_7 yy_8 i1).symm.trans h
  refine lv_aload_n hx hb dX0_lateFrom_0 rfl (lv_at hl 0 rfl) ?_
  refine va_get (D := G.1) (ci := 0) (v := .ref (pa 6)) (C := RX0) (T := TX0) (N := 9) hx hb hts hinX0 hown hK hP 0 rfl rfl 5 (by decide) (hts (.fieldLink RX0 27 "LessonWeave$Plan" "since" "[I") (by decide +kernel)) (fun _ h9 => h9) rfl dX0_lateFrom_1 ?_
  refine lv_iload_n hx hb dX0_lateFrom_4 rfl (lv_at hl 1 rfl) ?_
  obtain ⟨hin1, h⟩ := sp_g h
  refine va_iald hx hb hK hP 6 0 rfl rfl hin1 dX0_lateFrom_5 ?_
  refine lv_iconst (v := (2 : Int32)) hx hb dX0_lateFrom_6 (by decide) ?_
  refine lv_aload_n hx hb dX0_lateFrom_7 rfl (lv_at hl 0 rfl) ?_
  refine lv_iload_n hx hb dX0_lateFrom_8 rfl (lv_at hl 1 rfl) ?_
  refine lv_aload_n hx hb dX0_lateFrom_9 rfl (lv_at hl 2 rfl) ?_
  obtain ⟨o2, ho2, h⟩ := sp_b h
  refine xk_ci (va_runV (As := [.int i1, .ref (ya 0)]) (rest := [.int (2 : Int32), .int (pp_5 i1.toNatClampNeg)]) ⟨hx, hb, hml, hown, hts⟩ (c_X0_nextGap l G pa ya (pp_0, pp_1, pp_2, pp_3, pp_4, pp_5, pp_6, pp_7, pp_8) (yy_0, yy_1, yy_2, yy_3, yy_4, yy_5, yy_6, yy_7, yy_8) i1 o2 ho2 H.size) (cwV 2 hts gX0_lateFrom_X0_nextGap rfl rfl rfl (by decide +kernel) ⟨Nat.le_of_ble_eq_true rfl, Nat.le_of_ble_eq_true rfl⟩) (xk_preV hK hNE (hP.sub (ws' := (wPLc G pa pp_0 pp_1 pp_2 pp_3 pp_4 pp_5 pp_6 pp_7 pp_8 ++ (wSYc G ya yy_0 yy_1 yy_2 yy_3 yy_4 yy_5 yy_6 yy_7 yy_8))) [0, 1, 2, 3, 4, 5, 6, 7, 8, 9, 10, 11, 12, 13, 14, 15] rfl) (hD.sub (ws' := (wPLc G pa pp_0 pp_1 pp_2 pp_3 pp_4 pp_5 pp_6 pp_7 pp_8 ++ (wSYc G ya yy_0 yy_1 yy_2 yy_3 yy_4 yy_5 yy_6 yy_7 yy_8))) [0, 1, 2, 3, 4, 5, 6, 7, 8, 9, 10, 11, 12, 13, 14, 15] (by decide) rfl) (ci := 0) rfl rfl) rfl rfl hl.1 rfl (lv_room (Nat.le_of_ble_eq_true rfl)) dX0_lateFrom_10 ⟨Nat.le_of_ble_eq_true rfl, Nat.le_of_ble_eq_true rfl⟩) hP hD hS hA [0, 1, 2, 3, 4, 5, 6, 7, 8, 9, 10, 11, 12, 13, 14, 15] [] [0, 1, 2, 3, 4, 5, 6, 7, 8, 9, 10, 11, 12, 13, 14, 15] rfl rfl (by decide) (by decide) rfl (by decide) (fun H locs hP hD hS => ?_)
  have hP : va_P G.1 vwCl (wPLc G pa pp_0 pp_1 pp_2 pp_3 pp_4 pp_5 pp_6 pp_7 pp_8 ++ (wSYc G ya yy_0 yy_1 yy_2 yy_3 yy_4 yy_5 yy_6 yy_7 yy_8)) H := hP
  have hD : va_D A (wPLc G pa pp_0 pp_1 pp_2 pp_3 pp_4 pp_5 pp_6 pp_7 pp_8 ++ (wSYc G ya yy_0 yy_1 yy_2 yy_3 yy_4 yy_5 yy_6 yy_7 yy_8)) := hD
  refine lv_imul hx hb dX0_lateFrom_13 ?_
  refine lv_iadd hx hb dX0_lateFrom_14 ?_
  obtain rfl := sp_s h
  exact xk_reI hx hb hr hlk hP hD hS rfl dX0_lateFrom_15
def f_X0_mostPressing_l8 (pp_0 : xF) (pp_1 : xF) (pp_2 : xF) (pp_3 : xF) (pp_4 : xF) (pp_5 : xF) (pp_6 : Int32) (pp_7 : Int32) (pp_8 : Int32) (yy_0 : Int32) (yy_1 : xF) (yy_2 : xF) (yy_3 : xF) (yy_4 : xF) (yy_5 : xF) (yy_6 : xF) (yy_7 : xF) (yy_8 : xF) (i1 : Int32) : Nat → Int32 → Int32 → Int32 → Option (Int32)
  | 0, _, _, _ => none
  | k9 + 1, x5_1, x4_1, x3_1 =>
    if yy_0 ≤ x5_1 then
      some x3_1
    else
      Option.bind (f_X0_isDue (pp_0, pp_1, pp_2, pp_3, pp_4, pp_5, pp_6, pp_7, pp_8) (yy_0, yy_1, yy_2, yy_3, yy_4, yy_5, yy_6, yy_7, yy_8) x5_1 i1) fun (o4 : Int32) =>
      if o4 = 0 then
        f_X0_mostPressing_l8 pp_0 pp_1 pp_2 pp_3 pp_4 pp_5 pp_6 pp_7 pp_8 yy_0 yy_1 yy_2 yy_3 yy_4 yy_5 yy_6 yy_7 yy_8 i1 k9 (x5_1 + (1 : Int32)) x4_1 x3_1
      else
        Option.bind (f_X0_lateFrom (pp_0, pp_1, pp_2, pp_3, pp_4, pp_5, pp_6, pp_7, pp_8) (yy_0, yy_1, yy_2, yy_3, yy_4, yy_5, yy_6, yy_7, yy_8) x5_1) fun (o6 : Int32) =>
        if x3_1 = ((-1) : Int32) then
          f_X0_mostPressing_l8 pp_0 pp_1 pp_2 pp_3 pp_4 pp_5 pp_6 pp_7 pp_8 yy_0 yy_1 yy_2 yy_3 yy_4 yy_5 yy_6 yy_7 yy_8 i1 k9 (x5_1 + (1 : Int32)) o6 x5_1
        else
          if x4_1 ≤ o6 then
            f_X0_mostPressing_l8 pp_0 pp_1 pp_2 pp_3 pp_4 pp_5 pp_6 pp_7 pp_8 yy_0 yy_1 yy_2 yy_3 yy_4 yy_5 yy_6 yy_7 yy_8 i1 k9 (x5_1 + (1 : Int32)) x4_1 x3_1
          else
            f_X0_mostPressing_l8 pp_0 pp_1 pp_2 pp_3 pp_4 pp_5 pp_6 pp_7 pp_8 yy_0 yy_1 yy_2 yy_3 yy_4 yy_5 yy_6 yy_7 yy_8 i1 k9 (x5_1 + (1 : Int32)) o6 x5_1
theorem f_X0_mostPressing_l8_z (pp_0 : xF) (pp_1 : xF) (pp_2 : xF) (pp_3 : xF) (pp_4 : xF) (pp_5 : xF) (pp_6 : Int32) (pp_7 : Int32) (pp_8 : Int32) (yy_0 : Int32) (yy_1 : xF) (yy_2 : xF) (yy_3 : xF) (yy_4 : xF) (yy_5 : xF) (yy_6 : xF) (yy_7 : xF) (yy_8 : xF) (i1 : Int32) (x5_1 : Int32) (x4_1 : Int32) (x3_1 : Int32) : f_X0_mostPressing_l8 pp_0 pp_1 pp_2 pp_3 pp_4 pp_5 pp_6 pp_7 pp_8 yy_0 yy_1 yy_2 yy_3 yy_4 yy_5 yy_6 yy_7 yy_8 i1 0 x5_1 x4_1 x3_1 = none := rfl
theorem f_X0_mostPressing_l8_s (pp_0 : xF) (pp_1 : xF) (pp_2 : xF) (pp_3 : xF) (pp_4 : xF) (pp_5 : xF) (pp_6 : Int32) (pp_7 : Int32) (pp_8 : Int32) (yy_0 : Int32) (yy_1 : xF) (yy_2 : xF) (yy_3 : xF) (yy_4 : xF) (yy_5 : xF) (yy_6 : xF) (yy_7 : xF) (yy_8 : xF) (i1 : Int32) (k9 : Nat) (x5_1 : Int32) (x4_1 : Int32) (x3_1 : Int32) : f_X0_mostPressing_l8 pp_0 pp_1 pp_2 pp_3 pp_4 pp_5 pp_6 pp_7 pp_8 yy_0 yy_1 yy_2 yy_3 yy_4 yy_5 yy_6 yy_7 yy_8 i1 (k9 + 1) x5_1 x4_1 x3_1 =
    if yy_0 ≤ x5_1 then
      some x3_1
    else
      Option.bind (f_X0_isDue (pp_0, pp_1, pp_2, pp_3, pp_4, pp_5, pp_6, pp_7, pp_8) (yy_0, yy_1, yy_2, yy_3, yy_4, yy_5, yy_6, yy_7, yy_8) x5_1 i1) fun (o4 : Int32) =>
      if o4 = 0 then
        f_X0_mostPressing_l8 pp_0 pp_1 pp_2 pp_3 pp_4 pp_5 pp_6 pp_7 pp_8 yy_0 yy_1 yy_2 yy_3 yy_4 yy_5 yy_6 yy_7 yy_8 i1 k9 (x5_1 + (1 : Int32)) x4_1 x3_1
      else
        Option.bind (f_X0_lateFrom (pp_0, pp_1, pp_2, pp_3, pp_4, pp_5, pp_6, pp_7, pp_8) (yy_0, yy_1, yy_2, yy_3, yy_4, yy_5, yy_6, yy_7, yy_8) x5_1) fun (o6 : Int32) =>
        if x3_1 = ((-1) : Int32) then
          f_X0_mostPressing_l8 pp_0 pp_1 pp_2 pp_3 pp_4 pp_5 pp_6 pp_7 pp_8 yy_0 yy_1 yy_2 yy_3 yy_4 yy_5 yy_6 yy_7 yy_8 i1 k9 (x5_1 + (1 : Int32)) o6 x5_1
        else
          if x4_1 ≤ o6 then
            f_X0_mostPressing_l8 pp_0 pp_1 pp_2 pp_3 pp_4 pp_5 pp_6 pp_7 pp_8 yy_0 yy_1 yy_2 yy_3 yy_4 yy_5 yy_6 yy_7 yy_8 i1 k9 (x5_1 + (1 : Int32)) x4_1 x3_1
          else
            f_X0_mostPressing_l8 pp_0 pp_1 pp_2 pp_3 pp_4 pp_5 pp_6 pp_7 pp_8 yy_0 yy_1 yy_2 yy_3 yy_4 yy_5 yy_6 yy_7 yy_8 i1 k9 (x5_1 + (1 : Int32)) o6 x5_1 := rfl
def f_X0_mostPressing (pp : xPL) (yy : xSY) (i1 : Int32) : Option (Int32) :=
  Option.bind (f_X0_mostPressing_l8 pp.1 pp.2.1 pp.2.2.1 pp.2.2.2.1 pp.2.2.2.2.1 pp.2.2.2.2.2.1 pp.2.2.2.2.2.2.1 pp.2.2.2.2.2.2.2.1 pp.2.2.2.2.2.2.2.2 yy.1 yy.2.1 yy.2.2.1 yy.2.2.2.1 yy.2.2.2.2.1 yy.2.2.2.2.2.1 yy.2.2.2.2.2.2.1 yy.2.2.2.2.2.2.2.1 yy.2.2.2.2.2.2.2.2 i1 300 (0 : Int32) (0 : Int32) ((-1) : Int32)) fun (w2 : Int32) =>
  some w2
theorem f_X0_mostPressing_e (pp_0 : xF) (pp_1 : xF) (pp_2 : xF) (pp_3 : xF) (pp_4 : xF) (pp_5 : xF) (pp_6 : Int32) (pp_7 : Int32) (pp_8 : Int32) (yy_0 : Int32) (yy_1 : xF) (yy_2 : xF) (yy_3 : xF) (yy_4 : xF) (yy_5 : xF) (yy_6 : xF) (yy_7 : xF) (yy_8 : xF) (i1 : Int32) : f_X0_mostPressing (pp_0, pp_1, pp_2, pp_3, pp_4, pp_5, pp_6, pp_7, pp_8) (yy_0, yy_1, yy_2, yy_3, yy_4, yy_5, yy_6, yy_7, yy_8) i1 =
  Option.bind (f_X0_mostPressing_l8 pp_0 pp_1 pp_2 pp_3 pp_4 pp_5 pp_6 pp_7 pp_8 yy_0 yy_1 yy_2 yy_3 yy_4 yy_5 yy_6 yy_7 yy_8 i1 300 (0 : Int32) (0 : Int32) ((-1) : Int32)) fun (w2 : Int32) =>
  some w2 := rfl
set_option maxHeartbeats 4000000 in
set_option maxRecDepth 100000 in
theorem c_X0_mostPressing (l : Launch) (G : xG) (pa : (Nat → Nat)) (ya : (Nat → Nat)) (pp : xPL) (yy : xSY) (i1 : Int32) (o : Int32) (h : f_X0_mostPressing pp yy i1 = some o) : xk_CI l yX0_mostPressing wsX0_mostPressing ({ frames := 2, cells := 0, slots := 0, locals := 45 } : Room) 0 0 [.ref (pa 0), .int i1, .ref (ya 0)] G (wPLc G pa pp.1 pp.2.1 pp.2.2.1 pp.2.2.2.1 pp.2.2.2.2.1 pp.2.2.2.2.2.1 pp.2.2.2.2.2.2.1 pp.2.2.2.2.2.2.2.1 pp.2.2.2.2.2.2.2.2 ++ (wSYc G ya yy.1 yy.2.1 yy.2.2.1 yy.2.2.2.1 yy.2.2.2.2.1 yy.2.2.2.2.2.1 yy.2.2.2.2.2.2.1 yy.2.2.2.2.2.2.2.1 yy.2.2.2.2.2.2.2.2)) (wPLc G pa pp.1 pp.2.1 pp.2.2.1 pp.2.2.2.1 pp.2.2.2.2.1 pp.2.2.2.2.2.1 pp.2.2.2.2.2.2.1 pp.2.2.2.2.2.2.2.1 pp.2.2.2.2.2.2.2.2 ++ (wSYc G ya yy.1 yy.2.1 yy.2.2.1 yy.2.2.2.1 yy.2.2.2.2.1 yy.2.2.2.2.2.1 yy.2.2.2.2.2.2.1 yy.2.2.2.2.2.2.2.1 yy.2.2.2.2.2.2.2.2)) o := by
  obtain ⟨pp_0, pp_1, pp_2, pp_3, pp_4, pp_5, pp_6, pp_7, pp_8⟩ := pp
  obtain ⟨yy_0, yy_1, yy_2, yy_3, yy_4, yy_5, yy_6, yy_7, yy_8⟩ := yy
  refine xk_CI.of (cc := cX0_mostPressing) (maxL := 7) (ret := (some .int)) (by decide) rfl (Nat.le_of_ble_eq_true rfl) ?_
  intro pr9 en9 s mm9 bl9 meth9 cd9 A ls H locs hx hb hr hml hts hown hlk hA hP hK hD hNE hS hl
  have hown : s.vm.findClass RX0 = some mm9.cls := hown
  have hl : lv_has ls 7 [(0, .ref (pa 0)), (1, .int i1), (2, .ref (ya 0))] := hl
  have hinX1 : ∀ w ∈ u_ws RX1 TX1 9, w ∈ wsX0_mostPressing := by decide +kernel
  have hP : va_P G.1 vwCl (wPLc G pa pp_0 pp_1 pp_2 pp_3 pp_4 pp_5 pp_6 pp_7 pp_8 ++ (wSYc G ya yy_0 yy_1 yy_2 yy_3 yy_4 yy_5 yy_6 yy_7 yy_8)) H := hP
  have hD : va_D A (wPLc G pa pp_0 pp_1 pp_2 pp_3 pp_4 pp_5 pp_6 pp_7 pp_8 ++ (wSYc G ya yy_0 yy_1 yy_2 yy_3 yy_4 yy_5 yy_6 yy_7 yy_8)) := hD
  have h := (f_X0_mostPressing_e pp_0 pp_1 pp_2 pp_3 pp_4 pp_5 pp_6 pp_7 pp_8 yy_0 yy_1 yy_2 yy_3 yy_4 yy_5 yy_6 yy_7 yy_8 i1).symm.trans h
  refine lv_iconst (v := ((-1) : Int32)) hx hb dX0_mostPressing_0 (by decide) ?_
  refine lv_istore_n (lv' := [(3, .int ((-1) : Int32)), (0, .ref (pa 0)), (1, .int i1), (2, .ref (ya 0))]) hx hb dX0_mostPressing_1 rfl hl (by decide) rfl (fun ls hl => ?_)
  refine lv_iconst (v := (0 : Int32)) hx hb dX0_mostPressing_2 (by decide) ?_
  refine lv_istore (lv' := [(4, .int (0 : Int32)), (3, .int ((-1) : Int32)), (0, .ref (pa 0)), (1, .int i1), (2, .ref (ya 0))]) hx hb dX0_mostPressing_3 hl (by decide) rfl (fun ls hl => ?_)
  refine lv_iconst (v := (0 : Int32)) hx hb dX0_mostPressing_5 (by decide) ?_
  refine lv_istore (lv' := [(5, .int (0 : Int32)), (4, .int (0 : Int32)), (3, .int ((-1) : Int32)), (0, .ref (pa 0)), (1, .int i1), (2, .ref (ya 0))]) hx hb dX0_mostPressing_6 hl (by decide) rfl (fun ls hl => ?_)
  obtain ⟨w2, hw2, h⟩ := sp_b h
  refine xk_jn G A s.heap (wPLc G pa pp_0 pp_1 pp_2 pp_3 pp_4 pp_5 pp_6 pp_7 pp_8 ++ (wSYc G ya yy_0 yy_1 yy_2 yy_3 yy_4 yy_5 yy_6 yy_7 yy_8)) 7 [(3, .int w2)] 65 [] (fun H locs hP hD hS ls hl => ?_) (fun J1 => ?_)
  · refine lv_iload_n hx hb dX0_mostPressing_65 rfl (lv_at hl 0 rfl) ?_
    obtain rfl := sp_s h
    exact xk_reI hx hb hr hlk hP hD hS rfl dX0_mostPressing_66
  · have h := hw2
    clear hw2
    refine xk_lp (α := Int32 × Int32 × Int32) G A s.heap (fun a_1 => (wPLc G pa pp_0 pp_1 pp_2 pp_3 pp_4 pp_5 pp_6 pp_7 pp_8 ++ (wSYc G ya yy_0 yy_1 yy_2 yy_3 yy_4 yy_5 yy_6 yy_7 yy_8))) 7 (fun a_1 => [(5, .int a_1.1), (4, .int a_1.2.1), (3, .int a_1.2.2), (0, .ref (pa 0)), (1, .int i1), (2, .ref (ya 0))]) 8 (fun n a_1 => f_X0_mostPressing_l8 pp_0 pp_1 pp_2 pp_3 pp_4 pp_5 pp_6 pp_7 pp_8 yy_0 yy_1 yy_2 yy_3 yy_4 yy_5 yy_6 yy_7 yy_8 i1 n a_1.1 a_1.2.1 a_1.2.2 = some w2) (fun a_1 h => ?_) (fun n ih_1 a_1 h H locs hP hD hS ls hl => ?_) (fun LL => ?_)
    · exact sp_n ((f_X0_mostPressing_l8_z _ _ _ _ _ _ _ _ _ _ _ _ _ _ _ _ _ _ _ _ _ _).symm.trans h)
    · obtain ⟨x5_1, x4_1, x3_1⟩ := a_1
      have h := (f_X0_mostPressing_l8_s pp_0 pp_1 pp_2 pp_3 pp_4 pp_5 pp_6 pp_7 pp_8 yy_0 yy_1 yy_2 yy_3 yy_4 yy_5 yy_6 yy_7 yy_8 i1 n x5_1 x4_1 x3_1).symm.trans h
      have hP : va_P G.1 vwCl (wPLc G pa pp_0 pp_1 pp_2 pp_3 pp_4 pp_5 pp_6 pp_7 pp_8 ++ (wSYc G ya yy_0 yy_1 yy_2 yy_3 yy_4 yy_5 yy_6 yy_7 yy_8)) H := hP
      have hD : va_D A (wPLc G pa pp_0 pp_1 pp_2 pp_3 pp_4 pp_5 pp_6 pp_7 pp_8 ++ (wSYc G ya yy_0 yy_1 yy_2 yy_3 yy_4 yy_5 yy_6 yy_7 yy_8)) := hD
      have hl : lv_has ls 7 [(5, .int x5_1), (4, .int x4_1), (3, .int x3_1), (0, .ref (pa 0)), (1, .int i1), (2, .ref (ya 0))] := hl
      refine lv_iload hx hb dX0_mostPressing_8 (lv_at hl 0 rfl) ?_
      refine lv_aload_n hx hb dX0_mostPressing_10 rfl (lv_at hl 5 rfl) ?_
      refine va_getN (D := G.1) (ci := 1) (v := .int yy_0) (C := RX1) (T := TX1) (N := 9) hx hb hts hinX1 hown hK hP 7 rfl rfl 0 (by decide) (va_Nw.use rfl hNE.2.1) (fun _ h9 => h9) rfl dX0_mostPressing_11 ?_
      refine lv_icmp_ge (tgt := 65) hx hb dX0_mostPressing_14 (by decide) (fun c3 => ?_) (fun c3 => ?_)
      · have h := sp_t c3 h
        obtain rfl := sp_s h
        exact J1 _ _ hP hD hS _ (lv_sub hl [2] rfl)
      · have h := sp_f c3 h
        refine lv_aload_n hx hb dX0_mostPressing_17 rfl (lv_at hl 3 rfl) ?_
        refine lv_iload hx hb dX0_mostPressing_18 (lv_at hl 0 rfl) ?_
        refine lv_iload_n hx hb dX0_mostPressing_20 rfl (lv_at hl 4 rfl) ?_
        refine lv_aload_n hx hb dX0_mostPressing_21 rfl (lv_at hl 5 rfl) ?_
        obtain ⟨o4, ho4, h⟩ := sp_b h
        refine xk_ci (va_runV (As := [.int x5_1, .int i1, .ref (ya 0)]) (rest := []) ⟨hx, hb, hml, hown, hts⟩ (c_X0_isDue l G pa ya (pp_0, pp_1, pp_2, pp_3, pp_4, pp_5, pp_6, pp_7, pp_8) (yy_0, yy_1, yy_2, yy_3, yy_4, yy_5, yy_6, yy_7, yy_8) x5_1 i1 o4 ho4 H.size) (cwV 3 hts gX0_mostPressing_X0_isDue rfl rfl rfl (by decide +kernel) ⟨Nat.le_of_ble_eq_true rfl, Nat.le_of_ble_eq_true rfl⟩) (xk_preV hK hNE (hP.sub (ws' := (wPLc G pa pp_0 pp_1 pp_2 pp_3 pp_4 pp_5 pp_6 pp_7 pp_8 ++ (wSYc G ya yy_0 yy_1 yy_2 yy_3 yy_4 yy_5 yy_6 yy_7 yy_8))) [0, 1, 2, 3, 4, 5, 6, 7, 8, 9, 10, 11, 12, 13, 14, 15] rfl) (hD.sub (ws' := (wPLc G pa pp_0 pp_1 pp_2 pp_3 pp_4 pp_5 pp_6 pp_7 pp_8 ++ (wSYc G ya yy_0 yy_1 yy_2 yy_3 yy_4 yy_5 yy_6 yy_7 yy_8))) [0, 1, 2, 3, 4, 5, 6, 7, 8, 9, 10, 11, 12, 13, 14, 15] (by decide) rfl) (ci := 0) rfl rfl) rfl rfl hl.1 rfl (lv_room (Nat.le_of_ble_eq_true rfl)) dX0_mostPressing_22 ⟨Nat.le_of_ble_eq_true rfl, Nat.le_of_ble_eq_true rfl⟩) hP hD hS hA [0, 1, 2, 3, 4, 5, 6, 7, 8, 9, 10, 11, 12, 13, 14, 15] [] [0, 1, 2, 3, 4, 5, 6, 7, 8, 9, 10, 11, 12, 13, 14, 15] rfl rfl (by decide) (by decide) rfl (by decide) (fun H locs hP hD hS => ?_)
        have hP : va_P G.1 vwCl (wPLc G pa pp_0 pp_1 pp_2 pp_3 pp_4 pp_5 pp_6 pp_7 pp_8 ++ (wSYc G ya yy_0 yy_1 yy_2 yy_3 yy_4 yy_5 yy_6 yy_7 yy_8)) H := hP
        have hD : va_D A (wPLc G pa pp_0 pp_1 pp_2 pp_3 pp_4 pp_5 pp_6 pp_7 pp_8 ++ (wSYc G ya yy_0 yy_1 yy_2 yy_3 yy_4 yy_5 yy_6 yy_7 yy_8)) := hD
        refine lv_if_ne (tgt := 31) hx hb dX0_mostPressing_25 (by decide) (fun c5 => ?_) (fun c5 => ?_)
        · have h := sp_f c5 h
          refine lv_aload_n hx hb dX0_mostPressing_31 rfl (lv_at hl 3 rfl) ?_
          refine lv_iload hx hb dX0_mostPressing_32 (lv_at hl 0 rfl) ?_
          refine lv_aload_n hx hb dX0_mostPressing_34 rfl (lv_at hl 5 rfl) ?_
          obtain ⟨o6, ho6, h⟩ := sp_b h
          refine xk_ci (va_runV (As := [.int x5_1, .ref (ya 0)]) (rest := []) ⟨hx, hb, hml, hown, hts⟩ (c_X0_lateFrom l G pa ya (pp_0, pp_1, pp_2, pp_3, pp_4, pp_5, pp_6, pp_7, pp_8) (yy_0, yy_1, yy_2, yy_3, yy_4, yy_5, yy_6, yy_7, yy_8) x5_1 o6 ho6 H.size) (cwV 2 hts gX0_mostPressing_X0_lateFrom rfl rfl rfl (by decide +kernel) ⟨Nat.le_of_ble_eq_true rfl, Nat.le_of_ble_eq_true rfl⟩) (xk_preV hK hNE (hP.sub (ws' := (wPLc G pa pp_0 pp_1 pp_2 pp_3 pp_4 pp_5 pp_6 pp_7 pp_8 ++ (wSYc G ya yy_0 yy_1 yy_2 yy_3 yy_4 yy_5 yy_6 yy_7 yy_8))) [0, 1, 2, 3, 4, 5, 6, 7, 8, 9, 10, 11, 12, 13, 14, 15] rfl) (hD.sub (ws' := (wPLc G pa pp_0 pp_1 pp_2 pp_3 pp_4 pp_5 pp_6 pp_7 pp_8 ++ (wSYc G ya yy_0 yy_1 yy_2 yy_3 yy_4 yy_5 yy_6 yy_7 yy_8))) [0, 1, 2, 3, 4, 5, 6, 7, 8, 9, 10, 11, 12, 13, 14, 15] (by decide) rfl) (ci := 0) rfl rfl) rfl rfl hl.1 rfl (lv_room (Nat.le_of_ble_eq_true rfl)) dX0_mostPressing_35 ⟨Nat.le_of_ble_eq_true rfl, Nat.le_of_ble_eq_true rfl⟩) hP hD hS hA [0, 1, 2, 3, 4, 5, 6, 7, 8, 9, 10, 11, 12, 13, 14, 15] [] [0, 1, 2, 3, 4, 5, 6, 7, 8, 9, 10, 11, 12, 13, 14, 15] rfl rfl (by decide) (by decide) rfl (by decide) (fun H locs hP hD hS => ?_)
          have hP : va_P G.1 vwCl (wPLc G pa pp_0 pp_1 pp_2 pp_3 pp_4 pp_5 pp_6 pp_7 pp_8 ++ (wSYc G ya yy_0 yy_1 yy_2 yy_3 yy_4 yy_5 yy_6 yy_7 yy_8)) H := hP
          have hD : va_D A (wPLc G pa pp_0 pp_1 pp_2 pp_3 pp_4 pp_5 pp_6 pp_7 pp_8 ++ (wSYc G ya yy_0 yy_1 yy_2 yy_3 yy_4 yy_5 yy_6 yy_7 yy_8)) := hD
          refine lv_istore (lv' := [(6, .int o6), (5, .int x5_1), (4, .int x4_1), (3, .int x3_1), (0, .ref (pa 0)), (1, .int i1), (2, .ref (ya 0))]) hx hb dX0_mostPressing_38 hl (by decide) rfl (fun ls hl => ?_)
          refine lv_iload_n hx hb dX0_mostPressing_40 rfl (lv_at hl 3 rfl) ?_
          refine lv_iconst (v := ((-1) : Int32)) hx hb dX0_mostPressing_41 (by decide) ?_
          refine lv_icmp_eq (tgt := 52) hx hb dX0_mostPressing_42 (by decide) (fun c7 => ?_) (fun c7 => ?_)
          · have h := sp_t c7 h
            refine lv_iload hx hb dX0_mostPressing_52 (lv_at hl 1 rfl) ?_
            refine lv_istore_n (lv' := [(3, .int x5_1), (6, .int o6), (5, .int x5_1), (4, .int x4_1), (0, .ref (pa 0)), (1, .int i1), (2, .ref (ya 0))]) hx hb dX0_mostPressing_54 rfl hl (by decide) rfl (fun ls hl => ?_)
            refine lv_iload hx hb dX0_mostPressing_55 (lv_at hl 1 rfl) ?_
            refine lv_istore (lv' := [(4, .int o6), (3, .int x5_1), (6, .int o6), (5, .int x5_1), (0, .ref (pa 0)), (1, .int i1), (2, .ref (ya 0))]) hx hb dX0_mostPressing_57 hl (by decide) rfl (fun ls hl => ?_)
            refine lv_iinc (v := (x5_1 + (1 : Int32))) (lv' := [(5, .int (x5_1 + (1 : Int32))), (4, .int o6), (3, .int x5_1), (6, .int o6), (0, .ref (pa 0)), (1, .int i1), (2, .ref (ya 0))]) hx hb dX0_mostPressing_59 hl (k := 3) rfl rfl (by decide) rfl (fun ls hl => ?_)
            refine lv_goto (tgt := 8) hx hb dX0_mostPressing_62 (by decide) ?_
            exact ih_1 ((x5_1 + (1 : Int32)), o6, x5_1) h _ _ hP hD hS _ (lv_sub hl [0, 1, 2, 4, 5, 6] rfl)
          · have h := sp_f c7 h
            refine lv_iload hx hb dX0_mostPressing_45 (lv_at hl 0 rfl) ?_
            refine lv_iload hx hb dX0_mostPressing_47 (lv_at hl 2 rfl) ?_
            refine lv_icmp_ge (tgt := 59) hx hb dX0_mostPressing_49 (by decide) (fun c8 => ?_) (fun c8 => ?_)
            · have h := sp_t c8 h
              refine lv_iinc (v := (x5_1 + (1 : Int32))) (lv' := [(5, .int (x5_1 + (1 : Int32))), (6, .int o6), (4, .int x4_1), (3, .int x3_1), (0, .ref (pa 0)), (1, .int i1), (2, .ref (ya 0))]) hx hb dX0_mostPressing_59 hl (k := 1) rfl rfl (by decide) rfl (fun ls hl => ?_)
              refine lv_goto (tgt := 8) hx hb dX0_mostPressing_62 (by decide) ?_
              exact ih_1 ((x5_1 + (1 : Int32)), x4_1, x3_1) h _ _ hP hD hS _ (lv_sub hl [0, 2, 3, 4, 5, 6] rfl)
            · have h := sp_f c8 h
              refine lv_iload hx hb dX0_mostPressing_52 (lv_at hl 1 rfl) ?_
              refine lv_istore_n (lv' := [(3, .int x5_1), (6, .int o6), (5, .int x5_1), (4, .int x4_1), (0, .ref (pa 0)), (1, .int i1), (2, .ref (ya 0))]) hx hb dX0_mostPressing_54 rfl hl (by decide) rfl (fun ls hl => ?_)
              refine lv_iload hx hb dX0_mostPressing_55 (lv_at hl 1 rfl) ?_
              refine lv_istore (lv' := [(4, .int o6), (3, .int x5_1), (6, .int o6), (5, .int x5_1), (0, .ref (pa 0)), (1, .int i1), (2, .ref (ya 0))]) hx hb dX0_mostPressing_57 hl (by decide) rfl (fun ls hl => ?_)
              refine lv_iinc (v := (x5_1 + (1 : Int32))) (lv' := [(5, .int (x5_1 + (1 : Int32))), (4, .int o6), (3, .int x5_1), (6, .int o6), (0, .ref (pa 0)), (1, .int i1), (2, .ref (ya 0))]) hx hb dX0_mostPressing_59 hl (k := 3) rfl rfl (by decide) rfl (fun ls hl => ?_)
              refine lv_goto (tgt := 8) hx hb dX0_mostPressing_62 (by decide) ?_
              exact ih_1 ((x5_1 + (1 : Int32)), o6, x5_1) h _ _ hP hD hS _ (lv_sub hl [0, 1, 2, 4, 5, 6] rfl)
        · have h := sp_t c5 h
          refine lv_goto (tgt := 59) hx hb dX0_mostPressing_28 (by decide) ?_
          refine lv_iinc (v := (x5_1 + (1 : Int32))) (lv' := [(5, .int (x5_1 + (1 : Int32))), (4, .int x4_1), (3, .int x3_1), (0, .ref (pa 0)), (1, .int i1), (2, .ref (ya 0))]) hx hb dX0_mostPressing_59 hl (k := 0) rfl rfl (by decide) rfl (fun ls hl => ?_)
          refine lv_goto (tgt := 8) hx hb dX0_mostPressing_62 (by decide) ?_
          exact ih_1 ((x5_1 + (1 : Int32)), x4_1, x3_1) h _ _ hP hD hS _ (lv_sub hl [0, 1, 2, 3, 4, 5] rfl)
    · exact LL 300 ((0 : Int32), (0 : Int32), ((-1) : Int32)) h _ _ hP hD hS _ (lv_sub hl [0, 1, 2, 3, 4, 5] rfl)
def f_X0_use (pp : xPL) (i1 : Int32) (i2 : Int32) (i3 : Int32) : Option (xF × xF × Int32 × Int32) :=
  if i1 < 0 ∨ 100 ≤ i1.toNatClampNeg then none else
  if i2 < 0 ∨ 12 ≤ i2.toNatClampNeg then none else
  some ((upd pp.1 i1.toNatClampNeg i3), (upd pp.2.2.2.2.2.1 i2.toNatClampNeg i1), (pp.2.2.2.2.2.2.1 + (1 : Int32)), i1)
theorem f_X0_use_e (pp_0 : xF) (pp_1 : xF) (pp_2 : xF) (pp_3 : xF) (pp_4 : xF) (pp_5 : xF) (pp_6 : Int32) (pp_7 : Int32) (pp_8 : Int32) (i1 : Int32) (i2 : Int32) (i3 : Int32) : f_X0_use (pp_0, pp_1, pp_2, pp_3, pp_4, pp_5, pp_6, pp_7, pp_8) i1 i2 i3 =
  if i1 < 0 ∨ 100 ≤ i1.toNatClampNeg then none else
  if i2 < 0 ∨ 12 ≤ i2.toNatClampNeg then none else
  some ((upd pp_0 i1.toNatClampNeg i3), (upd pp_5 i2.toNatClampNeg i1), (pp_6 + (1 : Int32)), i1) := rfl
set_option maxHeartbeats 4000000 in
set_option maxRecDepth 100000 in
theorem c_X0_use (l : Launch) (G : xG) (pa : (Nat → Nat)) (pp : xPL) (i1 : Int32) (i2 : Int32) (i3 : Int32) (o : xF × xF × Int32 × Int32) (h : f_X0_use pp i1 i2 i3 = some o) : xk_CV l yX0_use wsX0_use ({ frames := 0, cells := 0, slots := 0, locals := 0 } : Room) 0 0 [.ref (pa 0), .int i1, .int i2, .int i3] G (wPLc G pa pp.1 pp.2.1 pp.2.2.1 pp.2.2.2.1 pp.2.2.2.2.1 pp.2.2.2.2.2.1 pp.2.2.2.2.2.2.1 pp.2.2.2.2.2.2.2.1 pp.2.2.2.2.2.2.2.2) (wPLc G pa o.1 pp.2.1 pp.2.2.1 pp.2.2.2.1 pp.2.2.2.2.1 o.2.1 o.2.2.1 pp.2.2.2.2.2.2.2.1 o.2.2.2) := by
  obtain ⟨pp_0, pp_1, pp_2, pp_3, pp_4, pp_5, pp_6, pp_7, pp_8⟩ := pp
  refine xk_CV.of (cc := cX0_use) (maxL := 4) (ret := none) (by decide) rfl (Nat.le_of_ble_eq_true rfl) ?_
  intro pr9 en9 s mm9 bl9 meth9 cd9 A ls H locs hx hb hr hml hts hown hlk hA hP hK hD hNE hS hl
  have hown : s.vm.findClass RX0 = some mm9.cls := hown
  have hl : lv_has ls 4 [(0, .ref (pa 0)), (1, .int i1), (2, .int i2), (3, .int i3)] := hl
  have hinX0 : ∀ w ∈ u_ws RX0 TX0 9, w ∈ wsX0_use := by decide +kernel
  have hP : va_P G.1 vwCl (wPLc G pa pp_0 pp_1 pp_2 pp_3 pp_4 pp_5 pp_6 pp_7 pp_8) H := hP
  have hD : va_D A (wPLc G pa pp_0 pp_1 pp_2 pp_3 pp_4 pp_5 pp_6 pp_7 pp_8) := hD
  have h := (f_X0_use_e pp_0 pp_1 pp_2 pp_3 pp_4 pp_5 pp_6 pp_7 pp_8 i1 i2 i3).symm.trans h
  refine lv_aload_n hx hb dX0_use_0 rfl (lv_at hl 0 rfl) ?_
  refine va_get (D := G.1) (ci := 0) (v := .ref (pa 1)) (C := RX0) (T := TX0) (N := 9) hx hb hts hinX0 hown hK hP 0 rfl rfl 0 (by decide) (hts (.fieldLink RX0 9 "LessonWeave$Plan" "things" "[I") (by decide +kernel)) (fun _ h9 => h9) rfl dX0_use_1 ?_
  refine lv_iload_n hx hb dX0_use_4 rfl (lv_at hl 1 rfl) ?_
  refine lv_iload_n hx hb dX0_use_5 rfl (lv_at hl 3 rfl) ?_
  obtain ⟨hin1, h⟩ := sp_g h
  refine va_iast hx hb hK hP hD hS 1 0 rfl rfl hin1 dX0_use_6 (fun H locs hP hD hS => ?_)
  have hP : va_P G.1 vwCl (wPLc G pa (upd pp_0 i1.toNatClampNeg i3) pp_1 pp_2 pp_3 pp_4 pp_5 pp_6 pp_7 pp_8) H := hP
  have hD : va_D A (wPLc G pa (upd pp_0 i1.toNatClampNeg i3) pp_1 pp_2 pp_3 pp_4 pp_5 pp_6 pp_7 pp_8) := hD
  refine lv_aload_n hx hb dX0_use_7 rfl (lv_at hl 0 rfl) ?_
  refine va_get (D := G.1) (ci := 0) (v := .ref (pa 6)) (C := RX0) (T := TX0) (N := 9) hx hb hts hinX0 hown hK hP 0 rfl rfl 5 (by decide) (hts (.fieldLink RX0 27 "LessonWeave$Plan" "since" "[I") (by decide +kernel)) (fun _ h9 => h9) rfl dX0_use_8 ?_
  refine lv_iload_n hx hb dX0_use_11 rfl (lv_at hl 2 rfl) ?_
  refine lv_iload_n hx hb dX0_use_12 rfl (lv_at hl 1 rfl) ?_
  obtain ⟨hin2, h⟩ := sp_g h
  refine va_iast hx hb hK hP hD hS 6 0 rfl rfl hin2 dX0_use_13 (fun H locs hP hD hS => ?_)
  have hP : va_P G.1 vwCl (wPLc G pa (upd pp_0 i1.toNatClampNeg i3) pp_1 pp_2 pp_3 pp_4 (upd pp_5 i2.toNatClampNeg i1) pp_6 pp_7 pp_8) H := hP
  have hD : va_D A (wPLc G pa (upd pp_0 i1.toNatClampNeg i3) pp_1 pp_2 pp_3 pp_4 (upd pp_5 i2.toNatClampNeg i1) pp_6 pp_7 pp_8) := hD
  refine lv_aload_n hx hb dX0_use_14 rfl (lv_at hl 0 rfl) ?_
  refine lv_dup hx hb dX0_use_15 rfl ?_
  refine va_get (D := G.1) (ci := 0) (v := .int pp_6) (C := RX0) (T := TX0) (N := 9) hx hb hts hinX0 hown hK hP 0 rfl rfl 6 (by decide) (hts (.fieldLink RX0 39 "LessonWeave$Plan" "laidCount" "I") (by decide +kernel)) (fun _ h9 => h9) rfl dX0_use_16 ?_
  refine lv_iconst (v := (1 : Int32)) hx hb dX0_use_19 (by decide) ?_
  refine lv_iadd hx hb dX0_use_20 ?_
  refine va_put (D := G.1) (ci := 0) (v := .int (pp_6 + (1 : Int32))) (ty := .int) (C := RX0) (T := TX0) (N := 9) hx hb hts hinX0 tyX0 tyX0_ok nmX0 hown hK hP hD hS 0 rfl rfl 6 (by decide) (hts (.fieldLink RX0 39 "LessonWeave$Plan" "laidCount" "I") (by decide +kernel)) (fun _ h9 => h9) rfl (by decide +kernel) rfl rfl (Nat.le_of_ble_eq_true rfl) dX0_use_21 (fun H locs hP hD hS => ?_)
  have hP : va_P G.1 vwCl (wPLc G pa (upd pp_0 i1.toNatClampNeg i3) pp_1 pp_2 pp_3 pp_4 (upd pp_5 i2.toNatClampNeg i1) (pp_6 + (1 : Int32)) pp_7 pp_8) H := hP
  have hD : va_D A (wPLc G pa (upd pp_0 i1.toNatClampNeg i3) pp_1 pp_2 pp_3 pp_4 (upd pp_5 i2.toNatClampNeg i1) (pp_6 + (1 : Int32)) pp_7 pp_8) := hD
  refine lv_aload_n hx hb dX0_use_24 rfl (lv_at hl 0 rfl) ?_
  refine lv_iload_n hx hb dX0_use_25 rfl (lv_at hl 1 rfl) ?_
  refine va_put (D := G.1) (ci := 0) (v := .int i1) (ty := .int) (C := RX0) (T := TX0) (N := 9) hx hb hts hinX0 tyX0 tyX0_ok nmX0 hown hK hP hD hS 0 rfl rfl 8 (by decide) (hts (.fieldLink RX0 46 "LessonWeave$Plan" "lastUsed" "I") (by decide +kernel)) (fun _ h9 => h9) rfl (by decide +kernel) rfl rfl (Nat.le_of_ble_eq_true rfl) dX0_use_26 (fun H locs hP hD hS => ?_)
  have hP : va_P G.1 vwCl (wPLc G pa (upd pp_0 i1.toNatClampNeg i3) pp_1 pp_2 pp_3 pp_4 (upd pp_5 i2.toNatClampNeg i1) (pp_6 + (1 : Int32)) pp_7 i1) H := hP
  have hD : va_D A (wPLc G pa (upd pp_0 i1.toNatClampNeg i3) pp_1 pp_2 pp_3 pp_4 (upd pp_5 i2.toNatClampNeg i1) (pp_6 + (1 : Int32)) pp_7 i1) := hD
  obtain rfl := sp_s h
  exact xk_reV hx hb hr hlk hP hD hS dX0_use_29
def f_X0_layRevisit (pp : xPL) (yy : xSY) (i1 : Int32) (i2 : Int32) : Option (xF × xF × xF × xF × Int32 × Int32 × Int32) :=
  Option.bind (f_X0_lateFrom (pp.1, pp.2.1, pp.2.2.1, pp.2.2.2.1, pp.2.2.2.2.1, pp.2.2.2.2.2.1, pp.2.2.2.2.2.2.1, pp.2.2.2.2.2.2.2.1, pp.2.2.2.2.2.2.2.2) (yy.1, yy.2.1, yy.2.2.1, yy.2.2.2.1, yy.2.2.2.2.1, yy.2.2.2.2.2.1, yy.2.2.2.2.2.2.1, yy.2.2.2.2.2.2.2.1, yy.2.2.2.2.2.2.2.2) i1) fun (o1 : Int32) =>
  Option.bind (
    if i2 < o1 then
      some pp.2.2.2.2.2.2.2.1
    else
      some (pp.2.2.2.2.2.2.2.1 + (1 : Int32))) fun (v2 : Int32) =>
  if i1 < 0 ∨ 12 ≤ i1.toNatClampNeg then none else
  if ((i1 * (3 : Int32)) + (pp.2.2.2.2.1 i1.toNatClampNeg)) < 0 ∨ 36 ≤ ((i1 * (3 : Int32)) + (pp.2.2.2.2.1 i1.toNatClampNeg)).toNatClampNeg then none else
  Option.bind (f_X0_use (pp.1, pp.2.1, (upd pp.2.2.1 ((i1 * (3 : Int32)) + (pp.2.2.2.2.1 i1.toNatClampNeg)).toNatClampNeg i2), pp.2.2.2.1, (upd pp.2.2.2.2.1 i1.toNatClampNeg ((pp.2.2.2.2.1 i1.toNatClampNeg) + (1 : Int32))), pp.2.2.2.2.2.1, pp.2.2.2.2.2.2.1, v2, pp.2.2.2.2.2.2.2.2) i2 i1 ((100 : Int32) + i1)) fun (o5 : xF × xF × Int32 × Int32) =>
  some (o5.1, (upd pp.2.2.1 ((i1 * (3 : Int32)) + (pp.2.2.2.2.1 i1.toNatClampNeg)).toNatClampNeg i2), (upd pp.2.2.2.2.1 i1.toNatClampNeg ((pp.2.2.2.2.1 i1.toNatClampNeg) + (1 : Int32))), o5.2.1, o5.2.2.1, v2, o5.2.2.2)
theorem f_X0_layRevisit_e (pp_0 : xF) (pp_1 : xF) (pp_2 : xF) (pp_3 : xF) (pp_4 : xF) (pp_5 : xF) (pp_6 : Int32) (pp_7 : Int32) (pp_8 : Int32) (yy_0 : Int32) (yy_1 : xF) (yy_2 : xF) (yy_3 : xF) (yy_4 : xF) (yy_5 : xF) (yy_6 : xF) (yy_7 : xF) (yy_8 : xF) (i1 : Int32) (i2 : Int32) : f_X0_layRevisit (pp_0, pp_1, pp_2, pp_3, pp_4, pp_5, pp_6, pp_7, pp_8) (yy_0, yy_1, yy_2, yy_3, yy_4, yy_5, yy_6, yy_7, yy_8) i1 i2 =
  Option.bind (f_X0_lateFrom (pp_0, pp_1, pp_2, pp_3, pp_4, pp_5, pp_6, pp_7, pp_8) (yy_0, yy_1, yy_2, yy_3, yy_4, yy_5, yy_6, yy_7, yy_8) i1) fun (o1 : Int32) =>
  Option.bind (
    if i2 < o1 then
      some pp_7
    else
      some (pp_7 + (1 : Int32))) fun (v2 : Int32) =>
  if i1 < 0 ∨ 12 ≤ i1.toNatClampNeg then none else
  if ((i1 * (3 : Int32)) + (pp_4 i1.toNatClampNeg)) < 0 ∨ 36 ≤ ((i1 * (3 : Int32)) + (pp_4 i1.toNatClampNeg)).toNatClampNeg then none else
  Option.bind (f_X0_use (pp_0, pp_1, (upd pp_2 ((i1 * (3 : Int32)) + (pp_4 i1.toNatClampNeg)).toNatClampNeg i2), pp_3, (upd pp_4 i1.toNatClampNeg ((pp_4 i1.toNatClampNeg) + (1 : Int32))), pp_5, pp_6, v2, pp_8) i2 i1 ((100 : Int32) + i1)) fun (o5 : xF × xF × Int32 × Int32) =>
  some (o5.1, (upd pp_2 ((i1 * (3 : Int32)) + (pp_4 i1.toNatClampNeg)).toNatClampNeg i2), (upd pp_4 i1.toNatClampNeg ((pp_4 i1.toNatClampNeg) + (1 : Int32))), o5.2.1, o5.2.2.1, v2, o5.2.2.2) := rfl
set_option maxHeartbeats 4000000 in
set_option maxRecDepth 100000 in
theorem c_X0_layRevisit (l : Launch) (G : xG) (pa : (Nat → Nat)) (ya : (Nat → Nat)) (pp : xPL) (yy : xSY) (i1 : Int32) (i2 : Int32) (o : xF × xF × xF × xF × Int32 × Int32 × Int32) (h : f_X0_layRevisit pp yy i1 i2 = some o) : xk_CV l yX0_layRevisit wsX0_layRevisit ({ frames := 2, cells := 0, slots := 0, locals := 44 } : Room) 0 0 [.ref (pa 0), .int i1, .int i2, .ref (ya 0)] G (wPLc G pa pp.1 pp.2.1 pp.2.2.1 pp.2.2.2.1 pp.2.2.2.2.1 pp.2.2.2.2.2.1 pp.2.2.2.2.2.2.1 pp.2.2.2.2.2.2.2.1 pp.2.2.2.2.2.2.2.2 ++ (wSYc G ya yy.1 yy.2.1 yy.2.2.1 yy.2.2.2.1 yy.2.2.2.2.1 yy.2.2.2.2.2.1 yy.2.2.2.2.2.2.1 yy.2.2.2.2.2.2.2.1 yy.2.2.2.2.2.2.2.2)) (wPLc G pa o.1 pp.2.1 o.2.1 pp.2.2.2.1 o.2.2.1 o.2.2.2.1 o.2.2.2.2.1 o.2.2.2.2.2.1 o.2.2.2.2.2.2 ++ (wSYc G ya yy.1 yy.2.1 yy.2.2.1 yy.2.2.2.1 yy.2.2.2.2.1 yy.2.2.2.2.2.1 yy.2.2.2.2.2.2.1 yy.2.2.2.2.2.2.2.1 yy.2.2.2.2.2.2.2.2)) := by
  obtain ⟨pp_0, pp_1, pp_2, pp_3, pp_4, pp_5, pp_6, pp_7, pp_8⟩ := pp
  obtain ⟨yy_0, yy_1, yy_2, yy_3, yy_4, yy_5, yy_6, yy_7, yy_8⟩ := yy
  refine xk_CV.of (cc := cX0_layRevisit) (maxL := 4) (ret := none) (by decide) rfl (Nat.le_of_ble_eq_true rfl) ?_
  intro pr9 en9 s mm9 bl9 meth9 cd9 A ls H locs hx hb hr hml hts hown hlk hA hP hK hD hNE hS hl
  have hown : s.vm.findClass RX0 = some mm9.cls := hown
  have hl : lv_has ls 4 [(0, .ref (pa 0)), (1, .int i1), (2, .int i2), (3, .ref (ya 0))] := hl
  have hinX0 : ∀ w ∈ u_ws RX0 TX0 9, w ∈ wsX0_layRevisit := by decide +kernel
  have hP : va_P G.1 vwCl (wPLc G pa pp_0 pp_1 pp_2 pp_3 pp_4 pp_5 pp_6 pp_7 pp_8 ++ (wSYc G ya yy_0 yy_1 yy_2 yy_3 yy_4 yy_5 yy_6 yy_7 yy_8)) H := hP
  have hD : va_D A (wPLc G pa pp_0 pp_1 pp_2 pp_3 pp_4 pp_5 pp_6 pp_7 pp_8 ++ (wSYc G ya yy_0 yy_1 yy_2 yy_3 yy_4 yy_5 yy_6 yy_7 yy_8)) := hD
  have h := (f_X0_layRevisit_e pp_0 pp_1 pp_2 pp_3 pp_4 pp_5 pp_6 pp_7 pp_8 yy_0 yy_1 yy_2 yy_3 yy_4 yy_5 yy_6 yy_7 yy_8 i1 i2).symm.trans h
  refine lv_iload_n hx hb dX0_layRevisit_0 rfl (lv_at hl 2 rfl) ?_
  refine lv_aload_n hx hb dX0_layRevisit_1 rfl (lv_at hl 0 rfl) ?_
  refine lv_iload_n hx hb dX0_layRevisit_2 rfl (lv_at hl 1 rfl) ?_
  refine lv_aload_n hx hb dX0_layRevisit_3 rfl (lv_at hl 3 rfl) ?_
  obtain ⟨o1, ho1, h⟩ := sp_b h
  refine xk_ci (va_runV (As := [.int i1, .ref (ya 0)]) (rest := [.int i2]) ⟨hx, hb, hml, hown, hts⟩ (c_X0_lateFrom l G pa ya (pp_0, pp_1, pp_2, pp_3, pp_4, pp_5, pp_6, pp_7, pp_8) (yy_0, yy_1, yy_2, yy_3, yy_4, yy_5, yy_6, yy_7, yy_8) i1 o1 ho1 H.size) (cwV 2 hts gX0_layRevisit_X0_lateFrom rfl rfl rfl (by decide +kernel) ⟨Nat.le_of_ble_eq_true rfl, Nat.le_of_ble_eq_true rfl⟩) (xk_preV hK hNE (hP.sub (ws' := (wPLc G pa pp_0 pp_1 pp_2 pp_3 pp_4 pp_5 pp_6 pp_7 pp_8 ++ (wSYc G ya yy_0 yy_1 yy_2 yy_3 yy_4 yy_5 yy_6 yy_7 yy_8))) [0, 1, 2, 3, 4, 5, 6, 7, 8, 9, 10, 11, 12, 13, 14, 15] rfl) (hD.sub (ws' := (wPLc G pa pp_0 pp_1 pp_2 pp_3 pp_4 pp_5 pp_6 pp_7 pp_8 ++ (wSYc G ya yy_0 yy_1 yy_2 yy_3 yy_4 yy_5 yy_6 yy_7 yy_8))) [0, 1, 2, 3, 4, 5, 6, 7, 8, 9, 10, 11, 12, 13, 14, 15] (by decide) rfl) (ci := 0) rfl rfl) rfl rfl hl.1 rfl (lv_room (Nat.le_of_ble_eq_true rfl)) dX0_layRevisit_4 ⟨Nat.le_of_ble_eq_true rfl, Nat.le_of_ble_eq_true rfl⟩) hP hD hS hA [0, 1, 2, 3, 4, 5, 6, 7, 8, 9, 10, 11, 12, 13, 14, 15] [] [0, 1, 2, 3, 4, 5, 6, 7, 8, 9, 10, 11, 12, 13, 14, 15] rfl rfl (by decide) (by decide) rfl (by decide) (fun H locs hP hD hS => ?_)
  have hP : va_P G.1 vwCl (wPLc G pa pp_0 pp_1 pp_2 pp_3 pp_4 pp_5 pp_6 pp_7 pp_8 ++ (wSYc G ya yy_0 yy_1 yy_2 yy_3 yy_4 yy_5 yy_6 yy_7 yy_8)) H := hP
  have hD : va_D A (wPLc G pa pp_0 pp_1 pp_2 pp_3 pp_4 pp_5 pp_6 pp_7 pp_8 ++ (wSYc G ya yy_0 yy_1 yy_2 yy_3 yy_4 yy_5 yy_6 yy_7 yy_8)) := hD
  obtain ⟨v2, hv2, h⟩ := sp_b h
  refine xk_jn G A s.heap (wPLc G pa pp_0 pp_1 pp_2 pp_3 pp_4 pp_5 pp_6 v2 pp_8 ++ (wSYc G ya yy_0 yy_1 yy_2 yy_3 yy_4 yy_5 yy_6 yy_7 yy_8)) 4 [(0, .ref (pa 0)), (1, .int i1), (2, .int i2)] 20 [] (fun H locs hP hD hS ls hl => ?_) (fun J2 => ?_)
  · refine lv_aload_n hx hb dX0_layRevisit_20 rfl (lv_at hl 0 rfl) ?_
    refine va_get (D := G.1) (ci := 0) (v := .ref (pa 3)) (C := RX0) (T := TX0) (N := 9) hx hb hts hinX0 hown hK hP 0 rfl rfl 2 (by decide) (hts (.fieldLink RX0 18 "LessonWeave$Plan" "revisitDays" "[I") (by decide +kernel)) (fun _ h9 => h9) rfl dX0_layRevisit_21 ?_
    refine lv_iload_n hx hb dX0_layRevisit_24 rfl (lv_at hl 1 rfl) ?_
    refine lv_iconst (v := (3 : Int32)) hx hb dX0_layRevisit_25 (by decide) ?_
    refine lv_imul hx hb dX0_layRevisit_26 ?_
    refine lv_aload_n hx hb dX0_layRevisit_27 rfl (lv_at hl 0 rfl) ?_
    refine va_get (D := G.1) (ci := 0) (v := .ref (pa 5)) (C := RX0) (T := TX0) (N := 9) hx hb hts hinX0 hown hK hP 0 rfl rfl 4 (by decide) (hts (.fieldLink RX0 24 "LessonWeave$Plan" "revisitsLaid" "[I") (by decide +kernel)) (fun _ h9 => h9) rfl dX0_layRevisit_28 ?_
    refine lv_iload_n hx hb dX0_layRevisit_31 rfl (lv_at hl 1 rfl) ?_
    obtain ⟨hin3, h⟩ := sp_g h
    refine va_iald hx hb hK hP 5 0 rfl rfl hin3 dX0_layRevisit_32 ?_
    refine lv_iadd hx hb dX0_layRevisit_33 ?_
    refine lv_iload_n hx hb dX0_layRevisit_34 rfl (lv_at hl 2 rfl) ?_
    obtain ⟨hin4, h⟩ := sp_g h
    refine va_iast hx hb hK hP hD hS 3 0 rfl rfl hin4 dX0_layRevisit_35 (fun H locs hP hD hS => ?_)
    have hP : va_P G.1 vwCl (wPLc G pa pp_0 pp_1 (upd pp_2 ((i1 * (3 : Int32)) + (pp_4 i1.toNatClampNeg)).toNatClampNeg i2) pp_3 pp_4 pp_5 pp_6 v2 pp_8 ++ (wSYc G ya yy_0 yy_1 yy_2 yy_3 yy_4 yy_5 yy_6 yy_7 yy_8)) H := hP
    have hD : va_D A (wPLc G pa pp_0 pp_1 (upd pp_2 ((i1 * (3 : Int32)) + (pp_4 i1.toNatClampNeg)).toNatClampNeg i2) pp_3 pp_4 pp_5 pp_6 v2 pp_8 ++ (wSYc G ya yy_0 yy_1 yy_2 yy_3 yy_4 yy_5 yy_6 yy_7 yy_8)) := hD
    refine lv_aload_n hx hb dX0_layRevisit_36 rfl (lv_at hl 0 rfl) ?_
    refine va_get (D := G.1) (ci := 0) (v := .ref (pa 5)) (C := RX0) (T := TX0) (N := 9) hx hb hts hinX0 hown hK hP 0 rfl rfl 4 (by decide) (hts (.fieldLink RX0 24 "LessonWeave$Plan" "revisitsLaid" "[I") (by decide +kernel)) (fun _ h9 => h9) rfl dX0_layRevisit_37 ?_
    refine lv_iload_n hx hb dX0_layRevisit_40 rfl (lv_at hl 1 rfl) ?_
    refine lv_dup2_11 hx hb dX0_layRevisit_41 rfl rfl ?_
    refine va_iald hx hb hK hP 5 0 rfl rfl hin3 dX0_layRevisit_42 ?_
    refine lv_iconst (v := (1 : Int32)) hx hb dX0_layRevisit_43 (by decide) ?_
    refine lv_iadd hx hb dX0_layRevisit_44 ?_
    refine va_iast hx hb hK hP hD hS 5 0 rfl rfl hin3 dX0_layRevisit_45 (fun H locs hP hD hS => ?_)
    have hP : va_P G.1 vwCl (wPLc G pa pp_0 pp_1 (upd pp_2 ((i1 * (3 : Int32)) + (pp_4 i1.toNatClampNeg)).toNatClampNeg i2) pp_3 (upd pp_4 i1.toNatClampNeg ((pp_4 i1.toNatClampNeg) + (1 : Int32))) pp_5 pp_6 v2 pp_8 ++ (wSYc G ya yy_0 yy_1 yy_2 yy_3 yy_4 yy_5 yy_6 yy_7 yy_8)) H := hP
    have hD : va_D A (wPLc G pa pp_0 pp_1 (upd pp_2 ((i1 * (3 : Int32)) + (pp_4 i1.toNatClampNeg)).toNatClampNeg i2) pp_3 (upd pp_4 i1.toNatClampNeg ((pp_4 i1.toNatClampNeg) + (1 : Int32))) pp_5 pp_6 v2 pp_8 ++ (wSYc G ya yy_0 yy_1 yy_2 yy_3 yy_4 yy_5 yy_6 yy_7 yy_8)) := hD
    refine lv_aload_n hx hb dX0_layRevisit_46 rfl (lv_at hl 0 rfl) ?_
    refine lv_iload_n hx hb dX0_layRevisit_47 rfl (lv_at hl 2 rfl) ?_
    refine lv_iload_n hx hb dX0_layRevisit_48 rfl (lv_at hl 1 rfl) ?_
    refine lv_bipush (v := (100 : Int32)) hx hb dX0_layRevisit_49 (by decide) ?_
    refine lv_iload_n hx hb dX0_layRevisit_51 rfl (lv_at hl 1 rfl) ?_
    refine lv_iadd hx hb dX0_layRevisit_52 ?_
    obtain ⟨o5, ho5, h⟩ := sp_b h
    refine xk_cv (va_runV (As := [.int i2, .int i1, .int ((100 : Int32) + i1)]) (rest := []) ⟨hx, hb, hml, hown, hts⟩ (c_X0_use l G pa (pp_0, pp_1, (upd pp_2 ((i1 * (3 : Int32)) + (pp_4 i1.toNatClampNeg)).toNatClampNeg i2), pp_3, (upd pp_4 i1.toNatClampNeg ((pp_4 i1.toNatClampNeg) + (1 : Int32))), pp_5, pp_6, v2, pp_8) i2 i1 ((100 : Int32) + i1) o5 ho5 H.size) (cwV 3 hts gX0_layRevisit_X0_use rfl rfl rfl (by decide +kernel) ⟨Nat.le_of_ble_eq_true rfl, Nat.le_of_ble_eq_true rfl⟩) (xk_preV hK hNE (hP.sub (ws' := (wPLc G pa pp_0 pp_1 (upd pp_2 ((i1 * (3 : Int32)) + (pp_4 i1.toNatClampNeg)).toNatClampNeg i2) pp_3 (upd pp_4 i1.toNatClampNeg ((pp_4 i1.toNatClampNeg) + (1 : Int32))) pp_5 pp_6 v2 pp_8)) [0, 1, 2, 3, 4, 5, 6] rfl) (hD.sub (ws' := (wPLc G pa pp_0 pp_1 (upd pp_2 ((i1 * (3 : Int32)) + (pp_4 i1.toNatClampNeg)).toNatClampNeg i2) pp_3 (upd pp_4 i1.toNatClampNeg ((pp_4 i1.toNatClampNeg) + (1 : Int32))) pp_5 pp_6 v2 pp_8)) [0, 1, 2, 3, 4, 5, 6] (by decide) rfl) (ci := 0) rfl rfl) rfl rfl hl.1 rfl (lv_room (Nat.le_of_ble_eq_true rfl)) dX0_layRevisit_53 ⟨Nat.le_of_ble_eq_true rfl, Nat.le_of_ble_eq_true rfl⟩) hP hD hS hA [0, 1, 2, 3, 4, 5, 6] [7, 8, 9, 10, 11, 12, 13, 14, 15] [9, 10, 11, 12, 13, 14, 15, 0, 1, 2, 3, 4, 5, 6, 7, 8] rfl rfl (by decide) (by decide) rfl (by decide) (fun H locs hP hD hS => ?_)
    have hP : va_P G.1 vwCl (wPLc G pa o5.1 pp_1 (upd pp_2 ((i1 * (3 : Int32)) + (pp_4 i1.toNatClampNeg)).toNatClampNeg i2) pp_3 (upd pp_4 i1.toNatClampNeg ((pp_4 i1.toNatClampNeg) + (1 : Int32))) o5.2.1 o5.2.2.1 v2 o5.2.2.2 ++ (wSYc G ya yy_0 yy_1 yy_2 yy_3 yy_4 yy_5 yy_6 yy_7 yy_8)) H := hP
    have hD : va_D A (wPLc G pa o5.1 pp_1 (upd pp_2 ((i1 * (3 : Int32)) + (pp_4 i1.toNatClampNeg)).toNatClampNeg i2) pp_3 (upd pp_4 i1.toNatClampNeg ((pp_4 i1.toNatClampNeg) + (1 : Int32))) o5.2.1 o5.2.2.1 v2 o5.2.2.2 ++ (wSYc G ya yy_0 yy_1 yy_2 yy_3 yy_4 yy_5 yy_6 yy_7 yy_8)) := hD
    obtain rfl := sp_s h
    exact xk_reV hx hb hr hlk hP hD hS dX0_layRevisit_56
  · have h := hv2
    clear hv2
    refine lv_icmp_lt (tgt := 20) hx hb dX0_layRevisit_7 (by decide) (fun c6 => ?_) (fun c6 => ?_)
    · have h := sp_t c6 h
      obtain rfl := sp_s h
      exact J2 _ _ hP hD hS _ (lv_sub hl [0, 1, 2] rfl)
    · have h := sp_f c6 h
      refine lv_aload_n hx hb dX0_layRevisit_10 rfl (lv_at hl 0 rfl) ?_
      refine lv_dup hx hb dX0_layRevisit_11 rfl ?_
      refine va_get (D := G.1) (ci := 0) (v := .int pp_7) (C := RX0) (T := TX0) (N := 9) hx hb hts hinX0 hown hK hP 0 rfl rfl 7 (by decide) (hts (.fieldLink RX0 43 "LessonWeave$Plan" "lateCount" "I") (by decide +kernel)) (fun _ h9 => h9) rfl dX0_layRevisit_12 ?_
      refine lv_iconst (v := (1 : Int32)) hx hb dX0_layRevisit_15 (by decide) ?_
      refine lv_iadd hx hb dX0_layRevisit_16 ?_
      refine va_put (D := G.1) (ci := 0) (v := .int (pp_7 + (1 : Int32))) (ty := .int) (C := RX0) (T := TX0) (N := 9) hx hb hts hinX0 tyX0 tyX0_ok nmX0 hown hK hP hD hS 0 rfl rfl 7 (by decide) (hts (.fieldLink RX0 43 "LessonWeave$Plan" "lateCount" "I") (by decide +kernel)) (fun _ h9 => h9) rfl (by decide +kernel) rfl rfl (Nat.le_of_ble_eq_true rfl) dX0_layRevisit_17 (fun H locs hP hD hS => ?_)
      have hP : va_P G.1 vwCl (wPLc G pa pp_0 pp_1 pp_2 pp_3 pp_4 pp_5 pp_6 (pp_7 + (1 : Int32)) pp_8 ++ (wSYc G ya yy_0 yy_1 yy_2 yy_3 yy_4 yy_5 yy_6 yy_7 yy_8)) H := hP
      have hD : va_D A (wPLc G pa pp_0 pp_1 pp_2 pp_3 pp_4 pp_5 pp_6 (pp_7 + (1 : Int32)) pp_8 ++ (wSYc G ya yy_0 yy_1 yy_2 yy_3 yy_4 yy_5 yy_6 yy_7 yy_8)) := hD
      obtain rfl := sp_s h
      exact J2 _ _ hP hD hS _ (lv_sub hl [0, 1, 2] rfl)
def f_X0_firstUnfinished_l2 (pp_3 : xF) (yy_0 : Int32) (yy_1 : xF) (yy_8 : xF) : Nat → Int32 → Option (Int32)
  | 0, _ => none
  | k9 + 1, x2_1 =>
    if yy_0 ≤ x2_1 then
      some ((-1) : Int32)
    else
      if x2_1 < 0 ∨ 12 ≤ x2_1.toNatClampNeg then none else
      if (yy_8 x2_1.toNatClampNeg) < 0 ∨ 12 ≤ (yy_8 x2_1.toNatClampNeg).toNatClampNeg then none else
      if (yy_1 (yy_8 x2_1.toNatClampNeg).toNatClampNeg) ≤ (pp_3 (yy_8 x2_1.toNatClampNeg).toNatClampNeg) then
        f_X0_firstUnfinished_l2 pp_3 yy_0 yy_1 yy_8 k9 (x2_1 + (1 : Int32))
      else
        some (yy_8 x2_1.toNatClampNeg)
theorem f_X0_firstUnfinished_l2_z (pp_3 : xF) (yy_0 : Int32) (yy_1 : xF) (yy_8 : xF) (x2_1 : Int32) : f_X0_firstUnfinished_l2 pp_3 yy_0 yy_1 yy_8 0 x2_1 = none := rfl
theorem f_X0_firstUnfinished_l2_s (pp_3 : xF) (yy_0 : Int32) (yy_1 : xF) (yy_8 : xF) (k9 : Nat) (x2_1 : Int32) : f_X0_firstUnfinished_l2 pp_3 yy_0 yy_1 yy_8 (k9 + 1) x2_1 =
    if yy_0 ≤ x2_1 then
      some ((-1) : Int32)
    else
      if x2_1 < 0 ∨ 12 ≤ x2_1.toNatClampNeg then none else
      if (yy_8 x2_1.toNatClampNeg) < 0 ∨ 12 ≤ (yy_8 x2_1.toNatClampNeg).toNatClampNeg then none else
      if (yy_1 (yy_8 x2_1.toNatClampNeg).toNatClampNeg) ≤ (pp_3 (yy_8 x2_1.toNatClampNeg).toNatClampNeg) then
        f_X0_firstUnfinished_l2 pp_3 yy_0 yy_1 yy_8 k9 (x2_1 + (1 : Int32))
      else
        some (yy_8 x2_1.toNatClampNeg) := rfl
def f_X0_firstUnfinished (pp : xPL) (yy : xSY) : Option (Int32) :=
  f_X0_firstUnfinished_l2 pp.2.2.2.1 yy.1 yy.2.1 yy.2.2.2.2.2.2.2.2 300 (0 : Int32)
theorem f_X0_firstUnfinished_e (pp_0 : xF) (pp_1 : xF) (pp_2 : xF) (pp_3 : xF) (pp_4 : xF) (pp_5 : xF) (pp_6 : Int32) (pp_7 : Int32) (pp_8 : Int32) (yy_0 : Int32) (yy_1 : xF) (yy_2 : xF) (yy_3 : xF) (yy_4 : xF) (yy_5 : xF) (yy_6 : xF) (yy_7 : xF) (yy_8 : xF) : f_X0_firstUnfinished (pp_0, pp_1, pp_2, pp_3, pp_4, pp_5, pp_6, pp_7, pp_8) (yy_0, yy_1, yy_2, yy_3, yy_4, yy_5, yy_6, yy_7, yy_8) =
  f_X0_firstUnfinished_l2 pp_3 yy_0 yy_1 yy_8 300 (0 : Int32) := rfl
set_option maxHeartbeats 4000000 in
set_option maxRecDepth 100000 in
theorem c_X0_firstUnfinished (l : Launch) (G : xG) (pa : (Nat → Nat)) (ya : (Nat → Nat)) (pp : xPL) (yy : xSY) (o : Int32) (h : f_X0_firstUnfinished pp yy = some o) : xk_CI l yX0_firstUnfinished wsX0_firstUnfinished ({ frames := 0, cells := 0, slots := 0, locals := 0 } : Room) 0 0 [.ref (pa 0), .ref (ya 0)] G (wPLc G pa pp.1 pp.2.1 pp.2.2.1 pp.2.2.2.1 pp.2.2.2.2.1 pp.2.2.2.2.2.1 pp.2.2.2.2.2.2.1 pp.2.2.2.2.2.2.2.1 pp.2.2.2.2.2.2.2.2 ++ (wSYc G ya yy.1 yy.2.1 yy.2.2.1 yy.2.2.2.1 yy.2.2.2.2.1 yy.2.2.2.2.2.1 yy.2.2.2.2.2.2.1 yy.2.2.2.2.2.2.2.1 yy.2.2.2.2.2.2.2.2)) (wPLc G pa pp.1 pp.2.1 pp.2.2.1 pp.2.2.2.1 pp.2.2.2.2.1 pp.2.2.2.2.2.1 pp.2.2.2.2.2.2.1 pp.2.2.2.2.2.2.2.1 pp.2.2.2.2.2.2.2.2 ++ (wSYc G ya yy.1 yy.2.1 yy.2.2.1 yy.2.2.2.1 yy.2.2.2.2.1 yy.2.2.2.2.2.1 yy.2.2.2.2.2.2.1 yy.2.2.2.2.2.2.2.1 yy.2.2.2.2.2.2.2.2)) o := by
  obtain ⟨pp_0, pp_1, pp_2, pp_3, pp_4, pp_5, pp_6, pp_7, pp_8⟩ := pp
  obtain ⟨yy_0, yy_1, yy_2, yy_3, yy_4, yy_5, yy_6, yy_7, yy_8⟩ := yy
  refine xk_CI.of (cc := cX0_firstUnfinished) (maxL := 4) (ret := (some .int)) (by decide) rfl (Nat.le_of_ble_eq_true rfl) ?_
  intro pr9 en9 s mm9 bl9 meth9 cd9 A ls H locs hx hb hr hml hts hown hlk hA hP hK hD hNE hS hl
  have hown : s.vm.findClass RX0 = some mm9.cls := hown
  have hl : lv_has ls 4 [(0, .ref (pa 0)), (1, .ref (ya 0))] := hl
  have hinX0 : ∀ w ∈ u_ws RX0 TX0 9, w ∈ wsX0_firstUnfinished := by decide +kernel
  have hinX1 : ∀ w ∈ u_ws RX1 TX1 9, w ∈ wsX0_firstUnfinished := by decide +kernel
  have hP : va_P G.1 vwCl (wPLc G pa pp_0 pp_1 pp_2 pp_3 pp_4 pp_5 pp_6 pp_7 pp_8 ++ (wSYc G ya yy_0 yy_1 yy_2 yy_3 yy_4 yy_5 yy_6 yy_7 yy_8)) H := hP
  have hD : va_D A (wPLc G pa pp_0 pp_1 pp_2 pp_3 pp_4 pp_5 pp_6 pp_7 pp_8 ++ (wSYc G ya yy_0 yy_1 yy_2 yy_3 yy_4 yy_5 yy_6 yy_7 yy_8)) := hD
  have h := (f_X0_firstUnfinished_e pp_0 pp_1 pp_2 pp_3 pp_4 pp_5 pp_6 pp_7 pp_8 yy_0 yy_1 yy_2 yy_3 yy_4 yy_5 yy_6 yy_7 yy_8).symm.trans h
  refine lv_iconst (v := (0 : Int32)) hx hb dX0_firstUnfinished_0 (by decide) ?_
  refine lv_istore_n (lv' := [(2, .int (0 : Int32)), (0, .ref (pa 0)), (1, .ref (ya 0))]) hx hb dX0_firstUnfinished_1 rfl hl (by decide) rfl (fun ls hl => ?_)
  refine xk_lp (α := Int32) G A s.heap (fun x2_1 => (wPLc G pa pp_0 pp_1 pp_2 pp_3 pp_4 pp_5 pp_6 pp_7 pp_8 ++ (wSYc G ya yy_0 yy_1 yy_2 yy_3 yy_4 yy_5 yy_6 yy_7 yy_8))) 4 (fun x2_1 => [(2, .int x2_1), (0, .ref (pa 0)), (1, .ref (ya 0))]) 2 (fun n x2_1 => f_X0_firstUnfinished_l2 pp_3 yy_0 yy_1 yy_8 n x2_1 = some o) (fun x2_1 h => ?_) (fun n ih_1 x2_1 h H locs hP hD hS ls hl => ?_) (fun LL => ?_)
  · exact sp_n ((f_X0_firstUnfinished_l2_z _ _ _ _ _).symm.trans h)
  · have h := (f_X0_firstUnfinished_l2_s pp_3 yy_0 yy_1 yy_8 n x2_1).symm.trans h
    have hP : va_P G.1 vwCl (wPLc G pa pp_0 pp_1 pp_2 pp_3 pp_4 pp_5 pp_6 pp_7 pp_8 ++ (wSYc G ya yy_0 yy_1 yy_2 yy_3 yy_4 yy_5 yy_6 yy_7 yy_8)) H := hP
    have hD : va_D A (wPLc G pa pp_0 pp_1 pp_2 pp_3 pp_4 pp_5 pp_6 pp_7 pp_8 ++ (wSYc G ya yy_0 yy_1 yy_2 yy_3 yy_4 yy_5 yy_6 yy_7 yy_8)) := hD
    have hl : lv_has ls 4 [(2, .int x2_1), (0, .ref (pa 0)), (1, .ref (ya 0))] := hl
    refine lv_iload_n hx hb dX0_firstUnfinished_2 rfl (lv_at hl 0 rfl) ?_
    refine lv_aload_n hx hb dX0_firstUnfinished_3 rfl (lv_at hl 2 rfl) ?_
    refine va_getN (D := G.1) (ci := 1) (v := .int yy_0) (C := RX1) (T := TX1) (N := 9) hx hb hts hinX1 hown hK hP 7 rfl rfl 0 (by decide) (va_Nw.use rfl hNE.2.1) (fun _ h9 => h9) rfl dX0_firstUnfinished_4 ?_
    refine lv_icmp_ge (tgt := 40) hx hb dX0_firstUnfinished_7 (by decide) (fun c2 => ?_) (fun c2 => ?_)
    · have h := sp_t c2 h
      refine lv_iconst (v := ((-1) : Int32)) hx hb dX0_firstUnfinished_40 (by decide) ?_
      obtain rfl := sp_s h
      exact xk_reI hx hb hr hlk hP hD hS rfl dX0_firstUnfinished_41
    · have h := sp_f c2 h
      refine lv_aload_n hx hb dX0_firstUnfinished_10 rfl (lv_at hl 2 rfl) ?_
      refine va_getN (D := G.1) (ci := 1) (v := .ref (ya 8)) (C := RX1) (T := TX1) (N := 9) hx hb hts hinX1 hown hK hP 7 rfl rfl 8 (by decide) (va_Nw.use rfl hNE.2.2.2.2.2.2.2.2.2.2.2.1) (fun _ h9 => h9) rfl dX0_firstUnfinished_11 ?_
      refine lv_iload_n hx hb dX0_firstUnfinished_14 rfl (lv_at hl 0 rfl) ?_
      obtain ⟨hin3, h⟩ := sp_g h
      refine va_iald hx hb hK hP 15 0 rfl rfl hin3 dX0_firstUnfinished_15 ?_
      refine lv_istore_n (lv' := [(3, .int (yy_8 x2_1.toNatClampNeg)), (2, .int x2_1), (0, .ref (pa 0)), (1, .ref (ya 0))]) hx hb dX0_firstUnfinished_16 rfl hl (by decide) rfl (fun ls hl => ?_)
      refine lv_aload_n hx hb dX0_firstUnfinished_17 rfl (lv_at hl 2 rfl) ?_
      refine va_get (D := G.1) (ci := 0) (v := .ref (pa 4)) (C := RX0) (T := TX0) (N := 9) hx hb hts hinX0 hown hK hP 0 rfl rfl 3 (by decide) (hts (.fieldLink RX0 21 "LessonWeave$Plan" "lessonsLaid" "[I") (by decide +kernel)) (fun _ h9 => h9) rfl dX0_firstUnfinished_18 ?_
      refine lv_iload_n hx hb dX0_firstUnfinished_21 rfl (lv_at hl 0 rfl) ?_
      obtain ⟨hin4, h⟩ := sp_g h
      refine va_iald hx hb hK hP 4 0 rfl rfl hin4 dX0_firstUnfinished_22 ?_
      refine lv_aload_n hx hb dX0_firstUnfinished_23 rfl (lv_at hl 3 rfl) ?_
      refine va_getN (D := G.1) (ci := 1) (v := .ref (ya 1)) (C := RX1) (T := TX1) (N := 9) hx hb hts hinX1 hown hK hP 7 rfl rfl 1 (by decide) (va_Nw.use rfl hNE.2.2.1) (fun _ h9 => h9) rfl dX0_firstUnfinished_24 ?_
      refine lv_iload_n hx hb dX0_firstUnfinished_27 rfl (lv_at hl 0 rfl) ?_
      refine va_iald hx hb hK hP 8 0 rfl rfl hin4 dX0_firstUnfinished_28 ?_
      refine lv_icmp_ge (tgt := 34) hx hb dX0_firstUnfinished_29 (by decide) (fun c5 => ?_) (fun c5 => ?_)
      · have h := sp_t c5 h
        refine lv_iinc (v := (x2_1 + (1 : Int32))) (lv' := [(2, .int (x2_1 + (1 : Int32))), (3, .int (yy_8 x2_1.toNatClampNeg)), (0, .ref (pa 0)), (1, .ref (ya 0))]) hx hb dX0_firstUnfinished_34 hl (k := 1) rfl rfl (by decide) rfl (fun ls hl => ?_)
        refine lv_goto (tgt := 2) hx hb dX0_firstUnfinished_37 (by decide) ?_
        exact ih_1 (x2_1 + (1 : Int32)) h _ _ hP hD hS _ (lv_sub hl [0, 2, 3] rfl)
      · have h := sp_f c5 h
        refine lv_iload_n hx hb dX0_firstUnfinished_32 rfl (lv_at hl 0 rfl) ?_
        obtain rfl := sp_s h
        exact xk_reI hx hb hr hlk hP hD hS rfl dX0_firstUnfinished_33
  · exact LL 300 (0 : Int32) h _ _ hP hD hS _ (lv_sub hl [0, 1, 2] rfl)
def f_X0_isOthersLesson (yy : xSY) (i0 : Int32) (i1 : Int32) : Option (Int32) :=
  if i0 < 0 then
    some (0 : Int32)
  else
    if yy.1 ≤ i0 then
      some (0 : Int32)
    else
      if i0 = i1 then
        some (0 : Int32)
      else
        some (1 : Int32)
theorem f_X0_isOthersLesson_e (yy_0 : Int32) (yy_1 : xF) (yy_2 : xF) (yy_3 : xF) (yy_4 : xF) (yy_5 : xF) (yy_6 : xF) (yy_7 : xF) (yy_8 : xF) (i0 : Int32) (i1 : Int32) : f_X0_isOthersLesson (yy_0, yy_1, yy_2, yy_3, yy_4, yy_5, yy_6, yy_7, yy_8) i0 i1 =
  if i0 < 0 then
    some (0 : Int32)
  else
    if yy_0 ≤ i0 then
      some (0 : Int32)
    else
      if i0 = i1 then
        some (0 : Int32)
      else
        some (1 : Int32) := rfl
set_option maxHeartbeats 4000000 in
set_option maxRecDepth 100000 in
theorem c_X0_isOthersLesson (l : Launch) (G : xG) (ya : (Nat → Nat)) (yy : xSY) (i0 : Int32) (i1 : Int32) (o : Int32) (h : f_X0_isOthersLesson yy i0 i1 = some o) : xk_CI l yX0_isOthersLesson wsX0_isOthersLesson ({ frames := 0, cells := 0, slots := 0, locals := 0 } : Room) 0 0 [.int i0, .int i1, .ref (ya 0)] G (wSYc G ya yy.1 yy.2.1 yy.2.2.1 yy.2.2.2.1 yy.2.2.2.2.1 yy.2.2.2.2.2.1 yy.2.2.2.2.2.2.1 yy.2.2.2.2.2.2.2.1 yy.2.2.2.2.2.2.2.2) (wSYc G ya yy.1 yy.2.1 yy.2.2.1 yy.2.2.2.1 yy.2.2.2.2.1 yy.2.2.2.2.2.1 yy.2.2.2.2.2.2.1 yy.2.2.2.2.2.2.2.1 yy.2.2.2.2.2.2.2.2) o := by
  obtain ⟨yy_0, yy_1, yy_2, yy_3, yy_4, yy_5, yy_6, yy_7, yy_8⟩ := yy
  refine xk_CI.of (cc := cX0_isOthersLesson) (maxL := 3) (ret := (some .boolean)) (by decide) rfl (Nat.le_of_ble_eq_true rfl) ?_
  intro pr9 en9 s mm9 bl9 meth9 cd9 A ls H locs hx hb hr hml hts hown hlk hA hP hK hD hNE hS hl
  have hown : s.vm.findClass RX0 = some mm9.cls := hown
  have hl : lv_has ls 3 [(0, .int i0), (1, .int i1), (2, .ref (ya 0))] := hl
  have hinX1 : ∀ w ∈ u_ws RX1 TX1 9, w ∈ wsX0_isOthersLesson := by decide +kernel
  have hP : va_P G.1 vwCl (wSYc G ya yy_0 yy_1 yy_2 yy_3 yy_4 yy_5 yy_6 yy_7 yy_8) H := hP
  have hD : va_D A (wSYc G ya yy_0 yy_1 yy_2 yy_3 yy_4 yy_5 yy_6 yy_7 yy_8) := hD
  have h := (f_X0_isOthersLesson_e yy_0 yy_1 yy_2 yy_3 yy_4 yy_5 yy_6 yy_7 yy_8 i0 i1).symm.trans h
  refine lv_iload_n hx hb dX0_isOthersLesson_0 rfl (lv_at hl 0 rfl) ?_
  refine lv_if_lt (tgt := 21) hx hb dX0_isOthersLesson_1 (by decide) (fun c1 => ?_) (fun c1 => ?_)
  · have h := sp_t c1 h
    refine lv_iconst (v := (0 : Int32)) hx hb dX0_isOthersLesson_21 (by decide) ?_
    obtain rfl := sp_s h
    exact xk_reZ hx hb hr hlk rfl hP hD hS rfl dX0_isOthersLesson_22
  · have h := sp_f c1 h
    refine lv_iload_n hx hb dX0_isOthersLesson_4 rfl (lv_at hl 0 rfl) ?_
    refine lv_aload_n hx hb dX0_isOthersLesson_5 rfl (lv_at hl 2 rfl) ?_
    refine va_getN (D := G.1) (ci := 1) (v := .int yy_0) (C := RX1) (T := TX1) (N := 9) hx hb hts hinX1 hown hK hP 0 rfl rfl 0 (by decide) (va_Nw.use rfl hNE.2.1) (fun _ h9 => h9) rfl dX0_isOthersLesson_6 ?_
    refine lv_icmp_ge (tgt := 21) hx hb dX0_isOthersLesson_9 (by decide) (fun c2 => ?_) (fun c2 => ?_)
    · have h := sp_t c2 h
      refine lv_iconst (v := (0 : Int32)) hx hb dX0_isOthersLesson_21 (by decide) ?_
      obtain rfl := sp_s h
      exact xk_reZ hx hb hr hlk rfl hP hD hS rfl dX0_isOthersLesson_22
    · have h := sp_f c2 h
      refine lv_iload_n hx hb dX0_isOthersLesson_12 rfl (lv_at hl 0 rfl) ?_
      refine lv_iload_n hx hb dX0_isOthersLesson_13 rfl (lv_at hl 1 rfl) ?_
      refine lv_icmp_eq (tgt := 21) hx hb dX0_isOthersLesson_14 (by decide) (fun c3 => ?_) (fun c3 => ?_)
      · have h := sp_t c3 h
        refine lv_iconst (v := (0 : Int32)) hx hb dX0_isOthersLesson_21 (by decide) ?_
        obtain rfl := sp_s h
        exact xk_reZ hx hb hr hlk rfl hP hD hS rfl dX0_isOthersLesson_22
      · have h := sp_f c3 h
        refine lv_iconst (v := (1 : Int32)) hx hb dX0_isOthersLesson_17 (by decide) ?_
        refine lv_goto (tgt := 22) hx hb dX0_isOthersLesson_18 (by decide) ?_
        obtain rfl := sp_s h
        exact xk_reZ hx hb hr hlk rfl hP hD hS rfl dX0_isOthersLesson_22
def f_X0_isKitTaken_l17 (pp_0 : xF) (yy_0 : Int32) (yy_1 : xF) (yy_2 : xF) (yy_3 : xF) (yy_4 : xF) (yy_5 : xF) (yy_6 : xF) (yy_7 : xF) (yy_8 : xF) (i1 : Int32) (i2 : Int32) : Nat → Int32 → Option (Int32)
  | 0, _ => none
  | k9 + 1, x4_3 =>
    if i2 ≤ x4_3 then
      some (0 : Int32)
    else
      if x4_3 < 0 then
        f_X0_isKitTaken_l17 pp_0 yy_0 yy_1 yy_2 yy_3 yy_4 yy_5 yy_6 yy_7 yy_8 i1 i2 k9 (x4_3 + (1 : Int32))
      else
        if x4_3 < 0 ∨ 100 ≤ x4_3.toNatClampNeg then none else
        Option.bind (f_X0_isOthersLesson (yy_0, yy_1, yy_2, yy_3, yy_4, yy_5, yy_6, yy_7, yy_8) (pp_0 x4_3.toNatClampNeg) i1) fun (o7 : Int32) =>
        if o7 = 0 then
          f_X0_isKitTaken_l17 pp_0 yy_0 yy_1 yy_2 yy_3 yy_4 yy_5 yy_6 yy_7 yy_8 i1 i2 k9 (x4_3 + (1 : Int32))
        else
          if (pp_0 x4_3.toNatClampNeg) < 0 ∨ 12 ≤ (pp_0 x4_3.toNatClampNeg).toNatClampNeg then none else
          if (yy_4 (pp_0 x4_3.toNatClampNeg).toNatClampNeg) = (yy_4 i1.toNatClampNeg) then
            some (1 : Int32)
          else
            f_X0_isKitTaken_l17 pp_0 yy_0 yy_1 yy_2 yy_3 yy_4 yy_5 yy_6 yy_7 yy_8 i1 i2 k9 (x4_3 + (1 : Int32))
theorem f_X0_isKitTaken_l17_z (pp_0 : xF) (yy_0 : Int32) (yy_1 : xF) (yy_2 : xF) (yy_3 : xF) (yy_4 : xF) (yy_5 : xF) (yy_6 : xF) (yy_7 : xF) (yy_8 : xF) (i1 : Int32) (i2 : Int32) (x4_3 : Int32) : f_X0_isKitTaken_l17 pp_0 yy_0 yy_1 yy_2 yy_3 yy_4 yy_5 yy_6 yy_7 yy_8 i1 i2 0 x4_3 = none := rfl
theorem f_X0_isKitTaken_l17_s (pp_0 : xF) (yy_0 : Int32) (yy_1 : xF) (yy_2 : xF) (yy_3 : xF) (yy_4 : xF) (yy_5 : xF) (yy_6 : xF) (yy_7 : xF) (yy_8 : xF) (i1 : Int32) (i2 : Int32) (k9 : Nat) (x4_3 : Int32) : f_X0_isKitTaken_l17 pp_0 yy_0 yy_1 yy_2 yy_3 yy_4 yy_5 yy_6 yy_7 yy_8 i1 i2 (k9 + 1) x4_3 =
    if i2 ≤ x4_3 then
      some (0 : Int32)
    else
      if x4_3 < 0 then
        f_X0_isKitTaken_l17 pp_0 yy_0 yy_1 yy_2 yy_3 yy_4 yy_5 yy_6 yy_7 yy_8 i1 i2 k9 (x4_3 + (1 : Int32))
      else
        if x4_3 < 0 ∨ 100 ≤ x4_3.toNatClampNeg then none else
        Option.bind (f_X0_isOthersLesson (yy_0, yy_1, yy_2, yy_3, yy_4, yy_5, yy_6, yy_7, yy_8) (pp_0 x4_3.toNatClampNeg) i1) fun (o7 : Int32) =>
        if o7 = 0 then
          f_X0_isKitTaken_l17 pp_0 yy_0 yy_1 yy_2 yy_3 yy_4 yy_5 yy_6 yy_7 yy_8 i1 i2 k9 (x4_3 + (1 : Int32))
        else
          if (pp_0 x4_3.toNatClampNeg) < 0 ∨ 12 ≤ (pp_0 x4_3.toNatClampNeg).toNatClampNeg then none else
          if (yy_4 (pp_0 x4_3.toNatClampNeg).toNatClampNeg) = (yy_4 i1.toNatClampNeg) then
            some (1 : Int32)
          else
            f_X0_isKitTaken_l17 pp_0 yy_0 yy_1 yy_2 yy_3 yy_4 yy_5 yy_6 yy_7 yy_8 i1 i2 k9 (x4_3 + (1 : Int32)) := rfl
def f_X0_isKitTaken (pp : xPL) (yy : xSY) (i1 : Int32) (i2 : Int32) : Option (Int32) :=
  if i1 < 0 ∨ 12 ≤ i1.toNatClampNeg then none else
  if (yy.2.2.2.2.1 i1.toNatClampNeg) = ((-1) : Int32) then
    some (0 : Int32)
  else
    f_X0_isKitTaken_l17 pp.1 yy.1 yy.2.1 yy.2.2.1 yy.2.2.2.1 yy.2.2.2.2.1 yy.2.2.2.2.2.1 yy.2.2.2.2.2.2.1 yy.2.2.2.2.2.2.2.1 yy.2.2.2.2.2.2.2.2 i1 i2 300 (i2 - (2 : Int32))
theorem f_X0_isKitTaken_e (pp_0 : xF) (pp_1 : xF) (pp_2 : xF) (pp_3 : xF) (pp_4 : xF) (pp_5 : xF) (pp_6 : Int32) (pp_7 : Int32) (pp_8 : Int32) (yy_0 : Int32) (yy_1 : xF) (yy_2 : xF) (yy_3 : xF) (yy_4 : xF) (yy_5 : xF) (yy_6 : xF) (yy_7 : xF) (yy_8 : xF) (i1 : Int32) (i2 : Int32) : f_X0_isKitTaken (pp_0, pp_1, pp_2, pp_3, pp_4, pp_5, pp_6, pp_7, pp_8) (yy_0, yy_1, yy_2, yy_3, yy_4, yy_5, yy_6, yy_7, yy_8) i1 i2 =
  if i1 < 0 ∨ 12 ≤ i1.toNatClampNeg then none else
  if (yy_4 i1.toNatClampNeg) = ((-1) : Int32) then
    some (0 : Int32)
  else
    f_X0_isKitTaken_l17 pp_0 yy_0 yy_1 yy_2 yy_3 yy_4 yy_5 yy_6 yy_7 yy_8 i1 i2 300 (i2 - (2 : Int32)) := rfl
set_option maxHeartbeats 4000000 in
set_option maxRecDepth 100000 in
theorem c_X0_isKitTaken (l : Launch) (G : xG) (pa : (Nat → Nat)) (ya : (Nat → Nat)) (pp : xPL) (yy : xSY) (i1 : Int32) (i2 : Int32) (o : Int32) (h : f_X0_isKitTaken pp yy i1 i2 = some o) : xk_CI l yX0_isKitTaken wsX0_isKitTaken ({ frames := 1, cells := 0, slots := 0, locals := 22 } : Room) 0 0 [.ref (pa 0), .int i1, .int i2, .ref (ya 0)] G (wPLc G pa pp.1 pp.2.1 pp.2.2.1 pp.2.2.2.1 pp.2.2.2.2.1 pp.2.2.2.2.2.1 pp.2.2.2.2.2.2.1 pp.2.2.2.2.2.2.2.1 pp.2.2.2.2.2.2.2.2 ++ (wSYc G ya yy.1 yy.2.1 yy.2.2.1 yy.2.2.2.1 yy.2.2.2.2.1 yy.2.2.2.2.2.1 yy.2.2.2.2.2.2.1 yy.2.2.2.2.2.2.2.1 yy.2.2.2.2.2.2.2.2)) (wPLc G pa pp.1 pp.2.1 pp.2.2.1 pp.2.2.2.1 pp.2.2.2.2.1 pp.2.2.2.2.2.1 pp.2.2.2.2.2.2.1 pp.2.2.2.2.2.2.2.1 pp.2.2.2.2.2.2.2.2 ++ (wSYc G ya yy.1 yy.2.1 yy.2.2.1 yy.2.2.2.1 yy.2.2.2.2.1 yy.2.2.2.2.2.1 yy.2.2.2.2.2.2.1 yy.2.2.2.2.2.2.2.1 yy.2.2.2.2.2.2.2.2)) o := by
  obtain ⟨pp_0, pp_1, pp_2, pp_3, pp_4, pp_5, pp_6, pp_7, pp_8⟩ := pp
  obtain ⟨yy_0, yy_1, yy_2, yy_3, yy_4, yy_5, yy_6, yy_7, yy_8⟩ := yy
  refine xk_CI.of (cc := cX0_isKitTaken) (maxL := 5) (ret := (some .boolean)) (by decide) rfl (Nat.le_of_ble_eq_true rfl) ?_
  intro pr9 en9 s mm9 bl9 meth9 cd9 A ls H locs hx hb hr hml hts hown hlk hA hP hK hD hNE hS hl
  have hown : s.vm.findClass RX0 = some mm9.cls := hown
  have hl : lv_has ls 5 [(0, .ref (pa 0)), (1, .int i1), (2, .int i2), (3, .ref (ya 0))] := hl
  have hinX0 : ∀ w ∈ u_ws RX0 TX0 9, w ∈ wsX0_isKitTaken := by decide +kernel
  have hinX1 : ∀ w ∈ u_ws RX1 TX1 9, w ∈ wsX0_isKitTaken := by decide +kernel
  have hP : va_P G.1 vwCl (wPLc G pa pp_0 pp_1 pp_2 pp_3 pp_4 pp_5 pp_6 pp_7 pp_8 ++ (wSYc G ya yy_0 yy_1 yy_2 yy_3 yy_4 yy_5 yy_6 yy_7 yy_8)) H := hP
  have hD : va_D A (wPLc G pa pp_0 pp_1 pp_2 pp_3 pp_4 pp_5 pp_6 pp_7 pp_8 ++ (wSYc G ya yy_0 yy_1 yy_2 yy_3 yy_4 yy_5 yy_6 yy_7 yy_8)) := hD
  have h := (f_X0_isKitTaken_e pp_0 pp_1 pp_2 pp_3 pp_4 pp_5 pp_6 pp_7 pp_8 yy_0 yy_1 yy_2 yy_3 yy_4 yy_5 yy_6 yy_7 yy_8 i1 i2).symm.trans h
  refine lv_aload_n hx hb dX0_isKitTaken_0 rfl (lv_at hl 3 rfl) ?_
  refine va_getN (D := G.1) (ci := 1) (v := .ref (ya 4)) (C := RX1) (T := TX1) (N := 9) hx hb hts hinX1 hown hK hP 7 rfl rfl 4 (by decide) (va_Nw.use rfl hNE.2.2.2.2.1) (fun _ h9 => h9) rfl dX0_isKitTaken_1 ?_
  refine lv_iload_n hx hb dX0_isKitTaken_4 rfl (lv_at hl 1 rfl) ?_
  obtain ⟨hin1, h⟩ := sp_g h
  refine va_iald hx hb hK hP 11 0 rfl rfl hin1 dX0_isKitTaken_5 ?_
  refine lv_iconst (v := ((-1) : Int32)) hx hb dX0_isKitTaken_6 (by decide) ?_
  refine lv_icmp_ne (tgt := 12) hx hb dX0_isKitTaken_7 (by decide) (fun c2 => ?_) (fun c2 => ?_)
  · have h := sp_f c2 h
    refine lv_iload_n hx hb dX0_isKitTaken_12 rfl (lv_at hl 2 rfl) ?_
    refine lv_iconst (v := (2 : Int32)) hx hb dX0_isKitTaken_13 (by decide) ?_
    refine lv_isub hx hb dX0_isKitTaken_14 ?_
    refine lv_istore (lv' := [(4, .int (i2 - (2 : Int32))), (0, .ref (pa 0)), (1, .int i1), (2, .int i2), (3, .ref (ya 0))]) hx hb dX0_isKitTaken_15 hl (by decide) rfl (fun ls hl => ?_)
    refine xk_lp (α := Int32) G A s.heap (fun x4_3 => (wPLc G pa pp_0 pp_1 pp_2 pp_3 pp_4 pp_5 pp_6 pp_7 pp_8 ++ (wSYc G ya yy_0 yy_1 yy_2 yy_3 yy_4 yy_5 yy_6 yy_7 yy_8))) 5 (fun x4_3 => [(4, .int x4_3), (0, .ref (pa 0)), (1, .int i1), (2, .int i2), (3, .ref (ya 0))]) 17 (fun n x4_3 => f_X0_isKitTaken_l17 pp_0 yy_0 yy_1 yy_2 yy_3 yy_4 yy_5 yy_6 yy_7 yy_8 i1 i2 n x4_3 = some o) (fun x4_3 h => ?_) (fun n ih_3 x4_3 h H locs hP hD hS ls hl => ?_) (fun LL => ?_)
    · exact sp_n ((f_X0_isKitTaken_l17_z _ _ _ _ _ _ _ _ _ _ _ _ _).symm.trans h)
    · have h := (f_X0_isKitTaken_l17_s pp_0 yy_0 yy_1 yy_2 yy_3 yy_4 yy_5 yy_6 yy_7 yy_8 i1 i2 n x4_3).symm.trans h
      have hP : va_P G.1 vwCl (wPLc G pa pp_0 pp_1 pp_2 pp_3 pp_4 pp_5 pp_6 pp_7 pp_8 ++ (wSYc G ya yy_0 yy_1 yy_2 yy_3 yy_4 yy_5 yy_6 yy_7 yy_8)) H := hP
      have hD : va_D A (wPLc G pa pp_0 pp_1 pp_2 pp_3 pp_4 pp_5 pp_6 pp_7 pp_8 ++ (wSYc G ya yy_0 yy_1 yy_2 yy_3 yy_4 yy_5 yy_6 yy_7 yy_8)) := hD
      have hl : lv_has ls 5 [(4, .int x4_3), (0, .ref (pa 0)), (1, .int i1), (2, .int i2), (3, .ref (ya 0))] := hl
      refine lv_iload hx hb dX0_isKitTaken_17 (lv_at hl 0 rfl) ?_
      refine lv_iload_n hx hb dX0_isKitTaken_19 rfl (lv_at hl 3 rfl) ?_
      refine lv_icmp_ge (tgt := 72) hx hb dX0_isKitTaken_20 (by decide) (fun c4 => ?_) (fun c4 => ?_)
      · have h := sp_t c4 h
        refine lv_iconst (v := (0 : Int32)) hx hb dX0_isKitTaken_72 (by decide) ?_
        obtain rfl := sp_s h
        exact xk_reZ hx hb hr hlk rfl hP hD hS rfl dX0_isKitTaken_73
      · have h := sp_f c4 h
        refine lv_iload hx hb dX0_isKitTaken_23 (lv_at hl 0 rfl) ?_
        refine lv_if_lt (tgt := 66) hx hb dX0_isKitTaken_25 (by decide) (fun c5 => ?_) (fun c5 => ?_)
        · have h := sp_t c5 h
          refine lv_iinc (v := (x4_3 + (1 : Int32))) (lv' := [(4, .int (x4_3 + (1 : Int32))), (0, .ref (pa 0)), (1, .int i1), (2, .int i2), (3, .ref (ya 0))]) hx hb dX0_isKitTaken_66 hl (k := 0) rfl rfl (by decide) rfl (fun ls hl => ?_)
          refine lv_goto (tgt := 17) hx hb dX0_isKitTaken_69 (by decide) ?_
          exact ih_3 (x4_3 + (1 : Int32)) h _ _ hP hD hS _ (lv_sub hl [0, 1, 2, 3, 4] rfl)
        · have h := sp_f c5 h
          refine lv_aload_n hx hb dX0_isKitTaken_28 rfl (lv_at hl 1 rfl) ?_
          refine va_get (D := G.1) (ci := 0) (v := .ref (pa 1)) (C := RX0) (T := TX0) (N := 9) hx hb hts hinX0 hown hK hP 0 rfl rfl 0 (by decide) (hts (.fieldLink RX0 9 "LessonWeave$Plan" "things" "[I") (by decide +kernel)) (fun _ h9 => h9) rfl dX0_isKitTaken_29 ?_
          refine lv_iload hx hb dX0_isKitTaken_32 (lv_at hl 0 rfl) ?_
          obtain ⟨hin6, h⟩ := sp_g h
          refine va_iald hx hb hK hP 1 0 rfl rfl hin6 dX0_isKitTaken_34 ?_
          refine lv_iload_n hx hb dX0_isKitTaken_35 rfl (lv_at hl 2 rfl) ?_
          refine lv_aload_n hx hb dX0_isKitTaken_36 rfl (lv_at hl 4 rfl) ?_
          obtain ⟨o7, ho7, h⟩ := sp_b h
          refine xk_ci (va_runS (As := [.int (pp_0 x4_3.toNatClampNeg), .int i1, .ref (ya 0)]) (rest := []) ⟨hx, hb, hml, hown, hts⟩ (c_X0_isOthersLesson l G ya (yy_0, yy_1, yy_2, yy_3, yy_4, yy_5, yy_6, yy_7, yy_8) (pp_0 x4_3.toNatClampNeg) i1 o7 ho7 H.size) (va_cwS 3 hts gX0_isKitTaken_X0_isOthersLesson rfl rfl rfl (by decide +kernel) ⟨Nat.le_of_ble_eq_true rfl, Nat.le_of_ble_eq_true rfl⟩) (xk_preS hK hNE (hP.sub (ws' := (wSYc G ya yy_0 yy_1 yy_2 yy_3 yy_4 yy_5 yy_6 yy_7 yy_8)) [7, 8, 9, 10, 11, 12, 13, 14, 15] rfl) (hD.sub (ws' := (wSYc G ya yy_0 yy_1 yy_2 yy_3 yy_4 yy_5 yy_6 yy_7 yy_8)) [7, 8, 9, 10, 11, 12, 13, 14, 15] (by decide) rfl)) rfl rfl hl.1 rfl (lv_room (Nat.le_of_ble_eq_true rfl)) dX0_isKitTaken_37 ⟨Nat.le_of_ble_eq_true rfl, Nat.le_of_ble_eq_true rfl⟩) hP hD hS hA [7, 8, 9, 10, 11, 12, 13, 14, 15] [0, 1, 2, 3, 4, 5, 6] [0, 1, 2, 3, 4, 5, 6, 7, 8, 9, 10, 11, 12, 13, 14, 15] rfl rfl (by decide) (by decide) rfl (by decide) (fun H locs hP hD hS => ?_)
          have hP : va_P G.1 vwCl (wPLc G pa pp_0 pp_1 pp_2 pp_3 pp_4 pp_5 pp_6 pp_7 pp_8 ++ (wSYc G ya yy_0 yy_1 yy_2 yy_3 yy_4 yy_5 yy_6 yy_7 yy_8)) H := hP
          have hD : va_D A (wPLc G pa pp_0 pp_1 pp_2 pp_3 pp_4 pp_5 pp_6 pp_7 pp_8 ++ (wSYc G ya yy_0 yy_1 yy_2 yy_3 yy_4 yy_5 yy_6 yy_7 yy_8)) := hD
          refine lv_if_eq (tgt := 66) hx hb dX0_isKitTaken_40 (by decide) (fun c8 => ?_) (fun c8 => ?_)
          · have h := sp_t c8 h
            refine lv_iinc (v := (x4_3 + (1 : Int32))) (lv' := [(4, .int (x4_3 + (1 : Int32))), (0, .ref (pa 0)), (1, .int i1), (2, .int i2), (3, .ref (ya 0))]) hx hb dX0_isKitTaken_66 hl (k := 0) rfl rfl (by decide) rfl (fun ls hl => ?_)
            refine lv_goto (tgt := 17) hx hb dX0_isKitTaken_69 (by decide) ?_
            exact ih_3 (x4_3 + (1 : Int32)) h _ _ hP hD hS _ (lv_sub hl [0, 1, 2, 3, 4] rfl)
          · have h := sp_f c8 h
            refine lv_aload_n hx hb dX0_isKitTaken_43 rfl (lv_at hl 4 rfl) ?_
            refine va_getN (D := G.1) (ci := 1) (v := .ref (ya 4)) (C := RX1) (T := TX1) (N := 9) hx hb hts hinX1 hown hK hP 7 rfl rfl 4 (by decide) (va_Nw.use rfl hNE.2.2.2.2.1) (fun _ h9 => h9) rfl dX0_isKitTaken_44 ?_
            refine lv_aload_n hx hb dX0_isKitTaken_47 rfl (lv_at hl 1 rfl) ?_
            refine va_get (D := G.1) (ci := 0) (v := .ref (pa 1)) (C := RX0) (T := TX0) (N := 9) hx hb hts hinX0 hown hK hP 0 rfl rfl 0 (by decide) (hts (.fieldLink RX0 9 "LessonWeave$Plan" "things" "[I") (by decide +kernel)) (fun _ h9 => h9) rfl dX0_isKitTaken_48 ?_
            refine lv_iload hx hb dX0_isKitTaken_51 (lv_at hl 0 rfl) ?_
            refine va_iald hx hb hK hP 1 0 rfl rfl hin6 dX0_isKitTaken_53 ?_
            obtain ⟨hin9, h⟩ := sp_g h
            refine va_iald hx hb hK hP 11 0 rfl rfl hin9 dX0_isKitTaken_54 ?_
            refine lv_aload_n hx hb dX0_isKitTaken_55 rfl (lv_at hl 4 rfl) ?_
            refine va_getN (D := G.1) (ci := 1) (v := .ref (ya 4)) (C := RX1) (T := TX1) (N := 9) hx hb hts hinX1 hown hK hP 7 rfl rfl 4 (by decide) (va_Nw.use rfl hNE.2.2.2.2.1) (fun _ h9 => h9) rfl dX0_isKitTaken_56 ?_
            refine lv_iload_n hx hb dX0_isKitTaken_59 rfl (lv_at hl 2 rfl) ?_
            refine va_iald hx hb hK hP 11 0 rfl rfl hin1 dX0_isKitTaken_60 ?_
            refine lv_icmp_ne (tgt := 66) hx hb dX0_isKitTaken_61 (by decide) (fun c10 => ?_) (fun c10 => ?_)
            · have h := sp_f c10 h
              refine lv_iinc (v := (x4_3 + (1 : Int32))) (lv' := [(4, .int (x4_3 + (1 : Int32))), (0, .ref (pa 0)), (1, .int i1), (2, .int i2), (3, .ref (ya 0))]) hx hb dX0_isKitTaken_66 hl (k := 0) rfl rfl (by decide) rfl (fun ls hl => ?_)
              refine lv_goto (tgt := 17) hx hb dX0_isKitTaken_69 (by decide) ?_
              exact ih_3 (x4_3 + (1 : Int32)) h _ _ hP hD hS _ (lv_sub hl [0, 1, 2, 3, 4] rfl)
            · have h := sp_t c10 h
              refine lv_iconst (v := (1 : Int32)) hx hb dX0_isKitTaken_64 (by decide) ?_
              obtain rfl := sp_s h
              exact xk_reZ hx hb hr hlk rfl hP hD hS rfl dX0_isKitTaken_65
    · exact LL 300 (i2 - (2 : Int32)) h _ _ hP hD hS _ (lv_sub hl [0, 1, 2, 3, 4] rfl)
  · have h := sp_t c2 h
    refine lv_iconst (v := (0 : Int32)) hx hb dX0_isKitTaken_10 (by decide) ?_
    obtain rfl := sp_s h
    exact xk_reZ hx hb hr hlk rfl hP hD hS rfl dX0_isKitTaken_11
def f_X0_layLesson (pp : xPL) (i1 : Int32) (i2 : Int32) : Option (xF × xF × xF × xF × Int32 × Int32) :=
  if i1 < 0 ∨ 12 ≤ i1.toNatClampNeg then none else
  if ((i1 * (5 : Int32)) + (pp.2.2.2.1 i1.toNatClampNeg)) < 0 ∨ 60 ≤ ((i1 * (5 : Int32)) + (pp.2.2.2.1 i1.toNatClampNeg)).toNatClampNeg then none else
  Option.bind (f_X0_use (pp.1, (upd pp.2.1 ((i1 * (5 : Int32)) + (pp.2.2.2.1 i1.toNatClampNeg)).toNatClampNeg i2), pp.2.2.1, (upd pp.2.2.2.1 i1.toNatClampNeg ((pp.2.2.2.1 i1.toNatClampNeg) + (1 : Int32))), pp.2.2.2.2.1, pp.2.2.2.2.2.1, pp.2.2.2.2.2.2.1, pp.2.2.2.2.2.2.2.1, pp.2.2.2.2.2.2.2.2) i2 i1 i1) fun (o3 : xF × xF × Int32 × Int32) =>
  some (o3.1, (upd pp.2.1 ((i1 * (5 : Int32)) + (pp.2.2.2.1 i1.toNatClampNeg)).toNatClampNeg i2), (upd pp.2.2.2.1 i1.toNatClampNeg ((pp.2.2.2.1 i1.toNatClampNeg) + (1 : Int32))), o3.2.1, o3.2.2.1, o3.2.2.2)
theorem f_X0_layLesson_e (pp_0 : xF) (pp_1 : xF) (pp_2 : xF) (pp_3 : xF) (pp_4 : xF) (pp_5 : xF) (pp_6 : Int32) (pp_7 : Int32) (pp_8 : Int32) (i1 : Int32) (i2 : Int32) : f_X0_layLesson (pp_0, pp_1, pp_2, pp_3, pp_4, pp_5, pp_6, pp_7, pp_8) i1 i2 =
  if i1 < 0 ∨ 12 ≤ i1.toNatClampNeg then none else
  if ((i1 * (5 : Int32)) + (pp_3 i1.toNatClampNeg)) < 0 ∨ 60 ≤ ((i1 * (5 : Int32)) + (pp_3 i1.toNatClampNeg)).toNatClampNeg then none else
  Option.bind (f_X0_use (pp_0, (upd pp_1 ((i1 * (5 : Int32)) + (pp_3 i1.toNatClampNeg)).toNatClampNeg i2), pp_2, (upd pp_3 i1.toNatClampNeg ((pp_3 i1.toNatClampNeg) + (1 : Int32))), pp_4, pp_5, pp_6, pp_7, pp_8) i2 i1 i1) fun (o3 : xF × xF × Int32 × Int32) =>
  some (o3.1, (upd pp_1 ((i1 * (5 : Int32)) + (pp_3 i1.toNatClampNeg)).toNatClampNeg i2), (upd pp_3 i1.toNatClampNeg ((pp_3 i1.toNatClampNeg) + (1 : Int32))), o3.2.1, o3.2.2.1, o3.2.2.2) := rfl
set_option maxHeartbeats 4000000 in
set_option maxRecDepth 100000 in
theorem c_X0_layLesson (l : Launch) (G : xG) (pa : (Nat → Nat)) (pp : xPL) (i1 : Int32) (i2 : Int32) (o : xF × xF × xF × xF × Int32 × Int32) (h : f_X0_layLesson pp i1 i2 = some o) : xk_CV l yX0_layLesson wsX0_layLesson ({ frames := 1, cells := 0, slots := 0, locals := 23 } : Room) 0 0 [.ref (pa 0), .int i1, .int i2] G (wPLc G pa pp.1 pp.2.1 pp.2.2.1 pp.2.2.2.1 pp.2.2.2.2.1 pp.2.2.2.2.2.1 pp.2.2.2.2.2.2.1 pp.2.2.2.2.2.2.2.1 pp.2.2.2.2.2.2.2.2) (wPLc G pa o.1 o.2.1 pp.2.2.1 o.2.2.1 pp.2.2.2.2.1 o.2.2.2.1 o.2.2.2.2.1 pp.2.2.2.2.2.2.2.1 o.2.2.2.2.2) := by
  obtain ⟨pp_0, pp_1, pp_2, pp_3, pp_4, pp_5, pp_6, pp_7, pp_8⟩ := pp
  refine xk_CV.of (cc := cX0_layLesson) (maxL := 3) (ret := none) (by decide) rfl (Nat.le_of_ble_eq_true rfl) ?_
  intro pr9 en9 s mm9 bl9 meth9 cd9 A ls H locs hx hb hr hml hts hown hlk hA hP hK hD hNE hS hl
  have hown : s.vm.findClass RX0 = some mm9.cls := hown
  have hl : lv_has ls 3 [(0, .ref (pa 0)), (1, .int i1), (2, .int i2)] := hl
  have hinX0 : ∀ w ∈ u_ws RX0 TX0 9, w ∈ wsX0_layLesson := by decide +kernel
  have hP : va_P G.1 vwCl (wPLc G pa pp_0 pp_1 pp_2 pp_3 pp_4 pp_5 pp_6 pp_7 pp_8) H := hP
  have hD : va_D A (wPLc G pa pp_0 pp_1 pp_2 pp_3 pp_4 pp_5 pp_6 pp_7 pp_8) := hD
  have h := (f_X0_layLesson_e pp_0 pp_1 pp_2 pp_3 pp_4 pp_5 pp_6 pp_7 pp_8 i1 i2).symm.trans h
  refine lv_aload_n hx hb dX0_layLesson_0 rfl (lv_at hl 0 rfl) ?_
  refine va_get (D := G.1) (ci := 0) (v := .ref (pa 2)) (C := RX0) (T := TX0) (N := 9) hx hb hts hinX0 hown hK hP 0 rfl rfl 1 (by decide) (hts (.fieldLink RX0 15 "LessonWeave$Plan" "lessonDays" "[I") (by decide +kernel)) (fun _ h9 => h9) rfl dX0_layLesson_1 ?_
  refine lv_iload_n hx hb dX0_layLesson_4 rfl (lv_at hl 1 rfl) ?_
  refine lv_iconst (v := (5 : Int32)) hx hb dX0_layLesson_5 (by decide) ?_
  refine lv_imul hx hb dX0_layLesson_6 ?_
  refine lv_aload_n hx hb dX0_layLesson_7 rfl (lv_at hl 0 rfl) ?_
  refine va_get (D := G.1) (ci := 0) (v := .ref (pa 4)) (C := RX0) (T := TX0) (N := 9) hx hb hts hinX0 hown hK hP 0 rfl rfl 3 (by decide) (hts (.fieldLink RX0 21 "LessonWeave$Plan" "lessonsLaid" "[I") (by decide +kernel)) (fun _ h9 => h9) rfl dX0_layLesson_8 ?_
  refine lv_iload_n hx hb dX0_layLesson_11 rfl (lv_at hl 1 rfl) ?_
  obtain ⟨hin1, h⟩ := sp_g h
  refine va_iald hx hb hK hP 4 0 rfl rfl hin1 dX0_layLesson_12 ?_
  refine lv_iadd hx hb dX0_layLesson_13 ?_
  refine lv_iload_n hx hb dX0_layLesson_14 rfl (lv_at hl 2 rfl) ?_
  obtain ⟨hin2, h⟩ := sp_g h
  refine va_iast hx hb hK hP hD hS 2 0 rfl rfl hin2 dX0_layLesson_15 (fun H locs hP hD hS => ?_)
  have hP : va_P G.1 vwCl (wPLc G pa pp_0 (upd pp_1 ((i1 * (5 : Int32)) + (pp_3 i1.toNatClampNeg)).toNatClampNeg i2) pp_2 pp_3 pp_4 pp_5 pp_6 pp_7 pp_8) H := hP
  have hD : va_D A (wPLc G pa pp_0 (upd pp_1 ((i1 * (5 : Int32)) + (pp_3 i1.toNatClampNeg)).toNatClampNeg i2) pp_2 pp_3 pp_4 pp_5 pp_6 pp_7 pp_8) := hD
  refine lv_aload_n hx hb dX0_layLesson_16 rfl (lv_at hl 0 rfl) ?_
  refine va_get (D := G.1) (ci := 0) (v := .ref (pa 4)) (C := RX0) (T := TX0) (N := 9) hx hb hts hinX0 hown hK hP 0 rfl rfl 3 (by decide) (hts (.fieldLink RX0 21 "LessonWeave$Plan" "lessonsLaid" "[I") (by decide +kernel)) (fun _ h9 => h9) rfl dX0_layLesson_17 ?_
  refine lv_iload_n hx hb dX0_layLesson_20 rfl (lv_at hl 1 rfl) ?_
  refine lv_dup2_11 hx hb dX0_layLesson_21 rfl rfl ?_
  refine va_iald hx hb hK hP 4 0 rfl rfl hin1 dX0_layLesson_22 ?_
  refine lv_iconst (v := (1 : Int32)) hx hb dX0_layLesson_23 (by decide) ?_
  refine lv_iadd hx hb dX0_layLesson_24 ?_
  refine va_iast hx hb hK hP hD hS 4 0 rfl rfl hin1 dX0_layLesson_25 (fun H locs hP hD hS => ?_)
  have hP : va_P G.1 vwCl (wPLc G pa pp_0 (upd pp_1 ((i1 * (5 : Int32)) + (pp_3 i1.toNatClampNeg)).toNatClampNeg i2) pp_2 (upd pp_3 i1.toNatClampNeg ((pp_3 i1.toNatClampNeg) + (1 : Int32))) pp_4 pp_5 pp_6 pp_7 pp_8) H := hP
  have hD : va_D A (wPLc G pa pp_0 (upd pp_1 ((i1 * (5 : Int32)) + (pp_3 i1.toNatClampNeg)).toNatClampNeg i2) pp_2 (upd pp_3 i1.toNatClampNeg ((pp_3 i1.toNatClampNeg) + (1 : Int32))) pp_4 pp_5 pp_6 pp_7 pp_8) := hD
  refine lv_aload_n hx hb dX0_layLesson_26 rfl (lv_at hl 0 rfl) ?_
  refine lv_iload_n hx hb dX0_layLesson_27 rfl (lv_at hl 2 rfl) ?_
  refine lv_iload_n hx hb dX0_layLesson_28 rfl (lv_at hl 1 rfl) ?_
  refine lv_iload_n hx hb dX0_layLesson_29 rfl (lv_at hl 1 rfl) ?_
  obtain ⟨o3, ho3, h⟩ := sp_b h
  refine xk_cv (va_runV (As := [.int i2, .int i1, .int i1]) (rest := []) ⟨hx, hb, hml, hown, hts⟩ (c_X0_use l G pa (pp_0, (upd pp_1 ((i1 * (5 : Int32)) + (pp_3 i1.toNatClampNeg)).toNatClampNeg i2), pp_2, (upd pp_3 i1.toNatClampNeg ((pp_3 i1.toNatClampNeg) + (1 : Int32))), pp_4, pp_5, pp_6, pp_7, pp_8) i2 i1 i1 o3 ho3 H.size) (cwV 3 hts gX0_layLesson_X0_use rfl rfl rfl (by decide +kernel) ⟨Nat.le_of_ble_eq_true rfl, Nat.le_of_ble_eq_true rfl⟩) (xk_preV hK hNE (hP.sub (ws' := (wPLc G pa pp_0 (upd pp_1 ((i1 * (5 : Int32)) + (pp_3 i1.toNatClampNeg)).toNatClampNeg i2) pp_2 (upd pp_3 i1.toNatClampNeg ((pp_3 i1.toNatClampNeg) + (1 : Int32))) pp_4 pp_5 pp_6 pp_7 pp_8)) [0, 1, 2, 3, 4, 5, 6] rfl) (hD.sub (ws' := (wPLc G pa pp_0 (upd pp_1 ((i1 * (5 : Int32)) + (pp_3 i1.toNatClampNeg)).toNatClampNeg i2) pp_2 (upd pp_3 i1.toNatClampNeg ((pp_3 i1.toNatClampNeg) + (1 : Int32))) pp_4 pp_5 pp_6 pp_7 pp_8)) [0, 1, 2, 3, 4, 5, 6] (by decide) rfl) (ci := 0) rfl rfl) rfl rfl hl.1 rfl (lv_room (Nat.le_of_ble_eq_true rfl)) dX0_layLesson_30 ⟨Nat.le_of_ble_eq_true rfl, Nat.le_of_ble_eq_true rfl⟩) hP hD hS hA [0, 1, 2, 3, 4, 5, 6] [] [0, 1, 2, 3, 4, 5, 6] rfl rfl (by decide) (by decide) rfl (by decide) (fun H locs hP hD hS => ?_)
  have hP : va_P G.1 vwCl (wPLc G pa o3.1 (upd pp_1 ((i1 * (5 : Int32)) + (pp_3 i1.toNatClampNeg)).toNatClampNeg i2) pp_2 (upd pp_3 i1.toNatClampNeg ((pp_3 i1.toNatClampNeg) + (1 : Int32))) pp_4 o3.2.1 o3.2.2.1 pp_7 o3.2.2.2) H := hP
  have hD : va_D A (wPLc G pa o3.1 (upd pp_1 ((i1 * (5 : Int32)) + (pp_3 i1.toNatClampNeg)).toNatClampNeg i2) pp_2 (upd pp_3 i1.toNatClampNeg ((pp_3 i1.toNatClampNeg) + (1 : Int32))) pp_4 o3.2.1 o3.2.2.1 pp_7 o3.2.2.2) := hD
  obtain rfl := sp_s h
  exact xk_reV hx hb hr hlk hP hD hS dX0_layLesson_33
def f_X0_layOn (pp : xPL) (yy : xSY) (i1 : Int32) : Option (xPL) :=
  Option.bind (f_X0_mostPressing (pp.1, pp.2.1, pp.2.2.1, pp.2.2.2.1, pp.2.2.2.2.1, pp.2.2.2.2.2.1, pp.2.2.2.2.2.2.1, pp.2.2.2.2.2.2.2.1, pp.2.2.2.2.2.2.2.2) (yy.1, yy.2.1, yy.2.2.1, yy.2.2.2.1, yy.2.2.2.2.1, yy.2.2.2.2.2.1, yy.2.2.2.2.2.2.1, yy.2.2.2.2.2.2.2.1, yy.2.2.2.2.2.2.2.2) i1) fun (o1 : Int32) =>
  if o1 = ((-1) : Int32) then
    Option.bind (f_X0_firstUnfinished (pp.1, pp.2.1, pp.2.2.1, pp.2.2.2.1, pp.2.2.2.2.1, pp.2.2.2.2.2.1, pp.2.2.2.2.2.2.1, pp.2.2.2.2.2.2.2.1, pp.2.2.2.2.2.2.2.2) (yy.1, yy.2.1, yy.2.2.1, yy.2.2.2.1, yy.2.2.2.2.1, yy.2.2.2.2.2.1, yy.2.2.2.2.2.2.1, yy.2.2.2.2.2.2.2.1, yy.2.2.2.2.2.2.2.2)) fun (o3 : Int32) =>
    if o3 = ((-1) : Int32) then
      some (pp.1, pp.2.1, pp.2.2.1, pp.2.2.2.1, pp.2.2.2.2.1, pp.2.2.2.2.2.1, pp.2.2.2.2.2.2.1, pp.2.2.2.2.2.2.2.1, pp.2.2.2.2.2.2.2.2)
    else
      Option.bind (f_X0_isKitTaken (pp.1, pp.2.1, pp.2.2.1, pp.2.2.2.1, pp.2.2.2.2.1, pp.2.2.2.2.2.1, pp.2.2.2.2.2.2.1, pp.2.2.2.2.2.2.2.1, pp.2.2.2.2.2.2.2.2) (yy.1, yy.2.1, yy.2.2.1, yy.2.2.2.1, yy.2.2.2.2.1, yy.2.2.2.2.2.1, yy.2.2.2.2.2.2.1, yy.2.2.2.2.2.2.2.1, yy.2.2.2.2.2.2.2.2) o3 i1) fun (o5 : Int32) =>
      if o5 = 0 then
        Option.bind (f_X0_layLesson (pp.1, pp.2.1, pp.2.2.1, pp.2.2.2.1, pp.2.2.2.2.1, pp.2.2.2.2.2.1, pp.2.2.2.2.2.2.1, pp.2.2.2.2.2.2.2.1, pp.2.2.2.2.2.2.2.2) o3 i1) fun (o7 : xF × xF × xF × xF × Int32 × Int32) =>
        some (o7.1, o7.2.1, pp.2.2.1, o7.2.2.1, pp.2.2.2.2.1, o7.2.2.2.1, o7.2.2.2.2.1, pp.2.2.2.2.2.2.2.1, o7.2.2.2.2.2)
      else
        some (pp.1, pp.2.1, pp.2.2.1, pp.2.2.2.1, pp.2.2.2.2.1, pp.2.2.2.2.2.1, pp.2.2.2.2.2.2.1, pp.2.2.2.2.2.2.2.1, pp.2.2.2.2.2.2.2.2)
  else
    Option.bind (f_X0_layRevisit (pp.1, pp.2.1, pp.2.2.1, pp.2.2.2.1, pp.2.2.2.2.1, pp.2.2.2.2.2.1, pp.2.2.2.2.2.2.1, pp.2.2.2.2.2.2.2.1, pp.2.2.2.2.2.2.2.2) (yy.1, yy.2.1, yy.2.2.1, yy.2.2.2.1, yy.2.2.2.2.1, yy.2.2.2.2.2.1, yy.2.2.2.2.2.2.1, yy.2.2.2.2.2.2.2.1, yy.2.2.2.2.2.2.2.2) o1 i1) fun (o8 : xF × xF × xF × xF × Int32 × Int32 × Int32) =>
    some (o8.1, pp.2.1, o8.2.1, pp.2.2.2.1, o8.2.2.1, o8.2.2.2.1, o8.2.2.2.2.1, o8.2.2.2.2.2.1, o8.2.2.2.2.2.2)
theorem f_X0_layOn_e (pp_0 : xF) (pp_1 : xF) (pp_2 : xF) (pp_3 : xF) (pp_4 : xF) (pp_5 : xF) (pp_6 : Int32) (pp_7 : Int32) (pp_8 : Int32) (yy_0 : Int32) (yy_1 : xF) (yy_2 : xF) (yy_3 : xF) (yy_4 : xF) (yy_5 : xF) (yy_6 : xF) (yy_7 : xF) (yy_8 : xF) (i1 : Int32) : f_X0_layOn (pp_0, pp_1, pp_2, pp_3, pp_4, pp_5, pp_6, pp_7, pp_8) (yy_0, yy_1, yy_2, yy_3, yy_4, yy_5, yy_6, yy_7, yy_8) i1 =
  Option.bind (f_X0_mostPressing (pp_0, pp_1, pp_2, pp_3, pp_4, pp_5, pp_6, pp_7, pp_8) (yy_0, yy_1, yy_2, yy_3, yy_4, yy_5, yy_6, yy_7, yy_8) i1) fun (o1 : Int32) =>
  if o1 = ((-1) : Int32) then
    Option.bind (f_X0_firstUnfinished (pp_0, pp_1, pp_2, pp_3, pp_4, pp_5, pp_6, pp_7, pp_8) (yy_0, yy_1, yy_2, yy_3, yy_4, yy_5, yy_6, yy_7, yy_8)) fun (o3 : Int32) =>
    if o3 = ((-1) : Int32) then
      some (pp_0, pp_1, pp_2, pp_3, pp_4, pp_5, pp_6, pp_7, pp_8)
    else
      Option.bind (f_X0_isKitTaken (pp_0, pp_1, pp_2, pp_3, pp_4, pp_5, pp_6, pp_7, pp_8) (yy_0, yy_1, yy_2, yy_3, yy_4, yy_5, yy_6, yy_7, yy_8) o3 i1) fun (o5 : Int32) =>
      if o5 = 0 then
        Option.bind (f_X0_layLesson (pp_0, pp_1, pp_2, pp_3, pp_4, pp_5, pp_6, pp_7, pp_8) o3 i1) fun (o7 : xF × xF × xF × xF × Int32 × Int32) =>
        some (o7.1, o7.2.1, pp_2, o7.2.2.1, pp_4, o7.2.2.2.1, o7.2.2.2.2.1, pp_7, o7.2.2.2.2.2)
      else
        some (pp_0, pp_1, pp_2, pp_3, pp_4, pp_5, pp_6, pp_7, pp_8)
  else
    Option.bind (f_X0_layRevisit (pp_0, pp_1, pp_2, pp_3, pp_4, pp_5, pp_6, pp_7, pp_8) (yy_0, yy_1, yy_2, yy_3, yy_4, yy_5, yy_6, yy_7, yy_8) o1 i1) fun (o8 : xF × xF × xF × xF × Int32 × Int32 × Int32) =>
    some (o8.1, pp_1, o8.2.1, pp_3, o8.2.2.1, o8.2.2.2.1, o8.2.2.2.2.1, o8.2.2.2.2.2.1, o8.2.2.2.2.2.2) := rfl
set_option maxHeartbeats 4000000 in
set_option maxRecDepth 100000 in
theorem c_X0_layOn (l : Launch) (G : xG) (pa : (Nat → Nat)) (ya : (Nat → Nat)) (pp : xPL) (yy : xSY) (i1 : Int32) (o : xPL) (h : f_X0_layOn pp yy i1 = some o) : xk_CV l yX0_layOn wsX0_layOn ({ frames := 3, cells := 0, slots := 0, locals := 71 } : Room) 0 0 [.ref (pa 0), .int i1, .ref (ya 0)] G (wPLc G pa pp.1 pp.2.1 pp.2.2.1 pp.2.2.2.1 pp.2.2.2.2.1 pp.2.2.2.2.2.1 pp.2.2.2.2.2.2.1 pp.2.2.2.2.2.2.2.1 pp.2.2.2.2.2.2.2.2 ++ (wSYc G ya yy.1 yy.2.1 yy.2.2.1 yy.2.2.2.1 yy.2.2.2.2.1 yy.2.2.2.2.2.1 yy.2.2.2.2.2.2.1 yy.2.2.2.2.2.2.2.1 yy.2.2.2.2.2.2.2.2)) (wPLc G pa o.1 o.2.1 o.2.2.1 o.2.2.2.1 o.2.2.2.2.1 o.2.2.2.2.2.1 o.2.2.2.2.2.2.1 o.2.2.2.2.2.2.2.1 o.2.2.2.2.2.2.2.2 ++ (wSYc G ya yy.1 yy.2.1 yy.2.2.1 yy.2.2.2.1 yy.2.2.2.2.1 yy.2.2.2.2.2.1 yy.2.2.2.2.2.2.1 yy.2.2.2.2.2.2.2.1 yy.2.2.2.2.2.2.2.2)) := by
  obtain ⟨pp_0, pp_1, pp_2, pp_3, pp_4, pp_5, pp_6, pp_7, pp_8⟩ := pp
  obtain ⟨yy_0, yy_1, yy_2, yy_3, yy_4, yy_5, yy_6, yy_7, yy_8⟩ := yy
  refine xk_CV.of (cc := cX0_layOn) (maxL := 5) (ret := none) (by decide) rfl (Nat.le_of_ble_eq_true rfl) ?_
  intro pr9 en9 s mm9 bl9 meth9 cd9 A ls H locs hx hb hr hml hts hown hlk hA hP hK hD hNE hS hl
  have hown : s.vm.findClass RX0 = some mm9.cls := hown
  have hl : lv_has ls 5 [(0, .ref (pa 0)), (1, .int i1), (2, .ref (ya 0))] := hl
  have hP : va_P G.1 vwCl (wPLc G pa pp_0 pp_1 pp_2 pp_3 pp_4 pp_5 pp_6 pp_7 pp_8 ++ (wSYc G ya yy_0 yy_1 yy_2 yy_3 yy_4 yy_5 yy_6 yy_7 yy_8)) H := hP
  have hD : va_D A (wPLc G pa pp_0 pp_1 pp_2 pp_3 pp_4 pp_5 pp_6 pp_7 pp_8 ++ (wSYc G ya yy_0 yy_1 yy_2 yy_3 yy_4 yy_5 yy_6 yy_7 yy_8)) := hD
  have h := (f_X0_layOn_e pp_0 pp_1 pp_2 pp_3 pp_4 pp_5 pp_6 pp_7 pp_8 yy_0 yy_1 yy_2 yy_3 yy_4 yy_5 yy_6 yy_7 yy_8 i1).symm.trans h
  refine lv_aload_n hx hb dX0_layOn_0 rfl (lv_at hl 0 rfl) ?_
  refine lv_iload_n hx hb dX0_layOn_1 rfl (lv_at hl 1 rfl) ?_
  refine lv_aload_n hx hb dX0_layOn_2 rfl (lv_at hl 2 rfl) ?_
  obtain ⟨o1, ho1, h⟩ := sp_b h
  refine xk_ci (va_runV (As := [.int i1, .ref (ya 0)]) (rest := []) ⟨hx, hb, hml, hown, hts⟩ (c_X0_mostPressing l G pa ya (pp_0, pp_1, pp_2, pp_3, pp_4, pp_5, pp_6, pp_7, pp_8) (yy_0, yy_1, yy_2, yy_3, yy_4, yy_5, yy_6, yy_7, yy_8) i1 o1 ho1 H.size) (cwV 2 hts gX0_layOn_X0_mostPressing rfl rfl rfl (by decide +kernel) ⟨Nat.le_of_ble_eq_true rfl, Nat.le_of_ble_eq_true rfl⟩) (xk_preV hK hNE (hP.sub (ws' := (wPLc G pa pp_0 pp_1 pp_2 pp_3 pp_4 pp_5 pp_6 pp_7 pp_8 ++ (wSYc G ya yy_0 yy_1 yy_2 yy_3 yy_4 yy_5 yy_6 yy_7 yy_8))) [0, 1, 2, 3, 4, 5, 6, 7, 8, 9, 10, 11, 12, 13, 14, 15] rfl) (hD.sub (ws' := (wPLc G pa pp_0 pp_1 pp_2 pp_3 pp_4 pp_5 pp_6 pp_7 pp_8 ++ (wSYc G ya yy_0 yy_1 yy_2 yy_3 yy_4 yy_5 yy_6 yy_7 yy_8))) [0, 1, 2, 3, 4, 5, 6, 7, 8, 9, 10, 11, 12, 13, 14, 15] (by decide) rfl) (ci := 0) rfl rfl) rfl rfl hl.1 rfl (lv_room (Nat.le_of_ble_eq_true rfl)) dX0_layOn_3 ⟨Nat.le_of_ble_eq_true rfl, Nat.le_of_ble_eq_true rfl⟩) hP hD hS hA [0, 1, 2, 3, 4, 5, 6, 7, 8, 9, 10, 11, 12, 13, 14, 15] [] [0, 1, 2, 3, 4, 5, 6, 7, 8, 9, 10, 11, 12, 13, 14, 15] rfl rfl (by decide) (by decide) rfl (by decide) (fun H locs hP hD hS => ?_)
  have hP : va_P G.1 vwCl (wPLc G pa pp_0 pp_1 pp_2 pp_3 pp_4 pp_5 pp_6 pp_7 pp_8 ++ (wSYc G ya yy_0 yy_1 yy_2 yy_3 yy_4 yy_5 yy_6 yy_7 yy_8)) H := hP
  have hD : va_D A (wPLc G pa pp_0 pp_1 pp_2 pp_3 pp_4 pp_5 pp_6 pp_7 pp_8 ++ (wSYc G ya yy_0 yy_1 yy_2 yy_3 yy_4 yy_5 yy_6 yy_7 yy_8)) := hD
  refine lv_istore_n (lv' := [(3, .int o1), (0, .ref (pa 0)), (1, .int i1), (2, .ref (ya 0))]) hx hb dX0_layOn_6 rfl hl (by decide) rfl (fun ls hl => ?_)
  refine lv_iload_n hx hb dX0_layOn_7 rfl (lv_at hl 0 rfl) ?_
  refine lv_iconst (v := ((-1) : Int32)) hx hb dX0_layOn_8 (by decide) ?_
  refine lv_icmp_eq (tgt := 20) hx hb dX0_layOn_9 (by decide) (fun c2 => ?_) (fun c2 => ?_)
  · have h := sp_t c2 h
    refine lv_aload_n hx hb dX0_layOn_20 rfl (lv_at hl 1 rfl) ?_
    refine lv_aload_n hx hb dX0_layOn_21 rfl (lv_at hl 3 rfl) ?_
    obtain ⟨o3, ho3, h⟩ := sp_b h
    refine xk_ci (va_runV (As := [.ref (ya 0)]) (rest := []) ⟨hx, hb, hml, hown, hts⟩ (c_X0_firstUnfinished l G pa ya (pp_0, pp_1, pp_2, pp_3, pp_4, pp_5, pp_6, pp_7, pp_8) (yy_0, yy_1, yy_2, yy_3, yy_4, yy_5, yy_6, yy_7, yy_8) o3 ho3 H.size) (cwV 1 hts gX0_layOn_X0_firstUnfinished rfl rfl rfl (by decide +kernel) ⟨Nat.le_of_ble_eq_true rfl, Nat.le_of_ble_eq_true rfl⟩) (xk_preV hK hNE (hP.sub (ws' := (wPLc G pa pp_0 pp_1 pp_2 pp_3 pp_4 pp_5 pp_6 pp_7 pp_8 ++ (wSYc G ya yy_0 yy_1 yy_2 yy_3 yy_4 yy_5 yy_6 yy_7 yy_8))) [0, 1, 2, 3, 4, 5, 6, 7, 8, 9, 10, 11, 12, 13, 14, 15] rfl) (hD.sub (ws' := (wPLc G pa pp_0 pp_1 pp_2 pp_3 pp_4 pp_5 pp_6 pp_7 pp_8 ++ (wSYc G ya yy_0 yy_1 yy_2 yy_3 yy_4 yy_5 yy_6 yy_7 yy_8))) [0, 1, 2, 3, 4, 5, 6, 7, 8, 9, 10, 11, 12, 13, 14, 15] (by decide) rfl) (ci := 0) rfl rfl) rfl rfl hl.1 rfl (lv_room (Nat.le_of_ble_eq_true rfl)) dX0_layOn_22 ⟨Nat.le_of_ble_eq_true rfl, Nat.le_of_ble_eq_true rfl⟩) hP hD hS hA [0, 1, 2, 3, 4, 5, 6, 7, 8, 9, 10, 11, 12, 13, 14, 15] [] [0, 1, 2, 3, 4, 5, 6, 7, 8, 9, 10, 11, 12, 13, 14, 15] rfl rfl (by decide) (by decide) rfl (by decide) (fun H locs hP hD hS => ?_)
    have hP : va_P G.1 vwCl (wPLc G pa pp_0 pp_1 pp_2 pp_3 pp_4 pp_5 pp_6 pp_7 pp_8 ++ (wSYc G ya yy_0 yy_1 yy_2 yy_3 yy_4 yy_5 yy_6 yy_7 yy_8)) H := hP
    have hD : va_D A (wPLc G pa pp_0 pp_1 pp_2 pp_3 pp_4 pp_5 pp_6 pp_7 pp_8 ++ (wSYc G ya yy_0 yy_1 yy_2 yy_3 yy_4 yy_5 yy_6 yy_7 yy_8)) := hD
    refine lv_istore (lv' := [(4, .int o3), (3, .int o1), (0, .ref (pa 0)), (1, .int i1), (2, .ref (ya 0))]) hx hb dX0_layOn_25 hl (by decide) rfl (fun ls hl => ?_)
    refine lv_iload hx hb dX0_layOn_27 (lv_at hl 0 rfl) ?_
    refine lv_iconst (v := ((-1) : Int32)) hx hb dX0_layOn_29 (by decide) ?_
    refine lv_icmp_eq (tgt := 51) hx hb dX0_layOn_30 (by decide) (fun c4 => ?_) (fun c4 => ?_)
    · have h := sp_t c4 h
      obtain rfl := sp_s h
      exact xk_reV hx hb hr hlk hP hD hS dX0_layOn_51
    · have h := sp_f c4 h
      refine lv_aload_n hx hb dX0_layOn_33 rfl (lv_at hl 2 rfl) ?_
      refine lv_iload hx hb dX0_layOn_34 (lv_at hl 0 rfl) ?_
      refine lv_iload_n hx hb dX0_layOn_36 rfl (lv_at hl 3 rfl) ?_
      refine lv_aload_n hx hb dX0_layOn_37 rfl (lv_at hl 4 rfl) ?_
      obtain ⟨o5, ho5, h⟩ := sp_b h
      refine xk_ci (va_runV (As := [.int o3, .int i1, .ref (ya 0)]) (rest := []) ⟨hx, hb, hml, hown, hts⟩ (c_X0_isKitTaken l G pa ya (pp_0, pp_1, pp_2, pp_3, pp_4, pp_5, pp_6, pp_7, pp_8) (yy_0, yy_1, yy_2, yy_3, yy_4, yy_5, yy_6, yy_7, yy_8) o3 i1 o5 ho5 H.size) (cwV 3 hts gX0_layOn_X0_isKitTaken rfl rfl rfl (by decide +kernel) ⟨Nat.le_of_ble_eq_true rfl, Nat.le_of_ble_eq_true rfl⟩) (xk_preV hK hNE (hP.sub (ws' := (wPLc G pa pp_0 pp_1 pp_2 pp_3 pp_4 pp_5 pp_6 pp_7 pp_8 ++ (wSYc G ya yy_0 yy_1 yy_2 yy_3 yy_4 yy_5 yy_6 yy_7 yy_8))) [0, 1, 2, 3, 4, 5, 6, 7, 8, 9, 10, 11, 12, 13, 14, 15] rfl) (hD.sub (ws' := (wPLc G pa pp_0 pp_1 pp_2 pp_3 pp_4 pp_5 pp_6 pp_7 pp_8 ++ (wSYc G ya yy_0 yy_1 yy_2 yy_3 yy_4 yy_5 yy_6 yy_7 yy_8))) [0, 1, 2, 3, 4, 5, 6, 7, 8, 9, 10, 11, 12, 13, 14, 15] (by decide) rfl) (ci := 0) rfl rfl) rfl rfl hl.1 rfl (lv_room (Nat.le_of_ble_eq_true rfl)) dX0_layOn_38 ⟨Nat.le_of_ble_eq_true rfl, Nat.le_of_ble_eq_true rfl⟩) hP hD hS hA [0, 1, 2, 3, 4, 5, 6, 7, 8, 9, 10, 11, 12, 13, 14, 15] [] [0, 1, 2, 3, 4, 5, 6, 7, 8, 9, 10, 11, 12, 13, 14, 15] rfl rfl (by decide) (by decide) rfl (by decide) (fun H locs hP hD hS => ?_)
      have hP : va_P G.1 vwCl (wPLc G pa pp_0 pp_1 pp_2 pp_3 pp_4 pp_5 pp_6 pp_7 pp_8 ++ (wSYc G ya yy_0 yy_1 yy_2 yy_3 yy_4 yy_5 yy_6 yy_7 yy_8)) H := hP
      have hD : va_D A (wPLc G pa pp_0 pp_1 pp_2 pp_3 pp_4 pp_5 pp_6 pp_7 pp_8 ++ (wSYc G ya yy_0 yy_1 yy_2 yy_3 yy_4 yy_5 yy_6 yy_7 yy_8)) := hD
      refine lv_if_ne (tgt := 51) hx hb dX0_layOn_41 (by decide) (fun c6 => ?_) (fun c6 => ?_)
      · have h := sp_f c6 h
        obtain rfl := sp_s h
        exact xk_reV hx hb hr hlk hP hD hS dX0_layOn_51
      · have h := sp_t c6 h
        refine lv_aload_n hx hb dX0_layOn_44 rfl (lv_at hl 2 rfl) ?_
        refine lv_iload hx hb dX0_layOn_45 (lv_at hl 0 rfl) ?_
        refine lv_iload_n hx hb dX0_layOn_47 rfl (lv_at hl 3 rfl) ?_
        obtain ⟨o7, ho7, h⟩ := sp_b h
        refine xk_cv (va_runV (As := [.int o3, .int i1]) (rest := []) ⟨hx, hb, hml, hown, hts⟩ (c_X0_layLesson l G pa (pp_0, pp_1, pp_2, pp_3, pp_4, pp_5, pp_6, pp_7, pp_8) o3 i1 o7 ho7 H.size) (cwV 2 hts gX0_layOn_X0_layLesson rfl rfl rfl (by decide +kernel) ⟨Nat.le_of_ble_eq_true rfl, Nat.le_of_ble_eq_true rfl⟩) (xk_preV hK hNE (hP.sub (ws' := (wPLc G pa pp_0 pp_1 pp_2 pp_3 pp_4 pp_5 pp_6 pp_7 pp_8)) [0, 1, 2, 3, 4, 5, 6] rfl) (hD.sub (ws' := (wPLc G pa pp_0 pp_1 pp_2 pp_3 pp_4 pp_5 pp_6 pp_7 pp_8)) [0, 1, 2, 3, 4, 5, 6] (by decide) rfl) (ci := 0) rfl rfl) rfl rfl hl.1 rfl (lv_room (Nat.le_of_ble_eq_true rfl)) dX0_layOn_48 ⟨Nat.le_of_ble_eq_true rfl, Nat.le_of_ble_eq_true rfl⟩) hP hD hS hA [0, 1, 2, 3, 4, 5, 6] [7, 8, 9, 10, 11, 12, 13, 14, 15] [9, 10, 11, 12, 13, 14, 15, 0, 1, 2, 3, 4, 5, 6, 7, 8] rfl rfl (by decide) (by decide) rfl (by decide) (fun H locs hP hD hS => ?_)
        have hP : va_P G.1 vwCl (wPLc G pa o7.1 o7.2.1 pp_2 o7.2.2.1 pp_4 o7.2.2.2.1 o7.2.2.2.2.1 pp_7 o7.2.2.2.2.2 ++ (wSYc G ya yy_0 yy_1 yy_2 yy_3 yy_4 yy_5 yy_6 yy_7 yy_8)) H := hP
        have hD : va_D A (wPLc G pa o7.1 o7.2.1 pp_2 o7.2.2.1 pp_4 o7.2.2.2.1 o7.2.2.2.2.1 pp_7 o7.2.2.2.2.2 ++ (wSYc G ya yy_0 yy_1 yy_2 yy_3 yy_4 yy_5 yy_6 yy_7 yy_8)) := hD
        obtain rfl := sp_s h
        exact xk_reV hx hb hr hlk hP hD hS dX0_layOn_51
  · have h := sp_f c2 h
    refine lv_aload_n hx hb dX0_layOn_12 rfl (lv_at hl 1 rfl) ?_
    refine lv_iload_n hx hb dX0_layOn_13 rfl (lv_at hl 0 rfl) ?_
    refine lv_iload_n hx hb dX0_layOn_14 rfl (lv_at hl 2 rfl) ?_
    refine lv_aload_n hx hb dX0_layOn_15 rfl (lv_at hl 3 rfl) ?_
    obtain ⟨o8, ho8, h⟩ := sp_b h
    refine xk_cv (va_runV (As := [.int o1, .int i1, .ref (ya 0)]) (rest := []) ⟨hx, hb, hml, hown, hts⟩ (c_X0_layRevisit l G pa ya (pp_0, pp_1, pp_2, pp_3, pp_4, pp_5, pp_6, pp_7, pp_8) (yy_0, yy_1, yy_2, yy_3, yy_4, yy_5, yy_6, yy_7, yy_8) o1 i1 o8 ho8 H.size) (cwV 3 hts gX0_layOn_X0_layRevisit rfl rfl rfl (by decide +kernel) ⟨Nat.le_of_ble_eq_true rfl, Nat.le_of_ble_eq_true rfl⟩) (xk_preV hK hNE (hP.sub (ws' := (wPLc G pa pp_0 pp_1 pp_2 pp_3 pp_4 pp_5 pp_6 pp_7 pp_8 ++ (wSYc G ya yy_0 yy_1 yy_2 yy_3 yy_4 yy_5 yy_6 yy_7 yy_8))) [0, 1, 2, 3, 4, 5, 6, 7, 8, 9, 10, 11, 12, 13, 14, 15] rfl) (hD.sub (ws' := (wPLc G pa pp_0 pp_1 pp_2 pp_3 pp_4 pp_5 pp_6 pp_7 pp_8 ++ (wSYc G ya yy_0 yy_1 yy_2 yy_3 yy_4 yy_5 yy_6 yy_7 yy_8))) [0, 1, 2, 3, 4, 5, 6, 7, 8, 9, 10, 11, 12, 13, 14, 15] (by decide) rfl) (ci := 0) rfl rfl) rfl rfl hl.1 rfl (lv_room (Nat.le_of_ble_eq_true rfl)) dX0_layOn_16 ⟨Nat.le_of_ble_eq_true rfl, Nat.le_of_ble_eq_true rfl⟩) hP hD hS hA [0, 1, 2, 3, 4, 5, 6, 7, 8, 9, 10, 11, 12, 13, 14, 15] [] [0, 1, 2, 3, 4, 5, 6, 7, 8, 9, 10, 11, 12, 13, 14, 15] rfl rfl (by decide) (by decide) rfl (by decide) (fun H locs hP hD hS => ?_)
    have hP : va_P G.1 vwCl (wPLc G pa o8.1 pp_1 o8.2.1 pp_3 o8.2.2.1 o8.2.2.2.1 o8.2.2.2.2.1 o8.2.2.2.2.2.1 o8.2.2.2.2.2.2 ++ (wSYc G ya yy_0 yy_1 yy_2 yy_3 yy_4 yy_5 yy_6 yy_7 yy_8)) H := hP
    have hD : va_D A (wPLc G pa o8.1 pp_1 o8.2.1 pp_3 o8.2.2.1 o8.2.2.2.1 o8.2.2.2.2.1 o8.2.2.2.2.2.1 o8.2.2.2.2.2.2 ++ (wSYc G ya yy_0 yy_1 yy_2 yy_3 yy_4 yy_5 yy_6 yy_7 yy_8)) := hD
    obtain rfl := sp_s h
    exact xk_reV hx hb hr hlk hP hD hS dX0_layOn_19
def f_X0_clear (pp : xPL) : Option (xPL) :=
  Option.bind (f_J7_fill_53178 100 pp.1 ((-1) : Int32)) fun (o1 : xF) =>
  Option.bind (f_J7_fill_53178 60 pp.2.1 ((-1) : Int32)) fun (o2 : xF) =>
  Option.bind (f_J7_fill_53178 36 pp.2.2.1 ((-1) : Int32)) fun (o3 : xF) =>
  Option.bind (f_J7_fill_53178 12 pp.2.2.2.1 (0 : Int32)) fun (o4 : xF) =>
  Option.bind (f_J7_fill_53178 12 pp.2.2.2.2.1 (0 : Int32)) fun (o5 : xF) =>
  Option.bind (f_J7_fill_53178 12 pp.2.2.2.2.2.1 (0 : Int32)) fun (o6 : xF) =>
  some (o1, o2, o3, o4, o5, o6, (0 : Int32), (0 : Int32), ((-1) : Int32))
theorem f_X0_clear_e (pp_0 : xF) (pp_1 : xF) (pp_2 : xF) (pp_3 : xF) (pp_4 : xF) (pp_5 : xF) (pp_6 : Int32) (pp_7 : Int32) (pp_8 : Int32) : f_X0_clear (pp_0, pp_1, pp_2, pp_3, pp_4, pp_5, pp_6, pp_7, pp_8) =
  Option.bind (f_J7_fill_53178 100 pp_0 ((-1) : Int32)) fun (o1 : xF) =>
  Option.bind (f_J7_fill_53178 60 pp_1 ((-1) : Int32)) fun (o2 : xF) =>
  Option.bind (f_J7_fill_53178 36 pp_2 ((-1) : Int32)) fun (o3 : xF) =>
  Option.bind (f_J7_fill_53178 12 pp_3 (0 : Int32)) fun (o4 : xF) =>
  Option.bind (f_J7_fill_53178 12 pp_4 (0 : Int32)) fun (o5 : xF) =>
  Option.bind (f_J7_fill_53178 12 pp_5 (0 : Int32)) fun (o6 : xF) =>
  some (o1, o2, o3, o4, o5, o6, (0 : Int32), (0 : Int32), ((-1) : Int32)) := rfl
set_option maxHeartbeats 4000000 in
set_option maxRecDepth 100000 in
theorem c_X0_clear (l : Launch) (G : xG) (pa : (Nat → Nat)) (pp : xPL) (o : xPL) (h : f_X0_clear pp = some o) : xk_CV l yX0_clear wsX0_clear ({ frames := 1, cells := 0, slots := 0, locals := 23 } : Room) 0 0 [.ref (pa 0)] G (wPLc G pa pp.1 pp.2.1 pp.2.2.1 pp.2.2.2.1 pp.2.2.2.2.1 pp.2.2.2.2.2.1 pp.2.2.2.2.2.2.1 pp.2.2.2.2.2.2.2.1 pp.2.2.2.2.2.2.2.2) (wPLc G pa o.1 o.2.1 o.2.2.1 o.2.2.2.1 o.2.2.2.2.1 o.2.2.2.2.2.1 o.2.2.2.2.2.2.1 o.2.2.2.2.2.2.2.1 o.2.2.2.2.2.2.2.2) := by
  obtain ⟨pp_0, pp_1, pp_2, pp_3, pp_4, pp_5, pp_6, pp_7, pp_8⟩ := pp
  refine xk_CV.of (cc := cX0_clear) (maxL := 1) (ret := none) (by decide) rfl (Nat.le_of_ble_eq_true rfl) ?_
  intro pr9 en9 s mm9 bl9 meth9 cd9 A ls H locs hx hb hr hml hts hown hlk hA hP hK hD hNE hS hl
  have hown : s.vm.findClass RX0 = some mm9.cls := hown
  have hl : lv_has ls 1 [(0, .ref (pa 0))] := hl
  have hinX0 : ∀ w ∈ u_ws RX0 TX0 9, w ∈ wsX0_clear := by decide +kernel
  have hP : va_P G.1 vwCl (wPLc G pa pp_0 pp_1 pp_2 pp_3 pp_4 pp_5 pp_6 pp_7 pp_8) H := hP
  have hD : va_D A (wPLc G pa pp_0 pp_1 pp_2 pp_3 pp_4 pp_5 pp_6 pp_7 pp_8) := hD
  have h := (f_X0_clear_e pp_0 pp_1 pp_2 pp_3 pp_4 pp_5 pp_6 pp_7 pp_8).symm.trans h
  refine lv_aload_n hx hb dX0_clear_0 rfl (lv_at hl 0 rfl) ?_
  refine va_get (D := G.1) (ci := 0) (v := .ref (pa 1)) (C := RX0) (T := TX0) (N := 9) hx hb hts hinX0 hown hK hP 0 rfl rfl 0 (by decide) (hts (.fieldLink RX0 9 "LessonWeave$Plan" "things" "[I") (by decide +kernel)) (fun _ h9 => h9) rfl dX0_clear_1 ?_
  refine lv_iconst (v := ((-1) : Int32)) hx hb dX0_clear_4 (by decide) ?_
  obtain ⟨o1, ho1, h⟩ := sp_b h
  refine xk_cv (va_runS (As := [.ref (pa 1), .int ((-1) : Int32)]) (rest := []) ⟨hx, hb, hml, hown, hts⟩ (c_J7_fill_53178 l G (pa 1) 100 pp_0 ((-1) : Int32) o1 ho1 H.size) (va_cwS 2 hts gX0_clear_J7_fill_53178 rfl rfl rfl (by decide +kernel) ⟨Nat.le_of_ble_eq_true rfl, Nat.le_of_ble_eq_true rfl⟩) (xk_preS hK hNE (hP.sub (ws' := (wAR G (pa 1) 100 pp_0)) [1] rfl) (hD.sub (ws' := (wAR G (pa 1) 100 pp_0)) [1] (by decide) rfl)) rfl rfl hl.1 rfl (lv_room (Nat.le_of_ble_eq_true rfl)) dX0_clear_5 ⟨Nat.le_of_ble_eq_true rfl, Nat.le_of_ble_eq_true rfl⟩) hP hD hS hA [1] [0, 2, 3, 4, 5, 6] [0, 6, 1, 2, 3, 4, 5] rfl rfl (by decide) (by decide) rfl (by decide) (fun H locs hP hD hS => ?_)
  have hP : va_P G.1 vwCl (wPLc G pa o1 pp_1 pp_2 pp_3 pp_4 pp_5 pp_6 pp_7 pp_8) H := hP
  have hD : va_D A (wPLc G pa o1 pp_1 pp_2 pp_3 pp_4 pp_5 pp_6 pp_7 pp_8) := hD
  refine lv_aload_n hx hb dX0_clear_8 rfl (lv_at hl 0 rfl) ?_
  refine va_get (D := G.1) (ci := 0) (v := .ref (pa 2)) (C := RX0) (T := TX0) (N := 9) hx hb hts hinX0 hown hK hP 0 rfl rfl 1 (by decide) (hts (.fieldLink RX0 15 "LessonWeave$Plan" "lessonDays" "[I") (by decide +kernel)) (fun _ h9 => h9) rfl dX0_clear_9 ?_
  refine lv_iconst (v := ((-1) : Int32)) hx hb dX0_clear_12 (by decide) ?_
  obtain ⟨o2, ho2, h⟩ := sp_b h
  refine xk_cv (va_runS (As := [.ref (pa 2), .int ((-1) : Int32)]) (rest := []) ⟨hx, hb, hml, hown, hts⟩ (c_J7_fill_53178 l G (pa 2) 60 pp_1 ((-1) : Int32) o2 ho2 H.size) (va_cwS 2 hts gX0_clear_J7_fill_53178 rfl rfl rfl (by decide +kernel) ⟨Nat.le_of_ble_eq_true rfl, Nat.le_of_ble_eq_true rfl⟩) (xk_preS hK hNE (hP.sub (ws' := (wAR G (pa 2) 60 pp_1)) [2] rfl) (hD.sub (ws' := (wAR G (pa 2) 60 pp_1)) [2] (by decide) rfl)) rfl rfl hl.1 rfl (lv_room (Nat.le_of_ble_eq_true rfl)) dX0_clear_13 ⟨Nat.le_of_ble_eq_true rfl, Nat.le_of_ble_eq_true rfl⟩) hP hD hS hA [2] [0, 1, 3, 4, 5, 6] [0, 1, 6, 2, 3, 4, 5] rfl rfl (by decide) (by decide) rfl (by decide) (fun H locs hP hD hS => ?_)
  have hP : va_P G.1 vwCl (wPLc G pa o1 o2 pp_2 pp_3 pp_4 pp_5 pp_6 pp_7 pp_8) H := hP
  have hD : va_D A (wPLc G pa o1 o2 pp_2 pp_3 pp_4 pp_5 pp_6 pp_7 pp_8) := hD
  refine lv_aload_n hx hb dX0_clear_16 rfl (lv_at hl 0 rfl) ?_
  refine va_get (D := G.1) (ci := 0) (v := .ref (pa 3)) (C := RX0) (T := TX0) (N := 9) hx hb hts hinX0 hown hK hP 0 rfl rfl 2 (by decide) (hts (.fieldLink RX0 18 "LessonWeave$Plan" "revisitDays" "[I") (by decide +kernel)) (fun _ h9 => h9) rfl dX0_clear_17 ?_
  refine lv_iconst (v := ((-1) : Int32)) hx hb dX0_clear_20 (by decide) ?_
  obtain ⟨o3, ho3, h⟩ := sp_b h
  refine xk_cv (va_runS (As := [.ref (pa 3), .int ((-1) : Int32)]) (rest := []) ⟨hx, hb, hml, hown, hts⟩ (c_J7_fill_53178 l G (pa 3) 36 pp_2 ((-1) : Int32) o3 ho3 H.size) (va_cwS 2 hts gX0_clear_J7_fill_53178 rfl rfl rfl (by decide +kernel) ⟨Nat.le_of_ble_eq_true rfl, Nat.le_of_ble_eq_true rfl⟩) (xk_preS hK hNE (hP.sub (ws' := (wAR G (pa 3) 36 pp_2)) [3] rfl) (hD.sub (ws' := (wAR G (pa 3) 36 pp_2)) [3] (by decide) rfl)) rfl rfl hl.1 rfl (lv_room (Nat.le_of_ble_eq_true rfl)) dX0_clear_21 ⟨Nat.le_of_ble_eq_true rfl, Nat.le_of_ble_eq_true rfl⟩) hP hD hS hA [3] [0, 1, 2, 4, 5, 6] [0, 1, 2, 6, 3, 4, 5] rfl rfl (by decide) (by decide) rfl (by decide) (fun H locs hP hD hS => ?_)
  have hP : va_P G.1 vwCl (wPLc G pa o1 o2 o3 pp_3 pp_4 pp_5 pp_6 pp_7 pp_8) H := hP
  have hD : va_D A (wPLc G pa o1 o2 o3 pp_3 pp_4 pp_5 pp_6 pp_7 pp_8) := hD
  refine lv_aload_n hx hb dX0_clear_24 rfl (lv_at hl 0 rfl) ?_
  refine va_get (D := G.1) (ci := 0) (v := .ref (pa 4)) (C := RX0) (T := TX0) (N := 9) hx hb hts hinX0 hown hK hP 0 rfl rfl 3 (by decide) (hts (.fieldLink RX0 21 "LessonWeave$Plan" "lessonsLaid" "[I") (by decide +kernel)) (fun _ h9 => h9) rfl dX0_clear_25 ?_
  refine lv_iconst (v := (0 : Int32)) hx hb dX0_clear_28 (by decide) ?_
  obtain ⟨o4, ho4, h⟩ := sp_b h
  refine xk_cv (va_runS (As := [.ref (pa 4), .int (0 : Int32)]) (rest := []) ⟨hx, hb, hml, hown, hts⟩ (c_J7_fill_53178 l G (pa 4) 12 pp_3 (0 : Int32) o4 ho4 H.size) (va_cwS 2 hts gX0_clear_J7_fill_53178 rfl rfl rfl (by decide +kernel) ⟨Nat.le_of_ble_eq_true rfl, Nat.le_of_ble_eq_true rfl⟩) (xk_preS hK hNE (hP.sub (ws' := (wAR G (pa 4) 12 pp_3)) [4] rfl) (hD.sub (ws' := (wAR G (pa 4) 12 pp_3)) [4] (by decide) rfl)) rfl rfl hl.1 rfl (lv_room (Nat.le_of_ble_eq_true rfl)) dX0_clear_29 ⟨Nat.le_of_ble_eq_true rfl, Nat.le_of_ble_eq_true rfl⟩) hP hD hS hA [4] [0, 1, 2, 3, 5, 6] [0, 1, 2, 3, 6, 4, 5] rfl rfl (by decide) (by decide) rfl (by decide) (fun H locs hP hD hS => ?_)
  have hP : va_P G.1 vwCl (wPLc G pa o1 o2 o3 o4 pp_4 pp_5 pp_6 pp_7 pp_8) H := hP
  have hD : va_D A (wPLc G pa o1 o2 o3 o4 pp_4 pp_5 pp_6 pp_7 pp_8) := hD
  refine lv_aload_n hx hb dX0_clear_32 rfl (lv_at hl 0 rfl) ?_
  refine va_get (D := G.1) (ci := 0) (v := .ref (pa 5)) (C := RX0) (T := TX0) (N := 9) hx hb hts hinX0 hown hK hP 0 rfl rfl 4 (by decide) (hts (.fieldLink RX0 24 "LessonWeave$Plan" "revisitsLaid" "[I") (by decide +kernel)) (fun _ h9 => h9) rfl dX0_clear_33 ?_
  refine lv_iconst (v := (0 : Int32)) hx hb dX0_clear_36 (by decide) ?_
  obtain ⟨o5, ho5, h⟩ := sp_b h
  refine xk_cv (va_runS (As := [.ref (pa 5), .int (0 : Int32)]) (rest := []) ⟨hx, hb, hml, hown, hts⟩ (c_J7_fill_53178 l G (pa 5) 12 pp_4 (0 : Int32) o5 ho5 H.size) (va_cwS 2 hts gX0_clear_J7_fill_53178 rfl rfl rfl (by decide +kernel) ⟨Nat.le_of_ble_eq_true rfl, Nat.le_of_ble_eq_true rfl⟩) (xk_preS hK hNE (hP.sub (ws' := (wAR G (pa 5) 12 pp_4)) [5] rfl) (hD.sub (ws' := (wAR G (pa 5) 12 pp_4)) [5] (by decide) rfl)) rfl rfl hl.1 rfl (lv_room (Nat.le_of_ble_eq_true rfl)) dX0_clear_37 ⟨Nat.le_of_ble_eq_true rfl, Nat.le_of_ble_eq_true rfl⟩) hP hD hS hA [5] [0, 1, 2, 3, 4, 6] [0, 1, 2, 3, 4, 6, 5] rfl rfl (by decide) (by decide) rfl (by decide) (fun H locs hP hD hS => ?_)
  have hP : va_P G.1 vwCl (wPLc G pa o1 o2 o3 o4 o5 pp_5 pp_6 pp_7 pp_8) H := hP
  have hD : va_D A (wPLc G pa o1 o2 o3 o4 o5 pp_5 pp_6 pp_7 pp_8) := hD
  refine lv_aload_n hx hb dX0_clear_40 rfl (lv_at hl 0 rfl) ?_
  refine va_get (D := G.1) (ci := 0) (v := .ref (pa 6)) (C := RX0) (T := TX0) (N := 9) hx hb hts hinX0 hown hK hP 0 rfl rfl 5 (by decide) (hts (.fieldLink RX0 27 "LessonWeave$Plan" "since" "[I") (by decide +kernel)) (fun _ h9 => h9) rfl dX0_clear_41 ?_
  refine lv_iconst (v := (0 : Int32)) hx hb dX0_clear_44 (by decide) ?_
  obtain ⟨o6, ho6, h⟩ := sp_b h
  refine xk_cv (va_runS (As := [.ref (pa 6), .int (0 : Int32)]) (rest := []) ⟨hx, hb, hml, hown, hts⟩ (c_J7_fill_53178 l G (pa 6) 12 pp_5 (0 : Int32) o6 ho6 H.size) (va_cwS 2 hts gX0_clear_J7_fill_53178 rfl rfl rfl (by decide +kernel) ⟨Nat.le_of_ble_eq_true rfl, Nat.le_of_ble_eq_true rfl⟩) (xk_preS hK hNE (hP.sub (ws' := (wAR G (pa 6) 12 pp_5)) [6] rfl) (hD.sub (ws' := (wAR G (pa 6) 12 pp_5)) [6] (by decide) rfl)) rfl rfl hl.1 rfl (lv_room (Nat.le_of_ble_eq_true rfl)) dX0_clear_45 ⟨Nat.le_of_ble_eq_true rfl, Nat.le_of_ble_eq_true rfl⟩) hP hD hS hA [6] [0, 1, 2, 3, 4, 5] [0, 1, 2, 3, 4, 5, 6] rfl rfl (by decide) (by decide) rfl (by decide) (fun H locs hP hD hS => ?_)
  have hP : va_P G.1 vwCl (wPLc G pa o1 o2 o3 o4 o5 o6 pp_6 pp_7 pp_8) H := hP
  have hD : va_D A (wPLc G pa o1 o2 o3 o4 o5 o6 pp_6 pp_7 pp_8) := hD
  refine lv_aload_n hx hb dX0_clear_48 rfl (lv_at hl 0 rfl) ?_
  refine lv_iconst (v := (0 : Int32)) hx hb dX0_clear_49 (by decide) ?_
  refine va_put (D := G.1) (ci := 0) (v := .int (0 : Int32)) (ty := .int) (C := RX0) (T := TX0) (N := 9) hx hb hts hinX0 tyX0 tyX0_ok nmX0 hown hK hP hD hS 0 rfl rfl 6 (by decide) (hts (.fieldLink RX0 39 "LessonWeave$Plan" "laidCount" "I") (by decide +kernel)) (fun _ h9 => h9) rfl (by decide +kernel) rfl rfl (Nat.le_of_ble_eq_true rfl) dX0_clear_50 (fun H locs hP hD hS => ?_)
  have hP : va_P G.1 vwCl (wPLc G pa o1 o2 o3 o4 o5 o6 (0 : Int32) pp_7 pp_8) H := hP
  have hD : va_D A (wPLc G pa o1 o2 o3 o4 o5 o6 (0 : Int32) pp_7 pp_8) := hD
  refine lv_aload_n hx hb dX0_clear_53 rfl (lv_at hl 0 rfl) ?_
  refine lv_iconst (v := (0 : Int32)) hx hb dX0_clear_54 (by decide) ?_
  refine va_put (D := G.1) (ci := 0) (v := .int (0 : Int32)) (ty := .int) (C := RX0) (T := TX0) (N := 9) hx hb hts hinX0 tyX0 tyX0_ok nmX0 hown hK hP hD hS 0 rfl rfl 7 (by decide) (hts (.fieldLink RX0 43 "LessonWeave$Plan" "lateCount" "I") (by decide +kernel)) (fun _ h9 => h9) rfl (by decide +kernel) rfl rfl (Nat.le_of_ble_eq_true rfl) dX0_clear_55 (fun H locs hP hD hS => ?_)
  have hP : va_P G.1 vwCl (wPLc G pa o1 o2 o3 o4 o5 o6 (0 : Int32) (0 : Int32) pp_8) H := hP
  have hD : va_D A (wPLc G pa o1 o2 o3 o4 o5 o6 (0 : Int32) (0 : Int32) pp_8) := hD
  refine lv_aload_n hx hb dX0_clear_58 rfl (lv_at hl 0 rfl) ?_
  refine lv_iconst (v := ((-1) : Int32)) hx hb dX0_clear_59 (by decide) ?_
  refine va_put (D := G.1) (ci := 0) (v := .int ((-1) : Int32)) (ty := .int) (C := RX0) (T := TX0) (N := 9) hx hb hts hinX0 tyX0 tyX0_ok nmX0 hown hK hP hD hS 0 rfl rfl 8 (by decide) (hts (.fieldLink RX0 46 "LessonWeave$Plan" "lastUsed" "I") (by decide +kernel)) (fun _ h9 => h9) rfl (by decide +kernel) rfl rfl (Nat.le_of_ble_eq_true rfl) dX0_clear_60 (fun H locs hP hD hS => ?_)
  have hP : va_P G.1 vwCl (wPLc G pa o1 o2 o3 o4 o5 o6 (0 : Int32) (0 : Int32) ((-1) : Int32)) H := hP
  have hD : va_D A (wPLc G pa o1 o2 o3 o4 o5 o6 (0 : Int32) (0 : Int32) ((-1) : Int32)) := hD
  obtain rfl := sp_s h
  exact xk_reV hx hb hr hlk hP hD hS dX0_clear_63
def f_X0_lay_l6 (yy_0 : Int32) (yy_1 : xF) (yy_2 : xF) (yy_3 : xF) (yy_4 : xF) (yy_5 : xF) (yy_6 : xF) (yy_7 : xF) (yy_8 : xF) (lo : xF) : Nat → Int32 → xPL → Option (xPL)
  | 0, _, _ => none
  | k9 + 1, x3_2, Bpp_2 =>
    if (100 : Int32) ≤ x3_2 then
      some Bpp_2
    else
      if x3_2 < 0 ∨ 100 ≤ x3_2.toNatClampNeg then none else
      if (lo x3_2.toNatClampNeg) = 0 then
        Option.bind (f_X0_layOn Bpp_2 (yy_0, yy_1, yy_2, yy_3, yy_4, yy_5, yy_6, yy_7, yy_8) x3_2) fun (o7 : xPL) =>
        f_X0_lay_l6 yy_0 yy_1 yy_2 yy_3 yy_4 yy_5 yy_6 yy_7 yy_8 lo k9 (x3_2 + (1 : Int32)) o7
      else
        f_X0_lay_l6 yy_0 yy_1 yy_2 yy_3 yy_4 yy_5 yy_6 yy_7 yy_8 lo k9 (x3_2 + (1 : Int32)) Bpp_2
theorem f_X0_lay_l6_z (yy_0 : Int32) (yy_1 : xF) (yy_2 : xF) (yy_3 : xF) (yy_4 : xF) (yy_5 : xF) (yy_6 : xF) (yy_7 : xF) (yy_8 : xF) (lo : xF) (x3_2 : Int32) (Bpp_2 : xPL) : f_X0_lay_l6 yy_0 yy_1 yy_2 yy_3 yy_4 yy_5 yy_6 yy_7 yy_8 lo 0 x3_2 Bpp_2 = none := rfl
theorem f_X0_lay_l6_s (yy_0 : Int32) (yy_1 : xF) (yy_2 : xF) (yy_3 : xF) (yy_4 : xF) (yy_5 : xF) (yy_6 : xF) (yy_7 : xF) (yy_8 : xF) (lo : xF) (k9 : Nat) (x3_2 : Int32) (Bpp_2 : xPL) : f_X0_lay_l6 yy_0 yy_1 yy_2 yy_3 yy_4 yy_5 yy_6 yy_7 yy_8 lo (k9 + 1) x3_2 Bpp_2 =
    if (100 : Int32) ≤ x3_2 then
      some Bpp_2
    else
      if x3_2 < 0 ∨ 100 ≤ x3_2.toNatClampNeg then none else
      if (lo x3_2.toNatClampNeg) = 0 then
        Option.bind (f_X0_layOn Bpp_2 (yy_0, yy_1, yy_2, yy_3, yy_4, yy_5, yy_6, yy_7, yy_8) x3_2) fun (o7 : xPL) =>
        f_X0_lay_l6 yy_0 yy_1 yy_2 yy_3 yy_4 yy_5 yy_6 yy_7 yy_8 lo k9 (x3_2 + (1 : Int32)) o7
      else
        f_X0_lay_l6 yy_0 yy_1 yy_2 yy_3 yy_4 yy_5 yy_6 yy_7 yy_8 lo k9 (x3_2 + (1 : Int32)) Bpp_2 := rfl
def f_X0_lay (pp : xPL) (yy : xSY) (lo : xF) : Option (xPL) :=
  Option.bind (f_X0_clear (pp.1, pp.2.1, pp.2.2.1, pp.2.2.2.1, pp.2.2.2.2.1, pp.2.2.2.2.2.1, pp.2.2.2.2.2.2.1, pp.2.2.2.2.2.2.2.1, pp.2.2.2.2.2.2.2.2)) fun (o1 : xPL) =>
  Option.bind (f_X0_lay_l6 yy.1 yy.2.1 yy.2.2.1 yy.2.2.2.1 yy.2.2.2.2.1 yy.2.2.2.2.2.1 yy.2.2.2.2.2.2.1 yy.2.2.2.2.2.2.2.1 yy.2.2.2.2.2.2.2.2 lo 300 (0 : Int32) o1) fun (w3 : xPL) =>
  some w3
theorem f_X0_lay_e (pp_0 : xF) (pp_1 : xF) (pp_2 : xF) (pp_3 : xF) (pp_4 : xF) (pp_5 : xF) (pp_6 : Int32) (pp_7 : Int32) (pp_8 : Int32) (yy_0 : Int32) (yy_1 : xF) (yy_2 : xF) (yy_3 : xF) (yy_4 : xF) (yy_5 : xF) (yy_6 : xF) (yy_7 : xF) (yy_8 : xF) (lo : xF) : f_X0_lay (pp_0, pp_1, pp_2, pp_3, pp_4, pp_5, pp_6, pp_7, pp_8) (yy_0, yy_1, yy_2, yy_3, yy_4, yy_5, yy_6, yy_7, yy_8) lo =
  Option.bind (f_X0_clear (pp_0, pp_1, pp_2, pp_3, pp_4, pp_5, pp_6, pp_7, pp_8)) fun (o1 : xPL) =>
  Option.bind (f_X0_lay_l6 yy_0 yy_1 yy_2 yy_3 yy_4 yy_5 yy_6 yy_7 yy_8 lo 300 (0 : Int32) o1) fun (w3 : xPL) =>
  some w3 := rfl
set_option maxHeartbeats 4000000 in
set_option maxRecDepth 100000 in
theorem c_X0_lay (l : Launch) (G : xG) (pa : (Nat → Nat)) (ya : (Nat → Nat)) (la : Nat) (pp : xPL) (yy : xSY) (lo : xF) (o : xPL) (h : f_X0_lay pp yy lo = some o) : xk_CV l yX0_lay wsX0_lay ({ frames := 4, cells := 0, slots := 0, locals := 95 } : Room) 0 0 [.ref (pa 0), .ref (ya 0), .ref la] G (wPLc G pa pp.1 pp.2.1 pp.2.2.1 pp.2.2.2.1 pp.2.2.2.2.1 pp.2.2.2.2.2.1 pp.2.2.2.2.2.2.1 pp.2.2.2.2.2.2.2.1 pp.2.2.2.2.2.2.2.2 ++ (wSYc G ya yy.1 yy.2.1 yy.2.2.1 yy.2.2.2.1 yy.2.2.2.2.1 yy.2.2.2.2.2.1 yy.2.2.2.2.2.2.1 yy.2.2.2.2.2.2.2.1 yy.2.2.2.2.2.2.2.2 ++ (wLO G la lo))) (wPLc G pa o.1 o.2.1 o.2.2.1 o.2.2.2.1 o.2.2.2.2.1 o.2.2.2.2.2.1 o.2.2.2.2.2.2.1 o.2.2.2.2.2.2.2.1 o.2.2.2.2.2.2.2.2 ++ (wSYc G ya yy.1 yy.2.1 yy.2.2.1 yy.2.2.2.1 yy.2.2.2.2.1 yy.2.2.2.2.2.1 yy.2.2.2.2.2.2.1 yy.2.2.2.2.2.2.2.1 yy.2.2.2.2.2.2.2.2 ++ (wLO G la lo))) := by
  obtain ⟨pp_0, pp_1, pp_2, pp_3, pp_4, pp_5, pp_6, pp_7, pp_8⟩ := pp
  obtain ⟨yy_0, yy_1, yy_2, yy_3, yy_4, yy_5, yy_6, yy_7, yy_8⟩ := yy
  refine xk_CV.of (cc := cX0_lay) (maxL := 4) (ret := none) (by decide) rfl (Nat.le_of_ble_eq_true rfl) ?_
  intro pr9 en9 s mm9 bl9 meth9 cd9 A ls H locs hx hb hr hml hts hown hlk hA hP hK hD hNE hS hl
  have hown : s.vm.findClass RX0 = some mm9.cls := hown
  have hl : lv_has ls 4 [(0, .ref (pa 0)), (1, .ref (ya 0)), (2, .ref la)] := hl
  have hP : va_P G.1 vwCl (wPLc G pa pp_0 pp_1 pp_2 pp_3 pp_4 pp_5 pp_6 pp_7 pp_8 ++ (wSYc G ya yy_0 yy_1 yy_2 yy_3 yy_4 yy_5 yy_6 yy_7 yy_8 ++ (wLO G la lo))) H := hP
  have hD : va_D A (wPLc G pa pp_0 pp_1 pp_2 pp_3 pp_4 pp_5 pp_6 pp_7 pp_8 ++ (wSYc G ya yy_0 yy_1 yy_2 yy_3 yy_4 yy_5 yy_6 yy_7 yy_8 ++ (wLO G la lo))) := hD
  have h := (f_X0_lay_e pp_0 pp_1 pp_2 pp_3 pp_4 pp_5 pp_6 pp_7 pp_8 yy_0 yy_1 yy_2 yy_3 yy_4 yy_5 yy_6 yy_7 yy_8 lo).symm.trans h
  refine lv_aload_n hx hb dX0_lay_0 rfl (lv_at hl 0 rfl) ?_
  obtain ⟨o1, ho1, h⟩ := sp_b h
  refine xk_cv (va_runV (As := []) (rest := []) ⟨hx, hb, hml, hown, hts⟩ (c_X0_clear l G pa (pp_0, pp_1, pp_2, pp_3, pp_4, pp_5, pp_6, pp_7, pp_8) o1 ho1 H.size) (cwV 0 hts gX0_lay_X0_clear rfl rfl rfl (by decide +kernel) ⟨Nat.le_of_ble_eq_true rfl, Nat.le_of_ble_eq_true rfl⟩) (xk_preV hK hNE (hP.sub (ws' := (wPLc G pa pp_0 pp_1 pp_2 pp_3 pp_4 pp_5 pp_6 pp_7 pp_8)) [0, 1, 2, 3, 4, 5, 6] rfl) (hD.sub (ws' := (wPLc G pa pp_0 pp_1 pp_2 pp_3 pp_4 pp_5 pp_6 pp_7 pp_8)) [0, 1, 2, 3, 4, 5, 6] (by decide) rfl) (ci := 0) rfl rfl) rfl rfl hl.1 rfl (lv_room (Nat.le_of_ble_eq_true rfl)) dX0_lay_1 ⟨Nat.le_of_ble_eq_true rfl, Nat.le_of_ble_eq_true rfl⟩) hP hD hS hA [0, 1, 2, 3, 4, 5, 6] [7, 8, 9, 10, 11, 12, 13, 14, 15, 16] [10, 11, 12, 13, 14, 15, 16, 0, 1, 2, 3, 4, 5, 6, 7, 8, 9] rfl rfl (by decide) (by decide) rfl (by decide) (fun H locs hP hD hS => ?_)
  have hP : va_P G.1 vwCl (wPLc G pa o1.1 o1.2.1 o1.2.2.1 o1.2.2.2.1 o1.2.2.2.2.1 o1.2.2.2.2.2.1 o1.2.2.2.2.2.2.1 o1.2.2.2.2.2.2.2.1 o1.2.2.2.2.2.2.2.2 ++ (wSYc G ya yy_0 yy_1 yy_2 yy_3 yy_4 yy_5 yy_6 yy_7 yy_8 ++ (wLO G la lo))) H := hP
  have hD : va_D A (wPLc G pa o1.1 o1.2.1 o1.2.2.1 o1.2.2.2.1 o1.2.2.2.2.1 o1.2.2.2.2.2.1 o1.2.2.2.2.2.2.1 o1.2.2.2.2.2.2.2.1 o1.2.2.2.2.2.2.2.2 ++ (wSYc G ya yy_0 yy_1 yy_2 yy_3 yy_4 yy_5 yy_6 yy_7 yy_8 ++ (wLO G la lo))) := hD
  refine lv_iconst (v := (0 : Int32)) hx hb dX0_lay_4 (by decide) ?_
  refine lv_istore_n (lv' := [(3, .int (0 : Int32)), (0, .ref (pa 0)), (1, .ref (ya 0)), (2, .ref la)]) hx hb dX0_lay_5 rfl hl (by decide) rfl (fun ls hl => ?_)
  obtain ⟨w3, hw3, h⟩ := sp_b h
  refine xk_jn G A s.heap (wPLc G pa w3.1 w3.2.1 w3.2.2.1 w3.2.2.2.1 w3.2.2.2.2.1 w3.2.2.2.2.2.1 w3.2.2.2.2.2.2.1 w3.2.2.2.2.2.2.2.1 w3.2.2.2.2.2.2.2.2 ++ (wSYc G ya yy_0 yy_1 yy_2 yy_3 yy_4 yy_5 yy_6 yy_7 yy_8 ++ (wLO G la lo))) 4 [] 30 [] (fun H locs hP hD hS ls hl => ?_) (fun J2 => ?_)
  · obtain rfl := sp_s h
    exact xk_reV hx hb hr hlk hP hD hS dX0_lay_30
  · have h := hw3
    clear hw3
    refine xk_lp (α := Int32 × xPL) G A s.heap (fun a_2 => (wPLc G pa a_2.2.1 a_2.2.2.1 a_2.2.2.2.1 a_2.2.2.2.2.1 a_2.2.2.2.2.2.1 a_2.2.2.2.2.2.2.1 a_2.2.2.2.2.2.2.2.1 a_2.2.2.2.2.2.2.2.2.1 a_2.2.2.2.2.2.2.2.2.2 ++ (wSYc G ya yy_0 yy_1 yy_2 yy_3 yy_4 yy_5 yy_6 yy_7 yy_8 ++ (wLO G la lo)))) 4 (fun a_2 => [(3, .int a_2.1), (0, .ref (pa 0)), (1, .ref (ya 0)), (2, .ref la)]) 6 (fun n a_2 => f_X0_lay_l6 yy_0 yy_1 yy_2 yy_3 yy_4 yy_5 yy_6 yy_7 yy_8 lo n a_2.1 a_2.2 = some w3) (fun a_2 h => ?_) (fun n ih_2 a_2 h H locs hP hD hS ls hl => ?_) (fun LL => ?_)
    · exact sp_n ((f_X0_lay_l6_z _ _ _ _ _ _ _ _ _ _ _ _).symm.trans h)
    · obtain ⟨x3_2, Bpp_2⟩ := a_2
      have h := (f_X0_lay_l6_s yy_0 yy_1 yy_2 yy_3 yy_4 yy_5 yy_6 yy_7 yy_8 lo n x3_2 Bpp_2).symm.trans h
      have hP : va_P G.1 vwCl (wPLc G pa Bpp_2.1 Bpp_2.2.1 Bpp_2.2.2.1 Bpp_2.2.2.2.1 Bpp_2.2.2.2.2.1 Bpp_2.2.2.2.2.2.1 Bpp_2.2.2.2.2.2.2.1 Bpp_2.2.2.2.2.2.2.2.1 Bpp_2.2.2.2.2.2.2.2.2 ++ (wSYc G ya yy_0 yy_1 yy_2 yy_3 yy_4 yy_5 yy_6 yy_7 yy_8 ++ (wLO G la lo))) H := hP
      have hD : va_D A (wPLc G pa Bpp_2.1 Bpp_2.2.1 Bpp_2.2.2.1 Bpp_2.2.2.2.1 Bpp_2.2.2.2.2.1 Bpp_2.2.2.2.2.2.1 Bpp_2.2.2.2.2.2.2.1 Bpp_2.2.2.2.2.2.2.2.1 Bpp_2.2.2.2.2.2.2.2.2 ++ (wSYc G ya yy_0 yy_1 yy_2 yy_3 yy_4 yy_5 yy_6 yy_7 yy_8 ++ (wLO G la lo))) := hD
      have hl : lv_has ls 4 [(3, .int x3_2), (0, .ref (pa 0)), (1, .ref (ya 0)), (2, .ref la)] := hl
      refine lv_iload_n hx hb dX0_lay_6 rfl (lv_at hl 0 rfl) ?_
      refine lv_bipush (v := (100 : Int32)) hx hb dX0_lay_7 (by decide) ?_
      refine lv_icmp_ge (tgt := 30) hx hb dX0_lay_9 (by decide) (fun c4 => ?_) (fun c4 => ?_)
      · have h := sp_t c4 h
        obtain rfl := sp_s h
        exact J2 _ _ hP hD hS _ (lv_sub hl [] rfl)
      · have h := sp_f c4 h
        refine lv_aload_n hx hb dX0_lay_12 rfl (lv_at hl 3 rfl) ?_
        refine lv_iload_n hx hb dX0_lay_13 rfl (lv_at hl 0 rfl) ?_
        obtain ⟨hin5, h⟩ := sp_g h
        refine va_zald hx hb hK hP 16 1 rfl rfl hin5 dX0_lay_14 ?_
        refine lv_if_ne (tgt := 24) hx hb dX0_lay_15 (by decide) (fun c6 => ?_) (fun c6 => ?_)
        · have h := sp_f c6 h
          refine lv_iinc (v := (x3_2 + (1 : Int32))) (lv' := [(3, .int (x3_2 + (1 : Int32))), (0, .ref (pa 0)), (1, .ref (ya 0)), (2, .ref la)]) hx hb dX0_lay_24 hl (k := 0) rfl rfl (by decide) rfl (fun ls hl => ?_)
          refine lv_goto (tgt := 6) hx hb dX0_lay_27 (by decide) ?_
          exact ih_2 ((x3_2 + (1 : Int32)), Bpp_2) h _ _ hP hD hS _ (lv_sub hl [0, 1, 2, 3] rfl)
        · have h := sp_t c6 h
          refine lv_aload_n hx hb dX0_lay_18 rfl (lv_at hl 1 rfl) ?_
          refine lv_iload_n hx hb dX0_lay_19 rfl (lv_at hl 0 rfl) ?_
          refine lv_aload_n hx hb dX0_lay_20 rfl (lv_at hl 2 rfl) ?_
          obtain ⟨o7, ho7, h⟩ := sp_b h
          refine xk_cv (va_runV (As := [.int x3_2, .ref (ya 0)]) (rest := []) ⟨hx, hb, hml, hown, hts⟩ (c_X0_layOn l G pa ya Bpp_2 (yy_0, yy_1, yy_2, yy_3, yy_4, yy_5, yy_6, yy_7, yy_8) x3_2 o7 ho7 H.size) (cwV 2 hts gX0_lay_X0_layOn rfl rfl rfl (by decide +kernel) ⟨Nat.le_of_ble_eq_true rfl, Nat.le_of_ble_eq_true rfl⟩) (xk_preV hK hNE (hP.sub (ws' := (wPLc G pa Bpp_2.1 Bpp_2.2.1 Bpp_2.2.2.1 Bpp_2.2.2.2.1 Bpp_2.2.2.2.2.1 Bpp_2.2.2.2.2.2.1 Bpp_2.2.2.2.2.2.2.1 Bpp_2.2.2.2.2.2.2.2.1 Bpp_2.2.2.2.2.2.2.2.2 ++ (wSYc G ya yy_0 yy_1 yy_2 yy_3 yy_4 yy_5 yy_6 yy_7 yy_8))) [0, 1, 2, 3, 4, 5, 6, 7, 8, 9, 10, 11, 12, 13, 14, 15] rfl) (hD.sub (ws' := (wPLc G pa Bpp_2.1 Bpp_2.2.1 Bpp_2.2.2.1 Bpp_2.2.2.2.1 Bpp_2.2.2.2.2.1 Bpp_2.2.2.2.2.2.1 Bpp_2.2.2.2.2.2.2.1 Bpp_2.2.2.2.2.2.2.2.1 Bpp_2.2.2.2.2.2.2.2.2 ++ (wSYc G ya yy_0 yy_1 yy_2 yy_3 yy_4 yy_5 yy_6 yy_7 yy_8))) [0, 1, 2, 3, 4, 5, 6, 7, 8, 9, 10, 11, 12, 13, 14, 15] (by decide) rfl) (ci := 0) rfl rfl) rfl rfl hl.1 rfl (lv_room (Nat.le_of_ble_eq_true rfl)) dX0_lay_21 ⟨Nat.le_of_ble_eq_true rfl, Nat.le_of_ble_eq_true rfl⟩) hP hD hS hA [0, 1, 2, 3, 4, 5, 6, 7, 8, 9, 10, 11, 12, 13, 14, 15] [16] [1, 2, 3, 4, 5, 6, 7, 8, 9, 10, 11, 12, 13, 14, 15, 16, 0] rfl rfl (by decide) (by decide) rfl (by decide) (fun H locs hP hD hS => ?_)
          have hP : va_P G.1 vwCl (wPLc G pa o7.1 o7.2.1 o7.2.2.1 o7.2.2.2.1 o7.2.2.2.2.1 o7.2.2.2.2.2.1 o7.2.2.2.2.2.2.1 o7.2.2.2.2.2.2.2.1 o7.2.2.2.2.2.2.2.2 ++ (wSYc G ya yy_0 yy_1 yy_2 yy_3 yy_4 yy_5 yy_6 yy_7 yy_8 ++ (wLO G la lo))) H := hP
          have hD : va_D A (wPLc G pa o7.1 o7.2.1 o7.2.2.1 o7.2.2.2.1 o7.2.2.2.2.1 o7.2.2.2.2.2.1 o7.2.2.2.2.2.2.1 o7.2.2.2.2.2.2.2.1 o7.2.2.2.2.2.2.2.2 ++ (wSYc G ya yy_0 yy_1 yy_2 yy_3 yy_4 yy_5 yy_6 yy_7 yy_8 ++ (wLO G la lo))) := hD
          refine lv_iinc (v := (x3_2 + (1 : Int32))) (lv' := [(3, .int (x3_2 + (1 : Int32))), (0, .ref (pa 0)), (1, .ref (ya 0)), (2, .ref la)]) hx hb dX0_lay_24 hl (k := 0) rfl rfl (by decide) rfl (fun ls hl => ?_)
          refine lv_goto (tgt := 6) hx hb dX0_lay_27 (by decide) ?_
          exact ih_2 ((x3_2 + (1 : Int32)), o7) h _ _ hP hD hS _ (lv_sub hl [0, 1, 2, 3] rfl)
    · exact LL 300 ((0 : Int32), o1) h _ _ hP hD hS _ (lv_sub hl [0, 1, 2, 3] rfl)
def f_X0_changed_l4 (na : Nat) (af : xF) (nb : Nat) (bf : xF) : Nat → Int32 → Int32 → Option (Int32)
  | 0, _, _ => none
  | k9 + 1, x3_1, x2_1 =>
    if (nI na) ≤ x3_1 then
      some x2_1
    else
      if (nI nb) ≤ x3_1 then
        some x2_1
      else
        if x3_1 < 0 ∨ na ≤ x3_1.toNatClampNeg then none else
        if (af x3_1.toNatClampNeg) = ((-1) : Int32) then
          f_X0_changed_l4 na af nb bf k9 (x3_1 + (1 : Int32)) x2_1
        else
          if x3_1 < 0 ∨ nb ≤ x3_1.toNatClampNeg then none else
          if (af x3_1.toNatClampNeg) = (bf x3_1.toNatClampNeg) then
            f_X0_changed_l4 na af nb bf k9 (x3_1 + (1 : Int32)) x2_1
          else
            f_X0_changed_l4 na af nb bf k9 (x3_1 + (1 : Int32)) (x2_1 + (1 : Int32))
theorem f_X0_changed_l4_z (na : Nat) (af : xF) (nb : Nat) (bf : xF) (x3_1 : Int32) (x2_1 : Int32) : f_X0_changed_l4 na af nb bf 0 x3_1 x2_1 = none := rfl
theorem f_X0_changed_l4_s (na : Nat) (af : xF) (nb : Nat) (bf : xF) (k9 : Nat) (x3_1 : Int32) (x2_1 : Int32) : f_X0_changed_l4 na af nb bf (k9 + 1) x3_1 x2_1 =
    if (nI na) ≤ x3_1 then
      some x2_1
    else
      if (nI nb) ≤ x3_1 then
        some x2_1
      else
        if x3_1 < 0 ∨ na ≤ x3_1.toNatClampNeg then none else
        if (af x3_1.toNatClampNeg) = ((-1) : Int32) then
          f_X0_changed_l4 na af nb bf k9 (x3_1 + (1 : Int32)) x2_1
        else
          if x3_1 < 0 ∨ nb ≤ x3_1.toNatClampNeg then none else
          if (af x3_1.toNatClampNeg) = (bf x3_1.toNatClampNeg) then
            f_X0_changed_l4 na af nb bf k9 (x3_1 + (1 : Int32)) x2_1
          else
            f_X0_changed_l4 na af nb bf k9 (x3_1 + (1 : Int32)) (x2_1 + (1 : Int32)) := rfl
def f_X0_changed (na : Nat) (af : xF) (nb : Nat) (bf : xF) : Option (Int32) :=
  Option.bind (f_X0_changed_l4 na af nb bf 300 (0 : Int32) (0 : Int32)) fun (w2 : Int32) =>
  some w2
theorem f_X0_changed_e (na : Nat) (af : xF) (nb : Nat) (bf : xF) : f_X0_changed na af nb bf =
  Option.bind (f_X0_changed_l4 na af nb bf 300 (0 : Int32) (0 : Int32)) fun (w2 : Int32) =>
  some w2 := rfl
set_option maxHeartbeats 4000000 in
set_option maxRecDepth 100000 in
theorem c_X0_changed (l : Launch) (G : xG) (aa : Nat) (ba : Nat) (na : Nat) (af : xF) (nb : Nat) (bf : xF) (o : Int32) (h : f_X0_changed na af nb bf = some o) : xk_CI l yX0_changed wsX0_changed ({ frames := 0, cells := 0, slots := 0, locals := 0 } : Room) 0 0 [.ref aa, .ref ba] G (wAR G aa na af ++ (wAR G ba nb bf)) (wAR G aa na af ++ (wAR G ba nb bf)) o := by
  refine xk_CI.of (cc := cX0_changed) (maxL := 4) (ret := (some .int)) (by decide) rfl (Nat.le_of_ble_eq_true rfl) ?_
  intro pr9 en9 s mm9 bl9 meth9 cd9 A ls H locs hx hb hr hml hts hown hlk hA hP hK hD hNE hS hl
  have hown : s.vm.findClass RX0 = some mm9.cls := hown
  have hl : lv_has ls 4 [(0, .ref aa), (1, .ref ba)] := hl
  have hP : va_P G.1 vwCl (wAR G aa na af ++ (wAR G ba nb bf)) H := hP
  have hD : va_D A (wAR G aa na af ++ (wAR G ba nb bf)) := hD
  have h := (f_X0_changed_e na af nb bf).symm.trans h
  refine lv_iconst (v := (0 : Int32)) hx hb dX0_changed_0 (by decide) ?_
  refine lv_istore_n (lv' := [(2, .int (0 : Int32)), (0, .ref aa), (1, .ref ba)]) hx hb dX0_changed_1 rfl hl (by decide) rfl (fun ls hl => ?_)
  refine lv_iconst (v := (0 : Int32)) hx hb dX0_changed_2 (by decide) ?_
  refine lv_istore_n (lv' := [(3, .int (0 : Int32)), (2, .int (0 : Int32)), (0, .ref aa), (1, .ref ba)]) hx hb dX0_changed_3 rfl hl (by decide) rfl (fun ls hl => ?_)
  obtain ⟨w2, hw2, h⟩ := sp_b h
  refine xk_jn G A s.heap (wAR G aa na af ++ (wAR G ba nb bf)) 4 [(2, .int w2)] 41 [] (fun H locs hP hD hS ls hl => ?_) (fun J1 => ?_)
  · refine lv_iload_n hx hb dX0_changed_41 rfl (lv_at hl 0 rfl) ?_
    obtain rfl := sp_s h
    exact xk_reI hx hb hr hlk hP hD hS rfl dX0_changed_42
  · have h := hw2
    clear hw2
    refine xk_lp (α := Int32 × Int32) G A s.heap (fun a_1 => (wAR G aa na af ++ (wAR G ba nb bf))) 4 (fun a_1 => [(3, .int a_1.1), (2, .int a_1.2), (0, .ref aa), (1, .ref ba)]) 4 (fun n a_1 => f_X0_changed_l4 na af nb bf n a_1.1 a_1.2 = some w2) (fun a_1 h => ?_) (fun n ih_1 a_1 h H locs hP hD hS ls hl => ?_) (fun LL => ?_)
    · exact sp_n ((f_X0_changed_l4_z _ _ _ _ _ _).symm.trans h)
    · obtain ⟨x3_1, x2_1⟩ := a_1
      have h := (f_X0_changed_l4_s na af nb bf n x3_1 x2_1).symm.trans h
      have hP : va_P G.1 vwCl (wAR G aa na af ++ (wAR G ba nb bf)) H := hP
      have hD : va_D A (wAR G aa na af ++ (wAR G ba nb bf)) := hD
      have hl : lv_has ls 4 [(3, .int x3_1), (2, .int x2_1), (0, .ref aa), (1, .ref ba)] := hl
      refine lv_iload_n hx hb dX0_changed_4 rfl (lv_at hl 0 rfl) ?_
      refine lv_aload_n hx hb dX0_changed_5 rfl (lv_at hl 2 rfl) ?_
      refine va_alen (v := (nI na)) hx hb hK hP 0 0 rfl rfl rfl dX0_changed_6 ?_
      refine lv_icmp_ge (tgt := 41) hx hb dX0_changed_7 (by decide) (fun c3 => ?_) (fun c3 => ?_)
      · have h := sp_t c3 h
        obtain rfl := sp_s h
        exact J1 _ _ hP hD hS _ (lv_sub hl [1] rfl)
      · have h := sp_f c3 h
        refine lv_iload_n hx hb dX0_changed_10 rfl (lv_at hl 0 rfl) ?_
        refine lv_aload_n hx hb dX0_changed_11 rfl (lv_at hl 3 rfl) ?_
        refine va_alen (v := (nI nb)) hx hb hK hP 1 0 rfl rfl rfl dX0_changed_12 ?_
        refine lv_icmp_ge (tgt := 41) hx hb dX0_changed_13 (by decide) (fun c4 => ?_) (fun c4 => ?_)
        · have h := sp_t c4 h
          obtain rfl := sp_s h
          exact J1 _ _ hP hD hS _ (lv_sub hl [1] rfl)
        · have h := sp_f c4 h
          refine lv_aload_n hx hb dX0_changed_16 rfl (lv_at hl 2 rfl) ?_
          refine lv_iload_n hx hb dX0_changed_17 rfl (lv_at hl 0 rfl) ?_
          obtain ⟨hin5, h⟩ := sp_g h
          refine va_iald hx hb hK hP 0 0 rfl rfl hin5 dX0_changed_18 ?_
          refine lv_iconst (v := ((-1) : Int32)) hx hb dX0_changed_19 (by decide) ?_
          refine lv_icmp_eq (tgt := 35) hx hb dX0_changed_20 (by decide) (fun c6 => ?_) (fun c6 => ?_)
          · have h := sp_t c6 h
            refine lv_iinc (v := (x3_1 + (1 : Int32))) (lv' := [(3, .int (x3_1 + (1 : Int32))), (2, .int x2_1), (0, .ref aa), (1, .ref ba)]) hx hb dX0_changed_35 hl (k := 0) rfl rfl (by decide) rfl (fun ls hl => ?_)
            refine lv_goto (tgt := 4) hx hb dX0_changed_38 (by decide) ?_
            exact ih_1 ((x3_1 + (1 : Int32)), x2_1) h _ _ hP hD hS _ (lv_sub hl [0, 1, 2, 3] rfl)
          · have h := sp_f c6 h
            refine lv_aload_n hx hb dX0_changed_23 rfl (lv_at hl 2 rfl) ?_
            refine lv_iload_n hx hb dX0_changed_24 rfl (lv_at hl 0 rfl) ?_
            refine va_iald hx hb hK hP 0 0 rfl rfl hin5 dX0_changed_25 ?_
            refine lv_aload_n hx hb dX0_changed_26 rfl (lv_at hl 3 rfl) ?_
            refine lv_iload_n hx hb dX0_changed_27 rfl (lv_at hl 0 rfl) ?_
            obtain ⟨hin7, h⟩ := sp_g h
            refine va_iald hx hb hK hP 1 0 rfl rfl hin7 dX0_changed_28 ?_
            refine lv_icmp_eq (tgt := 35) hx hb dX0_changed_29 (by decide) (fun c8 => ?_) (fun c8 => ?_)
            · have h := sp_t c8 h
              refine lv_iinc (v := (x3_1 + (1 : Int32))) (lv' := [(3, .int (x3_1 + (1 : Int32))), (2, .int x2_1), (0, .ref aa), (1, .ref ba)]) hx hb dX0_changed_35 hl (k := 0) rfl rfl (by decide) rfl (fun ls hl => ?_)
              refine lv_goto (tgt := 4) hx hb dX0_changed_38 (by decide) ?_
              exact ih_1 ((x3_1 + (1 : Int32)), x2_1) h _ _ hP hD hS _ (lv_sub hl [0, 1, 2, 3] rfl)
            · have h := sp_f c8 h
              refine lv_iinc (v := (x2_1 + (1 : Int32))) (lv' := [(2, .int (x2_1 + (1 : Int32))), (3, .int x3_1), (0, .ref aa), (1, .ref ba)]) hx hb dX0_changed_32 hl (k := 1) rfl rfl (by decide) rfl (fun ls hl => ?_)
              refine lv_iinc (v := (x3_1 + (1 : Int32))) (lv' := [(3, .int (x3_1 + (1 : Int32))), (2, .int (x2_1 + (1 : Int32))), (0, .ref aa), (1, .ref ba)]) hx hb dX0_changed_35 hl (k := 1) rfl rfl (by decide) rfl (fun ls hl => ?_)
              refine lv_goto (tgt := 4) hx hb dX0_changed_38 (by decide) ?_
              exact ih_1 ((x3_1 + (1 : Int32)), (x2_1 + (1 : Int32))) h _ _ hP hD hS _ (lv_sub hl [0, 1, 2, 3] rfl)
    · exact LL 300 ((0 : Int32), (0 : Int32)) h _ _ hP hD hS _ (lv_sub hl [0, 1, 2, 3] rfl)
def f_X0_movedSince (pp : xPL) (qq : xPL) : Option (Int32) :=
  Option.bind (f_X0_changed 60 qq.2.1 60 pp.2.1) fun (o1 : Int32) =>
  Option.bind (f_X0_changed 36 qq.2.2.1 36 pp.2.2.1) fun (o2 : Int32) =>
  some (o1 + o2)
theorem f_X0_movedSince_e (pp_0 : xF) (pp_1 : xF) (pp_2 : xF) (pp_3 : xF) (pp_4 : xF) (pp_5 : xF) (pp_6 : Int32) (pp_7 : Int32) (pp_8 : Int32) (qq_0 : xF) (qq_1 : xF) (qq_2 : xF) (qq_3 : xF) (qq_4 : xF) (qq_5 : xF) (qq_6 : Int32) (qq_7 : Int32) (qq_8 : Int32) : f_X0_movedSince (pp_0, pp_1, pp_2, pp_3, pp_4, pp_5, pp_6, pp_7, pp_8) (qq_0, qq_1, qq_2, qq_3, qq_4, qq_5, qq_6, qq_7, qq_8) =
  Option.bind (f_X0_changed 60 qq_1 60 pp_1) fun (o1 : Int32) =>
  Option.bind (f_X0_changed 36 qq_2 36 pp_2) fun (o2 : Int32) =>
  some (o1 + o2) := rfl
set_option maxHeartbeats 4000000 in
set_option maxRecDepth 100000 in
theorem c_X0_movedSince (l : Launch) (G : xG) (pa : (Nat → Nat)) (qa : (Nat → Nat)) (pp : xPL) (qq : xPL) (o : Int32) (h : f_X0_movedSince pp qq = some o) : xk_CI l yX0_movedSince wsX0_movedSince ({ frames := 1, cells := 0, slots := 0, locals := 23 } : Room) 0 0 [.ref (pa 0), .ref (qa 0)] G (wPLc G pa pp.1 pp.2.1 pp.2.2.1 pp.2.2.2.1 pp.2.2.2.2.1 pp.2.2.2.2.2.1 pp.2.2.2.2.2.2.1 pp.2.2.2.2.2.2.2.1 pp.2.2.2.2.2.2.2.2 ++ (wPLc G qa qq.1 qq.2.1 qq.2.2.1 qq.2.2.2.1 qq.2.2.2.2.1 qq.2.2.2.2.2.1 qq.2.2.2.2.2.2.1 qq.2.2.2.2.2.2.2.1 qq.2.2.2.2.2.2.2.2)) (wPLc G pa pp.1 pp.2.1 pp.2.2.1 pp.2.2.2.1 pp.2.2.2.2.1 pp.2.2.2.2.2.1 pp.2.2.2.2.2.2.1 pp.2.2.2.2.2.2.2.1 pp.2.2.2.2.2.2.2.2 ++ (wPLc G qa qq.1 qq.2.1 qq.2.2.1 qq.2.2.2.1 qq.2.2.2.2.1 qq.2.2.2.2.2.1 qq.2.2.2.2.2.2.1 qq.2.2.2.2.2.2.2.1 qq.2.2.2.2.2.2.2.2)) o := by
  obtain ⟨pp_0, pp_1, pp_2, pp_3, pp_4, pp_5, pp_6, pp_7, pp_8⟩ := pp
  obtain ⟨qq_0, qq_1, qq_2, qq_3, qq_4, qq_5, qq_6, qq_7, qq_8⟩ := qq
  refine xk_CI.of (cc := cX0_movedSince) (maxL := 2) (ret := (some .int)) (by decide) rfl (Nat.le_of_ble_eq_true rfl) ?_
  intro pr9 en9 s mm9 bl9 meth9 cd9 A ls H locs hx hb hr hml hts hown hlk hA hP hK hD hNE hS hl
  have hown : s.vm.findClass RX0 = some mm9.cls := hown
  have hl : lv_has ls 2 [(0, .ref (pa 0)), (1, .ref (qa 0))] := hl
  have hinX0 : ∀ w ∈ u_ws RX0 TX0 9, w ∈ wsX0_movedSince := by decide +kernel
  have hP : va_P G.1 vwCl (wPLc G pa pp_0 pp_1 pp_2 pp_3 pp_4 pp_5 pp_6 pp_7 pp_8 ++ (wPLc G qa qq_0 qq_1 qq_2 qq_3 qq_4 qq_5 qq_6 qq_7 qq_8)) H := hP
  have hD : va_D A (wPLc G pa pp_0 pp_1 pp_2 pp_3 pp_4 pp_5 pp_6 pp_7 pp_8 ++ (wPLc G qa qq_0 qq_1 qq_2 qq_3 qq_4 qq_5 qq_6 qq_7 qq_8)) := hD
  have h := (f_X0_movedSince_e pp_0 pp_1 pp_2 pp_3 pp_4 pp_5 pp_6 pp_7 pp_8 qq_0 qq_1 qq_2 qq_3 qq_4 qq_5 qq_6 qq_7 qq_8).symm.trans h
  refine lv_aload_n hx hb dX0_movedSince_0 rfl (lv_at hl 1 rfl) ?_
  refine va_get (D := G.1) (ci := 0) (v := .ref (qa 2)) (C := RX0) (T := TX0) (N := 9) hx hb hts hinX0 hown hK hP 7 rfl rfl 1 (by decide) (hts (.fieldLink RX0 15 "LessonWeave$Plan" "lessonDays" "[I") (by decide +kernel)) (fun _ h9 => h9) rfl dX0_movedSince_1 ?_
  refine lv_aload_n hx hb dX0_movedSince_4 rfl (lv_at hl 0 rfl) ?_
  refine va_get (D := G.1) (ci := 0) (v := .ref (pa 2)) (C := RX0) (T := TX0) (N := 9) hx hb hts hinX0 hown hK hP 0 rfl rfl 1 (by decide) (hts (.fieldLink RX0 15 "LessonWeave$Plan" "lessonDays" "[I") (by decide +kernel)) (fun _ h9 => h9) rfl dX0_movedSince_5 ?_
  obtain ⟨o1, ho1, h⟩ := sp_b h
  refine xk_ci (va_runS (As := [.ref (qa 2), .ref (pa 2)]) (rest := []) ⟨hx, hb, hml, hown, hts⟩ (c_X0_changed l G (qa 2) (pa 2) 60 qq_1 60 pp_1 o1 ho1 H.size) (va_cwS 2 hts gX0_movedSince_X0_changed rfl rfl rfl (by decide +kernel) ⟨Nat.le_of_ble_eq_true rfl, Nat.le_of_ble_eq_true rfl⟩) (xk_preS hK hNE (hP.sub (ws' := (wAR G (qa 2) 60 qq_1 ++ (wAR G (pa 2) 60 pp_1))) [9, 2] rfl) (hD.sub (ws' := (wAR G (qa 2) 60 qq_1 ++ (wAR G (pa 2) 60 pp_1))) [9, 2] (by decide) rfl)) rfl rfl hl.1 rfl (lv_room (Nat.le_of_ble_eq_true rfl)) dX0_movedSince_8 ⟨Nat.le_of_ble_eq_true rfl, Nat.le_of_ble_eq_true rfl⟩) hP hD hS hA [9, 2] [0, 1, 3, 4, 5, 6, 7, 8, 10, 11, 12, 13] [0, 1, 13, 2, 3, 4, 5, 6, 7, 12, 8, 9, 10, 11] rfl rfl (by decide) (by decide) rfl (by decide) (fun H locs hP hD hS => ?_)
  have hP : va_P G.1 vwCl (wPLc G pa pp_0 pp_1 pp_2 pp_3 pp_4 pp_5 pp_6 pp_7 pp_8 ++ (wPLc G qa qq_0 qq_1 qq_2 qq_3 qq_4 qq_5 qq_6 qq_7 qq_8)) H := hP
  have hD : va_D A (wPLc G pa pp_0 pp_1 pp_2 pp_3 pp_4 pp_5 pp_6 pp_7 pp_8 ++ (wPLc G qa qq_0 qq_1 qq_2 qq_3 qq_4 qq_5 qq_6 qq_7 qq_8)) := hD
  refine lv_aload_n hx hb dX0_movedSince_11 rfl (lv_at hl 1 rfl) ?_
  refine va_get (D := G.1) (ci := 0) (v := .ref (qa 3)) (C := RX0) (T := TX0) (N := 9) hx hb hts hinX0 hown hK hP 7 rfl rfl 2 (by decide) (hts (.fieldLink RX0 18 "LessonWeave$Plan" "revisitDays" "[I") (by decide +kernel)) (fun _ h9 => h9) rfl dX0_movedSince_12 ?_
  refine lv_aload_n hx hb dX0_movedSince_15 rfl (lv_at hl 0 rfl) ?_
  refine va_get (D := G.1) (ci := 0) (v := .ref (pa 3)) (C := RX0) (T := TX0) (N := 9) hx hb hts hinX0 hown hK hP 0 rfl rfl 2 (by decide) (hts (.fieldLink RX0 18 "LessonWeave$Plan" "revisitDays" "[I") (by decide +kernel)) (fun _ h9 => h9) rfl dX0_movedSince_16 ?_
  obtain ⟨o2, ho2, h⟩ := sp_b h
  refine xk_ci (va_runS (As := [.ref (qa 3), .ref (pa 3)]) (rest := [.int o1]) ⟨hx, hb, hml, hown, hts⟩ (c_X0_changed l G (qa 3) (pa 3) 36 qq_2 36 pp_2 o2 ho2 H.size) (va_cwS 2 hts gX0_movedSince_X0_changed rfl rfl rfl (by decide +kernel) ⟨Nat.le_of_ble_eq_true rfl, Nat.le_of_ble_eq_true rfl⟩) (xk_preS hK hNE (hP.sub (ws' := (wAR G (qa 3) 36 qq_2 ++ (wAR G (pa 3) 36 pp_2))) [10, 3] rfl) (hD.sub (ws' := (wAR G (qa 3) 36 qq_2 ++ (wAR G (pa 3) 36 pp_2))) [10, 3] (by decide) rfl)) rfl rfl hl.1 rfl (lv_room (Nat.le_of_ble_eq_true rfl)) dX0_movedSince_19 ⟨Nat.le_of_ble_eq_true rfl, Nat.le_of_ble_eq_true rfl⟩) hP hD hS hA [10, 3] [0, 1, 2, 4, 5, 6, 7, 8, 9, 11, 12, 13] [0, 1, 2, 13, 3, 4, 5, 6, 7, 8, 12, 9, 10, 11] rfl rfl (by decide) (by decide) rfl (by decide) (fun H locs hP hD hS => ?_)
  have hP : va_P G.1 vwCl (wPLc G pa pp_0 pp_1 pp_2 pp_3 pp_4 pp_5 pp_6 pp_7 pp_8 ++ (wPLc G qa qq_0 qq_1 qq_2 qq_3 qq_4 qq_5 qq_6 qq_7 qq_8)) H := hP
  have hD : va_D A (wPLc G pa pp_0 pp_1 pp_2 pp_3 pp_4 pp_5 pp_6 pp_7 pp_8 ++ (wPLc G qa qq_0 qq_1 qq_2 qq_3 qq_4 qq_5 qq_6 qq_7 qq_8)) := hD
  refine lv_iadd hx hb dX0_movedSince_22 ?_
  obtain rfl := sp_s h
  exact xk_reI hx hb hr hlk hP hD hS rfl dX0_movedSince_23
def f_X2_isWithin (i0 : Int32) (i1 : Int32) (i2 : Int32) : Option (Int32) :=
  if i0 < i1 then
    some (0 : Int32)
  else
    if i2 < i0 then
      some (0 : Int32)
    else
      some (1 : Int32)
theorem f_X2_isWithin_e (i0 : Int32) (i1 : Int32) (i2 : Int32) : f_X2_isWithin i0 i1 i2 =
  if i0 < i1 then
    some (0 : Int32)
  else
    if i2 < i0 then
      some (0 : Int32)
    else
      some (1 : Int32) := rfl
set_option maxHeartbeats 4000000 in
set_option maxRecDepth 100000 in
theorem c_X2_isWithin (l : Launch) (G : xG)  (i0 : Int32) (i1 : Int32) (i2 : Int32) (o : Int32) (h : f_X2_isWithin i0 i1 i2 = some o) : xk_CI l yX2_isWithin wsX2_isWithin ({ frames := 0, cells := 0, slots := 0, locals := 0 } : Room) 0 0 [.int i0, .int i1, .int i2] G [] [] o := by
  refine xk_CI.of (cc := cX2_isWithin) (maxL := 3) (ret := (some .boolean)) (by decide) rfl (Nat.le_of_ble_eq_true rfl) ?_
  intro pr9 en9 s mm9 bl9 meth9 cd9 A ls H locs hx hb hr hml hts hown hlk hA hP hK hD hNE hS hl
  have hown : s.vm.findClass RX2 = some mm9.cls := hown
  have hl : lv_has ls 3 [(0, .int i0), (1, .int i1), (2, .int i2)] := hl
  have h := (f_X2_isWithin_e i0 i1 i2).symm.trans h
  refine lv_iload_n hx hb dX2_isWithin_0 rfl (lv_at hl 0 rfl) ?_
  refine lv_iload_n hx hb dX2_isWithin_1 rfl (lv_at hl 1 rfl) ?_
  refine lv_icmp_lt (tgt := 14) hx hb dX2_isWithin_2 (by decide) (fun c1 => ?_) (fun c1 => ?_)
  · have h := sp_t c1 h
    refine lv_iconst (v := (0 : Int32)) hx hb dX2_isWithin_14 (by decide) ?_
    obtain rfl := sp_s h
    exact xk_reZ hx hb hr hlk rfl hP hD hS rfl dX2_isWithin_15
  · have h := sp_f c1 h
    refine lv_iload_n hx hb dX2_isWithin_5 rfl (lv_at hl 0 rfl) ?_
    refine lv_iload_n hx hb dX2_isWithin_6 rfl (lv_at hl 2 rfl) ?_
    refine lv_icmp_gt (tgt := 14) hx hb dX2_isWithin_7 (by decide) (fun c2 => ?_) (fun c2 => ?_)
    · have h := sp_t c2 h
      refine lv_iconst (v := (0 : Int32)) hx hb dX2_isWithin_14 (by decide) ?_
      obtain rfl := sp_s h
      exact xk_reZ hx hb hr hlk rfl hP hD hS rfl dX2_isWithin_15
    · have h := sp_f c2 h
      refine lv_iconst (v := (1 : Int32)) hx hb dX2_isWithin_10 (by decide) ?_
      refine lv_goto (tgt := 15) hx hb dX2_isWithin_11 (by decide) ?_
      obtain rfl := sp_s h
      exact xk_reZ hx hb hr hlk rfl hP hD hS rfl dX2_isWithin_15
def f_X2_isDay (i0 : Int32) : Option (Int32) :=
  Option.bind (f_X2_isWithin i0 (0 : Int32) (99 : Int32)) fun (o1 : Int32) =>
  if o1 &&& 1 = o1 then some o1 else none
theorem f_X2_isDay_e (i0 : Int32) : f_X2_isDay i0 =
  Option.bind (f_X2_isWithin i0 (0 : Int32) (99 : Int32)) fun (o1 : Int32) =>
  if o1 &&& 1 = o1 then some o1 else none := rfl
set_option maxHeartbeats 4000000 in
set_option maxRecDepth 100000 in
theorem c_X2_isDay (l : Launch) (G : xG)  (i0 : Int32) (o : Int32) (h : f_X2_isDay i0 = some o) : xk_CI l yX2_isDay wsX2_isDay ({ frames := 1, cells := 0, slots := 0, locals := 22 } : Room) 0 0 [.int i0] G [] [] o := by
  refine xk_CI.of (cc := cX2_isDay) (maxL := 1) (ret := (some .boolean)) (by decide) rfl (Nat.le_of_ble_eq_true rfl) ?_
  intro pr9 en9 s mm9 bl9 meth9 cd9 A ls H locs hx hb hr hml hts hown hlk hA hP hK hD hNE hS hl
  have hown : s.vm.findClass RX2 = some mm9.cls := hown
  have hl : lv_has ls 1 [(0, .int i0)] := hl
  have h := (f_X2_isDay_e i0).symm.trans h
  refine lv_iload_n hx hb dX2_isDay_0 rfl (lv_at hl 0 rfl) ?_
  refine lv_iconst (v := (0 : Int32)) hx hb dX2_isDay_1 (by decide) ?_
  refine lv_bipush (v := (99 : Int32)) hx hb dX2_isDay_2 (by decide) ?_
  obtain ⟨o1, ho1, h⟩ := sp_b h
  refine xk_ci (va_runS (As := [.int i0, .int (0 : Int32), .int (99 : Int32)]) (rest := []) ⟨hx, hb, hml, hown, hts⟩ (c_X2_isWithin l G i0 (0 : Int32) (99 : Int32) o1 ho1 H.size) (va_cwS 3 hts gX2_isDay_X2_isWithin rfl rfl rfl (by decide +kernel) ⟨Nat.le_of_ble_eq_true rfl, Nat.le_of_ble_eq_true rfl⟩) (xk_preS hK hNE (hP.sub (ws' := []) [] rfl) (hD.sub (ws' := []) [] (by decide) rfl)) rfl rfl hl.1 rfl (lv_room (Nat.le_of_ble_eq_true rfl)) dX2_isDay_4 ⟨Nat.le_of_ble_eq_true rfl, Nat.le_of_ble_eq_true rfl⟩) hP hD hS hA [] [] [] rfl rfl (by decide) (by decide) rfl (by decide) (fun H locs hP hD hS => ?_)
  have hP : va_P G.1 vwCl ([] : va_W) H := hP
  have hD : va_D A ([] : va_W) := hD
  obtain ⟨hz, h⟩ := sp_c h
  obtain rfl := sp_s h
  exact xk_reZ hx hb hr hlk (xk_nar hz) hP hD hS rfl dX2_isDay_7
def f_X2_isAim (lo : xF) (yy : xSY) (pp : xPL) (qq : xPL) (i1 : Int32) : Option (Int32) :=
  Option.bind (f_X2_isWithin i1 (0 : Int32) (yy.1 - (1 : Int32))) fun (o1 : Int32) =>
  if o1 &&& 1 = o1 then some o1 else none
theorem f_X2_isAim_e (lo : xF) (yy_0 : Int32) (yy_1 : xF) (yy_2 : xF) (yy_3 : xF) (yy_4 : xF) (yy_5 : xF) (yy_6 : xF) (yy_7 : xF) (yy_8 : xF) (pp_0 : xF) (pp_1 : xF) (pp_2 : xF) (pp_3 : xF) (pp_4 : xF) (pp_5 : xF) (pp_6 : Int32) (pp_7 : Int32) (pp_8 : Int32) (qq_0 : xF) (qq_1 : xF) (qq_2 : xF) (qq_3 : xF) (qq_4 : xF) (qq_5 : xF) (qq_6 : Int32) (qq_7 : Int32) (qq_8 : Int32) (i1 : Int32) : f_X2_isAim lo (yy_0, yy_1, yy_2, yy_3, yy_4, yy_5, yy_6, yy_7, yy_8) (pp_0, pp_1, pp_2, pp_3, pp_4, pp_5, pp_6, pp_7, pp_8) (qq_0, qq_1, qq_2, qq_3, qq_4, qq_5, qq_6, qq_7, qq_8) i1 =
  Option.bind (f_X2_isWithin i1 (0 : Int32) (yy_0 - (1 : Int32))) fun (o1 : Int32) =>
  if o1 &&& 1 = o1 then some o1 else none := rfl
set_option maxHeartbeats 4000000 in
set_option maxRecDepth 100000 in
theorem c_X2_isAim (l : Launch) (G : xG) (xa : Nat) (la : Nat) (ya : (Nat → Nat)) (pa : (Nat → Nat)) (qa : (Nat → Nat)) (lo : xF) (yy : xSY) (pp : xPL) (qq : xPL) (i1 : Int32) (o : Int32) (h : f_X2_isAim lo yy pp qq i1 = some o) : xk_CI l yX2_isAim wsX2_isAim ({ frames := 1, cells := 0, slots := 0, locals := 22 } : Room) 0 0 [.ref xa, .int i1] G (wXO xa (ya 0) la (pa 0) (qa 0) ++ (wLO G la lo ++ (wSYc G ya yy.1 yy.2.1 yy.2.2.1 yy.2.2.2.1 yy.2.2.2.2.1 yy.2.2.2.2.2.1 yy.2.2.2.2.2.2.1 yy.2.2.2.2.2.2.2.1 yy.2.2.2.2.2.2.2.2 ++ (wPLc G pa pp.1 pp.2.1 pp.2.2.1 pp.2.2.2.1 pp.2.2.2.2.1 pp.2.2.2.2.2.1 pp.2.2.2.2.2.2.1 pp.2.2.2.2.2.2.2.1 pp.2.2.2.2.2.2.2.2 ++ (wPLc G qa qq.1 qq.2.1 qq.2.2.1 qq.2.2.2.1 qq.2.2.2.2.1 qq.2.2.2.2.2.1 qq.2.2.2.2.2.2.1 qq.2.2.2.2.2.2.2.1 qq.2.2.2.2.2.2.2.2))))) (wXO xa (ya 0) la (pa 0) (qa 0) ++ (wLO G la lo ++ (wSYc G ya yy.1 yy.2.1 yy.2.2.1 yy.2.2.2.1 yy.2.2.2.2.1 yy.2.2.2.2.2.1 yy.2.2.2.2.2.2.1 yy.2.2.2.2.2.2.2.1 yy.2.2.2.2.2.2.2.2 ++ (wPLc G pa pp.1 pp.2.1 pp.2.2.1 pp.2.2.2.1 pp.2.2.2.2.1 pp.2.2.2.2.2.1 pp.2.2.2.2.2.2.1 pp.2.2.2.2.2.2.2.1 pp.2.2.2.2.2.2.2.2 ++ (wPLc G qa qq.1 qq.2.1 qq.2.2.1 qq.2.2.2.1 qq.2.2.2.2.1 qq.2.2.2.2.2.1 qq.2.2.2.2.2.2.1 qq.2.2.2.2.2.2.2.1 qq.2.2.2.2.2.2.2.2))))) o := by
  obtain ⟨yy_0, yy_1, yy_2, yy_3, yy_4, yy_5, yy_6, yy_7, yy_8⟩ := yy
  obtain ⟨pp_0, pp_1, pp_2, pp_3, pp_4, pp_5, pp_6, pp_7, pp_8⟩ := pp
  obtain ⟨qq_0, qq_1, qq_2, qq_3, qq_4, qq_5, qq_6, qq_7, qq_8⟩ := qq
  refine xk_CI.of (cc := cX2_isAim) (maxL := 2) (ret := (some .boolean)) (by decide) rfl (Nat.le_of_ble_eq_true rfl) ?_
  intro pr9 en9 s mm9 bl9 meth9 cd9 A ls H locs hx hb hr hml hts hown hlk hA hP hK hD hNE hS hl
  have hown : s.vm.findClass RX2 = some mm9.cls := hown
  have hl : lv_has ls 2 [(0, .ref xa), (1, .int i1)] := hl
  have hinX1 : ∀ w ∈ u_ws RX1 TX1 9, w ∈ wsX2_isAim := by decide +kernel
  have hinX2 : ∀ w ∈ u_ws RX2 TX2 4, w ∈ wsX2_isAim := by decide +kernel
  have hP : va_P G.1 vwCl (wXO xa (ya 0) la (pa 0) (qa 0) ++ (wLO G la lo ++ (wSYc G ya yy_0 yy_1 yy_2 yy_3 yy_4 yy_5 yy_6 yy_7 yy_8 ++ (wPLc G pa pp_0 pp_1 pp_2 pp_3 pp_4 pp_5 pp_6 pp_7 pp_8 ++ (wPLc G qa qq_0 qq_1 qq_2 qq_3 qq_4 qq_5 qq_6 qq_7 qq_8))))) H := hP
  have hD : va_D A (wXO xa (ya 0) la (pa 0) (qa 0) ++ (wLO G la lo ++ (wSYc G ya yy_0 yy_1 yy_2 yy_3 yy_4 yy_5 yy_6 yy_7 yy_8 ++ (wPLc G pa pp_0 pp_1 pp_2 pp_3 pp_4 pp_5 pp_6 pp_7 pp_8 ++ (wPLc G qa qq_0 qq_1 qq_2 qq_3 qq_4 qq_5 qq_6 qq_7 qq_8))))) := hD
  have h := (f_X2_isAim_e lo yy_0 yy_1 yy_2 yy_3 yy_4 yy_5 yy_6 yy_7 yy_8 pp_0 pp_1 pp_2 pp_3 pp_4 pp_5 pp_6 pp_7 pp_8 qq_0 qq_1 qq_2 qq_3 qq_4 qq_5 qq_6 qq_7 qq_8 i1).symm.trans h
  refine lv_iload_n hx hb dX2_isAim_0 rfl (lv_at hl 1 rfl) ?_
  refine lv_iconst (v := (0 : Int32)) hx hb dX2_isAim_1 (by decide) ?_
  refine lv_aload_n hx hb dX2_isAim_2 rfl (lv_at hl 0 rfl) ?_
  refine va_get (D := G.1) (ci := 2) (v := .ref (ya 0)) (C := RX2) (T := TX2) (N := 4) hx hb hts hinX2 hown hK hP 0 rfl rfl 0 (by decide) (hts (.fieldLink RX2 10 "LessonWeave" "syllabus" "LLessonWeave$Syllabus;") (by decide +kernel)) (fun _ h9 => h9) rfl dX2_isAim_3 ?_
  refine va_getN (D := G.1) (ci := 1) (v := .int yy_0) (C := RX1) (T := TX1) (N := 9) hx hb hts hinX1 hown hK hP 2 rfl rfl 0 (by decide) (va_Nw.use rfl hNE.1) (fun _ h9 => h9) rfl dX2_isAim_6 ?_
  refine lv_iconst (v := (1 : Int32)) hx hb dX2_isAim_9 (by decide) ?_
  refine lv_isub hx hb dX2_isAim_10 ?_
  obtain ⟨o1, ho1, h⟩ := sp_b h
  refine xk_ci (va_runS (As := [.int i1, .int (0 : Int32), .int (yy_0 - (1 : Int32))]) (rest := []) ⟨hx, hb, hml, hown, hts⟩ (c_X2_isWithin l G i1 (0 : Int32) (yy_0 - (1 : Int32)) o1 ho1 H.size) (va_cwS 3 hts gX2_isAim_X2_isWithin rfl rfl rfl (by decide +kernel) ⟨Nat.le_of_ble_eq_true rfl, Nat.le_of_ble_eq_true rfl⟩) (xk_preS hK hNE (hP.sub (ws' := []) [] rfl) (hD.sub (ws' := []) [] (by decide) rfl)) rfl rfl hl.1 rfl (lv_room (Nat.le_of_ble_eq_true rfl)) dX2_isAim_11 ⟨Nat.le_of_ble_eq_true rfl, Nat.le_of_ble_eq_true rfl⟩) hP hD hS hA [] [0, 1, 2, 3, 4, 5, 6, 7, 8, 9, 10, 11, 12, 13, 14, 15, 16, 17, 18, 19, 20, 21, 22, 23, 24] [0, 1, 2, 3, 4, 5, 6, 7, 8, 9, 10, 11, 12, 13, 14, 15, 16, 17, 18, 19, 20, 21, 22, 23, 24] rfl rfl (by decide) (by decide) rfl (by decide) (fun H locs hP hD hS => ?_)
  have hP : va_P G.1 vwCl (wXO xa (ya 0) la (pa 0) (qa 0) ++ (wLO G la lo ++ (wSYc G ya yy_0 yy_1 yy_2 yy_3 yy_4 yy_5 yy_6 yy_7 yy_8 ++ (wPLc G pa pp_0 pp_1 pp_2 pp_3 pp_4 pp_5 pp_6 pp_7 pp_8 ++ (wPLc G qa qq_0 qq_1 qq_2 qq_3 qq_4 qq_5 qq_6 qq_7 qq_8))))) H := hP
  have hD : va_D A (wXO xa (ya 0) la (pa 0) (qa 0) ++ (wLO G la lo ++ (wSYc G ya yy_0 yy_1 yy_2 yy_3 yy_4 yy_5 yy_6 yy_7 yy_8 ++ (wPLc G pa pp_0 pp_1 pp_2 pp_3 pp_4 pp_5 pp_6 pp_7 pp_8 ++ (wPLc G qa qq_0 qq_1 qq_2 qq_3 qq_4 qq_5 qq_6 qq_7 qq_8))))) := hD
  obtain ⟨hz, h⟩ := sp_c h
  obtain rfl := sp_s h
  exact xk_reZ hx hb hr hlk (xk_nar hz) hP hD hS rfl dX2_isAim_14
def f_X2_planAnew (lo : xF) (yy : xSY) (pp : xPL) (qq : xPL) : Option (xPL × xPL) :=
  Option.bind (f_X0_lay (qq.1, qq.2.1, qq.2.2.1, qq.2.2.2.1, qq.2.2.2.2.1, qq.2.2.2.2.2.1, qq.2.2.2.2.2.2.1, qq.2.2.2.2.2.2.2.1, qq.2.2.2.2.2.2.2.2) (yy.1, yy.2.1, yy.2.2.1, yy.2.2.2.1, yy.2.2.2.2.1, yy.2.2.2.2.2.1, yy.2.2.2.2.2.2.1, yy.2.2.2.2.2.2.2.1, yy.2.2.2.2.2.2.2.2) lo) fun (o1 : xPL) =>
  some (o1, (pp.1, pp.2.1, pp.2.2.1, pp.2.2.2.1, pp.2.2.2.2.1, pp.2.2.2.2.2.1, pp.2.2.2.2.2.2.1, pp.2.2.2.2.2.2.2.1, pp.2.2.2.2.2.2.2.2))
theorem f_X2_planAnew_e (lo : xF) (yy_0 : Int32) (yy_1 : xF) (yy_2 : xF) (yy_3 : xF) (yy_4 : xF) (yy_5 : xF) (yy_6 : xF) (yy_7 : xF) (yy_8 : xF) (pp_0 : xF) (pp_1 : xF) (pp_2 : xF) (pp_3 : xF) (pp_4 : xF) (pp_5 : xF) (pp_6 : Int32) (pp_7 : Int32) (pp_8 : Int32) (qq_0 : xF) (qq_1 : xF) (qq_2 : xF) (qq_3 : xF) (qq_4 : xF) (qq_5 : xF) (qq_6 : Int32) (qq_7 : Int32) (qq_8 : Int32) : f_X2_planAnew lo (yy_0, yy_1, yy_2, yy_3, yy_4, yy_5, yy_6, yy_7, yy_8) (pp_0, pp_1, pp_2, pp_3, pp_4, pp_5, pp_6, pp_7, pp_8) (qq_0, qq_1, qq_2, qq_3, qq_4, qq_5, qq_6, qq_7, qq_8) =
  Option.bind (f_X0_lay (qq_0, qq_1, qq_2, qq_3, qq_4, qq_5, qq_6, qq_7, qq_8) (yy_0, yy_1, yy_2, yy_3, yy_4, yy_5, yy_6, yy_7, yy_8) lo) fun (o1 : xPL) =>
  some (o1, (pp_0, pp_1, pp_2, pp_3, pp_4, pp_5, pp_6, pp_7, pp_8)) := rfl
set_option maxHeartbeats 4000000 in
set_option maxRecDepth 100000 in
theorem c_X2_planAnew (l : Launch) (G : xG) (xa : Nat) (la : Nat) (ya : (Nat → Nat)) (pa : (Nat → Nat)) (qa : (Nat → Nat)) (lo : xF) (yy : xSY) (pp : xPL) (qq : xPL) (o : xPL × xPL) (h : f_X2_planAnew lo yy pp qq = some o) : xk_CV l yX2_planAnew wsX2_planAnew ({ frames := 5, cells := 0, slots := 0, locals := 118 } : Room) 0 0 [.ref xa] G (wXO xa (ya 0) la (pa 0) (qa 0) ++ (wLO G la lo ++ (wSYc G ya yy.1 yy.2.1 yy.2.2.1 yy.2.2.2.1 yy.2.2.2.2.1 yy.2.2.2.2.2.1 yy.2.2.2.2.2.2.1 yy.2.2.2.2.2.2.2.1 yy.2.2.2.2.2.2.2.2 ++ (wPLc G pa pp.1 pp.2.1 pp.2.2.1 pp.2.2.2.1 pp.2.2.2.2.1 pp.2.2.2.2.2.1 pp.2.2.2.2.2.2.1 pp.2.2.2.2.2.2.2.1 pp.2.2.2.2.2.2.2.2 ++ (wPLc G qa qq.1 qq.2.1 qq.2.2.1 qq.2.2.2.1 qq.2.2.2.2.1 qq.2.2.2.2.2.1 qq.2.2.2.2.2.2.1 qq.2.2.2.2.2.2.2.1 qq.2.2.2.2.2.2.2.2))))) (wXO xa (ya 0) la (qa 0) (pa 0) ++ (wLO G la lo ++ (wSYc G ya yy.1 yy.2.1 yy.2.2.1 yy.2.2.2.1 yy.2.2.2.2.1 yy.2.2.2.2.2.1 yy.2.2.2.2.2.2.1 yy.2.2.2.2.2.2.2.1 yy.2.2.2.2.2.2.2.2 ++ (wPLc G qa o.1.1 o.1.2.1 o.1.2.2.1 o.1.2.2.2.1 o.1.2.2.2.2.1 o.1.2.2.2.2.2.1 o.1.2.2.2.2.2.2.1 o.1.2.2.2.2.2.2.2.1 o.1.2.2.2.2.2.2.2.2 ++ (wPLc G pa o.2.1 o.2.2.1 o.2.2.2.1 o.2.2.2.2.1 o.2.2.2.2.2.1 o.2.2.2.2.2.2.1 o.2.2.2.2.2.2.2.1 o.2.2.2.2.2.2.2.2.1 o.2.2.2.2.2.2.2.2.2))))) := by
  obtain ⟨yy_0, yy_1, yy_2, yy_3, yy_4, yy_5, yy_6, yy_7, yy_8⟩ := yy
  obtain ⟨pp_0, pp_1, pp_2, pp_3, pp_4, pp_5, pp_6, pp_7, pp_8⟩ := pp
  obtain ⟨qq_0, qq_1, qq_2, qq_3, qq_4, qq_5, qq_6, qq_7, qq_8⟩ := qq
  refine xk_CV.of (cc := cX2_planAnew) (maxL := 2) (ret := none) (by decide) rfl (Nat.le_of_ble_eq_true rfl) ?_
  intro pr9 en9 s mm9 bl9 meth9 cd9 A ls H locs hx hb hr hml hts hown hlk hA hP hK hD hNE hS hl
  have hown : s.vm.findClass RX2 = some mm9.cls := hown
  have hl : lv_has ls 2 [(0, .ref xa)] := hl
  have hinX2 : ∀ w ∈ u_ws RX2 TX2 4, w ∈ wsX2_planAnew := by decide +kernel
  have hP : va_P G.1 vwCl (wXO xa (ya 0) la (pa 0) (qa 0) ++ (wLO G la lo ++ (wSYc G ya yy_0 yy_1 yy_2 yy_3 yy_4 yy_5 yy_6 yy_7 yy_8 ++ (wPLc G pa pp_0 pp_1 pp_2 pp_3 pp_4 pp_5 pp_6 pp_7 pp_8 ++ (wPLc G qa qq_0 qq_1 qq_2 qq_3 qq_4 qq_5 qq_6 qq_7 qq_8))))) H := hP
  have hD : va_D A (wXO xa (ya 0) la (pa 0) (qa 0) ++ (wLO G la lo ++ (wSYc G ya yy_0 yy_1 yy_2 yy_3 yy_4 yy_5 yy_6 yy_7 yy_8 ++ (wPLc G pa pp_0 pp_1 pp_2 pp_3 pp_4 pp_5 pp_6 pp_7 pp_8 ++ (wPLc G qa qq_0 qq_1 qq_2 qq_3 qq_4 qq_5 qq_6 qq_7 qq_8))))) := hD
  have h := (f_X2_planAnew_e lo yy_0 yy_1 yy_2 yy_3 yy_4 yy_5 yy_6 yy_7 yy_8 pp_0 pp_1 pp_2 pp_3 pp_4 pp_5 pp_6 pp_7 pp_8 qq_0 qq_1 qq_2 qq_3 qq_4 qq_5 qq_6 qq_7 qq_8).symm.trans h
  refine lv_aload_n hx hb dX2_planAnew_0 rfl (lv_at hl 0 rfl) ?_
  refine va_get (D := G.1) (ci := 2) (v := .ref (qa 0)) (C := RX2) (T := TX2) (N := 4) hx hb hts hinX2 hown hK hP 0 rfl rfl 3 (by decide) (hts (.fieldLink RX2 27 "LessonWeave" "formerPlan" "LLessonWeave$Plan;") (by decide +kernel)) (fun _ h9 => h9) rfl dX2_planAnew_1 ?_
  refine lv_astore_n (lv' := [(1, .ref (qa 0)), (0, .ref xa)]) hx hb dX2_planAnew_4 rfl hl (by decide) rfl (fun ls hl => ?_)
  refine lv_aload_n hx hb dX2_planAnew_5 rfl (lv_at hl 1 rfl) ?_
  refine lv_aload_n hx hb dX2_planAnew_6 rfl (lv_at hl 1 rfl) ?_
  refine va_get (D := G.1) (ci := 2) (v := .ref (pa 0)) (C := RX2) (T := TX2) (N := 4) hx hb hts hinX2 hown hK hP 0 rfl rfl 2 (by decide) (hts (.fieldLink RX2 23 "LessonWeave" "plan" "LLessonWeave$Plan;") (by decide +kernel)) (fun _ h9 => h9) rfl dX2_planAnew_7 ?_
  refine va_put (D := G.1) (ci := 2) (v := .ref (pa 0)) (ty := .object "LessonWeave$Plan") (C := RX2) (T := TX2) (N := 4) hx hb hts hinX2 tyX2 tyX2_ok nmX2 hown hK hP hD hS 0 rfl rfl 3 (by decide) (hts (.fieldLink RX2 27 "LessonWeave" "formerPlan" "LLessonWeave$Plan;") (by decide +kernel)) (fun _ h9 => h9) rfl (by decide +kernel) rfl rfl (Nat.le_of_ble_eq_true rfl) dX2_planAnew_10 (fun H locs hP hD hS => ?_)
  have hP : va_P G.1 vwCl (wXO xa (ya 0) la (pa 0) (pa 0) ++ (wLO G la lo ++ (wSYc G ya yy_0 yy_1 yy_2 yy_3 yy_4 yy_5 yy_6 yy_7 yy_8 ++ (wPLc G pa pp_0 pp_1 pp_2 pp_3 pp_4 pp_5 pp_6 pp_7 pp_8 ++ (wPLc G qa qq_0 qq_1 qq_2 qq_3 qq_4 qq_5 qq_6 qq_7 qq_8))))) H := hP
  have hD : va_D A (wXO xa (ya 0) la (pa 0) (pa 0) ++ (wLO G la lo ++ (wSYc G ya yy_0 yy_1 yy_2 yy_3 yy_4 yy_5 yy_6 yy_7 yy_8 ++ (wPLc G pa pp_0 pp_1 pp_2 pp_3 pp_4 pp_5 pp_6 pp_7 pp_8 ++ (wPLc G qa qq_0 qq_1 qq_2 qq_3 qq_4 qq_5 qq_6 qq_7 qq_8))))) := hD
  refine lv_aload_n hx hb dX2_planAnew_13 rfl (lv_at hl 1 rfl) ?_
  refine lv_aload_n hx hb dX2_planAnew_14 rfl (lv_at hl 0 rfl) ?_
  refine va_put (D := G.1) (ci := 2) (v := .ref (qa 0)) (ty := .object "LessonWeave$Plan") (C := RX2) (T := TX2) (N := 4) hx hb hts hinX2 tyX2 tyX2_ok nmX2 hown hK hP hD hS 0 rfl rfl 2 (by decide) (hts (.fieldLink RX2 23 "LessonWeave" "plan" "LLessonWeave$Plan;") (by decide +kernel)) (fun _ h9 => h9) rfl (by decide +kernel) rfl rfl (Nat.le_of_ble_eq_true rfl) dX2_planAnew_15 (fun H locs hP hD hS => ?_)
  have hP : va_P G.1 vwCl (wXO xa (ya 0) la (qa 0) (pa 0) ++ (wLO G la lo ++ (wSYc G ya yy_0 yy_1 yy_2 yy_3 yy_4 yy_5 yy_6 yy_7 yy_8 ++ (wPLc G pa pp_0 pp_1 pp_2 pp_3 pp_4 pp_5 pp_6 pp_7 pp_8 ++ (wPLc G qa qq_0 qq_1 qq_2 qq_3 qq_4 qq_5 qq_6 qq_7 qq_8))))) H := hP
  have hD : va_D A (wXO xa (ya 0) la (qa 0) (pa 0) ++ (wLO G la lo ++ (wSYc G ya yy_0 yy_1 yy_2 yy_3 yy_4 yy_5 yy_6 yy_7 yy_8 ++ (wPLc G pa pp_0 pp_1 pp_2 pp_3 pp_4 pp_5 pp_6 pp_7 pp_8 ++ (wPLc G qa qq_0 qq_1 qq_2 qq_3 qq_4 qq_5 qq_6 qq_7 qq_8))))) := hD
  refine lv_aload_n hx hb dX2_planAnew_18 rfl (lv_at hl 1 rfl) ?_
  refine va_get (D := G.1) (ci := 2) (v := .ref (qa 0)) (C := RX2) (T := TX2) (N := 4) hx hb hts hinX2 hown hK hP 0 rfl rfl 2 (by decide) (hts (.fieldLink RX2 23 "LessonWeave" "plan" "LLessonWeave$Plan;") (by decide +kernel)) (fun _ h9 => h9) rfl dX2_planAnew_19 ?_
  refine lv_aload_n hx hb dX2_planAnew_22 rfl (lv_at hl 1 rfl) ?_
  refine va_get (D := G.1) (ci := 2) (v := .ref (ya 0)) (C := RX2) (T := TX2) (N := 4) hx hb hts hinX2 hown hK hP 0 rfl rfl 0 (by decide) (hts (.fieldLink RX2 10 "LessonWeave" "syllabus" "LLessonWeave$Syllabus;") (by decide +kernel)) (fun _ h9 => h9) rfl dX2_planAnew_23 ?_
  refine lv_aload_n hx hb dX2_planAnew_26 rfl (lv_at hl 1 rfl) ?_
  refine va_get (D := G.1) (ci := 2) (v := .ref la) (C := RX2) (T := TX2) (N := 4) hx hb hts hinX2 hown hK hP 0 rfl rfl 1 (by decide) (hts (.fieldLink RX2 16 "LessonWeave" "lost" "[Z") (by decide +kernel)) (fun _ h9 => h9) rfl dX2_planAnew_27 ?_
  obtain ⟨o1, ho1, h⟩ := sp_b h
  refine xk_cv (va_runV (As := [.ref (ya 0), .ref la]) (rest := []) ⟨hx, hb, hml, hown, hts⟩ (c_X0_lay l G qa ya la (qq_0, qq_1, qq_2, qq_3, qq_4, qq_5, qq_6, qq_7, qq_8) (yy_0, yy_1, yy_2, yy_3, yy_4, yy_5, yy_6, yy_7, yy_8) lo o1 ho1 H.size) (cwV 2 hts gX2_planAnew_X0_lay rfl rfl rfl (by decide +kernel) ⟨Nat.le_of_ble_eq_true rfl, Nat.le_of_ble_eq_true rfl⟩) (xk_preV hK hNE (hP.sub (ws' := (wPLc G qa qq_0 qq_1 qq_2 qq_3 qq_4 qq_5 qq_6 qq_7 qq_8 ++ (wSYc G ya yy_0 yy_1 yy_2 yy_3 yy_4 yy_5 yy_6 yy_7 yy_8 ++ (wLO G la lo)))) [18, 19, 20, 21, 22, 23, 24, 2, 3, 4, 5, 6, 7, 8, 9, 10, 1] rfl) (hD.sub (ws' := (wPLc G qa qq_0 qq_1 qq_2 qq_3 qq_4 qq_5 qq_6 qq_7 qq_8 ++ (wSYc G ya yy_0 yy_1 yy_2 yy_3 yy_4 yy_5 yy_6 yy_7 yy_8 ++ (wLO G la lo)))) [18, 19, 20, 21, 22, 23, 24, 2, 3, 4, 5, 6, 7, 8, 9, 10, 1] (by decide) rfl) (ci := 0) rfl rfl) rfl rfl hl.1 rfl (lv_room (Nat.le_of_ble_eq_true rfl)) dX2_planAnew_30 ⟨Nat.le_of_ble_eq_true rfl, Nat.le_of_ble_eq_true rfl⟩) hP hD hS hA [18, 19, 20, 21, 22, 23, 24, 2, 3, 4, 5, 6, 7, 8, 9, 10, 1] [0, 11, 12, 13, 14, 15, 16, 17] [0, 24, 15, 16, 17, 18, 19, 20, 21, 22, 23, 1, 2, 3, 4, 5, 6, 7, 8, 9, 10, 11, 12, 13, 14] rfl rfl (by decide) (by decide) rfl (by decide) (fun H locs hP hD hS => ?_)
  have hP : va_P G.1 vwCl (wXO xa (ya 0) la (qa 0) (pa 0) ++ (wLO G la lo ++ (wSYc G ya yy_0 yy_1 yy_2 yy_3 yy_4 yy_5 yy_6 yy_7 yy_8 ++ (wPLc G pa pp_0 pp_1 pp_2 pp_3 pp_4 pp_5 pp_6 pp_7 pp_8 ++ (wPLc G qa o1.1 o1.2.1 o1.2.2.1 o1.2.2.2.1 o1.2.2.2.2.1 o1.2.2.2.2.2.1 o1.2.2.2.2.2.2.1 o1.2.2.2.2.2.2.2.1 o1.2.2.2.2.2.2.2.2))))) H := hP
  have hD : va_D A (wXO xa (ya 0) la (qa 0) (pa 0) ++ (wLO G la lo ++ (wSYc G ya yy_0 yy_1 yy_2 yy_3 yy_4 yy_5 yy_6 yy_7 yy_8 ++ (wPLc G pa pp_0 pp_1 pp_2 pp_3 pp_4 pp_5 pp_6 pp_7 pp_8 ++ (wPLc G qa o1.1 o1.2.1 o1.2.2.1 o1.2.2.2.1 o1.2.2.2.2.1 o1.2.2.2.2.2.1 o1.2.2.2.2.2.2.1 o1.2.2.2.2.2.2.2.1 o1.2.2.2.2.2.2.2.2))))) := hD
  obtain rfl := sp_s h
  exact xk_reV hx hb hr hlk (hP.sub (ws' := (wXO xa (ya 0) la (qa 0) (pa 0) ++ (wLO G la lo ++ (wSYc G ya yy_0 yy_1 yy_2 yy_3 yy_4 yy_5 yy_6 yy_7 yy_8 ++ (wPLc G qa o1.1 o1.2.1 o1.2.2.1 o1.2.2.2.1 o1.2.2.2.2.1 o1.2.2.2.2.2.1 o1.2.2.2.2.2.2.1 o1.2.2.2.2.2.2.2.1 o1.2.2.2.2.2.2.2.2 ++ (wPLc G pa pp_0 pp_1 pp_2 pp_3 pp_4 pp_5 pp_6 pp_7 pp_8)))))) [0, 1, 2, 3, 4, 5, 6, 7, 8, 9, 10, 18, 19, 20, 21, 22, 23, 24, 11, 12, 13, 14, 15, 16, 17] rfl) (hD.sub (ws' := (wXO xa (ya 0) la (qa 0) (pa 0) ++ (wLO G la lo ++ (wSYc G ya yy_0 yy_1 yy_2 yy_3 yy_4 yy_5 yy_6 yy_7 yy_8 ++ (wPLc G qa o1.1 o1.2.1 o1.2.2.1 o1.2.2.2.1 o1.2.2.2.2.1 o1.2.2.2.2.2.1 o1.2.2.2.2.2.2.1 o1.2.2.2.2.2.2.2.1 o1.2.2.2.2.2.2.2.2 ++ (wPLc G pa pp_0 pp_1 pp_2 pp_3 pp_4 pp_5 pp_6 pp_7 pp_8)))))) [0, 1, 2, 3, 4, 5, 6, 7, 8, 9, 10, 18, 19, 20, 21, 22, 23, 24, 11, 12, 13, 14, 15, 16, 17] (by decide) rfl) hS dX2_planAnew_33
