def f_X3_dayOf (zz : xMO) (i1 : Int32) : Option (Int32) :=
  if (60 : Int32) ≤ i1 then
    if (i1 - (60 : Int32)) < 0 ∨ 36 ≤ (i1 - (60 : Int32)).toNatClampNeg then none else
    some (zz.2.2.2.2.2.2.2.2.2.2.2.2.1 (i1 - (60 : Int32)).toNatClampNeg)
  else
    if i1 < 0 ∨ 60 ≤ i1.toNatClampNeg then none else
    some (zz.2.2.2.2.2.2.2.2.2.2.2.1 i1.toNatClampNeg)
theorem f_X3_dayOf_e (zz_0 : Int32) (zz_1 : xF) (zz_2 : xF) (zz_3 : xF) (zz_4 : xF) (zz_5 : xF) (zz_6 : xF) (zz_7 : xF) (zz_8 : xF) (zz_9 : xF) (zz_10 : xF) (zz_11 : xF) (zz_12 : xF) (zz_13 : xF) (zz_14 : xF) (zz_15 : xF) (zz_16 : Int32) (zz_17 : Int32) (i1 : Int32) : f_X3_dayOf (zz_0, zz_1, zz_2, zz_3, zz_4, zz_5, zz_6, zz_7, zz_8, zz_9, zz_10, zz_11, zz_12, zz_13, zz_14, zz_15, zz_16, zz_17) i1 =
  if (60 : Int32) ≤ i1 then
    if (i1 - (60 : Int32)) < 0 ∨ 36 ≤ (i1 - (60 : Int32)).toNatClampNeg then none else
    some (zz_12 (i1 - (60 : Int32)).toNatClampNeg)
  else
    if i1 < 0 ∨ 60 ≤ i1.toNatClampNeg then none else
    some (zz_11 i1.toNatClampNeg) := rfl
set_option maxHeartbeats 4000000 in
set_option maxRecDepth 100000 in
theorem c_X3_dayOf (l : Launch) (G : xG) (za : (Nat → Nat)) (zz : xMO) (i1 : Int32) (o : Int32) (h : f_X3_dayOf zz i1 = some o) : xk_CI l yX3_dayOf wsX3_dayOf ({ frames := 0, cells := 0, slots := 0, locals := 0 } : Room) 0 0 [.ref (za 0), .int i1] G (wMOc G za zz.1 zz.2.1 zz.2.2.1 zz.2.2.2.1 zz.2.2.2.2.1 zz.2.2.2.2.2.1 zz.2.2.2.2.2.2.1 zz.2.2.2.2.2.2.2.1 zz.2.2.2.2.2.2.2.2.1 zz.2.2.2.2.2.2.2.2.2.1 zz.2.2.2.2.2.2.2.2.2.2.1 zz.2.2.2.2.2.2.2.2.2.2.2.1 zz.2.2.2.2.2.2.2.2.2.2.2.2.1 zz.2.2.2.2.2.2.2.2.2.2.2.2.2.1 zz.2.2.2.2.2.2.2.2.2.2.2.2.2.2.1 zz.2.2.2.2.2.2.2.2.2.2.2.2.2.2.2.1 zz.2.2.2.2.2.2.2.2.2.2.2.2.2.2.2.2.1 zz.2.2.2.2.2.2.2.2.2.2.2.2.2.2.2.2.2) (wMOc G za zz.1 zz.2.1 zz.2.2.1 zz.2.2.2.1 zz.2.2.2.2.1 zz.2.2.2.2.2.1 zz.2.2.2.2.2.2.1 zz.2.2.2.2.2.2.2.1 zz.2.2.2.2.2.2.2.2.1 zz.2.2.2.2.2.2.2.2.2.1 zz.2.2.2.2.2.2.2.2.2.2.1 zz.2.2.2.2.2.2.2.2.2.2.2.1 zz.2.2.2.2.2.2.2.2.2.2.2.2.1 zz.2.2.2.2.2.2.2.2.2.2.2.2.2.1 zz.2.2.2.2.2.2.2.2.2.2.2.2.2.2.1 zz.2.2.2.2.2.2.2.2.2.2.2.2.2.2.2.1 zz.2.2.2.2.2.2.2.2.2.2.2.2.2.2.2.2.1 zz.2.2.2.2.2.2.2.2.2.2.2.2.2.2.2.2.2) o := by
  obtain ⟨zz_0, zz_1, zz_2, zz_3, zz_4, zz_5, zz_6, zz_7, zz_8, zz_9, zz_10, zz_11, zz_12, zz_13, zz_14, zz_15, zz_16, zz_17⟩ := zz
  refine xk_CI.of (cc := cX3_dayOf) (maxL := 2) (ret := (some .int)) (by decide) rfl (Nat.le_of_ble_eq_true rfl) ?_
  intro pr9 en9 s mm9 bl9 meth9 cd9 A ls H locs hx hb hr hml hts hown hlk hA hP hK hD hNE hS hl
  have hown : s.vm.findClass RX3 = some mm9.cls := hown
  have hl : lv_has ls 2 [(0, .ref (za 0)), (1, .int i1)] := hl
  have hinX3 : ∀ w ∈ u_ws RX3 TX3 18, w ∈ wsX3_dayOf := by decide +kernel
  have hP : va_P G.1 vwCl (wMOc G za zz_0 zz_1 zz_2 zz_3 zz_4 zz_5 zz_6 zz_7 zz_8 zz_9 zz_10 zz_11 zz_12 zz_13 zz_14 zz_15 zz_16 zz_17) H := hP
  have hD : va_D A (wMOc G za zz_0 zz_1 zz_2 zz_3 zz_4 zz_5 zz_6 zz_7 zz_8 zz_9 zz_10 zz_11 zz_12 zz_13 zz_14 zz_15 zz_16 zz_17) := hD
  have h := (f_X3_dayOf_e zz_0 zz_1 zz_2 zz_3 zz_4 zz_5 zz_6 zz_7 zz_8 zz_9 zz_10 zz_11 zz_12 zz_13 zz_14 zz_15 zz_16 zz_17 i1).symm.trans h
  refine lv_iload_n hx hb dX3_dayOf_0 rfl (lv_at hl 1 rfl) ?_
  refine lv_bipush (v := (60 : Int32)) hx hb dX3_dayOf_1 (by decide) ?_
  refine lv_icmp_ge (tgt := 15) hx hb dX3_dayOf_3 (by decide) (fun c1 => ?_) (fun c1 => ?_)
  · have h := sp_t c1 h
    refine lv_aload_n hx hb dX3_dayOf_15 rfl (lv_at hl 0 rfl) ?_
    refine va_get (D := G.1) (ci := 3) (v := .ref (za 12)) (C := RX3) (T := TX3) (N := 18) hx hb hts hinX3 hown hK hP 0 rfl rfl 12 (by decide) (hts (.fieldLink RX3 44 "LessonWeaveModel" "revisitOn" "[I") (by decide +kernel)) (fun _ h9 => h9) rfl dX3_dayOf_16 ?_
    refine lv_iload_n hx hb dX3_dayOf_19 rfl (lv_at hl 1 rfl) ?_
    refine lv_bipush (v := (60 : Int32)) hx hb dX3_dayOf_20 (by decide) ?_
    refine lv_isub hx hb dX3_dayOf_22 ?_
    obtain ⟨hin2, h⟩ := sp_g h
    refine va_iald hx hb hK hP 12 0 rfl rfl hin2 dX3_dayOf_23 ?_
    obtain rfl := sp_s h
    exact xk_reI hx hb hr hlk hP hD hS rfl dX3_dayOf_24
  · have h := sp_f c1 h
    refine lv_aload_n hx hb dX3_dayOf_6 rfl (lv_at hl 0 rfl) ?_
    refine va_get (D := G.1) (ci := 3) (v := .ref (za 11)) (C := RX3) (T := TX3) (N := 18) hx hb hts hinX3 hown hK hP 0 rfl rfl 11 (by decide) (hts (.fieldLink RX3 41 "LessonWeaveModel" "lessonOn" "[I") (by decide +kernel)) (fun _ h9 => h9) rfl dX3_dayOf_7 ?_
    refine lv_iload_n hx hb dX3_dayOf_10 rfl (lv_at hl 1 rfl) ?_
    obtain ⟨hin3, h⟩ := sp_g h
    refine va_iald hx hb hK hP 11 0 rfl rfl hin3 dX3_dayOf_11 ?_
    refine lv_goto (tgt := 24) hx hb dX3_dayOf_12 (by decide) ?_
    obtain rfl := sp_s h
    exact xk_reI hx hb hr hlk hP hD hS rfl dX3_dayOf_24
def f_X3_lose_l43 (zz_0 : Int32) (zz_1 : xF) (zz_2 : xF) (zz_3 : xF) (zz_4 : xF) (zz_5 : xF) (zz_6 : xF) (zz_7 : xF) (zz_8 : xF) (o3 : Int32 × Int32) (o5 : xF × xF × xF × xF × xF × xF × Int32) : Nat → Int32 → xF → Option (xF)
  | 0, _, _ => none
  | k9 + 1, x2_6, zz15_6 =>
    if (96 : Int32) ≤ x2_6 then
      some zz15_6
    else
      Option.bind (f_X3_dayOf (zz_0, zz_1, zz_2, zz_3, zz_4, zz_5, zz_6, zz_7, zz_8, o5.1, o5.2.1, o5.2.2.1, o5.2.2.2.1, o5.2.2.2.2.1, o5.2.2.2.2.2.1, zz15_6, o5.2.2.2.2.2.2, o3.2) x2_6) fun (o9 : Int32) =>
      if x2_6 < 0 ∨ 96 ≤ x2_6.toNatClampNeg then none else
      f_X3_lose_l43 zz_0 zz_1 zz_2 zz_3 zz_4 zz_5 zz_6 zz_7 zz_8 o3 o5 k9 (x2_6 + (1 : Int32)) (upd zz15_6 x2_6.toNatClampNeg o9)
theorem f_X3_lose_l43_z (zz_0 : Int32) (zz_1 : xF) (zz_2 : xF) (zz_3 : xF) (zz_4 : xF) (zz_5 : xF) (zz_6 : xF) (zz_7 : xF) (zz_8 : xF) (o3 : Int32 × Int32) (o5 : xF × xF × xF × xF × xF × xF × Int32) (x2_6 : Int32) (zz15_6 : xF) : f_X3_lose_l43 zz_0 zz_1 zz_2 zz_3 zz_4 zz_5 zz_6 zz_7 zz_8 o3 o5 0 x2_6 zz15_6 = none := rfl
theorem f_X3_lose_l43_s (zz_0 : Int32) (zz_1 : xF) (zz_2 : xF) (zz_3 : xF) (zz_4 : xF) (zz_5 : xF) (zz_6 : xF) (zz_7 : xF) (zz_8 : xF) (o3 : Int32 × Int32) (o5 : xF × xF × xF × xF × xF × xF × Int32) (k9 : Nat) (x2_6 : Int32) (zz15_6 : xF) : f_X3_lose_l43 zz_0 zz_1 zz_2 zz_3 zz_4 zz_5 zz_6 zz_7 zz_8 o3 o5 (k9 + 1) x2_6 zz15_6 =
    if (96 : Int32) ≤ x2_6 then
      some zz15_6
    else
      Option.bind (f_X3_dayOf (zz_0, zz_1, zz_2, zz_3, zz_4, zz_5, zz_6, zz_7, zz_8, o5.1, o5.2.1, o5.2.2.1, o5.2.2.2.1, o5.2.2.2.2.1, o5.2.2.2.2.2.1, zz15_6, o5.2.2.2.2.2.2, o3.2) x2_6) fun (o9 : Int32) =>
      if x2_6 < 0 ∨ 96 ≤ x2_6.toNatClampNeg then none else
      f_X3_lose_l43 zz_0 zz_1 zz_2 zz_3 zz_4 zz_5 zz_6 zz_7 zz_8 o3 o5 k9 (x2_6 + (1 : Int32)) (upd zz15_6 x2_6.toNatClampNeg o9) := rfl
def f_X3_lose_l81 (zz_0 : Int32) (zz_1 : xF) (zz_2 : xF) (zz_3 : xF) (zz_4 : xF) (zz_5 : xF) (zz_6 : xF) (zz_7 : xF) (zz_8 : xF) (i1 : Int32) (o3 : Int32 × Int32) (w7 : xF) (o12 : xF × xF × xF × xF × xF × xF × Int32) : Nat → Int32 → Int32 → Option (Int32)
  | 0, _, _ => none
  | k9 + 1, x3_13, x2_13 =>
    if (96 : Int32) ≤ x3_13 then
      some x2_13
    else
      if x3_13 < 0 ∨ 96 ≤ x3_13.toNatClampNeg then none else
      Option.bind (
        if (w7 x3_13.toNatClampNeg) = ((-1) : Int32) then
          some (0 : Int32)
        else
          Option.bind (f_X3_dayOf (zz_0, zz_1, zz_2, zz_3, zz_4, zz_5, zz_6, zz_7, (upd zz_8 i1.toNatClampNeg (1 : Int32)), o12.1, o12.2.1, o12.2.2.1, o12.2.2.2.1, o12.2.2.2.2.1, o12.2.2.2.2.2.1, w7, o12.2.2.2.2.2.2, o3.2) x3_13) fun (o19 : Int32) =>
          if (w7 x3_13.toNatClampNeg) = o19 then
            some (0 : Int32)
          else
            some (1 : Int32)) fun (v17 : Int32) =>
      f_X3_lose_l81 zz_0 zz_1 zz_2 zz_3 zz_4 zz_5 zz_6 zz_7 zz_8 i1 o3 w7 o12 k9 (x3_13 + (1 : Int32)) (x2_13 + v17)
theorem f_X3_lose_l81_z (zz_0 : Int32) (zz_1 : xF) (zz_2 : xF) (zz_3 : xF) (zz_4 : xF) (zz_5 : xF) (zz_6 : xF) (zz_7 : xF) (zz_8 : xF) (i1 : Int32) (o3 : Int32 × Int32) (w7 : xF) (o12 : xF × xF × xF × xF × xF × xF × Int32) (x3_13 : Int32) (x2_13 : Int32) : f_X3_lose_l81 zz_0 zz_1 zz_2 zz_3 zz_4 zz_5 zz_6 zz_7 zz_8 i1 o3 w7 o12 0 x3_13 x2_13 = none := rfl
theorem f_X3_lose_l81_s (zz_0 : Int32) (zz_1 : xF) (zz_2 : xF) (zz_3 : xF) (zz_4 : xF) (zz_5 : xF) (zz_6 : xF) (zz_7 : xF) (zz_8 : xF) (i1 : Int32) (o3 : Int32 × Int32) (w7 : xF) (o12 : xF × xF × xF × xF × xF × xF × Int32) (k9 : Nat) (x3_13 : Int32) (x2_13 : Int32) : f_X3_lose_l81 zz_0 zz_1 zz_2 zz_3 zz_4 zz_5 zz_6 zz_7 zz_8 i1 o3 w7 o12 (k9 + 1) x3_13 x2_13 =
    if (96 : Int32) ≤ x3_13 then
      some x2_13
    else
      if x3_13 < 0 ∨ 96 ≤ x3_13.toNatClampNeg then none else
      Option.bind (
        if (w7 x3_13.toNatClampNeg) = ((-1) : Int32) then
          some (0 : Int32)
        else
          Option.bind (f_X3_dayOf (zz_0, zz_1, zz_2, zz_3, zz_4, zz_5, zz_6, zz_7, (upd zz_8 i1.toNatClampNeg (1 : Int32)), o12.1, o12.2.1, o12.2.2.1, o12.2.2.2.1, o12.2.2.2.2.1, o12.2.2.2.2.2.1, w7, o12.2.2.2.2.2.2, o3.2) x3_13) fun (o19 : Int32) =>
          if (w7 x3_13.toNatClampNeg) = o19 then
            some (0 : Int32)
          else
            some (1 : Int32)) fun (v17 : Int32) =>
      f_X3_lose_l81 zz_0 zz_1 zz_2 zz_3 zz_4 zz_5 zz_6 zz_7 zz_8 i1 o3 w7 o12 k9 (x3_13 + (1 : Int32)) (x2_13 + v17) := rfl
def f_X3_lose (zz : xMO) (i1 : Int32) : Option (Int32 × xF × xF × xF × xF × xF × xF × xF × xF × Int32 × Int32) :=
  Option.bind (f_X3_isIn i1 (0 : Int32) (99 : Int32)) fun (o1 : Int32) =>
  Option.bind (
    if o1 = 0 then
      some (1 : Int32)
    else
      if i1 < 0 ∨ 100 ≤ i1.toNatClampNeg then none else
      if (zz.2.2.2.2.2.2.2.2.1 i1.toNatClampNeg) = 0 then
        some (0 : Int32)
      else
        some (2 : Int32)) fun (v2 : Int32) =>
  Option.bind (f_X3_can (zz.1, zz.2.1, zz.2.2.1, zz.2.2.2.1, zz.2.2.2.2.1, zz.2.2.2.2.2.1, zz.2.2.2.2.2.2.1, zz.2.2.2.2.2.2.2.1, zz.2.2.2.2.2.2.2.2.1, zz.2.2.2.2.2.2.2.2.2.1, zz.2.2.2.2.2.2.2.2.2.2.1, zz.2.2.2.2.2.2.2.2.2.2.2.1, zz.2.2.2.2.2.2.2.2.2.2.2.2.1, zz.2.2.2.2.2.2.2.2.2.2.2.2.2.1, zz.2.2.2.2.2.2.2.2.2.2.2.2.2.2.1, zz.2.2.2.2.2.2.2.2.2.2.2.2.2.2.2.1, zz.2.2.2.2.2.2.2.2.2.2.2.2.2.2.2.2.1, zz.2.2.2.2.2.2.2.2.2.2.2.2.2.2.2.2.2) v2) fun (o3 : Int32 × Int32) =>
  if o3.1 = 0 then
    some ((0 : Int32), zz.2.2.2.2.2.2.2.2.1, zz.2.2.2.2.2.2.2.2.2.1, zz.2.2.2.2.2.2.2.2.2.2.1, zz.2.2.2.2.2.2.2.2.2.2.2.1, zz.2.2.2.2.2.2.2.2.2.2.2.2.1, zz.2.2.2.2.2.2.2.2.2.2.2.2.2.1, zz.2.2.2.2.2.2.2.2.2.2.2.2.2.2.1, zz.2.2.2.2.2.2.2.2.2.2.2.2.2.2.2.1, zz.2.2.2.2.2.2.2.2.2.2.2.2.2.2.2.2.1, o3.2)
  else
    Option.bind (f_X3_plans (zz.1, zz.2.1, zz.2.2.1, zz.2.2.2.1, zz.2.2.2.2.1, zz.2.2.2.2.2.1, zz.2.2.2.2.2.2.1, zz.2.2.2.2.2.2.2.1, zz.2.2.2.2.2.2.2.2.1, zz.2.2.2.2.2.2.2.2.2.1, zz.2.2.2.2.2.2.2.2.2.2.1, zz.2.2.2.2.2.2.2.2.2.2.2.1, zz.2.2.2.2.2.2.2.2.2.2.2.2.1, zz.2.2.2.2.2.2.2.2.2.2.2.2.2.1, zz.2.2.2.2.2.2.2.2.2.2.2.2.2.2.1, zz.2.2.2.2.2.2.2.2.2.2.2.2.2.2.2.1, zz.2.2.2.2.2.2.2.2.2.2.2.2.2.2.2.2.1, o3.2)) fun (o5 : xF × xF × xF × xF × xF × xF × Int32) =>
    Option.bind (f_X3_lose_l43 zz.1 zz.2.1 zz.2.2.1 zz.2.2.2.1 zz.2.2.2.2.1 zz.2.2.2.2.2.1 zz.2.2.2.2.2.2.1 zz.2.2.2.2.2.2.2.1 zz.2.2.2.2.2.2.2.2.1 o3 o5 300 (0 : Int32) zz.2.2.2.2.2.2.2.2.2.2.2.2.2.2.2.1) fun (w7 : xF) =>
    if i1 < 0 ∨ 100 ≤ i1.toNatClampNeg then none else
    Option.bind (f_X3_plans (zz.1, zz.2.1, zz.2.2.1, zz.2.2.2.1, zz.2.2.2.2.1, zz.2.2.2.2.2.1, zz.2.2.2.2.2.2.1, zz.2.2.2.2.2.2.2.1, (upd zz.2.2.2.2.2.2.2.2.1 i1.toNatClampNeg (1 : Int32)), o5.1, o5.2.1, o5.2.2.1, o5.2.2.2.1, o5.2.2.2.2.1, o5.2.2.2.2.2.1, w7, o5.2.2.2.2.2.2, o3.2)) fun (o12 : xF × xF × xF × xF × xF × xF × Int32) =>
    Option.bind (f_X3_lose_l81 zz.1 zz.2.1 zz.2.2.1 zz.2.2.2.1 zz.2.2.2.2.1 zz.2.2.2.2.2.1 zz.2.2.2.2.2.2.1 zz.2.2.2.2.2.2.2.1 zz.2.2.2.2.2.2.2.2.1 i1 o3 w7 o12 300 (0 : Int32) (0 : Int32)) fun (w14 : Int32) =>
    some (w14, (upd zz.2.2.2.2.2.2.2.2.1 i1.toNatClampNeg (1 : Int32)), o12.1, o12.2.1, o12.2.2.1, o12.2.2.2.1, o12.2.2.2.2.1, o12.2.2.2.2.2.1, w7, o12.2.2.2.2.2.2, o3.2)
theorem f_X3_lose_e (zz_0 : Int32) (zz_1 : xF) (zz_2 : xF) (zz_3 : xF) (zz_4 : xF) (zz_5 : xF) (zz_6 : xF) (zz_7 : xF) (zz_8 : xF) (zz_9 : xF) (zz_10 : xF) (zz_11 : xF) (zz_12 : xF) (zz_13 : xF) (zz_14 : xF) (zz_15 : xF) (zz_16 : Int32) (zz_17 : Int32) (i1 : Int32) : f_X3_lose (zz_0, zz_1, zz_2, zz_3, zz_4, zz_5, zz_6, zz_7, zz_8, zz_9, zz_10, zz_11, zz_12, zz_13, zz_14, zz_15, zz_16, zz_17) i1 =
  Option.bind (f_X3_isIn i1 (0 : Int32) (99 : Int32)) fun (o1 : Int32) =>
  Option.bind (
    if o1 = 0 then
      some (1 : Int32)
    else
      if i1 < 0 ∨ 100 ≤ i1.toNatClampNeg then none else
      if (zz_8 i1.toNatClampNeg) = 0 then
        some (0 : Int32)
      else
        some (2 : Int32)) fun (v2 : Int32) =>
  Option.bind (f_X3_can (zz_0, zz_1, zz_2, zz_3, zz_4, zz_5, zz_6, zz_7, zz_8, zz_9, zz_10, zz_11, zz_12, zz_13, zz_14, zz_15, zz_16, zz_17) v2) fun (o3 : Int32 × Int32) =>
  if o3.1 = 0 then
    some ((0 : Int32), zz_8, zz_9, zz_10, zz_11, zz_12, zz_13, zz_14, zz_15, zz_16, o3.2)
  else
    Option.bind (f_X3_plans (zz_0, zz_1, zz_2, zz_3, zz_4, zz_5, zz_6, zz_7, zz_8, zz_9, zz_10, zz_11, zz_12, zz_13, zz_14, zz_15, zz_16, o3.2)) fun (o5 : xF × xF × xF × xF × xF × xF × Int32) =>
    Option.bind (f_X3_lose_l43 zz_0 zz_1 zz_2 zz_3 zz_4 zz_5 zz_6 zz_7 zz_8 o3 o5 300 (0 : Int32) zz_15) fun (w7 : xF) =>
    if i1 < 0 ∨ 100 ≤ i1.toNatClampNeg then none else
    Option.bind (f_X3_plans (zz_0, zz_1, zz_2, zz_3, zz_4, zz_5, zz_6, zz_7, (upd zz_8 i1.toNatClampNeg (1 : Int32)), o5.1, o5.2.1, o5.2.2.1, o5.2.2.2.1, o5.2.2.2.2.1, o5.2.2.2.2.2.1, w7, o5.2.2.2.2.2.2, o3.2)) fun (o12 : xF × xF × xF × xF × xF × xF × Int32) =>
    Option.bind (f_X3_lose_l81 zz_0 zz_1 zz_2 zz_3 zz_4 zz_5 zz_6 zz_7 zz_8 i1 o3 w7 o12 300 (0 : Int32) (0 : Int32)) fun (w14 : Int32) =>
    some (w14, (upd zz_8 i1.toNatClampNeg (1 : Int32)), o12.1, o12.2.1, o12.2.2.1, o12.2.2.2.1, o12.2.2.2.2.1, o12.2.2.2.2.2.1, w7, o12.2.2.2.2.2.2, o3.2) := rfl
set_option maxHeartbeats 4000000 in
set_option maxRecDepth 100000 in
theorem c_X3_lose (l : Launch) (G : xG) (za : (Nat → Nat)) (zz : xMO) (i1 : Int32) (o : Int32 × xF × xF × xF × xF × xF × xF × xF × xF × Int32 × Int32) (h : f_X3_lose zz i1 = some o) : xk_CI l yX3_lose wsX3_lose ({ frames := 4, cells := 0, slots := 0, locals := 90 } : Room) 0 0 [.ref (za 0), .int i1] G (wMOc G za zz.1 zz.2.1 zz.2.2.1 zz.2.2.2.1 zz.2.2.2.2.1 zz.2.2.2.2.2.1 zz.2.2.2.2.2.2.1 zz.2.2.2.2.2.2.2.1 zz.2.2.2.2.2.2.2.2.1 zz.2.2.2.2.2.2.2.2.2.1 zz.2.2.2.2.2.2.2.2.2.2.1 zz.2.2.2.2.2.2.2.2.2.2.2.1 zz.2.2.2.2.2.2.2.2.2.2.2.2.1 zz.2.2.2.2.2.2.2.2.2.2.2.2.2.1 zz.2.2.2.2.2.2.2.2.2.2.2.2.2.2.1 zz.2.2.2.2.2.2.2.2.2.2.2.2.2.2.2.1 zz.2.2.2.2.2.2.2.2.2.2.2.2.2.2.2.2.1 zz.2.2.2.2.2.2.2.2.2.2.2.2.2.2.2.2.2) (wMOc G za zz.1 zz.2.1 zz.2.2.1 zz.2.2.2.1 zz.2.2.2.2.1 zz.2.2.2.2.2.1 zz.2.2.2.2.2.2.1 zz.2.2.2.2.2.2.2.1 o.2.1 o.2.2.1 o.2.2.2.1 o.2.2.2.2.1 o.2.2.2.2.2.1 o.2.2.2.2.2.2.1 o.2.2.2.2.2.2.2.1 o.2.2.2.2.2.2.2.2.1 o.2.2.2.2.2.2.2.2.2.1 o.2.2.2.2.2.2.2.2.2.2) o.1 := by
  obtain ⟨zz_0, zz_1, zz_2, zz_3, zz_4, zz_5, zz_6, zz_7, zz_8, zz_9, zz_10, zz_11, zz_12, zz_13, zz_14, zz_15, zz_16, zz_17⟩ := zz
  refine xk_CI.of (cc := cX3_lose) (maxL := 4) (ret := (some .int)) (by decide) rfl (Nat.le_of_ble_eq_true rfl) ?_
  intro pr9 en9 s mm9 bl9 meth9 cd9 A ls H locs hx hb hr hml hts hown hlk hA hP hK hD hNE hS hl
  have hown : s.vm.findClass RX3 = some mm9.cls := hown
  have hl : lv_has ls 4 [(0, .ref (za 0)), (1, .int i1)] := hl
  have hinX3 : ∀ w ∈ u_ws RX3 TX3 18, w ∈ wsX3_lose := by decide +kernel
  have hP : va_P G.1 vwCl (wMOc G za zz_0 zz_1 zz_2 zz_3 zz_4 zz_5 zz_6 zz_7 zz_8 zz_9 zz_10 zz_11 zz_12 zz_13 zz_14 zz_15 zz_16 zz_17) H := hP
  have hD : va_D A (wMOc G za zz_0 zz_1 zz_2 zz_3 zz_4 zz_5 zz_6 zz_7 zz_8 zz_9 zz_10 zz_11 zz_12 zz_13 zz_14 zz_15 zz_16 zz_17) := hD
  have h := (f_X3_lose_e zz_0 zz_1 zz_2 zz_3 zz_4 zz_5 zz_6 zz_7 zz_8 zz_9 zz_10 zz_11 zz_12 zz_13 zz_14 zz_15 zz_16 zz_17 i1).symm.trans h
  refine lv_aload_n hx hb dX3_lose_0 rfl (lv_at hl 0 rfl) ?_
  refine lv_iload_n hx hb dX3_lose_1 rfl (lv_at hl 1 rfl) ?_
  refine lv_iconst (v := (0 : Int32)) hx hb dX3_lose_2 (by decide) ?_
  refine lv_bipush (v := (99 : Int32)) hx hb dX3_lose_3 (by decide) ?_
  obtain ⟨o1, ho1, h⟩ := sp_b h
  refine xk_ci (va_runS (As := [.int i1, .int (0 : Int32), .int (99 : Int32)]) (rest := [.ref (za 0)]) ⟨hx, hb, hml, hown, hts⟩ (c_X3_isIn l G i1 (0 : Int32) (99 : Int32) o1 ho1 H.size) (va_cwS 3 hts gX3_lose_X3_isIn rfl rfl rfl (by decide +kernel) ⟨Nat.le_of_ble_eq_true rfl, Nat.le_of_ble_eq_true rfl⟩) (xk_preS hK hNE (hP.sub (ws' := []) [] rfl) (hD.sub (ws' := []) [] (by decide) rfl)) rfl rfl hl.1 rfl (lv_room (Nat.le_of_ble_eq_true rfl)) dX3_lose_5 ⟨Nat.le_of_ble_eq_true rfl, Nat.le_of_ble_eq_true rfl⟩) hP hD hS hA [] [0, 1, 2, 3, 4, 5, 6, 7, 8, 9, 10, 11, 12, 13, 14, 15] [0, 1, 2, 3, 4, 5, 6, 7, 8, 9, 10, 11, 12, 13, 14, 15] rfl rfl (by decide) (by decide) rfl (by decide) (fun H locs hP hD hS => ?_)
  have hP : va_P G.1 vwCl (wMOc G za zz_0 zz_1 zz_2 zz_3 zz_4 zz_5 zz_6 zz_7 zz_8 zz_9 zz_10 zz_11 zz_12 zz_13 zz_14 zz_15 zz_16 zz_17) H := hP
  have hD : va_D A (wMOc G za zz_0 zz_1 zz_2 zz_3 zz_4 zz_5 zz_6 zz_7 zz_8 zz_9 zz_10 zz_11 zz_12 zz_13 zz_14 zz_15 zz_16 zz_17) := hD
  obtain ⟨v2, hv2, h⟩ := sp_b h
  refine xk_jn G A s.heap (wMOc G za zz_0 zz_1 zz_2 zz_3 zz_4 zz_5 zz_6 zz_7 zz_8 zz_9 zz_10 zz_11 zz_12 zz_13 zz_14 zz_15 zz_16 zz_17) 4 [(0, .ref (za 0)), (1, .int i1)] 29 [.int v2, .ref (za 0)] (fun H locs hP hD hS ls hl => ?_) (fun J2 => ?_)
  · obtain ⟨o3, ho3, h⟩ := sp_b h
    refine xk_ci (va_runV (As := [.int v2]) (rest := []) ⟨hx, hb, hml, hown, hts⟩ (c_X3_can l G za (zz_0, zz_1, zz_2, zz_3, zz_4, zz_5, zz_6, zz_7, zz_8, zz_9, zz_10, zz_11, zz_12, zz_13, zz_14, zz_15, zz_16, zz_17) v2 o3 ho3 H.size) (cwV 1 hts gX3_lose_X3_can rfl rfl rfl (by decide +kernel) ⟨Nat.le_of_ble_eq_true rfl, Nat.le_of_ble_eq_true rfl⟩) (xk_preV hK hNE (hP.sub (ws' := (wMOc G za zz_0 zz_1 zz_2 zz_3 zz_4 zz_5 zz_6 zz_7 zz_8 zz_9 zz_10 zz_11 zz_12 zz_13 zz_14 zz_15 zz_16 zz_17)) [0, 1, 2, 3, 4, 5, 6, 7, 8, 9, 10, 11, 12, 13, 14, 15] rfl) (hD.sub (ws' := (wMOc G za zz_0 zz_1 zz_2 zz_3 zz_4 zz_5 zz_6 zz_7 zz_8 zz_9 zz_10 zz_11 zz_12 zz_13 zz_14 zz_15 zz_16 zz_17)) [0, 1, 2, 3, 4, 5, 6, 7, 8, 9, 10, 11, 12, 13, 14, 15] (by decide) rfl) (ci := 3) rfl rfl) rfl rfl hl.1 rfl (lv_room (Nat.le_of_ble_eq_true rfl)) dX3_lose_29 ⟨Nat.le_of_ble_eq_true rfl, Nat.le_of_ble_eq_true rfl⟩) hP hD hS hA [0, 1, 2, 3, 4, 5, 6, 7, 8, 9, 10, 11, 12, 13, 14, 15] [] [0, 1, 2, 3, 4, 5, 6, 7, 8, 9, 10, 11, 12, 13, 14, 15] rfl rfl (by decide) (by decide) rfl (by decide) (fun H locs hP hD hS => ?_)
    have hP : va_P G.1 vwCl (wMOc G za zz_0 zz_1 zz_2 zz_3 zz_4 zz_5 zz_6 zz_7 zz_8 zz_9 zz_10 zz_11 zz_12 zz_13 zz_14 zz_15 zz_16 o3.2) H := hP
    have hD : va_D A (wMOc G za zz_0 zz_1 zz_2 zz_3 zz_4 zz_5 zz_6 zz_7 zz_8 zz_9 zz_10 zz_11 zz_12 zz_13 zz_14 zz_15 zz_16 o3.2) := hD
    refine lv_if_ne (tgt := 37) hx hb dX3_lose_32 (by decide) (fun c4 => ?_) (fun c4 => ?_)
    · have h := sp_f c4 h
      refine lv_aload_n hx hb dX3_lose_37 rfl (lv_at hl 0 rfl) ?_
      obtain ⟨o5, ho5, h⟩ := sp_b h
      refine xk_cv (va_runV (As := []) (rest := []) ⟨hx, hb, hml, hown, hts⟩ (c_X3_plans l G za (zz_0, zz_1, zz_2, zz_3, zz_4, zz_5, zz_6, zz_7, zz_8, zz_9, zz_10, zz_11, zz_12, zz_13, zz_14, zz_15, zz_16, o3.2) o5 ho5 H.size) (cwV 0 hts gX3_lose_X3_plans rfl rfl rfl (by decide +kernel) ⟨Nat.le_of_ble_eq_true rfl, Nat.le_of_ble_eq_true rfl⟩) (xk_preV hK hNE (hP.sub (ws' := (wMOc G za zz_0 zz_1 zz_2 zz_3 zz_4 zz_5 zz_6 zz_7 zz_8 zz_9 zz_10 zz_11 zz_12 zz_13 zz_14 zz_15 zz_16 o3.2)) [0, 1, 2, 3, 4, 5, 6, 7, 8, 9, 10, 11, 12, 13, 14, 15] rfl) (hD.sub (ws' := (wMOc G za zz_0 zz_1 zz_2 zz_3 zz_4 zz_5 zz_6 zz_7 zz_8 zz_9 zz_10 zz_11 zz_12 zz_13 zz_14 zz_15 zz_16 o3.2)) [0, 1, 2, 3, 4, 5, 6, 7, 8, 9, 10, 11, 12, 13, 14, 15] (by decide) rfl) (ci := 3) rfl rfl) rfl rfl hl.1 rfl (lv_room (Nat.le_of_ble_eq_true rfl)) dX3_lose_38 ⟨Nat.le_of_ble_eq_true rfl, Nat.le_of_ble_eq_true rfl⟩) hP hD hS hA [0, 1, 2, 3, 4, 5, 6, 7, 8, 9, 10, 11, 12, 13, 14, 15] [] [0, 1, 2, 3, 4, 5, 6, 7, 8, 9, 10, 11, 12, 13, 14, 15] rfl rfl (by decide) (by decide) rfl (by decide) (fun H locs hP hD hS => ?_)
      have hP : va_P G.1 vwCl (wMOc G za zz_0 zz_1 zz_2 zz_3 zz_4 zz_5 zz_6 zz_7 zz_8 o5.1 o5.2.1 o5.2.2.1 o5.2.2.2.1 o5.2.2.2.2.1 o5.2.2.2.2.2.1 zz_15 o5.2.2.2.2.2.2 o3.2) H := hP
      have hD : va_D A (wMOc G za zz_0 zz_1 zz_2 zz_3 zz_4 zz_5 zz_6 zz_7 zz_8 o5.1 o5.2.1 o5.2.2.1 o5.2.2.2.1 o5.2.2.2.2.1 o5.2.2.2.2.2.1 zz_15 o5.2.2.2.2.2.2 o3.2) := hD
      refine lv_iconst (v := (0 : Int32)) hx hb dX3_lose_41 (by decide) ?_
      refine lv_istore_n (lv' := [(2, .int (0 : Int32)), (0, .ref (za 0)), (1, .int i1)]) hx hb dX3_lose_42 rfl hl (by decide) rfl (fun ls hl => ?_)
      obtain ⟨w7, hw7, h⟩ := sp_b h
      refine xk_jn G A s.heap (wMOc G za zz_0 zz_1 zz_2 zz_3 zz_4 zz_5 zz_6 zz_7 zz_8 o5.1 o5.2.1 o5.2.2.1 o5.2.2.2.1 o5.2.2.2.2.1 o5.2.2.2.2.2.1 w7 o5.2.2.2.2.2.2 o3.2) 4 [(0, .ref (za 0)), (1, .int i1)] 66 [] (fun H locs hP hD hS ls hl => ?_) (fun J6 => ?_)
      · refine lv_aload_n hx hb dX3_lose_66 rfl (lv_at hl 0 rfl) ?_
        refine va_get (D := G.1) (ci := 3) (v := .ref (za 8)) (C := RX3) (T := TX3) (N := 18) hx hb hts hinX3 hown hK hP 0 rfl rfl 8 (by decide) (hts (.fieldLink RX3 31 "LessonWeaveModel" "isLost" "[Z") (by decide +kernel)) (fun _ h9 => h9) rfl dX3_lose_67 ?_
        refine lv_iload_n hx hb dX3_lose_70 rfl (lv_at hl 1 rfl) ?_
        refine lv_iconst (v := (1 : Int32)) hx hb dX3_lose_71 (by decide) ?_
        obtain ⟨hin11, h⟩ := sp_g h
        refine va_zast hx hb hK hP hD hS 8 1 rfl rfl hin11 dX3_lose_72 (fun H locs hP hD hS => ?_)
        have hP : va_P G.1 vwCl (wMOc G za zz_0 zz_1 zz_2 zz_3 zz_4 zz_5 zz_6 zz_7 (upd zz_8 i1.toNatClampNeg (1 : Int32)) o5.1 o5.2.1 o5.2.2.1 o5.2.2.2.1 o5.2.2.2.2.1 o5.2.2.2.2.2.1 w7 o5.2.2.2.2.2.2 o3.2) H := hP
        have hD : va_D A (wMOc G za zz_0 zz_1 zz_2 zz_3 zz_4 zz_5 zz_6 zz_7 (upd zz_8 i1.toNatClampNeg (1 : Int32)) o5.1 o5.2.1 o5.2.2.1 o5.2.2.2.1 o5.2.2.2.2.1 o5.2.2.2.2.2.1 w7 o5.2.2.2.2.2.2 o3.2) := hD
        refine lv_aload_n hx hb dX3_lose_73 rfl (lv_at hl 0 rfl) ?_
        obtain ⟨o12, ho12, h⟩ := sp_b h
        refine xk_cv (va_runV (As := []) (rest := []) ⟨hx, hb, hml, hown, hts⟩ (c_X3_plans l G za (zz_0, zz_1, zz_2, zz_3, zz_4, zz_5, zz_6, zz_7, (upd zz_8 i1.toNatClampNeg (1 : Int32)), o5.1, o5.2.1, o5.2.2.1, o5.2.2.2.1, o5.2.2.2.2.1, o5.2.2.2.2.2.1, w7, o5.2.2.2.2.2.2, o3.2) o12 ho12 H.size) (cwV 0 hts gX3_lose_X3_plans rfl rfl rfl (by decide +kernel) ⟨Nat.le_of_ble_eq_true rfl, Nat.le_of_ble_eq_true rfl⟩) (xk_preV hK hNE (hP.sub (ws' := (wMOc G za zz_0 zz_1 zz_2 zz_3 zz_4 zz_5 zz_6 zz_7 (upd zz_8 i1.toNatClampNeg (1 : Int32)) o5.1 o5.2.1 o5.2.2.1 o5.2.2.2.1 o5.2.2.2.2.1 o5.2.2.2.2.2.1 w7 o5.2.2.2.2.2.2 o3.2)) [0, 1, 2, 3, 4, 5, 6, 7, 8, 9, 10, 11, 12, 13, 14, 15] rfl) (hD.sub (ws' := (wMOc G za zz_0 zz_1 zz_2 zz_3 zz_4 zz_5 zz_6 zz_7 (upd zz_8 i1.toNatClampNeg (1 : Int32)) o5.1 o5.2.1 o5.2.2.1 o5.2.2.2.1 o5.2.2.2.2.1 o5.2.2.2.2.2.1 w7 o5.2.2.2.2.2.2 o3.2)) [0, 1, 2, 3, 4, 5, 6, 7, 8, 9, 10, 11, 12, 13, 14, 15] (by decide) rfl) (ci := 3) rfl rfl) rfl rfl hl.1 rfl (lv_room (Nat.le_of_ble_eq_true rfl)) dX3_lose_74 ⟨Nat.le_of_ble_eq_true rfl, Nat.le_of_ble_eq_true rfl⟩) hP hD hS hA [0, 1, 2, 3, 4, 5, 6, 7, 8, 9, 10, 11, 12, 13, 14, 15] [] [0, 1, 2, 3, 4, 5, 6, 7, 8, 9, 10, 11, 12, 13, 14, 15] rfl rfl (by decide) (by decide) rfl (by decide) (fun H locs hP hD hS => ?_)
        have hP : va_P G.1 vwCl (wMOc G za zz_0 zz_1 zz_2 zz_3 zz_4 zz_5 zz_6 zz_7 (upd zz_8 i1.toNatClampNeg (1 : Int32)) o12.1 o12.2.1 o12.2.2.1 o12.2.2.2.1 o12.2.2.2.2.1 o12.2.2.2.2.2.1 w7 o12.2.2.2.2.2.2 o3.2) H := hP
        have hD : va_D A (wMOc G za zz_0 zz_1 zz_2 zz_3 zz_4 zz_5 zz_6 zz_7 (upd zz_8 i1.toNatClampNeg (1 : Int32)) o12.1 o12.2.1 o12.2.2.1 o12.2.2.2.1 o12.2.2.2.2.1 o12.2.2.2.2.2.1 w7 o12.2.2.2.2.2.2 o3.2) := hD
        refine lv_iconst (v := (0 : Int32)) hx hb dX3_lose_77 (by decide) ?_
        refine lv_istore_n (lv' := [(2, .int (0 : Int32)), (0, .ref (za 0)), (1, .int i1)]) hx hb dX3_lose_78 rfl hl (by decide) rfl (fun ls hl => ?_)
        refine lv_iconst (v := (0 : Int32)) hx hb dX3_lose_79 (by decide) ?_
        refine lv_istore_n (lv' := [(3, .int (0 : Int32)), (2, .int (0 : Int32)), (0, .ref (za 0)), (1, .int i1)]) hx hb dX3_lose_80 rfl hl (by decide) rfl (fun ls hl => ?_)
        obtain ⟨w14, hw14, h⟩ := sp_b h
        refine xk_jn G A s.heap (wMOc G za zz_0 zz_1 zz_2 zz_3 zz_4 zz_5 zz_6 zz_7 (upd zz_8 i1.toNatClampNeg (1 : Int32)) o12.1 o12.2.1 o12.2.2.1 o12.2.2.2.1 o12.2.2.2.2.1 o12.2.2.2.2.2.1 w7 o12.2.2.2.2.2.2 o3.2) 4 [(2, .int w14)] 125 [] (fun H locs hP hD hS ls hl => ?_) (fun J13 => ?_)
        · refine lv_iload_n hx hb dX3_lose_125 rfl (lv_at hl 0 rfl) ?_
          obtain rfl := sp_s h
          exact xk_reI hx hb hr hlk hP hD hS rfl dX3_lose_126
        · have h := hw14
          clear hw14
          refine xk_lp (α := Int32 × Int32) G A s.heap (fun a_13 => (wMOc G za zz_0 zz_1 zz_2 zz_3 zz_4 zz_5 zz_6 zz_7 (upd zz_8 i1.toNatClampNeg (1 : Int32)) o12.1 o12.2.1 o12.2.2.1 o12.2.2.2.1 o12.2.2.2.2.1 o12.2.2.2.2.2.1 w7 o12.2.2.2.2.2.2 o3.2)) 4 (fun a_13 => [(3, .int a_13.1), (2, .int a_13.2), (0, .ref (za 0))]) 81 (fun n a_13 => f_X3_lose_l81 zz_0 zz_1 zz_2 zz_3 zz_4 zz_5 zz_6 zz_7 zz_8 i1 o3 w7 o12 n a_13.1 a_13.2 = some w14) (fun a_13 h => ?_) (fun n ih_13 a_13 h H locs hP hD hS ls hl => ?_) (fun LL => ?_)
          · exact sp_n ((f_X3_lose_l81_z _ _ _ _ _ _ _ _ _ _ _ _ _ _ _).symm.trans h)
          · obtain ⟨x3_13, x2_13⟩ := a_13
            have h := (f_X3_lose_l81_s zz_0 zz_1 zz_2 zz_3 zz_4 zz_5 zz_6 zz_7 zz_8 i1 o3 w7 o12 n x3_13 x2_13).symm.trans h
            have hP : va_P G.1 vwCl (wMOc G za zz_0 zz_1 zz_2 zz_3 zz_4 zz_5 zz_6 zz_7 (upd zz_8 i1.toNatClampNeg (1 : Int32)) o12.1 o12.2.1 o12.2.2.1 o12.2.2.2.1 o12.2.2.2.2.1 o12.2.2.2.2.2.1 w7 o12.2.2.2.2.2.2 o3.2) H := hP
            have hD : va_D A (wMOc G za zz_0 zz_1 zz_2 zz_3 zz_4 zz_5 zz_6 zz_7 (upd zz_8 i1.toNatClampNeg (1 : Int32)) o12.1 o12.2.1 o12.2.2.1 o12.2.2.2.1 o12.2.2.2.2.1 o12.2.2.2.2.2.1 w7 o12.2.2.2.2.2.2 o3.2) := hD
            have hl : lv_has ls 4 [(3, .int x3_13), (2, .int x2_13), (0, .ref (za 0))] := hl
            refine lv_iload_n hx hb dX3_lose_81 rfl (lv_at hl 0 rfl) ?_
            refine lv_bipush (v := (96 : Int32)) hx hb dX3_lose_82 (by decide) ?_
            refine lv_icmp_ge (tgt := 125) hx hb dX3_lose_84 (by decide) (fun c15 => ?_) (fun c15 => ?_)
            · have h := sp_t c15 h
              obtain rfl := sp_s h
              exact J13 _ _ hP hD hS _ (lv_sub hl [1] rfl)
            · have h := sp_f c15 h
              refine lv_iload_n hx hb dX3_lose_87 rfl (lv_at hl 1 rfl) ?_
              refine lv_aload_n hx hb dX3_lose_88 rfl (lv_at hl 2 rfl) ?_
              refine va_get (D := G.1) (ci := 3) (v := .ref (za 15)) (C := RX3) (T := TX3) (N := 18) hx hb hts hinX3 hown hK hP 0 rfl rfl 15 (by decide) (hts (.fieldLink RX3 53 "LessonWeaveModel" "before" "[I") (by decide +kernel)) (fun _ h9 => h9) rfl dX3_lose_89 ?_
              refine lv_iload_n hx hb dX3_lose_92 rfl (lv_at hl 0 rfl) ?_
              obtain ⟨hin16, h⟩ := sp_g h
              refine va_iald hx hb hK hP 15 0 rfl rfl hin16 dX3_lose_93 ?_
              refine lv_iconst (v := ((-1) : Int32)) hx hb dX3_lose_94 (by decide) ?_
              obtain ⟨v17, hv17, h⟩ := sp_b h
              refine xk_jn G A s.heap (wMOc G za zz_0 zz_1 zz_2 zz_3 zz_4 zz_5 zz_6 zz_7 (upd zz_8 i1.toNatClampNeg (1 : Int32)) o12.1 o12.2.1 o12.2.2.1 o12.2.2.2.1 o12.2.2.2.2.1 o12.2.2.2.2.2.1 w7 o12.2.2.2.2.2.2 o3.2) 4 [(3, .int x3_13), (0, .ref (za 0))] 117 [.int v17, .int x2_13] (fun H locs hP hD hS ls hl => ?_) (fun J17 => ?_)
              · refine lv_iadd hx hb dX3_lose_117 ?_
                refine lv_istore_n (lv' := [(2, .int (x2_13 + v17)), (3, .int x3_13), (0, .ref (za 0))]) hx hb dX3_lose_118 rfl hl (by decide) rfl (fun ls hl => ?_)
                refine lv_iinc (v := (x3_13 + (1 : Int32))) (lv' := [(3, .int (x3_13 + (1 : Int32))), (2, .int (x2_13 + v17)), (0, .ref (za 0))]) hx hb dX3_lose_119 hl (k := 1) rfl rfl (by decide) rfl (fun ls hl => ?_)
                refine lv_goto (tgt := 81) hx hb dX3_lose_122 (by decide) ?_
                exact ih_13 ((x3_13 + (1 : Int32)), (x2_13 + v17)) h _ _ hP hD hS _ (lv_sub hl [0, 1, 2] rfl)
              · have h := hv17
                clear hv17
                refine lv_icmp_eq (tgt := 116) hx hb dX3_lose_95 (by decide) (fun c18 => ?_) (fun c18 => ?_)
                · have h := sp_t c18 h
                  refine lv_iconst (v := (0 : Int32)) hx hb dX3_lose_116 (by decide) ?_
                  obtain rfl := sp_s h
                  exact J17 _ _ hP hD hS _ (lv_sub hl [0, 2] rfl)
                · have h := sp_f c18 h
                  refine lv_aload_n hx hb dX3_lose_98 rfl (lv_at hl 2 rfl) ?_
                  refine va_get (D := G.1) (ci := 3) (v := .ref (za 15)) (C := RX3) (T := TX3) (N := 18) hx hb hts hinX3 hown hK hP 0 rfl rfl 15 (by decide) (hts (.fieldLink RX3 53 "LessonWeaveModel" "before" "[I") (by decide +kernel)) (fun _ h9 => h9) rfl dX3_lose_99 ?_
                  refine lv_iload_n hx hb dX3_lose_102 rfl (lv_at hl 0 rfl) ?_
                  refine va_iald hx hb hK hP 15 0 rfl rfl hin16 dX3_lose_103 ?_
                  refine lv_aload_n hx hb dX3_lose_104 rfl (lv_at hl 2 rfl) ?_
                  refine lv_iload_n hx hb dX3_lose_105 rfl (lv_at hl 0 rfl) ?_
                  obtain ⟨o19, ho19, h⟩ := sp_b h
                  refine xk_ci (va_runV (As := [.int x3_13]) (rest := [.int (w7 x3_13.toNatClampNeg), .int x2_13]) ⟨hx, hb, hml, hown, hts⟩ (c_X3_dayOf l G za (zz_0, zz_1, zz_2, zz_3, zz_4, zz_5, zz_6, zz_7, (upd zz_8 i1.toNatClampNeg (1 : Int32)), o12.1, o12.2.1, o12.2.2.1, o12.2.2.2.1, o12.2.2.2.2.1, o12.2.2.2.2.2.1, w7, o12.2.2.2.2.2.2, o3.2) x3_13 o19 ho19 H.size) (cwV 1 hts gX3_lose_X3_dayOf rfl rfl rfl (by decide +kernel) ⟨Nat.le_of_ble_eq_true rfl, Nat.le_of_ble_eq_true rfl⟩) (xk_preV hK hNE (hP.sub (ws' := (wMOc G za zz_0 zz_1 zz_2 zz_3 zz_4 zz_5 zz_6 zz_7 (upd zz_8 i1.toNatClampNeg (1 : Int32)) o12.1 o12.2.1 o12.2.2.1 o12.2.2.2.1 o12.2.2.2.2.1 o12.2.2.2.2.2.1 w7 o12.2.2.2.2.2.2 o3.2)) [0, 1, 2, 3, 4, 5, 6, 7, 8, 9, 10, 11, 12, 13, 14, 15] rfl) (hD.sub (ws' := (wMOc G za zz_0 zz_1 zz_2 zz_3 zz_4 zz_5 zz_6 zz_7 (upd zz_8 i1.toNatClampNeg (1 : Int32)) o12.1 o12.2.1 o12.2.2.1 o12.2.2.2.1 o12.2.2.2.2.1 o12.2.2.2.2.2.1 w7 o12.2.2.2.2.2.2 o3.2)) [0, 1, 2, 3, 4, 5, 6, 7, 8, 9, 10, 11, 12, 13, 14, 15] (by decide) rfl) (ci := 3) rfl rfl) rfl rfl hl.1 rfl (lv_room (Nat.le_of_ble_eq_true rfl)) dX3_lose_106 ⟨Nat.le_of_ble_eq_true rfl, Nat.le_of_ble_eq_true rfl⟩) hP hD hS hA [0, 1, 2, 3, 4, 5, 6, 7, 8, 9, 10, 11, 12, 13, 14, 15] [] [0, 1, 2, 3, 4, 5, 6, 7, 8, 9, 10, 11, 12, 13, 14, 15] rfl rfl (by decide) (by decide) rfl (by decide) (fun H locs hP hD hS => ?_)
                  have hP : va_P G.1 vwCl (wMOc G za zz_0 zz_1 zz_2 zz_3 zz_4 zz_5 zz_6 zz_7 (upd zz_8 i1.toNatClampNeg (1 : Int32)) o12.1 o12.2.1 o12.2.2.1 o12.2.2.2.1 o12.2.2.2.2.1 o12.2.2.2.2.2.1 w7 o12.2.2.2.2.2.2 o3.2) H := hP
                  have hD : va_D A (wMOc G za zz_0 zz_1 zz_2 zz_3 zz_4 zz_5 zz_6 zz_7 (upd zz_8 i1.toNatClampNeg (1 : Int32)) o12.1 o12.2.1 o12.2.2.1 o12.2.2.2.1 o12.2.2.2.2.1 o12.2.2.2.2.2.1 w7 o12.2.2.2.2.2.2 o3.2) := hD
                  refine lv_icmp_eq (tgt := 116) hx hb dX3_lose_109 (by decide) (fun c20 => ?_) (fun c20 => ?_)
                  · have h := sp_t c20 h
                    refine lv_iconst (v := (0 : Int32)) hx hb dX3_lose_116 (by decide) ?_
                    obtain rfl := sp_s h
                    exact J17 _ _ hP hD hS _ (lv_sub hl [0, 2] rfl)
                  · have h := sp_f c20 h
                    refine lv_iconst (v := (1 : Int32)) hx hb dX3_lose_112 (by decide) ?_
                    refine lv_goto (tgt := 117) hx hb dX3_lose_113 (by decide) ?_
                    obtain rfl := sp_s h
                    exact J17 _ _ hP hD hS _ (lv_sub hl [0, 2] rfl)
          · exact LL 300 ((0 : Int32), (0 : Int32)) h _ _ hP hD hS _ (lv_sub hl [0, 1, 2] rfl)
      · have h := hw7
        clear hw7
        refine xk_lp (α := Int32 × xF) G A s.heap (fun a_6 => (wMOc G za zz_0 zz_1 zz_2 zz_3 zz_4 zz_5 zz_6 zz_7 zz_8 o5.1 o5.2.1 o5.2.2.1 o5.2.2.2.1 o5.2.2.2.2.1 o5.2.2.2.2.2.1 a_6.2 o5.2.2.2.2.2.2 o3.2)) 4 (fun a_6 => [(2, .int a_6.1), (0, .ref (za 0)), (1, .int i1)]) 43 (fun n a_6 => f_X3_lose_l43 zz_0 zz_1 zz_2 zz_3 zz_4 zz_5 zz_6 zz_7 zz_8 o3 o5 n a_6.1 a_6.2 = some w7) (fun a_6 h => ?_) (fun n ih_6 a_6 h H locs hP hD hS ls hl => ?_) (fun LL => ?_)
        · exact sp_n ((f_X3_lose_l43_z _ _ _ _ _ _ _ _ _ _ _ _ _).symm.trans h)
        · obtain ⟨x2_6, zz15_6⟩ := a_6
          have h := (f_X3_lose_l43_s zz_0 zz_1 zz_2 zz_3 zz_4 zz_5 zz_6 zz_7 zz_8 o3 o5 n x2_6 zz15_6).symm.trans h
          have hP : va_P G.1 vwCl (wMOc G za zz_0 zz_1 zz_2 zz_3 zz_4 zz_5 zz_6 zz_7 zz_8 o5.1 o5.2.1 o5.2.2.1 o5.2.2.2.1 o5.2.2.2.2.1 o5.2.2.2.2.2.1 zz15_6 o5.2.2.2.2.2.2 o3.2) H := hP
          have hD : va_D A (wMOc G za zz_0 zz_1 zz_2 zz_3 zz_4 zz_5 zz_6 zz_7 zz_8 o5.1 o5.2.1 o5.2.2.1 o5.2.2.2.1 o5.2.2.2.2.1 o5.2.2.2.2.2.1 zz15_6 o5.2.2.2.2.2.2 o3.2) := hD
          have hl : lv_has ls 4 [(2, .int x2_6), (0, .ref (za 0)), (1, .int i1)] := hl
          refine lv_iload_n hx hb dX3_lose_43 rfl (lv_at hl 0 rfl) ?_
          refine lv_bipush (v := (96 : Int32)) hx hb dX3_lose_44 (by decide) ?_
          refine lv_icmp_ge (tgt := 66) hx hb dX3_lose_46 (by decide) (fun c8 => ?_) (fun c8 => ?_)
          · have h := sp_t c8 h
            obtain rfl := sp_s h
            exact J6 _ _ hP hD hS _ (lv_sub hl [1, 2] rfl)
          · have h := sp_f c8 h
            refine lv_aload_n hx hb dX3_lose_49 rfl (lv_at hl 1 rfl) ?_
            refine va_get (D := G.1) (ci := 3) (v := .ref (za 15)) (C := RX3) (T := TX3) (N := 18) hx hb hts hinX3 hown hK hP 0 rfl rfl 15 (by decide) (hts (.fieldLink RX3 53 "LessonWeaveModel" "before" "[I") (by decide +kernel)) (fun _ h9 => h9) rfl dX3_lose_50 ?_
            refine lv_iload_n hx hb dX3_lose_53 rfl (lv_at hl 0 rfl) ?_
            refine lv_aload_n hx hb dX3_lose_54 rfl (lv_at hl 1 rfl) ?_
            refine lv_iload_n hx hb dX3_lose_55 rfl (lv_at hl 0 rfl) ?_
            obtain ⟨o9, ho9, h⟩ := sp_b h
            refine xk_ci (va_runV (As := [.int x2_6]) (rest := [.int x2_6, .ref (za 15)]) ⟨hx, hb, hml, hown, hts⟩ (c_X3_dayOf l G za (zz_0, zz_1, zz_2, zz_3, zz_4, zz_5, zz_6, zz_7, zz_8, o5.1, o5.2.1, o5.2.2.1, o5.2.2.2.1, o5.2.2.2.2.1, o5.2.2.2.2.2.1, zz15_6, o5.2.2.2.2.2.2, o3.2) x2_6 o9 ho9 H.size) (cwV 1 hts gX3_lose_X3_dayOf rfl rfl rfl (by decide +kernel) ⟨Nat.le_of_ble_eq_true rfl, Nat.le_of_ble_eq_true rfl⟩) (xk_preV hK hNE (hP.sub (ws' := (wMOc G za zz_0 zz_1 zz_2 zz_3 zz_4 zz_5 zz_6 zz_7 zz_8 o5.1 o5.2.1 o5.2.2.1 o5.2.2.2.1 o5.2.2.2.2.1 o5.2.2.2.2.2.1 zz15_6 o5.2.2.2.2.2.2 o3.2)) [0, 1, 2, 3, 4, 5, 6, 7, 8, 9, 10, 11, 12, 13, 14, 15] rfl) (hD.sub (ws' := (wMOc G za zz_0 zz_1 zz_2 zz_3 zz_4 zz_5 zz_6 zz_7 zz_8 o5.1 o5.2.1 o5.2.2.1 o5.2.2.2.1 o5.2.2.2.2.1 o5.2.2.2.2.2.1 zz15_6 o5.2.2.2.2.2.2 o3.2)) [0, 1, 2, 3, 4, 5, 6, 7, 8, 9, 10, 11, 12, 13, 14, 15] (by decide) rfl) (ci := 3) rfl rfl) rfl rfl hl.1 rfl (lv_room (Nat.le_of_ble_eq_true rfl)) dX3_lose_56 ⟨Nat.le_of_ble_eq_true rfl, Nat.le_of_ble_eq_true rfl⟩) hP hD hS hA [0, 1, 2, 3, 4, 5, 6, 7, 8, 9, 10, 11, 12, 13, 14, 15] [] [0, 1, 2, 3, 4, 5, 6, 7, 8, 9, 10, 11, 12, 13, 14, 15] rfl rfl (by decide) (by decide) rfl (by decide) (fun H locs hP hD hS => ?_)
            have hP : va_P G.1 vwCl (wMOc G za zz_0 zz_1 zz_2 zz_3 zz_4 zz_5 zz_6 zz_7 zz_8 o5.1 o5.2.1 o5.2.2.1 o5.2.2.2.1 o5.2.2.2.2.1 o5.2.2.2.2.2.1 zz15_6 o5.2.2.2.2.2.2 o3.2) H := hP
            have hD : va_D A (wMOc G za zz_0 zz_1 zz_2 zz_3 zz_4 zz_5 zz_6 zz_7 zz_8 o5.1 o5.2.1 o5.2.2.1 o5.2.2.2.1 o5.2.2.2.2.1 o5.2.2.2.2.2.1 zz15_6 o5.2.2.2.2.2.2 o3.2) := hD
            obtain ⟨hin10, h⟩ := sp_g h
            refine va_iast hx hb hK hP hD hS 15 0 rfl rfl hin10 dX3_lose_59 (fun H locs hP hD hS => ?_)
            have hP : va_P G.1 vwCl (wMOc G za zz_0 zz_1 zz_2 zz_3 zz_4 zz_5 zz_6 zz_7 zz_8 o5.1 o5.2.1 o5.2.2.1 o5.2.2.2.1 o5.2.2.2.2.1 o5.2.2.2.2.2.1 (upd zz15_6 x2_6.toNatClampNeg o9) o5.2.2.2.2.2.2 o3.2) H := hP
            have hD : va_D A (wMOc G za zz_0 zz_1 zz_2 zz_3 zz_4 zz_5 zz_6 zz_7 zz_8 o5.1 o5.2.1 o5.2.2.1 o5.2.2.2.1 o5.2.2.2.2.1 o5.2.2.2.2.2.1 (upd zz15_6 x2_6.toNatClampNeg o9) o5.2.2.2.2.2.2 o3.2) := hD
            refine lv_iinc (v := (x2_6 + (1 : Int32))) (lv' := [(2, .int (x2_6 + (1 : Int32))), (0, .ref (za 0)), (1, .int i1)]) hx hb dX3_lose_60 hl (k := 0) rfl rfl (by decide) rfl (fun ls hl => ?_)
            refine lv_goto (tgt := 43) hx hb dX3_lose_63 (by decide) ?_
            exact ih_6 ((x2_6 + (1 : Int32)), (upd zz15_6 x2_6.toNatClampNeg o9)) h _ _ hP hD hS _ (lv_sub hl [0, 1, 2] rfl)
        · exact LL 300 ((0 : Int32), zz_15) h _ _ hP hD hS _ (lv_sub hl [0, 1, 2] rfl)
    · have h := sp_t c4 h
      refine lv_iconst (v := (0 : Int32)) hx hb dX3_lose_35 (by decide) ?_
      obtain rfl := sp_s h
      exact xk_reI hx hb hr hlk hP hD hS rfl dX3_lose_36
  · have h := hv2
    clear hv2
    refine lv_if_ne (tgt := 15) hx hb dX3_lose_8 (by decide) (fun c21 => ?_) (fun c21 => ?_)
    · have h := sp_f c21 h
      refine lv_aload_n hx hb dX3_lose_15 rfl (lv_at hl 0 rfl) ?_
      refine va_get (D := G.1) (ci := 3) (v := .ref (za 8)) (C := RX3) (T := TX3) (N := 18) hx hb hts hinX3 hown hK hP 0 rfl rfl 8 (by decide) (hts (.fieldLink RX3 31 "LessonWeaveModel" "isLost" "[Z") (by decide +kernel)) (fun _ h9 => h9) rfl dX3_lose_16 ?_
      refine lv_iload_n hx hb dX3_lose_19 rfl (lv_at hl 1 rfl) ?_
      obtain ⟨hin22, h⟩ := sp_g h
      refine va_zald hx hb hK hP 8 1 rfl rfl hin22 dX3_lose_20 ?_
      refine lv_if_eq (tgt := 28) hx hb dX3_lose_21 (by decide) (fun c23 => ?_) (fun c23 => ?_)
      · have h := sp_t c23 h
        refine lv_iconst (v := (0 : Int32)) hx hb dX3_lose_28 (by decide) ?_
        obtain rfl := sp_s h
        exact J2 _ _ hP hD hS _ (lv_sub hl [0, 1] rfl)
      · have h := sp_f c23 h
        refine lv_iconst (v := (2 : Int32)) hx hb dX3_lose_24 (by decide) ?_
        refine lv_goto (tgt := 29) hx hb dX3_lose_25 (by decide) ?_
        obtain rfl := sp_s h
        exact J2 _ _ hP hD hS _ (lv_sub hl [0, 1] rfl)
    · have h := sp_t c21 h
      refine lv_iconst (v := (1 : Int32)) hx hb dX3_lose_11 (by decide) ?_
      refine lv_goto (tgt := 29) hx hb dX3_lose_12 (by decide) ?_
      obtain rfl := sp_s h
      exact J2 _ _ hP hD hS _ (lv_sub hl [0, 1] rfl)
