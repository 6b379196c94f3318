def f_X3_on (zz : xMO) (i1 : Int32) : Option (Int32 × xF × xF × xF × xF × xF × xF × Int32 × Int32) :=
  Option.bind (f_X3_isIn i1 (0 : Int32) (99 : Int32)) fun (o1 : Int32) =>
  Option.bind (
    if o1 = 0 then
      some (1 : Int32)
    else
      some (0 : Int32)) fun (v2 : Int32) =>
  Option.bind (f_X3_can (zz.1, zz.2.1, zz.2.2.1, zz.2.2.2.1, zz.2.2.2.2.1, zz.2.2.2.2.2.1, zz.2.2.2.2.2.2.1, zz.2.2.2.2.2.2.2.1, zz.2.2.2.2.2.2.2.2.1, zz.2.2.2.2.2.2.2.2.2.1, zz.2.2.2.2.2.2.2.2.2.2.1, zz.2.2.2.2.2.2.2.2.2.2.2.1, zz.2.2.2.2.2.2.2.2.2.2.2.2.1, zz.2.2.2.2.2.2.2.2.2.2.2.2.2.1, zz.2.2.2.2.2.2.2.2.2.2.2.2.2.2.1, zz.2.2.2.2.2.2.2.2.2.2.2.2.2.2.2.1, zz.2.2.2.2.2.2.2.2.2.2.2.2.2.2.2.2.1, zz.2.2.2.2.2.2.2.2.2.2.2.2.2.2.2.2.2) v2) fun (o3 : Int32 × Int32) =>
  if o3.1 = 0 then
    some ((0 : Int32), zz.2.2.2.2.2.2.2.2.2.1, zz.2.2.2.2.2.2.2.2.2.2.1, zz.2.2.2.2.2.2.2.2.2.2.2.1, zz.2.2.2.2.2.2.2.2.2.2.2.2.1, zz.2.2.2.2.2.2.2.2.2.2.2.2.2.1, zz.2.2.2.2.2.2.2.2.2.2.2.2.2.2.1, zz.2.2.2.2.2.2.2.2.2.2.2.2.2.2.2.2.1, o3.2)
  else
    Option.bind (f_X3_plans (zz.1, zz.2.1, zz.2.2.1, zz.2.2.2.1, zz.2.2.2.2.1, zz.2.2.2.2.2.1, zz.2.2.2.2.2.2.1, zz.2.2.2.2.2.2.2.1, zz.2.2.2.2.2.2.2.2.1, zz.2.2.2.2.2.2.2.2.2.1, zz.2.2.2.2.2.2.2.2.2.2.1, zz.2.2.2.2.2.2.2.2.2.2.2.1, zz.2.2.2.2.2.2.2.2.2.2.2.2.1, zz.2.2.2.2.2.2.2.2.2.2.2.2.2.1, zz.2.2.2.2.2.2.2.2.2.2.2.2.2.2.1, zz.2.2.2.2.2.2.2.2.2.2.2.2.2.2.2.1, zz.2.2.2.2.2.2.2.2.2.2.2.2.2.2.2.2.1, o3.2)) fun (o5 : xF × xF × xF × xF × xF × xF × Int32) =>
    if i1 < 0 ∨ 100 ≤ i1.toNatClampNeg then none else
    some ((o5.2.1 i1.toNatClampNeg), o5.1, o5.2.1, o5.2.2.1, o5.2.2.2.1, o5.2.2.2.2.1, o5.2.2.2.2.2.1, o5.2.2.2.2.2.2, o3.2)
theorem f_X3_on_e (zz_0 : Int32) (zz_1 : xF) (zz_2 : xF) (zz_3 : xF) (zz_4 : xF) (zz_5 : xF) (zz_6 : xF) (zz_7 : xF) (zz_8 : xF) (zz_9 : xF) (zz_10 : xF) (zz_11 : xF) (zz_12 : xF) (zz_13 : xF) (zz_14 : xF) (zz_15 : xF) (zz_16 : Int32) (zz_17 : Int32) (i1 : Int32) : f_X3_on (zz_0, zz_1, zz_2, zz_3, zz_4, zz_5, zz_6, zz_7, zz_8, zz_9, zz_10, zz_11, zz_12, zz_13, zz_14, zz_15, zz_16, zz_17) i1 =
  Option.bind (f_X3_isIn i1 (0 : Int32) (99 : Int32)) fun (o1 : Int32) =>
  Option.bind (
    if o1 = 0 then
      some (1 : Int32)
    else
      some (0 : Int32)) fun (v2 : Int32) =>
  Option.bind (f_X3_can (zz_0, zz_1, zz_2, zz_3, zz_4, zz_5, zz_6, zz_7, zz_8, zz_9, zz_10, zz_11, zz_12, zz_13, zz_14, zz_15, zz_16, zz_17) v2) fun (o3 : Int32 × Int32) =>
  if o3.1 = 0 then
    some ((0 : Int32), zz_9, zz_10, zz_11, zz_12, zz_13, zz_14, zz_16, o3.2)
  else
    Option.bind (f_X3_plans (zz_0, zz_1, zz_2, zz_3, zz_4, zz_5, zz_6, zz_7, zz_8, zz_9, zz_10, zz_11, zz_12, zz_13, zz_14, zz_15, zz_16, o3.2)) fun (o5 : xF × xF × xF × xF × xF × xF × Int32) =>
    if i1 < 0 ∨ 100 ≤ i1.toNatClampNeg then none else
    some ((o5.2.1 i1.toNatClampNeg), o5.1, o5.2.1, o5.2.2.1, o5.2.2.2.1, o5.2.2.2.2.1, o5.2.2.2.2.2.1, o5.2.2.2.2.2.2, o3.2) := rfl
set_option maxHeartbeats 4000000 in
set_option maxRecDepth 100000 in
theorem c_X3_on (l : Launch) (G : xG) (za : (Nat → Nat)) (zz : xMO) (i1 : Int32) (o : Int32 × xF × xF × xF × xF × xF × xF × Int32 × Int32) (h : f_X3_on zz i1 = some o) : xk_CI l yX3_on wsX3_on ({ frames := 4, cells := 0, slots := 0, locals := 90 } : Room) 0 0 [.ref (za 0), .int i1] G (wMOc G za zz.1 zz.2.1 zz.2.2.1 zz.2.2.2.1 zz.2.2.2.2.1 zz.2.2.2.2.2.1 zz.2.2.2.2.2.2.1 zz.2.2.2.2.2.2.2.1 zz.2.2.2.2.2.2.2.2.1 zz.2.2.2.2.2.2.2.2.2.1 zz.2.2.2.2.2.2.2.2.2.2.1 zz.2.2.2.2.2.2.2.2.2.2.2.1 zz.2.2.2.2.2.2.2.2.2.2.2.2.1 zz.2.2.2.2.2.2.2.2.2.2.2.2.2.1 zz.2.2.2.2.2.2.2.2.2.2.2.2.2.2.1 zz.2.2.2.2.2.2.2.2.2.2.2.2.2.2.2.1 zz.2.2.2.2.2.2.2.2.2.2.2.2.2.2.2.2.1 zz.2.2.2.2.2.2.2.2.2.2.2.2.2.2.2.2.2) (wMOc G za zz.1 zz.2.1 zz.2.2.1 zz.2.2.2.1 zz.2.2.2.2.1 zz.2.2.2.2.2.1 zz.2.2.2.2.2.2.1 zz.2.2.2.2.2.2.2.1 zz.2.2.2.2.2.2.2.2.1 o.2.1 o.2.2.1 o.2.2.2.1 o.2.2.2.2.1 o.2.2.2.2.2.1 o.2.2.2.2.2.2.1 zz.2.2.2.2.2.2.2.2.2.2.2.2.2.2.2.1 o.2.2.2.2.2.2.2.1 o.2.2.2.2.2.2.2.2) o.1 := by
  obtain ⟨zz_0, zz_1, zz_2, zz_3, zz_4, zz_5, zz_6, zz_7, zz_8, zz_9, zz_10, zz_11, zz_12, zz_13, zz_14, zz_15, zz_16, zz_17⟩ := zz
  refine xk_CI.of (cc := cX3_on) (maxL := 2) (ret := (some .int)) (by decide) rfl (Nat.le_of_ble_eq_true rfl) ?_
  intro pr9 en9 s mm9 bl9 meth9 cd9 A ls H locs hx hb hr hml hts hown hlk hA hP hK hD hNE hS hl
  have hown : s.vm.findClass RX3 = some mm9.cls := hown
  have hl : lv_has ls 2 [(0, .ref (za 0)), (1, .int i1)] := hl
  have hinX3 : ∀ w ∈ u_ws RX3 TX3 18, w ∈ wsX3_on := by decide +kernel
  have hP : va_P G.1 vwCl (wMOc G za zz_0 zz_1 zz_2 zz_3 zz_4 zz_5 zz_6 zz_7 zz_8 zz_9 zz_10 zz_11 zz_12 zz_13 zz_14 zz_15 zz_16 zz_17) H := hP
  have hD : va_D A (wMOc G za zz_0 zz_1 zz_2 zz_3 zz_4 zz_5 zz_6 zz_7 zz_8 zz_9 zz_10 zz_11 zz_12 zz_13 zz_14 zz_15 zz_16 zz_17) := hD
  have h := (f_X3_on_e zz_0 zz_1 zz_2 zz_3 zz_4 zz_5 zz_6 zz_7 zz_8 zz_9 zz_10 zz_11 zz_12 zz_13 zz_14 zz_15 zz_16 zz_17 i1).symm.trans h
  refine lv_aload_n hx hb dX3_on_0 rfl (lv_at hl 0 rfl) ?_
  refine lv_iload_n hx hb dX3_on_1 rfl (lv_at hl 1 rfl) ?_
  refine lv_iconst (v := (0 : Int32)) hx hb dX3_on_2 (by decide) ?_
  refine lv_bipush (v := (99 : Int32)) hx hb dX3_on_3 (by decide) ?_
  obtain ⟨o1, ho1, h⟩ := sp_b h
  refine xk_ci (va_runS (As := [.int i1, .int (0 : Int32), .int (99 : Int32)]) (rest := [.ref (za 0)]) ⟨hx, hb, hml, hown, hts⟩ (c_X3_isIn l G i1 (0 : Int32) (99 : Int32) o1 ho1 H.size) (va_cwS 3 hts gX3_on_X3_isIn rfl rfl rfl (by decide +kernel) ⟨Nat.le_of_ble_eq_true rfl, Nat.le_of_ble_eq_true rfl⟩) (xk_preS hK hNE (hP.sub (ws' := []) [] rfl) (hD.sub (ws' := []) [] (by decide) rfl)) rfl rfl hl.1 rfl (lv_room (Nat.le_of_ble_eq_true rfl)) dX3_on_5 ⟨Nat.le_of_ble_eq_true rfl, Nat.le_of_ble_eq_true rfl⟩) hP hD hS hA [] [0, 1, 2, 3, 4, 5, 6, 7, 8, 9, 10, 11, 12, 13, 14, 15] [0, 1, 2, 3, 4, 5, 6, 7, 8, 9, 10, 11, 12, 13, 14, 15] rfl rfl (by decide) (by decide) rfl (by decide) (fun H locs hP hD hS => ?_)
  have hP : va_P G.1 vwCl (wMOc G za zz_0 zz_1 zz_2 zz_3 zz_4 zz_5 zz_6 zz_7 zz_8 zz_9 zz_10 zz_11 zz_12 zz_13 zz_14 zz_15 zz_16 zz_17) H := hP
  have hD : va_D A (wMOc G za zz_0 zz_1 zz_2 zz_3 zz_4 zz_5 zz_6 zz_7 zz_8 zz_9 zz_10 zz_11 zz_12 zz_13 zz_14 zz_15 zz_16 zz_17) := hD
  obtain ⟨v2, hv2, h⟩ := sp_b h
  refine xk_jn G A s.heap (wMOc G za zz_0 zz_1 zz_2 zz_3 zz_4 zz_5 zz_6 zz_7 zz_8 zz_9 zz_10 zz_11 zz_12 zz_13 zz_14 zz_15 zz_16 zz_17) 2 [(0, .ref (za 0)), (1, .int i1)] 16 [.int v2, .ref (za 0)] (fun H locs hP hD hS ls hl => ?_) (fun J2 => ?_)
  · obtain ⟨o3, ho3, h⟩ := sp_b h
    refine xk_ci (va_runV (As := [.int v2]) (rest := []) ⟨hx, hb, hml, hown, hts⟩ (c_X3_can l G za (zz_0, zz_1, zz_2, zz_3, zz_4, zz_5, zz_6, zz_7, zz_8, zz_9, zz_10, zz_11, zz_12, zz_13, zz_14, zz_15, zz_16, zz_17) v2 o3 ho3 H.size) (cwV 1 hts gX3_on_X3_can rfl rfl rfl (by decide +kernel) ⟨Nat.le_of_ble_eq_true rfl, Nat.le_of_ble_eq_true rfl⟩) (xk_preV hK hNE (hP.sub (ws' := (wMOc G za zz_0 zz_1 zz_2 zz_3 zz_4 zz_5 zz_6 zz_7 zz_8 zz_9 zz_10 zz_11 zz_12 zz_13 zz_14 zz_15 zz_16 zz_17)) [0, 1, 2, 3, 4, 5, 6, 7, 8, 9, 10, 11, 12, 13, 14, 15] rfl) (hD.sub (ws' := (wMOc G za zz_0 zz_1 zz_2 zz_3 zz_4 zz_5 zz_6 zz_7 zz_8 zz_9 zz_10 zz_11 zz_12 zz_13 zz_14 zz_15 zz_16 zz_17)) [0, 1, 2, 3, 4, 5, 6, 7, 8, 9, 10, 11, 12, 13, 14, 15] (by decide) rfl) (ci := 3) rfl rfl) rfl rfl hl.1 rfl (lv_room (Nat.le_of_ble_eq_true rfl)) dX3_on_16 ⟨Nat.le_of_ble_eq_true rfl, Nat.le_of_ble_eq_true rfl⟩) hP hD hS hA [0, 1, 2, 3, 4, 5, 6, 7, 8, 9, 10, 11, 12, 13, 14, 15] [] [0, 1, 2, 3, 4, 5, 6, 7, 8, 9, 10, 11, 12, 13, 14, 15] rfl rfl (by decide) (by decide) rfl (by decide) (fun H locs hP hD hS => ?_)
    have hP : va_P G.1 vwCl (wMOc G za zz_0 zz_1 zz_2 zz_3 zz_4 zz_5 zz_6 zz_7 zz_8 zz_9 zz_10 zz_11 zz_12 zz_13 zz_14 zz_15 zz_16 o3.2) H := hP
    have hD : va_D A (wMOc G za zz_0 zz_1 zz_2 zz_3 zz_4 zz_5 zz_6 zz_7 zz_8 zz_9 zz_10 zz_11 zz_12 zz_13 zz_14 zz_15 zz_16 o3.2) := hD
    refine lv_if_ne (tgt := 24) hx hb dX3_on_19 (by decide) (fun c4 => ?_) (fun c4 => ?_)
    · have h := sp_f c4 h
      refine lv_aload_n hx hb dX3_on_24 rfl (lv_at hl 0 rfl) ?_
      obtain ⟨o5, ho5, h⟩ := sp_b h
      refine xk_cv (va_runV (As := []) (rest := []) ⟨hx, hb, hml, hown, hts⟩ (c_X3_plans l G za (zz_0, zz_1, zz_2, zz_3, zz_4, zz_5, zz_6, zz_7, zz_8, zz_9, zz_10, zz_11, zz_12, zz_13, zz_14, zz_15, zz_16, o3.2) o5 ho5 H.size) (cwV 0 hts gX3_on_X3_plans rfl rfl rfl (by decide +kernel) ⟨Nat.le_of_ble_eq_true rfl, Nat.le_of_ble_eq_true rfl⟩) (xk_preV hK hNE (hP.sub (ws' := (wMOc G za zz_0 zz_1 zz_2 zz_3 zz_4 zz_5 zz_6 zz_7 zz_8 zz_9 zz_10 zz_11 zz_12 zz_13 zz_14 zz_15 zz_16 o3.2)) [0, 1, 2, 3, 4, 5, 6, 7, 8, 9, 10, 11, 12, 13, 14, 15] rfl) (hD.sub (ws' := (wMOc G za zz_0 zz_1 zz_2 zz_3 zz_4 zz_5 zz_6 zz_7 zz_8 zz_9 zz_10 zz_11 zz_12 zz_13 zz_14 zz_15 zz_16 o3.2)) [0, 1, 2, 3, 4, 5, 6, 7, 8, 9, 10, 11, 12, 13, 14, 15] (by decide) rfl) (ci := 3) rfl rfl) rfl rfl hl.1 rfl (lv_room (Nat.le_of_ble_eq_true rfl)) dX3_on_25 ⟨Nat.le_of_ble_eq_true rfl, Nat.le_of_ble_eq_true rfl⟩) hP hD hS hA [0, 1, 2, 3, 4, 5, 6, 7, 8, 9, 10, 11, 12, 13, 14, 15] [] [0, 1, 2, 3, 4, 5, 6, 7, 8, 9, 10, 11, 12, 13, 14, 15] rfl rfl (by decide) (by decide) rfl (by decide) (fun H locs hP hD hS => ?_)
      have hP : va_P G.1 vwCl (wMOc G za zz_0 zz_1 zz_2 zz_3 zz_4 zz_5 zz_6 zz_7 zz_8 o5.1 o5.2.1 o5.2.2.1 o5.2.2.2.1 o5.2.2.2.2.1 o5.2.2.2.2.2.1 zz_15 o5.2.2.2.2.2.2 o3.2) H := hP
      have hD : va_D A (wMOc G za zz_0 zz_1 zz_2 zz_3 zz_4 zz_5 zz_6 zz_7 zz_8 o5.1 o5.2.1 o5.2.2.1 o5.2.2.2.1 o5.2.2.2.2.1 o5.2.2.2.2.2.1 zz_15 o5.2.2.2.2.2.2 o3.2) := hD
      refine lv_aload_n hx hb dX3_on_28 rfl (lv_at hl 0 rfl) ?_
      refine va_get (D := G.1) (ci := 3) (v := .ref (za 10)) (C := RX3) (T := TX3) (N := 18) hx hb hts hinX3 hown hK hP 0 rfl rfl 10 (by decide) (hts (.fieldLink RX3 38 "LessonWeaveModel" "things" "[I") (by decide +kernel)) (fun _ h9 => h9) rfl dX3_on_29 ?_
      refine lv_iload_n hx hb dX3_on_32 rfl (lv_at hl 1 rfl) ?_
      obtain ⟨hin6, h⟩ := sp_g h
      refine va_iald hx hb hK hP 10 0 rfl rfl hin6 dX3_on_33 ?_
      obtain rfl := sp_s h
      exact xk_reI hx hb hr hlk hP hD hS rfl dX3_on_34
    · have h := sp_t c4 h
      refine lv_iconst (v := (0 : Int32)) hx hb dX3_on_22 (by decide) ?_
      obtain rfl := sp_s h
      exact xk_reI hx hb hr hlk hP hD hS rfl dX3_on_23
  · have h := hv2
    clear hv2
    refine lv_if_eq (tgt := 15) hx hb dX3_on_8 (by decide) (fun c7 => ?_) (fun c7 => ?_)
    · have h := sp_t c7 h
      refine lv_iconst (v := (1 : Int32)) hx hb dX3_on_15 (by decide) ?_
      obtain rfl := sp_s h
      exact J2 _ _ hP hD hS _ (lv_sub hl [0, 1] rfl)
    · have h := sp_f c7 h
      refine lv_iconst (v := (0 : Int32)) hx hb dX3_on_11 (by decide) ?_
      refine lv_goto (tgt := 16) hx hb dX3_on_12 (by decide) ?_
      obtain rfl := sp_s h
      exact J2 _ _ hP hD hS _ (lv_sub hl [0, 1] rfl)
def f_X3_lessonDay (zz : xMO) (i1 : Int32) (i2 : Int32) : Option (Int32 × xF × xF × xF × xF × xF × xF × Int32 × Int32) :=
  Option.bind (f_X3_isAim (zz.1, zz.2.1, zz.2.2.1, zz.2.2.2.1, zz.2.2.2.2.1, zz.2.2.2.2.2.1, zz.2.2.2.2.2.2.1, zz.2.2.2.2.2.2.2.1, zz.2.2.2.2.2.2.2.2.1, zz.2.2.2.2.2.2.2.2.2.1, zz.2.2.2.2.2.2.2.2.2.2.1, zz.2.2.2.2.2.2.2.2.2.2.2.1, zz.2.2.2.2.2.2.2.2.2.2.2.2.1, zz.2.2.2.2.2.2.2.2.2.2.2.2.2.1, zz.2.2.2.2.2.2.2.2.2.2.2.2.2.2.1, zz.2.2.2.2.2.2.2.2.2.2.2.2.2.2.2.1, zz.2.2.2.2.2.2.2.2.2.2.2.2.2.2.2.2.1, zz.2.2.2.2.2.2.2.2.2.2.2.2.2.2.2.2.2) i1) fun (o1 : Int32) =>
  Option.bind (
    if o1 = 0 then
      some (1 : Int32)
    else
      if i1 < 0 ∨ 12 ≤ i1.toNatClampNeg then none else
      Option.bind (f_X3_isIn i2 (0 : Int32) ((zz.2.1 i1.toNatClampNeg) - (1 : Int32))) fun (o9 : Int32) =>
      if o9 = 0 then
        some (1 : Int32)
      else
        some (0 : Int32)) fun (v2 : Int32) =>
  Option.bind (f_X3_can (zz.1, zz.2.1, zz.2.2.1, zz.2.2.2.1, zz.2.2.2.2.1, zz.2.2.2.2.2.1, zz.2.2.2.2.2.2.1, zz.2.2.2.2.2.2.2.1, zz.2.2.2.2.2.2.2.2.1, zz.2.2.2.2.2.2.2.2.2.1, zz.2.2.2.2.2.2.2.2.2.2.1, zz.2.2.2.2.2.2.2.2.2.2.2.1, zz.2.2.2.2.2.2.2.2.2.2.2.2.1, zz.2.2.2.2.2.2.2.2.2.2.2.2.2.1, zz.2.2.2.2.2.2.2.2.2.2.2.2.2.2.1, zz.2.2.2.2.2.2.2.2.2.2.2.2.2.2.2.1, zz.2.2.2.2.2.2.2.2.2.2.2.2.2.2.2.2.1, zz.2.2.2.2.2.2.2.2.2.2.2.2.2.2.2.2.2) v2) fun (o3 : Int32 × Int32) =>
  if o3.1 = 0 then
    some ((0 : Int32), zz.2.2.2.2.2.2.2.2.2.1, zz.2.2.2.2.2.2.2.2.2.2.1, zz.2.2.2.2.2.2.2.2.2.2.2.1, zz.2.2.2.2.2.2.2.2.2.2.2.2.1, zz.2.2.2.2.2.2.2.2.2.2.2.2.2.1, zz.2.2.2.2.2.2.2.2.2.2.2.2.2.2.1, zz.2.2.2.2.2.2.2.2.2.2.2.2.2.2.2.2.1, o3.2)
  else
    Option.bind (f_X3_plans (zz.1, zz.2.1, zz.2.2.1, zz.2.2.2.1, zz.2.2.2.2.1, zz.2.2.2.2.2.1, zz.2.2.2.2.2.2.1, zz.2.2.2.2.2.2.2.1, zz.2.2.2.2.2.2.2.2.1, zz.2.2.2.2.2.2.2.2.2.1, zz.2.2.2.2.2.2.2.2.2.2.1, zz.2.2.2.2.2.2.2.2.2.2.2.1, zz.2.2.2.2.2.2.2.2.2.2.2.2.1, zz.2.2.2.2.2.2.2.2.2.2.2.2.2.1, zz.2.2.2.2.2.2.2.2.2.2.2.2.2.2.1, zz.2.2.2.2.2.2.2.2.2.2.2.2.2.2.2.1, zz.2.2.2.2.2.2.2.2.2.2.2.2.2.2.2.2.1, o3.2)) fun (o5 : xF × xF × xF × xF × xF × xF × Int32) =>
    if (((5 : Int32) * i1) + i2) < 0 ∨ 60 ≤ (((5 : Int32) * i1) + i2).toNatClampNeg then none else
    some ((o5.2.2.1 (((5 : Int32) * i1) + i2).toNatClampNeg), o5.1, o5.2.1, o5.2.2.1, o5.2.2.2.1, o5.2.2.2.2.1, o5.2.2.2.2.2.1, o5.2.2.2.2.2.2, o3.2)
theorem f_X3_lessonDay_e (zz_0 : Int32) (zz_1 : xF) (zz_2 : xF) (zz_3 : xF) (zz_4 : xF) (zz_5 : xF) (zz_6 : xF) (zz_7 : xF) (zz_8 : xF) (zz_9 : xF) (zz_10 : xF) (zz_11 : xF) (zz_12 : xF) (zz_13 : xF) (zz_14 : xF) (zz_15 : xF) (zz_16 : Int32) (zz_17 : Int32) (i1 : Int32) (i2 : Int32) : f_X3_lessonDay (zz_0, zz_1, zz_2, zz_3, zz_4, zz_5, zz_6, zz_7, zz_8, zz_9, zz_10, zz_11, zz_12, zz_13, zz_14, zz_15, zz_16, zz_17) i1 i2 =
  Option.bind (f_X3_isAim (zz_0, zz_1, zz_2, zz_3, zz_4, zz_5, zz_6, zz_7, zz_8, zz_9, zz_10, zz_11, zz_12, zz_13, zz_14, zz_15, zz_16, zz_17) i1) fun (o1 : Int32) =>
  Option.bind (
    if o1 = 0 then
      some (1 : Int32)
    else
      if i1 < 0 ∨ 12 ≤ i1.toNatClampNeg then none else
      Option.bind (f_X3_isIn i2 (0 : Int32) ((zz_1 i1.toNatClampNeg) - (1 : Int32))) fun (o9 : Int32) =>
      if o9 = 0 then
        some (1 : Int32)
      else
        some (0 : Int32)) fun (v2 : Int32) =>
  Option.bind (f_X3_can (zz_0, zz_1, zz_2, zz_3, zz_4, zz_5, zz_6, zz_7, zz_8, zz_9, zz_10, zz_11, zz_12, zz_13, zz_14, zz_15, zz_16, zz_17) v2) fun (o3 : Int32 × Int32) =>
  if o3.1 = 0 then
    some ((0 : Int32), zz_9, zz_10, zz_11, zz_12, zz_13, zz_14, zz_16, o3.2)
  else
    Option.bind (f_X3_plans (zz_0, zz_1, zz_2, zz_3, zz_4, zz_5, zz_6, zz_7, zz_8, zz_9, zz_10, zz_11, zz_12, zz_13, zz_14, zz_15, zz_16, o3.2)) fun (o5 : xF × xF × xF × xF × xF × xF × Int32) =>
    if (((5 : Int32) * i1) + i2) < 0 ∨ 60 ≤ (((5 : Int32) * i1) + i2).toNatClampNeg then none else
    some ((o5.2.2.1 (((5 : Int32) * i1) + i2).toNatClampNeg), o5.1, o5.2.1, o5.2.2.1, o5.2.2.2.1, o5.2.2.2.2.1, o5.2.2.2.2.2.1, o5.2.2.2.2.2.2, o3.2) := rfl
set_option maxHeartbeats 4000000 in
set_option maxRecDepth 100000 in
theorem c_X3_lessonDay (l : Launch) (G : xG) (za : (Nat → Nat)) (zz : xMO) (i1 : Int32) (i2 : Int32) (o : Int32 × xF × xF × xF × xF × xF × xF × Int32 × Int32) (h : f_X3_lessonDay zz i1 i2 = some o) : xk_CI l yX3_lessonDay wsX3_lessonDay ({ frames := 4, cells := 0, slots := 0, locals := 90 } : Room) 0 0 [.ref (za 0), .int i1, .int i2] G (wMOc G za zz.1 zz.2.1 zz.2.2.1 zz.2.2.2.1 zz.2.2.2.2.1 zz.2.2.2.2.2.1 zz.2.2.2.2.2.2.1 zz.2.2.2.2.2.2.2.1 zz.2.2.2.2.2.2.2.2.1 zz.2.2.2.2.2.2.2.2.2.1 zz.2.2.2.2.2.2.2.2.2.2.1 zz.2.2.2.2.2.2.2.2.2.2.2.1 zz.2.2.2.2.2.2.2.2.2.2.2.2.1 zz.2.2.2.2.2.2.2.2.2.2.2.2.2.1 zz.2.2.2.2.2.2.2.2.2.2.2.2.2.2.1 zz.2.2.2.2.2.2.2.2.2.2.2.2.2.2.2.1 zz.2.2.2.2.2.2.2.2.2.2.2.2.2.2.2.2.1 zz.2.2.2.2.2.2.2.2.2.2.2.2.2.2.2.2.2) (wMOc G za zz.1 zz.2.1 zz.2.2.1 zz.2.2.2.1 zz.2.2.2.2.1 zz.2.2.2.2.2.1 zz.2.2.2.2.2.2.1 zz.2.2.2.2.2.2.2.1 zz.2.2.2.2.2.2.2.2.1 o.2.1 o.2.2.1 o.2.2.2.1 o.2.2.2.2.1 o.2.2.2.2.2.1 o.2.2.2.2.2.2.1 zz.2.2.2.2.2.2.2.2.2.2.2.2.2.2.2.1 o.2.2.2.2.2.2.2.1 o.2.2.2.2.2.2.2.2) o.1 := by
  obtain ⟨zz_0, zz_1, zz_2, zz_3, zz_4, zz_5, zz_6, zz_7, zz_8, zz_9, zz_10, zz_11, zz_12, zz_13, zz_14, zz_15, zz_16, zz_17⟩ := zz
  refine xk_CI.of (cc := cX3_lessonDay) (maxL := 3) (ret := (some .int)) (by decide) rfl (Nat.le_of_ble_eq_true rfl) ?_
  intro pr9 en9 s mm9 bl9 meth9 cd9 A ls H locs hx hb hr hml hts hown hlk hA hP hK hD hNE hS hl
  have hown : s.vm.findClass RX3 = some mm9.cls := hown
  have hl : lv_has ls 3 [(0, .ref (za 0)), (1, .int i1), (2, .int i2)] := hl
  have hinX3 : ∀ w ∈ u_ws RX3 TX3 18, w ∈ wsX3_lessonDay := by decide +kernel
  have hP : va_P G.1 vwCl (wMOc G za zz_0 zz_1 zz_2 zz_3 zz_4 zz_5 zz_6 zz_7 zz_8 zz_9 zz_10 zz_11 zz_12 zz_13 zz_14 zz_15 zz_16 zz_17) H := hP
  have hD : va_D A (wMOc G za zz_0 zz_1 zz_2 zz_3 zz_4 zz_5 zz_6 zz_7 zz_8 zz_9 zz_10 zz_11 zz_12 zz_13 zz_14 zz_15 zz_16 zz_17) := hD
  have h := (f_X3_lessonDay_e zz_0 zz_1 zz_2 zz_3 zz_4 zz_5 zz_6 zz_7 zz_8 zz_9 zz_10 zz_11 zz_12 zz_13 zz_14 zz_15 zz_16 zz_17 i1 i2).symm.trans h
  refine lv_aload_n hx hb dX3_lessonDay_0 rfl (lv_at hl 0 rfl) ?_
  refine lv_aload_n hx hb dX3_lessonDay_1 rfl (lv_at hl 0 rfl) ?_
  refine lv_iload_n hx hb dX3_lessonDay_2 rfl (lv_at hl 1 rfl) ?_
  obtain ⟨o1, ho1, h⟩ := sp_b h
  refine xk_ci (va_runV (As := [.int i1]) (rest := [.ref (za 0)]) ⟨hx, hb, hml, hown, hts⟩ (c_X3_isAim l G za (zz_0, zz_1, zz_2, zz_3, zz_4, zz_5, zz_6, zz_7, zz_8, zz_9, zz_10, zz_11, zz_12, zz_13, zz_14, zz_15, zz_16, zz_17) i1 o1 ho1 H.size) (cwV 1 hts gX3_lessonDay_X3_isAim rfl rfl rfl (by decide +kernel) ⟨Nat.le_of_ble_eq_true rfl, Nat.le_of_ble_eq_true rfl⟩) (xk_preV hK hNE (hP.sub (ws' := (wMOc G za zz_0 zz_1 zz_2 zz_3 zz_4 zz_5 zz_6 zz_7 zz_8 zz_9 zz_10 zz_11 zz_12 zz_13 zz_14 zz_15 zz_16 zz_17)) [0, 1, 2, 3, 4, 5, 6, 7, 8, 9, 10, 11, 12, 13, 14, 15] rfl) (hD.sub (ws' := (wMOc G za zz_0 zz_1 zz_2 zz_3 zz_4 zz_5 zz_6 zz_7 zz_8 zz_9 zz_10 zz_11 zz_12 zz_13 zz_14 zz_15 zz_16 zz_17)) [0, 1, 2, 3, 4, 5, 6, 7, 8, 9, 10, 11, 12, 13, 14, 15] (by decide) rfl) (ci := 3) rfl rfl) rfl rfl hl.1 rfl (lv_room (Nat.le_of_ble_eq_true rfl)) dX3_lessonDay_3 ⟨Nat.le_of_ble_eq_true rfl, Nat.le_of_ble_eq_true rfl⟩) hP hD hS hA [0, 1, 2, 3, 4, 5, 6, 7, 8, 9, 10, 11, 12, 13, 14, 15] [] [0, 1, 2, 3, 4, 5, 6, 7, 8, 9, 10, 11, 12, 13, 14, 15] rfl rfl (by decide) (by decide) rfl (by decide) (fun H locs hP hD hS => ?_)
  have hP : va_P G.1 vwCl (wMOc G za zz_0 zz_1 zz_2 zz_3 zz_4 zz_5 zz_6 zz_7 zz_8 zz_9 zz_10 zz_11 zz_12 zz_13 zz_14 zz_15 zz_16 zz_17) H := hP
  have hD : va_D A (wMOc G za zz_0 zz_1 zz_2 zz_3 zz_4 zz_5 zz_6 zz_7 zz_8 zz_9 zz_10 zz_11 zz_12 zz_13 zz_14 zz_15 zz_16 zz_17) := hD
  obtain ⟨v2, hv2, h⟩ := sp_b h
  refine xk_jn G A s.heap (wMOc G za zz_0 zz_1 zz_2 zz_3 zz_4 zz_5 zz_6 zz_7 zz_8 zz_9 zz_10 zz_11 zz_12 zz_13 zz_14 zz_15 zz_16 zz_17) 3 [(0, .ref (za 0)), (1, .int i1), (2, .int i2)] 30 [.int v2, .ref (za 0)] (fun H locs hP hD hS ls hl => ?_) (fun J2 => ?_)
  · obtain ⟨o3, ho3, h⟩ := sp_b h
    refine xk_ci (va_runV (As := [.int v2]) (rest := []) ⟨hx, hb, hml, hown, hts⟩ (c_X3_can l G za (zz_0, zz_1, zz_2, zz_3, zz_4, zz_5, zz_6, zz_7, zz_8, zz_9, zz_10, zz_11, zz_12, zz_13, zz_14, zz_15, zz_16, zz_17) v2 o3 ho3 H.size) (cwV 1 hts gX3_lessonDay_X3_can rfl rfl rfl (by decide +kernel) ⟨Nat.le_of_ble_eq_true rfl, Nat.le_of_ble_eq_true rfl⟩) (xk_preV hK hNE (hP.sub (ws' := (wMOc G za zz_0 zz_1 zz_2 zz_3 zz_4 zz_5 zz_6 zz_7 zz_8 zz_9 zz_10 zz_11 zz_12 zz_13 zz_14 zz_15 zz_16 zz_17)) [0, 1, 2, 3, 4, 5, 6, 7, 8, 9, 10, 11, 12, 13, 14, 15] rfl) (hD.sub (ws' := (wMOc G za zz_0 zz_1 zz_2 zz_3 zz_4 zz_5 zz_6 zz_7 zz_8 zz_9 zz_10 zz_11 zz_12 zz_13 zz_14 zz_15 zz_16 zz_17)) [0, 1, 2, 3, 4, 5, 6, 7, 8, 9, 10, 11, 12, 13, 14, 15] (by decide) rfl) (ci := 3) rfl rfl) rfl rfl hl.1 rfl (lv_room (Nat.le_of_ble_eq_true rfl)) dX3_lessonDay_30 ⟨Nat.le_of_ble_eq_true rfl, Nat.le_of_ble_eq_true rfl⟩) hP hD hS hA [0, 1, 2, 3, 4, 5, 6, 7, 8, 9, 10, 11, 12, 13, 14, 15] [] [0, 1, 2, 3, 4, 5, 6, 7, 8, 9, 10, 11, 12, 13, 14, 15] rfl rfl (by decide) (by decide) rfl (by decide) (fun H locs hP hD hS => ?_)
    have hP : va_P G.1 vwCl (wMOc G za zz_0 zz_1 zz_2 zz_3 zz_4 zz_5 zz_6 zz_7 zz_8 zz_9 zz_10 zz_11 zz_12 zz_13 zz_14 zz_15 zz_16 o3.2) H := hP
    have hD : va_D A (wMOc G za zz_0 zz_1 zz_2 zz_3 zz_4 zz_5 zz_6 zz_7 zz_8 zz_9 zz_10 zz_11 zz_12 zz_13 zz_14 zz_15 zz_16 o3.2) := hD
    refine lv_if_ne (tgt := 38) hx hb dX3_lessonDay_33 (by decide) (fun c4 => ?_) (fun c4 => ?_)
    · have h := sp_f c4 h
      refine lv_aload_n hx hb dX3_lessonDay_38 rfl (lv_at hl 0 rfl) ?_
      obtain ⟨o5, ho5, h⟩ := sp_b h
      refine xk_cv (va_runV (As := []) (rest := []) ⟨hx, hb, hml, hown, hts⟩ (c_X3_plans l G za (zz_0, zz_1, zz_2, zz_3, zz_4, zz_5, zz_6, zz_7, zz_8, zz_9, zz_10, zz_11, zz_12, zz_13, zz_14, zz_15, zz_16, o3.2) o5 ho5 H.size) (cwV 0 hts gX3_lessonDay_X3_plans rfl rfl rfl (by decide +kernel) ⟨Nat.le_of_ble_eq_true rfl, Nat.le_of_ble_eq_true rfl⟩) (xk_preV hK hNE (hP.sub (ws' := (wMOc G za zz_0 zz_1 zz_2 zz_3 zz_4 zz_5 zz_6 zz_7 zz_8 zz_9 zz_10 zz_11 zz_12 zz_13 zz_14 zz_15 zz_16 o3.2)) [0, 1, 2, 3, 4, 5, 6, 7, 8, 9, 10, 11, 12, 13, 14, 15] rfl) (hD.sub (ws' := (wMOc G za zz_0 zz_1 zz_2 zz_3 zz_4 zz_5 zz_6 zz_7 zz_8 zz_9 zz_10 zz_11 zz_12 zz_13 zz_14 zz_15 zz_16 o3.2)) [0, 1, 2, 3, 4, 5, 6, 7, 8, 9, 10, 11, 12, 13, 14, 15] (by decide) rfl) (ci := 3) rfl rfl) rfl rfl hl.1 rfl (lv_room (Nat.le_of_ble_eq_true rfl)) dX3_lessonDay_39 ⟨Nat.le_of_ble_eq_true rfl, Nat.le_of_ble_eq_true rfl⟩) hP hD hS hA [0, 1, 2, 3, 4, 5, 6, 7, 8, 9, 10, 11, 12, 13, 14, 15] [] [0, 1, 2, 3, 4, 5, 6, 7, 8, 9, 10, 11, 12, 13, 14, 15] rfl rfl (by decide) (by decide) rfl (by decide) (fun H locs hP hD hS => ?_)
      have hP : va_P G.1 vwCl (wMOc G za zz_0 zz_1 zz_2 zz_3 zz_4 zz_5 zz_6 zz_7 zz_8 o5.1 o5.2.1 o5.2.2.1 o5.2.2.2.1 o5.2.2.2.2.1 o5.2.2.2.2.2.1 zz_15 o5.2.2.2.2.2.2 o3.2) H := hP
      have hD : va_D A (wMOc G za zz_0 zz_1 zz_2 zz_3 zz_4 zz_5 zz_6 zz_7 zz_8 o5.1 o5.2.1 o5.2.2.1 o5.2.2.2.1 o5.2.2.2.2.1 o5.2.2.2.2.2.1 zz_15 o5.2.2.2.2.2.2 o3.2) := hD
      refine lv_aload_n hx hb dX3_lessonDay_42 rfl (lv_at hl 0 rfl) ?_
      refine va_get (D := G.1) (ci := 3) (v := .ref (za 11)) (C := RX3) (T := TX3) (N := 18) hx hb hts hinX3 hown hK hP 0 rfl rfl 11 (by decide) (hts (.fieldLink RX3 41 "LessonWeaveModel" "lessonOn" "[I") (by decide +kernel)) (fun _ h9 => h9) rfl dX3_lessonDay_43 ?_
      refine lv_iconst (v := (5 : Int32)) hx hb dX3_lessonDay_46 (by decide) ?_
      refine lv_iload_n hx hb dX3_lessonDay_47 rfl (lv_at hl 1 rfl) ?_
      refine lv_imul hx hb dX3_lessonDay_48 ?_
      refine lv_iload_n hx hb dX3_lessonDay_49 rfl (lv_at hl 2 rfl) ?_
      refine lv_iadd hx hb dX3_lessonDay_50 ?_
      obtain ⟨hin6, h⟩ := sp_g h
      refine va_iald hx hb hK hP 11 0 rfl rfl hin6 dX3_lessonDay_51 ?_
      obtain rfl := sp_s h
      exact xk_reI hx hb hr hlk hP hD hS rfl dX3_lessonDay_52
    · have h := sp_t c4 h
      refine lv_iconst (v := (0 : Int32)) hx hb dX3_lessonDay_36 (by decide) ?_
      obtain rfl := sp_s h
      exact xk_reI hx hb hr hlk hP hD hS rfl dX3_lessonDay_37
  · have h := hv2
    clear hv2
    refine lv_if_eq (tgt := 29) hx hb dX3_lessonDay_6 (by decide) (fun c7 => ?_) (fun c7 => ?_)
    · have h := sp_t c7 h
      refine lv_iconst (v := (1 : Int32)) hx hb dX3_lessonDay_29 (by decide) ?_
      obtain rfl := sp_s h
      exact J2 _ _ hP hD hS _ (lv_sub hl [0, 1, 2] rfl)
    · have h := sp_f c7 h
      refine lv_iload_n hx hb dX3_lessonDay_9 rfl (lv_at hl 2 rfl) ?_
      refine lv_iconst (v := (0 : Int32)) hx hb dX3_lessonDay_10 (by decide) ?_
      refine lv_aload_n hx hb dX3_lessonDay_11 rfl (lv_at hl 0 rfl) ?_
      refine va_get (D := G.1) (ci := 3) (v := .ref (za 1)) (C := RX3) (T := TX3) (N := 18) hx hb hts hinX3 hown hK hP 0 rfl rfl 1 (by decide) (hts (.fieldLink RX3 7 "LessonWeaveModel" "lessons" "[I") (by decide +kernel)) (fun _ h9 => h9) rfl dX3_lessonDay_12 ?_
      refine lv_iload_n hx hb dX3_lessonDay_15 rfl (lv_at hl 1 rfl) ?_
      obtain ⟨hin8, h⟩ := sp_g h
      refine va_iald hx hb hK hP 1 0 rfl rfl hin8 dX3_lessonDay_16 ?_
      refine lv_iconst (v := (1 : Int32)) hx hb dX3_lessonDay_17 (by decide) ?_
      refine lv_isub hx hb dX3_lessonDay_18 ?_
      obtain ⟨o9, ho9, h⟩ := sp_b h
      refine xk_ci (va_runS (As := [.int i2, .int (0 : Int32), .int ((zz_1 i1.toNatClampNeg) - (1 : Int32))]) (rest := [.ref (za 0)]) ⟨hx, hb, hml, hown, hts⟩ (c_X3_isIn l G i2 (0 : Int32) ((zz_1 i1.toNatClampNeg) - (1 : Int32)) o9 ho9 H.size) (va_cwS 3 hts gX3_lessonDay_X3_isIn rfl rfl rfl (by decide +kernel) ⟨Nat.le_of_ble_eq_true rfl, Nat.le_of_ble_eq_true rfl⟩) (xk_preS hK hNE (hP.sub (ws' := []) [] rfl) (hD.sub (ws' := []) [] (by decide) rfl)) rfl rfl hl.1 rfl (lv_room (Nat.le_of_ble_eq_true rfl)) dX3_lessonDay_19 ⟨Nat.le_of_ble_eq_true rfl, Nat.le_of_ble_eq_true rfl⟩) hP hD hS hA [] [0, 1, 2, 3, 4, 5, 6, 7, 8, 9, 10, 11, 12, 13, 14, 15] [0, 1, 2, 3, 4, 5, 6, 7, 8, 9, 10, 11, 12, 13, 14, 15] rfl rfl (by decide) (by decide) rfl (by decide) (fun H locs hP hD hS => ?_)
      have hP : va_P G.1 vwCl (wMOc G za zz_0 zz_1 zz_2 zz_3 zz_4 zz_5 zz_6 zz_7 zz_8 zz_9 zz_10 zz_11 zz_12 zz_13 zz_14 zz_15 zz_16 zz_17) H := hP
      have hD : va_D A (wMOc G za zz_0 zz_1 zz_2 zz_3 zz_4 zz_5 zz_6 zz_7 zz_8 zz_9 zz_10 zz_11 zz_12 zz_13 zz_14 zz_15 zz_16 zz_17) := hD
      refine lv_if_eq (tgt := 29) hx hb dX3_lessonDay_22 (by decide) (fun c10 => ?_) (fun c10 => ?_)
      · have h := sp_t c10 h
        refine lv_iconst (v := (1 : Int32)) hx hb dX3_lessonDay_29 (by decide) ?_
        obtain rfl := sp_s h
        exact J2 _ _ hP hD hS _ (lv_sub hl [0, 1, 2] rfl)
      · have h := sp_f c10 h
        refine lv_iconst (v := (0 : Int32)) hx hb dX3_lessonDay_25 (by decide) ?_
        refine lv_goto (tgt := 30) hx hb dX3_lessonDay_26 (by decide) ?_
        obtain rfl := sp_s h
        exact J2 _ _ hP hD hS _ (lv_sub hl [0, 1, 2] rfl)
def f_X3_revisitDay (zz : xMO) (i1 : Int32) (i2 : Int32) : Option (Int32 × xF × xF × xF × xF × xF × xF × Int32 × Int32) :=
  Option.bind (f_X3_isAim (zz.1, zz.2.1, zz.2.2.1, zz.2.2.2.1, zz.2.2.2.2.1, zz.2.2.2.2.2.1, zz.2.2.2.2.2.2.1, zz.2.2.2.2.2.2.2.1, zz.2.2.2.2.2.2.2.2.1, zz.2.2.2.2.2.2.2.2.2.1, zz.2.2.2.2.2.2.2.2.2.2.1, zz.2.2.2.2.2.2.2.2.2.2.2.1, zz.2.2.2.2.2.2.2.2.2.2.2.2.1, zz.2.2.2.2.2.2.2.2.2.2.2.2.2.1, zz.2.2.2.2.2.2.2.2.2.2.2.2.2.2.1, zz.2.2.2.2.2.2.2.2.2.2.2.2.2.2.2.1, zz.2.2.2.2.2.2.2.2.2.2.2.2.2.2.2.2.1, zz.2.2.2.2.2.2.2.2.2.2.2.2.2.2.2.2.2) i1) fun (o1 : Int32) =>
  Option.bind (
    if o1 = 0 then
      some (1 : Int32)
    else
      if i1 < 0 ∨ 12 ≤ i1.toNatClampNeg then none else
      Option.bind (f_X3_isIn i2 (0 : Int32) ((zz.2.2.2.2.2.2.1 i1.toNatClampNeg) - (1 : Int32))) fun (o9 : Int32) =>
      if o9 = 0 then
        some (1 : Int32)
      else
        some (0 : Int32)) fun (v2 : Int32) =>
  Option.bind (f_X3_can (zz.1, zz.2.1, zz.2.2.1, zz.2.2.2.1, zz.2.2.2.2.1, zz.2.2.2.2.2.1, zz.2.2.2.2.2.2.1, zz.2.2.2.2.2.2.2.1, zz.2.2.2.2.2.2.2.2.1, zz.2.2.2.2.2.2.2.2.2.1, zz.2.2.2.2.2.2.2.2.2.2.1, zz.2.2.2.2.2.2.2.2.2.2.2.1, zz.2.2.2.2.2.2.2.2.2.2.2.2.1, zz.2.2.2.2.2.2.2.2.2.2.2.2.2.1, zz.2.2.2.2.2.2.2.2.2.2.2.2.2.2.1, zz.2.2.2.2.2.2.2.2.2.2.2.2.2.2.2.1, zz.2.2.2.2.2.2.2.2.2.2.2.2.2.2.2.2.1, zz.2.2.2.2.2.2.2.2.2.2.2.2.2.2.2.2.2) v2) fun (o3 : Int32 × Int32) =>
  if o3.1 = 0 then
    some ((0 : Int32), zz.2.2.2.2.2.2.2.2.2.1, zz.2.2.2.2.2.2.2.2.2.2.1, zz.2.2.2.2.2.2.2.2.2.2.2.1, zz.2.2.2.2.2.2.2.2.2.2.2.2.1, zz.2.2.2.2.2.2.2.2.2.2.2.2.2.1, zz.2.2.2.2.2.2.2.2.2.2.2.2.2.2.1, zz.2.2.2.2.2.2.2.2.2.2.2.2.2.2.2.2.1, o3.2)
  else
    Option.bind (f_X3_plans (zz.1, zz.2.1, zz.2.2.1, zz.2.2.2.1, zz.2.2.2.2.1, zz.2.2.2.2.2.1, zz.2.2.2.2.2.2.1, zz.2.2.2.2.2.2.2.1, zz.2.2.2.2.2.2.2.2.1, zz.2.2.2.2.2.2.2.2.2.1, zz.2.2.2.2.2.2.2.2.2.2.1, zz.2.2.2.2.2.2.2.2.2.2.2.1, zz.2.2.2.2.2.2.2.2.2.2.2.2.1, zz.2.2.2.2.2.2.2.2.2.2.2.2.2.1, zz.2.2.2.2.2.2.2.2.2.2.2.2.2.2.1, zz.2.2.2.2.2.2.2.2.2.2.2.2.2.2.2.1, zz.2.2.2.2.2.2.2.2.2.2.2.2.2.2.2.2.1, o3.2)) fun (o5 : xF × xF × xF × xF × xF × xF × Int32) =>
    if (((3 : Int32) * i1) + i2) < 0 ∨ 36 ≤ (((3 : Int32) * i1) + i2).toNatClampNeg then none else
    some ((o5.2.2.2.1 (((3 : Int32) * i1) + i2).toNatClampNeg), o5.1, o5.2.1, o5.2.2.1, o5.2.2.2.1, o5.2.2.2.2.1, o5.2.2.2.2.2.1, o5.2.2.2.2.2.2, o3.2)
theorem f_X3_revisitDay_e (zz_0 : Int32) (zz_1 : xF) (zz_2 : xF) (zz_3 : xF) (zz_4 : xF) (zz_5 : xF) (zz_6 : xF) (zz_7 : xF) (zz_8 : xF) (zz_9 : xF) (zz_10 : xF) (zz_11 : xF) (zz_12 : xF) (zz_13 : xF) (zz_14 : xF) (zz_15 : xF) (zz_16 : Int32) (zz_17 : Int32) (i1 : Int32) (i2 : Int32) : f_X3_revisitDay (zz_0, zz_1, zz_2, zz_3, zz_4, zz_5, zz_6, zz_7, zz_8, zz_9, zz_10, zz_11, zz_12, zz_13, zz_14, zz_15, zz_16, zz_17) i1 i2 =
  Option.bind (f_X3_isAim (zz_0, zz_1, zz_2, zz_3, zz_4, zz_5, zz_6, zz_7, zz_8, zz_9, zz_10, zz_11, zz_12, zz_13, zz_14, zz_15, zz_16, zz_17) i1) fun (o1 : Int32) =>
  Option.bind (
    if o1 = 0 then
      some (1 : Int32)
    else
      if i1 < 0 ∨ 12 ≤ i1.toNatClampNeg then none else
      Option.bind (f_X3_isIn i2 (0 : Int32) ((zz_6 i1.toNatClampNeg) - (1 : Int32))) fun (o9 : Int32) =>
      if o9 = 0 then
        some (1 : Int32)
      else
        some (0 : Int32)) fun (v2 : Int32) =>
  Option.bind (f_X3_can (zz_0, zz_1, zz_2, zz_3, zz_4, zz_5, zz_6, zz_7, zz_8, zz_9, zz_10, zz_11, zz_12, zz_13, zz_14, zz_15, zz_16, zz_17) v2) fun (o3 : Int32 × Int32) =>
  if o3.1 = 0 then
    some ((0 : Int32), zz_9, zz_10, zz_11, zz_12, zz_13, zz_14, zz_16, o3.2)
  else
    Option.bind (f_X3_plans (zz_0, zz_1, zz_2, zz_3, zz_4, zz_5, zz_6, zz_7, zz_8, zz_9, zz_10, zz_11, zz_12, zz_13, zz_14, zz_15, zz_16, o3.2)) fun (o5 : xF × xF × xF × xF × xF × xF × Int32) =>
    if (((3 : Int32) * i1) + i2) < 0 ∨ 36 ≤ (((3 : Int32) * i1) + i2).toNatClampNeg then none else
    some ((o5.2.2.2.1 (((3 : Int32) * i1) + i2).toNatClampNeg), o5.1, o5.2.1, o5.2.2.1, o5.2.2.2.1, o5.2.2.2.2.1, o5.2.2.2.2.2.1, o5.2.2.2.2.2.2, o3.2) := rfl
set_option maxHeartbeats 4000000 in
set_option maxRecDepth 100000 in
theorem c_X3_revisitDay (l : Launch) (G : xG) (za : (Nat → Nat)) (zz : xMO) (i1 : Int32) (i2 : Int32) (o : Int32 × xF × xF × xF × xF × xF × xF × Int32 × Int32) (h : f_X3_revisitDay zz i1 i2 = some o) : xk_CI l yX3_revisitDay wsX3_revisitDay ({ frames := 4, cells := 0, slots := 0, locals := 90 } : Room) 0 0 [.ref (za 0), .int i1, .int i2] G (wMOc G za zz.1 zz.2.1 zz.2.2.1 zz.2.2.2.1 zz.2.2.2.2.1 zz.2.2.2.2.2.1 zz.2.2.2.2.2.2.1 zz.2.2.2.2.2.2.2.1 zz.2.2.2.2.2.2.2.2.1 zz.2.2.2.2.2.2.2.2.2.1 zz.2.2.2.2.2.2.2.2.2.2.1 zz.2.2.2.2.2.2.2.2.2.2.2.1 zz.2.2.2.2.2.2.2.2.2.2.2.2.1 zz.2.2.2.2.2.2.2.2.2.2.2.2.2.1 zz.2.2.2.2.2.2.2.2.2.2.2.2.2.2.1 zz.2.2.2.2.2.2.2.2.2.2.2.2.2.2.2.1 zz.2.2.2.2.2.2.2.2.2.2.2.2.2.2.2.2.1 zz.2.2.2.2.2.2.2.2.2.2.2.2.2.2.2.2.2) (wMOc G za zz.1 zz.2.1 zz.2.2.1 zz.2.2.2.1 zz.2.2.2.2.1 zz.2.2.2.2.2.1 zz.2.2.2.2.2.2.1 zz.2.2.2.2.2.2.2.1 zz.2.2.2.2.2.2.2.2.1 o.2.1 o.2.2.1 o.2.2.2.1 o.2.2.2.2.1 o.2.2.2.2.2.1 o.2.2.2.2.2.2.1 zz.2.2.2.2.2.2.2.2.2.2.2.2.2.2.2.1 o.2.2.2.2.2.2.2.1 o.2.2.2.2.2.2.2.2) o.1 := by
  obtain ⟨zz_0, zz_1, zz_2, zz_3, zz_4, zz_5, zz_6, zz_7, zz_8, zz_9, zz_10, zz_11, zz_12, zz_13, zz_14, zz_15, zz_16, zz_17⟩ := zz
  refine xk_CI.of (cc := cX3_revisitDay) (maxL := 3) (ret := (some .int)) (by decide) rfl (Nat.le_of_ble_eq_true rfl) ?_
  intro pr9 en9 s mm9 bl9 meth9 cd9 A ls H locs hx hb hr hml hts hown hlk hA hP hK hD hNE hS hl
  have hown : s.vm.findClass RX3 = some mm9.cls := hown
  have hl : lv_has ls 3 [(0, .ref (za 0)), (1, .int i1), (2, .int i2)] := hl
  have hinX3 : ∀ w ∈ u_ws RX3 TX3 18, w ∈ wsX3_revisitDay := by decide +kernel
  have hP : va_P G.1 vwCl (wMOc G za zz_0 zz_1 zz_2 zz_3 zz_4 zz_5 zz_6 zz_7 zz_8 zz_9 zz_10 zz_11 zz_12 zz_13 zz_14 zz_15 zz_16 zz_17) H := hP
  have hD : va_D A (wMOc G za zz_0 zz_1 zz_2 zz_3 zz_4 zz_5 zz_6 zz_7 zz_8 zz_9 zz_10 zz_11 zz_12 zz_13 zz_14 zz_15 zz_16 zz_17) := hD
  have h := (f_X3_revisitDay_e zz_0 zz_1 zz_2 zz_3 zz_4 zz_5 zz_6 zz_7 zz_8 zz_9 zz_10 zz_11 zz_12 zz_13 zz_14 zz_15 zz_16 zz_17 i1 i2).symm.trans h
  refine lv_aload_n hx hb dX3_revisitDay_0 rfl (lv_at hl 0 rfl) ?_
  refine lv_aload_n hx hb dX3_revisitDay_1 rfl (lv_at hl 0 rfl) ?_
  refine lv_iload_n hx hb dX3_revisitDay_2 rfl (lv_at hl 1 rfl) ?_
  obtain ⟨o1, ho1, h⟩ := sp_b h
  refine xk_ci (va_runV (As := [.int i1]) (rest := [.ref (za 0)]) ⟨hx, hb, hml, hown, hts⟩ (c_X3_isAim l G za (zz_0, zz_1, zz_2, zz_3, zz_4, zz_5, zz_6, zz_7, zz_8, zz_9, zz_10, zz_11, zz_12, zz_13, zz_14, zz_15, zz_16, zz_17) i1 o1 ho1 H.size) (cwV 1 hts gX3_revisitDay_X3_isAim rfl rfl rfl (by decide +kernel) ⟨Nat.le_of_ble_eq_true rfl, Nat.le_of_ble_eq_true rfl⟩) (xk_preV hK hNE (hP.sub (ws' := (wMOc G za zz_0 zz_1 zz_2 zz_3 zz_4 zz_5 zz_6 zz_7 zz_8 zz_9 zz_10 zz_11 zz_12 zz_13 zz_14 zz_15 zz_16 zz_17)) [0, 1, 2, 3, 4, 5, 6, 7, 8, 9, 10, 11, 12, 13, 14, 15] rfl) (hD.sub (ws' := (wMOc G za zz_0 zz_1 zz_2 zz_3 zz_4 zz_5 zz_6 zz_7 zz_8 zz_9 zz_10 zz_11 zz_12 zz_13 zz_14 zz_15 zz_16 zz_17)) [0, 1, 2, 3, 4, 5, 6, 7, 8, 9, 10, 11, 12, 13, 14, 15] (by decide) rfl) (ci := 3) rfl rfl) rfl rfl hl.1 rfl (lv_room (Nat.le_of_ble_eq_true rfl)) dX3_revisitDay_3 ⟨Nat.le_of_ble_eq_true rfl, Nat.le_of_ble_eq_true rfl⟩) hP hD hS hA [0, 1, 2, 3, 4, 5, 6, 7, 8, 9, 10, 11, 12, 13, 14, 15] [] [0, 1, 2, 3, 4, 5, 6, 7, 8, 9, 10, 11, 12, 13, 14, 15] rfl rfl (by decide) (by decide) rfl (by decide) (fun H locs hP hD hS => ?_)
  have hP : va_P G.1 vwCl (wMOc G za zz_0 zz_1 zz_2 zz_3 zz_4 zz_5 zz_6 zz_7 zz_8 zz_9 zz_10 zz_11 zz_12 zz_13 zz_14 zz_15 zz_16 zz_17) H := hP
  have hD : va_D A (wMOc G za zz_0 zz_1 zz_2 zz_3 zz_4 zz_5 zz_6 zz_7 zz_8 zz_9 zz_10 zz_11 zz_12 zz_13 zz_14 zz_15 zz_16 zz_17) := hD
  obtain ⟨v2, hv2, h⟩ := sp_b h
  refine xk_jn G A s.heap (wMOc G za zz_0 zz_1 zz_2 zz_3 zz_4 zz_5 zz_6 zz_7 zz_8 zz_9 zz_10 zz_11 zz_12 zz_13 zz_14 zz_15 zz_16 zz_17) 3 [(0, .ref (za 0)), (1, .int i1), (2, .int i2)] 30 [.int v2, .ref (za 0)] (fun H locs hP hD hS ls hl => ?_) (fun J2 => ?_)
  · obtain ⟨o3, ho3, h⟩ := sp_b h
    refine xk_ci (va_runV (As := [.int v2]) (rest := []) ⟨hx, hb, hml, hown, hts⟩ (c_X3_can l G za (zz_0, zz_1, zz_2, zz_3, zz_4, zz_5, zz_6, zz_7, zz_8, zz_9, zz_10, zz_11, zz_12, zz_13, zz_14, zz_15, zz_16, zz_17) v2 o3 ho3 H.size) (cwV 1 hts gX3_revisitDay_X3_can rfl rfl rfl (by decide +kernel) ⟨Nat.le_of_ble_eq_true rfl, Nat.le_of_ble_eq_true rfl⟩) (xk_preV hK hNE (hP.sub (ws' := (wMOc G za zz_0 zz_1 zz_2 zz_3 zz_4 zz_5 zz_6 zz_7 zz_8 zz_9 zz_10 zz_11 zz_12 zz_13 zz_14 zz_15 zz_16 zz_17)) [0, 1, 2, 3, 4, 5, 6, 7, 8, 9, 10, 11, 12, 13, 14, 15] rfl) (hD.sub (ws' := (wMOc G za zz_0 zz_1 zz_2 zz_3 zz_4 zz_5 zz_6 zz_7 zz_8 zz_9 zz_10 zz_11 zz_12 zz_13 zz_14 zz_15 zz_16 zz_17)) [0, 1, 2, 3, 4, 5, 6, 7, 8, 9, 10, 11, 12, 13, 14, 15] (by decide) rfl) (ci := 3) rfl rfl) rfl rfl hl.1 rfl (lv_room (Nat.le_of_ble_eq_true rfl)) dX3_revisitDay_30 ⟨Nat.le_of_ble_eq_true rfl, Nat.le_of_ble_eq_true rfl⟩) hP hD hS hA [0, 1, 2, 3, 4, 5, 6, 7, 8, 9, 10, 11, 12, 13, 14, 15] [] [0, 1, 2, 3, 4, 5, 6, 7, 8, 9, 10, 11, 12, 13, 14, 15] rfl rfl (by decide) (by decide) rfl (by decide) (fun H locs hP hD hS => ?_)
    have hP : va_P G.1 vwCl (wMOc G za zz_0 zz_1 zz_2 zz_3 zz_4 zz_5 zz_6 zz_7 zz_8 zz_9 zz_10 zz_11 zz_12 zz_13 zz_14 zz_15 zz_16 o3.2) H := hP
    have hD : va_D A (wMOc G za zz_0 zz_1 zz_2 zz_3 zz_4 zz_5 zz_6 zz_7 zz_8 zz_9 zz_10 zz_11 zz_12 zz_13 zz_14 zz_15 zz_16 o3.2) := hD
    refine lv_if_ne (tgt := 38) hx hb dX3_revisitDay_33 (by decide) (fun c4 => ?_) (fun c4 => ?_)
    · have h := sp_f c4 h
      refine lv_aload_n hx hb dX3_revisitDay_38 rfl (lv_at hl 0 rfl) ?_
      obtain ⟨o5, ho5, h⟩ := sp_b h
      refine xk_cv (va_runV (As := []) (rest := []) ⟨hx, hb, hml, hown, hts⟩ (c_X3_plans l G za (zz_0, zz_1, zz_2, zz_3, zz_4, zz_5, zz_6, zz_7, zz_8, zz_9, zz_10, zz_11, zz_12, zz_13, zz_14, zz_15, zz_16, o3.2) o5 ho5 H.size) (cwV 0 hts gX3_revisitDay_X3_plans rfl rfl rfl (by decide +kernel) ⟨Nat.le_of_ble_eq_true rfl, Nat.le_of_ble_eq_true rfl⟩) (xk_preV hK hNE (hP.sub (ws' := (wMOc G za zz_0 zz_1 zz_2 zz_3 zz_4 zz_5 zz_6 zz_7 zz_8 zz_9 zz_10 zz_11 zz_12 zz_13 zz_14 zz_15 zz_16 o3.2)) [0, 1, 2, 3, 4, 5, 6, 7, 8, 9, 10, 11, 12, 13, 14, 15] rfl) (hD.sub (ws' := (wMOc G za zz_0 zz_1 zz_2 zz_3 zz_4 zz_5 zz_6 zz_7 zz_8 zz_9 zz_10 zz_11 zz_12 zz_13 zz_14 zz_15 zz_16 o3.2)) [0, 1, 2, 3, 4, 5, 6, 7, 8, 9, 10, 11, 12, 13, 14, 15] (by decide) rfl) (ci := 3) rfl rfl) rfl rfl hl.1 rfl (lv_room (Nat.le_of_ble_eq_true rfl)) dX3_revisitDay_39 ⟨Nat.le_of_ble_eq_true rfl, Nat.le_of_ble_eq_true rfl⟩) hP hD hS hA [0, 1, 2, 3, 4, 5, 6, 7, 8, 9, 10, 11, 12, 13, 14, 15] [] [0, 1, 2, 3, 4, 5, 6, 7, 8, 9, 10, 11, 12, 13, 14, 15] rfl rfl (by decide) (by decide) rfl (by decide) (fun H locs hP hD hS => ?_)
      have hP : va_P G.1 vwCl (wMOc G za zz_0 zz_1 zz_2 zz_3 zz_4 zz_5 zz_6 zz_7 zz_8 o5.1 o5.2.1 o5.2.2.1 o5.2.2.2.1 o5.2.2.2.2.1 o5.2.2.2.2.2.1 zz_15 o5.2.2.2.2.2.2 o3.2) H := hP
      have hD : va_D A (wMOc G za zz_0 zz_1 zz_2 zz_3 zz_4 zz_5 zz_6 zz_7 zz_8 o5.1 o5.2.1 o5.2.2.1 o5.2.2.2.1 o5.2.2.2.2.1 o5.2.2.2.2.2.1 zz_15 o5.2.2.2.2.2.2 o3.2) := hD
      refine lv_aload_n hx hb dX3_revisitDay_42 rfl (lv_at hl 0 rfl) ?_
      refine va_get (D := G.1) (ci := 3) (v := .ref (za 12)) (C := RX3) (T := TX3) (N := 18) hx hb hts hinX3 hown hK hP 0 rfl rfl 12 (by decide) (hts (.fieldLink RX3 44 "LessonWeaveModel" "revisitOn" "[I") (by decide +kernel)) (fun _ h9 => h9) rfl dX3_revisitDay_43 ?_
      refine lv_iconst (v := (3 : Int32)) hx hb dX3_revisitDay_46 (by decide) ?_
      refine lv_iload_n hx hb dX3_revisitDay_47 rfl (lv_at hl 1 rfl) ?_
      refine lv_imul hx hb dX3_revisitDay_48 ?_
      refine lv_iload_n hx hb dX3_revisitDay_49 rfl (lv_at hl 2 rfl) ?_
      refine lv_iadd hx hb dX3_revisitDay_50 ?_
      obtain ⟨hin6, h⟩ := sp_g h
      refine va_iald hx hb hK hP 12 0 rfl rfl hin6 dX3_revisitDay_51 ?_
      obtain rfl := sp_s h
      exact xk_reI hx hb hr hlk hP hD hS rfl dX3_revisitDay_52
    · have h := sp_t c4 h
      refine lv_iconst (v := (0 : Int32)) hx hb dX3_revisitDay_36 (by decide) ?_
      obtain rfl := sp_s h
      exact xk_reI hx hb hr hlk hP hD hS rfl dX3_revisitDay_37
  · have h := hv2
    clear hv2
    refine lv_if_eq (tgt := 29) hx hb dX3_revisitDay_6 (by decide) (fun c7 => ?_) (fun c7 => ?_)
    · have h := sp_t c7 h
      refine lv_iconst (v := (1 : Int32)) hx hb dX3_revisitDay_29 (by decide) ?_
      obtain rfl := sp_s h
      exact J2 _ _ hP hD hS _ (lv_sub hl [0, 1, 2] rfl)
    · have h := sp_f c7 h
      refine lv_iload_n hx hb dX3_revisitDay_9 rfl (lv_at hl 2 rfl) ?_
      refine lv_iconst (v := (0 : Int32)) hx hb dX3_revisitDay_10 (by decide) ?_
      refine lv_aload_n hx hb dX3_revisitDay_11 rfl (lv_at hl 0 rfl) ?_
      refine va_get (D := G.1) (ci := 3) (v := .ref (za 6)) (C := RX3) (T := TX3) (N := 18) hx hb hts hinX3 hown hK hP 0 rfl rfl 6 (by decide) (hts (.fieldLink RX3 25 "LessonWeaveModel" "many" "[I") (by decide +kernel)) (fun _ h9 => h9) rfl dX3_revisitDay_12 ?_
      refine lv_iload_n hx hb dX3_revisitDay_15 rfl (lv_at hl 1 rfl) ?_
      obtain ⟨hin8, h⟩ := sp_g h
      refine va_iald hx hb hK hP 6 0 rfl rfl hin8 dX3_revisitDay_16 ?_
      refine lv_iconst (v := (1 : Int32)) hx hb dX3_revisitDay_17 (by decide) ?_
      refine lv_isub hx hb dX3_revisitDay_18 ?_
      obtain ⟨o9, ho9, h⟩ := sp_b h
      refine xk_ci (va_runS (As := [.int i2, .int (0 : Int32), .int ((zz_6 i1.toNatClampNeg) - (1 : Int32))]) (rest := [.ref (za 0)]) ⟨hx, hb, hml, hown, hts⟩ (c_X3_isIn l G i2 (0 : Int32) ((zz_6 i1.toNatClampNeg) - (1 : Int32)) o9 ho9 H.size) (va_cwS 3 hts gX3_revisitDay_X3_isIn rfl rfl rfl (by decide +kernel) ⟨Nat.le_of_ble_eq_true rfl, Nat.le_of_ble_eq_true rfl⟩) (xk_preS hK hNE (hP.sub (ws' := []) [] rfl) (hD.sub (ws' := []) [] (by decide) rfl)) rfl rfl hl.1 rfl (lv_room (Nat.le_of_ble_eq_true rfl)) dX3_revisitDay_19 ⟨Nat.le_of_ble_eq_true rfl, Nat.le_of_ble_eq_true rfl⟩) hP hD hS hA [] [0, 1, 2, 3, 4, 5, 6, 7, 8, 9, 10, 11, 12, 13, 14, 15] [0, 1, 2, 3, 4, 5, 6, 7, 8, 9, 10, 11, 12, 13, 14, 15] rfl rfl (by decide) (by decide) rfl (by decide) (fun H locs hP hD hS => ?_)
      have hP : va_P G.1 vwCl (wMOc G za zz_0 zz_1 zz_2 zz_3 zz_4 zz_5 zz_6 zz_7 zz_8 zz_9 zz_10 zz_11 zz_12 zz_13 zz_14 zz_15 zz_16 zz_17) H := hP
      have hD : va_D A (wMOc G za zz_0 zz_1 zz_2 zz_3 zz_4 zz_5 zz_6 zz_7 zz_8 zz_9 zz_10 zz_11 zz_12 zz_13 zz_14 zz_15 zz_16 zz_17) := hD
      refine lv_if_eq (tgt := 29) hx hb dX3_revisitDay_22 (by decide) (fun c10 => ?_) (fun c10 => ?_)
      · have h := sp_t c10 h
        refine lv_iconst (v := (1 : Int32)) hx hb dX3_revisitDay_29 (by decide) ?_
        obtain rfl := sp_s h
        exact J2 _ _ hP hD hS _ (lv_sub hl [0, 1, 2] rfl)
      · have h := sp_f c10 h
        refine lv_iconst (v := (0 : Int32)) hx hb dX3_revisitDay_25 (by decide) ?_
        refine lv_goto (tgt := 30) hx hb dX3_revisitDay_26 (by decide) ?_
        obtain rfl := sp_s h
        exact J2 _ _ hP hD hS _ (lv_sub hl [0, 1, 2] rfl)
def f_X3_laid_l13 (o1 : xF × xF × xF × xF × xF × xF × Int32) : Nat → Int32 → Int32 → Option (Int32)
  | 0, _, _ => none
  | k9 + 1, x2_2, x1_2 =>
    if (100 : Int32) ≤ x2_2 then
      some x1_2
    else
      if x2_2 < 0 ∨ 100 ≤ x2_2.toNatClampNeg then none else
      Option.bind (
        if (o1.2.1 x2_2.toNatClampNeg) = ((-1) : Int32) then
          some (0 : Int32)
        else
          some (1 : Int32)) fun (v6 : Int32) =>
      f_X3_laid_l13 o1 k9 (x2_2 + (1 : Int32)) (x1_2 + v6)
theorem f_X3_laid_l13_z (o1 : xF × xF × xF × xF × xF × xF × Int32) (x2_2 : Int32) (x1_2 : Int32) : f_X3_laid_l13 o1 0 x2_2 x1_2 = none := rfl
theorem f_X3_laid_l13_s (o1 : xF × xF × xF × xF × xF × xF × Int32) (k9 : Nat) (x2_2 : Int32) (x1_2 : Int32) : f_X3_laid_l13 o1 (k9 + 1) x2_2 x1_2 =
    if (100 : Int32) ≤ x2_2 then
      some x1_2
    else
      if x2_2 < 0 ∨ 100 ≤ x2_2.toNatClampNeg then none else
      Option.bind (
        if (o1.2.1 x2_2.toNatClampNeg) = ((-1) : Int32) then
          some (0 : Int32)
        else
          some (1 : Int32)) fun (v6 : Int32) =>
      f_X3_laid_l13 o1 k9 (x2_2 + (1 : Int32)) (x1_2 + v6) := rfl
def f_X3_laid (zz : xMO) : Option (Int32 × xF × xF × xF × xF × xF × xF × Int32 × Int32) :=
  Option.bind (f_X3_plans (zz.1, zz.2.1, zz.2.2.1, zz.2.2.2.1, zz.2.2.2.2.1, zz.2.2.2.2.2.1, zz.2.2.2.2.2.2.1, zz.2.2.2.2.2.2.2.1, zz.2.2.2.2.2.2.2.2.1, zz.2.2.2.2.2.2.2.2.2.1, zz.2.2.2.2.2.2.2.2.2.2.1, zz.2.2.2.2.2.2.2.2.2.2.2.1, zz.2.2.2.2.2.2.2.2.2.2.2.2.1, zz.2.2.2.2.2.2.2.2.2.2.2.2.2.1, zz.2.2.2.2.2.2.2.2.2.2.2.2.2.2.1, zz.2.2.2.2.2.2.2.2.2.2.2.2.2.2.2.1, zz.2.2.2.2.2.2.2.2.2.2.2.2.2.2.2.2.1, (0 : Int32))) fun (o1 : xF × xF × xF × xF × xF × xF × Int32) =>
  Option.bind (f_X3_laid_l13 o1 300 (0 : Int32) (0 : Int32)) fun (w3 : Int32) =>
  some (w3, o1.1, o1.2.1, o1.2.2.1, o1.2.2.2.1, o1.2.2.2.2.1, o1.2.2.2.2.2.1, o1.2.2.2.2.2.2, (0 : Int32))
theorem f_X3_laid_e (zz_0 : Int32) (zz_1 : xF) (zz_2 : xF) (zz_3 : xF) (zz_4 : xF) (zz_5 : xF) (zz_6 : xF) (zz_7 : xF) (zz_8 : xF) (zz_9 : xF) (zz_10 : xF) (zz_11 : xF) (zz_12 : xF) (zz_13 : xF) (zz_14 : xF) (zz_15 : xF) (zz_16 : Int32) (zz_17 : Int32) : f_X3_laid (zz_0, zz_1, zz_2, zz_3, zz_4, zz_5, zz_6, zz_7, zz_8, zz_9, zz_10, zz_11, zz_12, zz_13, zz_14, zz_15, zz_16, zz_17) =
  Option.bind (f_X3_plans (zz_0, zz_1, zz_2, zz_3, zz_4, zz_5, zz_6, zz_7, zz_8, zz_9, zz_10, zz_11, zz_12, zz_13, zz_14, zz_15, zz_16, (0 : Int32))) fun (o1 : xF × xF × xF × xF × xF × xF × Int32) =>
  Option.bind (f_X3_laid_l13 o1 300 (0 : Int32) (0 : Int32)) fun (w3 : Int32) =>
  some (w3, o1.1, o1.2.1, o1.2.2.1, o1.2.2.2.1, o1.2.2.2.2.1, o1.2.2.2.2.2.1, o1.2.2.2.2.2.2, (0 : Int32)) := rfl
set_option maxHeartbeats 4000000 in
set_option maxRecDepth 100000 in
theorem c_X3_laid (l : Launch) (G : xG) (za : (Nat → Nat)) (zz : xMO) (o : Int32 × xF × xF × xF × xF × xF × xF × Int32 × Int32) (h : f_X3_laid zz = some o) : xk_CI l yX3_laid wsX3_laid ({ frames := 4, cells := 0, slots := 0, locals := 90 } : Room) 0 0 [.ref (za 0)] G (wMOc G za zz.1 zz.2.1 zz.2.2.1 zz.2.2.2.1 zz.2.2.2.2.1 zz.2.2.2.2.2.1 zz.2.2.2.2.2.2.1 zz.2.2.2.2.2.2.2.1 zz.2.2.2.2.2.2.2.2.1 zz.2.2.2.2.2.2.2.2.2.1 zz.2.2.2.2.2.2.2.2.2.2.1 zz.2.2.2.2.2.2.2.2.2.2.2.1 zz.2.2.2.2.2.2.2.2.2.2.2.2.1 zz.2.2.2.2.2.2.2.2.2.2.2.2.2.1 zz.2.2.2.2.2.2.2.2.2.2.2.2.2.2.1 zz.2.2.2.2.2.2.2.2.2.2.2.2.2.2.2.1 zz.2.2.2.2.2.2.2.2.2.2.2.2.2.2.2.2.1 zz.2.2.2.2.2.2.2.2.2.2.2.2.2.2.2.2.2) (wMOc G za zz.1 zz.2.1 zz.2.2.1 zz.2.2.2.1 zz.2.2.2.2.1 zz.2.2.2.2.2.1 zz.2.2.2.2.2.2.1 zz.2.2.2.2.2.2.2.1 zz.2.2.2.2.2.2.2.2.1 o.2.1 o.2.2.1 o.2.2.2.1 o.2.2.2.2.1 o.2.2.2.2.2.1 o.2.2.2.2.2.2.1 zz.2.2.2.2.2.2.2.2.2.2.2.2.2.2.2.1 o.2.2.2.2.2.2.2.1 o.2.2.2.2.2.2.2.2) o.1 := by
  obtain ⟨zz_0, zz_1, zz_2, zz_3, zz_4, zz_5, zz_6, zz_7, zz_8, zz_9, zz_10, zz_11, zz_12, zz_13, zz_14, zz_15, zz_16, zz_17⟩ := zz
  refine xk_CI.of (cc := cX3_laid) (maxL := 3) (ret := (some .int)) (by decide) rfl (Nat.le_of_ble_eq_true rfl) ?_
  intro pr9 en9 s mm9 bl9 meth9 cd9 A ls H locs hx hb hr hml hts hown hlk hA hP hK hD hNE hS hl
  have hown : s.vm.findClass RX3 = some mm9.cls := hown
  have hl : lv_has ls 3 [(0, .ref (za 0))] := hl
  have hinX3 : ∀ w ∈ u_ws RX3 TX3 18, w ∈ wsX3_laid := by decide +kernel
  have hP : va_P G.1 vwCl (wMOc G za zz_0 zz_1 zz_2 zz_3 zz_4 zz_5 zz_6 zz_7 zz_8 zz_9 zz_10 zz_11 zz_12 zz_13 zz_14 zz_15 zz_16 zz_17) H := hP
  have hD : va_D A (wMOc G za zz_0 zz_1 zz_2 zz_3 zz_4 zz_5 zz_6 zz_7 zz_8 zz_9 zz_10 zz_11 zz_12 zz_13 zz_14 zz_15 zz_16 zz_17) := hD
  have h := (f_X3_laid_e zz_0 zz_1 zz_2 zz_3 zz_4 zz_5 zz_6 zz_7 zz_8 zz_9 zz_10 zz_11 zz_12 zz_13 zz_14 zz_15 zz_16 zz_17).symm.trans h
  refine lv_aload_n hx hb dX3_laid_0 rfl (lv_at hl 0 rfl) ?_
  refine lv_iconst (v := (0 : Int32)) hx hb dX3_laid_1 (by decide) ?_
  refine va_put (D := G.1) (ci := 3) (v := .int (0 : Int32)) (ty := .int) (C := RX3) (T := TX3) (N := 18) hx hb hts hinX3 tyX3 tyX3_ok nmX3 hown hK hP hD hS 0 rfl rfl 17 (by decide) (hts (.fieldLink RX3 56 "LessonWeaveModel" "thrown" "I") (by decide +kernel)) (fun _ h9 => h9) rfl (by decide +kernel) rfl rfl (Nat.le_of_ble_eq_true rfl) dX3_laid_2 (fun H locs hP hD hS => ?_)
  have hP : va_P G.1 vwCl (wMOc G za zz_0 zz_1 zz_2 zz_3 zz_4 zz_5 zz_6 zz_7 zz_8 zz_9 zz_10 zz_11 zz_12 zz_13 zz_14 zz_15 zz_16 (0 : Int32)) H := hP
  have hD : va_D A (wMOc G za zz_0 zz_1 zz_2 zz_3 zz_4 zz_5 zz_6 zz_7 zz_8 zz_9 zz_10 zz_11 zz_12 zz_13 zz_14 zz_15 zz_16 (0 : Int32)) := hD
  refine lv_aload_n hx hb dX3_laid_5 rfl (lv_at hl 0 rfl) ?_
  obtain ⟨o1, ho1, h⟩ := sp_b h
  refine xk_cv (va_runV (As := []) (rest := []) ⟨hx, hb, hml, hown, hts⟩ (c_X3_plans l G za (zz_0, zz_1, zz_2, zz_3, zz_4, zz_5, zz_6, zz_7, zz_8, zz_9, zz_10, zz_11, zz_12, zz_13, zz_14, zz_15, zz_16, (0 : Int32)) o1 ho1 H.size) (cwV 0 hts gX3_laid_X3_plans rfl rfl rfl (by decide +kernel) ⟨Nat.le_of_ble_eq_true rfl, Nat.le_of_ble_eq_true rfl⟩) (xk_preV hK hNE (hP.sub (ws' := (wMOc G za zz_0 zz_1 zz_2 zz_3 zz_4 zz_5 zz_6 zz_7 zz_8 zz_9 zz_10 zz_11 zz_12 zz_13 zz_14 zz_15 zz_16 (0 : Int32))) [0, 1, 2, 3, 4, 5, 6, 7, 8, 9, 10, 11, 12, 13, 14, 15] rfl) (hD.sub (ws' := (wMOc G za zz_0 zz_1 zz_2 zz_3 zz_4 zz_5 zz_6 zz_7 zz_8 zz_9 zz_10 zz_11 zz_12 zz_13 zz_14 zz_15 zz_16 (0 : Int32))) [0, 1, 2, 3, 4, 5, 6, 7, 8, 9, 10, 11, 12, 13, 14, 15] (by decide) rfl) (ci := 3) rfl rfl) rfl rfl hl.1 rfl (lv_room (Nat.le_of_ble_eq_true rfl)) dX3_laid_6 ⟨Nat.le_of_ble_eq_true rfl, Nat.le_of_ble_eq_true rfl⟩) hP hD hS hA [0, 1, 2, 3, 4, 5, 6, 7, 8, 9, 10, 11, 12, 13, 14, 15] [] [0, 1, 2, 3, 4, 5, 6, 7, 8, 9, 10, 11, 12, 13, 14, 15] rfl rfl (by decide) (by decide) rfl (by decide) (fun H locs hP hD hS => ?_)
  have hP : va_P G.1 vwCl (wMOc G za zz_0 zz_1 zz_2 zz_3 zz_4 zz_5 zz_6 zz_7 zz_8 o1.1 o1.2.1 o1.2.2.1 o1.2.2.2.1 o1.2.2.2.2.1 o1.2.2.2.2.2.1 zz_15 o1.2.2.2.2.2.2 (0 : Int32)) H := hP
  have hD : va_D A (wMOc G za zz_0 zz_1 zz_2 zz_3 zz_4 zz_5 zz_6 zz_7 zz_8 o1.1 o1.2.1 o1.2.2.1 o1.2.2.2.1 o1.2.2.2.2.1 o1.2.2.2.2.2.1 zz_15 o1.2.2.2.2.2.2 (0 : Int32)) := hD
  refine lv_iconst (v := (0 : Int32)) hx hb dX3_laid_9 (by decide) ?_
  refine lv_istore_n (lv' := [(1, .int (0 : Int32)), (0, .ref (za 0))]) hx hb dX3_laid_10 rfl hl (by decide) rfl (fun ls hl => ?_)
  refine lv_iconst (v := (0 : Int32)) hx hb dX3_laid_11 (by decide) ?_
  refine lv_istore_n (lv' := [(2, .int (0 : Int32)), (1, .int (0 : Int32)), (0, .ref (za 0))]) hx hb dX3_laid_12 rfl hl (by decide) rfl (fun ls hl => ?_)
  obtain ⟨w3, hw3, h⟩ := sp_b h
  refine xk_jn G A s.heap (wMOc G za zz_0 zz_1 zz_2 zz_3 zz_4 zz_5 zz_6 zz_7 zz_8 o1.1 o1.2.1 o1.2.2.1 o1.2.2.2.1 o1.2.2.2.2.1 o1.2.2.2.2.2.1 zz_15 o1.2.2.2.2.2.2 (0 : Int32)) 3 [(1, .int w3)] 43 [] (fun H locs hP hD hS ls hl => ?_) (fun J2 => ?_)
  · refine lv_iload_n hx hb dX3_laid_43 rfl (lv_at hl 0 rfl) ?_
    obtain rfl := sp_s h
    exact xk_reI hx hb hr hlk hP hD hS rfl dX3_laid_44
  · have h := hw3
    clear hw3
    refine xk_lp (α := Int32 × Int32) G A s.heap (fun a_2 => (wMOc G za zz_0 zz_1 zz_2 zz_3 zz_4 zz_5 zz_6 zz_7 zz_8 o1.1 o1.2.1 o1.2.2.1 o1.2.2.2.1 o1.2.2.2.2.1 o1.2.2.2.2.2.1 zz_15 o1.2.2.2.2.2.2 (0 : Int32))) 3 (fun a_2 => [(2, .int a_2.1), (1, .int a_2.2), (0, .ref (za 0))]) 13 (fun n a_2 => f_X3_laid_l13 o1 n a_2.1 a_2.2 = some w3) (fun a_2 h => ?_) (fun n ih_2 a_2 h H locs hP hD hS ls hl => ?_) (fun LL => ?_)
    · exact sp_n ((f_X3_laid_l13_z _ _ _).symm.trans h)
    · obtain ⟨x2_2, x1_2⟩ := a_2
      have h := (f_X3_laid_l13_s o1 n x2_2 x1_2).symm.trans h
      have hP : va_P G.1 vwCl (wMOc G za zz_0 zz_1 zz_2 zz_3 zz_4 zz_5 zz_6 zz_7 zz_8 o1.1 o1.2.1 o1.2.2.1 o1.2.2.2.1 o1.2.2.2.2.1 o1.2.2.2.2.2.1 zz_15 o1.2.2.2.2.2.2 (0 : Int32)) H := hP
      have hD : va_D A (wMOc G za zz_0 zz_1 zz_2 zz_3 zz_4 zz_5 zz_6 zz_7 zz_8 o1.1 o1.2.1 o1.2.2.1 o1.2.2.2.1 o1.2.2.2.2.1 o1.2.2.2.2.2.1 zz_15 o1.2.2.2.2.2.2 (0 : Int32)) := hD
      have hl : lv_has ls 3 [(2, .int x2_2), (1, .int x1_2), (0, .ref (za 0))] := hl
      refine lv_iload_n hx hb dX3_laid_13 rfl (lv_at hl 0 rfl) ?_
      refine lv_bipush (v := (100 : Int32)) hx hb dX3_laid_14 (by decide) ?_
      refine lv_icmp_ge (tgt := 43) hx hb dX3_laid_16 (by decide) (fun c4 => ?_) (fun c4 => ?_)
      · have h := sp_t c4 h
        obtain rfl := sp_s h
        exact J2 _ _ hP hD hS _ (lv_sub hl [1] rfl)
      · have h := sp_f c4 h
        refine lv_iload_n hx hb dX3_laid_19 rfl (lv_at hl 1 rfl) ?_
        refine lv_aload_n hx hb dX3_laid_20 rfl (lv_at hl 2 rfl) ?_
        refine va_get (D := G.1) (ci := 3) (v := .ref (za 10)) (C := RX3) (T := TX3) (N := 18) hx hb hts hinX3 hown hK hP 0 rfl rfl 10 (by decide) (hts (.fieldLink RX3 38 "LessonWeaveModel" "things" "[I") (by decide +kernel)) (fun _ h9 => h9) rfl dX3_laid_21 ?_
        refine lv_iload_n hx hb dX3_laid_24 rfl (lv_at hl 0 rfl) ?_
        obtain ⟨hin5, h⟩ := sp_g h
        refine va_iald hx hb hK hP 10 0 rfl rfl hin5 dX3_laid_25 ?_
        refine lv_iconst (v := ((-1) : Int32)) hx hb dX3_laid_26 (by decide) ?_
        obtain ⟨v6, hv6, h⟩ := sp_b h
        refine xk_jn G A s.heap (wMOc G za zz_0 zz_1 zz_2 zz_3 zz_4 zz_5 zz_6 zz_7 zz_8 o1.1 o1.2.1 o1.2.2.1 o1.2.2.2.1 o1.2.2.2.2.1 o1.2.2.2.2.2.1 zz_15 o1.2.2.2.2.2.2 (0 : Int32)) 3 [(2, .int x2_2), (0, .ref (za 0))] 35 [.int v6, .int x1_2] (fun H locs hP hD hS ls hl => ?_) (fun J6 => ?_)
        · refine lv_iadd hx hb dX3_laid_35 ?_
          refine lv_istore_n (lv' := [(1, .int (x1_2 + v6)), (2, .int x2_2), (0, .ref (za 0))]) hx hb dX3_laid_36 rfl hl (by decide) rfl (fun ls hl => ?_)
          refine lv_iinc (v := (x2_2 + (1 : Int32))) (lv' := [(2, .int (x2_2 + (1 : Int32))), (1, .int (x1_2 + v6)), (0, .ref (za 0))]) hx hb dX3_laid_37 hl (k := 1) rfl rfl (by decide) rfl (fun ls hl => ?_)
          refine lv_goto (tgt := 13) hx hb dX3_laid_40 (by decide) ?_
          exact ih_2 ((x2_2 + (1 : Int32)), (x1_2 + v6)) h _ _ hP hD hS _ (lv_sub hl [0, 1, 2] rfl)
        · have h := hv6
          clear hv6
          refine lv_icmp_ne (tgt := 34) hx hb dX3_laid_27 (by decide) (fun c7 => ?_) (fun c7 => ?_)
          · have h := sp_f c7 h
            refine lv_iconst (v := (1 : Int32)) hx hb dX3_laid_34 (by decide) ?_
            obtain rfl := sp_s h
            exact J6 _ _ hP hD hS _ (lv_sub hl [0, 2] rfl)
          · have h := sp_t c7 h
            refine lv_iconst (v := (0 : Int32)) hx hb dX3_laid_30 (by decide) ?_
            refine lv_goto (tgt := 35) hx hb dX3_laid_31 (by decide) ?_
            obtain rfl := sp_s h
            exact J6 _ _ hP hD hS _ (lv_sub hl [0, 2] rfl)
    · exact LL 300 ((0 : Int32), (0 : Int32)) h _ _ hP hD hS _ (lv_sub hl [0, 1, 2] rfl)
def f_X3_late (zz : xMO) : Option (Int32 × xF × xF × xF × xF × xF × xF × Int32 × Int32) :=
  Option.bind (f_X3_plans (zz.1, zz.2.1, zz.2.2.1, zz.2.2.2.1, zz.2.2.2.2.1, zz.2.2.2.2.2.1, zz.2.2.2.2.2.2.1, zz.2.2.2.2.2.2.2.1, zz.2.2.2.2.2.2.2.2.1, zz.2.2.2.2.2.2.2.2.2.1, zz.2.2.2.2.2.2.2.2.2.2.1, zz.2.2.2.2.2.2.2.2.2.2.2.1, zz.2.2.2.2.2.2.2.2.2.2.2.2.1, zz.2.2.2.2.2.2.2.2.2.2.2.2.2.1, zz.2.2.2.2.2.2.2.2.2.2.2.2.2.2.1, zz.2.2.2.2.2.2.2.2.2.2.2.2.2.2.2.1, zz.2.2.2.2.2.2.2.2.2.2.2.2.2.2.2.2.1, (0 : Int32))) fun (o1 : xF × xF × xF × xF × xF × xF × Int32) =>
  some (o1.2.2.2.2.2.2, o1.1, o1.2.1, o1.2.2.1, o1.2.2.2.1, o1.2.2.2.2.1, o1.2.2.2.2.2.1, o1.2.2.2.2.2.2, (0 : Int32))
theorem f_X3_late_e (zz_0 : Int32) (zz_1 : xF) (zz_2 : xF) (zz_3 : xF) (zz_4 : xF) (zz_5 : xF) (zz_6 : xF) (zz_7 : xF) (zz_8 : xF) (zz_9 : xF) (zz_10 : xF) (zz_11 : xF) (zz_12 : xF) (zz_13 : xF) (zz_14 : xF) (zz_15 : xF) (zz_16 : Int32) (zz_17 : Int32) : f_X3_late (zz_0, zz_1, zz_2, zz_3, zz_4, zz_5, zz_6, zz_7, zz_8, zz_9, zz_10, zz_11, zz_12, zz_13, zz_14, zz_15, zz_16, zz_17) =
  Option.bind (f_X3_plans (zz_0, zz_1, zz_2, zz_3, zz_4, zz_5, zz_6, zz_7, zz_8, zz_9, zz_10, zz_11, zz_12, zz_13, zz_14, zz_15, zz_16, (0 : Int32))) fun (o1 : xF × xF × xF × xF × xF × xF × Int32) =>
  some (o1.2.2.2.2.2.2, o1.1, o1.2.1, o1.2.2.1, o1.2.2.2.1, o1.2.2.2.2.1, o1.2.2.2.2.2.1, o1.2.2.2.2.2.2, (0 : Int32)) := rfl
set_option maxHeartbeats 4000000 in
set_option maxRecDepth 100000 in
theorem c_X3_late (l : Launch) (G : xG) (za : (Nat → Nat)) (zz : xMO) (o : Int32 × xF × xF × xF × xF × xF × xF × Int32 × Int32) (h : f_X3_late zz = some o) : xk_CI l yX3_late wsX3_late ({ frames := 4, cells := 0, slots := 0, locals := 90 } : Room) 0 0 [.ref (za 0)] G (wMOc G za zz.1 zz.2.1 zz.2.2.1 zz.2.2.2.1 zz.2.2.2.2.1 zz.2.2.2.2.2.1 zz.2.2.2.2.2.2.1 zz.2.2.2.2.2.2.2.1 zz.2.2.2.2.2.2.2.2.1 zz.2.2.2.2.2.2.2.2.2.1 zz.2.2.2.2.2.2.2.2.2.2.1 zz.2.2.2.2.2.2.2.2.2.2.2.1 zz.2.2.2.2.2.2.2.2.2.2.2.2.1 zz.2.2.2.2.2.2.2.2.2.2.2.2.2.1 zz.2.2.2.2.2.2.2.2.2.2.2.2.2.2.1 zz.2.2.2.2.2.2.2.2.2.2.2.2.2.2.2.1 zz.2.2.2.2.2.2.2.2.2.2.2.2.2.2.2.2.1 zz.2.2.2.2.2.2.2.2.2.2.2.2.2.2.2.2.2) (wMOc G za zz.1 zz.2.1 zz.2.2.1 zz.2.2.2.1 zz.2.2.2.2.1 zz.2.2.2.2.2.1 zz.2.2.2.2.2.2.1 zz.2.2.2.2.2.2.2.1 zz.2.2.2.2.2.2.2.2.1 o.2.1 o.2.2.1 o.2.2.2.1 o.2.2.2.2.1 o.2.2.2.2.2.1 o.2.2.2.2.2.2.1 zz.2.2.2.2.2.2.2.2.2.2.2.2.2.2.2.1 o.2.2.2.2.2.2.2.1 o.2.2.2.2.2.2.2.2) o.1 := by
  obtain ⟨zz_0, zz_1, zz_2, zz_3, zz_4, zz_5, zz_6, zz_7, zz_8, zz_9, zz_10, zz_11, zz_12, zz_13, zz_14, zz_15, zz_16, zz_17⟩ := zz
  refine xk_CI.of (cc := cX3_late) (maxL := 1) (ret := (some .int)) (by decide) rfl (Nat.le_of_ble_eq_true rfl) ?_
  intro pr9 en9 s mm9 bl9 meth9 cd9 A ls H locs hx hb hr hml hts hown hlk hA hP hK hD hNE hS hl
  have hown : s.vm.findClass RX3 = some mm9.cls := hown
  have hl : lv_has ls 1 [(0, .ref (za 0))] := hl
  have hinX3 : ∀ w ∈ u_ws RX3 TX3 18, w ∈ wsX3_late := by decide +kernel
  have hP : va_P G.1 vwCl (wMOc G za zz_0 zz_1 zz_2 zz_3 zz_4 zz_5 zz_6 zz_7 zz_8 zz_9 zz_10 zz_11 zz_12 zz_13 zz_14 zz_15 zz_16 zz_17) H := hP
  have hD : va_D A (wMOc G za zz_0 zz_1 zz_2 zz_3 zz_4 zz_5 zz_6 zz_7 zz_8 zz_9 zz_10 zz_11 zz_12 zz_13 zz_14 zz_15 zz_16 zz_17) := hD
  have h := (f_X3_late_e zz_0 zz_1 zz_2 zz_3 zz_4 zz_5 zz_6 zz_7 zz_8 zz_9 zz_10 zz_11 zz_12 zz_13 zz_14 zz_15 zz_16 zz_17).symm.trans h
  refine lv_aload_n hx hb dX3_late_0 rfl (lv_at hl 0 rfl) ?_
  refine lv_iconst (v := (0 : Int32)) hx hb dX3_late_1 (by decide) ?_
  refine va_put (D := G.1) (ci := 3) (v := .int (0 : Int32)) (ty := .int) (C := RX3) (T := TX3) (N := 18) hx hb hts hinX3 tyX3 tyX3_ok nmX3 hown hK hP hD hS 0 rfl rfl 17 (by decide) (hts (.fieldLink RX3 56 "LessonWeaveModel" "thrown" "I") (by decide +kernel)) (fun _ h9 => h9) rfl (by decide +kernel) rfl rfl (Nat.le_of_ble_eq_true rfl) dX3_late_2 (fun H locs hP hD hS => ?_)
  have hP : va_P G.1 vwCl (wMOc G za zz_0 zz_1 zz_2 zz_3 zz_4 zz_5 zz_6 zz_7 zz_8 zz_9 zz_10 zz_11 zz_12 zz_13 zz_14 zz_15 zz_16 (0 : Int32)) H := hP
  have hD : va_D A (wMOc G za zz_0 zz_1 zz_2 zz_3 zz_4 zz_5 zz_6 zz_7 zz_8 zz_9 zz_10 zz_11 zz_12 zz_13 zz_14 zz_15 zz_16 (0 : Int32)) := hD
  refine lv_aload_n hx hb dX3_late_5 rfl (lv_at hl 0 rfl) ?_
  obtain ⟨o1, ho1, h⟩ := sp_b h
  refine xk_cv (va_runV (As := []) (rest := []) ⟨hx, hb, hml, hown, hts⟩ (c_X3_plans l G za (zz_0, zz_1, zz_2, zz_3, zz_4, zz_5, zz_6, zz_7, zz_8, zz_9, zz_10, zz_11, zz_12, zz_13, zz_14, zz_15, zz_16, (0 : Int32)) o1 ho1 H.size) (cwV 0 hts gX3_late_X3_plans rfl rfl rfl (by decide +kernel) ⟨Nat.le_of_ble_eq_true rfl, Nat.le_of_ble_eq_true rfl⟩) (xk_preV hK hNE (hP.sub (ws' := (wMOc G za zz_0 zz_1 zz_2 zz_3 zz_4 zz_5 zz_6 zz_7 zz_8 zz_9 zz_10 zz_11 zz_12 zz_13 zz_14 zz_15 zz_16 (0 : Int32))) [0, 1, 2, 3, 4, 5, 6, 7, 8, 9, 10, 11, 12, 13, 14, 15] rfl) (hD.sub (ws' := (wMOc G za zz_0 zz_1 zz_2 zz_3 zz_4 zz_5 zz_6 zz_7 zz_8 zz_9 zz_10 zz_11 zz_12 zz_13 zz_14 zz_15 zz_16 (0 : Int32))) [0, 1, 2, 3, 4, 5, 6, 7, 8, 9, 10, 11, 12, 13, 14, 15] (by decide) rfl) (ci := 3) rfl rfl) rfl rfl hl.1 rfl (lv_room (Nat.le_of_ble_eq_true rfl)) dX3_late_6 ⟨Nat.le_of_ble_eq_true rfl, Nat.le_of_ble_eq_true rfl⟩) hP hD hS hA [0, 1, 2, 3, 4, 5, 6, 7, 8, 9, 10, 11, 12, 13, 14, 15] [] [0, 1, 2, 3, 4, 5, 6, 7, 8, 9, 10, 11, 12, 13, 14, 15] rfl rfl (by decide) (by decide) rfl (by decide) (fun H locs hP hD hS => ?_)
  have hP : va_P G.1 vwCl (wMOc G za zz_0 zz_1 zz_2 zz_3 zz_4 zz_5 zz_6 zz_7 zz_8 o1.1 o1.2.1 o1.2.2.1 o1.2.2.2.1 o1.2.2.2.2.1 o1.2.2.2.2.2.1 zz_15 o1.2.2.2.2.2.2 (0 : Int32)) H := hP
  have hD : va_D A (wMOc G za zz_0 zz_1 zz_2 zz_3 zz_4 zz_5 zz_6 zz_7 zz_8 o1.1 o1.2.1 o1.2.2.1 o1.2.2.2.1 o1.2.2.2.2.1 o1.2.2.2.2.2.1 zz_15 o1.2.2.2.2.2.2 (0 : Int32)) := hD
  refine lv_aload_n hx hb dX3_late_9 rfl (lv_at hl 0 rfl) ?_
  refine va_get (D := G.1) (ci := 3) (v := .int o1.2.2.2.2.2.2) (C := RX3) (T := TX3) (N := 18) hx hb hts hinX3 hown hK hP 0 rfl rfl 16 (by decide) (hts (.fieldLink RX3 94 "LessonWeaveModel" "late" "I") (by decide +kernel)) (fun _ h9 => h9) rfl dX3_late_10 ?_
  obtain rfl := sp_s h
  exact xk_reI hx hb hr hlk hP hD hS rfl dX3_late_13
def f_X3_lastDay_l13 (o1 : xF × xF × xF × xF × xF × xF × Int32) : Nat → Int32 → Int32 → Option (Int32)
  | 0, _, _ => none
  | k9 + 1, x2_2, x1_2 =>
    if (100 : Int32) ≤ x2_2 then
      some x1_2
    else
      if x2_2 < 0 ∨ 100 ≤ x2_2.toNatClampNeg then none else
      if (o1.2.1 x2_2.toNatClampNeg) = ((-1) : Int32) then
        f_X3_lastDay_l13 o1 k9 (x2_2 + (1 : Int32)) x1_2
      else
        f_X3_lastDay_l13 o1 k9 (x2_2 + (1 : Int32)) x2_2
theorem f_X3_lastDay_l13_z (o1 : xF × xF × xF × xF × xF × xF × Int32) (x2_2 : Int32) (x1_2 : Int32) : f_X3_lastDay_l13 o1 0 x2_2 x1_2 = none := rfl
theorem f_X3_lastDay_l13_s (o1 : xF × xF × xF × xF × xF × xF × Int32) (k9 : Nat) (x2_2 : Int32) (x1_2 : Int32) : f_X3_lastDay_l13 o1 (k9 + 1) x2_2 x1_2 =
    if (100 : Int32) ≤ x2_2 then
      some x1_2
    else
      if x2_2 < 0 ∨ 100 ≤ x2_2.toNatClampNeg then none else
      if (o1.2.1 x2_2.toNatClampNeg) = ((-1) : Int32) then
        f_X3_lastDay_l13 o1 k9 (x2_2 + (1 : Int32)) x1_2
      else
        f_X3_lastDay_l13 o1 k9 (x2_2 + (1 : Int32)) x2_2 := rfl
def f_X3_lastDay (zz : xMO) : Option (Int32 × xF × xF × xF × xF × xF × xF × Int32 × Int32) :=
  Option.bind (f_X3_plans (zz.1, zz.2.1, zz.2.2.1, zz.2.2.2.1, zz.2.2.2.2.1, zz.2.2.2.2.2.1, zz.2.2.2.2.2.2.1, zz.2.2.2.2.2.2.2.1, zz.2.2.2.2.2.2.2.2.1, zz.2.2.2.2.2.2.2.2.2.1, zz.2.2.2.2.2.2.2.2.2.2.1, zz.2.2.2.2.2.2.2.2.2.2.2.1, zz.2.2.2.2.2.2.2.2.2.2.2.2.1, zz.2.2.2.2.2.2.2.2.2.2.2.2.2.1, zz.2.2.2.2.2.2.2.2.2.2.2.2.2.2.1, zz.2.2.2.2.2.2.2.2.2.2.2.2.2.2.2.1, zz.2.2.2.2.2.2.2.2.2.2.2.2.2.2.2.2.1, (0 : Int32))) fun (o1 : xF × xF × xF × xF × xF × xF × Int32) =>
  Option.bind (f_X3_lastDay_l13 o1 300 (0 : Int32) ((-1) : Int32)) fun (w3 : Int32) =>
  some (w3, o1.1, o1.2.1, o1.2.2.1, o1.2.2.2.1, o1.2.2.2.2.1, o1.2.2.2.2.2.1, o1.2.2.2.2.2.2, (0 : Int32))
theorem f_X3_lastDay_e (zz_0 : Int32) (zz_1 : xF) (zz_2 : xF) (zz_3 : xF) (zz_4 : xF) (zz_5 : xF) (zz_6 : xF) (zz_7 : xF) (zz_8 : xF) (zz_9 : xF) (zz_10 : xF) (zz_11 : xF) (zz_12 : xF) (zz_13 : xF) (zz_14 : xF) (zz_15 : xF) (zz_16 : Int32) (zz_17 : Int32) : f_X3_lastDay (zz_0, zz_1, zz_2, zz_3, zz_4, zz_5, zz_6, zz_7, zz_8, zz_9, zz_10, zz_11, zz_12, zz_13, zz_14, zz_15, zz_16, zz_17) =
  Option.bind (f_X3_plans (zz_0, zz_1, zz_2, zz_3, zz_4, zz_5, zz_6, zz_7, zz_8, zz_9, zz_10, zz_11, zz_12, zz_13, zz_14, zz_15, zz_16, (0 : Int32))) fun (o1 : xF × xF × xF × xF × xF × xF × Int32) =>
  Option.bind (f_X3_lastDay_l13 o1 300 (0 : Int32) ((-1) : Int32)) fun (w3 : Int32) =>
  some (w3, o1.1, o1.2.1, o1.2.2.1, o1.2.2.2.1, o1.2.2.2.2.1, o1.2.2.2.2.2.1, o1.2.2.2.2.2.2, (0 : Int32)) := rfl
set_option maxHeartbeats 4000000 in
set_option maxRecDepth 100000 in
theorem c_X3_lastDay (l : Launch) (G : xG) (za : (Nat → Nat)) (zz : xMO) (o : Int32 × xF × xF × xF × xF × xF × xF × Int32 × Int32) (h : f_X3_lastDay zz = some o) : xk_CI l yX3_lastDay wsX3_lastDay ({ frames := 4, cells := 0, slots := 0, locals := 90 } : Room) 0 0 [.ref (za 0)] G (wMOc G za zz.1 zz.2.1 zz.2.2.1 zz.2.2.2.1 zz.2.2.2.2.1 zz.2.2.2.2.2.1 zz.2.2.2.2.2.2.1 zz.2.2.2.2.2.2.2.1 zz.2.2.2.2.2.2.2.2.1 zz.2.2.2.2.2.2.2.2.2.1 zz.2.2.2.2.2.2.2.2.2.2.1 zz.2.2.2.2.2.2.2.2.2.2.2.1 zz.2.2.2.2.2.2.2.2.2.2.2.2.1 zz.2.2.2.2.2.2.2.2.2.2.2.2.2.1 zz.2.2.2.2.2.2.2.2.2.2.2.2.2.2.1 zz.2.2.2.2.2.2.2.2.2.2.2.2.2.2.2.1 zz.2.2.2.2.2.2.2.2.2.2.2.2.2.2.2.2.1 zz.2.2.2.2.2.2.2.2.2.2.2.2.2.2.2.2.2) (wMOc G za zz.1 zz.2.1 zz.2.2.1 zz.2.2.2.1 zz.2.2.2.2.1 zz.2.2.2.2.2.1 zz.2.2.2.2.2.2.1 zz.2.2.2.2.2.2.2.1 zz.2.2.2.2.2.2.2.2.1 o.2.1 o.2.2.1 o.2.2.2.1 o.2.2.2.2.1 o.2.2.2.2.2.1 o.2.2.2.2.2.2.1 zz.2.2.2.2.2.2.2.2.2.2.2.2.2.2.2.1 o.2.2.2.2.2.2.2.1 o.2.2.2.2.2.2.2.2) o.1 := by
  obtain ⟨zz_0, zz_1, zz_2, zz_3, zz_4, zz_5, zz_6, zz_7, zz_8, zz_9, zz_10, zz_11, zz_12, zz_13, zz_14, zz_15, zz_16, zz_17⟩ := zz
  refine xk_CI.of (cc := cX3_lastDay) (maxL := 3) (ret := (some .int)) (by decide) rfl (Nat.le_of_ble_eq_true rfl) ?_
  intro pr9 en9 s mm9 bl9 meth9 cd9 A ls H locs hx hb hr hml hts hown hlk hA hP hK hD hNE hS hl
  have hown : s.vm.findClass RX3 = some mm9.cls := hown
  have hl : lv_has ls 3 [(0, .ref (za 0))] := hl
  have hinX3 : ∀ w ∈ u_ws RX3 TX3 18, w ∈ wsX3_lastDay := by decide +kernel
  have hP : va_P G.1 vwCl (wMOc G za zz_0 zz_1 zz_2 zz_3 zz_4 zz_5 zz_6 zz_7 zz_8 zz_9 zz_10 zz_11 zz_12 zz_13 zz_14 zz_15 zz_16 zz_17) H := hP
  have hD : va_D A (wMOc G za zz_0 zz_1 zz_2 zz_3 zz_4 zz_5 zz_6 zz_7 zz_8 zz_9 zz_10 zz_11 zz_12 zz_13 zz_14 zz_15 zz_16 zz_17) := hD
  have h := (f_X3_lastDay_e zz_0 zz_1 zz_2 zz_3 zz_4 zz_5 zz_6 zz_7 zz_8 zz_9 zz_10 zz_11 zz_12 zz_13 zz_14 zz_15 zz_16 zz_17).symm.trans h
  refine lv_aload_n hx hb dX3_lastDay_0 rfl (lv_at hl 0 rfl) ?_
  refine lv_iconst (v := (0 : Int32)) hx hb dX3_lastDay_1 (by decide) ?_
  refine va_put (D := G.1) (ci := 3) (v := .int (0 : Int32)) (ty := .int) (C := RX3) (T := TX3) (N := 18) hx hb hts hinX3 tyX3 tyX3_ok nmX3 hown hK hP hD hS 0 rfl rfl 17 (by decide) (hts (.fieldLink RX3 56 "LessonWeaveModel" "thrown" "I") (by decide +kernel)) (fun _ h9 => h9) rfl (by decide +kernel) rfl rfl (Nat.le_of_ble_eq_true rfl) dX3_lastDay_2 (fun H locs hP hD hS => ?_)
  have hP : va_P G.1 vwCl (wMOc G za zz_0 zz_1 zz_2 zz_3 zz_4 zz_5 zz_6 zz_7 zz_8 zz_9 zz_10 zz_11 zz_12 zz_13 zz_14 zz_15 zz_16 (0 : Int32)) H := hP
  have hD : va_D A (wMOc G za zz_0 zz_1 zz_2 zz_3 zz_4 zz_5 zz_6 zz_7 zz_8 zz_9 zz_10 zz_11 zz_12 zz_13 zz_14 zz_15 zz_16 (0 : Int32)) := hD
  refine lv_aload_n hx hb dX3_lastDay_5 rfl (lv_at hl 0 rfl) ?_
  obtain ⟨o1, ho1, h⟩ := sp_b h
  refine xk_cv (va_runV (As := []) (rest := []) ⟨hx, hb, hml, hown, hts⟩ (c_X3_plans l G za (zz_0, zz_1, zz_2, zz_3, zz_4, zz_5, zz_6, zz_7, zz_8, zz_9, zz_10, zz_11, zz_12, zz_13, zz_14, zz_15, zz_16, (0 : Int32)) o1 ho1 H.size) (cwV 0 hts gX3_lastDay_X3_plans rfl rfl rfl (by decide +kernel) ⟨Nat.le_of_ble_eq_true rfl, Nat.le_of_ble_eq_true rfl⟩) (xk_preV hK hNE (hP.sub (ws' := (wMOc G za zz_0 zz_1 zz_2 zz_3 zz_4 zz_5 zz_6 zz_7 zz_8 zz_9 zz_10 zz_11 zz_12 zz_13 zz_14 zz_15 zz_16 (0 : Int32))) [0, 1, 2, 3, 4, 5, 6, 7, 8, 9, 10, 11, 12, 13, 14, 15] rfl) (hD.sub (ws' := (wMOc G za zz_0 zz_1 zz_2 zz_3 zz_4 zz_5 zz_6 zz_7 zz_8 zz_9 zz_10 zz_11 zz_12 zz_13 zz_14 zz_15 zz_16 (0 : Int32))) [0, 1, 2, 3, 4, 5, 6, 7, 8, 9, 10, 11, 12, 13, 14, 15] (by decide) rfl) (ci := 3) rfl rfl) rfl rfl hl.1 rfl (lv_room (Nat.le_of_ble_eq_true rfl)) dX3_lastDay_6 ⟨Nat.le_of_ble_eq_true rfl, Nat.le_of_ble_eq_true rfl⟩) hP hD hS hA [0, 1, 2, 3, 4, 5, 6, 7, 8, 9, 10, 11, 12, 13, 14, 15] [] [0, 1, 2, 3, 4, 5, 6, 7, 8, 9, 10, 11, 12, 13, 14, 15] rfl rfl (by decide) (by decide) rfl (by decide) (fun H locs hP hD hS => ?_)
  have hP : va_P G.1 vwCl (wMOc G za zz_0 zz_1 zz_2 zz_3 zz_4 zz_5 zz_6 zz_7 zz_8 o1.1 o1.2.1 o1.2.2.1 o1.2.2.2.1 o1.2.2.2.2.1 o1.2.2.2.2.2.1 zz_15 o1.2.2.2.2.2.2 (0 : Int32)) H := hP
  have hD : va_D A (wMOc G za zz_0 zz_1 zz_2 zz_3 zz_4 zz_5 zz_6 zz_7 zz_8 o1.1 o1.2.1 o1.2.2.1 o1.2.2.2.1 o1.2.2.2.2.1 o1.2.2.2.2.2.1 zz_15 o1.2.2.2.2.2.2 (0 : Int32)) := hD
  refine lv_iconst (v := ((-1) : Int32)) hx hb dX3_lastDay_9 (by decide) ?_
  refine lv_istore_n (lv' := [(1, .int ((-1) : Int32)), (0, .ref (za 0))]) hx hb dX3_lastDay_10 rfl hl (by decide) rfl (fun ls hl => ?_)
  refine lv_iconst (v := (0 : Int32)) hx hb dX3_lastDay_11 (by decide) ?_
  refine lv_istore_n (lv' := [(2, .int (0 : Int32)), (1, .int ((-1) : Int32)), (0, .ref (za 0))]) hx hb dX3_lastDay_12 rfl hl (by decide) rfl (fun ls hl => ?_)
  obtain ⟨w3, hw3, h⟩ := sp_b h
  refine xk_jn G A s.heap (wMOc G za zz_0 zz_1 zz_2 zz_3 zz_4 zz_5 zz_6 zz_7 zz_8 o1.1 o1.2.1 o1.2.2.1 o1.2.2.2.1 o1.2.2.2.2.1 o1.2.2.2.2.2.1 zz_15 o1.2.2.2.2.2.2 (0 : Int32)) 3 [(1, .int w3)] 41 [] (fun H locs hP hD hS ls hl => ?_) (fun J2 => ?_)
  · refine lv_iload_n hx hb dX3_lastDay_41 rfl (lv_at hl 0 rfl) ?_
    obtain rfl := sp_s h
    exact xk_reI hx hb hr hlk hP hD hS rfl dX3_lastDay_42
  · have h := hw3
    clear hw3
    refine xk_lp (α := Int32 × Int32) G A s.heap (fun a_2 => (wMOc G za zz_0 zz_1 zz_2 zz_3 zz_4 zz_5 zz_6 zz_7 zz_8 o1.1 o1.2.1 o1.2.2.1 o1.2.2.2.1 o1.2.2.2.2.1 o1.2.2.2.2.2.1 zz_15 o1.2.2.2.2.2.2 (0 : Int32))) 3 (fun a_2 => [(2, .int a_2.1), (1, .int a_2.2), (0, .ref (za 0))]) 13 (fun n a_2 => f_X3_lastDay_l13 o1 n a_2.1 a_2.2 = some w3) (fun a_2 h => ?_) (fun n ih_2 a_2 h H locs hP hD hS ls hl => ?_) (fun LL => ?_)
    · exact sp_n ((f_X3_lastDay_l13_z _ _ _).symm.trans h)
    · obtain ⟨x2_2, x1_2⟩ := a_2
      have h := (f_X3_lastDay_l13_s o1 n x2_2 x1_2).symm.trans h
      have hP : va_P G.1 vwCl (wMOc G za zz_0 zz_1 zz_2 zz_3 zz_4 zz_5 zz_6 zz_7 zz_8 o1.1 o1.2.1 o1.2.2.1 o1.2.2.2.1 o1.2.2.2.2.1 o1.2.2.2.2.2.1 zz_15 o1.2.2.2.2.2.2 (0 : Int32)) H := hP
      have hD : va_D A (wMOc G za zz_0 zz_1 zz_2 zz_3 zz_4 zz_5 zz_6 zz_7 zz_8 o1.1 o1.2.1 o1.2.2.1 o1.2.2.2.1 o1.2.2.2.2.1 o1.2.2.2.2.2.1 zz_15 o1.2.2.2.2.2.2 (0 : Int32)) := hD
      have hl : lv_has ls 3 [(2, .int x2_2), (1, .int x1_2), (0, .ref (za 0))] := hl
      refine lv_iload_n hx hb dX3_lastDay_13 rfl (lv_at hl 0 rfl) ?_
      refine lv_bipush (v := (100 : Int32)) hx hb dX3_lastDay_14 (by decide) ?_
      refine lv_icmp_ge (tgt := 41) hx hb dX3_lastDay_16 (by decide) (fun c4 => ?_) (fun c4 => ?_)
      · have h := sp_t c4 h
        obtain rfl := sp_s h
        exact J2 _ _ hP hD hS _ (lv_sub hl [1] rfl)
      · have h := sp_f c4 h
        refine lv_aload_n hx hb dX3_lastDay_19 rfl (lv_at hl 2 rfl) ?_
        refine va_get (D := G.1) (ci := 3) (v := .ref (za 10)) (C := RX3) (T := TX3) (N := 18) hx hb hts hinX3 hown hK hP 0 rfl rfl 10 (by decide) (hts (.fieldLink RX3 38 "LessonWeaveModel" "things" "[I") (by decide +kernel)) (fun _ h9 => h9) rfl dX3_lastDay_20 ?_
        refine lv_iload_n hx hb dX3_lastDay_23 rfl (lv_at hl 0 rfl) ?_
        obtain ⟨hin5, h⟩ := sp_g h
        refine va_iald hx hb hK hP 10 0 rfl rfl hin5 dX3_lastDay_24 ?_
        refine lv_iconst (v := ((-1) : Int32)) hx hb dX3_lastDay_25 (by decide) ?_
        refine lv_icmp_ne (tgt := 33) hx hb dX3_lastDay_26 (by decide) (fun c6 => ?_) (fun c6 => ?_)
        · have h := sp_f c6 h
          refine lv_iload_n hx hb dX3_lastDay_33 rfl (lv_at hl 0 rfl) ?_
          refine lv_istore_n (lv' := [(1, .int x2_2), (2, .int x2_2), (0, .ref (za 0))]) hx hb dX3_lastDay_34 rfl hl (by decide) rfl (fun ls hl => ?_)
          refine lv_iinc (v := (x2_2 + (1 : Int32))) (lv' := [(2, .int (x2_2 + (1 : Int32))), (1, .int x2_2), (0, .ref (za 0))]) hx hb dX3_lastDay_35 hl (k := 1) rfl rfl (by decide) rfl (fun ls hl => ?_)
          refine lv_goto (tgt := 13) hx hb dX3_lastDay_38 (by decide) ?_
          exact ih_2 ((x2_2 + (1 : Int32)), x2_2) h _ _ hP hD hS _ (lv_sub hl [0, 1, 2] rfl)
        · have h := sp_t c6 h
          refine lv_iload_n hx hb dX3_lastDay_29 rfl (lv_at hl 1 rfl) ?_
          refine lv_goto (tgt := 34) hx hb dX3_lastDay_30 (by decide) ?_
          refine lv_istore_n (lv' := [(1, .int x1_2), (2, .int x2_2), (0, .ref (za 0))]) hx hb dX3_lastDay_34 rfl hl (by decide) rfl (fun ls hl => ?_)
          refine lv_iinc (v := (x2_2 + (1 : Int32))) (lv' := [(2, .int (x2_2 + (1 : Int32))), (1, .int x1_2), (0, .ref (za 0))]) hx hb dX3_lastDay_35 hl (k := 1) rfl rfl (by decide) rfl (fun ls hl => ?_)
          refine lv_goto (tgt := 13) hx hb dX3_lastDay_38 (by decide) ?_
          exact ih_2 ((x2_2 + (1 : Int32)), x1_2) h _ _ hP hD hS _ (lv_sub hl [0, 1, 2] rfl)
    · exact LL 300 ((0 : Int32), ((-1) : Int32)) h _ _ hP hD hS _ (lv_sub hl [0, 1, 2] rfl)
def f_X3_isClosed_l4 (zz_0 : Int32) (zz_5 : xF) (i1 : Int32) : Nat → Int32 → Int32 → Option (Int32)
  | 0, _, _ => none
  | k9 + 1, x3_1, x2_1 =>
    if zz_0 ≤ x3_1 then
      some x2_1
    else
      if x2_1 = 0 then
        f_X3_isClosed_l4 zz_0 zz_5 i1 k9 (x3_1 + (1 : Int32)) (0 : Int32)
      else
        if ((i1 >>> (x3_1 &&& 31)) &&& (1 : Int32)) = 0 then
          f_X3_isClosed_l4 zz_0 zz_5 i1 k9 (x3_1 + (1 : Int32)) (1 : Int32)
        else
          if x3_1 < 0 ∨ 12 ≤ x3_1.toNatClampNeg then none else
          if ((zz_5 x3_1.toNatClampNeg) &&& (i1 ^^^ ((-1) : Int32))) = 0 then
            f_X3_isClosed_l4 zz_0 zz_5 i1 k9 (x3_1 + (1 : Int32)) (1 : Int32)
          else
            f_X3_isClosed_l4 zz_0 zz_5 i1 k9 (x3_1 + (1 : Int32)) (0 : Int32)
theorem f_X3_isClosed_l4_z (zz_0 : Int32) (zz_5 : xF) (i1 : Int32) (x3_1 : Int32) (x2_1 : Int32) : f_X3_isClosed_l4 zz_0 zz_5 i1 0 x3_1 x2_1 = none := rfl
theorem f_X3_isClosed_l4_s (zz_0 : Int32) (zz_5 : xF) (i1 : Int32) (k9 : Nat) (x3_1 : Int32) (x2_1 : Int32) : f_X3_isClosed_l4 zz_0 zz_5 i1 (k9 + 1) x3_1 x2_1 =
    if zz_0 ≤ x3_1 then
      some x2_1
    else
      if x2_1 = 0 then
        f_X3_isClosed_l4 zz_0 zz_5 i1 k9 (x3_1 + (1 : Int32)) (0 : Int32)
      else
        if ((i1 >>> (x3_1 &&& 31)) &&& (1 : Int32)) = 0 then
          f_X3_isClosed_l4 zz_0 zz_5 i1 k9 (x3_1 + (1 : Int32)) (1 : Int32)
        else
          if x3_1 < 0 ∨ 12 ≤ x3_1.toNatClampNeg then none else
          if ((zz_5 x3_1.toNatClampNeg) &&& (i1 ^^^ ((-1) : Int32))) = 0 then
            f_X3_isClosed_l4 zz_0 zz_5 i1 k9 (x3_1 + (1 : Int32)) (1 : Int32)
          else
            f_X3_isClosed_l4 zz_0 zz_5 i1 k9 (x3_1 + (1 : Int32)) (0 : Int32) := rfl
def f_X3_isClosed (zz : xMO) (i1 : Int32) : Option (Int32) :=
  Option.bind (f_X3_isClosed_l4 zz.1 zz.2.2.2.2.2.1 i1 300 (0 : Int32) (1 : Int32)) fun (w2 : Int32) =>
  if w2 &&& 1 = w2 then some w2 else none
theorem f_X3_isClosed_e (zz_0 : Int32) (zz_1 : xF) (zz_2 : xF) (zz_3 : xF) (zz_4 : xF) (zz_5 : xF) (zz_6 : xF) (zz_7 : xF) (zz_8 : xF) (zz_9 : xF) (zz_10 : xF) (zz_11 : xF) (zz_12 : xF) (zz_13 : xF) (zz_14 : xF) (zz_15 : xF) (zz_16 : Int32) (zz_17 : Int32) (i1 : Int32) : f_X3_isClosed (zz_0, zz_1, zz_2, zz_3, zz_4, zz_5, zz_6, zz_7, zz_8, zz_9, zz_10, zz_11, zz_12, zz_13, zz_14, zz_15, zz_16, zz_17) i1 =
  Option.bind (f_X3_isClosed_l4 zz_0 zz_5 i1 300 (0 : Int32) (1 : Int32)) fun (w2 : Int32) =>
  if w2 &&& 1 = w2 then some w2 else none := rfl
set_option maxHeartbeats 4000000 in
set_option maxRecDepth 100000 in
theorem c_X3_isClosed (l : Launch) (G : xG) (za : (Nat → Nat)) (zz : xMO) (i1 : Int32) (o : Int32) (h : f_X3_isClosed zz i1 = some o) : xk_CI l yX3_isClosed wsX3_isClosed ({ frames := 0, cells := 0, slots := 0, locals := 0 } : Room) 0 0 [.ref (za 0), .int i1] G (wMOc G za zz.1 zz.2.1 zz.2.2.1 zz.2.2.2.1 zz.2.2.2.2.1 zz.2.2.2.2.2.1 zz.2.2.2.2.2.2.1 zz.2.2.2.2.2.2.2.1 zz.2.2.2.2.2.2.2.2.1 zz.2.2.2.2.2.2.2.2.2.1 zz.2.2.2.2.2.2.2.2.2.2.1 zz.2.2.2.2.2.2.2.2.2.2.2.1 zz.2.2.2.2.2.2.2.2.2.2.2.2.1 zz.2.2.2.2.2.2.2.2.2.2.2.2.2.1 zz.2.2.2.2.2.2.2.2.2.2.2.2.2.2.1 zz.2.2.2.2.2.2.2.2.2.2.2.2.2.2.2.1 zz.2.2.2.2.2.2.2.2.2.2.2.2.2.2.2.2.1 zz.2.2.2.2.2.2.2.2.2.2.2.2.2.2.2.2.2) (wMOc G za zz.1 zz.2.1 zz.2.2.1 zz.2.2.2.1 zz.2.2.2.2.1 zz.2.2.2.2.2.1 zz.2.2.2.2.2.2.1 zz.2.2.2.2.2.2.2.1 zz.2.2.2.2.2.2.2.2.1 zz.2.2.2.2.2.2.2.2.2.1 zz.2.2.2.2.2.2.2.2.2.2.1 zz.2.2.2.2.2.2.2.2.2.2.2.1 zz.2.2.2.2.2.2.2.2.2.2.2.2.1 zz.2.2.2.2.2.2.2.2.2.2.2.2.2.1 zz.2.2.2.2.2.2.2.2.2.2.2.2.2.2.1 zz.2.2.2.2.2.2.2.2.2.2.2.2.2.2.2.1 zz.2.2.2.2.2.2.2.2.2.2.2.2.2.2.2.2.1 zz.2.2.2.2.2.2.2.2.2.2.2.2.2.2.2.2.2) o := by
  obtain ⟨zz_0, zz_1, zz_2, zz_3, zz_4, zz_5, zz_6, zz_7, zz_8, zz_9, zz_10, zz_11, zz_12, zz_13, zz_14, zz_15, zz_16, zz_17⟩ := zz
  refine xk_CI.of (cc := cX3_isClosed) (maxL := 4) (ret := (some .boolean)) (by decide) rfl (Nat.le_of_ble_eq_true rfl) ?_
  intro pr9 en9 s mm9 bl9 meth9 cd9 A ls H locs hx hb hr hml hts hown hlk hA hP hK hD hNE hS hl
  have hown : s.vm.findClass RX3 = some mm9.cls := hown
  have hl : lv_has ls 4 [(0, .ref (za 0)), (1, .int i1)] := hl
  have hinX3 : ∀ w ∈ u_ws RX3 TX3 18, w ∈ wsX3_isClosed := by decide +kernel
  have hP : va_P G.1 vwCl (wMOc G za zz_0 zz_1 zz_2 zz_3 zz_4 zz_5 zz_6 zz_7 zz_8 zz_9 zz_10 zz_11 zz_12 zz_13 zz_14 zz_15 zz_16 zz_17) H := hP
  have hD : va_D A (wMOc G za zz_0 zz_1 zz_2 zz_3 zz_4 zz_5 zz_6 zz_7 zz_8 zz_9 zz_10 zz_11 zz_12 zz_13 zz_14 zz_15 zz_16 zz_17) := hD
  have h := (f_X3_isClosed_e zz_0 zz_1 zz_2 zz_3 zz_4 zz_5 zz_6 zz_7 zz_8 zz_9 zz_10 zz_11 zz_12 zz_13 zz_14 zz_15 zz_16 zz_17 i1).symm.trans h
  refine lv_iconst (v := (1 : Int32)) hx hb dX3_isClosed_0 (by decide) ?_
  refine lv_istore_n (lv' := [(2, .int (1 : Int32)), (0, .ref (za 0)), (1, .int i1)]) hx hb dX3_isClosed_1 rfl hl (by decide) rfl (fun ls hl => ?_)
  refine lv_iconst (v := (0 : Int32)) hx hb dX3_isClosed_2 (by decide) ?_
  refine lv_istore_n (lv' := [(3, .int (0 : Int32)), (2, .int (1 : Int32)), (0, .ref (za 0)), (1, .int i1)]) hx hb dX3_isClosed_3 rfl hl (by decide) rfl (fun ls hl => ?_)
  obtain ⟨w2, hw2, h⟩ := sp_b h
  refine xk_jn G A s.heap (wMOc G za zz_0 zz_1 zz_2 zz_3 zz_4 zz_5 zz_6 zz_7 zz_8 zz_9 zz_10 zz_11 zz_12 zz_13 zz_14 zz_15 zz_16 zz_17) 4 [(2, .int w2)] 49 [] (fun H locs hP hD hS ls hl => ?_) (fun J1 => ?_)
  · refine lv_iload_n hx hb dX3_isClosed_49 rfl (lv_at hl 0 rfl) ?_
    obtain ⟨hz, h⟩ := sp_c h
    obtain rfl := sp_s h
    exact xk_reZ hx hb hr hlk (xk_nar hz) hP hD hS rfl dX3_isClosed_50
  · have h := hw2
    clear hw2
    refine xk_lp (α := Int32 × Int32) G A s.heap (fun a_1 => (wMOc G za zz_0 zz_1 zz_2 zz_3 zz_4 zz_5 zz_6 zz_7 zz_8 zz_9 zz_10 zz_11 zz_12 zz_13 zz_14 zz_15 zz_16 zz_17)) 4 (fun a_1 => [(3, .int a_1.1), (2, .int a_1.2), (0, .ref (za 0)), (1, .int i1)]) 4 (fun n a_1 => f_X3_isClosed_l4 zz_0 zz_5 i1 n a_1.1 a_1.2 = some w2) (fun a_1 h => ?_) (fun n ih_1 a_1 h H locs hP hD hS ls hl => ?_) (fun LL => ?_)
    · exact sp_n ((f_X3_isClosed_l4_z _ _ _ _ _).symm.trans h)
    · obtain ⟨x3_1, x2_1⟩ := a_1
      have h := (f_X3_isClosed_l4_s zz_0 zz_5 i1 n x3_1 x2_1).symm.trans h
      have hP : va_P G.1 vwCl (wMOc G za zz_0 zz_1 zz_2 zz_3 zz_4 zz_5 zz_6 zz_7 zz_8 zz_9 zz_10 zz_11 zz_12 zz_13 zz_14 zz_15 zz_16 zz_17) H := hP
      have hD : va_D A (wMOc G za zz_0 zz_1 zz_2 zz_3 zz_4 zz_5 zz_6 zz_7 zz_8 zz_9 zz_10 zz_11 zz_12 zz_13 zz_14 zz_15 zz_16 zz_17) := hD
      have hl : lv_has ls 4 [(3, .int x3_1), (2, .int x2_1), (0, .ref (za 0)), (1, .int i1)] := hl
      refine lv_iload_n hx hb dX3_isClosed_4 rfl (lv_at hl 0 rfl) ?_
      refine lv_aload_n hx hb dX3_isClosed_5 rfl (lv_at hl 2 rfl) ?_
      refine va_get (D := G.1) (ci := 3) (v := .int zz_0) (C := RX3) (T := TX3) (N := 18) hx hb hts hinX3 hown hK hP 0 rfl rfl 0 (by decide) (hts (.fieldLink RX3 60 "LessonWeaveModel" "aims" "I") (by decide +kernel)) (fun _ h9 => h9) rfl dX3_isClosed_6 ?_
      refine lv_icmp_ge (tgt := 49) hx hb dX3_isClosed_9 (by decide) (fun c3 => ?_) (fun c3 => ?_)
      · have h := sp_t c3 h
        obtain rfl := sp_s h
        exact J1 _ _ hP hD hS _ (lv_sub hl [1] rfl)
      · have h := sp_f c3 h
        refine lv_iload_n hx hb dX3_isClosed_12 rfl (lv_at hl 1 rfl) ?_
        refine lv_if_eq (tgt := 41) hx hb dX3_isClosed_13 (by decide) (fun c4 => ?_) (fun c4 => ?_)
        · have h := sp_t c4 h
          refine lv_iconst (v := (0 : Int32)) hx hb dX3_isClosed_41 (by decide) ?_
          refine lv_istore_n (lv' := [(2, .int (0 : Int32)), (3, .int x3_1), (0, .ref (za 0)), (1, .int i1)]) hx hb dX3_isClosed_42 rfl hl (by decide) rfl (fun ls hl => ?_)
          refine lv_iinc (v := (x3_1 + (1 : Int32))) (lv' := [(3, .int (x3_1 + (1 : Int32))), (2, .int (0 : Int32)), (0, .ref (za 0)), (1, .int i1)]) hx hb dX3_isClosed_43 hl (k := 1) rfl rfl (by decide) rfl (fun ls hl => ?_)
          refine lv_goto (tgt := 4) hx hb dX3_isClosed_46 (by decide) ?_
          exact ih_1 ((x3_1 + (1 : Int32)), (0 : Int32)) h _ _ hP hD hS _ (lv_sub hl [0, 1, 2, 3] rfl)
        · have h := sp_f c4 h
          refine lv_iload_n hx hb dX3_isClosed_16 rfl (lv_at hl 3 rfl) ?_
          refine lv_iload_n hx hb dX3_isClosed_17 rfl (lv_at hl 0 rfl) ?_
          refine lv_ishr hx hb dX3_isClosed_18 ?_
          refine lv_iconst (v := (1 : Int32)) hx hb dX3_isClosed_19 (by decide) ?_
          refine lv_iand hx hb dX3_isClosed_20 ?_
          refine lv_if_eq (tgt := 37) hx hb dX3_isClosed_21 (by decide) (fun c5 => ?_) (fun c5 => ?_)
          · have h := sp_t c5 h
            refine lv_iconst (v := (1 : Int32)) hx hb dX3_isClosed_37 (by decide) ?_
            refine lv_goto (tgt := 42) hx hb dX3_isClosed_38 (by decide) ?_
            refine lv_istore_n (lv' := [(2, .int (1 : Int32)), (3, .int x3_1), (0, .ref (za 0)), (1, .int i1)]) hx hb dX3_isClosed_42 rfl hl (by decide) rfl (fun ls hl => ?_)
            refine lv_iinc (v := (x3_1 + (1 : Int32))) (lv' := [(3, .int (x3_1 + (1 : Int32))), (2, .int (1 : Int32)), (0, .ref (za 0)), (1, .int i1)]) hx hb dX3_isClosed_43 hl (k := 1) rfl rfl (by decide) rfl (fun ls hl => ?_)
            refine lv_goto (tgt := 4) hx hb dX3_isClosed_46 (by decide) ?_
            exact ih_1 ((x3_1 + (1 : Int32)), (1 : Int32)) h _ _ hP hD hS _ (lv_sub hl [0, 1, 2, 3] rfl)
          · have h := sp_f c5 h
            refine lv_aload_n hx hb dX3_isClosed_24 rfl (lv_at hl 2 rfl) ?_
            refine va_get (D := G.1) (ci := 3) (v := .ref (za 5)) (C := RX3) (T := TX3) (N := 18) hx hb hts hinX3 hown hK hP 0 rfl rfl 5 (by decide) (hts (.fieldLink RX3 22 "LessonWeaveModel" "needs" "[I") (by decide +kernel)) (fun _ h9 => h9) rfl dX3_isClosed_25 ?_
            refine lv_iload_n hx hb dX3_isClosed_28 rfl (lv_at hl 0 rfl) ?_
            obtain ⟨hin6, h⟩ := sp_g h
            refine va_iald hx hb hK hP 5 0 rfl rfl hin6 dX3_isClosed_29 ?_
            refine lv_iload_n hx hb dX3_isClosed_30 rfl (lv_at hl 3 rfl) ?_
            refine lv_iconst (v := ((-1) : Int32)) hx hb dX3_isClosed_31 (by decide) ?_
            refine lv_ixor hx hb dX3_isClosed_32 ?_
            refine lv_iand hx hb dX3_isClosed_33 ?_
            refine lv_if_ne (tgt := 41) hx hb dX3_isClosed_34 (by decide) (fun c7 => ?_) (fun c7 => ?_)
            · have h := sp_f c7 h
              refine lv_iconst (v := (0 : Int32)) hx hb dX3_isClosed_41 (by decide) ?_
              refine lv_istore_n (lv' := [(2, .int (0 : Int32)), (3, .int x3_1), (0, .ref (za 0)), (1, .int i1)]) hx hb dX3_isClosed_42 rfl hl (by decide) rfl (fun ls hl => ?_)
              refine lv_iinc (v := (x3_1 + (1 : Int32))) (lv' := [(3, .int (x3_1 + (1 : Int32))), (2, .int (0 : Int32)), (0, .ref (za 0)), (1, .int i1)]) hx hb dX3_isClosed_43 hl (k := 1) rfl rfl (by decide) rfl (fun ls hl => ?_)
              refine lv_goto (tgt := 4) hx hb dX3_isClosed_46 (by decide) ?_
              exact ih_1 ((x3_1 + (1 : Int32)), (0 : Int32)) h _ _ hP hD hS _ (lv_sub hl [0, 1, 2, 3] rfl)
            · have h := sp_t c7 h
              refine lv_iconst (v := (1 : Int32)) hx hb dX3_isClosed_37 (by decide) ?_
              refine lv_goto (tgt := 42) hx hb dX3_isClosed_38 (by decide) ?_
              refine lv_istore_n (lv' := [(2, .int (1 : Int32)), (3, .int x3_1), (0, .ref (za 0)), (1, .int i1)]) hx hb dX3_isClosed_42 rfl hl (by decide) rfl (fun ls hl => ?_)
              refine lv_iinc (v := (x3_1 + (1 : Int32))) (lv' := [(3, .int (x3_1 + (1 : Int32))), (2, .int (1 : Int32)), (0, .ref (za 0)), (1, .int i1)]) hx hb dX3_isClosed_43 hl (k := 1) rfl rfl (by decide) rfl (fun ls hl => ?_)
              refine lv_goto (tgt := 4) hx hb dX3_isClosed_46 (by decide) ?_
              exact ih_1 ((x3_1 + (1 : Int32)), (1 : Int32)) h _ _ hP hD hS _ (lv_sub hl [0, 1, 2, 3] rfl)
    · exact LL 300 ((0 : Int32), (1 : Int32)) h _ _ hP hD hS _ (lv_sub hl [0, 1, 2, 3] rfl)
def f_X3_net_l5 (zz_0 : Int32) (zz_1 : xF) (zz_3 : xF) (i1 : Int32) (i2 : Int32) : Nat → Int32 → Int32 → Option (Int32)
  | 0, _, _ => none
  | k9 + 1, x4_1, x3_1 =>
    if zz_0 ≤ x4_1 then
      some x3_1
    else
      Option.bind (
        if ((i1 >>> (x4_1 &&& 31)) &&& (1 : Int32)) = (1 : Int32) then
          if x4_1 < 0 ∨ 12 ≤ x4_1.toNatClampNeg then none else
          some ((zz_3 x4_1.toNatClampNeg) - (i2 * (zz_1 x4_1.toNatClampNeg)))
        else
          some (0 : Int32)) fun (v4 : Int32) =>
      f_X3_net_l5 zz_0 zz_1 zz_3 i1 i2 k9 (x4_1 + (1 : Int32)) (x3_1 + v4)
theorem f_X3_net_l5_z (zz_0 : Int32) (zz_1 : xF) (zz_3 : xF) (i1 : Int32) (i2 : Int32) (x4_1 : Int32) (x3_1 : Int32) : f_X3_net_l5 zz_0 zz_1 zz_3 i1 i2 0 x4_1 x3_1 = none := rfl
theorem f_X3_net_l5_s (zz_0 : Int32) (zz_1 : xF) (zz_3 : xF) (i1 : Int32) (i2 : Int32) (k9 : Nat) (x4_1 : Int32) (x3_1 : Int32) : f_X3_net_l5 zz_0 zz_1 zz_3 i1 i2 (k9 + 1) x4_1 x3_1 =
    if zz_0 ≤ x4_1 then
      some x3_1
    else
      Option.bind (
        if ((i1 >>> (x4_1 &&& 31)) &&& (1 : Int32)) = (1 : Int32) then
          if x4_1 < 0 ∨ 12 ≤ x4_1.toNatClampNeg then none else
          some ((zz_3 x4_1.toNatClampNeg) - (i2 * (zz_1 x4_1.toNatClampNeg)))
        else
          some (0 : Int32)) fun (v4 : Int32) =>
      f_X3_net_l5 zz_0 zz_1 zz_3 i1 i2 k9 (x4_1 + (1 : Int32)) (x3_1 + v4) := rfl
def f_X3_net (zz : xMO) (i1 : Int32) (i2 : Int32) : Option (Int32) :=
  Option.bind (f_X3_net_l5 zz.1 zz.2.1 zz.2.2.2.1 i1 i2 300 (0 : Int32) (0 : Int32)) fun (w2 : Int32) =>
  some w2
theorem f_X3_net_e (zz_0 : Int32) (zz_1 : xF) (zz_2 : xF) (zz_3 : xF) (zz_4 : xF) (zz_5 : xF) (zz_6 : xF) (zz_7 : xF) (zz_8 : xF) (zz_9 : xF) (zz_10 : xF) (zz_11 : xF) (zz_12 : xF) (zz_13 : xF) (zz_14 : xF) (zz_15 : xF) (zz_16 : Int32) (zz_17 : Int32) (i1 : Int32) (i2 : Int32) : f_X3_net (zz_0, zz_1, zz_2, zz_3, zz_4, zz_5, zz_6, zz_7, zz_8, zz_9, zz_10, zz_11, zz_12, zz_13, zz_14, zz_15, zz_16, zz_17) i1 i2 =
  Option.bind (f_X3_net_l5 zz_0 zz_1 zz_3 i1 i2 300 (0 : Int32) (0 : Int32)) fun (w2 : Int32) =>
  some w2 := rfl
set_option maxHeartbeats 4000000 in
set_option maxRecDepth 100000 in
theorem c_X3_net (l : Launch) (G : xG) (za : (Nat → Nat)) (zz : xMO) (i1 : Int32) (i2 : Int32) (o : Int32) (h : f_X3_net zz i1 i2 = some o) : xk_CI l yX3_net wsX3_net ({ frames := 0, cells := 0, slots := 0, locals := 0 } : Room) 0 0 [.ref (za 0), .int i1, .int i2] G (wMOc G za zz.1 zz.2.1 zz.2.2.1 zz.2.2.2.1 zz.2.2.2.2.1 zz.2.2.2.2.2.1 zz.2.2.2.2.2.2.1 zz.2.2.2.2.2.2.2.1 zz.2.2.2.2.2.2.2.2.1 zz.2.2.2.2.2.2.2.2.2.1 zz.2.2.2.2.2.2.2.2.2.2.1 zz.2.2.2.2.2.2.2.2.2.2.2.1 zz.2.2.2.2.2.2.2.2.2.2.2.2.1 zz.2.2.2.2.2.2.2.2.2.2.2.2.2.1 zz.2.2.2.2.2.2.2.2.2.2.2.2.2.2.1 zz.2.2.2.2.2.2.2.2.2.2.2.2.2.2.2.1 zz.2.2.2.2.2.2.2.2.2.2.2.2.2.2.2.2.1 zz.2.2.2.2.2.2.2.2.2.2.2.2.2.2.2.2.2) (wMOc G za zz.1 zz.2.1 zz.2.2.1 zz.2.2.2.1 zz.2.2.2.2.1 zz.2.2.2.2.2.1 zz.2.2.2.2.2.2.1 zz.2.2.2.2.2.2.2.1 zz.2.2.2.2.2.2.2.2.1 zz.2.2.2.2.2.2.2.2.2.1 zz.2.2.2.2.2.2.2.2.2.2.1 zz.2.2.2.2.2.2.2.2.2.2.2.1 zz.2.2.2.2.2.2.2.2.2.2.2.2.1 zz.2.2.2.2.2.2.2.2.2.2.2.2.2.1 zz.2.2.2.2.2.2.2.2.2.2.2.2.2.2.1 zz.2.2.2.2.2.2.2.2.2.2.2.2.2.2.2.1 zz.2.2.2.2.2.2.2.2.2.2.2.2.2.2.2.2.1 zz.2.2.2.2.2.2.2.2.2.2.2.2.2.2.2.2.2) o := by
  obtain ⟨zz_0, zz_1, zz_2, zz_3, zz_4, zz_5, zz_6, zz_7, zz_8, zz_9, zz_10, zz_11, zz_12, zz_13, zz_14, zz_15, zz_16, zz_17⟩ := zz
  refine xk_CI.of (cc := cX3_net) (maxL := 5) (ret := (some .int)) (by decide) rfl (Nat.le_of_ble_eq_true rfl) ?_
  intro pr9 en9 s mm9 bl9 meth9 cd9 A ls H locs hx hb hr hml hts hown hlk hA hP hK hD hNE hS hl
  have hown : s.vm.findClass RX3 = some mm9.cls := hown
  have hl : lv_has ls 5 [(0, .ref (za 0)), (1, .int i1), (2, .int i2)] := hl
  have hinX3 : ∀ w ∈ u_ws RX3 TX3 18, w ∈ wsX3_net := by decide +kernel
  have hP : va_P G.1 vwCl (wMOc G za zz_0 zz_1 zz_2 zz_3 zz_4 zz_5 zz_6 zz_7 zz_8 zz_9 zz_10 zz_11 zz_12 zz_13 zz_14 zz_15 zz_16 zz_17) H := hP
  have hD : va_D A (wMOc G za zz_0 zz_1 zz_2 zz_3 zz_4 zz_5 zz_6 zz_7 zz_8 zz_9 zz_10 zz_11 zz_12 zz_13 zz_14 zz_15 zz_16 zz_17) := hD
  have h := (f_X3_net_e zz_0 zz_1 zz_2 zz_3 zz_4 zz_5 zz_6 zz_7 zz_8 zz_9 zz_10 zz_11 zz_12 zz_13 zz_14 zz_15 zz_16 zz_17 i1 i2).symm.trans h
  refine lv_iconst (v := (0 : Int32)) hx hb dX3_net_0 (by decide) ?_
  refine lv_istore_n (lv' := [(3, .int (0 : Int32)), (0, .ref (za 0)), (1, .int i1), (2, .int i2)]) hx hb dX3_net_1 rfl hl (by decide) rfl (fun ls hl => ?_)
  refine lv_iconst (v := (0 : Int32)) hx hb dX3_net_2 (by decide) ?_
  refine lv_istore (lv' := [(4, .int (0 : Int32)), (3, .int (0 : Int32)), (0, .ref (za 0)), (1, .int i1), (2, .int i2)]) hx hb dX3_net_3 hl (by decide) rfl (fun ls hl => ?_)
  obtain ⟨w2, hw2, h⟩ := sp_b h
  refine xk_jn G A s.heap (wMOc G za zz_0 zz_1 zz_2 zz_3 zz_4 zz_5 zz_6 zz_7 zz_8 zz_9 zz_10 zz_11 zz_12 zz_13 zz_14 zz_15 zz_16 zz_17) 5 [(3, .int w2)] 54 [] (fun H locs hP hD hS ls hl => ?_) (fun J1 => ?_)
  · refine lv_iload_n hx hb dX3_net_54 rfl (lv_at hl 0 rfl) ?_
    obtain rfl := sp_s h
    exact xk_reI hx hb hr hlk hP hD hS rfl dX3_net_55
  · have h := hw2
    clear hw2
    refine xk_lp (α := Int32 × Int32) G A s.heap (fun a_1 => (wMOc G za zz_0 zz_1 zz_2 zz_3 zz_4 zz_5 zz_6 zz_7 zz_8 zz_9 zz_10 zz_11 zz_12 zz_13 zz_14 zz_15 zz_16 zz_17)) 5 (fun a_1 => [(4, .int a_1.1), (3, .int a_1.2), (0, .ref (za 0)), (1, .int i1), (2, .int i2)]) 5 (fun n a_1 => f_X3_net_l5 zz_0 zz_1 zz_3 i1 i2 n a_1.1 a_1.2 = some w2) (fun a_1 h => ?_) (fun n ih_1 a_1 h H locs hP hD hS ls hl => ?_) (fun LL => ?_)
    · exact sp_n ((f_X3_net_l5_z _ _ _ _ _ _ _).symm.trans h)
    · obtain ⟨x4_1, x3_1⟩ := a_1
      have h := (f_X3_net_l5_s zz_0 zz_1 zz_3 i1 i2 n x4_1 x3_1).symm.trans h
      have hP : va_P G.1 vwCl (wMOc G za zz_0 zz_1 zz_2 zz_3 zz_4 zz_5 zz_6 zz_7 zz_8 zz_9 zz_10 zz_11 zz_12 zz_13 zz_14 zz_15 zz_16 zz_17) H := hP
      have hD : va_D A (wMOc G za zz_0 zz_1 zz_2 zz_3 zz_4 zz_5 zz_6 zz_7 zz_8 zz_9 zz_10 zz_11 zz_12 zz_13 zz_14 zz_15 zz_16 zz_17) := hD
      have hl : lv_has ls 5 [(4, .int x4_1), (3, .int x3_1), (0, .ref (za 0)), (1, .int i1), (2, .int i2)] := hl
      refine lv_iload hx hb dX3_net_5 (lv_at hl 0 rfl) ?_
      refine lv_aload_n hx hb dX3_net_7 rfl (lv_at hl 2 rfl) ?_
      refine va_get (D := G.1) (ci := 3) (v := .int zz_0) (C := RX3) (T := TX3) (N := 18) hx hb hts hinX3 hown hK hP 0 rfl rfl 0 (by decide) (hts (.fieldLink RX3 60 "LessonWeaveModel" "aims" "I") (by decide +kernel)) (fun _ h9 => h9) rfl dX3_net_8 ?_
      refine lv_icmp_ge (tgt := 54) hx hb dX3_net_11 (by decide) (fun c3 => ?_) (fun c3 => ?_)
      · have h := sp_t c3 h
        obtain rfl := sp_s h
        exact J1 _ _ hP hD hS _ (lv_sub hl [1] rfl)
      · have h := sp_f c3 h
        refine lv_iload_n hx hb dX3_net_14 rfl (lv_at hl 1 rfl) ?_
        refine lv_iload_n hx hb dX3_net_15 rfl (lv_at hl 3 rfl) ?_
        refine lv_iload hx hb dX3_net_16 (lv_at hl 0 rfl) ?_
        refine lv_ishr hx hb dX3_net_18 ?_
        refine lv_iconst (v := (1 : Int32)) hx hb dX3_net_19 (by decide) ?_
        refine lv_iand hx hb dX3_net_20 ?_
        refine lv_iconst (v := (1 : Int32)) hx hb dX3_net_21 (by decide) ?_
        obtain ⟨v4, hv4, h⟩ := sp_b h
        refine xk_jn G A s.heap (wMOc G za zz_0 zz_1 zz_2 zz_3 zz_4 zz_5 zz_6 zz_7 zz_8 zz_9 zz_10 zz_11 zz_12 zz_13 zz_14 zz_15 zz_16 zz_17) 5 [(4, .int x4_1), (0, .ref (za 0)), (1, .int i1), (2, .int i2)] 46 [.int v4, .int x3_1] (fun H locs hP hD hS ls hl => ?_) (fun J4 => ?_)
        · refine lv_iadd hx hb dX3_net_46 ?_
          refine lv_istore_n (lv' := [(3, .int (x3_1 + v4)), (4, .int x4_1), (0, .ref (za 0)), (1, .int i1), (2, .int i2)]) hx hb dX3_net_47 rfl hl (by decide) rfl (fun ls hl => ?_)
          refine lv_iinc (v := (x4_1 + (1 : Int32))) (lv' := [(4, .int (x4_1 + (1 : Int32))), (3, .int (x3_1 + v4)), (0, .ref (za 0)), (1, .int i1), (2, .int i2)]) hx hb dX3_net_48 hl (k := 1) rfl rfl (by decide) rfl (fun ls hl => ?_)
          refine lv_goto (tgt := 5) hx hb dX3_net_51 (by decide) ?_
          exact ih_1 ((x4_1 + (1 : Int32)), (x3_1 + v4)) h _ _ hP hD hS _ (lv_sub hl [0, 1, 2, 3, 4] rfl)
        · have h := hv4
          clear hv4
          refine lv_icmp_ne (tgt := 45) hx hb dX3_net_22 (by decide) (fun c5 => ?_) (fun c5 => ?_)
          · have h := sp_f c5 h
            refine lv_iconst (v := (0 : Int32)) hx hb dX3_net_45 (by decide) ?_
            obtain rfl := sp_s h
            exact J4 _ _ hP hD hS _ (lv_sub hl [0, 2, 3, 4] rfl)
          · have h := sp_t c5 h
            refine lv_aload_n hx hb dX3_net_25 rfl (lv_at hl 2 rfl) ?_
            refine va_get (D := G.1) (ci := 3) (v := .ref (za 3)) (C := RX3) (T := TX3) (N := 18) hx hb hts hinX3 hown hK hP 0 rfl rfl 3 (by decide) (hts (.fieldLink RX3 16 "LessonWeaveModel" "worth" "[I") (by decide +kernel)) (fun _ h9 => h9) rfl dX3_net_26 ?_
            refine lv_iload hx hb dX3_net_29 (lv_at hl 0 rfl) ?_
            obtain ⟨hin6, h⟩ := sp_g h
            refine va_iald hx hb hK hP 3 0 rfl rfl hin6 dX3_net_31 ?_
            refine lv_iload_n hx hb dX3_net_32 rfl (lv_at hl 4 rfl) ?_
            refine lv_aload_n hx hb dX3_net_33 rfl (lv_at hl 2 rfl) ?_
            refine va_get (D := G.1) (ci := 3) (v := .ref (za 1)) (C := RX3) (T := TX3) (N := 18) hx hb hts hinX3 hown hK hP 0 rfl rfl 1 (by decide) (hts (.fieldLink RX3 7 "LessonWeaveModel" "lessons" "[I") (by decide +kernel)) (fun _ h9 => h9) rfl dX3_net_34 ?_
            refine lv_iload hx hb dX3_net_37 (lv_at hl 0 rfl) ?_
            refine va_iald hx hb hK hP 1 0 rfl rfl hin6 dX3_net_39 ?_
            refine lv_imul hx hb dX3_net_40 ?_
            refine lv_isub hx hb dX3_net_41 ?_
            refine lv_goto (tgt := 46) hx hb dX3_net_42 (by decide) ?_
            obtain rfl := sp_s h
            exact J4 _ _ hP hD hS _ (lv_sub hl [0, 2, 3, 4] rfl)
    · exact LL 300 ((0 : Int32), (0 : Int32)) h _ _ hP hD hS _ (lv_sub hl [0, 1, 2, 3, 4] rfl)
def f_X3_best_l4 (zz_0 : Int32) (zz_1 : xF) (zz_2 : xF) (zz_3 : xF) (zz_4 : xF) (zz_5 : xF) (zz_6 : xF) (zz_7 : xF) (zz_8 : xF) (zz_9 : xF) (zz_10 : xF) (zz_11 : xF) (zz_12 : xF) (zz_13 : xF) (zz_14 : xF) (zz_15 : xF) (zz_16 : Int32) (zz_17 : Int32) (i1 : Int32) : Nat → Int32 → Int32 → Option (Int32)
  | 0, _, _ => none
  | k9 + 1, x3_1, x2_1 =>
    if ((1 : Int32) <<< (zz_0 &&& 31)) ≤ x3_1 then
      some x2_1
    else
      Option.bind (f_X3_isClosed (zz_0, zz_1, zz_2, zz_3, zz_4, zz_5, zz_6, zz_7, zz_8, zz_9, zz_10, zz_11, zz_12, zz_13, zz_14, zz_15, zz_16, zz_17) x3_1) fun (o4 : Int32) =>
      Option.bind (
        if o4 = 0 then
          some ((-1) : Int32)
        else
          Option.bind (f_X3_net (zz_0, zz_1, zz_2, zz_3, zz_4, zz_5, zz_6, zz_7, zz_8, zz_9, zz_10, zz_11, zz_12, zz_13, zz_14, zz_15, zz_16, zz_17) x3_1 i1) fun (o12 : Int32) =>
          Option.bind (f_X3_net (zz_0, zz_1, zz_2, zz_3, zz_4, zz_5, zz_6, zz_7, zz_8, zz_9, zz_10, zz_11, zz_12, zz_13, zz_14, zz_15, zz_16, zz_17) x2_1 i1) fun (o13 : Int32) =>
          some (o12 - o13)) fun (v5 : Int32) =>
      if 0 < v5 then
        f_X3_best_l4 zz_0 zz_1 zz_2 zz_3 zz_4 zz_5 zz_6 zz_7 zz_8 zz_9 zz_10 zz_11 zz_12 zz_13 zz_14 zz_15 zz_16 zz_17 i1 k9 (x3_1 + (1 : Int32)) x3_1
      else
        if v5 = 0 then
          Option.bind (f_X3_size x3_1) fun (o8 : Int32) =>
          Option.bind (f_X3_size x2_1) fun (o9 : Int32) =>
          if o9 ≤ o8 then
            f_X3_best_l4 zz_0 zz_1 zz_2 zz_3 zz_4 zz_5 zz_6 zz_7 zz_8 zz_9 zz_10 zz_11 zz_12 zz_13 zz_14 zz_15 zz_16 zz_17 i1 k9 (x3_1 + (1 : Int32)) x2_1
          else
            f_X3_best_l4 zz_0 zz_1 zz_2 zz_3 zz_4 zz_5 zz_6 zz_7 zz_8 zz_9 zz_10 zz_11 zz_12 zz_13 zz_14 zz_15 zz_16 zz_17 i1 k9 (x3_1 + (1 : Int32)) x3_1
        else
          f_X3_best_l4 zz_0 zz_1 zz_2 zz_3 zz_4 zz_5 zz_6 zz_7 zz_8 zz_9 zz_10 zz_11 zz_12 zz_13 zz_14 zz_15 zz_16 zz_17 i1 k9 (x3_1 + (1 : Int32)) x2_1
theorem f_X3_best_l4_z (zz_0 : Int32) (zz_1 : xF) (zz_2 : xF) (zz_3 : xF) (zz_4 : xF) (zz_5 : xF) (zz_6 : xF) (zz_7 : xF) (zz_8 : xF) (zz_9 : xF) (zz_10 : xF) (zz_11 : xF) (zz_12 : xF) (zz_13 : xF) (zz_14 : xF) (zz_15 : xF) (zz_16 : Int32) (zz_17 : Int32) (i1 : Int32) (x3_1 : Int32) (x2_1 : Int32) : f_X3_best_l4 zz_0 zz_1 zz_2 zz_3 zz_4 zz_5 zz_6 zz_7 zz_8 zz_9 zz_10 zz_11 zz_12 zz_13 zz_14 zz_15 zz_16 zz_17 i1 0 x3_1 x2_1 = none := rfl
theorem f_X3_best_l4_s (zz_0 : Int32) (zz_1 : xF) (zz_2 : xF) (zz_3 : xF) (zz_4 : xF) (zz_5 : xF) (zz_6 : xF) (zz_7 : xF) (zz_8 : xF) (zz_9 : xF) (zz_10 : xF) (zz_11 : xF) (zz_12 : xF) (zz_13 : xF) (zz_14 : xF) (zz_15 : xF) (zz_16 : Int32) (zz_17 : Int32) (i1 : Int32) (k9 : Nat) (x3_1 : Int32) (x2_1 : Int32) : f_X3_best_l4 zz_0 zz_1 zz_2 zz_3 zz_4 zz_5 zz_6 zz_7 zz_8 zz_9 zz_10 zz_11 zz_12 zz_13 zz_14 zz_15 zz_16 zz_17 i1 (k9 + 1) x3_1 x2_1 =
    if ((1 : Int32) <<< (zz_0 &&& 31)) ≤ x3_1 then
      some x2_1
    else
      Option.bind (f_X3_isClosed (zz_0, zz_1, zz_2, zz_3, zz_4, zz_5, zz_6, zz_7, zz_8, zz_9, zz_10, zz_11, zz_12, zz_13, zz_14, zz_15, zz_16, zz_17) x3_1) fun (o4 : Int32) =>
      Option.bind (
        if o4 = 0 then
          some ((-1) : Int32)
        else
          Option.bind (f_X3_net (zz_0, zz_1, zz_2, zz_3, zz_4, zz_5, zz_6, zz_7, zz_8, zz_9, zz_10, zz_11, zz_12, zz_13, zz_14, zz_15, zz_16, zz_17) x3_1 i1) fun (o12 : Int32) =>
          Option.bind (f_X3_net (zz_0, zz_1, zz_2, zz_3, zz_4, zz_5, zz_6, zz_7, zz_8, zz_9, zz_10, zz_11, zz_12, zz_13, zz_14, zz_15, zz_16, zz_17) x2_1 i1) fun (o13 : Int32) =>
          some (o12 - o13)) fun (v5 : Int32) =>
      if 0 < v5 then
        f_X3_best_l4 zz_0 zz_1 zz_2 zz_3 zz_4 zz_5 zz_6 zz_7 zz_8 zz_9 zz_10 zz_11 zz_12 zz_13 zz_14 zz_15 zz_16 zz_17 i1 k9 (x3_1 + (1 : Int32)) x3_1
      else
        if v5 = 0 then
          Option.bind (f_X3_size x3_1) fun (o8 : Int32) =>
          Option.bind (f_X3_size x2_1) fun (o9 : Int32) =>
          if o9 ≤ o8 then
            f_X3_best_l4 zz_0 zz_1 zz_2 zz_3 zz_4 zz_5 zz_6 zz_7 zz_8 zz_9 zz_10 zz_11 zz_12 zz_13 zz_14 zz_15 zz_16 zz_17 i1 k9 (x3_1 + (1 : Int32)) x2_1
          else
            f_X3_best_l4 zz_0 zz_1 zz_2 zz_3 zz_4 zz_5 zz_6 zz_7 zz_8 zz_9 zz_10 zz_11 zz_12 zz_13 zz_14 zz_15 zz_16 zz_17 i1 k9 (x3_1 + (1 : Int32)) x3_1
        else
          f_X3_best_l4 zz_0 zz_1 zz_2 zz_3 zz_4 zz_5 zz_6 zz_7 zz_8 zz_9 zz_10 zz_11 zz_12 zz_13 zz_14 zz_15 zz_16 zz_17 i1 k9 (x3_1 + (1 : Int32)) x2_1 := rfl
def f_X3_best (zz : xMO) (i1 : Int32) : Option (Int32) :=
  Option.bind (f_X3_best_l4 zz.1 zz.2.1 zz.2.2.1 zz.2.2.2.1 zz.2.2.2.2.1 zz.2.2.2.2.2.1 zz.2.2.2.2.2.2.1 zz.2.2.2.2.2.2.2.1 zz.2.2.2.2.2.2.2.2.1 zz.2.2.2.2.2.2.2.2.2.1 zz.2.2.2.2.2.2.2.2.2.2.1 zz.2.2.2.2.2.2.2.2.2.2.2.1 zz.2.2.2.2.2.2.2.2.2.2.2.2.1 zz.2.2.2.2.2.2.2.2.2.2.2.2.2.1 zz.2.2.2.2.2.2.2.2.2.2.2.2.2.2.1 zz.2.2.2.2.2.2.2.2.2.2.2.2.2.2.2.1 zz.2.2.2.2.2.2.2.2.2.2.2.2.2.2.2.2.1 zz.2.2.2.2.2.2.2.2.2.2.2.2.2.2.2.2.2 i1 5000 (1 : Int32) (0 : Int32)) fun (w2 : Int32) =>
  some w2
theorem f_X3_best_e (zz_0 : Int32) (zz_1 : xF) (zz_2 : xF) (zz_3 : xF) (zz_4 : xF) (zz_5 : xF) (zz_6 : xF) (zz_7 : xF) (zz_8 : xF) (zz_9 : xF) (zz_10 : xF) (zz_11 : xF) (zz_12 : xF) (zz_13 : xF) (zz_14 : xF) (zz_15 : xF) (zz_16 : Int32) (zz_17 : Int32) (i1 : Int32) : f_X3_best (zz_0, zz_1, zz_2, zz_3, zz_4, zz_5, zz_6, zz_7, zz_8, zz_9, zz_10, zz_11, zz_12, zz_13, zz_14, zz_15, zz_16, zz_17) i1 =
  Option.bind (f_X3_best_l4 zz_0 zz_1 zz_2 zz_3 zz_4 zz_5 zz_6 zz_7 zz_8 zz_9 zz_10 zz_11 zz_12 zz_13 zz_14 zz_15 zz_16 zz_17 i1 5000 (1 : Int32) (0 : Int32)) fun (w2 : Int32) =>
  some w2 := rfl
set_option maxHeartbeats 4000000 in
set_option maxRecDepth 100000 in
theorem c_X3_best (l : Launch) (G : xG) (za : (Nat → Nat)) (zz : xMO) (i1 : Int32) (o : Int32) (h : f_X3_best zz i1 = some o) : xk_CI l yX3_best wsX3_best ({ frames := 1, cells := 0, slots := 0, locals := 24 } : Room) 0 0 [.ref (za 0), .int i1] G (wMOc G za zz.1 zz.2.1 zz.2.2.1 zz.2.2.2.1 zz.2.2.2.2.1 zz.2.2.2.2.2.1 zz.2.2.2.2.2.2.1 zz.2.2.2.2.2.2.2.1 zz.2.2.2.2.2.2.2.2.1 zz.2.2.2.2.2.2.2.2.2.1 zz.2.2.2.2.2.2.2.2.2.2.1 zz.2.2.2.2.2.2.2.2.2.2.2.1 zz.2.2.2.2.2.2.2.2.2.2.2.2.1 zz.2.2.2.2.2.2.2.2.2.2.2.2.2.1 zz.2.2.2.2.2.2.2.2.2.2.2.2.2.2.1 zz.2.2.2.2.2.2.2.2.2.2.2.2.2.2.2.1 zz.2.2.2.2.2.2.2.2.2.2.2.2.2.2.2.2.1 zz.2.2.2.2.2.2.2.2.2.2.2.2.2.2.2.2.2) (wMOc G za zz.1 zz.2.1 zz.2.2.1 zz.2.2.2.1 zz.2.2.2.2.1 zz.2.2.2.2.2.1 zz.2.2.2.2.2.2.1 zz.2.2.2.2.2.2.2.1 zz.2.2.2.2.2.2.2.2.1 zz.2.2.2.2.2.2.2.2.2.1 zz.2.2.2.2.2.2.2.2.2.2.1 zz.2.2.2.2.2.2.2.2.2.2.2.1 zz.2.2.2.2.2.2.2.2.2.2.2.2.1 zz.2.2.2.2.2.2.2.2.2.2.2.2.2.1 zz.2.2.2.2.2.2.2.2.2.2.2.2.2.2.1 zz.2.2.2.2.2.2.2.2.2.2.2.2.2.2.2.1 zz.2.2.2.2.2.2.2.2.2.2.2.2.2.2.2.2.1 zz.2.2.2.2.2.2.2.2.2.2.2.2.2.2.2.2.2) o := by
  obtain ⟨zz_0, zz_1, zz_2, zz_3, zz_4, zz_5, zz_6, zz_7, zz_8, zz_9, zz_10, zz_11, zz_12, zz_13, zz_14, zz_15, zz_16, zz_17⟩ := zz
  refine xk_CI.of (cc := cX3_best) (maxL := 5) (ret := (some .int)) (by decide) rfl (Nat.le_of_ble_eq_true rfl) ?_
  intro pr9 en9 s mm9 bl9 meth9 cd9 A ls H locs hx hb hr hml hts hown hlk hA hP hK hD hNE hS hl
  have hown : s.vm.findClass RX3 = some mm9.cls := hown
  have hl : lv_has ls 5 [(0, .ref (za 0)), (1, .int i1)] := hl
  have hinX3 : ∀ w ∈ u_ws RX3 TX3 18, w ∈ wsX3_best := by decide +kernel
  have hP : va_P G.1 vwCl (wMOc G za zz_0 zz_1 zz_2 zz_3 zz_4 zz_5 zz_6 zz_7 zz_8 zz_9 zz_10 zz_11 zz_12 zz_13 zz_14 zz_15 zz_16 zz_17) H := hP
  have hD : va_D A (wMOc G za zz_0 zz_1 zz_2 zz_3 zz_4 zz_5 zz_6 zz_7 zz_8 zz_9 zz_10 zz_11 zz_12 zz_13 zz_14 zz_15 zz_16 zz_17) := hD
  have h := (f_X3_best_e zz_0 zz_1 zz_2 zz_3 zz_4 zz_5 zz_6 zz_7 zz_8 zz_9 zz_10 zz_11 zz_12 zz_13 zz_14 zz_15 zz_16 zz_17 i1).symm.trans h
  refine lv_iconst (v := (0 : Int32)) hx hb dX3_best_0 (by decide) ?_
  refine lv_istore_n (lv' := [(2, .int (0 : Int32)), (0, .ref (za 0)), (1, .int i1)]) hx hb dX3_best_1 rfl hl (by decide) rfl (fun ls hl => ?_)
  refine lv_iconst (v := (1 : Int32)) hx hb dX3_best_2 (by decide) ?_
  refine lv_istore_n (lv' := [(3, .int (1 : Int32)), (2, .int (0 : Int32)), (0, .ref (za 0)), (1, .int i1)]) hx hb dX3_best_3 rfl hl (by decide) rfl (fun ls hl => ?_)
  obtain ⟨w2, hw2, h⟩ := sp_b h
  refine xk_jn G A s.heap (wMOc G za zz_0 zz_1 zz_2 zz_3 zz_4 zz_5 zz_6 zz_7 zz_8 zz_9 zz_10 zz_11 zz_12 zz_13 zz_14 zz_15 zz_16 zz_17) 5 [(2, .int w2)] 74 [] (fun H locs hP hD hS ls hl => ?_) (fun J1 => ?_)
  · refine lv_iload_n hx hb dX3_best_74 rfl (lv_at hl 0 rfl) ?_
    obtain rfl := sp_s h
    exact xk_reI hx hb hr hlk hP hD hS rfl dX3_best_75
  · have h := hw2
    clear hw2
    refine xk_lp (α := Int32 × Int32) G A s.heap (fun a_1 => (wMOc G za zz_0 zz_1 zz_2 zz_3 zz_4 zz_5 zz_6 zz_7 zz_8 zz_9 zz_10 zz_11 zz_12 zz_13 zz_14 zz_15 zz_16 zz_17)) 5 (fun a_1 => [(3, .int a_1.1), (2, .int a_1.2), (0, .ref (za 0)), (1, .int i1)]) 4 (fun n a_1 => f_X3_best_l4 zz_0 zz_1 zz_2 zz_3 zz_4 zz_5 zz_6 zz_7 zz_8 zz_9 zz_10 zz_11 zz_12 zz_13 zz_14 zz_15 zz_16 zz_17 i1 n a_1.1 a_1.2 = some w2) (fun a_1 h => ?_) (fun n ih_1 a_1 h H locs hP hD hS ls hl => ?_) (fun LL => ?_)
    · exact sp_n ((f_X3_best_l4_z _ _ _ _ _ _ _ _ _ _ _ _ _ _ _ _ _ _ _ _ _).symm.trans h)
    · obtain ⟨x3_1, x2_1⟩ := a_1
      have h := (f_X3_best_l4_s zz_0 zz_1 zz_2 zz_3 zz_4 zz_5 zz_6 zz_7 zz_8 zz_9 zz_10 zz_11 zz_12 zz_13 zz_14 zz_15 zz_16 zz_17 i1 n x3_1 x2_1).symm.trans h
      have hP : va_P G.1 vwCl (wMOc G za zz_0 zz_1 zz_2 zz_3 zz_4 zz_5 zz_6 zz_7 zz_8 zz_9 zz_10 zz_11 zz_12 zz_13 zz_14 zz_15 zz_16 zz_17) H := hP
      have hD : va_D A (wMOc G za zz_0 zz_1 zz_2 zz_3 zz_4 zz_5 zz_6 zz_7 zz_8 zz_9 zz_10 zz_11 zz_12 zz_13 zz_14 zz_15 zz_16 zz_17) := hD
      have hl : lv_has ls 5 [(3, .int x3_1), (2, .int x2_1), (0, .ref (za 0)), (1, .int i1)] := hl
      refine lv_iload_n hx hb dX3_best_4 rfl (lv_at hl 0 rfl) ?_
      refine lv_iconst (v := (1 : Int32)) hx hb dX3_best_5 (by decide) ?_
      refine lv_aload_n hx hb dX3_best_6 rfl (lv_at hl 2 rfl) ?_
      refine va_get (D := G.1) (ci := 3) (v := .int zz_0) (C := RX3) (T := TX3) (N := 18) hx hb hts hinX3 hown hK hP 0 rfl rfl 0 (by decide) (hts (.fieldLink RX3 60 "LessonWeaveModel" "aims" "I") (by decide +kernel)) (fun _ h9 => h9) rfl dX3_best_7 ?_
      refine lv_ishl hx hb dX3_best_10 ?_
      refine lv_icmp_ge (tgt := 74) hx hb dX3_best_11 (by decide) (fun c3 => ?_) (fun c3 => ?_)
      · have h := sp_t c3 h
        obtain rfl := sp_s h
        exact J1 _ _ hP hD hS _ (lv_sub hl [1] rfl)
      · have h := sp_f c3 h
        refine lv_aload_n hx hb dX3_best_14 rfl (lv_at hl 2 rfl) ?_
        refine lv_iload_n hx hb dX3_best_15 rfl (lv_at hl 0 rfl) ?_
        obtain ⟨o4, ho4, h⟩ := sp_b h
        refine xk_ci (va_runV (As := [.int x3_1]) (rest := []) ⟨hx, hb, hml, hown, hts⟩ (c_X3_isClosed l G za (zz_0, zz_1, zz_2, zz_3, zz_4, zz_5, zz_6, zz_7, zz_8, zz_9, zz_10, zz_11, zz_12, zz_13, zz_14, zz_15, zz_16, zz_17) x3_1 o4 ho4 H.size) (cwV 1 hts gX3_best_X3_isClosed rfl rfl rfl (by decide +kernel) ⟨Nat.le_of_ble_eq_true rfl, Nat.le_of_ble_eq_true rfl⟩) (xk_preV hK hNE (hP.sub (ws' := (wMOc G za zz_0 zz_1 zz_2 zz_3 zz_4 zz_5 zz_6 zz_7 zz_8 zz_9 zz_10 zz_11 zz_12 zz_13 zz_14 zz_15 zz_16 zz_17)) [0, 1, 2, 3, 4, 5, 6, 7, 8, 9, 10, 11, 12, 13, 14, 15] rfl) (hD.sub (ws' := (wMOc G za zz_0 zz_1 zz_2 zz_3 zz_4 zz_5 zz_6 zz_7 zz_8 zz_9 zz_10 zz_11 zz_12 zz_13 zz_14 zz_15 zz_16 zz_17)) [0, 1, 2, 3, 4, 5, 6, 7, 8, 9, 10, 11, 12, 13, 14, 15] (by decide) rfl) (ci := 3) rfl rfl) rfl rfl hl.1 rfl (lv_room (Nat.le_of_ble_eq_true rfl)) dX3_best_16 ⟨Nat.le_of_ble_eq_true rfl, Nat.le_of_ble_eq_true rfl⟩) hP hD hS hA [0, 1, 2, 3, 4, 5, 6, 7, 8, 9, 10, 11, 12, 13, 14, 15] [] [0, 1, 2, 3, 4, 5, 6, 7, 8, 9, 10, 11, 12, 13, 14, 15] rfl rfl (by decide) (by decide) rfl (by decide) (fun H locs hP hD hS => ?_)
        have hP : va_P G.1 vwCl (wMOc G za zz_0 zz_1 zz_2 zz_3 zz_4 zz_5 zz_6 zz_7 zz_8 zz_9 zz_10 zz_11 zz_12 zz_13 zz_14 zz_15 zz_16 zz_17) H := hP
        have hD : va_D A (wMOc G za zz_0 zz_1 zz_2 zz_3 zz_4 zz_5 zz_6 zz_7 zz_8 zz_9 zz_10 zz_11 zz_12 zz_13 zz_14 zz_15 zz_16 zz_17) := hD
        obtain ⟨v5, hv5, h⟩ := sp_b h
        refine xk_jn G A s.heap (wMOc G za zz_0 zz_1 zz_2 zz_3 zz_4 zz_5 zz_6 zz_7 zz_8 zz_9 zz_10 zz_11 zz_12 zz_13 zz_14 zz_15 zz_16 zz_17) 5 [(3, .int x3_1), (2, .int x2_1), (0, .ref (za 0)), (1, .int i1)] 39 [.int v5] (fun H locs hP hD hS ls hl => ?_) (fun J5 => ?_)
        · refine lv_istore (lv' := [(4, .int v5), (3, .int x3_1), (2, .int x2_1), (0, .ref (za 0)), (1, .int i1)]) hx hb dX3_best_39 hl (by decide) rfl (fun ls hl => ?_)
          refine lv_iload hx hb dX3_best_41 (lv_at hl 0 rfl) ?_
          refine lv_if_gt (tgt := 62) hx hb dX3_best_43 (by decide) (fun c6 => ?_) (fun c6 => ?_)
          · have h := sp_t c6 h
            refine lv_iload_n hx hb dX3_best_62 rfl (lv_at hl 1 rfl) ?_
            refine lv_goto (tgt := 67) hx hb dX3_best_63 (by decide) ?_
            refine lv_istore_n (lv' := [(2, .int x3_1), (4, .int v5), (3, .int x3_1), (0, .ref (za 0)), (1, .int i1)]) hx hb dX3_best_67 rfl hl (by decide) rfl (fun ls hl => ?_)
            refine lv_iinc (v := (x3_1 + (1 : Int32))) (lv' := [(3, .int (x3_1 + (1 : Int32))), (2, .int x3_1), (4, .int v5), (0, .ref (za 0)), (1, .int i1)]) hx hb dX3_best_68 hl (k := 2) rfl rfl (by decide) rfl (fun ls hl => ?_)
            refine lv_goto (tgt := 4) hx hb dX3_best_71 (by decide) ?_
            exact ih_1 ((x3_1 + (1 : Int32)), x3_1) h _ _ hP hD hS _ (lv_sub hl [0, 1, 3, 4] rfl)
          · have h := sp_f c6 h
            refine lv_iload hx hb dX3_best_46 (lv_at hl 0 rfl) ?_
            refine lv_if_ne (tgt := 66) hx hb dX3_best_48 (by decide) (fun c7 => ?_) (fun c7 => ?_)
            · have h := sp_f c7 h
              refine lv_iload_n hx hb dX3_best_66 rfl (lv_at hl 2 rfl) ?_
              refine lv_istore_n (lv' := [(2, .int x2_1), (4, .int v5), (3, .int x3_1), (0, .ref (za 0)), (1, .int i1)]) hx hb dX3_best_67 rfl hl (by decide) rfl (fun ls hl => ?_)
              refine lv_iinc (v := (x3_1 + (1 : Int32))) (lv' := [(3, .int (x3_1 + (1 : Int32))), (2, .int x2_1), (4, .int v5), (0, .ref (za 0)), (1, .int i1)]) hx hb dX3_best_68 hl (k := 2) rfl rfl (by decide) rfl (fun ls hl => ?_)
              refine lv_goto (tgt := 4) hx hb dX3_best_71 (by decide) ?_
              exact ih_1 ((x3_1 + (1 : Int32)), x2_1) h _ _ hP hD hS _ (lv_sub hl [0, 1, 3, 4] rfl)
            · have h := sp_t c7 h
              refine lv_iload_n hx hb dX3_best_51 rfl (lv_at hl 1 rfl) ?_
              obtain ⟨o8, ho8, h⟩ := sp_b h
              refine xk_ci (va_runS (As := [.int x3_1]) (rest := []) ⟨hx, hb, hml, hown, hts⟩ (c_X3_size l G x3_1 o8 ho8 H.size) (va_cwS 1 hts gX3_best_X3_size rfl rfl rfl (by decide +kernel) ⟨Nat.le_of_ble_eq_true rfl, Nat.le_of_ble_eq_true rfl⟩) (xk_preS hK hNE (hP.sub (ws' := []) [] rfl) (hD.sub (ws' := []) [] (by decide) rfl)) rfl rfl hl.1 rfl (lv_room (Nat.le_of_ble_eq_true rfl)) dX3_best_52 ⟨Nat.le_of_ble_eq_true rfl, Nat.le_of_ble_eq_true rfl⟩) hP hD hS hA [] [0, 1, 2, 3, 4, 5, 6, 7, 8, 9, 10, 11, 12, 13, 14, 15] [0, 1, 2, 3, 4, 5, 6, 7, 8, 9, 10, 11, 12, 13, 14, 15] rfl rfl (by decide) (by decide) rfl (by decide) (fun H locs hP hD hS => ?_)
              have hP : va_P G.1 vwCl (wMOc G za zz_0 zz_1 zz_2 zz_3 zz_4 zz_5 zz_6 zz_7 zz_8 zz_9 zz_10 zz_11 zz_12 zz_13 zz_14 zz_15 zz_16 zz_17) H := hP
              have hD : va_D A (wMOc G za zz_0 zz_1 zz_2 zz_3 zz_4 zz_5 zz_6 zz_7 zz_8 zz_9 zz_10 zz_11 zz_12 zz_13 zz_14 zz_15 zz_16 zz_17) := hD
              refine lv_iload_n hx hb dX3_best_55 rfl (lv_at hl 2 rfl) ?_
              obtain ⟨o9, ho9, h⟩ := sp_b h
              refine xk_ci (va_runS (As := [.int x2_1]) (rest := [.int o8]) ⟨hx, hb, hml, hown, hts⟩ (c_X3_size l G x2_1 o9 ho9 H.size) (va_cwS 1 hts gX3_best_X3_size rfl rfl rfl (by decide +kernel) ⟨Nat.le_of_ble_eq_true rfl, Nat.le_of_ble_eq_true rfl⟩) (xk_preS hK hNE (hP.sub (ws' := []) [] rfl) (hD.sub (ws' := []) [] (by decide) rfl)) rfl rfl hl.1 rfl (lv_room (Nat.le_of_ble_eq_true rfl)) dX3_best_56 ⟨Nat.le_of_ble_eq_true rfl, Nat.le_of_ble_eq_true rfl⟩) hP hD hS hA [] [0, 1, 2, 3, 4, 5, 6, 7, 8, 9, 10, 11, 12, 13, 14, 15] [0, 1, 2, 3, 4, 5, 6, 7, 8, 9, 10, 11, 12, 13, 14, 15] rfl rfl (by decide) (by decide) rfl (by decide) (fun H locs hP hD hS => ?_)
              have hP : va_P G.1 vwCl (wMOc G za zz_0 zz_1 zz_2 zz_3 zz_4 zz_5 zz_6 zz_7 zz_8 zz_9 zz_10 zz_11 zz_12 zz_13 zz_14 zz_15 zz_16 zz_17) H := hP
              have hD : va_D A (wMOc G za zz_0 zz_1 zz_2 zz_3 zz_4 zz_5 zz_6 zz_7 zz_8 zz_9 zz_10 zz_11 zz_12 zz_13 zz_14 zz_15 zz_16 zz_17) := hD
              refine lv_icmp_ge (tgt := 66) hx hb dX3_best_59 (by decide) (fun c10 => ?_) (fun c10 => ?_)
              · have h := sp_t c10 h
                refine lv_iload_n hx hb dX3_best_66 rfl (lv_at hl 2 rfl) ?_
                refine lv_istore_n (lv' := [(2, .int x2_1), (4, .int v5), (3, .int x3_1), (0, .ref (za 0)), (1, .int i1)]) hx hb dX3_best_67 rfl hl (by decide) rfl (fun ls hl => ?_)
                refine lv_iinc (v := (x3_1 + (1 : Int32))) (lv' := [(3, .int (x3_1 + (1 : Int32))), (2, .int x2_1), (4, .int v5), (0, .ref (za 0)), (1, .int i1)]) hx hb dX3_best_68 hl (k := 2) rfl rfl (by decide) rfl (fun ls hl => ?_)
                refine lv_goto (tgt := 4) hx hb dX3_best_71 (by decide) ?_
                exact ih_1 ((x3_1 + (1 : Int32)), x2_1) h _ _ hP hD hS _ (lv_sub hl [0, 1, 3, 4] rfl)
              · have h := sp_f c10 h
                refine lv_iload_n hx hb dX3_best_62 rfl (lv_at hl 1 rfl) ?_
                refine lv_goto (tgt := 67) hx hb dX3_best_63 (by decide) ?_
                refine lv_istore_n (lv' := [(2, .int x3_1), (4, .int v5), (3, .int x3_1), (0, .ref (za 0)), (1, .int i1)]) hx hb dX3_best_67 rfl hl (by decide) rfl (fun ls hl => ?_)
                refine lv_iinc (v := (x3_1 + (1 : Int32))) (lv' := [(3, .int (x3_1 + (1 : Int32))), (2, .int x3_1), (4, .int v5), (0, .ref (za 0)), (1, .int i1)]) hx hb dX3_best_68 hl (k := 2) rfl rfl (by decide) rfl (fun ls hl => ?_)
                refine lv_goto (tgt := 4) hx hb dX3_best_71 (by decide) ?_
                exact ih_1 ((x3_1 + (1 : Int32)), x3_1) h _ _ hP hD hS _ (lv_sub hl [0, 1, 3, 4] rfl)
        · have h := hv5
          clear hv5
          refine lv_if_eq (tgt := 38) hx hb dX3_best_19 (by decide) (fun c11 => ?_) (fun c11 => ?_)
          · have h := sp_t c11 h
            refine lv_iconst (v := ((-1) : Int32)) hx hb dX3_best_38 (by decide) ?_
            obtain rfl := sp_s h
            exact J5 _ _ hP hD hS _ (lv_sub hl [0, 1, 2, 3] rfl)
          · have h := sp_f c11 h
            refine lv_aload_n hx hb dX3_best_22 rfl (lv_at hl 2 rfl) ?_
            refine lv_iload_n hx hb dX3_best_23 rfl (lv_at hl 0 rfl) ?_
            refine lv_iload_n hx hb dX3_best_24 rfl (lv_at hl 3 rfl) ?_
            obtain ⟨o12, ho12, h⟩ := sp_b h
            refine xk_ci (va_runV (As := [.int x3_1, .int i1]) (rest := []) ⟨hx, hb, hml, hown, hts⟩ (c_X3_net l G za (zz_0, zz_1, zz_2, zz_3, zz_4, zz_5, zz_6, zz_7, zz_8, zz_9, zz_10, zz_11, zz_12, zz_13, zz_14, zz_15, zz_16, zz_17) x3_1 i1 o12 ho12 H.size) (cwV 2 hts gX3_best_X3_net rfl rfl rfl (by decide +kernel) ⟨Nat.le_of_ble_eq_true rfl, Nat.le_of_ble_eq_true rfl⟩) (xk_preV hK hNE (hP.sub (ws' := (wMOc G za zz_0 zz_1 zz_2 zz_3 zz_4 zz_5 zz_6 zz_7 zz_8 zz_9 zz_10 zz_11 zz_12 zz_13 zz_14 zz_15 zz_16 zz_17)) [0, 1, 2, 3, 4, 5, 6, 7, 8, 9, 10, 11, 12, 13, 14, 15] rfl) (hD.sub (ws' := (wMOc G za zz_0 zz_1 zz_2 zz_3 zz_4 zz_5 zz_6 zz_7 zz_8 zz_9 zz_10 zz_11 zz_12 zz_13 zz_14 zz_15 zz_16 zz_17)) [0, 1, 2, 3, 4, 5, 6, 7, 8, 9, 10, 11, 12, 13, 14, 15] (by decide) rfl) (ci := 3) rfl rfl) rfl rfl hl.1 rfl (lv_room (Nat.le_of_ble_eq_true rfl)) dX3_best_25 ⟨Nat.le_of_ble_eq_true rfl, Nat.le_of_ble_eq_true rfl⟩) hP hD hS hA [0, 1, 2, 3, 4, 5, 6, 7, 8, 9, 10, 11, 12, 13, 14, 15] [] [0, 1, 2, 3, 4, 5, 6, 7, 8, 9, 10, 11, 12, 13, 14, 15] rfl rfl (by decide) (by decide) rfl (by decide) (fun H locs hP hD hS => ?_)
            have hP : va_P G.1 vwCl (wMOc G za zz_0 zz_1 zz_2 zz_3 zz_4 zz_5 zz_6 zz_7 zz_8 zz_9 zz_10 zz_11 zz_12 zz_13 zz_14 zz_15 zz_16 zz_17) H := hP
            have hD : va_D A (wMOc G za zz_0 zz_1 zz_2 zz_3 zz_4 zz_5 zz_6 zz_7 zz_8 zz_9 zz_10 zz_11 zz_12 zz_13 zz_14 zz_15 zz_16 zz_17) := hD
            refine lv_aload_n hx hb dX3_best_28 rfl (lv_at hl 2 rfl) ?_
            refine lv_iload_n hx hb dX3_best_29 rfl (lv_at hl 1 rfl) ?_
            refine lv_iload_n hx hb dX3_best_30 rfl (lv_at hl 3 rfl) ?_
            obtain ⟨o13, ho13, h⟩ := sp_b h
            refine xk_ci (va_runV (As := [.int x2_1, .int i1]) (rest := [.int o12]) ⟨hx, hb, hml, hown, hts⟩ (c_X3_net l G za (zz_0, zz_1, zz_2, zz_3, zz_4, zz_5, zz_6, zz_7, zz_8, zz_9, zz_10, zz_11, zz_12, zz_13, zz_14, zz_15, zz_16, zz_17) x2_1 i1 o13 ho13 H.size) (cwV 2 hts gX3_best_X3_net rfl rfl rfl (by decide +kernel) ⟨Nat.le_of_ble_eq_true rfl, Nat.le_of_ble_eq_true rfl⟩) (xk_preV hK hNE (hP.sub (ws' := (wMOc G za zz_0 zz_1 zz_2 zz_3 zz_4 zz_5 zz_6 zz_7 zz_8 zz_9 zz_10 zz_11 zz_12 zz_13 zz_14 zz_15 zz_16 zz_17)) [0, 1, 2, 3, 4, 5, 6, 7, 8, 9, 10, 11, 12, 13, 14, 15] rfl) (hD.sub (ws' := (wMOc G za zz_0 zz_1 zz_2 zz_3 zz_4 zz_5 zz_6 zz_7 zz_8 zz_9 zz_10 zz_11 zz_12 zz_13 zz_14 zz_15 zz_16 zz_17)) [0, 1, 2, 3, 4, 5, 6, 7, 8, 9, 10, 11, 12, 13, 14, 15] (by decide) rfl) (ci := 3) rfl rfl) rfl rfl hl.1 rfl (lv_room (Nat.le_of_ble_eq_true rfl)) dX3_best_31 ⟨Nat.le_of_ble_eq_true rfl, Nat.le_of_ble_eq_true rfl⟩) hP hD hS hA [0, 1, 2, 3, 4, 5, 6, 7, 8, 9, 10, 11, 12, 13, 14, 15] [] [0, 1, 2, 3, 4, 5, 6, 7, 8, 9, 10, 11, 12, 13, 14, 15] rfl rfl (by decide) (by decide) rfl (by decide) (fun H locs hP hD hS => ?_)
            have hP : va_P G.1 vwCl (wMOc G za zz_0 zz_1 zz_2 zz_3 zz_4 zz_5 zz_6 zz_7 zz_8 zz_9 zz_10 zz_11 zz_12 zz_13 zz_14 zz_15 zz_16 zz_17) H := hP
            have hD : va_D A (wMOc G za zz_0 zz_1 zz_2 zz_3 zz_4 zz_5 zz_6 zz_7 zz_8 zz_9 zz_10 zz_11 zz_12 zz_13 zz_14 zz_15 zz_16 zz_17) := hD
            refine lv_isub hx hb dX3_best_34 ?_
            refine lv_goto (tgt := 39) hx hb dX3_best_35 (by decide) ?_
            obtain rfl := sp_s h
            exact J5 _ _ hP hD hS _ (lv_sub hl [0, 1, 2, 3] rfl)
    · exact LL 5000 ((1 : Int32), (0 : Int32)) h _ _ hP hD hS _ (lv_sub hl [0, 1, 2, 3] rfl)
def f_X3_worthwhile (zz : xMO) (i1 : Int32) : Option (Int32 × Int32) :=
  Option.bind (f_X3_isIn i1 (0 : Int32) (99 : Int32)) fun (o1 : Int32) =>
  Option.bind (
    if o1 = 0 then
      some (1 : Int32)
    else
      some (0 : Int32)) fun (v2 : Int32) =>
  Option.bind (f_X3_can (zz.1, zz.2.1, zz.2.2.1, zz.2.2.2.1, zz.2.2.2.2.1, zz.2.2.2.2.2.1, zz.2.2.2.2.2.2.1, zz.2.2.2.2.2.2.2.1, zz.2.2.2.2.2.2.2.2.1, zz.2.2.2.2.2.2.2.2.2.1, zz.2.2.2.2.2.2.2.2.2.2.1, zz.2.2.2.2.2.2.2.2.2.2.2.1, zz.2.2.2.2.2.2.2.2.2.2.2.2.1, zz.2.2.2.2.2.2.2.2.2.2.2.2.2.1, zz.2.2.2.2.2.2.2.2.2.2.2.2.2.2.1, zz.2.2.2.2.2.2.2.2.2.2.2.2.2.2.2.1, zz.2.2.2.2.2.2.2.2.2.2.2.2.2.2.2.2.1, zz.2.2.2.2.2.2.2.2.2.2.2.2.2.2.2.2.2) v2) fun (o3 : Int32 × Int32) =>
  if o3.1 = 0 then
    some ((0 : Int32), o3.2)
  else
    Option.bind (f_X3_best (zz.1, zz.2.1, zz.2.2.1, zz.2.2.2.1, zz.2.2.2.2.1, zz.2.2.2.2.2.1, zz.2.2.2.2.2.2.1, zz.2.2.2.2.2.2.2.1, zz.2.2.2.2.2.2.2.2.1, zz.2.2.2.2.2.2.2.2.2.1, zz.2.2.2.2.2.2.2.2.2.2.1, zz.2.2.2.2.2.2.2.2.2.2.2.1, zz.2.2.2.2.2.2.2.2.2.2.2.2.1, zz.2.2.2.2.2.2.2.2.2.2.2.2.2.1, zz.2.2.2.2.2.2.2.2.2.2.2.2.2.2.1, zz.2.2.2.2.2.2.2.2.2.2.2.2.2.2.2.1, zz.2.2.2.2.2.2.2.2.2.2.2.2.2.2.2.2.1, o3.2) i1) fun (o5 : Int32) =>
    some (o5, o3.2)
theorem f_X3_worthwhile_e (zz_0 : Int32) (zz_1 : xF) (zz_2 : xF) (zz_3 : xF) (zz_4 : xF) (zz_5 : xF) (zz_6 : xF) (zz_7 : xF) (zz_8 : xF) (zz_9 : xF) (zz_10 : xF) (zz_11 : xF) (zz_12 : xF) (zz_13 : xF) (zz_14 : xF) (zz_15 : xF) (zz_16 : Int32) (zz_17 : Int32) (i1 : Int32) : f_X3_worthwhile (zz_0, zz_1, zz_2, zz_3, zz_4, zz_5, zz_6, zz_7, zz_8, zz_9, zz_10, zz_11, zz_12, zz_13, zz_14, zz_15, zz_16, zz_17) i1 =
  Option.bind (f_X3_isIn i1 (0 : Int32) (99 : Int32)) fun (o1 : Int32) =>
  Option.bind (
    if o1 = 0 then
      some (1 : Int32)
    else
      some (0 : Int32)) fun (v2 : Int32) =>
  Option.bind (f_X3_can (zz_0, zz_1, zz_2, zz_3, zz_4, zz_5, zz_6, zz_7, zz_8, zz_9, zz_10, zz_11, zz_12, zz_13, zz_14, zz_15, zz_16, zz_17) v2) fun (o3 : Int32 × Int32) =>
  if o3.1 = 0 then
    some ((0 : Int32), o3.2)
  else
    Option.bind (f_X3_best (zz_0, zz_1, zz_2, zz_3, zz_4, zz_5, zz_6, zz_7, zz_8, zz_9, zz_10, zz_11, zz_12, zz_13, zz_14, zz_15, zz_16, o3.2) i1) fun (o5 : Int32) =>
    some (o5, o3.2) := rfl
set_option maxHeartbeats 4000000 in
set_option maxRecDepth 100000 in
theorem c_X3_worthwhile (l : Launch) (G : xG) (za : (Nat → Nat)) (zz : xMO) (i1 : Int32) (o : Int32 × Int32) (h : f_X3_worthwhile zz i1 = some o) : xk_CI l yX3_worthwhile wsX3_worthwhile ({ frames := 2, cells := 0, slots := 0, locals := 48 } : Room) 0 0 [.ref (za 0), .int i1] G (wMOc G za zz.1 zz.2.1 zz.2.2.1 zz.2.2.2.1 zz.2.2.2.2.1 zz.2.2.2.2.2.1 zz.2.2.2.2.2.2.1 zz.2.2.2.2.2.2.2.1 zz.2.2.2.2.2.2.2.2.1 zz.2.2.2.2.2.2.2.2.2.1 zz.2.2.2.2.2.2.2.2.2.2.1 zz.2.2.2.2.2.2.2.2.2.2.2.1 zz.2.2.2.2.2.2.2.2.2.2.2.2.1 zz.2.2.2.2.2.2.2.2.2.2.2.2.2.1 zz.2.2.2.2.2.2.2.2.2.2.2.2.2.2.1 zz.2.2.2.2.2.2.2.2.2.2.2.2.2.2.2.1 zz.2.2.2.2.2.2.2.2.2.2.2.2.2.2.2.2.1 zz.2.2.2.2.2.2.2.2.2.2.2.2.2.2.2.2.2) (wMOc G za zz.1 zz.2.1 zz.2.2.1 zz.2.2.2.1 zz.2.2.2.2.1 zz.2.2.2.2.2.1 zz.2.2.2.2.2.2.1 zz.2.2.2.2.2.2.2.1 zz.2.2.2.2.2.2.2.2.1 zz.2.2.2.2.2.2.2.2.2.1 zz.2.2.2.2.2.2.2.2.2.2.1 zz.2.2.2.2.2.2.2.2.2.2.2.1 zz.2.2.2.2.2.2.2.2.2.2.2.2.1 zz.2.2.2.2.2.2.2.2.2.2.2.2.2.1 zz.2.2.2.2.2.2.2.2.2.2.2.2.2.2.1 zz.2.2.2.2.2.2.2.2.2.2.2.2.2.2.2.1 zz.2.2.2.2.2.2.2.2.2.2.2.2.2.2.2.2.1 o.2) o.1 := by
  obtain ⟨zz_0, zz_1, zz_2, zz_3, zz_4, zz_5, zz_6, zz_7, zz_8, zz_9, zz_10, zz_11, zz_12, zz_13, zz_14, zz_15, zz_16, zz_17⟩ := zz
  refine xk_CI.of (cc := cX3_worthwhile) (maxL := 2) (ret := (some .int)) (by decide) rfl (Nat.le_of_ble_eq_true rfl) ?_
  intro pr9 en9 s mm9 bl9 meth9 cd9 A ls H locs hx hb hr hml hts hown hlk hA hP hK hD hNE hS hl
  have hown : s.vm.findClass RX3 = some mm9.cls := hown
  have hl : lv_has ls 2 [(0, .ref (za 0)), (1, .int i1)] := hl
  have hP : va_P G.1 vwCl (wMOc G za zz_0 zz_1 zz_2 zz_3 zz_4 zz_5 zz_6 zz_7 zz_8 zz_9 zz_10 zz_11 zz_12 zz_13 zz_14 zz_15 zz_16 zz_17) H := hP
  have hD : va_D A (wMOc G za zz_0 zz_1 zz_2 zz_3 zz_4 zz_5 zz_6 zz_7 zz_8 zz_9 zz_10 zz_11 zz_12 zz_13 zz_14 zz_15 zz_16 zz_17) := hD
  have h := (f_X3_worthwhile_e zz_0 zz_1 zz_2 zz_3 zz_4 zz_5 zz_6 zz_7 zz_8 zz_9 zz_10 zz_11 zz_12 zz_13 zz_14 zz_15 zz_16 zz_17 i1).symm.trans h
  refine lv_aload_n hx hb dX3_worthwhile_0 rfl (lv_at hl 0 rfl) ?_
  refine lv_iload_n hx hb dX3_worthwhile_1 rfl (lv_at hl 1 rfl) ?_
  refine lv_iconst (v := (0 : Int32)) hx hb dX3_worthwhile_2 (by decide) ?_
  refine lv_bipush (v := (99 : Int32)) hx hb dX3_worthwhile_3 (by decide) ?_
  obtain ⟨o1, ho1, h⟩ := sp_b h
  refine xk_ci (va_runS (As := [.int i1, .int (0 : Int32), .int (99 : Int32)]) (rest := [.ref (za 0)]) ⟨hx, hb, hml, hown, hts⟩ (c_X3_isIn l G i1 (0 : Int32) (99 : Int32) o1 ho1 H.size) (va_cwS 3 hts gX3_worthwhile_X3_isIn rfl rfl rfl (by decide +kernel) ⟨Nat.le_of_ble_eq_true rfl, Nat.le_of_ble_eq_true rfl⟩) (xk_preS hK hNE (hP.sub (ws' := []) [] rfl) (hD.sub (ws' := []) [] (by decide) rfl)) rfl rfl hl.1 rfl (lv_room (Nat.le_of_ble_eq_true rfl)) dX3_worthwhile_5 ⟨Nat.le_of_ble_eq_true rfl, Nat.le_of_ble_eq_true rfl⟩) hP hD hS hA [] [0, 1, 2, 3, 4, 5, 6, 7, 8, 9, 10, 11, 12, 13, 14, 15] [0, 1, 2, 3, 4, 5, 6, 7, 8, 9, 10, 11, 12, 13, 14, 15] rfl rfl (by decide) (by decide) rfl (by decide) (fun H locs hP hD hS => ?_)
  have hP : va_P G.1 vwCl (wMOc G za zz_0 zz_1 zz_2 zz_3 zz_4 zz_5 zz_6 zz_7 zz_8 zz_9 zz_10 zz_11 zz_12 zz_13 zz_14 zz_15 zz_16 zz_17) H := hP
  have hD : va_D A (wMOc G za zz_0 zz_1 zz_2 zz_3 zz_4 zz_5 zz_6 zz_7 zz_8 zz_9 zz_10 zz_11 zz_12 zz_13 zz_14 zz_15 zz_16 zz_17) := hD
  obtain ⟨v2, hv2, h⟩ := sp_b h
  refine xk_jn G A s.heap (wMOc G za zz_0 zz_1 zz_2 zz_3 zz_4 zz_5 zz_6 zz_7 zz_8 zz_9 zz_10 zz_11 zz_12 zz_13 zz_14 zz_15 zz_16 zz_17) 2 [(0, .ref (za 0)), (1, .int i1)] 16 [.int v2, .ref (za 0)] (fun H locs hP hD hS ls hl => ?_) (fun J2 => ?_)
  · obtain ⟨o3, ho3, h⟩ := sp_b h
    refine xk_ci (va_runV (As := [.int v2]) (rest := []) ⟨hx, hb, hml, hown, hts⟩ (c_X3_can l G za (zz_0, zz_1, zz_2, zz_3, zz_4, zz_5, zz_6, zz_7, zz_8, zz_9, zz_10, zz_11, zz_12, zz_13, zz_14, zz_15, zz_16, zz_17) v2 o3 ho3 H.size) (cwV 1 hts gX3_worthwhile_X3_can rfl rfl rfl (by decide +kernel) ⟨Nat.le_of_ble_eq_true rfl, Nat.le_of_ble_eq_true rfl⟩) (xk_preV hK hNE (hP.sub (ws' := (wMOc G za zz_0 zz_1 zz_2 zz_3 zz_4 zz_5 zz_6 zz_7 zz_8 zz_9 zz_10 zz_11 zz_12 zz_13 zz_14 zz_15 zz_16 zz_17)) [0, 1, 2, 3, 4, 5, 6, 7, 8, 9, 10, 11, 12, 13, 14, 15] rfl) (hD.sub (ws' := (wMOc G za zz_0 zz_1 zz_2 zz_3 zz_4 zz_5 zz_6 zz_7 zz_8 zz_9 zz_10 zz_11 zz_12 zz_13 zz_14 zz_15 zz_16 zz_17)) [0, 1, 2, 3, 4, 5, 6, 7, 8, 9, 10, 11, 12, 13, 14, 15] (by decide) rfl) (ci := 3) rfl rfl) rfl rfl hl.1 rfl (lv_room (Nat.le_of_ble_eq_true rfl)) dX3_worthwhile_16 ⟨Nat.le_of_ble_eq_true rfl, Nat.le_of_ble_eq_true rfl⟩) hP hD hS hA [0, 1, 2, 3, 4, 5, 6, 7, 8, 9, 10, 11, 12, 13, 14, 15] [] [0, 1, 2, 3, 4, 5, 6, 7, 8, 9, 10, 11, 12, 13, 14, 15] rfl rfl (by decide) (by decide) rfl (by decide) (fun H locs hP hD hS => ?_)
    have hP : va_P G.1 vwCl (wMOc G za zz_0 zz_1 zz_2 zz_3 zz_4 zz_5 zz_6 zz_7 zz_8 zz_9 zz_10 zz_11 zz_12 zz_13 zz_14 zz_15 zz_16 o3.2) H := hP
    have hD : va_D A (wMOc G za zz_0 zz_1 zz_2 zz_3 zz_4 zz_5 zz_6 zz_7 zz_8 zz_9 zz_10 zz_11 zz_12 zz_13 zz_14 zz_15 zz_16 o3.2) := hD
    refine lv_if_eq (tgt := 30) hx hb dX3_worthwhile_19 (by decide) (fun c4 => ?_) (fun c4 => ?_)
    · have h := sp_t c4 h
      refine lv_iconst (v := (0 : Int32)) hx hb dX3_worthwhile_30 (by decide) ?_
      obtain rfl := sp_s h
      exact xk_reI hx hb hr hlk hP hD hS rfl dX3_worthwhile_31
    · have h := sp_f c4 h
      refine lv_aload_n hx hb dX3_worthwhile_22 rfl (lv_at hl 0 rfl) ?_
      refine lv_iload_n hx hb dX3_worthwhile_23 rfl (lv_at hl 1 rfl) ?_
      obtain ⟨o5, ho5, h⟩ := sp_b h
      refine xk_ci (va_runV (As := [.int i1]) (rest := []) ⟨hx, hb, hml, hown, hts⟩ (c_X3_best l G za (zz_0, zz_1, zz_2, zz_3, zz_4, zz_5, zz_6, zz_7, zz_8, zz_9, zz_10, zz_11, zz_12, zz_13, zz_14, zz_15, zz_16, o3.2) i1 o5 ho5 H.size) (cwV 1 hts gX3_worthwhile_X3_best rfl rfl rfl (by decide +kernel) ⟨Nat.le_of_ble_eq_true rfl, Nat.le_of_ble_eq_true rfl⟩) (xk_preV hK hNE (hP.sub (ws' := (wMOc G za zz_0 zz_1 zz_2 zz_3 zz_4 zz_5 zz_6 zz_7 zz_8 zz_9 zz_10 zz_11 zz_12 zz_13 zz_14 zz_15 zz_16 o3.2)) [0, 1, 2, 3, 4, 5, 6, 7, 8, 9, 10, 11, 12, 13, 14, 15] rfl) (hD.sub (ws' := (wMOc G za zz_0 zz_1 zz_2 zz_3 zz_4 zz_5 zz_6 zz_7 zz_8 zz_9 zz_10 zz_11 zz_12 zz_13 zz_14 zz_15 zz_16 o3.2)) [0, 1, 2, 3, 4, 5, 6, 7, 8, 9, 10, 11, 12, 13, 14, 15] (by decide) rfl) (ci := 3) rfl rfl) rfl rfl hl.1 rfl (lv_room (Nat.le_of_ble_eq_true rfl)) dX3_worthwhile_24 ⟨Nat.le_of_ble_eq_true rfl, Nat.le_of_ble_eq_true rfl⟩) hP hD hS hA [0, 1, 2, 3, 4, 5, 6, 7, 8, 9, 10, 11, 12, 13, 14, 15] [] [0, 1, 2, 3, 4, 5, 6, 7, 8, 9, 10, 11, 12, 13, 14, 15] rfl rfl (by decide) (by decide) rfl (by decide) (fun H locs hP hD hS => ?_)
      have hP : va_P G.1 vwCl (wMOc G za zz_0 zz_1 zz_2 zz_3 zz_4 zz_5 zz_6 zz_7 zz_8 zz_9 zz_10 zz_11 zz_12 zz_13 zz_14 zz_15 zz_16 o3.2) H := hP
      have hD : va_D A (wMOc G za zz_0 zz_1 zz_2 zz_3 zz_4 zz_5 zz_6 zz_7 zz_8 zz_9 zz_10 zz_11 zz_12 zz_13 zz_14 zz_15 zz_16 o3.2) := hD
      refine lv_goto (tgt := 31) hx hb dX3_worthwhile_27 (by decide) ?_
      obtain rfl := sp_s h
      exact xk_reI hx hb hr hlk hP hD hS rfl dX3_worthwhile_31
  · have h := hv2
    clear hv2
    refine lv_if_eq (tgt := 15) hx hb dX3_worthwhile_8 (by decide) (fun c6 => ?_) (fun c6 => ?_)
    · have h := sp_t c6 h
      refine lv_iconst (v := (1 : Int32)) hx hb dX3_worthwhile_15 (by decide) ?_
      obtain rfl := sp_s h
      exact J2 _ _ hP hD hS _ (lv_sub hl [0, 1] rfl)
    · have h := sp_f c6 h
      refine lv_iconst (v := (0 : Int32)) hx hb dX3_worthwhile_11 (by decide) ?_
      refine lv_goto (tgt := 16) hx hb dX3_worthwhile_12 (by decide) ?_
      obtain rfl := sp_s h
      exact J2 _ _ hP hD hS _ (lv_sub hl [0, 1] rfl)
def f_X3_bestNet (zz : xMO) (i1 : Int32) : Option (Int32 × Int32) :=
  Option.bind (f_X3_isIn i1 (0 : Int32) (99 : Int32)) fun (o1 : Int32) =>
  Option.bind (
    if o1 = 0 then
      some (1 : Int32)
    else
      some (0 : Int32)) fun (v2 : Int32) =>
  Option.bind (f_X3_can (zz.1, zz.2.1, zz.2.2.1, zz.2.2.2.1, zz.2.2.2.2.1, zz.2.2.2.2.2.1, zz.2.2.2.2.2.2.1, zz.2.2.2.2.2.2.2.1, zz.2.2.2.2.2.2.2.2.1, zz.2.2.2.2.2.2.2.2.2.1, zz.2.2.2.2.2.2.2.2.2.2.1, zz.2.2.2.2.2.2.2.2.2.2.2.1, zz.2.2.2.2.2.2.2.2.2.2.2.2.1, zz.2.2.2.2.2.2.2.2.2.2.2.2.2.1, zz.2.2.2.2.2.2.2.2.2.2.2.2.2.2.1, zz.2.2.2.2.2.2.2.2.2.2.2.2.2.2.2.1, zz.2.2.2.2.2.2.2.2.2.2.2.2.2.2.2.2.1, zz.2.2.2.2.2.2.2.2.2.2.2.2.2.2.2.2.2) v2) fun (o3 : Int32 × Int32) =>
  if o3.1 = 0 then
    some ((0 : Int32), o3.2)
  else
    Option.bind (f_X3_best (zz.1, zz.2.1, zz.2.2.1, zz.2.2.2.1, zz.2.2.2.2.1, zz.2.2.2.2.2.1, zz.2.2.2.2.2.2.1, zz.2.2.2.2.2.2.2.1, zz.2.2.2.2.2.2.2.2.1, zz.2.2.2.2.2.2.2.2.2.1, zz.2.2.2.2.2.2.2.2.2.2.1, zz.2.2.2.2.2.2.2.2.2.2.2.1, zz.2.2.2.2.2.2.2.2.2.2.2.2.1, zz.2.2.2.2.2.2.2.2.2.2.2.2.2.1, zz.2.2.2.2.2.2.2.2.2.2.2.2.2.2.1, zz.2.2.2.2.2.2.2.2.2.2.2.2.2.2.2.1, zz.2.2.2.2.2.2.2.2.2.2.2.2.2.2.2.2.1, o3.2) i1) fun (o5 : Int32) =>
    Option.bind (f_X3_net (zz.1, zz.2.1, zz.2.2.1, zz.2.2.2.1, zz.2.2.2.2.1, zz.2.2.2.2.2.1, zz.2.2.2.2.2.2.1, zz.2.2.2.2.2.2.2.1, zz.2.2.2.2.2.2.2.2.1, zz.2.2.2.2.2.2.2.2.2.1, zz.2.2.2.2.2.2.2.2.2.2.1, zz.2.2.2.2.2.2.2.2.2.2.2.1, zz.2.2.2.2.2.2.2.2.2.2.2.2.1, zz.2.2.2.2.2.2.2.2.2.2.2.2.2.1, zz.2.2.2.2.2.2.2.2.2.2.2.2.2.2.1, zz.2.2.2.2.2.2.2.2.2.2.2.2.2.2.2.1, zz.2.2.2.2.2.2.2.2.2.2.2.2.2.2.2.2.1, o3.2) o5 i1) fun (o6 : Int32) =>
    some (o6, o3.2)
theorem f_X3_bestNet_e (zz_0 : Int32) (zz_1 : xF) (zz_2 : xF) (zz_3 : xF) (zz_4 : xF) (zz_5 : xF) (zz_6 : xF) (zz_7 : xF) (zz_8 : xF) (zz_9 : xF) (zz_10 : xF) (zz_11 : xF) (zz_12 : xF) (zz_13 : xF) (zz_14 : xF) (zz_15 : xF) (zz_16 : Int32) (zz_17 : Int32) (i1 : Int32) : f_X3_bestNet (zz_0, zz_1, zz_2, zz_3, zz_4, zz_5, zz_6, zz_7, zz_8, zz_9, zz_10, zz_11, zz_12, zz_13, zz_14, zz_15, zz_16, zz_17) i1 =
  Option.bind (f_X3_isIn i1 (0 : Int32) (99 : Int32)) fun (o1 : Int32) =>
  Option.bind (
    if o1 = 0 then
      some (1 : Int32)
    else
      some (0 : Int32)) fun (v2 : Int32) =>
  Option.bind (f_X3_can (zz_0, zz_1, zz_2, zz_3, zz_4, zz_5, zz_6, zz_7, zz_8, zz_9, zz_10, zz_11, zz_12, zz_13, zz_14, zz_15, zz_16, zz_17) v2) fun (o3 : Int32 × Int32) =>
  if o3.1 = 0 then
    some ((0 : Int32), o3.2)
  else
    Option.bind (f_X3_best (zz_0, zz_1, zz_2, zz_3, zz_4, zz_5, zz_6, zz_7, zz_8, zz_9, zz_10, zz_11, zz_12, zz_13, zz_14, zz_15, zz_16, o3.2) i1) fun (o5 : Int32) =>
    Option.bind (f_X3_net (zz_0, zz_1, zz_2, zz_3, zz_4, zz_5, zz_6, zz_7, zz_8, zz_9, zz_10, zz_11, zz_12, zz_13, zz_14, zz_15, zz_16, o3.2) o5 i1) fun (o6 : Int32) =>
    some (o6, o3.2) := rfl
set_option maxHeartbeats 4000000 in
set_option maxRecDepth 100000 in
theorem c_X3_bestNet (l : Launch) (G : xG) (za : (Nat → Nat)) (zz : xMO) (i1 : Int32) (o : Int32 × Int32) (h : f_X3_bestNet zz i1 = some o) : xk_CI l yX3_bestNet wsX3_bestNet ({ frames := 2, cells := 0, slots := 0, locals := 48 } : Room) 0 0 [.ref (za 0), .int i1] G (wMOc G za zz.1 zz.2.1 zz.2.2.1 zz.2.2.2.1 zz.2.2.2.2.1 zz.2.2.2.2.2.1 zz.2.2.2.2.2.2.1 zz.2.2.2.2.2.2.2.1 zz.2.2.2.2.2.2.2.2.1 zz.2.2.2.2.2.2.2.2.2.1 zz.2.2.2.2.2.2.2.2.2.2.1 zz.2.2.2.2.2.2.2.2.2.2.2.1 zz.2.2.2.2.2.2.2.2.2.2.2.2.1 zz.2.2.2.2.2.2.2.2.2.2.2.2.2.1 zz.2.2.2.2.2.2.2.2.2.2.2.2.2.2.1 zz.2.2.2.2.2.2.2.2.2.2.2.2.2.2.2.1 zz.2.2.2.2.2.2.2.2.2.2.2.2.2.2.2.2.1 zz.2.2.2.2.2.2.2.2.2.2.2.2.2.2.2.2.2) (wMOc G za zz.1 zz.2.1 zz.2.2.1 zz.2.2.2.1 zz.2.2.2.2.1 zz.2.2.2.2.2.1 zz.2.2.2.2.2.2.1 zz.2.2.2.2.2.2.2.1 zz.2.2.2.2.2.2.2.2.1 zz.2.2.2.2.2.2.2.2.2.1 zz.2.2.2.2.2.2.2.2.2.2.1 zz.2.2.2.2.2.2.2.2.2.2.2.1 zz.2.2.2.2.2.2.2.2.2.2.2.2.1 zz.2.2.2.2.2.2.2.2.2.2.2.2.2.1 zz.2.2.2.2.2.2.2.2.2.2.2.2.2.2.1 zz.2.2.2.2.2.2.2.2.2.2.2.2.2.2.2.1 zz.2.2.2.2.2.2.2.2.2.2.2.2.2.2.2.2.1 o.2) o.1 := by
  obtain ⟨zz_0, zz_1, zz_2, zz_3, zz_4, zz_5, zz_6, zz_7, zz_8, zz_9, zz_10, zz_11, zz_12, zz_13, zz_14, zz_15, zz_16, zz_17⟩ := zz
  refine xk_CI.of (cc := cX3_bestNet) (maxL := 2) (ret := (some .int)) (by decide) rfl (Nat.le_of_ble_eq_true rfl) ?_
  intro pr9 en9 s mm9 bl9 meth9 cd9 A ls H locs hx hb hr hml hts hown hlk hA hP hK hD hNE hS hl
  have hown : s.vm.findClass RX3 = some mm9.cls := hown
  have hl : lv_has ls 2 [(0, .ref (za 0)), (1, .int i1)] := hl
  have hP : va_P G.1 vwCl (wMOc G za zz_0 zz_1 zz_2 zz_3 zz_4 zz_5 zz_6 zz_7 zz_8 zz_9 zz_10 zz_11 zz_12 zz_13 zz_14 zz_15 zz_16 zz_17) H := hP
  have hD : va_D A (wMOc G za zz_0 zz_1 zz_2 zz_3 zz_4 zz_5 zz_6 zz_7 zz_8 zz_9 zz_10 zz_11 zz_12 zz_13 zz_14 zz_15 zz_16 zz_17) := hD
  have h := (f_X3_bestNet_e zz_0 zz_1 zz_2 zz_3 zz_4 zz_5 zz_6 zz_7 zz_8 zz_9 zz_10 zz_11 zz_12 zz_13 zz_14 zz_15 zz_16 zz_17 i1).symm.trans h
  refine lv_aload_n hx hb dX3_bestNet_0 rfl (lv_at hl 0 rfl) ?_
  refine lv_iload_n hx hb dX3_bestNet_1 rfl (lv_at hl 1 rfl) ?_
  refine lv_iconst (v := (0 : Int32)) hx hb dX3_bestNet_2 (by decide) ?_
  refine lv_bipush (v := (99 : Int32)) hx hb dX3_bestNet_3 (by decide) ?_
  obtain ⟨o1, ho1, h⟩ := sp_b h
  refine xk_ci (va_runS (As := [.int i1, .int (0 : Int32), .int (99 : Int32)]) (rest := [.ref (za 0)]) ⟨hx, hb, hml, hown, hts⟩ (c_X3_isIn l G i1 (0 : Int32) (99 : Int32) o1 ho1 H.size) (va_cwS 3 hts gX3_bestNet_X3_isIn rfl rfl rfl (by decide +kernel) ⟨Nat.le_of_ble_eq_true rfl, Nat.le_of_ble_eq_true rfl⟩) (xk_preS hK hNE (hP.sub (ws' := []) [] rfl) (hD.sub (ws' := []) [] (by decide) rfl)) rfl rfl hl.1 rfl (lv_room (Nat.le_of_ble_eq_true rfl)) dX3_bestNet_5 ⟨Nat.le_of_ble_eq_true rfl, Nat.le_of_ble_eq_true rfl⟩) hP hD hS hA [] [0, 1, 2, 3, 4, 5, 6, 7, 8, 9, 10, 11, 12, 13, 14, 15] [0, 1, 2, 3, 4, 5, 6, 7, 8, 9, 10, 11, 12, 13, 14, 15] rfl rfl (by decide) (by decide) rfl (by decide) (fun H locs hP hD hS => ?_)
  have hP : va_P G.1 vwCl (wMOc G za zz_0 zz_1 zz_2 zz_3 zz_4 zz_5 zz_6 zz_7 zz_8 zz_9 zz_10 zz_11 zz_12 zz_13 zz_14 zz_15 zz_16 zz_17) H := hP
  have hD : va_D A (wMOc G za zz_0 zz_1 zz_2 zz_3 zz_4 zz_5 zz_6 zz_7 zz_8 zz_9 zz_10 zz_11 zz_12 zz_13 zz_14 zz_15 zz_16 zz_17) := hD
  obtain ⟨v2, hv2, h⟩ := sp_b h
  refine xk_jn G A s.heap (wMOc G za zz_0 zz_1 zz_2 zz_3 zz_4 zz_5 zz_6 zz_7 zz_8 zz_9 zz_10 zz_11 zz_12 zz_13 zz_14 zz_15 zz_16 zz_17) 2 [(0, .ref (za 0)), (1, .int i1)] 16 [.int v2, .ref (za 0)] (fun H locs hP hD hS ls hl => ?_) (fun J2 => ?_)
  · obtain ⟨o3, ho3, h⟩ := sp_b h
    refine xk_ci (va_runV (As := [.int v2]) (rest := []) ⟨hx, hb, hml, hown, hts⟩ (c_X3_can l G za (zz_0, zz_1, zz_2, zz_3, zz_4, zz_5, zz_6, zz_7, zz_8, zz_9, zz_10, zz_11, zz_12, zz_13, zz_14, zz_15, zz_16, zz_17) v2 o3 ho3 H.size) (cwV 1 hts gX3_bestNet_X3_can rfl rfl rfl (by decide +kernel) ⟨Nat.le_of_ble_eq_true rfl, Nat.le_of_ble_eq_true rfl⟩) (xk_preV hK hNE (hP.sub (ws' := (wMOc G za zz_0 zz_1 zz_2 zz_3 zz_4 zz_5 zz_6 zz_7 zz_8 zz_9 zz_10 zz_11 zz_12 zz_13 zz_14 zz_15 zz_16 zz_17)) [0, 1, 2, 3, 4, 5, 6, 7, 8, 9, 10, 11, 12, 13, 14, 15] rfl) (hD.sub (ws' := (wMOc G za zz_0 zz_1 zz_2 zz_3 zz_4 zz_5 zz_6 zz_7 zz_8 zz_9 zz_10 zz_11 zz_12 zz_13 zz_14 zz_15 zz_16 zz_17)) [0, 1, 2, 3, 4, 5, 6, 7, 8, 9, 10, 11, 12, 13, 14, 15] (by decide) rfl) (ci := 3) rfl rfl) rfl rfl hl.1 rfl (lv_room (Nat.le_of_ble_eq_true rfl)) dX3_bestNet_16 ⟨Nat.le_of_ble_eq_true rfl, Nat.le_of_ble_eq_true rfl⟩) hP hD hS hA [0, 1, 2, 3, 4, 5, 6, 7, 8, 9, 10, 11, 12, 13, 14, 15] [] [0, 1, 2, 3, 4, 5, 6, 7, 8, 9, 10, 11, 12, 13, 14, 15] rfl rfl (by decide) (by decide) rfl (by decide) (fun H locs hP hD hS => ?_)
    have hP : va_P G.1 vwCl (wMOc G za zz_0 zz_1 zz_2 zz_3 zz_4 zz_5 zz_6 zz_7 zz_8 zz_9 zz_10 zz_11 zz_12 zz_13 zz_14 zz_15 zz_16 o3.2) H := hP
    have hD : va_D A (wMOc G za zz_0 zz_1 zz_2 zz_3 zz_4 zz_5 zz_6 zz_7 zz_8 zz_9 zz_10 zz_11 zz_12 zz_13 zz_14 zz_15 zz_16 o3.2) := hD
    refine lv_if_eq (tgt := 35) hx hb dX3_bestNet_19 (by decide) (fun c4 => ?_) (fun c4 => ?_)
    · have h := sp_t c4 h
      refine lv_iconst (v := (0 : Int32)) hx hb dX3_bestNet_35 (by decide) ?_
      obtain rfl := sp_s h
      exact xk_reI hx hb hr hlk hP hD hS rfl dX3_bestNet_36
    · have h := sp_f c4 h
      refine lv_aload_n hx hb dX3_bestNet_22 rfl (lv_at hl 0 rfl) ?_
      refine lv_aload_n hx hb dX3_bestNet_23 rfl (lv_at hl 0 rfl) ?_
      refine lv_iload_n hx hb dX3_bestNet_24 rfl (lv_at hl 1 rfl) ?_
      obtain ⟨o5, ho5, h⟩ := sp_b h
      refine xk_ci (va_runV (As := [.int i1]) (rest := [.ref (za 0)]) ⟨hx, hb, hml, hown, hts⟩ (c_X3_best l G za (zz_0, zz_1, zz_2, zz_3, zz_4, zz_5, zz_6, zz_7, zz_8, zz_9, zz_10, zz_11, zz_12, zz_13, zz_14, zz_15, zz_16, o3.2) i1 o5 ho5 H.size) (cwV 1 hts gX3_bestNet_X3_best rfl rfl rfl (by decide +kernel) ⟨Nat.le_of_ble_eq_true rfl, Nat.le_of_ble_eq_true rfl⟩) (xk_preV hK hNE (hP.sub (ws' := (wMOc G za zz_0 zz_1 zz_2 zz_3 zz_4 zz_5 zz_6 zz_7 zz_8 zz_9 zz_10 zz_11 zz_12 zz_13 zz_14 zz_15 zz_16 o3.2)) [0, 1, 2, 3, 4, 5, 6, 7, 8, 9, 10, 11, 12, 13, 14, 15] rfl) (hD.sub (ws' := (wMOc G za zz_0 zz_1 zz_2 zz_3 zz_4 zz_5 zz_6 zz_7 zz_8 zz_9 zz_10 zz_11 zz_12 zz_13 zz_14 zz_15 zz_16 o3.2)) [0, 1, 2, 3, 4, 5, 6, 7, 8, 9, 10, 11, 12, 13, 14, 15] (by decide) rfl) (ci := 3) rfl rfl) rfl rfl hl.1 rfl (lv_room (Nat.le_of_ble_eq_true rfl)) dX3_bestNet_25 ⟨Nat.le_of_ble_eq_true rfl, Nat.le_of_ble_eq_true rfl⟩) hP hD hS hA [0, 1, 2, 3, 4, 5, 6, 7, 8, 9, 10, 11, 12, 13, 14, 15] [] [0, 1, 2, 3, 4, 5, 6, 7, 8, 9, 10, 11, 12, 13, 14, 15] rfl rfl (by decide) (by decide) rfl (by decide) (fun H locs hP hD hS => ?_)
      have hP : va_P G.1 vwCl (wMOc G za zz_0 zz_1 zz_2 zz_3 zz_4 zz_5 zz_6 zz_7 zz_8 zz_9 zz_10 zz_11 zz_12 zz_13 zz_14 zz_15 zz_16 o3.2) H := hP
      have hD : va_D A (wMOc G za zz_0 zz_1 zz_2 zz_3 zz_4 zz_5 zz_6 zz_7 zz_8 zz_9 zz_10 zz_11 zz_12 zz_13 zz_14 zz_15 zz_16 o3.2) := hD
      refine lv_iload_n hx hb dX3_bestNet_28 rfl (lv_at hl 1 rfl) ?_
      obtain ⟨o6, ho6, h⟩ := sp_b h
      refine xk_ci (va_runV (As := [.int o5, .int i1]) (rest := []) ⟨hx, hb, hml, hown, hts⟩ (c_X3_net l G za (zz_0, zz_1, zz_2, zz_3, zz_4, zz_5, zz_6, zz_7, zz_8, zz_9, zz_10, zz_11, zz_12, zz_13, zz_14, zz_15, zz_16, o3.2) o5 i1 o6 ho6 H.size) (cwV 2 hts gX3_bestNet_X3_net rfl rfl rfl (by decide +kernel) ⟨Nat.le_of_ble_eq_true rfl, Nat.le_of_ble_eq_true rfl⟩) (xk_preV hK hNE (hP.sub (ws' := (wMOc G za zz_0 zz_1 zz_2 zz_3 zz_4 zz_5 zz_6 zz_7 zz_8 zz_9 zz_10 zz_11 zz_12 zz_13 zz_14 zz_15 zz_16 o3.2)) [0, 1, 2, 3, 4, 5, 6, 7, 8, 9, 10, 11, 12, 13, 14, 15] rfl) (hD.sub (ws' := (wMOc G za zz_0 zz_1 zz_2 zz_3 zz_4 zz_5 zz_6 zz_7 zz_8 zz_9 zz_10 zz_11 zz_12 zz_13 zz_14 zz_15 zz_16 o3.2)) [0, 1, 2, 3, 4, 5, 6, 7, 8, 9, 10, 11, 12, 13, 14, 15] (by decide) rfl) (ci := 3) rfl rfl) rfl rfl hl.1 rfl (lv_room (Nat.le_of_ble_eq_true rfl)) dX3_bestNet_29 ⟨Nat.le_of_ble_eq_true rfl, Nat.le_of_ble_eq_true rfl⟩) hP hD hS hA [0, 1, 2, 3, 4, 5, 6, 7, 8, 9, 10, 11, 12, 13, 14, 15] [] [0, 1, 2, 3, 4, 5, 6, 7, 8, 9, 10, 11, 12, 13, 14, 15] rfl rfl (by decide) (by decide) rfl (by decide) (fun H locs hP hD hS => ?_)
      have hP : va_P G.1 vwCl (wMOc G za zz_0 zz_1 zz_2 zz_3 zz_4 zz_5 zz_6 zz_7 zz_8 zz_9 zz_10 zz_11 zz_12 zz_13 zz_14 zz_15 zz_16 o3.2) H := hP
      have hD : va_D A (wMOc G za zz_0 zz_1 zz_2 zz_3 zz_4 zz_5 zz_6 zz_7 zz_8 zz_9 zz_10 zz_11 zz_12 zz_13 zz_14 zz_15 zz_16 o3.2) := hD
      refine lv_goto (tgt := 36) hx hb dX3_bestNet_32 (by decide) ?_
      obtain rfl := sp_s h
      exact xk_reI hx hb hr hlk hP hD hS rfl dX3_bestNet_36
  · have h := hv2
    clear hv2
    refine lv_if_eq (tgt := 15) hx hb dX3_bestNet_8 (by decide) (fun c7 => ?_) (fun c7 => ?_)
    · have h := sp_t c7 h
      refine lv_iconst (v := (1 : Int32)) hx hb dX3_bestNet_15 (by decide) ?_
      obtain rfl := sp_s h
      exact J2 _ _ hP hD hS _ (lv_sub hl [0, 1] rfl)
    · have h := sp_f c7 h
      refine lv_iconst (v := (0 : Int32)) hx hb dX3_bestNet_11 (by decide) ?_
      refine lv_goto (tgt := 16) hx hb dX3_bestNet_12 (by decide) ?_
      obtain rfl := sp_s h
      exact J2 _ _ hP hD hS _ (lv_sub hl [0, 1] rfl)
def f_X3_closedSets_l9 (zz_0 : Int32) (zz_1 : xF) (zz_2 : xF) (zz_3 : xF) (zz_4 : xF) (zz_5 : xF) (zz_6 : xF) (zz_7 : xF) (zz_8 : xF) (zz_9 : xF) (zz_10 : xF) (zz_11 : xF) (zz_12 : xF) (zz_13 : xF) (zz_14 : xF) (zz_15 : xF) (zz_16 : Int32) : Nat → Int32 → Int32 → Option (Int32)
  | 0, _, _ => none
  | k9 + 1, x2_1, x1_1 =>
    if ((1 : Int32) <<< (zz_0 &&& 31)) ≤ x2_1 then
      some x1_1
    else
      Option.bind (f_X3_isClosed (zz_0, zz_1, zz_2, zz_3, zz_4, zz_5, zz_6, zz_7, zz_8, zz_9, zz_10, zz_11, zz_12, zz_13, zz_14, zz_15, zz_16, (0 : Int32)) x2_1) fun (o4 : Int32) =>
      Option.bind (
        if o4 = 0 then
          some (0 : Int32)
        else
          some (1 : Int32)) fun (v5 : Int32) =>
      f_X3_closedSets_l9 zz_0 zz_1 zz_2 zz_3 zz_4 zz_5 zz_6 zz_7 zz_8 zz_9 zz_10 zz_11 zz_12 zz_13 zz_14 zz_15 zz_16 k9 (x2_1 + (1 : Int32)) (x1_1 + v5)
theorem f_X3_closedSets_l9_z (zz_0 : Int32) (zz_1 : xF) (zz_2 : xF) (zz_3 : xF) (zz_4 : xF) (zz_5 : xF) (zz_6 : xF) (zz_7 : xF) (zz_8 : xF) (zz_9 : xF) (zz_10 : xF) (zz_11 : xF) (zz_12 : xF) (zz_13 : xF) (zz_14 : xF) (zz_15 : xF) (zz_16 : Int32) (x2_1 : Int32) (x1_1 : Int32) : f_X3_closedSets_l9 zz_0 zz_1 zz_2 zz_3 zz_4 zz_5 zz_6 zz_7 zz_8 zz_9 zz_10 zz_11 zz_12 zz_13 zz_14 zz_15 zz_16 0 x2_1 x1_1 = none := rfl
theorem f_X3_closedSets_l9_s (zz_0 : Int32) (zz_1 : xF) (zz_2 : xF) (zz_3 : xF) (zz_4 : xF) (zz_5 : xF) (zz_6 : xF) (zz_7 : xF) (zz_8 : xF) (zz_9 : xF) (zz_10 : xF) (zz_11 : xF) (zz_12 : xF) (zz_13 : xF) (zz_14 : xF) (zz_15 : xF) (zz_16 : Int32) (k9 : Nat) (x2_1 : Int32) (x1_1 : Int32) : f_X3_closedSets_l9 zz_0 zz_1 zz_2 zz_3 zz_4 zz_5 zz_6 zz_7 zz_8 zz_9 zz_10 zz_11 zz_12 zz_13 zz_14 zz_15 zz_16 (k9 + 1) x2_1 x1_1 =
    if ((1 : Int32) <<< (zz_0 &&& 31)) ≤ x2_1 then
      some x1_1
    else
      Option.bind (f_X3_isClosed (zz_0, zz_1, zz_2, zz_3, zz_4, zz_5, zz_6, zz_7, zz_8, zz_9, zz_10, zz_11, zz_12, zz_13, zz_14, zz_15, zz_16, (0 : Int32)) x2_1) fun (o4 : Int32) =>
      Option.bind (
        if o4 = 0 then
          some (0 : Int32)
        else
          some (1 : Int32)) fun (v5 : Int32) =>
      f_X3_closedSets_l9 zz_0 zz_1 zz_2 zz_3 zz_4 zz_5 zz_6 zz_7 zz_8 zz_9 zz_10 zz_11 zz_12 zz_13 zz_14 zz_15 zz_16 k9 (x2_1 + (1 : Int32)) (x1_1 + v5) := rfl
def f_X3_closedSets (zz : xMO) : Option (Int32 × Int32) :=
  Option.bind (f_X3_closedSets_l9 zz.1 zz.2.1 zz.2.2.1 zz.2.2.2.1 zz.2.2.2.2.1 zz.2.2.2.2.2.1 zz.2.2.2.2.2.2.1 zz.2.2.2.2.2.2.2.1 zz.2.2.2.2.2.2.2.2.1 zz.2.2.2.2.2.2.2.2.2.1 zz.2.2.2.2.2.2.2.2.2.2.1 zz.2.2.2.2.2.2.2.2.2.2.2.1 zz.2.2.2.2.2.2.2.2.2.2.2.2.1 zz.2.2.2.2.2.2.2.2.2.2.2.2.2.1 zz.2.2.2.2.2.2.2.2.2.2.2.2.2.2.1 zz.2.2.2.2.2.2.2.2.2.2.2.2.2.2.2.1 zz.2.2.2.2.2.2.2.2.2.2.2.2.2.2.2.2.1 5000 (0 : Int32) (0 : Int32)) fun (w2 : Int32) =>
  some (w2, (0 : Int32))
theorem f_X3_closedSets_e (zz_0 : Int32) (zz_1 : xF) (zz_2 : xF) (zz_3 : xF) (zz_4 : xF) (zz_5 : xF) (zz_6 : xF) (zz_7 : xF) (zz_8 : xF) (zz_9 : xF) (zz_10 : xF) (zz_11 : xF) (zz_12 : xF) (zz_13 : xF) (zz_14 : xF) (zz_15 : xF) (zz_16 : Int32) (zz_17 : Int32) : f_X3_closedSets (zz_0, zz_1, zz_2, zz_3, zz_4, zz_5, zz_6, zz_7, zz_8, zz_9, zz_10, zz_11, zz_12, zz_13, zz_14, zz_15, zz_16, zz_17) =
  Option.bind (f_X3_closedSets_l9 zz_0 zz_1 zz_2 zz_3 zz_4 zz_5 zz_6 zz_7 zz_8 zz_9 zz_10 zz_11 zz_12 zz_13 zz_14 zz_15 zz_16 5000 (0 : Int32) (0 : Int32)) fun (w2 : Int32) =>
  some (w2, (0 : Int32)) := rfl
set_option maxHeartbeats 4000000 in
set_option maxRecDepth 100000 in
theorem c_X3_closedSets (l : Launch) (G : xG) (za : (Nat → Nat)) (zz : xMO) (o : Int32 × Int32) (h : f_X3_closedSets zz = some o) : xk_CI l yX3_closedSets wsX3_closedSets ({ frames := 1, cells := 0, slots := 0, locals := 23 } : Room) 0 0 [.ref (za 0)] G (wMOc G za zz.1 zz.2.1 zz.2.2.1 zz.2.2.2.1 zz.2.2.2.2.1 zz.2.2.2.2.2.1 zz.2.2.2.2.2.2.1 zz.2.2.2.2.2.2.2.1 zz.2.2.2.2.2.2.2.2.1 zz.2.2.2.2.2.2.2.2.2.1 zz.2.2.2.2.2.2.2.2.2.2.1 zz.2.2.2.2.2.2.2.2.2.2.2.1 zz.2.2.2.2.2.2.2.2.2.2.2.2.1 zz.2.2.2.2.2.2.2.2.2.2.2.2.2.1 zz.2.2.2.2.2.2.2.2.2.2.2.2.2.2.1 zz.2.2.2.2.2.2.2.2.2.2.2.2.2.2.2.1 zz.2.2.2.2.2.2.2.2.2.2.2.2.2.2.2.2.1 zz.2.2.2.2.2.2.2.2.2.2.2.2.2.2.2.2.2) (wMOc G za zz.1 zz.2.1 zz.2.2.1 zz.2.2.2.1 zz.2.2.2.2.1 zz.2.2.2.2.2.1 zz.2.2.2.2.2.2.1 zz.2.2.2.2.2.2.2.1 zz.2.2.2.2.2.2.2.2.1 zz.2.2.2.2.2.2.2.2.2.1 zz.2.2.2.2.2.2.2.2.2.2.1 zz.2.2.2.2.2.2.2.2.2.2.2.1 zz.2.2.2.2.2.2.2.2.2.2.2.2.1 zz.2.2.2.2.2.2.2.2.2.2.2.2.2.1 zz.2.2.2.2.2.2.2.2.2.2.2.2.2.2.1 zz.2.2.2.2.2.2.2.2.2.2.2.2.2.2.2.1 zz.2.2.2.2.2.2.2.2.2.2.2.2.2.2.2.2.1 o.2) o.1 := by
  obtain ⟨zz_0, zz_1, zz_2, zz_3, zz_4, zz_5, zz_6, zz_7, zz_8, zz_9, zz_10, zz_11, zz_12, zz_13, zz_14, zz_15, zz_16, zz_17⟩ := zz
  refine xk_CI.of (cc := cX3_closedSets) (maxL := 3) (ret := (some .int)) (by decide) rfl (Nat.le_of_ble_eq_true rfl) ?_
  intro pr9 en9 s mm9 bl9 meth9 cd9 A ls H locs hx hb hr hml hts hown hlk hA hP hK hD hNE hS hl
  have hown : s.vm.findClass RX3 = some mm9.cls := hown
  have hl : lv_has ls 3 [(0, .ref (za 0))] := hl
  have hinX3 : ∀ w ∈ u_ws RX3 TX3 18, w ∈ wsX3_closedSets := by decide +kernel
  have hP : va_P G.1 vwCl (wMOc G za zz_0 zz_1 zz_2 zz_3 zz_4 zz_5 zz_6 zz_7 zz_8 zz_9 zz_10 zz_11 zz_12 zz_13 zz_14 zz_15 zz_16 zz_17) H := hP
  have hD : va_D A (wMOc G za zz_0 zz_1 zz_2 zz_3 zz_4 zz_5 zz_6 zz_7 zz_8 zz_9 zz_10 zz_11 zz_12 zz_13 zz_14 zz_15 zz_16 zz_17) := hD
  have h := (f_X3_closedSets_e zz_0 zz_1 zz_2 zz_3 zz_4 zz_5 zz_6 zz_7 zz_8 zz_9 zz_10 zz_11 zz_12 zz_13 zz_14 zz_15 zz_16 zz_17).symm.trans h
  refine lv_aload_n hx hb dX3_closedSets_0 rfl (lv_at hl 0 rfl) ?_
  refine lv_iconst (v := (0 : Int32)) hx hb dX3_closedSets_1 (by decide) ?_
  refine va_put (D := G.1) (ci := 3) (v := .int (0 : Int32)) (ty := .int) (C := RX3) (T := TX3) (N := 18) hx hb hts hinX3 tyX3 tyX3_ok nmX3 hown hK hP hD hS 0 rfl rfl 17 (by decide) (hts (.fieldLink RX3 56 "LessonWeaveModel" "thrown" "I") (by decide +kernel)) (fun _ h9 => h9) rfl (by decide +kernel) rfl rfl (Nat.le_of_ble_eq_true rfl) dX3_closedSets_2 (fun H locs hP hD hS => ?_)
  have hP : va_P G.1 vwCl (wMOc G za zz_0 zz_1 zz_2 zz_3 zz_4 zz_5 zz_6 zz_7 zz_8 zz_9 zz_10 zz_11 zz_12 zz_13 zz_14 zz_15 zz_16 (0 : Int32)) H := hP
  have hD : va_D A (wMOc G za zz_0 zz_1 zz_2 zz_3 zz_4 zz_5 zz_6 zz_7 zz_8 zz_9 zz_10 zz_11 zz_12 zz_13 zz_14 zz_15 zz_16 (0 : Int32)) := hD
  refine lv_iconst (v := (0 : Int32)) hx hb dX3_closedSets_5 (by decide) ?_
  refine lv_istore_n (lv' := [(1, .int (0 : Int32)), (0, .ref (za 0))]) hx hb dX3_closedSets_6 rfl hl (by decide) rfl (fun ls hl => ?_)
  refine lv_iconst (v := (0 : Int32)) hx hb dX3_closedSets_7 (by decide) ?_
  refine lv_istore_n (lv' := [(2, .int (0 : Int32)), (1, .int (0 : Int32)), (0, .ref (za 0))]) hx hb dX3_closedSets_8 rfl hl (by decide) rfl (fun ls hl => ?_)
  obtain ⟨w2, hw2, h⟩ := sp_b h
  refine xk_jn G A s.heap (wMOc G za zz_0 zz_1 zz_2 zz_3 zz_4 zz_5 zz_6 zz_7 zz_8 zz_9 zz_10 zz_11 zz_12 zz_13 zz_14 zz_15 zz_16 (0 : Int32)) 3 [(1, .int w2)] 41 [] (fun H locs hP hD hS ls hl => ?_) (fun J1 => ?_)
  · refine lv_iload_n hx hb dX3_closedSets_41 rfl (lv_at hl 0 rfl) ?_
    obtain rfl := sp_s h
    exact xk_reI hx hb hr hlk hP hD hS rfl dX3_closedSets_42
  · have h := hw2
    clear hw2
    refine xk_lp (α := Int32 × Int32) G A s.heap (fun a_1 => (wMOc G za zz_0 zz_1 zz_2 zz_3 zz_4 zz_5 zz_6 zz_7 zz_8 zz_9 zz_10 zz_11 zz_12 zz_13 zz_14 zz_15 zz_16 (0 : Int32))) 3 (fun a_1 => [(2, .int a_1.1), (1, .int a_1.2), (0, .ref (za 0))]) 9 (fun n a_1 => f_X3_closedSets_l9 zz_0 zz_1 zz_2 zz_3 zz_4 zz_5 zz_6 zz_7 zz_8 zz_9 zz_10 zz_11 zz_12 zz_13 zz_14 zz_15 zz_16 n a_1.1 a_1.2 = some w2) (fun a_1 h => ?_) (fun n ih_1 a_1 h H locs hP hD hS ls hl => ?_) (fun LL => ?_)
    · exact sp_n ((f_X3_closedSets_l9_z _ _ _ _ _ _ _ _ _ _ _ _ _ _ _ _ _ _ _).symm.trans h)
    · obtain ⟨x2_1, x1_1⟩ := a_1
      have h := (f_X3_closedSets_l9_s zz_0 zz_1 zz_2 zz_3 zz_4 zz_5 zz_6 zz_7 zz_8 zz_9 zz_10 zz_11 zz_12 zz_13 zz_14 zz_15 zz_16 n x2_1 x1_1).symm.trans h
      have hP : va_P G.1 vwCl (wMOc G za zz_0 zz_1 zz_2 zz_3 zz_4 zz_5 zz_6 zz_7 zz_8 zz_9 zz_10 zz_11 zz_12 zz_13 zz_14 zz_15 zz_16 (0 : Int32)) H := hP
      have hD : va_D A (wMOc G za zz_0 zz_1 zz_2 zz_3 zz_4 zz_5 zz_6 zz_7 zz_8 zz_9 zz_10 zz_11 zz_12 zz_13 zz_14 zz_15 zz_16 (0 : Int32)) := hD
      have hl : lv_has ls 3 [(2, .int x2_1), (1, .int x1_1), (0, .ref (za 0))] := hl
      refine lv_iload_n hx hb dX3_closedSets_9 rfl (lv_at hl 0 rfl) ?_
      refine lv_iconst (v := (1 : Int32)) hx hb dX3_closedSets_10 (by decide) ?_
      refine lv_aload_n hx hb dX3_closedSets_11 rfl (lv_at hl 2 rfl) ?_
      refine va_get (D := G.1) (ci := 3) (v := .int zz_0) (C := RX3) (T := TX3) (N := 18) hx hb hts hinX3 hown hK hP 0 rfl rfl 0 (by decide) (hts (.fieldLink RX3 60 "LessonWeaveModel" "aims" "I") (by decide +kernel)) (fun _ h9 => h9) rfl dX3_closedSets_12 ?_
      refine lv_ishl hx hb dX3_closedSets_15 ?_
      refine lv_icmp_ge (tgt := 41) hx hb dX3_closedSets_16 (by decide) (fun c3 => ?_) (fun c3 => ?_)
      · have h := sp_t c3 h
        obtain rfl := sp_s h
        exact J1 _ _ hP hD hS _ (lv_sub hl [1] rfl)
      · have h := sp_f c3 h
        refine lv_iload_n hx hb dX3_closedSets_19 rfl (lv_at hl 1 rfl) ?_
        refine lv_aload_n hx hb dX3_closedSets_20 rfl (lv_at hl 2 rfl) ?_
        refine lv_iload_n hx hb dX3_closedSets_21 rfl (lv_at hl 0 rfl) ?_
        obtain ⟨o4, ho4, h⟩ := sp_b h
        refine xk_ci (va_runV (As := [.int x2_1]) (rest := [.int x1_1]) ⟨hx, hb, hml, hown, hts⟩ (c_X3_isClosed l G za (zz_0, zz_1, zz_2, zz_3, zz_4, zz_5, zz_6, zz_7, zz_8, zz_9, zz_10, zz_11, zz_12, zz_13, zz_14, zz_15, zz_16, (0 : Int32)) x2_1 o4 ho4 H.size) (cwV 1 hts gX3_closedSets_X3_isClosed rfl rfl rfl (by decide +kernel) ⟨Nat.le_of_ble_eq_true rfl, Nat.le_of_ble_eq_true rfl⟩) (xk_preV hK hNE (hP.sub (ws' := (wMOc G za zz_0 zz_1 zz_2 zz_3 zz_4 zz_5 zz_6 zz_7 zz_8 zz_9 zz_10 zz_11 zz_12 zz_13 zz_14 zz_15 zz_16 (0 : Int32))) [0, 1, 2, 3, 4, 5, 6, 7, 8, 9, 10, 11, 12, 13, 14, 15] rfl) (hD.sub (ws' := (wMOc G za zz_0 zz_1 zz_2 zz_3 zz_4 zz_5 zz_6 zz_7 zz_8 zz_9 zz_10 zz_11 zz_12 zz_13 zz_14 zz_15 zz_16 (0 : Int32))) [0, 1, 2, 3, 4, 5, 6, 7, 8, 9, 10, 11, 12, 13, 14, 15] (by decide) rfl) (ci := 3) rfl rfl) rfl rfl hl.1 rfl (lv_room (Nat.le_of_ble_eq_true rfl)) dX3_closedSets_22 ⟨Nat.le_of_ble_eq_true rfl, Nat.le_of_ble_eq_true rfl⟩) hP hD hS hA [0, 1, 2, 3, 4, 5, 6, 7, 8, 9, 10, 11, 12, 13, 14, 15] [] [0, 1, 2, 3, 4, 5, 6, 7, 8, 9, 10, 11, 12, 13, 14, 15] rfl rfl (by decide) (by decide) rfl (by decide) (fun H locs hP hD hS => ?_)
        have hP : va_P G.1 vwCl (wMOc G za zz_0 zz_1 zz_2 zz_3 zz_4 zz_5 zz_6 zz_7 zz_8 zz_9 zz_10 zz_11 zz_12 zz_13 zz_14 zz_15 zz_16 (0 : Int32)) H := hP
        have hD : va_D A (wMOc G za zz_0 zz_1 zz_2 zz_3 zz_4 zz_5 zz_6 zz_7 zz_8 zz_9 zz_10 zz_11 zz_12 zz_13 zz_14 zz_15 zz_16 (0 : Int32)) := hD
        obtain ⟨v5, hv5, h⟩ := sp_b h
        refine xk_jn G A s.heap (wMOc G za zz_0 zz_1 zz_2 zz_3 zz_4 zz_5 zz_6 zz_7 zz_8 zz_9 zz_10 zz_11 zz_12 zz_13 zz_14 zz_15 zz_16 (0 : Int32)) 3 [(2, .int x2_1), (0, .ref (za 0))] 33 [.int v5, .int x1_1] (fun H locs hP hD hS ls hl => ?_) (fun J5 => ?_)
        · refine lv_iadd hx hb dX3_closedSets_33 ?_
          refine lv_istore_n (lv' := [(1, .int (x1_1 + v5)), (2, .int x2_1), (0, .ref (za 0))]) hx hb dX3_closedSets_34 rfl hl (by decide) rfl (fun ls hl => ?_)
          refine lv_iinc (v := (x2_1 + (1 : Int32))) (lv' := [(2, .int (x2_1 + (1 : Int32))), (1, .int (x1_1 + v5)), (0, .ref (za 0))]) hx hb dX3_closedSets_35 hl (k := 1) rfl rfl (by decide) rfl (fun ls hl => ?_)
          refine lv_goto (tgt := 9) hx hb dX3_closedSets_38 (by decide) ?_
          exact ih_1 ((x2_1 + (1 : Int32)), (x1_1 + v5)) h _ _ hP hD hS _ (lv_sub hl [0, 1, 2] rfl)
        · have h := hv5
          clear hv5
          refine lv_if_eq (tgt := 32) hx hb dX3_closedSets_25 (by decide) (fun c6 => ?_) (fun c6 => ?_)
          · have h := sp_t c6 h
            refine lv_iconst (v := (0 : Int32)) hx hb dX3_closedSets_32 (by decide) ?_
            obtain rfl := sp_s h
            exact J5 _ _ hP hD hS _ (lv_sub hl [0, 2] rfl)
          · have h := sp_f c6 h
            refine lv_iconst (v := (1 : Int32)) hx hb dX3_closedSets_28 (by decide) ?_
            refine lv_goto (tgt := 33) hx hb dX3_closedSets_29 (by decide) ?_
            obtain rfl := sp_s h
            exact J5 _ _ hP hD hS _ (lv_sub hl [0, 2] rfl)
    · exact LL 5000 ((0 : Int32), (0 : Int32)) h _ _ hP hD hS _ (lv_sub hl [0, 1, 2] rfl)
