def f_X3_dueOn (zz : xMO) (i1 : Int32) : Option (Int32) :=
  if i1 < 0 ∨ 12 ≤ i1.toNatClampNeg then none else
  if (zz.2.2.2.2.2.2.2.2.2.2.2.2.2.1 i1.toNatClampNeg) < (zz.2.1 i1.toNatClampNeg) then
    some (1000 : Int32)
  else
    if (zz.2.2.2.2.2.2.2.2.2.2.2.2.2.2.1 i1.toNatClampNeg) = (zz.2.2.2.2.2.2.1 i1.toNatClampNeg) then
      some (1000 : Int32)
    else
      Option.bind (
        if (zz.2.2.2.2.2.2.2.2.2.2.2.2.2.2.1 i1.toNatClampNeg) = 0 then
          if ((((5 : Int32) * i1) + (zz.2.1 i1.toNatClampNeg)) - (1 : Int32)) < 0 ∨ 60 ≤ ((((5 : Int32) * i1) + (zz.2.1 i1.toNatClampNeg)) - (1 : Int32)).toNatClampNeg then none else
          some (zz.2.2.2.2.2.2.2.2.2.2.2.1 ((((5 : Int32) * i1) + (zz.2.1 i1.toNatClampNeg)) - (1 : Int32)).toNatClampNeg)
        else
          if ((((3 : Int32) * i1) + (zz.2.2.2.2.2.2.2.2.2.2.2.2.2.2.1 i1.toNatClampNeg)) - (1 : Int32)) < 0 ∨ 36 ≤ ((((3 : Int32) * i1) + (zz.2.2.2.2.2.2.2.2.2.2.2.2.2.2.1 i1.toNatClampNeg)) - (1 : Int32)).toNatClampNeg then none else
          some (zz.2.2.2.2.2.2.2.2.2.2.2.2.1 ((((3 : Int32) * i1) + (zz.2.2.2.2.2.2.2.2.2.2.2.2.2.2.1 i1.toNatClampNeg)) - (1 : Int32)).toNatClampNeg)) fun (v4 : Int32) =>
      some (v4 + ((zz.2.2.2.2.2.2.2.1 i1.toNatClampNeg) <<< ((zz.2.2.2.2.2.2.2.2.2.2.2.2.2.2.1 i1.toNatClampNeg) &&& 31)))
theorem f_X3_dueOn_e (zz : xMO) (i1 : Int32) : f_X3_dueOn zz i1 =
  if i1 < 0 ∨ 12 ≤ i1.toNatClampNeg then none else
  if (zz.2.2.2.2.2.2.2.2.2.2.2.2.2.1 i1.toNatClampNeg) < (zz.2.1 i1.toNatClampNeg) then
    some (1000 : Int32)
  else
    if (zz.2.2.2.2.2.2.2.2.2.2.2.2.2.2.1 i1.toNatClampNeg) = (zz.2.2.2.2.2.2.1 i1.toNatClampNeg) then
      some (1000 : Int32)
    else
      Option.bind (
        if (zz.2.2.2.2.2.2.2.2.2.2.2.2.2.2.1 i1.toNatClampNeg) = 0 then
          if ((((5 : Int32) * i1) + (zz.2.1 i1.toNatClampNeg)) - (1 : Int32)) < 0 ∨ 60 ≤ ((((5 : Int32) * i1) + (zz.2.1 i1.toNatClampNeg)) - (1 : Int32)).toNatClampNeg then none else
          some (zz.2.2.2.2.2.2.2.2.2.2.2.1 ((((5 : Int32) * i1) + (zz.2.1 i1.toNatClampNeg)) - (1 : Int32)).toNatClampNeg)
        else
          if ((((3 : Int32) * i1) + (zz.2.2.2.2.2.2.2.2.2.2.2.2.2.2.1 i1.toNatClampNeg)) - (1 : Int32)) < 0 ∨ 36 ≤ ((((3 : Int32) * i1) + (zz.2.2.2.2.2.2.2.2.2.2.2.2.2.2.1 i1.toNatClampNeg)) - (1 : Int32)).toNatClampNeg then none else
          some (zz.2.2.2.2.2.2.2.2.2.2.2.2.1 ((((3 : Int32) * i1) + (zz.2.2.2.2.2.2.2.2.2.2.2.2.2.2.1 i1.toNatClampNeg)) - (1 : Int32)).toNatClampNeg)) fun (v4 : Int32) =>
      some (v4 + ((zz.2.2.2.2.2.2.2.1 i1.toNatClampNeg) <<< ((zz.2.2.2.2.2.2.2.2.2.2.2.2.2.2.1 i1.toNatClampNeg) &&& 31))) := rfl
set_option maxHeartbeats 4000000 in
set_option maxRecDepth 100000 in
theorem c_X3_dueOn (l : Launch) (G : xG) (za : (Nat → Nat)) (zz : xMO) (i1 : Int32) (o : Int32) (h : f_X3_dueOn zz i1 = some o) : xk_CI l yX3_dueOn wsX3_dueOn ({ frames := 0, cells := 0, slots := 0, locals := 0 } : Room) 0 0 [.ref (za 0), .int i1] G (wMO G za zz) (wMO G za zz) o := by
  refine xk_CI.of (cc := cX3_dueOn) (maxL := 4) (ret := (some .int)) (by decide) rfl (Nat.le_of_ble_eq_true rfl) ?_
  intro pr9 en9 s mm9 bl9 meth9 cd9 A ls H locs hx hb hr hml hts hown hlk hA hP hK hD hNE hS hl
  have hown : s.vm.findClass RX3 = some mm9.cls := hown
  have hl : lv_has ls 4 [(0, .ref (za 0)), (1, .int i1)] := hl
  have hinX3 : ∀ w ∈ u_ws RX3 TX3 18, w ∈ wsX3_dueOn := by decide +kernel
  have h := (f_X3_dueOn_e zz i1).symm.trans h
  refine lv_aload_n hx hb dX3_dueOn_0 rfl (lv_at hl 0 rfl) ?_
  refine va_get (D := G.1) (ci := 3) (v := .ref (za 14)) (C := RX3) (T := TX3) (N := 18) hx hb hts hinX3 hown hK hP 0 rfl rfl 14 (by decide) (hts (.fieldLink RX3 50 "LessonWeaveModel" "revisitsLaid" "[I") (by decide +kernel)) (fun _ h9 => h9) rfl dX3_dueOn_1 ?_
  refine lv_iload_n hx hb dX3_dueOn_4 rfl (lv_at hl 1 rfl) ?_
  obtain ⟨hin1, h⟩ := sp_g h
  refine va_iald hx hb hK hP 14 0 rfl rfl hin1 dX3_dueOn_5 ?_
  refine lv_istore_n (lv' := [(2, .int (zz.2.2.2.2.2.2.2.2.2.2.2.2.2.2.1 i1.toNatClampNeg)), (0, .ref (za 0)), (1, .int i1)]) hx hb dX3_dueOn_6 rfl hl (by decide) rfl (fun ls hl => ?_)
  refine lv_aload_n hx hb dX3_dueOn_7 rfl (lv_at hl 1 rfl) ?_
  refine va_get (D := G.1) (ci := 3) (v := .ref (za 13)) (C := RX3) (T := TX3) (N := 18) hx hb hts hinX3 hown hK hP 0 rfl rfl 13 (by decide) (hts (.fieldLink RX3 47 "LessonWeaveModel" "lessonsLaid" "[I") (by decide +kernel)) (fun _ h9 => h9) rfl dX3_dueOn_8 ?_
  refine lv_iload_n hx hb dX3_dueOn_11 rfl (lv_at hl 2 rfl) ?_
  refine va_iald hx hb hK hP 13 0 rfl rfl hin1 dX3_dueOn_12 ?_
  refine lv_aload_n hx hb dX3_dueOn_13 rfl (lv_at hl 1 rfl) ?_
  refine va_get (D := G.1) (ci := 3) (v := .ref (za 1)) (C := RX3) (T := TX3) (N := 18) hx hb hts hinX3 hown hK hP 0 rfl rfl 1 (by decide) (hts (.fieldLink RX3 7 "LessonWeaveModel" "lessons" "[I") (by decide +kernel)) (fun _ h9 => h9) rfl dX3_dueOn_14 ?_
  refine lv_iload_n hx hb dX3_dueOn_17 rfl (lv_at hl 2 rfl) ?_
  refine va_iald hx hb hK hP 1 0 rfl rfl hin1 dX3_dueOn_18 ?_
  refine lv_icmp_lt (tgt := 32) hx hb dX3_dueOn_19 (by decide) (fun c2 => ?_) (fun c2 => ?_)
  · have h := sp_t c2 h
    refine lv_sipush (v := (1000 : Int32)) hx hb dX3_dueOn_32 (by decide) ?_
    obtain rfl := sp_s h
    exact xk_reI hx hb hr hlk hP hD hS rfl dX3_dueOn_35
  · have h := sp_f c2 h
    refine lv_iload_n hx hb dX3_dueOn_22 rfl (lv_at hl 0 rfl) ?_
    refine lv_aload_n hx hb dX3_dueOn_23 rfl (lv_at hl 1 rfl) ?_
    refine va_get (D := G.1) (ci := 3) (v := .ref (za 6)) (C := RX3) (T := TX3) (N := 18) hx hb hts hinX3 hown hK hP 0 rfl rfl 6 (by decide) (hts (.fieldLink RX3 25 "LessonWeaveModel" "many" "[I") (by decide +kernel)) (fun _ h9 => h9) rfl dX3_dueOn_24 ?_
    refine lv_iload_n hx hb dX3_dueOn_27 rfl (lv_at hl 2 rfl) ?_
    refine va_iald hx hb hK hP 6 0 rfl rfl hin1 dX3_dueOn_28 ?_
    refine lv_icmp_ne (tgt := 36) hx hb dX3_dueOn_29 (by decide) (fun c3 => ?_) (fun c3 => ?_)
    · have h := sp_f c3 h
      refine lv_iload_n hx hb dX3_dueOn_36 rfl (lv_at hl 0 rfl) ?_
      obtain ⟨v4, hv4, h⟩ := sp_b h
      refine xk_jn G A s.heap (wMO G za zz) 4 [(2, .int (zz.2.2.2.2.2.2.2.2.2.2.2.2.2.2.1 i1.toNatClampNeg)), (0, .ref (za 0)), (1, .int i1)] 72 [.int v4] (fun H locs hP hD hS ls hl => ?_) (fun J4 => ?_)
      · refine lv_istore_n (lv' := [(3, .int v4), (2, .int (zz.2.2.2.2.2.2.2.2.2.2.2.2.2.2.1 i1.toNatClampNeg)), (0, .ref (za 0)), (1, .int i1)]) hx hb dX3_dueOn_72 rfl hl (by decide) rfl (fun ls hl => ?_)
        refine lv_iload_n hx hb dX3_dueOn_73 rfl (lv_at hl 0 rfl) ?_
        refine lv_aload_n hx hb dX3_dueOn_74 rfl (lv_at hl 2 rfl) ?_
        refine va_get (D := G.1) (ci := 3) (v := .ref (za 7)) (C := RX3) (T := TX3) (N := 18) hx hb hts hinX3 hown hK hP 0 rfl rfl 7 (by decide) (hts (.fieldLink RX3 28 "LessonWeaveModel" "gap" "[I") (by decide +kernel)) (fun _ h9 => h9) rfl dX3_dueOn_75 ?_
        refine lv_iload_n hx hb dX3_dueOn_78 rfl (lv_at hl 3 rfl) ?_
        refine va_iald hx hb hK hP 7 0 rfl rfl hin1 dX3_dueOn_79 ?_
        refine lv_iload_n hx hb dX3_dueOn_80 rfl (lv_at hl 1 rfl) ?_
        refine lv_ishl hx hb dX3_dueOn_81 ?_
        refine lv_iadd hx hb dX3_dueOn_82 ?_
        obtain rfl := sp_s h
        exact xk_reI hx hb hr hlk hP hD hS rfl dX3_dueOn_83
      · have h := hv4
        clear hv4
        refine lv_if_ne (tgt := 60) hx hb dX3_dueOn_37 (by decide) (fun c5 => ?_) (fun c5 => ?_)
        · have h := sp_f c5 h
          refine lv_aload_n hx hb dX3_dueOn_60 rfl (lv_at hl 1 rfl) ?_
          refine va_get (D := G.1) (ci := 3) (v := .ref (za 12)) (C := RX3) (T := TX3) (N := 18) hx hb hts hinX3 hown hK hP 0 rfl rfl 12 (by decide) (hts (.fieldLink RX3 44 "LessonWeaveModel" "revisitOn" "[I") (by decide +kernel)) (fun _ h9 => h9) rfl dX3_dueOn_61 ?_
          refine lv_iconst (v := (3 : Int32)) hx hb dX3_dueOn_64 (by decide) ?_
          refine lv_iload_n hx hb dX3_dueOn_65 rfl (lv_at hl 2 rfl) ?_
          refine lv_imul hx hb dX3_dueOn_66 ?_
          refine lv_iload_n hx hb dX3_dueOn_67 rfl (lv_at hl 0 rfl) ?_
          refine lv_iadd hx hb dX3_dueOn_68 ?_
          refine lv_iconst (v := (1 : Int32)) hx hb dX3_dueOn_69 (by decide) ?_
          refine lv_isub hx hb dX3_dueOn_70 ?_
          obtain ⟨hin6, h⟩ := sp_g h
          refine va_iald hx hb hK hP 12 0 rfl rfl hin6 dX3_dueOn_71 ?_
          obtain rfl := sp_s h
          exact J4 _ _ hP hD hS _ (lv_sub hl [0, 1, 2] rfl)
        · have h := sp_t c5 h
          refine lv_aload_n hx hb dX3_dueOn_40 rfl (lv_at hl 1 rfl) ?_
          refine va_get (D := G.1) (ci := 3) (v := .ref (za 11)) (C := RX3) (T := TX3) (N := 18) hx hb hts hinX3 hown hK hP 0 rfl rfl 11 (by decide) (hts (.fieldLink RX3 41 "LessonWeaveModel" "lessonOn" "[I") (by decide +kernel)) (fun _ h9 => h9) rfl dX3_dueOn_41 ?_
          refine lv_iconst (v := (5 : Int32)) hx hb dX3_dueOn_44 (by decide) ?_
          refine lv_iload_n hx hb dX3_dueOn_45 rfl (lv_at hl 2 rfl) ?_
          refine lv_imul hx hb dX3_dueOn_46 ?_
          refine lv_aload_n hx hb dX3_dueOn_47 rfl (lv_at hl 1 rfl) ?_
          refine va_get (D := G.1) (ci := 3) (v := .ref (za 1)) (C := RX3) (T := TX3) (N := 18) hx hb hts hinX3 hown hK hP 0 rfl rfl 1 (by decide) (hts (.fieldLink RX3 7 "LessonWeaveModel" "lessons" "[I") (by decide +kernel)) (fun _ h9 => h9) rfl dX3_dueOn_48 ?_
          refine lv_iload_n hx hb dX3_dueOn_51 rfl (lv_at hl 2 rfl) ?_
          refine va_iald hx hb hK hP 1 0 rfl rfl hin1 dX3_dueOn_52 ?_
          refine lv_iadd hx hb dX3_dueOn_53 ?_
          refine lv_iconst (v := (1 : Int32)) hx hb dX3_dueOn_54 (by decide) ?_
          refine lv_isub hx hb dX3_dueOn_55 ?_
          obtain ⟨hin7, h⟩ := sp_g h
          refine va_iald hx hb hK hP 11 0 rfl rfl hin7 dX3_dueOn_56 ?_
          refine lv_goto (tgt := 72) hx hb dX3_dueOn_57 (by decide) ?_
          obtain rfl := sp_s h
          exact J4 _ _ hP hD hS _ (lv_sub hl [0, 1, 2] rfl)
    · have h := sp_t c3 h
      refine lv_sipush (v := (1000 : Int32)) hx hb dX3_dueOn_32 (by decide) ?_
      obtain rfl := sp_s h
      exact xk_reI hx hb hr hlk hP hD hS rfl dX3_dueOn_35
def f_X3_lateFrom (zz : xMO) (i1 : Int32) : Option (Int32) :=
  Option.bind (f_X3_dueOn zz i1) fun (o1 : Int32) =>
  if i1 < 0 ∨ 12 ≤ i1.toNatClampNeg then none else
  some (o1 + ((zz.2.2.2.2.2.2.2.1 i1.toNatClampNeg) <<< ((zz.2.2.2.2.2.2.2.2.2.2.2.2.2.2.1 i1.toNatClampNeg) &&& 31)))
theorem f_X3_lateFrom_e (zz : xMO) (i1 : Int32) : f_X3_lateFrom zz i1 =
  Option.bind (f_X3_dueOn zz i1) fun (o1 : Int32) =>
  if i1 < 0 ∨ 12 ≤ i1.toNatClampNeg then none else
  some (o1 + ((zz.2.2.2.2.2.2.2.1 i1.toNatClampNeg) <<< ((zz.2.2.2.2.2.2.2.2.2.2.2.2.2.2.1 i1.toNatClampNeg) &&& 31))) := rfl
set_option maxHeartbeats 4000000 in
set_option maxRecDepth 100000 in
theorem c_X3_lateFrom (l : Launch) (G : xG) (za : (Nat → Nat)) (zz : xMO) (i1 : Int32) (o : Int32) (h : f_X3_lateFrom zz i1 = some o) : xk_CI l yX3_lateFrom wsX3_lateFrom ({ frames := 1, cells := 0, slots := 0, locals := 23 } : Room) 0 0 [.ref (za 0), .int i1] G (wMO G za zz) (wMO G za zz) o := by
  refine xk_CI.of (cc := cX3_lateFrom) (maxL := 2) (ret := (some .int)) (by decide) rfl (Nat.le_of_ble_eq_true rfl) ?_
  intro pr9 en9 s mm9 bl9 meth9 cd9 A ls H locs hx hb hr hml hts hown hlk hA hP hK hD hNE hS hl
  have hown : s.vm.findClass RX3 = some mm9.cls := hown
  have hl : lv_has ls 2 [(0, .ref (za 0)), (1, .int i1)] := hl
  have hinX3 : ∀ w ∈ u_ws RX3 TX3 18, w ∈ wsX3_lateFrom := by decide +kernel
  have h := (f_X3_lateFrom_e zz i1).symm.trans h
  refine lv_aload_n hx hb dX3_lateFrom_0 rfl (lv_at hl 0 rfl) ?_
  refine lv_iload_n hx hb dX3_lateFrom_1 rfl (lv_at hl 1 rfl) ?_
  obtain ⟨o1, ho1, h⟩ := sp_b h
  refine xk_ci (va_runV (As := [.int i1]) (rest := []) ⟨hx, hb, hml, hown, hts⟩ (c_X3_dueOn l G za zz i1 o1 ho1 H.size) (cwV 1 hts gX3_lateFrom_X3_dueOn rfl rfl rfl (by decide +kernel) ⟨Nat.le_of_ble_eq_true rfl, Nat.le_of_ble_eq_true rfl⟩) (xk_preV hK hNE (hP.sub (ws' := (wMO G za zz)) [0, 1, 2, 3, 4, 5, 6, 7, 8, 9, 10, 11, 12, 13, 14, 15] rfl) (hD.sub (ws' := (wMO G za zz)) [0, 1, 2, 3, 4, 5, 6, 7, 8, 9, 10, 11, 12, 13, 14, 15] (by decide) rfl) (ci := 3) rfl rfl) rfl rfl hl.1 rfl (lv_room (Nat.le_of_ble_eq_true rfl)) dX3_lateFrom_2 ⟨Nat.le_of_ble_eq_true rfl, Nat.le_of_ble_eq_true rfl⟩) hP hD hS hA [0, 1, 2, 3, 4, 5, 6, 7, 8, 9, 10, 11, 12, 13, 14, 15] [] [0, 1, 2, 3, 4, 5, 6, 7, 8, 9, 10, 11, 12, 13, 14, 15] rfl rfl (by decide) (by decide) rfl (by decide) (fun H locs hP hD hS => ?_)
  have hP : va_P G.1 vwCl (wMO G za zz) H := hP
  have hD : va_D A (wMO G za zz) := hD
  refine lv_aload_n hx hb dX3_lateFrom_5 rfl (lv_at hl 0 rfl) ?_
  refine va_get (D := G.1) (ci := 3) (v := .ref (za 7)) (C := RX3) (T := TX3) (N := 18) hx hb hts hinX3 hown hK hP 0 rfl rfl 7 (by decide) (hts (.fieldLink RX3 28 "LessonWeaveModel" "gap" "[I") (by decide +kernel)) (fun _ h9 => h9) rfl dX3_lateFrom_6 ?_
  refine lv_iload_n hx hb dX3_lateFrom_9 rfl (lv_at hl 1 rfl) ?_
  obtain ⟨hin2, h⟩ := sp_g h
  refine va_iald hx hb hK hP 7 0 rfl rfl hin2 dX3_lateFrom_10 ?_
  refine lv_aload_n hx hb dX3_lateFrom_11 rfl (lv_at hl 0 rfl) ?_
  refine va_get (D := G.1) (ci := 3) (v := .ref (za 14)) (C := RX3) (T := TX3) (N := 18) hx hb hts hinX3 hown hK hP 0 rfl rfl 14 (by decide) (hts (.fieldLink RX3 50 "LessonWeaveModel" "revisitsLaid" "[I") (by decide +kernel)) (fun _ h9 => h9) rfl dX3_lateFrom_12 ?_
  refine lv_iload_n hx hb dX3_lateFrom_15 rfl (lv_at hl 1 rfl) ?_
  refine va_iald hx hb hK hP 14 0 rfl rfl hin2 dX3_lateFrom_16 ?_
  refine lv_ishl hx hb dX3_lateFrom_17 ?_
  refine lv_iadd hx hb dX3_lateFrom_18 ?_
  obtain rfl := sp_s h
  exact xk_reI hx hb hr hlk hP hD hS rfl dX3_lateFrom_19
def f_X3_revisitFor_l4 (zz : xMO) (i1 : Int32) : Nat → Int32 → Int32 → Option (Int32)
  | 0, _, _ => none
  | k9 + 1, x3_1, x2_1 =>
    if zz.1 ≤ x3_1 then
      some x2_1
    else
      Option.bind (f_X3_dueOn zz x3_1) fun (o4 : Int32) =>
      if i1 < o4 then
        f_X3_revisitFor_l4 zz i1 k9 (x3_1 + (1 : Int32)) x2_1
      else
        if x2_1 = ((-1) : Int32) then
          f_X3_revisitFor_l4 zz i1 k9 (x3_1 + (1 : Int32)) x3_1
        else
          Option.bind (f_X3_lateFrom zz x3_1) fun (o7 : Int32) =>
          Option.bind (f_X3_lateFrom zz x2_1) fun (o8 : Int32) =>
          if o8 ≤ o7 then
            f_X3_revisitFor_l4 zz i1 k9 (x3_1 + (1 : Int32)) x2_1
          else
            f_X3_revisitFor_l4 zz i1 k9 (x3_1 + (1 : Int32)) x3_1
theorem f_X3_revisitFor_l4_z (zz : xMO) (i1 : Int32) (x3_1 : Int32) (x2_1 : Int32) : f_X3_revisitFor_l4 zz i1 0 x3_1 x2_1 = none := rfl
theorem f_X3_revisitFor_l4_s (zz : xMO) (i1 : Int32) (k9 : Nat) (x3_1 : Int32) (x2_1 : Int32) : f_X3_revisitFor_l4 zz i1 (k9 + 1) x3_1 x2_1 =
    if zz.1 ≤ x3_1 then
      some x2_1
    else
      Option.bind (f_X3_dueOn zz x3_1) fun (o4 : Int32) =>
      if i1 < o4 then
        f_X3_revisitFor_l4 zz i1 k9 (x3_1 + (1 : Int32)) x2_1
      else
        if x2_1 = ((-1) : Int32) then
          f_X3_revisitFor_l4 zz i1 k9 (x3_1 + (1 : Int32)) x3_1
        else
          Option.bind (f_X3_lateFrom zz x3_1) fun (o7 : Int32) =>
          Option.bind (f_X3_lateFrom zz x2_1) fun (o8 : Int32) =>
          if o8 ≤ o7 then
            f_X3_revisitFor_l4 zz i1 k9 (x3_1 + (1 : Int32)) x2_1
          else
            f_X3_revisitFor_l4 zz i1 k9 (x3_1 + (1 : Int32)) x3_1 := rfl
def f_X3_revisitFor (zz : xMO) (i1 : Int32) : Option (Int32) :=
  Option.bind (f_X3_revisitFor_l4 zz i1 300 (0 : Int32) ((-1) : Int32)) fun (w2 : Int32) =>
  some w2
theorem f_X3_revisitFor_e (zz : xMO) (i1 : Int32) : f_X3_revisitFor zz i1 =
  Option.bind (f_X3_revisitFor_l4 zz i1 300 (0 : Int32) ((-1) : Int32)) fun (w2 : Int32) =>
  some w2 := rfl
set_option maxHeartbeats 4000000 in
set_option maxRecDepth 100000 in
theorem c_X3_revisitFor (l : Launch) (G : xG) (za : (Nat → Nat)) (zz : xMO) (i1 : Int32) (o : Int32) (h : f_X3_revisitFor zz i1 = some o) : xk_CI l yX3_revisitFor wsX3_revisitFor ({ frames := 2, cells := 0, slots := 0, locals := 44 } : Room) 0 0 [.ref (za 0), .int i1] G (wMO G za zz) (wMO G za zz) o := by
  refine xk_CI.of (cc := cX3_revisitFor) (maxL := 4) (ret := (some .int)) (by decide) rfl (Nat.le_of_ble_eq_true rfl) ?_
  intro pr9 en9 s mm9 bl9 meth9 cd9 A ls H locs hx hb hr hml hts hown hlk hA hP hK hD hNE hS hl
  have hown : s.vm.findClass RX3 = some mm9.cls := hown
  have hl : lv_has ls 4 [(0, .ref (za 0)), (1, .int i1)] := hl
  have hinX3 : ∀ w ∈ u_ws RX3 TX3 18, w ∈ wsX3_revisitFor := by decide +kernel
  have h := (f_X3_revisitFor_e zz i1).symm.trans h
  refine lv_iconst (v := ((-1) : Int32)) hx hb dX3_revisitFor_0 (by decide) ?_
  refine lv_istore_n (lv' := [(2, .int ((-1) : Int32)), (0, .ref (za 0)), (1, .int i1)]) hx hb dX3_revisitFor_1 rfl hl (by decide) rfl (fun ls hl => ?_)
  refine lv_iconst (v := (0 : Int32)) hx hb dX3_revisitFor_2 (by decide) ?_
  refine lv_istore_n (lv' := [(3, .int (0 : Int32)), (2, .int ((-1) : Int32)), (0, .ref (za 0)), (1, .int i1)]) hx hb dX3_revisitFor_3 rfl hl (by decide) rfl (fun ls hl => ?_)
  obtain ⟨w2, hw2, h⟩ := sp_b h
  refine xk_jn G A s.heap (wMO G za zz) 4 [(2, .int w2)] 51 [] (fun H locs hP hD hS ls hl => ?_) (fun J1 => ?_)
  · refine lv_iload_n hx hb dX3_revisitFor_51 rfl (lv_at hl 0 rfl) ?_
    obtain rfl := sp_s h
    exact xk_reI hx hb hr hlk hP hD hS rfl dX3_revisitFor_52
  · have h := hw2
    clear hw2
    refine xk_lp (α := Int32 × Int32) G A s.heap (fun a_1 => (wMO G za zz)) 4 (fun a_1 => [(3, .int a_1.1), (2, .int a_1.2), (0, .ref (za 0)), (1, .int i1)]) 4 (fun n a_1 => f_X3_revisitFor_l4 zz i1 n a_1.1 a_1.2 = some w2) (fun a_1 h => ?_) (fun n ih_1 a_1 h H locs hP hD hS ls hl => ?_) (fun LL => ?_)
    · exact sp_n ((f_X3_revisitFor_l4_z _ _ _ _).symm.trans h)
    · obtain ⟨x3_1, x2_1⟩ := a_1
      have h := (f_X3_revisitFor_l4_s zz i1 n x3_1 x2_1).symm.trans h
      have hP : va_P G.1 vwCl (wMO G za zz) H := hP
      have hD : va_D A (wMO G za zz) := hD
      have hl : lv_has ls 4 [(3, .int x3_1), (2, .int x2_1), (0, .ref (za 0)), (1, .int i1)] := hl
      refine lv_iload_n hx hb dX3_revisitFor_4 rfl (lv_at hl 0 rfl) ?_
      refine lv_aload_n hx hb dX3_revisitFor_5 rfl (lv_at hl 2 rfl) ?_
      refine va_get (D := G.1) (ci := 3) (v := .int zz.1) (C := RX3) (T := TX3) (N := 18) hx hb hts hinX3 hown hK hP 0 rfl rfl 0 (by decide) (hts (.fieldLink RX3 60 "LessonWeaveModel" "aims" "I") (by decide +kernel)) (fun _ h9 => h9) rfl dX3_revisitFor_6 ?_
      refine lv_icmp_ge (tgt := 51) hx hb dX3_revisitFor_9 (by decide) (fun c3 => ?_) (fun c3 => ?_)
      · have h := sp_t c3 h
        obtain rfl := sp_s h
        exact J1 _ _ hP hD hS _ (lv_sub hl [1] rfl)
      · have h := sp_f c3 h
        refine lv_aload_n hx hb dX3_revisitFor_12 rfl (lv_at hl 2 rfl) ?_
        refine lv_iload_n hx hb dX3_revisitFor_13 rfl (lv_at hl 0 rfl) ?_
        obtain ⟨o4, ho4, h⟩ := sp_b h
        refine xk_ci (va_runV (As := [.int x3_1]) (rest := []) ⟨hx, hb, hml, hown, hts⟩ (c_X3_dueOn l G za zz x3_1 o4 ho4 H.size) (cwV 1 hts gX3_revisitFor_X3_dueOn rfl rfl rfl (by decide +kernel) ⟨Nat.le_of_ble_eq_true rfl, Nat.le_of_ble_eq_true rfl⟩) (xk_preV hK hNE (hP.sub (ws' := (wMO G za zz)) [0, 1, 2, 3, 4, 5, 6, 7, 8, 9, 10, 11, 12, 13, 14, 15] rfl) (hD.sub (ws' := (wMO G za zz)) [0, 1, 2, 3, 4, 5, 6, 7, 8, 9, 10, 11, 12, 13, 14, 15] (by decide) rfl) (ci := 3) rfl rfl) rfl rfl hl.1 rfl (lv_room (Nat.le_of_ble_eq_true rfl)) dX3_revisitFor_14 ⟨Nat.le_of_ble_eq_true rfl, Nat.le_of_ble_eq_true rfl⟩) hP hD hS hA [0, 1, 2, 3, 4, 5, 6, 7, 8, 9, 10, 11, 12, 13, 14, 15] [] [0, 1, 2, 3, 4, 5, 6, 7, 8, 9, 10, 11, 12, 13, 14, 15] rfl rfl (by decide) (by decide) rfl (by decide) (fun H locs hP hD hS => ?_)
        have hP : va_P G.1 vwCl (wMO G za zz) H := hP
        have hD : va_D A (wMO G za zz) := hD
        refine lv_iload_n hx hb dX3_revisitFor_17 rfl (lv_at hl 3 rfl) ?_
        refine lv_icmp_gt (tgt := 43) hx hb dX3_revisitFor_18 (by decide) (fun c5 => ?_) (fun c5 => ?_)
        · have h := sp_t c5 h
          refine lv_iload_n hx hb dX3_revisitFor_43 rfl (lv_at hl 1 rfl) ?_
          refine lv_istore_n (lv' := [(2, .int x2_1), (3, .int x3_1), (0, .ref (za 0)), (1, .int i1)]) hx hb dX3_revisitFor_44 rfl hl (by decide) rfl (fun ls hl => ?_)
          refine lv_iinc (v := (x3_1 + (1 : Int32))) (lv' := [(3, .int (x3_1 + (1 : Int32))), (2, .int x2_1), (0, .ref (za 0)), (1, .int i1)]) hx hb dX3_revisitFor_45 hl (k := 1) rfl rfl (by decide) rfl (fun ls hl => ?_)
          refine lv_goto (tgt := 4) hx hb dX3_revisitFor_48 (by decide) ?_
          exact ih_1 ((x3_1 + (1 : Int32)), x2_1) h _ _ hP hD hS _ (lv_sub hl [0, 1, 2, 3] rfl)
        · have h := sp_f c5 h
          refine lv_iload_n hx hb dX3_revisitFor_21 rfl (lv_at hl 1 rfl) ?_
          refine lv_iconst (v := ((-1) : Int32)) hx hb dX3_revisitFor_22 (by decide) ?_
          refine lv_icmp_eq (tgt := 39) hx hb dX3_revisitFor_23 (by decide) (fun c6 => ?_) (fun c6 => ?_)
          · have h := sp_t c6 h
            refine lv_iload_n hx hb dX3_revisitFor_39 rfl (lv_at hl 0 rfl) ?_
            refine lv_goto (tgt := 44) hx hb dX3_revisitFor_40 (by decide) ?_
            refine lv_istore_n (lv' := [(2, .int x3_1), (3, .int x3_1), (0, .ref (za 0)), (1, .int i1)]) hx hb dX3_revisitFor_44 rfl hl (by decide) rfl (fun ls hl => ?_)
            refine lv_iinc (v := (x3_1 + (1 : Int32))) (lv' := [(3, .int (x3_1 + (1 : Int32))), (2, .int x3_1), (0, .ref (za 0)), (1, .int i1)]) hx hb dX3_revisitFor_45 hl (k := 1) rfl rfl (by decide) rfl (fun ls hl => ?_)
            refine lv_goto (tgt := 4) hx hb dX3_revisitFor_48 (by decide) ?_
            exact ih_1 ((x3_1 + (1 : Int32)), x3_1) h _ _ hP hD hS _ (lv_sub hl [0, 1, 2, 3] rfl)
          · have h := sp_f c6 h
            refine lv_aload_n hx hb dX3_revisitFor_26 rfl (lv_at hl 2 rfl) ?_
            refine lv_iload_n hx hb dX3_revisitFor_27 rfl (lv_at hl 0 rfl) ?_
            obtain ⟨o7, ho7, h⟩ := sp_b h
            refine xk_ci (va_runV (As := [.int x3_1]) (rest := []) ⟨hx, hb, hml, hown, hts⟩ (c_X3_lateFrom l G za zz x3_1 o7 ho7 H.size) (cwV 1 hts gX3_revisitFor_X3_lateFrom rfl rfl rfl (by decide +kernel) ⟨Nat.le_of_ble_eq_true rfl, Nat.le_of_ble_eq_true rfl⟩) (xk_preV hK hNE (hP.sub (ws' := (wMO G za zz)) [0, 1, 2, 3, 4, 5, 6, 7, 8, 9, 10, 11, 12, 13, 14, 15] rfl) (hD.sub (ws' := (wMO G za zz)) [0, 1, 2, 3, 4, 5, 6, 7, 8, 9, 10, 11, 12, 13, 14, 15] (by decide) rfl) (ci := 3) rfl rfl) rfl rfl hl.1 rfl (lv_room (Nat.le_of_ble_eq_true rfl)) dX3_revisitFor_28 ⟨Nat.le_of_ble_eq_true rfl, Nat.le_of_ble_eq_true rfl⟩) hP hD hS hA [0, 1, 2, 3, 4, 5, 6, 7, 8, 9, 10, 11, 12, 13, 14, 15] [] [0, 1, 2, 3, 4, 5, 6, 7, 8, 9, 10, 11, 12, 13, 14, 15] rfl rfl (by decide) (by decide) rfl (by decide) (fun H locs hP hD hS => ?_)
            have hP : va_P G.1 vwCl (wMO G za zz) H := hP
            have hD : va_D A (wMO G za zz) := hD
            refine lv_aload_n hx hb dX3_revisitFor_31 rfl (lv_at hl 2 rfl) ?_
            refine lv_iload_n hx hb dX3_revisitFor_32 rfl (lv_at hl 1 rfl) ?_
            obtain ⟨o8, ho8, h⟩ := sp_b h
            refine xk_ci (va_runV (As := [.int x2_1]) (rest := [.int o7]) ⟨hx, hb, hml, hown, hts⟩ (c_X3_lateFrom l G za zz x2_1 o8 ho8 H.size) (cwV 1 hts gX3_revisitFor_X3_lateFrom rfl rfl rfl (by decide +kernel) ⟨Nat.le_of_ble_eq_true rfl, Nat.le_of_ble_eq_true rfl⟩) (xk_preV hK hNE (hP.sub (ws' := (wMO G za zz)) [0, 1, 2, 3, 4, 5, 6, 7, 8, 9, 10, 11, 12, 13, 14, 15] rfl) (hD.sub (ws' := (wMO G za zz)) [0, 1, 2, 3, 4, 5, 6, 7, 8, 9, 10, 11, 12, 13, 14, 15] (by decide) rfl) (ci := 3) rfl rfl) rfl rfl hl.1 rfl (lv_room (Nat.le_of_ble_eq_true rfl)) dX3_revisitFor_33 ⟨Nat.le_of_ble_eq_true rfl, Nat.le_of_ble_eq_true rfl⟩) hP hD hS hA [0, 1, 2, 3, 4, 5, 6, 7, 8, 9, 10, 11, 12, 13, 14, 15] [] [0, 1, 2, 3, 4, 5, 6, 7, 8, 9, 10, 11, 12, 13, 14, 15] rfl rfl (by decide) (by decide) rfl (by decide) (fun H locs hP hD hS => ?_)
            have hP : va_P G.1 vwCl (wMO G za zz) H := hP
            have hD : va_D A (wMO G za zz) := hD
            refine lv_icmp_ge (tgt := 43) hx hb dX3_revisitFor_36 (by decide) (fun c9 => ?_) (fun c9 => ?_)
            · have h := sp_t c9 h
              refine lv_iload_n hx hb dX3_revisitFor_43 rfl (lv_at hl 1 rfl) ?_
              refine lv_istore_n (lv' := [(2, .int x2_1), (3, .int x3_1), (0, .ref (za 0)), (1, .int i1)]) hx hb dX3_revisitFor_44 rfl hl (by decide) rfl (fun ls hl => ?_)
              refine lv_iinc (v := (x3_1 + (1 : Int32))) (lv' := [(3, .int (x3_1 + (1 : Int32))), (2, .int x2_1), (0, .ref (za 0)), (1, .int i1)]) hx hb dX3_revisitFor_45 hl (k := 1) rfl rfl (by decide) rfl (fun ls hl => ?_)
              refine lv_goto (tgt := 4) hx hb dX3_revisitFor_48 (by decide) ?_
              exact ih_1 ((x3_1 + (1 : Int32)), x2_1) h _ _ hP hD hS _ (lv_sub hl [0, 1, 2, 3] rfl)
            · have h := sp_f c9 h
              refine lv_iload_n hx hb dX3_revisitFor_39 rfl (lv_at hl 0 rfl) ?_
              refine lv_goto (tgt := 44) hx hb dX3_revisitFor_40 (by decide) ?_
              refine lv_istore_n (lv' := [(2, .int x3_1), (3, .int x3_1), (0, .ref (za 0)), (1, .int i1)]) hx hb dX3_revisitFor_44 rfl hl (by decide) rfl (fun ls hl => ?_)
              refine lv_iinc (v := (x3_1 + (1 : Int32))) (lv' := [(3, .int (x3_1 + (1 : Int32))), (2, .int x3_1), (0, .ref (za 0)), (1, .int i1)]) hx hb dX3_revisitFor_45 hl (k := 1) rfl rfl (by decide) rfl (fun ls hl => ?_)
              refine lv_goto (tgt := 4) hx hb dX3_revisitFor_48 (by decide) ?_
              exact ih_1 ((x3_1 + (1 : Int32)), x3_1) h _ _ hP hD hS _ (lv_sub hl [0, 1, 2, 3] rfl)
    · exact LL 300 ((0 : Int32), ((-1) : Int32)) h _ _ hP hD hS _ (lv_sub hl [0, 1, 2, 3] rfl)
def f_X3_isHeld_l16 (zz : xMO) (i1 : Int32) (i2 : Int32) : Nat → Int32 → Int32 → Option (Int32)
  | 0, _, _ => none
  | k9 + 1, x4_2, x3_2 =>
    if i2 ≤ x4_2 then
      some x3_2
    else
      if x4_2 < 0 ∨ 100 ≤ x4_2.toNatClampNeg then none else
      Option.bind (
        if (zz.2.2.2.2.2.2.2.2.2.2.1 x4_2.toNatClampNeg) < 0 then
          some (0 : Int32)
        else
          if (100 : Int32) ≤ (zz.2.2.2.2.2.2.2.2.2.2.1 x4_2.toNatClampNeg) then
            some (0 : Int32)
          else
            if (zz.2.2.2.2.2.2.2.2.2.2.1 x4_2.toNatClampNeg) = i1 then
              some (0 : Int32)
            else
              some (1 : Int32)) fun (v6 : Int32) =>
      if x3_2 = 0 then
        if v6 = 0 then
          f_X3_isHeld_l16 zz i1 i2 k9 (x4_2 + (1 : Int32)) (0 : Int32)
        else
          if i1 < 0 ∨ 12 ≤ i1.toNatClampNeg then none else
          if (zz.2.2.2.2.1 i1.toNatClampNeg) = ((-1) : Int32) then
            f_X3_isHeld_l16 zz i1 i2 k9 (x4_2 + (1 : Int32)) (0 : Int32)
          else
            if (zz.2.2.2.2.2.2.2.2.2.2.1 x4_2.toNatClampNeg) < 0 ∨ 12 ≤ (zz.2.2.2.2.2.2.2.2.2.2.1 x4_2.toNatClampNeg).toNatClampNeg then none else
            if (zz.2.2.2.2.1 (zz.2.2.2.2.2.2.2.2.2.2.1 x4_2.toNatClampNeg).toNatClampNeg) = (zz.2.2.2.2.1 i1.toNatClampNeg) then
              f_X3_isHeld_l16 zz i1 i2 k9 (x4_2 + (1 : Int32)) (1 : Int32)
            else
              f_X3_isHeld_l16 zz i1 i2 k9 (x4_2 + (1 : Int32)) (0 : Int32)
      else
        f_X3_isHeld_l16 zz i1 i2 k9 (x4_2 + (1 : Int32)) (1 : Int32)
theorem f_X3_isHeld_l16_z (zz : xMO) (i1 : Int32) (i2 : Int32) (x4_2 : Int32) (x3_2 : Int32) : f_X3_isHeld_l16 zz i1 i2 0 x4_2 x3_2 = none := rfl
theorem f_X3_isHeld_l16_s (zz : xMO) (i1 : Int32) (i2 : Int32) (k9 : Nat) (x4_2 : Int32) (x3_2 : Int32) : f_X3_isHeld_l16 zz i1 i2 (k9 + 1) x4_2 x3_2 =
    if i2 ≤ x4_2 then
      some x3_2
    else
      if x4_2 < 0 ∨ 100 ≤ x4_2.toNatClampNeg then none else
      Option.bind (
        if (zz.2.2.2.2.2.2.2.2.2.2.1 x4_2.toNatClampNeg) < 0 then
          some (0 : Int32)
        else
          if (100 : Int32) ≤ (zz.2.2.2.2.2.2.2.2.2.2.1 x4_2.toNatClampNeg) then
            some (0 : Int32)
          else
            if (zz.2.2.2.2.2.2.2.2.2.2.1 x4_2.toNatClampNeg) = i1 then
              some (0 : Int32)
            else
              some (1 : Int32)) fun (v6 : Int32) =>
      if x3_2 = 0 then
        if v6 = 0 then
          f_X3_isHeld_l16 zz i1 i2 k9 (x4_2 + (1 : Int32)) (0 : Int32)
        else
          if i1 < 0 ∨ 12 ≤ i1.toNatClampNeg then none else
          if (zz.2.2.2.2.1 i1.toNatClampNeg) = ((-1) : Int32) then
            f_X3_isHeld_l16 zz i1 i2 k9 (x4_2 + (1 : Int32)) (0 : Int32)
          else
            if (zz.2.2.2.2.2.2.2.2.2.2.1 x4_2.toNatClampNeg) < 0 ∨ 12 ≤ (zz.2.2.2.2.2.2.2.2.2.2.1 x4_2.toNatClampNeg).toNatClampNeg then none else
            if (zz.2.2.2.2.1 (zz.2.2.2.2.2.2.2.2.2.2.1 x4_2.toNatClampNeg).toNatClampNeg) = (zz.2.2.2.2.1 i1.toNatClampNeg) then
              f_X3_isHeld_l16 zz i1 i2 k9 (x4_2 + (1 : Int32)) (1 : Int32)
            else
              f_X3_isHeld_l16 zz i1 i2 k9 (x4_2 + (1 : Int32)) (0 : Int32)
      else
        f_X3_isHeld_l16 zz i1 i2 k9 (x4_2 + (1 : Int32)) (1 : Int32) := rfl
def f_X3_isHeld_l16_2 (zz : xMO) (i1 : Int32) (i2 : Int32) : Nat → Int32 → Int32 → Option (Int32)
  | 0, _, _ => none
  | k9 + 1, x4_16, x3_16 =>
    if i2 ≤ x4_16 then
      some x3_16
    else
      if x4_16 < 0 ∨ 100 ≤ x4_16.toNatClampNeg then none else
      Option.bind (
        if (zz.2.2.2.2.2.2.2.2.2.2.1 x4_16.toNatClampNeg) < 0 then
          some (0 : Int32)
        else
          if (100 : Int32) ≤ (zz.2.2.2.2.2.2.2.2.2.2.1 x4_16.toNatClampNeg) then
            some (0 : Int32)
          else
            if (zz.2.2.2.2.2.2.2.2.2.2.1 x4_16.toNatClampNeg) = i1 then
              some (0 : Int32)
            else
              some (1 : Int32)) fun (v20 : Int32) =>
      if x3_16 = 0 then
        if v20 = 0 then
          f_X3_isHeld_l16_2 zz i1 i2 k9 (x4_16 + (1 : Int32)) (0 : Int32)
        else
          if i1 < 0 ∨ 12 ≤ i1.toNatClampNeg then none else
          if (zz.2.2.2.2.1 i1.toNatClampNeg) = ((-1) : Int32) then
            f_X3_isHeld_l16_2 zz i1 i2 k9 (x4_16 + (1 : Int32)) (0 : Int32)
          else
            if (zz.2.2.2.2.2.2.2.2.2.2.1 x4_16.toNatClampNeg) < 0 ∨ 12 ≤ (zz.2.2.2.2.2.2.2.2.2.2.1 x4_16.toNatClampNeg).toNatClampNeg then none else
            if (zz.2.2.2.2.1 (zz.2.2.2.2.2.2.2.2.2.2.1 x4_16.toNatClampNeg).toNatClampNeg) = (zz.2.2.2.2.1 i1.toNatClampNeg) then
              f_X3_isHeld_l16_2 zz i1 i2 k9 (x4_16 + (1 : Int32)) (1 : Int32)
            else
              f_X3_isHeld_l16_2 zz i1 i2 k9 (x4_16 + (1 : Int32)) (0 : Int32)
      else
        f_X3_isHeld_l16_2 zz i1 i2 k9 (x4_16 + (1 : Int32)) (1 : Int32)
theorem f_X3_isHeld_l16_2_z (zz : xMO) (i1 : Int32) (i2 : Int32) (x4_16 : Int32) (x3_16 : Int32) : f_X3_isHeld_l16_2 zz i1 i2 0 x4_16 x3_16 = none := rfl
theorem f_X3_isHeld_l16_2_s (zz : xMO) (i1 : Int32) (i2 : Int32) (k9 : Nat) (x4_16 : Int32) (x3_16 : Int32) : f_X3_isHeld_l16_2 zz i1 i2 (k9 + 1) x4_16 x3_16 =
    if i2 ≤ x4_16 then
      some x3_16
    else
      if x4_16 < 0 ∨ 100 ≤ x4_16.toNatClampNeg then none else
      Option.bind (
        if (zz.2.2.2.2.2.2.2.2.2.2.1 x4_16.toNatClampNeg) < 0 then
          some (0 : Int32)
        else
          if (100 : Int32) ≤ (zz.2.2.2.2.2.2.2.2.2.2.1 x4_16.toNatClampNeg) then
            some (0 : Int32)
          else
            if (zz.2.2.2.2.2.2.2.2.2.2.1 x4_16.toNatClampNeg) = i1 then
              some (0 : Int32)
            else
              some (1 : Int32)) fun (v20 : Int32) =>
      if x3_16 = 0 then
        if v20 = 0 then
          f_X3_isHeld_l16_2 zz i1 i2 k9 (x4_16 + (1 : Int32)) (0 : Int32)
        else
          if i1 < 0 ∨ 12 ≤ i1.toNatClampNeg then none else
          if (zz.2.2.2.2.1 i1.toNatClampNeg) = ((-1) : Int32) then
            f_X3_isHeld_l16_2 zz i1 i2 k9 (x4_16 + (1 : Int32)) (0 : Int32)
          else
            if (zz.2.2.2.2.2.2.2.2.2.2.1 x4_16.toNatClampNeg) < 0 ∨ 12 ≤ (zz.2.2.2.2.2.2.2.2.2.2.1 x4_16.toNatClampNeg).toNatClampNeg then none else
            if (zz.2.2.2.2.1 (zz.2.2.2.2.2.2.2.2.2.2.1 x4_16.toNatClampNeg).toNatClampNeg) = (zz.2.2.2.2.1 i1.toNatClampNeg) then
              f_X3_isHeld_l16_2 zz i1 i2 k9 (x4_16 + (1 : Int32)) (1 : Int32)
            else
              f_X3_isHeld_l16_2 zz i1 i2 k9 (x4_16 + (1 : Int32)) (0 : Int32)
      else
        f_X3_isHeld_l16_2 zz i1 i2 k9 (x4_16 + (1 : Int32)) (1 : Int32) := rfl
def f_X3_isHeld (zz : xMO) (i1 : Int32) (i2 : Int32) : Option (Int32) :=
  if (2 : Int32) ≤ i2 then
    Option.bind (f_X3_isHeld_l16 zz i1 i2 300 (i2 - (2 : Int32)) (0 : Int32)) fun (w3 : Int32) =>
    if w3 &&& 1 = w3 then some w3 else none
  else
    Option.bind (f_X3_isHeld_l16_2 zz i1 i2 300 (0 : Int32) (0 : Int32)) fun (w17 : Int32) =>
    if w17 &&& 1 = w17 then some w17 else none
theorem f_X3_isHeld_e (zz : xMO) (i1 : Int32) (i2 : Int32) : f_X3_isHeld zz i1 i2 =
  if (2 : Int32) ≤ i2 then
    Option.bind (f_X3_isHeld_l16 zz i1 i2 300 (i2 - (2 : Int32)) (0 : Int32)) fun (w3 : Int32) =>
    if w3 &&& 1 = w3 then some w3 else none
  else
    Option.bind (f_X3_isHeld_l16_2 zz i1 i2 300 (0 : Int32) (0 : Int32)) fun (w17 : Int32) =>
    if w17 &&& 1 = w17 then some w17 else none := rfl
set_option maxHeartbeats 4000000 in
set_option maxRecDepth 100000 in
theorem c_X3_isHeld (l : Launch) (G : xG) (za : (Nat → Nat)) (zz : xMO) (i1 : Int32) (i2 : Int32) (o : Int32) (h : f_X3_isHeld zz i1 i2 = some o) : xk_CI l yX3_isHeld wsX3_isHeld ({ frames := 0, cells := 0, slots := 0, locals := 0 } : Room) 0 0 [.ref (za 0), .int i1, .int i2] G (wMO G za zz) (wMO G za zz) o := by
  refine xk_CI.of (cc := cX3_isHeld) (maxL := 6) (ret := (some .boolean)) (by decide) rfl (Nat.le_of_ble_eq_true rfl) ?_
  intro pr9 en9 s mm9 bl9 meth9 cd9 A ls H locs hx hb hr hml hts hown hlk hA hP hK hD hNE hS hl
  have hown : s.vm.findClass RX3 = some mm9.cls := hown
  have hl : lv_has ls 6 [(0, .ref (za 0)), (1, .int i1), (2, .int i2)] := hl
  have hinX3 : ∀ w ∈ u_ws RX3 TX3 18, w ∈ wsX3_isHeld := by decide +kernel
  have h := (f_X3_isHeld_e zz i1 i2).symm.trans h
  refine lv_iconst (v := (0 : Int32)) hx hb dX3_isHeld_0 (by decide) ?_
  refine lv_istore_n (lv' := [(3, .int (0 : Int32)), (0, .ref (za 0)), (1, .int i1), (2, .int i2)]) hx hb dX3_isHeld_1 rfl hl (by decide) rfl (fun ls hl => ?_)
  refine lv_iload_n hx hb dX3_isHeld_2 rfl (lv_at hl 3 rfl) ?_
  refine lv_iconst (v := (2 : Int32)) hx hb dX3_isHeld_3 (by decide) ?_
  refine lv_icmp_ge (tgt := 11) hx hb dX3_isHeld_4 (by decide) (fun c1 => ?_) (fun c1 => ?_)
  · have h := sp_t c1 h
    refine lv_iload_n hx hb dX3_isHeld_11 rfl (lv_at hl 3 rfl) ?_
    refine lv_iconst (v := (2 : Int32)) hx hb dX3_isHeld_12 (by decide) ?_
    refine lv_isub hx hb dX3_isHeld_13 ?_
    refine lv_istore (lv' := [(4, .int (i2 - (2 : Int32))), (3, .int (0 : Int32)), (0, .ref (za 0)), (1, .int i1), (2, .int i2)]) hx hb dX3_isHeld_14 hl (by decide) rfl (fun ls hl => ?_)
    obtain ⟨w3, hw3, h⟩ := sp_b h
    refine xk_jn G A s.heap (wMO G za zz) 6 [(3, .int w3)] 114 [] (fun H locs hP hD hS ls hl => ?_) (fun J2 => ?_)
    · refine lv_iload_n hx hb dX3_isHeld_114 rfl (lv_at hl 0 rfl) ?_
      obtain ⟨hz, h⟩ := sp_c h
      obtain rfl := sp_s h
      exact xk_reZ hx hb hr hlk (xk_nar hz) hP hD hS rfl dX3_isHeld_115
    · have h := hw3
      clear hw3
      refine xk_lp (α := Int32 × Int32) G A s.heap (fun a_2 => (wMO G za zz)) 6 (fun a_2 => [(4, .int a_2.1), (3, .int a_2.2), (0, .ref (za 0)), (1, .int i1), (2, .int i2)]) 16 (fun n a_2 => f_X3_isHeld_l16 zz i1 i2 n a_2.1 a_2.2 = some w3) (fun a_2 h => ?_) (fun n ih_2 a_2 h H locs hP hD hS ls hl => ?_) (fun LL => ?_)
      · exact sp_n ((f_X3_isHeld_l16_z _ _ _ _ _).symm.trans h)
      · obtain ⟨x4_2, x3_2⟩ := a_2
        have h := (f_X3_isHeld_l16_s zz i1 i2 n x4_2 x3_2).symm.trans h
        have hP : va_P G.1 vwCl (wMO G za zz) H := hP
        have hD : va_D A (wMO G za zz) := hD
        have hl : lv_has ls 6 [(4, .int x4_2), (3, .int x3_2), (0, .ref (za 0)), (1, .int i1), (2, .int i2)] := hl
        refine lv_iload hx hb dX3_isHeld_16 (lv_at hl 0 rfl) ?_
        refine lv_iload_n hx hb dX3_isHeld_18 rfl (lv_at hl 4 rfl) ?_
        refine lv_icmp_ge (tgt := 114) hx hb dX3_isHeld_19 (by decide) (fun c4 => ?_) (fun c4 => ?_)
        · have h := sp_t c4 h
          obtain rfl := sp_s h
          exact J2 _ _ hP hD hS _ (lv_sub hl [1] rfl)
        · have h := sp_f c4 h
          refine lv_aload_n hx hb dX3_isHeld_22 rfl (lv_at hl 2 rfl) ?_
          refine va_get (D := G.1) (ci := 3) (v := .ref (za 10)) (C := RX3) (T := TX3) (N := 18) hx hb hts hinX3 hown hK hP 0 rfl rfl 10 (by decide) (hts (.fieldLink RX3 38 "LessonWeaveModel" "things" "[I") (by decide +kernel)) (fun _ h9 => h9) rfl dX3_isHeld_23 ?_
          refine lv_iload hx hb dX3_isHeld_26 (lv_at hl 0 rfl) ?_
          obtain ⟨hin5, h⟩ := sp_g h
          refine va_iald hx hb hK hP 10 0 rfl rfl hin5 dX3_isHeld_28 ?_
          obtain ⟨v6, hv6, h⟩ := sp_b h
          refine xk_jn G A s.heap (wMO G za zz) 6 [(4, .int x4_2), (3, .int x3_2), (0, .ref (za 0)), (1, .int i1), (2, .int i2)] 60 [.int v6] (fun H locs hP hD hS ls hl => ?_) (fun J6 => ?_)
          · refine lv_istore (lv' := [(5, .int v6), (4, .int x4_2), (3, .int x3_2), (0, .ref (za 0)), (1, .int i1), (2, .int i2)]) hx hb dX3_isHeld_60 hl (by decide) rfl (fun ls hl => ?_)
            refine lv_iload_n hx hb dX3_isHeld_62 rfl (lv_at hl 2 rfl) ?_
            refine lv_if_ne (tgt := 102) hx hb dX3_isHeld_63 (by decide) (fun c7 => ?_) (fun c7 => ?_)
            · have h := sp_f c7 h
              refine lv_iconst (v := (1 : Int32)) hx hb dX3_isHeld_102 (by decide) ?_
              refine lv_goto (tgt := 107) hx hb dX3_isHeld_103 (by decide) ?_
              refine lv_istore_n (lv' := [(3, .int (1 : Int32)), (5, .int v6), (4, .int x4_2), (0, .ref (za 0)), (1, .int i1), (2, .int i2)]) hx hb dX3_isHeld_107 rfl hl (by decide) rfl (fun ls hl => ?_)
              refine lv_iinc (v := (x4_2 + (1 : Int32))) (lv' := [(4, .int (x4_2 + (1 : Int32))), (3, .int (1 : Int32)), (5, .int v6), (0, .ref (za 0)), (1, .int i1), (2, .int i2)]) hx hb dX3_isHeld_108 hl (k := 2) rfl rfl (by decide) rfl (fun ls hl => ?_)
              refine lv_goto (tgt := 16) hx hb dX3_isHeld_111 (by decide) ?_
              exact ih_2 ((x4_2 + (1 : Int32)), (1 : Int32)) h _ _ hP hD hS _ (lv_sub hl [0, 1, 3, 4, 5] rfl)
            · have h := sp_t c7 h
              refine lv_iload hx hb dX3_isHeld_66 (lv_at hl 0 rfl) ?_
              refine lv_if_eq (tgt := 106) hx hb dX3_isHeld_68 (by decide) (fun c8 => ?_) (fun c8 => ?_)
              · have h := sp_t c8 h
                refine lv_iconst (v := (0 : Int32)) hx hb dX3_isHeld_106 (by decide) ?_
                refine lv_istore_n (lv' := [(3, .int (0 : Int32)), (5, .int v6), (4, .int x4_2), (0, .ref (za 0)), (1, .int i1), (2, .int i2)]) hx hb dX3_isHeld_107 rfl hl (by decide) rfl (fun ls hl => ?_)
                refine lv_iinc (v := (x4_2 + (1 : Int32))) (lv' := [(4, .int (x4_2 + (1 : Int32))), (3, .int (0 : Int32)), (5, .int v6), (0, .ref (za 0)), (1, .int i1), (2, .int i2)]) hx hb dX3_isHeld_108 hl (k := 2) rfl rfl (by decide) rfl (fun ls hl => ?_)
                refine lv_goto (tgt := 16) hx hb dX3_isHeld_111 (by decide) ?_
                exact ih_2 ((x4_2 + (1 : Int32)), (0 : Int32)) h _ _ hP hD hS _ (lv_sub hl [0, 1, 3, 4, 5] rfl)
              · have h := sp_f c8 h
                refine lv_aload_n hx hb dX3_isHeld_71 rfl (lv_at hl 3 rfl) ?_
                refine va_get (D := G.1) (ci := 3) (v := .ref (za 4)) (C := RX3) (T := TX3) (N := 18) hx hb hts hinX3 hown hK hP 0 rfl rfl 4 (by decide) (hts (.fieldLink RX3 19 "LessonWeaveModel" "kit" "[I") (by decide +kernel)) (fun _ h9 => h9) rfl dX3_isHeld_72 ?_
                refine lv_iload_n hx hb dX3_isHeld_75 rfl (lv_at hl 4 rfl) ?_
                obtain ⟨hin9, h⟩ := sp_g h
                refine va_iald hx hb hK hP 4 0 rfl rfl hin9 dX3_isHeld_76 ?_
                refine lv_iconst (v := ((-1) : Int32)) hx hb dX3_isHeld_77 (by decide) ?_
                refine lv_icmp_eq (tgt := 106) hx hb dX3_isHeld_78 (by decide) (fun c10 => ?_) (fun c10 => ?_)
                · have h := sp_t c10 h
                  refine lv_iconst (v := (0 : Int32)) hx hb dX3_isHeld_106 (by decide) ?_
                  refine lv_istore_n (lv' := [(3, .int (0 : Int32)), (5, .int v6), (4, .int x4_2), (0, .ref (za 0)), (1, .int i1), (2, .int i2)]) hx hb dX3_isHeld_107 rfl hl (by decide) rfl (fun ls hl => ?_)
                  refine lv_iinc (v := (x4_2 + (1 : Int32))) (lv' := [(4, .int (x4_2 + (1 : Int32))), (3, .int (0 : Int32)), (5, .int v6), (0, .ref (za 0)), (1, .int i1), (2, .int i2)]) hx hb dX3_isHeld_108 hl (k := 2) rfl rfl (by decide) rfl (fun ls hl => ?_)
                  refine lv_goto (tgt := 16) hx hb dX3_isHeld_111 (by decide) ?_
                  exact ih_2 ((x4_2 + (1 : Int32)), (0 : Int32)) h _ _ hP hD hS _ (lv_sub hl [0, 1, 3, 4, 5] rfl)
                · have h := sp_f c10 h
                  refine lv_aload_n hx hb dX3_isHeld_81 rfl (lv_at hl 3 rfl) ?_
                  refine va_get (D := G.1) (ci := 3) (v := .ref (za 4)) (C := RX3) (T := TX3) (N := 18) hx hb hts hinX3 hown hK hP 0 rfl rfl 4 (by decide) (hts (.fieldLink RX3 19 "LessonWeaveModel" "kit" "[I") (by decide +kernel)) (fun _ h9 => h9) rfl dX3_isHeld_82 ?_
                  refine lv_aload_n hx hb dX3_isHeld_85 rfl (lv_at hl 3 rfl) ?_
                  refine va_get (D := G.1) (ci := 3) (v := .ref (za 10)) (C := RX3) (T := TX3) (N := 18) hx hb hts hinX3 hown hK hP 0 rfl rfl 10 (by decide) (hts (.fieldLink RX3 38 "LessonWeaveModel" "things" "[I") (by decide +kernel)) (fun _ h9 => h9) rfl dX3_isHeld_86 ?_
                  refine lv_iload hx hb dX3_isHeld_89 (lv_at hl 1 rfl) ?_
                  refine va_iald hx hb hK hP 10 0 rfl rfl hin5 dX3_isHeld_91 ?_
                  obtain ⟨hin11, h⟩ := sp_g h
                  refine va_iald hx hb hK hP 4 0 rfl rfl hin11 dX3_isHeld_92 ?_
                  refine lv_aload_n hx hb dX3_isHeld_93 rfl (lv_at hl 3 rfl) ?_
                  refine va_get (D := G.1) (ci := 3) (v := .ref (za 4)) (C := RX3) (T := TX3) (N := 18) hx hb hts hinX3 hown hK hP 0 rfl rfl 4 (by decide) (hts (.fieldLink RX3 19 "LessonWeaveModel" "kit" "[I") (by decide +kernel)) (fun _ h9 => h9) rfl dX3_isHeld_94 ?_
                  refine lv_iload_n hx hb dX3_isHeld_97 rfl (lv_at hl 4 rfl) ?_
                  refine va_iald hx hb hK hP 4 0 rfl rfl hin9 dX3_isHeld_98 ?_
                  refine lv_icmp_ne (tgt := 106) hx hb dX3_isHeld_99 (by decide) (fun c12 => ?_) (fun c12 => ?_)
                  · have h := sp_f c12 h
                    refine lv_iconst (v := (0 : Int32)) hx hb dX3_isHeld_106 (by decide) ?_
                    refine lv_istore_n (lv' := [(3, .int (0 : Int32)), (5, .int v6), (4, .int x4_2), (0, .ref (za 0)), (1, .int i1), (2, .int i2)]) hx hb dX3_isHeld_107 rfl hl (by decide) rfl (fun ls hl => ?_)
                    refine lv_iinc (v := (x4_2 + (1 : Int32))) (lv' := [(4, .int (x4_2 + (1 : Int32))), (3, .int (0 : Int32)), (5, .int v6), (0, .ref (za 0)), (1, .int i1), (2, .int i2)]) hx hb dX3_isHeld_108 hl (k := 2) rfl rfl (by decide) rfl (fun ls hl => ?_)
                    refine lv_goto (tgt := 16) hx hb dX3_isHeld_111 (by decide) ?_
                    exact ih_2 ((x4_2 + (1 : Int32)), (0 : Int32)) h _ _ hP hD hS _ (lv_sub hl [0, 1, 3, 4, 5] rfl)
                  · have h := sp_t c12 h
                    refine lv_iconst (v := (1 : Int32)) hx hb dX3_isHeld_102 (by decide) ?_
                    refine lv_goto (tgt := 107) hx hb dX3_isHeld_103 (by decide) ?_
                    refine lv_istore_n (lv' := [(3, .int (1 : Int32)), (5, .int v6), (4, .int x4_2), (0, .ref (za 0)), (1, .int i1), (2, .int i2)]) hx hb dX3_isHeld_107 rfl hl (by decide) rfl (fun ls hl => ?_)
                    refine lv_iinc (v := (x4_2 + (1 : Int32))) (lv' := [(4, .int (x4_2 + (1 : Int32))), (3, .int (1 : Int32)), (5, .int v6), (0, .ref (za 0)), (1, .int i1), (2, .int i2)]) hx hb dX3_isHeld_108 hl (k := 2) rfl rfl (by decide) rfl (fun ls hl => ?_)
                    refine lv_goto (tgt := 16) hx hb dX3_isHeld_111 (by decide) ?_
                    exact ih_2 ((x4_2 + (1 : Int32)), (1 : Int32)) h _ _ hP hD hS _ (lv_sub hl [0, 1, 3, 4, 5] rfl)
          · have h := hv6
            clear hv6
            refine lv_if_lt (tgt := 59) hx hb dX3_isHeld_29 (by decide) (fun c13 => ?_) (fun c13 => ?_)
            · have h := sp_t c13 h
              refine lv_iconst (v := (0 : Int32)) hx hb dX3_isHeld_59 (by decide) ?_
              obtain rfl := sp_s h
              exact J6 _ _ hP hD hS _ (lv_sub hl [0, 1, 2, 3, 4] rfl)
            · have h := sp_f c13 h
              refine lv_aload_n hx hb dX3_isHeld_32 rfl (lv_at hl 2 rfl) ?_
              refine va_get (D := G.1) (ci := 3) (v := .ref (za 10)) (C := RX3) (T := TX3) (N := 18) hx hb hts hinX3 hown hK hP 0 rfl rfl 10 (by decide) (hts (.fieldLink RX3 38 "LessonWeaveModel" "things" "[I") (by decide +kernel)) (fun _ h9 => h9) rfl dX3_isHeld_33 ?_
              refine lv_iload hx hb dX3_isHeld_36 (lv_at hl 0 rfl) ?_
              refine va_iald hx hb hK hP 10 0 rfl rfl hin5 dX3_isHeld_38 ?_
              refine lv_bipush (v := (100 : Int32)) hx hb dX3_isHeld_39 (by decide) ?_
              refine lv_icmp_ge (tgt := 59) hx hb dX3_isHeld_41 (by decide) (fun c14 => ?_) (fun c14 => ?_)
              · have h := sp_t c14 h
                refine lv_iconst (v := (0 : Int32)) hx hb dX3_isHeld_59 (by decide) ?_
                obtain rfl := sp_s h
                exact J6 _ _ hP hD hS _ (lv_sub hl [0, 1, 2, 3, 4] rfl)
              · have h := sp_f c14 h
                refine lv_aload_n hx hb dX3_isHeld_44 rfl (lv_at hl 2 rfl) ?_
                refine va_get (D := G.1) (ci := 3) (v := .ref (za 10)) (C := RX3) (T := TX3) (N := 18) hx hb hts hinX3 hown hK hP 0 rfl rfl 10 (by decide) (hts (.fieldLink RX3 38 "LessonWeaveModel" "things" "[I") (by decide +kernel)) (fun _ h9 => h9) rfl dX3_isHeld_45 ?_
                refine lv_iload hx hb dX3_isHeld_48 (lv_at hl 0 rfl) ?_
                refine va_iald hx hb hK hP 10 0 rfl rfl hin5 dX3_isHeld_50 ?_
                refine lv_iload_n hx hb dX3_isHeld_51 rfl (lv_at hl 3 rfl) ?_
                refine lv_icmp_eq (tgt := 59) hx hb dX3_isHeld_52 (by decide) (fun c15 => ?_) (fun c15 => ?_)
                · have h := sp_t c15 h
                  refine lv_iconst (v := (0 : Int32)) hx hb dX3_isHeld_59 (by decide) ?_
                  obtain rfl := sp_s h
                  exact J6 _ _ hP hD hS _ (lv_sub hl [0, 1, 2, 3, 4] rfl)
                · have h := sp_f c15 h
                  refine lv_iconst (v := (1 : Int32)) hx hb dX3_isHeld_55 (by decide) ?_
                  refine lv_goto (tgt := 60) hx hb dX3_isHeld_56 (by decide) ?_
                  obtain rfl := sp_s h
                  exact J6 _ _ hP hD hS _ (lv_sub hl [0, 1, 2, 3, 4] rfl)
      · exact LL 300 ((i2 - (2 : Int32)), (0 : Int32)) h _ _ hP hD hS _ (lv_sub hl [0, 1, 2, 3, 4] rfl)
  · have h := sp_f c1 h
    refine lv_iconst (v := (0 : Int32)) hx hb dX3_isHeld_7 (by decide) ?_
    refine lv_goto (tgt := 14) hx hb dX3_isHeld_8 (by decide) ?_
    refine lv_istore (lv' := [(4, .int (0 : Int32)), (3, .int (0 : Int32)), (0, .ref (za 0)), (1, .int i1), (2, .int i2)]) hx hb dX3_isHeld_14 hl (by decide) rfl (fun ls hl => ?_)
    obtain ⟨w17, hw17, h⟩ := sp_b h
    refine xk_jn G A s.heap (wMO G za zz) 6 [(3, .int w17)] 114 [] (fun H locs hP hD hS ls hl => ?_) (fun J16 => ?_)
    · refine lv_iload_n hx hb dX3_isHeld_114 rfl (lv_at hl 0 rfl) ?_
      obtain ⟨hz, h⟩ := sp_c h
      obtain rfl := sp_s h
      exact xk_reZ hx hb hr hlk (xk_nar hz) hP hD hS rfl dX3_isHeld_115
    · have h := hw17
      clear hw17
      refine xk_lp (α := Int32 × Int32) G A s.heap (fun a_16 => (wMO G za zz)) 6 (fun a_16 => [(4, .int a_16.1), (3, .int a_16.2), (0, .ref (za 0)), (1, .int i1), (2, .int i2)]) 16 (fun n a_16 => f_X3_isHeld_l16_2 zz i1 i2 n a_16.1 a_16.2 = some w17) (fun a_16 h => ?_) (fun n ih_16 a_16 h H locs hP hD hS ls hl => ?_) (fun LL => ?_)
      · exact sp_n ((f_X3_isHeld_l16_2_z _ _ _ _ _).symm.trans h)
      · obtain ⟨x4_16, x3_16⟩ := a_16
        have h := (f_X3_isHeld_l16_2_s zz i1 i2 n x4_16 x3_16).symm.trans h
        have hP : va_P G.1 vwCl (wMO G za zz) H := hP
        have hD : va_D A (wMO G za zz) := hD
        have hl : lv_has ls 6 [(4, .int x4_16), (3, .int x3_16), (0, .ref (za 0)), (1, .int i1), (2, .int i2)] := hl
        refine lv_iload hx hb dX3_isHeld_16 (lv_at hl 0 rfl) ?_
        refine lv_iload_n hx hb dX3_isHeld_18 rfl (lv_at hl 4 rfl) ?_
        refine lv_icmp_ge (tgt := 114) hx hb dX3_isHeld_19 (by decide) (fun c18 => ?_) (fun c18 => ?_)
        · have h := sp_t c18 h
          obtain rfl := sp_s h
          exact J16 _ _ hP hD hS _ (lv_sub hl [1] rfl)
        · have h := sp_f c18 h
          refine lv_aload_n hx hb dX3_isHeld_22 rfl (lv_at hl 2 rfl) ?_
          refine va_get (D := G.1) (ci := 3) (v := .ref (za 10)) (C := RX3) (T := TX3) (N := 18) hx hb hts hinX3 hown hK hP 0 rfl rfl 10 (by decide) (hts (.fieldLink RX3 38 "LessonWeaveModel" "things" "[I") (by decide +kernel)) (fun _ h9 => h9) rfl dX3_isHeld_23 ?_
          refine lv_iload hx hb dX3_isHeld_26 (lv_at hl 0 rfl) ?_
          obtain ⟨hin19, h⟩ := sp_g h
          refine va_iald hx hb hK hP 10 0 rfl rfl hin19 dX3_isHeld_28 ?_
          obtain ⟨v20, hv20, h⟩ := sp_b h
          refine xk_jn G A s.heap (wMO G za zz) 6 [(4, .int x4_16), (3, .int x3_16), (0, .ref (za 0)), (1, .int i1), (2, .int i2)] 60 [.int v20] (fun H locs hP hD hS ls hl => ?_) (fun J20 => ?_)
          · refine lv_istore (lv' := [(5, .int v20), (4, .int x4_16), (3, .int x3_16), (0, .ref (za 0)), (1, .int i1), (2, .int i2)]) hx hb dX3_isHeld_60 hl (by decide) rfl (fun ls hl => ?_)
            refine lv_iload_n hx hb dX3_isHeld_62 rfl (lv_at hl 2 rfl) ?_
            refine lv_if_ne (tgt := 102) hx hb dX3_isHeld_63 (by decide) (fun c21 => ?_) (fun c21 => ?_)
            · have h := sp_f c21 h
              refine lv_iconst (v := (1 : Int32)) hx hb dX3_isHeld_102 (by decide) ?_
              refine lv_goto (tgt := 107) hx hb dX3_isHeld_103 (by decide) ?_
              refine lv_istore_n (lv' := [(3, .int (1 : Int32)), (5, .int v20), (4, .int x4_16), (0, .ref (za 0)), (1, .int i1), (2, .int i2)]) hx hb dX3_isHeld_107 rfl hl (by decide) rfl (fun ls hl => ?_)
              refine lv_iinc (v := (x4_16 + (1 : Int32))) (lv' := [(4, .int (x4_16 + (1 : Int32))), (3, .int (1 : Int32)), (5, .int v20), (0, .ref (za 0)), (1, .int i1), (2, .int i2)]) hx hb dX3_isHeld_108 hl (k := 2) rfl rfl (by decide) rfl (fun ls hl => ?_)
              refine lv_goto (tgt := 16) hx hb dX3_isHeld_111 (by decide) ?_
              exact ih_16 ((x4_16 + (1 : Int32)), (1 : Int32)) h _ _ hP hD hS _ (lv_sub hl [0, 1, 3, 4, 5] rfl)
            · have h := sp_t c21 h
              refine lv_iload hx hb dX3_isHeld_66 (lv_at hl 0 rfl) ?_
              refine lv_if_eq (tgt := 106) hx hb dX3_isHeld_68 (by decide) (fun c22 => ?_) (fun c22 => ?_)
              · have h := sp_t c22 h
                refine lv_iconst (v := (0 : Int32)) hx hb dX3_isHeld_106 (by decide) ?_
                refine lv_istore_n (lv' := [(3, .int (0 : Int32)), (5, .int v20), (4, .int x4_16), (0, .ref (za 0)), (1, .int i1), (2, .int i2)]) hx hb dX3_isHeld_107 rfl hl (by decide) rfl (fun ls hl => ?_)
                refine lv_iinc (v := (x4_16 + (1 : Int32))) (lv' := [(4, .int (x4_16 + (1 : Int32))), (3, .int (0 : Int32)), (5, .int v20), (0, .ref (za 0)), (1, .int i1), (2, .int i2)]) hx hb dX3_isHeld_108 hl (k := 2) rfl rfl (by decide) rfl (fun ls hl => ?_)
                refine lv_goto (tgt := 16) hx hb dX3_isHeld_111 (by decide) ?_
                exact ih_16 ((x4_16 + (1 : Int32)), (0 : Int32)) h _ _ hP hD hS _ (lv_sub hl [0, 1, 3, 4, 5] rfl)
              · have h := sp_f c22 h
                refine lv_aload_n hx hb dX3_isHeld_71 rfl (lv_at hl 3 rfl) ?_
                refine va_get (D := G.1) (ci := 3) (v := .ref (za 4)) (C := RX3) (T := TX3) (N := 18) hx hb hts hinX3 hown hK hP 0 rfl rfl 4 (by decide) (hts (.fieldLink RX3 19 "LessonWeaveModel" "kit" "[I") (by decide +kernel)) (fun _ h9 => h9) rfl dX3_isHeld_72 ?_
                refine lv_iload_n hx hb dX3_isHeld_75 rfl (lv_at hl 4 rfl) ?_
                obtain ⟨hin23, h⟩ := sp_g h
                refine va_iald hx hb hK hP 4 0 rfl rfl hin23 dX3_isHeld_76 ?_
                refine lv_iconst (v := ((-1) : Int32)) hx hb dX3_isHeld_77 (by decide) ?_
                refine lv_icmp_eq (tgt := 106) hx hb dX3_isHeld_78 (by decide) (fun c24 => ?_) (fun c24 => ?_)
                · have h := sp_t c24 h
                  refine lv_iconst (v := (0 : Int32)) hx hb dX3_isHeld_106 (by decide) ?_
                  refine lv_istore_n (lv' := [(3, .int (0 : Int32)), (5, .int v20), (4, .int x4_16), (0, .ref (za 0)), (1, .int i1), (2, .int i2)]) hx hb dX3_isHeld_107 rfl hl (by decide) rfl (fun ls hl => ?_)
                  refine lv_iinc (v := (x4_16 + (1 : Int32))) (lv' := [(4, .int (x4_16 + (1 : Int32))), (3, .int (0 : Int32)), (5, .int v20), (0, .ref (za 0)), (1, .int i1), (2, .int i2)]) hx hb dX3_isHeld_108 hl (k := 2) rfl rfl (by decide) rfl (fun ls hl => ?_)
                  refine lv_goto (tgt := 16) hx hb dX3_isHeld_111 (by decide) ?_
                  exact ih_16 ((x4_16 + (1 : Int32)), (0 : Int32)) h _ _ hP hD hS _ (lv_sub hl [0, 1, 3, 4, 5] rfl)
                · have h := sp_f c24 h
                  refine lv_aload_n hx hb dX3_isHeld_81 rfl (lv_at hl 3 rfl) ?_
                  refine va_get (D := G.1) (ci := 3) (v := .ref (za 4)) (C := RX3) (T := TX3) (N := 18) hx hb hts hinX3 hown hK hP 0 rfl rfl 4 (by decide) (hts (.fieldLink RX3 19 "LessonWeaveModel" "kit" "[I") (by decide +kernel)) (fun _ h9 => h9) rfl dX3_isHeld_82 ?_
                  refine lv_aload_n hx hb dX3_isHeld_85 rfl (lv_at hl 3 rfl) ?_
                  refine va_get (D := G.1) (ci := 3) (v := .ref (za 10)) (C := RX3) (T := TX3) (N := 18) hx hb hts hinX3 hown hK hP 0 rfl rfl 10 (by decide) (hts (.fieldLink RX3 38 "LessonWeaveModel" "things" "[I") (by decide +kernel)) (fun _ h9 => h9) rfl dX3_isHeld_86 ?_
                  refine lv_iload hx hb dX3_isHeld_89 (lv_at hl 1 rfl) ?_
                  refine va_iald hx hb hK hP 10 0 rfl rfl hin19 dX3_isHeld_91 ?_
                  obtain ⟨hin25, h⟩ := sp_g h
                  refine va_iald hx hb hK hP 4 0 rfl rfl hin25 dX3_isHeld_92 ?_
                  refine lv_aload_n hx hb dX3_isHeld_93 rfl (lv_at hl 3 rfl) ?_
                  refine va_get (D := G.1) (ci := 3) (v := .ref (za 4)) (C := RX3) (T := TX3) (N := 18) hx hb hts hinX3 hown hK hP 0 rfl rfl 4 (by decide) (hts (.fieldLink RX3 19 "LessonWeaveModel" "kit" "[I") (by decide +kernel)) (fun _ h9 => h9) rfl dX3_isHeld_94 ?_
                  refine lv_iload_n hx hb dX3_isHeld_97 rfl (lv_at hl 4 rfl) ?_
                  refine va_iald hx hb hK hP 4 0 rfl rfl hin23 dX3_isHeld_98 ?_
                  refine lv_icmp_ne (tgt := 106) hx hb dX3_isHeld_99 (by decide) (fun c26 => ?_) (fun c26 => ?_)
                  · have h := sp_f c26 h
                    refine lv_iconst (v := (0 : Int32)) hx hb dX3_isHeld_106 (by decide) ?_
                    refine lv_istore_n (lv' := [(3, .int (0 : Int32)), (5, .int v20), (4, .int x4_16), (0, .ref (za 0)), (1, .int i1), (2, .int i2)]) hx hb dX3_isHeld_107 rfl hl (by decide) rfl (fun ls hl => ?_)
                    refine lv_iinc (v := (x4_16 + (1 : Int32))) (lv' := [(4, .int (x4_16 + (1 : Int32))), (3, .int (0 : Int32)), (5, .int v20), (0, .ref (za 0)), (1, .int i1), (2, .int i2)]) hx hb dX3_isHeld_108 hl (k := 2) rfl rfl (by decide) rfl (fun ls hl => ?_)
                    refine lv_goto (tgt := 16) hx hb dX3_isHeld_111 (by decide) ?_
                    exact ih_16 ((x4_16 + (1 : Int32)), (0 : Int32)) h _ _ hP hD hS _ (lv_sub hl [0, 1, 3, 4, 5] rfl)
                  · have h := sp_t c26 h
                    refine lv_iconst (v := (1 : Int32)) hx hb dX3_isHeld_102 (by decide) ?_
                    refine lv_goto (tgt := 107) hx hb dX3_isHeld_103 (by decide) ?_
                    refine lv_istore_n (lv' := [(3, .int (1 : Int32)), (5, .int v20), (4, .int x4_16), (0, .ref (za 0)), (1, .int i1), (2, .int i2)]) hx hb dX3_isHeld_107 rfl hl (by decide) rfl (fun ls hl => ?_)
                    refine lv_iinc (v := (x4_16 + (1 : Int32))) (lv' := [(4, .int (x4_16 + (1 : Int32))), (3, .int (1 : Int32)), (5, .int v20), (0, .ref (za 0)), (1, .int i1), (2, .int i2)]) hx hb dX3_isHeld_108 hl (k := 2) rfl rfl (by decide) rfl (fun ls hl => ?_)
                    refine lv_goto (tgt := 16) hx hb dX3_isHeld_111 (by decide) ?_
                    exact ih_16 ((x4_16 + (1 : Int32)), (1 : Int32)) h _ _ hP hD hS _ (lv_sub hl [0, 1, 3, 4, 5] rfl)
          · have h := hv20
            clear hv20
            refine lv_if_lt (tgt := 59) hx hb dX3_isHeld_29 (by decide) (fun c27 => ?_) (fun c27 => ?_)
            · have h := sp_t c27 h
              refine lv_iconst (v := (0 : Int32)) hx hb dX3_isHeld_59 (by decide) ?_
              obtain rfl := sp_s h
              exact J20 _ _ hP hD hS _ (lv_sub hl [0, 1, 2, 3, 4] rfl)
            · have h := sp_f c27 h
              refine lv_aload_n hx hb dX3_isHeld_32 rfl (lv_at hl 2 rfl) ?_
              refine va_get (D := G.1) (ci := 3) (v := .ref (za 10)) (C := RX3) (T := TX3) (N := 18) hx hb hts hinX3 hown hK hP 0 rfl rfl 10 (by decide) (hts (.fieldLink RX3 38 "LessonWeaveModel" "things" "[I") (by decide +kernel)) (fun _ h9 => h9) rfl dX3_isHeld_33 ?_
              refine lv_iload hx hb dX3_isHeld_36 (lv_at hl 0 rfl) ?_
              refine va_iald hx hb hK hP 10 0 rfl rfl hin19 dX3_isHeld_38 ?_
              refine lv_bipush (v := (100 : Int32)) hx hb dX3_isHeld_39 (by decide) ?_
              refine lv_icmp_ge (tgt := 59) hx hb dX3_isHeld_41 (by decide) (fun c28 => ?_) (fun c28 => ?_)
              · have h := sp_t c28 h
                refine lv_iconst (v := (0 : Int32)) hx hb dX3_isHeld_59 (by decide) ?_
                obtain rfl := sp_s h
                exact J20 _ _ hP hD hS _ (lv_sub hl [0, 1, 2, 3, 4] rfl)
              · have h := sp_f c28 h
                refine lv_aload_n hx hb dX3_isHeld_44 rfl (lv_at hl 2 rfl) ?_
                refine va_get (D := G.1) (ci := 3) (v := .ref (za 10)) (C := RX3) (T := TX3) (N := 18) hx hb hts hinX3 hown hK hP 0 rfl rfl 10 (by decide) (hts (.fieldLink RX3 38 "LessonWeaveModel" "things" "[I") (by decide +kernel)) (fun _ h9 => h9) rfl dX3_isHeld_45 ?_
                refine lv_iload hx hb dX3_isHeld_48 (lv_at hl 0 rfl) ?_
                refine va_iald hx hb hK hP 10 0 rfl rfl hin19 dX3_isHeld_50 ?_
                refine lv_iload_n hx hb dX3_isHeld_51 rfl (lv_at hl 3 rfl) ?_
                refine lv_icmp_eq (tgt := 59) hx hb dX3_isHeld_52 (by decide) (fun c29 => ?_) (fun c29 => ?_)
                · have h := sp_t c29 h
                  refine lv_iconst (v := (0 : Int32)) hx hb dX3_isHeld_59 (by decide) ?_
                  obtain rfl := sp_s h
                  exact J20 _ _ hP hD hS _ (lv_sub hl [0, 1, 2, 3, 4] rfl)
                · have h := sp_f c29 h
                  refine lv_iconst (v := (1 : Int32)) hx hb dX3_isHeld_55 (by decide) ?_
                  refine lv_goto (tgt := 60) hx hb dX3_isHeld_56 (by decide) ?_
                  obtain rfl := sp_s h
                  exact J20 _ _ hP hD hS _ (lv_sub hl [0, 1, 2, 3, 4] rfl)
      · exact LL 300 ((0 : Int32), (0 : Int32)) h _ _ hP hD hS _ (lv_sub hl [0, 1, 2, 3, 4] rfl)
def f_X3_nextAim_l9 (zz : xMO) : Nat → Int32 → Int32 → Option (Int32)
  | 0, _, _ => none
  | k9 + 1, x2_1, x1_1 =>
    if x2_1 < 0 then
      some x1_1
    else
      if x2_1 < 0 ∨ 12 ≤ x2_1.toNatClampNeg then none else
      if (zz.2.2.2.2.2.2.2.2.2.1 x2_1.toNatClampNeg) < 0 ∨ 12 ≤ (zz.2.2.2.2.2.2.2.2.2.1 x2_1.toNatClampNeg).toNatClampNeg then none else
      if (zz.2.1 (zz.2.2.2.2.2.2.2.2.2.1 x2_1.toNatClampNeg).toNatClampNeg) ≤ (zz.2.2.2.2.2.2.2.2.2.2.2.2.2.1 (zz.2.2.2.2.2.2.2.2.2.1 x2_1.toNatClampNeg).toNatClampNeg) then
        f_X3_nextAim_l9 zz k9 (x2_1 + ((-1) : Int32)) x1_1
      else
        f_X3_nextAim_l9 zz k9 (x2_1 + ((-1) : Int32)) (zz.2.2.2.2.2.2.2.2.2.1 x2_1.toNatClampNeg)
theorem f_X3_nextAim_l9_z (zz : xMO) (x2_1 : Int32) (x1_1 : Int32) : f_X3_nextAim_l9 zz 0 x2_1 x1_1 = none := rfl
theorem f_X3_nextAim_l9_s (zz : xMO) (k9 : Nat) (x2_1 : Int32) (x1_1 : Int32) : f_X3_nextAim_l9 zz (k9 + 1) x2_1 x1_1 =
    if x2_1 < 0 then
      some x1_1
    else
      if x2_1 < 0 ∨ 12 ≤ x2_1.toNatClampNeg then none else
      if (zz.2.2.2.2.2.2.2.2.2.1 x2_1.toNatClampNeg) < 0 ∨ 12 ≤ (zz.2.2.2.2.2.2.2.2.2.1 x2_1.toNatClampNeg).toNatClampNeg then none else
      if (zz.2.1 (zz.2.2.2.2.2.2.2.2.2.1 x2_1.toNatClampNeg).toNatClampNeg) ≤ (zz.2.2.2.2.2.2.2.2.2.2.2.2.2.1 (zz.2.2.2.2.2.2.2.2.2.1 x2_1.toNatClampNeg).toNatClampNeg) then
        f_X3_nextAim_l9 zz k9 (x2_1 + ((-1) : Int32)) x1_1
      else
        f_X3_nextAim_l9 zz k9 (x2_1 + ((-1) : Int32)) (zz.2.2.2.2.2.2.2.2.2.1 x2_1.toNatClampNeg) := rfl
def f_X3_nextAim (zz : xMO) : Option (Int32) :=
  Option.bind (f_X3_nextAim_l9 zz 300 (zz.1 - (1 : Int32)) ((-1) : Int32)) fun (w2 : Int32) =>
  some w2
theorem f_X3_nextAim_e (zz : xMO) : f_X3_nextAim zz =
  Option.bind (f_X3_nextAim_l9 zz 300 (zz.1 - (1 : Int32)) ((-1) : Int32)) fun (w2 : Int32) =>
  some w2 := rfl
set_option maxHeartbeats 4000000 in
set_option maxRecDepth 100000 in
theorem c_X3_nextAim (l : Launch) (G : xG) (za : (Nat → Nat)) (zz : xMO) (o : Int32) (h : f_X3_nextAim zz = some o) : xk_CI l yX3_nextAim wsX3_nextAim ({ frames := 0, cells := 0, slots := 0, locals := 0 } : Room) 0 0 [.ref (za 0)] G (wMO G za zz) (wMO G za zz) o := by
  refine xk_CI.of (cc := cX3_nextAim) (maxL := 3) (ret := (some .int)) (by decide) rfl (Nat.le_of_ble_eq_true rfl) ?_
  intro pr9 en9 s mm9 bl9 meth9 cd9 A ls H locs hx hb hr hml hts hown hlk hA hP hK hD hNE hS hl
  have hown : s.vm.findClass RX3 = some mm9.cls := hown
  have hl : lv_has ls 3 [(0, .ref (za 0))] := hl
  have hinX3 : ∀ w ∈ u_ws RX3 TX3 18, w ∈ wsX3_nextAim := by decide +kernel
  have h := (f_X3_nextAim_e zz).symm.trans h
  refine lv_iconst (v := ((-1) : Int32)) hx hb dX3_nextAim_0 (by decide) ?_
  refine lv_istore_n (lv' := [(1, .int ((-1) : Int32)), (0, .ref (za 0))]) hx hb dX3_nextAim_1 rfl hl (by decide) rfl (fun ls hl => ?_)
  refine lv_aload_n hx hb dX3_nextAim_2 rfl (lv_at hl 1 rfl) ?_
  refine va_get (D := G.1) (ci := 3) (v := .int zz.1) (C := RX3) (T := TX3) (N := 18) hx hb hts hinX3 hown hK hP 0 rfl rfl 0 (by decide) (hts (.fieldLink RX3 60 "LessonWeaveModel" "aims" "I") (by decide +kernel)) (fun _ h9 => h9) rfl dX3_nextAim_3 ?_
  refine lv_iconst (v := (1 : Int32)) hx hb dX3_nextAim_6 (by decide) ?_
  refine lv_isub hx hb dX3_nextAim_7 ?_
  refine lv_istore_n (lv' := [(2, .int (zz.1 - (1 : Int32))), (1, .int ((-1) : Int32)), (0, .ref (za 0))]) hx hb dX3_nextAim_8 rfl hl (by decide) rfl (fun ls hl => ?_)
  obtain ⟨w2, hw2, h⟩ := sp_b h
  refine xk_jn G A s.heap (wMO G za zz) 3 [(1, .int w2)] 55 [] (fun H locs hP hD hS ls hl => ?_) (fun J1 => ?_)
  · refine lv_iload_n hx hb dX3_nextAim_55 rfl (lv_at hl 0 rfl) ?_
    obtain rfl := sp_s h
    exact xk_reI hx hb hr hlk hP hD hS rfl dX3_nextAim_56
  · have h := hw2
    clear hw2
    refine xk_lp (α := Int32 × Int32) G A s.heap (fun a_1 => (wMO G za zz)) 3 (fun a_1 => [(2, .int a_1.1), (1, .int a_1.2), (0, .ref (za 0))]) 9 (fun n a_1 => f_X3_nextAim_l9 zz n a_1.1 a_1.2 = some w2) (fun a_1 h => ?_) (fun n ih_1 a_1 h H locs hP hD hS ls hl => ?_) (fun LL => ?_)
    · exact sp_n ((f_X3_nextAim_l9_z _ _ _).symm.trans h)
    · obtain ⟨x2_1, x1_1⟩ := a_1
      have h := (f_X3_nextAim_l9_s zz n x2_1 x1_1).symm.trans h
      have hP : va_P G.1 vwCl (wMO G za zz) H := hP
      have hD : va_D A (wMO G za zz) := hD
      have hl : lv_has ls 3 [(2, .int x2_1), (1, .int x1_1), (0, .ref (za 0))] := hl
      refine lv_iload_n hx hb dX3_nextAim_9 rfl (lv_at hl 0 rfl) ?_
      refine lv_if_lt (tgt := 55) hx hb dX3_nextAim_10 (by decide) (fun c3 => ?_) (fun c3 => ?_)
      · have h := sp_t c3 h
        obtain rfl := sp_s h
        exact J1 _ _ hP hD hS _ (lv_sub hl [1] rfl)
      · have h := sp_f c3 h
        refine lv_aload_n hx hb dX3_nextAim_13 rfl (lv_at hl 2 rfl) ?_
        refine va_get (D := G.1) (ci := 3) (v := .ref (za 13)) (C := RX3) (T := TX3) (N := 18) hx hb hts hinX3 hown hK hP 0 rfl rfl 13 (by decide) (hts (.fieldLink RX3 47 "LessonWeaveModel" "lessonsLaid" "[I") (by decide +kernel)) (fun _ h9 => h9) rfl dX3_nextAim_14 ?_
        refine lv_aload_n hx hb dX3_nextAim_17 rfl (lv_at hl 2 rfl) ?_
        refine va_get (D := G.1) (ci := 3) (v := .ref (za 9)) (C := RX3) (T := TX3) (N := 18) hx hb hts hinX3 hown hK hP 0 rfl rfl 9 (by decide) (hts (.fieldLink RX3 35 "LessonWeaveModel" "order" "[I") (by decide +kernel)) (fun _ h9 => h9) rfl dX3_nextAim_18 ?_
        refine lv_iload_n hx hb dX3_nextAim_21 rfl (lv_at hl 0 rfl) ?_
        obtain ⟨hin4, h⟩ := sp_g h
        refine va_iald hx hb hK hP 9 0 rfl rfl hin4 dX3_nextAim_22 ?_
        obtain ⟨hin5, h⟩ := sp_g h
        refine va_iald hx hb hK hP 13 0 rfl rfl hin5 dX3_nextAim_23 ?_
        refine lv_aload_n hx hb dX3_nextAim_24 rfl (lv_at hl 2 rfl) ?_
        refine va_get (D := G.1) (ci := 3) (v := .ref (za 1)) (C := RX3) (T := TX3) (N := 18) hx hb hts hinX3 hown hK hP 0 rfl rfl 1 (by decide) (hts (.fieldLink RX3 7 "LessonWeaveModel" "lessons" "[I") (by decide +kernel)) (fun _ h9 => h9) rfl dX3_nextAim_25 ?_
        refine lv_aload_n hx hb dX3_nextAim_28 rfl (lv_at hl 2 rfl) ?_
        refine va_get (D := G.1) (ci := 3) (v := .ref (za 9)) (C := RX3) (T := TX3) (N := 18) hx hb hts hinX3 hown hK hP 0 rfl rfl 9 (by decide) (hts (.fieldLink RX3 35 "LessonWeaveModel" "order" "[I") (by decide +kernel)) (fun _ h9 => h9) rfl dX3_nextAim_29 ?_
        refine lv_iload_n hx hb dX3_nextAim_32 rfl (lv_at hl 0 rfl) ?_
        refine va_iald hx hb hK hP 9 0 rfl rfl hin4 dX3_nextAim_33 ?_
        refine va_iald hx hb hK hP 1 0 rfl rfl hin5 dX3_nextAim_34 ?_
        refine lv_icmp_ge (tgt := 47) hx hb dX3_nextAim_35 (by decide) (fun c6 => ?_) (fun c6 => ?_)
        · have h := sp_t c6 h
          refine lv_iload_n hx hb dX3_nextAim_47 rfl (lv_at hl 1 rfl) ?_
          refine lv_istore_n (lv' := [(1, .int x1_1), (2, .int x2_1), (0, .ref (za 0))]) hx hb dX3_nextAim_48 rfl hl (by decide) rfl (fun ls hl => ?_)
          refine lv_iinc (v := (x2_1 + ((-1) : Int32))) (lv' := [(2, .int (x2_1 + ((-1) : Int32))), (1, .int x1_1), (0, .ref (za 0))]) hx hb dX3_nextAim_49 hl (k := 1) rfl rfl (by decide) rfl (fun ls hl => ?_)
          refine lv_goto (tgt := 9) hx hb dX3_nextAim_52 (by decide) ?_
          exact ih_1 ((x2_1 + ((-1) : Int32)), x1_1) h _ _ hP hD hS _ (lv_sub hl [0, 1, 2] rfl)
        · have h := sp_f c6 h
          refine lv_aload_n hx hb dX3_nextAim_38 rfl (lv_at hl 2 rfl) ?_
          refine va_get (D := G.1) (ci := 3) (v := .ref (za 9)) (C := RX3) (T := TX3) (N := 18) hx hb hts hinX3 hown hK hP 0 rfl rfl 9 (by decide) (hts (.fieldLink RX3 35 "LessonWeaveModel" "order" "[I") (by decide +kernel)) (fun _ h9 => h9) rfl dX3_nextAim_39 ?_
          refine lv_iload_n hx hb dX3_nextAim_42 rfl (lv_at hl 0 rfl) ?_
          refine va_iald hx hb hK hP 9 0 rfl rfl hin4 dX3_nextAim_43 ?_
          refine lv_goto (tgt := 48) hx hb dX3_nextAim_44 (by decide) ?_
          refine lv_istore_n (lv' := [(1, .int (zz.2.2.2.2.2.2.2.2.2.1 x2_1.toNatClampNeg)), (2, .int x2_1), (0, .ref (za 0))]) hx hb dX3_nextAim_48 rfl hl (by decide) rfl (fun ls hl => ?_)
          refine lv_iinc (v := (x2_1 + ((-1) : Int32))) (lv' := [(2, .int (x2_1 + ((-1) : Int32))), (1, .int (zz.2.2.2.2.2.2.2.2.2.1 x2_1.toNatClampNeg)), (0, .ref (za 0))]) hx hb dX3_nextAim_49 hl (k := 1) rfl rfl (by decide) rfl (fun ls hl => ?_)
          refine lv_goto (tgt := 9) hx hb dX3_nextAim_52 (by decide) ?_
          exact ih_1 ((x2_1 + ((-1) : Int32)), (zz.2.2.2.2.2.2.2.2.2.1 x2_1.toNatClampNeg)) h _ _ hP hD hS _ (lv_sub hl [0, 1, 2] rfl)
    · exact LL 300 ((zz.1 - (1 : Int32)), ((-1) : Int32)) h _ _ hP hD hS _ (lv_sub hl [0, 1, 2] rfl)
def f_X3_plans_l11  : Nat → Int32 → xF → xF → Option (xF × xF)
  | 0, _, _, _ => none
  | k9 + 1, x1_2, zz13_2, zz14_2 =>
    if (12 : Int32) ≤ x1_2 then
      some (zz13_2, zz14_2)
    else
      if x1_2 < 0 ∨ 12 ≤ x1_2.toNatClampNeg then none else
      f_X3_plans_l11  k9 (x1_2 + (1 : Int32)) (upd zz13_2 x1_2.toNatClampNeg (0 : Int32)) (upd zz14_2 x1_2.toNatClampNeg (0 : Int32))
theorem f_X3_plans_l11_z  (x1_2 : Int32) (zz13_2 : xF) (zz14_2 : xF) : f_X3_plans_l11  0 x1_2 zz13_2 zz14_2 = none := rfl
theorem f_X3_plans_l11_s  (k9 : Nat) (x1_2 : Int32) (zz13_2 : xF) (zz14_2 : xF) : f_X3_plans_l11  (k9 + 1) x1_2 zz13_2 zz14_2 =
    if (12 : Int32) ≤ x1_2 then
      some (zz13_2, zz14_2)
    else
      if x1_2 < 0 ∨ 12 ≤ x1_2.toNatClampNeg then none else
      f_X3_plans_l11  k9 (x1_2 + (1 : Int32)) (upd zz13_2 x1_2.toNatClampNeg (0 : Int32)) (upd zz14_2 x1_2.toNatClampNeg (0 : Int32)) := rfl
def f_X3_plans_l39  : Nat → Int32 → xF → Option (xF)
  | 0, _, _ => none
  | k9 + 1, x1_6, zz11_6 =>
    if (60 : Int32) ≤ x1_6 then
      some zz11_6
    else
      if x1_6 < 0 ∨ 60 ≤ x1_6.toNatClampNeg then none else
      f_X3_plans_l39  k9 (x1_6 + (1 : Int32)) (upd zz11_6 x1_6.toNatClampNeg ((-1) : Int32))
theorem f_X3_plans_l39_z  (x1_6 : Int32) (zz11_6 : xF) : f_X3_plans_l39  0 x1_6 zz11_6 = none := rfl
theorem f_X3_plans_l39_s  (k9 : Nat) (x1_6 : Int32) (zz11_6 : xF) : f_X3_plans_l39  (k9 + 1) x1_6 zz11_6 =
    if (60 : Int32) ≤ x1_6 then
      some zz11_6
    else
      if x1_6 < 0 ∨ 60 ≤ x1_6.toNatClampNeg then none else
      f_X3_plans_l39  k9 (x1_6 + (1 : Int32)) (upd zz11_6 x1_6.toNatClampNeg ((-1) : Int32)) := rfl
def f_X3_plans_l60  : Nat → Int32 → xF → Option (xF)
  | 0, _, _ => none
  | k9 + 1, x1_10, zz12_10 =>
    if (36 : Int32) ≤ x1_10 then
      some zz12_10
    else
      if x1_10 < 0 ∨ 36 ≤ x1_10.toNatClampNeg then none else
      f_X3_plans_l60  k9 (x1_10 + (1 : Int32)) (upd zz12_10 x1_10.toNatClampNeg ((-1) : Int32))
theorem f_X3_plans_l60_z  (x1_10 : Int32) (zz12_10 : xF) : f_X3_plans_l60  0 x1_10 zz12_10 = none := rfl
theorem f_X3_plans_l60_s  (k9 : Nat) (x1_10 : Int32) (zz12_10 : xF) : f_X3_plans_l60  (k9 + 1) x1_10 zz12_10 =
    if (36 : Int32) ≤ x1_10 then
      some zz12_10
    else
      if x1_10 < 0 ∨ 36 ≤ x1_10.toNatClampNeg then none else
      f_X3_plans_l60  k9 (x1_10 + (1 : Int32)) (upd zz12_10 x1_10.toNatClampNeg ((-1) : Int32)) := rfl
def f_X3_plans_l81 (zz : xMO) (o1 : xF) : Nat → Int32 → xF → xF → xF → xF → xF → Int32 → Option (xF × xF × xF × xF × xF × Int32)
  | 0, _, _, _, _, _, _, _ => none
  | k9 + 1, x1_14, zz10_14, zz11_14, zz12_14, zz13_14, zz14_14, zz16_14 =>
    if (100 : Int32) ≤ x1_14 then
      some (zz10_14, zz11_14, zz12_14, zz13_14, zz14_14, zz16_14)
    else
      if x1_14 < 0 ∨ 100 ≤ x1_14.toNatClampNeg then none else
      Option.bind (
        if (zz.2.2.2.2.2.2.2.2.1 x1_14.toNatClampNeg) = 0 then
          Option.bind (f_X3_revisitFor (zz.1, zz.2.1, zz.2.2.1, zz.2.2.2.1, zz.2.2.2.2.1, zz.2.2.2.2.2.1, zz.2.2.2.2.2.2.1, zz.2.2.2.2.2.2.2.1, zz.2.2.2.2.2.2.2.2.1, o1, (upd zz10_14 x1_14.toNatClampNeg ((-1) : Int32)), zz11_14, zz12_14, zz13_14, zz14_14, zz.2.2.2.2.2.2.2.2.2.2.2.2.2.2.2.1, zz16_14, zz.2.2.2.2.2.2.2.2.2.2.2.2.2.2.2.2.2) x1_14) fun (o34 : Int32) =>
          some o34
        else
          some ((-1) : Int32)) fun (v18 : Int32) =>
      Option.bind (
        if (zz.2.2.2.2.2.2.2.2.1 x1_14.toNatClampNeg) = 0 then
          Option.bind (f_X3_nextAim (zz.1, zz.2.1, zz.2.2.1, zz.2.2.2.1, zz.2.2.2.2.1, zz.2.2.2.2.2.1, zz.2.2.2.2.2.2.1, zz.2.2.2.2.2.2.2.1, zz.2.2.2.2.2.2.2.2.1, o1, (upd zz10_14 x1_14.toNatClampNeg ((-1) : Int32)), zz11_14, zz12_14, zz13_14, zz14_14, zz.2.2.2.2.2.2.2.2.2.2.2.2.2.2.2.1, zz16_14, zz.2.2.2.2.2.2.2.2.2.2.2.2.2.2.2.2.2)) fun (o32 : Int32) =>
          some o32
        else
          some ((-1) : Int32)) fun (v19 : Int32) =>
      if v18 = ((-1) : Int32) then
        if v19 = ((-1) : Int32) then
          f_X3_plans_l81 zz o1 k9 (x1_14 + (1 : Int32)) (upd zz10_14 x1_14.toNatClampNeg ((-1) : Int32)) zz11_14 zz12_14 zz13_14 zz14_14 zz16_14
        else
          Option.bind (f_X3_isHeld (zz.1, zz.2.1, zz.2.2.1, zz.2.2.2.1, zz.2.2.2.2.1, zz.2.2.2.2.2.1, zz.2.2.2.2.2.2.1, zz.2.2.2.2.2.2.2.1, zz.2.2.2.2.2.2.2.2.1, o1, (upd zz10_14 x1_14.toNatClampNeg ((-1) : Int32)), zz11_14, zz12_14, zz13_14, zz14_14, zz.2.2.2.2.2.2.2.2.2.2.2.2.2.2.2.1, zz16_14, zz.2.2.2.2.2.2.2.2.2.2.2.2.2.2.2.2.2) v19 x1_14) fun (o22 : Int32) =>
          if o22 = 0 then
            if v19 < 0 ∨ 12 ≤ v19.toNatClampNeg then none else
            if (((5 : Int32) * v19) + (zz13_14 v19.toNatClampNeg)) < 0 ∨ 60 ≤ (((5 : Int32) * v19) + (zz13_14 v19.toNatClampNeg)).toNatClampNeg then none else
            f_X3_plans_l81 zz o1 k9 (x1_14 + (1 : Int32)) (upd (upd zz10_14 x1_14.toNatClampNeg ((-1) : Int32)) x1_14.toNatClampNeg v19) (upd zz11_14 (((5 : Int32) * v19) + (zz13_14 v19.toNatClampNeg)).toNatClampNeg x1_14) zz12_14 (upd zz13_14 v19.toNatClampNeg ((zz13_14 v19.toNatClampNeg) + (1 : Int32))) zz14_14 zz16_14
          else
            f_X3_plans_l81 zz o1 k9 (x1_14 + (1 : Int32)) (upd zz10_14 x1_14.toNatClampNeg ((-1) : Int32)) zz11_14 zz12_14 zz13_14 zz14_14 zz16_14
      else
        Option.bind (f_X3_lateFrom (zz.1, zz.2.1, zz.2.2.1, zz.2.2.2.1, zz.2.2.2.2.1, zz.2.2.2.2.2.1, zz.2.2.2.2.2.2.1, zz.2.2.2.2.2.2.2.1, zz.2.2.2.2.2.2.2.2.1, o1, (upd zz10_14 x1_14.toNatClampNeg ((-1) : Int32)), zz11_14, zz12_14, zz13_14, zz14_14, zz.2.2.2.2.2.2.2.2.2.2.2.2.2.2.2.1, zz16_14, zz.2.2.2.2.2.2.2.2.2.2.2.2.2.2.2.2.2) v18) fun (o26 : Int32) =>
        Option.bind (
          if x1_14 < o26 then
            some (0 : Int32)
          else
            some (1 : Int32)) fun (v27 : Int32) =>
        if v18 < 0 ∨ 12 ≤ v18.toNatClampNeg then none else
        if (((3 : Int32) * v18) + (zz14_14 v18.toNatClampNeg)) < 0 ∨ 36 ≤ (((3 : Int32) * v18) + (zz14_14 v18.toNatClampNeg)).toNatClampNeg then none else
        f_X3_plans_l81 zz o1 k9 (x1_14 + (1 : Int32)) (upd (upd zz10_14 x1_14.toNatClampNeg ((-1) : Int32)) x1_14.toNatClampNeg ((100 : Int32) + v18)) zz11_14 (upd zz12_14 (((3 : Int32) * v18) + (zz14_14 v18.toNatClampNeg)).toNatClampNeg x1_14) zz13_14 (upd zz14_14 v18.toNatClampNeg ((zz14_14 v18.toNatClampNeg) + (1 : Int32))) (zz16_14 + v27)
theorem f_X3_plans_l81_z (zz : xMO) (o1 : xF) (x1_14 : Int32) (zz10_14 : xF) (zz11_14 : xF) (zz12_14 : xF) (zz13_14 : xF) (zz14_14 : xF) (zz16_14 : Int32) : f_X3_plans_l81 zz o1 0 x1_14 zz10_14 zz11_14 zz12_14 zz13_14 zz14_14 zz16_14 = none := rfl
theorem f_X3_plans_l81_s (zz : xMO) (o1 : xF) (k9 : Nat) (x1_14 : Int32) (zz10_14 : xF) (zz11_14 : xF) (zz12_14 : xF) (zz13_14 : xF) (zz14_14 : xF) (zz16_14 : Int32) : f_X3_plans_l81 zz o1 (k9 + 1) x1_14 zz10_14 zz11_14 zz12_14 zz13_14 zz14_14 zz16_14 =
    if (100 : Int32) ≤ x1_14 then
      some (zz10_14, zz11_14, zz12_14, zz13_14, zz14_14, zz16_14)
    else
      if x1_14 < 0 ∨ 100 ≤ x1_14.toNatClampNeg then none else
      Option.bind (
        if (zz.2.2.2.2.2.2.2.2.1 x1_14.toNatClampNeg) = 0 then
          Option.bind (f_X3_revisitFor (zz.1, zz.2.1, zz.2.2.1, zz.2.2.2.1, zz.2.2.2.2.1, zz.2.2.2.2.2.1, zz.2.2.2.2.2.2.1, zz.2.2.2.2.2.2.2.1, zz.2.2.2.2.2.2.2.2.1, o1, (upd zz10_14 x1_14.toNatClampNeg ((-1) : Int32)), zz11_14, zz12_14, zz13_14, zz14_14, zz.2.2.2.2.2.2.2.2.2.2.2.2.2.2.2.1, zz16_14, zz.2.2.2.2.2.2.2.2.2.2.2.2.2.2.2.2.2) x1_14) fun (o34 : Int32) =>
          some o34
        else
          some ((-1) : Int32)) fun (v18 : Int32) =>
      Option.bind (
        if (zz.2.2.2.2.2.2.2.2.1 x1_14.toNatClampNeg) = 0 then
          Option.bind (f_X3_nextAim (zz.1, zz.2.1, zz.2.2.1, zz.2.2.2.1, zz.2.2.2.2.1, zz.2.2.2.2.2.1, zz.2.2.2.2.2.2.1, zz.2.2.2.2.2.2.2.1, zz.2.2.2.2.2.2.2.2.1, o1, (upd zz10_14 x1_14.toNatClampNeg ((-1) : Int32)), zz11_14, zz12_14, zz13_14, zz14_14, zz.2.2.2.2.2.2.2.2.2.2.2.2.2.2.2.1, zz16_14, zz.2.2.2.2.2.2.2.2.2.2.2.2.2.2.2.2.2)) fun (o32 : Int32) =>
          some o32
        else
          some ((-1) : Int32)) fun (v19 : Int32) =>
      if v18 = ((-1) : Int32) then
        if v19 = ((-1) : Int32) then
          f_X3_plans_l81 zz o1 k9 (x1_14 + (1 : Int32)) (upd zz10_14 x1_14.toNatClampNeg ((-1) : Int32)) zz11_14 zz12_14 zz13_14 zz14_14 zz16_14
        else
          Option.bind (f_X3_isHeld (zz.1, zz.2.1, zz.2.2.1, zz.2.2.2.1, zz.2.2.2.2.1, zz.2.2.2.2.2.1, zz.2.2.2.2.2.2.1, zz.2.2.2.2.2.2.2.1, zz.2.2.2.2.2.2.2.2.1, o1, (upd zz10_14 x1_14.toNatClampNeg ((-1) : Int32)), zz11_14, zz12_14, zz13_14, zz14_14, zz.2.2.2.2.2.2.2.2.2.2.2.2.2.2.2.1, zz16_14, zz.2.2.2.2.2.2.2.2.2.2.2.2.2.2.2.2.2) v19 x1_14) fun (o22 : Int32) =>
          if o22 = 0 then
            if v19 < 0 ∨ 12 ≤ v19.toNatClampNeg then none else
            if (((5 : Int32) * v19) + (zz13_14 v19.toNatClampNeg)) < 0 ∨ 60 ≤ (((5 : Int32) * v19) + (zz13_14 v19.toNatClampNeg)).toNatClampNeg then none else
            f_X3_plans_l81 zz o1 k9 (x1_14 + (1 : Int32)) (upd (upd zz10_14 x1_14.toNatClampNeg ((-1) : Int32)) x1_14.toNatClampNeg v19) (upd zz11_14 (((5 : Int32) * v19) + (zz13_14 v19.toNatClampNeg)).toNatClampNeg x1_14) zz12_14 (upd zz13_14 v19.toNatClampNeg ((zz13_14 v19.toNatClampNeg) + (1 : Int32))) zz14_14 zz16_14
          else
            f_X3_plans_l81 zz o1 k9 (x1_14 + (1 : Int32)) (upd zz10_14 x1_14.toNatClampNeg ((-1) : Int32)) zz11_14 zz12_14 zz13_14 zz14_14 zz16_14
      else
        Option.bind (f_X3_lateFrom (zz.1, zz.2.1, zz.2.2.1, zz.2.2.2.1, zz.2.2.2.2.1, zz.2.2.2.2.2.1, zz.2.2.2.2.2.2.1, zz.2.2.2.2.2.2.2.1, zz.2.2.2.2.2.2.2.2.1, o1, (upd zz10_14 x1_14.toNatClampNeg ((-1) : Int32)), zz11_14, zz12_14, zz13_14, zz14_14, zz.2.2.2.2.2.2.2.2.2.2.2.2.2.2.2.1, zz16_14, zz.2.2.2.2.2.2.2.2.2.2.2.2.2.2.2.2.2) v18) fun (o26 : Int32) =>
        Option.bind (
          if x1_14 < o26 then
            some (0 : Int32)
          else
            some (1 : Int32)) fun (v27 : Int32) =>
        if v18 < 0 ∨ 12 ≤ v18.toNatClampNeg then none else
        if (((3 : Int32) * v18) + (zz14_14 v18.toNatClampNeg)) < 0 ∨ 36 ≤ (((3 : Int32) * v18) + (zz14_14 v18.toNatClampNeg)).toNatClampNeg then none else
        f_X3_plans_l81 zz o1 k9 (x1_14 + (1 : Int32)) (upd (upd zz10_14 x1_14.toNatClampNeg ((-1) : Int32)) x1_14.toNatClampNeg ((100 : Int32) + v18)) zz11_14 (upd zz12_14 (((3 : Int32) * v18) + (zz14_14 v18.toNatClampNeg)).toNatClampNeg x1_14) zz13_14 (upd zz14_14 v18.toNatClampNeg ((zz14_14 v18.toNatClampNeg) + (1 : Int32))) (zz16_14 + v27) := rfl
def f_X3_plans (zz : xMO) : Option (xF × xF × xF × xF × xF × xF × Int32) :=
  Option.bind (f_X3_orders zz) fun (o1 : xF) =>
  Option.bind (f_X3_plans_l11  300 (0 : Int32) zz.2.2.2.2.2.2.2.2.2.2.2.2.2.1 zz.2.2.2.2.2.2.2.2.2.2.2.2.2.2.1) fun (w3 : xF × xF) =>
  Option.bind (f_X3_plans_l39  300 (0 : Int32) zz.2.2.2.2.2.2.2.2.2.2.2.1) fun (w7 : xF) =>
  Option.bind (f_X3_plans_l60  300 (0 : Int32) zz.2.2.2.2.2.2.2.2.2.2.2.2.1) fun (w11 : xF) =>
  Option.bind (f_X3_plans_l81 zz o1 300 (0 : Int32) zz.2.2.2.2.2.2.2.2.2.2.1 w7 w11 w3.1 w3.2 (0 : Int32)) fun (w15 : xF × xF × xF × xF × xF × Int32) =>
  some (o1, w15.1, w15.2.1, w15.2.2.1, w15.2.2.2.1, w15.2.2.2.2.1, w15.2.2.2.2.2)
theorem f_X3_plans_e (zz : xMO) : f_X3_plans zz =
  Option.bind (f_X3_orders zz) fun (o1 : xF) =>
  Option.bind (f_X3_plans_l11  300 (0 : Int32) zz.2.2.2.2.2.2.2.2.2.2.2.2.2.1 zz.2.2.2.2.2.2.2.2.2.2.2.2.2.2.1) fun (w3 : xF × xF) =>
  Option.bind (f_X3_plans_l39  300 (0 : Int32) zz.2.2.2.2.2.2.2.2.2.2.2.1) fun (w7 : xF) =>
  Option.bind (f_X3_plans_l60  300 (0 : Int32) zz.2.2.2.2.2.2.2.2.2.2.2.2.1) fun (w11 : xF) =>
  Option.bind (f_X3_plans_l81 zz o1 300 (0 : Int32) zz.2.2.2.2.2.2.2.2.2.2.1 w7 w11 w3.1 w3.2 (0 : Int32)) fun (w15 : xF × xF × xF × xF × xF × Int32) =>
  some (o1, w15.1, w15.2.1, w15.2.2.1, w15.2.2.2.1, w15.2.2.2.2.1, w15.2.2.2.2.2) := rfl
set_option maxHeartbeats 4000000 in
set_option maxRecDepth 100000 in
theorem c_X3_plans (l : Launch) (G : xG) (za : (Nat → Nat)) (zz : xMO) (o : xF × xF × xF × xF × xF × xF × Int32) (h : f_X3_plans zz = some o) : xk_CV l yX3_plans wsX3_plans ({ frames := 3, cells := 0, slots := 0, locals := 67 } : Room) 0 0 [.ref (za 0)] G (wMO G za zz) (wMO G za (zz.1, zz.2.1, zz.2.2.1, zz.2.2.2.1, zz.2.2.2.2.1, zz.2.2.2.2.2.1, zz.2.2.2.2.2.2.1, zz.2.2.2.2.2.2.2.1, zz.2.2.2.2.2.2.2.2.1, o.1, o.2.1, o.2.2.1, o.2.2.2.1, o.2.2.2.2.1, o.2.2.2.2.2.1, zz.2.2.2.2.2.2.2.2.2.2.2.2.2.2.2.1, o.2.2.2.2.2.2, zz.2.2.2.2.2.2.2.2.2.2.2.2.2.2.2.2.2)) := by
  refine xk_CV.of (cc := cX3_plans) (maxL := 4) (ret := none) (by decide) rfl (Nat.le_of_ble_eq_true rfl) ?_
  intro pr9 en9 s mm9 bl9 meth9 cd9 A ls H locs hx hb hr hml hts hown hlk hA hP hK hD hNE hS hl
  have hown : s.vm.findClass RX3 = some mm9.cls := hown
  have hl : lv_has ls 4 [(0, .ref (za 0))] := hl
  have hinX3 : ∀ w ∈ u_ws RX3 TX3 18, w ∈ wsX3_plans := by decide +kernel
  have h := (f_X3_plans_e zz).symm.trans h
  refine lv_aload_n hx hb dX3_plans_0 rfl (lv_at hl 0 rfl) ?_
  obtain ⟨o1, ho1, h⟩ := sp_b h
  refine xk_cv (va_runV (As := []) (rest := []) ⟨hx, hb, hml, hown, hts⟩ (c_X3_orders l G za zz o1 ho1 H.size) (cwV 0 hts gX3_plans_X3_orders rfl rfl rfl (by decide +kernel) ⟨Nat.le_of_ble_eq_true rfl, Nat.le_of_ble_eq_true rfl⟩) (xk_preV hK hNE (hP.sub (ws' := (wMO G za zz)) [0, 1, 2, 3, 4, 5, 6, 7, 8, 9, 10, 11, 12, 13, 14, 15] rfl) (hD.sub (ws' := (wMO G za zz)) [0, 1, 2, 3, 4, 5, 6, 7, 8, 9, 10, 11, 12, 13, 14, 15] (by decide) rfl) (ci := 3) rfl rfl) rfl rfl hl.1 rfl (lv_room (Nat.le_of_ble_eq_true rfl)) dX3_plans_1 ⟨Nat.le_of_ble_eq_true rfl, Nat.le_of_ble_eq_true rfl⟩) hP hD hS hA [0, 1, 2, 3, 4, 5, 6, 7, 8, 9, 10, 11, 12, 13, 14, 15] [] [0, 1, 2, 3, 4, 5, 6, 7, 8, 9, 10, 11, 12, 13, 14, 15] rfl rfl (by decide) (by decide) rfl (by decide) (fun H locs hP hD hS => ?_)
  have hP : va_P G.1 vwCl (wMO G za (zz.1, zz.2.1, zz.2.2.1, zz.2.2.2.1, zz.2.2.2.2.1, zz.2.2.2.2.2.1, zz.2.2.2.2.2.2.1, zz.2.2.2.2.2.2.2.1, zz.2.2.2.2.2.2.2.2.1, o1, zz.2.2.2.2.2.2.2.2.2.2.1, zz.2.2.2.2.2.2.2.2.2.2.2.1, zz.2.2.2.2.2.2.2.2.2.2.2.2.1, zz.2.2.2.2.2.2.2.2.2.2.2.2.2.1, zz.2.2.2.2.2.2.2.2.2.2.2.2.2.2.1, zz.2.2.2.2.2.2.2.2.2.2.2.2.2.2.2.1, zz.2.2.2.2.2.2.2.2.2.2.2.2.2.2.2.2.1, zz.2.2.2.2.2.2.2.2.2.2.2.2.2.2.2.2.2)) H := hP
  have hD : va_D A (wMO G za (zz.1, zz.2.1, zz.2.2.1, zz.2.2.2.1, zz.2.2.2.2.1, zz.2.2.2.2.2.1, zz.2.2.2.2.2.2.1, zz.2.2.2.2.2.2.2.1, zz.2.2.2.2.2.2.2.2.1, o1, zz.2.2.2.2.2.2.2.2.2.2.1, zz.2.2.2.2.2.2.2.2.2.2.2.1, zz.2.2.2.2.2.2.2.2.2.2.2.2.1, zz.2.2.2.2.2.2.2.2.2.2.2.2.2.1, zz.2.2.2.2.2.2.2.2.2.2.2.2.2.2.1, zz.2.2.2.2.2.2.2.2.2.2.2.2.2.2.2.1, zz.2.2.2.2.2.2.2.2.2.2.2.2.2.2.2.2.1, zz.2.2.2.2.2.2.2.2.2.2.2.2.2.2.2.2.2)) := hD
  refine lv_aload_n hx hb dX3_plans_4 rfl (lv_at hl 0 rfl) ?_
  refine lv_iconst (v := (0 : Int32)) hx hb dX3_plans_5 (by decide) ?_
  refine va_put (D := G.1) (ci := 3) (v := .int (0 : Int32)) (ty := .int) (C := RX3) (T := TX3) (N := 18) hx hb hts hinX3 tyX3 tyX3_ok nmX3 hown hK hP hD hS 0 rfl rfl 16 (by decide) (hts (.fieldLink RX3 94 "LessonWeaveModel" "late" "I") (by decide +kernel)) (fun _ h9 => h9) rfl (by decide +kernel) rfl rfl (Nat.le_of_ble_eq_true rfl) dX3_plans_6 (fun H locs hP hD hS => ?_)
  have hP : va_P G.1 vwCl (wMO G za (zz.1, zz.2.1, zz.2.2.1, zz.2.2.2.1, zz.2.2.2.2.1, zz.2.2.2.2.2.1, zz.2.2.2.2.2.2.1, zz.2.2.2.2.2.2.2.1, zz.2.2.2.2.2.2.2.2.1, o1, zz.2.2.2.2.2.2.2.2.2.2.1, zz.2.2.2.2.2.2.2.2.2.2.2.1, zz.2.2.2.2.2.2.2.2.2.2.2.2.1, zz.2.2.2.2.2.2.2.2.2.2.2.2.2.1, zz.2.2.2.2.2.2.2.2.2.2.2.2.2.2.1, zz.2.2.2.2.2.2.2.2.2.2.2.2.2.2.2.1, (0 : Int32), zz.2.2.2.2.2.2.2.2.2.2.2.2.2.2.2.2.2)) H := hP
  have hD : va_D A (wMO G za (zz.1, zz.2.1, zz.2.2.1, zz.2.2.2.1, zz.2.2.2.2.1, zz.2.2.2.2.2.1, zz.2.2.2.2.2.2.1, zz.2.2.2.2.2.2.2.1, zz.2.2.2.2.2.2.2.2.1, o1, zz.2.2.2.2.2.2.2.2.2.2.1, zz.2.2.2.2.2.2.2.2.2.2.2.1, zz.2.2.2.2.2.2.2.2.2.2.2.2.1, zz.2.2.2.2.2.2.2.2.2.2.2.2.2.1, zz.2.2.2.2.2.2.2.2.2.2.2.2.2.2.1, zz.2.2.2.2.2.2.2.2.2.2.2.2.2.2.2.1, (0 : Int32), zz.2.2.2.2.2.2.2.2.2.2.2.2.2.2.2.2.2)) := hD
  refine lv_iconst (v := (0 : Int32)) hx hb dX3_plans_9 (by decide) ?_
  refine lv_istore_n (lv' := [(1, .int (0 : Int32)), (0, .ref (za 0))]) hx hb dX3_plans_10 rfl hl (by decide) rfl (fun ls hl => ?_)
  obtain ⟨w3, hw3, h⟩ := sp_b h
  refine xk_jn G A s.heap (wMO G za (zz.1, zz.2.1, zz.2.2.1, zz.2.2.2.1, zz.2.2.2.2.1, zz.2.2.2.2.2.1, zz.2.2.2.2.2.2.1, zz.2.2.2.2.2.2.2.1, zz.2.2.2.2.2.2.2.2.1, o1, zz.2.2.2.2.2.2.2.2.2.2.1, zz.2.2.2.2.2.2.2.2.2.2.2.1, zz.2.2.2.2.2.2.2.2.2.2.2.2.1, w3.1, w3.2, zz.2.2.2.2.2.2.2.2.2.2.2.2.2.2.2.1, (0 : Int32), zz.2.2.2.2.2.2.2.2.2.2.2.2.2.2.2.2.2)) 4 [(0, .ref (za 0))] 37 [] (fun H locs hP hD hS ls hl => ?_) (fun J2 => ?_)
  · refine lv_iconst (v := (0 : Int32)) hx hb dX3_plans_37 (by decide) ?_
    refine lv_istore_n (lv' := [(1, .int (0 : Int32)), (0, .ref (za 0))]) hx hb dX3_plans_38 rfl hl (by decide) rfl (fun ls hl => ?_)
    obtain ⟨w7, hw7, h⟩ := sp_b h
    refine xk_jn G A s.heap (wMO G za (zz.1, zz.2.1, zz.2.2.1, zz.2.2.2.1, zz.2.2.2.2.1, zz.2.2.2.2.2.1, zz.2.2.2.2.2.2.1, zz.2.2.2.2.2.2.2.1, zz.2.2.2.2.2.2.2.2.1, o1, zz.2.2.2.2.2.2.2.2.2.2.1, w7, zz.2.2.2.2.2.2.2.2.2.2.2.2.1, w3.1, w3.2, zz.2.2.2.2.2.2.2.2.2.2.2.2.2.2.2.1, (0 : Int32), zz.2.2.2.2.2.2.2.2.2.2.2.2.2.2.2.2.2)) 4 [(0, .ref (za 0))] 58 [] (fun H locs hP hD hS ls hl => ?_) (fun J6 => ?_)
    · refine lv_iconst (v := (0 : Int32)) hx hb dX3_plans_58 (by decide) ?_
      refine lv_istore_n (lv' := [(1, .int (0 : Int32)), (0, .ref (za 0))]) hx hb dX3_plans_59 rfl hl (by decide) rfl (fun ls hl => ?_)
      obtain ⟨w11, hw11, h⟩ := sp_b h
      refine xk_jn G A s.heap (wMO G za (zz.1, zz.2.1, zz.2.2.1, zz.2.2.2.1, zz.2.2.2.2.1, zz.2.2.2.2.2.1, zz.2.2.2.2.2.2.1, zz.2.2.2.2.2.2.2.1, zz.2.2.2.2.2.2.2.2.1, o1, zz.2.2.2.2.2.2.2.2.2.2.1, w7, w11, w3.1, w3.2, zz.2.2.2.2.2.2.2.2.2.2.2.2.2.2.2.1, (0 : Int32), zz.2.2.2.2.2.2.2.2.2.2.2.2.2.2.2.2.2)) 4 [(0, .ref (za 0))] 79 [] (fun H locs hP hD hS ls hl => ?_) (fun J10 => ?_)
      · refine lv_iconst (v := (0 : Int32)) hx hb dX3_plans_79 (by decide) ?_
        refine lv_istore_n (lv' := [(1, .int (0 : Int32)), (0, .ref (za 0))]) hx hb dX3_plans_80 rfl hl (by decide) rfl (fun ls hl => ?_)
        obtain ⟨w15, hw15, h⟩ := sp_b h
        refine xk_jn G A s.heap (wMO G za (zz.1, zz.2.1, zz.2.2.1, zz.2.2.2.1, zz.2.2.2.2.1, zz.2.2.2.2.2.1, zz.2.2.2.2.2.2.1, zz.2.2.2.2.2.2.2.1, zz.2.2.2.2.2.2.2.2.1, o1, w15.1, w15.2.1, w15.2.2.1, w15.2.2.2.1, w15.2.2.2.2.1, zz.2.2.2.2.2.2.2.2.2.2.2.2.2.2.2.1, w15.2.2.2.2.2, zz.2.2.2.2.2.2.2.2.2.2.2.2.2.2.2.2.2)) 4 [] 251 [] (fun H locs hP hD hS ls hl => ?_) (fun J14 => ?_)
        · obtain rfl := sp_s h
          exact xk_reV hx hb hr hlk hP hD hS dX3_plans_251
        · have h := hw15
          clear hw15
          refine xk_lp (α := Int32 × xF × xF × xF × xF × xF × Int32) G A s.heap (fun a_14 => (wMO G za (zz.1, zz.2.1, zz.2.2.1, zz.2.2.2.1, zz.2.2.2.2.1, zz.2.2.2.2.2.1, zz.2.2.2.2.2.2.1, zz.2.2.2.2.2.2.2.1, zz.2.2.2.2.2.2.2.2.1, o1, a_14.2.1, a_14.2.2.1, a_14.2.2.2.1, a_14.2.2.2.2.1, a_14.2.2.2.2.2.1, zz.2.2.2.2.2.2.2.2.2.2.2.2.2.2.2.1, a_14.2.2.2.2.2.2, zz.2.2.2.2.2.2.2.2.2.2.2.2.2.2.2.2.2))) 4 (fun a_14 => [(1, .int a_14.1), (0, .ref (za 0))]) 81 (fun n a_14 => f_X3_plans_l81 zz o1 n a_14.1 a_14.2.1 a_14.2.2.1 a_14.2.2.2.1 a_14.2.2.2.2.1 a_14.2.2.2.2.2.1 a_14.2.2.2.2.2.2 = some w15) (fun a_14 h => ?_) (fun n ih_14 a_14 h H locs hP hD hS ls hl => ?_) (fun LL => ?_)
          · exact sp_n ((f_X3_plans_l81_z _ _ _ _ _ _ _ _ _).symm.trans h)
          · obtain ⟨x1_14, zz10_14, zz11_14, zz12_14, zz13_14, zz14_14, zz16_14⟩ := a_14
            have h := (f_X3_plans_l81_s zz o1 n x1_14 zz10_14 zz11_14 zz12_14 zz13_14 zz14_14 zz16_14).symm.trans h
            have hP : va_P G.1 vwCl (wMO G za (zz.1, zz.2.1, zz.2.2.1, zz.2.2.2.1, zz.2.2.2.2.1, zz.2.2.2.2.2.1, zz.2.2.2.2.2.2.1, zz.2.2.2.2.2.2.2.1, zz.2.2.2.2.2.2.2.2.1, o1, zz10_14, zz11_14, zz12_14, zz13_14, zz14_14, zz.2.2.2.2.2.2.2.2.2.2.2.2.2.2.2.1, zz16_14, zz.2.2.2.2.2.2.2.2.2.2.2.2.2.2.2.2.2)) H := hP
            have hD : va_D A (wMO G za (zz.1, zz.2.1, zz.2.2.1, zz.2.2.2.1, zz.2.2.2.2.1, zz.2.2.2.2.2.1, zz.2.2.2.2.2.2.1, zz.2.2.2.2.2.2.2.1, zz.2.2.2.2.2.2.2.2.1, o1, zz10_14, zz11_14, zz12_14, zz13_14, zz14_14, zz.2.2.2.2.2.2.2.2.2.2.2.2.2.2.2.1, zz16_14, zz.2.2.2.2.2.2.2.2.2.2.2.2.2.2.2.2.2)) := hD
            have hl : lv_has ls 4 [(1, .int x1_14), (0, .ref (za 0))] := hl
            refine lv_iload_n hx hb dX3_plans_81 rfl (lv_at hl 0 rfl) ?_
            refine lv_bipush (v := (100 : Int32)) hx hb dX3_plans_82 (by decide) ?_
            refine lv_icmp_ge (tgt := 251) hx hb dX3_plans_84 (by decide) (fun c16 => ?_) (fun c16 => ?_)
            · have h := sp_t c16 h
              obtain rfl := sp_s h
              exact J14 _ _ hP hD hS _ (lv_sub hl [] rfl)
            · have h := sp_f c16 h
              refine lv_aload_n hx hb dX3_plans_87 rfl (lv_at hl 1 rfl) ?_
              refine va_get (D := G.1) (ci := 3) (v := .ref (za 10)) (C := RX3) (T := TX3) (N := 18) hx hb hts hinX3 hown hK hP 0 rfl rfl 10 (by decide) (hts (.fieldLink RX3 38 "LessonWeaveModel" "things" "[I") (by decide +kernel)) (fun _ h9 => h9) rfl dX3_plans_88 ?_
              refine lv_iload_n hx hb dX3_plans_91 rfl (lv_at hl 0 rfl) ?_
              refine lv_iconst (v := ((-1) : Int32)) hx hb dX3_plans_92 (by decide) ?_
              obtain ⟨hin17, h⟩ := sp_g h
              refine va_iast hx hb hK hP hD hS 10 0 rfl rfl hin17 dX3_plans_93 (fun H locs hP hD hS => ?_)
              have hP : va_P G.1 vwCl (wMO G za (zz.1, zz.2.1, zz.2.2.1, zz.2.2.2.1, zz.2.2.2.2.1, zz.2.2.2.2.2.1, zz.2.2.2.2.2.2.1, zz.2.2.2.2.2.2.2.1, zz.2.2.2.2.2.2.2.2.1, o1, (upd zz10_14 x1_14.toNatClampNeg ((-1) : Int32)), zz11_14, zz12_14, zz13_14, zz14_14, zz.2.2.2.2.2.2.2.2.2.2.2.2.2.2.2.1, zz16_14, zz.2.2.2.2.2.2.2.2.2.2.2.2.2.2.2.2.2)) H := hP
              have hD : va_D A (wMO G za (zz.1, zz.2.1, zz.2.2.1, zz.2.2.2.1, zz.2.2.2.2.1, zz.2.2.2.2.2.1, zz.2.2.2.2.2.2.1, zz.2.2.2.2.2.2.2.1, zz.2.2.2.2.2.2.2.2.1, o1, (upd zz10_14 x1_14.toNatClampNeg ((-1) : Int32)), zz11_14, zz12_14, zz13_14, zz14_14, zz.2.2.2.2.2.2.2.2.2.2.2.2.2.2.2.1, zz16_14, zz.2.2.2.2.2.2.2.2.2.2.2.2.2.2.2.2.2)) := hD
              refine lv_aload_n hx hb dX3_plans_94 rfl (lv_at hl 1 rfl) ?_
              refine va_get (D := G.1) (ci := 3) (v := .ref (za 8)) (C := RX3) (T := TX3) (N := 18) hx hb hts hinX3 hown hK hP 0 rfl rfl 8 (by decide) (hts (.fieldLink RX3 31 "LessonWeaveModel" "isLost" "[Z") (by decide +kernel)) (fun _ h9 => h9) rfl dX3_plans_95 ?_
              refine lv_iload_n hx hb dX3_plans_98 rfl (lv_at hl 0 rfl) ?_
              refine va_zald hx hb hK hP 8 1 rfl rfl hin17 dX3_plans_99 ?_
              obtain ⟨v18, hv18, h⟩ := sp_b h
              refine xk_jn G A s.heap (wMO G za (zz.1, zz.2.1, zz.2.2.1, zz.2.2.2.1, zz.2.2.2.2.1, zz.2.2.2.2.2.1, zz.2.2.2.2.2.2.1, zz.2.2.2.2.2.2.2.1, zz.2.2.2.2.2.2.2.2.1, o1, (upd zz10_14 x1_14.toNatClampNeg ((-1) : Int32)), zz11_14, zz12_14, zz13_14, zz14_14, zz.2.2.2.2.2.2.2.2.2.2.2.2.2.2.2.1, zz16_14, zz.2.2.2.2.2.2.2.2.2.2.2.2.2.2.2.2.2)) 4 [(1, .int x1_14), (0, .ref (za 0))] 112 [.int v18] (fun H locs hP hD hS ls hl => ?_) (fun J18 => ?_)
              · refine lv_istore_n (lv' := [(2, .int v18), (1, .int x1_14), (0, .ref (za 0))]) hx hb dX3_plans_112 rfl hl (by decide) rfl (fun ls hl => ?_)
                refine lv_aload_n hx hb dX3_plans_113 rfl (lv_at hl 2 rfl) ?_
                refine va_get (D := G.1) (ci := 3) (v := .ref (za 8)) (C := RX3) (T := TX3) (N := 18) hx hb hts hinX3 hown hK hP 0 rfl rfl 8 (by decide) (hts (.fieldLink RX3 31 "LessonWeaveModel" "isLost" "[Z") (by decide +kernel)) (fun _ h9 => h9) rfl dX3_plans_114 ?_
                refine lv_iload_n hx hb dX3_plans_117 rfl (lv_at hl 1 rfl) ?_
                refine va_zald hx hb hK hP 8 1 rfl rfl hin17 dX3_plans_118 ?_
                obtain ⟨v19, hv19, h⟩ := sp_b h
                refine xk_jn G A s.heap (wMO G za (zz.1, zz.2.1, zz.2.2.1, zz.2.2.2.1, zz.2.2.2.2.1, zz.2.2.2.2.2.1, zz.2.2.2.2.2.2.1, zz.2.2.2.2.2.2.2.1, zz.2.2.2.2.2.2.2.2.1, o1, (upd zz10_14 x1_14.toNatClampNeg ((-1) : Int32)), zz11_14, zz12_14, zz13_14, zz14_14, zz.2.2.2.2.2.2.2.2.2.2.2.2.2.2.2.1, zz16_14, zz.2.2.2.2.2.2.2.2.2.2.2.2.2.2.2.2.2)) 4 [(2, .int v18), (1, .int x1_14), (0, .ref (za 0))] 130 [.int v19] (fun H locs hP hD hS ls hl => ?_) (fun J19 => ?_)
                · refine lv_istore_n (lv' := [(3, .int v19), (2, .int v18), (1, .int x1_14), (0, .ref (za 0))]) hx hb dX3_plans_130 rfl hl (by decide) rfl (fun ls hl => ?_)
                  refine lv_iload_n hx hb dX3_plans_131 rfl (lv_at hl 1 rfl) ?_
                  refine lv_iconst (v := ((-1) : Int32)) hx hb dX3_plans_132 (by decide) ?_
                  refine lv_icmp_eq (tgt := 198) hx hb dX3_plans_133 (by decide) (fun c20 => ?_) (fun c20 => ?_)
                  · have h := sp_t c20 h
                    refine lv_iload_n hx hb dX3_plans_198 rfl (lv_at hl 0 rfl) ?_
                    refine lv_iconst (v := ((-1) : Int32)) hx hb dX3_plans_199 (by decide) ?_
                    refine lv_icmp_eq (tgt := 245) hx hb dX3_plans_200 (by decide) (fun c21 => ?_) (fun c21 => ?_)
                    · have h := sp_t c21 h
                      refine lv_iinc (v := (x1_14 + (1 : Int32))) (lv' := [(1, .int (x1_14 + (1 : Int32))), (3, .int v19), (2, .int v18), (0, .ref (za 0))]) hx hb dX3_plans_245 hl (k := 2) rfl rfl (by decide) rfl (fun ls hl => ?_)
                      refine lv_goto (tgt := 81) hx hb dX3_plans_248 (by decide) ?_
                      exact ih_14 ((x1_14 + (1 : Int32)), (upd zz10_14 x1_14.toNatClampNeg ((-1) : Int32)), zz11_14, zz12_14, zz13_14, zz14_14, zz16_14) h _ _ hP hD hS _ (lv_sub hl [0, 3] rfl)
                    · have h := sp_f c21 h
                      refine lv_aload_n hx hb dX3_plans_203 rfl (lv_at hl 3 rfl) ?_
                      refine lv_iload_n hx hb dX3_plans_204 rfl (lv_at hl 0 rfl) ?_
                      refine lv_iload_n hx hb dX3_plans_205 rfl (lv_at hl 2 rfl) ?_
                      obtain ⟨o22, ho22, h⟩ := sp_b h
                      refine xk_ci (va_runV (As := [.int v19, .int x1_14]) (rest := []) ⟨hx, hb, hml, hown, hts⟩ (c_X3_isHeld l G za (zz.1, zz.2.1, zz.2.2.1, zz.2.2.2.1, zz.2.2.2.2.1, zz.2.2.2.2.2.1, zz.2.2.2.2.2.2.1, zz.2.2.2.2.2.2.2.1, zz.2.2.2.2.2.2.2.2.1, o1, (upd zz10_14 x1_14.toNatClampNeg ((-1) : Int32)), zz11_14, zz12_14, zz13_14, zz14_14, zz.2.2.2.2.2.2.2.2.2.2.2.2.2.2.2.1, zz16_14, zz.2.2.2.2.2.2.2.2.2.2.2.2.2.2.2.2.2) v19 x1_14 o22 ho22 H.size) (cwV 2 hts gX3_plans_X3_isHeld rfl rfl rfl (by decide +kernel) ⟨Nat.le_of_ble_eq_true rfl, Nat.le_of_ble_eq_true rfl⟩) (xk_preV hK hNE (hP.sub (ws' := (wMO G za (zz.1, zz.2.1, zz.2.2.1, zz.2.2.2.1, zz.2.2.2.2.1, zz.2.2.2.2.2.1, zz.2.2.2.2.2.2.1, zz.2.2.2.2.2.2.2.1, zz.2.2.2.2.2.2.2.2.1, o1, (upd zz10_14 x1_14.toNatClampNeg ((-1) : Int32)), zz11_14, zz12_14, zz13_14, zz14_14, zz.2.2.2.2.2.2.2.2.2.2.2.2.2.2.2.1, zz16_14, zz.2.2.2.2.2.2.2.2.2.2.2.2.2.2.2.2.2))) [0, 1, 2, 3, 4, 5, 6, 7, 8, 9, 10, 11, 12, 13, 14, 15] rfl) (hD.sub (ws' := (wMO G za (zz.1, zz.2.1, zz.2.2.1, zz.2.2.2.1, zz.2.2.2.2.1, zz.2.2.2.2.2.1, zz.2.2.2.2.2.2.1, zz.2.2.2.2.2.2.2.1, zz.2.2.2.2.2.2.2.2.1, o1, (upd zz10_14 x1_14.toNatClampNeg ((-1) : Int32)), zz11_14, zz12_14, zz13_14, zz14_14, zz.2.2.2.2.2.2.2.2.2.2.2.2.2.2.2.1, zz16_14, zz.2.2.2.2.2.2.2.2.2.2.2.2.2.2.2.2.2))) [0, 1, 2, 3, 4, 5, 6, 7, 8, 9, 10, 11, 12, 13, 14, 15] (by decide) rfl) (ci := 3) rfl rfl) rfl rfl hl.1 rfl (lv_room (Nat.le_of_ble_eq_true rfl)) dX3_plans_206 ⟨Nat.le_of_ble_eq_true rfl, Nat.le_of_ble_eq_true rfl⟩) hP hD hS hA [0, 1, 2, 3, 4, 5, 6, 7, 8, 9, 10, 11, 12, 13, 14, 15] [] [0, 1, 2, 3, 4, 5, 6, 7, 8, 9, 10, 11, 12, 13, 14, 15] rfl rfl (by decide) (by decide) rfl (by decide) (fun H locs hP hD hS => ?_)
                      have hP : va_P G.1 vwCl (wMO G za (zz.1, zz.2.1, zz.2.2.1, zz.2.2.2.1, zz.2.2.2.2.1, zz.2.2.2.2.2.1, zz.2.2.2.2.2.2.1, zz.2.2.2.2.2.2.2.1, zz.2.2.2.2.2.2.2.2.1, o1, (upd zz10_14 x1_14.toNatClampNeg ((-1) : Int32)), zz11_14, zz12_14, zz13_14, zz14_14, zz.2.2.2.2.2.2.2.2.2.2.2.2.2.2.2.1, zz16_14, zz.2.2.2.2.2.2.2.2.2.2.2.2.2.2.2.2.2)) H := hP
                      have hD : va_D A (wMO G za (zz.1, zz.2.1, zz.2.2.1, zz.2.2.2.1, zz.2.2.2.2.1, zz.2.2.2.2.2.1, zz.2.2.2.2.2.2.1, zz.2.2.2.2.2.2.2.1, zz.2.2.2.2.2.2.2.2.1, o1, (upd zz10_14 x1_14.toNatClampNeg ((-1) : Int32)), zz11_14, zz12_14, zz13_14, zz14_14, zz.2.2.2.2.2.2.2.2.2.2.2.2.2.2.2.1, zz16_14, zz.2.2.2.2.2.2.2.2.2.2.2.2.2.2.2.2.2)) := hD
                      refine lv_if_ne (tgt := 245) hx hb dX3_plans_209 (by decide) (fun c23 => ?_) (fun c23 => ?_)
                      · have h := sp_f c23 h
                        refine lv_iinc (v := (x1_14 + (1 : Int32))) (lv' := [(1, .int (x1_14 + (1 : Int32))), (3, .int v19), (2, .int v18), (0, .ref (za 0))]) hx hb dX3_plans_245 hl (k := 2) rfl rfl (by decide) rfl (fun ls hl => ?_)
                        refine lv_goto (tgt := 81) hx hb dX3_plans_248 (by decide) ?_
                        exact ih_14 ((x1_14 + (1 : Int32)), (upd zz10_14 x1_14.toNatClampNeg ((-1) : Int32)), zz11_14, zz12_14, zz13_14, zz14_14, zz16_14) h _ _ hP hD hS _ (lv_sub hl [0, 3] rfl)
                      · have h := sp_t c23 h
                        refine lv_aload_n hx hb dX3_plans_212 rfl (lv_at hl 3 rfl) ?_
                        refine va_get (D := G.1) (ci := 3) (v := .ref (za 10)) (C := RX3) (T := TX3) (N := 18) hx hb hts hinX3 hown hK hP 0 rfl rfl 10 (by decide) (hts (.fieldLink RX3 38 "LessonWeaveModel" "things" "[I") (by decide +kernel)) (fun _ h9 => h9) rfl dX3_plans_213 ?_
                        refine lv_iload_n hx hb dX3_plans_216 rfl (lv_at hl 2 rfl) ?_
                        refine lv_iload_n hx hb dX3_plans_217 rfl (lv_at hl 0 rfl) ?_
                        refine va_iast hx hb hK hP hD hS 10 0 rfl rfl hin17 dX3_plans_218 (fun H locs hP hD hS => ?_)
                        have hP : va_P G.1 vwCl (wMO G za (zz.1, zz.2.1, zz.2.2.1, zz.2.2.2.1, zz.2.2.2.2.1, zz.2.2.2.2.2.1, zz.2.2.2.2.2.2.1, zz.2.2.2.2.2.2.2.1, zz.2.2.2.2.2.2.2.2.1, o1, (upd (upd zz10_14 x1_14.toNatClampNeg ((-1) : Int32)) x1_14.toNatClampNeg v19), zz11_14, zz12_14, zz13_14, zz14_14, zz.2.2.2.2.2.2.2.2.2.2.2.2.2.2.2.1, zz16_14, zz.2.2.2.2.2.2.2.2.2.2.2.2.2.2.2.2.2)) H := hP
                        have hD : va_D A (wMO G za (zz.1, zz.2.1, zz.2.2.1, zz.2.2.2.1, zz.2.2.2.2.1, zz.2.2.2.2.2.1, zz.2.2.2.2.2.2.1, zz.2.2.2.2.2.2.2.1, zz.2.2.2.2.2.2.2.2.1, o1, (upd (upd zz10_14 x1_14.toNatClampNeg ((-1) : Int32)) x1_14.toNatClampNeg v19), zz11_14, zz12_14, zz13_14, zz14_14, zz.2.2.2.2.2.2.2.2.2.2.2.2.2.2.2.1, zz16_14, zz.2.2.2.2.2.2.2.2.2.2.2.2.2.2.2.2.2)) := hD
                        refine lv_aload_n hx hb dX3_plans_219 rfl (lv_at hl 3 rfl) ?_
                        refine va_get (D := G.1) (ci := 3) (v := .ref (za 11)) (C := RX3) (T := TX3) (N := 18) hx hb hts hinX3 hown hK hP 0 rfl rfl 11 (by decide) (hts (.fieldLink RX3 41 "LessonWeaveModel" "lessonOn" "[I") (by decide +kernel)) (fun _ h9 => h9) rfl dX3_plans_220 ?_
                        refine lv_iconst (v := (5 : Int32)) hx hb dX3_plans_223 (by decide) ?_
                        refine lv_iload_n hx hb dX3_plans_224 rfl (lv_at hl 0 rfl) ?_
                        refine lv_imul hx hb dX3_plans_225 ?_
                        refine lv_aload_n hx hb dX3_plans_226 rfl (lv_at hl 3 rfl) ?_
                        refine va_get (D := G.1) (ci := 3) (v := .ref (za 13)) (C := RX3) (T := TX3) (N := 18) hx hb hts hinX3 hown hK hP 0 rfl rfl 13 (by decide) (hts (.fieldLink RX3 47 "LessonWeaveModel" "lessonsLaid" "[I") (by decide +kernel)) (fun _ h9 => h9) rfl dX3_plans_227 ?_
                        refine lv_iload_n hx hb dX3_plans_230 rfl (lv_at hl 0 rfl) ?_
                        obtain ⟨hin24, h⟩ := sp_g h
                        refine va_iald hx hb hK hP 13 0 rfl rfl hin24 dX3_plans_231 ?_
                        refine lv_iadd hx hb dX3_plans_232 ?_
                        refine lv_iload_n hx hb dX3_plans_233 rfl (lv_at hl 2 rfl) ?_
                        obtain ⟨hin25, h⟩ := sp_g h
                        refine va_iast hx hb hK hP hD hS 11 0 rfl rfl hin25 dX3_plans_234 (fun H locs hP hD hS => ?_)
                        have hP : va_P G.1 vwCl (wMO G za (zz.1, zz.2.1, zz.2.2.1, zz.2.2.2.1, zz.2.2.2.2.1, zz.2.2.2.2.2.1, zz.2.2.2.2.2.2.1, zz.2.2.2.2.2.2.2.1, zz.2.2.2.2.2.2.2.2.1, o1, (upd (upd zz10_14 x1_14.toNatClampNeg ((-1) : Int32)) x1_14.toNatClampNeg v19), (upd zz11_14 (((5 : Int32) * v19) + (zz13_14 v19.toNatClampNeg)).toNatClampNeg x1_14), zz12_14, zz13_14, zz14_14, zz.2.2.2.2.2.2.2.2.2.2.2.2.2.2.2.1, zz16_14, zz.2.2.2.2.2.2.2.2.2.2.2.2.2.2.2.2.2)) H := hP
                        have hD : va_D A (wMO G za (zz.1, zz.2.1, zz.2.2.1, zz.2.2.2.1, zz.2.2.2.2.1, zz.2.2.2.2.2.1, zz.2.2.2.2.2.2.1, zz.2.2.2.2.2.2.2.1, zz.2.2.2.2.2.2.2.2.1, o1, (upd (upd zz10_14 x1_14.toNatClampNeg ((-1) : Int32)) x1_14.toNatClampNeg v19), (upd zz11_14 (((5 : Int32) * v19) + (zz13_14 v19.toNatClampNeg)).toNatClampNeg x1_14), zz12_14, zz13_14, zz14_14, zz.2.2.2.2.2.2.2.2.2.2.2.2.2.2.2.1, zz16_14, zz.2.2.2.2.2.2.2.2.2.2.2.2.2.2.2.2.2)) := hD
                        refine lv_aload_n hx hb dX3_plans_235 rfl (lv_at hl 3 rfl) ?_
                        refine va_get (D := G.1) (ci := 3) (v := .ref (za 13)) (C := RX3) (T := TX3) (N := 18) hx hb hts hinX3 hown hK hP 0 rfl rfl 13 (by decide) (hts (.fieldLink RX3 47 "LessonWeaveModel" "lessonsLaid" "[I") (by decide +kernel)) (fun _ h9 => h9) rfl dX3_plans_236 ?_
                        refine lv_iload_n hx hb dX3_plans_239 rfl (lv_at hl 0 rfl) ?_
                        refine lv_dup2_11 hx hb dX3_plans_240 rfl rfl ?_
                        refine va_iald hx hb hK hP 13 0 rfl rfl hin24 dX3_plans_241 ?_
                        refine lv_iconst (v := (1 : Int32)) hx hb dX3_plans_242 (by decide) ?_
                        refine lv_iadd hx hb dX3_plans_243 ?_
                        refine va_iast hx hb hK hP hD hS 13 0 rfl rfl hin24 dX3_plans_244 (fun H locs hP hD hS => ?_)
                        have hP : va_P G.1 vwCl (wMO G za (zz.1, zz.2.1, zz.2.2.1, zz.2.2.2.1, zz.2.2.2.2.1, zz.2.2.2.2.2.1, zz.2.2.2.2.2.2.1, zz.2.2.2.2.2.2.2.1, zz.2.2.2.2.2.2.2.2.1, o1, (upd (upd zz10_14 x1_14.toNatClampNeg ((-1) : Int32)) x1_14.toNatClampNeg v19), (upd zz11_14 (((5 : Int32) * v19) + (zz13_14 v19.toNatClampNeg)).toNatClampNeg x1_14), zz12_14, (upd zz13_14 v19.toNatClampNeg ((zz13_14 v19.toNatClampNeg) + (1 : Int32))), zz14_14, zz.2.2.2.2.2.2.2.2.2.2.2.2.2.2.2.1, zz16_14, zz.2.2.2.2.2.2.2.2.2.2.2.2.2.2.2.2.2)) H := hP
                        have hD : va_D A (wMO G za (zz.1, zz.2.1, zz.2.2.1, zz.2.2.2.1, zz.2.2.2.2.1, zz.2.2.2.2.2.1, zz.2.2.2.2.2.2.1, zz.2.2.2.2.2.2.2.1, zz.2.2.2.2.2.2.2.2.1, o1, (upd (upd zz10_14 x1_14.toNatClampNeg ((-1) : Int32)) x1_14.toNatClampNeg v19), (upd zz11_14 (((5 : Int32) * v19) + (zz13_14 v19.toNatClampNeg)).toNatClampNeg x1_14), zz12_14, (upd zz13_14 v19.toNatClampNeg ((zz13_14 v19.toNatClampNeg) + (1 : Int32))), zz14_14, zz.2.2.2.2.2.2.2.2.2.2.2.2.2.2.2.1, zz16_14, zz.2.2.2.2.2.2.2.2.2.2.2.2.2.2.2.2.2)) := hD
                        refine lv_iinc (v := (x1_14 + (1 : Int32))) (lv' := [(1, .int (x1_14 + (1 : Int32))), (3, .int v19), (2, .int v18), (0, .ref (za 0))]) hx hb dX3_plans_245 hl (k := 2) rfl rfl (by decide) rfl (fun ls hl => ?_)
                        refine lv_goto (tgt := 81) hx hb dX3_plans_248 (by decide) ?_
                        exact ih_14 ((x1_14 + (1 : Int32)), (upd (upd zz10_14 x1_14.toNatClampNeg ((-1) : Int32)) x1_14.toNatClampNeg v19), (upd zz11_14 (((5 : Int32) * v19) + (zz13_14 v19.toNatClampNeg)).toNatClampNeg x1_14), zz12_14, (upd zz13_14 v19.toNatClampNeg ((zz13_14 v19.toNatClampNeg) + (1 : Int32))), zz14_14, zz16_14) h _ _ hP hD hS _ (lv_sub hl [0, 3] rfl)
                  · have h := sp_f c20 h
                    refine lv_aload_n hx hb dX3_plans_136 rfl (lv_at hl 3 rfl) ?_
                    refine lv_dup hx hb dX3_plans_137 rfl ?_
                    refine va_get (D := G.1) (ci := 3) (v := .int zz16_14) (C := RX3) (T := TX3) (N := 18) hx hb hts hinX3 hown hK hP 0 rfl rfl 16 (by decide) (hts (.fieldLink RX3 94 "LessonWeaveModel" "late" "I") (by decide +kernel)) (fun _ h9 => h9) rfl dX3_plans_138 ?_
                    refine lv_iload_n hx hb dX3_plans_141 rfl (lv_at hl 2 rfl) ?_
                    refine lv_aload_n hx hb dX3_plans_142 rfl (lv_at hl 3 rfl) ?_
                    refine lv_iload_n hx hb dX3_plans_143 rfl (lv_at hl 1 rfl) ?_
                    obtain ⟨o26, ho26, h⟩ := sp_b h
                    refine xk_ci (va_runV (As := [.int v18]) (rest := [.int x1_14, .int zz16_14, .ref (za 0)]) ⟨hx, hb, hml, hown, hts⟩ (c_X3_lateFrom l G za (zz.1, zz.2.1, zz.2.2.1, zz.2.2.2.1, zz.2.2.2.2.1, zz.2.2.2.2.2.1, zz.2.2.2.2.2.2.1, zz.2.2.2.2.2.2.2.1, zz.2.2.2.2.2.2.2.2.1, o1, (upd zz10_14 x1_14.toNatClampNeg ((-1) : Int32)), zz11_14, zz12_14, zz13_14, zz14_14, zz.2.2.2.2.2.2.2.2.2.2.2.2.2.2.2.1, zz16_14, zz.2.2.2.2.2.2.2.2.2.2.2.2.2.2.2.2.2) v18 o26 ho26 H.size) (cwV 1 hts gX3_plans_X3_lateFrom rfl rfl rfl (by decide +kernel) ⟨Nat.le_of_ble_eq_true rfl, Nat.le_of_ble_eq_true rfl⟩) (xk_preV hK hNE (hP.sub (ws' := (wMO G za (zz.1, zz.2.1, zz.2.2.1, zz.2.2.2.1, zz.2.2.2.2.1, zz.2.2.2.2.2.1, zz.2.2.2.2.2.2.1, zz.2.2.2.2.2.2.2.1, zz.2.2.2.2.2.2.2.2.1, o1, (upd zz10_14 x1_14.toNatClampNeg ((-1) : Int32)), zz11_14, zz12_14, zz13_14, zz14_14, zz.2.2.2.2.2.2.2.2.2.2.2.2.2.2.2.1, zz16_14, zz.2.2.2.2.2.2.2.2.2.2.2.2.2.2.2.2.2))) [0, 1, 2, 3, 4, 5, 6, 7, 8, 9, 10, 11, 12, 13, 14, 15] rfl) (hD.sub (ws' := (wMO G za (zz.1, zz.2.1, zz.2.2.1, zz.2.2.2.1, zz.2.2.2.2.1, zz.2.2.2.2.2.1, zz.2.2.2.2.2.2.1, zz.2.2.2.2.2.2.2.1, zz.2.2.2.2.2.2.2.2.1, o1, (upd zz10_14 x1_14.toNatClampNeg ((-1) : Int32)), zz11_14, zz12_14, zz13_14, zz14_14, zz.2.2.2.2.2.2.2.2.2.2.2.2.2.2.2.1, zz16_14, zz.2.2.2.2.2.2.2.2.2.2.2.2.2.2.2.2.2))) [0, 1, 2, 3, 4, 5, 6, 7, 8, 9, 10, 11, 12, 13, 14, 15] (by decide) rfl) (ci := 3) rfl rfl) rfl rfl hl.1 rfl (lv_room (Nat.le_of_ble_eq_true rfl)) dX3_plans_144 ⟨Nat.le_of_ble_eq_true rfl, Nat.le_of_ble_eq_true rfl⟩) hP hD hS hA [0, 1, 2, 3, 4, 5, 6, 7, 8, 9, 10, 11, 12, 13, 14, 15] [] [0, 1, 2, 3, 4, 5, 6, 7, 8, 9, 10, 11, 12, 13, 14, 15] rfl rfl (by decide) (by decide) rfl (by decide) (fun H locs hP hD hS => ?_)
                    have hP : va_P G.1 vwCl (wMO G za (zz.1, zz.2.1, zz.2.2.1, zz.2.2.2.1, zz.2.2.2.2.1, zz.2.2.2.2.2.1, zz.2.2.2.2.2.2.1, zz.2.2.2.2.2.2.2.1, zz.2.2.2.2.2.2.2.2.1, o1, (upd zz10_14 x1_14.toNatClampNeg ((-1) : Int32)), zz11_14, zz12_14, zz13_14, zz14_14, zz.2.2.2.2.2.2.2.2.2.2.2.2.2.2.2.1, zz16_14, zz.2.2.2.2.2.2.2.2.2.2.2.2.2.2.2.2.2)) H := hP
                    have hD : va_D A (wMO G za (zz.1, zz.2.1, zz.2.2.1, zz.2.2.2.1, zz.2.2.2.2.1, zz.2.2.2.2.2.1, zz.2.2.2.2.2.2.1, zz.2.2.2.2.2.2.2.1, zz.2.2.2.2.2.2.2.2.1, o1, (upd zz10_14 x1_14.toNatClampNeg ((-1) : Int32)), zz11_14, zz12_14, zz13_14, zz14_14, zz.2.2.2.2.2.2.2.2.2.2.2.2.2.2.2.1, zz16_14, zz.2.2.2.2.2.2.2.2.2.2.2.2.2.2.2.2.2)) := hD
                    obtain ⟨v27, hv27, h⟩ := sp_b h
                    refine xk_jn G A s.heap (wMO G za (zz.1, zz.2.1, zz.2.2.1, zz.2.2.2.1, zz.2.2.2.2.1, zz.2.2.2.2.2.1, zz.2.2.2.2.2.2.1, zz.2.2.2.2.2.2.2.1, zz.2.2.2.2.2.2.2.2.1, o1, (upd zz10_14 x1_14.toNatClampNeg ((-1) : Int32)), zz11_14, zz12_14, zz13_14, zz14_14, zz.2.2.2.2.2.2.2.2.2.2.2.2.2.2.2.1, zz16_14, zz.2.2.2.2.2.2.2.2.2.2.2.2.2.2.2.2.2)) 4 [(2, .int v18), (1, .int x1_14), (0, .ref (za 0))] 155 [.int v27, .int zz16_14, .ref (za 0)] (fun H locs hP hD hS ls hl => ?_) (fun J27 => ?_)
                    · refine lv_iadd hx hb dX3_plans_155 ?_
                      refine va_put (D := G.1) (ci := 3) (v := .int (zz16_14 + v27)) (ty := .int) (C := RX3) (T := TX3) (N := 18) hx hb hts hinX3 tyX3 tyX3_ok nmX3 hown hK hP hD hS 0 rfl rfl 16 (by decide) (hts (.fieldLink RX3 94 "LessonWeaveModel" "late" "I") (by decide +kernel)) (fun _ h9 => h9) rfl (by decide +kernel) rfl rfl (Nat.le_of_ble_eq_true rfl) dX3_plans_156 (fun H locs hP hD hS => ?_)
                      have hP : va_P G.1 vwCl (wMO G za (zz.1, zz.2.1, zz.2.2.1, zz.2.2.2.1, zz.2.2.2.2.1, zz.2.2.2.2.2.1, zz.2.2.2.2.2.2.1, zz.2.2.2.2.2.2.2.1, zz.2.2.2.2.2.2.2.2.1, o1, (upd zz10_14 x1_14.toNatClampNeg ((-1) : Int32)), zz11_14, zz12_14, zz13_14, zz14_14, zz.2.2.2.2.2.2.2.2.2.2.2.2.2.2.2.1, (zz16_14 + v27), zz.2.2.2.2.2.2.2.2.2.2.2.2.2.2.2.2.2)) H := hP
                      have hD : va_D A (wMO G za (zz.1, zz.2.1, zz.2.2.1, zz.2.2.2.1, zz.2.2.2.2.1, zz.2.2.2.2.2.1, zz.2.2.2.2.2.2.1, zz.2.2.2.2.2.2.2.1, zz.2.2.2.2.2.2.2.2.1, o1, (upd zz10_14 x1_14.toNatClampNeg ((-1) : Int32)), zz11_14, zz12_14, zz13_14, zz14_14, zz.2.2.2.2.2.2.2.2.2.2.2.2.2.2.2.1, (zz16_14 + v27), zz.2.2.2.2.2.2.2.2.2.2.2.2.2.2.2.2.2)) := hD
                      refine lv_aload_n hx hb dX3_plans_159 rfl (lv_at hl 2 rfl) ?_
                      refine va_get (D := G.1) (ci := 3) (v := .ref (za 10)) (C := RX3) (T := TX3) (N := 18) hx hb hts hinX3 hown hK hP 0 rfl rfl 10 (by decide) (hts (.fieldLink RX3 38 "LessonWeaveModel" "things" "[I") (by decide +kernel)) (fun _ h9 => h9) rfl dX3_plans_160 ?_
                      refine lv_iload_n hx hb dX3_plans_163 rfl (lv_at hl 1 rfl) ?_
                      refine lv_bipush (v := (100 : Int32)) hx hb dX3_plans_164 (by decide) ?_
                      refine lv_iload_n hx hb dX3_plans_166 rfl (lv_at hl 0 rfl) ?_
                      refine lv_iadd hx hb dX3_plans_167 ?_
                      refine va_iast hx hb hK hP hD hS 10 0 rfl rfl hin17 dX3_plans_168 (fun H locs hP hD hS => ?_)
                      have hP : va_P G.1 vwCl (wMO G za (zz.1, zz.2.1, zz.2.2.1, zz.2.2.2.1, zz.2.2.2.2.1, zz.2.2.2.2.2.1, zz.2.2.2.2.2.2.1, zz.2.2.2.2.2.2.2.1, zz.2.2.2.2.2.2.2.2.1, o1, (upd (upd zz10_14 x1_14.toNatClampNeg ((-1) : Int32)) x1_14.toNatClampNeg ((100 : Int32) + v18)), zz11_14, zz12_14, zz13_14, zz14_14, zz.2.2.2.2.2.2.2.2.2.2.2.2.2.2.2.1, (zz16_14 + v27), zz.2.2.2.2.2.2.2.2.2.2.2.2.2.2.2.2.2)) H := hP
                      have hD : va_D A (wMO G za (zz.1, zz.2.1, zz.2.2.1, zz.2.2.2.1, zz.2.2.2.2.1, zz.2.2.2.2.2.1, zz.2.2.2.2.2.2.1, zz.2.2.2.2.2.2.2.1, zz.2.2.2.2.2.2.2.2.1, o1, (upd (upd zz10_14 x1_14.toNatClampNeg ((-1) : Int32)) x1_14.toNatClampNeg ((100 : Int32) + v18)), zz11_14, zz12_14, zz13_14, zz14_14, zz.2.2.2.2.2.2.2.2.2.2.2.2.2.2.2.1, (zz16_14 + v27), zz.2.2.2.2.2.2.2.2.2.2.2.2.2.2.2.2.2)) := hD
                      refine lv_aload_n hx hb dX3_plans_169 rfl (lv_at hl 2 rfl) ?_
                      refine va_get (D := G.1) (ci := 3) (v := .ref (za 12)) (C := RX3) (T := TX3) (N := 18) hx hb hts hinX3 hown hK hP 0 rfl rfl 12 (by decide) (hts (.fieldLink RX3 44 "LessonWeaveModel" "revisitOn" "[I") (by decide +kernel)) (fun _ h9 => h9) rfl dX3_plans_170 ?_
                      refine lv_iconst (v := (3 : Int32)) hx hb dX3_plans_173 (by decide) ?_
                      refine lv_iload_n hx hb dX3_plans_174 rfl (lv_at hl 0 rfl) ?_
                      refine lv_imul hx hb dX3_plans_175 ?_
                      refine lv_aload_n hx hb dX3_plans_176 rfl (lv_at hl 2 rfl) ?_
                      refine va_get (D := G.1) (ci := 3) (v := .ref (za 14)) (C := RX3) (T := TX3) (N := 18) hx hb hts hinX3 hown hK hP 0 rfl rfl 14 (by decide) (hts (.fieldLink RX3 50 "LessonWeaveModel" "revisitsLaid" "[I") (by decide +kernel)) (fun _ h9 => h9) rfl dX3_plans_177 ?_
                      refine lv_iload_n hx hb dX3_plans_180 rfl (lv_at hl 0 rfl) ?_
                      obtain ⟨hin28, h⟩ := sp_g h
                      refine va_iald hx hb hK hP 14 0 rfl rfl hin28 dX3_plans_181 ?_
                      refine lv_iadd hx hb dX3_plans_182 ?_
                      refine lv_iload_n hx hb dX3_plans_183 rfl (lv_at hl 1 rfl) ?_
                      obtain ⟨hin29, h⟩ := sp_g h
                      refine va_iast hx hb hK hP hD hS 12 0 rfl rfl hin29 dX3_plans_184 (fun H locs hP hD hS => ?_)
                      have hP : va_P G.1 vwCl (wMO G za (zz.1, zz.2.1, zz.2.2.1, zz.2.2.2.1, zz.2.2.2.2.1, zz.2.2.2.2.2.1, zz.2.2.2.2.2.2.1, zz.2.2.2.2.2.2.2.1, zz.2.2.2.2.2.2.2.2.1, o1, (upd (upd zz10_14 x1_14.toNatClampNeg ((-1) : Int32)) x1_14.toNatClampNeg ((100 : Int32) + v18)), zz11_14, (upd zz12_14 (((3 : Int32) * v18) + (zz14_14 v18.toNatClampNeg)).toNatClampNeg x1_14), zz13_14, zz14_14, zz.2.2.2.2.2.2.2.2.2.2.2.2.2.2.2.1, (zz16_14 + v27), zz.2.2.2.2.2.2.2.2.2.2.2.2.2.2.2.2.2)) H := hP
                      have hD : va_D A (wMO G za (zz.1, zz.2.1, zz.2.2.1, zz.2.2.2.1, zz.2.2.2.2.1, zz.2.2.2.2.2.1, zz.2.2.2.2.2.2.1, zz.2.2.2.2.2.2.2.1, zz.2.2.2.2.2.2.2.2.1, o1, (upd (upd zz10_14 x1_14.toNatClampNeg ((-1) : Int32)) x1_14.toNatClampNeg ((100 : Int32) + v18)), zz11_14, (upd zz12_14 (((3 : Int32) * v18) + (zz14_14 v18.toNatClampNeg)).toNatClampNeg x1_14), zz13_14, zz14_14, zz.2.2.2.2.2.2.2.2.2.2.2.2.2.2.2.1, (zz16_14 + v27), zz.2.2.2.2.2.2.2.2.2.2.2.2.2.2.2.2.2)) := hD
                      refine lv_aload_n hx hb dX3_plans_185 rfl (lv_at hl 2 rfl) ?_
                      refine va_get (D := G.1) (ci := 3) (v := .ref (za 14)) (C := RX3) (T := TX3) (N := 18) hx hb hts hinX3 hown hK hP 0 rfl rfl 14 (by decide) (hts (.fieldLink RX3 50 "LessonWeaveModel" "revisitsLaid" "[I") (by decide +kernel)) (fun _ h9 => h9) rfl dX3_plans_186 ?_
                      refine lv_iload_n hx hb dX3_plans_189 rfl (lv_at hl 0 rfl) ?_
                      refine lv_dup2_11 hx hb dX3_plans_190 rfl rfl ?_
                      refine va_iald hx hb hK hP 14 0 rfl rfl hin28 dX3_plans_191 ?_
                      refine lv_iconst (v := (1 : Int32)) hx hb dX3_plans_192 (by decide) ?_
                      refine lv_iadd hx hb dX3_plans_193 ?_
                      refine va_iast hx hb hK hP hD hS 14 0 rfl rfl hin28 dX3_plans_194 (fun H locs hP hD hS => ?_)
                      have hP : va_P G.1 vwCl (wMO G za (zz.1, zz.2.1, zz.2.2.1, zz.2.2.2.1, zz.2.2.2.2.1, zz.2.2.2.2.2.1, zz.2.2.2.2.2.2.1, zz.2.2.2.2.2.2.2.1, zz.2.2.2.2.2.2.2.2.1, o1, (upd (upd zz10_14 x1_14.toNatClampNeg ((-1) : Int32)) x1_14.toNatClampNeg ((100 : Int32) + v18)), zz11_14, (upd zz12_14 (((3 : Int32) * v18) + (zz14_14 v18.toNatClampNeg)).toNatClampNeg x1_14), zz13_14, (upd zz14_14 v18.toNatClampNeg ((zz14_14 v18.toNatClampNeg) + (1 : Int32))), zz.2.2.2.2.2.2.2.2.2.2.2.2.2.2.2.1, (zz16_14 + v27), zz.2.2.2.2.2.2.2.2.2.2.2.2.2.2.2.2.2)) H := hP
                      have hD : va_D A (wMO G za (zz.1, zz.2.1, zz.2.2.1, zz.2.2.2.1, zz.2.2.2.2.1, zz.2.2.2.2.2.1, zz.2.2.2.2.2.2.1, zz.2.2.2.2.2.2.2.1, zz.2.2.2.2.2.2.2.2.1, o1, (upd (upd zz10_14 x1_14.toNatClampNeg ((-1) : Int32)) x1_14.toNatClampNeg ((100 : Int32) + v18)), zz11_14, (upd zz12_14 (((3 : Int32) * v18) + (zz14_14 v18.toNatClampNeg)).toNatClampNeg x1_14), zz13_14, (upd zz14_14 v18.toNatClampNeg ((zz14_14 v18.toNatClampNeg) + (1 : Int32))), zz.2.2.2.2.2.2.2.2.2.2.2.2.2.2.2.1, (zz16_14 + v27), zz.2.2.2.2.2.2.2.2.2.2.2.2.2.2.2.2.2)) := hD
                      refine lv_goto (tgt := 245) hx hb dX3_plans_195 (by decide) ?_
                      refine lv_iinc (v := (x1_14 + (1 : Int32))) (lv' := [(1, .int (x1_14 + (1 : Int32))), (2, .int v18), (0, .ref (za 0))]) hx hb dX3_plans_245 hl (k := 1) rfl rfl (by decide) rfl (fun ls hl => ?_)
                      refine lv_goto (tgt := 81) hx hb dX3_plans_248 (by decide) ?_
                      exact ih_14 ((x1_14 + (1 : Int32)), (upd (upd zz10_14 x1_14.toNatClampNeg ((-1) : Int32)) x1_14.toNatClampNeg ((100 : Int32) + v18)), zz11_14, (upd zz12_14 (((3 : Int32) * v18) + (zz14_14 v18.toNatClampNeg)).toNatClampNeg x1_14), zz13_14, (upd zz14_14 v18.toNatClampNeg ((zz14_14 v18.toNatClampNeg) + (1 : Int32))), (zz16_14 + v27)) h _ _ hP hD hS _ (lv_sub hl [0, 2] rfl)
                    · have h := hv27
                      clear hv27
                      refine lv_icmp_lt (tgt := 154) hx hb dX3_plans_147 (by decide) (fun c30 => ?_) (fun c30 => ?_)
                      · have h := sp_t c30 h
                        refine lv_iconst (v := (0 : Int32)) hx hb dX3_plans_154 (by decide) ?_
                        obtain rfl := sp_s h
                        exact J27 _ _ hP hD hS _ (lv_sub hl [1, 2, 3] rfl)
                      · have h := sp_f c30 h
                        refine lv_iconst (v := (1 : Int32)) hx hb dX3_plans_150 (by decide) ?_
                        refine lv_goto (tgt := 155) hx hb dX3_plans_151 (by decide) ?_
                        obtain rfl := sp_s h
                        exact J27 _ _ hP hD hS _ (lv_sub hl [1, 2, 3] rfl)
                · have h := hv19
                  clear hv19
                  refine lv_if_eq (tgt := 126) hx hb dX3_plans_119 (by decide) (fun c31 => ?_) (fun c31 => ?_)
                  · have h := sp_t c31 h
                    refine lv_aload_n hx hb dX3_plans_126 rfl (lv_at hl 2 rfl) ?_
                    obtain ⟨o32, ho32, h⟩ := sp_b h
                    refine xk_ci (va_runV (As := []) (rest := []) ⟨hx, hb, hml, hown, hts⟩ (c_X3_nextAim l G za (zz.1, zz.2.1, zz.2.2.1, zz.2.2.2.1, zz.2.2.2.2.1, zz.2.2.2.2.2.1, zz.2.2.2.2.2.2.1, zz.2.2.2.2.2.2.2.1, zz.2.2.2.2.2.2.2.2.1, o1, (upd zz10_14 x1_14.toNatClampNeg ((-1) : Int32)), zz11_14, zz12_14, zz13_14, zz14_14, zz.2.2.2.2.2.2.2.2.2.2.2.2.2.2.2.1, zz16_14, zz.2.2.2.2.2.2.2.2.2.2.2.2.2.2.2.2.2) o32 ho32 H.size) (cwV 0 hts gX3_plans_X3_nextAim rfl rfl rfl (by decide +kernel) ⟨Nat.le_of_ble_eq_true rfl, Nat.le_of_ble_eq_true rfl⟩) (xk_preV hK hNE (hP.sub (ws' := (wMO G za (zz.1, zz.2.1, zz.2.2.1, zz.2.2.2.1, zz.2.2.2.2.1, zz.2.2.2.2.2.1, zz.2.2.2.2.2.2.1, zz.2.2.2.2.2.2.2.1, zz.2.2.2.2.2.2.2.2.1, o1, (upd zz10_14 x1_14.toNatClampNeg ((-1) : Int32)), zz11_14, zz12_14, zz13_14, zz14_14, zz.2.2.2.2.2.2.2.2.2.2.2.2.2.2.2.1, zz16_14, zz.2.2.2.2.2.2.2.2.2.2.2.2.2.2.2.2.2))) [0, 1, 2, 3, 4, 5, 6, 7, 8, 9, 10, 11, 12, 13, 14, 15] rfl) (hD.sub (ws' := (wMO G za (zz.1, zz.2.1, zz.2.2.1, zz.2.2.2.1, zz.2.2.2.2.1, zz.2.2.2.2.2.1, zz.2.2.2.2.2.2.1, zz.2.2.2.2.2.2.2.1, zz.2.2.2.2.2.2.2.2.1, o1, (upd zz10_14 x1_14.toNatClampNeg ((-1) : Int32)), zz11_14, zz12_14, zz13_14, zz14_14, zz.2.2.2.2.2.2.2.2.2.2.2.2.2.2.2.1, zz16_14, zz.2.2.2.2.2.2.2.2.2.2.2.2.2.2.2.2.2))) [0, 1, 2, 3, 4, 5, 6, 7, 8, 9, 10, 11, 12, 13, 14, 15] (by decide) rfl) (ci := 3) rfl rfl) rfl rfl hl.1 rfl (lv_room (Nat.le_of_ble_eq_true rfl)) dX3_plans_127 ⟨Nat.le_of_ble_eq_true rfl, Nat.le_of_ble_eq_true rfl⟩) hP hD hS hA [0, 1, 2, 3, 4, 5, 6, 7, 8, 9, 10, 11, 12, 13, 14, 15] [] [0, 1, 2, 3, 4, 5, 6, 7, 8, 9, 10, 11, 12, 13, 14, 15] rfl rfl (by decide) (by decide) rfl (by decide) (fun H locs hP hD hS => ?_)
                    have hP : va_P G.1 vwCl (wMO G za (zz.1, zz.2.1, zz.2.2.1, zz.2.2.2.1, zz.2.2.2.2.1, zz.2.2.2.2.2.1, zz.2.2.2.2.2.2.1, zz.2.2.2.2.2.2.2.1, zz.2.2.2.2.2.2.2.2.1, o1, (upd zz10_14 x1_14.toNatClampNeg ((-1) : Int32)), zz11_14, zz12_14, zz13_14, zz14_14, zz.2.2.2.2.2.2.2.2.2.2.2.2.2.2.2.1, zz16_14, zz.2.2.2.2.2.2.2.2.2.2.2.2.2.2.2.2.2)) H := hP
                    have hD : va_D A (wMO G za (zz.1, zz.2.1, zz.2.2.1, zz.2.2.2.1, zz.2.2.2.2.1, zz.2.2.2.2.2.1, zz.2.2.2.2.2.2.1, zz.2.2.2.2.2.2.2.1, zz.2.2.2.2.2.2.2.2.1, o1, (upd zz10_14 x1_14.toNatClampNeg ((-1) : Int32)), zz11_14, zz12_14, zz13_14, zz14_14, zz.2.2.2.2.2.2.2.2.2.2.2.2.2.2.2.1, zz16_14, zz.2.2.2.2.2.2.2.2.2.2.2.2.2.2.2.2.2)) := hD
                    obtain rfl := sp_s h
                    exact J19 _ _ hP hD hS _ (lv_sub hl [0, 1, 2] rfl)
                  · have h := sp_f c31 h
                    refine lv_iconst (v := ((-1) : Int32)) hx hb dX3_plans_122 (by decide) ?_
                    refine lv_goto (tgt := 130) hx hb dX3_plans_123 (by decide) ?_
                    obtain rfl := sp_s h
                    exact J19 _ _ hP hD hS _ (lv_sub hl [0, 1, 2] rfl)
              · have h := hv18
                clear hv18
                refine lv_if_eq (tgt := 107) hx hb dX3_plans_100 (by decide) (fun c33 => ?_) (fun c33 => ?_)
                · have h := sp_t c33 h
                  refine lv_aload_n hx hb dX3_plans_107 rfl (lv_at hl 1 rfl) ?_
                  refine lv_iload_n hx hb dX3_plans_108 rfl (lv_at hl 0 rfl) ?_
                  obtain ⟨o34, ho34, h⟩ := sp_b h
                  refine xk_ci (va_runV (As := [.int x1_14]) (rest := []) ⟨hx, hb, hml, hown, hts⟩ (c_X3_revisitFor l G za (zz.1, zz.2.1, zz.2.2.1, zz.2.2.2.1, zz.2.2.2.2.1, zz.2.2.2.2.2.1, zz.2.2.2.2.2.2.1, zz.2.2.2.2.2.2.2.1, zz.2.2.2.2.2.2.2.2.1, o1, (upd zz10_14 x1_14.toNatClampNeg ((-1) : Int32)), zz11_14, zz12_14, zz13_14, zz14_14, zz.2.2.2.2.2.2.2.2.2.2.2.2.2.2.2.1, zz16_14, zz.2.2.2.2.2.2.2.2.2.2.2.2.2.2.2.2.2) x1_14 o34 ho34 H.size) (cwV 1 hts gX3_plans_X3_revisitFor rfl rfl rfl (by decide +kernel) ⟨Nat.le_of_ble_eq_true rfl, Nat.le_of_ble_eq_true rfl⟩) (xk_preV hK hNE (hP.sub (ws' := (wMO G za (zz.1, zz.2.1, zz.2.2.1, zz.2.2.2.1, zz.2.2.2.2.1, zz.2.2.2.2.2.1, zz.2.2.2.2.2.2.1, zz.2.2.2.2.2.2.2.1, zz.2.2.2.2.2.2.2.2.1, o1, (upd zz10_14 x1_14.toNatClampNeg ((-1) : Int32)), zz11_14, zz12_14, zz13_14, zz14_14, zz.2.2.2.2.2.2.2.2.2.2.2.2.2.2.2.1, zz16_14, zz.2.2.2.2.2.2.2.2.2.2.2.2.2.2.2.2.2))) [0, 1, 2, 3, 4, 5, 6, 7, 8, 9, 10, 11, 12, 13, 14, 15] rfl) (hD.sub (ws' := (wMO G za (zz.1, zz.2.1, zz.2.2.1, zz.2.2.2.1, zz.2.2.2.2.1, zz.2.2.2.2.2.1, zz.2.2.2.2.2.2.1, zz.2.2.2.2.2.2.2.1, zz.2.2.2.2.2.2.2.2.1, o1, (upd zz10_14 x1_14.toNatClampNeg ((-1) : Int32)), zz11_14, zz12_14, zz13_14, zz14_14, zz.2.2.2.2.2.2.2.2.2.2.2.2.2.2.2.1, zz16_14, zz.2.2.2.2.2.2.2.2.2.2.2.2.2.2.2.2.2))) [0, 1, 2, 3, 4, 5, 6, 7, 8, 9, 10, 11, 12, 13, 14, 15] (by decide) rfl) (ci := 3) rfl rfl) rfl rfl hl.1 rfl (lv_room (Nat.le_of_ble_eq_true rfl)) dX3_plans_109 ⟨Nat.le_of_ble_eq_true rfl, Nat.le_of_ble_eq_true rfl⟩) hP hD hS hA [0, 1, 2, 3, 4, 5, 6, 7, 8, 9, 10, 11, 12, 13, 14, 15] [] [0, 1, 2, 3, 4, 5, 6, 7, 8, 9, 10, 11, 12, 13, 14, 15] rfl rfl (by decide) (by decide) rfl (by decide) (fun H locs hP hD hS => ?_)
                  have hP : va_P G.1 vwCl (wMO G za (zz.1, zz.2.1, zz.2.2.1, zz.2.2.2.1, zz.2.2.2.2.1, zz.2.2.2.2.2.1, zz.2.2.2.2.2.2.1, zz.2.2.2.2.2.2.2.1, zz.2.2.2.2.2.2.2.2.1, o1, (upd zz10_14 x1_14.toNatClampNeg ((-1) : Int32)), zz11_14, zz12_14, zz13_14, zz14_14, zz.2.2.2.2.2.2.2.2.2.2.2.2.2.2.2.1, zz16_14, zz.2.2.2.2.2.2.2.2.2.2.2.2.2.2.2.2.2)) H := hP
                  have hD : va_D A (wMO G za (zz.1, zz.2.1, zz.2.2.1, zz.2.2.2.1, zz.2.2.2.2.1, zz.2.2.2.2.2.1, zz.2.2.2.2.2.2.1, zz.2.2.2.2.2.2.2.1, zz.2.2.2.2.2.2.2.2.1, o1, (upd zz10_14 x1_14.toNatClampNeg ((-1) : Int32)), zz11_14, zz12_14, zz13_14, zz14_14, zz.2.2.2.2.2.2.2.2.2.2.2.2.2.2.2.1, zz16_14, zz.2.2.2.2.2.2.2.2.2.2.2.2.2.2.2.2.2)) := hD
                  obtain rfl := sp_s h
                  exact J18 _ _ hP hD hS _ (lv_sub hl [0, 1] rfl)
                · have h := sp_f c33 h
                  refine lv_iconst (v := ((-1) : Int32)) hx hb dX3_plans_103 (by decide) ?_
                  refine lv_goto (tgt := 112) hx hb dX3_plans_104 (by decide) ?_
                  obtain rfl := sp_s h
                  exact J18 _ _ hP hD hS _ (lv_sub hl [0, 1] rfl)
          · exact LL 300 ((0 : Int32), zz.2.2.2.2.2.2.2.2.2.2.1, w7, w11, w3.1, w3.2, (0 : Int32)) h _ _ hP hD hS _ (lv_sub hl [0, 1] rfl)
      · have h := hw11
        clear hw11
        refine xk_lp (α := Int32 × xF) G A s.heap (fun a_10 => (wMO G za (zz.1, zz.2.1, zz.2.2.1, zz.2.2.2.1, zz.2.2.2.2.1, zz.2.2.2.2.2.1, zz.2.2.2.2.2.2.1, zz.2.2.2.2.2.2.2.1, zz.2.2.2.2.2.2.2.2.1, o1, zz.2.2.2.2.2.2.2.2.2.2.1, w7, a_10.2, w3.1, w3.2, zz.2.2.2.2.2.2.2.2.2.2.2.2.2.2.2.1, (0 : Int32), zz.2.2.2.2.2.2.2.2.2.2.2.2.2.2.2.2.2))) 4 (fun a_10 => [(1, .int a_10.1), (0, .ref (za 0))]) 60 (fun n a_10 => f_X3_plans_l60  n a_10.1 a_10.2 = some w11) (fun a_10 h => ?_) (fun n ih_10 a_10 h H locs hP hD hS ls hl => ?_) (fun LL => ?_)
        · exact sp_n ((f_X3_plans_l60_z _ _).symm.trans h)
        · obtain ⟨x1_10, zz12_10⟩ := a_10
          have h := (f_X3_plans_l60_s  n x1_10 zz12_10).symm.trans h
          have hP : va_P G.1 vwCl (wMO G za (zz.1, zz.2.1, zz.2.2.1, zz.2.2.2.1, zz.2.2.2.2.1, zz.2.2.2.2.2.1, zz.2.2.2.2.2.2.1, zz.2.2.2.2.2.2.2.1, zz.2.2.2.2.2.2.2.2.1, o1, zz.2.2.2.2.2.2.2.2.2.2.1, w7, zz12_10, w3.1, w3.2, zz.2.2.2.2.2.2.2.2.2.2.2.2.2.2.2.1, (0 : Int32), zz.2.2.2.2.2.2.2.2.2.2.2.2.2.2.2.2.2)) H := hP
          have hD : va_D A (wMO G za (zz.1, zz.2.1, zz.2.2.1, zz.2.2.2.1, zz.2.2.2.2.1, zz.2.2.2.2.2.1, zz.2.2.2.2.2.2.1, zz.2.2.2.2.2.2.2.1, zz.2.2.2.2.2.2.2.2.1, o1, zz.2.2.2.2.2.2.2.2.2.2.1, w7, zz12_10, w3.1, w3.2, zz.2.2.2.2.2.2.2.2.2.2.2.2.2.2.2.1, (0 : Int32), zz.2.2.2.2.2.2.2.2.2.2.2.2.2.2.2.2.2)) := hD
          have hl : lv_has ls 4 [(1, .int x1_10), (0, .ref (za 0))] := hl
          refine lv_iload_n hx hb dX3_plans_60 rfl (lv_at hl 0 rfl) ?_
          refine lv_bipush (v := (36 : Int32)) hx hb dX3_plans_61 (by decide) ?_
          refine lv_icmp_ge (tgt := 79) hx hb dX3_plans_63 (by decide) (fun c12 => ?_) (fun c12 => ?_)
          · have h := sp_t c12 h
            obtain rfl := sp_s h
            exact J10 _ _ hP hD hS _ (lv_sub hl [1] rfl)
          · have h := sp_f c12 h
            refine lv_aload_n hx hb dX3_plans_66 rfl (lv_at hl 1 rfl) ?_
            refine va_get (D := G.1) (ci := 3) (v := .ref (za 12)) (C := RX3) (T := TX3) (N := 18) hx hb hts hinX3 hown hK hP 0 rfl rfl 12 (by decide) (hts (.fieldLink RX3 44 "LessonWeaveModel" "revisitOn" "[I") (by decide +kernel)) (fun _ h9 => h9) rfl dX3_plans_67 ?_
            refine lv_iload_n hx hb dX3_plans_70 rfl (lv_at hl 0 rfl) ?_
            refine lv_iconst (v := ((-1) : Int32)) hx hb dX3_plans_71 (by decide) ?_
            obtain ⟨hin13, h⟩ := sp_g h
            refine va_iast hx hb hK hP hD hS 12 0 rfl rfl hin13 dX3_plans_72 (fun H locs hP hD hS => ?_)
            have hP : va_P G.1 vwCl (wMO G za (zz.1, zz.2.1, zz.2.2.1, zz.2.2.2.1, zz.2.2.2.2.1, zz.2.2.2.2.2.1, zz.2.2.2.2.2.2.1, zz.2.2.2.2.2.2.2.1, zz.2.2.2.2.2.2.2.2.1, o1, zz.2.2.2.2.2.2.2.2.2.2.1, w7, (upd zz12_10 x1_10.toNatClampNeg ((-1) : Int32)), w3.1, w3.2, zz.2.2.2.2.2.2.2.2.2.2.2.2.2.2.2.1, (0 : Int32), zz.2.2.2.2.2.2.2.2.2.2.2.2.2.2.2.2.2)) H := hP
            have hD : va_D A (wMO G za (zz.1, zz.2.1, zz.2.2.1, zz.2.2.2.1, zz.2.2.2.2.1, zz.2.2.2.2.2.1, zz.2.2.2.2.2.2.1, zz.2.2.2.2.2.2.2.1, zz.2.2.2.2.2.2.2.2.1, o1, zz.2.2.2.2.2.2.2.2.2.2.1, w7, (upd zz12_10 x1_10.toNatClampNeg ((-1) : Int32)), w3.1, w3.2, zz.2.2.2.2.2.2.2.2.2.2.2.2.2.2.2.1, (0 : Int32), zz.2.2.2.2.2.2.2.2.2.2.2.2.2.2.2.2.2)) := hD
            refine lv_iinc (v := (x1_10 + (1 : Int32))) (lv' := [(1, .int (x1_10 + (1 : Int32))), (0, .ref (za 0))]) hx hb dX3_plans_73 hl (k := 0) rfl rfl (by decide) rfl (fun ls hl => ?_)
            refine lv_goto (tgt := 60) hx hb dX3_plans_76 (by decide) ?_
            exact ih_10 ((x1_10 + (1 : Int32)), (upd zz12_10 x1_10.toNatClampNeg ((-1) : Int32))) h _ _ hP hD hS _ (lv_sub hl [0, 1] rfl)
        · exact LL 300 ((0 : Int32), zz.2.2.2.2.2.2.2.2.2.2.2.2.1) h _ _ hP hD hS _ (lv_sub hl [0, 1] rfl)
    · have h := hw7
      clear hw7
      refine xk_lp (α := Int32 × xF) G A s.heap (fun a_6 => (wMO G za (zz.1, zz.2.1, zz.2.2.1, zz.2.2.2.1, zz.2.2.2.2.1, zz.2.2.2.2.2.1, zz.2.2.2.2.2.2.1, zz.2.2.2.2.2.2.2.1, zz.2.2.2.2.2.2.2.2.1, o1, zz.2.2.2.2.2.2.2.2.2.2.1, a_6.2, zz.2.2.2.2.2.2.2.2.2.2.2.2.1, w3.1, w3.2, zz.2.2.2.2.2.2.2.2.2.2.2.2.2.2.2.1, (0 : Int32), zz.2.2.2.2.2.2.2.2.2.2.2.2.2.2.2.2.2))) 4 (fun a_6 => [(1, .int a_6.1), (0, .ref (za 0))]) 39 (fun n a_6 => f_X3_plans_l39  n a_6.1 a_6.2 = some w7) (fun a_6 h => ?_) (fun n ih_6 a_6 h H locs hP hD hS ls hl => ?_) (fun LL => ?_)
      · exact sp_n ((f_X3_plans_l39_z _ _).symm.trans h)
      · obtain ⟨x1_6, zz11_6⟩ := a_6
        have h := (f_X3_plans_l39_s  n x1_6 zz11_6).symm.trans h
        have hP : va_P G.1 vwCl (wMO G za (zz.1, zz.2.1, zz.2.2.1, zz.2.2.2.1, zz.2.2.2.2.1, zz.2.2.2.2.2.1, zz.2.2.2.2.2.2.1, zz.2.2.2.2.2.2.2.1, zz.2.2.2.2.2.2.2.2.1, o1, zz.2.2.2.2.2.2.2.2.2.2.1, zz11_6, zz.2.2.2.2.2.2.2.2.2.2.2.2.1, w3.1, w3.2, zz.2.2.2.2.2.2.2.2.2.2.2.2.2.2.2.1, (0 : Int32), zz.2.2.2.2.2.2.2.2.2.2.2.2.2.2.2.2.2)) H := hP
        have hD : va_D A (wMO G za (zz.1, zz.2.1, zz.2.2.1, zz.2.2.2.1, zz.2.2.2.2.1, zz.2.2.2.2.2.1, zz.2.2.2.2.2.2.1, zz.2.2.2.2.2.2.2.1, zz.2.2.2.2.2.2.2.2.1, o1, zz.2.2.2.2.2.2.2.2.2.2.1, zz11_6, zz.2.2.2.2.2.2.2.2.2.2.2.2.1, w3.1, w3.2, zz.2.2.2.2.2.2.2.2.2.2.2.2.2.2.2.1, (0 : Int32), zz.2.2.2.2.2.2.2.2.2.2.2.2.2.2.2.2.2)) := hD
        have hl : lv_has ls 4 [(1, .int x1_6), (0, .ref (za 0))] := hl
        refine lv_iload_n hx hb dX3_plans_39 rfl (lv_at hl 0 rfl) ?_
        refine lv_bipush (v := (60 : Int32)) hx hb dX3_plans_40 (by decide) ?_
        refine lv_icmp_ge (tgt := 58) hx hb dX3_plans_42 (by decide) (fun c8 => ?_) (fun c8 => ?_)
        · have h := sp_t c8 h
          obtain rfl := sp_s h
          exact J6 _ _ hP hD hS _ (lv_sub hl [1] rfl)
        · have h := sp_f c8 h
          refine lv_aload_n hx hb dX3_plans_45 rfl (lv_at hl 1 rfl) ?_
          refine va_get (D := G.1) (ci := 3) (v := .ref (za 11)) (C := RX3) (T := TX3) (N := 18) hx hb hts hinX3 hown hK hP 0 rfl rfl 11 (by decide) (hts (.fieldLink RX3 41 "LessonWeaveModel" "lessonOn" "[I") (by decide +kernel)) (fun _ h9 => h9) rfl dX3_plans_46 ?_
          refine lv_iload_n hx hb dX3_plans_49 rfl (lv_at hl 0 rfl) ?_
          refine lv_iconst (v := ((-1) : Int32)) hx hb dX3_plans_50 (by decide) ?_
          obtain ⟨hin9, h⟩ := sp_g h
          refine va_iast hx hb hK hP hD hS 11 0 rfl rfl hin9 dX3_plans_51 (fun H locs hP hD hS => ?_)
          have hP : va_P G.1 vwCl (wMO G za (zz.1, zz.2.1, zz.2.2.1, zz.2.2.2.1, zz.2.2.2.2.1, zz.2.2.2.2.2.1, zz.2.2.2.2.2.2.1, zz.2.2.2.2.2.2.2.1, zz.2.2.2.2.2.2.2.2.1, o1, zz.2.2.2.2.2.2.2.2.2.2.1, (upd zz11_6 x1_6.toNatClampNeg ((-1) : Int32)), zz.2.2.2.2.2.2.2.2.2.2.2.2.1, w3.1, w3.2, zz.2.2.2.2.2.2.2.2.2.2.2.2.2.2.2.1, (0 : Int32), zz.2.2.2.2.2.2.2.2.2.2.2.2.2.2.2.2.2)) H := hP
          have hD : va_D A (wMO G za (zz.1, zz.2.1, zz.2.2.1, zz.2.2.2.1, zz.2.2.2.2.1, zz.2.2.2.2.2.1, zz.2.2.2.2.2.2.1, zz.2.2.2.2.2.2.2.1, zz.2.2.2.2.2.2.2.2.1, o1, zz.2.2.2.2.2.2.2.2.2.2.1, (upd zz11_6 x1_6.toNatClampNeg ((-1) : Int32)), zz.2.2.2.2.2.2.2.2.2.2.2.2.1, w3.1, w3.2, zz.2.2.2.2.2.2.2.2.2.2.2.2.2.2.2.1, (0 : Int32), zz.2.2.2.2.2.2.2.2.2.2.2.2.2.2.2.2.2)) := hD
          refine lv_iinc (v := (x1_6 + (1 : Int32))) (lv' := [(1, .int (x1_6 + (1 : Int32))), (0, .ref (za 0))]) hx hb dX3_plans_52 hl (k := 0) rfl rfl (by decide) rfl (fun ls hl => ?_)
          refine lv_goto (tgt := 39) hx hb dX3_plans_55 (by decide) ?_
          exact ih_6 ((x1_6 + (1 : Int32)), (upd zz11_6 x1_6.toNatClampNeg ((-1) : Int32))) h _ _ hP hD hS _ (lv_sub hl [0, 1] rfl)
      · exact LL 300 ((0 : Int32), zz.2.2.2.2.2.2.2.2.2.2.2.1) h _ _ hP hD hS _ (lv_sub hl [0, 1] rfl)
  · have h := hw3
    clear hw3
    refine xk_lp (α := Int32 × xF × xF) G A s.heap (fun a_2 => (wMO G za (zz.1, zz.2.1, zz.2.2.1, zz.2.2.2.1, zz.2.2.2.2.1, zz.2.2.2.2.2.1, zz.2.2.2.2.2.2.1, zz.2.2.2.2.2.2.2.1, zz.2.2.2.2.2.2.2.2.1, o1, zz.2.2.2.2.2.2.2.2.2.2.1, zz.2.2.2.2.2.2.2.2.2.2.2.1, zz.2.2.2.2.2.2.2.2.2.2.2.2.1, a_2.2.1, a_2.2.2, zz.2.2.2.2.2.2.2.2.2.2.2.2.2.2.2.1, (0 : Int32), zz.2.2.2.2.2.2.2.2.2.2.2.2.2.2.2.2.2))) 4 (fun a_2 => [(1, .int a_2.1), (0, .ref (za 0))]) 11 (fun n a_2 => f_X3_plans_l11  n a_2.1 a_2.2.1 a_2.2.2 = some w3) (fun a_2 h => ?_) (fun n ih_2 a_2 h H locs hP hD hS ls hl => ?_) (fun LL => ?_)
    · exact sp_n ((f_X3_plans_l11_z _ _ _).symm.trans h)
    · obtain ⟨x1_2, zz13_2, zz14_2⟩ := a_2
      have h := (f_X3_plans_l11_s  n x1_2 zz13_2 zz14_2).symm.trans h
      have hP : va_P G.1 vwCl (wMO G za (zz.1, zz.2.1, zz.2.2.1, zz.2.2.2.1, zz.2.2.2.2.1, zz.2.2.2.2.2.1, zz.2.2.2.2.2.2.1, zz.2.2.2.2.2.2.2.1, zz.2.2.2.2.2.2.2.2.1, o1, zz.2.2.2.2.2.2.2.2.2.2.1, zz.2.2.2.2.2.2.2.2.2.2.2.1, zz.2.2.2.2.2.2.2.2.2.2.2.2.1, zz13_2, zz14_2, zz.2.2.2.2.2.2.2.2.2.2.2.2.2.2.2.1, (0 : Int32), zz.2.2.2.2.2.2.2.2.2.2.2.2.2.2.2.2.2)) H := hP
      have hD : va_D A (wMO G za (zz.1, zz.2.1, zz.2.2.1, zz.2.2.2.1, zz.2.2.2.2.1, zz.2.2.2.2.2.1, zz.2.2.2.2.2.2.1, zz.2.2.2.2.2.2.2.1, zz.2.2.2.2.2.2.2.2.1, o1, zz.2.2.2.2.2.2.2.2.2.2.1, zz.2.2.2.2.2.2.2.2.2.2.2.1, zz.2.2.2.2.2.2.2.2.2.2.2.2.1, zz13_2, zz14_2, zz.2.2.2.2.2.2.2.2.2.2.2.2.2.2.2.1, (0 : Int32), zz.2.2.2.2.2.2.2.2.2.2.2.2.2.2.2.2.2)) := hD
      have hl : lv_has ls 4 [(1, .int x1_2), (0, .ref (za 0))] := hl
      refine lv_iload_n hx hb dX3_plans_11 rfl (lv_at hl 0 rfl) ?_
      refine lv_bipush (v := (12 : Int32)) hx hb dX3_plans_12 (by decide) ?_
      refine lv_icmp_ge (tgt := 37) hx hb dX3_plans_14 (by decide) (fun c4 => ?_) (fun c4 => ?_)
      · have h := sp_t c4 h
        obtain rfl := sp_s h
        exact J2 _ _ hP hD hS _ (lv_sub hl [1] rfl)
      · have h := sp_f c4 h
        refine lv_aload_n hx hb dX3_plans_17 rfl (lv_at hl 1 rfl) ?_
        refine va_get (D := G.1) (ci := 3) (v := .ref (za 13)) (C := RX3) (T := TX3) (N := 18) hx hb hts hinX3 hown hK hP 0 rfl rfl 13 (by decide) (hts (.fieldLink RX3 47 "LessonWeaveModel" "lessonsLaid" "[I") (by decide +kernel)) (fun _ h9 => h9) rfl dX3_plans_18 ?_
        refine lv_iload_n hx hb dX3_plans_21 rfl (lv_at hl 0 rfl) ?_
        refine lv_iconst (v := (0 : Int32)) hx hb dX3_plans_22 (by decide) ?_
        obtain ⟨hin5, h⟩ := sp_g h
        refine va_iast hx hb hK hP hD hS 13 0 rfl rfl hin5 dX3_plans_23 (fun H locs hP hD hS => ?_)
        have hP : va_P G.1 vwCl (wMO G za (zz.1, zz.2.1, zz.2.2.1, zz.2.2.2.1, zz.2.2.2.2.1, zz.2.2.2.2.2.1, zz.2.2.2.2.2.2.1, zz.2.2.2.2.2.2.2.1, zz.2.2.2.2.2.2.2.2.1, o1, zz.2.2.2.2.2.2.2.2.2.2.1, zz.2.2.2.2.2.2.2.2.2.2.2.1, zz.2.2.2.2.2.2.2.2.2.2.2.2.1, (upd zz13_2 x1_2.toNatClampNeg (0 : Int32)), zz14_2, zz.2.2.2.2.2.2.2.2.2.2.2.2.2.2.2.1, (0 : Int32), zz.2.2.2.2.2.2.2.2.2.2.2.2.2.2.2.2.2)) H := hP
        have hD : va_D A (wMO G za (zz.1, zz.2.1, zz.2.2.1, zz.2.2.2.1, zz.2.2.2.2.1, zz.2.2.2.2.2.1, zz.2.2.2.2.2.2.1, zz.2.2.2.2.2.2.2.1, zz.2.2.2.2.2.2.2.2.1, o1, zz.2.2.2.2.2.2.2.2.2.2.1, zz.2.2.2.2.2.2.2.2.2.2.2.1, zz.2.2.2.2.2.2.2.2.2.2.2.2.1, (upd zz13_2 x1_2.toNatClampNeg (0 : Int32)), zz14_2, zz.2.2.2.2.2.2.2.2.2.2.2.2.2.2.2.1, (0 : Int32), zz.2.2.2.2.2.2.2.2.2.2.2.2.2.2.2.2.2)) := hD
        refine lv_aload_n hx hb dX3_plans_24 rfl (lv_at hl 1 rfl) ?_
        refine va_get (D := G.1) (ci := 3) (v := .ref (za 14)) (C := RX3) (T := TX3) (N := 18) hx hb hts hinX3 hown hK hP 0 rfl rfl 14 (by decide) (hts (.fieldLink RX3 50 "LessonWeaveModel" "revisitsLaid" "[I") (by decide +kernel)) (fun _ h9 => h9) rfl dX3_plans_25 ?_
        refine lv_iload_n hx hb dX3_plans_28 rfl (lv_at hl 0 rfl) ?_
        refine lv_iconst (v := (0 : Int32)) hx hb dX3_plans_29 (by decide) ?_
        refine va_iast hx hb hK hP hD hS 14 0 rfl rfl hin5 dX3_plans_30 (fun H locs hP hD hS => ?_)
        have hP : va_P G.1 vwCl (wMO G za (zz.1, zz.2.1, zz.2.2.1, zz.2.2.2.1, zz.2.2.2.2.1, zz.2.2.2.2.2.1, zz.2.2.2.2.2.2.1, zz.2.2.2.2.2.2.2.1, zz.2.2.2.2.2.2.2.2.1, o1, zz.2.2.2.2.2.2.2.2.2.2.1, zz.2.2.2.2.2.2.2.2.2.2.2.1, zz.2.2.2.2.2.2.2.2.2.2.2.2.1, (upd zz13_2 x1_2.toNatClampNeg (0 : Int32)), (upd zz14_2 x1_2.toNatClampNeg (0 : Int32)), zz.2.2.2.2.2.2.2.2.2.2.2.2.2.2.2.1, (0 : Int32), zz.2.2.2.2.2.2.2.2.2.2.2.2.2.2.2.2.2)) H := hP
        have hD : va_D A (wMO G za (zz.1, zz.2.1, zz.2.2.1, zz.2.2.2.1, zz.2.2.2.2.1, zz.2.2.2.2.2.1, zz.2.2.2.2.2.2.1, zz.2.2.2.2.2.2.2.1, zz.2.2.2.2.2.2.2.2.1, o1, zz.2.2.2.2.2.2.2.2.2.2.1, zz.2.2.2.2.2.2.2.2.2.2.2.1, zz.2.2.2.2.2.2.2.2.2.2.2.2.1, (upd zz13_2 x1_2.toNatClampNeg (0 : Int32)), (upd zz14_2 x1_2.toNatClampNeg (0 : Int32)), zz.2.2.2.2.2.2.2.2.2.2.2.2.2.2.2.1, (0 : Int32), zz.2.2.2.2.2.2.2.2.2.2.2.2.2.2.2.2.2)) := hD
        refine lv_iinc (v := (x1_2 + (1 : Int32))) (lv' := [(1, .int (x1_2 + (1 : Int32))), (0, .ref (za 0))]) hx hb dX3_plans_31 hl (k := 0) rfl rfl (by decide) rfl (fun ls hl => ?_)
        refine lv_goto (tgt := 11) hx hb dX3_plans_34 (by decide) ?_
        exact ih_2 ((x1_2 + (1 : Int32)), (upd zz13_2 x1_2.toNatClampNeg (0 : Int32)), (upd zz14_2 x1_2.toNatClampNeg (0 : Int32))) h _ _ hP hD hS _ (lv_sub hl [0, 1] rfl)
    · exact LL 300 ((0 : Int32), zz.2.2.2.2.2.2.2.2.2.2.2.2.2.1, zz.2.2.2.2.2.2.2.2.2.2.2.2.2.2.1) h _ _ hP hD hS _ (lv_sub hl [0, 1] rfl)
def f_X3_dayOf (zz : xMO) (i1 : Int32) : Option (Int32) :=
  if (60 : Int32) ≤ i1 then
    if (i1 - (60 : Int32)) < 0 ∨ 36 ≤ (i1 - (60 : Int32)).toNatClampNeg then none else
    some (zz.2.2.2.2.2.2.2.2.2.2.2.2.1 (i1 - (60 : Int32)).toNatClampNeg)
  else
    if i1 < 0 ∨ 60 ≤ i1.toNatClampNeg then none else
    some (zz.2.2.2.2.2.2.2.2.2.2.2.1 i1.toNatClampNeg)
theorem f_X3_dayOf_e (zz : xMO) (i1 : Int32) : f_X3_dayOf zz i1 =
  if (60 : Int32) ≤ i1 then
    if (i1 - (60 : Int32)) < 0 ∨ 36 ≤ (i1 - (60 : Int32)).toNatClampNeg then none else
    some (zz.2.2.2.2.2.2.2.2.2.2.2.2.1 (i1 - (60 : Int32)).toNatClampNeg)
  else
    if i1 < 0 ∨ 60 ≤ i1.toNatClampNeg then none else
    some (zz.2.2.2.2.2.2.2.2.2.2.2.1 i1.toNatClampNeg) := rfl
set_option maxHeartbeats 4000000 in
set_option maxRecDepth 100000 in
theorem c_X3_dayOf (l : Launch) (G : xG) (za : (Nat → Nat)) (zz : xMO) (i1 : Int32) (o : Int32) (h : f_X3_dayOf zz i1 = some o) : xk_CI l yX3_dayOf wsX3_dayOf ({ frames := 0, cells := 0, slots := 0, locals := 0 } : Room) 0 0 [.ref (za 0), .int i1] G (wMO G za zz) (wMO G za zz) o := by
  refine xk_CI.of (cc := cX3_dayOf) (maxL := 2) (ret := (some .int)) (by decide) rfl (Nat.le_of_ble_eq_true rfl) ?_
  intro pr9 en9 s mm9 bl9 meth9 cd9 A ls H locs hx hb hr hml hts hown hlk hA hP hK hD hNE hS hl
  have hown : s.vm.findClass RX3 = some mm9.cls := hown
  have hl : lv_has ls 2 [(0, .ref (za 0)), (1, .int i1)] := hl
  have hinX3 : ∀ w ∈ u_ws RX3 TX3 18, w ∈ wsX3_dayOf := by decide +kernel
  have h := (f_X3_dayOf_e zz i1).symm.trans h
  refine lv_iload_n hx hb dX3_dayOf_0 rfl (lv_at hl 1 rfl) ?_
  refine lv_bipush (v := (60 : Int32)) hx hb dX3_dayOf_1 (by decide) ?_
  refine lv_icmp_ge (tgt := 15) hx hb dX3_dayOf_3 (by decide) (fun c1 => ?_) (fun c1 => ?_)
  · have h := sp_t c1 h
    refine lv_aload_n hx hb dX3_dayOf_15 rfl (lv_at hl 0 rfl) ?_
    refine va_get (D := G.1) (ci := 3) (v := .ref (za 12)) (C := RX3) (T := TX3) (N := 18) hx hb hts hinX3 hown hK hP 0 rfl rfl 12 (by decide) (hts (.fieldLink RX3 44 "LessonWeaveModel" "revisitOn" "[I") (by decide +kernel)) (fun _ h9 => h9) rfl dX3_dayOf_16 ?_
    refine lv_iload_n hx hb dX3_dayOf_19 rfl (lv_at hl 1 rfl) ?_
    refine lv_bipush (v := (60 : Int32)) hx hb dX3_dayOf_20 (by decide) ?_
    refine lv_isub hx hb dX3_dayOf_22 ?_
    obtain ⟨hin2, h⟩ := sp_g h
    refine va_iald hx hb hK hP 12 0 rfl rfl hin2 dX3_dayOf_23 ?_
    obtain rfl := sp_s h
    exact xk_reI hx hb hr hlk hP hD hS rfl dX3_dayOf_24
  · have h := sp_f c1 h
    refine lv_aload_n hx hb dX3_dayOf_6 rfl (lv_at hl 0 rfl) ?_
    refine va_get (D := G.1) (ci := 3) (v := .ref (za 11)) (C := RX3) (T := TX3) (N := 18) hx hb hts hinX3 hown hK hP 0 rfl rfl 11 (by decide) (hts (.fieldLink RX3 41 "LessonWeaveModel" "lessonOn" "[I") (by decide +kernel)) (fun _ h9 => h9) rfl dX3_dayOf_7 ?_
    refine lv_iload_n hx hb dX3_dayOf_10 rfl (lv_at hl 1 rfl) ?_
    obtain ⟨hin3, h⟩ := sp_g h
    refine va_iald hx hb hK hP 11 0 rfl rfl hin3 dX3_dayOf_11 ?_
    refine lv_goto (tgt := 24) hx hb dX3_dayOf_12 (by decide) ?_
    obtain rfl := sp_s h
    exact xk_reI hx hb hr hlk hP hD hS rfl dX3_dayOf_24
def f_X3_lose_l43 (zz : xMO) (o3 : Int32 × Int32) (o5 : xF × xF × xF × xF × xF × xF × Int32) : Nat → Int32 → xF → Option (xF)
  | 0, _, _ => none
  | k9 + 1, x2_6, zz15_6 =>
    if (96 : Int32) ≤ x2_6 then
      some zz15_6
    else
      Option.bind (f_X3_dayOf (zz.1, zz.2.1, zz.2.2.1, zz.2.2.2.1, zz.2.2.2.2.1, zz.2.2.2.2.2.1, zz.2.2.2.2.2.2.1, zz.2.2.2.2.2.2.2.1, zz.2.2.2.2.2.2.2.2.1, o5.1, o5.2.1, o5.2.2.1, o5.2.2.2.1, o5.2.2.2.2.1, o5.2.2.2.2.2.1, zz15_6, o5.2.2.2.2.2.2, o3.2) x2_6) fun (o9 : Int32) =>
      if x2_6 < 0 ∨ 96 ≤ x2_6.toNatClampNeg then none else
      f_X3_lose_l43 zz o3 o5 k9 (x2_6 + (1 : Int32)) (upd zz15_6 x2_6.toNatClampNeg o9)
theorem f_X3_lose_l43_z (zz : xMO) (o3 : Int32 × Int32) (o5 : xF × xF × xF × xF × xF × xF × Int32) (x2_6 : Int32) (zz15_6 : xF) : f_X3_lose_l43 zz o3 o5 0 x2_6 zz15_6 = none := rfl
theorem f_X3_lose_l43_s (zz : xMO) (o3 : Int32 × Int32) (o5 : xF × xF × xF × xF × xF × xF × Int32) (k9 : Nat) (x2_6 : Int32) (zz15_6 : xF) : f_X3_lose_l43 zz o3 o5 (k9 + 1) x2_6 zz15_6 =
    if (96 : Int32) ≤ x2_6 then
      some zz15_6
    else
      Option.bind (f_X3_dayOf (zz.1, zz.2.1, zz.2.2.1, zz.2.2.2.1, zz.2.2.2.2.1, zz.2.2.2.2.2.1, zz.2.2.2.2.2.2.1, zz.2.2.2.2.2.2.2.1, zz.2.2.2.2.2.2.2.2.1, o5.1, o5.2.1, o5.2.2.1, o5.2.2.2.1, o5.2.2.2.2.1, o5.2.2.2.2.2.1, zz15_6, o5.2.2.2.2.2.2, o3.2) x2_6) fun (o9 : Int32) =>
      if x2_6 < 0 ∨ 96 ≤ x2_6.toNatClampNeg then none else
      f_X3_lose_l43 zz o3 o5 k9 (x2_6 + (1 : Int32)) (upd zz15_6 x2_6.toNatClampNeg o9) := rfl
def f_X3_lose_l81 (zz : xMO) (i1 : Int32) (o3 : Int32 × Int32) (w7 : xF) (o12 : xF × xF × xF × xF × xF × xF × Int32) : Nat → Int32 → Int32 → Option (Int32)
  | 0, _, _ => none
  | k9 + 1, x3_13, x2_13 =>
    if (96 : Int32) ≤ x3_13 then
      some x2_13
    else
      if x3_13 < 0 ∨ 96 ≤ x3_13.toNatClampNeg then none else
      Option.bind (
        if (w7 x3_13.toNatClampNeg) = ((-1) : Int32) then
          some (0 : Int32)
        else
          Option.bind (f_X3_dayOf (zz.1, zz.2.1, zz.2.2.1, zz.2.2.2.1, zz.2.2.2.2.1, zz.2.2.2.2.2.1, zz.2.2.2.2.2.2.1, zz.2.2.2.2.2.2.2.1, (upd zz.2.2.2.2.2.2.2.2.1 i1.toNatClampNeg (1 : Int32)), o12.1, o12.2.1, o12.2.2.1, o12.2.2.2.1, o12.2.2.2.2.1, o12.2.2.2.2.2.1, w7, o12.2.2.2.2.2.2, o3.2) x3_13) fun (o19 : Int32) =>
          if (w7 x3_13.toNatClampNeg) = o19 then
            some (0 : Int32)
          else
            some (1 : Int32)) fun (v17 : Int32) =>
      f_X3_lose_l81 zz i1 o3 w7 o12 k9 (x3_13 + (1 : Int32)) (x2_13 + v17)
theorem f_X3_lose_l81_z (zz : xMO) (i1 : Int32) (o3 : Int32 × Int32) (w7 : xF) (o12 : xF × xF × xF × xF × xF × xF × Int32) (x3_13 : Int32) (x2_13 : Int32) : f_X3_lose_l81 zz i1 o3 w7 o12 0 x3_13 x2_13 = none := rfl
theorem f_X3_lose_l81_s (zz : xMO) (i1 : Int32) (o3 : Int32 × Int32) (w7 : xF) (o12 : xF × xF × xF × xF × xF × xF × Int32) (k9 : Nat) (x3_13 : Int32) (x2_13 : Int32) : f_X3_lose_l81 zz i1 o3 w7 o12 (k9 + 1) x3_13 x2_13 =
    if (96 : Int32) ≤ x3_13 then
      some x2_13
    else
      if x3_13 < 0 ∨ 96 ≤ x3_13.toNatClampNeg then none else
      Option.bind (
        if (w7 x3_13.toNatClampNeg) = ((-1) : Int32) then
          some (0 : Int32)
        else
          Option.bind (f_X3_dayOf (zz.1, zz.2.1, zz.2.2.1, zz.2.2.2.1, zz.2.2.2.2.1, zz.2.2.2.2.2.1, zz.2.2.2.2.2.2.1, zz.2.2.2.2.2.2.2.1, (upd zz.2.2.2.2.2.2.2.2.1 i1.toNatClampNeg (1 : Int32)), o12.1, o12.2.1, o12.2.2.1, o12.2.2.2.1, o12.2.2.2.2.1, o12.2.2.2.2.2.1, w7, o12.2.2.2.2.2.2, o3.2) x3_13) fun (o19 : Int32) =>
          if (w7 x3_13.toNatClampNeg) = o19 then
            some (0 : Int32)
          else
            some (1 : Int32)) fun (v17 : Int32) =>
      f_X3_lose_l81 zz i1 o3 w7 o12 k9 (x3_13 + (1 : Int32)) (x2_13 + v17) := rfl
def f_X3_lose (zz : xMO) (i1 : Int32) : Option (Int32 × xF × xF × xF × xF × xF × xF × xF × xF × Int32 × Int32) :=
  Option.bind (f_X3_isIn i1 (0 : Int32) (99 : Int32)) fun (o1 : Int32) =>
  Option.bind (
    if o1 = 0 then
      some (1 : Int32)
    else
      if i1 < 0 ∨ 100 ≤ i1.toNatClampNeg then none else
      if (zz.2.2.2.2.2.2.2.2.1 i1.toNatClampNeg) = 0 then
        some (0 : Int32)
      else
        some (2 : Int32)) fun (v2 : Int32) =>
  Option.bind (f_X3_can zz v2) fun (o3 : Int32 × Int32) =>
  if o3.1 = 0 then
    some ((0 : Int32), zz.2.2.2.2.2.2.2.2.1, zz.2.2.2.2.2.2.2.2.2.1, zz.2.2.2.2.2.2.2.2.2.2.1, zz.2.2.2.2.2.2.2.2.2.2.2.1, zz.2.2.2.2.2.2.2.2.2.2.2.2.1, zz.2.2.2.2.2.2.2.2.2.2.2.2.2.1, zz.2.2.2.2.2.2.2.2.2.2.2.2.2.2.1, zz.2.2.2.2.2.2.2.2.2.2.2.2.2.2.2.1, zz.2.2.2.2.2.2.2.2.2.2.2.2.2.2.2.2.1, o3.2)
  else
    Option.bind (f_X3_plans (zz.1, zz.2.1, zz.2.2.1, zz.2.2.2.1, zz.2.2.2.2.1, zz.2.2.2.2.2.1, zz.2.2.2.2.2.2.1, zz.2.2.2.2.2.2.2.1, zz.2.2.2.2.2.2.2.2.1, zz.2.2.2.2.2.2.2.2.2.1, zz.2.2.2.2.2.2.2.2.2.2.1, zz.2.2.2.2.2.2.2.2.2.2.2.1, zz.2.2.2.2.2.2.2.2.2.2.2.2.1, zz.2.2.2.2.2.2.2.2.2.2.2.2.2.1, zz.2.2.2.2.2.2.2.2.2.2.2.2.2.2.1, zz.2.2.2.2.2.2.2.2.2.2.2.2.2.2.2.1, zz.2.2.2.2.2.2.2.2.2.2.2.2.2.2.2.2.1, o3.2)) fun (o5 : xF × xF × xF × xF × xF × xF × Int32) =>
    Option.bind (f_X3_lose_l43 zz o3 o5 300 (0 : Int32) zz.2.2.2.2.2.2.2.2.2.2.2.2.2.2.2.1) fun (w7 : xF) =>
    if i1 < 0 ∨ 100 ≤ i1.toNatClampNeg then none else
    Option.bind (f_X3_plans (zz.1, zz.2.1, zz.2.2.1, zz.2.2.2.1, zz.2.2.2.2.1, zz.2.2.2.2.2.1, zz.2.2.2.2.2.2.1, zz.2.2.2.2.2.2.2.1, (upd zz.2.2.2.2.2.2.2.2.1 i1.toNatClampNeg (1 : Int32)), o5.1, o5.2.1, o5.2.2.1, o5.2.2.2.1, o5.2.2.2.2.1, o5.2.2.2.2.2.1, w7, o5.2.2.2.2.2.2, o3.2)) fun (o12 : xF × xF × xF × xF × xF × xF × Int32) =>
    Option.bind (f_X3_lose_l81 zz i1 o3 w7 o12 300 (0 : Int32) (0 : Int32)) fun (w14 : Int32) =>
    some (w14, (upd zz.2.2.2.2.2.2.2.2.1 i1.toNatClampNeg (1 : Int32)), o12.1, o12.2.1, o12.2.2.1, o12.2.2.2.1, o12.2.2.2.2.1, o12.2.2.2.2.2.1, w7, o12.2.2.2.2.2.2, o3.2)
theorem f_X3_lose_e (zz : xMO) (i1 : Int32) : f_X3_lose zz i1 =
  Option.bind (f_X3_isIn i1 (0 : Int32) (99 : Int32)) fun (o1 : Int32) =>
  Option.bind (
    if o1 = 0 then
      some (1 : Int32)
    else
      if i1 < 0 ∨ 100 ≤ i1.toNatClampNeg then none else
      if (zz.2.2.2.2.2.2.2.2.1 i1.toNatClampNeg) = 0 then
        some (0 : Int32)
      else
        some (2 : Int32)) fun (v2 : Int32) =>
  Option.bind (f_X3_can zz v2) fun (o3 : Int32 × Int32) =>
  if o3.1 = 0 then
    some ((0 : Int32), zz.2.2.2.2.2.2.2.2.1, zz.2.2.2.2.2.2.2.2.2.1, zz.2.2.2.2.2.2.2.2.2.2.1, zz.2.2.2.2.2.2.2.2.2.2.2.1, zz.2.2.2.2.2.2.2.2.2.2.2.2.1, zz.2.2.2.2.2.2.2.2.2.2.2.2.2.1, zz.2.2.2.2.2.2.2.2.2.2.2.2.2.2.1, zz.2.2.2.2.2.2.2.2.2.2.2.2.2.2.2.1, zz.2.2.2.2.2.2.2.2.2.2.2.2.2.2.2.2.1, o3.2)
  else
    Option.bind (f_X3_plans (zz.1, zz.2.1, zz.2.2.1, zz.2.2.2.1, zz.2.2.2.2.1, zz.2.2.2.2.2.1, zz.2.2.2.2.2.2.1, zz.2.2.2.2.2.2.2.1, zz.2.2.2.2.2.2.2.2.1, zz.2.2.2.2.2.2.2.2.2.1, zz.2.2.2.2.2.2.2.2.2.2.1, zz.2.2.2.2.2.2.2.2.2.2.2.1, zz.2.2.2.2.2.2.2.2.2.2.2.2.1, zz.2.2.2.2.2.2.2.2.2.2.2.2.2.1, zz.2.2.2.2.2.2.2.2.2.2.2.2.2.2.1, zz.2.2.2.2.2.2.2.2.2.2.2.2.2.2.2.1, zz.2.2.2.2.2.2.2.2.2.2.2.2.2.2.2.2.1, o3.2)) fun (o5 : xF × xF × xF × xF × xF × xF × Int32) =>
    Option.bind (f_X3_lose_l43 zz o3 o5 300 (0 : Int32) zz.2.2.2.2.2.2.2.2.2.2.2.2.2.2.2.1) fun (w7 : xF) =>
    if i1 < 0 ∨ 100 ≤ i1.toNatClampNeg then none else
    Option.bind (f_X3_plans (zz.1, zz.2.1, zz.2.2.1, zz.2.2.2.1, zz.2.2.2.2.1, zz.2.2.2.2.2.1, zz.2.2.2.2.2.2.1, zz.2.2.2.2.2.2.2.1, (upd zz.2.2.2.2.2.2.2.2.1 i1.toNatClampNeg (1 : Int32)), o5.1, o5.2.1, o5.2.2.1, o5.2.2.2.1, o5.2.2.2.2.1, o5.2.2.2.2.2.1, w7, o5.2.2.2.2.2.2, o3.2)) fun (o12 : xF × xF × xF × xF × xF × xF × Int32) =>
    Option.bind (f_X3_lose_l81 zz i1 o3 w7 o12 300 (0 : Int32) (0 : Int32)) fun (w14 : Int32) =>
    some (w14, (upd zz.2.2.2.2.2.2.2.2.1 i1.toNatClampNeg (1 : Int32)), o12.1, o12.2.1, o12.2.2.1, o12.2.2.2.1, o12.2.2.2.2.1, o12.2.2.2.2.2.1, w7, o12.2.2.2.2.2.2, o3.2) := rfl
set_option maxHeartbeats 4000000 in
set_option maxRecDepth 100000 in
theorem c_X3_lose (l : Launch) (G : xG) (za : (Nat → Nat)) (zz : xMO) (i1 : Int32) (o : Int32 × xF × xF × xF × xF × xF × xF × xF × xF × Int32 × Int32) (h : f_X3_lose zz i1 = some o) : xk_CI l yX3_lose wsX3_lose ({ frames := 4, cells := 0, slots := 0, locals := 90 } : Room) 0 0 [.ref (za 0), .int i1] G (wMO G za zz) (wMO G za (zz.1, zz.2.1, zz.2.2.1, zz.2.2.2.1, zz.2.2.2.2.1, zz.2.2.2.2.2.1, zz.2.2.2.2.2.2.1, zz.2.2.2.2.2.2.2.1, o.2.1, o.2.2.1, o.2.2.2.1, o.2.2.2.2.1, o.2.2.2.2.2.1, o.2.2.2.2.2.2.1, o.2.2.2.2.2.2.2.1, o.2.2.2.2.2.2.2.2.1, o.2.2.2.2.2.2.2.2.2.1, o.2.2.2.2.2.2.2.2.2.2)) o.1 := by
  refine xk_CI.of (cc := cX3_lose) (maxL := 4) (ret := (some .int)) (by decide) rfl (Nat.le_of_ble_eq_true rfl) ?_
  intro pr9 en9 s mm9 bl9 meth9 cd9 A ls H locs hx hb hr hml hts hown hlk hA hP hK hD hNE hS hl
  have hown : s.vm.findClass RX3 = some mm9.cls := hown
  have hl : lv_has ls 4 [(0, .ref (za 0)), (1, .int i1)] := hl
  have hinX3 : ∀ w ∈ u_ws RX3 TX3 18, w ∈ wsX3_lose := by decide +kernel
  have h := (f_X3_lose_e zz i1).symm.trans h
  refine lv_aload_n hx hb dX3_lose_0 rfl (lv_at hl 0 rfl) ?_
  refine lv_iload_n hx hb dX3_lose_1 rfl (lv_at hl 1 rfl) ?_
  refine lv_iconst (v := (0 : Int32)) hx hb dX3_lose_2 (by decide) ?_
  refine lv_bipush (v := (99 : Int32)) hx hb dX3_lose_3 (by decide) ?_
  obtain ⟨o1, ho1, h⟩ := sp_b h
  refine xk_ci (va_runS (As := [.int i1, .int (0 : Int32), .int (99 : Int32)]) (rest := [.ref (za 0)]) ⟨hx, hb, hml, hown, hts⟩ (c_X3_isIn l G i1 (0 : Int32) (99 : Int32) o1 ho1 H.size) (va_cwS 3 hts gX3_lose_X3_isIn rfl rfl rfl (by decide +kernel) ⟨Nat.le_of_ble_eq_true rfl, Nat.le_of_ble_eq_true rfl⟩) (xk_preS hK hNE (hP.sub (ws' := []) [] rfl) (hD.sub (ws' := []) [] (by decide) rfl)) rfl rfl hl.1 rfl (lv_room (Nat.le_of_ble_eq_true rfl)) dX3_lose_5 ⟨Nat.le_of_ble_eq_true rfl, Nat.le_of_ble_eq_true rfl⟩) hP hD hS hA [] [0, 1, 2, 3, 4, 5, 6, 7, 8, 9, 10, 11, 12, 13, 14, 15] [0, 1, 2, 3, 4, 5, 6, 7, 8, 9, 10, 11, 12, 13, 14, 15] rfl rfl (by decide) (by decide) rfl (by decide) (fun H locs hP hD hS => ?_)
  have hP : va_P G.1 vwCl (wMO G za zz) H := hP
  have hD : va_D A (wMO G za zz) := hD
  obtain ⟨v2, hv2, h⟩ := sp_b h
  refine xk_jn G A s.heap (wMO G za zz) 4 [(0, .ref (za 0)), (1, .int i1)] 29 [.int v2, .ref (za 0)] (fun H locs hP hD hS ls hl => ?_) (fun J2 => ?_)
  · obtain ⟨o3, ho3, h⟩ := sp_b h
    refine xk_ci (va_runV (As := [.int v2]) (rest := []) ⟨hx, hb, hml, hown, hts⟩ (c_X3_can l G za zz v2 o3 ho3 H.size) (cwV 1 hts gX3_lose_X3_can rfl rfl rfl (by decide +kernel) ⟨Nat.le_of_ble_eq_true rfl, Nat.le_of_ble_eq_true rfl⟩) (xk_preV hK hNE (hP.sub (ws' := (wMO G za zz)) [0, 1, 2, 3, 4, 5, 6, 7, 8, 9, 10, 11, 12, 13, 14, 15] rfl) (hD.sub (ws' := (wMO G za zz)) [0, 1, 2, 3, 4, 5, 6, 7, 8, 9, 10, 11, 12, 13, 14, 15] (by decide) rfl) (ci := 3) rfl rfl) rfl rfl hl.1 rfl (lv_room (Nat.le_of_ble_eq_true rfl)) dX3_lose_29 ⟨Nat.le_of_ble_eq_true rfl, Nat.le_of_ble_eq_true rfl⟩) hP hD hS hA [0, 1, 2, 3, 4, 5, 6, 7, 8, 9, 10, 11, 12, 13, 14, 15] [] [0, 1, 2, 3, 4, 5, 6, 7, 8, 9, 10, 11, 12, 13, 14, 15] rfl rfl (by decide) (by decide) rfl (by decide) (fun H locs hP hD hS => ?_)
    have hP : va_P G.1 vwCl (wMO G za (zz.1, zz.2.1, zz.2.2.1, zz.2.2.2.1, zz.2.2.2.2.1, zz.2.2.2.2.2.1, zz.2.2.2.2.2.2.1, zz.2.2.2.2.2.2.2.1, zz.2.2.2.2.2.2.2.2.1, zz.2.2.2.2.2.2.2.2.2.1, zz.2.2.2.2.2.2.2.2.2.2.1, zz.2.2.2.2.2.2.2.2.2.2.2.1, zz.2.2.2.2.2.2.2.2.2.2.2.2.1, zz.2.2.2.2.2.2.2.2.2.2.2.2.2.1, zz.2.2.2.2.2.2.2.2.2.2.2.2.2.2.1, zz.2.2.2.2.2.2.2.2.2.2.2.2.2.2.2.1, zz.2.2.2.2.2.2.2.2.2.2.2.2.2.2.2.2.1, o3.2)) H := hP
    have hD : va_D A (wMO G za (zz.1, zz.2.1, zz.2.2.1, zz.2.2.2.1, zz.2.2.2.2.1, zz.2.2.2.2.2.1, zz.2.2.2.2.2.2.1, zz.2.2.2.2.2.2.2.1, zz.2.2.2.2.2.2.2.2.1, zz.2.2.2.2.2.2.2.2.2.1, zz.2.2.2.2.2.2.2.2.2.2.1, zz.2.2.2.2.2.2.2.2.2.2.2.1, zz.2.2.2.2.2.2.2.2.2.2.2.2.1, zz.2.2.2.2.2.2.2.2.2.2.2.2.2.1, zz.2.2.2.2.2.2.2.2.2.2.2.2.2.2.1, zz.2.2.2.2.2.2.2.2.2.2.2.2.2.2.2.1, zz.2.2.2.2.2.2.2.2.2.2.2.2.2.2.2.2.1, o3.2)) := hD
    refine lv_if_ne (tgt := 37) hx hb dX3_lose_32 (by decide) (fun c4 => ?_) (fun c4 => ?_)
    · have h := sp_f c4 h
      refine lv_aload_n hx hb dX3_lose_37 rfl (lv_at hl 0 rfl) ?_
      obtain ⟨o5, ho5, h⟩ := sp_b h
      refine xk_cv (va_runV (As := []) (rest := []) ⟨hx, hb, hml, hown, hts⟩ (c_X3_plans l G za (zz.1, zz.2.1, zz.2.2.1, zz.2.2.2.1, zz.2.2.2.2.1, zz.2.2.2.2.2.1, zz.2.2.2.2.2.2.1, zz.2.2.2.2.2.2.2.1, zz.2.2.2.2.2.2.2.2.1, zz.2.2.2.2.2.2.2.2.2.1, zz.2.2.2.2.2.2.2.2.2.2.1, zz.2.2.2.2.2.2.2.2.2.2.2.1, zz.2.2.2.2.2.2.2.2.2.2.2.2.1, zz.2.2.2.2.2.2.2.2.2.2.2.2.2.1, zz.2.2.2.2.2.2.2.2.2.2.2.2.2.2.1, zz.2.2.2.2.2.2.2.2.2.2.2.2.2.2.2.1, zz.2.2.2.2.2.2.2.2.2.2.2.2.2.2.2.2.1, o3.2) o5 ho5 H.size) (cwV 0 hts gX3_lose_X3_plans rfl rfl rfl (by decide +kernel) ⟨Nat.le_of_ble_eq_true rfl, Nat.le_of_ble_eq_true rfl⟩) (xk_preV hK hNE (hP.sub (ws' := (wMO G za (zz.1, zz.2.1, zz.2.2.1, zz.2.2.2.1, zz.2.2.2.2.1, zz.2.2.2.2.2.1, zz.2.2.2.2.2.2.1, zz.2.2.2.2.2.2.2.1, zz.2.2.2.2.2.2.2.2.1, zz.2.2.2.2.2.2.2.2.2.1, zz.2.2.2.2.2.2.2.2.2.2.1, zz.2.2.2.2.2.2.2.2.2.2.2.1, zz.2.2.2.2.2.2.2.2.2.2.2.2.1, zz.2.2.2.2.2.2.2.2.2.2.2.2.2.1, zz.2.2.2.2.2.2.2.2.2.2.2.2.2.2.1, zz.2.2.2.2.2.2.2.2.2.2.2.2.2.2.2.1, zz.2.2.2.2.2.2.2.2.2.2.2.2.2.2.2.2.1, o3.2))) [0, 1, 2, 3, 4, 5, 6, 7, 8, 9, 10, 11, 12, 13, 14, 15] rfl) (hD.sub (ws' := (wMO G za (zz.1, zz.2.1, zz.2.2.1, zz.2.2.2.1, zz.2.2.2.2.1, zz.2.2.2.2.2.1, zz.2.2.2.2.2.2.1, zz.2.2.2.2.2.2.2.1, zz.2.2.2.2.2.2.2.2.1, zz.2.2.2.2.2.2.2.2.2.1, zz.2.2.2.2.2.2.2.2.2.2.1, zz.2.2.2.2.2.2.2.2.2.2.2.1, zz.2.2.2.2.2.2.2.2.2.2.2.2.1, zz.2.2.2.2.2.2.2.2.2.2.2.2.2.1, zz.2.2.2.2.2.2.2.2.2.2.2.2.2.2.1, zz.2.2.2.2.2.2.2.2.2.2.2.2.2.2.2.1, zz.2.2.2.2.2.2.2.2.2.2.2.2.2.2.2.2.1, o3.2))) [0, 1, 2, 3, 4, 5, 6, 7, 8, 9, 10, 11, 12, 13, 14, 15] (by decide) rfl) (ci := 3) rfl rfl) rfl rfl hl.1 rfl (lv_room (Nat.le_of_ble_eq_true rfl)) dX3_lose_38 ⟨Nat.le_of_ble_eq_true rfl, Nat.le_of_ble_eq_true rfl⟩) hP hD hS hA [0, 1, 2, 3, 4, 5, 6, 7, 8, 9, 10, 11, 12, 13, 14, 15] [] [0, 1, 2, 3, 4, 5, 6, 7, 8, 9, 10, 11, 12, 13, 14, 15] rfl rfl (by decide) (by decide) rfl (by decide) (fun H locs hP hD hS => ?_)
      have hP : va_P G.1 vwCl (wMO G za (zz.1, zz.2.1, zz.2.2.1, zz.2.2.2.1, zz.2.2.2.2.1, zz.2.2.2.2.2.1, zz.2.2.2.2.2.2.1, zz.2.2.2.2.2.2.2.1, zz.2.2.2.2.2.2.2.2.1, o5.1, o5.2.1, o5.2.2.1, o5.2.2.2.1, o5.2.2.2.2.1, o5.2.2.2.2.2.1, zz.2.2.2.2.2.2.2.2.2.2.2.2.2.2.2.1, o5.2.2.2.2.2.2, o3.2)) H := hP
      have hD : va_D A (wMO G za (zz.1, zz.2.1, zz.2.2.1, zz.2.2.2.1, zz.2.2.2.2.1, zz.2.2.2.2.2.1, zz.2.2.2.2.2.2.1, zz.2.2.2.2.2.2.2.1, zz.2.2.2.2.2.2.2.2.1, o5.1, o5.2.1, o5.2.2.1, o5.2.2.2.1, o5.2.2.2.2.1, o5.2.2.2.2.2.1, zz.2.2.2.2.2.2.2.2.2.2.2.2.2.2.2.1, o5.2.2.2.2.2.2, o3.2)) := hD
      refine lv_iconst (v := (0 : Int32)) hx hb dX3_lose_41 (by decide) ?_
      refine lv_istore_n (lv' := [(2, .int (0 : Int32)), (0, .ref (za 0)), (1, .int i1)]) hx hb dX3_lose_42 rfl hl (by decide) rfl (fun ls hl => ?_)
      obtain ⟨w7, hw7, h⟩ := sp_b h
      refine xk_jn G A s.heap (wMO G za (zz.1, zz.2.1, zz.2.2.1, zz.2.2.2.1, zz.2.2.2.2.1, zz.2.2.2.2.2.1, zz.2.2.2.2.2.2.1, zz.2.2.2.2.2.2.2.1, zz.2.2.2.2.2.2.2.2.1, o5.1, o5.2.1, o5.2.2.1, o5.2.2.2.1, o5.2.2.2.2.1, o5.2.2.2.2.2.1, w7, o5.2.2.2.2.2.2, o3.2)) 4 [(0, .ref (za 0)), (1, .int i1)] 66 [] (fun H locs hP hD hS ls hl => ?_) (fun J6 => ?_)
      · refine lv_aload_n hx hb dX3_lose_66 rfl (lv_at hl 0 rfl) ?_
        refine va_get (D := G.1) (ci := 3) (v := .ref (za 8)) (C := RX3) (T := TX3) (N := 18) hx hb hts hinX3 hown hK hP 0 rfl rfl 8 (by decide) (hts (.fieldLink RX3 31 "LessonWeaveModel" "isLost" "[Z") (by decide +kernel)) (fun _ h9 => h9) rfl dX3_lose_67 ?_
        refine lv_iload_n hx hb dX3_lose_70 rfl (lv_at hl 1 rfl) ?_
        refine lv_iconst (v := (1 : Int32)) hx hb dX3_lose_71 (by decide) ?_
        obtain ⟨hin11, h⟩ := sp_g h
        refine va_zast hx hb hK hP hD hS 8 1 rfl rfl hin11 dX3_lose_72 (fun H locs hP hD hS => ?_)
        have hP : va_P G.1 vwCl (wMO G za (zz.1, zz.2.1, zz.2.2.1, zz.2.2.2.1, zz.2.2.2.2.1, zz.2.2.2.2.2.1, zz.2.2.2.2.2.2.1, zz.2.2.2.2.2.2.2.1, (upd zz.2.2.2.2.2.2.2.2.1 i1.toNatClampNeg (1 : Int32)), o5.1, o5.2.1, o5.2.2.1, o5.2.2.2.1, o5.2.2.2.2.1, o5.2.2.2.2.2.1, w7, o5.2.2.2.2.2.2, o3.2)) H := hP
        have hD : va_D A (wMO G za (zz.1, zz.2.1, zz.2.2.1, zz.2.2.2.1, zz.2.2.2.2.1, zz.2.2.2.2.2.1, zz.2.2.2.2.2.2.1, zz.2.2.2.2.2.2.2.1, (upd zz.2.2.2.2.2.2.2.2.1 i1.toNatClampNeg (1 : Int32)), o5.1, o5.2.1, o5.2.2.1, o5.2.2.2.1, o5.2.2.2.2.1, o5.2.2.2.2.2.1, w7, o5.2.2.2.2.2.2, o3.2)) := hD
        refine lv_aload_n hx hb dX3_lose_73 rfl (lv_at hl 0 rfl) ?_
        obtain ⟨o12, ho12, h⟩ := sp_b h
        refine xk_cv (va_runV (As := []) (rest := []) ⟨hx, hb, hml, hown, hts⟩ (c_X3_plans l G za (zz.1, zz.2.1, zz.2.2.1, zz.2.2.2.1, zz.2.2.2.2.1, zz.2.2.2.2.2.1, zz.2.2.2.2.2.2.1, zz.2.2.2.2.2.2.2.1, (upd zz.2.2.2.2.2.2.2.2.1 i1.toNatClampNeg (1 : Int32)), o5.1, o5.2.1, o5.2.2.1, o5.2.2.2.1, o5.2.2.2.2.1, o5.2.2.2.2.2.1, w7, o5.2.2.2.2.2.2, o3.2) o12 ho12 H.size) (cwV 0 hts gX3_lose_X3_plans rfl rfl rfl (by decide +kernel) ⟨Nat.le_of_ble_eq_true rfl, Nat.le_of_ble_eq_true rfl⟩) (xk_preV hK hNE (hP.sub (ws' := (wMO G za (zz.1, zz.2.1, zz.2.2.1, zz.2.2.2.1, zz.2.2.2.2.1, zz.2.2.2.2.2.1, zz.2.2.2.2.2.2.1, zz.2.2.2.2.2.2.2.1, (upd zz.2.2.2.2.2.2.2.2.1 i1.toNatClampNeg (1 : Int32)), o5.1, o5.2.1, o5.2.2.1, o5.2.2.2.1, o5.2.2.2.2.1, o5.2.2.2.2.2.1, w7, o5.2.2.2.2.2.2, o3.2))) [0, 1, 2, 3, 4, 5, 6, 7, 8, 9, 10, 11, 12, 13, 14, 15] rfl) (hD.sub (ws' := (wMO G za (zz.1, zz.2.1, zz.2.2.1, zz.2.2.2.1, zz.2.2.2.2.1, zz.2.2.2.2.2.1, zz.2.2.2.2.2.2.1, zz.2.2.2.2.2.2.2.1, (upd zz.2.2.2.2.2.2.2.2.1 i1.toNatClampNeg (1 : Int32)), o5.1, o5.2.1, o5.2.2.1, o5.2.2.2.1, o5.2.2.2.2.1, o5.2.2.2.2.2.1, w7, o5.2.2.2.2.2.2, o3.2))) [0, 1, 2, 3, 4, 5, 6, 7, 8, 9, 10, 11, 12, 13, 14, 15] (by decide) rfl) (ci := 3) rfl rfl) rfl rfl hl.1 rfl (lv_room (Nat.le_of_ble_eq_true rfl)) dX3_lose_74 ⟨Nat.le_of_ble_eq_true rfl, Nat.le_of_ble_eq_true rfl⟩) hP hD hS hA [0, 1, 2, 3, 4, 5, 6, 7, 8, 9, 10, 11, 12, 13, 14, 15] [] [0, 1, 2, 3, 4, 5, 6, 7, 8, 9, 10, 11, 12, 13, 14, 15] rfl rfl (by decide) (by decide) rfl (by decide) (fun H locs hP hD hS => ?_)
        have hP : va_P G.1 vwCl (wMO G za (zz.1, zz.2.1, zz.2.2.1, zz.2.2.2.1, zz.2.2.2.2.1, zz.2.2.2.2.2.1, zz.2.2.2.2.2.2.1, zz.2.2.2.2.2.2.2.1, (upd zz.2.2.2.2.2.2.2.2.1 i1.toNatClampNeg (1 : Int32)), o12.1, o12.2.1, o12.2.2.1, o12.2.2.2.1, o12.2.2.2.2.1, o12.2.2.2.2.2.1, w7, o12.2.2.2.2.2.2, o3.2)) H := hP
        have hD : va_D A (wMO G za (zz.1, zz.2.1, zz.2.2.1, zz.2.2.2.1, zz.2.2.2.2.1, zz.2.2.2.2.2.1, zz.2.2.2.2.2.2.1, zz.2.2.2.2.2.2.2.1, (upd zz.2.2.2.2.2.2.2.2.1 i1.toNatClampNeg (1 : Int32)), o12.1, o12.2.1, o12.2.2.1, o12.2.2.2.1, o12.2.2.2.2.1, o12.2.2.2.2.2.1, w7, o12.2.2.2.2.2.2, o3.2)) := hD
        refine lv_iconst (v := (0 : Int32)) hx hb dX3_lose_77 (by decide) ?_
        refine lv_istore_n (lv' := [(2, .int (0 : Int32)), (0, .ref (za 0)), (1, .int i1)]) hx hb dX3_lose_78 rfl hl (by decide) rfl (fun ls hl => ?_)
        refine lv_iconst (v := (0 : Int32)) hx hb dX3_lose_79 (by decide) ?_
        refine lv_istore_n (lv' := [(3, .int (0 : Int32)), (2, .int (0 : Int32)), (0, .ref (za 0)), (1, .int i1)]) hx hb dX3_lose_80 rfl hl (by decide) rfl (fun ls hl => ?_)
        obtain ⟨w14, hw14, h⟩ := sp_b h
        refine xk_jn G A s.heap (wMO G za (zz.1, zz.2.1, zz.2.2.1, zz.2.2.2.1, zz.2.2.2.2.1, zz.2.2.2.2.2.1, zz.2.2.2.2.2.2.1, zz.2.2.2.2.2.2.2.1, (upd zz.2.2.2.2.2.2.2.2.1 i1.toNatClampNeg (1 : Int32)), o12.1, o12.2.1, o12.2.2.1, o12.2.2.2.1, o12.2.2.2.2.1, o12.2.2.2.2.2.1, w7, o12.2.2.2.2.2.2, o3.2)) 4 [(2, .int w14)] 125 [] (fun H locs hP hD hS ls hl => ?_) (fun J13 => ?_)
        · refine lv_iload_n hx hb dX3_lose_125 rfl (lv_at hl 0 rfl) ?_
          obtain rfl := sp_s h
          exact xk_reI hx hb hr hlk hP hD hS rfl dX3_lose_126
        · have h := hw14
          clear hw14
          refine xk_lp (α := Int32 × Int32) G A s.heap (fun a_13 => (wMO G za (zz.1, zz.2.1, zz.2.2.1, zz.2.2.2.1, zz.2.2.2.2.1, zz.2.2.2.2.2.1, zz.2.2.2.2.2.2.1, zz.2.2.2.2.2.2.2.1, (upd zz.2.2.2.2.2.2.2.2.1 i1.toNatClampNeg (1 : Int32)), o12.1, o12.2.1, o12.2.2.1, o12.2.2.2.1, o12.2.2.2.2.1, o12.2.2.2.2.2.1, w7, o12.2.2.2.2.2.2, o3.2))) 4 (fun a_13 => [(3, .int a_13.1), (2, .int a_13.2), (0, .ref (za 0))]) 81 (fun n a_13 => f_X3_lose_l81 zz i1 o3 w7 o12 n a_13.1 a_13.2 = some w14) (fun a_13 h => ?_) (fun n ih_13 a_13 h H locs hP hD hS ls hl => ?_) (fun LL => ?_)
          · exact sp_n ((f_X3_lose_l81_z _ _ _ _ _ _ _).symm.trans h)
          · obtain ⟨x3_13, x2_13⟩ := a_13
            have h := (f_X3_lose_l81_s zz i1 o3 w7 o12 n x3_13 x2_13).symm.trans h
            have hP : va_P G.1 vwCl (wMO G za (zz.1, zz.2.1, zz.2.2.1, zz.2.2.2.1, zz.2.2.2.2.1, zz.2.2.2.2.2.1, zz.2.2.2.2.2.2.1, zz.2.2.2.2.2.2.2.1, (upd zz.2.2.2.2.2.2.2.2.1 i1.toNatClampNeg (1 : Int32)), o12.1, o12.2.1, o12.2.2.1, o12.2.2.2.1, o12.2.2.2.2.1, o12.2.2.2.2.2.1, w7, o12.2.2.2.2.2.2, o3.2)) H := hP
            have hD : va_D A (wMO G za (zz.1, zz.2.1, zz.2.2.1, zz.2.2.2.1, zz.2.2.2.2.1, zz.2.2.2.2.2.1, zz.2.2.2.2.2.2.1, zz.2.2.2.2.2.2.2.1, (upd zz.2.2.2.2.2.2.2.2.1 i1.toNatClampNeg (1 : Int32)), o12.1, o12.2.1, o12.2.2.1, o12.2.2.2.1, o12.2.2.2.2.1, o12.2.2.2.2.2.1, w7, o12.2.2.2.2.2.2, o3.2)) := hD
            have hl : lv_has ls 4 [(3, .int x3_13), (2, .int x2_13), (0, .ref (za 0))] := hl
            refine lv_iload_n hx hb dX3_lose_81 rfl (lv_at hl 0 rfl) ?_
            refine lv_bipush (v := (96 : Int32)) hx hb dX3_lose_82 (by decide) ?_
            refine lv_icmp_ge (tgt := 125) hx hb dX3_lose_84 (by decide) (fun c15 => ?_) (fun c15 => ?_)
            · have h := sp_t c15 h
              obtain rfl := sp_s h
              exact J13 _ _ hP hD hS _ (lv_sub hl [1] rfl)
            · have h := sp_f c15 h
              refine lv_iload_n hx hb dX3_lose_87 rfl (lv_at hl 1 rfl) ?_
              refine lv_aload_n hx hb dX3_lose_88 rfl (lv_at hl 2 rfl) ?_
              refine va_get (D := G.1) (ci := 3) (v := .ref (za 15)) (C := RX3) (T := TX3) (N := 18) hx hb hts hinX3 hown hK hP 0 rfl rfl 15 (by decide) (hts (.fieldLink RX3 53 "LessonWeaveModel" "before" "[I") (by decide +kernel)) (fun _ h9 => h9) rfl dX3_lose_89 ?_
              refine lv_iload_n hx hb dX3_lose_92 rfl (lv_at hl 0 rfl) ?_
              obtain ⟨hin16, h⟩ := sp_g h
              refine va_iald hx hb hK hP 15 0 rfl rfl hin16 dX3_lose_93 ?_
              refine lv_iconst (v := ((-1) : Int32)) hx hb dX3_lose_94 (by decide) ?_
              obtain ⟨v17, hv17, h⟩ := sp_b h
              refine xk_jn G A s.heap (wMO G za (zz.1, zz.2.1, zz.2.2.1, zz.2.2.2.1, zz.2.2.2.2.1, zz.2.2.2.2.2.1, zz.2.2.2.2.2.2.1, zz.2.2.2.2.2.2.2.1, (upd zz.2.2.2.2.2.2.2.2.1 i1.toNatClampNeg (1 : Int32)), o12.1, o12.2.1, o12.2.2.1, o12.2.2.2.1, o12.2.2.2.2.1, o12.2.2.2.2.2.1, w7, o12.2.2.2.2.2.2, o3.2)) 4 [(3, .int x3_13), (0, .ref (za 0))] 117 [.int v17, .int x2_13] (fun H locs hP hD hS ls hl => ?_) (fun J17 => ?_)
              · refine lv_iadd hx hb dX3_lose_117 ?_
                refine lv_istore_n (lv' := [(2, .int (x2_13 + v17)), (3, .int x3_13), (0, .ref (za 0))]) hx hb dX3_lose_118 rfl hl (by decide) rfl (fun ls hl => ?_)
                refine lv_iinc (v := (x3_13 + (1 : Int32))) (lv' := [(3, .int (x3_13 + (1 : Int32))), (2, .int (x2_13 + v17)), (0, .ref (za 0))]) hx hb dX3_lose_119 hl (k := 1) rfl rfl (by decide) rfl (fun ls hl => ?_)
                refine lv_goto (tgt := 81) hx hb dX3_lose_122 (by decide) ?_
                exact ih_13 ((x3_13 + (1 : Int32)), (x2_13 + v17)) h _ _ hP hD hS _ (lv_sub hl [0, 1, 2] rfl)
              · have h := hv17
                clear hv17
                refine lv_icmp_eq (tgt := 116) hx hb dX3_lose_95 (by decide) (fun c18 => ?_) (fun c18 => ?_)
                · have h := sp_t c18 h
                  refine lv_iconst (v := (0 : Int32)) hx hb dX3_lose_116 (by decide) ?_
                  obtain rfl := sp_s h
                  exact J17 _ _ hP hD hS _ (lv_sub hl [0, 2] rfl)
                · have h := sp_f c18 h
                  refine lv_aload_n hx hb dX3_lose_98 rfl (lv_at hl 2 rfl) ?_
                  refine va_get (D := G.1) (ci := 3) (v := .ref (za 15)) (C := RX3) (T := TX3) (N := 18) hx hb hts hinX3 hown hK hP 0 rfl rfl 15 (by decide) (hts (.fieldLink RX3 53 "LessonWeaveModel" "before" "[I") (by decide +kernel)) (fun _ h9 => h9) rfl dX3_lose_99 ?_
                  refine lv_iload_n hx hb dX3_lose_102 rfl (lv_at hl 0 rfl) ?_
                  refine va_iald hx hb hK hP 15 0 rfl rfl hin16 dX3_lose_103 ?_
                  refine lv_aload_n hx hb dX3_lose_104 rfl (lv_at hl 2 rfl) ?_
                  refine lv_iload_n hx hb dX3_lose_105 rfl (lv_at hl 0 rfl) ?_
                  obtain ⟨o19, ho19, h⟩ := sp_b h
                  refine xk_ci (va_runV (As := [.int x3_13]) (rest := [.int (w7 x3_13.toNatClampNeg), .int x2_13]) ⟨hx, hb, hml, hown, hts⟩ (c_X3_dayOf l G za (zz.1, zz.2.1, zz.2.2.1, zz.2.2.2.1, zz.2.2.2.2.1, zz.2.2.2.2.2.1, zz.2.2.2.2.2.2.1, zz.2.2.2.2.2.2.2.1, (upd zz.2.2.2.2.2.2.2.2.1 i1.toNatClampNeg (1 : Int32)), o12.1, o12.2.1, o12.2.2.1, o12.2.2.2.1, o12.2.2.2.2.1, o12.2.2.2.2.2.1, w7, o12.2.2.2.2.2.2, o3.2) x3_13 o19 ho19 H.size) (cwV 1 hts gX3_lose_X3_dayOf rfl rfl rfl (by decide +kernel) ⟨Nat.le_of_ble_eq_true rfl, Nat.le_of_ble_eq_true rfl⟩) (xk_preV hK hNE (hP.sub (ws' := (wMO G za (zz.1, zz.2.1, zz.2.2.1, zz.2.2.2.1, zz.2.2.2.2.1, zz.2.2.2.2.2.1, zz.2.2.2.2.2.2.1, zz.2.2.2.2.2.2.2.1, (upd zz.2.2.2.2.2.2.2.2.1 i1.toNatClampNeg (1 : Int32)), o12.1, o12.2.1, o12.2.2.1, o12.2.2.2.1, o12.2.2.2.2.1, o12.2.2.2.2.2.1, w7, o12.2.2.2.2.2.2, o3.2))) [0, 1, 2, 3, 4, 5, 6, 7, 8, 9, 10, 11, 12, 13, 14, 15] rfl) (hD.sub (ws' := (wMO G za (zz.1, zz.2.1, zz.2.2.1, zz.2.2.2.1, zz.2.2.2.2.1, zz.2.2.2.2.2.1, zz.2.2.2.2.2.2.1, zz.2.2.2.2.2.2.2.1, (upd zz.2.2.2.2.2.2.2.2.1 i1.toNatClampNeg (1 : Int32)), o12.1, o12.2.1, o12.2.2.1, o12.2.2.2.1, o12.2.2.2.2.1, o12.2.2.2.2.2.1, w7, o12.2.2.2.2.2.2, o3.2))) [0, 1, 2, 3, 4, 5, 6, 7, 8, 9, 10, 11, 12, 13, 14, 15] (by decide) rfl) (ci := 3) rfl rfl) rfl rfl hl.1 rfl (lv_room (Nat.le_of_ble_eq_true rfl)) dX3_lose_106 ⟨Nat.le_of_ble_eq_true rfl, Nat.le_of_ble_eq_true rfl⟩) hP hD hS hA [0, 1, 2, 3, 4, 5, 6, 7, 8, 9, 10, 11, 12, 13, 14, 15] [] [0, 1, 2, 3, 4, 5, 6, 7, 8, 9, 10, 11, 12, 13, 14, 15] rfl rfl (by decide) (by decide) rfl (by decide) (fun H locs hP hD hS => ?_)
                  have hP : va_P G.1 vwCl (wMO G za (zz.1, zz.2.1, zz.2.2.1, zz.2.2.2.1, zz.2.2.2.2.1, zz.2.2.2.2.2.1, zz.2.2.2.2.2.2.1, zz.2.2.2.2.2.2.2.1, (upd zz.2.2.2.2.2.2.2.2.1 i1.toNatClampNeg (1 : Int32)), o12.1, o12.2.1, o12.2.2.1, o12.2.2.2.1, o12.2.2.2.2.1, o12.2.2.2.2.2.1, w7, o12.2.2.2.2.2.2, o3.2)) H := hP
                  have hD : va_D A (wMO G za (zz.1, zz.2.1, zz.2.2.1, zz.2.2.2.1, zz.2.2.2.2.1, zz.2.2.2.2.2.1, zz.2.2.2.2.2.2.1, zz.2.2.2.2.2.2.2.1, (upd zz.2.2.2.2.2.2.2.2.1 i1.toNatClampNeg (1 : Int32)), o12.1, o12.2.1, o12.2.2.1, o12.2.2.2.1, o12.2.2.2.2.1, o12.2.2.2.2.2.1, w7, o12.2.2.2.2.2.2, o3.2)) := hD
                  refine lv_icmp_eq (tgt := 116) hx hb dX3_lose_109 (by decide) (fun c20 => ?_) (fun c20 => ?_)
                  · have h := sp_t c20 h
                    refine lv_iconst (v := (0 : Int32)) hx hb dX3_lose_116 (by decide) ?_
                    obtain rfl := sp_s h
                    exact J17 _ _ hP hD hS _ (lv_sub hl [0, 2] rfl)
                  · have h := sp_f c20 h
                    refine lv_iconst (v := (1 : Int32)) hx hb dX3_lose_112 (by decide) ?_
                    refine lv_goto (tgt := 117) hx hb dX3_lose_113 (by decide) ?_
                    obtain rfl := sp_s h
                    exact J17 _ _ hP hD hS _ (lv_sub hl [0, 2] rfl)
          · exact LL 300 ((0 : Int32), (0 : Int32)) h _ _ hP hD hS _ (lv_sub hl [0, 1, 2] rfl)
      · have h := hw7
        clear hw7
        refine xk_lp (α := Int32 × xF) G A s.heap (fun a_6 => (wMO G za (zz.1, zz.2.1, zz.2.2.1, zz.2.2.2.1, zz.2.2.2.2.1, zz.2.2.2.2.2.1, zz.2.2.2.2.2.2.1, zz.2.2.2.2.2.2.2.1, zz.2.2.2.2.2.2.2.2.1, o5.1, o5.2.1, o5.2.2.1, o5.2.2.2.1, o5.2.2.2.2.1, o5.2.2.2.2.2.1, a_6.2, o5.2.2.2.2.2.2, o3.2))) 4 (fun a_6 => [(2, .int a_6.1), (0, .ref (za 0)), (1, .int i1)]) 43 (fun n a_6 => f_X3_lose_l43 zz o3 o5 n a_6.1 a_6.2 = some w7) (fun a_6 h => ?_) (fun n ih_6 a_6 h H locs hP hD hS ls hl => ?_) (fun LL => ?_)
        · exact sp_n ((f_X3_lose_l43_z _ _ _ _ _).symm.trans h)
        · obtain ⟨x2_6, zz15_6⟩ := a_6
          have h := (f_X3_lose_l43_s zz o3 o5 n x2_6 zz15_6).symm.trans h
          have hP : va_P G.1 vwCl (wMO G za (zz.1, zz.2.1, zz.2.2.1, zz.2.2.2.1, zz.2.2.2.2.1, zz.2.2.2.2.2.1, zz.2.2.2.2.2.2.1, zz.2.2.2.2.2.2.2.1, zz.2.2.2.2.2.2.2.2.1, o5.1, o5.2.1, o5.2.2.1, o5.2.2.2.1, o5.2.2.2.2.1, o5.2.2.2.2.2.1, zz15_6, o5.2.2.2.2.2.2, o3.2)) H := hP
          have hD : va_D A (wMO G za (zz.1, zz.2.1, zz.2.2.1, zz.2.2.2.1, zz.2.2.2.2.1, zz.2.2.2.2.2.1, zz.2.2.2.2.2.2.1, zz.2.2.2.2.2.2.2.1, zz.2.2.2.2.2.2.2.2.1, o5.1, o5.2.1, o5.2.2.1, o5.2.2.2.1, o5.2.2.2.2.1, o5.2.2.2.2.2.1, zz15_6, o5.2.2.2.2.2.2, o3.2)) := hD
          have hl : lv_has ls 4 [(2, .int x2_6), (0, .ref (za 0)), (1, .int i1)] := hl
          refine lv_iload_n hx hb dX3_lose_43 rfl (lv_at hl 0 rfl) ?_
          refine lv_bipush (v := (96 : Int32)) hx hb dX3_lose_44 (by decide) ?_
          refine lv_icmp_ge (tgt := 66) hx hb dX3_lose_46 (by decide) (fun c8 => ?_) (fun c8 => ?_)
          · have h := sp_t c8 h
            obtain rfl := sp_s h
            exact J6 _ _ hP hD hS _ (lv_sub hl [1, 2] rfl)
          · have h := sp_f c8 h
            refine lv_aload_n hx hb dX3_lose_49 rfl (lv_at hl 1 rfl) ?_
            refine va_get (D := G.1) (ci := 3) (v := .ref (za 15)) (C := RX3) (T := TX3) (N := 18) hx hb hts hinX3 hown hK hP 0 rfl rfl 15 (by decide) (hts (.fieldLink RX3 53 "LessonWeaveModel" "before" "[I") (by decide +kernel)) (fun _ h9 => h9) rfl dX3_lose_50 ?_
            refine lv_iload_n hx hb dX3_lose_53 rfl (lv_at hl 0 rfl) ?_
            refine lv_aload_n hx hb dX3_lose_54 rfl (lv_at hl 1 rfl) ?_
            refine lv_iload_n hx hb dX3_lose_55 rfl (lv_at hl 0 rfl) ?_
            obtain ⟨o9, ho9, h⟩ := sp_b h
            refine xk_ci (va_runV (As := [.int x2_6]) (rest := [.int x2_6, .ref (za 15)]) ⟨hx, hb, hml, hown, hts⟩ (c_X3_dayOf l G za (zz.1, zz.2.1, zz.2.2.1, zz.2.2.2.1, zz.2.2.2.2.1, zz.2.2.2.2.2.1, zz.2.2.2.2.2.2.1, zz.2.2.2.2.2.2.2.1, zz.2.2.2.2.2.2.2.2.1, o5.1, o5.2.1, o5.2.2.1, o5.2.2.2.1, o5.2.2.2.2.1, o5.2.2.2.2.2.1, zz15_6, o5.2.2.2.2.2.2, o3.2) x2_6 o9 ho9 H.size) (cwV 1 hts gX3_lose_X3_dayOf rfl rfl rfl (by decide +kernel) ⟨Nat.le_of_ble_eq_true rfl, Nat.le_of_ble_eq_true rfl⟩) (xk_preV hK hNE (hP.sub (ws' := (wMO G za (zz.1, zz.2.1, zz.2.2.1, zz.2.2.2.1, zz.2.2.2.2.1, zz.2.2.2.2.2.1, zz.2.2.2.2.2.2.1, zz.2.2.2.2.2.2.2.1, zz.2.2.2.2.2.2.2.2.1, o5.1, o5.2.1, o5.2.2.1, o5.2.2.2.1, o5.2.2.2.2.1, o5.2.2.2.2.2.1, zz15_6, o5.2.2.2.2.2.2, o3.2))) [0, 1, 2, 3, 4, 5, 6, 7, 8, 9, 10, 11, 12, 13, 14, 15] rfl) (hD.sub (ws' := (wMO G za (zz.1, zz.2.1, zz.2.2.1, zz.2.2.2.1, zz.2.2.2.2.1, zz.2.2.2.2.2.1, zz.2.2.2.2.2.2.1, zz.2.2.2.2.2.2.2.1, zz.2.2.2.2.2.2.2.2.1, o5.1, o5.2.1, o5.2.2.1, o5.2.2.2.1, o5.2.2.2.2.1, o5.2.2.2.2.2.1, zz15_6, o5.2.2.2.2.2.2, o3.2))) [0, 1, 2, 3, 4, 5, 6, 7, 8, 9, 10, 11, 12, 13, 14, 15] (by decide) rfl) (ci := 3) rfl rfl) rfl rfl hl.1 rfl (lv_room (Nat.le_of_ble_eq_true rfl)) dX3_lose_56 ⟨Nat.le_of_ble_eq_true rfl, Nat.le_of_ble_eq_true rfl⟩) hP hD hS hA [0, 1, 2, 3, 4, 5, 6, 7, 8, 9, 10, 11, 12, 13, 14, 15] [] [0, 1, 2, 3, 4, 5, 6, 7, 8, 9, 10, 11, 12, 13, 14, 15] rfl rfl (by decide) (by decide) rfl (by decide) (fun H locs hP hD hS => ?_)
            have hP : va_P G.1 vwCl (wMO G za (zz.1, zz.2.1, zz.2.2.1, zz.2.2.2.1, zz.2.2.2.2.1, zz.2.2.2.2.2.1, zz.2.2.2.2.2.2.1, zz.2.2.2.2.2.2.2.1, zz.2.2.2.2.2.2.2.2.1, o5.1, o5.2.1, o5.2.2.1, o5.2.2.2.1, o5.2.2.2.2.1, o5.2.2.2.2.2.1, zz15_6, o5.2.2.2.2.2.2, o3.2)) H := hP
            have hD : va_D A (wMO G za (zz.1, zz.2.1, zz.2.2.1, zz.2.2.2.1, zz.2.2.2.2.1, zz.2.2.2.2.2.1, zz.2.2.2.2.2.2.1, zz.2.2.2.2.2.2.2.1, zz.2.2.2.2.2.2.2.2.1, o5.1, o5.2.1, o5.2.2.1, o5.2.2.2.1, o5.2.2.2.2.1, o5.2.2.2.2.2.1, zz15_6, o5.2.2.2.2.2.2, o3.2)) := hD
            obtain ⟨hin10, h⟩ := sp_g h
            refine va_iast hx hb hK hP hD hS 15 0 rfl rfl hin10 dX3_lose_59 (fun H locs hP hD hS => ?_)
            have hP : va_P G.1 vwCl (wMO G za (zz.1, zz.2.1, zz.2.2.1, zz.2.2.2.1, zz.2.2.2.2.1, zz.2.2.2.2.2.1, zz.2.2.2.2.2.2.1, zz.2.2.2.2.2.2.2.1, zz.2.2.2.2.2.2.2.2.1, o5.1, o5.2.1, o5.2.2.1, o5.2.2.2.1, o5.2.2.2.2.1, o5.2.2.2.2.2.1, (upd zz15_6 x2_6.toNatClampNeg o9), o5.2.2.2.2.2.2, o3.2)) H := hP
            have hD : va_D A (wMO G za (zz.1, zz.2.1, zz.2.2.1, zz.2.2.2.1, zz.2.2.2.2.1, zz.2.2.2.2.2.1, zz.2.2.2.2.2.2.1, zz.2.2.2.2.2.2.2.1, zz.2.2.2.2.2.2.2.2.1, o5.1, o5.2.1, o5.2.2.1, o5.2.2.2.1, o5.2.2.2.2.1, o5.2.2.2.2.2.1, (upd zz15_6 x2_6.toNatClampNeg o9), o5.2.2.2.2.2.2, o3.2)) := hD
            refine lv_iinc (v := (x2_6 + (1 : Int32))) (lv' := [(2, .int (x2_6 + (1 : Int32))), (0, .ref (za 0)), (1, .int i1)]) hx hb dX3_lose_60 hl (k := 0) rfl rfl (by decide) rfl (fun ls hl => ?_)
            refine lv_goto (tgt := 43) hx hb dX3_lose_63 (by decide) ?_
            exact ih_6 ((x2_6 + (1 : Int32)), (upd zz15_6 x2_6.toNatClampNeg o9)) h _ _ hP hD hS _ (lv_sub hl [0, 1, 2] rfl)
        · exact LL 300 ((0 : Int32), zz.2.2.2.2.2.2.2.2.2.2.2.2.2.2.2.1) h _ _ hP hD hS _ (lv_sub hl [0, 1, 2] rfl)
    · have h := sp_t c4 h
      refine lv_iconst (v := (0 : Int32)) hx hb dX3_lose_35 (by decide) ?_
      obtain rfl := sp_s h
      exact xk_reI hx hb hr hlk hP hD hS rfl dX3_lose_36
  · have h := hv2
    clear hv2
    refine lv_if_ne (tgt := 15) hx hb dX3_lose_8 (by decide) (fun c21 => ?_) (fun c21 => ?_)
    · have h := sp_f c21 h
      refine lv_aload_n hx hb dX3_lose_15 rfl (lv_at hl 0 rfl) ?_
      refine va_get (D := G.1) (ci := 3) (v := .ref (za 8)) (C := RX3) (T := TX3) (N := 18) hx hb hts hinX3 hown hK hP 0 rfl rfl 8 (by decide) (hts (.fieldLink RX3 31 "LessonWeaveModel" "isLost" "[Z") (by decide +kernel)) (fun _ h9 => h9) rfl dX3_lose_16 ?_
      refine lv_iload_n hx hb dX3_lose_19 rfl (lv_at hl 1 rfl) ?_
      obtain ⟨hin22, h⟩ := sp_g h
      refine va_zald hx hb hK hP 8 1 rfl rfl hin22 dX3_lose_20 ?_
      refine lv_if_eq (tgt := 28) hx hb dX3_lose_21 (by decide) (fun c23 => ?_) (fun c23 => ?_)
      · have h := sp_t c23 h
        refine lv_iconst (v := (0 : Int32)) hx hb dX3_lose_28 (by decide) ?_
        obtain rfl := sp_s h
        exact J2 _ _ hP hD hS _ (lv_sub hl [0, 1] rfl)
      · have h := sp_f c23 h
        refine lv_iconst (v := (2 : Int32)) hx hb dX3_lose_24 (by decide) ?_
        refine lv_goto (tgt := 29) hx hb dX3_lose_25 (by decide) ?_
        obtain rfl := sp_s h
        exact J2 _ _ hP hD hS _ (lv_sub hl [0, 1] rfl)
    · have h := sp_t c21 h
      refine lv_iconst (v := (1 : Int32)) hx hb dX3_lose_11 (by decide) ?_
      refine lv_goto (tgt := 29) hx hb dX3_lose_12 (by decide) ?_
      obtain rfl := sp_s h
      exact J2 _ _ hP hD hS _ (lv_sub hl [0, 1] rfl)
def f_X3_on (zz : xMO) (i1 : Int32) : Option (Int32 × xF × xF × xF × xF × xF × xF × Int32 × Int32) :=
  Option.bind (f_X3_isIn i1 (0 : Int32) (99 : Int32)) fun (o1 : Int32) =>
  Option.bind (
    if o1 = 0 then
      some (1 : Int32)
    else
      some (0 : Int32)) fun (v2 : Int32) =>
  Option.bind (f_X3_can zz v2) fun (o3 : Int32 × Int32) =>
  if o3.1 = 0 then
    some ((0 : Int32), zz.2.2.2.2.2.2.2.2.2.1, zz.2.2.2.2.2.2.2.2.2.2.1, zz.2.2.2.2.2.2.2.2.2.2.2.1, zz.2.2.2.2.2.2.2.2.2.2.2.2.1, zz.2.2.2.2.2.2.2.2.2.2.2.2.2.1, zz.2.2.2.2.2.2.2.2.2.2.2.2.2.2.1, zz.2.2.2.2.2.2.2.2.2.2.2.2.2.2.2.2.1, o3.2)
  else
    Option.bind (f_X3_plans (zz.1, zz.2.1, zz.2.2.1, zz.2.2.2.1, zz.2.2.2.2.1, zz.2.2.2.2.2.1, zz.2.2.2.2.2.2.1, zz.2.2.2.2.2.2.2.1, zz.2.2.2.2.2.2.2.2.1, zz.2.2.2.2.2.2.2.2.2.1, zz.2.2.2.2.2.2.2.2.2.2.1, zz.2.2.2.2.2.2.2.2.2.2.2.1, zz.2.2.2.2.2.2.2.2.2.2.2.2.1, zz.2.2.2.2.2.2.2.2.2.2.2.2.2.1, zz.2.2.2.2.2.2.2.2.2.2.2.2.2.2.1, zz.2.2.2.2.2.2.2.2.2.2.2.2.2.2.2.1, zz.2.2.2.2.2.2.2.2.2.2.2.2.2.2.2.2.1, o3.2)) fun (o5 : xF × xF × xF × xF × xF × xF × Int32) =>
    if i1 < 0 ∨ 100 ≤ i1.toNatClampNeg then none else
    some ((o5.2.1 i1.toNatClampNeg), o5.1, o5.2.1, o5.2.2.1, o5.2.2.2.1, o5.2.2.2.2.1, o5.2.2.2.2.2.1, o5.2.2.2.2.2.2, o3.2)
theorem f_X3_on_e (zz : xMO) (i1 : Int32) : f_X3_on zz i1 =
  Option.bind (f_X3_isIn i1 (0 : Int32) (99 : Int32)) fun (o1 : Int32) =>
  Option.bind (
    if o1 = 0 then
      some (1 : Int32)
    else
      some (0 : Int32)) fun (v2 : Int32) =>
  Option.bind (f_X3_can zz v2) fun (o3 : Int32 × Int32) =>
  if o3.1 = 0 then
    some ((0 : Int32), zz.2.2.2.2.2.2.2.2.2.1, zz.2.2.2.2.2.2.2.2.2.2.1, zz.2.2.2.2.2.2.2.2.2.2.2.1, zz.2.2.2.2.2.2.2.2.2.2.2.2.1, zz.2.2.2.2.2.2.2.2.2.2.2.2.2.1, zz.2.2.2.2.2.2.2.2.2.2.2.2.2.2.1, zz.2.2.2.2.2.2.2.2.2.2.2.2.2.2.2.2.1, o3.2)
  else
    Option.bind (f_X3_plans (zz.1, zz.2.1, zz.2.2.1, zz.2.2.2.1, zz.2.2.2.2.1, zz.2.2.2.2.2.1, zz.2.2.2.2.2.2.1, zz.2.2.2.2.2.2.2.1, zz.2.2.2.2.2.2.2.2.1, zz.2.2.2.2.2.2.2.2.2.1, zz.2.2.2.2.2.2.2.2.2.2.1, zz.2.2.2.2.2.2.2.2.2.2.2.1, zz.2.2.2.2.2.2.2.2.2.2.2.2.1, zz.2.2.2.2.2.2.2.2.2.2.2.2.2.1, zz.2.2.2.2.2.2.2.2.2.2.2.2.2.2.1, zz.2.2.2.2.2.2.2.2.2.2.2.2.2.2.2.1, zz.2.2.2.2.2.2.2.2.2.2.2.2.2.2.2.2.1, o3.2)) fun (o5 : xF × xF × xF × xF × xF × xF × Int32) =>
    if i1 < 0 ∨ 100 ≤ i1.toNatClampNeg then none else
    some ((o5.2.1 i1.toNatClampNeg), o5.1, o5.2.1, o5.2.2.1, o5.2.2.2.1, o5.2.2.2.2.1, o5.2.2.2.2.2.1, o5.2.2.2.2.2.2, o3.2) := rfl
set_option maxHeartbeats 4000000 in
set_option maxRecDepth 100000 in
theorem c_X3_on (l : Launch) (G : xG) (za : (Nat → Nat)) (zz : xMO) (i1 : Int32) (o : Int32 × xF × xF × xF × xF × xF × xF × Int32 × Int32) (h : f_X3_on zz i1 = some o) : xk_CI l yX3_on wsX3_on ({ frames := 4, cells := 0, slots := 0, locals := 90 } : Room) 0 0 [.ref (za 0), .int i1] G (wMO G za zz) (wMO G za (zz.1, zz.2.1, zz.2.2.1, zz.2.2.2.1, zz.2.2.2.2.1, zz.2.2.2.2.2.1, zz.2.2.2.2.2.2.1, zz.2.2.2.2.2.2.2.1, zz.2.2.2.2.2.2.2.2.1, o.2.1, o.2.2.1, o.2.2.2.1, o.2.2.2.2.1, o.2.2.2.2.2.1, o.2.2.2.2.2.2.1, zz.2.2.2.2.2.2.2.2.2.2.2.2.2.2.2.1, o.2.2.2.2.2.2.2.1, o.2.2.2.2.2.2.2.2)) o.1 := by
  refine xk_CI.of (cc := cX3_on) (maxL := 2) (ret := (some .int)) (by decide) rfl (Nat.le_of_ble_eq_true rfl) ?_
  intro pr9 en9 s mm9 bl9 meth9 cd9 A ls H locs hx hb hr hml hts hown hlk hA hP hK hD hNE hS hl
  have hown : s.vm.findClass RX3 = some mm9.cls := hown
  have hl : lv_has ls 2 [(0, .ref (za 0)), (1, .int i1)] := hl
  have hinX3 : ∀ w ∈ u_ws RX3 TX3 18, w ∈ wsX3_on := by decide +kernel
  have h := (f_X3_on_e zz i1).symm.trans h
  refine lv_aload_n hx hb dX3_on_0 rfl (lv_at hl 0 rfl) ?_
  refine lv_iload_n hx hb dX3_on_1 rfl (lv_at hl 1 rfl) ?_
  refine lv_iconst (v := (0 : Int32)) hx hb dX3_on_2 (by decide) ?_
  refine lv_bipush (v := (99 : Int32)) hx hb dX3_on_3 (by decide) ?_
  obtain ⟨o1, ho1, h⟩ := sp_b h
  refine xk_ci (va_runS (As := [.int i1, .int (0 : Int32), .int (99 : Int32)]) (rest := [.ref (za 0)]) ⟨hx, hb, hml, hown, hts⟩ (c_X3_isIn l G i1 (0 : Int32) (99 : Int32) o1 ho1 H.size) (va_cwS 3 hts gX3_on_X3_isIn rfl rfl rfl (by decide +kernel) ⟨Nat.le_of_ble_eq_true rfl, Nat.le_of_ble_eq_true rfl⟩) (xk_preS hK hNE (hP.sub (ws' := []) [] rfl) (hD.sub (ws' := []) [] (by decide) rfl)) rfl rfl hl.1 rfl (lv_room (Nat.le_of_ble_eq_true rfl)) dX3_on_5 ⟨Nat.le_of_ble_eq_true rfl, Nat.le_of_ble_eq_true rfl⟩) hP hD hS hA [] [0, 1, 2, 3, 4, 5, 6, 7, 8, 9, 10, 11, 12, 13, 14, 15] [0, 1, 2, 3, 4, 5, 6, 7, 8, 9, 10, 11, 12, 13, 14, 15] rfl rfl (by decide) (by decide) rfl (by decide) (fun H locs hP hD hS => ?_)
  have hP : va_P G.1 vwCl (wMO G za zz) H := hP
  have hD : va_D A (wMO G za zz) := hD
  obtain ⟨v2, hv2, h⟩ := sp_b h
  refine xk_jn G A s.heap (wMO G za zz) 2 [(0, .ref (za 0)), (1, .int i1)] 16 [.int v2, .ref (za 0)] (fun H locs hP hD hS ls hl => ?_) (fun J2 => ?_)
  · obtain ⟨o3, ho3, h⟩ := sp_b h
    refine xk_ci (va_runV (As := [.int v2]) (rest := []) ⟨hx, hb, hml, hown, hts⟩ (c_X3_can l G za zz v2 o3 ho3 H.size) (cwV 1 hts gX3_on_X3_can rfl rfl rfl (by decide +kernel) ⟨Nat.le_of_ble_eq_true rfl, Nat.le_of_ble_eq_true rfl⟩) (xk_preV hK hNE (hP.sub (ws' := (wMO G za zz)) [0, 1, 2, 3, 4, 5, 6, 7, 8, 9, 10, 11, 12, 13, 14, 15] rfl) (hD.sub (ws' := (wMO G za zz)) [0, 1, 2, 3, 4, 5, 6, 7, 8, 9, 10, 11, 12, 13, 14, 15] (by decide) rfl) (ci := 3) rfl rfl) rfl rfl hl.1 rfl (lv_room (Nat.le_of_ble_eq_true rfl)) dX3_on_16 ⟨Nat.le_of_ble_eq_true rfl, Nat.le_of_ble_eq_true rfl⟩) hP hD hS hA [0, 1, 2, 3, 4, 5, 6, 7, 8, 9, 10, 11, 12, 13, 14, 15] [] [0, 1, 2, 3, 4, 5, 6, 7, 8, 9, 10, 11, 12, 13, 14, 15] rfl rfl (by decide) (by decide) rfl (by decide) (fun H locs hP hD hS => ?_)
    have hP : va_P G.1 vwCl (wMO G za (zz.1, zz.2.1, zz.2.2.1, zz.2.2.2.1, zz.2.2.2.2.1, zz.2.2.2.2.2.1, zz.2.2.2.2.2.2.1, zz.2.2.2.2.2.2.2.1, zz.2.2.2.2.2.2.2.2.1, zz.2.2.2.2.2.2.2.2.2.1, zz.2.2.2.2.2.2.2.2.2.2.1, zz.2.2.2.2.2.2.2.2.2.2.2.1, zz.2.2.2.2.2.2.2.2.2.2.2.2.1, zz.2.2.2.2.2.2.2.2.2.2.2.2.2.1, zz.2.2.2.2.2.2.2.2.2.2.2.2.2.2.1, zz.2.2.2.2.2.2.2.2.2.2.2.2.2.2.2.1, zz.2.2.2.2.2.2.2.2.2.2.2.2.2.2.2.2.1, o3.2)) H := hP
    have hD : va_D A (wMO G za (zz.1, zz.2.1, zz.2.2.1, zz.2.2.2.1, zz.2.2.2.2.1, zz.2.2.2.2.2.1, zz.2.2.2.2.2.2.1, zz.2.2.2.2.2.2.2.1, zz.2.2.2.2.2.2.2.2.1, zz.2.2.2.2.2.2.2.2.2.1, zz.2.2.2.2.2.2.2.2.2.2.1, zz.2.2.2.2.2.2.2.2.2.2.2.1, zz.2.2.2.2.2.2.2.2.2.2.2.2.1, zz.2.2.2.2.2.2.2.2.2.2.2.2.2.1, zz.2.2.2.2.2.2.2.2.2.2.2.2.2.2.1, zz.2.2.2.2.2.2.2.2.2.2.2.2.2.2.2.1, zz.2.2.2.2.2.2.2.2.2.2.2.2.2.2.2.2.1, o3.2)) := hD
    refine lv_if_ne (tgt := 24) hx hb dX3_on_19 (by decide) (fun c4 => ?_) (fun c4 => ?_)
    · have h := sp_f c4 h
      refine lv_aload_n hx hb dX3_on_24 rfl (lv_at hl 0 rfl) ?_
      obtain ⟨o5, ho5, h⟩ := sp_b h
      refine xk_cv (va_runV (As := []) (rest := []) ⟨hx, hb, hml, hown, hts⟩ (c_X3_plans l G za (zz.1, zz.2.1, zz.2.2.1, zz.2.2.2.1, zz.2.2.2.2.1, zz.2.2.2.2.2.1, zz.2.2.2.2.2.2.1, zz.2.2.2.2.2.2.2.1, zz.2.2.2.2.2.2.2.2.1, zz.2.2.2.2.2.2.2.2.2.1, zz.2.2.2.2.2.2.2.2.2.2.1, zz.2.2.2.2.2.2.2.2.2.2.2.1, zz.2.2.2.2.2.2.2.2.2.2.2.2.1, zz.2.2.2.2.2.2.2.2.2.2.2.2.2.1, zz.2.2.2.2.2.2.2.2.2.2.2.2.2.2.1, zz.2.2.2.2.2.2.2.2.2.2.2.2.2.2.2.1, zz.2.2.2.2.2.2.2.2.2.2.2.2.2.2.2.2.1, o3.2) o5 ho5 H.size) (cwV 0 hts gX3_on_X3_plans rfl rfl rfl (by decide +kernel) ⟨Nat.le_of_ble_eq_true rfl, Nat.le_of_ble_eq_true rfl⟩) (xk_preV hK hNE (hP.sub (ws' := (wMO G za (zz.1, zz.2.1, zz.2.2.1, zz.2.2.2.1, zz.2.2.2.2.1, zz.2.2.2.2.2.1, zz.2.2.2.2.2.2.1, zz.2.2.2.2.2.2.2.1, zz.2.2.2.2.2.2.2.2.1, zz.2.2.2.2.2.2.2.2.2.1, zz.2.2.2.2.2.2.2.2.2.2.1, zz.2.2.2.2.2.2.2.2.2.2.2.1, zz.2.2.2.2.2.2.2.2.2.2.2.2.1, zz.2.2.2.2.2.2.2.2.2.2.2.2.2.1, zz.2.2.2.2.2.2.2.2.2.2.2.2.2.2.1, zz.2.2.2.2.2.2.2.2.2.2.2.2.2.2.2.1, zz.2.2.2.2.2.2.2.2.2.2.2.2.2.2.2.2.1, o3.2))) [0, 1, 2, 3, 4, 5, 6, 7, 8, 9, 10, 11, 12, 13, 14, 15] rfl) (hD.sub (ws' := (wMO G za (zz.1, zz.2.1, zz.2.2.1, zz.2.2.2.1, zz.2.2.2.2.1, zz.2.2.2.2.2.1, zz.2.2.2.2.2.2.1, zz.2.2.2.2.2.2.2.1, zz.2.2.2.2.2.2.2.2.1, zz.2.2.2.2.2.2.2.2.2.1, zz.2.2.2.2.2.2.2.2.2.2.1, zz.2.2.2.2.2.2.2.2.2.2.2.1, zz.2.2.2.2.2.2.2.2.2.2.2.2.1, zz.2.2.2.2.2.2.2.2.2.2.2.2.2.1, zz.2.2.2.2.2.2.2.2.2.2.2.2.2.2.1, zz.2.2.2.2.2.2.2.2.2.2.2.2.2.2.2.1, zz.2.2.2.2.2.2.2.2.2.2.2.2.2.2.2.2.1, o3.2))) [0, 1, 2, 3, 4, 5, 6, 7, 8, 9, 10, 11, 12, 13, 14, 15] (by decide) rfl) (ci := 3) rfl rfl) rfl rfl hl.1 rfl (lv_room (Nat.le_of_ble_eq_true rfl)) dX3_on_25 ⟨Nat.le_of_ble_eq_true rfl, Nat.le_of_ble_eq_true rfl⟩) hP hD hS hA [0, 1, 2, 3, 4, 5, 6, 7, 8, 9, 10, 11, 12, 13, 14, 15] [] [0, 1, 2, 3, 4, 5, 6, 7, 8, 9, 10, 11, 12, 13, 14, 15] rfl rfl (by decide) (by decide) rfl (by decide) (fun H locs hP hD hS => ?_)
      have hP : va_P G.1 vwCl (wMO G za (zz.1, zz.2.1, zz.2.2.1, zz.2.2.2.1, zz.2.2.2.2.1, zz.2.2.2.2.2.1, zz.2.2.2.2.2.2.1, zz.2.2.2.2.2.2.2.1, zz.2.2.2.2.2.2.2.2.1, o5.1, o5.2.1, o5.2.2.1, o5.2.2.2.1, o5.2.2.2.2.1, o5.2.2.2.2.2.1, zz.2.2.2.2.2.2.2.2.2.2.2.2.2.2.2.1, o5.2.2.2.2.2.2, o3.2)) H := hP
      have hD : va_D A (wMO G za (zz.1, zz.2.1, zz.2.2.1, zz.2.2.2.1, zz.2.2.2.2.1, zz.2.2.2.2.2.1, zz.2.2.2.2.2.2.1, zz.2.2.2.2.2.2.2.1, zz.2.2.2.2.2.2.2.2.1, o5.1, o5.2.1, o5.2.2.1, o5.2.2.2.1, o5.2.2.2.2.1, o5.2.2.2.2.2.1, zz.2.2.2.2.2.2.2.2.2.2.2.2.2.2.2.1, o5.2.2.2.2.2.2, o3.2)) := hD
      refine lv_aload_n hx hb dX3_on_28 rfl (lv_at hl 0 rfl) ?_
      refine va_get (D := G.1) (ci := 3) (v := .ref (za 10)) (C := RX3) (T := TX3) (N := 18) hx hb hts hinX3 hown hK hP 0 rfl rfl 10 (by decide) (hts (.fieldLink RX3 38 "LessonWeaveModel" "things" "[I") (by decide +kernel)) (fun _ h9 => h9) rfl dX3_on_29 ?_
      refine lv_iload_n hx hb dX3_on_32 rfl (lv_at hl 1 rfl) ?_
      obtain ⟨hin6, h⟩ := sp_g h
      refine va_iald hx hb hK hP 10 0 rfl rfl hin6 dX3_on_33 ?_
      obtain rfl := sp_s h
      exact xk_reI hx hb hr hlk hP hD hS rfl dX3_on_34
    · have h := sp_t c4 h
      refine lv_iconst (v := (0 : Int32)) hx hb dX3_on_22 (by decide) ?_
      obtain rfl := sp_s h
      exact xk_reI hx hb hr hlk hP hD hS rfl dX3_on_23
  · have h := hv2
    clear hv2
    refine lv_if_eq (tgt := 15) hx hb dX3_on_8 (by decide) (fun c7 => ?_) (fun c7 => ?_)
    · have h := sp_t c7 h
      refine lv_iconst (v := (1 : Int32)) hx hb dX3_on_15 (by decide) ?_
      obtain rfl := sp_s h
      exact J2 _ _ hP hD hS _ (lv_sub hl [0, 1] rfl)
    · have h := sp_f c7 h
      refine lv_iconst (v := (0 : Int32)) hx hb dX3_on_11 (by decide) ?_
      refine lv_goto (tgt := 16) hx hb dX3_on_12 (by decide) ?_
      obtain rfl := sp_s h
      exact J2 _ _ hP hD hS _ (lv_sub hl [0, 1] rfl)
def f_X3_lessonDay (zz : xMO) (i1 : Int32) (i2 : Int32) : Option (Int32 × xF × xF × xF × xF × xF × xF × Int32 × Int32) :=
  Option.bind (f_X3_isAim zz i1) fun (o1 : Int32) =>
  Option.bind (
    if o1 = 0 then
      some (1 : Int32)
    else
      if i1 < 0 ∨ 12 ≤ i1.toNatClampNeg then none else
      Option.bind (f_X3_isIn i2 (0 : Int32) ((zz.2.1 i1.toNatClampNeg) - (1 : Int32))) fun (o9 : Int32) =>
      if o9 = 0 then
        some (1 : Int32)
      else
        some (0 : Int32)) fun (v2 : Int32) =>
  Option.bind (f_X3_can zz v2) fun (o3 : Int32 × Int32) =>
  if o3.1 = 0 then
    some ((0 : Int32), zz.2.2.2.2.2.2.2.2.2.1, zz.2.2.2.2.2.2.2.2.2.2.1, zz.2.2.2.2.2.2.2.2.2.2.2.1, zz.2.2.2.2.2.2.2.2.2.2.2.2.1, zz.2.2.2.2.2.2.2.2.2.2.2.2.2.1, zz.2.2.2.2.2.2.2.2.2.2.2.2.2.2.1, zz.2.2.2.2.2.2.2.2.2.2.2.2.2.2.2.2.1, o3.2)
  else
    Option.bind (f_X3_plans (zz.1, zz.2.1, zz.2.2.1, zz.2.2.2.1, zz.2.2.2.2.1, zz.2.2.2.2.2.1, zz.2.2.2.2.2.2.1, zz.2.2.2.2.2.2.2.1, zz.2.2.2.2.2.2.2.2.1, zz.2.2.2.2.2.2.2.2.2.1, zz.2.2.2.2.2.2.2.2.2.2.1, zz.2.2.2.2.2.2.2.2.2.2.2.1, zz.2.2.2.2.2.2.2.2.2.2.2.2.1, zz.2.2.2.2.2.2.2.2.2.2.2.2.2.1, zz.2.2.2.2.2.2.2.2.2.2.2.2.2.2.1, zz.2.2.2.2.2.2.2.2.2.2.2.2.2.2.2.1, zz.2.2.2.2.2.2.2.2.2.2.2.2.2.2.2.2.1, o3.2)) fun (o5 : xF × xF × xF × xF × xF × xF × Int32) =>
    if (((5 : Int32) * i1) + i2) < 0 ∨ 60 ≤ (((5 : Int32) * i1) + i2).toNatClampNeg then none else
    some ((o5.2.2.1 (((5 : Int32) * i1) + i2).toNatClampNeg), o5.1, o5.2.1, o5.2.2.1, o5.2.2.2.1, o5.2.2.2.2.1, o5.2.2.2.2.2.1, o5.2.2.2.2.2.2, o3.2)
theorem f_X3_lessonDay_e (zz : xMO) (i1 : Int32) (i2 : Int32) : f_X3_lessonDay zz i1 i2 =
  Option.bind (f_X3_isAim zz i1) fun (o1 : Int32) =>
  Option.bind (
    if o1 = 0 then
      some (1 : Int32)
    else
      if i1 < 0 ∨ 12 ≤ i1.toNatClampNeg then none else
      Option.bind (f_X3_isIn i2 (0 : Int32) ((zz.2.1 i1.toNatClampNeg) - (1 : Int32))) fun (o9 : Int32) =>
      if o9 = 0 then
        some (1 : Int32)
      else
        some (0 : Int32)) fun (v2 : Int32) =>
  Option.bind (f_X3_can zz v2) fun (o3 : Int32 × Int32) =>
  if o3.1 = 0 then
    some ((0 : Int32), zz.2.2.2.2.2.2.2.2.2.1, zz.2.2.2.2.2.2.2.2.2.2.1, zz.2.2.2.2.2.2.2.2.2.2.2.1, zz.2.2.2.2.2.2.2.2.2.2.2.2.1, zz.2.2.2.2.2.2.2.2.2.2.2.2.2.1, zz.2.2.2.2.2.2.2.2.2.2.2.2.2.2.1, zz.2.2.2.2.2.2.2.2.2.2.2.2.2.2.2.2.1, o3.2)
  else
    Option.bind (f_X3_plans (zz.1, zz.2.1, zz.2.2.1, zz.2.2.2.1, zz.2.2.2.2.1, zz.2.2.2.2.2.1, zz.2.2.2.2.2.2.1, zz.2.2.2.2.2.2.2.1, zz.2.2.2.2.2.2.2.2.1, zz.2.2.2.2.2.2.2.2.2.1, zz.2.2.2.2.2.2.2.2.2.2.1, zz.2.2.2.2.2.2.2.2.2.2.2.1, zz.2.2.2.2.2.2.2.2.2.2.2.2.1, zz.2.2.2.2.2.2.2.2.2.2.2.2.2.1, zz.2.2.2.2.2.2.2.2.2.2.2.2.2.2.1, zz.2.2.2.2.2.2.2.2.2.2.2.2.2.2.2.1, zz.2.2.2.2.2.2.2.2.2.2.2.2.2.2.2.2.1, o3.2)) fun (o5 : xF × xF × xF × xF × xF × xF × Int32) =>
    if (((5 : Int32) * i1) + i2) < 0 ∨ 60 ≤ (((5 : Int32) * i1) + i2).toNatClampNeg then none else
    some ((o5.2.2.1 (((5 : Int32) * i1) + i2).toNatClampNeg), o5.1, o5.2.1, o5.2.2.1, o5.2.2.2.1, o5.2.2.2.2.1, o5.2.2.2.2.2.1, o5.2.2.2.2.2.2, o3.2) := rfl
set_option maxHeartbeats 4000000 in
set_option maxRecDepth 100000 in
theorem c_X3_lessonDay (l : Launch) (G : xG) (za : (Nat → Nat)) (zz : xMO) (i1 : Int32) (i2 : Int32) (o : Int32 × xF × xF × xF × xF × xF × xF × Int32 × Int32) (h : f_X3_lessonDay zz i1 i2 = some o) : xk_CI l yX3_lessonDay wsX3_lessonDay ({ frames := 4, cells := 0, slots := 0, locals := 90 } : Room) 0 0 [.ref (za 0), .int i1, .int i2] G (wMO G za zz) (wMO G za (zz.1, zz.2.1, zz.2.2.1, zz.2.2.2.1, zz.2.2.2.2.1, zz.2.2.2.2.2.1, zz.2.2.2.2.2.2.1, zz.2.2.2.2.2.2.2.1, zz.2.2.2.2.2.2.2.2.1, o.2.1, o.2.2.1, o.2.2.2.1, o.2.2.2.2.1, o.2.2.2.2.2.1, o.2.2.2.2.2.2.1, zz.2.2.2.2.2.2.2.2.2.2.2.2.2.2.2.1, o.2.2.2.2.2.2.2.1, o.2.2.2.2.2.2.2.2)) o.1 := by
  refine xk_CI.of (cc := cX3_lessonDay) (maxL := 3) (ret := (some .int)) (by decide) rfl (Nat.le_of_ble_eq_true rfl) ?_
  intro pr9 en9 s mm9 bl9 meth9 cd9 A ls H locs hx hb hr hml hts hown hlk hA hP hK hD hNE hS hl
  have hown : s.vm.findClass RX3 = some mm9.cls := hown
  have hl : lv_has ls 3 [(0, .ref (za 0)), (1, .int i1), (2, .int i2)] := hl
  have hinX3 : ∀ w ∈ u_ws RX3 TX3 18, w ∈ wsX3_lessonDay := by decide +kernel
  have h := (f_X3_lessonDay_e zz i1 i2).symm.trans h
  refine lv_aload_n hx hb dX3_lessonDay_0 rfl (lv_at hl 0 rfl) ?_
  refine lv_aload_n hx hb dX3_lessonDay_1 rfl (lv_at hl 0 rfl) ?_
  refine lv_iload_n hx hb dX3_lessonDay_2 rfl (lv_at hl 1 rfl) ?_
  obtain ⟨o1, ho1, h⟩ := sp_b h
  refine xk_ci (va_runV (As := [.int i1]) (rest := [.ref (za 0)]) ⟨hx, hb, hml, hown, hts⟩ (c_X3_isAim l G za zz i1 o1 ho1 H.size) (cwV 1 hts gX3_lessonDay_X3_isAim rfl rfl rfl (by decide +kernel) ⟨Nat.le_of_ble_eq_true rfl, Nat.le_of_ble_eq_true rfl⟩) (xk_preV hK hNE (hP.sub (ws' := (wMO G za zz)) [0, 1, 2, 3, 4, 5, 6, 7, 8, 9, 10, 11, 12, 13, 14, 15] rfl) (hD.sub (ws' := (wMO G za zz)) [0, 1, 2, 3, 4, 5, 6, 7, 8, 9, 10, 11, 12, 13, 14, 15] (by decide) rfl) (ci := 3) rfl rfl) rfl rfl hl.1 rfl (lv_room (Nat.le_of_ble_eq_true rfl)) dX3_lessonDay_3 ⟨Nat.le_of_ble_eq_true rfl, Nat.le_of_ble_eq_true rfl⟩) hP hD hS hA [0, 1, 2, 3, 4, 5, 6, 7, 8, 9, 10, 11, 12, 13, 14, 15] [] [0, 1, 2, 3, 4, 5, 6, 7, 8, 9, 10, 11, 12, 13, 14, 15] rfl rfl (by decide) (by decide) rfl (by decide) (fun H locs hP hD hS => ?_)
  have hP : va_P G.1 vwCl (wMO G za zz) H := hP
  have hD : va_D A (wMO G za zz) := hD
  obtain ⟨v2, hv2, h⟩ := sp_b h
  refine xk_jn G A s.heap (wMO G za zz) 3 [(0, .ref (za 0)), (1, .int i1), (2, .int i2)] 30 [.int v2, .ref (za 0)] (fun H locs hP hD hS ls hl => ?_) (fun J2 => ?_)
  · obtain ⟨o3, ho3, h⟩ := sp_b h
    refine xk_ci (va_runV (As := [.int v2]) (rest := []) ⟨hx, hb, hml, hown, hts⟩ (c_X3_can l G za zz v2 o3 ho3 H.size) (cwV 1 hts gX3_lessonDay_X3_can rfl rfl rfl (by decide +kernel) ⟨Nat.le_of_ble_eq_true rfl, Nat.le_of_ble_eq_true rfl⟩) (xk_preV hK hNE (hP.sub (ws' := (wMO G za zz)) [0, 1, 2, 3, 4, 5, 6, 7, 8, 9, 10, 11, 12, 13, 14, 15] rfl) (hD.sub (ws' := (wMO G za zz)) [0, 1, 2, 3, 4, 5, 6, 7, 8, 9, 10, 11, 12, 13, 14, 15] (by decide) rfl) (ci := 3) rfl rfl) rfl rfl hl.1 rfl (lv_room (Nat.le_of_ble_eq_true rfl)) dX3_lessonDay_30 ⟨Nat.le_of_ble_eq_true rfl, Nat.le_of_ble_eq_true rfl⟩) hP hD hS hA [0, 1, 2, 3, 4, 5, 6, 7, 8, 9, 10, 11, 12, 13, 14, 15] [] [0, 1, 2, 3, 4, 5, 6, 7, 8, 9, 10, 11, 12, 13, 14, 15] rfl rfl (by decide) (by decide) rfl (by decide) (fun H locs hP hD hS => ?_)
    have hP : va_P G.1 vwCl (wMO G za (zz.1, zz.2.1, zz.2.2.1, zz.2.2.2.1, zz.2.2.2.2.1, zz.2.2.2.2.2.1, zz.2.2.2.2.2.2.1, zz.2.2.2.2.2.2.2.1, zz.2.2.2.2.2.2.2.2.1, zz.2.2.2.2.2.2.2.2.2.1, zz.2.2.2.2.2.2.2.2.2.2.1, zz.2.2.2.2.2.2.2.2.2.2.2.1, zz.2.2.2.2.2.2.2.2.2.2.2.2.1, zz.2.2.2.2.2.2.2.2.2.2.2.2.2.1, zz.2.2.2.2.2.2.2.2.2.2.2.2.2.2.1, zz.2.2.2.2.2.2.2.2.2.2.2.2.2.2.2.1, zz.2.2.2.2.2.2.2.2.2.2.2.2.2.2.2.2.1, o3.2)) H := hP
    have hD : va_D A (wMO G za (zz.1, zz.2.1, zz.2.2.1, zz.2.2.2.1, zz.2.2.2.2.1, zz.2.2.2.2.2.1, zz.2.2.2.2.2.2.1, zz.2.2.2.2.2.2.2.1, zz.2.2.2.2.2.2.2.2.1, zz.2.2.2.2.2.2.2.2.2.1, zz.2.2.2.2.2.2.2.2.2.2.1, zz.2.2.2.2.2.2.2.2.2.2.2.1, zz.2.2.2.2.2.2.2.2.2.2.2.2.1, zz.2.2.2.2.2.2.2.2.2.2.2.2.2.1, zz.2.2.2.2.2.2.2.2.2.2.2.2.2.2.1, zz.2.2.2.2.2.2.2.2.2.2.2.2.2.2.2.1, zz.2.2.2.2.2.2.2.2.2.2.2.2.2.2.2.2.1, o3.2)) := hD
    refine lv_if_ne (tgt := 38) hx hb dX3_lessonDay_33 (by decide) (fun c4 => ?_) (fun c4 => ?_)
    · have h := sp_f c4 h
      refine lv_aload_n hx hb dX3_lessonDay_38 rfl (lv_at hl 0 rfl) ?_
      obtain ⟨o5, ho5, h⟩ := sp_b h
      refine xk_cv (va_runV (As := []) (rest := []) ⟨hx, hb, hml, hown, hts⟩ (c_X3_plans l G za (zz.1, zz.2.1, zz.2.2.1, zz.2.2.2.1, zz.2.2.2.2.1, zz.2.2.2.2.2.1, zz.2.2.2.2.2.2.1, zz.2.2.2.2.2.2.2.1, zz.2.2.2.2.2.2.2.2.1, zz.2.2.2.2.2.2.2.2.2.1, zz.2.2.2.2.2.2.2.2.2.2.1, zz.2.2.2.2.2.2.2.2.2.2.2.1, zz.2.2.2.2.2.2.2.2.2.2.2.2.1, zz.2.2.2.2.2.2.2.2.2.2.2.2.2.1, zz.2.2.2.2.2.2.2.2.2.2.2.2.2.2.1, zz.2.2.2.2.2.2.2.2.2.2.2.2.2.2.2.1, zz.2.2.2.2.2.2.2.2.2.2.2.2.2.2.2.2.1, o3.2) o5 ho5 H.size) (cwV 0 hts gX3_lessonDay_X3_plans rfl rfl rfl (by decide +kernel) ⟨Nat.le_of_ble_eq_true rfl, Nat.le_of_ble_eq_true rfl⟩) (xk_preV hK hNE (hP.sub (ws' := (wMO G za (zz.1, zz.2.1, zz.2.2.1, zz.2.2.2.1, zz.2.2.2.2.1, zz.2.2.2.2.2.1, zz.2.2.2.2.2.2.1, zz.2.2.2.2.2.2.2.1, zz.2.2.2.2.2.2.2.2.1, zz.2.2.2.2.2.2.2.2.2.1, zz.2.2.2.2.2.2.2.2.2.2.1, zz.2.2.2.2.2.2.2.2.2.2.2.1, zz.2.2.2.2.2.2.2.2.2.2.2.2.1, zz.2.2.2.2.2.2.2.2.2.2.2.2.2.1, zz.2.2.2.2.2.2.2.2.2.2.2.2.2.2.1, zz.2.2.2.2.2.2.2.2.2.2.2.2.2.2.2.1, zz.2.2.2.2.2.2.2.2.2.2.2.2.2.2.2.2.1, o3.2))) [0, 1, 2, 3, 4, 5, 6, 7, 8, 9, 10, 11, 12, 13, 14, 15] rfl) (hD.sub (ws' := (wMO G za (zz.1, zz.2.1, zz.2.2.1, zz.2.2.2.1, zz.2.2.2.2.1, zz.2.2.2.2.2.1, zz.2.2.2.2.2.2.1, zz.2.2.2.2.2.2.2.1, zz.2.2.2.2.2.2.2.2.1, zz.2.2.2.2.2.2.2.2.2.1, zz.2.2.2.2.2.2.2.2.2.2.1, zz.2.2.2.2.2.2.2.2.2.2.2.1, zz.2.2.2.2.2.2.2.2.2.2.2.2.1, zz.2.2.2.2.2.2.2.2.2.2.2.2.2.1, zz.2.2.2.2.2.2.2.2.2.2.2.2.2.2.1, zz.2.2.2.2.2.2.2.2.2.2.2.2.2.2.2.1, zz.2.2.2.2.2.2.2.2.2.2.2.2.2.2.2.2.1, o3.2))) [0, 1, 2, 3, 4, 5, 6, 7, 8, 9, 10, 11, 12, 13, 14, 15] (by decide) rfl) (ci := 3) rfl rfl) rfl rfl hl.1 rfl (lv_room (Nat.le_of_ble_eq_true rfl)) dX3_lessonDay_39 ⟨Nat.le_of_ble_eq_true rfl, Nat.le_of_ble_eq_true rfl⟩) hP hD hS hA [0, 1, 2, 3, 4, 5, 6, 7, 8, 9, 10, 11, 12, 13, 14, 15] [] [0, 1, 2, 3, 4, 5, 6, 7, 8, 9, 10, 11, 12, 13, 14, 15] rfl rfl (by decide) (by decide) rfl (by decide) (fun H locs hP hD hS => ?_)
      have hP : va_P G.1 vwCl (wMO G za (zz.1, zz.2.1, zz.2.2.1, zz.2.2.2.1, zz.2.2.2.2.1, zz.2.2.2.2.2.1, zz.2.2.2.2.2.2.1, zz.2.2.2.2.2.2.2.1, zz.2.2.2.2.2.2.2.2.1, o5.1, o5.2.1, o5.2.2.1, o5.2.2.2.1, o5.2.2.2.2.1, o5.2.2.2.2.2.1, zz.2.2.2.2.2.2.2.2.2.2.2.2.2.2.2.1, o5.2.2.2.2.2.2, o3.2)) H := hP
      have hD : va_D A (wMO G za (zz.1, zz.2.1, zz.2.2.1, zz.2.2.2.1, zz.2.2.2.2.1, zz.2.2.2.2.2.1, zz.2.2.2.2.2.2.1, zz.2.2.2.2.2.2.2.1, zz.2.2.2.2.2.2.2.2.1, o5.1, o5.2.1, o5.2.2.1, o5.2.2.2.1, o5.2.2.2.2.1, o5.2.2.2.2.2.1, zz.2.2.2.2.2.2.2.2.2.2.2.2.2.2.2.1, o5.2.2.2.2.2.2, o3.2)) := hD
      refine lv_aload_n hx hb dX3_lessonDay_42 rfl (lv_at hl 0 rfl) ?_
      refine va_get (D := G.1) (ci := 3) (v := .ref (za 11)) (C := RX3) (T := TX3) (N := 18) hx hb hts hinX3 hown hK hP 0 rfl rfl 11 (by decide) (hts (.fieldLink RX3 41 "LessonWeaveModel" "lessonOn" "[I") (by decide +kernel)) (fun _ h9 => h9) rfl dX3_lessonDay_43 ?_
      refine lv_iconst (v := (5 : Int32)) hx hb dX3_lessonDay_46 (by decide) ?_
      refine lv_iload_n hx hb dX3_lessonDay_47 rfl (lv_at hl 1 rfl) ?_
      refine lv_imul hx hb dX3_lessonDay_48 ?_
      refine lv_iload_n hx hb dX3_lessonDay_49 rfl (lv_at hl 2 rfl) ?_
      refine lv_iadd hx hb dX3_lessonDay_50 ?_
      obtain ⟨hin6, h⟩ := sp_g h
      refine va_iald hx hb hK hP 11 0 rfl rfl hin6 dX3_lessonDay_51 ?_
      obtain rfl := sp_s h
      exact xk_reI hx hb hr hlk hP hD hS rfl dX3_lessonDay_52
    · have h := sp_t c4 h
      refine lv_iconst (v := (0 : Int32)) hx hb dX3_lessonDay_36 (by decide) ?_
      obtain rfl := sp_s h
      exact xk_reI hx hb hr hlk hP hD hS rfl dX3_lessonDay_37
  · have h := hv2
    clear hv2
    refine lv_if_eq (tgt := 29) hx hb dX3_lessonDay_6 (by decide) (fun c7 => ?_) (fun c7 => ?_)
    · have h := sp_t c7 h
      refine lv_iconst (v := (1 : Int32)) hx hb dX3_lessonDay_29 (by decide) ?_
      obtain rfl := sp_s h
      exact J2 _ _ hP hD hS _ (lv_sub hl [0, 1, 2] rfl)
    · have h := sp_f c7 h
      refine lv_iload_n hx hb dX3_lessonDay_9 rfl (lv_at hl 2 rfl) ?_
      refine lv_iconst (v := (0 : Int32)) hx hb dX3_lessonDay_10 (by decide) ?_
      refine lv_aload_n hx hb dX3_lessonDay_11 rfl (lv_at hl 0 rfl) ?_
      refine va_get (D := G.1) (ci := 3) (v := .ref (za 1)) (C := RX3) (T := TX3) (N := 18) hx hb hts hinX3 hown hK hP 0 rfl rfl 1 (by decide) (hts (.fieldLink RX3 7 "LessonWeaveModel" "lessons" "[I") (by decide +kernel)) (fun _ h9 => h9) rfl dX3_lessonDay_12 ?_
      refine lv_iload_n hx hb dX3_lessonDay_15 rfl (lv_at hl 1 rfl) ?_
      obtain ⟨hin8, h⟩ := sp_g h
      refine va_iald hx hb hK hP 1 0 rfl rfl hin8 dX3_lessonDay_16 ?_
      refine lv_iconst (v := (1 : Int32)) hx hb dX3_lessonDay_17 (by decide) ?_
      refine lv_isub hx hb dX3_lessonDay_18 ?_
      obtain ⟨o9, ho9, h⟩ := sp_b h
      refine xk_ci (va_runS (As := [.int i2, .int (0 : Int32), .int ((zz.2.1 i1.toNatClampNeg) - (1 : Int32))]) (rest := [.ref (za 0)]) ⟨hx, hb, hml, hown, hts⟩ (c_X3_isIn l G i2 (0 : Int32) ((zz.2.1 i1.toNatClampNeg) - (1 : Int32)) o9 ho9 H.size) (va_cwS 3 hts gX3_lessonDay_X3_isIn rfl rfl rfl (by decide +kernel) ⟨Nat.le_of_ble_eq_true rfl, Nat.le_of_ble_eq_true rfl⟩) (xk_preS hK hNE (hP.sub (ws' := []) [] rfl) (hD.sub (ws' := []) [] (by decide) rfl)) rfl rfl hl.1 rfl (lv_room (Nat.le_of_ble_eq_true rfl)) dX3_lessonDay_19 ⟨Nat.le_of_ble_eq_true rfl, Nat.le_of_ble_eq_true rfl⟩) hP hD hS hA [] [0, 1, 2, 3, 4, 5, 6, 7, 8, 9, 10, 11, 12, 13, 14, 15] [0, 1, 2, 3, 4, 5, 6, 7, 8, 9, 10, 11, 12, 13, 14, 15] rfl rfl (by decide) (by decide) rfl (by decide) (fun H locs hP hD hS => ?_)
      have hP : va_P G.1 vwCl (wMO G za zz) H := hP
      have hD : va_D A (wMO G za zz) := hD
      refine lv_if_eq (tgt := 29) hx hb dX3_lessonDay_22 (by decide) (fun c10 => ?_) (fun c10 => ?_)
      · have h := sp_t c10 h
        refine lv_iconst (v := (1 : Int32)) hx hb dX3_lessonDay_29 (by decide) ?_
        obtain rfl := sp_s h
        exact J2 _ _ hP hD hS _ (lv_sub hl [0, 1, 2] rfl)
      · have h := sp_f c10 h
        refine lv_iconst (v := (0 : Int32)) hx hb dX3_lessonDay_25 (by decide) ?_
        refine lv_goto (tgt := 30) hx hb dX3_lessonDay_26 (by decide) ?_
        obtain rfl := sp_s h
        exact J2 _ _ hP hD hS _ (lv_sub hl [0, 1, 2] rfl)
def f_X3_revisitDay (zz : xMO) (i1 : Int32) (i2 : Int32) : Option (Int32 × xF × xF × xF × xF × xF × xF × Int32 × Int32) :=
  Option.bind (f_X3_isAim zz i1) fun (o1 : Int32) =>
  Option.bind (
    if o1 = 0 then
      some (1 : Int32)
    else
      if i1 < 0 ∨ 12 ≤ i1.toNatClampNeg then none else
      Option.bind (f_X3_isIn i2 (0 : Int32) ((zz.2.2.2.2.2.2.1 i1.toNatClampNeg) - (1 : Int32))) fun (o9 : Int32) =>
      if o9 = 0 then
        some (1 : Int32)
      else
        some (0 : Int32)) fun (v2 : Int32) =>
  Option.bind (f_X3_can zz v2) fun (o3 : Int32 × Int32) =>
  if o3.1 = 0 then
    some ((0 : Int32), zz.2.2.2.2.2.2.2.2.2.1, zz.2.2.2.2.2.2.2.2.2.2.1, zz.2.2.2.2.2.2.2.2.2.2.2.1, zz.2.2.2.2.2.2.2.2.2.2.2.2.1, zz.2.2.2.2.2.2.2.2.2.2.2.2.2.1, zz.2.2.2.2.2.2.2.2.2.2.2.2.2.2.1, zz.2.2.2.2.2.2.2.2.2.2.2.2.2.2.2.2.1, o3.2)
  else
    Option.bind (f_X3_plans (zz.1, zz.2.1, zz.2.2.1, zz.2.2.2.1, zz.2.2.2.2.1, zz.2.2.2.2.2.1, zz.2.2.2.2.2.2.1, zz.2.2.2.2.2.2.2.1, zz.2.2.2.2.2.2.2.2.1, zz.2.2.2.2.2.2.2.2.2.1, zz.2.2.2.2.2.2.2.2.2.2.1, zz.2.2.2.2.2.2.2.2.2.2.2.1, zz.2.2.2.2.2.2.2.2.2.2.2.2.1, zz.2.2.2.2.2.2.2.2.2.2.2.2.2.1, zz.2.2.2.2.2.2.2.2.2.2.2.2.2.2.1, zz.2.2.2.2.2.2.2.2.2.2.2.2.2.2.2.1, zz.2.2.2.2.2.2.2.2.2.2.2.2.2.2.2.2.1, o3.2)) fun (o5 : xF × xF × xF × xF × xF × xF × Int32) =>
    if (((3 : Int32) * i1) + i2) < 0 ∨ 36 ≤ (((3 : Int32) * i1) + i2).toNatClampNeg then none else
    some ((o5.2.2.2.1 (((3 : Int32) * i1) + i2).toNatClampNeg), o5.1, o5.2.1, o5.2.2.1, o5.2.2.2.1, o5.2.2.2.2.1, o5.2.2.2.2.2.1, o5.2.2.2.2.2.2, o3.2)
theorem f_X3_revisitDay_e (zz : xMO) (i1 : Int32) (i2 : Int32) : f_X3_revisitDay zz i1 i2 =
  Option.bind (f_X3_isAim zz i1) fun (o1 : Int32) =>
  Option.bind (
    if o1 = 0 then
      some (1 : Int32)
    else
      if i1 < 0 ∨ 12 ≤ i1.toNatClampNeg then none else
      Option.bind (f_X3_isIn i2 (0 : Int32) ((zz.2.2.2.2.2.2.1 i1.toNatClampNeg) - (1 : Int32))) fun (o9 : Int32) =>
      if o9 = 0 then
        some (1 : Int32)
      else
        some (0 : Int32)) fun (v2 : Int32) =>
  Option.bind (f_X3_can zz v2) fun (o3 : Int32 × Int32) =>
  if o3.1 = 0 then
    some ((0 : Int32), zz.2.2.2.2.2.2.2.2.2.1, zz.2.2.2.2.2.2.2.2.2.2.1, zz.2.2.2.2.2.2.2.2.2.2.2.1, zz.2.2.2.2.2.2.2.2.2.2.2.2.1, zz.2.2.2.2.2.2.2.2.2.2.2.2.2.1, zz.2.2.2.2.2.2.2.2.2.2.2.2.2.2.1, zz.2.2.2.2.2.2.2.2.2.2.2.2.2.2.2.2.1, o3.2)
  else
    Option.bind (f_X3_plans (zz.1, zz.2.1, zz.2.2.1, zz.2.2.2.1, zz.2.2.2.2.1, zz.2.2.2.2.2.1, zz.2.2.2.2.2.2.1, zz.2.2.2.2.2.2.2.1, zz.2.2.2.2.2.2.2.2.1, zz.2.2.2.2.2.2.2.2.2.1, zz.2.2.2.2.2.2.2.2.2.2.1, zz.2.2.2.2.2.2.2.2.2.2.2.1, zz.2.2.2.2.2.2.2.2.2.2.2.2.1, zz.2.2.2.2.2.2.2.2.2.2.2.2.2.1, zz.2.2.2.2.2.2.2.2.2.2.2.2.2.2.1, zz.2.2.2.2.2.2.2.2.2.2.2.2.2.2.2.1, zz.2.2.2.2.2.2.2.2.2.2.2.2.2.2.2.2.1, o3.2)) fun (o5 : xF × xF × xF × xF × xF × xF × Int32) =>
    if (((3 : Int32) * i1) + i2) < 0 ∨ 36 ≤ (((3 : Int32) * i1) + i2).toNatClampNeg then none else
    some ((o5.2.2.2.1 (((3 : Int32) * i1) + i2).toNatClampNeg), o5.1, o5.2.1, o5.2.2.1, o5.2.2.2.1, o5.2.2.2.2.1, o5.2.2.2.2.2.1, o5.2.2.2.2.2.2, o3.2) := rfl
set_option maxHeartbeats 4000000 in
set_option maxRecDepth 100000 in
theorem c_X3_revisitDay (l : Launch) (G : xG) (za : (Nat → Nat)) (zz : xMO) (i1 : Int32) (i2 : Int32) (o : Int32 × xF × xF × xF × xF × xF × xF × Int32 × Int32) (h : f_X3_revisitDay zz i1 i2 = some o) : xk_CI l yX3_revisitDay wsX3_revisitDay ({ frames := 4, cells := 0, slots := 0, locals := 90 } : Room) 0 0 [.ref (za 0), .int i1, .int i2] G (wMO G za zz) (wMO G za (zz.1, zz.2.1, zz.2.2.1, zz.2.2.2.1, zz.2.2.2.2.1, zz.2.2.2.2.2.1, zz.2.2.2.2.2.2.1, zz.2.2.2.2.2.2.2.1, zz.2.2.2.2.2.2.2.2.1, o.2.1, o.2.2.1, o.2.2.2.1, o.2.2.2.2.1, o.2.2.2.2.2.1, o.2.2.2.2.2.2.1, zz.2.2.2.2.2.2.2.2.2.2.2.2.2.2.2.1, o.2.2.2.2.2.2.2.1, o.2.2.2.2.2.2.2.2)) o.1 := by
  refine xk_CI.of (cc := cX3_revisitDay) (maxL := 3) (ret := (some .int)) (by decide) rfl (Nat.le_of_ble_eq_true rfl) ?_
  intro pr9 en9 s mm9 bl9 meth9 cd9 A ls H locs hx hb hr hml hts hown hlk hA hP hK hD hNE hS hl
  have hown : s.vm.findClass RX3 = some mm9.cls := hown
  have hl : lv_has ls 3 [(0, .ref (za 0)), (1, .int i1), (2, .int i2)] := hl
  have hinX3 : ∀ w ∈ u_ws RX3 TX3 18, w ∈ wsX3_revisitDay := by decide +kernel
  have h := (f_X3_revisitDay_e zz i1 i2).symm.trans h
  refine lv_aload_n hx hb dX3_revisitDay_0 rfl (lv_at hl 0 rfl) ?_
  refine lv_aload_n hx hb dX3_revisitDay_1 rfl (lv_at hl 0 rfl) ?_
  refine lv_iload_n hx hb dX3_revisitDay_2 rfl (lv_at hl 1 rfl) ?_
  obtain ⟨o1, ho1, h⟩ := sp_b h
  refine xk_ci (va_runV (As := [.int i1]) (rest := [.ref (za 0)]) ⟨hx, hb, hml, hown, hts⟩ (c_X3_isAim l G za zz i1 o1 ho1 H.size) (cwV 1 hts gX3_revisitDay_X3_isAim rfl rfl rfl (by decide +kernel) ⟨Nat.le_of_ble_eq_true rfl, Nat.le_of_ble_eq_true rfl⟩) (xk_preV hK hNE (hP.sub (ws' := (wMO G za zz)) [0, 1, 2, 3, 4, 5, 6, 7, 8, 9, 10, 11, 12, 13, 14, 15] rfl) (hD.sub (ws' := (wMO G za zz)) [0, 1, 2, 3, 4, 5, 6, 7, 8, 9, 10, 11, 12, 13, 14, 15] (by decide) rfl) (ci := 3) rfl rfl) rfl rfl hl.1 rfl (lv_room (Nat.le_of_ble_eq_true rfl)) dX3_revisitDay_3 ⟨Nat.le_of_ble_eq_true rfl, Nat.le_of_ble_eq_true rfl⟩) hP hD hS hA [0, 1, 2, 3, 4, 5, 6, 7, 8, 9, 10, 11, 12, 13, 14, 15] [] [0, 1, 2, 3, 4, 5, 6, 7, 8, 9, 10, 11, 12, 13, 14, 15] rfl rfl (by decide) (by decide) rfl (by decide) (fun H locs hP hD hS => ?_)
  have hP : va_P G.1 vwCl (wMO G za zz) H := hP
  have hD : va_D A (wMO G za zz) := hD
  obtain ⟨v2, hv2, h⟩ := sp_b h
  refine xk_jn G A s.heap (wMO G za zz) 3 [(0, .ref (za 0)), (1, .int i1), (2, .int i2)] 30 [.int v2, .ref (za 0)] (fun H locs hP hD hS ls hl => ?_) (fun J2 => ?_)
  · obtain ⟨o3, ho3, h⟩ := sp_b h
    refine xk_ci (va_runV (As := [.int v2]) (rest := []) ⟨hx, hb, hml, hown, hts⟩ (c_X3_can l G za zz v2 o3 ho3 H.size) (cwV 1 hts gX3_revisitDay_X3_can rfl rfl rfl (by decide +kernel) ⟨Nat.le_of_ble_eq_true rfl, Nat.le_of_ble_eq_true rfl⟩) (xk_preV hK hNE (hP.sub (ws' := (wMO G za zz)) [0, 1, 2, 3, 4, 5, 6, 7, 8, 9, 10, 11, 12, 13, 14, 15] rfl) (hD.sub (ws' := (wMO G za zz)) [0, 1, 2, 3, 4, 5, 6, 7, 8, 9, 10, 11, 12, 13, 14, 15] (by decide) rfl) (ci := 3) rfl rfl) rfl rfl hl.1 rfl (lv_room (Nat.le_of_ble_eq_true rfl)) dX3_revisitDay_30 ⟨Nat.le_of_ble_eq_true rfl, Nat.le_of_ble_eq_true rfl⟩) hP hD hS hA [0, 1, 2, 3, 4, 5, 6, 7, 8, 9, 10, 11, 12, 13, 14, 15] [] [0, 1, 2, 3, 4, 5, 6, 7, 8, 9, 10, 11, 12, 13, 14, 15] rfl rfl (by decide) (by decide) rfl (by decide) (fun H locs hP hD hS => ?_)
    have hP : va_P G.1 vwCl (wMO G za (zz.1, zz.2.1, zz.2.2.1, zz.2.2.2.1, zz.2.2.2.2.1, zz.2.2.2.2.2.1, zz.2.2.2.2.2.2.1, zz.2.2.2.2.2.2.2.1, zz.2.2.2.2.2.2.2.2.1, zz.2.2.2.2.2.2.2.2.2.1, zz.2.2.2.2.2.2.2.2.2.2.1, zz.2.2.2.2.2.2.2.2.2.2.2.1, zz.2.2.2.2.2.2.2.2.2.2.2.2.1, zz.2.2.2.2.2.2.2.2.2.2.2.2.2.1, zz.2.2.2.2.2.2.2.2.2.2.2.2.2.2.1, zz.2.2.2.2.2.2.2.2.2.2.2.2.2.2.2.1, zz.2.2.2.2.2.2.2.2.2.2.2.2.2.2.2.2.1, o3.2)) H := hP
    have hD : va_D A (wMO G za (zz.1, zz.2.1, zz.2.2.1, zz.2.2.2.1, zz.2.2.2.2.1, zz.2.2.2.2.2.1, zz.2.2.2.2.2.2.1, zz.2.2.2.2.2.2.2.1, zz.2.2.2.2.2.2.2.2.1, zz.2.2.2.2.2.2.2.2.2.1, zz.2.2.2.2.2.2.2.2.2.2.1, zz.2.2.2.2.2.2.2.2.2.2.2.1, zz.2.2.2.2.2.2.2.2.2.2.2.2.1, zz.2.2.2.2.2.2.2.2.2.2.2.2.2.1, zz.2.2.2.2.2.2.2.2.2.2.2.2.2.2.1, zz.2.2.2.2.2.2.2.2.2.2.2.2.2.2.2.1, zz.2.2.2.2.2.2.2.2.2.2.2.2.2.2.2.2.1, o3.2)) := hD
    refine lv_if_ne (tgt := 38) hx hb dX3_revisitDay_33 (by decide) (fun c4 => ?_) (fun c4 => ?_)
    · have h := sp_f c4 h
      refine lv_aload_n hx hb dX3_revisitDay_38 rfl (lv_at hl 0 rfl) ?_
      obtain ⟨o5, ho5, h⟩ := sp_b h
      refine xk_cv (va_runV (As := []) (rest := []) ⟨hx, hb, hml, hown, hts⟩ (c_X3_plans l G za (zz.1, zz.2.1, zz.2.2.1, zz.2.2.2.1, zz.2.2.2.2.1, zz.2.2.2.2.2.1, zz.2.2.2.2.2.2.1, zz.2.2.2.2.2.2.2.1, zz.2.2.2.2.2.2.2.2.1, zz.2.2.2.2.2.2.2.2.2.1, zz.2.2.2.2.2.2.2.2.2.2.1, zz.2.2.2.2.2.2.2.2.2.2.2.1, zz.2.2.2.2.2.2.2.2.2.2.2.2.1, zz.2.2.2.2.2.2.2.2.2.2.2.2.2.1, zz.2.2.2.2.2.2.2.2.2.2.2.2.2.2.1, zz.2.2.2.2.2.2.2.2.2.2.2.2.2.2.2.1, zz.2.2.2.2.2.2.2.2.2.2.2.2.2.2.2.2.1, o3.2) o5 ho5 H.size) (cwV 0 hts gX3_revisitDay_X3_plans rfl rfl rfl (by decide +kernel) ⟨Nat.le_of_ble_eq_true rfl, Nat.le_of_ble_eq_true rfl⟩) (xk_preV hK hNE (hP.sub (ws' := (wMO G za (zz.1, zz.2.1, zz.2.2.1, zz.2.2.2.1, zz.2.2.2.2.1, zz.2.2.2.2.2.1, zz.2.2.2.2.2.2.1, zz.2.2.2.2.2.2.2.1, zz.2.2.2.2.2.2.2.2.1, zz.2.2.2.2.2.2.2.2.2.1, zz.2.2.2.2.2.2.2.2.2.2.1, zz.2.2.2.2.2.2.2.2.2.2.2.1, zz.2.2.2.2.2.2.2.2.2.2.2.2.1, zz.2.2.2.2.2.2.2.2.2.2.2.2.2.1, zz.2.2.2.2.2.2.2.2.2.2.2.2.2.2.1, zz.2.2.2.2.2.2.2.2.2.2.2.2.2.2.2.1, zz.2.2.2.2.2.2.2.2.2.2.2.2.2.2.2.2.1, o3.2))) [0, 1, 2, 3, 4, 5, 6, 7, 8, 9, 10, 11, 12, 13, 14, 15] rfl) (hD.sub (ws' := (wMO G za (zz.1, zz.2.1, zz.2.2.1, zz.2.2.2.1, zz.2.2.2.2.1, zz.2.2.2.2.2.1, zz.2.2.2.2.2.2.1, zz.2.2.2.2.2.2.2.1, zz.2.2.2.2.2.2.2.2.1, zz.2.2.2.2.2.2.2.2.2.1, zz.2.2.2.2.2.2.2.2.2.2.1, zz.2.2.2.2.2.2.2.2.2.2.2.1, zz.2.2.2.2.2.2.2.2.2.2.2.2.1, zz.2.2.2.2.2.2.2.2.2.2.2.2.2.1, zz.2.2.2.2.2.2.2.2.2.2.2.2.2.2.1, zz.2.2.2.2.2.2.2.2.2.2.2.2.2.2.2.1, zz.2.2.2.2.2.2.2.2.2.2.2.2.2.2.2.2.1, o3.2))) [0, 1, 2, 3, 4, 5, 6, 7, 8, 9, 10, 11, 12, 13, 14, 15] (by decide) rfl) (ci := 3) rfl rfl) rfl rfl hl.1 rfl (lv_room (Nat.le_of_ble_eq_true rfl)) dX3_revisitDay_39 ⟨Nat.le_of_ble_eq_true rfl, Nat.le_of_ble_eq_true rfl⟩) hP hD hS hA [0, 1, 2, 3, 4, 5, 6, 7, 8, 9, 10, 11, 12, 13, 14, 15] [] [0, 1, 2, 3, 4, 5, 6, 7, 8, 9, 10, 11, 12, 13, 14, 15] rfl rfl (by decide) (by decide) rfl (by decide) (fun H locs hP hD hS => ?_)
      have hP : va_P G.1 vwCl (wMO G za (zz.1, zz.2.1, zz.2.2.1, zz.2.2.2.1, zz.2.2.2.2.1, zz.2.2.2.2.2.1, zz.2.2.2.2.2.2.1, zz.2.2.2.2.2.2.2.1, zz.2.2.2.2.2.2.2.2.1, o5.1, o5.2.1, o5.2.2.1, o5.2.2.2.1, o5.2.2.2.2.1, o5.2.2.2.2.2.1, zz.2.2.2.2.2.2.2.2.2.2.2.2.2.2.2.1, o5.2.2.2.2.2.2, o3.2)) H := hP
      have hD : va_D A (wMO G za (zz.1, zz.2.1, zz.2.2.1, zz.2.2.2.1, zz.2.2.2.2.1, zz.2.2.2.2.2.1, zz.2.2.2.2.2.2.1, zz.2.2.2.2.2.2.2.1, zz.2.2.2.2.2.2.2.2.1, o5.1, o5.2.1, o5.2.2.1, o5.2.2.2.1, o5.2.2.2.2.1, o5.2.2.2.2.2.1, zz.2.2.2.2.2.2.2.2.2.2.2.2.2.2.2.1, o5.2.2.2.2.2.2, o3.2)) := hD
      refine lv_aload_n hx hb dX3_revisitDay_42 rfl (lv_at hl 0 rfl) ?_
      refine va_get (D := G.1) (ci := 3) (v := .ref (za 12)) (C := RX3) (T := TX3) (N := 18) hx hb hts hinX3 hown hK hP 0 rfl rfl 12 (by decide) (hts (.fieldLink RX3 44 "LessonWeaveModel" "revisitOn" "[I") (by decide +kernel)) (fun _ h9 => h9) rfl dX3_revisitDay_43 ?_
      refine lv_iconst (v := (3 : Int32)) hx hb dX3_revisitDay_46 (by decide) ?_
      refine lv_iload_n hx hb dX3_revisitDay_47 rfl (lv_at hl 1 rfl) ?_
      refine lv_imul hx hb dX3_revisitDay_48 ?_
      refine lv_iload_n hx hb dX3_revisitDay_49 rfl (lv_at hl 2 rfl) ?_
      refine lv_iadd hx hb dX3_revisitDay_50 ?_
      obtain ⟨hin6, h⟩ := sp_g h
      refine va_iald hx hb hK hP 12 0 rfl rfl hin6 dX3_revisitDay_51 ?_
      obtain rfl := sp_s h
      exact xk_reI hx hb hr hlk hP hD hS rfl dX3_revisitDay_52
    · have h := sp_t c4 h
      refine lv_iconst (v := (0 : Int32)) hx hb dX3_revisitDay_36 (by decide) ?_
      obtain rfl := sp_s h
      exact xk_reI hx hb hr hlk hP hD hS rfl dX3_revisitDay_37
  · have h := hv2
    clear hv2
    refine lv_if_eq (tgt := 29) hx hb dX3_revisitDay_6 (by decide) (fun c7 => ?_) (fun c7 => ?_)
    · have h := sp_t c7 h
      refine lv_iconst (v := (1 : Int32)) hx hb dX3_revisitDay_29 (by decide) ?_
      obtain rfl := sp_s h
      exact J2 _ _ hP hD hS _ (lv_sub hl [0, 1, 2] rfl)
    · have h := sp_f c7 h
      refine lv_iload_n hx hb dX3_revisitDay_9 rfl (lv_at hl 2 rfl) ?_
      refine lv_iconst (v := (0 : Int32)) hx hb dX3_revisitDay_10 (by decide) ?_
      refine lv_aload_n hx hb dX3_revisitDay_11 rfl (lv_at hl 0 rfl) ?_
      refine va_get (D := G.1) (ci := 3) (v := .ref (za 6)) (C := RX3) (T := TX3) (N := 18) hx hb hts hinX3 hown hK hP 0 rfl rfl 6 (by decide) (hts (.fieldLink RX3 25 "LessonWeaveModel" "many" "[I") (by decide +kernel)) (fun _ h9 => h9) rfl dX3_revisitDay_12 ?_
      refine lv_iload_n hx hb dX3_revisitDay_15 rfl (lv_at hl 1 rfl) ?_
      obtain ⟨hin8, h⟩ := sp_g h
      refine va_iald hx hb hK hP 6 0 rfl rfl hin8 dX3_revisitDay_16 ?_
      refine lv_iconst (v := (1 : Int32)) hx hb dX3_revisitDay_17 (by decide) ?_
      refine lv_isub hx hb dX3_revisitDay_18 ?_
      obtain ⟨o9, ho9, h⟩ := sp_b h
      refine xk_ci (va_runS (As := [.int i2, .int (0 : Int32), .int ((zz.2.2.2.2.2.2.1 i1.toNatClampNeg) - (1 : Int32))]) (rest := [.ref (za 0)]) ⟨hx, hb, hml, hown, hts⟩ (c_X3_isIn l G i2 (0 : Int32) ((zz.2.2.2.2.2.2.1 i1.toNatClampNeg) - (1 : Int32)) o9 ho9 H.size) (va_cwS 3 hts gX3_revisitDay_X3_isIn rfl rfl rfl (by decide +kernel) ⟨Nat.le_of_ble_eq_true rfl, Nat.le_of_ble_eq_true rfl⟩) (xk_preS hK hNE (hP.sub (ws' := []) [] rfl) (hD.sub (ws' := []) [] (by decide) rfl)) rfl rfl hl.1 rfl (lv_room (Nat.le_of_ble_eq_true rfl)) dX3_revisitDay_19 ⟨Nat.le_of_ble_eq_true rfl, Nat.le_of_ble_eq_true rfl⟩) hP hD hS hA [] [0, 1, 2, 3, 4, 5, 6, 7, 8, 9, 10, 11, 12, 13, 14, 15] [0, 1, 2, 3, 4, 5, 6, 7, 8, 9, 10, 11, 12, 13, 14, 15] rfl rfl (by decide) (by decide) rfl (by decide) (fun H locs hP hD hS => ?_)
      have hP : va_P G.1 vwCl (wMO G za zz) H := hP
      have hD : va_D A (wMO G za zz) := hD
      refine lv_if_eq (tgt := 29) hx hb dX3_revisitDay_22 (by decide) (fun c10 => ?_) (fun c10 => ?_)
      · have h := sp_t c10 h
        refine lv_iconst (v := (1 : Int32)) hx hb dX3_revisitDay_29 (by decide) ?_
        obtain rfl := sp_s h
        exact J2 _ _ hP hD hS _ (lv_sub hl [0, 1, 2] rfl)
      · have h := sp_f c10 h
        refine lv_iconst (v := (0 : Int32)) hx hb dX3_revisitDay_25 (by decide) ?_
        refine lv_goto (tgt := 30) hx hb dX3_revisitDay_26 (by decide) ?_
        obtain rfl := sp_s h
        exact J2 _ _ hP hD hS _ (lv_sub hl [0, 1, 2] rfl)
def f_X3_laid_l13 (o1 : xF × xF × xF × xF × xF × xF × Int32) : Nat → Int32 → Int32 → Option (Int32)
  | 0, _, _ => none
  | k9 + 1, x2_2, x1_2 =>
    if (100 : Int32) ≤ x2_2 then
      some x1_2
    else
      if x2_2 < 0 ∨ 100 ≤ x2_2.toNatClampNeg then none else
      Option.bind (
        if (o1.2.1 x2_2.toNatClampNeg) = ((-1) : Int32) then
          some (0 : Int32)
        else
          some (1 : Int32)) fun (v6 : Int32) =>
      f_X3_laid_l13 o1 k9 (x2_2 + (1 : Int32)) (x1_2 + v6)
theorem f_X3_laid_l13_z (o1 : xF × xF × xF × xF × xF × xF × Int32) (x2_2 : Int32) (x1_2 : Int32) : f_X3_laid_l13 o1 0 x2_2 x1_2 = none := rfl
theorem f_X3_laid_l13_s (o1 : xF × xF × xF × xF × xF × xF × Int32) (k9 : Nat) (x2_2 : Int32) (x1_2 : Int32) : f_X3_laid_l13 o1 (k9 + 1) x2_2 x1_2 =
    if (100 : Int32) ≤ x2_2 then
      some x1_2
    else
      if x2_2 < 0 ∨ 100 ≤ x2_2.toNatClampNeg then none else
      Option.bind (
        if (o1.2.1 x2_2.toNatClampNeg) = ((-1) : Int32) then
          some (0 : Int32)
        else
          some (1 : Int32)) fun (v6 : Int32) =>
      f_X3_laid_l13 o1 k9 (x2_2 + (1 : Int32)) (x1_2 + v6) := rfl
def f_X3_laid (zz : xMO) : Option (Int32 × xF × xF × xF × xF × xF × xF × Int32 × Int32) :=
  Option.bind (f_X3_plans (zz.1, zz.2.1, zz.2.2.1, zz.2.2.2.1, zz.2.2.2.2.1, zz.2.2.2.2.2.1, zz.2.2.2.2.2.2.1, zz.2.2.2.2.2.2.2.1, zz.2.2.2.2.2.2.2.2.1, zz.2.2.2.2.2.2.2.2.2.1, zz.2.2.2.2.2.2.2.2.2.2.1, zz.2.2.2.2.2.2.2.2.2.2.2.1, zz.2.2.2.2.2.2.2.2.2.2.2.2.1, zz.2.2.2.2.2.2.2.2.2.2.2.2.2.1, zz.2.2.2.2.2.2.2.2.2.2.2.2.2.2.1, zz.2.2.2.2.2.2.2.2.2.2.2.2.2.2.2.1, zz.2.2.2.2.2.2.2.2.2.2.2.2.2.2.2.2.1, (0 : Int32))) fun (o1 : xF × xF × xF × xF × xF × xF × Int32) =>
  Option.bind (f_X3_laid_l13 o1 300 (0 : Int32) (0 : Int32)) fun (w3 : Int32) =>
  some (w3, o1.1, o1.2.1, o1.2.2.1, o1.2.2.2.1, o1.2.2.2.2.1, o1.2.2.2.2.2.1, o1.2.2.2.2.2.2, (0 : Int32))
theorem f_X3_laid_e (zz : xMO) : f_X3_laid zz =
  Option.bind (f_X3_plans (zz.1, zz.2.1, zz.2.2.1, zz.2.2.2.1, zz.2.2.2.2.1, zz.2.2.2.2.2.1, zz.2.2.2.2.2.2.1, zz.2.2.2.2.2.2.2.1, zz.2.2.2.2.2.2.2.2.1, zz.2.2.2.2.2.2.2.2.2.1, zz.2.2.2.2.2.2.2.2.2.2.1, zz.2.2.2.2.2.2.2.2.2.2.2.1, zz.2.2.2.2.2.2.2.2.2.2.2.2.1, zz.2.2.2.2.2.2.2.2.2.2.2.2.2.1, zz.2.2.2.2.2.2.2.2.2.2.2.2.2.2.1, zz.2.2.2.2.2.2.2.2.2.2.2.2.2.2.2.1, zz.2.2.2.2.2.2.2.2.2.2.2.2.2.2.2.2.1, (0 : Int32))) fun (o1 : xF × xF × xF × xF × xF × xF × Int32) =>
  Option.bind (f_X3_laid_l13 o1 300 (0 : Int32) (0 : Int32)) fun (w3 : Int32) =>
  some (w3, o1.1, o1.2.1, o1.2.2.1, o1.2.2.2.1, o1.2.2.2.2.1, o1.2.2.2.2.2.1, o1.2.2.2.2.2.2, (0 : Int32)) := rfl
set_option maxHeartbeats 4000000 in
set_option maxRecDepth 100000 in
theorem c_X3_laid (l : Launch) (G : xG) (za : (Nat → Nat)) (zz : xMO) (o : Int32 × xF × xF × xF × xF × xF × xF × Int32 × Int32) (h : f_X3_laid zz = some o) : xk_CI l yX3_laid wsX3_laid ({ frames := 4, cells := 0, slots := 0, locals := 90 } : Room) 0 0 [.ref (za 0)] G (wMO G za zz) (wMO G za (zz.1, zz.2.1, zz.2.2.1, zz.2.2.2.1, zz.2.2.2.2.1, zz.2.2.2.2.2.1, zz.2.2.2.2.2.2.1, zz.2.2.2.2.2.2.2.1, zz.2.2.2.2.2.2.2.2.1, o.2.1, o.2.2.1, o.2.2.2.1, o.2.2.2.2.1, o.2.2.2.2.2.1, o.2.2.2.2.2.2.1, zz.2.2.2.2.2.2.2.2.2.2.2.2.2.2.2.1, o.2.2.2.2.2.2.2.1, o.2.2.2.2.2.2.2.2)) o.1 := by
  refine xk_CI.of (cc := cX3_laid) (maxL := 3) (ret := (some .int)) (by decide) rfl (Nat.le_of_ble_eq_true rfl) ?_
  intro pr9 en9 s mm9 bl9 meth9 cd9 A ls H locs hx hb hr hml hts hown hlk hA hP hK hD hNE hS hl
  have hown : s.vm.findClass RX3 = some mm9.cls := hown
  have hl : lv_has ls 3 [(0, .ref (za 0))] := hl
  have hinX3 : ∀ w ∈ u_ws RX3 TX3 18, w ∈ wsX3_laid := by decide +kernel
  have h := (f_X3_laid_e zz).symm.trans h
  refine lv_aload_n hx hb dX3_laid_0 rfl (lv_at hl 0 rfl) ?_
  refine lv_iconst (v := (0 : Int32)) hx hb dX3_laid_1 (by decide) ?_
  refine va_put (D := G.1) (ci := 3) (v := .int (0 : Int32)) (ty := .int) (C := RX3) (T := TX3) (N := 18) hx hb hts hinX3 tyX3 tyX3_ok nmX3 hown hK hP hD hS 0 rfl rfl 17 (by decide) (hts (.fieldLink RX3 56 "LessonWeaveModel" "thrown" "I") (by decide +kernel)) (fun _ h9 => h9) rfl (by decide +kernel) rfl rfl (Nat.le_of_ble_eq_true rfl) dX3_laid_2 (fun H locs hP hD hS => ?_)
  have hP : va_P G.1 vwCl (wMO G za (zz.1, zz.2.1, zz.2.2.1, zz.2.2.2.1, zz.2.2.2.2.1, zz.2.2.2.2.2.1, zz.2.2.2.2.2.2.1, zz.2.2.2.2.2.2.2.1, zz.2.2.2.2.2.2.2.2.1, zz.2.2.2.2.2.2.2.2.2.1, zz.2.2.2.2.2.2.2.2.2.2.1, zz.2.2.2.2.2.2.2.2.2.2.2.1, zz.2.2.2.2.2.2.2.2.2.2.2.2.1, zz.2.2.2.2.2.2.2.2.2.2.2.2.2.1, zz.2.2.2.2.2.2.2.2.2.2.2.2.2.2.1, zz.2.2.2.2.2.2.2.2.2.2.2.2.2.2.2.1, zz.2.2.2.2.2.2.2.2.2.2.2.2.2.2.2.2.1, (0 : Int32))) H := hP
  have hD : va_D A (wMO G za (zz.1, zz.2.1, zz.2.2.1, zz.2.2.2.1, zz.2.2.2.2.1, zz.2.2.2.2.2.1, zz.2.2.2.2.2.2.1, zz.2.2.2.2.2.2.2.1, zz.2.2.2.2.2.2.2.2.1, zz.2.2.2.2.2.2.2.2.2.1, zz.2.2.2.2.2.2.2.2.2.2.1, zz.2.2.2.2.2.2.2.2.2.2.2.1, zz.2.2.2.2.2.2.2.2.2.2.2.2.1, zz.2.2.2.2.2.2.2.2.2.2.2.2.2.1, zz.2.2.2.2.2.2.2.2.2.2.2.2.2.2.1, zz.2.2.2.2.2.2.2.2.2.2.2.2.2.2.2.1, zz.2.2.2.2.2.2.2.2.2.2.2.2.2.2.2.2.1, (0 : Int32))) := hD
  refine lv_aload_n hx hb dX3_laid_5 rfl (lv_at hl 0 rfl) ?_
  obtain ⟨o1, ho1, h⟩ := sp_b h
  refine xk_cv (va_runV (As := []) (rest := []) ⟨hx, hb, hml, hown, hts⟩ (c_X3_plans l G za (zz.1, zz.2.1, zz.2.2.1, zz.2.2.2.1, zz.2.2.2.2.1, zz.2.2.2.2.2.1, zz.2.2.2.2.2.2.1, zz.2.2.2.2.2.2.2.1, zz.2.2.2.2.2.2.2.2.1, zz.2.2.2.2.2.2.2.2.2.1, zz.2.2.2.2.2.2.2.2.2.2.1, zz.2.2.2.2.2.2.2.2.2.2.2.1, zz.2.2.2.2.2.2.2.2.2.2.2.2.1, zz.2.2.2.2.2.2.2.2.2.2.2.2.2.1, zz.2.2.2.2.2.2.2.2.2.2.2.2.2.2.1, zz.2.2.2.2.2.2.2.2.2.2.2.2.2.2.2.1, zz.2.2.2.2.2.2.2.2.2.2.2.2.2.2.2.2.1, (0 : Int32)) o1 ho1 H.size) (cwV 0 hts gX3_laid_X3_plans rfl rfl rfl (by decide +kernel) ⟨Nat.le_of_ble_eq_true rfl, Nat.le_of_ble_eq_true rfl⟩) (xk_preV hK hNE (hP.sub (ws' := (wMO G za (zz.1, zz.2.1, zz.2.2.1, zz.2.2.2.1, zz.2.2.2.2.1, zz.2.2.2.2.2.1, zz.2.2.2.2.2.2.1, zz.2.2.2.2.2.2.2.1, zz.2.2.2.2.2.2.2.2.1, zz.2.2.2.2.2.2.2.2.2.1, zz.2.2.2.2.2.2.2.2.2.2.1, zz.2.2.2.2.2.2.2.2.2.2.2.1, zz.2.2.2.2.2.2.2.2.2.2.2.2.1, zz.2.2.2.2.2.2.2.2.2.2.2.2.2.1, zz.2.2.2.2.2.2.2.2.2.2.2.2.2.2.1, zz.2.2.2.2.2.2.2.2.2.2.2.2.2.2.2.1, zz.2.2.2.2.2.2.2.2.2.2.2.2.2.2.2.2.1, (0 : Int32)))) [0, 1, 2, 3, 4, 5, 6, 7, 8, 9, 10, 11, 12, 13, 14, 15] rfl) (hD.sub (ws' := (wMO G za (zz.1, zz.2.1, zz.2.2.1, zz.2.2.2.1, zz.2.2.2.2.1, zz.2.2.2.2.2.1, zz.2.2.2.2.2.2.1, zz.2.2.2.2.2.2.2.1, zz.2.2.2.2.2.2.2.2.1, zz.2.2.2.2.2.2.2.2.2.1, zz.2.2.2.2.2.2.2.2.2.2.1, zz.2.2.2.2.2.2.2.2.2.2.2.1, zz.2.2.2.2.2.2.2.2.2.2.2.2.1, zz.2.2.2.2.2.2.2.2.2.2.2.2.2.1, zz.2.2.2.2.2.2.2.2.2.2.2.2.2.2.1, zz.2.2.2.2.2.2.2.2.2.2.2.2.2.2.2.1, zz.2.2.2.2.2.2.2.2.2.2.2.2.2.2.2.2.1, (0 : Int32)))) [0, 1, 2, 3, 4, 5, 6, 7, 8, 9, 10, 11, 12, 13, 14, 15] (by decide) rfl) (ci := 3) rfl rfl) rfl rfl hl.1 rfl (lv_room (Nat.le_of_ble_eq_true rfl)) dX3_laid_6 ⟨Nat.le_of_ble_eq_true rfl, Nat.le_of_ble_eq_true rfl⟩) hP hD hS hA [0, 1, 2, 3, 4, 5, 6, 7, 8, 9, 10, 11, 12, 13, 14, 15] [] [0, 1, 2, 3, 4, 5, 6, 7, 8, 9, 10, 11, 12, 13, 14, 15] rfl rfl (by decide) (by decide) rfl (by decide) (fun H locs hP hD hS => ?_)
  have hP : va_P G.1 vwCl (wMO G za (zz.1, zz.2.1, zz.2.2.1, zz.2.2.2.1, zz.2.2.2.2.1, zz.2.2.2.2.2.1, zz.2.2.2.2.2.2.1, zz.2.2.2.2.2.2.2.1, zz.2.2.2.2.2.2.2.2.1, o1.1, o1.2.1, o1.2.2.1, o1.2.2.2.1, o1.2.2.2.2.1, o1.2.2.2.2.2.1, zz.2.2.2.2.2.2.2.2.2.2.2.2.2.2.2.1, o1.2.2.2.2.2.2, (0 : Int32))) H := hP
  have hD : va_D A (wMO G za (zz.1, zz.2.1, zz.2.2.1, zz.2.2.2.1, zz.2.2.2.2.1, zz.2.2.2.2.2.1, zz.2.2.2.2.2.2.1, zz.2.2.2.2.2.2.2.1, zz.2.2.2.2.2.2.2.2.1, o1.1, o1.2.1, o1.2.2.1, o1.2.2.2.1, o1.2.2.2.2.1, o1.2.2.2.2.2.1, zz.2.2.2.2.2.2.2.2.2.2.2.2.2.2.2.1, o1.2.2.2.2.2.2, (0 : Int32))) := hD
  refine lv_iconst (v := (0 : Int32)) hx hb dX3_laid_9 (by decide) ?_
  refine lv_istore_n (lv' := [(1, .int (0 : Int32)), (0, .ref (za 0))]) hx hb dX3_laid_10 rfl hl (by decide) rfl (fun ls hl => ?_)
  refine lv_iconst (v := (0 : Int32)) hx hb dX3_laid_11 (by decide) ?_
  refine lv_istore_n (lv' := [(2, .int (0 : Int32)), (1, .int (0 : Int32)), (0, .ref (za 0))]) hx hb dX3_laid_12 rfl hl (by decide) rfl (fun ls hl => ?_)
  obtain ⟨w3, hw3, h⟩ := sp_b h
  refine xk_jn G A s.heap (wMO G za (zz.1, zz.2.1, zz.2.2.1, zz.2.2.2.1, zz.2.2.2.2.1, zz.2.2.2.2.2.1, zz.2.2.2.2.2.2.1, zz.2.2.2.2.2.2.2.1, zz.2.2.2.2.2.2.2.2.1, o1.1, o1.2.1, o1.2.2.1, o1.2.2.2.1, o1.2.2.2.2.1, o1.2.2.2.2.2.1, zz.2.2.2.2.2.2.2.2.2.2.2.2.2.2.2.1, o1.2.2.2.2.2.2, (0 : Int32))) 3 [(1, .int w3)] 43 [] (fun H locs hP hD hS ls hl => ?_) (fun J2 => ?_)
  · refine lv_iload_n hx hb dX3_laid_43 rfl (lv_at hl 0 rfl) ?_
    obtain rfl := sp_s h
    exact xk_reI hx hb hr hlk hP hD hS rfl dX3_laid_44
  · have h := hw3
    clear hw3
    refine xk_lp (α := Int32 × Int32) G A s.heap (fun a_2 => (wMO G za (zz.1, zz.2.1, zz.2.2.1, zz.2.2.2.1, zz.2.2.2.2.1, zz.2.2.2.2.2.1, zz.2.2.2.2.2.2.1, zz.2.2.2.2.2.2.2.1, zz.2.2.2.2.2.2.2.2.1, o1.1, o1.2.1, o1.2.2.1, o1.2.2.2.1, o1.2.2.2.2.1, o1.2.2.2.2.2.1, zz.2.2.2.2.2.2.2.2.2.2.2.2.2.2.2.1, o1.2.2.2.2.2.2, (0 : Int32)))) 3 (fun a_2 => [(2, .int a_2.1), (1, .int a_2.2), (0, .ref (za 0))]) 13 (fun n a_2 => f_X3_laid_l13 o1 n a_2.1 a_2.2 = some w3) (fun a_2 h => ?_) (fun n ih_2 a_2 h H locs hP hD hS ls hl => ?_) (fun LL => ?_)
    · exact sp_n ((f_X3_laid_l13_z _ _ _).symm.trans h)
    · obtain ⟨x2_2, x1_2⟩ := a_2
      have h := (f_X3_laid_l13_s o1 n x2_2 x1_2).symm.trans h
      have hP : va_P G.1 vwCl (wMO G za (zz.1, zz.2.1, zz.2.2.1, zz.2.2.2.1, zz.2.2.2.2.1, zz.2.2.2.2.2.1, zz.2.2.2.2.2.2.1, zz.2.2.2.2.2.2.2.1, zz.2.2.2.2.2.2.2.2.1, o1.1, o1.2.1, o1.2.2.1, o1.2.2.2.1, o1.2.2.2.2.1, o1.2.2.2.2.2.1, zz.2.2.2.2.2.2.2.2.2.2.2.2.2.2.2.1, o1.2.2.2.2.2.2, (0 : Int32))) H := hP
      have hD : va_D A (wMO G za (zz.1, zz.2.1, zz.2.2.1, zz.2.2.2.1, zz.2.2.2.2.1, zz.2.2.2.2.2.1, zz.2.2.2.2.2.2.1, zz.2.2.2.2.2.2.2.1, zz.2.2.2.2.2.2.2.2.1, o1.1, o1.2.1, o1.2.2.1, o1.2.2.2.1, o1.2.2.2.2.1, o1.2.2.2.2.2.1, zz.2.2.2.2.2.2.2.2.2.2.2.2.2.2.2.1, o1.2.2.2.2.2.2, (0 : Int32))) := hD
      have hl : lv_has ls 3 [(2, .int x2_2), (1, .int x1_2), (0, .ref (za 0))] := hl
      refine lv_iload_n hx hb dX3_laid_13 rfl (lv_at hl 0 rfl) ?_
      refine lv_bipush (v := (100 : Int32)) hx hb dX3_laid_14 (by decide) ?_
      refine lv_icmp_ge (tgt := 43) hx hb dX3_laid_16 (by decide) (fun c4 => ?_) (fun c4 => ?_)
      · have h := sp_t c4 h
        obtain rfl := sp_s h
        exact J2 _ _ hP hD hS _ (lv_sub hl [1] rfl)
      · have h := sp_f c4 h
        refine lv_iload_n hx hb dX3_laid_19 rfl (lv_at hl 1 rfl) ?_
        refine lv_aload_n hx hb dX3_laid_20 rfl (lv_at hl 2 rfl) ?_
        refine va_get (D := G.1) (ci := 3) (v := .ref (za 10)) (C := RX3) (T := TX3) (N := 18) hx hb hts hinX3 hown hK hP 0 rfl rfl 10 (by decide) (hts (.fieldLink RX3 38 "LessonWeaveModel" "things" "[I") (by decide +kernel)) (fun _ h9 => h9) rfl dX3_laid_21 ?_
        refine lv_iload_n hx hb dX3_laid_24 rfl (lv_at hl 0 rfl) ?_
        obtain ⟨hin5, h⟩ := sp_g h
        refine va_iald hx hb hK hP 10 0 rfl rfl hin5 dX3_laid_25 ?_
        refine lv_iconst (v := ((-1) : Int32)) hx hb dX3_laid_26 (by decide) ?_
        obtain ⟨v6, hv6, h⟩ := sp_b h
        refine xk_jn G A s.heap (wMO G za (zz.1, zz.2.1, zz.2.2.1, zz.2.2.2.1, zz.2.2.2.2.1, zz.2.2.2.2.2.1, zz.2.2.2.2.2.2.1, zz.2.2.2.2.2.2.2.1, zz.2.2.2.2.2.2.2.2.1, o1.1, o1.2.1, o1.2.2.1, o1.2.2.2.1, o1.2.2.2.2.1, o1.2.2.2.2.2.1, zz.2.2.2.2.2.2.2.2.2.2.2.2.2.2.2.1, o1.2.2.2.2.2.2, (0 : Int32))) 3 [(2, .int x2_2), (0, .ref (za 0))] 35 [.int v6, .int x1_2] (fun H locs hP hD hS ls hl => ?_) (fun J6 => ?_)
        · refine lv_iadd hx hb dX3_laid_35 ?_
          refine lv_istore_n (lv' := [(1, .int (x1_2 + v6)), (2, .int x2_2), (0, .ref (za 0))]) hx hb dX3_laid_36 rfl hl (by decide) rfl (fun ls hl => ?_)
          refine lv_iinc (v := (x2_2 + (1 : Int32))) (lv' := [(2, .int (x2_2 + (1 : Int32))), (1, .int (x1_2 + v6)), (0, .ref (za 0))]) hx hb dX3_laid_37 hl (k := 1) rfl rfl (by decide) rfl (fun ls hl => ?_)
          refine lv_goto (tgt := 13) hx hb dX3_laid_40 (by decide) ?_
          exact ih_2 ((x2_2 + (1 : Int32)), (x1_2 + v6)) h _ _ hP hD hS _ (lv_sub hl [0, 1, 2] rfl)
        · have h := hv6
          clear hv6
          refine lv_icmp_ne (tgt := 34) hx hb dX3_laid_27 (by decide) (fun c7 => ?_) (fun c7 => ?_)
          · have h := sp_f c7 h
            refine lv_iconst (v := (1 : Int32)) hx hb dX3_laid_34 (by decide) ?_
            obtain rfl := sp_s h
            exact J6 _ _ hP hD hS _ (lv_sub hl [0, 2] rfl)
          · have h := sp_t c7 h
            refine lv_iconst (v := (0 : Int32)) hx hb dX3_laid_30 (by decide) ?_
            refine lv_goto (tgt := 35) hx hb dX3_laid_31 (by decide) ?_
            obtain rfl := sp_s h
            exact J6 _ _ hP hD hS _ (lv_sub hl [0, 2] rfl)
    · exact LL 300 ((0 : Int32), (0 : Int32)) h _ _ hP hD hS _ (lv_sub hl [0, 1, 2] rfl)
def f_X3_late (zz : xMO) : Option (Int32 × xF × xF × xF × xF × xF × xF × Int32 × Int32) :=
  Option.bind (f_X3_plans (zz.1, zz.2.1, zz.2.2.1, zz.2.2.2.1, zz.2.2.2.2.1, zz.2.2.2.2.2.1, zz.2.2.2.2.2.2.1, zz.2.2.2.2.2.2.2.1, zz.2.2.2.2.2.2.2.2.1, zz.2.2.2.2.2.2.2.2.2.1, zz.2.2.2.2.2.2.2.2.2.2.1, zz.2.2.2.2.2.2.2.2.2.2.2.1, zz.2.2.2.2.2.2.2.2.2.2.2.2.1, zz.2.2.2.2.2.2.2.2.2.2.2.2.2.1, zz.2.2.2.2.2.2.2.2.2.2.2.2.2.2.1, zz.2.2.2.2.2.2.2.2.2.2.2.2.2.2.2.1, zz.2.2.2.2.2.2.2.2.2.2.2.2.2.2.2.2.1, (0 : Int32))) fun (o1 : xF × xF × xF × xF × xF × xF × Int32) =>
  some (o1.2.2.2.2.2.2, o1.1, o1.2.1, o1.2.2.1, o1.2.2.2.1, o1.2.2.2.2.1, o1.2.2.2.2.2.1, o1.2.2.2.2.2.2, (0 : Int32))
theorem f_X3_late_e (zz : xMO) : f_X3_late zz =
  Option.bind (f_X3_plans (zz.1, zz.2.1, zz.2.2.1, zz.2.2.2.1, zz.2.2.2.2.1, zz.2.2.2.2.2.1, zz.2.2.2.2.2.2.1, zz.2.2.2.2.2.2.2.1, zz.2.2.2.2.2.2.2.2.1, zz.2.2.2.2.2.2.2.2.2.1, zz.2.2.2.2.2.2.2.2.2.2.1, zz.2.2.2.2.2.2.2.2.2.2.2.1, zz.2.2.2.2.2.2.2.2.2.2.2.2.1, zz.2.2.2.2.2.2.2.2.2.2.2.2.2.1, zz.2.2.2.2.2.2.2.2.2.2.2.2.2.2.1, zz.2.2.2.2.2.2.2.2.2.2.2.2.2.2.2.1, zz.2.2.2.2.2.2.2.2.2.2.2.2.2.2.2.2.1, (0 : Int32))) fun (o1 : xF × xF × xF × xF × xF × xF × Int32) =>
  some (o1.2.2.2.2.2.2, o1.1, o1.2.1, o1.2.2.1, o1.2.2.2.1, o1.2.2.2.2.1, o1.2.2.2.2.2.1, o1.2.2.2.2.2.2, (0 : Int32)) := rfl
set_option maxHeartbeats 4000000 in
set_option maxRecDepth 100000 in
theorem c_X3_late (l : Launch) (G : xG) (za : (Nat → Nat)) (zz : xMO) (o : Int32 × xF × xF × xF × xF × xF × xF × Int32 × Int32) (h : f_X3_late zz = some o) : xk_CI l yX3_late wsX3_late ({ frames := 4, cells := 0, slots := 0, locals := 90 } : Room) 0 0 [.ref (za 0)] G (wMO G za zz) (wMO G za (zz.1, zz.2.1, zz.2.2.1, zz.2.2.2.1, zz.2.2.2.2.1, zz.2.2.2.2.2.1, zz.2.2.2.2.2.2.1, zz.2.2.2.2.2.2.2.1, zz.2.2.2.2.2.2.2.2.1, o.2.1, o.2.2.1, o.2.2.2.1, o.2.2.2.2.1, o.2.2.2.2.2.1, o.2.2.2.2.2.2.1, zz.2.2.2.2.2.2.2.2.2.2.2.2.2.2.2.1, o.2.2.2.2.2.2.2.1, o.2.2.2.2.2.2.2.2)) o.1 := by
  refine xk_CI.of (cc := cX3_late) (maxL := 1) (ret := (some .int)) (by decide) rfl (Nat.le_of_ble_eq_true rfl) ?_
  intro pr9 en9 s mm9 bl9 meth9 cd9 A ls H locs hx hb hr hml hts hown hlk hA hP hK hD hNE hS hl
  have hown : s.vm.findClass RX3 = some mm9.cls := hown
  have hl : lv_has ls 1 [(0, .ref (za 0))] := hl
  have hinX3 : ∀ w ∈ u_ws RX3 TX3 18, w ∈ wsX3_late := by decide +kernel
  have h := (f_X3_late_e zz).symm.trans h
  refine lv_aload_n hx hb dX3_late_0 rfl (lv_at hl 0 rfl) ?_
  refine lv_iconst (v := (0 : Int32)) hx hb dX3_late_1 (by decide) ?_
  refine va_put (D := G.1) (ci := 3) (v := .int (0 : Int32)) (ty := .int) (C := RX3) (T := TX3) (N := 18) hx hb hts hinX3 tyX3 tyX3_ok nmX3 hown hK hP hD hS 0 rfl rfl 17 (by decide) (hts (.fieldLink RX3 56 "LessonWeaveModel" "thrown" "I") (by decide +kernel)) (fun _ h9 => h9) rfl (by decide +kernel) rfl rfl (Nat.le_of_ble_eq_true rfl) dX3_late_2 (fun H locs hP hD hS => ?_)
  have hP : va_P G.1 vwCl (wMO G za (zz.1, zz.2.1, zz.2.2.1, zz.2.2.2.1, zz.2.2.2.2.1, zz.2.2.2.2.2.1, zz.2.2.2.2.2.2.1, zz.2.2.2.2.2.2.2.1, zz.2.2.2.2.2.2.2.2.1, zz.2.2.2.2.2.2.2.2.2.1, zz.2.2.2.2.2.2.2.2.2.2.1, zz.2.2.2.2.2.2.2.2.2.2.2.1, zz.2.2.2.2.2.2.2.2.2.2.2.2.1, zz.2.2.2.2.2.2.2.2.2.2.2.2.2.1, zz.2.2.2.2.2.2.2.2.2.2.2.2.2.2.1, zz.2.2.2.2.2.2.2.2.2.2.2.2.2.2.2.1, zz.2.2.2.2.2.2.2.2.2.2.2.2.2.2.2.2.1, (0 : Int32))) H := hP
  have hD : va_D A (wMO G za (zz.1, zz.2.1, zz.2.2.1, zz.2.2.2.1, zz.2.2.2.2.1, zz.2.2.2.2.2.1, zz.2.2.2.2.2.2.1, zz.2.2.2.2.2.2.2.1, zz.2.2.2.2.2.2.2.2.1, zz.2.2.2.2.2.2.2.2.2.1, zz.2.2.2.2.2.2.2.2.2.2.1, zz.2.2.2.2.2.2.2.2.2.2.2.1, zz.2.2.2.2.2.2.2.2.2.2.2.2.1, zz.2.2.2.2.2.2.2.2.2.2.2.2.2.1, zz.2.2.2.2.2.2.2.2.2.2.2.2.2.2.1, zz.2.2.2.2.2.2.2.2.2.2.2.2.2.2.2.1, zz.2.2.2.2.2.2.2.2.2.2.2.2.2.2.2.2.1, (0 : Int32))) := hD
  refine lv_aload_n hx hb dX3_late_5 rfl (lv_at hl 0 rfl) ?_
  obtain ⟨o1, ho1, h⟩ := sp_b h
  refine xk_cv (va_runV (As := []) (rest := []) ⟨hx, hb, hml, hown, hts⟩ (c_X3_plans l G za (zz.1, zz.2.1, zz.2.2.1, zz.2.2.2.1, zz.2.2.2.2.1, zz.2.2.2.2.2.1, zz.2.2.2.2.2.2.1, zz.2.2.2.2.2.2.2.1, zz.2.2.2.2.2.2.2.2.1, zz.2.2.2.2.2.2.2.2.2.1, zz.2.2.2.2.2.2.2.2.2.2.1, zz.2.2.2.2.2.2.2.2.2.2.2.1, zz.2.2.2.2.2.2.2.2.2.2.2.2.1, zz.2.2.2.2.2.2.2.2.2.2.2.2.2.1, zz.2.2.2.2.2.2.2.2.2.2.2.2.2.2.1, zz.2.2.2.2.2.2.2.2.2.2.2.2.2.2.2.1, zz.2.2.2.2.2.2.2.2.2.2.2.2.2.2.2.2.1, (0 : Int32)) o1 ho1 H.size) (cwV 0 hts gX3_late_X3_plans rfl rfl rfl (by decide +kernel) ⟨Nat.le_of_ble_eq_true rfl, Nat.le_of_ble_eq_true rfl⟩) (xk_preV hK hNE (hP.sub (ws' := (wMO G za (zz.1, zz.2.1, zz.2.2.1, zz.2.2.2.1, zz.2.2.2.2.1, zz.2.2.2.2.2.1, zz.2.2.2.2.2.2.1, zz.2.2.2.2.2.2.2.1, zz.2.2.2.2.2.2.2.2.1, zz.2.2.2.2.2.2.2.2.2.1, zz.2.2.2.2.2.2.2.2.2.2.1, zz.2.2.2.2.2.2.2.2.2.2.2.1, zz.2.2.2.2.2.2.2.2.2.2.2.2.1, zz.2.2.2.2.2.2.2.2.2.2.2.2.2.1, zz.2.2.2.2.2.2.2.2.2.2.2.2.2.2.1, zz.2.2.2.2.2.2.2.2.2.2.2.2.2.2.2.1, zz.2.2.2.2.2.2.2.2.2.2.2.2.2.2.2.2.1, (0 : Int32)))) [0, 1, 2, 3, 4, 5, 6, 7, 8, 9, 10, 11, 12, 13, 14, 15] rfl) (hD.sub (ws' := (wMO G za (zz.1, zz.2.1, zz.2.2.1, zz.2.2.2.1, zz.2.2.2.2.1, zz.2.2.2.2.2.1, zz.2.2.2.2.2.2.1, zz.2.2.2.2.2.2.2.1, zz.2.2.2.2.2.2.2.2.1, zz.2.2.2.2.2.2.2.2.2.1, zz.2.2.2.2.2.2.2.2.2.2.1, zz.2.2.2.2.2.2.2.2.2.2.2.1, zz.2.2.2.2.2.2.2.2.2.2.2.2.1, zz.2.2.2.2.2.2.2.2.2.2.2.2.2.1, zz.2.2.2.2.2.2.2.2.2.2.2.2.2.2.1, zz.2.2.2.2.2.2.2.2.2.2.2.2.2.2.2.1, zz.2.2.2.2.2.2.2.2.2.2.2.2.2.2.2.2.1, (0 : Int32)))) [0, 1, 2, 3, 4, 5, 6, 7, 8, 9, 10, 11, 12, 13, 14, 15] (by decide) rfl) (ci := 3) rfl rfl) rfl rfl hl.1 rfl (lv_room (Nat.le_of_ble_eq_true rfl)) dX3_late_6 ⟨Nat.le_of_ble_eq_true rfl, Nat.le_of_ble_eq_true rfl⟩) hP hD hS hA [0, 1, 2, 3, 4, 5, 6, 7, 8, 9, 10, 11, 12, 13, 14, 15] [] [0, 1, 2, 3, 4, 5, 6, 7, 8, 9, 10, 11, 12, 13, 14, 15] rfl rfl (by decide) (by decide) rfl (by decide) (fun H locs hP hD hS => ?_)
  have hP : va_P G.1 vwCl (wMO G za (zz.1, zz.2.1, zz.2.2.1, zz.2.2.2.1, zz.2.2.2.2.1, zz.2.2.2.2.2.1, zz.2.2.2.2.2.2.1, zz.2.2.2.2.2.2.2.1, zz.2.2.2.2.2.2.2.2.1, o1.1, o1.2.1, o1.2.2.1, o1.2.2.2.1, o1.2.2.2.2.1, o1.2.2.2.2.2.1, zz.2.2.2.2.2.2.2.2.2.2.2.2.2.2.2.1, o1.2.2.2.2.2.2, (0 : Int32))) H := hP
  have hD : va_D A (wMO G za (zz.1, zz.2.1, zz.2.2.1, zz.2.2.2.1, zz.2.2.2.2.1, zz.2.2.2.2.2.1, zz.2.2.2.2.2.2.1, zz.2.2.2.2.2.2.2.1, zz.2.2.2.2.2.2.2.2.1, o1.1, o1.2.1, o1.2.2.1, o1.2.2.2.1, o1.2.2.2.2.1, o1.2.2.2.2.2.1, zz.2.2.2.2.2.2.2.2.2.2.2.2.2.2.2.1, o1.2.2.2.2.2.2, (0 : Int32))) := hD
  refine lv_aload_n hx hb dX3_late_9 rfl (lv_at hl 0 rfl) ?_
  refine va_get (D := G.1) (ci := 3) (v := .int o1.2.2.2.2.2.2) (C := RX3) (T := TX3) (N := 18) hx hb hts hinX3 hown hK hP 0 rfl rfl 16 (by decide) (hts (.fieldLink RX3 94 "LessonWeaveModel" "late" "I") (by decide +kernel)) (fun _ h9 => h9) rfl dX3_late_10 ?_
  obtain rfl := sp_s h
  exact xk_reI hx hb hr hlk hP hD hS rfl dX3_late_13
def f_X3_lastDay_l13 (o1 : xF × xF × xF × xF × xF × xF × Int32) : Nat → Int32 → Int32 → Option (Int32)
  | 0, _, _ => none
  | k9 + 1, x2_2, x1_2 =>
    if (100 : Int32) ≤ x2_2 then
      some x1_2
    else
      if x2_2 < 0 ∨ 100 ≤ x2_2.toNatClampNeg then none else
      if (o1.2.1 x2_2.toNatClampNeg) = ((-1) : Int32) then
        f_X3_lastDay_l13 o1 k9 (x2_2 + (1 : Int32)) x1_2
      else
        f_X3_lastDay_l13 o1 k9 (x2_2 + (1 : Int32)) x2_2
theorem f_X3_lastDay_l13_z (o1 : xF × xF × xF × xF × xF × xF × Int32) (x2_2 : Int32) (x1_2 : Int32) : f_X3_lastDay_l13 o1 0 x2_2 x1_2 = none := rfl
theorem f_X3_lastDay_l13_s (o1 : xF × xF × xF × xF × xF × xF × Int32) (k9 : Nat) (x2_2 : Int32) (x1_2 : Int32) : f_X3_lastDay_l13 o1 (k9 + 1) x2_2 x1_2 =
    if (100 : Int32) ≤ x2_2 then
      some x1_2
    else
      if x2_2 < 0 ∨ 100 ≤ x2_2.toNatClampNeg then none else
      if (o1.2.1 x2_2.toNatClampNeg) = ((-1) : Int32) then
        f_X3_lastDay_l13 o1 k9 (x2_2 + (1 : Int32)) x1_2
      else
        f_X3_lastDay_l13 o1 k9 (x2_2 + (1 : Int32)) x2_2 := rfl
def f_X3_lastDay (zz : xMO) : Option (Int32 × xF × xF × xF × xF × xF × xF × Int32 × Int32) :=
  Option.bind (f_X3_plans (zz.1, zz.2.1, zz.2.2.1, zz.2.2.2.1, zz.2.2.2.2.1, zz.2.2.2.2.2.1, zz.2.2.2.2.2.2.1, zz.2.2.2.2.2.2.2.1, zz.2.2.2.2.2.2.2.2.1, zz.2.2.2.2.2.2.2.2.2.1, zz.2.2.2.2.2.2.2.2.2.2.1, zz.2.2.2.2.2.2.2.2.2.2.2.1, zz.2.2.2.2.2.2.2.2.2.2.2.2.1, zz.2.2.2.2.2.2.2.2.2.2.2.2.2.1, zz.2.2.2.2.2.2.2.2.2.2.2.2.2.2.1, zz.2.2.2.2.2.2.2.2.2.2.2.2.2.2.2.1, zz.2.2.2.2.2.2.2.2.2.2.2.2.2.2.2.2.1, (0 : Int32))) fun (o1 : xF × xF × xF × xF × xF × xF × Int32) =>
  Option.bind (f_X3_lastDay_l13 o1 300 (0 : Int32) ((-1) : Int32)) fun (w3 : Int32) =>
  some (w3, o1.1, o1.2.1, o1.2.2.1, o1.2.2.2.1, o1.2.2.2.2.1, o1.2.2.2.2.2.1, o1.2.2.2.2.2.2, (0 : Int32))
theorem f_X3_lastDay_e (zz : xMO) : f_X3_lastDay zz =
  Option.bind (f_X3_plans (zz.1, zz.2.1, zz.2.2.1, zz.2.2.2.1, zz.2.2.2.2.1, zz.2.2.2.2.2.1, zz.2.2.2.2.2.2.1, zz.2.2.2.2.2.2.2.1, zz.2.2.2.2.2.2.2.2.1, zz.2.2.2.2.2.2.2.2.2.1, zz.2.2.2.2.2.2.2.2.2.2.1, zz.2.2.2.2.2.2.2.2.2.2.2.1, zz.2.2.2.2.2.2.2.2.2.2.2.2.1, zz.2.2.2.2.2.2.2.2.2.2.2.2.2.1, zz.2.2.2.2.2.2.2.2.2.2.2.2.2.2.1, zz.2.2.2.2.2.2.2.2.2.2.2.2.2.2.2.1, zz.2.2.2.2.2.2.2.2.2.2.2.2.2.2.2.2.1, (0 : Int32))) fun (o1 : xF × xF × xF × xF × xF × xF × Int32) =>
  Option.bind (f_X3_lastDay_l13 o1 300 (0 : Int32) ((-1) : Int32)) fun (w3 : Int32) =>
  some (w3, o1.1, o1.2.1, o1.2.2.1, o1.2.2.2.1, o1.2.2.2.2.1, o1.2.2.2.2.2.1, o1.2.2.2.2.2.2, (0 : Int32)) := rfl
set_option maxHeartbeats 4000000 in
set_option maxRecDepth 100000 in
theorem c_X3_lastDay (l : Launch) (G : xG) (za : (Nat → Nat)) (zz : xMO) (o : Int32 × xF × xF × xF × xF × xF × xF × Int32 × Int32) (h : f_X3_lastDay zz = some o) : xk_CI l yX3_lastDay wsX3_lastDay ({ frames := 4, cells := 0, slots := 0, locals := 90 } : Room) 0 0 [.ref (za 0)] G (wMO G za zz) (wMO G za (zz.1, zz.2.1, zz.2.2.1, zz.2.2.2.1, zz.2.2.2.2.1, zz.2.2.2.2.2.1, zz.2.2.2.2.2.2.1, zz.2.2.2.2.2.2.2.1, zz.2.2.2.2.2.2.2.2.1, o.2.1, o.2.2.1, o.2.2.2.1, o.2.2.2.2.1, o.2.2.2.2.2.1, o.2.2.2.2.2.2.1, zz.2.2.2.2.2.2.2.2.2.2.2.2.2.2.2.1, o.2.2.2.2.2.2.2.1, o.2.2.2.2.2.2.2.2)) o.1 := by
  refine xk_CI.of (cc := cX3_lastDay) (maxL := 3) (ret := (some .int)) (by decide) rfl (Nat.le_of_ble_eq_true rfl) ?_
  intro pr9 en9 s mm9 bl9 meth9 cd9 A ls H locs hx hb hr hml hts hown hlk hA hP hK hD hNE hS hl
  have hown : s.vm.findClass RX3 = some mm9.cls := hown
  have hl : lv_has ls 3 [(0, .ref (za 0))] := hl
  have hinX3 : ∀ w ∈ u_ws RX3 TX3 18, w ∈ wsX3_lastDay := by decide +kernel
  have h := (f_X3_lastDay_e zz).symm.trans h
  refine lv_aload_n hx hb dX3_lastDay_0 rfl (lv_at hl 0 rfl) ?_
  refine lv_iconst (v := (0 : Int32)) hx hb dX3_lastDay_1 (by decide) ?_
  refine va_put (D := G.1) (ci := 3) (v := .int (0 : Int32)) (ty := .int) (C := RX3) (T := TX3) (N := 18) hx hb hts hinX3 tyX3 tyX3_ok nmX3 hown hK hP hD hS 0 rfl rfl 17 (by decide) (hts (.fieldLink RX3 56 "LessonWeaveModel" "thrown" "I") (by decide +kernel)) (fun _ h9 => h9) rfl (by decide +kernel) rfl rfl (Nat.le_of_ble_eq_true rfl) dX3_lastDay_2 (fun H locs hP hD hS => ?_)
  have hP : va_P G.1 vwCl (wMO G za (zz.1, zz.2.1, zz.2.2.1, zz.2.2.2.1, zz.2.2.2.2.1, zz.2.2.2.2.2.1, zz.2.2.2.2.2.2.1, zz.2.2.2.2.2.2.2.1, zz.2.2.2.2.2.2.2.2.1, zz.2.2.2.2.2.2.2.2.2.1, zz.2.2.2.2.2.2.2.2.2.2.1, zz.2.2.2.2.2.2.2.2.2.2.2.1, zz.2.2.2.2.2.2.2.2.2.2.2.2.1, zz.2.2.2.2.2.2.2.2.2.2.2.2.2.1, zz.2.2.2.2.2.2.2.2.2.2.2.2.2.2.1, zz.2.2.2.2.2.2.2.2.2.2.2.2.2.2.2.1, zz.2.2.2.2.2.2.2.2.2.2.2.2.2.2.2.2.1, (0 : Int32))) H := hP
  have hD : va_D A (wMO G za (zz.1, zz.2.1, zz.2.2.1, zz.2.2.2.1, zz.2.2.2.2.1, zz.2.2.2.2.2.1, zz.2.2.2.2.2.2.1, zz.2.2.2.2.2.2.2.1, zz.2.2.2.2.2.2.2.2.1, zz.2.2.2.2.2.2.2.2.2.1, zz.2.2.2.2.2.2.2.2.2.2.1, zz.2.2.2.2.2.2.2.2.2.2.2.1, zz.2.2.2.2.2.2.2.2.2.2.2.2.1, zz.2.2.2.2.2.2.2.2.2.2.2.2.2.1, zz.2.2.2.2.2.2.2.2.2.2.2.2.2.2.1, zz.2.2.2.2.2.2.2.2.2.2.2.2.2.2.2.1, zz.2.2.2.2.2.2.2.2.2.2.2.2.2.2.2.2.1, (0 : Int32))) := hD
  refine lv_aload_n hx hb dX3_lastDay_5 rfl (lv_at hl 0 rfl) ?_
  obtain ⟨o1, ho1, h⟩ := sp_b h
  refine xk_cv (va_runV (As := []) (rest := []) ⟨hx, hb, hml, hown, hts⟩ (c_X3_plans l G za (zz.1, zz.2.1, zz.2.2.1, zz.2.2.2.1, zz.2.2.2.2.1, zz.2.2.2.2.2.1, zz.2.2.2.2.2.2.1, zz.2.2.2.2.2.2.2.1, zz.2.2.2.2.2.2.2.2.1, zz.2.2.2.2.2.2.2.2.2.1, zz.2.2.2.2.2.2.2.2.2.2.1, zz.2.2.2.2.2.2.2.2.2.2.2.1, zz.2.2.2.2.2.2.2.2.2.2.2.2.1, zz.2.2.2.2.2.2.2.2.2.2.2.2.2.1, zz.2.2.2.2.2.2.2.2.2.2.2.2.2.2.1, zz.2.2.2.2.2.2.2.2.2.2.2.2.2.2.2.1, zz.2.2.2.2.2.2.2.2.2.2.2.2.2.2.2.2.1, (0 : Int32)) o1 ho1 H.size) (cwV 0 hts gX3_lastDay_X3_plans rfl rfl rfl (by decide +kernel) ⟨Nat.le_of_ble_eq_true rfl, Nat.le_of_ble_eq_true rfl⟩) (xk_preV hK hNE (hP.sub (ws' := (wMO G za (zz.1, zz.2.1, zz.2.2.1, zz.2.2.2.1, zz.2.2.2.2.1, zz.2.2.2.2.2.1, zz.2.2.2.2.2.2.1, zz.2.2.2.2.2.2.2.1, zz.2.2.2.2.2.2.2.2.1, zz.2.2.2.2.2.2.2.2.2.1, zz.2.2.2.2.2.2.2.2.2.2.1, zz.2.2.2.2.2.2.2.2.2.2.2.1, zz.2.2.2.2.2.2.2.2.2.2.2.2.1, zz.2.2.2.2.2.2.2.2.2.2.2.2.2.1, zz.2.2.2.2.2.2.2.2.2.2.2.2.2.2.1, zz.2.2.2.2.2.2.2.2.2.2.2.2.2.2.2.1, zz.2.2.2.2.2.2.2.2.2.2.2.2.2.2.2.2.1, (0 : Int32)))) [0, 1, 2, 3, 4, 5, 6, 7, 8, 9, 10, 11, 12, 13, 14, 15] rfl) (hD.sub (ws' := (wMO G za (zz.1, zz.2.1, zz.2.2.1, zz.2.2.2.1, zz.2.2.2.2.1, zz.2.2.2.2.2.1, zz.2.2.2.2.2.2.1, zz.2.2.2.2.2.2.2.1, zz.2.2.2.2.2.2.2.2.1, zz.2.2.2.2.2.2.2.2.2.1, zz.2.2.2.2.2.2.2.2.2.2.1, zz.2.2.2.2.2.2.2.2.2.2.2.1, zz.2.2.2.2.2.2.2.2.2.2.2.2.1, zz.2.2.2.2.2.2.2.2.2.2.2.2.2.1, zz.2.2.2.2.2.2.2.2.2.2.2.2.2.2.1, zz.2.2.2.2.2.2.2.2.2.2.2.2.2.2.2.1, zz.2.2.2.2.2.2.2.2.2.2.2.2.2.2.2.2.1, (0 : Int32)))) [0, 1, 2, 3, 4, 5, 6, 7, 8, 9, 10, 11, 12, 13, 14, 15] (by decide) rfl) (ci := 3) rfl rfl) rfl rfl hl.1 rfl (lv_room (Nat.le_of_ble_eq_true rfl)) dX3_lastDay_6 ⟨Nat.le_of_ble_eq_true rfl, Nat.le_of_ble_eq_true rfl⟩) hP hD hS hA [0, 1, 2, 3, 4, 5, 6, 7, 8, 9, 10, 11, 12, 13, 14, 15] [] [0, 1, 2, 3, 4, 5, 6, 7, 8, 9, 10, 11, 12, 13, 14, 15] rfl rfl (by decide) (by decide) rfl (by decide) (fun H locs hP hD hS => ?_)
  have hP : va_P G.1 vwCl (wMO G za (zz.1, zz.2.1, zz.2.2.1, zz.2.2.2.1, zz.2.2.2.2.1, zz.2.2.2.2.2.1, zz.2.2.2.2.2.2.1, zz.2.2.2.2.2.2.2.1, zz.2.2.2.2.2.2.2.2.1, o1.1, o1.2.1, o1.2.2.1, o1.2.2.2.1, o1.2.2.2.2.1, o1.2.2.2.2.2.1, zz.2.2.2.2.2.2.2.2.2.2.2.2.2.2.2.1, o1.2.2.2.2.2.2, (0 : Int32))) H := hP
  have hD : va_D A (wMO G za (zz.1, zz.2.1, zz.2.2.1, zz.2.2.2.1, zz.2.2.2.2.1, zz.2.2.2.2.2.1, zz.2.2.2.2.2.2.1, zz.2.2.2.2.2.2.2.1, zz.2.2.2.2.2.2.2.2.1, o1.1, o1.2.1, o1.2.2.1, o1.2.2.2.1, o1.2.2.2.2.1, o1.2.2.2.2.2.1, zz.2.2.2.2.2.2.2.2.2.2.2.2.2.2.2.1, o1.2.2.2.2.2.2, (0 : Int32))) := hD
  refine lv_iconst (v := ((-1) : Int32)) hx hb dX3_lastDay_9 (by decide) ?_
  refine lv_istore_n (lv' := [(1, .int ((-1) : Int32)), (0, .ref (za 0))]) hx hb dX3_lastDay_10 rfl hl (by decide) rfl (fun ls hl => ?_)
  refine lv_iconst (v := (0 : Int32)) hx hb dX3_lastDay_11 (by decide) ?_
  refine lv_istore_n (lv' := [(2, .int (0 : Int32)), (1, .int ((-1) : Int32)), (0, .ref (za 0))]) hx hb dX3_lastDay_12 rfl hl (by decide) rfl (fun ls hl => ?_)
  obtain ⟨w3, hw3, h⟩ := sp_b h
  refine xk_jn G A s.heap (wMO G za (zz.1, zz.2.1, zz.2.2.1, zz.2.2.2.1, zz.2.2.2.2.1, zz.2.2.2.2.2.1, zz.2.2.2.2.2.2.1, zz.2.2.2.2.2.2.2.1, zz.2.2.2.2.2.2.2.2.1, o1.1, o1.2.1, o1.2.2.1, o1.2.2.2.1, o1.2.2.2.2.1, o1.2.2.2.2.2.1, zz.2.2.2.2.2.2.2.2.2.2.2.2.2.2.2.1, o1.2.2.2.2.2.2, (0 : Int32))) 3 [(1, .int w3)] 41 [] (fun H locs hP hD hS ls hl => ?_) (fun J2 => ?_)
  · refine lv_iload_n hx hb dX3_lastDay_41 rfl (lv_at hl 0 rfl) ?_
    obtain rfl := sp_s h
    exact xk_reI hx hb hr hlk hP hD hS rfl dX3_lastDay_42
  · have h := hw3
    clear hw3
    refine xk_lp (α := Int32 × Int32) G A s.heap (fun a_2 => (wMO G za (zz.1, zz.2.1, zz.2.2.1, zz.2.2.2.1, zz.2.2.2.2.1, zz.2.2.2.2.2.1, zz.2.2.2.2.2.2.1, zz.2.2.2.2.2.2.2.1, zz.2.2.2.2.2.2.2.2.1, o1.1, o1.2.1, o1.2.2.1, o1.2.2.2.1, o1.2.2.2.2.1, o1.2.2.2.2.2.1, zz.2.2.2.2.2.2.2.2.2.2.2.2.2.2.2.1, o1.2.2.2.2.2.2, (0 : Int32)))) 3 (fun a_2 => [(2, .int a_2.1), (1, .int a_2.2), (0, .ref (za 0))]) 13 (fun n a_2 => f_X3_lastDay_l13 o1 n a_2.1 a_2.2 = some w3) (fun a_2 h => ?_) (fun n ih_2 a_2 h H locs hP hD hS ls hl => ?_) (fun LL => ?_)
    · exact sp_n ((f_X3_lastDay_l13_z _ _ _).symm.trans h)
    · obtain ⟨x2_2, x1_2⟩ := a_2
      have h := (f_X3_lastDay_l13_s o1 n x2_2 x1_2).symm.trans h
      have hP : va_P G.1 vwCl (wMO G za (zz.1, zz.2.1, zz.2.2.1, zz.2.2.2.1, zz.2.2.2.2.1, zz.2.2.2.2.2.1, zz.2.2.2.2.2.2.1, zz.2.2.2.2.2.2.2.1, zz.2.2.2.2.2.2.2.2.1, o1.1, o1.2.1, o1.2.2.1, o1.2.2.2.1, o1.2.2.2.2.1, o1.2.2.2.2.2.1, zz.2.2.2.2.2.2.2.2.2.2.2.2.2.2.2.1, o1.2.2.2.2.2.2, (0 : Int32))) H := hP
      have hD : va_D A (wMO G za (zz.1, zz.2.1, zz.2.2.1, zz.2.2.2.1, zz.2.2.2.2.1, zz.2.2.2.2.2.1, zz.2.2.2.2.2.2.1, zz.2.2.2.2.2.2.2.1, zz.2.2.2.2.2.2.2.2.1, o1.1, o1.2.1, o1.2.2.1, o1.2.2.2.1, o1.2.2.2.2.1, o1.2.2.2.2.2.1, zz.2.2.2.2.2.2.2.2.2.2.2.2.2.2.2.1, o1.2.2.2.2.2.2, (0 : Int32))) := hD
      have hl : lv_has ls 3 [(2, .int x2_2), (1, .int x1_2), (0, .ref (za 0))] := hl
      refine lv_iload_n hx hb dX3_lastDay_13 rfl (lv_at hl 0 rfl) ?_
      refine lv_bipush (v := (100 : Int32)) hx hb dX3_lastDay_14 (by decide) ?_
      refine lv_icmp_ge (tgt := 41) hx hb dX3_lastDay_16 (by decide) (fun c4 => ?_) (fun c4 => ?_)
      · have h := sp_t c4 h
        obtain rfl := sp_s h
        exact J2 _ _ hP hD hS _ (lv_sub hl [1] rfl)
      · have h := sp_f c4 h
        refine lv_aload_n hx hb dX3_lastDay_19 rfl (lv_at hl 2 rfl) ?_
        refine va_get (D := G.1) (ci := 3) (v := .ref (za 10)) (C := RX3) (T := TX3) (N := 18) hx hb hts hinX3 hown hK hP 0 rfl rfl 10 (by decide) (hts (.fieldLink RX3 38 "LessonWeaveModel" "things" "[I") (by decide +kernel)) (fun _ h9 => h9) rfl dX3_lastDay_20 ?_
        refine lv_iload_n hx hb dX3_lastDay_23 rfl (lv_at hl 0 rfl) ?_
        obtain ⟨hin5, h⟩ := sp_g h
        refine va_iald hx hb hK hP 10 0 rfl rfl hin5 dX3_lastDay_24 ?_
        refine lv_iconst (v := ((-1) : Int32)) hx hb dX3_lastDay_25 (by decide) ?_
        refine lv_icmp_ne (tgt := 33) hx hb dX3_lastDay_26 (by decide) (fun c6 => ?_) (fun c6 => ?_)
        · have h := sp_f c6 h
          refine lv_iload_n hx hb dX3_lastDay_33 rfl (lv_at hl 0 rfl) ?_
          refine lv_istore_n (lv' := [(1, .int x2_2), (2, .int x2_2), (0, .ref (za 0))]) hx hb dX3_lastDay_34 rfl hl (by decide) rfl (fun ls hl => ?_)
          refine lv_iinc (v := (x2_2 + (1 : Int32))) (lv' := [(2, .int (x2_2 + (1 : Int32))), (1, .int x2_2), (0, .ref (za 0))]) hx hb dX3_lastDay_35 hl (k := 1) rfl rfl (by decide) rfl (fun ls hl => ?_)
          refine lv_goto (tgt := 13) hx hb dX3_lastDay_38 (by decide) ?_
          exact ih_2 ((x2_2 + (1 : Int32)), x2_2) h _ _ hP hD hS _ (lv_sub hl [0, 1, 2] rfl)
        · have h := sp_t c6 h
          refine lv_iload_n hx hb dX3_lastDay_29 rfl (lv_at hl 1 rfl) ?_
          refine lv_goto (tgt := 34) hx hb dX3_lastDay_30 (by decide) ?_
          refine lv_istore_n (lv' := [(1, .int x1_2), (2, .int x2_2), (0, .ref (za 0))]) hx hb dX3_lastDay_34 rfl hl (by decide) rfl (fun ls hl => ?_)
          refine lv_iinc (v := (x2_2 + (1 : Int32))) (lv' := [(2, .int (x2_2 + (1 : Int32))), (1, .int x1_2), (0, .ref (za 0))]) hx hb dX3_lastDay_35 hl (k := 1) rfl rfl (by decide) rfl (fun ls hl => ?_)
          refine lv_goto (tgt := 13) hx hb dX3_lastDay_38 (by decide) ?_
          exact ih_2 ((x2_2 + (1 : Int32)), x1_2) h _ _ hP hD hS _ (lv_sub hl [0, 1, 2] rfl)
    · exact LL 300 ((0 : Int32), ((-1) : Int32)) h _ _ hP hD hS _ (lv_sub hl [0, 1, 2] rfl)
def f_X3_isClosed_l4 (zz : xMO) (i1 : Int32) : Nat → Int32 → Int32 → Option (Int32)
  | 0, _, _ => none
  | k9 + 1, x3_1, x2_1 =>
    if zz.1 ≤ x3_1 then
      some x2_1
    else
      if x2_1 = 0 then
        f_X3_isClosed_l4 zz i1 k9 (x3_1 + (1 : Int32)) (0 : Int32)
      else
        if ((i1 >>> (x3_1 &&& 31)) &&& (1 : Int32)) = 0 then
          f_X3_isClosed_l4 zz i1 k9 (x3_1 + (1 : Int32)) (1 : Int32)
        else
          if x3_1 < 0 ∨ 12 ≤ x3_1.toNatClampNeg then none else
          if ((zz.2.2.2.2.2.1 x3_1.toNatClampNeg) &&& (i1 ^^^ ((-1) : Int32))) = 0 then
            f_X3_isClosed_l4 zz i1 k9 (x3_1 + (1 : Int32)) (1 : Int32)
          else
            f_X3_isClosed_l4 zz i1 k9 (x3_1 + (1 : Int32)) (0 : Int32)
theorem f_X3_isClosed_l4_z (zz : xMO) (i1 : Int32) (x3_1 : Int32) (x2_1 : Int32) : f_X3_isClosed_l4 zz i1 0 x3_1 x2_1 = none := rfl
theorem f_X3_isClosed_l4_s (zz : xMO) (i1 : Int32) (k9 : Nat) (x3_1 : Int32) (x2_1 : Int32) : f_X3_isClosed_l4 zz i1 (k9 + 1) x3_1 x2_1 =
    if zz.1 ≤ x3_1 then
      some x2_1
    else
      if x2_1 = 0 then
        f_X3_isClosed_l4 zz i1 k9 (x3_1 + (1 : Int32)) (0 : Int32)
      else
        if ((i1 >>> (x3_1 &&& 31)) &&& (1 : Int32)) = 0 then
          f_X3_isClosed_l4 zz i1 k9 (x3_1 + (1 : Int32)) (1 : Int32)
        else
          if x3_1 < 0 ∨ 12 ≤ x3_1.toNatClampNeg then none else
          if ((zz.2.2.2.2.2.1 x3_1.toNatClampNeg) &&& (i1 ^^^ ((-1) : Int32))) = 0 then
            f_X3_isClosed_l4 zz i1 k9 (x3_1 + (1 : Int32)) (1 : Int32)
          else
            f_X3_isClosed_l4 zz i1 k9 (x3_1 + (1 : Int32)) (0 : Int32) := rfl
def f_X3_isClosed (zz : xMO) (i1 : Int32) : Option (Int32) :=
  Option.bind (f_X3_isClosed_l4 zz i1 300 (0 : Int32) (1 : Int32)) fun (w2 : Int32) =>
  if w2 &&& 1 = w2 then some w2 else none
theorem f_X3_isClosed_e (zz : xMO) (i1 : Int32) : f_X3_isClosed zz i1 =
  Option.bind (f_X3_isClosed_l4 zz i1 300 (0 : Int32) (1 : Int32)) fun (w2 : Int32) =>
  if w2 &&& 1 = w2 then some w2 else none := rfl
set_option maxHeartbeats 4000000 in
set_option maxRecDepth 100000 in
theorem c_X3_isClosed (l : Launch) (G : xG) (za : (Nat → Nat)) (zz : xMO) (i1 : Int32) (o : Int32) (h : f_X3_isClosed zz i1 = some o) : xk_CI l yX3_isClosed wsX3_isClosed ({ frames := 0, cells := 0, slots := 0, locals := 0 } : Room) 0 0 [.ref (za 0), .int i1] G (wMO G za zz) (wMO G za zz) o := by
  refine xk_CI.of (cc := cX3_isClosed) (maxL := 4) (ret := (some .boolean)) (by decide) rfl (Nat.le_of_ble_eq_true rfl) ?_
  intro pr9 en9 s mm9 bl9 meth9 cd9 A ls H locs hx hb hr hml hts hown hlk hA hP hK hD hNE hS hl
  have hown : s.vm.findClass RX3 = some mm9.cls := hown
  have hl : lv_has ls 4 [(0, .ref (za 0)), (1, .int i1)] := hl
  have hinX3 : ∀ w ∈ u_ws RX3 TX3 18, w ∈ wsX3_isClosed := by decide +kernel
  have h := (f_X3_isClosed_e zz i1).symm.trans h
  refine lv_iconst (v := (1 : Int32)) hx hb dX3_isClosed_0 (by decide) ?_
  refine lv_istore_n (lv' := [(2, .int (1 : Int32)), (0, .ref (za 0)), (1, .int i1)]) hx hb dX3_isClosed_1 rfl hl (by decide) rfl (fun ls hl => ?_)
  refine lv_iconst (v := (0 : Int32)) hx hb dX3_isClosed_2 (by decide) ?_
  refine lv_istore_n (lv' := [(3, .int (0 : Int32)), (2, .int (1 : Int32)), (0, .ref (za 0)), (1, .int i1)]) hx hb dX3_isClosed_3 rfl hl (by decide) rfl (fun ls hl => ?_)
  obtain ⟨w2, hw2, h⟩ := sp_b h
  refine xk_jn G A s.heap (wMO G za zz) 4 [(2, .int w2)] 49 [] (fun H locs hP hD hS ls hl => ?_) (fun J1 => ?_)
  · refine lv_iload_n hx hb dX3_isClosed_49 rfl (lv_at hl 0 rfl) ?_
    obtain ⟨hz, h⟩ := sp_c h
    obtain rfl := sp_s h
    exact xk_reZ hx hb hr hlk (xk_nar hz) hP hD hS rfl dX3_isClosed_50
  · have h := hw2
    clear hw2
    refine xk_lp (α := Int32 × Int32) G A s.heap (fun a_1 => (wMO G za zz)) 4 (fun a_1 => [(3, .int a_1.1), (2, .int a_1.2), (0, .ref (za 0)), (1, .int i1)]) 4 (fun n a_1 => f_X3_isClosed_l4 zz i1 n a_1.1 a_1.2 = some w2) (fun a_1 h => ?_) (fun n ih_1 a_1 h H locs hP hD hS ls hl => ?_) (fun LL => ?_)
    · exact sp_n ((f_X3_isClosed_l4_z _ _ _ _).symm.trans h)
    · obtain ⟨x3_1, x2_1⟩ := a_1
      have h := (f_X3_isClosed_l4_s zz i1 n x3_1 x2_1).symm.trans h
      have hP : va_P G.1 vwCl (wMO G za zz) H := hP
      have hD : va_D A (wMO G za zz) := hD
      have hl : lv_has ls 4 [(3, .int x3_1), (2, .int x2_1), (0, .ref (za 0)), (1, .int i1)] := hl
      refine lv_iload_n hx hb dX3_isClosed_4 rfl (lv_at hl 0 rfl) ?_
      refine lv_aload_n hx hb dX3_isClosed_5 rfl (lv_at hl 2 rfl) ?_
      refine va_get (D := G.1) (ci := 3) (v := .int zz.1) (C := RX3) (T := TX3) (N := 18) hx hb hts hinX3 hown hK hP 0 rfl rfl 0 (by decide) (hts (.fieldLink RX3 60 "LessonWeaveModel" "aims" "I") (by decide +kernel)) (fun _ h9 => h9) rfl dX3_isClosed_6 ?_
      refine lv_icmp_ge (tgt := 49) hx hb dX3_isClosed_9 (by decide) (fun c3 => ?_) (fun c3 => ?_)
      · have h := sp_t c3 h
        obtain rfl := sp_s h
        exact J1 _ _ hP hD hS _ (lv_sub hl [1] rfl)
      · have h := sp_f c3 h
        refine lv_iload_n hx hb dX3_isClosed_12 rfl (lv_at hl 1 rfl) ?_
        refine lv_if_eq (tgt := 41) hx hb dX3_isClosed_13 (by decide) (fun c4 => ?_) (fun c4 => ?_)
        · have h := sp_t c4 h
          refine lv_iconst (v := (0 : Int32)) hx hb dX3_isClosed_41 (by decide) ?_
          refine lv_istore_n (lv' := [(2, .int (0 : Int32)), (3, .int x3_1), (0, .ref (za 0)), (1, .int i1)]) hx hb dX3_isClosed_42 rfl hl (by decide) rfl (fun ls hl => ?_)
          refine lv_iinc (v := (x3_1 + (1 : Int32))) (lv' := [(3, .int (x3_1 + (1 : Int32))), (2, .int (0 : Int32)), (0, .ref (za 0)), (1, .int i1)]) hx hb dX3_isClosed_43 hl (k := 1) rfl rfl (by decide) rfl (fun ls hl => ?_)
          refine lv_goto (tgt := 4) hx hb dX3_isClosed_46 (by decide) ?_
          exact ih_1 ((x3_1 + (1 : Int32)), (0 : Int32)) h _ _ hP hD hS _ (lv_sub hl [0, 1, 2, 3] rfl)
        · have h := sp_f c4 h
          refine lv_iload_n hx hb dX3_isClosed_16 rfl (lv_at hl 3 rfl) ?_
          refine lv_iload_n hx hb dX3_isClosed_17 rfl (lv_at hl 0 rfl) ?_
          refine lv_ishr hx hb dX3_isClosed_18 ?_
          refine lv_iconst (v := (1 : Int32)) hx hb dX3_isClosed_19 (by decide) ?_
          refine lv_iand hx hb dX3_isClosed_20 ?_
          refine lv_if_eq (tgt := 37) hx hb dX3_isClosed_21 (by decide) (fun c5 => ?_) (fun c5 => ?_)
          · have h := sp_t c5 h
            refine lv_iconst (v := (1 : Int32)) hx hb dX3_isClosed_37 (by decide) ?_
            refine lv_goto (tgt := 42) hx hb dX3_isClosed_38 (by decide) ?_
            refine lv_istore_n (lv' := [(2, .int (1 : Int32)), (3, .int x3_1), (0, .ref (za 0)), (1, .int i1)]) hx hb dX3_isClosed_42 rfl hl (by decide) rfl (fun ls hl => ?_)
            refine lv_iinc (v := (x3_1 + (1 : Int32))) (lv' := [(3, .int (x3_1 + (1 : Int32))), (2, .int (1 : Int32)), (0, .ref (za 0)), (1, .int i1)]) hx hb dX3_isClosed_43 hl (k := 1) rfl rfl (by decide) rfl (fun ls hl => ?_)
            refine lv_goto (tgt := 4) hx hb dX3_isClosed_46 (by decide) ?_
            exact ih_1 ((x3_1 + (1 : Int32)), (1 : Int32)) h _ _ hP hD hS _ (lv_sub hl [0, 1, 2, 3] rfl)
          · have h := sp_f c5 h
            refine lv_aload_n hx hb dX3_isClosed_24 rfl (lv_at hl 2 rfl) ?_
            refine va_get (D := G.1) (ci := 3) (v := .ref (za 5)) (C := RX3) (T := TX3) (N := 18) hx hb hts hinX3 hown hK hP 0 rfl rfl 5 (by decide) (hts (.fieldLink RX3 22 "LessonWeaveModel" "needs" "[I") (by decide +kernel)) (fun _ h9 => h9) rfl dX3_isClosed_25 ?_
            refine lv_iload_n hx hb dX3_isClosed_28 rfl (lv_at hl 0 rfl) ?_
            obtain ⟨hin6, h⟩ := sp_g h
            refine va_iald hx hb hK hP 5 0 rfl rfl hin6 dX3_isClosed_29 ?_
            refine lv_iload_n hx hb dX3_isClosed_30 rfl (lv_at hl 3 rfl) ?_
            refine lv_iconst (v := ((-1) : Int32)) hx hb dX3_isClosed_31 (by decide) ?_
            refine lv_ixor hx hb dX3_isClosed_32 ?_
            refine lv_iand hx hb dX3_isClosed_33 ?_
            refine lv_if_ne (tgt := 41) hx hb dX3_isClosed_34 (by decide) (fun c7 => ?_) (fun c7 => ?_)
            · have h := sp_f c7 h
              refine lv_iconst (v := (0 : Int32)) hx hb dX3_isClosed_41 (by decide) ?_
              refine lv_istore_n (lv' := [(2, .int (0 : Int32)), (3, .int x3_1), (0, .ref (za 0)), (1, .int i1)]) hx hb dX3_isClosed_42 rfl hl (by decide) rfl (fun ls hl => ?_)
              refine lv_iinc (v := (x3_1 + (1 : Int32))) (lv' := [(3, .int (x3_1 + (1 : Int32))), (2, .int (0 : Int32)), (0, .ref (za 0)), (1, .int i1)]) hx hb dX3_isClosed_43 hl (k := 1) rfl rfl (by decide) rfl (fun ls hl => ?_)
              refine lv_goto (tgt := 4) hx hb dX3_isClosed_46 (by decide) ?_
              exact ih_1 ((x3_1 + (1 : Int32)), (0 : Int32)) h _ _ hP hD hS _ (lv_sub hl [0, 1, 2, 3] rfl)
            · have h := sp_t c7 h
              refine lv_iconst (v := (1 : Int32)) hx hb dX3_isClosed_37 (by decide) ?_
              refine lv_goto (tgt := 42) hx hb dX3_isClosed_38 (by decide) ?_
              refine lv_istore_n (lv' := [(2, .int (1 : Int32)), (3, .int x3_1), (0, .ref (za 0)), (1, .int i1)]) hx hb dX3_isClosed_42 rfl hl (by decide) rfl (fun ls hl => ?_)
              refine lv_iinc (v := (x3_1 + (1 : Int32))) (lv' := [(3, .int (x3_1 + (1 : Int32))), (2, .int (1 : Int32)), (0, .ref (za 0)), (1, .int i1)]) hx hb dX3_isClosed_43 hl (k := 1) rfl rfl (by decide) rfl (fun ls hl => ?_)
              refine lv_goto (tgt := 4) hx hb dX3_isClosed_46 (by decide) ?_
              exact ih_1 ((x3_1 + (1 : Int32)), (1 : Int32)) h _ _ hP hD hS _ (lv_sub hl [0, 1, 2, 3] rfl)
    · exact LL 300 ((0 : Int32), (1 : Int32)) h _ _ hP hD hS _ (lv_sub hl [0, 1, 2, 3] rfl)
def f_X3_net_l5 (zz : xMO) (i1 : Int32) (i2 : Int32) : Nat → Int32 → Int32 → Option (Int32)
  | 0, _, _ => none
  | k9 + 1, x4_1, x3_1 =>
    if zz.1 ≤ x4_1 then
      some x3_1
    else
      Option.bind (
        if ((i1 >>> (x4_1 &&& 31)) &&& (1 : Int32)) = (1 : Int32) then
          if x4_1 < 0 ∨ 12 ≤ x4_1.toNatClampNeg then none else
          some ((zz.2.2.2.1 x4_1.toNatClampNeg) - (i2 * (zz.2.1 x4_1.toNatClampNeg)))
        else
          some (0 : Int32)) fun (v4 : Int32) =>
      f_X3_net_l5 zz i1 i2 k9 (x4_1 + (1 : Int32)) (x3_1 + v4)
theorem f_X3_net_l5_z (zz : xMO) (i1 : Int32) (i2 : Int32) (x4_1 : Int32) (x3_1 : Int32) : f_X3_net_l5 zz i1 i2 0 x4_1 x3_1 = none := rfl
theorem f_X3_net_l5_s (zz : xMO) (i1 : Int32) (i2 : Int32) (k9 : Nat) (x4_1 : Int32) (x3_1 : Int32) : f_X3_net_l5 zz i1 i2 (k9 + 1) x4_1 x3_1 =
    if zz.1 ≤ x4_1 then
      some x3_1
    else
      Option.bind (
        if ((i1 >>> (x4_1 &&& 31)) &&& (1 : Int32)) = (1 : Int32) then
          if x4_1 < 0 ∨ 12 ≤ x4_1.toNatClampNeg then none else
          some ((zz.2.2.2.1 x4_1.toNatClampNeg) - (i2 * (zz.2.1 x4_1.toNatClampNeg)))
        else
          some (0 : Int32)) fun (v4 : Int32) =>
      f_X3_net_l5 zz i1 i2 k9 (x4_1 + (1 : Int32)) (x3_1 + v4) := rfl
def f_X3_net (zz : xMO) (i1 : Int32) (i2 : Int32) : Option (Int32) :=
  Option.bind (f_X3_net_l5 zz i1 i2 300 (0 : Int32) (0 : Int32)) fun (w2 : Int32) =>
  some w2
theorem f_X3_net_e (zz : xMO) (i1 : Int32) (i2 : Int32) : f_X3_net zz i1 i2 =
  Option.bind (f_X3_net_l5 zz i1 i2 300 (0 : Int32) (0 : Int32)) fun (w2 : Int32) =>
  some w2 := rfl
set_option maxHeartbeats 4000000 in
set_option maxRecDepth 100000 in
theorem c_X3_net (l : Launch) (G : xG) (za : (Nat → Nat)) (zz : xMO) (i1 : Int32) (i2 : Int32) (o : Int32) (h : f_X3_net zz i1 i2 = some o) : xk_CI l yX3_net wsX3_net ({ frames := 0, cells := 0, slots := 0, locals := 0 } : Room) 0 0 [.ref (za 0), .int i1, .int i2] G (wMO G za zz) (wMO G za zz) o := by
  refine xk_CI.of (cc := cX3_net) (maxL := 5) (ret := (some .int)) (by decide) rfl (Nat.le_of_ble_eq_true rfl) ?_
  intro pr9 en9 s mm9 bl9 meth9 cd9 A ls H locs hx hb hr hml hts hown hlk hA hP hK hD hNE hS hl
  have hown : s.vm.findClass RX3 = some mm9.cls := hown
  have hl : lv_has ls 5 [(0, .ref (za 0)), (1, .int i1), (2, .int i2)] := hl
  have hinX3 : ∀ w ∈ u_ws RX3 TX3 18, w ∈ wsX3_net := by decide +kernel
  have h := (f_X3_net_e zz i1 i2).symm.trans h
  refine lv_iconst (v := (0 : Int32)) hx hb dX3_net_0 (by decide) ?_
  refine lv_istore_n (lv' := [(3, .int (0 : Int32)), (0, .ref (za 0)), (1, .int i1), (2, .int i2)]) hx hb dX3_net_1 rfl hl (by decide) rfl (fun ls hl => ?_)
  refine lv_iconst (v := (0 : Int32)) hx hb dX3_net_2 (by decide) ?_
  refine lv_istore (lv' := [(4, .int (0 : Int32)), (3, .int (0 : Int32)), (0, .ref (za 0)), (1, .int i1), (2, .int i2)]) hx hb dX3_net_3 hl (by decide) rfl (fun ls hl => ?_)
  obtain ⟨w2, hw2, h⟩ := sp_b h
  refine xk_jn G A s.heap (wMO G za zz) 5 [(3, .int w2)] 54 [] (fun H locs hP hD hS ls hl => ?_) (fun J1 => ?_)
  · refine lv_iload_n hx hb dX3_net_54 rfl (lv_at hl 0 rfl) ?_
    obtain rfl := sp_s h
    exact xk_reI hx hb hr hlk hP hD hS rfl dX3_net_55
  · have h := hw2
    clear hw2
    refine xk_lp (α := Int32 × Int32) G A s.heap (fun a_1 => (wMO G za zz)) 5 (fun a_1 => [(4, .int a_1.1), (3, .int a_1.2), (0, .ref (za 0)), (1, .int i1), (2, .int i2)]) 5 (fun n a_1 => f_X3_net_l5 zz i1 i2 n a_1.1 a_1.2 = some w2) (fun a_1 h => ?_) (fun n ih_1 a_1 h H locs hP hD hS ls hl => ?_) (fun LL => ?_)
    · exact sp_n ((f_X3_net_l5_z _ _ _ _ _).symm.trans h)
    · obtain ⟨x4_1, x3_1⟩ := a_1
      have h := (f_X3_net_l5_s zz i1 i2 n x4_1 x3_1).symm.trans h
      have hP : va_P G.1 vwCl (wMO G za zz) H := hP
      have hD : va_D A (wMO G za zz) := hD
      have hl : lv_has ls 5 [(4, .int x4_1), (3, .int x3_1), (0, .ref (za 0)), (1, .int i1), (2, .int i2)] := hl
      refine lv_iload hx hb dX3_net_5 (lv_at hl 0 rfl) ?_
      refine lv_aload_n hx hb dX3_net_7 rfl (lv_at hl 2 rfl) ?_
      refine va_get (D := G.1) (ci := 3) (v := .int zz.1) (C := RX3) (T := TX3) (N := 18) hx hb hts hinX3 hown hK hP 0 rfl rfl 0 (by decide) (hts (.fieldLink RX3 60 "LessonWeaveModel" "aims" "I") (by decide +kernel)) (fun _ h9 => h9) rfl dX3_net_8 ?_
      refine lv_icmp_ge (tgt := 54) hx hb dX3_net_11 (by decide) (fun c3 => ?_) (fun c3 => ?_)
      · have h := sp_t c3 h
        obtain rfl := sp_s h
        exact J1 _ _ hP hD hS _ (lv_sub hl [1] rfl)
      · have h := sp_f c3 h
        refine lv_iload_n hx hb dX3_net_14 rfl (lv_at hl 1 rfl) ?_
        refine lv_iload_n hx hb dX3_net_15 rfl (lv_at hl 3 rfl) ?_
        refine lv_iload hx hb dX3_net_16 (lv_at hl 0 rfl) ?_
        refine lv_ishr hx hb dX3_net_18 ?_
        refine lv_iconst (v := (1 : Int32)) hx hb dX3_net_19 (by decide) ?_
        refine lv_iand hx hb dX3_net_20 ?_
        refine lv_iconst (v := (1 : Int32)) hx hb dX3_net_21 (by decide) ?_
        obtain ⟨v4, hv4, h⟩ := sp_b h
        refine xk_jn G A s.heap (wMO G za zz) 5 [(4, .int x4_1), (0, .ref (za 0)), (1, .int i1), (2, .int i2)] 46 [.int v4, .int x3_1] (fun H locs hP hD hS ls hl => ?_) (fun J4 => ?_)
        · refine lv_iadd hx hb dX3_net_46 ?_
          refine lv_istore_n (lv' := [(3, .int (x3_1 + v4)), (4, .int x4_1), (0, .ref (za 0)), (1, .int i1), (2, .int i2)]) hx hb dX3_net_47 rfl hl (by decide) rfl (fun ls hl => ?_)
          refine lv_iinc (v := (x4_1 + (1 : Int32))) (lv' := [(4, .int (x4_1 + (1 : Int32))), (3, .int (x3_1 + v4)), (0, .ref (za 0)), (1, .int i1), (2, .int i2)]) hx hb dX3_net_48 hl (k := 1) rfl rfl (by decide) rfl (fun ls hl => ?_)
          refine lv_goto (tgt := 5) hx hb dX3_net_51 (by decide) ?_
          exact ih_1 ((x4_1 + (1 : Int32)), (x3_1 + v4)) h _ _ hP hD hS _ (lv_sub hl [0, 1, 2, 3, 4] rfl)
        · have h := hv4
          clear hv4
          refine lv_icmp_ne (tgt := 45) hx hb dX3_net_22 (by decide) (fun c5 => ?_) (fun c5 => ?_)
          · have h := sp_f c5 h
            refine lv_iconst (v := (0 : Int32)) hx hb dX3_net_45 (by decide) ?_
            obtain rfl := sp_s h
            exact J4 _ _ hP hD hS _ (lv_sub hl [0, 2, 3, 4] rfl)
          · have h := sp_t c5 h
            refine lv_aload_n hx hb dX3_net_25 rfl (lv_at hl 2 rfl) ?_
            refine va_get (D := G.1) (ci := 3) (v := .ref (za 3)) (C := RX3) (T := TX3) (N := 18) hx hb hts hinX3 hown hK hP 0 rfl rfl 3 (by decide) (hts (.fieldLink RX3 16 "LessonWeaveModel" "worth" "[I") (by decide +kernel)) (fun _ h9 => h9) rfl dX3_net_26 ?_
            refine lv_iload hx hb dX3_net_29 (lv_at hl 0 rfl) ?_
            obtain ⟨hin6, h⟩ := sp_g h
            refine va_iald hx hb hK hP 3 0 rfl rfl hin6 dX3_net_31 ?_
            refine lv_iload_n hx hb dX3_net_32 rfl (lv_at hl 4 rfl) ?_
            refine lv_aload_n hx hb dX3_net_33 rfl (lv_at hl 2 rfl) ?_
            refine va_get (D := G.1) (ci := 3) (v := .ref (za 1)) (C := RX3) (T := TX3) (N := 18) hx hb hts hinX3 hown hK hP 0 rfl rfl 1 (by decide) (hts (.fieldLink RX3 7 "LessonWeaveModel" "lessons" "[I") (by decide +kernel)) (fun _ h9 => h9) rfl dX3_net_34 ?_
            refine lv_iload hx hb dX3_net_37 (lv_at hl 0 rfl) ?_
            refine va_iald hx hb hK hP 1 0 rfl rfl hin6 dX3_net_39 ?_
            refine lv_imul hx hb dX3_net_40 ?_
            refine lv_isub hx hb dX3_net_41 ?_
            refine lv_goto (tgt := 46) hx hb dX3_net_42 (by decide) ?_
            obtain rfl := sp_s h
            exact J4 _ _ hP hD hS _ (lv_sub hl [0, 2, 3, 4] rfl)
    · exact LL 300 ((0 : Int32), (0 : Int32)) h _ _ hP hD hS _ (lv_sub hl [0, 1, 2, 3, 4] rfl)
def f_X3_best_l4 (zz : xMO) (i1 : Int32) : Nat → Int32 → Int32 → Option (Int32)
  | 0, _, _ => none
  | k9 + 1, x3_1, x2_1 =>
    if ((1 : Int32) <<< (zz.1 &&& 31)) ≤ x3_1 then
      some x2_1
    else
      Option.bind (f_X3_isClosed zz x3_1) fun (o4 : Int32) =>
      Option.bind (
        if o4 = 0 then
          some ((-1) : Int32)
        else
          Option.bind (f_X3_net zz x3_1 i1) fun (o12 : Int32) =>
          Option.bind (f_X3_net zz x2_1 i1) fun (o13 : Int32) =>
          some (o12 - o13)) fun (v5 : Int32) =>
      if 0 < v5 then
        f_X3_best_l4 zz i1 k9 (x3_1 + (1 : Int32)) x3_1
      else
        if v5 = 0 then
          Option.bind (f_X3_size x3_1) fun (o8 : Int32) =>
          Option.bind (f_X3_size x2_1) fun (o9 : Int32) =>
          if o9 ≤ o8 then
            f_X3_best_l4 zz i1 k9 (x3_1 + (1 : Int32)) x2_1
          else
            f_X3_best_l4 zz i1 k9 (x3_1 + (1 : Int32)) x3_1
        else
          f_X3_best_l4 zz i1 k9 (x3_1 + (1 : Int32)) x2_1
theorem f_X3_best_l4_z (zz : xMO) (i1 : Int32) (x3_1 : Int32) (x2_1 : Int32) : f_X3_best_l4 zz i1 0 x3_1 x2_1 = none := rfl
theorem f_X3_best_l4_s (zz : xMO) (i1 : Int32) (k9 : Nat) (x3_1 : Int32) (x2_1 : Int32) : f_X3_best_l4 zz i1 (k9 + 1) x3_1 x2_1 =
    if ((1 : Int32) <<< (zz.1 &&& 31)) ≤ x3_1 then
      some x2_1
    else
      Option.bind (f_X3_isClosed zz x3_1) fun (o4 : Int32) =>
      Option.bind (
        if o4 = 0 then
          some ((-1) : Int32)
        else
          Option.bind (f_X3_net zz x3_1 i1) fun (o12 : Int32) =>
          Option.bind (f_X3_net zz x2_1 i1) fun (o13 : Int32) =>
          some (o12 - o13)) fun (v5 : Int32) =>
      if 0 < v5 then
        f_X3_best_l4 zz i1 k9 (x3_1 + (1 : Int32)) x3_1
      else
        if v5 = 0 then
          Option.bind (f_X3_size x3_1) fun (o8 : Int32) =>
          Option.bind (f_X3_size x2_1) fun (o9 : Int32) =>
          if o9 ≤ o8 then
            f_X3_best_l4 zz i1 k9 (x3_1 + (1 : Int32)) x2_1
          else
            f_X3_best_l4 zz i1 k9 (x3_1 + (1 : Int32)) x3_1
        else
          f_X3_best_l4 zz i1 k9 (x3_1 + (1 : Int32)) x2_1 := rfl
def f_X3_best (zz : xMO) (i1 : Int32) : Option (Int32) :=
  Option.bind (f_X3_best_l4 zz i1 5000 (1 : Int32) (0 : Int32)) fun (w2 : Int32) =>
  some w2
theorem f_X3_best_e (zz : xMO) (i1 : Int32) : f_X3_best zz i1 =
  Option.bind (f_X3_best_l4 zz i1 5000 (1 : Int32) (0 : Int32)) fun (w2 : Int32) =>
  some w2 := rfl
set_option maxHeartbeats 4000000 in
set_option maxRecDepth 100000 in
theorem c_X3_best (l : Launch) (G : xG) (za : (Nat → Nat)) (zz : xMO) (i1 : Int32) (o : Int32) (h : f_X3_best zz i1 = some o) : xk_CI l yX3_best wsX3_best ({ frames := 1, cells := 0, slots := 0, locals := 24 } : Room) 0 0 [.ref (za 0), .int i1] G (wMO G za zz) (wMO G za zz) o := by
  refine xk_CI.of (cc := cX3_best) (maxL := 5) (ret := (some .int)) (by decide) rfl (Nat.le_of_ble_eq_true rfl) ?_
  intro pr9 en9 s mm9 bl9 meth9 cd9 A ls H locs hx hb hr hml hts hown hlk hA hP hK hD hNE hS hl
  have hown : s.vm.findClass RX3 = some mm9.cls := hown
  have hl : lv_has ls 5 [(0, .ref (za 0)), (1, .int i1)] := hl
  have hinX3 : ∀ w ∈ u_ws RX3 TX3 18, w ∈ wsX3_best := by decide +kernel
  have h := (f_X3_best_e zz i1).symm.trans h
  refine lv_iconst (v := (0 : Int32)) hx hb dX3_best_0 (by decide) ?_
  refine lv_istore_n (lv' := [(2, .int (0 : Int32)), (0, .ref (za 0)), (1, .int i1)]) hx hb dX3_best_1 rfl hl (by decide) rfl (fun ls hl => ?_)
  refine lv_iconst (v := (1 : Int32)) hx hb dX3_best_2 (by decide) ?_
  refine lv_istore_n (lv' := [(3, .int (1 : Int32)), (2, .int (0 : Int32)), (0, .ref (za 0)), (1, .int i1)]) hx hb dX3_best_3 rfl hl (by decide) rfl (fun ls hl => ?_)
  obtain ⟨w2, hw2, h⟩ := sp_b h
  refine xk_jn G A s.heap (wMO G za zz) 5 [(2, .int w2)] 74 [] (fun H locs hP hD hS ls hl => ?_) (fun J1 => ?_)
  · refine lv_iload_n hx hb dX3_best_74 rfl (lv_at hl 0 rfl) ?_
    obtain rfl := sp_s h
    exact xk_reI hx hb hr hlk hP hD hS rfl dX3_best_75
  · have h := hw2
    clear hw2
    refine xk_lp (α := Int32 × Int32) G A s.heap (fun a_1 => (wMO G za zz)) 5 (fun a_1 => [(3, .int a_1.1), (2, .int a_1.2), (0, .ref (za 0)), (1, .int i1)]) 4 (fun n a_1 => f_X3_best_l4 zz i1 n a_1.1 a_1.2 = some w2) (fun a_1 h => ?_) (fun n ih_1 a_1 h H locs hP hD hS ls hl => ?_) (fun LL => ?_)
    · exact sp_n ((f_X3_best_l4_z _ _ _ _).symm.trans h)
    · obtain ⟨x3_1, x2_1⟩ := a_1
      have h := (f_X3_best_l4_s zz i1 n x3_1 x2_1).symm.trans h
      have hP : va_P G.1 vwCl (wMO G za zz) H := hP
      have hD : va_D A (wMO G za zz) := hD
      have hl : lv_has ls 5 [(3, .int x3_1), (2, .int x2_1), (0, .ref (za 0)), (1, .int i1)] := hl
      refine lv_iload_n hx hb dX3_best_4 rfl (lv_at hl 0 rfl) ?_
      refine lv_iconst (v := (1 : Int32)) hx hb dX3_best_5 (by decide) ?_
      refine lv_aload_n hx hb dX3_best_6 rfl (lv_at hl 2 rfl) ?_
      refine va_get (D := G.1) (ci := 3) (v := .int zz.1) (C := RX3) (T := TX3) (N := 18) hx hb hts hinX3 hown hK hP 0 rfl rfl 0 (by decide) (hts (.fieldLink RX3 60 "LessonWeaveModel" "aims" "I") (by decide +kernel)) (fun _ h9 => h9) rfl dX3_best_7 ?_
      refine lv_ishl hx hb dX3_best_10 ?_
      refine lv_icmp_ge (tgt := 74) hx hb dX3_best_11 (by decide) (fun c3 => ?_) (fun c3 => ?_)
      · have h := sp_t c3 h
        obtain rfl := sp_s h
        exact J1 _ _ hP hD hS _ (lv_sub hl [1] rfl)
      · have h := sp_f c3 h
        refine lv_aload_n hx hb dX3_best_14 rfl (lv_at hl 2 rfl) ?_
        refine lv_iload_n hx hb dX3_best_15 rfl (lv_at hl 0 rfl) ?_
        obtain ⟨o4, ho4, h⟩ := sp_b h
        refine xk_ci (va_runV (As := [.int x3_1]) (rest := []) ⟨hx, hb, hml, hown, hts⟩ (c_X3_isClosed l G za zz x3_1 o4 ho4 H.size) (cwV 1 hts gX3_best_X3_isClosed rfl rfl rfl (by decide +kernel) ⟨Nat.le_of_ble_eq_true rfl, Nat.le_of_ble_eq_true rfl⟩) (xk_preV hK hNE (hP.sub (ws' := (wMO G za zz)) [0, 1, 2, 3, 4, 5, 6, 7, 8, 9, 10, 11, 12, 13, 14, 15] rfl) (hD.sub (ws' := (wMO G za zz)) [0, 1, 2, 3, 4, 5, 6, 7, 8, 9, 10, 11, 12, 13, 14, 15] (by decide) rfl) (ci := 3) rfl rfl) rfl rfl hl.1 rfl (lv_room (Nat.le_of_ble_eq_true rfl)) dX3_best_16 ⟨Nat.le_of_ble_eq_true rfl, Nat.le_of_ble_eq_true rfl⟩) hP hD hS hA [0, 1, 2, 3, 4, 5, 6, 7, 8, 9, 10, 11, 12, 13, 14, 15] [] [0, 1, 2, 3, 4, 5, 6, 7, 8, 9, 10, 11, 12, 13, 14, 15] rfl rfl (by decide) (by decide) rfl (by decide) (fun H locs hP hD hS => ?_)
        have hP : va_P G.1 vwCl (wMO G za zz) H := hP
        have hD : va_D A (wMO G za zz) := hD
        obtain ⟨v5, hv5, h⟩ := sp_b h
        refine xk_jn G A s.heap (wMO G za zz) 5 [(3, .int x3_1), (2, .int x2_1), (0, .ref (za 0)), (1, .int i1)] 39 [.int v5] (fun H locs hP hD hS ls hl => ?_) (fun J5 => ?_)
        · refine lv_istore (lv' := [(4, .int v5), (3, .int x3_1), (2, .int x2_1), (0, .ref (za 0)), (1, .int i1)]) hx hb dX3_best_39 hl (by decide) rfl (fun ls hl => ?_)
          refine lv_iload hx hb dX3_best_41 (lv_at hl 0 rfl) ?_
          refine lv_if_gt (tgt := 62) hx hb dX3_best_43 (by decide) (fun c6 => ?_) (fun c6 => ?_)
          · have h := sp_t c6 h
            refine lv_iload_n hx hb dX3_best_62 rfl (lv_at hl 1 rfl) ?_
            refine lv_goto (tgt := 67) hx hb dX3_best_63 (by decide) ?_
            refine lv_istore_n (lv' := [(2, .int x3_1), (4, .int v5), (3, .int x3_1), (0, .ref (za 0)), (1, .int i1)]) hx hb dX3_best_67 rfl hl (by decide) rfl (fun ls hl => ?_)
            refine lv_iinc (v := (x3_1 + (1 : Int32))) (lv' := [(3, .int (x3_1 + (1 : Int32))), (2, .int x3_1), (4, .int v5), (0, .ref (za 0)), (1, .int i1)]) hx hb dX3_best_68 hl (k := 2) rfl rfl (by decide) rfl (fun ls hl => ?_)
            refine lv_goto (tgt := 4) hx hb dX3_best_71 (by decide) ?_
            exact ih_1 ((x3_1 + (1 : Int32)), x3_1) h _ _ hP hD hS _ (lv_sub hl [0, 1, 3, 4] rfl)
          · have h := sp_f c6 h
            refine lv_iload hx hb dX3_best_46 (lv_at hl 0 rfl) ?_
            refine lv_if_ne (tgt := 66) hx hb dX3_best_48 (by decide) (fun c7 => ?_) (fun c7 => ?_)
            · have h := sp_f c7 h
              refine lv_iload_n hx hb dX3_best_66 rfl (lv_at hl 2 rfl) ?_
              refine lv_istore_n (lv' := [(2, .int x2_1), (4, .int v5), (3, .int x3_1), (0, .ref (za 0)), (1, .int i1)]) hx hb dX3_best_67 rfl hl (by decide) rfl (fun ls hl => ?_)
              refine lv_iinc (v := (x3_1 + (1 : Int32))) (lv' := [(3, .int (x3_1 + (1 : Int32))), (2, .int x2_1), (4, .int v5), (0, .ref (za 0)), (1, .int i1)]) hx hb dX3_best_68 hl (k := 2) rfl rfl (by decide) rfl (fun ls hl => ?_)
              refine lv_goto (tgt := 4) hx hb dX3_best_71 (by decide) ?_
              exact ih_1 ((x3_1 + (1 : Int32)), x2_1) h _ _ hP hD hS _ (lv_sub hl [0, 1, 3, 4] rfl)
            · have h := sp_t c7 h
              refine lv_iload_n hx hb dX3_best_51 rfl (lv_at hl 1 rfl) ?_
              obtain ⟨o8, ho8, h⟩ := sp_b h
              refine xk_ci (va_runS (As := [.int x3_1]) (rest := []) ⟨hx, hb, hml, hown, hts⟩ (c_X3_size l G x3_1 o8 ho8 H.size) (va_cwS 1 hts gX3_best_X3_size rfl rfl rfl (by decide +kernel) ⟨Nat.le_of_ble_eq_true rfl, Nat.le_of_ble_eq_true rfl⟩) (xk_preS hK hNE (hP.sub (ws' := []) [] rfl) (hD.sub (ws' := []) [] (by decide) rfl)) rfl rfl hl.1 rfl (lv_room (Nat.le_of_ble_eq_true rfl)) dX3_best_52 ⟨Nat.le_of_ble_eq_true rfl, Nat.le_of_ble_eq_true rfl⟩) hP hD hS hA [] [0, 1, 2, 3, 4, 5, 6, 7, 8, 9, 10, 11, 12, 13, 14, 15] [0, 1, 2, 3, 4, 5, 6, 7, 8, 9, 10, 11, 12, 13, 14, 15] rfl rfl (by decide) (by decide) rfl (by decide) (fun H locs hP hD hS => ?_)
              have hP : va_P G.1 vwCl (wMO G za zz) H := hP
              have hD : va_D A (wMO G za zz) := hD
              refine lv_iload_n hx hb dX3_best_55 rfl (lv_at hl 2 rfl) ?_
              obtain ⟨o9, ho9, h⟩ := sp_b h
              refine xk_ci (va_runS (As := [.int x2_1]) (rest := [.int o8]) ⟨hx, hb, hml, hown, hts⟩ (c_X3_size l G x2_1 o9 ho9 H.size) (va_cwS 1 hts gX3_best_X3_size rfl rfl rfl (by decide +kernel) ⟨Nat.le_of_ble_eq_true rfl, Nat.le_of_ble_eq_true rfl⟩) (xk_preS hK hNE (hP.sub (ws' := []) [] rfl) (hD.sub (ws' := []) [] (by decide) rfl)) rfl rfl hl.1 rfl (lv_room (Nat.le_of_ble_eq_true rfl)) dX3_best_56 ⟨Nat.le_of_ble_eq_true rfl, Nat.le_of_ble_eq_true rfl⟩) hP hD hS hA [] [0, 1, 2, 3, 4, 5, 6, 7, 8, 9, 10, 11, 12, 13, 14, 15] [0, 1, 2, 3, 4, 5, 6, 7, 8, 9, 10, 11, 12, 13, 14, 15] rfl rfl (by decide) (by decide) rfl (by decide) (fun H locs hP hD hS => ?_)
              have hP : va_P G.1 vwCl (wMO G za zz) H := hP
              have hD : va_D A (wMO G za zz) := hD
              refine lv_icmp_ge (tgt := 66) hx hb dX3_best_59 (by decide) (fun c10 => ?_) (fun c10 => ?_)
              · have h := sp_t c10 h
                refine lv_iload_n hx hb dX3_best_66 rfl (lv_at hl 2 rfl) ?_
                refine lv_istore_n (lv' := [(2, .int x2_1), (4, .int v5), (3, .int x3_1), (0, .ref (za 0)), (1, .int i1)]) hx hb dX3_best_67 rfl hl (by decide) rfl (fun ls hl => ?_)
                refine lv_iinc (v := (x3_1 + (1 : Int32))) (lv' := [(3, .int (x3_1 + (1 : Int32))), (2, .int x2_1), (4, .int v5), (0, .ref (za 0)), (1, .int i1)]) hx hb dX3_best_68 hl (k := 2) rfl rfl (by decide) rfl (fun ls hl => ?_)
                refine lv_goto (tgt := 4) hx hb dX3_best_71 (by decide) ?_
                exact ih_1 ((x3_1 + (1 : Int32)), x2_1) h _ _ hP hD hS _ (lv_sub hl [0, 1, 3, 4] rfl)
              · have h := sp_f c10 h
                refine lv_iload_n hx hb dX3_best_62 rfl (lv_at hl 1 rfl) ?_
                refine lv_goto (tgt := 67) hx hb dX3_best_63 (by decide) ?_
                refine lv_istore_n (lv' := [(2, .int x3_1), (4, .int v5), (3, .int x3_1), (0, .ref (za 0)), (1, .int i1)]) hx hb dX3_best_67 rfl hl (by decide) rfl (fun ls hl => ?_)
                refine lv_iinc (v := (x3_1 + (1 : Int32))) (lv' := [(3, .int (x3_1 + (1 : Int32))), (2, .int x3_1), (4, .int v5), (0, .ref (za 0)), (1, .int i1)]) hx hb dX3_best_68 hl (k := 2) rfl rfl (by decide) rfl (fun ls hl => ?_)
                refine lv_goto (tgt := 4) hx hb dX3_best_71 (by decide) ?_
                exact ih_1 ((x3_1 + (1 : Int32)), x3_1) h _ _ hP hD hS _ (lv_sub hl [0, 1, 3, 4] rfl)
        · have h := hv5
          clear hv5
          refine lv_if_eq (tgt := 38) hx hb dX3_best_19 (by decide) (fun c11 => ?_) (fun c11 => ?_)
          · have h := sp_t c11 h
            refine lv_iconst (v := ((-1) : Int32)) hx hb dX3_best_38 (by decide) ?_
            obtain rfl := sp_s h
            exact J5 _ _ hP hD hS _ (lv_sub hl [0, 1, 2, 3] rfl)
          · have h := sp_f c11 h
            refine lv_aload_n hx hb dX3_best_22 rfl (lv_at hl 2 rfl) ?_
            refine lv_iload_n hx hb dX3_best_23 rfl (lv_at hl 0 rfl) ?_
            refine lv_iload_n hx hb dX3_best_24 rfl (lv_at hl 3 rfl) ?_
            obtain ⟨o12, ho12, h⟩ := sp_b h
            refine xk_ci (va_runV (As := [.int x3_1, .int i1]) (rest := []) ⟨hx, hb, hml, hown, hts⟩ (c_X3_net l G za zz x3_1 i1 o12 ho12 H.size) (cwV 2 hts gX3_best_X3_net rfl rfl rfl (by decide +kernel) ⟨Nat.le_of_ble_eq_true rfl, Nat.le_of_ble_eq_true rfl⟩) (xk_preV hK hNE (hP.sub (ws' := (wMO G za zz)) [0, 1, 2, 3, 4, 5, 6, 7, 8, 9, 10, 11, 12, 13, 14, 15] rfl) (hD.sub (ws' := (wMO G za zz)) [0, 1, 2, 3, 4, 5, 6, 7, 8, 9, 10, 11, 12, 13, 14, 15] (by decide) rfl) (ci := 3) rfl rfl) rfl rfl hl.1 rfl (lv_room (Nat.le_of_ble_eq_true rfl)) dX3_best_25 ⟨Nat.le_of_ble_eq_true rfl, Nat.le_of_ble_eq_true rfl⟩) hP hD hS hA [0, 1, 2, 3, 4, 5, 6, 7, 8, 9, 10, 11, 12, 13, 14, 15] [] [0, 1, 2, 3, 4, 5, 6, 7, 8, 9, 10, 11, 12, 13, 14, 15] rfl rfl (by decide) (by decide) rfl (by decide) (fun H locs hP hD hS => ?_)
            have hP : va_P G.1 vwCl (wMO G za zz) H := hP
            have hD : va_D A (wMO G za zz) := hD
            refine lv_aload_n hx hb dX3_best_28 rfl (lv_at hl 2 rfl) ?_
            refine lv_iload_n hx hb dX3_best_29 rfl (lv_at hl 1 rfl) ?_
            refine lv_iload_n hx hb dX3_best_30 rfl (lv_at hl 3 rfl) ?_
            obtain ⟨o13, ho13, h⟩ := sp_b h
            refine xk_ci (va_runV (As := [.int x2_1, .int i1]) (rest := [.int o12]) ⟨hx, hb, hml, hown, hts⟩ (c_X3_net l G za zz x2_1 i1 o13 ho13 H.size) (cwV 2 hts gX3_best_X3_net rfl rfl rfl (by decide +kernel) ⟨Nat.le_of_ble_eq_true rfl, Nat.le_of_ble_eq_true rfl⟩) (xk_preV hK hNE (hP.sub (ws' := (wMO G za zz)) [0, 1, 2, 3, 4, 5, 6, 7, 8, 9, 10, 11, 12, 13, 14, 15] rfl) (hD.sub (ws' := (wMO G za zz)) [0, 1, 2, 3, 4, 5, 6, 7, 8, 9, 10, 11, 12, 13, 14, 15] (by decide) rfl) (ci := 3) rfl rfl) rfl rfl hl.1 rfl (lv_room (Nat.le_of_ble_eq_true rfl)) dX3_best_31 ⟨Nat.le_of_ble_eq_true rfl, Nat.le_of_ble_eq_true rfl⟩) hP hD hS hA [0, 1, 2, 3, 4, 5, 6, 7, 8, 9, 10, 11, 12, 13, 14, 15] [] [0, 1, 2, 3, 4, 5, 6, 7, 8, 9, 10, 11, 12, 13, 14, 15] rfl rfl (by decide) (by decide) rfl (by decide) (fun H locs hP hD hS => ?_)
            have hP : va_P G.1 vwCl (wMO G za zz) H := hP
            have hD : va_D A (wMO G za zz) := hD
            refine lv_isub hx hb dX3_best_34 ?_
            refine lv_goto (tgt := 39) hx hb dX3_best_35 (by decide) ?_
            obtain rfl := sp_s h
            exact J5 _ _ hP hD hS _ (lv_sub hl [0, 1, 2, 3] rfl)
    · exact LL 5000 ((1 : Int32), (0 : Int32)) h _ _ hP hD hS _ (lv_sub hl [0, 1, 2, 3] rfl)
def f_X3_worthwhile (zz : xMO) (i1 : Int32) : Option (Int32 × Int32) :=
  Option.bind (f_X3_isIn i1 (0 : Int32) (99 : Int32)) fun (o1 : Int32) =>
  Option.bind (
    if o1 = 0 then
      some (1 : Int32)
    else
      some (0 : Int32)) fun (v2 : Int32) =>
  Option.bind (f_X3_can zz v2) fun (o3 : Int32 × Int32) =>
  if o3.1 = 0 then
    some ((0 : Int32), o3.2)
  else
    Option.bind (f_X3_best (zz.1, zz.2.1, zz.2.2.1, zz.2.2.2.1, zz.2.2.2.2.1, zz.2.2.2.2.2.1, zz.2.2.2.2.2.2.1, zz.2.2.2.2.2.2.2.1, zz.2.2.2.2.2.2.2.2.1, zz.2.2.2.2.2.2.2.2.2.1, zz.2.2.2.2.2.2.2.2.2.2.1, zz.2.2.2.2.2.2.2.2.2.2.2.1, zz.2.2.2.2.2.2.2.2.2.2.2.2.1, zz.2.2.2.2.2.2.2.2.2.2.2.2.2.1, zz.2.2.2.2.2.2.2.2.2.2.2.2.2.2.1, zz.2.2.2.2.2.2.2.2.2.2.2.2.2.2.2.1, zz.2.2.2.2.2.2.2.2.2.2.2.2.2.2.2.2.1, o3.2) i1) fun (o5 : Int32) =>
    some (o5, o3.2)
theorem f_X3_worthwhile_e (zz : xMO) (i1 : Int32) : f_X3_worthwhile zz i1 =
  Option.bind (f_X3_isIn i1 (0 : Int32) (99 : Int32)) fun (o1 : Int32) =>
  Option.bind (
    if o1 = 0 then
      some (1 : Int32)
    else
      some (0 : Int32)) fun (v2 : Int32) =>
  Option.bind (f_X3_can zz v2) fun (o3 : Int32 × Int32) =>
  if o3.1 = 0 then
    some ((0 : Int32), o3.2)
  else
    Option.bind (f_X3_best (zz.1, zz.2.1, zz.2.2.1, zz.2.2.2.1, zz.2.2.2.2.1, zz.2.2.2.2.2.1, zz.2.2.2.2.2.2.1, zz.2.2.2.2.2.2.2.1, zz.2.2.2.2.2.2.2.2.1, zz.2.2.2.2.2.2.2.2.2.1, zz.2.2.2.2.2.2.2.2.2.2.1, zz.2.2.2.2.2.2.2.2.2.2.2.1, zz.2.2.2.2.2.2.2.2.2.2.2.2.1, zz.2.2.2.2.2.2.2.2.2.2.2.2.2.1, zz.2.2.2.2.2.2.2.2.2.2.2.2.2.2.1, zz.2.2.2.2.2.2.2.2.2.2.2.2.2.2.2.1, zz.2.2.2.2.2.2.2.2.2.2.2.2.2.2.2.2.1, o3.2) i1) fun (o5 : Int32) =>
    some (o5, o3.2) := rfl
set_option maxHeartbeats 4000000 in
set_option maxRecDepth 100000 in
theorem c_X3_worthwhile (l : Launch) (G : xG) (za : (Nat → Nat)) (zz : xMO) (i1 : Int32) (o : Int32 × Int32) (h : f_X3_worthwhile zz i1 = some o) : xk_CI l yX3_worthwhile wsX3_worthwhile ({ frames := 2, cells := 0, slots := 0, locals := 48 } : Room) 0 0 [.ref (za 0), .int i1] G (wMO G za zz) (wMO G za (zz.1, zz.2.1, zz.2.2.1, zz.2.2.2.1, zz.2.2.2.2.1, zz.2.2.2.2.2.1, zz.2.2.2.2.2.2.1, zz.2.2.2.2.2.2.2.1, zz.2.2.2.2.2.2.2.2.1, zz.2.2.2.2.2.2.2.2.2.1, zz.2.2.2.2.2.2.2.2.2.2.1, zz.2.2.2.2.2.2.2.2.2.2.2.1, zz.2.2.2.2.2.2.2.2.2.2.2.2.1, zz.2.2.2.2.2.2.2.2.2.2.2.2.2.1, zz.2.2.2.2.2.2.2.2.2.2.2.2.2.2.1, zz.2.2.2.2.2.2.2.2.2.2.2.2.2.2.2.1, zz.2.2.2.2.2.2.2.2.2.2.2.2.2.2.2.2.1, o.2)) o.1 := by
  refine xk_CI.of (cc := cX3_worthwhile) (maxL := 2) (ret := (some .int)) (by decide) rfl (Nat.le_of_ble_eq_true rfl) ?_
  intro pr9 en9 s mm9 bl9 meth9 cd9 A ls H locs hx hb hr hml hts hown hlk hA hP hK hD hNE hS hl
  have hown : s.vm.findClass RX3 = some mm9.cls := hown
  have hl : lv_has ls 2 [(0, .ref (za 0)), (1, .int i1)] := hl
  have h := (f_X3_worthwhile_e zz i1).symm.trans h
  refine lv_aload_n hx hb dX3_worthwhile_0 rfl (lv_at hl 0 rfl) ?_
  refine lv_iload_n hx hb dX3_worthwhile_1 rfl (lv_at hl 1 rfl) ?_
  refine lv_iconst (v := (0 : Int32)) hx hb dX3_worthwhile_2 (by decide) ?_
  refine lv_bipush (v := (99 : Int32)) hx hb dX3_worthwhile_3 (by decide) ?_
  obtain ⟨o1, ho1, h⟩ := sp_b h
  refine xk_ci (va_runS (As := [.int i1, .int (0 : Int32), .int (99 : Int32)]) (rest := [.ref (za 0)]) ⟨hx, hb, hml, hown, hts⟩ (c_X3_isIn l G i1 (0 : Int32) (99 : Int32) o1 ho1 H.size) (va_cwS 3 hts gX3_worthwhile_X3_isIn rfl rfl rfl (by decide +kernel) ⟨Nat.le_of_ble_eq_true rfl, Nat.le_of_ble_eq_true rfl⟩) (xk_preS hK hNE (hP.sub (ws' := []) [] rfl) (hD.sub (ws' := []) [] (by decide) rfl)) rfl rfl hl.1 rfl (lv_room (Nat.le_of_ble_eq_true rfl)) dX3_worthwhile_5 ⟨Nat.le_of_ble_eq_true rfl, Nat.le_of_ble_eq_true rfl⟩) hP hD hS hA [] [0, 1, 2, 3, 4, 5, 6, 7, 8, 9, 10, 11, 12, 13, 14, 15] [0, 1, 2, 3, 4, 5, 6, 7, 8, 9, 10, 11, 12, 13, 14, 15] rfl rfl (by decide) (by decide) rfl (by decide) (fun H locs hP hD hS => ?_)
  have hP : va_P G.1 vwCl (wMO G za zz) H := hP
  have hD : va_D A (wMO G za zz) := hD
  obtain ⟨v2, hv2, h⟩ := sp_b h
  refine xk_jn G A s.heap (wMO G za zz) 2 [(0, .ref (za 0)), (1, .int i1)] 16 [.int v2, .ref (za 0)] (fun H locs hP hD hS ls hl => ?_) (fun J2 => ?_)
  · obtain ⟨o3, ho3, h⟩ := sp_b h
    refine xk_ci (va_runV (As := [.int v2]) (rest := []) ⟨hx, hb, hml, hown, hts⟩ (c_X3_can l G za zz v2 o3 ho3 H.size) (cwV 1 hts gX3_worthwhile_X3_can rfl rfl rfl (by decide +kernel) ⟨Nat.le_of_ble_eq_true rfl, Nat.le_of_ble_eq_true rfl⟩) (xk_preV hK hNE (hP.sub (ws' := (wMO G za zz)) [0, 1, 2, 3, 4, 5, 6, 7, 8, 9, 10, 11, 12, 13, 14, 15] rfl) (hD.sub (ws' := (wMO G za zz)) [0, 1, 2, 3, 4, 5, 6, 7, 8, 9, 10, 11, 12, 13, 14, 15] (by decide) rfl) (ci := 3) rfl rfl) rfl rfl hl.1 rfl (lv_room (Nat.le_of_ble_eq_true rfl)) dX3_worthwhile_16 ⟨Nat.le_of_ble_eq_true rfl, Nat.le_of_ble_eq_true rfl⟩) hP hD hS hA [0, 1, 2, 3, 4, 5, 6, 7, 8, 9, 10, 11, 12, 13, 14, 15] [] [0, 1, 2, 3, 4, 5, 6, 7, 8, 9, 10, 11, 12, 13, 14, 15] rfl rfl (by decide) (by decide) rfl (by decide) (fun H locs hP hD hS => ?_)
    have hP : va_P G.1 vwCl (wMO G za (zz.1, zz.2.1, zz.2.2.1, zz.2.2.2.1, zz.2.2.2.2.1, zz.2.2.2.2.2.1, zz.2.2.2.2.2.2.1, zz.2.2.2.2.2.2.2.1, zz.2.2.2.2.2.2.2.2.1, zz.2.2.2.2.2.2.2.2.2.1, zz.2.2.2.2.2.2.2.2.2.2.1, zz.2.2.2.2.2.2.2.2.2.2.2.1, zz.2.2.2.2.2.2.2.2.2.2.2.2.1, zz.2.2.2.2.2.2.2.2.2.2.2.2.2.1, zz.2.2.2.2.2.2.2.2.2.2.2.2.2.2.1, zz.2.2.2.2.2.2.2.2.2.2.2.2.2.2.2.1, zz.2.2.2.2.2.2.2.2.2.2.2.2.2.2.2.2.1, o3.2)) H := hP
    have hD : va_D A (wMO G za (zz.1, zz.2.1, zz.2.2.1, zz.2.2.2.1, zz.2.2.2.2.1, zz.2.2.2.2.2.1, zz.2.2.2.2.2.2.1, zz.2.2.2.2.2.2.2.1, zz.2.2.2.2.2.2.2.2.1, zz.2.2.2.2.2.2.2.2.2.1, zz.2.2.2.2.2.2.2.2.2.2.1, zz.2.2.2.2.2.2.2.2.2.2.2.1, zz.2.2.2.2.2.2.2.2.2.2.2.2.1, zz.2.2.2.2.2.2.2.2.2.2.2.2.2.1, zz.2.2.2.2.2.2.2.2.2.2.2.2.2.2.1, zz.2.2.2.2.2.2.2.2.2.2.2.2.2.2.2.1, zz.2.2.2.2.2.2.2.2.2.2.2.2.2.2.2.2.1, o3.2)) := hD
    refine lv_if_eq (tgt := 30) hx hb dX3_worthwhile_19 (by decide) (fun c4 => ?_) (fun c4 => ?_)
    · have h := sp_t c4 h
      refine lv_iconst (v := (0 : Int32)) hx hb dX3_worthwhile_30 (by decide) ?_
      obtain rfl := sp_s h
      exact xk_reI hx hb hr hlk hP hD hS rfl dX3_worthwhile_31
    · have h := sp_f c4 h
      refine lv_aload_n hx hb dX3_worthwhile_22 rfl (lv_at hl 0 rfl) ?_
      refine lv_iload_n hx hb dX3_worthwhile_23 rfl (lv_at hl 1 rfl) ?_
      obtain ⟨o5, ho5, h⟩ := sp_b h
      refine xk_ci (va_runV (As := [.int i1]) (rest := []) ⟨hx, hb, hml, hown, hts⟩ (c_X3_best l G za (zz.1, zz.2.1, zz.2.2.1, zz.2.2.2.1, zz.2.2.2.2.1, zz.2.2.2.2.2.1, zz.2.2.2.2.2.2.1, zz.2.2.2.2.2.2.2.1, zz.2.2.2.2.2.2.2.2.1, zz.2.2.2.2.2.2.2.2.2.1, zz.2.2.2.2.2.2.2.2.2.2.1, zz.2.2.2.2.2.2.2.2.2.2.2.1, zz.2.2.2.2.2.2.2.2.2.2.2.2.1, zz.2.2.2.2.2.2.2.2.2.2.2.2.2.1, zz.2.2.2.2.2.2.2.2.2.2.2.2.2.2.1, zz.2.2.2.2.2.2.2.2.2.2.2.2.2.2.2.1, zz.2.2.2.2.2.2.2.2.2.2.2.2.2.2.2.2.1, o3.2) i1 o5 ho5 H.size) (cwV 1 hts gX3_worthwhile_X3_best rfl rfl rfl (by decide +kernel) ⟨Nat.le_of_ble_eq_true rfl, Nat.le_of_ble_eq_true rfl⟩) (xk_preV hK hNE (hP.sub (ws' := (wMO G za (zz.1, zz.2.1, zz.2.2.1, zz.2.2.2.1, zz.2.2.2.2.1, zz.2.2.2.2.2.1, zz.2.2.2.2.2.2.1, zz.2.2.2.2.2.2.2.1, zz.2.2.2.2.2.2.2.2.1, zz.2.2.2.2.2.2.2.2.2.1, zz.2.2.2.2.2.2.2.2.2.2.1, zz.2.2.2.2.2.2.2.2.2.2.2.1, zz.2.2.2.2.2.2.2.2.2.2.2.2.1, zz.2.2.2.2.2.2.2.2.2.2.2.2.2.1, zz.2.2.2.2.2.2.2.2.2.2.2.2.2.2.1, zz.2.2.2.2.2.2.2.2.2.2.2.2.2.2.2.1, zz.2.2.2.2.2.2.2.2.2.2.2.2.2.2.2.2.1, o3.2))) [0, 1, 2, 3, 4, 5, 6, 7, 8, 9, 10, 11, 12, 13, 14, 15] rfl) (hD.sub (ws' := (wMO G za (zz.1, zz.2.1, zz.2.2.1, zz.2.2.2.1, zz.2.2.2.2.1, zz.2.2.2.2.2.1, zz.2.2.2.2.2.2.1, zz.2.2.2.2.2.2.2.1, zz.2.2.2.2.2.2.2.2.1, zz.2.2.2.2.2.2.2.2.2.1, zz.2.2.2.2.2.2.2.2.2.2.1, zz.2.2.2.2.2.2.2.2.2.2.2.1, zz.2.2.2.2.2.2.2.2.2.2.2.2.1, zz.2.2.2.2.2.2.2.2.2.2.2.2.2.1, zz.2.2.2.2.2.2.2.2.2.2.2.2.2.2.1, zz.2.2.2.2.2.2.2.2.2.2.2.2.2.2.2.1, zz.2.2.2.2.2.2.2.2.2.2.2.2.2.2.2.2.1, o3.2))) [0, 1, 2, 3, 4, 5, 6, 7, 8, 9, 10, 11, 12, 13, 14, 15] (by decide) rfl) (ci := 3) rfl rfl) rfl rfl hl.1 rfl (lv_room (Nat.le_of_ble_eq_true rfl)) dX3_worthwhile_24 ⟨Nat.le_of_ble_eq_true rfl, Nat.le_of_ble_eq_true rfl⟩) hP hD hS hA [0, 1, 2, 3, 4, 5, 6, 7, 8, 9, 10, 11, 12, 13, 14, 15] [] [0, 1, 2, 3, 4, 5, 6, 7, 8, 9, 10, 11, 12, 13, 14, 15] rfl rfl (by decide) (by decide) rfl (by decide) (fun H locs hP hD hS => ?_)
      have hP : va_P G.1 vwCl (wMO G za (zz.1, zz.2.1, zz.2.2.1, zz.2.2.2.1, zz.2.2.2.2.1, zz.2.2.2.2.2.1, zz.2.2.2.2.2.2.1, zz.2.2.2.2.2.2.2.1, zz.2.2.2.2.2.2.2.2.1, zz.2.2.2.2.2.2.2.2.2.1, zz.2.2.2.2.2.2.2.2.2.2.1, zz.2.2.2.2.2.2.2.2.2.2.2.1, zz.2.2.2.2.2.2.2.2.2.2.2.2.1, zz.2.2.2.2.2.2.2.2.2.2.2.2.2.1, zz.2.2.2.2.2.2.2.2.2.2.2.2.2.2.1, zz.2.2.2.2.2.2.2.2.2.2.2.2.2.2.2.1, zz.2.2.2.2.2.2.2.2.2.2.2.2.2.2.2.2.1, o3.2)) H := hP
      have hD : va_D A (wMO G za (zz.1, zz.2.1, zz.2.2.1, zz.2.2.2.1, zz.2.2.2.2.1, zz.2.2.2.2.2.1, zz.2.2.2.2.2.2.1, zz.2.2.2.2.2.2.2.1, zz.2.2.2.2.2.2.2.2.1, zz.2.2.2.2.2.2.2.2.2.1, zz.2.2.2.2.2.2.2.2.2.2.1, zz.2.2.2.2.2.2.2.2.2.2.2.1, zz.2.2.2.2.2.2.2.2.2.2.2.2.1, zz.2.2.2.2.2.2.2.2.2.2.2.2.2.1, zz.2.2.2.2.2.2.2.2.2.2.2.2.2.2.1, zz.2.2.2.2.2.2.2.2.2.2.2.2.2.2.2.1, zz.2.2.2.2.2.2.2.2.2.2.2.2.2.2.2.2.1, o3.2)) := hD
      refine lv_goto (tgt := 31) hx hb dX3_worthwhile_27 (by decide) ?_
      obtain rfl := sp_s h
      exact xk_reI hx hb hr hlk hP hD hS rfl dX3_worthwhile_31
  · have h := hv2
    clear hv2
    refine lv_if_eq (tgt := 15) hx hb dX3_worthwhile_8 (by decide) (fun c6 => ?_) (fun c6 => ?_)
    · have h := sp_t c6 h
      refine lv_iconst (v := (1 : Int32)) hx hb dX3_worthwhile_15 (by decide) ?_
      obtain rfl := sp_s h
      exact J2 _ _ hP hD hS _ (lv_sub hl [0, 1] rfl)
    · have h := sp_f c6 h
      refine lv_iconst (v := (0 : Int32)) hx hb dX3_worthwhile_11 (by decide) ?_
      refine lv_goto (tgt := 16) hx hb dX3_worthwhile_12 (by decide) ?_
      obtain rfl := sp_s h
      exact J2 _ _ hP hD hS _ (lv_sub hl [0, 1] rfl)
def f_X3_bestNet (zz : xMO) (i1 : Int32) : Option (Int32 × Int32) :=
  Option.bind (f_X3_isIn i1 (0 : Int32) (99 : Int32)) fun (o1 : Int32) =>
  Option.bind (
    if o1 = 0 then
      some (1 : Int32)
    else
      some (0 : Int32)) fun (v2 : Int32) =>
  Option.bind (f_X3_can zz v2) fun (o3 : Int32 × Int32) =>
  if o3.1 = 0 then
    some ((0 : Int32), o3.2)
  else
    Option.bind (f_X3_best (zz.1, zz.2.1, zz.2.2.1, zz.2.2.2.1, zz.2.2.2.2.1, zz.2.2.2.2.2.1, zz.2.2.2.2.2.2.1, zz.2.2.2.2.2.2.2.1, zz.2.2.2.2.2.2.2.2.1, zz.2.2.2.2.2.2.2.2.2.1, zz.2.2.2.2.2.2.2.2.2.2.1, zz.2.2.2.2.2.2.2.2.2.2.2.1, zz.2.2.2.2.2.2.2.2.2.2.2.2.1, zz.2.2.2.2.2.2.2.2.2.2.2.2.2.1, zz.2.2.2.2.2.2.2.2.2.2.2.2.2.2.1, zz.2.2.2.2.2.2.2.2.2.2.2.2.2.2.2.1, zz.2.2.2.2.2.2.2.2.2.2.2.2.2.2.2.2.1, o3.2) i1) fun (o5 : Int32) =>
    Option.bind (f_X3_net (zz.1, zz.2.1, zz.2.2.1, zz.2.2.2.1, zz.2.2.2.2.1, zz.2.2.2.2.2.1, zz.2.2.2.2.2.2.1, zz.2.2.2.2.2.2.2.1, zz.2.2.2.2.2.2.2.2.1, zz.2.2.2.2.2.2.2.2.2.1, zz.2.2.2.2.2.2.2.2.2.2.1, zz.2.2.2.2.2.2.2.2.2.2.2.1, zz.2.2.2.2.2.2.2.2.2.2.2.2.1, zz.2.2.2.2.2.2.2.2.2.2.2.2.2.1, zz.2.2.2.2.2.2.2.2.2.2.2.2.2.2.1, zz.2.2.2.2.2.2.2.2.2.2.2.2.2.2.2.1, zz.2.2.2.2.2.2.2.2.2.2.2.2.2.2.2.2.1, o3.2) o5 i1) fun (o6 : Int32) =>
    some (o6, o3.2)
theorem f_X3_bestNet_e (zz : xMO) (i1 : Int32) : f_X3_bestNet zz i1 =
  Option.bind (f_X3_isIn i1 (0 : Int32) (99 : Int32)) fun (o1 : Int32) =>
  Option.bind (
    if o1 = 0 then
      some (1 : Int32)
    else
      some (0 : Int32)) fun (v2 : Int32) =>
  Option.bind (f_X3_can zz v2) fun (o3 : Int32 × Int32) =>
  if o3.1 = 0 then
    some ((0 : Int32), o3.2)
  else
    Option.bind (f_X3_best (zz.1, zz.2.1, zz.2.2.1, zz.2.2.2.1, zz.2.2.2.2.1, zz.2.2.2.2.2.1, zz.2.2.2.2.2.2.1, zz.2.2.2.2.2.2.2.1, zz.2.2.2.2.2.2.2.2.1, zz.2.2.2.2.2.2.2.2.2.1, zz.2.2.2.2.2.2.2.2.2.2.1, zz.2.2.2.2.2.2.2.2.2.2.2.1, zz.2.2.2.2.2.2.2.2.2.2.2.2.1, zz.2.2.2.2.2.2.2.2.2.2.2.2.2.1, zz.2.2.2.2.2.2.2.2.2.2.2.2.2.2.1, zz.2.2.2.2.2.2.2.2.2.2.2.2.2.2.2.1, zz.2.2.2.2.2.2.2.2.2.2.2.2.2.2.2.2.1, o3.2) i1) fun (o5 : Int32) =>
    Option.bind (f_X3_net (zz.1, zz.2.1, zz.2.2.1, zz.2.2.2.1, zz.2.2.2.2.1, zz.2.2.2.2.2.1, zz.2.2.2.2.2.2.1, zz.2.2.2.2.2.2.2.1, zz.2.2.2.2.2.2.2.2.1, zz.2.2.2.2.2.2.2.2.2.1, zz.2.2.2.2.2.2.2.2.2.2.1, zz.2.2.2.2.2.2.2.2.2.2.2.1, zz.2.2.2.2.2.2.2.2.2.2.2.2.1, zz.2.2.2.2.2.2.2.2.2.2.2.2.2.1, zz.2.2.2.2.2.2.2.2.2.2.2.2.2.2.1, zz.2.2.2.2.2.2.2.2.2.2.2.2.2.2.2.1, zz.2.2.2.2.2.2.2.2.2.2.2.2.2.2.2.2.1, o3.2) o5 i1) fun (o6 : Int32) =>
    some (o6, o3.2) := rfl
set_option maxHeartbeats 4000000 in
set_option maxRecDepth 100000 in
theorem c_X3_bestNet (l : Launch) (G : xG) (za : (Nat → Nat)) (zz : xMO) (i1 : Int32) (o : Int32 × Int32) (h : f_X3_bestNet zz i1 = some o) : xk_CI l yX3_bestNet wsX3_bestNet ({ frames := 2, cells := 0, slots := 0, locals := 48 } : Room) 0 0 [.ref (za 0), .int i1] G (wMO G za zz) (wMO G za (zz.1, zz.2.1, zz.2.2.1, zz.2.2.2.1, zz.2.2.2.2.1, zz.2.2.2.2.2.1, zz.2.2.2.2.2.2.1, zz.2.2.2.2.2.2.2.1, zz.2.2.2.2.2.2.2.2.1, zz.2.2.2.2.2.2.2.2.2.1, zz.2.2.2.2.2.2.2.2.2.2.1, zz.2.2.2.2.2.2.2.2.2.2.2.1, zz.2.2.2.2.2.2.2.2.2.2.2.2.1, zz.2.2.2.2.2.2.2.2.2.2.2.2.2.1, zz.2.2.2.2.2.2.2.2.2.2.2.2.2.2.1, zz.2.2.2.2.2.2.2.2.2.2.2.2.2.2.2.1, zz.2.2.2.2.2.2.2.2.2.2.2.2.2.2.2.2.1, o.2)) o.1 := by
  refine xk_CI.of (cc := cX3_bestNet) (maxL := 2) (ret := (some .int)) (by decide) rfl (Nat.le_of_ble_eq_true rfl) ?_
  intro pr9 en9 s mm9 bl9 meth9 cd9 A ls H locs hx hb hr hml hts hown hlk hA hP hK hD hNE hS hl
  have hown : s.vm.findClass RX3 = some mm9.cls := hown
  have hl : lv_has ls 2 [(0, .ref (za 0)), (1, .int i1)] := hl
  have h := (f_X3_bestNet_e zz i1).symm.trans h
  refine lv_aload_n hx hb dX3_bestNet_0 rfl (lv_at hl 0 rfl) ?_
  refine lv_iload_n hx hb dX3_bestNet_1 rfl (lv_at hl 1 rfl) ?_
  refine lv_iconst (v := (0 : Int32)) hx hb dX3_bestNet_2 (by decide) ?_
  refine lv_bipush (v := (99 : Int32)) hx hb dX3_bestNet_3 (by decide) ?_
  obtain ⟨o1, ho1, h⟩ := sp_b h
  refine xk_ci (va_runS (As := [.int i1, .int (0 : Int32), .int (99 : Int32)]) (rest := [.ref (za 0)]) ⟨hx, hb, hml, hown, hts⟩ (c_X3_isIn l G i1 (0 : Int32) (99 : Int32) o1 ho1 H.size) (va_cwS 3 hts gX3_bestNet_X3_isIn rfl rfl rfl (by decide +kernel) ⟨Nat.le_of_ble_eq_true rfl, Nat.le_of_ble_eq_true rfl⟩) (xk_preS hK hNE (hP.sub (ws' := []) [] rfl) (hD.sub (ws' := []) [] (by decide) rfl)) rfl rfl hl.1 rfl (lv_room (Nat.le_of_ble_eq_true rfl)) dX3_bestNet_5 ⟨Nat.le_of_ble_eq_true rfl, Nat.le_of_ble_eq_true rfl⟩) hP hD hS hA [] [0, 1, 2, 3, 4, 5, 6, 7, 8, 9, 10, 11, 12, 13, 14, 15] [0, 1, 2, 3, 4, 5, 6, 7, 8, 9, 10, 11, 12, 13, 14, 15] rfl rfl (by decide) (by decide) rfl (by decide) (fun H locs hP hD hS => ?_)
  have hP : va_P G.1 vwCl (wMO G za zz) H := hP
  have hD : va_D A (wMO G za zz) := hD
  obtain ⟨v2, hv2, h⟩ := sp_b h
  refine xk_jn G A s.heap (wMO G za zz) 2 [(0, .ref (za 0)), (1, .int i1)] 16 [.int v2, .ref (za 0)] (fun H locs hP hD hS ls hl => ?_) (fun J2 => ?_)
  · obtain ⟨o3, ho3, h⟩ := sp_b h
    refine xk_ci (va_runV (As := [.int v2]) (rest := []) ⟨hx, hb, hml, hown, hts⟩ (c_X3_can l G za zz v2 o3 ho3 H.size) (cwV 1 hts gX3_bestNet_X3_can rfl rfl rfl (by decide +kernel) ⟨Nat.le_of_ble_eq_true rfl, Nat.le_of_ble_eq_true rfl⟩) (xk_preV hK hNE (hP.sub (ws' := (wMO G za zz)) [0, 1, 2, 3, 4, 5, 6, 7, 8, 9, 10, 11, 12, 13, 14, 15] rfl) (hD.sub (ws' := (wMO G za zz)) [0, 1, 2, 3, 4, 5, 6, 7, 8, 9, 10, 11, 12, 13, 14, 15] (by decide) rfl) (ci := 3) rfl rfl) rfl rfl hl.1 rfl (lv_room (Nat.le_of_ble_eq_true rfl)) dX3_bestNet_16 ⟨Nat.le_of_ble_eq_true rfl, Nat.le_of_ble_eq_true rfl⟩) hP hD hS hA [0, 1, 2, 3, 4, 5, 6, 7, 8, 9, 10, 11, 12, 13, 14, 15] [] [0, 1, 2, 3, 4, 5, 6, 7, 8, 9, 10, 11, 12, 13, 14, 15] rfl rfl (by decide) (by decide) rfl (by decide) (fun H locs hP hD hS => ?_)
    have hP : va_P G.1 vwCl (wMO G za (zz.1, zz.2.1, zz.2.2.1, zz.2.2.2.1, zz.2.2.2.2.1, zz.2.2.2.2.2.1, zz.2.2.2.2.2.2.1, zz.2.2.2.2.2.2.2.1, zz.2.2.2.2.2.2.2.2.1, zz.2.2.2.2.2.2.2.2.2.1, zz.2.2.2.2.2.2.2.2.2.2.1, zz.2.2.2.2.2.2.2.2.2.2.2.1, zz.2.2.2.2.2.2.2.2.2.2.2.2.1, zz.2.2.2.2.2.2.2.2.2.2.2.2.2.1, zz.2.2.2.2.2.2.2.2.2.2.2.2.2.2.1, zz.2.2.2.2.2.2.2.2.2.2.2.2.2.2.2.1, zz.2.2.2.2.2.2.2.2.2.2.2.2.2.2.2.2.1, o3.2)) H := hP
    have hD : va_D A (wMO G za (zz.1, zz.2.1, zz.2.2.1, zz.2.2.2.1, zz.2.2.2.2.1, zz.2.2.2.2.2.1, zz.2.2.2.2.2.2.1, zz.2.2.2.2.2.2.2.1, zz.2.2.2.2.2.2.2.2.1, zz.2.2.2.2.2.2.2.2.2.1, zz.2.2.2.2.2.2.2.2.2.2.1, zz.2.2.2.2.2.2.2.2.2.2.2.1, zz.2.2.2.2.2.2.2.2.2.2.2.2.1, zz.2.2.2.2.2.2.2.2.2.2.2.2.2.1, zz.2.2.2.2.2.2.2.2.2.2.2.2.2.2.1, zz.2.2.2.2.2.2.2.2.2.2.2.2.2.2.2.1, zz.2.2.2.2.2.2.2.2.2.2.2.2.2.2.2.2.1, o3.2)) := hD
    refine lv_if_eq (tgt := 35) hx hb dX3_bestNet_19 (by decide) (fun c4 => ?_) (fun c4 => ?_)
    · have h := sp_t c4 h
      refine lv_iconst (v := (0 : Int32)) hx hb dX3_bestNet_35 (by decide) ?_
      obtain rfl := sp_s h
      exact xk_reI hx hb hr hlk hP hD hS rfl dX3_bestNet_36
    · have h := sp_f c4 h
      refine lv_aload_n hx hb dX3_bestNet_22 rfl (lv_at hl 0 rfl) ?_
      refine lv_aload_n hx hb dX3_bestNet_23 rfl (lv_at hl 0 rfl) ?_
      refine lv_iload_n hx hb dX3_bestNet_24 rfl (lv_at hl 1 rfl) ?_
      obtain ⟨o5, ho5, h⟩ := sp_b h
      refine xk_ci (va_runV (As := [.int i1]) (rest := [.ref (za 0)]) ⟨hx, hb, hml, hown, hts⟩ (c_X3_best l G za (zz.1, zz.2.1, zz.2.2.1, zz.2.2.2.1, zz.2.2.2.2.1, zz.2.2.2.2.2.1, zz.2.2.2.2.2.2.1, zz.2.2.2.2.2.2.2.1, zz.2.2.2.2.2.2.2.2.1, zz.2.2.2.2.2.2.2.2.2.1, zz.2.2.2.2.2.2.2.2.2.2.1, zz.2.2.2.2.2.2.2.2.2.2.2.1, zz.2.2.2.2.2.2.2.2.2.2.2.2.1, zz.2.2.2.2.2.2.2.2.2.2.2.2.2.1, zz.2.2.2.2.2.2.2.2.2.2.2.2.2.2.1, zz.2.2.2.2.2.2.2.2.2.2.2.2.2.2.2.1, zz.2.2.2.2.2.2.2.2.2.2.2.2.2.2.2.2.1, o3.2) i1 o5 ho5 H.size) (cwV 1 hts gX3_bestNet_X3_best rfl rfl rfl (by decide +kernel) ⟨Nat.le_of_ble_eq_true rfl, Nat.le_of_ble_eq_true rfl⟩) (xk_preV hK hNE (hP.sub (ws' := (wMO G za (zz.1, zz.2.1, zz.2.2.1, zz.2.2.2.1, zz.2.2.2.2.1, zz.2.2.2.2.2.1, zz.2.2.2.2.2.2.1, zz.2.2.2.2.2.2.2.1, zz.2.2.2.2.2.2.2.2.1, zz.2.2.2.2.2.2.2.2.2.1, zz.2.2.2.2.2.2.2.2.2.2.1, zz.2.2.2.2.2.2.2.2.2.2.2.1, zz.2.2.2.2.2.2.2.2.2.2.2.2.1, zz.2.2.2.2.2.2.2.2.2.2.2.2.2.1, zz.2.2.2.2.2.2.2.2.2.2.2.2.2.2.1, zz.2.2.2.2.2.2.2.2.2.2.2.2.2.2.2.1, zz.2.2.2.2.2.2.2.2.2.2.2.2.2.2.2.2.1, o3.2))) [0, 1, 2, 3, 4, 5, 6, 7, 8, 9, 10, 11, 12, 13, 14, 15] rfl) (hD.sub (ws' := (wMO G za (zz.1, zz.2.1, zz.2.2.1, zz.2.2.2.1, zz.2.2.2.2.1, zz.2.2.2.2.2.1, zz.2.2.2.2.2.2.1, zz.2.2.2.2.2.2.2.1, zz.2.2.2.2.2.2.2.2.1, zz.2.2.2.2.2.2.2.2.2.1, zz.2.2.2.2.2.2.2.2.2.2.1, zz.2.2.2.2.2.2.2.2.2.2.2.1, zz.2.2.2.2.2.2.2.2.2.2.2.2.1, zz.2.2.2.2.2.2.2.2.2.2.2.2.2.1, zz.2.2.2.2.2.2.2.2.2.2.2.2.2.2.1, zz.2.2.2.2.2.2.2.2.2.2.2.2.2.2.2.1, zz.2.2.2.2.2.2.2.2.2.2.2.2.2.2.2.2.1, o3.2))) [0, 1, 2, 3, 4, 5, 6, 7, 8, 9, 10, 11, 12, 13, 14, 15] (by decide) rfl) (ci := 3) rfl rfl) rfl rfl hl.1 rfl (lv_room (Nat.le_of_ble_eq_true rfl)) dX3_bestNet_25 ⟨Nat.le_of_ble_eq_true rfl, Nat.le_of_ble_eq_true rfl⟩) hP hD hS hA [0, 1, 2, 3, 4, 5, 6, 7, 8, 9, 10, 11, 12, 13, 14, 15] [] [0, 1, 2, 3, 4, 5, 6, 7, 8, 9, 10, 11, 12, 13, 14, 15] rfl rfl (by decide) (by decide) rfl (by decide) (fun H locs hP hD hS => ?_)
      have hP : va_P G.1 vwCl (wMO G za (zz.1, zz.2.1, zz.2.2.1, zz.2.2.2.1, zz.2.2.2.2.1, zz.2.2.2.2.2.1, zz.2.2.2.2.2.2.1, zz.2.2.2.2.2.2.2.1, zz.2.2.2.2.2.2.2.2.1, zz.2.2.2.2.2.2.2.2.2.1, zz.2.2.2.2.2.2.2.2.2.2.1, zz.2.2.2.2.2.2.2.2.2.2.2.1, zz.2.2.2.2.2.2.2.2.2.2.2.2.1, zz.2.2.2.2.2.2.2.2.2.2.2.2.2.1, zz.2.2.2.2.2.2.2.2.2.2.2.2.2.2.1, zz.2.2.2.2.2.2.2.2.2.2.2.2.2.2.2.1, zz.2.2.2.2.2.2.2.2.2.2.2.2.2.2.2.2.1, o3.2)) H := hP
      have hD : va_D A (wMO G za (zz.1, zz.2.1, zz.2.2.1, zz.2.2.2.1, zz.2.2.2.2.1, zz.2.2.2.2.2.1, zz.2.2.2.2.2.2.1, zz.2.2.2.2.2.2.2.1, zz.2.2.2.2.2.2.2.2.1, zz.2.2.2.2.2.2.2.2.2.1, zz.2.2.2.2.2.2.2.2.2.2.1, zz.2.2.2.2.2.2.2.2.2.2.2.1, zz.2.2.2.2.2.2.2.2.2.2.2.2.1, zz.2.2.2.2.2.2.2.2.2.2.2.2.2.1, zz.2.2.2.2.2.2.2.2.2.2.2.2.2.2.1, zz.2.2.2.2.2.2.2.2.2.2.2.2.2.2.2.1, zz.2.2.2.2.2.2.2.2.2.2.2.2.2.2.2.2.1, o3.2)) := hD
      refine lv_iload_n hx hb dX3_bestNet_28 rfl (lv_at hl 1 rfl) ?_
      obtain ⟨o6, ho6, h⟩ := sp_b h
      refine xk_ci (va_runV (As := [.int o5, .int i1]) (rest := []) ⟨hx, hb, hml, hown, hts⟩ (c_X3_net l G za (zz.1, zz.2.1, zz.2.2.1, zz.2.2.2.1, zz.2.2.2.2.1, zz.2.2.2.2.2.1, zz.2.2.2.2.2.2.1, zz.2.2.2.2.2.2.2.1, zz.2.2.2.2.2.2.2.2.1, zz.2.2.2.2.2.2.2.2.2.1, zz.2.2.2.2.2.2.2.2.2.2.1, zz.2.2.2.2.2.2.2.2.2.2.2.1, zz.2.2.2.2.2.2.2.2.2.2.2.2.1, zz.2.2.2.2.2.2.2.2.2.2.2.2.2.1, zz.2.2.2.2.2.2.2.2.2.2.2.2.2.2.1, zz.2.2.2.2.2.2.2.2.2.2.2.2.2.2.2.1, zz.2.2.2.2.2.2.2.2.2.2.2.2.2.2.2.2.1, o3.2) o5 i1 o6 ho6 H.size) (cwV 2 hts gX3_bestNet_X3_net rfl rfl rfl (by decide +kernel) ⟨Nat.le_of_ble_eq_true rfl, Nat.le_of_ble_eq_true rfl⟩) (xk_preV hK hNE (hP.sub (ws' := (wMO G za (zz.1, zz.2.1, zz.2.2.1, zz.2.2.2.1, zz.2.2.2.2.1, zz.2.2.2.2.2.1, zz.2.2.2.2.2.2.1, zz.2.2.2.2.2.2.2.1, zz.2.2.2.2.2.2.2.2.1, zz.2.2.2.2.2.2.2.2.2.1, zz.2.2.2.2.2.2.2.2.2.2.1, zz.2.2.2.2.2.2.2.2.2.2.2.1, zz.2.2.2.2.2.2.2.2.2.2.2.2.1, zz.2.2.2.2.2.2.2.2.2.2.2.2.2.1, zz.2.2.2.2.2.2.2.2.2.2.2.2.2.2.1, zz.2.2.2.2.2.2.2.2.2.2.2.2.2.2.2.1, zz.2.2.2.2.2.2.2.2.2.2.2.2.2.2.2.2.1, o3.2))) [0, 1, 2, 3, 4, 5, 6, 7, 8, 9, 10, 11, 12, 13, 14, 15] rfl) (hD.sub (ws' := (wMO G za (zz.1, zz.2.1, zz.2.2.1, zz.2.2.2.1, zz.2.2.2.2.1, zz.2.2.2.2.2.1, zz.2.2.2.2.2.2.1, zz.2.2.2.2.2.2.2.1, zz.2.2.2.2.2.2.2.2.1, zz.2.2.2.2.2.2.2.2.2.1, zz.2.2.2.2.2.2.2.2.2.2.1, zz.2.2.2.2.2.2.2.2.2.2.2.1, zz.2.2.2.2.2.2.2.2.2.2.2.2.1, zz.2.2.2.2.2.2.2.2.2.2.2.2.2.1, zz.2.2.2.2.2.2.2.2.2.2.2.2.2.2.1, zz.2.2.2.2.2.2.2.2.2.2.2.2.2.2.2.1, zz.2.2.2.2.2.2.2.2.2.2.2.2.2.2.2.2.1, o3.2))) [0, 1, 2, 3, 4, 5, 6, 7, 8, 9, 10, 11, 12, 13, 14, 15] (by decide) rfl) (ci := 3) rfl rfl) rfl rfl hl.1 rfl (lv_room (Nat.le_of_ble_eq_true rfl)) dX3_bestNet_29 ⟨Nat.le_of_ble_eq_true rfl, Nat.le_of_ble_eq_true rfl⟩) hP hD hS hA [0, 1, 2, 3, 4, 5, 6, 7, 8, 9, 10, 11, 12, 13, 14, 15] [] [0, 1, 2, 3, 4, 5, 6, 7, 8, 9, 10, 11, 12, 13, 14, 15] rfl rfl (by decide) (by decide) rfl (by decide) (fun H locs hP hD hS => ?_)
      have hP : va_P G.1 vwCl (wMO G za (zz.1, zz.2.1, zz.2.2.1, zz.2.2.2.1, zz.2.2.2.2.1, zz.2.2.2.2.2.1, zz.2.2.2.2.2.2.1, zz.2.2.2.2.2.2.2.1, zz.2.2.2.2.2.2.2.2.1, zz.2.2.2.2.2.2.2.2.2.1, zz.2.2.2.2.2.2.2.2.2.2.1, zz.2.2.2.2.2.2.2.2.2.2.2.1, zz.2.2.2.2.2.2.2.2.2.2.2.2.1, zz.2.2.2.2.2.2.2.2.2.2.2.2.2.1, zz.2.2.2.2.2.2.2.2.2.2.2.2.2.2.1, zz.2.2.2.2.2.2.2.2.2.2.2.2.2.2.2.1, zz.2.2.2.2.2.2.2.2.2.2.2.2.2.2.2.2.1, o3.2)) H := hP
      have hD : va_D A (wMO G za (zz.1, zz.2.1, zz.2.2.1, zz.2.2.2.1, zz.2.2.2.2.1, zz.2.2.2.2.2.1, zz.2.2.2.2.2.2.1, zz.2.2.2.2.2.2.2.1, zz.2.2.2.2.2.2.2.2.1, zz.2.2.2.2.2.2.2.2.2.1, zz.2.2.2.2.2.2.2.2.2.2.1, zz.2.2.2.2.2.2.2.2.2.2.2.1, zz.2.2.2.2.2.2.2.2.2.2.2.2.1, zz.2.2.2.2.2.2.2.2.2.2.2.2.2.1, zz.2.2.2.2.2.2.2.2.2.2.2.2.2.2.1, zz.2.2.2.2.2.2.2.2.2.2.2.2.2.2.2.1, zz.2.2.2.2.2.2.2.2.2.2.2.2.2.2.2.2.1, o3.2)) := hD
      refine lv_goto (tgt := 36) hx hb dX3_bestNet_32 (by decide) ?_
      obtain rfl := sp_s h
      exact xk_reI hx hb hr hlk hP hD hS rfl dX3_bestNet_36
  · have h := hv2
    clear hv2
    refine lv_if_eq (tgt := 15) hx hb dX3_bestNet_8 (by decide) (fun c7 => ?_) (fun c7 => ?_)
    · have h := sp_t c7 h
      refine lv_iconst (v := (1 : Int32)) hx hb dX3_bestNet_15 (by decide) ?_
      obtain rfl := sp_s h
      exact J2 _ _ hP hD hS _ (lv_sub hl [0, 1] rfl)
    · have h := sp_f c7 h
      refine lv_iconst (v := (0 : Int32)) hx hb dX3_bestNet_11 (by decide) ?_
      refine lv_goto (tgt := 16) hx hb dX3_bestNet_12 (by decide) ?_
      obtain rfl := sp_s h
      exact J2 _ _ hP hD hS _ (lv_sub hl [0, 1] rfl)
def f_X3_closedSets_l9 (zz : xMO) : Nat → Int32 → Int32 → Option (Int32)
  | 0, _, _ => none
  | k9 + 1, x2_1, x1_1 =>
    if ((1 : Int32) <<< (zz.1 &&& 31)) ≤ x2_1 then
      some x1_1
    else
      Option.bind (f_X3_isClosed (zz.1, zz.2.1, zz.2.2.1, zz.2.2.2.1, zz.2.2.2.2.1, zz.2.2.2.2.2.1, zz.2.2.2.2.2.2.1, zz.2.2.2.2.2.2.2.1, zz.2.2.2.2.2.2.2.2.1, zz.2.2.2.2.2.2.2.2.2.1, zz.2.2.2.2.2.2.2.2.2.2.1, zz.2.2.2.2.2.2.2.2.2.2.2.1, zz.2.2.2.2.2.2.2.2.2.2.2.2.1, zz.2.2.2.2.2.2.2.2.2.2.2.2.2.1, zz.2.2.2.2.2.2.2.2.2.2.2.2.2.2.1, zz.2.2.2.2.2.2.2.2.2.2.2.2.2.2.2.1, zz.2.2.2.2.2.2.2.2.2.2.2.2.2.2.2.2.1, (0 : Int32)) x2_1) fun (o4 : Int32) =>
      Option.bind (
        if o4 = 0 then
          some (0 : Int32)
        else
          some (1 : Int32)) fun (v5 : Int32) =>
      f_X3_closedSets_l9 zz k9 (x2_1 + (1 : Int32)) (x1_1 + v5)
theorem f_X3_closedSets_l9_z (zz : xMO) (x2_1 : Int32) (x1_1 : Int32) : f_X3_closedSets_l9 zz 0 x2_1 x1_1 = none := rfl
theorem f_X3_closedSets_l9_s (zz : xMO) (k9 : Nat) (x2_1 : Int32) (x1_1 : Int32) : f_X3_closedSets_l9 zz (k9 + 1) x2_1 x1_1 =
    if ((1 : Int32) <<< (zz.1 &&& 31)) ≤ x2_1 then
      some x1_1
    else
      Option.bind (f_X3_isClosed (zz.1, zz.2.1, zz.2.2.1, zz.2.2.2.1, zz.2.2.2.2.1, zz.2.2.2.2.2.1, zz.2.2.2.2.2.2.1, zz.2.2.2.2.2.2.2.1, zz.2.2.2.2.2.2.2.2.1, zz.2.2.2.2.2.2.2.2.2.1, zz.2.2.2.2.2.2.2.2.2.2.1, zz.2.2.2.2.2.2.2.2.2.2.2.1, zz.2.2.2.2.2.2.2.2.2.2.2.2.1, zz.2.2.2.2.2.2.2.2.2.2.2.2.2.1, zz.2.2.2.2.2.2.2.2.2.2.2.2.2.2.1, zz.2.2.2.2.2.2.2.2.2.2.2.2.2.2.2.1, zz.2.2.2.2.2.2.2.2.2.2.2.2.2.2.2.2.1, (0 : Int32)) x2_1) fun (o4 : Int32) =>
      Option.bind (
        if o4 = 0 then
          some (0 : Int32)
        else
          some (1 : Int32)) fun (v5 : Int32) =>
      f_X3_closedSets_l9 zz k9 (x2_1 + (1 : Int32)) (x1_1 + v5) := rfl
def f_X3_closedSets (zz : xMO) : Option (Int32 × Int32) :=
  Option.bind (f_X3_closedSets_l9 zz 5000 (0 : Int32) (0 : Int32)) fun (w2 : Int32) =>
  some (w2, (0 : Int32))
theorem f_X3_closedSets_e (zz : xMO) : f_X3_closedSets zz =
  Option.bind (f_X3_closedSets_l9 zz 5000 (0 : Int32) (0 : Int32)) fun (w2 : Int32) =>
  some (w2, (0 : Int32)) := rfl
set_option maxHeartbeats 4000000 in
set_option maxRecDepth 100000 in
theorem c_X3_closedSets (l : Launch) (G : xG) (za : (Nat → Nat)) (zz : xMO) (o : Int32 × Int32) (h : f_X3_closedSets zz = some o) : xk_CI l yX3_closedSets wsX3_closedSets ({ frames := 1, cells := 0, slots := 0, locals := 23 } : Room) 0 0 [.ref (za 0)] G (wMO G za zz) (wMO G za (zz.1, zz.2.1, zz.2.2.1, zz.2.2.2.1, zz.2.2.2.2.1, zz.2.2.2.2.2.1, zz.2.2.2.2.2.2.1, zz.2.2.2.2.2.2.2.1, zz.2.2.2.2.2.2.2.2.1, zz.2.2.2.2.2.2.2.2.2.1, zz.2.2.2.2.2.2.2.2.2.2.1, zz.2.2.2.2.2.2.2.2.2.2.2.1, zz.2.2.2.2.2.2.2.2.2.2.2.2.1, zz.2.2.2.2.2.2.2.2.2.2.2.2.2.1, zz.2.2.2.2.2.2.2.2.2.2.2.2.2.2.1, zz.2.2.2.2.2.2.2.2.2.2.2.2.2.2.2.1, zz.2.2.2.2.2.2.2.2.2.2.2.2.2.2.2.2.1, o.2)) o.1 := by
  refine xk_CI.of (cc := cX3_closedSets) (maxL := 3) (ret := (some .int)) (by decide) rfl (Nat.le_of_ble_eq_true rfl) ?_
  intro pr9 en9 s mm9 bl9 meth9 cd9 A ls H locs hx hb hr hml hts hown hlk hA hP hK hD hNE hS hl
  have hown : s.vm.findClass RX3 = some mm9.cls := hown
  have hl : lv_has ls 3 [(0, .ref (za 0))] := hl
  have hinX3 : ∀ w ∈ u_ws RX3 TX3 18, w ∈ wsX3_closedSets := by decide +kernel
  have h := (f_X3_closedSets_e zz).symm.trans h
  refine lv_aload_n hx hb dX3_closedSets_0 rfl (lv_at hl 0 rfl) ?_
  refine lv_iconst (v := (0 : Int32)) hx hb dX3_closedSets_1 (by decide) ?_
  refine va_put (D := G.1) (ci := 3) (v := .int (0 : Int32)) (ty := .int) (C := RX3) (T := TX3) (N := 18) hx hb hts hinX3 tyX3 tyX3_ok nmX3 hown hK hP hD hS 0 rfl rfl 17 (by decide) (hts (.fieldLink RX3 56 "LessonWeaveModel" "thrown" "I") (by decide +kernel)) (fun _ h9 => h9) rfl (by decide +kernel) rfl rfl (Nat.le_of_ble_eq_true rfl) dX3_closedSets_2 (fun H locs hP hD hS => ?_)
  have hP : va_P G.1 vwCl (wMO G za (zz.1, zz.2.1, zz.2.2.1, zz.2.2.2.1, zz.2.2.2.2.1, zz.2.2.2.2.2.1, zz.2.2.2.2.2.2.1, zz.2.2.2.2.2.2.2.1, zz.2.2.2.2.2.2.2.2.1, zz.2.2.2.2.2.2.2.2.2.1, zz.2.2.2.2.2.2.2.2.2.2.1, zz.2.2.2.2.2.2.2.2.2.2.2.1, zz.2.2.2.2.2.2.2.2.2.2.2.2.1, zz.2.2.2.2.2.2.2.2.2.2.2.2.2.1, zz.2.2.2.2.2.2.2.2.2.2.2.2.2.2.1, zz.2.2.2.2.2.2.2.2.2.2.2.2.2.2.2.1, zz.2.2.2.2.2.2.2.2.2.2.2.2.2.2.2.2.1, (0 : Int32))) H := hP
  have hD : va_D A (wMO G za (zz.1, zz.2.1, zz.2.2.1, zz.2.2.2.1, zz.2.2.2.2.1, zz.2.2.2.2.2.1, zz.2.2.2.2.2.2.1, zz.2.2.2.2.2.2.2.1, zz.2.2.2.2.2.2.2.2.1, zz.2.2.2.2.2.2.2.2.2.1, zz.2.2.2.2.2.2.2.2.2.2.1, zz.2.2.2.2.2.2.2.2.2.2.2.1, zz.2.2.2.2.2.2.2.2.2.2.2.2.1, zz.2.2.2.2.2.2.2.2.2.2.2.2.2.1, zz.2.2.2.2.2.2.2.2.2.2.2.2.2.2.1, zz.2.2.2.2.2.2.2.2.2.2.2.2.2.2.2.1, zz.2.2.2.2.2.2.2.2.2.2.2.2.2.2.2.2.1, (0 : Int32))) := hD
  refine lv_iconst (v := (0 : Int32)) hx hb dX3_closedSets_5 (by decide) ?_
  refine lv_istore_n (lv' := [(1, .int (0 : Int32)), (0, .ref (za 0))]) hx hb dX3_closedSets_6 rfl hl (by decide) rfl (fun ls hl => ?_)
  refine lv_iconst (v := (0 : Int32)) hx hb dX3_closedSets_7 (by decide) ?_
  refine lv_istore_n (lv' := [(2, .int (0 : Int32)), (1, .int (0 : Int32)), (0, .ref (za 0))]) hx hb dX3_closedSets_8 rfl hl (by decide) rfl (fun ls hl => ?_)
  obtain ⟨w2, hw2, h⟩ := sp_b h
  refine xk_jn G A s.heap (wMO G za (zz.1, zz.2.1, zz.2.2.1, zz.2.2.2.1, zz.2.2.2.2.1, zz.2.2.2.2.2.1, zz.2.2.2.2.2.2.1, zz.2.2.2.2.2.2.2.1, zz.2.2.2.2.2.2.2.2.1, zz.2.2.2.2.2.2.2.2.2.1, zz.2.2.2.2.2.2.2.2.2.2.1, zz.2.2.2.2.2.2.2.2.2.2.2.1, zz.2.2.2.2.2.2.2.2.2.2.2.2.1, zz.2.2.2.2.2.2.2.2.2.2.2.2.2.1, zz.2.2.2.2.2.2.2.2.2.2.2.2.2.2.1, zz.2.2.2.2.2.2.2.2.2.2.2.2.2.2.2.1, zz.2.2.2.2.2.2.2.2.2.2.2.2.2.2.2.2.1, (0 : Int32))) 3 [(1, .int w2)] 41 [] (fun H locs hP hD hS ls hl => ?_) (fun J1 => ?_)
  · refine lv_iload_n hx hb dX3_closedSets_41 rfl (lv_at hl 0 rfl) ?_
    obtain rfl := sp_s h
    exact xk_reI hx hb hr hlk hP hD hS rfl dX3_closedSets_42
  · have h := hw2
    clear hw2
    refine xk_lp (α := Int32 × Int32) G A s.heap (fun a_1 => (wMO G za (zz.1, zz.2.1, zz.2.2.1, zz.2.2.2.1, zz.2.2.2.2.1, zz.2.2.2.2.2.1, zz.2.2.2.2.2.2.1, zz.2.2.2.2.2.2.2.1, zz.2.2.2.2.2.2.2.2.1, zz.2.2.2.2.2.2.2.2.2.1, zz.2.2.2.2.2.2.2.2.2.2.1, zz.2.2.2.2.2.2.2.2.2.2.2.1, zz.2.2.2.2.2.2.2.2.2.2.2.2.1, zz.2.2.2.2.2.2.2.2.2.2.2.2.2.1, zz.2.2.2.2.2.2.2.2.2.2.2.2.2.2.1, zz.2.2.2.2.2.2.2.2.2.2.2.2.2.2.2.1, zz.2.2.2.2.2.2.2.2.2.2.2.2.2.2.2.2.1, (0 : Int32)))) 3 (fun a_1 => [(2, .int a_1.1), (1, .int a_1.2), (0, .ref (za 0))]) 9 (fun n a_1 => f_X3_closedSets_l9 zz n a_1.1 a_1.2 = some w2) (fun a_1 h => ?_) (fun n ih_1 a_1 h H locs hP hD hS ls hl => ?_) (fun LL => ?_)
    · exact sp_n ((f_X3_closedSets_l9_z _ _ _).symm.trans h)
    · obtain ⟨x2_1, x1_1⟩ := a_1
      have h := (f_X3_closedSets_l9_s zz n x2_1 x1_1).symm.trans h
      have hP : va_P G.1 vwCl (wMO G za (zz.1, zz.2.1, zz.2.2.1, zz.2.2.2.1, zz.2.2.2.2.1, zz.2.2.2.2.2.1, zz.2.2.2.2.2.2.1, zz.2.2.2.2.2.2.2.1, zz.2.2.2.2.2.2.2.2.1, zz.2.2.2.2.2.2.2.2.2.1, zz.2.2.2.2.2.2.2.2.2.2.1, zz.2.2.2.2.2.2.2.2.2.2.2.1, zz.2.2.2.2.2.2.2.2.2.2.2.2.1, zz.2.2.2.2.2.2.2.2.2.2.2.2.2.1, zz.2.2.2.2.2.2.2.2.2.2.2.2.2.2.1, zz.2.2.2.2.2.2.2.2.2.2.2.2.2.2.2.1, zz.2.2.2.2.2.2.2.2.2.2.2.2.2.2.2.2.1, (0 : Int32))) H := hP
      have hD : va_D A (wMO G za (zz.1, zz.2.1, zz.2.2.1, zz.2.2.2.1, zz.2.2.2.2.1, zz.2.2.2.2.2.1, zz.2.2.2.2.2.2.1, zz.2.2.2.2.2.2.2.1, zz.2.2.2.2.2.2.2.2.1, zz.2.2.2.2.2.2.2.2.2.1, zz.2.2.2.2.2.2.2.2.2.2.1, zz.2.2.2.2.2.2.2.2.2.2.2.1, zz.2.2.2.2.2.2.2.2.2.2.2.2.1, zz.2.2.2.2.2.2.2.2.2.2.2.2.2.1, zz.2.2.2.2.2.2.2.2.2.2.2.2.2.2.1, zz.2.2.2.2.2.2.2.2.2.2.2.2.2.2.2.1, zz.2.2.2.2.2.2.2.2.2.2.2.2.2.2.2.2.1, (0 : Int32))) := hD
      have hl : lv_has ls 3 [(2, .int x2_1), (1, .int x1_1), (0, .ref (za 0))] := hl
      refine lv_iload_n hx hb dX3_closedSets_9 rfl (lv_at hl 0 rfl) ?_
      refine lv_iconst (v := (1 : Int32)) hx hb dX3_closedSets_10 (by decide) ?_
      refine lv_aload_n hx hb dX3_closedSets_11 rfl (lv_at hl 2 rfl) ?_
      refine va_get (D := G.1) (ci := 3) (v := .int zz.1) (C := RX3) (T := TX3) (N := 18) hx hb hts hinX3 hown hK hP 0 rfl rfl 0 (by decide) (hts (.fieldLink RX3 60 "LessonWeaveModel" "aims" "I") (by decide +kernel)) (fun _ h9 => h9) rfl dX3_closedSets_12 ?_
      refine lv_ishl hx hb dX3_closedSets_15 ?_
      refine lv_icmp_ge (tgt := 41) hx hb dX3_closedSets_16 (by decide) (fun c3 => ?_) (fun c3 => ?_)
      · have h := sp_t c3 h
        obtain rfl := sp_s h
        exact J1 _ _ hP hD hS _ (lv_sub hl [1] rfl)
      · have h := sp_f c3 h
        refine lv_iload_n hx hb dX3_closedSets_19 rfl (lv_at hl 1 rfl) ?_
        refine lv_aload_n hx hb dX3_closedSets_20 rfl (lv_at hl 2 rfl) ?_
        refine lv_iload_n hx hb dX3_closedSets_21 rfl (lv_at hl 0 rfl) ?_
        obtain ⟨o4, ho4, h⟩ := sp_b h
        refine xk_ci (va_runV (As := [.int x2_1]) (rest := [.int x1_1]) ⟨hx, hb, hml, hown, hts⟩ (c_X3_isClosed l G za (zz.1, zz.2.1, zz.2.2.1, zz.2.2.2.1, zz.2.2.2.2.1, zz.2.2.2.2.2.1, zz.2.2.2.2.2.2.1, zz.2.2.2.2.2.2.2.1, zz.2.2.2.2.2.2.2.2.1, zz.2.2.2.2.2.2.2.2.2.1, zz.2.2.2.2.2.2.2.2.2.2.1, zz.2.2.2.2.2.2.2.2.2.2.2.1, zz.2.2.2.2.2.2.2.2.2.2.2.2.1, zz.2.2.2.2.2.2.2.2.2.2.2.2.2.1, zz.2.2.2.2.2.2.2.2.2.2.2.2.2.2.1, zz.2.2.2.2.2.2.2.2.2.2.2.2.2.2.2.1, zz.2.2.2.2.2.2.2.2.2.2.2.2.2.2.2.2.1, (0 : Int32)) x2_1 o4 ho4 H.size) (cwV 1 hts gX3_closedSets_X3_isClosed rfl rfl rfl (by decide +kernel) ⟨Nat.le_of_ble_eq_true rfl, Nat.le_of_ble_eq_true rfl⟩) (xk_preV hK hNE (hP.sub (ws' := (wMO G za (zz.1, zz.2.1, zz.2.2.1, zz.2.2.2.1, zz.2.2.2.2.1, zz.2.2.2.2.2.1, zz.2.2.2.2.2.2.1, zz.2.2.2.2.2.2.2.1, zz.2.2.2.2.2.2.2.2.1, zz.2.2.2.2.2.2.2.2.2.1, zz.2.2.2.2.2.2.2.2.2.2.1, zz.2.2.2.2.2.2.2.2.2.2.2.1, zz.2.2.2.2.2.2.2.2.2.2.2.2.1, zz.2.2.2.2.2.2.2.2.2.2.2.2.2.1, zz.2.2.2.2.2.2.2.2.2.2.2.2.2.2.1, zz.2.2.2.2.2.2.2.2.2.2.2.2.2.2.2.1, zz.2.2.2.2.2.2.2.2.2.2.2.2.2.2.2.2.1, (0 : Int32)))) [0, 1, 2, 3, 4, 5, 6, 7, 8, 9, 10, 11, 12, 13, 14, 15] rfl) (hD.sub (ws' := (wMO G za (zz.1, zz.2.1, zz.2.2.1, zz.2.2.2.1, zz.2.2.2.2.1, zz.2.2.2.2.2.1, zz.2.2.2.2.2.2.1, zz.2.2.2.2.2.2.2.1, zz.2.2.2.2.2.2.2.2.1, zz.2.2.2.2.2.2.2.2.2.1, zz.2.2.2.2.2.2.2.2.2.2.1, zz.2.2.2.2.2.2.2.2.2.2.2.1, zz.2.2.2.2.2.2.2.2.2.2.2.2.1, zz.2.2.2.2.2.2.2.2.2.2.2.2.2.1, zz.2.2.2.2.2.2.2.2.2.2.2.2.2.2.1, zz.2.2.2.2.2.2.2.2.2.2.2.2.2.2.2.1, zz.2.2.2.2.2.2.2.2.2.2.2.2.2.2.2.2.1, (0 : Int32)))) [0, 1, 2, 3, 4, 5, 6, 7, 8, 9, 10, 11, 12, 13, 14, 15] (by decide) rfl) (ci := 3) rfl rfl) rfl rfl hl.1 rfl (lv_room (Nat.le_of_ble_eq_true rfl)) dX3_closedSets_22 ⟨Nat.le_of_ble_eq_true rfl, Nat.le_of_ble_eq_true rfl⟩) hP hD hS hA [0, 1, 2, 3, 4, 5, 6, 7, 8, 9, 10, 11, 12, 13, 14, 15] [] [0, 1, 2, 3, 4, 5, 6, 7, 8, 9, 10, 11, 12, 13, 14, 15] rfl rfl (by decide) (by decide) rfl (by decide) (fun H locs hP hD hS => ?_)
        have hP : va_P G.1 vwCl (wMO G za (zz.1, zz.2.1, zz.2.2.1, zz.2.2.2.1, zz.2.2.2.2.1, zz.2.2.2.2.2.1, zz.2.2.2.2.2.2.1, zz.2.2.2.2.2.2.2.1, zz.2.2.2.2.2.2.2.2.1, zz.2.2.2.2.2.2.2.2.2.1, zz.2.2.2.2.2.2.2.2.2.2.1, zz.2.2.2.2.2.2.2.2.2.2.2.1, zz.2.2.2.2.2.2.2.2.2.2.2.2.1, zz.2.2.2.2.2.2.2.2.2.2.2.2.2.1, zz.2.2.2.2.2.2.2.2.2.2.2.2.2.2.1, zz.2.2.2.2.2.2.2.2.2.2.2.2.2.2.2.1, zz.2.2.2.2.2.2.2.2.2.2.2.2.2.2.2.2.1, (0 : Int32))) H := hP
        have hD : va_D A (wMO G za (zz.1, zz.2.1, zz.2.2.1, zz.2.2.2.1, zz.2.2.2.2.1, zz.2.2.2.2.2.1, zz.2.2.2.2.2.2.1, zz.2.2.2.2.2.2.2.1, zz.2.2.2.2.2.2.2.2.1, zz.2.2.2.2.2.2.2.2.2.1, zz.2.2.2.2.2.2.2.2.2.2.1, zz.2.2.2.2.2.2.2.2.2.2.2.1, zz.2.2.2.2.2.2.2.2.2.2.2.2.1, zz.2.2.2.2.2.2.2.2.2.2.2.2.2.1, zz.2.2.2.2.2.2.2.2.2.2.2.2.2.2.1, zz.2.2.2.2.2.2.2.2.2.2.2.2.2.2.2.1, zz.2.2.2.2.2.2.2.2.2.2.2.2.2.2.2.2.1, (0 : Int32))) := hD
        obtain ⟨v5, hv5, h⟩ := sp_b h
        refine xk_jn G A s.heap (wMO G za (zz.1, zz.2.1, zz.2.2.1, zz.2.2.2.1, zz.2.2.2.2.1, zz.2.2.2.2.2.1, zz.2.2.2.2.2.2.1, zz.2.2.2.2.2.2.2.1, zz.2.2.2.2.2.2.2.2.1, zz.2.2.2.2.2.2.2.2.2.1, zz.2.2.2.2.2.2.2.2.2.2.1, zz.2.2.2.2.2.2.2.2.2.2.2.1, zz.2.2.2.2.2.2.2.2.2.2.2.2.1, zz.2.2.2.2.2.2.2.2.2.2.2.2.2.1, zz.2.2.2.2.2.2.2.2.2.2.2.2.2.2.1, zz.2.2.2.2.2.2.2.2.2.2.2.2.2.2.2.1, zz.2.2.2.2.2.2.2.2.2.2.2.2.2.2.2.2.1, (0 : Int32))) 3 [(2, .int x2_1), (0, .ref (za 0))] 33 [.int v5, .int x1_1] (fun H locs hP hD hS ls hl => ?_) (fun J5 => ?_)
        · refine lv_iadd hx hb dX3_closedSets_33 ?_
          refine lv_istore_n (lv' := [(1, .int (x1_1 + v5)), (2, .int x2_1), (0, .ref (za 0))]) hx hb dX3_closedSets_34 rfl hl (by decide) rfl (fun ls hl => ?_)
          refine lv_iinc (v := (x2_1 + (1 : Int32))) (lv' := [(2, .int (x2_1 + (1 : Int32))), (1, .int (x1_1 + v5)), (0, .ref (za 0))]) hx hb dX3_closedSets_35 hl (k := 1) rfl rfl (by decide) rfl (fun ls hl => ?_)
          refine lv_goto (tgt := 9) hx hb dX3_closedSets_38 (by decide) ?_
          exact ih_1 ((x2_1 + (1 : Int32)), (x1_1 + v5)) h _ _ hP hD hS _ (lv_sub hl [0, 1, 2] rfl)
        · have h := hv5
          clear hv5
          refine lv_if_eq (tgt := 32) hx hb dX3_closedSets_25 (by decide) (fun c6 => ?_) (fun c6 => ?_)
          · have h := sp_t c6 h
            refine lv_iconst (v := (0 : Int32)) hx hb dX3_closedSets_32 (by decide) ?_
            obtain rfl := sp_s h
            exact J5 _ _ hP hD hS _ (lv_sub hl [0, 2] rfl)
          · have h := sp_f c6 h
            refine lv_iconst (v := (1 : Int32)) hx hb dX3_closedSets_28 (by decide) ?_
            refine lv_goto (tgt := 33) hx hb dX3_closedSets_29 (by decide) ?_
            obtain rfl := sp_s h
            exact J5 _ _ hP hD hS _ (lv_sub hl [0, 2] rfl)
    · exact LL 5000 ((0 : Int32), (0 : Int32)) h _ _ hP hD hS _ (lv_sub hl [0, 1, 2] rfl)
