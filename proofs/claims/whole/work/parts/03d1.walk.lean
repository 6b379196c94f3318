def f_X3_dueOn (zz : xMO) (i1 : Int32) : Option (Int32) :=
  if i1 < 0 ∨ 12 ≤ i1.toNatClampNeg then none else
  if (zz.2.2.2.2.2.2.2.2.2.2.2.2.2.1 i1.toNatClampNeg) < (zz.2.1 i1.toNatClampNeg) then
    some (1000 : Int32)
  else
    if (zz.2.2.2.2.2.2.2.2.2.2.2.2.2.2.1 i1.toNatClampNeg) = (zz.2.2.2.2.2.2.1 i1.toNatClampNeg) then
      some (1000 : Int32)
    else
      Option.bind (
        if (zz.2.2.2.2.2.2.2.2.2.2.2.2.2.2.1 i1.toNatClampNeg) = 0 then
          if ((((5 : Int32) * i1) + (zz.2.1 i1.toNatClampNeg)) - (1 : Int32)) < 0 ∨ 60 ≤ ((((5 : Int32) * i1) + (zz.2.1 i1.toNatClampNeg)) - (1 : Int32)).toNatClampNeg then none else
          some (zz.2.2.2.2.2.2.2.2.2.2.2.1 ((((5 : Int32) * i1) + (zz.2.1 i1.toNatClampNeg)) - (1 : Int32)).toNatClampNeg)
        else
          if ((((3 : Int32) * i1) + (zz.2.2.2.2.2.2.2.2.2.2.2.2.2.2.1 i1.toNatClampNeg)) - (1 : Int32)) < 0 ∨ 36 ≤ ((((3 : Int32) * i1) + (zz.2.2.2.2.2.2.2.2.2.2.2.2.2.2.1 i1.toNatClampNeg)) - (1 : Int32)).toNatClampNeg then none else
          some (zz.2.2.2.2.2.2.2.2.2.2.2.2.1 ((((3 : Int32) * i1) + (zz.2.2.2.2.2.2.2.2.2.2.2.2.2.2.1 i1.toNatClampNeg)) - (1 : Int32)).toNatClampNeg)) fun (v4 : Int32) =>
      some (v4 + ((zz.2.2.2.2.2.2.2.1 i1.toNatClampNeg) <<< ((zz.2.2.2.2.2.2.2.2.2.2.2.2.2.2.1 i1.toNatClampNeg) &&& 31)))
theorem f_X3_dueOn_e (zz_0 : Int32) (zz_1 : xF) (zz_2 : xF) (zz_3 : xF) (zz_4 : xF) (zz_5 : xF) (zz_6 : xF) (zz_7 : xF) (zz_8 : xF) (zz_9 : xF) (zz_10 : xF) (zz_11 : xF) (zz_12 : xF) (zz_13 : xF) (zz_14 : xF) (zz_15 : xF) (zz_16 : Int32) (zz_17 : Int32) (i1 : Int32) : f_X3_dueOn (zz_0, zz_1, zz_2, zz_3, zz_4, zz_5, zz_6, zz_7, zz_8, zz_9, zz_10, zz_11, zz_12, zz_13, zz_14, zz_15, zz_16, zz_17) i1 =
  if i1 < 0 ∨ 12 ≤ i1.toNatClampNeg then none else
  if (zz_13 i1.toNatClampNeg) < (zz_1 i1.toNatClampNeg) then
    some (1000 : Int32)
  else
    if (zz_14 i1.toNatClampNeg) = (zz_6 i1.toNatClampNeg) then
      some (1000 : Int32)
    else
      Option.bind (
        if (zz_14 i1.toNatClampNeg) = 0 then
          if ((((5 : Int32) * i1) + (zz_1 i1.toNatClampNeg)) - (1 : Int32)) < 0 ∨ 60 ≤ ((((5 : Int32) * i1) + (zz_1 i1.toNatClampNeg)) - (1 : Int32)).toNatClampNeg then none else
          some (zz_11 ((((5 : Int32) * i1) + (zz_1 i1.toNatClampNeg)) - (1 : Int32)).toNatClampNeg)
        else
          if ((((3 : Int32) * i1) + (zz_14 i1.toNatClampNeg)) - (1 : Int32)) < 0 ∨ 36 ≤ ((((3 : Int32) * i1) + (zz_14 i1.toNatClampNeg)) - (1 : Int32)).toNatClampNeg then none else
          some (zz_12 ((((3 : Int32) * i1) + (zz_14 i1.toNatClampNeg)) - (1 : Int32)).toNatClampNeg)) fun (v4 : Int32) =>
      some (v4 + ((zz_7 i1.toNatClampNeg) <<< ((zz_14 i1.toNatClampNeg) &&& 31))) := rfl
set_option maxHeartbeats 4000000 in
set_option maxRecDepth 100000 in
theorem c_X3_dueOn (l : Launch) (G : xG) (za : (Nat → Nat)) (zz : xMO) (i1 : Int32) (o : Int32) (h : f_X3_dueOn zz i1 = some o) : xk_CI l yX3_dueOn wsX3_dueOn ({ frames := 0, cells := 0, slots := 0, locals := 0 } : Room) 0 0 [.ref (za 0), .int i1] G (wMOc G za zz.1 zz.2.1 zz.2.2.1 zz.2.2.2.1 zz.2.2.2.2.1 zz.2.2.2.2.2.1 zz.2.2.2.2.2.2.1 zz.2.2.2.2.2.2.2.1 zz.2.2.2.2.2.2.2.2.1 zz.2.2.2.2.2.2.2.2.2.1 zz.2.2.2.2.2.2.2.2.2.2.1 zz.2.2.2.2.2.2.2.2.2.2.2.1 zz.2.2.2.2.2.2.2.2.2.2.2.2.1 zz.2.2.2.2.2.2.2.2.2.2.2.2.2.1 zz.2.2.2.2.2.2.2.2.2.2.2.2.2.2.1 zz.2.2.2.2.2.2.2.2.2.2.2.2.2.2.2.1 zz.2.2.2.2.2.2.2.2.2.2.2.2.2.2.2.2.1 zz.2.2.2.2.2.2.2.2.2.2.2.2.2.2.2.2.2) (wMOc G za zz.1 zz.2.1 zz.2.2.1 zz.2.2.2.1 zz.2.2.2.2.1 zz.2.2.2.2.2.1 zz.2.2.2.2.2.2.1 zz.2.2.2.2.2.2.2.1 zz.2.2.2.2.2.2.2.2.1 zz.2.2.2.2.2.2.2.2.2.1 zz.2.2.2.2.2.2.2.2.2.2.1 zz.2.2.2.2.2.2.2.2.2.2.2.1 zz.2.2.2.2.2.2.2.2.2.2.2.2.1 zz.2.2.2.2.2.2.2.2.2.2.2.2.2.1 zz.2.2.2.2.2.2.2.2.2.2.2.2.2.2.1 zz.2.2.2.2.2.2.2.2.2.2.2.2.2.2.2.1 zz.2.2.2.2.2.2.2.2.2.2.2.2.2.2.2.2.1 zz.2.2.2.2.2.2.2.2.2.2.2.2.2.2.2.2.2) o := by
  obtain ⟨zz_0, zz_1, zz_2, zz_3, zz_4, zz_5, zz_6, zz_7, zz_8, zz_9, zz_10, zz_11, zz_12, zz_13, zz_14, zz_15, zz_16, zz_17⟩ := zz
  refine xk_CI.of (cc := cX3_dueOn) (maxL := 4) (ret := (some .int)) (by decide) rfl (Nat.le_of_ble_eq_true rfl) ?_
  intro pr9 en9 s mm9 bl9 meth9 cd9 A ls H locs hx hb hr hml hts hown hlk hA hP hK hD hNE hS hl
  have hown : s.vm.findClass RX3 = some mm9.cls := hown
  have hl : lv_has ls 4 [(0, .ref (za 0)), (1, .int i1)] := hl
  have hinX3 : ∀ w ∈ u_ws RX3 TX3 18, w ∈ wsX3_dueOn := by decide +kernel
  have hP : va_P G.1 vwCl (wMOc G za zz_0 zz_1 zz_2 zz_3 zz_4 zz_5 zz_6 zz_7 zz_8 zz_9 zz_10 zz_11 zz_12 zz_13 zz_14 zz_15 zz_16 zz_17) H := hP
  have hD : va_D A (wMOc G za zz_0 zz_1 zz_2 zz_3 zz_4 zz_5 zz_6 zz_7 zz_8 zz_9 zz_10 zz_11 zz_12 zz_13 zz_14 zz_15 zz_16 zz_17) := hD
  have h := (f_X3_dueOn_e zz_0 zz_1 zz_2 zz_3 zz_4 zz_5 zz_6 zz_7 zz_8 zz_9 zz_10 zz_11 zz_12 zz_13 zz_14 zz_15 zz_16 zz_17 i1).symm.trans h
  refine lv_aload_n hx hb dX3_dueOn_0 rfl (lv_at hl 0 rfl) ?_
  refine va_get (D := G.1) (ci := 3) (v := .ref (za 14)) (C := RX3) (T := TX3) (N := 18) hx hb hts hinX3 hown hK hP 0 rfl rfl 14 (by decide) (hts (.fieldLink RX3 50 "LessonWeaveModel" "revisitsLaid" "[I") (by decide +kernel)) (fun _ h9 => h9) rfl dX3_dueOn_1 ?_
  refine lv_iload_n hx hb dX3_dueOn_4 rfl (lv_at hl 1 rfl) ?_
  obtain ⟨hin1, h⟩ := sp_g h
  refine va_iald hx hb hK hP 14 0 rfl rfl hin1 dX3_dueOn_5 ?_
  refine lv_istore_n (lv' := [(2, .int (zz_14 i1.toNatClampNeg)), (0, .ref (za 0)), (1, .int i1)]) hx hb dX3_dueOn_6 rfl hl (by decide) rfl (fun ls hl => ?_)
  refine lv_aload_n hx hb dX3_dueOn_7 rfl (lv_at hl 1 rfl) ?_
  refine va_get (D := G.1) (ci := 3) (v := .ref (za 13)) (C := RX3) (T := TX3) (N := 18) hx hb hts hinX3 hown hK hP 0 rfl rfl 13 (by decide) (hts (.fieldLink RX3 47 "LessonWeaveModel" "lessonsLaid" "[I") (by decide +kernel)) (fun _ h9 => h9) rfl dX3_dueOn_8 ?_
  refine lv_iload_n hx hb dX3_dueOn_11 rfl (lv_at hl 2 rfl) ?_
  refine va_iald hx hb hK hP 13 0 rfl rfl hin1 dX3_dueOn_12 ?_
  refine lv_aload_n hx hb dX3_dueOn_13 rfl (lv_at hl 1 rfl) ?_
  refine va_get (D := G.1) (ci := 3) (v := .ref (za 1)) (C := RX3) (T := TX3) (N := 18) hx hb hts hinX3 hown hK hP 0 rfl rfl 1 (by decide) (hts (.fieldLink RX3 7 "LessonWeaveModel" "lessons" "[I") (by decide +kernel)) (fun _ h9 => h9) rfl dX3_dueOn_14 ?_
  refine lv_iload_n hx hb dX3_dueOn_17 rfl (lv_at hl 2 rfl) ?_
  refine va_iald hx hb hK hP 1 0 rfl rfl hin1 dX3_dueOn_18 ?_
  refine lv_icmp_lt (tgt := 32) hx hb dX3_dueOn_19 (by decide) (fun c2 => ?_) (fun c2 => ?_)
  · have h := sp_t c2 h
    refine lv_sipush (v := (1000 : Int32)) hx hb dX3_dueOn_32 (by decide) ?_
    obtain rfl := sp_s h
    exact xk_reI hx hb hr hlk hP hD hS rfl dX3_dueOn_35
  · have h := sp_f c2 h
    refine lv_iload_n hx hb dX3_dueOn_22 rfl (lv_at hl 0 rfl) ?_
    refine lv_aload_n hx hb dX3_dueOn_23 rfl (lv_at hl 1 rfl) ?_
    refine va_get (D := G.1) (ci := 3) (v := .ref (za 6)) (C := RX3) (T := TX3) (N := 18) hx hb hts hinX3 hown hK hP 0 rfl rfl 6 (by decide) (hts (.fieldLink RX3 25 "LessonWeaveModel" "many" "[I") (by decide +kernel)) (fun _ h9 => h9) rfl dX3_dueOn_24 ?_
    refine lv_iload_n hx hb dX3_dueOn_27 rfl (lv_at hl 2 rfl) ?_
    refine va_iald hx hb hK hP 6 0 rfl rfl hin1 dX3_dueOn_28 ?_
    refine lv_icmp_ne (tgt := 36) hx hb dX3_dueOn_29 (by decide) (fun c3 => ?_) (fun c3 => ?_)
    · have h := sp_f c3 h
      refine lv_iload_n hx hb dX3_dueOn_36 rfl (lv_at hl 0 rfl) ?_
      obtain ⟨v4, hv4, h⟩ := sp_b h
      refine xk_jn G A s.heap (wMOc G za zz_0 zz_1 zz_2 zz_3 zz_4 zz_5 zz_6 zz_7 zz_8 zz_9 zz_10 zz_11 zz_12 zz_13 zz_14 zz_15 zz_16 zz_17) 4 [(2, .int (zz_14 i1.toNatClampNeg)), (0, .ref (za 0)), (1, .int i1)] 72 [.int v4] (fun H locs hP hD hS ls hl => ?_) (fun J4 => ?_)
      · refine lv_istore_n (lv' := [(3, .int v4), (2, .int (zz_14 i1.toNatClampNeg)), (0, .ref (za 0)), (1, .int i1)]) hx hb dX3_dueOn_72 rfl hl (by decide) rfl (fun ls hl => ?_)
        refine lv_iload_n hx hb dX3_dueOn_73 rfl (lv_at hl 0 rfl) ?_
        refine lv_aload_n hx hb dX3_dueOn_74 rfl (lv_at hl 2 rfl) ?_
        refine va_get (D := G.1) (ci := 3) (v := .ref (za 7)) (C := RX3) (T := TX3) (N := 18) hx hb hts hinX3 hown hK hP 0 rfl rfl 7 (by decide) (hts (.fieldLink RX3 28 "LessonWeaveModel" "gap" "[I") (by decide +kernel)) (fun _ h9 => h9) rfl dX3_dueOn_75 ?_
        refine lv_iload_n hx hb dX3_dueOn_78 rfl (lv_at hl 3 rfl) ?_
        refine va_iald hx hb hK hP 7 0 rfl rfl hin1 dX3_dueOn_79 ?_
        refine lv_iload_n hx hb dX3_dueOn_80 rfl (lv_at hl 1 rfl) ?_
        refine lv_ishl hx hb dX3_dueOn_81 ?_
        refine lv_iadd hx hb dX3_dueOn_82 ?_
        obtain rfl := sp_s h
        exact xk_reI hx hb hr hlk hP hD hS rfl dX3_dueOn_83
      · have h := hv4
        clear hv4
        refine lv_if_ne (tgt := 60) hx hb dX3_dueOn_37 (by decide) (fun c5 => ?_) (fun c5 => ?_)
        · have h := sp_f c5 h
          refine lv_aload_n hx hb dX3_dueOn_60 rfl (lv_at hl 1 rfl) ?_
          refine va_get (D := G.1) (ci := 3) (v := .ref (za 12)) (C := RX3) (T := TX3) (N := 18) hx hb hts hinX3 hown hK hP 0 rfl rfl 12 (by decide) (hts (.fieldLink RX3 44 "LessonWeaveModel" "revisitOn" "[I") (by decide +kernel)) (fun _ h9 => h9) rfl dX3_dueOn_61 ?_
          refine lv_iconst (v := (3 : Int32)) hx hb dX3_dueOn_64 (by decide) ?_
          refine lv_iload_n hx hb dX3_dueOn_65 rfl (lv_at hl 2 rfl) ?_
          refine lv_imul hx hb dX3_dueOn_66 ?_
          refine lv_iload_n hx hb dX3_dueOn_67 rfl (lv_at hl 0 rfl) ?_
          refine lv_iadd hx hb dX3_dueOn_68 ?_
          refine lv_iconst (v := (1 : Int32)) hx hb dX3_dueOn_69 (by decide) ?_
          refine lv_isub hx hb dX3_dueOn_70 ?_
          obtain ⟨hin6, h⟩ := sp_g h
          refine va_iald hx hb hK hP 12 0 rfl rfl hin6 dX3_dueOn_71 ?_
          obtain rfl := sp_s h
          exact J4 _ _ hP hD hS _ (lv_sub hl [0, 1, 2] rfl)
        · have h := sp_t c5 h
          refine lv_aload_n hx hb dX3_dueOn_40 rfl (lv_at hl 1 rfl) ?_
          refine va_get (D := G.1) (ci := 3) (v := .ref (za 11)) (C := RX3) (T := TX3) (N := 18) hx hb hts hinX3 hown hK hP 0 rfl rfl 11 (by decide) (hts (.fieldLink RX3 41 "LessonWeaveModel" "lessonOn" "[I") (by decide +kernel)) (fun _ h9 => h9) rfl dX3_dueOn_41 ?_
          refine lv_iconst (v := (5 : Int32)) hx hb dX3_dueOn_44 (by decide) ?_
          refine lv_iload_n hx hb dX3_dueOn_45 rfl (lv_at hl 2 rfl) ?_
          refine lv_imul hx hb dX3_dueOn_46 ?_
          refine lv_aload_n hx hb dX3_dueOn_47 rfl (lv_at hl 1 rfl) ?_
          refine va_get (D := G.1) (ci := 3) (v := .ref (za 1)) (C := RX3) (T := TX3) (N := 18) hx hb hts hinX3 hown hK hP 0 rfl rfl 1 (by decide) (hts (.fieldLink RX3 7 "LessonWeaveModel" "lessons" "[I") (by decide +kernel)) (fun _ h9 => h9) rfl dX3_dueOn_48 ?_
          refine lv_iload_n hx hb dX3_dueOn_51 rfl (lv_at hl 2 rfl) ?_
          refine va_iald hx hb hK hP 1 0 rfl rfl hin1 dX3_dueOn_52 ?_
          refine lv_iadd hx hb dX3_dueOn_53 ?_
          refine lv_iconst (v := (1 : Int32)) hx hb dX3_dueOn_54 (by decide) ?_
          refine lv_isub hx hb dX3_dueOn_55 ?_
          obtain ⟨hin7, h⟩ := sp_g h
          refine va_iald hx hb hK hP 11 0 rfl rfl hin7 dX3_dueOn_56 ?_
          refine lv_goto (tgt := 72) hx hb dX3_dueOn_57 (by decide) ?_
          obtain rfl := sp_s h
          exact J4 _ _ hP hD hS _ (lv_sub hl [0, 1, 2] rfl)
    · have h := sp_t c3 h
      refine lv_sipush (v := (1000 : Int32)) hx hb dX3_dueOn_32 (by decide) ?_
      obtain rfl := sp_s h
      exact xk_reI hx hb hr hlk hP hD hS rfl dX3_dueOn_35
def f_X3_lateFrom (zz : xMO) (i1 : Int32) : Option (Int32) :=
  Option.bind (f_X3_dueOn (zz.1, zz.2.1, zz.2.2.1, zz.2.2.2.1, zz.2.2.2.2.1, zz.2.2.2.2.2.1, zz.2.2.2.2.2.2.1, zz.2.2.2.2.2.2.2.1, zz.2.2.2.2.2.2.2.2.1, zz.2.2.2.2.2.2.2.2.2.1, zz.2.2.2.2.2.2.2.2.2.2.1, zz.2.2.2.2.2.2.2.2.2.2.2.1, zz.2.2.2.2.2.2.2.2.2.2.2.2.1, zz.2.2.2.2.2.2.2.2.2.2.2.2.2.1, zz.2.2.2.2.2.2.2.2.2.2.2.2.2.2.1, zz.2.2.2.2.2.2.2.2.2.2.2.2.2.2.2.1, zz.2.2.2.2.2.2.2.2.2.2.2.2.2.2.2.2.1, zz.2.2.2.2.2.2.2.2.2.2.2.2.2.2.2.2.2) i1) fun (o1 : Int32) =>
  if i1 < 0 ∨ 12 ≤ i1.toNatClampNeg then none else
  some (o1 + ((zz.2.2.2.2.2.2.2.1 i1.toNatClampNeg) <<< ((zz.2.2.2.2.2.2.2.2.2.2.2.2.2.2.1 i1.toNatClampNeg) &&& 31)))
theorem f_X3_lateFrom_e (zz_0 : Int32) (zz_1 : xF) (zz_2 : xF) (zz_3 : xF) (zz_4 : xF) (zz_5 : xF) (zz_6 : xF) (zz_7 : xF) (zz_8 : xF) (zz_9 : xF) (zz_10 : xF) (zz_11 : xF) (zz_12 : xF) (zz_13 : xF) (zz_14 : xF) (zz_15 : xF) (zz_16 : Int32) (zz_17 : Int32) (i1 : Int32) : f_X3_lateFrom (zz_0, zz_1, zz_2, zz_3, zz_4, zz_5, zz_6, zz_7, zz_8, zz_9, zz_10, zz_11, zz_12, zz_13, zz_14, zz_15, zz_16, zz_17) i1 =
  Option.bind (f_X3_dueOn (zz_0, zz_1, zz_2, zz_3, zz_4, zz_5, zz_6, zz_7, zz_8, zz_9, zz_10, zz_11, zz_12, zz_13, zz_14, zz_15, zz_16, zz_17) i1) fun (o1 : Int32) =>
  if i1 < 0 ∨ 12 ≤ i1.toNatClampNeg then none else
  some (o1 + ((zz_7 i1.toNatClampNeg) <<< ((zz_14 i1.toNatClampNeg) &&& 31))) := rfl
set_option maxHeartbeats 4000000 in
set_option maxRecDepth 100000 in
theorem c_X3_lateFrom (l : Launch) (G : xG) (za : (Nat → Nat)) (zz : xMO) (i1 : Int32) (o : Int32) (h : f_X3_lateFrom zz i1 = some o) : xk_CI l yX3_lateFrom wsX3_lateFrom ({ frames := 1, cells := 0, slots := 0, locals := 23 } : Room) 0 0 [.ref (za 0), .int i1] G (wMOc G za zz.1 zz.2.1 zz.2.2.1 zz.2.2.2.1 zz.2.2.2.2.1 zz.2.2.2.2.2.1 zz.2.2.2.2.2.2.1 zz.2.2.2.2.2.2.2.1 zz.2.2.2.2.2.2.2.2.1 zz.2.2.2.2.2.2.2.2.2.1 zz.2.2.2.2.2.2.2.2.2.2.1 zz.2.2.2.2.2.2.2.2.2.2.2.1 zz.2.2.2.2.2.2.2.2.2.2.2.2.1 zz.2.2.2.2.2.2.2.2.2.2.2.2.2.1 zz.2.2.2.2.2.2.2.2.2.2.2.2.2.2.1 zz.2.2.2.2.2.2.2.2.2.2.2.2.2.2.2.1 zz.2.2.2.2.2.2.2.2.2.2.2.2.2.2.2.2.1 zz.2.2.2.2.2.2.2.2.2.2.2.2.2.2.2.2.2) (wMOc G za zz.1 zz.2.1 zz.2.2.1 zz.2.2.2.1 zz.2.2.2.2.1 zz.2.2.2.2.2.1 zz.2.2.2.2.2.2.1 zz.2.2.2.2.2.2.2.1 zz.2.2.2.2.2.2.2.2.1 zz.2.2.2.2.2.2.2.2.2.1 zz.2.2.2.2.2.2.2.2.2.2.1 zz.2.2.2.2.2.2.2.2.2.2.2.1 zz.2.2.2.2.2.2.2.2.2.2.2.2.1 zz.2.2.2.2.2.2.2.2.2.2.2.2.2.1 zz.2.2.2.2.2.2.2.2.2.2.2.2.2.2.1 zz.2.2.2.2.2.2.2.2.2.2.2.2.2.2.2.1 zz.2.2.2.2.2.2.2.2.2.2.2.2.2.2.2.2.1 zz.2.2.2.2.2.2.2.2.2.2.2.2.2.2.2.2.2) o := by
  obtain ⟨zz_0, zz_1, zz_2, zz_3, zz_4, zz_5, zz_6, zz_7, zz_8, zz_9, zz_10, zz_11, zz_12, zz_13, zz_14, zz_15, zz_16, zz_17⟩ := zz
  refine xk_CI.of (cc := cX3_lateFrom) (maxL := 2) (ret := (some .int)) (by decide) rfl (Nat.le_of_ble_eq_true rfl) ?_
  intro pr9 en9 s mm9 bl9 meth9 cd9 A ls H locs hx hb hr hml hts hown hlk hA hP hK hD hNE hS hl
  have hown : s.vm.findClass RX3 = some mm9.cls := hown
  have hl : lv_has ls 2 [(0, .ref (za 0)), (1, .int i1)] := hl
  have hinX3 : ∀ w ∈ u_ws RX3 TX3 18, w ∈ wsX3_lateFrom := by decide +kernel
  have hP : va_P G.1 vwCl (wMOc G za zz_0 zz_1 zz_2 zz_3 zz_4 zz_5 zz_6 zz_7 zz_8 zz_9 zz_10 zz_11 zz_12 zz_13 zz_14 zz_15 zz_16 zz_17) H := hP
  have hD : va_D A (wMOc G za zz_0 zz_1 zz_2 zz_3 zz_4 zz_5 zz_6 zz_7 zz_8 zz_9 zz_10 zz_11 zz_12 zz_13 zz_14 zz_15 zz_16 zz_17) := hD
  have h := (f_X3_lateFrom_e zz_0 zz_1 zz_2 zz_3 zz_4 zz_5 zz_6 zz_7 zz_8 zz_9 zz_10 zz_11 zz_12 zz_13 zz_14 zz_15 zz_16 zz_17 i1).symm.trans h
  refine lv_aload_n hx hb dX3_lateFrom_0 rfl (lv_at hl 0 rfl) ?_
  refine lv_iload_n hx hb dX3_lateFrom_1 rfl (lv_at hl 1 rfl) ?_
  obtain ⟨o1, ho1, h⟩ := sp_b h
  refine xk_ci (va_runV (As := [.int i1]) (rest := []) ⟨hx, hb, hml, hown, hts⟩ (c_X3_dueOn l G za (zz_0, zz_1, zz_2, zz_3, zz_4, zz_5, zz_6, zz_7, zz_8, zz_9, zz_10, zz_11, zz_12, zz_13, zz_14, zz_15, zz_16, zz_17) i1 o1 ho1 H.size) (cwV 1 hts gX3_lateFrom_X3_dueOn rfl rfl rfl (by decide +kernel) ⟨Nat.le_of_ble_eq_true rfl, Nat.le_of_ble_eq_true rfl⟩) (xk_preV hK hNE (hP.sub (ws' := (wMOc G za zz_0 zz_1 zz_2 zz_3 zz_4 zz_5 zz_6 zz_7 zz_8 zz_9 zz_10 zz_11 zz_12 zz_13 zz_14 zz_15 zz_16 zz_17)) [0, 1, 2, 3, 4, 5, 6, 7, 8, 9, 10, 11, 12, 13, 14, 15] rfl) (hD.sub (ws' := (wMOc G za zz_0 zz_1 zz_2 zz_3 zz_4 zz_5 zz_6 zz_7 zz_8 zz_9 zz_10 zz_11 zz_12 zz_13 zz_14 zz_15 zz_16 zz_17)) [0, 1, 2, 3, 4, 5, 6, 7, 8, 9, 10, 11, 12, 13, 14, 15] (by decide) rfl) (ci := 3) rfl rfl) rfl rfl hl.1 rfl (lv_room (Nat.le_of_ble_eq_true rfl)) dX3_lateFrom_2 ⟨Nat.le_of_ble_eq_true rfl, Nat.le_of_ble_eq_true rfl⟩) hP hD hS hA [0, 1, 2, 3, 4, 5, 6, 7, 8, 9, 10, 11, 12, 13, 14, 15] [] [0, 1, 2, 3, 4, 5, 6, 7, 8, 9, 10, 11, 12, 13, 14, 15] rfl rfl (by decide) (by decide) rfl (by decide) (fun H locs hP hD hS => ?_)
  have hP : va_P G.1 vwCl (wMOc G za zz_0 zz_1 zz_2 zz_3 zz_4 zz_5 zz_6 zz_7 zz_8 zz_9 zz_10 zz_11 zz_12 zz_13 zz_14 zz_15 zz_16 zz_17) H := hP
  have hD : va_D A (wMOc G za zz_0 zz_1 zz_2 zz_3 zz_4 zz_5 zz_6 zz_7 zz_8 zz_9 zz_10 zz_11 zz_12 zz_13 zz_14 zz_15 zz_16 zz_17) := hD
  refine lv_aload_n hx hb dX3_lateFrom_5 rfl (lv_at hl 0 rfl) ?_
  refine va_get (D := G.1) (ci := 3) (v := .ref (za 7)) (C := RX3) (T := TX3) (N := 18) hx hb hts hinX3 hown hK hP 0 rfl rfl 7 (by decide) (hts (.fieldLink RX3 28 "LessonWeaveModel" "gap" "[I") (by decide +kernel)) (fun _ h9 => h9) rfl dX3_lateFrom_6 ?_
  refine lv_iload_n hx hb dX3_lateFrom_9 rfl (lv_at hl 1 rfl) ?_
  obtain ⟨hin2, h⟩ := sp_g h
  refine va_iald hx hb hK hP 7 0 rfl rfl hin2 dX3_lateFrom_10 ?_
  refine lv_aload_n hx hb dX3_lateFrom_11 rfl (lv_at hl 0 rfl) ?_
  refine va_get (D := G.1) (ci := 3) (v := .ref (za 14)) (C := RX3) (T := TX3) (N := 18) hx hb hts hinX3 hown hK hP 0 rfl rfl 14 (by decide) (hts (.fieldLink RX3 50 "LessonWeaveModel" "revisitsLaid" "[I") (by decide +kernel)) (fun _ h9 => h9) rfl dX3_lateFrom_12 ?_
  refine lv_iload_n hx hb dX3_lateFrom_15 rfl (lv_at hl 1 rfl) ?_
  refine va_iald hx hb hK hP 14 0 rfl rfl hin2 dX3_lateFrom_16 ?_
  refine lv_ishl hx hb dX3_lateFrom_17 ?_
  refine lv_iadd hx hb dX3_lateFrom_18 ?_
  obtain rfl := sp_s h
  exact xk_reI hx hb hr hlk hP hD hS rfl dX3_lateFrom_19
def f_X3_revisitFor_l4 (zz_0 : Int32) (zz_1 : xF) (zz_2 : xF) (zz_3 : xF) (zz_4 : xF) (zz_5 : xF) (zz_6 : xF) (zz_7 : xF) (zz_8 : xF) (zz_9 : xF) (zz_10 : xF) (zz_11 : xF) (zz_12 : xF) (zz_13 : xF) (zz_14 : xF) (zz_15 : xF) (zz_16 : Int32) (zz_17 : Int32) (i1 : Int32) : Nat → Int32 → Int32 → Option (Int32)
  | 0, _, _ => none
  | k9 + 1, x3_1, x2_1 =>
    if zz_0 ≤ x3_1 then
      some x2_1
    else
      Option.bind (f_X3_dueOn (zz_0, zz_1, zz_2, zz_3, zz_4, zz_5, zz_6, zz_7, zz_8, zz_9, zz_10, zz_11, zz_12, zz_13, zz_14, zz_15, zz_16, zz_17) x3_1) fun (o4 : Int32) =>
      if i1 < o4 then
        f_X3_revisitFor_l4 zz_0 zz_1 zz_2 zz_3 zz_4 zz_5 zz_6 zz_7 zz_8 zz_9 zz_10 zz_11 zz_12 zz_13 zz_14 zz_15 zz_16 zz_17 i1 k9 (x3_1 + (1 : Int32)) x2_1
      else
        if x2_1 = ((-1) : Int32) then
          f_X3_revisitFor_l4 zz_0 zz_1 zz_2 zz_3 zz_4 zz_5 zz_6 zz_7 zz_8 zz_9 zz_10 zz_11 zz_12 zz_13 zz_14 zz_15 zz_16 zz_17 i1 k9 (x3_1 + (1 : Int32)) x3_1
        else
          Option.bind (f_X3_lateFrom (zz_0, zz_1, zz_2, zz_3, zz_4, zz_5, zz_6, zz_7, zz_8, zz_9, zz_10, zz_11, zz_12, zz_13, zz_14, zz_15, zz_16, zz_17) x3_1) fun (o7 : Int32) =>
          Option.bind (f_X3_lateFrom (zz_0, zz_1, zz_2, zz_3, zz_4, zz_5, zz_6, zz_7, zz_8, zz_9, zz_10, zz_11, zz_12, zz_13, zz_14, zz_15, zz_16, zz_17) x2_1) fun (o8 : Int32) =>
          if o8 ≤ o7 then
            f_X3_revisitFor_l4 zz_0 zz_1 zz_2 zz_3 zz_4 zz_5 zz_6 zz_7 zz_8 zz_9 zz_10 zz_11 zz_12 zz_13 zz_14 zz_15 zz_16 zz_17 i1 k9 (x3_1 + (1 : Int32)) x2_1
          else
            f_X3_revisitFor_l4 zz_0 zz_1 zz_2 zz_3 zz_4 zz_5 zz_6 zz_7 zz_8 zz_9 zz_10 zz_11 zz_12 zz_13 zz_14 zz_15 zz_16 zz_17 i1 k9 (x3_1 + (1 : Int32)) x3_1
theorem f_X3_revisitFor_l4_z (zz_0 : Int32) (zz_1 : xF) (zz_2 : xF) (zz_3 : xF) (zz_4 : xF) (zz_5 : xF) (zz_6 : xF) (zz_7 : xF) (zz_8 : xF) (zz_9 : xF) (zz_10 : xF) (zz_11 : xF) (zz_12 : xF) (zz_13 : xF) (zz_14 : xF) (zz_15 : xF) (zz_16 : Int32) (zz_17 : Int32) (i1 : Int32) (x3_1 : Int32) (x2_1 : Int32) : f_X3_revisitFor_l4 zz_0 zz_1 zz_2 zz_3 zz_4 zz_5 zz_6 zz_7 zz_8 zz_9 zz_10 zz_11 zz_12 zz_13 zz_14 zz_15 zz_16 zz_17 i1 0 x3_1 x2_1 = none := rfl
theorem f_X3_revisitFor_l4_s (zz_0 : Int32) (zz_1 : xF) (zz_2 : xF) (zz_3 : xF) (zz_4 : xF) (zz_5 : xF) (zz_6 : xF) (zz_7 : xF) (zz_8 : xF) (zz_9 : xF) (zz_10 : xF) (zz_11 : xF) (zz_12 : xF) (zz_13 : xF) (zz_14 : xF) (zz_15 : xF) (zz_16 : Int32) (zz_17 : Int32) (i1 : Int32) (k9 : Nat) (x3_1 : Int32) (x2_1 : Int32) : f_X3_revisitFor_l4 zz_0 zz_1 zz_2 zz_3 zz_4 zz_5 zz_6 zz_7 zz_8 zz_9 zz_10 zz_11 zz_12 zz_13 zz_14 zz_15 zz_16 zz_17 i1 (k9 + 1) x3_1 x2_1 =
    if zz_0 ≤ x3_1 then
      some x2_1
    else
      Option.bind (f_X3_dueOn (zz_0, zz_1, zz_2, zz_3, zz_4, zz_5, zz_6, zz_7, zz_8, zz_9, zz_10, zz_11, zz_12, zz_13, zz_14, zz_15, zz_16, zz_17) x3_1) fun (o4 : Int32) =>
      if i1 < o4 then
        f_X3_revisitFor_l4 zz_0 zz_1 zz_2 zz_3 zz_4 zz_5 zz_6 zz_7 zz_8 zz_9 zz_10 zz_11 zz_12 zz_13 zz_14 zz_15 zz_16 zz_17 i1 k9 (x3_1 + (1 : Int32)) x2_1
      else
        if x2_1 = ((-1) : Int32) then
          f_X3_revisitFor_l4 zz_0 zz_1 zz_2 zz_3 zz_4 zz_5 zz_6 zz_7 zz_8 zz_9 zz_10 zz_11 zz_12 zz_13 zz_14 zz_15 zz_16 zz_17 i1 k9 (x3_1 + (1 : Int32)) x3_1
        else
          Option.bind (f_X3_lateFrom (zz_0, zz_1, zz_2, zz_3, zz_4, zz_5, zz_6, zz_7, zz_8, zz_9, zz_10, zz_11, zz_12, zz_13, zz_14, zz_15, zz_16, zz_17) x3_1) fun (o7 : Int32) =>
          Option.bind (f_X3_lateFrom (zz_0, zz_1, zz_2, zz_3, zz_4, zz_5, zz_6, zz_7, zz_8, zz_9, zz_10, zz_11, zz_12, zz_13, zz_14, zz_15, zz_16, zz_17) x2_1) fun (o8 : Int32) =>
          if o8 ≤ o7 then
            f_X3_revisitFor_l4 zz_0 zz_1 zz_2 zz_3 zz_4 zz_5 zz_6 zz_7 zz_8 zz_9 zz_10 zz_11 zz_12 zz_13 zz_14 zz_15 zz_16 zz_17 i1 k9 (x3_1 + (1 : Int32)) x2_1
          else
            f_X3_revisitFor_l4 zz_0 zz_1 zz_2 zz_3 zz_4 zz_5 zz_6 zz_7 zz_8 zz_9 zz_10 zz_11 zz_12 zz_13 zz_14 zz_15 zz_16 zz_17 i1 k9 (x3_1 + (1 : Int32)) x3_1 := rfl
def f_X3_revisitFor (zz : xMO) (i1 : Int32) : Option (Int32) :=
  Option.bind (f_X3_revisitFor_l4 zz.1 zz.2.1 zz.2.2.1 zz.2.2.2.1 zz.2.2.2.2.1 zz.2.2.2.2.2.1 zz.2.2.2.2.2.2.1 zz.2.2.2.2.2.2.2.1 zz.2.2.2.2.2.2.2.2.1 zz.2.2.2.2.2.2.2.2.2.1 zz.2.2.2.2.2.2.2.2.2.2.1 zz.2.2.2.2.2.2.2.2.2.2.2.1 zz.2.2.2.2.2.2.2.2.2.2.2.2.1 zz.2.2.2.2.2.2.2.2.2.2.2.2.2.1 zz.2.2.2.2.2.2.2.2.2.2.2.2.2.2.1 zz.2.2.2.2.2.2.2.2.2.2.2.2.2.2.2.1 zz.2.2.2.2.2.2.2.2.2.2.2.2.2.2.2.2.1 zz.2.2.2.2.2.2.2.2.2.2.2.2.2.2.2.2.2 i1 300 (0 : Int32) ((-1) : Int32)) fun (w2 : Int32) =>
  some w2
theorem f_X3_revisitFor_e (zz_0 : Int32) (zz_1 : xF) (zz_2 : xF) (zz_3 : xF) (zz_4 : xF) (zz_5 : xF) (zz_6 : xF) (zz_7 : xF) (zz_8 : xF) (zz_9 : xF) (zz_10 : xF) (zz_11 : xF) (zz_12 : xF) (zz_13 : xF) (zz_14 : xF) (zz_15 : xF) (zz_16 : Int32) (zz_17 : Int32) (i1 : Int32) : f_X3_revisitFor (zz_0, zz_1, zz_2, zz_3, zz_4, zz_5, zz_6, zz_7, zz_8, zz_9, zz_10, zz_11, zz_12, zz_13, zz_14, zz_15, zz_16, zz_17) i1 =
  Option.bind (f_X3_revisitFor_l4 zz_0 zz_1 zz_2 zz_3 zz_4 zz_5 zz_6 zz_7 zz_8 zz_9 zz_10 zz_11 zz_12 zz_13 zz_14 zz_15 zz_16 zz_17 i1 300 (0 : Int32) ((-1) : Int32)) fun (w2 : Int32) =>
  some w2 := rfl
set_option maxHeartbeats 4000000 in
set_option maxRecDepth 100000 in
theorem c_X3_revisitFor (l : Launch) (G : xG) (za : (Nat → Nat)) (zz : xMO) (i1 : Int32) (o : Int32) (h : f_X3_revisitFor zz i1 = some o) : xk_CI l yX3_revisitFor wsX3_revisitFor ({ frames := 2, cells := 0, slots := 0, locals := 44 } : Room) 0 0 [.ref (za 0), .int i1] G (wMOc G za zz.1 zz.2.1 zz.2.2.1 zz.2.2.2.1 zz.2.2.2.2.1 zz.2.2.2.2.2.1 zz.2.2.2.2.2.2.1 zz.2.2.2.2.2.2.2.1 zz.2.2.2.2.2.2.2.2.1 zz.2.2.2.2.2.2.2.2.2.1 zz.2.2.2.2.2.2.2.2.2.2.1 zz.2.2.2.2.2.2.2.2.2.2.2.1 zz.2.2.2.2.2.2.2.2.2.2.2.2.1 zz.2.2.2.2.2.2.2.2.2.2.2.2.2.1 zz.2.2.2.2.2.2.2.2.2.2.2.2.2.2.1 zz.2.2.2.2.2.2.2.2.2.2.2.2.2.2.2.1 zz.2.2.2.2.2.2.2.2.2.2.2.2.2.2.2.2.1 zz.2.2.2.2.2.2.2.2.2.2.2.2.2.2.2.2.2) (wMOc G za zz.1 zz.2.1 zz.2.2.1 zz.2.2.2.1 zz.2.2.2.2.1 zz.2.2.2.2.2.1 zz.2.2.2.2.2.2.1 zz.2.2.2.2.2.2.2.1 zz.2.2.2.2.2.2.2.2.1 zz.2.2.2.2.2.2.2.2.2.1 zz.2.2.2.2.2.2.2.2.2.2.1 zz.2.2.2.2.2.2.2.2.2.2.2.1 zz.2.2.2.2.2.2.2.2.2.2.2.2.1 zz.2.2.2.2.2.2.2.2.2.2.2.2.2.1 zz.2.2.2.2.2.2.2.2.2.2.2.2.2.2.1 zz.2.2.2.2.2.2.2.2.2.2.2.2.2.2.2.1 zz.2.2.2.2.2.2.2.2.2.2.2.2.2.2.2.2.1 zz.2.2.2.2.2.2.2.2.2.2.2.2.2.2.2.2.2) o := by
  obtain ⟨zz_0, zz_1, zz_2, zz_3, zz_4, zz_5, zz_6, zz_7, zz_8, zz_9, zz_10, zz_11, zz_12, zz_13, zz_14, zz_15, zz_16, zz_17⟩ := zz
  refine xk_CI.of (cc := cX3_revisitFor) (maxL := 4) (ret := (some .int)) (by decide) rfl (Nat.le_of_ble_eq_true rfl) ?_
  intro pr9 en9 s mm9 bl9 meth9 cd9 A ls H locs hx hb hr hml hts hown hlk hA hP hK hD hNE hS hl
  have hown : s.vm.findClass RX3 = some mm9.cls := hown
  have hl : lv_has ls 4 [(0, .ref (za 0)), (1, .int i1)] := hl
  have hinX3 : ∀ w ∈ u_ws RX3 TX3 18, w ∈ wsX3_revisitFor := by decide +kernel
  have hP : va_P G.1 vwCl (wMOc G za zz_0 zz_1 zz_2 zz_3 zz_4 zz_5 zz_6 zz_7 zz_8 zz_9 zz_10 zz_11 zz_12 zz_13 zz_14 zz_15 zz_16 zz_17) H := hP
  have hD : va_D A (wMOc G za zz_0 zz_1 zz_2 zz_3 zz_4 zz_5 zz_6 zz_7 zz_8 zz_9 zz_10 zz_11 zz_12 zz_13 zz_14 zz_15 zz_16 zz_17) := hD
  have h := (f_X3_revisitFor_e zz_0 zz_1 zz_2 zz_3 zz_4 zz_5 zz_6 zz_7 zz_8 zz_9 zz_10 zz_11 zz_12 zz_13 zz_14 zz_15 zz_16 zz_17 i1).symm.trans h
  refine lv_iconst (v := ((-1) : Int32)) hx hb dX3_revisitFor_0 (by decide) ?_
  refine lv_istore_n (lv' := [(2, .int ((-1) : Int32)), (0, .ref (za 0)), (1, .int i1)]) hx hb dX3_revisitFor_1 rfl hl (by decide) rfl (fun ls hl => ?_)
  refine lv_iconst (v := (0 : Int32)) hx hb dX3_revisitFor_2 (by decide) ?_
  refine lv_istore_n (lv' := [(3, .int (0 : Int32)), (2, .int ((-1) : Int32)), (0, .ref (za 0)), (1, .int i1)]) hx hb dX3_revisitFor_3 rfl hl (by decide) rfl (fun ls hl => ?_)
  obtain ⟨w2, hw2, h⟩ := sp_b h
  refine xk_jn G A s.heap (wMOc G za zz_0 zz_1 zz_2 zz_3 zz_4 zz_5 zz_6 zz_7 zz_8 zz_9 zz_10 zz_11 zz_12 zz_13 zz_14 zz_15 zz_16 zz_17) 4 [(2, .int w2)] 51 [] (fun H locs hP hD hS ls hl => ?_) (fun J1 => ?_)
  · refine lv_iload_n hx hb dX3_revisitFor_51 rfl (lv_at hl 0 rfl) ?_
    obtain rfl := sp_s h
    exact xk_reI hx hb hr hlk hP hD hS rfl dX3_revisitFor_52
  · have h := hw2
    clear hw2
    refine xk_lp (α := Int32 × Int32) G A s.heap (fun a_1 => (wMOc G za zz_0 zz_1 zz_2 zz_3 zz_4 zz_5 zz_6 zz_7 zz_8 zz_9 zz_10 zz_11 zz_12 zz_13 zz_14 zz_15 zz_16 zz_17)) 4 (fun a_1 => [(3, .int a_1.1), (2, .int a_1.2), (0, .ref (za 0)), (1, .int i1)]) 4 (fun n a_1 => f_X3_revisitFor_l4 zz_0 zz_1 zz_2 zz_3 zz_4 zz_5 zz_6 zz_7 zz_8 zz_9 zz_10 zz_11 zz_12 zz_13 zz_14 zz_15 zz_16 zz_17 i1 n a_1.1 a_1.2 = some w2) (fun a_1 h => ?_) (fun n ih_1 a_1 h H locs hP hD hS ls hl => ?_) (fun LL => ?_)
    · exact sp_n ((f_X3_revisitFor_l4_z _ _ _ _ _ _ _ _ _ _ _ _ _ _ _ _ _ _ _ _ _).symm.trans h)
    · obtain ⟨x3_1, x2_1⟩ := a_1
      have h := (f_X3_revisitFor_l4_s zz_0 zz_1 zz_2 zz_3 zz_4 zz_5 zz_6 zz_7 zz_8 zz_9 zz_10 zz_11 zz_12 zz_13 zz_14 zz_15 zz_16 zz_17 i1 n x3_1 x2_1).symm.trans h
      have hP : va_P G.1 vwCl (wMOc G za zz_0 zz_1 zz_2 zz_3 zz_4 zz_5 zz_6 zz_7 zz_8 zz_9 zz_10 zz_11 zz_12 zz_13 zz_14 zz_15 zz_16 zz_17) H := hP
      have hD : va_D A (wMOc G za zz_0 zz_1 zz_2 zz_3 zz_4 zz_5 zz_6 zz_7 zz_8 zz_9 zz_10 zz_11 zz_12 zz_13 zz_14 zz_15 zz_16 zz_17) := hD
      have hl : lv_has ls 4 [(3, .int x3_1), (2, .int x2_1), (0, .ref (za 0)), (1, .int i1)] := hl
      refine lv_iload_n hx hb dX3_revisitFor_4 rfl (lv_at hl 0 rfl) ?_
      refine lv_aload_n hx hb dX3_revisitFor_5 rfl (lv_at hl 2 rfl) ?_
      refine va_get (D := G.1) (ci := 3) (v := .int zz_0) (C := RX3) (T := TX3) (N := 18) hx hb hts hinX3 hown hK hP 0 rfl rfl 0 (by decide) (hts (.fieldLink RX3 60 "LessonWeaveModel" "aims" "I") (by decide +kernel)) (fun _ h9 => h9) rfl dX3_revisitFor_6 ?_
      refine lv_icmp_ge (tgt := 51) hx hb dX3_revisitFor_9 (by decide) (fun c3 => ?_) (fun c3 => ?_)
      · have h := sp_t c3 h
        obtain rfl := sp_s h
        exact J1 _ _ hP hD hS _ (lv_sub hl [1] rfl)
      · have h := sp_f c3 h
        refine lv_aload_n hx hb dX3_revisitFor_12 rfl (lv_at hl 2 rfl) ?_
        refine lv_iload_n hx hb dX3_revisitFor_13 rfl (lv_at hl 0 rfl) ?_
        obtain ⟨o4, ho4, h⟩ := sp_b h
        refine xk_ci (va_runV (As := [.int x3_1]) (rest := []) ⟨hx, hb, hml, hown, hts⟩ (c_X3_dueOn l G za (zz_0, zz_1, zz_2, zz_3, zz_4, zz_5, zz_6, zz_7, zz_8, zz_9, zz_10, zz_11, zz_12, zz_13, zz_14, zz_15, zz_16, zz_17) x3_1 o4 ho4 H.size) (cwV 1 hts gX3_revisitFor_X3_dueOn rfl rfl rfl (by decide +kernel) ⟨Nat.le_of_ble_eq_true rfl, Nat.le_of_ble_eq_true rfl⟩) (xk_preV hK hNE (hP.sub (ws' := (wMOc G za zz_0 zz_1 zz_2 zz_3 zz_4 zz_5 zz_6 zz_7 zz_8 zz_9 zz_10 zz_11 zz_12 zz_13 zz_14 zz_15 zz_16 zz_17)) [0, 1, 2, 3, 4, 5, 6, 7, 8, 9, 10, 11, 12, 13, 14, 15] rfl) (hD.sub (ws' := (wMOc G za zz_0 zz_1 zz_2 zz_3 zz_4 zz_5 zz_6 zz_7 zz_8 zz_9 zz_10 zz_11 zz_12 zz_13 zz_14 zz_15 zz_16 zz_17)) [0, 1, 2, 3, 4, 5, 6, 7, 8, 9, 10, 11, 12, 13, 14, 15] (by decide) rfl) (ci := 3) rfl rfl) rfl rfl hl.1 rfl (lv_room (Nat.le_of_ble_eq_true rfl)) dX3_revisitFor_14 ⟨Nat.le_of_ble_eq_true rfl, Nat.le_of_ble_eq_true rfl⟩) hP hD hS hA [0, 1, 2, 3, 4, 5, 6, 7, 8, 9, 10, 11, 12, 13, 14, 15] [] [0, 1, 2, 3, 4, 5, 6, 7, 8, 9, 10, 11, 12, 13, 14, 15] rfl rfl (by decide) (by decide) rfl (by decide) (fun H locs hP hD hS => ?_)
        have hP : va_P G.1 vwCl (wMOc G za zz_0 zz_1 zz_2 zz_3 zz_4 zz_5 zz_6 zz_7 zz_8 zz_9 zz_10 zz_11 zz_12 zz_13 zz_14 zz_15 zz_16 zz_17) H := hP
        have hD : va_D A (wMOc G za zz_0 zz_1 zz_2 zz_3 zz_4 zz_5 zz_6 zz_7 zz_8 zz_9 zz_10 zz_11 zz_12 zz_13 zz_14 zz_15 zz_16 zz_17) := hD
        refine lv_iload_n hx hb dX3_revisitFor_17 rfl (lv_at hl 3 rfl) ?_
        refine lv_icmp_gt (tgt := 43) hx hb dX3_revisitFor_18 (by decide) (fun c5 => ?_) (fun c5 => ?_)
        · have h := sp_t c5 h
          refine lv_iload_n hx hb dX3_revisitFor_43 rfl (lv_at hl 1 rfl) ?_
          refine lv_istore_n (lv' := [(2, .int x2_1), (3, .int x3_1), (0, .ref (za 0)), (1, .int i1)]) hx hb dX3_revisitFor_44 rfl hl (by decide) rfl (fun ls hl => ?_)
          refine lv_iinc (v := (x3_1 + (1 : Int32))) (lv' := [(3, .int (x3_1 + (1 : Int32))), (2, .int x2_1), (0, .ref (za 0)), (1, .int i1)]) hx hb dX3_revisitFor_45 hl (k := 1) rfl rfl (by decide) rfl (fun ls hl => ?_)
          refine lv_goto (tgt := 4) hx hb dX3_revisitFor_48 (by decide) ?_
          exact ih_1 ((x3_1 + (1 : Int32)), x2_1) h _ _ hP hD hS _ (lv_sub hl [0, 1, 2, 3] rfl)
        · have h := sp_f c5 h
          refine lv_iload_n hx hb dX3_revisitFor_21 rfl (lv_at hl 1 rfl) ?_
          refine lv_iconst (v := ((-1) : Int32)) hx hb dX3_revisitFor_22 (by decide) ?_
          refine lv_icmp_eq (tgt := 39) hx hb dX3_revisitFor_23 (by decide) (fun c6 => ?_) (fun c6 => ?_)
          · have h := sp_t c6 h
            refine lv_iload_n hx hb dX3_revisitFor_39 rfl (lv_at hl 0 rfl) ?_
            refine lv_goto (tgt := 44) hx hb dX3_revisitFor_40 (by decide) ?_
            refine lv_istore_n (lv' := [(2, .int x3_1), (3, .int x3_1), (0, .ref (za 0)), (1, .int i1)]) hx hb dX3_revisitFor_44 rfl hl (by decide) rfl (fun ls hl => ?_)
            refine lv_iinc (v := (x3_1 + (1 : Int32))) (lv' := [(3, .int (x3_1 + (1 : Int32))), (2, .int x3_1), (0, .ref (za 0)), (1, .int i1)]) hx hb dX3_revisitFor_45 hl (k := 1) rfl rfl (by decide) rfl (fun ls hl => ?_)
            refine lv_goto (tgt := 4) hx hb dX3_revisitFor_48 (by decide) ?_
            exact ih_1 ((x3_1 + (1 : Int32)), x3_1) h _ _ hP hD hS _ (lv_sub hl [0, 1, 2, 3] rfl)
          · have h := sp_f c6 h
            refine lv_aload_n hx hb dX3_revisitFor_26 rfl (lv_at hl 2 rfl) ?_
            refine lv_iload_n hx hb dX3_revisitFor_27 rfl (lv_at hl 0 rfl) ?_
            obtain ⟨o7, ho7, h⟩ := sp_b h
            refine xk_ci (va_runV (As := [.int x3_1]) (rest := []) ⟨hx, hb, hml, hown, hts⟩ (c_X3_lateFrom l G za (zz_0, zz_1, zz_2, zz_3, zz_4, zz_5, zz_6, zz_7, zz_8, zz_9, zz_10, zz_11, zz_12, zz_13, zz_14, zz_15, zz_16, zz_17) x3_1 o7 ho7 H.size) (cwV 1 hts gX3_revisitFor_X3_lateFrom rfl rfl rfl (by decide +kernel) ⟨Nat.le_of_ble_eq_true rfl, Nat.le_of_ble_eq_true rfl⟩) (xk_preV hK hNE (hP.sub (ws' := (wMOc G za zz_0 zz_1 zz_2 zz_3 zz_4 zz_5 zz_6 zz_7 zz_8 zz_9 zz_10 zz_11 zz_12 zz_13 zz_14 zz_15 zz_16 zz_17)) [0, 1, 2, 3, 4, 5, 6, 7, 8, 9, 10, 11, 12, 13, 14, 15] rfl) (hD.sub (ws' := (wMOc G za zz_0 zz_1 zz_2 zz_3 zz_4 zz_5 zz_6 zz_7 zz_8 zz_9 zz_10 zz_11 zz_12 zz_13 zz_14 zz_15 zz_16 zz_17)) [0, 1, 2, 3, 4, 5, 6, 7, 8, 9, 10, 11, 12, 13, 14, 15] (by decide) rfl) (ci := 3) rfl rfl) rfl rfl hl.1 rfl (lv_room (Nat.le_of_ble_eq_true rfl)) dX3_revisitFor_28 ⟨Nat.le_of_ble_eq_true rfl, Nat.le_of_ble_eq_true rfl⟩) hP hD hS hA [0, 1, 2, 3, 4, 5, 6, 7, 8, 9, 10, 11, 12, 13, 14, 15] [] [0, 1, 2, 3, 4, 5, 6, 7, 8, 9, 10, 11, 12, 13, 14, 15] rfl rfl (by decide) (by decide) rfl (by decide) (fun H locs hP hD hS => ?_)
            have hP : va_P G.1 vwCl (wMOc G za zz_0 zz_1 zz_2 zz_3 zz_4 zz_5 zz_6 zz_7 zz_8 zz_9 zz_10 zz_11 zz_12 zz_13 zz_14 zz_15 zz_16 zz_17) H := hP
            have hD : va_D A (wMOc G za zz_0 zz_1 zz_2 zz_3 zz_4 zz_5 zz_6 zz_7 zz_8 zz_9 zz_10 zz_11 zz_12 zz_13 zz_14 zz_15 zz_16 zz_17) := hD
            refine lv_aload_n hx hb dX3_revisitFor_31 rfl (lv_at hl 2 rfl) ?_
            refine lv_iload_n hx hb dX3_revisitFor_32 rfl (lv_at hl 1 rfl) ?_
            obtain ⟨o8, ho8, h⟩ := sp_b h
            refine xk_ci (va_runV (As := [.int x2_1]) (rest := [.int o7]) ⟨hx, hb, hml, hown, hts⟩ (c_X3_lateFrom l G za (zz_0, zz_1, zz_2, zz_3, zz_4, zz_5, zz_6, zz_7, zz_8, zz_9, zz_10, zz_11, zz_12, zz_13, zz_14, zz_15, zz_16, zz_17) x2_1 o8 ho8 H.size) (cwV 1 hts gX3_revisitFor_X3_lateFrom rfl rfl rfl (by decide +kernel) ⟨Nat.le_of_ble_eq_true rfl, Nat.le_of_ble_eq_true rfl⟩) (xk_preV hK hNE (hP.sub (ws' := (wMOc G za zz_0 zz_1 zz_2 zz_3 zz_4 zz_5 zz_6 zz_7 zz_8 zz_9 zz_10 zz_11 zz_12 zz_13 zz_14 zz_15 zz_16 zz_17)) [0, 1, 2, 3, 4, 5, 6, 7, 8, 9, 10, 11, 12, 13, 14, 15] rfl) (hD.sub (ws' := (wMOc G za zz_0 zz_1 zz_2 zz_3 zz_4 zz_5 zz_6 zz_7 zz_8 zz_9 zz_10 zz_11 zz_12 zz_13 zz_14 zz_15 zz_16 zz_17)) [0, 1, 2, 3, 4, 5, 6, 7, 8, 9, 10, 11, 12, 13, 14, 15] (by decide) rfl) (ci := 3) rfl rfl) rfl rfl hl.1 rfl (lv_room (Nat.le_of_ble_eq_true rfl)) dX3_revisitFor_33 ⟨Nat.le_of_ble_eq_true rfl, Nat.le_of_ble_eq_true rfl⟩) hP hD hS hA [0, 1, 2, 3, 4, 5, 6, 7, 8, 9, 10, 11, 12, 13, 14, 15] [] [0, 1, 2, 3, 4, 5, 6, 7, 8, 9, 10, 11, 12, 13, 14, 15] rfl rfl (by decide) (by decide) rfl (by decide) (fun H locs hP hD hS => ?_)
            have hP : va_P G.1 vwCl (wMOc G za zz_0 zz_1 zz_2 zz_3 zz_4 zz_5 zz_6 zz_7 zz_8 zz_9 zz_10 zz_11 zz_12 zz_13 zz_14 zz_15 zz_16 zz_17) H := hP
            have hD : va_D A (wMOc G za zz_0 zz_1 zz_2 zz_3 zz_4 zz_5 zz_6 zz_7 zz_8 zz_9 zz_10 zz_11 zz_12 zz_13 zz_14 zz_15 zz_16 zz_17) := hD
            refine lv_icmp_ge (tgt := 43) hx hb dX3_revisitFor_36 (by decide) (fun c9 => ?_) (fun c9 => ?_)
            · have h := sp_t c9 h
              refine lv_iload_n hx hb dX3_revisitFor_43 rfl (lv_at hl 1 rfl) ?_
              refine lv_istore_n (lv' := [(2, .int x2_1), (3, .int x3_1), (0, .ref (za 0)), (1, .int i1)]) hx hb dX3_revisitFor_44 rfl hl (by decide) rfl (fun ls hl => ?_)
              refine lv_iinc (v := (x3_1 + (1 : Int32))) (lv' := [(3, .int (x3_1 + (1 : Int32))), (2, .int x2_1), (0, .ref (za 0)), (1, .int i1)]) hx hb dX3_revisitFor_45 hl (k := 1) rfl rfl (by decide) rfl (fun ls hl => ?_)
              refine lv_goto (tgt := 4) hx hb dX3_revisitFor_48 (by decide) ?_
              exact ih_1 ((x3_1 + (1 : Int32)), x2_1) h _ _ hP hD hS _ (lv_sub hl [0, 1, 2, 3] rfl)
            · have h := sp_f c9 h
              refine lv_iload_n hx hb dX3_revisitFor_39 rfl (lv_at hl 0 rfl) ?_
              refine lv_goto (tgt := 44) hx hb dX3_revisitFor_40 (by decide) ?_
              refine lv_istore_n (lv' := [(2, .int x3_1), (3, .int x3_1), (0, .ref (za 0)), (1, .int i1)]) hx hb dX3_revisitFor_44 rfl hl (by decide) rfl (fun ls hl => ?_)
              refine lv_iinc (v := (x3_1 + (1 : Int32))) (lv' := [(3, .int (x3_1 + (1 : Int32))), (2, .int x3_1), (0, .ref (za 0)), (1, .int i1)]) hx hb dX3_revisitFor_45 hl (k := 1) rfl rfl (by decide) rfl (fun ls hl => ?_)
              refine lv_goto (tgt := 4) hx hb dX3_revisitFor_48 (by decide) ?_
              exact ih_1 ((x3_1 + (1 : Int32)), x3_1) h _ _ hP hD hS _ (lv_sub hl [0, 1, 2, 3] rfl)
    · exact LL 300 ((0 : Int32), ((-1) : Int32)) h _ _ hP hD hS _ (lv_sub hl [0, 1, 2, 3] rfl)
def f_X3_isHeld_l16 (zz_4 : xF) (zz_10 : xF) (i1 : Int32) (i2 : Int32) : Nat → Int32 → Int32 → Option (Int32)
  | 0, _, _ => none
  | k9 + 1, x4_2, x3_2 =>
    if i2 ≤ x4_2 then
      some x3_2
    else
      if x4_2 < 0 ∨ 100 ≤ x4_2.toNatClampNeg then none else
      Option.bind (
        if (zz_10 x4_2.toNatClampNeg) < 0 then
          some (0 : Int32)
        else
          if (100 : Int32) ≤ (zz_10 x4_2.toNatClampNeg) then
            some (0 : Int32)
          else
            if (zz_10 x4_2.toNatClampNeg) = i1 then
              some (0 : Int32)
            else
              some (1 : Int32)) fun (v6 : Int32) =>
      if x3_2 = 0 then
        if v6 = 0 then
          f_X3_isHeld_l16 zz_4 zz_10 i1 i2 k9 (x4_2 + (1 : Int32)) (0 : Int32)
        else
          if i1 < 0 ∨ 12 ≤ i1.toNatClampNeg then none else
          if (zz_4 i1.toNatClampNeg) = ((-1) : Int32) then
            f_X3_isHeld_l16 zz_4 zz_10 i1 i2 k9 (x4_2 + (1 : Int32)) (0 : Int32)
          else
            if (zz_10 x4_2.toNatClampNeg) < 0 ∨ 12 ≤ (zz_10 x4_2.toNatClampNeg).toNatClampNeg then none else
            if (zz_4 (zz_10 x4_2.toNatClampNeg).toNatClampNeg) = (zz_4 i1.toNatClampNeg) then
              f_X3_isHeld_l16 zz_4 zz_10 i1 i2 k9 (x4_2 + (1 : Int32)) (1 : Int32)
            else
              f_X3_isHeld_l16 zz_4 zz_10 i1 i2 k9 (x4_2 + (1 : Int32)) (0 : Int32)
      else
        f_X3_isHeld_l16 zz_4 zz_10 i1 i2 k9 (x4_2 + (1 : Int32)) (1 : Int32)
theorem f_X3_isHeld_l16_z (zz_4 : xF) (zz_10 : xF) (i1 : Int32) (i2 : Int32) (x4_2 : Int32) (x3_2 : Int32) : f_X3_isHeld_l16 zz_4 zz_10 i1 i2 0 x4_2 x3_2 = none := rfl
theorem f_X3_isHeld_l16_s (zz_4 : xF) (zz_10 : xF) (i1 : Int32) (i2 : Int32) (k9 : Nat) (x4_2 : Int32) (x3_2 : Int32) : f_X3_isHeld_l16 zz_4 zz_10 i1 i2 (k9 + 1) x4_2 x3_2 =
    if i2 ≤ x4_2 then
      some x3_2
    else
      if x4_2 < 0 ∨ 100 ≤ x4_2.toNatClampNeg then none else
      Option.bind (
        if (zz_10 x4_2.toNatClampNeg) < 0 then
          some (0 : Int32)
        else
          if (100 : Int32) ≤ (zz_10 x4_2.toNatClampNeg) then
            some (0 : Int32)
          else
            if (zz_10 x4_2.toNatClampNeg) = i1 then
              some (0 : Int32)
            else
              some (1 : Int32)) fun (v6 : Int32) =>
      if x3_2 = 0 then
        if v6 = 0 then
          f_X3_isHeld_l16 zz_4 zz_10 i1 i2 k9 (x4_2 + (1 : Int32)) (0 : Int32)
        else
          if i1 < 0 ∨ 12 ≤ i1.toNatClampNeg then none else
          if (zz_4 i1.toNatClampNeg) = ((-1) : Int32) then
            f_X3_isHeld_l16 zz_4 zz_10 i1 i2 k9 (x4_2 + (1 : Int32)) (0 : Int32)
          else
            if (zz_10 x4_2.toNatClampNeg) < 0 ∨ 12 ≤ (zz_10 x4_2.toNatClampNeg).toNatClampNeg then none else
            if (zz_4 (zz_10 x4_2.toNatClampNeg).toNatClampNeg) = (zz_4 i1.toNatClampNeg) then
              f_X3_isHeld_l16 zz_4 zz_10 i1 i2 k9 (x4_2 + (1 : Int32)) (1 : Int32)
            else
              f_X3_isHeld_l16 zz_4 zz_10 i1 i2 k9 (x4_2 + (1 : Int32)) (0 : Int32)
      else
        f_X3_isHeld_l16 zz_4 zz_10 i1 i2 k9 (x4_2 + (1 : Int32)) (1 : Int32) := rfl
def f_X3_isHeld_l16_2 (zz_4 : xF) (zz_10 : xF) (i1 : Int32) (i2 : Int32) : Nat → Int32 → Int32 → Option (Int32)
  | 0, _, _ => none
  | k9 + 1, x4_16, x3_16 =>
    if i2 ≤ x4_16 then
      some x3_16
    else
      if x4_16 < 0 ∨ 100 ≤ x4_16.toNatClampNeg then none else
      Option.bind (
        if (zz_10 x4_16.toNatClampNeg) < 0 then
          some (0 : Int32)
        else
          if (100 : Int32) ≤ (zz_10 x4_16.toNatClampNeg) then
            some (0 : Int32)
          else
            if (zz_10 x4_16.toNatClampNeg) = i1 then
              some (0 : Int32)
            else
              some (1 : Int32)) fun (v20 : Int32) =>
      if x3_16 = 0 then
        if v20 = 0 then
          f_X3_isHeld_l16_2 zz_4 zz_10 i1 i2 k9 (x4_16 + (1 : Int32)) (0 : Int32)
        else
          if i1 < 0 ∨ 12 ≤ i1.toNatClampNeg then none else
          if (zz_4 i1.toNatClampNeg) = ((-1) : Int32) then
            f_X3_isHeld_l16_2 zz_4 zz_10 i1 i2 k9 (x4_16 + (1 : Int32)) (0 : Int32)
          else
            if (zz_10 x4_16.toNatClampNeg) < 0 ∨ 12 ≤ (zz_10 x4_16.toNatClampNeg).toNatClampNeg then none else
            if (zz_4 (zz_10 x4_16.toNatClampNeg).toNatClampNeg) = (zz_4 i1.toNatClampNeg) then
              f_X3_isHeld_l16_2 zz_4 zz_10 i1 i2 k9 (x4_16 + (1 : Int32)) (1 : Int32)
            else
              f_X3_isHeld_l16_2 zz_4 zz_10 i1 i2 k9 (x4_16 + (1 : Int32)) (0 : Int32)
      else
        f_X3_isHeld_l16_2 zz_4 zz_10 i1 i2 k9 (x4_16 + (1 : Int32)) (1 : Int32)
theorem f_X3_isHeld_l16_2_z (zz_4 : xF) (zz_10 : xF) (i1 : Int32) (i2 : Int32) (x4_16 : Int32) (x3_16 : Int32) : f_X3_isHeld_l16_2 zz_4 zz_10 i1 i2 0 x4_16 x3_16 = none := rfl
theorem f_X3_isHeld_l16_2_s (zz_4 : xF) (zz_10 : xF) (i1 : Int32) (i2 : Int32) (k9 : Nat) (x4_16 : Int32) (x3_16 : Int32) : f_X3_isHeld_l16_2 zz_4 zz_10 i1 i2 (k9 + 1) x4_16 x3_16 =
    if i2 ≤ x4_16 then
      some x3_16
    else
      if x4_16 < 0 ∨ 100 ≤ x4_16.toNatClampNeg then none else
      Option.bind (
        if (zz_10 x4_16.toNatClampNeg) < 0 then
          some (0 : Int32)
        else
          if (100 : Int32) ≤ (zz_10 x4_16.toNatClampNeg) then
            some (0 : Int32)
          else
            if (zz_10 x4_16.toNatClampNeg) = i1 then
              some (0 : Int32)
            else
              some (1 : Int32)) fun (v20 : Int32) =>
      if x3_16 = 0 then
        if v20 = 0 then
          f_X3_isHeld_l16_2 zz_4 zz_10 i1 i2 k9 (x4_16 + (1 : Int32)) (0 : Int32)
        else
          if i1 < 0 ∨ 12 ≤ i1.toNatClampNeg then none else
          if (zz_4 i1.toNatClampNeg) = ((-1) : Int32) then
            f_X3_isHeld_l16_2 zz_4 zz_10 i1 i2 k9 (x4_16 + (1 : Int32)) (0 : Int32)
          else
            if (zz_10 x4_16.toNatClampNeg) < 0 ∨ 12 ≤ (zz_10 x4_16.toNatClampNeg).toNatClampNeg then none else
            if (zz_4 (zz_10 x4_16.toNatClampNeg).toNatClampNeg) = (zz_4 i1.toNatClampNeg) then
              f_X3_isHeld_l16_2 zz_4 zz_10 i1 i2 k9 (x4_16 + (1 : Int32)) (1 : Int32)
            else
              f_X3_isHeld_l16_2 zz_4 zz_10 i1 i2 k9 (x4_16 + (1 : Int32)) (0 : Int32)
      else
        f_X3_isHeld_l16_2 zz_4 zz_10 i1 i2 k9 (x4_16 + (1 : Int32)) (1 : Int32) := rfl
def f_X3_isHeld (zz : xMO) (i1 : Int32) (i2 : Int32) : Option (Int32) :=
  if (2 : Int32) ≤ i2 then
    Option.bind (f_X3_isHeld_l16 zz.2.2.2.2.1 zz.2.2.2.2.2.2.2.2.2.2.1 i1 i2 300 (i2 - (2 : Int32)) (0 : Int32)) fun (w3 : Int32) =>
    if w3 &&& 1 = w3 then some w3 else none
  else
    Option.bind (f_X3_isHeld_l16_2 zz.2.2.2.2.1 zz.2.2.2.2.2.2.2.2.2.2.1 i1 i2 300 (0 : Int32) (0 : Int32)) fun (w17 : Int32) =>
    if w17 &&& 1 = w17 then some w17 else none
theorem f_X3_isHeld_e (zz_0 : Int32) (zz_1 : xF) (zz_2 : xF) (zz_3 : xF) (zz_4 : xF) (zz_5 : xF) (zz_6 : xF) (zz_7 : xF) (zz_8 : xF) (zz_9 : xF) (zz_10 : xF) (zz_11 : xF) (zz_12 : xF) (zz_13 : xF) (zz_14 : xF) (zz_15 : xF) (zz_16 : Int32) (zz_17 : Int32) (i1 : Int32) (i2 : Int32) : f_X3_isHeld (zz_0, zz_1, zz_2, zz_3, zz_4, zz_5, zz_6, zz_7, zz_8, zz_9, zz_10, zz_11, zz_12, zz_13, zz_14, zz_15, zz_16, zz_17) i1 i2 =
  if (2 : Int32) ≤ i2 then
    Option.bind (f_X3_isHeld_l16 zz_4 zz_10 i1 i2 300 (i2 - (2 : Int32)) (0 : Int32)) fun (w3 : Int32) =>
    if w3 &&& 1 = w3 then some w3 else none
  else
    Option.bind (f_X3_isHeld_l16_2 zz_4 zz_10 i1 i2 300 (0 : Int32) (0 : Int32)) fun (w17 : Int32) =>
    if w17 &&& 1 = w17 then some w17 else none := rfl
set_option maxHeartbeats 4000000 in
set_option maxRecDepth 100000 in
theorem c_X3_isHeld (l : Launch) (G : xG) (za : (Nat → Nat)) (zz : xMO) (i1 : Int32) (i2 : Int32) (o : Int32) (h : f_X3_isHeld zz i1 i2 = some o) : xk_CI l yX3_isHeld wsX3_isHeld ({ frames := 0, cells := 0, slots := 0, locals := 0 } : Room) 0 0 [.ref (za 0), .int i1, .int i2] G (wMOc G za zz.1 zz.2.1 zz.2.2.1 zz.2.2.2.1 zz.2.2.2.2.1 zz.2.2.2.2.2.1 zz.2.2.2.2.2.2.1 zz.2.2.2.2.2.2.2.1 zz.2.2.2.2.2.2.2.2.1 zz.2.2.2.2.2.2.2.2.2.1 zz.2.2.2.2.2.2.2.2.2.2.1 zz.2.2.2.2.2.2.2.2.2.2.2.1 zz.2.2.2.2.2.2.2.2.2.2.2.2.1 zz.2.2.2.2.2.2.2.2.2.2.2.2.2.1 zz.2.2.2.2.2.2.2.2.2.2.2.2.2.2.1 zz.2.2.2.2.2.2.2.2.2.2.2.2.2.2.2.1 zz.2.2.2.2.2.2.2.2.2.2.2.2.2.2.2.2.1 zz.2.2.2.2.2.2.2.2.2.2.2.2.2.2.2.2.2) (wMOc G za zz.1 zz.2.1 zz.2.2.1 zz.2.2.2.1 zz.2.2.2.2.1 zz.2.2.2.2.2.1 zz.2.2.2.2.2.2.1 zz.2.2.2.2.2.2.2.1 zz.2.2.2.2.2.2.2.2.1 zz.2.2.2.2.2.2.2.2.2.1 zz.2.2.2.2.2.2.2.2.2.2.1 zz.2.2.2.2.2.2.2.2.2.2.2.1 zz.2.2.2.2.2.2.2.2.2.2.2.2.1 zz.2.2.2.2.2.2.2.2.2.2.2.2.2.1 zz.2.2.2.2.2.2.2.2.2.2.2.2.2.2.1 zz.2.2.2.2.2.2.2.2.2.2.2.2.2.2.2.1 zz.2.2.2.2.2.2.2.2.2.2.2.2.2.2.2.2.1 zz.2.2.2.2.2.2.2.2.2.2.2.2.2.2.2.2.2) o := by
  obtain ⟨zz_0, zz_1, zz_2, zz_3, zz_4, zz_5, zz_6, zz_7, zz_8, zz_9, zz_10, zz_11, zz_12, zz_13, zz_14, zz_15, zz_16, zz_17⟩ := zz
  refine xk_CI.of (cc := cX3_isHeld) (maxL := 6) (ret := (some .boolean)) (by decide) rfl (Nat.le_of_ble_eq_true rfl) ?_
  intro pr9 en9 s mm9 bl9 meth9 cd9 A ls H locs hx hb hr hml hts hown hlk hA hP hK hD hNE hS hl
  have hown : s.vm.findClass RX3 = some mm9.cls := hown
  have hl : lv_has ls 6 [(0, .ref (za 0)), (1, .int i1), (2, .int i2)] := hl
  have hinX3 : ∀ w ∈ u_ws RX3 TX3 18, w ∈ wsX3_isHeld := by decide +kernel
  have hP : va_P G.1 vwCl (wMOc G za zz_0 zz_1 zz_2 zz_3 zz_4 zz_5 zz_6 zz_7 zz_8 zz_9 zz_10 zz_11 zz_12 zz_13 zz_14 zz_15 zz_16 zz_17) H := hP
  have hD : va_D A (wMOc G za zz_0 zz_1 zz_2 zz_3 zz_4 zz_5 zz_6 zz_7 zz_8 zz_9 zz_10 zz_11 zz_12 zz_13 zz_14 zz_15 zz_16 zz_17) := hD
  have h := (f_X3_isHeld_e zz_0 zz_1 zz_2 zz_3 zz_4 zz_5 zz_6 zz_7 zz_8 zz_9 zz_10 zz_11 zz_12 zz_13 zz_14 zz_15 zz_16 zz_17 i1 i2).symm.trans h
  refine lv_iconst (v := (0 : Int32)) hx hb dX3_isHeld_0 (by decide) ?_
  refine lv_istore_n (lv' := [(3, .int (0 : Int32)), (0, .ref (za 0)), (1, .int i1), (2, .int i2)]) hx hb dX3_isHeld_1 rfl hl (by decide) rfl (fun ls hl => ?_)
  refine lv_iload_n hx hb dX3_isHeld_2 rfl (lv_at hl 3 rfl) ?_
  refine lv_iconst (v := (2 : Int32)) hx hb dX3_isHeld_3 (by decide) ?_
  refine lv_icmp_ge (tgt := 11) hx hb dX3_isHeld_4 (by decide) (fun c1 => ?_) (fun c1 => ?_)
  · have h := sp_t c1 h
    refine lv_iload_n hx hb dX3_isHeld_11 rfl (lv_at hl 3 rfl) ?_
    refine lv_iconst (v := (2 : Int32)) hx hb dX3_isHeld_12 (by decide) ?_
    refine lv_isub hx hb dX3_isHeld_13 ?_
    refine lv_istore (lv' := [(4, .int (i2 - (2 : Int32))), (3, .int (0 : Int32)), (0, .ref (za 0)), (1, .int i1), (2, .int i2)]) hx hb dX3_isHeld_14 hl (by decide) rfl (fun ls hl => ?_)
    obtain ⟨w3, hw3, h⟩ := sp_b h
    refine xk_jn G A s.heap (wMOc G za zz_0 zz_1 zz_2 zz_3 zz_4 zz_5 zz_6 zz_7 zz_8 zz_9 zz_10 zz_11 zz_12 zz_13 zz_14 zz_15 zz_16 zz_17) 6 [(3, .int w3)] 114 [] (fun H locs hP hD hS ls hl => ?_) (fun J2 => ?_)
    · refine lv_iload_n hx hb dX3_isHeld_114 rfl (lv_at hl 0 rfl) ?_
      obtain ⟨hz, h⟩ := sp_c h
      obtain rfl := sp_s h
      exact xk_reZ hx hb hr hlk (xk_nar hz) hP hD hS rfl dX3_isHeld_115
    · have h := hw3
      clear hw3
      refine xk_lp (α := Int32 × Int32) G A s.heap (fun a_2 => (wMOc G za zz_0 zz_1 zz_2 zz_3 zz_4 zz_5 zz_6 zz_7 zz_8 zz_9 zz_10 zz_11 zz_12 zz_13 zz_14 zz_15 zz_16 zz_17)) 6 (fun a_2 => [(4, .int a_2.1), (3, .int a_2.2), (0, .ref (za 0)), (1, .int i1), (2, .int i2)]) 16 (fun n a_2 => f_X3_isHeld_l16 zz_4 zz_10 i1 i2 n a_2.1 a_2.2 = some w3) (fun a_2 h => ?_) (fun n ih_2 a_2 h H locs hP hD hS ls hl => ?_) (fun LL => ?_)
      · exact sp_n ((f_X3_isHeld_l16_z _ _ _ _ _ _).symm.trans h)
      · obtain ⟨x4_2, x3_2⟩ := a_2
        have h := (f_X3_isHeld_l16_s zz_4 zz_10 i1 i2 n x4_2 x3_2).symm.trans h
        have hP : va_P G.1 vwCl (wMOc G za zz_0 zz_1 zz_2 zz_3 zz_4 zz_5 zz_6 zz_7 zz_8 zz_9 zz_10 zz_11 zz_12 zz_13 zz_14 zz_15 zz_16 zz_17) H := hP
        have hD : va_D A (wMOc G za zz_0 zz_1 zz_2 zz_3 zz_4 zz_5 zz_6 zz_7 zz_8 zz_9 zz_10 zz_11 zz_12 zz_13 zz_14 zz_15 zz_16 zz_17) := hD
        have hl : lv_has ls 6 [(4, .int x4_2), (3, .int x3_2), (0, .ref (za 0)), (1, .int i1), (2, .int i2)] := hl
        refine lv_iload hx hb dX3_isHeld_16 (lv_at hl 0 rfl) ?_
        refine lv_iload_n hx hb dX3_isHeld_18 rfl (lv_at hl 4 rfl) ?_
        refine lv_icmp_ge (tgt := 114) hx hb dX3_isHeld_19 (by decide) (fun c4 => ?_) (fun c4 => ?_)
        · have h := sp_t c4 h
          obtain rfl := sp_s h
          exact J2 _ _ hP hD hS _ (lv_sub hl [1] rfl)
        · have h := sp_f c4 h
          refine lv_aload_n hx hb dX3_isHeld_22 rfl (lv_at hl 2 rfl) ?_
          refine va_get (D := G.1) (ci := 3) (v := .ref (za 10)) (C := RX3) (T := TX3) (N := 18) hx hb hts hinX3 hown hK hP 0 rfl rfl 10 (by decide) (hts (.fieldLink RX3 38 "LessonWeaveModel" "things" "[I") (by decide +kernel)) (fun _ h9 => h9) rfl dX3_isHeld_23 ?_
          refine lv_iload hx hb dX3_isHeld_26 (lv_at hl 0 rfl) ?_
          obtain ⟨hin5, h⟩ := sp_g h
          refine va_iald hx hb hK hP 10 0 rfl rfl hin5 dX3_isHeld_28 ?_
          obtain ⟨v6, hv6, h⟩ := sp_b h
          refine xk_jn G A s.heap (wMOc G za zz_0 zz_1 zz_2 zz_3 zz_4 zz_5 zz_6 zz_7 zz_8 zz_9 zz_10 zz_11 zz_12 zz_13 zz_14 zz_15 zz_16 zz_17) 6 [(4, .int x4_2), (3, .int x3_2), (0, .ref (za 0)), (1, .int i1), (2, .int i2)] 60 [.int v6] (fun H locs hP hD hS ls hl => ?_) (fun J6 => ?_)
          · refine lv_istore (lv' := [(5, .int v6), (4, .int x4_2), (3, .int x3_2), (0, .ref (za 0)), (1, .int i1), (2, .int i2)]) hx hb dX3_isHeld_60 hl (by decide) rfl (fun ls hl => ?_)
            refine lv_iload_n hx hb dX3_isHeld_62 rfl (lv_at hl 2 rfl) ?_
            refine lv_if_ne (tgt := 102) hx hb dX3_isHeld_63 (by decide) (fun c7 => ?_) (fun c7 => ?_)
            · have h := sp_f c7 h
              refine lv_iconst (v := (1 : Int32)) hx hb dX3_isHeld_102 (by decide) ?_
              refine lv_goto (tgt := 107) hx hb dX3_isHeld_103 (by decide) ?_
              refine lv_istore_n (lv' := [(3, .int (1 : Int32)), (5, .int v6), (4, .int x4_2), (0, .ref (za 0)), (1, .int i1), (2, .int i2)]) hx hb dX3_isHeld_107 rfl hl (by decide) rfl (fun ls hl => ?_)
              refine lv_iinc (v := (x4_2 + (1 : Int32))) (lv' := [(4, .int (x4_2 + (1 : Int32))), (3, .int (1 : Int32)), (5, .int v6), (0, .ref (za 0)), (1, .int i1), (2, .int i2)]) hx hb dX3_isHeld_108 hl (k := 2) rfl rfl (by decide) rfl (fun ls hl => ?_)
              refine lv_goto (tgt := 16) hx hb dX3_isHeld_111 (by decide) ?_
              exact ih_2 ((x4_2 + (1 : Int32)), (1 : Int32)) h _ _ hP hD hS _ (lv_sub hl [0, 1, 3, 4, 5] rfl)
            · have h := sp_t c7 h
              refine lv_iload hx hb dX3_isHeld_66 (lv_at hl 0 rfl) ?_
              refine lv_if_eq (tgt := 106) hx hb dX3_isHeld_68 (by decide) (fun c8 => ?_) (fun c8 => ?_)
              · have h := sp_t c8 h
                refine lv_iconst (v := (0 : Int32)) hx hb dX3_isHeld_106 (by decide) ?_
                refine lv_istore_n (lv' := [(3, .int (0 : Int32)), (5, .int v6), (4, .int x4_2), (0, .ref (za 0)), (1, .int i1), (2, .int i2)]) hx hb dX3_isHeld_107 rfl hl (by decide) rfl (fun ls hl => ?_)
                refine lv_iinc (v := (x4_2 + (1 : Int32))) (lv' := [(4, .int (x4_2 + (1 : Int32))), (3, .int (0 : Int32)), (5, .int v6), (0, .ref (za 0)), (1, .int i1), (2, .int i2)]) hx hb dX3_isHeld_108 hl (k := 2) rfl rfl (by decide) rfl (fun ls hl => ?_)
                refine lv_goto (tgt := 16) hx hb dX3_isHeld_111 (by decide) ?_
                exact ih_2 ((x4_2 + (1 : Int32)), (0 : Int32)) h _ _ hP hD hS _ (lv_sub hl [0, 1, 3, 4, 5] rfl)
              · have h := sp_f c8 h
                refine lv_aload_n hx hb dX3_isHeld_71 rfl (lv_at hl 3 rfl) ?_
                refine va_get (D := G.1) (ci := 3) (v := .ref (za 4)) (C := RX3) (T := TX3) (N := 18) hx hb hts hinX3 hown hK hP 0 rfl rfl 4 (by decide) (hts (.fieldLink RX3 19 "LessonWeaveModel" "kit" "[I") (by decide +kernel)) (fun _ h9 => h9) rfl dX3_isHeld_72 ?_
                refine lv_iload_n hx hb dX3_isHeld_75 rfl (lv_at hl 4 rfl) ?_
                obtain ⟨hin9, h⟩ := sp_g h
                refine va_iald hx hb hK hP 4 0 rfl rfl hin9 dX3_isHeld_76 ?_
                refine lv_iconst (v := ((-1) : Int32)) hx hb dX3_isHeld_77 (by decide) ?_
                refine lv_icmp_eq (tgt := 106) hx hb dX3_isHeld_78 (by decide) (fun c10 => ?_) (fun c10 => ?_)
                · have h := sp_t c10 h
                  refine lv_iconst (v := (0 : Int32)) hx hb dX3_isHeld_106 (by decide) ?_
                  refine lv_istore_n (lv' := [(3, .int (0 : Int32)), (5, .int v6), (4, .int x4_2), (0, .ref (za 0)), (1, .int i1), (2, .int i2)]) hx hb dX3_isHeld_107 rfl hl (by decide) rfl (fun ls hl => ?_)
                  refine lv_iinc (v := (x4_2 + (1 : Int32))) (lv' := [(4, .int (x4_2 + (1 : Int32))), (3, .int (0 : Int32)), (5, .int v6), (0, .ref (za 0)), (1, .int i1), (2, .int i2)]) hx hb dX3_isHeld_108 hl (k := 2) rfl rfl (by decide) rfl (fun ls hl => ?_)
                  refine lv_goto (tgt := 16) hx hb dX3_isHeld_111 (by decide) ?_
                  exact ih_2 ((x4_2 + (1 : Int32)), (0 : Int32)) h _ _ hP hD hS _ (lv_sub hl [0, 1, 3, 4, 5] rfl)
                · have h := sp_f c10 h
                  refine lv_aload_n hx hb dX3_isHeld_81 rfl (lv_at hl 3 rfl) ?_
                  refine va_get (D := G.1) (ci := 3) (v := .ref (za 4)) (C := RX3) (T := TX3) (N := 18) hx hb hts hinX3 hown hK hP 0 rfl rfl 4 (by decide) (hts (.fieldLink RX3 19 "LessonWeaveModel" "kit" "[I") (by decide +kernel)) (fun _ h9 => h9) rfl dX3_isHeld_82 ?_
                  refine lv_aload_n hx hb dX3_isHeld_85 rfl (lv_at hl 3 rfl) ?_
                  refine va_get (D := G.1) (ci := 3) (v := .ref (za 10)) (C := RX3) (T := TX3) (N := 18) hx hb hts hinX3 hown hK hP 0 rfl rfl 10 (by decide) (hts (.fieldLink RX3 38 "LessonWeaveModel" "things" "[I") (by decide +kernel)) (fun _ h9 => h9) rfl dX3_isHeld_86 ?_
                  refine lv_iload hx hb dX3_isHeld_89 (lv_at hl 1 rfl) ?_
                  refine va_iald hx hb hK hP 10 0 rfl rfl hin5 dX3_isHeld_91 ?_
                  obtain ⟨hin11, h⟩ := sp_g h
                  refine va_iald hx hb hK hP 4 0 rfl rfl hin11 dX3_isHeld_92 ?_
                  refine lv_aload_n hx hb dX3_isHeld_93 rfl (lv_at hl 3 rfl) ?_
                  refine va_get (D := G.1) (ci := 3) (v := .ref (za 4)) (C := RX3) (T := TX3) (N := 18) hx hb hts hinX3 hown hK hP 0 rfl rfl 4 (by decide) (hts (.fieldLink RX3 19 "LessonWeaveModel" "kit" "[I") (by decide +kernel)) (fun _ h9 => h9) rfl dX3_isHeld_94 ?_
                  refine lv_iload_n hx hb dX3_isHeld_97 rfl (lv_at hl 4 rfl) ?_
                  refine va_iald hx hb hK hP 4 0 rfl rfl hin9 dX3_isHeld_98 ?_
                  refine lv_icmp_ne (tgt := 106) hx hb dX3_isHeld_99 (by decide) (fun c12 => ?_) (fun c12 => ?_)
                  · have h := sp_f c12 h
                    refine lv_iconst (v := (0 : Int32)) hx hb dX3_isHeld_106 (by decide) ?_
                    refine lv_istore_n (lv' := [(3, .int (0 : Int32)), (5, .int v6), (4, .int x4_2), (0, .ref (za 0)), (1, .int i1), (2, .int i2)]) hx hb dX3_isHeld_107 rfl hl (by decide) rfl (fun ls hl => ?_)
                    refine lv_iinc (v := (x4_2 + (1 : Int32))) (lv' := [(4, .int (x4_2 + (1 : Int32))), (3, .int (0 : Int32)), (5, .int v6), (0, .ref (za 0)), (1, .int i1), (2, .int i2)]) hx hb dX3_isHeld_108 hl (k := 2) rfl rfl (by decide) rfl (fun ls hl => ?_)
                    refine lv_goto (tgt := 16) hx hb dX3_isHeld_111 (by decide) ?_
                    exact ih_2 ((x4_2 + (1 : Int32)), (0 : Int32)) h _ _ hP hD hS _ (lv_sub hl [0, 1, 3, 4, 5] rfl)
                  · have h := sp_t c12 h
                    refine lv_iconst (v := (1 : Int32)) hx hb dX3_isHeld_102 (by decide) ?_
                    refine lv_goto (tgt := 107) hx hb dX3_isHeld_103 (by decide) ?_
                    refine lv_istore_n (lv' := [(3, .int (1 : Int32)), (5, .int v6), (4, .int x4_2), (0, .ref (za 0)), (1, .int i1), (2, .int i2)]) hx hb dX3_isHeld_107 rfl hl (by decide) rfl (fun ls hl => ?_)
                    refine lv_iinc (v := (x4_2 + (1 : Int32))) (lv' := [(4, .int (x4_2 + (1 : Int32))), (3, .int (1 : Int32)), (5, .int v6), (0, .ref (za 0)), (1, .int i1), (2, .int i2)]) hx hb dX3_isHeld_108 hl (k := 2) rfl rfl (by decide) rfl (fun ls hl => ?_)
                    refine lv_goto (tgt := 16) hx hb dX3_isHeld_111 (by decide) ?_
                    exact ih_2 ((x4_2 + (1 : Int32)), (1 : Int32)) h _ _ hP hD hS _ (lv_sub hl [0, 1, 3, 4, 5] rfl)
          · have h := hv6
            clear hv6
            refine lv_if_lt (tgt := 59) hx hb dX3_isHeld_29 (by decide) (fun c13 => ?_) (fun c13 => ?_)
            · have h := sp_t c13 h
              refine lv_iconst (v := (0 : Int32)) hx hb dX3_isHeld_59 (by decide) ?_
              obtain rfl := sp_s h
              exact J6 _ _ hP hD hS _ (lv_sub hl [0, 1, 2, 3, 4] rfl)
            · have h := sp_f c13 h
              refine lv_aload_n hx hb dX3_isHeld_32 rfl (lv_at hl 2 rfl) ?_
              refine va_get (D := G.1) (ci := 3) (v := .ref (za 10)) (C := RX3) (T := TX3) (N := 18) hx hb hts hinX3 hown hK hP 0 rfl rfl 10 (by decide) (hts (.fieldLink RX3 38 "LessonWeaveModel" "things" "[I") (by decide +kernel)) (fun _ h9 => h9) rfl dX3_isHeld_33 ?_
              refine lv_iload hx hb dX3_isHeld_36 (lv_at hl 0 rfl) ?_
              refine va_iald hx hb hK hP 10 0 rfl rfl hin5 dX3_isHeld_38 ?_
              refine lv_bipush (v := (100 : Int32)) hx hb dX3_isHeld_39 (by decide) ?_
              refine lv_icmp_ge (tgt := 59) hx hb dX3_isHeld_41 (by decide) (fun c14 => ?_) (fun c14 => ?_)
              · have h := sp_t c14 h
                refine lv_iconst (v := (0 : Int32)) hx hb dX3_isHeld_59 (by decide) ?_
                obtain rfl := sp_s h
                exact J6 _ _ hP hD hS _ (lv_sub hl [0, 1, 2, 3, 4] rfl)
              · have h := sp_f c14 h
                refine lv_aload_n hx hb dX3_isHeld_44 rfl (lv_at hl 2 rfl) ?_
                refine va_get (D := G.1) (ci := 3) (v := .ref (za 10)) (C := RX3) (T := TX3) (N := 18) hx hb hts hinX3 hown hK hP 0 rfl rfl 10 (by decide) (hts (.fieldLink RX3 38 "LessonWeaveModel" "things" "[I") (by decide +kernel)) (fun _ h9 => h9) rfl dX3_isHeld_45 ?_
                refine lv_iload hx hb dX3_isHeld_48 (lv_at hl 0 rfl) ?_
                refine va_iald hx hb hK hP 10 0 rfl rfl hin5 dX3_isHeld_50 ?_
                refine lv_iload_n hx hb dX3_isHeld_51 rfl (lv_at hl 3 rfl) ?_
                refine lv_icmp_eq (tgt := 59) hx hb dX3_isHeld_52 (by decide) (fun c15 => ?_) (fun c15 => ?_)
                · have h := sp_t c15 h
                  refine lv_iconst (v := (0 : Int32)) hx hb dX3_isHeld_59 (by decide) ?_
                  obtain rfl := sp_s h
                  exact J6 _ _ hP hD hS _ (lv_sub hl [0, 1, 2, 3, 4] rfl)
                · have h := sp_f c15 h
                  refine lv_iconst (v := (1 : Int32)) hx hb dX3_isHeld_55 (by decide) ?_
                  refine lv_goto (tgt := 60) hx hb dX3_isHeld_56 (by decide) ?_
                  obtain rfl := sp_s h
                  exact J6 _ _ hP hD hS _ (lv_sub hl [0, 1, 2, 3, 4] rfl)
      · exact LL 300 ((i2 - (2 : Int32)), (0 : Int32)) h _ _ hP hD hS _ (lv_sub hl [0, 1, 2, 3, 4] rfl)
  · have h := sp_f c1 h
    refine lv_iconst (v := (0 : Int32)) hx hb dX3_isHeld_7 (by decide) ?_
    refine lv_goto (tgt := 14) hx hb dX3_isHeld_8 (by decide) ?_
    refine lv_istore (lv' := [(4, .int (0 : Int32)), (3, .int (0 : Int32)), (0, .ref (za 0)), (1, .int i1), (2, .int i2)]) hx hb dX3_isHeld_14 hl (by decide) rfl (fun ls hl => ?_)
    obtain ⟨w17, hw17, h⟩ := sp_b h
    refine xk_jn G A s.heap (wMOc G za zz_0 zz_1 zz_2 zz_3 zz_4 zz_5 zz_6 zz_7 zz_8 zz_9 zz_10 zz_11 zz_12 zz_13 zz_14 zz_15 zz_16 zz_17) 6 [(3, .int w17)] 114 [] (fun H locs hP hD hS ls hl => ?_) (fun J16 => ?_)
    · refine lv_iload_n hx hb dX3_isHeld_114 rfl (lv_at hl 0 rfl) ?_
      obtain ⟨hz, h⟩ := sp_c h
      obtain rfl := sp_s h
      exact xk_reZ hx hb hr hlk (xk_nar hz) hP hD hS rfl dX3_isHeld_115
    · have h := hw17
      clear hw17
      refine xk_lp (α := Int32 × Int32) G A s.heap (fun a_16 => (wMOc G za zz_0 zz_1 zz_2 zz_3 zz_4 zz_5 zz_6 zz_7 zz_8 zz_9 zz_10 zz_11 zz_12 zz_13 zz_14 zz_15 zz_16 zz_17)) 6 (fun a_16 => [(4, .int a_16.1), (3, .int a_16.2), (0, .ref (za 0)), (1, .int i1), (2, .int i2)]) 16 (fun n a_16 => f_X3_isHeld_l16_2 zz_4 zz_10 i1 i2 n a_16.1 a_16.2 = some w17) (fun a_16 h => ?_) (fun n ih_16 a_16 h H locs hP hD hS ls hl => ?_) (fun LL => ?_)
      · exact sp_n ((f_X3_isHeld_l16_2_z _ _ _ _ _ _).symm.trans h)
      · obtain ⟨x4_16, x3_16⟩ := a_16
        have h := (f_X3_isHeld_l16_2_s zz_4 zz_10 i1 i2 n x4_16 x3_16).symm.trans h
        have hP : va_P G.1 vwCl (wMOc G za zz_0 zz_1 zz_2 zz_3 zz_4 zz_5 zz_6 zz_7 zz_8 zz_9 zz_10 zz_11 zz_12 zz_13 zz_14 zz_15 zz_16 zz_17) H := hP
        have hD : va_D A (wMOc G za zz_0 zz_1 zz_2 zz_3 zz_4 zz_5 zz_6 zz_7 zz_8 zz_9 zz_10 zz_11 zz_12 zz_13 zz_14 zz_15 zz_16 zz_17) := hD
        have hl : lv_has ls 6 [(4, .int x4_16), (3, .int x3_16), (0, .ref (za 0)), (1, .int i1), (2, .int i2)] := hl
        refine lv_iload hx hb dX3_isHeld_16 (lv_at hl 0 rfl) ?_
        refine lv_iload_n hx hb dX3_isHeld_18 rfl (lv_at hl 4 rfl) ?_
        refine lv_icmp_ge (tgt := 114) hx hb dX3_isHeld_19 (by decide) (fun c18 => ?_) (fun c18 => ?_)
        · have h := sp_t c18 h
          obtain rfl := sp_s h
          exact J16 _ _ hP hD hS _ (lv_sub hl [1] rfl)
        · have h := sp_f c18 h
          refine lv_aload_n hx hb dX3_isHeld_22 rfl (lv_at hl 2 rfl) ?_
          refine va_get (D := G.1) (ci := 3) (v := .ref (za 10)) (C := RX3) (T := TX3) (N := 18) hx hb hts hinX3 hown hK hP 0 rfl rfl 10 (by decide) (hts (.fieldLink RX3 38 "LessonWeaveModel" "things" "[I") (by decide +kernel)) (fun _ h9 => h9) rfl dX3_isHeld_23 ?_
          refine lv_iload hx hb dX3_isHeld_26 (lv_at hl 0 rfl) ?_
          obtain ⟨hin19, h⟩ := sp_g h
          refine va_iald hx hb hK hP 10 0 rfl rfl hin19 dX3_isHeld_28 ?_
          obtain ⟨v20, hv20, h⟩ := sp_b h
          refine xk_jn G A s.heap (wMOc G za zz_0 zz_1 zz_2 zz_3 zz_4 zz_5 zz_6 zz_7 zz_8 zz_9 zz_10 zz_11 zz_12 zz_13 zz_14 zz_15 zz_16 zz_17) 6 [(4, .int x4_16), (3, .int x3_16), (0, .ref (za 0)), (1, .int i1), (2, .int i2)] 60 [.int v20] (fun H locs hP hD hS ls hl => ?_) (fun J20 => ?_)
          · refine lv_istore (lv' := [(5, .int v20), (4, .int x4_16), (3, .int x3_16), (0, .ref (za 0)), (1, .int i1), (2, .int i2)]) hx hb dX3_isHeld_60 hl (by decide) rfl (fun ls hl => ?_)
            refine lv_iload_n hx hb dX3_isHeld_62 rfl (lv_at hl 2 rfl) ?_
            refine lv_if_ne (tgt := 102) hx hb dX3_isHeld_63 (by decide) (fun c21 => ?_) (fun c21 => ?_)
            · have h := sp_f c21 h
              refine lv_iconst (v := (1 : Int32)) hx hb dX3_isHeld_102 (by decide) ?_
              refine lv_goto (tgt := 107) hx hb dX3_isHeld_103 (by decide) ?_
              refine lv_istore_n (lv' := [(3, .int (1 : Int32)), (5, .int v20), (4, .int x4_16), (0, .ref (za 0)), (1, .int i1), (2, .int i2)]) hx hb dX3_isHeld_107 rfl hl (by decide) rfl (fun ls hl => ?_)
              refine lv_iinc (v := (x4_16 + (1 : Int32))) (lv' := [(4, .int (x4_16 + (1 : Int32))), (3, .int (1 : Int32)), (5, .int v20), (0, .ref (za 0)), (1, .int i1), (2, .int i2)]) hx hb dX3_isHeld_108 hl (k := 2) rfl rfl (by decide) rfl (fun ls hl => ?_)
              refine lv_goto (tgt := 16) hx hb dX3_isHeld_111 (by decide) ?_
              exact ih_16 ((x4_16 + (1 : Int32)), (1 : Int32)) h _ _ hP hD hS _ (lv_sub hl [0, 1, 3, 4, 5] rfl)
            · have h := sp_t c21 h
              refine lv_iload hx hb dX3_isHeld_66 (lv_at hl 0 rfl) ?_
              refine lv_if_eq (tgt := 106) hx hb dX3_isHeld_68 (by decide) (fun c22 => ?_) (fun c22 => ?_)
              · have h := sp_t c22 h
                refine lv_iconst (v := (0 : Int32)) hx hb dX3_isHeld_106 (by decide) ?_
                refine lv_istore_n (lv' := [(3, .int (0 : Int32)), (5, .int v20), (4, .int x4_16), (0, .ref (za 0)), (1, .int i1), (2, .int i2)]) hx hb dX3_isHeld_107 rfl hl (by decide) rfl (fun ls hl => ?_)
                refine lv_iinc (v := (x4_16 + (1 : Int32))) (lv' := [(4, .int (x4_16 + (1 : Int32))), (3, .int (0 : Int32)), (5, .int v20), (0, .ref (za 0)), (1, .int i1), (2, .int i2)]) hx hb dX3_isHeld_108 hl (k := 2) rfl rfl (by decide) rfl (fun ls hl => ?_)
                refine lv_goto (tgt := 16) hx hb dX3_isHeld_111 (by decide) ?_
                exact ih_16 ((x4_16 + (1 : Int32)), (0 : Int32)) h _ _ hP hD hS _ (lv_sub hl [0, 1, 3, 4, 5] rfl)
              · have h := sp_f c22 h
                refine lv_aload_n hx hb dX3_isHeld_71 rfl (lv_at hl 3 rfl) ?_
                refine va_get (D := G.1) (ci := 3) (v := .ref (za 4)) (C := RX3) (T := TX3) (N := 18) hx hb hts hinX3 hown hK hP 0 rfl rfl 4 (by decide) (hts (.fieldLink RX3 19 "LessonWeaveModel" "kit" "[I") (by decide +kernel)) (fun _ h9 => h9) rfl dX3_isHeld_72 ?_
                refine lv_iload_n hx hb dX3_isHeld_75 rfl (lv_at hl 4 rfl) ?_
                obtain ⟨hin23, h⟩ := sp_g h
                refine va_iald hx hb hK hP 4 0 rfl rfl hin23 dX3_isHeld_76 ?_
                refine lv_iconst (v := ((-1) : Int32)) hx hb dX3_isHeld_77 (by decide) ?_
                refine lv_icmp_eq (tgt := 106) hx hb dX3_isHeld_78 (by decide) (fun c24 => ?_) (fun c24 => ?_)
                · have h := sp_t c24 h
                  refine lv_iconst (v := (0 : Int32)) hx hb dX3_isHeld_106 (by decide) ?_
                  refine lv_istore_n (lv' := [(3, .int (0 : Int32)), (5, .int v20), (4, .int x4_16), (0, .ref (za 0)), (1, .int i1), (2, .int i2)]) hx hb dX3_isHeld_107 rfl hl (by decide) rfl (fun ls hl => ?_)
                  refine lv_iinc (v := (x4_16 + (1 : Int32))) (lv' := [(4, .int (x4_16 + (1 : Int32))), (3, .int (0 : Int32)), (5, .int v20), (0, .ref (za 0)), (1, .int i1), (2, .int i2)]) hx hb dX3_isHeld_108 hl (k := 2) rfl rfl (by decide) rfl (fun ls hl => ?_)
                  refine lv_goto (tgt := 16) hx hb dX3_isHeld_111 (by decide) ?_
                  exact ih_16 ((x4_16 + (1 : Int32)), (0 : Int32)) h _ _ hP hD hS _ (lv_sub hl [0, 1, 3, 4, 5] rfl)
                · have h := sp_f c24 h
                  refine lv_aload_n hx hb dX3_isHeld_81 rfl (lv_at hl 3 rfl) ?_
                  refine va_get (D := G.1) (ci := 3) (v := .ref (za 4)) (C := RX3) (T := TX3) (N := 18) hx hb hts hinX3 hown hK hP 0 rfl rfl 4 (by decide) (hts (.fieldLink RX3 19 "LessonWeaveModel" "kit" "[I") (by decide +kernel)) (fun _ h9 => h9) rfl dX3_isHeld_82 ?_
                  refine lv_aload_n hx hb dX3_isHeld_85 rfl (lv_at hl 3 rfl) ?_
                  refine va_get (D := G.1) (ci := 3) (v := .ref (za 10)) (C := RX3) (T := TX3) (N := 18) hx hb hts hinX3 hown hK hP 0 rfl rfl 10 (by decide) (hts (.fieldLink RX3 38 "LessonWeaveModel" "things" "[I") (by decide +kernel)) (fun _ h9 => h9) rfl dX3_isHeld_86 ?_
                  refine lv_iload hx hb dX3_isHeld_89 (lv_at hl 1 rfl) ?_
                  refine va_iald hx hb hK hP 10 0 rfl rfl hin19 dX3_isHeld_91 ?_
                  obtain ⟨hin25, h⟩ := sp_g h
                  refine va_iald hx hb hK hP 4 0 rfl rfl hin25 dX3_isHeld_92 ?_
                  refine lv_aload_n hx hb dX3_isHeld_93 rfl (lv_at hl 3 rfl) ?_
                  refine va_get (D := G.1) (ci := 3) (v := .ref (za 4)) (C := RX3) (T := TX3) (N := 18) hx hb hts hinX3 hown hK hP 0 rfl rfl 4 (by decide) (hts (.fieldLink RX3 19 "LessonWeaveModel" "kit" "[I") (by decide +kernel)) (fun _ h9 => h9) rfl dX3_isHeld_94 ?_
                  refine lv_iload_n hx hb dX3_isHeld_97 rfl (lv_at hl 4 rfl) ?_
                  refine va_iald hx hb hK hP 4 0 rfl rfl hin23 dX3_isHeld_98 ?_
                  refine lv_icmp_ne (tgt := 106) hx hb dX3_isHeld_99 (by decide) (fun c26 => ?_) (fun c26 => ?_)
                  · have h := sp_f c26 h
                    refine lv_iconst (v := (0 : Int32)) hx hb dX3_isHeld_106 (by decide) ?_
                    refine lv_istore_n (lv' := [(3, .int (0 : Int32)), (5, .int v20), (4, .int x4_16), (0, .ref (za 0)), (1, .int i1), (2, .int i2)]) hx hb dX3_isHeld_107 rfl hl (by decide) rfl (fun ls hl => ?_)
                    refine lv_iinc (v := (x4_16 + (1 : Int32))) (lv' := [(4, .int (x4_16 + (1 : Int32))), (3, .int (0 : Int32)), (5, .int v20), (0, .ref (za 0)), (1, .int i1), (2, .int i2)]) hx hb dX3_isHeld_108 hl (k := 2) rfl rfl (by decide) rfl (fun ls hl => ?_)
                    refine lv_goto (tgt := 16) hx hb dX3_isHeld_111 (by decide) ?_
                    exact ih_16 ((x4_16 + (1 : Int32)), (0 : Int32)) h _ _ hP hD hS _ (lv_sub hl [0, 1, 3, 4, 5] rfl)
                  · have h := sp_t c26 h
                    refine lv_iconst (v := (1 : Int32)) hx hb dX3_isHeld_102 (by decide) ?_
                    refine lv_goto (tgt := 107) hx hb dX3_isHeld_103 (by decide) ?_
                    refine lv_istore_n (lv' := [(3, .int (1 : Int32)), (5, .int v20), (4, .int x4_16), (0, .ref (za 0)), (1, .int i1), (2, .int i2)]) hx hb dX3_isHeld_107 rfl hl (by decide) rfl (fun ls hl => ?_)
                    refine lv_iinc (v := (x4_16 + (1 : Int32))) (lv' := [(4, .int (x4_16 + (1 : Int32))), (3, .int (1 : Int32)), (5, .int v20), (0, .ref (za 0)), (1, .int i1), (2, .int i2)]) hx hb dX3_isHeld_108 hl (k := 2) rfl rfl (by decide) rfl (fun ls hl => ?_)
                    refine lv_goto (tgt := 16) hx hb dX3_isHeld_111 (by decide) ?_
                    exact ih_16 ((x4_16 + (1 : Int32)), (1 : Int32)) h _ _ hP hD hS _ (lv_sub hl [0, 1, 3, 4, 5] rfl)
          · have h := hv20
            clear hv20
            refine lv_if_lt (tgt := 59) hx hb dX3_isHeld_29 (by decide) (fun c27 => ?_) (fun c27 => ?_)
            · have h := sp_t c27 h
              refine lv_iconst (v := (0 : Int32)) hx hb dX3_isHeld_59 (by decide) ?_
              obtain rfl := sp_s h
              exact J20 _ _ hP hD hS _ (lv_sub hl [0, 1, 2, 3, 4] rfl)
            · have h := sp_f c27 h
              refine lv_aload_n hx hb dX3_isHeld_32 rfl (lv_at hl 2 rfl) ?_
              refine va_get (D := G.1) (ci := 3) (v := .ref (za 10)) (C := RX3) (T := TX3) (N := 18) hx hb hts hinX3 hown hK hP 0 rfl rfl 10 (by decide) (hts (.fieldLink RX3 38 "LessonWeaveModel" "things" "[I") (by decide +kernel)) (fun _ h9 => h9) rfl dX3_isHeld_33 ?_
              refine lv_iload hx hb dX3_isHeld_36 (lv_at hl 0 rfl) ?_
              refine va_iald hx hb hK hP 10 0 rfl rfl hin19 dX3_isHeld_38 ?_
              refine lv_bipush (v := (100 : Int32)) hx hb dX3_isHeld_39 (by decide) ?_
              refine lv_icmp_ge (tgt := 59) hx hb dX3_isHeld_41 (by decide) (fun c28 => ?_) (fun c28 => ?_)
              · have h := sp_t c28 h
                refine lv_iconst (v := (0 : Int32)) hx hb dX3_isHeld_59 (by decide) ?_
                obtain rfl := sp_s h
                exact J20 _ _ hP hD hS _ (lv_sub hl [0, 1, 2, 3, 4] rfl)
              · have h := sp_f c28 h
                refine lv_aload_n hx hb dX3_isHeld_44 rfl (lv_at hl 2 rfl) ?_
                refine va_get (D := G.1) (ci := 3) (v := .ref (za 10)) (C := RX3) (T := TX3) (N := 18) hx hb hts hinX3 hown hK hP 0 rfl rfl 10 (by decide) (hts (.fieldLink RX3 38 "LessonWeaveModel" "things" "[I") (by decide +kernel)) (fun _ h9 => h9) rfl dX3_isHeld_45 ?_
                refine lv_iload hx hb dX3_isHeld_48 (lv_at hl 0 rfl) ?_
                refine va_iald hx hb hK hP 10 0 rfl rfl hin19 dX3_isHeld_50 ?_
                refine lv_iload_n hx hb dX3_isHeld_51 rfl (lv_at hl 3 rfl) ?_
                refine lv_icmp_eq (tgt := 59) hx hb dX3_isHeld_52 (by decide) (fun c29 => ?_) (fun c29 => ?_)
                · have h := sp_t c29 h
                  refine lv_iconst (v := (0 : Int32)) hx hb dX3_isHeld_59 (by decide) ?_
                  obtain rfl := sp_s h
                  exact J20 _ _ hP hD hS _ (lv_sub hl [0, 1, 2, 3, 4] rfl)
                · have h := sp_f c29 h
                  refine lv_iconst (v := (1 : Int32)) hx hb dX3_isHeld_55 (by decide) ?_
                  refine lv_goto (tgt := 60) hx hb dX3_isHeld_56 (by decide) ?_
                  obtain rfl := sp_s h
                  exact J20 _ _ hP hD hS _ (lv_sub hl [0, 1, 2, 3, 4] rfl)
      · exact LL 300 ((0 : Int32), (0 : Int32)) h _ _ hP hD hS _ (lv_sub hl [0, 1, 2, 3, 4] rfl)
def f_X3_nextAim_l9 (zz_1 : xF) (zz_9 : xF) (zz_13 : xF) : Nat → Int32 → Int32 → Option (Int32)
  | 0, _, _ => none
  | k9 + 1, x2_1, x1_1 =>
    if x2_1 < 0 then
      some x1_1
    else
      if x2_1 < 0 ∨ 12 ≤ x2_1.toNatClampNeg then none else
      if (zz_9 x2_1.toNatClampNeg) < 0 ∨ 12 ≤ (zz_9 x2_1.toNatClampNeg).toNatClampNeg then none else
      if (zz_1 (zz_9 x2_1.toNatClampNeg).toNatClampNeg) ≤ (zz_13 (zz_9 x2_1.toNatClampNeg).toNatClampNeg) then
        f_X3_nextAim_l9 zz_1 zz_9 zz_13 k9 (x2_1 + ((-1) : Int32)) x1_1
      else
        f_X3_nextAim_l9 zz_1 zz_9 zz_13 k9 (x2_1 + ((-1) : Int32)) (zz_9 x2_1.toNatClampNeg)
theorem f_X3_nextAim_l9_z (zz_1 : xF) (zz_9 : xF) (zz_13 : xF) (x2_1 : Int32) (x1_1 : Int32) : f_X3_nextAim_l9 zz_1 zz_9 zz_13 0 x2_1 x1_1 = none := rfl
theorem f_X3_nextAim_l9_s (zz_1 : xF) (zz_9 : xF) (zz_13 : xF) (k9 : Nat) (x2_1 : Int32) (x1_1 : Int32) : f_X3_nextAim_l9 zz_1 zz_9 zz_13 (k9 + 1) x2_1 x1_1 =
    if x2_1 < 0 then
      some x1_1
    else
      if x2_1 < 0 ∨ 12 ≤ x2_1.toNatClampNeg then none else
      if (zz_9 x2_1.toNatClampNeg) < 0 ∨ 12 ≤ (zz_9 x2_1.toNatClampNeg).toNatClampNeg then none else
      if (zz_1 (zz_9 x2_1.toNatClampNeg).toNatClampNeg) ≤ (zz_13 (zz_9 x2_1.toNatClampNeg).toNatClampNeg) then
        f_X3_nextAim_l9 zz_1 zz_9 zz_13 k9 (x2_1 + ((-1) : Int32)) x1_1
      else
        f_X3_nextAim_l9 zz_1 zz_9 zz_13 k9 (x2_1 + ((-1) : Int32)) (zz_9 x2_1.toNatClampNeg) := rfl
def f_X3_nextAim (zz : xMO) : Option (Int32) :=
  Option.bind (f_X3_nextAim_l9 zz.2.1 zz.2.2.2.2.2.2.2.2.2.1 zz.2.2.2.2.2.2.2.2.2.2.2.2.2.1 300 (zz.1 - (1 : Int32)) ((-1) : Int32)) fun (w2 : Int32) =>
  some w2
theorem f_X3_nextAim_e (zz_0 : Int32) (zz_1 : xF) (zz_2 : xF) (zz_3 : xF) (zz_4 : xF) (zz_5 : xF) (zz_6 : xF) (zz_7 : xF) (zz_8 : xF) (zz_9 : xF) (zz_10 : xF) (zz_11 : xF) (zz_12 : xF) (zz_13 : xF) (zz_14 : xF) (zz_15 : xF) (zz_16 : Int32) (zz_17 : Int32) : f_X3_nextAim (zz_0, zz_1, zz_2, zz_3, zz_4, zz_5, zz_6, zz_7, zz_8, zz_9, zz_10, zz_11, zz_12, zz_13, zz_14, zz_15, zz_16, zz_17) =
  Option.bind (f_X3_nextAim_l9 zz_1 zz_9 zz_13 300 (zz_0 - (1 : Int32)) ((-1) : Int32)) fun (w2 : Int32) =>
  some w2 := rfl
set_option maxHeartbeats 4000000 in
set_option maxRecDepth 100000 in
theorem c_X3_nextAim (l : Launch) (G : xG) (za : (Nat → Nat)) (zz : xMO) (o : Int32) (h : f_X3_nextAim zz = some o) : xk_CI l yX3_nextAim wsX3_nextAim ({ frames := 0, cells := 0, slots := 0, locals := 0 } : Room) 0 0 [.ref (za 0)] G (wMOc G za zz.1 zz.2.1 zz.2.2.1 zz.2.2.2.1 zz.2.2.2.2.1 zz.2.2.2.2.2.1 zz.2.2.2.2.2.2.1 zz.2.2.2.2.2.2.2.1 zz.2.2.2.2.2.2.2.2.1 zz.2.2.2.2.2.2.2.2.2.1 zz.2.2.2.2.2.2.2.2.2.2.1 zz.2.2.2.2.2.2.2.2.2.2.2.1 zz.2.2.2.2.2.2.2.2.2.2.2.2.1 zz.2.2.2.2.2.2.2.2.2.2.2.2.2.1 zz.2.2.2.2.2.2.2.2.2.2.2.2.2.2.1 zz.2.2.2.2.2.2.2.2.2.2.2.2.2.2.2.1 zz.2.2.2.2.2.2.2.2.2.2.2.2.2.2.2.2.1 zz.2.2.2.2.2.2.2.2.2.2.2.2.2.2.2.2.2) (wMOc G za zz.1 zz.2.1 zz.2.2.1 zz.2.2.2.1 zz.2.2.2.2.1 zz.2.2.2.2.2.1 zz.2.2.2.2.2.2.1 zz.2.2.2.2.2.2.2.1 zz.2.2.2.2.2.2.2.2.1 zz.2.2.2.2.2.2.2.2.2.1 zz.2.2.2.2.2.2.2.2.2.2.1 zz.2.2.2.2.2.2.2.2.2.2.2.1 zz.2.2.2.2.2.2.2.2.2.2.2.2.1 zz.2.2.2.2.2.2.2.2.2.2.2.2.2.1 zz.2.2.2.2.2.2.2.2.2.2.2.2.2.2.1 zz.2.2.2.2.2.2.2.2.2.2.2.2.2.2.2.1 zz.2.2.2.2.2.2.2.2.2.2.2.2.2.2.2.2.1 zz.2.2.2.2.2.2.2.2.2.2.2.2.2.2.2.2.2) o := by
  obtain ⟨zz_0, zz_1, zz_2, zz_3, zz_4, zz_5, zz_6, zz_7, zz_8, zz_9, zz_10, zz_11, zz_12, zz_13, zz_14, zz_15, zz_16, zz_17⟩ := zz
  refine xk_CI.of (cc := cX3_nextAim) (maxL := 3) (ret := (some .int)) (by decide) rfl (Nat.le_of_ble_eq_true rfl) ?_
  intro pr9 en9 s mm9 bl9 meth9 cd9 A ls H locs hx hb hr hml hts hown hlk hA hP hK hD hNE hS hl
  have hown : s.vm.findClass RX3 = some mm9.cls := hown
  have hl : lv_has ls 3 [(0, .ref (za 0))] := hl
  have hinX3 : ∀ w ∈ u_ws RX3 TX3 18, w ∈ wsX3_nextAim := by decide +kernel
  have hP : va_P G.1 vwCl (wMOc G za zz_0 zz_1 zz_2 zz_3 zz_4 zz_5 zz_6 zz_7 zz_8 zz_9 zz_10 zz_11 zz_12 zz_13 zz_14 zz_15 zz_16 zz_17) H := hP
  have hD : va_D A (wMOc G za zz_0 zz_1 zz_2 zz_3 zz_4 zz_5 zz_6 zz_7 zz_8 zz_9 zz_10 zz_11 zz_12 zz_13 zz_14 zz_15 zz_16 zz_17) := hD
  have h := (f_X3_nextAim_e zz_0 zz_1 zz_2 zz_3 zz_4 zz_5 zz_6 zz_7 zz_8 zz_9 zz_10 zz_11 zz_12 zz_13 zz_14 zz_15 zz_16 zz_17).symm.trans h
  refine lv_iconst (v := ((-1) : Int32)) hx hb dX3_nextAim_0 (by decide) ?_
  refine lv_istore_n (lv' := [(1, .int ((-1) : Int32)), (0, .ref (za 0))]) hx hb dX3_nextAim_1 rfl hl (by decide) rfl (fun ls hl => ?_)
  refine lv_aload_n hx hb dX3_nextAim_2 rfl (lv_at hl 1 rfl) ?_
  refine va_get (D := G.1) (ci := 3) (v := .int zz_0) (C := RX3) (T := TX3) (N := 18) hx hb hts hinX3 hown hK hP 0 rfl rfl 0 (by decide) (hts (.fieldLink RX3 60 "LessonWeaveModel" "aims" "I") (by decide +kernel)) (fun _ h9 => h9) rfl dX3_nextAim_3 ?_
  refine lv_iconst (v := (1 : Int32)) hx hb dX3_nextAim_6 (by decide) ?_
  refine lv_isub hx hb dX3_nextAim_7 ?_
  refine lv_istore_n (lv' := [(2, .int (zz_0 - (1 : Int32))), (1, .int ((-1) : Int32)), (0, .ref (za 0))]) hx hb dX3_nextAim_8 rfl hl (by decide) rfl (fun ls hl => ?_)
  obtain ⟨w2, hw2, h⟩ := sp_b h
  refine xk_jn G A s.heap (wMOc G za zz_0 zz_1 zz_2 zz_3 zz_4 zz_5 zz_6 zz_7 zz_8 zz_9 zz_10 zz_11 zz_12 zz_13 zz_14 zz_15 zz_16 zz_17) 3 [(1, .int w2)] 55 [] (fun H locs hP hD hS ls hl => ?_) (fun J1 => ?_)
  · refine lv_iload_n hx hb dX3_nextAim_55 rfl (lv_at hl 0 rfl) ?_
    obtain rfl := sp_s h
    exact xk_reI hx hb hr hlk hP hD hS rfl dX3_nextAim_56
  · have h := hw2
    clear hw2
    refine xk_lp (α := Int32 × Int32) G A s.heap (fun a_1 => (wMOc G za zz_0 zz_1 zz_2 zz_3 zz_4 zz_5 zz_6 zz_7 zz_8 zz_9 zz_10 zz_11 zz_12 zz_13 zz_14 zz_15 zz_16 zz_17)) 3 (fun a_1 => [(2, .int a_1.1), (1, .int a_1.2), (0, .ref (za 0))]) 9 (fun n a_1 => f_X3_nextAim_l9 zz_1 zz_9 zz_13 n a_1.1 a_1.2 = some w2) (fun a_1 h => ?_) (fun n ih_1 a_1 h H locs hP hD hS ls hl => ?_) (fun LL => ?_)
    · exact sp_n ((f_X3_nextAim_l9_z _ _ _ _ _).symm.trans h)
    · obtain ⟨x2_1, x1_1⟩ := a_1
      have h := (f_X3_nextAim_l9_s zz_1 zz_9 zz_13 n x2_1 x1_1).symm.trans h
      have hP : va_P G.1 vwCl (wMOc G za zz_0 zz_1 zz_2 zz_3 zz_4 zz_5 zz_6 zz_7 zz_8 zz_9 zz_10 zz_11 zz_12 zz_13 zz_14 zz_15 zz_16 zz_17) H := hP
      have hD : va_D A (wMOc G za zz_0 zz_1 zz_2 zz_3 zz_4 zz_5 zz_6 zz_7 zz_8 zz_9 zz_10 zz_11 zz_12 zz_13 zz_14 zz_15 zz_16 zz_17) := hD
      have hl : lv_has ls 3 [(2, .int x2_1), (1, .int x1_1), (0, .ref (za 0))] := hl
      refine lv_iload_n hx hb dX3_nextAim_9 rfl (lv_at hl 0 rfl) ?_
      refine lv_if_lt (tgt := 55) hx hb dX3_nextAim_10 (by decide) (fun c3 => ?_) (fun c3 => ?_)
      · have h := sp_t c3 h
        obtain rfl := sp_s h
        exact J1 _ _ hP hD hS _ (lv_sub hl [1] rfl)
      · have h := sp_f c3 h
        refine lv_aload_n hx hb dX3_nextAim_13 rfl (lv_at hl 2 rfl) ?_
        refine va_get (D := G.1) (ci := 3) (v := .ref (za 13)) (C := RX3) (T := TX3) (N := 18) hx hb hts hinX3 hown hK hP 0 rfl rfl 13 (by decide) (hts (.fieldLink RX3 47 "LessonWeaveModel" "lessonsLaid" "[I") (by decide +kernel)) (fun _ h9 => h9) rfl dX3_nextAim_14 ?_
        refine lv_aload_n hx hb dX3_nextAim_17 rfl (lv_at hl 2 rfl) ?_
        refine va_get (D := G.1) (ci := 3) (v := .ref (za 9)) (C := RX3) (T := TX3) (N := 18) hx hb hts hinX3 hown hK hP 0 rfl rfl 9 (by decide) (hts (.fieldLink RX3 35 "LessonWeaveModel" "order" "[I") (by decide +kernel)) (fun _ h9 => h9) rfl dX3_nextAim_18 ?_
        refine lv_iload_n hx hb dX3_nextAim_21 rfl (lv_at hl 0 rfl) ?_
        obtain ⟨hin4, h⟩ := sp_g h
        refine va_iald hx hb hK hP 9 0 rfl rfl hin4 dX3_nextAim_22 ?_
        obtain ⟨hin5, h⟩ := sp_g h
        refine va_iald hx hb hK hP 13 0 rfl rfl hin5 dX3_nextAim_23 ?_
        refine lv_aload_n hx hb dX3_nextAim_24 rfl (lv_at hl 2 rfl) ?_
        refine va_get (D := G.1) (ci := 3) (v := .ref (za 1)) (C := RX3) (T := TX3) (N := 18) hx hb hts hinX3 hown hK hP 0 rfl rfl 1 (by decide) (hts (.fieldLink RX3 7 "LessonWeaveModel" "lessons" "[I") (by decide +kernel)) (fun _ h9 => h9) rfl dX3_nextAim_25 ?_
        refine lv_aload_n hx hb dX3_nextAim_28 rfl (lv_at hl 2 rfl) ?_
        refine va_get (D := G.1) (ci := 3) (v := .ref (za 9)) (C := RX3) (T := TX3) (N := 18) hx hb hts hinX3 hown hK hP 0 rfl rfl 9 (by decide) (hts (.fieldLink RX3 35 "LessonWeaveModel" "order" "[I") (by decide +kernel)) (fun _ h9 => h9) rfl dX3_nextAim_29 ?_
        refine lv_iload_n hx hb dX3_nextAim_32 rfl (lv_at hl 0 rfl) ?_
        refine va_iald hx hb hK hP 9 0 rfl rfl hin4 dX3_nextAim_33 ?_
        refine va_iald hx hb hK hP 1 0 rfl rfl hin5 dX3_nextAim_34 ?_
        refine lv_icmp_ge (tgt := 47) hx hb dX3_nextAim_35 (by decide) (fun c6 => ?_) (fun c6 => ?_)
        · have h := sp_t c6 h
          refine lv_iload_n hx hb dX3_nextAim_47 rfl (lv_at hl 1 rfl) ?_
          refine lv_istore_n (lv' := [(1, .int x1_1), (2, .int x2_1), (0, .ref (za 0))]) hx hb dX3_nextAim_48 rfl hl (by decide) rfl (fun ls hl => ?_)
          refine lv_iinc (v := (x2_1 + ((-1) : Int32))) (lv' := [(2, .int (x2_1 + ((-1) : Int32))), (1, .int x1_1), (0, .ref (za 0))]) hx hb dX3_nextAim_49 hl (k := 1) rfl rfl (by decide) rfl (fun ls hl => ?_)
          refine lv_goto (tgt := 9) hx hb dX3_nextAim_52 (by decide) ?_
          exact ih_1 ((x2_1 + ((-1) : Int32)), x1_1) h _ _ hP hD hS _ (lv_sub hl [0, 1, 2] rfl)
        · have h := sp_f c6 h
          refine lv_aload_n hx hb dX3_nextAim_38 rfl (lv_at hl 2 rfl) ?_
          refine va_get (D := G.1) (ci := 3) (v := .ref (za 9)) (C := RX3) (T := TX3) (N := 18) hx hb hts hinX3 hown hK hP 0 rfl rfl 9 (by decide) (hts (.fieldLink RX3 35 "LessonWeaveModel" "order" "[I") (by decide +kernel)) (fun _ h9 => h9) rfl dX3_nextAim_39 ?_
          refine lv_iload_n hx hb dX3_nextAim_42 rfl (lv_at hl 0 rfl) ?_
          refine va_iald hx hb hK hP 9 0 rfl rfl hin4 dX3_nextAim_43 ?_
          refine lv_goto (tgt := 48) hx hb dX3_nextAim_44 (by decide) ?_
          refine lv_istore_n (lv' := [(1, .int (zz_9 x2_1.toNatClampNeg)), (2, .int x2_1), (0, .ref (za 0))]) hx hb dX3_nextAim_48 rfl hl (by decide) rfl (fun ls hl => ?_)
          refine lv_iinc (v := (x2_1 + ((-1) : Int32))) (lv' := [(2, .int (x2_1 + ((-1) : Int32))), (1, .int (zz_9 x2_1.toNatClampNeg)), (0, .ref (za 0))]) hx hb dX3_nextAim_49 hl (k := 1) rfl rfl (by decide) rfl (fun ls hl => ?_)
          refine lv_goto (tgt := 9) hx hb dX3_nextAim_52 (by decide) ?_
          exact ih_1 ((x2_1 + ((-1) : Int32)), (zz_9 x2_1.toNatClampNeg)) h _ _ hP hD hS _ (lv_sub hl [0, 1, 2] rfl)
    · exact LL 300 ((zz_0 - (1 : Int32)), ((-1) : Int32)) h _ _ hP hD hS _ (lv_sub hl [0, 1, 2] rfl)
