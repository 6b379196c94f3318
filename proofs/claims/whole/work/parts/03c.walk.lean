def f_X3_thrown (zz : xMO) : Option (Int32) :=
  some zz.2.2.2.2.2.2.2.2.2.2.2.2.2.2.2.2.2
theorem f_X3_thrown_e (zz_0 : Int32) (zz_1 : xF) (zz_2 : xF) (zz_3 : xF) (zz_4 : xF) (zz_5 : xF) (zz_6 : xF) (zz_7 : xF) (zz_8 : xF) (zz_9 : xF) (zz_10 : xF) (zz_11 : xF) (zz_12 : xF) (zz_13 : xF) (zz_14 : xF) (zz_15 : xF) (zz_16 : Int32) (zz_17 : Int32) : f_X3_thrown (zz_0, zz_1, zz_2, zz_3, zz_4, zz_5, zz_6, zz_7, zz_8, zz_9, zz_10, zz_11, zz_12, zz_13, zz_14, zz_15, zz_16, zz_17) =
  some zz_17 := rfl
set_option maxHeartbeats 4000000 in
set_option maxRecDepth 100000 in
theorem c_X3_thrown (l : Launch) (G : xG) (za : (Nat → Nat)) (zz : xMO) (o : Int32) (h : f_X3_thrown zz = some o) : xk_CI l yX3_thrown wsX3_thrown ({ frames := 0, cells := 0, slots := 0, locals := 0 } : Room) 0 0 [.ref (za 0)] G (wMOc G za zz.1 zz.2.1 zz.2.2.1 zz.2.2.2.1 zz.2.2.2.2.1 zz.2.2.2.2.2.1 zz.2.2.2.2.2.2.1 zz.2.2.2.2.2.2.2.1 zz.2.2.2.2.2.2.2.2.1 zz.2.2.2.2.2.2.2.2.2.1 zz.2.2.2.2.2.2.2.2.2.2.1 zz.2.2.2.2.2.2.2.2.2.2.2.1 zz.2.2.2.2.2.2.2.2.2.2.2.2.1 zz.2.2.2.2.2.2.2.2.2.2.2.2.2.1 zz.2.2.2.2.2.2.2.2.2.2.2.2.2.2.1 zz.2.2.2.2.2.2.2.2.2.2.2.2.2.2.2.1 zz.2.2.2.2.2.2.2.2.2.2.2.2.2.2.2.2.1 zz.2.2.2.2.2.2.2.2.2.2.2.2.2.2.2.2.2) (wMOc G za zz.1 zz.2.1 zz.2.2.1 zz.2.2.2.1 zz.2.2.2.2.1 zz.2.2.2.2.2.1 zz.2.2.2.2.2.2.1 zz.2.2.2.2.2.2.2.1 zz.2.2.2.2.2.2.2.2.1 zz.2.2.2.2.2.2.2.2.2.1 zz.2.2.2.2.2.2.2.2.2.2.1 zz.2.2.2.2.2.2.2.2.2.2.2.1 zz.2.2.2.2.2.2.2.2.2.2.2.2.1 zz.2.2.2.2.2.2.2.2.2.2.2.2.2.1 zz.2.2.2.2.2.2.2.2.2.2.2.2.2.2.1 zz.2.2.2.2.2.2.2.2.2.2.2.2.2.2.2.1 zz.2.2.2.2.2.2.2.2.2.2.2.2.2.2.2.2.1 zz.2.2.2.2.2.2.2.2.2.2.2.2.2.2.2.2.2) o := by
  obtain ⟨zz_0, zz_1, zz_2, zz_3, zz_4, zz_5, zz_6, zz_7, zz_8, zz_9, zz_10, zz_11, zz_12, zz_13, zz_14, zz_15, zz_16, zz_17⟩ := zz
  refine xk_CI.of (cc := cX3_thrown) (maxL := 1) (ret := (some .int)) (by decide) rfl (Nat.le_of_ble_eq_true rfl) ?_
  intro pr9 en9 s mm9 bl9 meth9 cd9 A ls H locs hx hb hr hml hts hown hlk hA hP hK hD hNE hS hl
  have hown : s.vm.findClass RX3 = some mm9.cls := hown
  have hl : lv_has ls 1 [(0, .ref (za 0))] := hl
  have hinX3 : ∀ w ∈ u_ws RX3 TX3 18, w ∈ wsX3_thrown := by decide +kernel
  have hP : va_P G.1 vwCl (wMOc G za zz_0 zz_1 zz_2 zz_3 zz_4 zz_5 zz_6 zz_7 zz_8 zz_9 zz_10 zz_11 zz_12 zz_13 zz_14 zz_15 zz_16 zz_17) H := hP
  have hD : va_D A (wMOc G za zz_0 zz_1 zz_2 zz_3 zz_4 zz_5 zz_6 zz_7 zz_8 zz_9 zz_10 zz_11 zz_12 zz_13 zz_14 zz_15 zz_16 zz_17) := hD
  have h := (f_X3_thrown_e zz_0 zz_1 zz_2 zz_3 zz_4 zz_5 zz_6 zz_7 zz_8 zz_9 zz_10 zz_11 zz_12 zz_13 zz_14 zz_15 zz_16 zz_17).symm.trans h
  refine lv_aload_n hx hb dX3_thrown_0 rfl (lv_at hl 0 rfl) ?_
  refine va_get (D := G.1) (ci := 3) (v := .int zz_17) (C := RX3) (T := TX3) (N := 18) hx hb hts hinX3 hown hK hP 0 rfl rfl 17 (by decide) (hts (.fieldLink RX3 56 "LessonWeaveModel" "thrown" "I") (by decide +kernel)) (fun _ h9 => h9) rfl dX3_thrown_1 ?_
  obtain rfl := sp_s h
  exact xk_reI hx hb hr hlk hP hD hS rfl dX3_thrown_4
def f_X3_can (zz : xMO) (i1 : Int32) : Option (Int32 × Int32) :=
  if i1 = 0 then
    some ((1 : Int32), i1)
  else
    some ((0 : Int32), i1)
theorem f_X3_can_e (zz_0 : Int32) (zz_1 : xF) (zz_2 : xF) (zz_3 : xF) (zz_4 : xF) (zz_5 : xF) (zz_6 : xF) (zz_7 : xF) (zz_8 : xF) (zz_9 : xF) (zz_10 : xF) (zz_11 : xF) (zz_12 : xF) (zz_13 : xF) (zz_14 : xF) (zz_15 : xF) (zz_16 : Int32) (zz_17 : Int32) (i1 : Int32) : f_X3_can (zz_0, zz_1, zz_2, zz_3, zz_4, zz_5, zz_6, zz_7, zz_8, zz_9, zz_10, zz_11, zz_12, zz_13, zz_14, zz_15, zz_16, zz_17) i1 =
  if i1 = 0 then
    some ((1 : Int32), i1)
  else
    some ((0 : Int32), i1) := rfl
set_option maxHeartbeats 4000000 in
set_option maxRecDepth 100000 in
theorem c_X3_can (l : Launch) (G : xG) (za : (Nat → Nat)) (zz : xMO) (i1 : Int32) (o : Int32 × Int32) (h : f_X3_can zz i1 = some o) : xk_CI l yX3_can wsX3_can ({ frames := 0, cells := 0, slots := 0, locals := 0 } : Room) 0 0 [.ref (za 0), .int i1] G (wMOc G za zz.1 zz.2.1 zz.2.2.1 zz.2.2.2.1 zz.2.2.2.2.1 zz.2.2.2.2.2.1 zz.2.2.2.2.2.2.1 zz.2.2.2.2.2.2.2.1 zz.2.2.2.2.2.2.2.2.1 zz.2.2.2.2.2.2.2.2.2.1 zz.2.2.2.2.2.2.2.2.2.2.1 zz.2.2.2.2.2.2.2.2.2.2.2.1 zz.2.2.2.2.2.2.2.2.2.2.2.2.1 zz.2.2.2.2.2.2.2.2.2.2.2.2.2.1 zz.2.2.2.2.2.2.2.2.2.2.2.2.2.2.1 zz.2.2.2.2.2.2.2.2.2.2.2.2.2.2.2.1 zz.2.2.2.2.2.2.2.2.2.2.2.2.2.2.2.2.1 zz.2.2.2.2.2.2.2.2.2.2.2.2.2.2.2.2.2) (wMOc G za zz.1 zz.2.1 zz.2.2.1 zz.2.2.2.1 zz.2.2.2.2.1 zz.2.2.2.2.2.1 zz.2.2.2.2.2.2.1 zz.2.2.2.2.2.2.2.1 zz.2.2.2.2.2.2.2.2.1 zz.2.2.2.2.2.2.2.2.2.1 zz.2.2.2.2.2.2.2.2.2.2.1 zz.2.2.2.2.2.2.2.2.2.2.2.1 zz.2.2.2.2.2.2.2.2.2.2.2.2.1 zz.2.2.2.2.2.2.2.2.2.2.2.2.2.1 zz.2.2.2.2.2.2.2.2.2.2.2.2.2.2.1 zz.2.2.2.2.2.2.2.2.2.2.2.2.2.2.2.1 zz.2.2.2.2.2.2.2.2.2.2.2.2.2.2.2.2.1 o.2) o.1 := by
  obtain ⟨zz_0, zz_1, zz_2, zz_3, zz_4, zz_5, zz_6, zz_7, zz_8, zz_9, zz_10, zz_11, zz_12, zz_13, zz_14, zz_15, zz_16, zz_17⟩ := zz
  refine xk_CI.of (cc := cX3_can) (maxL := 2) (ret := (some .boolean)) (by decide) rfl (Nat.le_of_ble_eq_true rfl) ?_
  intro pr9 en9 s mm9 bl9 meth9 cd9 A ls H locs hx hb hr hml hts hown hlk hA hP hK hD hNE hS hl
  have hown : s.vm.findClass RX3 = some mm9.cls := hown
  have hl : lv_has ls 2 [(0, .ref (za 0)), (1, .int i1)] := hl
  have hinX3 : ∀ w ∈ u_ws RX3 TX3 18, w ∈ wsX3_can := by decide +kernel
  have hP : va_P G.1 vwCl (wMOc G za zz_0 zz_1 zz_2 zz_3 zz_4 zz_5 zz_6 zz_7 zz_8 zz_9 zz_10 zz_11 zz_12 zz_13 zz_14 zz_15 zz_16 zz_17) H := hP
  have hD : va_D A (wMOc G za zz_0 zz_1 zz_2 zz_3 zz_4 zz_5 zz_6 zz_7 zz_8 zz_9 zz_10 zz_11 zz_12 zz_13 zz_14 zz_15 zz_16 zz_17) := hD
  have h := (f_X3_can_e zz_0 zz_1 zz_2 zz_3 zz_4 zz_5 zz_6 zz_7 zz_8 zz_9 zz_10 zz_11 zz_12 zz_13 zz_14 zz_15 zz_16 zz_17 i1).symm.trans h
  refine lv_aload_n hx hb dX3_can_0 rfl (lv_at hl 0 rfl) ?_
  refine lv_iload_n hx hb dX3_can_1 rfl (lv_at hl 1 rfl) ?_
  refine va_put (D := G.1) (ci := 3) (v := .int i1) (ty := .int) (C := RX3) (T := TX3) (N := 18) hx hb hts hinX3 tyX3 tyX3_ok nmX3 hown hK hP hD hS 0 rfl rfl 17 (by decide) (hts (.fieldLink RX3 56 "LessonWeaveModel" "thrown" "I") (by decide +kernel)) (fun _ h9 => h9) rfl (by decide +kernel) rfl rfl (Nat.le_of_ble_eq_true rfl) dX3_can_2 (fun H locs hP hD hS => ?_)
  have hP : va_P G.1 vwCl (wMOc G za zz_0 zz_1 zz_2 zz_3 zz_4 zz_5 zz_6 zz_7 zz_8 zz_9 zz_10 zz_11 zz_12 zz_13 zz_14 zz_15 zz_16 i1) H := hP
  have hD : va_D A (wMOc G za zz_0 zz_1 zz_2 zz_3 zz_4 zz_5 zz_6 zz_7 zz_8 zz_9 zz_10 zz_11 zz_12 zz_13 zz_14 zz_15 zz_16 i1) := hD
  refine lv_iload_n hx hb dX3_can_5 rfl (lv_at hl 1 rfl) ?_
  refine lv_if_ne (tgt := 13) hx hb dX3_can_6 (by decide) (fun c1 => ?_) (fun c1 => ?_)
  · have h := sp_f c1 h
    refine lv_iconst (v := (0 : Int32)) hx hb dX3_can_13 (by decide) ?_
    obtain rfl := sp_s h
    exact xk_reZ hx hb hr hlk rfl hP hD hS rfl dX3_can_14
  · have h := sp_t c1 h
    refine lv_iconst (v := (1 : Int32)) hx hb dX3_can_9 (by decide) ?_
    refine lv_goto (tgt := 14) hx hb dX3_can_10 (by decide) ?_
    obtain rfl := sp_s h
    exact xk_reZ hx hb hr hlk rfl hP hD hS rfl dX3_can_14
def f_X3_isIn (i0 : Int32) (i1 : Int32) (i2 : Int32) : Option (Int32) :=
  if i0 < i1 then
    some (0 : Int32)
  else
    if i2 < i0 then
      some (0 : Int32)
    else
      some (1 : Int32)
theorem f_X3_isIn_e (i0 : Int32) (i1 : Int32) (i2 : Int32) : f_X3_isIn i0 i1 i2 =
  if i0 < i1 then
    some (0 : Int32)
  else
    if i2 < i0 then
      some (0 : Int32)
    else
      some (1 : Int32) := rfl
set_option maxHeartbeats 4000000 in
set_option maxRecDepth 100000 in
theorem c_X3_isIn (l : Launch) (G : xG)  (i0 : Int32) (i1 : Int32) (i2 : Int32) (o : Int32) (h : f_X3_isIn i0 i1 i2 = some o) : xk_CI l yX3_isIn wsX3_isIn ({ frames := 0, cells := 0, slots := 0, locals := 0 } : Room) 0 0 [.int i0, .int i1, .int i2] G [] [] o := by
  refine xk_CI.of (cc := cX3_isIn) (maxL := 3) (ret := (some .boolean)) (by decide) rfl (Nat.le_of_ble_eq_true rfl) ?_
  intro pr9 en9 s mm9 bl9 meth9 cd9 A ls H locs hx hb hr hml hts hown hlk hA hP hK hD hNE hS hl
  have hown : s.vm.findClass RX3 = some mm9.cls := hown
  have hl : lv_has ls 3 [(0, .int i0), (1, .int i1), (2, .int i2)] := hl
  have h := (f_X3_isIn_e i0 i1 i2).symm.trans h
  refine lv_iload_n hx hb dX3_isIn_0 rfl (lv_at hl 0 rfl) ?_
  refine lv_iload_n hx hb dX3_isIn_1 rfl (lv_at hl 1 rfl) ?_
  refine lv_icmp_lt (tgt := 14) hx hb dX3_isIn_2 (by decide) (fun c1 => ?_) (fun c1 => ?_)
  · have h := sp_t c1 h
    refine lv_iconst (v := (0 : Int32)) hx hb dX3_isIn_14 (by decide) ?_
    obtain rfl := sp_s h
    exact xk_reZ hx hb hr hlk rfl hP hD hS rfl dX3_isIn_15
  · have h := sp_f c1 h
    refine lv_iload_n hx hb dX3_isIn_5 rfl (lv_at hl 0 rfl) ?_
    refine lv_iload_n hx hb dX3_isIn_6 rfl (lv_at hl 2 rfl) ?_
    refine lv_icmp_gt (tgt := 14) hx hb dX3_isIn_7 (by decide) (fun c2 => ?_) (fun c2 => ?_)
    · have h := sp_t c2 h
      refine lv_iconst (v := (0 : Int32)) hx hb dX3_isIn_14 (by decide) ?_
      obtain rfl := sp_s h
      exact xk_reZ hx hb hr hlk rfl hP hD hS rfl dX3_isIn_15
    · have h := sp_f c2 h
      refine lv_iconst (v := (1 : Int32)) hx hb dX3_isIn_10 (by decide) ?_
      refine lv_goto (tgt := 15) hx hb dX3_isIn_11 (by decide) ?_
      obtain rfl := sp_s h
      exact xk_reZ hx hb hr hlk rfl hP hD hS rfl dX3_isIn_15
def f_X3_isAim (zz : xMO) (i1 : Int32) : Option (Int32) :=
  Option.bind (f_X3_isIn i1 (0 : Int32) (zz.1 - (1 : Int32))) fun (o1 : Int32) =>
  if o1 &&& 1 = o1 then some o1 else none
theorem f_X3_isAim_e (zz_0 : Int32) (zz_1 : xF) (zz_2 : xF) (zz_3 : xF) (zz_4 : xF) (zz_5 : xF) (zz_6 : xF) (zz_7 : xF) (zz_8 : xF) (zz_9 : xF) (zz_10 : xF) (zz_11 : xF) (zz_12 : xF) (zz_13 : xF) (zz_14 : xF) (zz_15 : xF) (zz_16 : Int32) (zz_17 : Int32) (i1 : Int32) : f_X3_isAim (zz_0, zz_1, zz_2, zz_3, zz_4, zz_5, zz_6, zz_7, zz_8, zz_9, zz_10, zz_11, zz_12, zz_13, zz_14, zz_15, zz_16, zz_17) i1 =
  Option.bind (f_X3_isIn i1 (0 : Int32) (zz_0 - (1 : Int32))) fun (o1 : Int32) =>
  if o1 &&& 1 = o1 then some o1 else none := rfl
set_option maxHeartbeats 4000000 in
set_option maxRecDepth 100000 in
theorem c_X3_isAim (l : Launch) (G : xG) (za : (Nat → Nat)) (zz : xMO) (i1 : Int32) (o : Int32) (h : f_X3_isAim zz i1 = some o) : xk_CI l yX3_isAim wsX3_isAim ({ frames := 1, cells := 0, slots := 0, locals := 22 } : Room) 0 0 [.ref (za 0), .int i1] G (wMOc G za zz.1 zz.2.1 zz.2.2.1 zz.2.2.2.1 zz.2.2.2.2.1 zz.2.2.2.2.2.1 zz.2.2.2.2.2.2.1 zz.2.2.2.2.2.2.2.1 zz.2.2.2.2.2.2.2.2.1 zz.2.2.2.2.2.2.2.2.2.1 zz.2.2.2.2.2.2.2.2.2.2.1 zz.2.2.2.2.2.2.2.2.2.2.2.1 zz.2.2.2.2.2.2.2.2.2.2.2.2.1 zz.2.2.2.2.2.2.2.2.2.2.2.2.2.1 zz.2.2.2.2.2.2.2.2.2.2.2.2.2.2.1 zz.2.2.2.2.2.2.2.2.2.2.2.2.2.2.2.1 zz.2.2.2.2.2.2.2.2.2.2.2.2.2.2.2.2.1 zz.2.2.2.2.2.2.2.2.2.2.2.2.2.2.2.2.2) (wMOc G za zz.1 zz.2.1 zz.2.2.1 zz.2.2.2.1 zz.2.2.2.2.1 zz.2.2.2.2.2.1 zz.2.2.2.2.2.2.1 zz.2.2.2.2.2.2.2.1 zz.2.2.2.2.2.2.2.2.1 zz.2.2.2.2.2.2.2.2.2.1 zz.2.2.2.2.2.2.2.2.2.2.1 zz.2.2.2.2.2.2.2.2.2.2.2.1 zz.2.2.2.2.2.2.2.2.2.2.2.2.1 zz.2.2.2.2.2.2.2.2.2.2.2.2.2.1 zz.2.2.2.2.2.2.2.2.2.2.2.2.2.2.1 zz.2.2.2.2.2.2.2.2.2.2.2.2.2.2.2.1 zz.2.2.2.2.2.2.2.2.2.2.2.2.2.2.2.2.1 zz.2.2.2.2.2.2.2.2.2.2.2.2.2.2.2.2.2) o := by
  obtain ⟨zz_0, zz_1, zz_2, zz_3, zz_4, zz_5, zz_6, zz_7, zz_8, zz_9, zz_10, zz_11, zz_12, zz_13, zz_14, zz_15, zz_16, zz_17⟩ := zz
  refine xk_CI.of (cc := cX3_isAim) (maxL := 2) (ret := (some .boolean)) (by decide) rfl (Nat.le_of_ble_eq_true rfl) ?_
  intro pr9 en9 s mm9 bl9 meth9 cd9 A ls H locs hx hb hr hml hts hown hlk hA hP hK hD hNE hS hl
  have hown : s.vm.findClass RX3 = some mm9.cls := hown
  have hl : lv_has ls 2 [(0, .ref (za 0)), (1, .int i1)] := hl
  have hinX3 : ∀ w ∈ u_ws RX3 TX3 18, w ∈ wsX3_isAim := by decide +kernel
  have hP : va_P G.1 vwCl (wMOc G za zz_0 zz_1 zz_2 zz_3 zz_4 zz_5 zz_6 zz_7 zz_8 zz_9 zz_10 zz_11 zz_12 zz_13 zz_14 zz_15 zz_16 zz_17) H := hP
  have hD : va_D A (wMOc G za zz_0 zz_1 zz_2 zz_3 zz_4 zz_5 zz_6 zz_7 zz_8 zz_9 zz_10 zz_11 zz_12 zz_13 zz_14 zz_15 zz_16 zz_17) := hD
  have h := (f_X3_isAim_e zz_0 zz_1 zz_2 zz_3 zz_4 zz_5 zz_6 zz_7 zz_8 zz_9 zz_10 zz_11 zz_12 zz_13 zz_14 zz_15 zz_16 zz_17 i1).symm.trans h
  refine lv_iload_n hx hb dX3_isAim_0 rfl (lv_at hl 1 rfl) ?_
  refine lv_iconst (v := (0 : Int32)) hx hb dX3_isAim_1 (by decide) ?_
  refine lv_aload_n hx hb dX3_isAim_2 rfl (lv_at hl 0 rfl) ?_
  refine va_get (D := G.1) (ci := 3) (v := .int zz_0) (C := RX3) (T := TX3) (N := 18) hx hb hts hinX3 hown hK hP 0 rfl rfl 0 (by decide) (hts (.fieldLink RX3 60 "LessonWeaveModel" "aims" "I") (by decide +kernel)) (fun _ h9 => h9) rfl dX3_isAim_3 ?_
  refine lv_iconst (v := (1 : Int32)) hx hb dX3_isAim_6 (by decide) ?_
  refine lv_isub hx hb dX3_isAim_7 ?_
  obtain ⟨o1, ho1, h⟩ := sp_b h
  refine xk_ci (va_runS (As := [.int i1, .int (0 : Int32), .int (zz_0 - (1 : Int32))]) (rest := []) ⟨hx, hb, hml, hown, hts⟩ (c_X3_isIn l G i1 (0 : Int32) (zz_0 - (1 : Int32)) o1 ho1 H.size) (va_cwS 3 hts gX3_isAim_X3_isIn rfl rfl rfl (by decide +kernel) ⟨Nat.le_of_ble_eq_true rfl, Nat.le_of_ble_eq_true rfl⟩) (xk_preS hK hNE (hP.sub (ws' := []) [] rfl) (hD.sub (ws' := []) [] (by decide) rfl)) rfl rfl hl.1 rfl (lv_room (Nat.le_of_ble_eq_true rfl)) dX3_isAim_8 ⟨Nat.le_of_ble_eq_true rfl, Nat.le_of_ble_eq_true rfl⟩) hP hD hS hA [] [0, 1, 2, 3, 4, 5, 6, 7, 8, 9, 10, 11, 12, 13, 14, 15] [0, 1, 2, 3, 4, 5, 6, 7, 8, 9, 10, 11, 12, 13, 14, 15] rfl rfl (by decide) (by decide) rfl (by decide) (fun H locs hP hD hS => ?_)
  have hP : va_P G.1 vwCl (wMOc G za zz_0 zz_1 zz_2 zz_3 zz_4 zz_5 zz_6 zz_7 zz_8 zz_9 zz_10 zz_11 zz_12 zz_13 zz_14 zz_15 zz_16 zz_17) H := hP
  have hD : va_D A (wMOc G za zz_0 zz_1 zz_2 zz_3 zz_4 zz_5 zz_6 zz_7 zz_8 zz_9 zz_10 zz_11 zz_12 zz_13 zz_14 zz_15 zz_16 zz_17) := hD
  obtain ⟨hz, h⟩ := sp_c h
  obtain rfl := sp_s h
  exact xk_reZ hx hb hr hlk (xk_nar hz) hP hD hS rfl dX3_isAim_11
def f_X3_size_l4 (i0 : Int32) : Nat → Int32 → Int32 → Option (Int32)
  | 0, _, _ => none
  | k9 + 1, x2_1, x1_1 =>
    if (12 : Int32) ≤ x2_1 then
      some x1_1
    else
      f_X3_size_l4 i0 k9 (x2_1 + (1 : Int32)) (x1_1 + ((i0 >>> (x2_1 &&& 31)) &&& (1 : Int32)))
theorem f_X3_size_l4_z (i0 : Int32) (x2_1 : Int32) (x1_1 : Int32) : f_X3_size_l4 i0 0 x2_1 x1_1 = none := rfl
theorem f_X3_size_l4_s (i0 : Int32) (k9 : Nat) (x2_1 : Int32) (x1_1 : Int32) : f_X3_size_l4 i0 (k9 + 1) x2_1 x1_1 =
    if (12 : Int32) ≤ x2_1 then
      some x1_1
    else
      f_X3_size_l4 i0 k9 (x2_1 + (1 : Int32)) (x1_1 + ((i0 >>> (x2_1 &&& 31)) &&& (1 : Int32))) := rfl
def f_X3_size (i0 : Int32) : Option (Int32) :=
  Option.bind (f_X3_size_l4 i0 300 (0 : Int32) (0 : Int32)) fun (w2 : Int32) =>
  some w2
theorem f_X3_size_e (i0 : Int32) : f_X3_size i0 =
  Option.bind (f_X3_size_l4 i0 300 (0 : Int32) (0 : Int32)) fun (w2 : Int32) =>
  some w2 := rfl
set_option maxHeartbeats 4000000 in
set_option maxRecDepth 100000 in
theorem c_X3_size (l : Launch) (G : xG)  (i0 : Int32) (o : Int32) (h : f_X3_size i0 = some o) : xk_CI l yX3_size wsX3_size ({ frames := 0, cells := 0, slots := 0, locals := 0 } : Room) 0 0 [.int i0] G [] [] o := by
  refine xk_CI.of (cc := cX3_size) (maxL := 3) (ret := (some .int)) (by decide) rfl (Nat.le_of_ble_eq_true rfl) ?_
  intro pr9 en9 s mm9 bl9 meth9 cd9 A ls H locs hx hb hr hml hts hown hlk hA hP hK hD hNE hS hl
  have hown : s.vm.findClass RX3 = some mm9.cls := hown
  have hl : lv_has ls 3 [(0, .int i0)] := hl
  have h := (f_X3_size_e i0).symm.trans h
  refine lv_iconst (v := (0 : Int32)) hx hb dX3_size_0 (by decide) ?_
  refine lv_istore_n (lv' := [(1, .int (0 : Int32)), (0, .int i0)]) hx hb dX3_size_1 rfl hl (by decide) rfl (fun ls hl => ?_)
  refine lv_iconst (v := (0 : Int32)) hx hb dX3_size_2 (by decide) ?_
  refine lv_istore_n (lv' := [(2, .int (0 : Int32)), (1, .int (0 : Int32)), (0, .int i0)]) hx hb dX3_size_3 rfl hl (by decide) rfl (fun ls hl => ?_)
  obtain ⟨w2, hw2, h⟩ := sp_b h
  refine xk_jn G A s.heap ([] : va_W) 3 [(1, .int w2)] 24 [] (fun H locs hP hD hS ls hl => ?_) (fun J1 => ?_)
  · refine lv_iload_n hx hb dX3_size_24 rfl (lv_at hl 0 rfl) ?_
    obtain rfl := sp_s h
    exact xk_reI hx hb hr hlk hP hD hS rfl dX3_size_25
  · have h := hw2
    clear hw2
    refine xk_lp (α := Int32 × Int32) G A s.heap (fun a_1 => ([] : va_W)) 3 (fun a_1 => [(2, .int a_1.1), (1, .int a_1.2), (0, .int i0)]) 4 (fun n a_1 => f_X3_size_l4 i0 n a_1.1 a_1.2 = some w2) (fun a_1 h => ?_) (fun n ih_1 a_1 h H locs hP hD hS ls hl => ?_) (fun LL => ?_)
    · exact sp_n ((f_X3_size_l4_z _ _ _).symm.trans h)
    · obtain ⟨x2_1, x1_1⟩ := a_1
      have h := (f_X3_size_l4_s i0 n x2_1 x1_1).symm.trans h
      have hP : va_P G.1 vwCl ([] : va_W) H := hP
      have hD : va_D A ([] : va_W) := hD
      have hl : lv_has ls 3 [(2, .int x2_1), (1, .int x1_1), (0, .int i0)] := hl
      refine lv_iload_n hx hb dX3_size_4 rfl (lv_at hl 0 rfl) ?_
      refine lv_bipush (v := (12 : Int32)) hx hb dX3_size_5 (by decide) ?_
      refine lv_icmp_ge (tgt := 24) hx hb dX3_size_7 (by decide) (fun c3 => ?_) (fun c3 => ?_)
      · have h := sp_t c3 h
        obtain rfl := sp_s h
        exact J1 _ _ hP hD hS _ (lv_sub hl [1] rfl)
      · have h := sp_f c3 h
        refine lv_iload_n hx hb dX3_size_10 rfl (lv_at hl 1 rfl) ?_
        refine lv_iload_n hx hb dX3_size_11 rfl (lv_at hl 2 rfl) ?_
        refine lv_iload_n hx hb dX3_size_12 rfl (lv_at hl 0 rfl) ?_
        refine lv_ishr hx hb dX3_size_13 ?_
        refine lv_iconst (v := (1 : Int32)) hx hb dX3_size_14 (by decide) ?_
        refine lv_iand hx hb dX3_size_15 ?_
        refine lv_iadd hx hb dX3_size_16 ?_
        refine lv_istore_n (lv' := [(1, .int (x1_1 + ((i0 >>> (x2_1 &&& 31)) &&& (1 : Int32)))), (2, .int x2_1), (0, .int i0)]) hx hb dX3_size_17 rfl hl (by decide) rfl (fun ls hl => ?_)
        refine lv_iinc (v := (x2_1 + (1 : Int32))) (lv' := [(2, .int (x2_1 + (1 : Int32))), (1, .int (x1_1 + ((i0 >>> (x2_1 &&& 31)) &&& (1 : Int32)))), (0, .int i0)]) hx hb dX3_size_18 hl (k := 1) rfl rfl (by decide) rfl (fun ls hl => ?_)
        refine lv_goto (tgt := 4) hx hb dX3_size_21 (by decide) ?_
        exact ih_1 ((x2_1 + (1 : Int32)), (x1_1 + ((i0 >>> (x2_1 &&& 31)) &&& (1 : Int32)))) h _ _ hP hD hS _ (lv_sub hl [0, 1, 2] rfl)
    · exact LL 300 ((0 : Int32), (0 : Int32)) h _ _ hP hD hS _ (lv_sub hl [0, 1, 2] rfl)
def f_X3_aim (zz : xMO) (i1 : Int32) (i2 : Int32) (i3 : Int32) (i4 : Int32) : Option (Int32 × Int32 × xF × xF × xF × xF × xF × Int32) :=
  Option.bind (f_X3_isIn i1 (1 : Int32) (5 : Int32)) fun (o1 : Int32) =>
  Option.bind (
    if o1 = 0 then
      some (0 : Int32)
    else
      Option.bind (f_X3_isIn i2 (0 : Int32) (3 : Int32)) fun (o10 : Int32) =>
      if o10 = 0 then
        some (0 : Int32)
      else
        Option.bind (f_X3_isIn i3 (1 : Int32) (99 : Int32)) fun (o12 : Int32) =>
        if o12 = 0 then
          some (0 : Int32)
        else
          Option.bind (f_X3_isIn i4 ((-1) : Int32) (2 : Int32)) fun (o14 : Int32) =>
          if o14 = 0 then
            some (0 : Int32)
          else
            some (1 : Int32)) fun (v2 : Int32) =>
  Option.bind (
    if v2 = 0 then
      some (1 : Int32)
    else
      if zz.1 = (12 : Int32) then
        some (2 : Int32)
      else
        some (0 : Int32)) fun (v3 : Int32) =>
  Option.bind (f_X3_can (zz.1, zz.2.1, zz.2.2.1, zz.2.2.2.1, zz.2.2.2.2.1, zz.2.2.2.2.2.1, zz.2.2.2.2.2.2.1, zz.2.2.2.2.2.2.2.1, zz.2.2.2.2.2.2.2.2.1, zz.2.2.2.2.2.2.2.2.2.1, zz.2.2.2.2.2.2.2.2.2.2.1, zz.2.2.2.2.2.2.2.2.2.2.2.1, zz.2.2.2.2.2.2.2.2.2.2.2.2.1, zz.2.2.2.2.2.2.2.2.2.2.2.2.2.1, zz.2.2.2.2.2.2.2.2.2.2.2.2.2.2.1, zz.2.2.2.2.2.2.2.2.2.2.2.2.2.2.2.1, zz.2.2.2.2.2.2.2.2.2.2.2.2.2.2.2.2.1, zz.2.2.2.2.2.2.2.2.2.2.2.2.2.2.2.2.2) v3) fun (o4 : Int32 × Int32) =>
  if o4.1 = 0 then
    some ((0 : Int32), zz.1, zz.2.1, zz.2.2.1, zz.2.2.2.1, zz.2.2.2.2.1, zz.2.2.2.2.2.2.2.1, o4.2)
  else
    if zz.1 < 0 ∨ 12 ≤ zz.1.toNatClampNeg then none else
    some (((zz.1 + (1 : Int32)) - (1 : Int32)), (zz.1 + (1 : Int32)), (upd zz.2.1 zz.1.toNatClampNeg i1), (upd zz.2.2.1 zz.1.toNatClampNeg i2), (upd zz.2.2.2.1 zz.1.toNatClampNeg i3), (upd zz.2.2.2.2.1 zz.1.toNatClampNeg i4), (upd zz.2.2.2.2.2.2.2.1 zz.1.toNatClampNeg (1 : Int32)), o4.2)
theorem f_X3_aim_e (zz_0 : Int32) (zz_1 : xF) (zz_2 : xF) (zz_3 : xF) (zz_4 : xF) (zz_5 : xF) (zz_6 : xF) (zz_7 : xF) (zz_8 : xF) (zz_9 : xF) (zz_10 : xF) (zz_11 : xF) (zz_12 : xF) (zz_13 : xF) (zz_14 : xF) (zz_15 : xF) (zz_16 : Int32) (zz_17 : Int32) (i1 : Int32) (i2 : Int32) (i3 : Int32) (i4 : Int32) : f_X3_aim (zz_0, zz_1, zz_2, zz_3, zz_4, zz_5, zz_6, zz_7, zz_8, zz_9, zz_10, zz_11, zz_12, zz_13, zz_14, zz_15, zz_16, zz_17) i1 i2 i3 i4 =
  Option.bind (f_X3_isIn i1 (1 : Int32) (5 : Int32)) fun (o1 : Int32) =>
  Option.bind (
    if o1 = 0 then
      some (0 : Int32)
    else
      Option.bind (f_X3_isIn i2 (0 : Int32) (3 : Int32)) fun (o10 : Int32) =>
      if o10 = 0 then
        some (0 : Int32)
      else
        Option.bind (f_X3_isIn i3 (1 : Int32) (99 : Int32)) fun (o12 : Int32) =>
        if o12 = 0 then
          some (0 : Int32)
        else
          Option.bind (f_X3_isIn i4 ((-1) : Int32) (2 : Int32)) fun (o14 : Int32) =>
          if o14 = 0 then
            some (0 : Int32)
          else
            some (1 : Int32)) fun (v2 : Int32) =>
  Option.bind (
    if v2 = 0 then
      some (1 : Int32)
    else
      if zz_0 = (12 : Int32) then
        some (2 : Int32)
      else
        some (0 : Int32)) fun (v3 : Int32) =>
  Option.bind (f_X3_can (zz_0, zz_1, zz_2, zz_3, zz_4, zz_5, zz_6, zz_7, zz_8, zz_9, zz_10, zz_11, zz_12, zz_13, zz_14, zz_15, zz_16, zz_17) v3) fun (o4 : Int32 × Int32) =>
  if o4.1 = 0 then
    some ((0 : Int32), zz_0, zz_1, zz_2, zz_3, zz_4, zz_7, o4.2)
  else
    if zz_0 < 0 ∨ 12 ≤ zz_0.toNatClampNeg then none else
    some (((zz_0 + (1 : Int32)) - (1 : Int32)), (zz_0 + (1 : Int32)), (upd zz_1 zz_0.toNatClampNeg i1), (upd zz_2 zz_0.toNatClampNeg i2), (upd zz_3 zz_0.toNatClampNeg i3), (upd zz_4 zz_0.toNatClampNeg i4), (upd zz_7 zz_0.toNatClampNeg (1 : Int32)), o4.2) := rfl
set_option maxHeartbeats 4000000 in
set_option maxRecDepth 100000 in
theorem c_X3_aim (l : Launch) (G : xG) (za : (Nat → Nat)) (zz : xMO) (i1 : Int32) (i2 : Int32) (i3 : Int32) (i4 : Int32) (o : Int32 × Int32 × xF × xF × xF × xF × xF × Int32) (h : f_X3_aim zz i1 i2 i3 i4 = some o) : xk_CI l yX3_aim wsX3_aim ({ frames := 1, cells := 0, slots := 0, locals := 22 } : Room) 0 0 [.ref (za 0), .int i1, .int i2, .int i3, .int i4] G (wMOc G za zz.1 zz.2.1 zz.2.2.1 zz.2.2.2.1 zz.2.2.2.2.1 zz.2.2.2.2.2.1 zz.2.2.2.2.2.2.1 zz.2.2.2.2.2.2.2.1 zz.2.2.2.2.2.2.2.2.1 zz.2.2.2.2.2.2.2.2.2.1 zz.2.2.2.2.2.2.2.2.2.2.1 zz.2.2.2.2.2.2.2.2.2.2.2.1 zz.2.2.2.2.2.2.2.2.2.2.2.2.1 zz.2.2.2.2.2.2.2.2.2.2.2.2.2.1 zz.2.2.2.2.2.2.2.2.2.2.2.2.2.2.1 zz.2.2.2.2.2.2.2.2.2.2.2.2.2.2.2.1 zz.2.2.2.2.2.2.2.2.2.2.2.2.2.2.2.2.1 zz.2.2.2.2.2.2.2.2.2.2.2.2.2.2.2.2.2) (wMOc G za o.2.1 o.2.2.1 o.2.2.2.1 o.2.2.2.2.1 o.2.2.2.2.2.1 zz.2.2.2.2.2.1 zz.2.2.2.2.2.2.1 o.2.2.2.2.2.2.1 zz.2.2.2.2.2.2.2.2.1 zz.2.2.2.2.2.2.2.2.2.1 zz.2.2.2.2.2.2.2.2.2.2.1 zz.2.2.2.2.2.2.2.2.2.2.2.1 zz.2.2.2.2.2.2.2.2.2.2.2.2.1 zz.2.2.2.2.2.2.2.2.2.2.2.2.2.1 zz.2.2.2.2.2.2.2.2.2.2.2.2.2.2.1 zz.2.2.2.2.2.2.2.2.2.2.2.2.2.2.2.1 zz.2.2.2.2.2.2.2.2.2.2.2.2.2.2.2.2.1 o.2.2.2.2.2.2.2) o.1 := by
  obtain ⟨zz_0, zz_1, zz_2, zz_3, zz_4, zz_5, zz_6, zz_7, zz_8, zz_9, zz_10, zz_11, zz_12, zz_13, zz_14, zz_15, zz_16, zz_17⟩ := zz
  refine xk_CI.of (cc := cX3_aim) (maxL := 6) (ret := (some .int)) (by decide) rfl (Nat.le_of_ble_eq_true rfl) ?_
  intro pr9 en9 s mm9 bl9 meth9 cd9 A ls H locs hx hb hr hml hts hown hlk hA hP hK hD hNE hS hl
  have hown : s.vm.findClass RX3 = some mm9.cls := hown
  have hl : lv_has ls 6 [(0, .ref (za 0)), (1, .int i1), (2, .int i2), (3, .int i3), (4, .int i4)] := hl
  have hinX3 : ∀ w ∈ u_ws RX3 TX3 18, w ∈ wsX3_aim := by decide +kernel
  have hP : va_P G.1 vwCl (wMOc G za zz_0 zz_1 zz_2 zz_3 zz_4 zz_5 zz_6 zz_7 zz_8 zz_9 zz_10 zz_11 zz_12 zz_13 zz_14 zz_15 zz_16 zz_17) H := hP
  have hD : va_D A (wMOc G za zz_0 zz_1 zz_2 zz_3 zz_4 zz_5 zz_6 zz_7 zz_8 zz_9 zz_10 zz_11 zz_12 zz_13 zz_14 zz_15 zz_16 zz_17) := hD
  have h := (f_X3_aim_e zz_0 zz_1 zz_2 zz_3 zz_4 zz_5 zz_6 zz_7 zz_8 zz_9 zz_10 zz_11 zz_12 zz_13 zz_14 zz_15 zz_16 zz_17 i1 i2 i3 i4).symm.trans h
  refine lv_iload_n hx hb dX3_aim_0 rfl (lv_at hl 1 rfl) ?_
  refine lv_iconst (v := (1 : Int32)) hx hb dX3_aim_1 (by decide) ?_
  refine lv_iconst (v := (5 : Int32)) hx hb dX3_aim_2 (by decide) ?_
  obtain ⟨o1, ho1, h⟩ := sp_b h
  refine xk_ci (va_runS (As := [.int i1, .int (1 : Int32), .int (5 : Int32)]) (rest := []) ⟨hx, hb, hml, hown, hts⟩ (c_X3_isIn l G i1 (1 : Int32) (5 : Int32) o1 ho1 H.size) (va_cwS 3 hts gX3_aim_X3_isIn rfl rfl rfl (by decide +kernel) ⟨Nat.le_of_ble_eq_true rfl, Nat.le_of_ble_eq_true rfl⟩) (xk_preS hK hNE (hP.sub (ws' := []) [] rfl) (hD.sub (ws' := []) [] (by decide) rfl)) rfl rfl hl.1 rfl (lv_room (Nat.le_of_ble_eq_true rfl)) dX3_aim_3 ⟨Nat.le_of_ble_eq_true rfl, Nat.le_of_ble_eq_true rfl⟩) hP hD hS hA [] [0, 1, 2, 3, 4, 5, 6, 7, 8, 9, 10, 11, 12, 13, 14, 15] [0, 1, 2, 3, 4, 5, 6, 7, 8, 9, 10, 11, 12, 13, 14, 15] rfl rfl (by decide) (by decide) rfl (by decide) (fun H locs hP hD hS => ?_)
  have hP : va_P G.1 vwCl (wMOc G za zz_0 zz_1 zz_2 zz_3 zz_4 zz_5 zz_6 zz_7 zz_8 zz_9 zz_10 zz_11 zz_12 zz_13 zz_14 zz_15 zz_16 zz_17) H := hP
  have hD : va_D A (wMOc G za zz_0 zz_1 zz_2 zz_3 zz_4 zz_5 zz_6 zz_7 zz_8 zz_9 zz_10 zz_11 zz_12 zz_13 zz_14 zz_15 zz_16 zz_17) := hD
  obtain ⟨v2, hv2, h⟩ := sp_b h
  refine xk_jn G A s.heap (wMOc G za zz_0 zz_1 zz_2 zz_3 zz_4 zz_5 zz_6 zz_7 zz_8 zz_9 zz_10 zz_11 zz_12 zz_13 zz_14 zz_15 zz_16 zz_17) 6 [(0, .ref (za 0)), (1, .int i1), (2, .int i2), (3, .int i3), (4, .int i4)] 43 [.int v2] (fun H locs hP hD hS ls hl => ?_) (fun J2 => ?_)
  · refine lv_istore (lv' := [(5, .int v2), (0, .ref (za 0)), (1, .int i1), (2, .int i2), (3, .int i3), (4, .int i4)]) hx hb dX3_aim_43 hl (by decide) rfl (fun ls hl => ?_)
    refine lv_aload_n hx hb dX3_aim_45 rfl (lv_at hl 1 rfl) ?_
    refine lv_iload hx hb dX3_aim_46 (lv_at hl 0 rfl) ?_
    obtain ⟨v3, hv3, h⟩ := sp_b h
    refine xk_jn G A s.heap (wMOc G za zz_0 zz_1 zz_2 zz_3 zz_4 zz_5 zz_6 zz_7 zz_8 zz_9 zz_10 zz_11 zz_12 zz_13 zz_14 zz_15 zz_16 zz_17) 6 [(0, .ref (za 0)), (1, .int i1), (2, .int i2), (3, .int i3), (4, .int i4)] 69 [.int v3, .ref (za 0)] (fun H locs hP hD hS ls hl => ?_) (fun J3 => ?_)
    · obtain ⟨o4, ho4, h⟩ := sp_b h
      refine xk_ci (va_runV (As := [.int v3]) (rest := []) ⟨hx, hb, hml, hown, hts⟩ (c_X3_can l G za (zz_0, zz_1, zz_2, zz_3, zz_4, zz_5, zz_6, zz_7, zz_8, zz_9, zz_10, zz_11, zz_12, zz_13, zz_14, zz_15, zz_16, zz_17) v3 o4 ho4 H.size) (cwV 1 hts gX3_aim_X3_can rfl rfl rfl (by decide +kernel) ⟨Nat.le_of_ble_eq_true rfl, Nat.le_of_ble_eq_true rfl⟩) (xk_preV hK hNE (hP.sub (ws' := (wMOc G za zz_0 zz_1 zz_2 zz_3 zz_4 zz_5 zz_6 zz_7 zz_8 zz_9 zz_10 zz_11 zz_12 zz_13 zz_14 zz_15 zz_16 zz_17)) [0, 1, 2, 3, 4, 5, 6, 7, 8, 9, 10, 11, 12, 13, 14, 15] rfl) (hD.sub (ws' := (wMOc G za zz_0 zz_1 zz_2 zz_3 zz_4 zz_5 zz_6 zz_7 zz_8 zz_9 zz_10 zz_11 zz_12 zz_13 zz_14 zz_15 zz_16 zz_17)) [0, 1, 2, 3, 4, 5, 6, 7, 8, 9, 10, 11, 12, 13, 14, 15] (by decide) rfl) (ci := 3) rfl rfl) rfl rfl hl.1 rfl (lv_room (Nat.le_of_ble_eq_true rfl)) dX3_aim_69 ⟨Nat.le_of_ble_eq_true rfl, Nat.le_of_ble_eq_true rfl⟩) hP hD hS hA [0, 1, 2, 3, 4, 5, 6, 7, 8, 9, 10, 11, 12, 13, 14, 15] [] [0, 1, 2, 3, 4, 5, 6, 7, 8, 9, 10, 11, 12, 13, 14, 15] rfl rfl (by decide) (by decide) rfl (by decide) (fun H locs hP hD hS => ?_)
      have hP : va_P G.1 vwCl (wMOc G za zz_0 zz_1 zz_2 zz_3 zz_4 zz_5 zz_6 zz_7 zz_8 zz_9 zz_10 zz_11 zz_12 zz_13 zz_14 zz_15 zz_16 o4.2) H := hP
      have hD : va_D A (wMOc G za zz_0 zz_1 zz_2 zz_3 zz_4 zz_5 zz_6 zz_7 zz_8 zz_9 zz_10 zz_11 zz_12 zz_13 zz_14 zz_15 zz_16 o4.2) := hD
      refine lv_if_ne (tgt := 77) hx hb dX3_aim_72 (by decide) (fun c5 => ?_) (fun c5 => ?_)
      · have h := sp_f c5 h
        refine lv_aload_n hx hb dX3_aim_77 rfl (lv_at hl 0 rfl) ?_
        refine va_get (D := G.1) (ci := 3) (v := .ref (za 1)) (C := RX3) (T := TX3) (N := 18) hx hb hts hinX3 hown hK hP 0 rfl rfl 1 (by decide) (hts (.fieldLink RX3 7 "LessonWeaveModel" "lessons" "[I") (by decide +kernel)) (fun _ h9 => h9) rfl dX3_aim_78 ?_
        refine lv_aload_n hx hb dX3_aim_81 rfl (lv_at hl 0 rfl) ?_
        refine va_get (D := G.1) (ci := 3) (v := .int zz_0) (C := RX3) (T := TX3) (N := 18) hx hb hts hinX3 hown hK hP 0 rfl rfl 0 (by decide) (hts (.fieldLink RX3 60 "LessonWeaveModel" "aims" "I") (by decide +kernel)) (fun _ h9 => h9) rfl dX3_aim_82 ?_
        refine lv_iload_n hx hb dX3_aim_85 rfl (lv_at hl 1 rfl) ?_
        obtain ⟨hin6, h⟩ := sp_g h
        refine va_iast hx hb hK hP hD hS 1 0 rfl rfl hin6 dX3_aim_86 (fun H locs hP hD hS => ?_)
        have hP : va_P G.1 vwCl (wMOc G za zz_0 (upd zz_1 zz_0.toNatClampNeg i1) zz_2 zz_3 zz_4 zz_5 zz_6 zz_7 zz_8 zz_9 zz_10 zz_11 zz_12 zz_13 zz_14 zz_15 zz_16 o4.2) H := hP
        have hD : va_D A (wMOc G za zz_0 (upd zz_1 zz_0.toNatClampNeg i1) zz_2 zz_3 zz_4 zz_5 zz_6 zz_7 zz_8 zz_9 zz_10 zz_11 zz_12 zz_13 zz_14 zz_15 zz_16 o4.2) := hD
        refine lv_aload_n hx hb dX3_aim_87 rfl (lv_at hl 0 rfl) ?_
        refine va_get (D := G.1) (ci := 3) (v := .ref (za 2)) (C := RX3) (T := TX3) (N := 18) hx hb hts hinX3 hown hK hP 0 rfl rfl 2 (by decide) (hts (.fieldLink RX3 13 "LessonWeaveModel" "kind" "[I") (by decide +kernel)) (fun _ h9 => h9) rfl dX3_aim_88 ?_
        refine lv_aload_n hx hb dX3_aim_91 rfl (lv_at hl 0 rfl) ?_
        refine va_get (D := G.1) (ci := 3) (v := .int zz_0) (C := RX3) (T := TX3) (N := 18) hx hb hts hinX3 hown hK hP 0 rfl rfl 0 (by decide) (hts (.fieldLink RX3 60 "LessonWeaveModel" "aims" "I") (by decide +kernel)) (fun _ h9 => h9) rfl dX3_aim_92 ?_
        refine lv_iload_n hx hb dX3_aim_95 rfl (lv_at hl 2 rfl) ?_
        refine va_iast hx hb hK hP hD hS 2 0 rfl rfl hin6 dX3_aim_96 (fun H locs hP hD hS => ?_)
        have hP : va_P G.1 vwCl (wMOc G za zz_0 (upd zz_1 zz_0.toNatClampNeg i1) (upd zz_2 zz_0.toNatClampNeg i2) zz_3 zz_4 zz_5 zz_6 zz_7 zz_8 zz_9 zz_10 zz_11 zz_12 zz_13 zz_14 zz_15 zz_16 o4.2) H := hP
        have hD : va_D A (wMOc G za zz_0 (upd zz_1 zz_0.toNatClampNeg i1) (upd zz_2 zz_0.toNatClampNeg i2) zz_3 zz_4 zz_5 zz_6 zz_7 zz_8 zz_9 zz_10 zz_11 zz_12 zz_13 zz_14 zz_15 zz_16 o4.2) := hD
        refine lv_aload_n hx hb dX3_aim_97 rfl (lv_at hl 0 rfl) ?_
        refine va_get (D := G.1) (ci := 3) (v := .ref (za 3)) (C := RX3) (T := TX3) (N := 18) hx hb hts hinX3 hown hK hP 0 rfl rfl 3 (by decide) (hts (.fieldLink RX3 16 "LessonWeaveModel" "worth" "[I") (by decide +kernel)) (fun _ h9 => h9) rfl dX3_aim_98 ?_
        refine lv_aload_n hx hb dX3_aim_101 rfl (lv_at hl 0 rfl) ?_
        refine va_get (D := G.1) (ci := 3) (v := .int zz_0) (C := RX3) (T := TX3) (N := 18) hx hb hts hinX3 hown hK hP 0 rfl rfl 0 (by decide) (hts (.fieldLink RX3 60 "LessonWeaveModel" "aims" "I") (by decide +kernel)) (fun _ h9 => h9) rfl dX3_aim_102 ?_
        refine lv_iload_n hx hb dX3_aim_105 rfl (lv_at hl 3 rfl) ?_
        refine va_iast hx hb hK hP hD hS 3 0 rfl rfl hin6 dX3_aim_106 (fun H locs hP hD hS => ?_)
        have hP : va_P G.1 vwCl (wMOc G za zz_0 (upd zz_1 zz_0.toNatClampNeg i1) (upd zz_2 zz_0.toNatClampNeg i2) (upd zz_3 zz_0.toNatClampNeg i3) zz_4 zz_5 zz_6 zz_7 zz_8 zz_9 zz_10 zz_11 zz_12 zz_13 zz_14 zz_15 zz_16 o4.2) H := hP
        have hD : va_D A (wMOc G za zz_0 (upd zz_1 zz_0.toNatClampNeg i1) (upd zz_2 zz_0.toNatClampNeg i2) (upd zz_3 zz_0.toNatClampNeg i3) zz_4 zz_5 zz_6 zz_7 zz_8 zz_9 zz_10 zz_11 zz_12 zz_13 zz_14 zz_15 zz_16 o4.2) := hD
        refine lv_aload_n hx hb dX3_aim_107 rfl (lv_at hl 0 rfl) ?_
        refine va_get (D := G.1) (ci := 3) (v := .ref (za 4)) (C := RX3) (T := TX3) (N := 18) hx hb hts hinX3 hown hK hP 0 rfl rfl 4 (by decide) (hts (.fieldLink RX3 19 "LessonWeaveModel" "kit" "[I") (by decide +kernel)) (fun _ h9 => h9) rfl dX3_aim_108 ?_
        refine lv_aload_n hx hb dX3_aim_111 rfl (lv_at hl 0 rfl) ?_
        refine va_get (D := G.1) (ci := 3) (v := .int zz_0) (C := RX3) (T := TX3) (N := 18) hx hb hts hinX3 hown hK hP 0 rfl rfl 0 (by decide) (hts (.fieldLink RX3 60 "LessonWeaveModel" "aims" "I") (by decide +kernel)) (fun _ h9 => h9) rfl dX3_aim_112 ?_
        refine lv_iload hx hb dX3_aim_115 (lv_at hl 4 rfl) ?_
        refine va_iast hx hb hK hP hD hS 4 0 rfl rfl hin6 dX3_aim_117 (fun H locs hP hD hS => ?_)
        have hP : va_P G.1 vwCl (wMOc G za zz_0 (upd zz_1 zz_0.toNatClampNeg i1) (upd zz_2 zz_0.toNatClampNeg i2) (upd zz_3 zz_0.toNatClampNeg i3) (upd zz_4 zz_0.toNatClampNeg i4) zz_5 zz_6 zz_7 zz_8 zz_9 zz_10 zz_11 zz_12 zz_13 zz_14 zz_15 zz_16 o4.2) H := hP
        have hD : va_D A (wMOc G za zz_0 (upd zz_1 zz_0.toNatClampNeg i1) (upd zz_2 zz_0.toNatClampNeg i2) (upd zz_3 zz_0.toNatClampNeg i3) (upd zz_4 zz_0.toNatClampNeg i4) zz_5 zz_6 zz_7 zz_8 zz_9 zz_10 zz_11 zz_12 zz_13 zz_14 zz_15 zz_16 o4.2) := hD
        refine lv_aload_n hx hb dX3_aim_118 rfl (lv_at hl 0 rfl) ?_
        refine va_get (D := G.1) (ci := 3) (v := .ref (za 7)) (C := RX3) (T := TX3) (N := 18) hx hb hts hinX3 hown hK hP 0 rfl rfl 7 (by decide) (hts (.fieldLink RX3 28 "LessonWeaveModel" "gap" "[I") (by decide +kernel)) (fun _ h9 => h9) rfl dX3_aim_119 ?_
        refine lv_aload_n hx hb dX3_aim_122 rfl (lv_at hl 0 rfl) ?_
        refine va_get (D := G.1) (ci := 3) (v := .int zz_0) (C := RX3) (T := TX3) (N := 18) hx hb hts hinX3 hown hK hP 0 rfl rfl 0 (by decide) (hts (.fieldLink RX3 60 "LessonWeaveModel" "aims" "I") (by decide +kernel)) (fun _ h9 => h9) rfl dX3_aim_123 ?_
        refine lv_iconst (v := (1 : Int32)) hx hb dX3_aim_126 (by decide) ?_
        refine va_iast hx hb hK hP hD hS 7 0 rfl rfl hin6 dX3_aim_127 (fun H locs hP hD hS => ?_)
        have hP : va_P G.1 vwCl (wMOc G za zz_0 (upd zz_1 zz_0.toNatClampNeg i1) (upd zz_2 zz_0.toNatClampNeg i2) (upd zz_3 zz_0.toNatClampNeg i3) (upd zz_4 zz_0.toNatClampNeg i4) zz_5 zz_6 (upd zz_7 zz_0.toNatClampNeg (1 : Int32)) zz_8 zz_9 zz_10 zz_11 zz_12 zz_13 zz_14 zz_15 zz_16 o4.2) H := hP
        have hD : va_D A (wMOc G za zz_0 (upd zz_1 zz_0.toNatClampNeg i1) (upd zz_2 zz_0.toNatClampNeg i2) (upd zz_3 zz_0.toNatClampNeg i3) (upd zz_4 zz_0.toNatClampNeg i4) zz_5 zz_6 (upd zz_7 zz_0.toNatClampNeg (1 : Int32)) zz_8 zz_9 zz_10 zz_11 zz_12 zz_13 zz_14 zz_15 zz_16 o4.2) := hD
        refine lv_aload_n hx hb dX3_aim_128 rfl (lv_at hl 0 rfl) ?_
        refine lv_dup hx hb dX3_aim_129 rfl ?_
        refine va_get (D := G.1) (ci := 3) (v := .int zz_0) (C := RX3) (T := TX3) (N := 18) hx hb hts hinX3 hown hK hP 0 rfl rfl 0 (by decide) (hts (.fieldLink RX3 60 "LessonWeaveModel" "aims" "I") (by decide +kernel)) (fun _ h9 => h9) rfl dX3_aim_130 ?_
        refine lv_iconst (v := (1 : Int32)) hx hb dX3_aim_133 (by decide) ?_
        refine lv_iadd hx hb dX3_aim_134 ?_
        refine va_put (D := G.1) (ci := 3) (v := .int (zz_0 + (1 : Int32))) (ty := .int) (C := RX3) (T := TX3) (N := 18) hx hb hts hinX3 tyX3 tyX3_ok nmX3 hown hK hP hD hS 0 rfl rfl 0 (by decide) (hts (.fieldLink RX3 60 "LessonWeaveModel" "aims" "I") (by decide +kernel)) (fun _ h9 => h9) rfl (by decide +kernel) rfl rfl (Nat.le_of_ble_eq_true rfl) dX3_aim_135 (fun H locs hP hD hS => ?_)
        have hP : va_P G.1 vwCl (wMOc G za (zz_0 + (1 : Int32)) (upd zz_1 zz_0.toNatClampNeg i1) (upd zz_2 zz_0.toNatClampNeg i2) (upd zz_3 zz_0.toNatClampNeg i3) (upd zz_4 zz_0.toNatClampNeg i4) zz_5 zz_6 (upd zz_7 zz_0.toNatClampNeg (1 : Int32)) zz_8 zz_9 zz_10 zz_11 zz_12 zz_13 zz_14 zz_15 zz_16 o4.2) H := hP
        have hD : va_D A (wMOc G za (zz_0 + (1 : Int32)) (upd zz_1 zz_0.toNatClampNeg i1) (upd zz_2 zz_0.toNatClampNeg i2) (upd zz_3 zz_0.toNatClampNeg i3) (upd zz_4 zz_0.toNatClampNeg i4) zz_5 zz_6 (upd zz_7 zz_0.toNatClampNeg (1 : Int32)) zz_8 zz_9 zz_10 zz_11 zz_12 zz_13 zz_14 zz_15 zz_16 o4.2) := hD
        refine lv_aload_n hx hb dX3_aim_138 rfl (lv_at hl 0 rfl) ?_
        refine va_get (D := G.1) (ci := 3) (v := .int (zz_0 + (1 : Int32))) (C := RX3) (T := TX3) (N := 18) hx hb hts hinX3 hown hK hP 0 rfl rfl 0 (by decide) (hts (.fieldLink RX3 60 "LessonWeaveModel" "aims" "I") (by decide +kernel)) (fun _ h9 => h9) rfl dX3_aim_139 ?_
        refine lv_iconst (v := (1 : Int32)) hx hb dX3_aim_142 (by decide) ?_
        refine lv_isub hx hb dX3_aim_143 ?_
        obtain rfl := sp_s h
        exact xk_reI hx hb hr hlk hP hD hS rfl dX3_aim_144
      · have h := sp_t c5 h
        refine lv_iconst (v := (0 : Int32)) hx hb dX3_aim_75 (by decide) ?_
        obtain rfl := sp_s h
        exact xk_reI hx hb hr hlk hP hD hS rfl dX3_aim_76
    · have h := hv3
      clear hv3
      refine lv_if_ne (tgt := 55) hx hb dX3_aim_48 (by decide) (fun c7 => ?_) (fun c7 => ?_)
      · have h := sp_f c7 h
        refine lv_aload_n hx hb dX3_aim_55 rfl (lv_at hl 1 rfl) ?_
        refine va_get (D := G.1) (ci := 3) (v := .int zz_0) (C := RX3) (T := TX3) (N := 18) hx hb hts hinX3 hown hK hP 0 rfl rfl 0 (by decide) (hts (.fieldLink RX3 60 "LessonWeaveModel" "aims" "I") (by decide +kernel)) (fun _ h9 => h9) rfl dX3_aim_56 ?_
        refine lv_bipush (v := (12 : Int32)) hx hb dX3_aim_59 (by decide) ?_
        refine lv_icmp_ne (tgt := 68) hx hb dX3_aim_61 (by decide) (fun c8 => ?_) (fun c8 => ?_)
        · have h := sp_f c8 h
          refine lv_iconst (v := (0 : Int32)) hx hb dX3_aim_68 (by decide) ?_
          obtain rfl := sp_s h
          exact J3 _ _ hP hD hS _ (lv_sub hl [1, 2, 3, 4, 5] rfl)
        · have h := sp_t c8 h
          refine lv_iconst (v := (2 : Int32)) hx hb dX3_aim_64 (by decide) ?_
          refine lv_goto (tgt := 69) hx hb dX3_aim_65 (by decide) ?_
          obtain rfl := sp_s h
          exact J3 _ _ hP hD hS _ (lv_sub hl [1, 2, 3, 4, 5] rfl)
      · have h := sp_t c7 h
        refine lv_iconst (v := (1 : Int32)) hx hb dX3_aim_51 (by decide) ?_
        refine lv_goto (tgt := 69) hx hb dX3_aim_52 (by decide) ?_
        obtain rfl := sp_s h
        exact J3 _ _ hP hD hS _ (lv_sub hl [1, 2, 3, 4, 5] rfl)
  · have h := hv2
    clear hv2
    refine lv_if_eq (tgt := 42) hx hb dX3_aim_6 (by decide) (fun c9 => ?_) (fun c9 => ?_)
    · have h := sp_t c9 h
      refine lv_iconst (v := (0 : Int32)) hx hb dX3_aim_42 (by decide) ?_
      obtain rfl := sp_s h
      exact J2 _ _ hP hD hS _ (lv_sub hl [0, 1, 2, 3, 4] rfl)
    · have h := sp_f c9 h
      refine lv_iload_n hx hb dX3_aim_9 rfl (lv_at hl 2 rfl) ?_
      refine lv_iconst (v := (0 : Int32)) hx hb dX3_aim_10 (by decide) ?_
      refine lv_iconst (v := (3 : Int32)) hx hb dX3_aim_11 (by decide) ?_
      obtain ⟨o10, ho10, h⟩ := sp_b h
      refine xk_ci (va_runS (As := [.int i2, .int (0 : Int32), .int (3 : Int32)]) (rest := []) ⟨hx, hb, hml, hown, hts⟩ (c_X3_isIn l G i2 (0 : Int32) (3 : Int32) o10 ho10 H.size) (va_cwS 3 hts gX3_aim_X3_isIn rfl rfl rfl (by decide +kernel) ⟨Nat.le_of_ble_eq_true rfl, Nat.le_of_ble_eq_true rfl⟩) (xk_preS hK hNE (hP.sub (ws' := []) [] rfl) (hD.sub (ws' := []) [] (by decide) rfl)) rfl rfl hl.1 rfl (lv_room (Nat.le_of_ble_eq_true rfl)) dX3_aim_12 ⟨Nat.le_of_ble_eq_true rfl, Nat.le_of_ble_eq_true rfl⟩) hP hD hS hA [] [0, 1, 2, 3, 4, 5, 6, 7, 8, 9, 10, 11, 12, 13, 14, 15] [0, 1, 2, 3, 4, 5, 6, 7, 8, 9, 10, 11, 12, 13, 14, 15] rfl rfl (by decide) (by decide) rfl (by decide) (fun H locs hP hD hS => ?_)
      have hP : va_P G.1 vwCl (wMOc G za zz_0 zz_1 zz_2 zz_3 zz_4 zz_5 zz_6 zz_7 zz_8 zz_9 zz_10 zz_11 zz_12 zz_13 zz_14 zz_15 zz_16 zz_17) H := hP
      have hD : va_D A (wMOc G za zz_0 zz_1 zz_2 zz_3 zz_4 zz_5 zz_6 zz_7 zz_8 zz_9 zz_10 zz_11 zz_12 zz_13 zz_14 zz_15 zz_16 zz_17) := hD
      refine lv_if_eq (tgt := 42) hx hb dX3_aim_15 (by decide) (fun c11 => ?_) (fun c11 => ?_)
      · have h := sp_t c11 h
        refine lv_iconst (v := (0 : Int32)) hx hb dX3_aim_42 (by decide) ?_
        obtain rfl := sp_s h
        exact J2 _ _ hP hD hS _ (lv_sub hl [0, 1, 2, 3, 4] rfl)
      · have h := sp_f c11 h
        refine lv_iload_n hx hb dX3_aim_18 rfl (lv_at hl 3 rfl) ?_
        refine lv_iconst (v := (1 : Int32)) hx hb dX3_aim_19 (by decide) ?_
        refine lv_bipush (v := (99 : Int32)) hx hb dX3_aim_20 (by decide) ?_
        obtain ⟨o12, ho12, h⟩ := sp_b h
        refine xk_ci (va_runS (As := [.int i3, .int (1 : Int32), .int (99 : Int32)]) (rest := []) ⟨hx, hb, hml, hown, hts⟩ (c_X3_isIn l G i3 (1 : Int32) (99 : Int32) o12 ho12 H.size) (va_cwS 3 hts gX3_aim_X3_isIn rfl rfl rfl (by decide +kernel) ⟨Nat.le_of_ble_eq_true rfl, Nat.le_of_ble_eq_true rfl⟩) (xk_preS hK hNE (hP.sub (ws' := []) [] rfl) (hD.sub (ws' := []) [] (by decide) rfl)) rfl rfl hl.1 rfl (lv_room (Nat.le_of_ble_eq_true rfl)) dX3_aim_22 ⟨Nat.le_of_ble_eq_true rfl, Nat.le_of_ble_eq_true rfl⟩) hP hD hS hA [] [0, 1, 2, 3, 4, 5, 6, 7, 8, 9, 10, 11, 12, 13, 14, 15] [0, 1, 2, 3, 4, 5, 6, 7, 8, 9, 10, 11, 12, 13, 14, 15] rfl rfl (by decide) (by decide) rfl (by decide) (fun H locs hP hD hS => ?_)
        have hP : va_P G.1 vwCl (wMOc G za zz_0 zz_1 zz_2 zz_3 zz_4 zz_5 zz_6 zz_7 zz_8 zz_9 zz_10 zz_11 zz_12 zz_13 zz_14 zz_15 zz_16 zz_17) H := hP
        have hD : va_D A (wMOc G za zz_0 zz_1 zz_2 zz_3 zz_4 zz_5 zz_6 zz_7 zz_8 zz_9 zz_10 zz_11 zz_12 zz_13 zz_14 zz_15 zz_16 zz_17) := hD
        refine lv_if_eq (tgt := 42) hx hb dX3_aim_25 (by decide) (fun c13 => ?_) (fun c13 => ?_)
        · have h := sp_t c13 h
          refine lv_iconst (v := (0 : Int32)) hx hb dX3_aim_42 (by decide) ?_
          obtain rfl := sp_s h
          exact J2 _ _ hP hD hS _ (lv_sub hl [0, 1, 2, 3, 4] rfl)
        · have h := sp_f c13 h
          refine lv_iload hx hb dX3_aim_28 (lv_at hl 4 rfl) ?_
          refine lv_iconst (v := ((-1) : Int32)) hx hb dX3_aim_30 (by decide) ?_
          refine lv_iconst (v := (2 : Int32)) hx hb dX3_aim_31 (by decide) ?_
          obtain ⟨o14, ho14, h⟩ := sp_b h
          refine xk_ci (va_runS (As := [.int i4, .int ((-1) : Int32), .int (2 : Int32)]) (rest := []) ⟨hx, hb, hml, hown, hts⟩ (c_X3_isIn l G i4 ((-1) : Int32) (2 : Int32) o14 ho14 H.size) (va_cwS 3 hts gX3_aim_X3_isIn rfl rfl rfl (by decide +kernel) ⟨Nat.le_of_ble_eq_true rfl, Nat.le_of_ble_eq_true rfl⟩) (xk_preS hK hNE (hP.sub (ws' := []) [] rfl) (hD.sub (ws' := []) [] (by decide) rfl)) rfl rfl hl.1 rfl (lv_room (Nat.le_of_ble_eq_true rfl)) dX3_aim_32 ⟨Nat.le_of_ble_eq_true rfl, Nat.le_of_ble_eq_true rfl⟩) hP hD hS hA [] [0, 1, 2, 3, 4, 5, 6, 7, 8, 9, 10, 11, 12, 13, 14, 15] [0, 1, 2, 3, 4, 5, 6, 7, 8, 9, 10, 11, 12, 13, 14, 15] rfl rfl (by decide) (by decide) rfl (by decide) (fun H locs hP hD hS => ?_)
          have hP : va_P G.1 vwCl (wMOc G za zz_0 zz_1 zz_2 zz_3 zz_4 zz_5 zz_6 zz_7 zz_8 zz_9 zz_10 zz_11 zz_12 zz_13 zz_14 zz_15 zz_16 zz_17) H := hP
          have hD : va_D A (wMOc G za zz_0 zz_1 zz_2 zz_3 zz_4 zz_5 zz_6 zz_7 zz_8 zz_9 zz_10 zz_11 zz_12 zz_13 zz_14 zz_15 zz_16 zz_17) := hD
          refine lv_if_eq (tgt := 42) hx hb dX3_aim_35 (by decide) (fun c15 => ?_) (fun c15 => ?_)
          · have h := sp_t c15 h
            refine lv_iconst (v := (0 : Int32)) hx hb dX3_aim_42 (by decide) ?_
            obtain rfl := sp_s h
            exact J2 _ _ hP hD hS _ (lv_sub hl [0, 1, 2, 3, 4] rfl)
          · have h := sp_f c15 h
            refine lv_iconst (v := (1 : Int32)) hx hb dX3_aim_38 (by decide) ?_
            refine lv_goto (tgt := 43) hx hb dX3_aim_39 (by decide) ?_
            obtain rfl := sp_s h
            exact J2 _ _ hP hD hS _ (lv_sub hl [0, 1, 2, 3, 4] rfl)
def f_X3_reached_l19 (zz_0 : Int32) (zz_5 : xF) (x2_2 : Int32) : Nat → Int32 → Int32 → Option (Int32)
  | 0, _, _ => none
  | k9 + 1, x4_5, x2_5 =>
    if zz_0 ≤ x4_5 then
      some x2_5
    else
      Option.bind (
        if ((x2_2 >>> (x4_5 &&& 31)) &&& (1 : Int32)) = (1 : Int32) then
          if x4_5 < 0 ∨ 12 ≤ x4_5.toNatClampNeg then none else
          some (zz_5 x4_5.toNatClampNeg)
        else
          some (0 : Int32)) fun (v8 : Int32) =>
      f_X3_reached_l19 zz_0 zz_5 x2_2 k9 (x4_5 + (1 : Int32)) (x2_5 ||| v8)
theorem f_X3_reached_l19_z (zz_0 : Int32) (zz_5 : xF) (x2_2 : Int32) (x4_5 : Int32) (x2_5 : Int32) : f_X3_reached_l19 zz_0 zz_5 x2_2 0 x4_5 x2_5 = none := rfl
theorem f_X3_reached_l19_s (zz_0 : Int32) (zz_5 : xF) (x2_2 : Int32) (k9 : Nat) (x4_5 : Int32) (x2_5 : Int32) : f_X3_reached_l19 zz_0 zz_5 x2_2 (k9 + 1) x4_5 x2_5 =
    if zz_0 ≤ x4_5 then
      some x2_5
    else
      Option.bind (
        if ((x2_2 >>> (x4_5 &&& 31)) &&& (1 : Int32)) = (1 : Int32) then
          if x4_5 < 0 ∨ 12 ≤ x4_5.toNatClampNeg then none else
          some (zz_5 x4_5.toNatClampNeg)
        else
          some (0 : Int32)) fun (v8 : Int32) =>
      f_X3_reached_l19 zz_0 zz_5 x2_2 k9 (x4_5 + (1 : Int32)) (x2_5 ||| v8) := rfl
def f_X3_reached_l9 (zz_0 : Int32) (zz_5 : xF) : Nat → Int32 → Int32 → Option (Int32)
  | 0, _, _ => none
  | k9 + 1, x3_2, x2_2 =>
    if x2_2 = x3_2 then
      some x2_2
    else
      Option.bind (f_X3_reached_l19 zz_0 zz_5 x2_2 300 (0 : Int32) x2_2) fun (w6 : Int32) =>
      f_X3_reached_l9 zz_0 zz_5 k9 x2_2 w6
theorem f_X3_reached_l9_z (zz_0 : Int32) (zz_5 : xF) (x3_2 : Int32) (x2_2 : Int32) : f_X3_reached_l9 zz_0 zz_5 0 x3_2 x2_2 = none := rfl
theorem f_X3_reached_l9_s (zz_0 : Int32) (zz_5 : xF) (k9 : Nat) (x3_2 : Int32) (x2_2 : Int32) : f_X3_reached_l9 zz_0 zz_5 (k9 + 1) x3_2 x2_2 =
    if x2_2 = x3_2 then
      some x2_2
    else
      Option.bind (f_X3_reached_l19 zz_0 zz_5 x2_2 300 (0 : Int32) x2_2) fun (w6 : Int32) =>
      f_X3_reached_l9 zz_0 zz_5 k9 x2_2 w6 := rfl
def f_X3_reached (zz : xMO) (i1 : Int32) : Option (Int32) :=
  if i1 < 0 ∨ 12 ≤ i1.toNatClampNeg then none else
  Option.bind (f_X3_reached_l9 zz.1 zz.2.2.2.2.2.1 14 (0 : Int32) (zz.2.2.2.2.2.1 i1.toNatClampNeg)) fun (w3 : Int32) =>
  some w3
theorem f_X3_reached_e (zz_0 : Int32) (zz_1 : xF) (zz_2 : xF) (zz_3 : xF) (zz_4 : xF) (zz_5 : xF) (zz_6 : xF) (zz_7 : xF) (zz_8 : xF) (zz_9 : xF) (zz_10 : xF) (zz_11 : xF) (zz_12 : xF) (zz_13 : xF) (zz_14 : xF) (zz_15 : xF) (zz_16 : Int32) (zz_17 : Int32) (i1 : Int32) : f_X3_reached (zz_0, zz_1, zz_2, zz_3, zz_4, zz_5, zz_6, zz_7, zz_8, zz_9, zz_10, zz_11, zz_12, zz_13, zz_14, zz_15, zz_16, zz_17) i1 =
  if i1 < 0 ∨ 12 ≤ i1.toNatClampNeg then none else
  Option.bind (f_X3_reached_l9 zz_0 zz_5 14 (0 : Int32) (zz_5 i1.toNatClampNeg)) fun (w3 : Int32) =>
  some w3 := rfl
set_option maxHeartbeats 4000000 in
set_option maxRecDepth 100000 in
theorem c_X3_reached (l : Launch) (G : xG) (za : (Nat → Nat)) (zz : xMO) (i1 : Int32) (o : Int32) (h : f_X3_reached zz i1 = some o) : xk_CI l yX3_reached wsX3_reached ({ frames := 0, cells := 0, slots := 0, locals := 0 } : Room) 0 0 [.ref (za 0), .int i1] G (wMOc G za zz.1 zz.2.1 zz.2.2.1 zz.2.2.2.1 zz.2.2.2.2.1 zz.2.2.2.2.2.1 zz.2.2.2.2.2.2.1 zz.2.2.2.2.2.2.2.1 zz.2.2.2.2.2.2.2.2.1 zz.2.2.2.2.2.2.2.2.2.1 zz.2.2.2.2.2.2.2.2.2.2.1 zz.2.2.2.2.2.2.2.2.2.2.2.1 zz.2.2.2.2.2.2.2.2.2.2.2.2.1 zz.2.2.2.2.2.2.2.2.2.2.2.2.2.1 zz.2.2.2.2.2.2.2.2.2.2.2.2.2.2.1 zz.2.2.2.2.2.2.2.2.2.2.2.2.2.2.2.1 zz.2.2.2.2.2.2.2.2.2.2.2.2.2.2.2.2.1 zz.2.2.2.2.2.2.2.2.2.2.2.2.2.2.2.2.2) (wMOc G za zz.1 zz.2.1 zz.2.2.1 zz.2.2.2.1 zz.2.2.2.2.1 zz.2.2.2.2.2.1 zz.2.2.2.2.2.2.1 zz.2.2.2.2.2.2.2.1 zz.2.2.2.2.2.2.2.2.1 zz.2.2.2.2.2.2.2.2.2.1 zz.2.2.2.2.2.2.2.2.2.2.1 zz.2.2.2.2.2.2.2.2.2.2.2.1 zz.2.2.2.2.2.2.2.2.2.2.2.2.1 zz.2.2.2.2.2.2.2.2.2.2.2.2.2.1 zz.2.2.2.2.2.2.2.2.2.2.2.2.2.2.1 zz.2.2.2.2.2.2.2.2.2.2.2.2.2.2.2.1 zz.2.2.2.2.2.2.2.2.2.2.2.2.2.2.2.2.1 zz.2.2.2.2.2.2.2.2.2.2.2.2.2.2.2.2.2) o := by
  obtain ⟨zz_0, zz_1, zz_2, zz_3, zz_4, zz_5, zz_6, zz_7, zz_8, zz_9, zz_10, zz_11, zz_12, zz_13, zz_14, zz_15, zz_16, zz_17⟩ := zz
  refine xk_CI.of (cc := cX3_reached) (maxL := 5) (ret := (some .int)) (by decide) rfl (Nat.le_of_ble_eq_true rfl) ?_
  intro pr9 en9 s mm9 bl9 meth9 cd9 A ls H locs hx hb hr hml hts hown hlk hA hP hK hD hNE hS hl
  have hown : s.vm.findClass RX3 = some mm9.cls := hown
  have hl : lv_has ls 5 [(0, .ref (za 0)), (1, .int i1)] := hl
  have hinX3 : ∀ w ∈ u_ws RX3 TX3 18, w ∈ wsX3_reached := by decide +kernel
  have hP : va_P G.1 vwCl (wMOc G za zz_0 zz_1 zz_2 zz_3 zz_4 zz_5 zz_6 zz_7 zz_8 zz_9 zz_10 zz_11 zz_12 zz_13 zz_14 zz_15 zz_16 zz_17) H := hP
  have hD : va_D A (wMOc G za zz_0 zz_1 zz_2 zz_3 zz_4 zz_5 zz_6 zz_7 zz_8 zz_9 zz_10 zz_11 zz_12 zz_13 zz_14 zz_15 zz_16 zz_17) := hD
  have h := (f_X3_reached_e zz_0 zz_1 zz_2 zz_3 zz_4 zz_5 zz_6 zz_7 zz_8 zz_9 zz_10 zz_11 zz_12 zz_13 zz_14 zz_15 zz_16 zz_17 i1).symm.trans h
  refine lv_aload_n hx hb dX3_reached_0 rfl (lv_at hl 0 rfl) ?_
  refine va_get (D := G.1) (ci := 3) (v := .ref (za 5)) (C := RX3) (T := TX3) (N := 18) hx hb hts hinX3 hown hK hP 0 rfl rfl 5 (by decide) (hts (.fieldLink RX3 22 "LessonWeaveModel" "needs" "[I") (by decide +kernel)) (fun _ h9 => h9) rfl dX3_reached_1 ?_
  refine lv_iload_n hx hb dX3_reached_4 rfl (lv_at hl 1 rfl) ?_
  obtain ⟨hin1, h⟩ := sp_g h
  refine va_iald hx hb hK hP 5 0 rfl rfl hin1 dX3_reached_5 ?_
  refine lv_istore_n (lv' := [(2, .int (zz_5 i1.toNatClampNeg)), (0, .ref (za 0)), (1, .int i1)]) hx hb dX3_reached_6 rfl hl (by decide) rfl (fun ls hl => ?_)
  refine lv_iconst (v := (0 : Int32)) hx hb dX3_reached_7 (by decide) ?_
  refine lv_istore_n (lv' := [(3, .int (0 : Int32)), (2, .int (zz_5 i1.toNatClampNeg)), (0, .ref (za 0)), (1, .int i1)]) hx hb dX3_reached_8 rfl hl (by decide) rfl (fun ls hl => ?_)
  obtain ⟨w3, hw3, h⟩ := sp_b h
  refine xk_jn G A s.heap (wMOc G za zz_0 zz_1 zz_2 zz_3 zz_4 zz_5 zz_6 zz_7 zz_8 zz_9 zz_10 zz_11 zz_12 zz_13 zz_14 zz_15 zz_16 zz_17) 5 [(2, .int w3)] 61 [] (fun H locs hP hD hS ls hl => ?_) (fun J2 => ?_)
  · refine lv_iload_n hx hb dX3_reached_61 rfl (lv_at hl 0 rfl) ?_
    obtain rfl := sp_s h
    exact xk_reI hx hb hr hlk hP hD hS rfl dX3_reached_62
  · have h := hw3
    clear hw3
    refine xk_lp (α := Int32 × Int32) G A s.heap (fun a_2 => (wMOc G za zz_0 zz_1 zz_2 zz_3 zz_4 zz_5 zz_6 zz_7 zz_8 zz_9 zz_10 zz_11 zz_12 zz_13 zz_14 zz_15 zz_16 zz_17)) 5 (fun a_2 => [(3, .int a_2.1), (2, .int a_2.2), (0, .ref (za 0))]) 9 (fun n a_2 => f_X3_reached_l9 zz_0 zz_5 n a_2.1 a_2.2 = some w3) (fun a_2 h => ?_) (fun n ih_2 a_2 h H locs hP hD hS ls hl => ?_) (fun LL => ?_)
    · exact sp_n ((f_X3_reached_l9_z _ _ _ _).symm.trans h)
    · obtain ⟨x3_2, x2_2⟩ := a_2
      have h := (f_X3_reached_l9_s zz_0 zz_5 n x3_2 x2_2).symm.trans h
      have hP : va_P G.1 vwCl (wMOc G za zz_0 zz_1 zz_2 zz_3 zz_4 zz_5 zz_6 zz_7 zz_8 zz_9 zz_10 zz_11 zz_12 zz_13 zz_14 zz_15 zz_16 zz_17) H := hP
      have hD : va_D A (wMOc G za zz_0 zz_1 zz_2 zz_3 zz_4 zz_5 zz_6 zz_7 zz_8 zz_9 zz_10 zz_11 zz_12 zz_13 zz_14 zz_15 zz_16 zz_17) := hD
      have hl : lv_has ls 5 [(3, .int x3_2), (2, .int x2_2), (0, .ref (za 0))] := hl
      refine lv_iload_n hx hb dX3_reached_9 rfl (lv_at hl 1 rfl) ?_
      refine lv_iload_n hx hb dX3_reached_10 rfl (lv_at hl 0 rfl) ?_
      refine lv_icmp_eq (tgt := 61) hx hb dX3_reached_11 (by decide) (fun c4 => ?_) (fun c4 => ?_)
      · have h := sp_t c4 h
        obtain rfl := sp_s h
        exact J2 _ _ hP hD hS _ (lv_sub hl [1] rfl)
      · have h := sp_f c4 h
        refine lv_iload_n hx hb dX3_reached_14 rfl (lv_at hl 1 rfl) ?_
        refine lv_istore_n (lv' := [(3, .int x2_2), (2, .int x2_2), (0, .ref (za 0))]) hx hb dX3_reached_15 rfl hl (by decide) rfl (fun ls hl => ?_)
        refine lv_iconst (v := (0 : Int32)) hx hb dX3_reached_16 (by decide) ?_
        refine lv_istore (lv' := [(4, .int (0 : Int32)), (3, .int x2_2), (2, .int x2_2), (0, .ref (za 0))]) hx hb dX3_reached_17 hl (by decide) rfl (fun ls hl => ?_)
        obtain ⟨w6, hw6, h⟩ := sp_b h
        refine xk_jn G A s.heap (wMOc G za zz_0 zz_1 zz_2 zz_3 zz_4 zz_5 zz_6 zz_7 zz_8 zz_9 zz_10 zz_11 zz_12 zz_13 zz_14 zz_15 zz_16 zz_17) 5 [(3, .int x2_2), (2, .int w6), (0, .ref (za 0))] 58 [] (fun H locs hP hD hS ls hl => ?_) (fun J5 => ?_)
        · refine lv_goto (tgt := 9) hx hb dX3_reached_58 (by decide) ?_
          exact ih_2 (x2_2, w6) h _ _ hP hD hS _ (lv_sub hl [0, 1, 2] rfl)
        · have h := hw6
          clear hw6
          refine xk_lp (α := Int32 × Int32) G A s.heap (fun a_5 => (wMOc G za zz_0 zz_1 zz_2 zz_3 zz_4 zz_5 zz_6 zz_7 zz_8 zz_9 zz_10 zz_11 zz_12 zz_13 zz_14 zz_15 zz_16 zz_17)) 5 (fun a_5 => [(4, .int a_5.1), (3, .int x2_2), (2, .int a_5.2), (0, .ref (za 0))]) 19 (fun n a_5 => f_X3_reached_l19 zz_0 zz_5 x2_2 n a_5.1 a_5.2 = some w6) (fun a_5 h => ?_) (fun n ih_5 a_5 h H locs hP hD hS ls hl => ?_) (fun LL => ?_)
          · exact sp_n ((f_X3_reached_l19_z _ _ _ _ _).symm.trans h)
          · obtain ⟨x4_5, x2_5⟩ := a_5
            have h := (f_X3_reached_l19_s zz_0 zz_5 x2_2 n x4_5 x2_5).symm.trans h
            have hP : va_P G.1 vwCl (wMOc G za zz_0 zz_1 zz_2 zz_3 zz_4 zz_5 zz_6 zz_7 zz_8 zz_9 zz_10 zz_11 zz_12 zz_13 zz_14 zz_15 zz_16 zz_17) H := hP
            have hD : va_D A (wMOc G za zz_0 zz_1 zz_2 zz_3 zz_4 zz_5 zz_6 zz_7 zz_8 zz_9 zz_10 zz_11 zz_12 zz_13 zz_14 zz_15 zz_16 zz_17) := hD
            have hl : lv_has ls 5 [(4, .int x4_5), (3, .int x2_2), (2, .int x2_5), (0, .ref (za 0))] := hl
            refine lv_iload hx hb dX3_reached_19 (lv_at hl 0 rfl) ?_
            refine lv_aload_n hx hb dX3_reached_21 rfl (lv_at hl 3 rfl) ?_
            refine va_get (D := G.1) (ci := 3) (v := .int zz_0) (C := RX3) (T := TX3) (N := 18) hx hb hts hinX3 hown hK hP 0 rfl rfl 0 (by decide) (hts (.fieldLink RX3 60 "LessonWeaveModel" "aims" "I") (by decide +kernel)) (fun _ h9 => h9) rfl dX3_reached_22 ?_
            refine lv_icmp_ge (tgt := 58) hx hb dX3_reached_25 (by decide) (fun c7 => ?_) (fun c7 => ?_)
            · have h := sp_t c7 h
              obtain rfl := sp_s h
              exact J5 _ _ hP hD hS _ (lv_sub hl [1, 2, 3] rfl)
            · have h := sp_f c7 h
              refine lv_iload_n hx hb dX3_reached_28 rfl (lv_at hl 2 rfl) ?_
              refine lv_iload_n hx hb dX3_reached_29 rfl (lv_at hl 1 rfl) ?_
              refine lv_iload hx hb dX3_reached_30 (lv_at hl 0 rfl) ?_
              refine lv_ishr hx hb dX3_reached_32 ?_
              refine lv_iconst (v := (1 : Int32)) hx hb dX3_reached_33 (by decide) ?_
              refine lv_iand hx hb dX3_reached_34 ?_
              refine lv_iconst (v := (1 : Int32)) hx hb dX3_reached_35 (by decide) ?_
              obtain ⟨v8, hv8, h⟩ := sp_b h
              refine xk_jn G A s.heap (wMOc G za zz_0 zz_1 zz_2 zz_3 zz_4 zz_5 zz_6 zz_7 zz_8 zz_9 zz_10 zz_11 zz_12 zz_13 zz_14 zz_15 zz_16 zz_17) 5 [(4, .int x4_5), (3, .int x2_2), (0, .ref (za 0))] 50 [.int v8, .int x2_5] (fun H locs hP hD hS ls hl => ?_) (fun J8 => ?_)
              · refine lv_ior hx hb dX3_reached_50 ?_
                refine lv_istore_n (lv' := [(2, .int (x2_5 ||| v8)), (4, .int x4_5), (3, .int x2_2), (0, .ref (za 0))]) hx hb dX3_reached_51 rfl hl (by decide) rfl (fun ls hl => ?_)
                refine lv_iinc (v := (x4_5 + (1 : Int32))) (lv' := [(4, .int (x4_5 + (1 : Int32))), (2, .int (x2_5 ||| v8)), (3, .int x2_2), (0, .ref (za 0))]) hx hb dX3_reached_52 hl (k := 1) rfl rfl (by decide) rfl (fun ls hl => ?_)
                refine lv_goto (tgt := 19) hx hb dX3_reached_55 (by decide) ?_
                exact ih_5 ((x4_5 + (1 : Int32)), (x2_5 ||| v8)) h _ _ hP hD hS _ (lv_sub hl [0, 2, 1, 3] rfl)
              · have h := hv8
                clear hv8
                refine lv_icmp_ne (tgt := 49) hx hb dX3_reached_36 (by decide) (fun c9 => ?_) (fun c9 => ?_)
                · have h := sp_f c9 h
                  refine lv_iconst (v := (0 : Int32)) hx hb dX3_reached_49 (by decide) ?_
                  obtain rfl := sp_s h
                  exact J8 _ _ hP hD hS _ (lv_sub hl [0, 1, 3] rfl)
                · have h := sp_t c9 h
                  refine lv_aload_n hx hb dX3_reached_39 rfl (lv_at hl 3 rfl) ?_
                  refine va_get (D := G.1) (ci := 3) (v := .ref (za 5)) (C := RX3) (T := TX3) (N := 18) hx hb hts hinX3 hown hK hP 0 rfl rfl 5 (by decide) (hts (.fieldLink RX3 22 "LessonWeaveModel" "needs" "[I") (by decide +kernel)) (fun _ h9 => h9) rfl dX3_reached_40 ?_
                  refine lv_iload hx hb dX3_reached_43 (lv_at hl 0 rfl) ?_
                  obtain ⟨hin10, h⟩ := sp_g h
                  refine va_iald hx hb hK hP 5 0 rfl rfl hin10 dX3_reached_45 ?_
                  refine lv_goto (tgt := 50) hx hb dX3_reached_46 (by decide) ?_
                  obtain rfl := sp_s h
                  exact J8 _ _ hP hD hS _ (lv_sub hl [0, 1, 3] rfl)
          · exact LL 300 ((0 : Int32), x2_2) h _ _ hP hD hS _ (lv_sub hl [0, 1, 2, 3] rfl)
    · exact LL 14 ((0 : Int32), (zz_5 i1.toNatClampNeg)) h _ _ hP hD hS _ (lv_sub hl [0, 1, 2] rfl)
def f_X3_hasNeed (zz : xMO) (i1 : Int32) (i2 : Int32) : Option (Int32) :=
  if i1 < 0 ∨ 12 ≤ i1.toNatClampNeg then none else
  if (((zz.2.2.2.2.2.1 i1.toNatClampNeg) >>> (i2 &&& 31)) &&& (1 : Int32)) = (1 : Int32) then
    some (1 : Int32)
  else
    some (0 : Int32)
theorem f_X3_hasNeed_e (zz_0 : Int32) (zz_1 : xF) (zz_2 : xF) (zz_3 : xF) (zz_4 : xF) (zz_5 : xF) (zz_6 : xF) (zz_7 : xF) (zz_8 : xF) (zz_9 : xF) (zz_10 : xF) (zz_11 : xF) (zz_12 : xF) (zz_13 : xF) (zz_14 : xF) (zz_15 : xF) (zz_16 : Int32) (zz_17 : Int32) (i1 : Int32) (i2 : Int32) : f_X3_hasNeed (zz_0, zz_1, zz_2, zz_3, zz_4, zz_5, zz_6, zz_7, zz_8, zz_9, zz_10, zz_11, zz_12, zz_13, zz_14, zz_15, zz_16, zz_17) i1 i2 =
  if i1 < 0 ∨ 12 ≤ i1.toNatClampNeg then none else
  if (((zz_5 i1.toNatClampNeg) >>> (i2 &&& 31)) &&& (1 : Int32)) = (1 : Int32) then
    some (1 : Int32)
  else
    some (0 : Int32) := rfl
set_option maxHeartbeats 4000000 in
set_option maxRecDepth 100000 in
theorem c_X3_hasNeed (l : Launch) (G : xG) (za : (Nat → Nat)) (zz : xMO) (i1 : Int32) (i2 : Int32) (o : Int32) (h : f_X3_hasNeed zz i1 i2 = some o) : xk_CI l yX3_hasNeed wsX3_hasNeed ({ frames := 0, cells := 0, slots := 0, locals := 0 } : Room) 0 0 [.ref (za 0), .int i1, .int i2] G (wMOc G za zz.1 zz.2.1 zz.2.2.1 zz.2.2.2.1 zz.2.2.2.2.1 zz.2.2.2.2.2.1 zz.2.2.2.2.2.2.1 zz.2.2.2.2.2.2.2.1 zz.2.2.2.2.2.2.2.2.1 zz.2.2.2.2.2.2.2.2.2.1 zz.2.2.2.2.2.2.2.2.2.2.1 zz.2.2.2.2.2.2.2.2.2.2.2.1 zz.2.2.2.2.2.2.2.2.2.2.2.2.1 zz.2.2.2.2.2.2.2.2.2.2.2.2.2.1 zz.2.2.2.2.2.2.2.2.2.2.2.2.2.2.1 zz.2.2.2.2.2.2.2.2.2.2.2.2.2.2.2.1 zz.2.2.2.2.2.2.2.2.2.2.2.2.2.2.2.2.1 zz.2.2.2.2.2.2.2.2.2.2.2.2.2.2.2.2.2) (wMOc G za zz.1 zz.2.1 zz.2.2.1 zz.2.2.2.1 zz.2.2.2.2.1 zz.2.2.2.2.2.1 zz.2.2.2.2.2.2.1 zz.2.2.2.2.2.2.2.1 zz.2.2.2.2.2.2.2.2.1 zz.2.2.2.2.2.2.2.2.2.1 zz.2.2.2.2.2.2.2.2.2.2.1 zz.2.2.2.2.2.2.2.2.2.2.2.1 zz.2.2.2.2.2.2.2.2.2.2.2.2.1 zz.2.2.2.2.2.2.2.2.2.2.2.2.2.1 zz.2.2.2.2.2.2.2.2.2.2.2.2.2.2.1 zz.2.2.2.2.2.2.2.2.2.2.2.2.2.2.2.1 zz.2.2.2.2.2.2.2.2.2.2.2.2.2.2.2.2.1 zz.2.2.2.2.2.2.2.2.2.2.2.2.2.2.2.2.2) o := by
  obtain ⟨zz_0, zz_1, zz_2, zz_3, zz_4, zz_5, zz_6, zz_7, zz_8, zz_9, zz_10, zz_11, zz_12, zz_13, zz_14, zz_15, zz_16, zz_17⟩ := zz
  refine xk_CI.of (cc := cX3_hasNeed) (maxL := 3) (ret := (some .boolean)) (by decide) rfl (Nat.le_of_ble_eq_true rfl) ?_
  intro pr9 en9 s mm9 bl9 meth9 cd9 A ls H locs hx hb hr hml hts hown hlk hA hP hK hD hNE hS hl
  have hown : s.vm.findClass RX3 = some mm9.cls := hown
  have hl : lv_has ls 3 [(0, .ref (za 0)), (1, .int i1), (2, .int i2)] := hl
  have hinX3 : ∀ w ∈ u_ws RX3 TX3 18, w ∈ wsX3_hasNeed := by decide +kernel
  have hP : va_P G.1 vwCl (wMOc G za zz_0 zz_1 zz_2 zz_3 zz_4 zz_5 zz_6 zz_7 zz_8 zz_9 zz_10 zz_11 zz_12 zz_13 zz_14 zz_15 zz_16 zz_17) H := hP
  have hD : va_D A (wMOc G za zz_0 zz_1 zz_2 zz_3 zz_4 zz_5 zz_6 zz_7 zz_8 zz_9 zz_10 zz_11 zz_12 zz_13 zz_14 zz_15 zz_16 zz_17) := hD
  have h := (f_X3_hasNeed_e zz_0 zz_1 zz_2 zz_3 zz_4 zz_5 zz_6 zz_7 zz_8 zz_9 zz_10 zz_11 zz_12 zz_13 zz_14 zz_15 zz_16 zz_17 i1 i2).symm.trans h
  refine lv_aload_n hx hb dX3_hasNeed_0 rfl (lv_at hl 0 rfl) ?_
  refine va_get (D := G.1) (ci := 3) (v := .ref (za 5)) (C := RX3) (T := TX3) (N := 18) hx hb hts hinX3 hown hK hP 0 rfl rfl 5 (by decide) (hts (.fieldLink RX3 22 "LessonWeaveModel" "needs" "[I") (by decide +kernel)) (fun _ h9 => h9) rfl dX3_hasNeed_1 ?_
  refine lv_iload_n hx hb dX3_hasNeed_4 rfl (lv_at hl 1 rfl) ?_
  obtain ⟨hin1, h⟩ := sp_g h
  refine va_iald hx hb hK hP 5 0 rfl rfl hin1 dX3_hasNeed_5 ?_
  refine lv_iload_n hx hb dX3_hasNeed_6 rfl (lv_at hl 2 rfl) ?_
  refine lv_ishr hx hb dX3_hasNeed_7 ?_
  refine lv_iconst (v := (1 : Int32)) hx hb dX3_hasNeed_8 (by decide) ?_
  refine lv_iand hx hb dX3_hasNeed_9 ?_
  refine lv_iconst (v := (1 : Int32)) hx hb dX3_hasNeed_10 (by decide) ?_
  refine lv_icmp_ne (tgt := 18) hx hb dX3_hasNeed_11 (by decide) (fun c2 => ?_) (fun c2 => ?_)
  · have h := sp_f c2 h
    refine lv_iconst (v := (0 : Int32)) hx hb dX3_hasNeed_18 (by decide) ?_
    obtain rfl := sp_s h
    exact xk_reZ hx hb hr hlk rfl hP hD hS rfl dX3_hasNeed_19
  · have h := sp_t c2 h
    refine lv_iconst (v := (1 : Int32)) hx hb dX3_hasNeed_14 (by decide) ?_
    refine lv_goto (tgt := 19) hx hb dX3_hasNeed_15 (by decide) ?_
    obtain rfl := sp_s h
    exact xk_reZ hx hb hr hlk rfl hP hD hS rfl dX3_hasNeed_19
def f_X3_need (zz : xMO) (i1 : Int32) (i2 : Int32) : Option (Int32 × xF × Int32) :=
  Option.bind (f_X3_isAim (zz.1, zz.2.1, zz.2.2.1, zz.2.2.2.1, zz.2.2.2.2.1, zz.2.2.2.2.2.1, zz.2.2.2.2.2.2.1, zz.2.2.2.2.2.2.2.1, zz.2.2.2.2.2.2.2.2.1, zz.2.2.2.2.2.2.2.2.2.1, zz.2.2.2.2.2.2.2.2.2.2.1, zz.2.2.2.2.2.2.2.2.2.2.2.1, zz.2.2.2.2.2.2.2.2.2.2.2.2.1, zz.2.2.2.2.2.2.2.2.2.2.2.2.2.1, zz.2.2.2.2.2.2.2.2.2.2.2.2.2.2.1, zz.2.2.2.2.2.2.2.2.2.2.2.2.2.2.2.1, zz.2.2.2.2.2.2.2.2.2.2.2.2.2.2.2.2.1, zz.2.2.2.2.2.2.2.2.2.2.2.2.2.2.2.2.2) i1) fun (o1 : Int32) =>
  Option.bind (
    if o1 = 0 then
      some (0 : Int32)
    else
      Option.bind (f_X3_isAim (zz.1, zz.2.1, zz.2.2.1, zz.2.2.2.1, zz.2.2.2.2.1, zz.2.2.2.2.2.1, zz.2.2.2.2.2.2.1, zz.2.2.2.2.2.2.2.1, zz.2.2.2.2.2.2.2.2.1, zz.2.2.2.2.2.2.2.2.2.1, zz.2.2.2.2.2.2.2.2.2.2.1, zz.2.2.2.2.2.2.2.2.2.2.2.1, zz.2.2.2.2.2.2.2.2.2.2.2.2.1, zz.2.2.2.2.2.2.2.2.2.2.2.2.2.1, zz.2.2.2.2.2.2.2.2.2.2.2.2.2.2.1, zz.2.2.2.2.2.2.2.2.2.2.2.2.2.2.2.1, zz.2.2.2.2.2.2.2.2.2.2.2.2.2.2.2.2.1, zz.2.2.2.2.2.2.2.2.2.2.2.2.2.2.2.2.2) i2) fun (o15 : Int32) =>
      if o15 = 0 then
        some (0 : Int32)
      else
        some (1 : Int32)) fun (v2 : Int32) =>
  Option.bind (
    if v2 = 0 then
      some (1 : Int32)
    else
      if i1 = i2 then
        some (2 : Int32)
      else
        Option.bind (f_X3_hasNeed (zz.1, zz.2.1, zz.2.2.1, zz.2.2.2.1, zz.2.2.2.2.1, zz.2.2.2.2.2.1, zz.2.2.2.2.2.2.1, zz.2.2.2.2.2.2.2.1, zz.2.2.2.2.2.2.2.2.1, zz.2.2.2.2.2.2.2.2.2.1, zz.2.2.2.2.2.2.2.2.2.2.1, zz.2.2.2.2.2.2.2.2.2.2.2.1, zz.2.2.2.2.2.2.2.2.2.2.2.2.1, zz.2.2.2.2.2.2.2.2.2.2.2.2.2.1, zz.2.2.2.2.2.2.2.2.2.2.2.2.2.2.1, zz.2.2.2.2.2.2.2.2.2.2.2.2.2.2.2.1, zz.2.2.2.2.2.2.2.2.2.2.2.2.2.2.2.2.1, zz.2.2.2.2.2.2.2.2.2.2.2.2.2.2.2.2.2) i1 i2) fun (o10 : Int32) =>
        if o10 = 0 then
          Option.bind (f_X3_reached (zz.1, zz.2.1, zz.2.2.1, zz.2.2.2.1, zz.2.2.2.2.1, zz.2.2.2.2.2.1, zz.2.2.2.2.2.2.1, zz.2.2.2.2.2.2.2.1, zz.2.2.2.2.2.2.2.2.1, zz.2.2.2.2.2.2.2.2.2.1, zz.2.2.2.2.2.2.2.2.2.2.1, zz.2.2.2.2.2.2.2.2.2.2.2.1, zz.2.2.2.2.2.2.2.2.2.2.2.2.1, zz.2.2.2.2.2.2.2.2.2.2.2.2.2.1, zz.2.2.2.2.2.2.2.2.2.2.2.2.2.2.1, zz.2.2.2.2.2.2.2.2.2.2.2.2.2.2.2.1, zz.2.2.2.2.2.2.2.2.2.2.2.2.2.2.2.2.1, zz.2.2.2.2.2.2.2.2.2.2.2.2.2.2.2.2.2) i2) fun (o12 : Int32) =>
          if ((o12 >>> (i1 &&& 31)) &&& (1 : Int32)) = (1 : Int32) then
            some (3 : Int32)
          else
            some (0 : Int32)
        else
          some (3 : Int32)) fun (v3 : Int32) =>
  Option.bind (f_X3_can (zz.1, zz.2.1, zz.2.2.1, zz.2.2.2.1, zz.2.2.2.2.1, zz.2.2.2.2.2.1, zz.2.2.2.2.2.2.1, zz.2.2.2.2.2.2.2.1, zz.2.2.2.2.2.2.2.2.1, zz.2.2.2.2.2.2.2.2.2.1, zz.2.2.2.2.2.2.2.2.2.2.1, zz.2.2.2.2.2.2.2.2.2.2.2.1, zz.2.2.2.2.2.2.2.2.2.2.2.2.1, zz.2.2.2.2.2.2.2.2.2.2.2.2.2.1, zz.2.2.2.2.2.2.2.2.2.2.2.2.2.2.1, zz.2.2.2.2.2.2.2.2.2.2.2.2.2.2.2.1, zz.2.2.2.2.2.2.2.2.2.2.2.2.2.2.2.2.1, zz.2.2.2.2.2.2.2.2.2.2.2.2.2.2.2.2.2) v3) fun (o4 : Int32 × Int32) =>
  if o4.1 = 0 then
    some ((0 : Int32), zz.2.2.2.2.2.1, o4.2)
  else
    if i1 < 0 ∨ 12 ≤ i1.toNatClampNeg then none else
    Option.bind (f_X3_size ((upd zz.2.2.2.2.2.1 i1.toNatClampNeg ((zz.2.2.2.2.2.1 i1.toNatClampNeg) ||| ((1 : Int32) <<< (i2 &&& 31)))) i1.toNatClampNeg)) fun (o7 : Int32) =>
    some (o7, (upd zz.2.2.2.2.2.1 i1.toNatClampNeg ((zz.2.2.2.2.2.1 i1.toNatClampNeg) ||| ((1 : Int32) <<< (i2 &&& 31)))), o4.2)
theorem f_X3_need_e (zz_0 : Int32) (zz_1 : xF) (zz_2 : xF) (zz_3 : xF) (zz_4 : xF) (zz_5 : xF) (zz_6 : xF) (zz_7 : xF) (zz_8 : xF) (zz_9 : xF) (zz_10 : xF) (zz_11 : xF) (zz_12 : xF) (zz_13 : xF) (zz_14 : xF) (zz_15 : xF) (zz_16 : Int32) (zz_17 : Int32) (i1 : Int32) (i2 : Int32) : f_X3_need (zz_0, zz_1, zz_2, zz_3, zz_4, zz_5, zz_6, zz_7, zz_8, zz_9, zz_10, zz_11, zz_12, zz_13, zz_14, zz_15, zz_16, zz_17) i1 i2 =
  Option.bind (f_X3_isAim (zz_0, zz_1, zz_2, zz_3, zz_4, zz_5, zz_6, zz_7, zz_8, zz_9, zz_10, zz_11, zz_12, zz_13, zz_14, zz_15, zz_16, zz_17) i1) fun (o1 : Int32) =>
  Option.bind (
    if o1 = 0 then
      some (0 : Int32)
    else
      Option.bind (f_X3_isAim (zz_0, zz_1, zz_2, zz_3, zz_4, zz_5, zz_6, zz_7, zz_8, zz_9, zz_10, zz_11, zz_12, zz_13, zz_14, zz_15, zz_16, zz_17) i2) fun (o15 : Int32) =>
      if o15 = 0 then
        some (0 : Int32)
      else
        some (1 : Int32)) fun (v2 : Int32) =>
  Option.bind (
    if v2 = 0 then
      some (1 : Int32)
    else
      if i1 = i2 then
        some (2 : Int32)
      else
        Option.bind (f_X3_hasNeed (zz_0, zz_1, zz_2, zz_3, zz_4, zz_5, zz_6, zz_7, zz_8, zz_9, zz_10, zz_11, zz_12, zz_13, zz_14, zz_15, zz_16, zz_17) i1 i2) fun (o10 : Int32) =>
        if o10 = 0 then
          Option.bind (f_X3_reached (zz_0, zz_1, zz_2, zz_3, zz_4, zz_5, zz_6, zz_7, zz_8, zz_9, zz_10, zz_11, zz_12, zz_13, zz_14, zz_15, zz_16, zz_17) i2) fun (o12 : Int32) =>
          if ((o12 >>> (i1 &&& 31)) &&& (1 : Int32)) = (1 : Int32) then
            some (3 : Int32)
          else
            some (0 : Int32)
        else
          some (3 : Int32)) fun (v3 : Int32) =>
  Option.bind (f_X3_can (zz_0, zz_1, zz_2, zz_3, zz_4, zz_5, zz_6, zz_7, zz_8, zz_9, zz_10, zz_11, zz_12, zz_13, zz_14, zz_15, zz_16, zz_17) v3) fun (o4 : Int32 × Int32) =>
  if o4.1 = 0 then
    some ((0 : Int32), zz_5, o4.2)
  else
    if i1 < 0 ∨ 12 ≤ i1.toNatClampNeg then none else
    Option.bind (f_X3_size ((upd zz_5 i1.toNatClampNeg ((zz_5 i1.toNatClampNeg) ||| ((1 : Int32) <<< (i2 &&& 31)))) i1.toNatClampNeg)) fun (o7 : Int32) =>
    some (o7, (upd zz_5 i1.toNatClampNeg ((zz_5 i1.toNatClampNeg) ||| ((1 : Int32) <<< (i2 &&& 31)))), o4.2) := rfl
set_option maxHeartbeats 4000000 in
set_option maxRecDepth 100000 in
theorem c_X3_need (l : Launch) (G : xG) (za : (Nat → Nat)) (zz : xMO) (i1 : Int32) (i2 : Int32) (o : Int32 × xF × Int32) (h : f_X3_need zz i1 i2 = some o) : xk_CI l yX3_need wsX3_need ({ frames := 2, cells := 0, slots := 0, locals := 43 } : Room) 0 0 [.ref (za 0), .int i1, .int i2] G (wMOc G za zz.1 zz.2.1 zz.2.2.1 zz.2.2.2.1 zz.2.2.2.2.1 zz.2.2.2.2.2.1 zz.2.2.2.2.2.2.1 zz.2.2.2.2.2.2.2.1 zz.2.2.2.2.2.2.2.2.1 zz.2.2.2.2.2.2.2.2.2.1 zz.2.2.2.2.2.2.2.2.2.2.1 zz.2.2.2.2.2.2.2.2.2.2.2.1 zz.2.2.2.2.2.2.2.2.2.2.2.2.1 zz.2.2.2.2.2.2.2.2.2.2.2.2.2.1 zz.2.2.2.2.2.2.2.2.2.2.2.2.2.2.1 zz.2.2.2.2.2.2.2.2.2.2.2.2.2.2.2.1 zz.2.2.2.2.2.2.2.2.2.2.2.2.2.2.2.2.1 zz.2.2.2.2.2.2.2.2.2.2.2.2.2.2.2.2.2) (wMOc G za zz.1 zz.2.1 zz.2.2.1 zz.2.2.2.1 zz.2.2.2.2.1 o.2.1 zz.2.2.2.2.2.2.1 zz.2.2.2.2.2.2.2.1 zz.2.2.2.2.2.2.2.2.1 zz.2.2.2.2.2.2.2.2.2.1 zz.2.2.2.2.2.2.2.2.2.2.1 zz.2.2.2.2.2.2.2.2.2.2.2.1 zz.2.2.2.2.2.2.2.2.2.2.2.2.1 zz.2.2.2.2.2.2.2.2.2.2.2.2.2.1 zz.2.2.2.2.2.2.2.2.2.2.2.2.2.2.1 zz.2.2.2.2.2.2.2.2.2.2.2.2.2.2.2.1 zz.2.2.2.2.2.2.2.2.2.2.2.2.2.2.2.2.1 o.2.2) o.1 := by
  obtain ⟨zz_0, zz_1, zz_2, zz_3, zz_4, zz_5, zz_6, zz_7, zz_8, zz_9, zz_10, zz_11, zz_12, zz_13, zz_14, zz_15, zz_16, zz_17⟩ := zz
  refine xk_CI.of (cc := cX3_need) (maxL := 4) (ret := (some .int)) (by decide) rfl (Nat.le_of_ble_eq_true rfl) ?_
  intro pr9 en9 s mm9 bl9 meth9 cd9 A ls H locs hx hb hr hml hts hown hlk hA hP hK hD hNE hS hl
  have hown : s.vm.findClass RX3 = some mm9.cls := hown
  have hl : lv_has ls 4 [(0, .ref (za 0)), (1, .int i1), (2, .int i2)] := hl
  have hinX3 : ∀ w ∈ u_ws RX3 TX3 18, w ∈ wsX3_need := by decide +kernel
  have hP : va_P G.1 vwCl (wMOc G za zz_0 zz_1 zz_2 zz_3 zz_4 zz_5 zz_6 zz_7 zz_8 zz_9 zz_10 zz_11 zz_12 zz_13 zz_14 zz_15 zz_16 zz_17) H := hP
  have hD : va_D A (wMOc G za zz_0 zz_1 zz_2 zz_3 zz_4 zz_5 zz_6 zz_7 zz_8 zz_9 zz_10 zz_11 zz_12 zz_13 zz_14 zz_15 zz_16 zz_17) := hD
  have h := (f_X3_need_e zz_0 zz_1 zz_2 zz_3 zz_4 zz_5 zz_6 zz_7 zz_8 zz_9 zz_10 zz_11 zz_12 zz_13 zz_14 zz_15 zz_16 zz_17 i1 i2).symm.trans h
  refine lv_aload_n hx hb dX3_need_0 rfl (lv_at hl 0 rfl) ?_
  refine lv_iload_n hx hb dX3_need_1 rfl (lv_at hl 1 rfl) ?_
  obtain ⟨o1, ho1, h⟩ := sp_b h
  refine xk_ci (va_runV (As := [.int i1]) (rest := []) ⟨hx, hb, hml, hown, hts⟩ (c_X3_isAim l G za (zz_0, zz_1, zz_2, zz_3, zz_4, zz_5, zz_6, zz_7, zz_8, zz_9, zz_10, zz_11, zz_12, zz_13, zz_14, zz_15, zz_16, zz_17) i1 o1 ho1 H.size) (cwV 1 hts gX3_need_X3_isAim rfl rfl rfl (by decide +kernel) ⟨Nat.le_of_ble_eq_true rfl, Nat.le_of_ble_eq_true rfl⟩) (xk_preV hK hNE (hP.sub (ws' := (wMOc G za zz_0 zz_1 zz_2 zz_3 zz_4 zz_5 zz_6 zz_7 zz_8 zz_9 zz_10 zz_11 zz_12 zz_13 zz_14 zz_15 zz_16 zz_17)) [0, 1, 2, 3, 4, 5, 6, 7, 8, 9, 10, 11, 12, 13, 14, 15] rfl) (hD.sub (ws' := (wMOc G za zz_0 zz_1 zz_2 zz_3 zz_4 zz_5 zz_6 zz_7 zz_8 zz_9 zz_10 zz_11 zz_12 zz_13 zz_14 zz_15 zz_16 zz_17)) [0, 1, 2, 3, 4, 5, 6, 7, 8, 9, 10, 11, 12, 13, 14, 15] (by decide) rfl) (ci := 3) rfl rfl) rfl rfl hl.1 rfl (lv_room (Nat.le_of_ble_eq_true rfl)) dX3_need_2 ⟨Nat.le_of_ble_eq_true rfl, Nat.le_of_ble_eq_true rfl⟩) hP hD hS hA [0, 1, 2, 3, 4, 5, 6, 7, 8, 9, 10, 11, 12, 13, 14, 15] [] [0, 1, 2, 3, 4, 5, 6, 7, 8, 9, 10, 11, 12, 13, 14, 15] rfl rfl (by decide) (by decide) rfl (by decide) (fun H locs hP hD hS => ?_)
  have hP : va_P G.1 vwCl (wMOc G za zz_0 zz_1 zz_2 zz_3 zz_4 zz_5 zz_6 zz_7 zz_8 zz_9 zz_10 zz_11 zz_12 zz_13 zz_14 zz_15 zz_16 zz_17) H := hP
  have hD : va_D A (wMOc G za zz_0 zz_1 zz_2 zz_3 zz_4 zz_5 zz_6 zz_7 zz_8 zz_9 zz_10 zz_11 zz_12 zz_13 zz_14 zz_15 zz_16 zz_17) := hD
  obtain ⟨v2, hv2, h⟩ := sp_b h
  refine xk_jn G A s.heap (wMOc G za zz_0 zz_1 zz_2 zz_3 zz_4 zz_5 zz_6 zz_7 zz_8 zz_9 zz_10 zz_11 zz_12 zz_13 zz_14 zz_15 zz_16 zz_17) 4 [(0, .ref (za 0)), (1, .int i1), (2, .int i2)] 21 [.int v2] (fun H locs hP hD hS ls hl => ?_) (fun J2 => ?_)
  · refine lv_istore_n (lv' := [(3, .int v2), (0, .ref (za 0)), (1, .int i1), (2, .int i2)]) hx hb dX3_need_21 rfl hl (by decide) rfl (fun ls hl => ?_)
    refine lv_aload_n hx hb dX3_need_22 rfl (lv_at hl 1 rfl) ?_
    refine lv_iload_n hx hb dX3_need_23 rfl (lv_at hl 0 rfl) ?_
    obtain ⟨v3, hv3, h⟩ := sp_b h
    refine xk_jn G A s.heap (wMOc G za zz_0 zz_1 zz_2 zz_3 zz_4 zz_5 zz_6 zz_7 zz_8 zz_9 zz_10 zz_11 zz_12 zz_13 zz_14 zz_15 zz_16 zz_17) 4 [(0, .ref (za 0)), (1, .int i1), (2, .int i2)] 67 [.int v3, .ref (za 0)] (fun H locs hP hD hS ls hl => ?_) (fun J3 => ?_)
    · obtain ⟨o4, ho4, h⟩ := sp_b h
      refine xk_ci (va_runV (As := [.int v3]) (rest := []) ⟨hx, hb, hml, hown, hts⟩ (c_X3_can l G za (zz_0, zz_1, zz_2, zz_3, zz_4, zz_5, zz_6, zz_7, zz_8, zz_9, zz_10, zz_11, zz_12, zz_13, zz_14, zz_15, zz_16, zz_17) v3 o4 ho4 H.size) (cwV 1 hts gX3_need_X3_can rfl rfl rfl (by decide +kernel) ⟨Nat.le_of_ble_eq_true rfl, Nat.le_of_ble_eq_true rfl⟩) (xk_preV hK hNE (hP.sub (ws' := (wMOc G za zz_0 zz_1 zz_2 zz_3 zz_4 zz_5 zz_6 zz_7 zz_8 zz_9 zz_10 zz_11 zz_12 zz_13 zz_14 zz_15 zz_16 zz_17)) [0, 1, 2, 3, 4, 5, 6, 7, 8, 9, 10, 11, 12, 13, 14, 15] rfl) (hD.sub (ws' := (wMOc G za zz_0 zz_1 zz_2 zz_3 zz_4 zz_5 zz_6 zz_7 zz_8 zz_9 zz_10 zz_11 zz_12 zz_13 zz_14 zz_15 zz_16 zz_17)) [0, 1, 2, 3, 4, 5, 6, 7, 8, 9, 10, 11, 12, 13, 14, 15] (by decide) rfl) (ci := 3) rfl rfl) rfl rfl hl.1 rfl (lv_room (Nat.le_of_ble_eq_true rfl)) dX3_need_67 ⟨Nat.le_of_ble_eq_true rfl, Nat.le_of_ble_eq_true rfl⟩) hP hD hS hA [0, 1, 2, 3, 4, 5, 6, 7, 8, 9, 10, 11, 12, 13, 14, 15] [] [0, 1, 2, 3, 4, 5, 6, 7, 8, 9, 10, 11, 12, 13, 14, 15] rfl rfl (by decide) (by decide) rfl (by decide) (fun H locs hP hD hS => ?_)
      have hP : va_P G.1 vwCl (wMOc G za zz_0 zz_1 zz_2 zz_3 zz_4 zz_5 zz_6 zz_7 zz_8 zz_9 zz_10 zz_11 zz_12 zz_13 zz_14 zz_15 zz_16 o4.2) H := hP
      have hD : va_D A (wMOc G za zz_0 zz_1 zz_2 zz_3 zz_4 zz_5 zz_6 zz_7 zz_8 zz_9 zz_10 zz_11 zz_12 zz_13 zz_14 zz_15 zz_16 o4.2) := hD
      refine lv_if_ne (tgt := 75) hx hb dX3_need_70 (by decide) (fun c5 => ?_) (fun c5 => ?_)
      · have h := sp_f c5 h
        refine lv_aload_n hx hb dX3_need_75 rfl (lv_at hl 0 rfl) ?_
        refine va_get (D := G.1) (ci := 3) (v := .ref (za 5)) (C := RX3) (T := TX3) (N := 18) hx hb hts hinX3 hown hK hP 0 rfl rfl 5 (by decide) (hts (.fieldLink RX3 22 "LessonWeaveModel" "needs" "[I") (by decide +kernel)) (fun _ h9 => h9) rfl dX3_need_76 ?_
        refine lv_iload_n hx hb dX3_need_79 rfl (lv_at hl 1 rfl) ?_
        refine lv_dup2_11 hx hb dX3_need_80 rfl rfl ?_
        obtain ⟨hin6, h⟩ := sp_g h
        refine va_iald hx hb hK hP 5 0 rfl rfl hin6 dX3_need_81 ?_
        refine lv_iconst (v := (1 : Int32)) hx hb dX3_need_82 (by decide) ?_
        refine lv_iload_n hx hb dX3_need_83 rfl (lv_at hl 2 rfl) ?_
        refine lv_ishl hx hb dX3_need_84 ?_
        refine lv_ior hx hb dX3_need_85 ?_
        refine va_iast hx hb hK hP hD hS 5 0 rfl rfl hin6 dX3_need_86 (fun H locs hP hD hS => ?_)
        have hP : va_P G.1 vwCl (wMOc G za zz_0 zz_1 zz_2 zz_3 zz_4 (upd zz_5 i1.toNatClampNeg ((zz_5 i1.toNatClampNeg) ||| ((1 : Int32) <<< (i2 &&& 31)))) zz_6 zz_7 zz_8 zz_9 zz_10 zz_11 zz_12 zz_13 zz_14 zz_15 zz_16 o4.2) H := hP
        have hD : va_D A (wMOc G za zz_0 zz_1 zz_2 zz_3 zz_4 (upd zz_5 i1.toNatClampNeg ((zz_5 i1.toNatClampNeg) ||| ((1 : Int32) <<< (i2 &&& 31)))) zz_6 zz_7 zz_8 zz_9 zz_10 zz_11 zz_12 zz_13 zz_14 zz_15 zz_16 o4.2) := hD
        refine lv_aload_n hx hb dX3_need_87 rfl (lv_at hl 0 rfl) ?_
        refine va_get (D := G.1) (ci := 3) (v := .ref (za 5)) (C := RX3) (T := TX3) (N := 18) hx hb hts hinX3 hown hK hP 0 rfl rfl 5 (by decide) (hts (.fieldLink RX3 22 "LessonWeaveModel" "needs" "[I") (by decide +kernel)) (fun _ h9 => h9) rfl dX3_need_88 ?_
        refine lv_iload_n hx hb dX3_need_91 rfl (lv_at hl 1 rfl) ?_
        refine va_iald hx hb hK hP 5 0 rfl rfl hin6 dX3_need_92 ?_
        obtain ⟨o7, ho7, h⟩ := sp_b h
        refine xk_ci (va_runS (As := [.int ((upd zz_5 i1.toNatClampNeg ((zz_5 i1.toNatClampNeg) ||| ((1 : Int32) <<< (i2 &&& 31)))) i1.toNatClampNeg)]) (rest := []) ⟨hx, hb, hml, hown, hts⟩ (c_X3_size l G ((upd zz_5 i1.toNatClampNeg ((zz_5 i1.toNatClampNeg) ||| ((1 : Int32) <<< (i2 &&& 31)))) i1.toNatClampNeg) o7 ho7 H.size) (va_cwS 1 hts gX3_need_X3_size rfl rfl rfl (by decide +kernel) ⟨Nat.le_of_ble_eq_true rfl, Nat.le_of_ble_eq_true rfl⟩) (xk_preS hK hNE (hP.sub (ws' := []) [] rfl) (hD.sub (ws' := []) [] (by decide) rfl)) rfl rfl hl.1 rfl (lv_room (Nat.le_of_ble_eq_true rfl)) dX3_need_93 ⟨Nat.le_of_ble_eq_true rfl, Nat.le_of_ble_eq_true rfl⟩) hP hD hS hA [] [0, 1, 2, 3, 4, 5, 6, 7, 8, 9, 10, 11, 12, 13, 14, 15] [0, 1, 2, 3, 4, 5, 6, 7, 8, 9, 10, 11, 12, 13, 14, 15] rfl rfl (by decide) (by decide) rfl (by decide) (fun H locs hP hD hS => ?_)
        have hP : va_P G.1 vwCl (wMOc G za zz_0 zz_1 zz_2 zz_3 zz_4 (upd zz_5 i1.toNatClampNeg ((zz_5 i1.toNatClampNeg) ||| ((1 : Int32) <<< (i2 &&& 31)))) zz_6 zz_7 zz_8 zz_9 zz_10 zz_11 zz_12 zz_13 zz_14 zz_15 zz_16 o4.2) H := hP
        have hD : va_D A (wMOc G za zz_0 zz_1 zz_2 zz_3 zz_4 (upd zz_5 i1.toNatClampNeg ((zz_5 i1.toNatClampNeg) ||| ((1 : Int32) <<< (i2 &&& 31)))) zz_6 zz_7 zz_8 zz_9 zz_10 zz_11 zz_12 zz_13 zz_14 zz_15 zz_16 o4.2) := hD
        obtain rfl := sp_s h
        exact xk_reI hx hb hr hlk hP hD hS rfl dX3_need_96
      · have h := sp_t c5 h
        refine lv_iconst (v := (0 : Int32)) hx hb dX3_need_73 (by decide) ?_
        obtain rfl := sp_s h
        exact xk_reI hx hb hr hlk hP hD hS rfl dX3_need_74
    · have h := hv3
      clear hv3
      refine lv_if_ne (tgt := 31) hx hb dX3_need_24 (by decide) (fun c8 => ?_) (fun c8 => ?_)
      · have h := sp_f c8 h
        refine lv_iload_n hx hb dX3_need_31 rfl (lv_at hl 2 rfl) ?_
        refine lv_iload_n hx hb dX3_need_32 rfl (lv_at hl 3 rfl) ?_
        refine lv_icmp_ne (tgt := 40) hx hb dX3_need_33 (by decide) (fun c9 => ?_) (fun c9 => ?_)
        · have h := sp_f c9 h
          refine lv_aload_n hx hb dX3_need_40 rfl (lv_at hl 1 rfl) ?_
          refine lv_iload_n hx hb dX3_need_41 rfl (lv_at hl 2 rfl) ?_
          refine lv_iload_n hx hb dX3_need_42 rfl (lv_at hl 3 rfl) ?_
          obtain ⟨o10, ho10, h⟩ := sp_b h
          refine xk_ci (va_runV (As := [.int i1, .int i2]) (rest := [.ref (za 0)]) ⟨hx, hb, hml, hown, hts⟩ (c_X3_hasNeed l G za (zz_0, zz_1, zz_2, zz_3, zz_4, zz_5, zz_6, zz_7, zz_8, zz_9, zz_10, zz_11, zz_12, zz_13, zz_14, zz_15, zz_16, zz_17) i1 i2 o10 ho10 H.size) (cwV 2 hts gX3_need_X3_hasNeed rfl rfl rfl (by decide +kernel) ⟨Nat.le_of_ble_eq_true rfl, Nat.le_of_ble_eq_true rfl⟩) (xk_preV hK hNE (hP.sub (ws' := (wMOc G za zz_0 zz_1 zz_2 zz_3 zz_4 zz_5 zz_6 zz_7 zz_8 zz_9 zz_10 zz_11 zz_12 zz_13 zz_14 zz_15 zz_16 zz_17)) [0, 1, 2, 3, 4, 5, 6, 7, 8, 9, 10, 11, 12, 13, 14, 15] rfl) (hD.sub (ws' := (wMOc G za zz_0 zz_1 zz_2 zz_3 zz_4 zz_5 zz_6 zz_7 zz_8 zz_9 zz_10 zz_11 zz_12 zz_13 zz_14 zz_15 zz_16 zz_17)) [0, 1, 2, 3, 4, 5, 6, 7, 8, 9, 10, 11, 12, 13, 14, 15] (by decide) rfl) (ci := 3) rfl rfl) rfl rfl hl.1 rfl (lv_room (Nat.le_of_ble_eq_true rfl)) dX3_need_43 ⟨Nat.le_of_ble_eq_true rfl, Nat.le_of_ble_eq_true rfl⟩) hP hD hS hA [0, 1, 2, 3, 4, 5, 6, 7, 8, 9, 10, 11, 12, 13, 14, 15] [] [0, 1, 2, 3, 4, 5, 6, 7, 8, 9, 10, 11, 12, 13, 14, 15] rfl rfl (by decide) (by decide) rfl (by decide) (fun H locs hP hD hS => ?_)
          have hP : va_P G.1 vwCl (wMOc G za zz_0 zz_1 zz_2 zz_3 zz_4 zz_5 zz_6 zz_7 zz_8 zz_9 zz_10 zz_11 zz_12 zz_13 zz_14 zz_15 zz_16 zz_17) H := hP
          have hD : va_D A (wMOc G za zz_0 zz_1 zz_2 zz_3 zz_4 zz_5 zz_6 zz_7 zz_8 zz_9 zz_10 zz_11 zz_12 zz_13 zz_14 zz_15 zz_16 zz_17) := hD
          refine lv_if_ne (tgt := 62) hx hb dX3_need_46 (by decide) (fun c11 => ?_) (fun c11 => ?_)
          · have h := sp_f c11 h
            refine lv_iconst (v := (3 : Int32)) hx hb dX3_need_62 (by decide) ?_
            refine lv_goto (tgt := 67) hx hb dX3_need_63 (by decide) ?_
            obtain rfl := sp_s h
            exact J3 _ _ hP hD hS _ (lv_sub hl [1, 2, 3] rfl)
          · have h := sp_t c11 h
            refine lv_aload_n hx hb dX3_need_49 rfl (lv_at hl 1 rfl) ?_
            refine lv_iload_n hx hb dX3_need_50 rfl (lv_at hl 3 rfl) ?_
            obtain ⟨o12, ho12, h⟩ := sp_b h
            refine xk_ci (va_runV (As := [.int i2]) (rest := [.ref (za 0)]) ⟨hx, hb, hml, hown, hts⟩ (c_X3_reached l G za (zz_0, zz_1, zz_2, zz_3, zz_4, zz_5, zz_6, zz_7, zz_8, zz_9, zz_10, zz_11, zz_12, zz_13, zz_14, zz_15, zz_16, zz_17) i2 o12 ho12 H.size) (cwV 1 hts gX3_need_X3_reached rfl rfl rfl (by decide +kernel) ⟨Nat.le_of_ble_eq_true rfl, Nat.le_of_ble_eq_true rfl⟩) (xk_preV hK hNE (hP.sub (ws' := (wMOc G za zz_0 zz_1 zz_2 zz_3 zz_4 zz_5 zz_6 zz_7 zz_8 zz_9 zz_10 zz_11 zz_12 zz_13 zz_14 zz_15 zz_16 zz_17)) [0, 1, 2, 3, 4, 5, 6, 7, 8, 9, 10, 11, 12, 13, 14, 15] rfl) (hD.sub (ws' := (wMOc G za zz_0 zz_1 zz_2 zz_3 zz_4 zz_5 zz_6 zz_7 zz_8 zz_9 zz_10 zz_11 zz_12 zz_13 zz_14 zz_15 zz_16 zz_17)) [0, 1, 2, 3, 4, 5, 6, 7, 8, 9, 10, 11, 12, 13, 14, 15] (by decide) rfl) (ci := 3) rfl rfl) rfl rfl hl.1 rfl (lv_room (Nat.le_of_ble_eq_true rfl)) dX3_need_51 ⟨Nat.le_of_ble_eq_true rfl, Nat.le_of_ble_eq_true rfl⟩) hP hD hS hA [0, 1, 2, 3, 4, 5, 6, 7, 8, 9, 10, 11, 12, 13, 14, 15] [] [0, 1, 2, 3, 4, 5, 6, 7, 8, 9, 10, 11, 12, 13, 14, 15] rfl rfl (by decide) (by decide) rfl (by decide) (fun H locs hP hD hS => ?_)
            have hP : va_P G.1 vwCl (wMOc G za zz_0 zz_1 zz_2 zz_3 zz_4 zz_5 zz_6 zz_7 zz_8 zz_9 zz_10 zz_11 zz_12 zz_13 zz_14 zz_15 zz_16 zz_17) H := hP
            have hD : va_D A (wMOc G za zz_0 zz_1 zz_2 zz_3 zz_4 zz_5 zz_6 zz_7 zz_8 zz_9 zz_10 zz_11 zz_12 zz_13 zz_14 zz_15 zz_16 zz_17) := hD
            refine lv_iload_n hx hb dX3_need_54 rfl (lv_at hl 2 rfl) ?_
            refine lv_ishr hx hb dX3_need_55 ?_
            refine lv_iconst (v := (1 : Int32)) hx hb dX3_need_56 (by decide) ?_
            refine lv_iand hx hb dX3_need_57 ?_
            refine lv_iconst (v := (1 : Int32)) hx hb dX3_need_58 (by decide) ?_
            refine lv_icmp_ne (tgt := 66) hx hb dX3_need_59 (by decide) (fun c13 => ?_) (fun c13 => ?_)
            · have h := sp_f c13 h
              refine lv_iconst (v := (0 : Int32)) hx hb dX3_need_66 (by decide) ?_
              obtain rfl := sp_s h
              exact J3 _ _ hP hD hS _ (lv_sub hl [1, 2, 3] rfl)
            · have h := sp_t c13 h
              refine lv_iconst (v := (3 : Int32)) hx hb dX3_need_62 (by decide) ?_
              refine lv_goto (tgt := 67) hx hb dX3_need_63 (by decide) ?_
              obtain rfl := sp_s h
              exact J3 _ _ hP hD hS _ (lv_sub hl [1, 2, 3] rfl)
        · have h := sp_t c9 h
          refine lv_iconst (v := (2 : Int32)) hx hb dX3_need_36 (by decide) ?_
          refine lv_goto (tgt := 67) hx hb dX3_need_37 (by decide) ?_
          obtain rfl := sp_s h
          exact J3 _ _ hP hD hS _ (lv_sub hl [1, 2, 3] rfl)
      · have h := sp_t c8 h
        refine lv_iconst (v := (1 : Int32)) hx hb dX3_need_27 (by decide) ?_
        refine lv_goto (tgt := 67) hx hb dX3_need_28 (by decide) ?_
        obtain rfl := sp_s h
        exact J3 _ _ hP hD hS _ (lv_sub hl [1, 2, 3] rfl)
  · have h := hv2
    clear hv2
    refine lv_if_eq (tgt := 20) hx hb dX3_need_5 (by decide) (fun c14 => ?_) (fun c14 => ?_)
    · have h := sp_t c14 h
      refine lv_iconst (v := (0 : Int32)) hx hb dX3_need_20 (by decide) ?_
      obtain rfl := sp_s h
      exact J2 _ _ hP hD hS _ (lv_sub hl [0, 1, 2] rfl)
    · have h := sp_f c14 h
      refine lv_aload_n hx hb dX3_need_8 rfl (lv_at hl 0 rfl) ?_
      refine lv_iload_n hx hb dX3_need_9 rfl (lv_at hl 2 rfl) ?_
      obtain ⟨o15, ho15, h⟩ := sp_b h
      refine xk_ci (va_runV (As := [.int i2]) (rest := []) ⟨hx, hb, hml, hown, hts⟩ (c_X3_isAim l G za (zz_0, zz_1, zz_2, zz_3, zz_4, zz_5, zz_6, zz_7, zz_8, zz_9, zz_10, zz_11, zz_12, zz_13, zz_14, zz_15, zz_16, zz_17) i2 o15 ho15 H.size) (cwV 1 hts gX3_need_X3_isAim rfl rfl rfl (by decide +kernel) ⟨Nat.le_of_ble_eq_true rfl, Nat.le_of_ble_eq_true rfl⟩) (xk_preV hK hNE (hP.sub (ws' := (wMOc G za zz_0 zz_1 zz_2 zz_3 zz_4 zz_5 zz_6 zz_7 zz_8 zz_9 zz_10 zz_11 zz_12 zz_13 zz_14 zz_15 zz_16 zz_17)) [0, 1, 2, 3, 4, 5, 6, 7, 8, 9, 10, 11, 12, 13, 14, 15] rfl) (hD.sub (ws' := (wMOc G za zz_0 zz_1 zz_2 zz_3 zz_4 zz_5 zz_6 zz_7 zz_8 zz_9 zz_10 zz_11 zz_12 zz_13 zz_14 zz_15 zz_16 zz_17)) [0, 1, 2, 3, 4, 5, 6, 7, 8, 9, 10, 11, 12, 13, 14, 15] (by decide) rfl) (ci := 3) rfl rfl) rfl rfl hl.1 rfl (lv_room (Nat.le_of_ble_eq_true rfl)) dX3_need_10 ⟨Nat.le_of_ble_eq_true rfl, Nat.le_of_ble_eq_true rfl⟩) hP hD hS hA [0, 1, 2, 3, 4, 5, 6, 7, 8, 9, 10, 11, 12, 13, 14, 15] [] [0, 1, 2, 3, 4, 5, 6, 7, 8, 9, 10, 11, 12, 13, 14, 15] rfl rfl (by decide) (by decide) rfl (by decide) (fun H locs hP hD hS => ?_)
      have hP : va_P G.1 vwCl (wMOc G za zz_0 zz_1 zz_2 zz_3 zz_4 zz_5 zz_6 zz_7 zz_8 zz_9 zz_10 zz_11 zz_12 zz_13 zz_14 zz_15 zz_16 zz_17) H := hP
      have hD : va_D A (wMOc G za zz_0 zz_1 zz_2 zz_3 zz_4 zz_5 zz_6 zz_7 zz_8 zz_9 zz_10 zz_11 zz_12 zz_13 zz_14 zz_15 zz_16 zz_17) := hD
      refine lv_if_eq (tgt := 20) hx hb dX3_need_13 (by decide) (fun c16 => ?_) (fun c16 => ?_)
      · have h := sp_t c16 h
        refine lv_iconst (v := (0 : Int32)) hx hb dX3_need_20 (by decide) ?_
        obtain rfl := sp_s h
        exact J2 _ _ hP hD hS _ (lv_sub hl [0, 1, 2] rfl)
      · have h := sp_f c16 h
        refine lv_iconst (v := (1 : Int32)) hx hb dX3_need_16 (by decide) ?_
        refine lv_goto (tgt := 21) hx hb dX3_need_17 (by decide) ?_
        obtain rfl := sp_s h
        exact J2 _ _ hP hD hS _ (lv_sub hl [0, 1, 2] rfl)
def f_X3_free (zz : xMO) (i1 : Int32) (i2 : Int32) : Option (Int32 × xF × Int32) :=
  Option.bind (f_X3_isAim (zz.1, zz.2.1, zz.2.2.1, zz.2.2.2.1, zz.2.2.2.2.1, zz.2.2.2.2.2.1, zz.2.2.2.2.2.2.1, zz.2.2.2.2.2.2.2.1, zz.2.2.2.2.2.2.2.2.1, zz.2.2.2.2.2.2.2.2.2.1, zz.2.2.2.2.2.2.2.2.2.2.1, zz.2.2.2.2.2.2.2.2.2.2.2.1, zz.2.2.2.2.2.2.2.2.2.2.2.2.1, zz.2.2.2.2.2.2.2.2.2.2.2.2.2.1, zz.2.2.2.2.2.2.2.2.2.2.2.2.2.2.1, zz.2.2.2.2.2.2.2.2.2.2.2.2.2.2.2.1, zz.2.2.2.2.2.2.2.2.2.2.2.2.2.2.2.2.1, zz.2.2.2.2.2.2.2.2.2.2.2.2.2.2.2.2.2) i1) fun (o1 : Int32) =>
  Option.bind (
    if o1 = 0 then
      some (1 : Int32)
    else
      Option.bind (f_X3_isAim (zz.1, zz.2.1, zz.2.2.1, zz.2.2.2.1, zz.2.2.2.2.1, zz.2.2.2.2.2.1, zz.2.2.2.2.2.2.1, zz.2.2.2.2.2.2.2.1, zz.2.2.2.2.2.2.2.2.1, zz.2.2.2.2.2.2.2.2.2.1, zz.2.2.2.2.2.2.2.2.2.2.1, zz.2.2.2.2.2.2.2.2.2.2.2.1, zz.2.2.2.2.2.2.2.2.2.2.2.2.1, zz.2.2.2.2.2.2.2.2.2.2.2.2.2.1, zz.2.2.2.2.2.2.2.2.2.2.2.2.2.2.1, zz.2.2.2.2.2.2.2.2.2.2.2.2.2.2.2.1, zz.2.2.2.2.2.2.2.2.2.2.2.2.2.2.2.2.1, zz.2.2.2.2.2.2.2.2.2.2.2.2.2.2.2.2.2) i2) fun (o8 : Int32) =>
      if o8 = 0 then
        some (1 : Int32)
      else
        Option.bind (f_X3_hasNeed (zz.1, zz.2.1, zz.2.2.1, zz.2.2.2.1, zz.2.2.2.2.1, zz.2.2.2.2.2.1, zz.2.2.2.2.2.2.1, zz.2.2.2.2.2.2.2.1, zz.2.2.2.2.2.2.2.2.1, zz.2.2.2.2.2.2.2.2.2.1, zz.2.2.2.2.2.2.2.2.2.2.1, zz.2.2.2.2.2.2.2.2.2.2.2.1, zz.2.2.2.2.2.2.2.2.2.2.2.2.1, zz.2.2.2.2.2.2.2.2.2.2.2.2.2.1, zz.2.2.2.2.2.2.2.2.2.2.2.2.2.2.1, zz.2.2.2.2.2.2.2.2.2.2.2.2.2.2.2.1, zz.2.2.2.2.2.2.2.2.2.2.2.2.2.2.2.2.1, zz.2.2.2.2.2.2.2.2.2.2.2.2.2.2.2.2.2) i1 i2) fun (o10 : Int32) =>
        if o10 = 0 then
          some (2 : Int32)
        else
          some (0 : Int32)) fun (v2 : Int32) =>
  Option.bind (f_X3_can (zz.1, zz.2.1, zz.2.2.1, zz.2.2.2.1, zz.2.2.2.2.1, zz.2.2.2.2.2.1, zz.2.2.2.2.2.2.1, zz.2.2.2.2.2.2.2.1, zz.2.2.2.2.2.2.2.2.1, zz.2.2.2.2.2.2.2.2.2.1, zz.2.2.2.2.2.2.2.2.2.2.1, zz.2.2.2.2.2.2.2.2.2.2.2.1, zz.2.2.2.2.2.2.2.2.2.2.2.2.1, zz.2.2.2.2.2.2.2.2.2.2.2.2.2.1, zz.2.2.2.2.2.2.2.2.2.2.2.2.2.2.1, zz.2.2.2.2.2.2.2.2.2.2.2.2.2.2.2.1, zz.2.2.2.2.2.2.2.2.2.2.2.2.2.2.2.2.1, zz.2.2.2.2.2.2.2.2.2.2.2.2.2.2.2.2.2) v2) fun (o3 : Int32 × Int32) =>
  if o3.1 = 0 then
    some ((0 : Int32), zz.2.2.2.2.2.1, o3.2)
  else
    if i1 < 0 ∨ 12 ≤ i1.toNatClampNeg then none else
    Option.bind (f_X3_size ((upd zz.2.2.2.2.2.1 i1.toNatClampNeg ((zz.2.2.2.2.2.1 i1.toNatClampNeg) &&& (((1 : Int32) <<< (i2 &&& 31)) ^^^ ((-1) : Int32)))) i1.toNatClampNeg)) fun (o6 : Int32) =>
    some (o6, (upd zz.2.2.2.2.2.1 i1.toNatClampNeg ((zz.2.2.2.2.2.1 i1.toNatClampNeg) &&& (((1 : Int32) <<< (i2 &&& 31)) ^^^ ((-1) : Int32)))), o3.2)
theorem f_X3_free_e (zz_0 : Int32) (zz_1 : xF) (zz_2 : xF) (zz_3 : xF) (zz_4 : xF) (zz_5 : xF) (zz_6 : xF) (zz_7 : xF) (zz_8 : xF) (zz_9 : xF) (zz_10 : xF) (zz_11 : xF) (zz_12 : xF) (zz_13 : xF) (zz_14 : xF) (zz_15 : xF) (zz_16 : Int32) (zz_17 : Int32) (i1 : Int32) (i2 : Int32) : f_X3_free (zz_0, zz_1, zz_2, zz_3, zz_4, zz_5, zz_6, zz_7, zz_8, zz_9, zz_10, zz_11, zz_12, zz_13, zz_14, zz_15, zz_16, zz_17) i1 i2 =
  Option.bind (f_X3_isAim (zz_0, zz_1, zz_2, zz_3, zz_4, zz_5, zz_6, zz_7, zz_8, zz_9, zz_10, zz_11, zz_12, zz_13, zz_14, zz_15, zz_16, zz_17) i1) fun (o1 : Int32) =>
  Option.bind (
    if o1 = 0 then
      some (1 : Int32)
    else
      Option.bind (f_X3_isAim (zz_0, zz_1, zz_2, zz_3, zz_4, zz_5, zz_6, zz_7, zz_8, zz_9, zz_10, zz_11, zz_12, zz_13, zz_14, zz_15, zz_16, zz_17) i2) fun (o8 : Int32) =>
      if o8 = 0 then
        some (1 : Int32)
      else
        Option.bind (f_X3_hasNeed (zz_0, zz_1, zz_2, zz_3, zz_4, zz_5, zz_6, zz_7, zz_8, zz_9, zz_10, zz_11, zz_12, zz_13, zz_14, zz_15, zz_16, zz_17) i1 i2) fun (o10 : Int32) =>
        if o10 = 0 then
          some (2 : Int32)
        else
          some (0 : Int32)) fun (v2 : Int32) =>
  Option.bind (f_X3_can (zz_0, zz_1, zz_2, zz_3, zz_4, zz_5, zz_6, zz_7, zz_8, zz_9, zz_10, zz_11, zz_12, zz_13, zz_14, zz_15, zz_16, zz_17) v2) fun (o3 : Int32 × Int32) =>
  if o3.1 = 0 then
    some ((0 : Int32), zz_5, o3.2)
  else
    if i1 < 0 ∨ 12 ≤ i1.toNatClampNeg then none else
    Option.bind (f_X3_size ((upd zz_5 i1.toNatClampNeg ((zz_5 i1.toNatClampNeg) &&& (((1 : Int32) <<< (i2 &&& 31)) ^^^ ((-1) : Int32)))) i1.toNatClampNeg)) fun (o6 : Int32) =>
    some (o6, (upd zz_5 i1.toNatClampNeg ((zz_5 i1.toNatClampNeg) &&& (((1 : Int32) <<< (i2 &&& 31)) ^^^ ((-1) : Int32)))), o3.2) := rfl
set_option maxHeartbeats 4000000 in
set_option maxRecDepth 100000 in
theorem c_X3_free (l : Launch) (G : xG) (za : (Nat → Nat)) (zz : xMO) (i1 : Int32) (i2 : Int32) (o : Int32 × xF × Int32) (h : f_X3_free zz i1 i2 = some o) : xk_CI l yX3_free wsX3_free ({ frames := 2, cells := 0, slots := 0, locals := 43 } : Room) 0 0 [.ref (za 0), .int i1, .int i2] G (wMOc G za zz.1 zz.2.1 zz.2.2.1 zz.2.2.2.1 zz.2.2.2.2.1 zz.2.2.2.2.2.1 zz.2.2.2.2.2.2.1 zz.2.2.2.2.2.2.2.1 zz.2.2.2.2.2.2.2.2.1 zz.2.2.2.2.2.2.2.2.2.1 zz.2.2.2.2.2.2.2.2.2.2.1 zz.2.2.2.2.2.2.2.2.2.2.2.1 zz.2.2.2.2.2.2.2.2.2.2.2.2.1 zz.2.2.2.2.2.2.2.2.2.2.2.2.2.1 zz.2.2.2.2.2.2.2.2.2.2.2.2.2.2.1 zz.2.2.2.2.2.2.2.2.2.2.2.2.2.2.2.1 zz.2.2.2.2.2.2.2.2.2.2.2.2.2.2.2.2.1 zz.2.2.2.2.2.2.2.2.2.2.2.2.2.2.2.2.2) (wMOc G za zz.1 zz.2.1 zz.2.2.1 zz.2.2.2.1 zz.2.2.2.2.1 o.2.1 zz.2.2.2.2.2.2.1 zz.2.2.2.2.2.2.2.1 zz.2.2.2.2.2.2.2.2.1 zz.2.2.2.2.2.2.2.2.2.1 zz.2.2.2.2.2.2.2.2.2.2.1 zz.2.2.2.2.2.2.2.2.2.2.2.1 zz.2.2.2.2.2.2.2.2.2.2.2.2.1 zz.2.2.2.2.2.2.2.2.2.2.2.2.2.1 zz.2.2.2.2.2.2.2.2.2.2.2.2.2.2.1 zz.2.2.2.2.2.2.2.2.2.2.2.2.2.2.2.1 zz.2.2.2.2.2.2.2.2.2.2.2.2.2.2.2.2.1 o.2.2) o.1 := by
  obtain ⟨zz_0, zz_1, zz_2, zz_3, zz_4, zz_5, zz_6, zz_7, zz_8, zz_9, zz_10, zz_11, zz_12, zz_13, zz_14, zz_15, zz_16, zz_17⟩ := zz
  refine xk_CI.of (cc := cX3_free) (maxL := 3) (ret := (some .int)) (by decide) rfl (Nat.le_of_ble_eq_true rfl) ?_
  intro pr9 en9 s mm9 bl9 meth9 cd9 A ls H locs hx hb hr hml hts hown hlk hA hP hK hD hNE hS hl
  have hown : s.vm.findClass RX3 = some mm9.cls := hown
  have hl : lv_has ls 3 [(0, .ref (za 0)), (1, .int i1), (2, .int i2)] := hl
  have hinX3 : ∀ w ∈ u_ws RX3 TX3 18, w ∈ wsX3_free := by decide +kernel
  have hP : va_P G.1 vwCl (wMOc G za zz_0 zz_1 zz_2 zz_3 zz_4 zz_5 zz_6 zz_7 zz_8 zz_9 zz_10 zz_11 zz_12 zz_13 zz_14 zz_15 zz_16 zz_17) H := hP
  have hD : va_D A (wMOc G za zz_0 zz_1 zz_2 zz_3 zz_4 zz_5 zz_6 zz_7 zz_8 zz_9 zz_10 zz_11 zz_12 zz_13 zz_14 zz_15 zz_16 zz_17) := hD
  have h := (f_X3_free_e zz_0 zz_1 zz_2 zz_3 zz_4 zz_5 zz_6 zz_7 zz_8 zz_9 zz_10 zz_11 zz_12 zz_13 zz_14 zz_15 zz_16 zz_17 i1 i2).symm.trans h
  refine lv_aload_n hx hb dX3_free_0 rfl (lv_at hl 0 rfl) ?_
  refine lv_aload_n hx hb dX3_free_1 rfl (lv_at hl 0 rfl) ?_
  refine lv_iload_n hx hb dX3_free_2 rfl (lv_at hl 1 rfl) ?_
  obtain ⟨o1, ho1, h⟩ := sp_b h
  refine xk_ci (va_runV (As := [.int i1]) (rest := [.ref (za 0)]) ⟨hx, hb, hml, hown, hts⟩ (c_X3_isAim l G za (zz_0, zz_1, zz_2, zz_3, zz_4, zz_5, zz_6, zz_7, zz_8, zz_9, zz_10, zz_11, zz_12, zz_13, zz_14, zz_15, zz_16, zz_17) i1 o1 ho1 H.size) (cwV 1 hts gX3_free_X3_isAim rfl rfl rfl (by decide +kernel) ⟨Nat.le_of_ble_eq_true rfl, Nat.le_of_ble_eq_true rfl⟩) (xk_preV hK hNE (hP.sub (ws' := (wMOc G za zz_0 zz_1 zz_2 zz_3 zz_4 zz_5 zz_6 zz_7 zz_8 zz_9 zz_10 zz_11 zz_12 zz_13 zz_14 zz_15 zz_16 zz_17)) [0, 1, 2, 3, 4, 5, 6, 7, 8, 9, 10, 11, 12, 13, 14, 15] rfl) (hD.sub (ws' := (wMOc G za zz_0 zz_1 zz_2 zz_3 zz_4 zz_5 zz_6 zz_7 zz_8 zz_9 zz_10 zz_11 zz_12 zz_13 zz_14 zz_15 zz_16 zz_17)) [0, 1, 2, 3, 4, 5, 6, 7, 8, 9, 10, 11, 12, 13, 14, 15] (by decide) rfl) (ci := 3) rfl rfl) rfl rfl hl.1 rfl (lv_room (Nat.le_of_ble_eq_true rfl)) dX3_free_3 ⟨Nat.le_of_ble_eq_true rfl, Nat.le_of_ble_eq_true rfl⟩) hP hD hS hA [0, 1, 2, 3, 4, 5, 6, 7, 8, 9, 10, 11, 12, 13, 14, 15] [] [0, 1, 2, 3, 4, 5, 6, 7, 8, 9, 10, 11, 12, 13, 14, 15] rfl rfl (by decide) (by decide) rfl (by decide) (fun H locs hP hD hS => ?_)
  have hP : va_P G.1 vwCl (wMOc G za zz_0 zz_1 zz_2 zz_3 zz_4 zz_5 zz_6 zz_7 zz_8 zz_9 zz_10 zz_11 zz_12 zz_13 zz_14 zz_15 zz_16 zz_17) H := hP
  have hD : va_D A (wMOc G za zz_0 zz_1 zz_2 zz_3 zz_4 zz_5 zz_6 zz_7 zz_8 zz_9 zz_10 zz_11 zz_12 zz_13 zz_14 zz_15 zz_16 zz_17) := hD
  obtain ⟨v2, hv2, h⟩ := sp_b h
  refine xk_jn G A s.heap (wMOc G za zz_0 zz_1 zz_2 zz_3 zz_4 zz_5 zz_6 zz_7 zz_8 zz_9 zz_10 zz_11 zz_12 zz_13 zz_14 zz_15 zz_16 zz_17) 3 [(0, .ref (za 0)), (1, .int i1), (2, .int i2)] 35 [.int v2, .ref (za 0)] (fun H locs hP hD hS ls hl => ?_) (fun J2 => ?_)
  · obtain ⟨o3, ho3, h⟩ := sp_b h
    refine xk_ci (va_runV (As := [.int v2]) (rest := []) ⟨hx, hb, hml, hown, hts⟩ (c_X3_can l G za (zz_0, zz_1, zz_2, zz_3, zz_4, zz_5, zz_6, zz_7, zz_8, zz_9, zz_10, zz_11, zz_12, zz_13, zz_14, zz_15, zz_16, zz_17) v2 o3 ho3 H.size) (cwV 1 hts gX3_free_X3_can rfl rfl rfl (by decide +kernel) ⟨Nat.le_of_ble_eq_true rfl, Nat.le_of_ble_eq_true rfl⟩) (xk_preV hK hNE (hP.sub (ws' := (wMOc G za zz_0 zz_1 zz_2 zz_3 zz_4 zz_5 zz_6 zz_7 zz_8 zz_9 zz_10 zz_11 zz_12 zz_13 zz_14 zz_15 zz_16 zz_17)) [0, 1, 2, 3, 4, 5, 6, 7, 8, 9, 10, 11, 12, 13, 14, 15] rfl) (hD.sub (ws' := (wMOc G za zz_0 zz_1 zz_2 zz_3 zz_4 zz_5 zz_6 zz_7 zz_8 zz_9 zz_10 zz_11 zz_12 zz_13 zz_14 zz_15 zz_16 zz_17)) [0, 1, 2, 3, 4, 5, 6, 7, 8, 9, 10, 11, 12, 13, 14, 15] (by decide) rfl) (ci := 3) rfl rfl) rfl rfl hl.1 rfl (lv_room (Nat.le_of_ble_eq_true rfl)) dX3_free_35 ⟨Nat.le_of_ble_eq_true rfl, Nat.le_of_ble_eq_true rfl⟩) hP hD hS hA [0, 1, 2, 3, 4, 5, 6, 7, 8, 9, 10, 11, 12, 13, 14, 15] [] [0, 1, 2, 3, 4, 5, 6, 7, 8, 9, 10, 11, 12, 13, 14, 15] rfl rfl (by decide) (by decide) rfl (by decide) (fun H locs hP hD hS => ?_)
    have hP : va_P G.1 vwCl (wMOc G za zz_0 zz_1 zz_2 zz_3 zz_4 zz_5 zz_6 zz_7 zz_8 zz_9 zz_10 zz_11 zz_12 zz_13 zz_14 zz_15 zz_16 o3.2) H := hP
    have hD : va_D A (wMOc G za zz_0 zz_1 zz_2 zz_3 zz_4 zz_5 zz_6 zz_7 zz_8 zz_9 zz_10 zz_11 zz_12 zz_13 zz_14 zz_15 zz_16 o3.2) := hD
    refine lv_if_ne (tgt := 43) hx hb dX3_free_38 (by decide) (fun c4 => ?_) (fun c4 => ?_)
    · have h := sp_f c4 h
      refine lv_aload_n hx hb dX3_free_43 rfl (lv_at hl 0 rfl) ?_
      refine va_get (D := G.1) (ci := 3) (v := .ref (za 5)) (C := RX3) (T := TX3) (N := 18) hx hb hts hinX3 hown hK hP 0 rfl rfl 5 (by decide) (hts (.fieldLink RX3 22 "LessonWeaveModel" "needs" "[I") (by decide +kernel)) (fun _ h9 => h9) rfl dX3_free_44 ?_
      refine lv_iload_n hx hb dX3_free_47 rfl (lv_at hl 1 rfl) ?_
      refine lv_dup2_11 hx hb dX3_free_48 rfl rfl ?_
      obtain ⟨hin5, h⟩ := sp_g h
      refine va_iald hx hb hK hP 5 0 rfl rfl hin5 dX3_free_49 ?_
      refine lv_iconst (v := (1 : Int32)) hx hb dX3_free_50 (by decide) ?_
      refine lv_iload_n hx hb dX3_free_51 rfl (lv_at hl 2 rfl) ?_
      refine lv_ishl hx hb dX3_free_52 ?_
      refine lv_iconst (v := ((-1) : Int32)) hx hb dX3_free_53 (by decide) ?_
      refine lv_ixor hx hb dX3_free_54 ?_
      refine lv_iand hx hb dX3_free_55 ?_
      refine va_iast hx hb hK hP hD hS 5 0 rfl rfl hin5 dX3_free_56 (fun H locs hP hD hS => ?_)
      have hP : va_P G.1 vwCl (wMOc G za zz_0 zz_1 zz_2 zz_3 zz_4 (upd zz_5 i1.toNatClampNeg ((zz_5 i1.toNatClampNeg) &&& (((1 : Int32) <<< (i2 &&& 31)) ^^^ ((-1) : Int32)))) zz_6 zz_7 zz_8 zz_9 zz_10 zz_11 zz_12 zz_13 zz_14 zz_15 zz_16 o3.2) H := hP
      have hD : va_D A (wMOc G za zz_0 zz_1 zz_2 zz_3 zz_4 (upd zz_5 i1.toNatClampNeg ((zz_5 i1.toNatClampNeg) &&& (((1 : Int32) <<< (i2 &&& 31)) ^^^ ((-1) : Int32)))) zz_6 zz_7 zz_8 zz_9 zz_10 zz_11 zz_12 zz_13 zz_14 zz_15 zz_16 o3.2) := hD
      refine lv_aload_n hx hb dX3_free_57 rfl (lv_at hl 0 rfl) ?_
      refine va_get (D := G.1) (ci := 3) (v := .ref (za 5)) (C := RX3) (T := TX3) (N := 18) hx hb hts hinX3 hown hK hP 0 rfl rfl 5 (by decide) (hts (.fieldLink RX3 22 "LessonWeaveModel" "needs" "[I") (by decide +kernel)) (fun _ h9 => h9) rfl dX3_free_58 ?_
      refine lv_iload_n hx hb dX3_free_61 rfl (lv_at hl 1 rfl) ?_
      refine va_iald hx hb hK hP 5 0 rfl rfl hin5 dX3_free_62 ?_
      obtain ⟨o6, ho6, h⟩ := sp_b h
      refine xk_ci (va_runS (As := [.int ((upd zz_5 i1.toNatClampNeg ((zz_5 i1.toNatClampNeg) &&& (((1 : Int32) <<< (i2 &&& 31)) ^^^ ((-1) : Int32)))) i1.toNatClampNeg)]) (rest := []) ⟨hx, hb, hml, hown, hts⟩ (c_X3_size l G ((upd zz_5 i1.toNatClampNeg ((zz_5 i1.toNatClampNeg) &&& (((1 : Int32) <<< (i2 &&& 31)) ^^^ ((-1) : Int32)))) i1.toNatClampNeg) o6 ho6 H.size) (va_cwS 1 hts gX3_free_X3_size rfl rfl rfl (by decide +kernel) ⟨Nat.le_of_ble_eq_true rfl, Nat.le_of_ble_eq_true rfl⟩) (xk_preS hK hNE (hP.sub (ws' := []) [] rfl) (hD.sub (ws' := []) [] (by decide) rfl)) rfl rfl hl.1 rfl (lv_room (Nat.le_of_ble_eq_true rfl)) dX3_free_63 ⟨Nat.le_of_ble_eq_true rfl, Nat.le_of_ble_eq_true rfl⟩) hP hD hS hA [] [0, 1, 2, 3, 4, 5, 6, 7, 8, 9, 10, 11, 12, 13, 14, 15] [0, 1, 2, 3, 4, 5, 6, 7, 8, 9, 10, 11, 12, 13, 14, 15] rfl rfl (by decide) (by decide) rfl (by decide) (fun H locs hP hD hS => ?_)
      have hP : va_P G.1 vwCl (wMOc G za zz_0 zz_1 zz_2 zz_3 zz_4 (upd zz_5 i1.toNatClampNeg ((zz_5 i1.toNatClampNeg) &&& (((1 : Int32) <<< (i2 &&& 31)) ^^^ ((-1) : Int32)))) zz_6 zz_7 zz_8 zz_9 zz_10 zz_11 zz_12 zz_13 zz_14 zz_15 zz_16 o3.2) H := hP
      have hD : va_D A (wMOc G za zz_0 zz_1 zz_2 zz_3 zz_4 (upd zz_5 i1.toNatClampNeg ((zz_5 i1.toNatClampNeg) &&& (((1 : Int32) <<< (i2 &&& 31)) ^^^ ((-1) : Int32)))) zz_6 zz_7 zz_8 zz_9 zz_10 zz_11 zz_12 zz_13 zz_14 zz_15 zz_16 o3.2) := hD
      obtain rfl := sp_s h
      exact xk_reI hx hb hr hlk hP hD hS rfl dX3_free_66
    · have h := sp_t c4 h
      refine lv_iconst (v := (0 : Int32)) hx hb dX3_free_41 (by decide) ?_
      obtain rfl := sp_s h
      exact xk_reI hx hb hr hlk hP hD hS rfl dX3_free_42
  · have h := hv2
    clear hv2
    refine lv_if_eq (tgt := 17) hx hb dX3_free_6 (by decide) (fun c7 => ?_) (fun c7 => ?_)
    · have h := sp_t c7 h
      refine lv_iconst (v := (1 : Int32)) hx hb dX3_free_17 (by decide) ?_
      refine lv_goto (tgt := 35) hx hb dX3_free_18 (by decide) ?_
      obtain rfl := sp_s h
      exact J2 _ _ hP hD hS _ (lv_sub hl [0, 1, 2] rfl)
    · have h := sp_f c7 h
      refine lv_aload_n hx hb dX3_free_9 rfl (lv_at hl 0 rfl) ?_
      refine lv_iload_n hx hb dX3_free_10 rfl (lv_at hl 2 rfl) ?_
      obtain ⟨o8, ho8, h⟩ := sp_b h
      refine xk_ci (va_runV (As := [.int i2]) (rest := [.ref (za 0)]) ⟨hx, hb, hml, hown, hts⟩ (c_X3_isAim l G za (zz_0, zz_1, zz_2, zz_3, zz_4, zz_5, zz_6, zz_7, zz_8, zz_9, zz_10, zz_11, zz_12, zz_13, zz_14, zz_15, zz_16, zz_17) i2 o8 ho8 H.size) (cwV 1 hts gX3_free_X3_isAim rfl rfl rfl (by decide +kernel) ⟨Nat.le_of_ble_eq_true rfl, Nat.le_of_ble_eq_true rfl⟩) (xk_preV hK hNE (hP.sub (ws' := (wMOc G za zz_0 zz_1 zz_2 zz_3 zz_4 zz_5 zz_6 zz_7 zz_8 zz_9 zz_10 zz_11 zz_12 zz_13 zz_14 zz_15 zz_16 zz_17)) [0, 1, 2, 3, 4, 5, 6, 7, 8, 9, 10, 11, 12, 13, 14, 15] rfl) (hD.sub (ws' := (wMOc G za zz_0 zz_1 zz_2 zz_3 zz_4 zz_5 zz_6 zz_7 zz_8 zz_9 zz_10 zz_11 zz_12 zz_13 zz_14 zz_15 zz_16 zz_17)) [0, 1, 2, 3, 4, 5, 6, 7, 8, 9, 10, 11, 12, 13, 14, 15] (by decide) rfl) (ci := 3) rfl rfl) rfl rfl hl.1 rfl (lv_room (Nat.le_of_ble_eq_true rfl)) dX3_free_11 ⟨Nat.le_of_ble_eq_true rfl, Nat.le_of_ble_eq_true rfl⟩) hP hD hS hA [0, 1, 2, 3, 4, 5, 6, 7, 8, 9, 10, 11, 12, 13, 14, 15] [] [0, 1, 2, 3, 4, 5, 6, 7, 8, 9, 10, 11, 12, 13, 14, 15] rfl rfl (by decide) (by decide) rfl (by decide) (fun H locs hP hD hS => ?_)
      have hP : va_P G.1 vwCl (wMOc G za zz_0 zz_1 zz_2 zz_3 zz_4 zz_5 zz_6 zz_7 zz_8 zz_9 zz_10 zz_11 zz_12 zz_13 zz_14 zz_15 zz_16 zz_17) H := hP
      have hD : va_D A (wMOc G za zz_0 zz_1 zz_2 zz_3 zz_4 zz_5 zz_6 zz_7 zz_8 zz_9 zz_10 zz_11 zz_12 zz_13 zz_14 zz_15 zz_16 zz_17) := hD
      refine lv_if_ne (tgt := 21) hx hb dX3_free_14 (by decide) (fun c9 => ?_) (fun c9 => ?_)
      · have h := sp_f c9 h
        refine lv_aload_n hx hb dX3_free_21 rfl (lv_at hl 0 rfl) ?_
        refine lv_iload_n hx hb dX3_free_22 rfl (lv_at hl 1 rfl) ?_
        refine lv_iload_n hx hb dX3_free_23 rfl (lv_at hl 2 rfl) ?_
        obtain ⟨o10, ho10, h⟩ := sp_b h
        refine xk_ci (va_runV (As := [.int i1, .int i2]) (rest := [.ref (za 0)]) ⟨hx, hb, hml, hown, hts⟩ (c_X3_hasNeed l G za (zz_0, zz_1, zz_2, zz_3, zz_4, zz_5, zz_6, zz_7, zz_8, zz_9, zz_10, zz_11, zz_12, zz_13, zz_14, zz_15, zz_16, zz_17) i1 i2 o10 ho10 H.size) (cwV 2 hts gX3_free_X3_hasNeed rfl rfl rfl (by decide +kernel) ⟨Nat.le_of_ble_eq_true rfl, Nat.le_of_ble_eq_true rfl⟩) (xk_preV hK hNE (hP.sub (ws' := (wMOc G za zz_0 zz_1 zz_2 zz_3 zz_4 zz_5 zz_6 zz_7 zz_8 zz_9 zz_10 zz_11 zz_12 zz_13 zz_14 zz_15 zz_16 zz_17)) [0, 1, 2, 3, 4, 5, 6, 7, 8, 9, 10, 11, 12, 13, 14, 15] rfl) (hD.sub (ws' := (wMOc G za zz_0 zz_1 zz_2 zz_3 zz_4 zz_5 zz_6 zz_7 zz_8 zz_9 zz_10 zz_11 zz_12 zz_13 zz_14 zz_15 zz_16 zz_17)) [0, 1, 2, 3, 4, 5, 6, 7, 8, 9, 10, 11, 12, 13, 14, 15] (by decide) rfl) (ci := 3) rfl rfl) rfl rfl hl.1 rfl (lv_room (Nat.le_of_ble_eq_true rfl)) dX3_free_24 ⟨Nat.le_of_ble_eq_true rfl, Nat.le_of_ble_eq_true rfl⟩) hP hD hS hA [0, 1, 2, 3, 4, 5, 6, 7, 8, 9, 10, 11, 12, 13, 14, 15] [] [0, 1, 2, 3, 4, 5, 6, 7, 8, 9, 10, 11, 12, 13, 14, 15] rfl rfl (by decide) (by decide) rfl (by decide) (fun H locs hP hD hS => ?_)
        have hP : va_P G.1 vwCl (wMOc G za zz_0 zz_1 zz_2 zz_3 zz_4 zz_5 zz_6 zz_7 zz_8 zz_9 zz_10 zz_11 zz_12 zz_13 zz_14 zz_15 zz_16 zz_17) H := hP
        have hD : va_D A (wMOc G za zz_0 zz_1 zz_2 zz_3 zz_4 zz_5 zz_6 zz_7 zz_8 zz_9 zz_10 zz_11 zz_12 zz_13 zz_14 zz_15 zz_16 zz_17) := hD
        refine lv_if_eq (tgt := 34) hx hb dX3_free_27 (by decide) (fun c11 => ?_) (fun c11 => ?_)
        · have h := sp_t c11 h
          refine lv_iconst (v := (2 : Int32)) hx hb dX3_free_34 (by decide) ?_
          obtain rfl := sp_s h
          exact J2 _ _ hP hD hS _ (lv_sub hl [0, 1, 2] rfl)
        · have h := sp_f c11 h
          refine lv_iconst (v := (0 : Int32)) hx hb dX3_free_30 (by decide) ?_
          refine lv_goto (tgt := 35) hx hb dX3_free_31 (by decide) ?_
          obtain rfl := sp_s h
          exact J2 _ _ hP hD hS _ (lv_sub hl [0, 1, 2] rfl)
      · have h := sp_t c9 h
        refine lv_iconst (v := (1 : Int32)) hx hb dX3_free_17 (by decide) ?_
        refine lv_goto (tgt := 35) hx hb dX3_free_18 (by decide) ?_
        obtain rfl := sp_s h
        exact J2 _ _ hP hD hS _ (lv_sub hl [0, 1, 2] rfl)
def f_X3_revisits (zz : xMO) (i1 : Int32) (i2 : Int32) (i3 : Int32) : Option (Int32 × xF × xF × Int32) :=
  Option.bind (f_X3_isAim (zz.1, zz.2.1, zz.2.2.1, zz.2.2.2.1, zz.2.2.2.2.1, zz.2.2.2.2.2.1, zz.2.2.2.2.2.2.1, zz.2.2.2.2.2.2.2.1, zz.2.2.2.2.2.2.2.2.1, zz.2.2.2.2.2.2.2.2.2.1, zz.2.2.2.2.2.2.2.2.2.2.1, zz.2.2.2.2.2.2.2.2.2.2.2.1, zz.2.2.2.2.2.2.2.2.2.2.2.2.1, zz.2.2.2.2.2.2.2.2.2.2.2.2.2.1, zz.2.2.2.2.2.2.2.2.2.2.2.2.2.2.1, zz.2.2.2.2.2.2.2.2.2.2.2.2.2.2.2.1, zz.2.2.2.2.2.2.2.2.2.2.2.2.2.2.2.2.1, zz.2.2.2.2.2.2.2.2.2.2.2.2.2.2.2.2.2) i1) fun (o1 : Int32) =>
  Option.bind (
    if o1 = 0 then
      some (1 : Int32)
    else
      Option.bind (f_X3_isIn i2 (0 : Int32) (3 : Int32)) fun (o7 : Int32) =>
      if o7 = 0 then
        some (2 : Int32)
      else
        Option.bind (f_X3_isIn i3 (1 : Int32) (20 : Int32)) fun (o9 : Int32) =>
        if o9 = 0 then
          some (2 : Int32)
        else
          some (0 : Int32)) fun (v2 : Int32) =>
  Option.bind (f_X3_can (zz.1, zz.2.1, zz.2.2.1, zz.2.2.2.1, zz.2.2.2.2.1, zz.2.2.2.2.2.1, zz.2.2.2.2.2.2.1, zz.2.2.2.2.2.2.2.1, zz.2.2.2.2.2.2.2.2.1, zz.2.2.2.2.2.2.2.2.2.1, zz.2.2.2.2.2.2.2.2.2.2.1, zz.2.2.2.2.2.2.2.2.2.2.2.1, zz.2.2.2.2.2.2.2.2.2.2.2.2.1, zz.2.2.2.2.2.2.2.2.2.2.2.2.2.1, zz.2.2.2.2.2.2.2.2.2.2.2.2.2.2.1, zz.2.2.2.2.2.2.2.2.2.2.2.2.2.2.2.1, zz.2.2.2.2.2.2.2.2.2.2.2.2.2.2.2.2.1, zz.2.2.2.2.2.2.2.2.2.2.2.2.2.2.2.2.2) v2) fun (o3 : Int32 × Int32) =>
  if o3.1 = 0 then
    some ((0 : Int32), zz.2.2.2.2.2.2.1, zz.2.2.2.2.2.2.2.1, o3.2)
  else
    if i1 < 0 ∨ 12 ≤ i1.toNatClampNeg then none else
    some ((zz.2.2.2.2.2.2.1 i1.toNatClampNeg), (upd zz.2.2.2.2.2.2.1 i1.toNatClampNeg i2), (upd zz.2.2.2.2.2.2.2.1 i1.toNatClampNeg i3), o3.2)
theorem f_X3_revisits_e (zz_0 : Int32) (zz_1 : xF) (zz_2 : xF) (zz_3 : xF) (zz_4 : xF) (zz_5 : xF) (zz_6 : xF) (zz_7 : xF) (zz_8 : xF) (zz_9 : xF) (zz_10 : xF) (zz_11 : xF) (zz_12 : xF) (zz_13 : xF) (zz_14 : xF) (zz_15 : xF) (zz_16 : Int32) (zz_17 : Int32) (i1 : Int32) (i2 : Int32) (i3 : Int32) : f_X3_revisits (zz_0, zz_1, zz_2, zz_3, zz_4, zz_5, zz_6, zz_7, zz_8, zz_9, zz_10, zz_11, zz_12, zz_13, zz_14, zz_15, zz_16, zz_17) i1 i2 i3 =
  Option.bind (f_X3_isAim (zz_0, zz_1, zz_2, zz_3, zz_4, zz_5, zz_6, zz_7, zz_8, zz_9, zz_10, zz_11, zz_12, zz_13, zz_14, zz_15, zz_16, zz_17) i1) fun (o1 : Int32) =>
  Option.bind (
    if o1 = 0 then
      some (1 : Int32)
    else
      Option.bind (f_X3_isIn i2 (0 : Int32) (3 : Int32)) fun (o7 : Int32) =>
      if o7 = 0 then
        some (2 : Int32)
      else
        Option.bind (f_X3_isIn i3 (1 : Int32) (20 : Int32)) fun (o9 : Int32) =>
        if o9 = 0 then
          some (2 : Int32)
        else
          some (0 : Int32)) fun (v2 : Int32) =>
  Option.bind (f_X3_can (zz_0, zz_1, zz_2, zz_3, zz_4, zz_5, zz_6, zz_7, zz_8, zz_9, zz_10, zz_11, zz_12, zz_13, zz_14, zz_15, zz_16, zz_17) v2) fun (o3 : Int32 × Int32) =>
  if o3.1 = 0 then
    some ((0 : Int32), zz_6, zz_7, o3.2)
  else
    if i1 < 0 ∨ 12 ≤ i1.toNatClampNeg then none else
    some ((zz_6 i1.toNatClampNeg), (upd zz_6 i1.toNatClampNeg i2), (upd zz_7 i1.toNatClampNeg i3), o3.2) := rfl
set_option maxHeartbeats 4000000 in
set_option maxRecDepth 100000 in
theorem c_X3_revisits (l : Launch) (G : xG) (za : (Nat → Nat)) (zz : xMO) (i1 : Int32) (i2 : Int32) (i3 : Int32) (o : Int32 × xF × xF × Int32) (h : f_X3_revisits zz i1 i2 i3 = some o) : xk_CI l yX3_revisits wsX3_revisits ({ frames := 2, cells := 0, slots := 0, locals := 43 } : Room) 0 0 [.ref (za 0), .int i1, .int i2, .int i3] G (wMOc G za zz.1 zz.2.1 zz.2.2.1 zz.2.2.2.1 zz.2.2.2.2.1 zz.2.2.2.2.2.1 zz.2.2.2.2.2.2.1 zz.2.2.2.2.2.2.2.1 zz.2.2.2.2.2.2.2.2.1 zz.2.2.2.2.2.2.2.2.2.1 zz.2.2.2.2.2.2.2.2.2.2.1 zz.2.2.2.2.2.2.2.2.2.2.2.1 zz.2.2.2.2.2.2.2.2.2.2.2.2.1 zz.2.2.2.2.2.2.2.2.2.2.2.2.2.1 zz.2.2.2.2.2.2.2.2.2.2.2.2.2.2.1 zz.2.2.2.2.2.2.2.2.2.2.2.2.2.2.2.1 zz.2.2.2.2.2.2.2.2.2.2.2.2.2.2.2.2.1 zz.2.2.2.2.2.2.2.2.2.2.2.2.2.2.2.2.2) (wMOc G za zz.1 zz.2.1 zz.2.2.1 zz.2.2.2.1 zz.2.2.2.2.1 zz.2.2.2.2.2.1 o.2.1 o.2.2.1 zz.2.2.2.2.2.2.2.2.1 zz.2.2.2.2.2.2.2.2.2.1 zz.2.2.2.2.2.2.2.2.2.2.1 zz.2.2.2.2.2.2.2.2.2.2.2.1 zz.2.2.2.2.2.2.2.2.2.2.2.2.1 zz.2.2.2.2.2.2.2.2.2.2.2.2.2.1 zz.2.2.2.2.2.2.2.2.2.2.2.2.2.2.1 zz.2.2.2.2.2.2.2.2.2.2.2.2.2.2.2.1 zz.2.2.2.2.2.2.2.2.2.2.2.2.2.2.2.2.1 o.2.2.2) o.1 := by
  obtain ⟨zz_0, zz_1, zz_2, zz_3, zz_4, zz_5, zz_6, zz_7, zz_8, zz_9, zz_10, zz_11, zz_12, zz_13, zz_14, zz_15, zz_16, zz_17⟩ := zz
  refine xk_CI.of (cc := cX3_revisits) (maxL := 5) (ret := (some .int)) (by decide) rfl (Nat.le_of_ble_eq_true rfl) ?_
  intro pr9 en9 s mm9 bl9 meth9 cd9 A ls H locs hx hb hr hml hts hown hlk hA hP hK hD hNE hS hl
  have hown : s.vm.findClass RX3 = some mm9.cls := hown
  have hl : lv_has ls 5 [(0, .ref (za 0)), (1, .int i1), (2, .int i2), (3, .int i3)] := hl
  have hinX3 : ∀ w ∈ u_ws RX3 TX3 18, w ∈ wsX3_revisits := by decide +kernel
  have hP : va_P G.1 vwCl (wMOc G za zz_0 zz_1 zz_2 zz_3 zz_4 zz_5 zz_6 zz_7 zz_8 zz_9 zz_10 zz_11 zz_12 zz_13 zz_14 zz_15 zz_16 zz_17) H := hP
  have hD : va_D A (wMOc G za zz_0 zz_1 zz_2 zz_3 zz_4 zz_5 zz_6 zz_7 zz_8 zz_9 zz_10 zz_11 zz_12 zz_13 zz_14 zz_15 zz_16 zz_17) := hD
  have h := (f_X3_revisits_e zz_0 zz_1 zz_2 zz_3 zz_4 zz_5 zz_6 zz_7 zz_8 zz_9 zz_10 zz_11 zz_12 zz_13 zz_14 zz_15 zz_16 zz_17 i1 i2 i3).symm.trans h
  refine lv_aload_n hx hb dX3_revisits_0 rfl (lv_at hl 0 rfl) ?_
  refine lv_aload_n hx hb dX3_revisits_1 rfl (lv_at hl 0 rfl) ?_
  refine lv_iload_n hx hb dX3_revisits_2 rfl (lv_at hl 1 rfl) ?_
  obtain ⟨o1, ho1, h⟩ := sp_b h
  refine xk_ci (va_runV (As := [.int i1]) (rest := [.ref (za 0)]) ⟨hx, hb, hml, hown, hts⟩ (c_X3_isAim l G za (zz_0, zz_1, zz_2, zz_3, zz_4, zz_5, zz_6, zz_7, zz_8, zz_9, zz_10, zz_11, zz_12, zz_13, zz_14, zz_15, zz_16, zz_17) i1 o1 ho1 H.size) (cwV 1 hts gX3_revisits_X3_isAim rfl rfl rfl (by decide +kernel) ⟨Nat.le_of_ble_eq_true rfl, Nat.le_of_ble_eq_true rfl⟩) (xk_preV hK hNE (hP.sub (ws' := (wMOc G za zz_0 zz_1 zz_2 zz_3 zz_4 zz_5 zz_6 zz_7 zz_8 zz_9 zz_10 zz_11 zz_12 zz_13 zz_14 zz_15 zz_16 zz_17)) [0, 1, 2, 3, 4, 5, 6, 7, 8, 9, 10, 11, 12, 13, 14, 15] rfl) (hD.sub (ws' := (wMOc G za zz_0 zz_1 zz_2 zz_3 zz_4 zz_5 zz_6 zz_7 zz_8 zz_9 zz_10 zz_11 zz_12 zz_13 zz_14 zz_15 zz_16 zz_17)) [0, 1, 2, 3, 4, 5, 6, 7, 8, 9, 10, 11, 12, 13, 14, 15] (by decide) rfl) (ci := 3) rfl rfl) rfl rfl hl.1 rfl (lv_room (Nat.le_of_ble_eq_true rfl)) dX3_revisits_3 ⟨Nat.le_of_ble_eq_true rfl, Nat.le_of_ble_eq_true rfl⟩) hP hD hS hA [0, 1, 2, 3, 4, 5, 6, 7, 8, 9, 10, 11, 12, 13, 14, 15] [] [0, 1, 2, 3, 4, 5, 6, 7, 8, 9, 10, 11, 12, 13, 14, 15] rfl rfl (by decide) (by decide) rfl (by decide) (fun H locs hP hD hS => ?_)
  have hP : va_P G.1 vwCl (wMOc G za zz_0 zz_1 zz_2 zz_3 zz_4 zz_5 zz_6 zz_7 zz_8 zz_9 zz_10 zz_11 zz_12 zz_13 zz_14 zz_15 zz_16 zz_17) H := hP
  have hD : va_D A (wMOc G za zz_0 zz_1 zz_2 zz_3 zz_4 zz_5 zz_6 zz_7 zz_8 zz_9 zz_10 zz_11 zz_12 zz_13 zz_14 zz_15 zz_16 zz_17) := hD
  obtain ⟨v2, hv2, h⟩ := sp_b h
  refine xk_jn G A s.heap (wMOc G za zz_0 zz_1 zz_2 zz_3 zz_4 zz_5 zz_6 zz_7 zz_8 zz_9 zz_10 zz_11 zz_12 zz_13 zz_14 zz_15 zz_16 zz_17) 5 [(0, .ref (za 0)), (1, .int i1), (2, .int i2), (3, .int i3)] 37 [.int v2, .ref (za 0)] (fun H locs hP hD hS ls hl => ?_) (fun J2 => ?_)
  · obtain ⟨o3, ho3, h⟩ := sp_b h
    refine xk_ci (va_runV (As := [.int v2]) (rest := []) ⟨hx, hb, hml, hown, hts⟩ (c_X3_can l G za (zz_0, zz_1, zz_2, zz_3, zz_4, zz_5, zz_6, zz_7, zz_8, zz_9, zz_10, zz_11, zz_12, zz_13, zz_14, zz_15, zz_16, zz_17) v2 o3 ho3 H.size) (cwV 1 hts gX3_revisits_X3_can rfl rfl rfl (by decide +kernel) ⟨Nat.le_of_ble_eq_true rfl, Nat.le_of_ble_eq_true rfl⟩) (xk_preV hK hNE (hP.sub (ws' := (wMOc G za zz_0 zz_1 zz_2 zz_3 zz_4 zz_5 zz_6 zz_7 zz_8 zz_9 zz_10 zz_11 zz_12 zz_13 zz_14 zz_15 zz_16 zz_17)) [0, 1, 2, 3, 4, 5, 6, 7, 8, 9, 10, 11, 12, 13, 14, 15] rfl) (hD.sub (ws' := (wMOc G za zz_0 zz_1 zz_2 zz_3 zz_4 zz_5 zz_6 zz_7 zz_8 zz_9 zz_10 zz_11 zz_12 zz_13 zz_14 zz_15 zz_16 zz_17)) [0, 1, 2, 3, 4, 5, 6, 7, 8, 9, 10, 11, 12, 13, 14, 15] (by decide) rfl) (ci := 3) rfl rfl) rfl rfl hl.1 rfl (lv_room (Nat.le_of_ble_eq_true rfl)) dX3_revisits_37 ⟨Nat.le_of_ble_eq_true rfl, Nat.le_of_ble_eq_true rfl⟩) hP hD hS hA [0, 1, 2, 3, 4, 5, 6, 7, 8, 9, 10, 11, 12, 13, 14, 15] [] [0, 1, 2, 3, 4, 5, 6, 7, 8, 9, 10, 11, 12, 13, 14, 15] rfl rfl (by decide) (by decide) rfl (by decide) (fun H locs hP hD hS => ?_)
    have hP : va_P G.1 vwCl (wMOc G za zz_0 zz_1 zz_2 zz_3 zz_4 zz_5 zz_6 zz_7 zz_8 zz_9 zz_10 zz_11 zz_12 zz_13 zz_14 zz_15 zz_16 o3.2) H := hP
    have hD : va_D A (wMOc G za zz_0 zz_1 zz_2 zz_3 zz_4 zz_5 zz_6 zz_7 zz_8 zz_9 zz_10 zz_11 zz_12 zz_13 zz_14 zz_15 zz_16 o3.2) := hD
    refine lv_if_ne (tgt := 45) hx hb dX3_revisits_40 (by decide) (fun c4 => ?_) (fun c4 => ?_)
    · have h := sp_f c4 h
      refine lv_aload_n hx hb dX3_revisits_45 rfl (lv_at hl 0 rfl) ?_
      refine va_get (D := G.1) (ci := 3) (v := .ref (za 6)) (C := RX3) (T := TX3) (N := 18) hx hb hts hinX3 hown hK hP 0 rfl rfl 6 (by decide) (hts (.fieldLink RX3 25 "LessonWeaveModel" "many" "[I") (by decide +kernel)) (fun _ h9 => h9) rfl dX3_revisits_46 ?_
      refine lv_iload_n hx hb dX3_revisits_49 rfl (lv_at hl 1 rfl) ?_
      obtain ⟨hin5, h⟩ := sp_g h
      refine va_iald hx hb hK hP 6 0 rfl rfl hin5 dX3_revisits_50 ?_
      refine lv_istore (lv' := [(4, .int (zz_6 i1.toNatClampNeg)), (0, .ref (za 0)), (1, .int i1), (2, .int i2), (3, .int i3)]) hx hb dX3_revisits_51 hl (by decide) rfl (fun ls hl => ?_)
      refine lv_aload_n hx hb dX3_revisits_53 rfl (lv_at hl 1 rfl) ?_
      refine va_get (D := G.1) (ci := 3) (v := .ref (za 6)) (C := RX3) (T := TX3) (N := 18) hx hb hts hinX3 hown hK hP 0 rfl rfl 6 (by decide) (hts (.fieldLink RX3 25 "LessonWeaveModel" "many" "[I") (by decide +kernel)) (fun _ h9 => h9) rfl dX3_revisits_54 ?_
      refine lv_iload_n hx hb dX3_revisits_57 rfl (lv_at hl 2 rfl) ?_
      refine lv_iload_n hx hb dX3_revisits_58 rfl (lv_at hl 3 rfl) ?_
      refine va_iast hx hb hK hP hD hS 6 0 rfl rfl hin5 dX3_revisits_59 (fun H locs hP hD hS => ?_)
      have hP : va_P G.1 vwCl (wMOc G za zz_0 zz_1 zz_2 zz_3 zz_4 zz_5 (upd zz_6 i1.toNatClampNeg i2) zz_7 zz_8 zz_9 zz_10 zz_11 zz_12 zz_13 zz_14 zz_15 zz_16 o3.2) H := hP
      have hD : va_D A (wMOc G za zz_0 zz_1 zz_2 zz_3 zz_4 zz_5 (upd zz_6 i1.toNatClampNeg i2) zz_7 zz_8 zz_9 zz_10 zz_11 zz_12 zz_13 zz_14 zz_15 zz_16 o3.2) := hD
      refine lv_aload_n hx hb dX3_revisits_60 rfl (lv_at hl 1 rfl) ?_
      refine va_get (D := G.1) (ci := 3) (v := .ref (za 7)) (C := RX3) (T := TX3) (N := 18) hx hb hts hinX3 hown hK hP 0 rfl rfl 7 (by decide) (hts (.fieldLink RX3 28 "LessonWeaveModel" "gap" "[I") (by decide +kernel)) (fun _ h9 => h9) rfl dX3_revisits_61 ?_
      refine lv_iload_n hx hb dX3_revisits_64 rfl (lv_at hl 2 rfl) ?_
      refine lv_iload_n hx hb dX3_revisits_65 rfl (lv_at hl 4 rfl) ?_
      refine va_iast hx hb hK hP hD hS 7 0 rfl rfl hin5 dX3_revisits_66 (fun H locs hP hD hS => ?_)
      have hP : va_P G.1 vwCl (wMOc G za zz_0 zz_1 zz_2 zz_3 zz_4 zz_5 (upd zz_6 i1.toNatClampNeg i2) (upd zz_7 i1.toNatClampNeg i3) zz_8 zz_9 zz_10 zz_11 zz_12 zz_13 zz_14 zz_15 zz_16 o3.2) H := hP
      have hD : va_D A (wMOc G za zz_0 zz_1 zz_2 zz_3 zz_4 zz_5 (upd zz_6 i1.toNatClampNeg i2) (upd zz_7 i1.toNatClampNeg i3) zz_8 zz_9 zz_10 zz_11 zz_12 zz_13 zz_14 zz_15 zz_16 o3.2) := hD
      refine lv_iload hx hb dX3_revisits_67 (lv_at hl 0 rfl) ?_
      obtain rfl := sp_s h
      exact xk_reI hx hb hr hlk hP hD hS rfl dX3_revisits_69
    · have h := sp_t c4 h
      refine lv_iconst (v := (0 : Int32)) hx hb dX3_revisits_43 (by decide) ?_
      obtain rfl := sp_s h
      exact xk_reI hx hb hr hlk hP hD hS rfl dX3_revisits_44
  · have h := hv2
    clear hv2
    refine lv_if_ne (tgt := 13) hx hb dX3_revisits_6 (by decide) (fun c6 => ?_) (fun c6 => ?_)
    · have h := sp_f c6 h
      refine lv_iload_n hx hb dX3_revisits_13 rfl (lv_at hl 2 rfl) ?_
      refine lv_iconst (v := (0 : Int32)) hx hb dX3_revisits_14 (by decide) ?_
      refine lv_iconst (v := (3 : Int32)) hx hb dX3_revisits_15 (by decide) ?_
      obtain ⟨o7, ho7, h⟩ := sp_b h
      refine xk_ci (va_runS (As := [.int i2, .int (0 : Int32), .int (3 : Int32)]) (rest := [.ref (za 0)]) ⟨hx, hb, hml, hown, hts⟩ (c_X3_isIn l G i2 (0 : Int32) (3 : Int32) o7 ho7 H.size) (va_cwS 3 hts gX3_revisits_X3_isIn rfl rfl rfl (by decide +kernel) ⟨Nat.le_of_ble_eq_true rfl, Nat.le_of_ble_eq_true rfl⟩) (xk_preS hK hNE (hP.sub (ws' := []) [] rfl) (hD.sub (ws' := []) [] (by decide) rfl)) rfl rfl hl.1 rfl (lv_room (Nat.le_of_ble_eq_true rfl)) dX3_revisits_16 ⟨Nat.le_of_ble_eq_true rfl, Nat.le_of_ble_eq_true rfl⟩) hP hD hS hA [] [0, 1, 2, 3, 4, 5, 6, 7, 8, 9, 10, 11, 12, 13, 14, 15] [0, 1, 2, 3, 4, 5, 6, 7, 8, 9, 10, 11, 12, 13, 14, 15] rfl rfl (by decide) (by decide) rfl (by decide) (fun H locs hP hD hS => ?_)
      have hP : va_P G.1 vwCl (wMOc G za zz_0 zz_1 zz_2 zz_3 zz_4 zz_5 zz_6 zz_7 zz_8 zz_9 zz_10 zz_11 zz_12 zz_13 zz_14 zz_15 zz_16 zz_17) H := hP
      have hD : va_D A (wMOc G za zz_0 zz_1 zz_2 zz_3 zz_4 zz_5 zz_6 zz_7 zz_8 zz_9 zz_10 zz_11 zz_12 zz_13 zz_14 zz_15 zz_16 zz_17) := hD
      refine lv_if_eq (tgt := 36) hx hb dX3_revisits_19 (by decide) (fun c8 => ?_) (fun c8 => ?_)
      · have h := sp_t c8 h
        refine lv_iconst (v := (2 : Int32)) hx hb dX3_revisits_36 (by decide) ?_
        obtain rfl := sp_s h
        exact J2 _ _ hP hD hS _ (lv_sub hl [0, 1, 2, 3] rfl)
      · have h := sp_f c8 h
        refine lv_iload_n hx hb dX3_revisits_22 rfl (lv_at hl 3 rfl) ?_
        refine lv_iconst (v := (1 : Int32)) hx hb dX3_revisits_23 (by decide) ?_
        refine lv_bipush (v := (20 : Int32)) hx hb dX3_revisits_24 (by decide) ?_
        obtain ⟨o9, ho9, h⟩ := sp_b h
        refine xk_ci (va_runS (As := [.int i3, .int (1 : Int32), .int (20 : Int32)]) (rest := [.ref (za 0)]) ⟨hx, hb, hml, hown, hts⟩ (c_X3_isIn l G i3 (1 : Int32) (20 : Int32) o9 ho9 H.size) (va_cwS 3 hts gX3_revisits_X3_isIn rfl rfl rfl (by decide +kernel) ⟨Nat.le_of_ble_eq_true rfl, Nat.le_of_ble_eq_true rfl⟩) (xk_preS hK hNE (hP.sub (ws' := []) [] rfl) (hD.sub (ws' := []) [] (by decide) rfl)) rfl rfl hl.1 rfl (lv_room (Nat.le_of_ble_eq_true rfl)) dX3_revisits_26 ⟨Nat.le_of_ble_eq_true rfl, Nat.le_of_ble_eq_true rfl⟩) hP hD hS hA [] [0, 1, 2, 3, 4, 5, 6, 7, 8, 9, 10, 11, 12, 13, 14, 15] [0, 1, 2, 3, 4, 5, 6, 7, 8, 9, 10, 11, 12, 13, 14, 15] rfl rfl (by decide) (by decide) rfl (by decide) (fun H locs hP hD hS => ?_)
        have hP : va_P G.1 vwCl (wMOc G za zz_0 zz_1 zz_2 zz_3 zz_4 zz_5 zz_6 zz_7 zz_8 zz_9 zz_10 zz_11 zz_12 zz_13 zz_14 zz_15 zz_16 zz_17) H := hP
        have hD : va_D A (wMOc G za zz_0 zz_1 zz_2 zz_3 zz_4 zz_5 zz_6 zz_7 zz_8 zz_9 zz_10 zz_11 zz_12 zz_13 zz_14 zz_15 zz_16 zz_17) := hD
        refine lv_if_eq (tgt := 36) hx hb dX3_revisits_29 (by decide) (fun c10 => ?_) (fun c10 => ?_)
        · have h := sp_t c10 h
          refine lv_iconst (v := (2 : Int32)) hx hb dX3_revisits_36 (by decide) ?_
          obtain rfl := sp_s h
          exact J2 _ _ hP hD hS _ (lv_sub hl [0, 1, 2, 3] rfl)
        · have h := sp_f c10 h
          refine lv_iconst (v := (0 : Int32)) hx hb dX3_revisits_32 (by decide) ?_
          refine lv_goto (tgt := 37) hx hb dX3_revisits_33 (by decide) ?_
          obtain rfl := sp_s h
          exact J2 _ _ hP hD hS _ (lv_sub hl [0, 1, 2, 3] rfl)
    · have h := sp_t c6 h
      refine lv_iconst (v := (1 : Int32)) hx hb dX3_revisits_9 (by decide) ?_
      refine lv_goto (tgt := 37) hx hb dX3_revisits_10 (by decide) ?_
      obtain rfl := sp_s h
      exact J2 _ _ hP hD hS _ (lv_sub hl [0, 1, 2, 3] rfl)
def f_X3_aims (zz : xMO) : Option (Int32 × Int32) :=
  some (zz.1, (0 : Int32))
theorem f_X3_aims_e (zz_0 : Int32) (zz_1 : xF) (zz_2 : xF) (zz_3 : xF) (zz_4 : xF) (zz_5 : xF) (zz_6 : xF) (zz_7 : xF) (zz_8 : xF) (zz_9 : xF) (zz_10 : xF) (zz_11 : xF) (zz_12 : xF) (zz_13 : xF) (zz_14 : xF) (zz_15 : xF) (zz_16 : Int32) (zz_17 : Int32) : f_X3_aims (zz_0, zz_1, zz_2, zz_3, zz_4, zz_5, zz_6, zz_7, zz_8, zz_9, zz_10, zz_11, zz_12, zz_13, zz_14, zz_15, zz_16, zz_17) =
  some (zz_0, (0 : Int32)) := rfl
set_option maxHeartbeats 4000000 in
set_option maxRecDepth 100000 in
theorem c_X3_aims (l : Launch) (G : xG) (za : (Nat → Nat)) (zz : xMO) (o : Int32 × Int32) (h : f_X3_aims zz = some o) : xk_CI l yX3_aims wsX3_aims ({ frames := 0, cells := 0, slots := 0, locals := 0 } : Room) 0 0 [.ref (za 0)] G (wMOc G za zz.1 zz.2.1 zz.2.2.1 zz.2.2.2.1 zz.2.2.2.2.1 zz.2.2.2.2.2.1 zz.2.2.2.2.2.2.1 zz.2.2.2.2.2.2.2.1 zz.2.2.2.2.2.2.2.2.1 zz.2.2.2.2.2.2.2.2.2.1 zz.2.2.2.2.2.2.2.2.2.2.1 zz.2.2.2.2.2.2.2.2.2.2.2.1 zz.2.2.2.2.2.2.2.2.2.2.2.2.1 zz.2.2.2.2.2.2.2.2.2.2.2.2.2.1 zz.2.2.2.2.2.2.2.2.2.2.2.2.2.2.1 zz.2.2.2.2.2.2.2.2.2.2.2.2.2.2.2.1 zz.2.2.2.2.2.2.2.2.2.2.2.2.2.2.2.2.1 zz.2.2.2.2.2.2.2.2.2.2.2.2.2.2.2.2.2) (wMOc G za zz.1 zz.2.1 zz.2.2.1 zz.2.2.2.1 zz.2.2.2.2.1 zz.2.2.2.2.2.1 zz.2.2.2.2.2.2.1 zz.2.2.2.2.2.2.2.1 zz.2.2.2.2.2.2.2.2.1 zz.2.2.2.2.2.2.2.2.2.1 zz.2.2.2.2.2.2.2.2.2.2.1 zz.2.2.2.2.2.2.2.2.2.2.2.1 zz.2.2.2.2.2.2.2.2.2.2.2.2.1 zz.2.2.2.2.2.2.2.2.2.2.2.2.2.1 zz.2.2.2.2.2.2.2.2.2.2.2.2.2.2.1 zz.2.2.2.2.2.2.2.2.2.2.2.2.2.2.2.1 zz.2.2.2.2.2.2.2.2.2.2.2.2.2.2.2.2.1 o.2) o.1 := by
  obtain ⟨zz_0, zz_1, zz_2, zz_3, zz_4, zz_5, zz_6, zz_7, zz_8, zz_9, zz_10, zz_11, zz_12, zz_13, zz_14, zz_15, zz_16, zz_17⟩ := zz
  refine xk_CI.of (cc := cX3_aims) (maxL := 1) (ret := (some .int)) (by decide) rfl (Nat.le_of_ble_eq_true rfl) ?_
  intro pr9 en9 s mm9 bl9 meth9 cd9 A ls H locs hx hb hr hml hts hown hlk hA hP hK hD hNE hS hl
  have hown : s.vm.findClass RX3 = some mm9.cls := hown
  have hl : lv_has ls 1 [(0, .ref (za 0))] := hl
  have hinX3 : ∀ w ∈ u_ws RX3 TX3 18, w ∈ wsX3_aims := by decide +kernel
  have hP : va_P G.1 vwCl (wMOc G za zz_0 zz_1 zz_2 zz_3 zz_4 zz_5 zz_6 zz_7 zz_8 zz_9 zz_10 zz_11 zz_12 zz_13 zz_14 zz_15 zz_16 zz_17) H := hP
  have hD : va_D A (wMOc G za zz_0 zz_1 zz_2 zz_3 zz_4 zz_5 zz_6 zz_7 zz_8 zz_9 zz_10 zz_11 zz_12 zz_13 zz_14 zz_15 zz_16 zz_17) := hD
  have h := (f_X3_aims_e zz_0 zz_1 zz_2 zz_3 zz_4 zz_5 zz_6 zz_7 zz_8 zz_9 zz_10 zz_11 zz_12 zz_13 zz_14 zz_15 zz_16 zz_17).symm.trans h
  refine lv_aload_n hx hb dX3_aims_0 rfl (lv_at hl 0 rfl) ?_
  refine lv_iconst (v := (0 : Int32)) hx hb dX3_aims_1 (by decide) ?_
  refine va_put (D := G.1) (ci := 3) (v := .int (0 : Int32)) (ty := .int) (C := RX3) (T := TX3) (N := 18) hx hb hts hinX3 tyX3 tyX3_ok nmX3 hown hK hP hD hS 0 rfl rfl 17 (by decide) (hts (.fieldLink RX3 56 "LessonWeaveModel" "thrown" "I") (by decide +kernel)) (fun _ h9 => h9) rfl (by decide +kernel) rfl rfl (Nat.le_of_ble_eq_true rfl) dX3_aims_2 (fun H locs hP hD hS => ?_)
  have hP : va_P G.1 vwCl (wMOc G za zz_0 zz_1 zz_2 zz_3 zz_4 zz_5 zz_6 zz_7 zz_8 zz_9 zz_10 zz_11 zz_12 zz_13 zz_14 zz_15 zz_16 (0 : Int32)) H := hP
  have hD : va_D A (wMOc G za zz_0 zz_1 zz_2 zz_3 zz_4 zz_5 zz_6 zz_7 zz_8 zz_9 zz_10 zz_11 zz_12 zz_13 zz_14 zz_15 zz_16 (0 : Int32)) := hD
  refine lv_aload_n hx hb dX3_aims_5 rfl (lv_at hl 0 rfl) ?_
  refine va_get (D := G.1) (ci := 3) (v := .int zz_0) (C := RX3) (T := TX3) (N := 18) hx hb hts hinX3 hown hK hP 0 rfl rfl 0 (by decide) (hts (.fieldLink RX3 60 "LessonWeaveModel" "aims" "I") (by decide +kernel)) (fun _ h9 => h9) rfl dX3_aims_6 ?_
  obtain rfl := sp_s h
  exact xk_reI hx hb hr hlk hP hD hS rfl dX3_aims_9
def f_X3_allNeeds (zz : xMO) (i1 : Int32) : Option (Int32 × Int32) :=
  Option.bind (f_X3_isAim (zz.1, zz.2.1, zz.2.2.1, zz.2.2.2.1, zz.2.2.2.2.1, zz.2.2.2.2.2.1, zz.2.2.2.2.2.2.1, zz.2.2.2.2.2.2.2.1, zz.2.2.2.2.2.2.2.2.1, zz.2.2.2.2.2.2.2.2.2.1, zz.2.2.2.2.2.2.2.2.2.2.1, zz.2.2.2.2.2.2.2.2.2.2.2.1, zz.2.2.2.2.2.2.2.2.2.2.2.2.1, zz.2.2.2.2.2.2.2.2.2.2.2.2.2.1, zz.2.2.2.2.2.2.2.2.2.2.2.2.2.2.1, zz.2.2.2.2.2.2.2.2.2.2.2.2.2.2.2.1, zz.2.2.2.2.2.2.2.2.2.2.2.2.2.2.2.2.1, zz.2.2.2.2.2.2.2.2.2.2.2.2.2.2.2.2.2) i1) fun (o1 : Int32) =>
  Option.bind (
    if o1 = 0 then
      some (1 : Int32)
    else
      some (0 : Int32)) fun (v2 : Int32) =>
  Option.bind (f_X3_can (zz.1, zz.2.1, zz.2.2.1, zz.2.2.2.1, zz.2.2.2.2.1, zz.2.2.2.2.2.1, zz.2.2.2.2.2.2.1, zz.2.2.2.2.2.2.2.1, zz.2.2.2.2.2.2.2.2.1, zz.2.2.2.2.2.2.2.2.2.1, zz.2.2.2.2.2.2.2.2.2.2.1, zz.2.2.2.2.2.2.2.2.2.2.2.1, zz.2.2.2.2.2.2.2.2.2.2.2.2.1, zz.2.2.2.2.2.2.2.2.2.2.2.2.2.1, zz.2.2.2.2.2.2.2.2.2.2.2.2.2.2.1, zz.2.2.2.2.2.2.2.2.2.2.2.2.2.2.2.1, zz.2.2.2.2.2.2.2.2.2.2.2.2.2.2.2.2.1, zz.2.2.2.2.2.2.2.2.2.2.2.2.2.2.2.2.2) v2) fun (o3 : Int32 × Int32) =>
  if o3.1 = 0 then
    some ((0 : Int32), o3.2)
  else
    Option.bind (f_X3_reached (zz.1, zz.2.1, zz.2.2.1, zz.2.2.2.1, zz.2.2.2.2.1, zz.2.2.2.2.2.1, zz.2.2.2.2.2.2.1, zz.2.2.2.2.2.2.2.1, zz.2.2.2.2.2.2.2.2.1, zz.2.2.2.2.2.2.2.2.2.1, zz.2.2.2.2.2.2.2.2.2.2.1, zz.2.2.2.2.2.2.2.2.2.2.2.1, zz.2.2.2.2.2.2.2.2.2.2.2.2.1, zz.2.2.2.2.2.2.2.2.2.2.2.2.2.1, zz.2.2.2.2.2.2.2.2.2.2.2.2.2.2.1, zz.2.2.2.2.2.2.2.2.2.2.2.2.2.2.2.1, zz.2.2.2.2.2.2.2.2.2.2.2.2.2.2.2.2.1, o3.2) i1) fun (o5 : Int32) =>
    some (o5, o3.2)
theorem f_X3_allNeeds_e (zz_0 : Int32) (zz_1 : xF) (zz_2 : xF) (zz_3 : xF) (zz_4 : xF) (zz_5 : xF) (zz_6 : xF) (zz_7 : xF) (zz_8 : xF) (zz_9 : xF) (zz_10 : xF) (zz_11 : xF) (zz_12 : xF) (zz_13 : xF) (zz_14 : xF) (zz_15 : xF) (zz_16 : Int32) (zz_17 : Int32) (i1 : Int32) : f_X3_allNeeds (zz_0, zz_1, zz_2, zz_3, zz_4, zz_5, zz_6, zz_7, zz_8, zz_9, zz_10, zz_11, zz_12, zz_13, zz_14, zz_15, zz_16, zz_17) i1 =
  Option.bind (f_X3_isAim (zz_0, zz_1, zz_2, zz_3, zz_4, zz_5, zz_6, zz_7, zz_8, zz_9, zz_10, zz_11, zz_12, zz_13, zz_14, zz_15, zz_16, zz_17) i1) fun (o1 : Int32) =>
  Option.bind (
    if o1 = 0 then
      some (1 : Int32)
    else
      some (0 : Int32)) fun (v2 : Int32) =>
  Option.bind (f_X3_can (zz_0, zz_1, zz_2, zz_3, zz_4, zz_5, zz_6, zz_7, zz_8, zz_9, zz_10, zz_11, zz_12, zz_13, zz_14, zz_15, zz_16, zz_17) v2) fun (o3 : Int32 × Int32) =>
  if o3.1 = 0 then
    some ((0 : Int32), o3.2)
  else
    Option.bind (f_X3_reached (zz_0, zz_1, zz_2, zz_3, zz_4, zz_5, zz_6, zz_7, zz_8, zz_9, zz_10, zz_11, zz_12, zz_13, zz_14, zz_15, zz_16, o3.2) i1) fun (o5 : Int32) =>
    some (o5, o3.2) := rfl
set_option maxHeartbeats 4000000 in
set_option maxRecDepth 100000 in
theorem c_X3_allNeeds (l : Launch) (G : xG) (za : (Nat → Nat)) (zz : xMO) (i1 : Int32) (o : Int32 × Int32) (h : f_X3_allNeeds zz i1 = some o) : xk_CI l yX3_allNeeds wsX3_allNeeds ({ frames := 2, cells := 0, slots := 0, locals := 43 } : Room) 0 0 [.ref (za 0), .int i1] G (wMOc G za zz.1 zz.2.1 zz.2.2.1 zz.2.2.2.1 zz.2.2.2.2.1 zz.2.2.2.2.2.1 zz.2.2.2.2.2.2.1 zz.2.2.2.2.2.2.2.1 zz.2.2.2.2.2.2.2.2.1 zz.2.2.2.2.2.2.2.2.2.1 zz.2.2.2.2.2.2.2.2.2.2.1 zz.2.2.2.2.2.2.2.2.2.2.2.1 zz.2.2.2.2.2.2.2.2.2.2.2.2.1 zz.2.2.2.2.2.2.2.2.2.2.2.2.2.1 zz.2.2.2.2.2.2.2.2.2.2.2.2.2.2.1 zz.2.2.2.2.2.2.2.2.2.2.2.2.2.2.2.1 zz.2.2.2.2.2.2.2.2.2.2.2.2.2.2.2.2.1 zz.2.2.2.2.2.2.2.2.2.2.2.2.2.2.2.2.2) (wMOc G za zz.1 zz.2.1 zz.2.2.1 zz.2.2.2.1 zz.2.2.2.2.1 zz.2.2.2.2.2.1 zz.2.2.2.2.2.2.1 zz.2.2.2.2.2.2.2.1 zz.2.2.2.2.2.2.2.2.1 zz.2.2.2.2.2.2.2.2.2.1 zz.2.2.2.2.2.2.2.2.2.2.1 zz.2.2.2.2.2.2.2.2.2.2.2.1 zz.2.2.2.2.2.2.2.2.2.2.2.2.1 zz.2.2.2.2.2.2.2.2.2.2.2.2.2.1 zz.2.2.2.2.2.2.2.2.2.2.2.2.2.2.1 zz.2.2.2.2.2.2.2.2.2.2.2.2.2.2.2.1 zz.2.2.2.2.2.2.2.2.2.2.2.2.2.2.2.2.1 o.2) o.1 := by
  obtain ⟨zz_0, zz_1, zz_2, zz_3, zz_4, zz_5, zz_6, zz_7, zz_8, zz_9, zz_10, zz_11, zz_12, zz_13, zz_14, zz_15, zz_16, zz_17⟩ := zz
  refine xk_CI.of (cc := cX3_allNeeds) (maxL := 2) (ret := (some .int)) (by decide) rfl (Nat.le_of_ble_eq_true rfl) ?_
  intro pr9 en9 s mm9 bl9 meth9 cd9 A ls H locs hx hb hr hml hts hown hlk hA hP hK hD hNE hS hl
  have hown : s.vm.findClass RX3 = some mm9.cls := hown
  have hl : lv_has ls 2 [(0, .ref (za 0)), (1, .int i1)] := hl
  have hP : va_P G.1 vwCl (wMOc G za zz_0 zz_1 zz_2 zz_3 zz_4 zz_5 zz_6 zz_7 zz_8 zz_9 zz_10 zz_11 zz_12 zz_13 zz_14 zz_15 zz_16 zz_17) H := hP
  have hD : va_D A (wMOc G za zz_0 zz_1 zz_2 zz_3 zz_4 zz_5 zz_6 zz_7 zz_8 zz_9 zz_10 zz_11 zz_12 zz_13 zz_14 zz_15 zz_16 zz_17) := hD
  have h := (f_X3_allNeeds_e zz_0 zz_1 zz_2 zz_3 zz_4 zz_5 zz_6 zz_7 zz_8 zz_9 zz_10 zz_11 zz_12 zz_13 zz_14 zz_15 zz_16 zz_17 i1).symm.trans h
  refine lv_aload_n hx hb dX3_allNeeds_0 rfl (lv_at hl 0 rfl) ?_
  refine lv_aload_n hx hb dX3_allNeeds_1 rfl (lv_at hl 0 rfl) ?_
  refine lv_iload_n hx hb dX3_allNeeds_2 rfl (lv_at hl 1 rfl) ?_
  obtain ⟨o1, ho1, h⟩ := sp_b h
  refine xk_ci (va_runV (As := [.int i1]) (rest := [.ref (za 0)]) ⟨hx, hb, hml, hown, hts⟩ (c_X3_isAim l G za (zz_0, zz_1, zz_2, zz_3, zz_4, zz_5, zz_6, zz_7, zz_8, zz_9, zz_10, zz_11, zz_12, zz_13, zz_14, zz_15, zz_16, zz_17) i1 o1 ho1 H.size) (cwV 1 hts gX3_allNeeds_X3_isAim rfl rfl rfl (by decide +kernel) ⟨Nat.le_of_ble_eq_true rfl, Nat.le_of_ble_eq_true rfl⟩) (xk_preV hK hNE (hP.sub (ws' := (wMOc G za zz_0 zz_1 zz_2 zz_3 zz_4 zz_5 zz_6 zz_7 zz_8 zz_9 zz_10 zz_11 zz_12 zz_13 zz_14 zz_15 zz_16 zz_17)) [0, 1, 2, 3, 4, 5, 6, 7, 8, 9, 10, 11, 12, 13, 14, 15] rfl) (hD.sub (ws' := (wMOc G za zz_0 zz_1 zz_2 zz_3 zz_4 zz_5 zz_6 zz_7 zz_8 zz_9 zz_10 zz_11 zz_12 zz_13 zz_14 zz_15 zz_16 zz_17)) [0, 1, 2, 3, 4, 5, 6, 7, 8, 9, 10, 11, 12, 13, 14, 15] (by decide) rfl) (ci := 3) rfl rfl) rfl rfl hl.1 rfl (lv_room (Nat.le_of_ble_eq_true rfl)) dX3_allNeeds_3 ⟨Nat.le_of_ble_eq_true rfl, Nat.le_of_ble_eq_true rfl⟩) hP hD hS hA [0, 1, 2, 3, 4, 5, 6, 7, 8, 9, 10, 11, 12, 13, 14, 15] [] [0, 1, 2, 3, 4, 5, 6, 7, 8, 9, 10, 11, 12, 13, 14, 15] rfl rfl (by decide) (by decide) rfl (by decide) (fun H locs hP hD hS => ?_)
  have hP : va_P G.1 vwCl (wMOc G za zz_0 zz_1 zz_2 zz_3 zz_4 zz_5 zz_6 zz_7 zz_8 zz_9 zz_10 zz_11 zz_12 zz_13 zz_14 zz_15 zz_16 zz_17) H := hP
  have hD : va_D A (wMOc G za zz_0 zz_1 zz_2 zz_3 zz_4 zz_5 zz_6 zz_7 zz_8 zz_9 zz_10 zz_11 zz_12 zz_13 zz_14 zz_15 zz_16 zz_17) := hD
  obtain ⟨v2, hv2, h⟩ := sp_b h
  refine xk_jn G A s.heap (wMOc G za zz_0 zz_1 zz_2 zz_3 zz_4 zz_5 zz_6 zz_7 zz_8 zz_9 zz_10 zz_11 zz_12 zz_13 zz_14 zz_15 zz_16 zz_17) 2 [(0, .ref (za 0)), (1, .int i1)] 14 [.int v2, .ref (za 0)] (fun H locs hP hD hS ls hl => ?_) (fun J2 => ?_)
  · obtain ⟨o3, ho3, h⟩ := sp_b h
    refine xk_ci (va_runV (As := [.int v2]) (rest := []) ⟨hx, hb, hml, hown, hts⟩ (c_X3_can l G za (zz_0, zz_1, zz_2, zz_3, zz_4, zz_5, zz_6, zz_7, zz_8, zz_9, zz_10, zz_11, zz_12, zz_13, zz_14, zz_15, zz_16, zz_17) v2 o3 ho3 H.size) (cwV 1 hts gX3_allNeeds_X3_can rfl rfl rfl (by decide +kernel) ⟨Nat.le_of_ble_eq_true rfl, Nat.le_of_ble_eq_true rfl⟩) (xk_preV hK hNE (hP.sub (ws' := (wMOc G za zz_0 zz_1 zz_2 zz_3 zz_4 zz_5 zz_6 zz_7 zz_8 zz_9 zz_10 zz_11 zz_12 zz_13 zz_14 zz_15 zz_16 zz_17)) [0, 1, 2, 3, 4, 5, 6, 7, 8, 9, 10, 11, 12, 13, 14, 15] rfl) (hD.sub (ws' := (wMOc G za zz_0 zz_1 zz_2 zz_3 zz_4 zz_5 zz_6 zz_7 zz_8 zz_9 zz_10 zz_11 zz_12 zz_13 zz_14 zz_15 zz_16 zz_17)) [0, 1, 2, 3, 4, 5, 6, 7, 8, 9, 10, 11, 12, 13, 14, 15] (by decide) rfl) (ci := 3) rfl rfl) rfl rfl hl.1 rfl (lv_room (Nat.le_of_ble_eq_true rfl)) dX3_allNeeds_14 ⟨Nat.le_of_ble_eq_true rfl, Nat.le_of_ble_eq_true rfl⟩) hP hD hS hA [0, 1, 2, 3, 4, 5, 6, 7, 8, 9, 10, 11, 12, 13, 14, 15] [] [0, 1, 2, 3, 4, 5, 6, 7, 8, 9, 10, 11, 12, 13, 14, 15] rfl rfl (by decide) (by decide) rfl (by decide) (fun H locs hP hD hS => ?_)
    have hP : va_P G.1 vwCl (wMOc G za zz_0 zz_1 zz_2 zz_3 zz_4 zz_5 zz_6 zz_7 zz_8 zz_9 zz_10 zz_11 zz_12 zz_13 zz_14 zz_15 zz_16 o3.2) H := hP
    have hD : va_D A (wMOc G za zz_0 zz_1 zz_2 zz_3 zz_4 zz_5 zz_6 zz_7 zz_8 zz_9 zz_10 zz_11 zz_12 zz_13 zz_14 zz_15 zz_16 o3.2) := hD
    refine lv_if_eq (tgt := 28) hx hb dX3_allNeeds_17 (by decide) (fun c4 => ?_) (fun c4 => ?_)
    · have h := sp_t c4 h
      refine lv_iconst (v := (0 : Int32)) hx hb dX3_allNeeds_28 (by decide) ?_
      obtain rfl := sp_s h
      exact xk_reI hx hb hr hlk hP hD hS rfl dX3_allNeeds_29
    · have h := sp_f c4 h
      refine lv_aload_n hx hb dX3_allNeeds_20 rfl (lv_at hl 0 rfl) ?_
      refine lv_iload_n hx hb dX3_allNeeds_21 rfl (lv_at hl 1 rfl) ?_
      obtain ⟨o5, ho5, h⟩ := sp_b h
      refine xk_ci (va_runV (As := [.int i1]) (rest := []) ⟨hx, hb, hml, hown, hts⟩ (c_X3_reached l G za (zz_0, zz_1, zz_2, zz_3, zz_4, zz_5, zz_6, zz_7, zz_8, zz_9, zz_10, zz_11, zz_12, zz_13, zz_14, zz_15, zz_16, o3.2) i1 o5 ho5 H.size) (cwV 1 hts gX3_allNeeds_X3_reached rfl rfl rfl (by decide +kernel) ⟨Nat.le_of_ble_eq_true rfl, Nat.le_of_ble_eq_true rfl⟩) (xk_preV hK hNE (hP.sub (ws' := (wMOc G za zz_0 zz_1 zz_2 zz_3 zz_4 zz_5 zz_6 zz_7 zz_8 zz_9 zz_10 zz_11 zz_12 zz_13 zz_14 zz_15 zz_16 o3.2)) [0, 1, 2, 3, 4, 5, 6, 7, 8, 9, 10, 11, 12, 13, 14, 15] rfl) (hD.sub (ws' := (wMOc G za zz_0 zz_1 zz_2 zz_3 zz_4 zz_5 zz_6 zz_7 zz_8 zz_9 zz_10 zz_11 zz_12 zz_13 zz_14 zz_15 zz_16 o3.2)) [0, 1, 2, 3, 4, 5, 6, 7, 8, 9, 10, 11, 12, 13, 14, 15] (by decide) rfl) (ci := 3) rfl rfl) rfl rfl hl.1 rfl (lv_room (Nat.le_of_ble_eq_true rfl)) dX3_allNeeds_22 ⟨Nat.le_of_ble_eq_true rfl, Nat.le_of_ble_eq_true rfl⟩) hP hD hS hA [0, 1, 2, 3, 4, 5, 6, 7, 8, 9, 10, 11, 12, 13, 14, 15] [] [0, 1, 2, 3, 4, 5, 6, 7, 8, 9, 10, 11, 12, 13, 14, 15] rfl rfl (by decide) (by decide) rfl (by decide) (fun H locs hP hD hS => ?_)
      have hP : va_P G.1 vwCl (wMOc G za zz_0 zz_1 zz_2 zz_3 zz_4 zz_5 zz_6 zz_7 zz_8 zz_9 zz_10 zz_11 zz_12 zz_13 zz_14 zz_15 zz_16 o3.2) H := hP
      have hD : va_D A (wMOc G za zz_0 zz_1 zz_2 zz_3 zz_4 zz_5 zz_6 zz_7 zz_8 zz_9 zz_10 zz_11 zz_12 zz_13 zz_14 zz_15 zz_16 o3.2) := hD
      refine lv_goto (tgt := 29) hx hb dX3_allNeeds_25 (by decide) ?_
      obtain rfl := sp_s h
      exact xk_reI hx hb hr hlk hP hD hS rfl dX3_allNeeds_29
  · have h := hv2
    clear hv2
    refine lv_if_eq (tgt := 13) hx hb dX3_allNeeds_6 (by decide) (fun c6 => ?_) (fun c6 => ?_)
    · have h := sp_t c6 h
      refine lv_iconst (v := (1 : Int32)) hx hb dX3_allNeeds_13 (by decide) ?_
      obtain rfl := sp_s h
      exact J2 _ _ hP hD hS _ (lv_sub hl [0, 1] rfl)
    · have h := sp_f c6 h
      refine lv_iconst (v := (0 : Int32)) hx hb dX3_allNeeds_9 (by decide) ?_
      refine lv_goto (tgt := 14) hx hb dX3_allNeeds_10 (by decide) ?_
      obtain rfl := sp_s h
      exact J2 _ _ hP hD hS _ (lv_sub hl [0, 1] rfl)
def f_X3_orders_l22 (zz_2 : xF) (zz_5 : xF) (x2_1 : Int32) (x1_1 : Int32) (zz9_1 : xF) : Nat → Int32 → Int32 → Option (Int32)
  | 0, _, _ => none
  | k9 + 1, x4_4, x3_4 =>
    if x4_4 < 0 then
      some x3_4
    else
      Option.bind (
        if ((x1_1 >>> (x4_4 &&& 31)) &&& (1 : Int32)) = 0 then
          if x4_4 < 0 ∨ 12 ≤ x4_4.toNatClampNeg then none else
          if ((zz_5 x4_4.toNatClampNeg) &&& (x1_1 ^^^ ((-1) : Int32))) = 0 then
            some (1 : Int32)
          else
            some (0 : Int32)
        else
          some (0 : Int32)) fun (v7 : Int32) =>
      Option.bind (
        if x2_1 ≤ 0 then
          some (0 : Int32)
        else
          if x4_4 < 0 ∨ 12 ≤ x4_4.toNatClampNeg then none else
          if (x2_1 - (1 : Int32)) < 0 ∨ 12 ≤ (x2_1 - (1 : Int32)).toNatClampNeg then none else
          if (zz9_1 (x2_1 - (1 : Int32)).toNatClampNeg) < 0 ∨ 12 ≤ (zz9_1 (x2_1 - (1 : Int32)).toNatClampNeg).toNatClampNeg then none else
          if (zz_2 x4_4.toNatClampNeg) = (zz_2 (zz9_1 (x2_1 - (1 : Int32)).toNatClampNeg).toNatClampNeg) then
            some (1 : Int32)
          else
            some (0 : Int32)) fun (v8 : Int32) =>
      Option.bind (
        if x3_4 = ((-1) : Int32) then
          some (0 : Int32)
        else
          if x2_1 ≤ 0 then
            some (0 : Int32)
          else
            if x3_4 < 0 ∨ 12 ≤ x3_4.toNatClampNeg then none else
            if (x2_1 - (1 : Int32)) < 0 ∨ 12 ≤ (x2_1 - (1 : Int32)).toNatClampNeg then none else
            if (zz9_1 (x2_1 - (1 : Int32)).toNatClampNeg) < 0 ∨ 12 ≤ (zz9_1 (x2_1 - (1 : Int32)).toNatClampNeg).toNatClampNeg then none else
            if (zz_2 x3_4.toNatClampNeg) = (zz_2 (zz9_1 (x2_1 - (1 : Int32)).toNatClampNeg).toNatClampNeg) then
              some (1 : Int32)
            else
              some (0 : Int32)) fun (v9 : Int32) =>
      if v7 = 0 then
        f_X3_orders_l22 zz_2 zz_5 x2_1 x1_1 zz9_1 k9 (x4_4 + ((-1) : Int32)) x3_4
      else
        if v8 = 0 then
          if v9 = 0 then
            f_X3_orders_l22 zz_2 zz_5 x2_1 x1_1 zz9_1 k9 (x4_4 + ((-1) : Int32)) x4_4
          else
            f_X3_orders_l22 zz_2 zz_5 x2_1 x1_1 zz9_1 k9 (x4_4 + ((-1) : Int32)) x3_4
        else
          f_X3_orders_l22 zz_2 zz_5 x2_1 x1_1 zz9_1 k9 (x4_4 + ((-1) : Int32)) x4_4
theorem f_X3_orders_l22_z (zz_2 : xF) (zz_5 : xF) (x2_1 : Int32) (x1_1 : Int32) (zz9_1 : xF) (x4_4 : Int32) (x3_4 : Int32) : f_X3_orders_l22 zz_2 zz_5 x2_1 x1_1 zz9_1 0 x4_4 x3_4 = none := rfl
theorem f_X3_orders_l22_s (zz_2 : xF) (zz_5 : xF) (x2_1 : Int32) (x1_1 : Int32) (zz9_1 : xF) (k9 : Nat) (x4_4 : Int32) (x3_4 : Int32) : f_X3_orders_l22 zz_2 zz_5 x2_1 x1_1 zz9_1 (k9 + 1) x4_4 x3_4 =
    if x4_4 < 0 then
      some x3_4
    else
      Option.bind (
        if ((x1_1 >>> (x4_4 &&& 31)) &&& (1 : Int32)) = 0 then
          if x4_4 < 0 ∨ 12 ≤ x4_4.toNatClampNeg then none else
          if ((zz_5 x4_4.toNatClampNeg) &&& (x1_1 ^^^ ((-1) : Int32))) = 0 then
            some (1 : Int32)
          else
            some (0 : Int32)
        else
          some (0 : Int32)) fun (v7 : Int32) =>
      Option.bind (
        if x2_1 ≤ 0 then
          some (0 : Int32)
        else
          if x4_4 < 0 ∨ 12 ≤ x4_4.toNatClampNeg then none else
          if (x2_1 - (1 : Int32)) < 0 ∨ 12 ≤ (x2_1 - (1 : Int32)).toNatClampNeg then none else
          if (zz9_1 (x2_1 - (1 : Int32)).toNatClampNeg) < 0 ∨ 12 ≤ (zz9_1 (x2_1 - (1 : Int32)).toNatClampNeg).toNatClampNeg then none else
          if (zz_2 x4_4.toNatClampNeg) = (zz_2 (zz9_1 (x2_1 - (1 : Int32)).toNatClampNeg).toNatClampNeg) then
            some (1 : Int32)
          else
            some (0 : Int32)) fun (v8 : Int32) =>
      Option.bind (
        if x3_4 = ((-1) : Int32) then
          some (0 : Int32)
        else
          if x2_1 ≤ 0 then
            some (0 : Int32)
          else
            if x3_4 < 0 ∨ 12 ≤ x3_4.toNatClampNeg then none else
            if (x2_1 - (1 : Int32)) < 0 ∨ 12 ≤ (x2_1 - (1 : Int32)).toNatClampNeg then none else
            if (zz9_1 (x2_1 - (1 : Int32)).toNatClampNeg) < 0 ∨ 12 ≤ (zz9_1 (x2_1 - (1 : Int32)).toNatClampNeg).toNatClampNeg then none else
            if (zz_2 x3_4.toNatClampNeg) = (zz_2 (zz9_1 (x2_1 - (1 : Int32)).toNatClampNeg).toNatClampNeg) then
              some (1 : Int32)
            else
              some (0 : Int32)) fun (v9 : Int32) =>
      if v7 = 0 then
        f_X3_orders_l22 zz_2 zz_5 x2_1 x1_1 zz9_1 k9 (x4_4 + ((-1) : Int32)) x3_4
      else
        if v8 = 0 then
          if v9 = 0 then
            f_X3_orders_l22 zz_2 zz_5 x2_1 x1_1 zz9_1 k9 (x4_4 + ((-1) : Int32)) x4_4
          else
            f_X3_orders_l22 zz_2 zz_5 x2_1 x1_1 zz9_1 k9 (x4_4 + ((-1) : Int32)) x3_4
        else
          f_X3_orders_l22 zz_2 zz_5 x2_1 x1_1 zz9_1 k9 (x4_4 + ((-1) : Int32)) x4_4 := rfl
def f_X3_orders_l4 (zz_0 : Int32) (zz_2 : xF) (zz_5 : xF) : Nat → Int32 → Int32 → xF → Option (xF)
  | 0, _, _, _ => none
  | k9 + 1, x2_1, x1_1, zz9_1 =>
    if zz_0 ≤ x2_1 then
      some zz9_1
    else
      Option.bind (f_X3_orders_l22 zz_2 zz_5 x2_1 x1_1 zz9_1 300 (zz_0 - (1 : Int32)) ((-1) : Int32)) fun (w5 : Int32) =>
      if x2_1 < 0 ∨ 12 ≤ x2_1.toNatClampNeg then none else
      f_X3_orders_l4 zz_0 zz_2 zz_5 k9 (x2_1 + (1 : Int32)) (x1_1 ||| ((1 : Int32) <<< (w5 &&& 31))) (upd zz9_1 x2_1.toNatClampNeg w5)
theorem f_X3_orders_l4_z (zz_0 : Int32) (zz_2 : xF) (zz_5 : xF) (x2_1 : Int32) (x1_1 : Int32) (zz9_1 : xF) : f_X3_orders_l4 zz_0 zz_2 zz_5 0 x2_1 x1_1 zz9_1 = none := rfl
theorem f_X3_orders_l4_s (zz_0 : Int32) (zz_2 : xF) (zz_5 : xF) (k9 : Nat) (x2_1 : Int32) (x1_1 : Int32) (zz9_1 : xF) : f_X3_orders_l4 zz_0 zz_2 zz_5 (k9 + 1) x2_1 x1_1 zz9_1 =
    if zz_0 ≤ x2_1 then
      some zz9_1
    else
      Option.bind (f_X3_orders_l22 zz_2 zz_5 x2_1 x1_1 zz9_1 300 (zz_0 - (1 : Int32)) ((-1) : Int32)) fun (w5 : Int32) =>
      if x2_1 < 0 ∨ 12 ≤ x2_1.toNatClampNeg then none else
      f_X3_orders_l4 zz_0 zz_2 zz_5 k9 (x2_1 + (1 : Int32)) (x1_1 ||| ((1 : Int32) <<< (w5 &&& 31))) (upd zz9_1 x2_1.toNatClampNeg w5) := rfl
def f_X3_orders (zz : xMO) : Option (xF) :=
  Option.bind (f_X3_orders_l4 zz.1 zz.2.2.1 zz.2.2.2.2.2.1 300 (0 : Int32) (0 : Int32) zz.2.2.2.2.2.2.2.2.2.1) fun (w2 : xF) =>
  some w2
theorem f_X3_orders_e (zz_0 : Int32) (zz_1 : xF) (zz_2 : xF) (zz_3 : xF) (zz_4 : xF) (zz_5 : xF) (zz_6 : xF) (zz_7 : xF) (zz_8 : xF) (zz_9 : xF) (zz_10 : xF) (zz_11 : xF) (zz_12 : xF) (zz_13 : xF) (zz_14 : xF) (zz_15 : xF) (zz_16 : Int32) (zz_17 : Int32) : f_X3_orders (zz_0, zz_1, zz_2, zz_3, zz_4, zz_5, zz_6, zz_7, zz_8, zz_9, zz_10, zz_11, zz_12, zz_13, zz_14, zz_15, zz_16, zz_17) =
  Option.bind (f_X3_orders_l4 zz_0 zz_2 zz_5 300 (0 : Int32) (0 : Int32) zz_9) fun (w2 : xF) =>
  some w2 := rfl
set_option maxHeartbeats 4000000 in
set_option maxRecDepth 100000 in
theorem c_X3_orders (l : Launch) (G : xG) (za : (Nat → Nat)) (zz : xMO) (o : xF) (h : f_X3_orders zz = some o) : xk_CV l yX3_orders wsX3_orders ({ frames := 0, cells := 0, slots := 0, locals := 0 } : Room) 0 0 [.ref (za 0)] G (wMOc G za zz.1 zz.2.1 zz.2.2.1 zz.2.2.2.1 zz.2.2.2.2.1 zz.2.2.2.2.2.1 zz.2.2.2.2.2.2.1 zz.2.2.2.2.2.2.2.1 zz.2.2.2.2.2.2.2.2.1 zz.2.2.2.2.2.2.2.2.2.1 zz.2.2.2.2.2.2.2.2.2.2.1 zz.2.2.2.2.2.2.2.2.2.2.2.1 zz.2.2.2.2.2.2.2.2.2.2.2.2.1 zz.2.2.2.2.2.2.2.2.2.2.2.2.2.1 zz.2.2.2.2.2.2.2.2.2.2.2.2.2.2.1 zz.2.2.2.2.2.2.2.2.2.2.2.2.2.2.2.1 zz.2.2.2.2.2.2.2.2.2.2.2.2.2.2.2.2.1 zz.2.2.2.2.2.2.2.2.2.2.2.2.2.2.2.2.2) (wMOc G za zz.1 zz.2.1 zz.2.2.1 zz.2.2.2.1 zz.2.2.2.2.1 zz.2.2.2.2.2.1 zz.2.2.2.2.2.2.1 zz.2.2.2.2.2.2.2.1 zz.2.2.2.2.2.2.2.2.1 o zz.2.2.2.2.2.2.2.2.2.2.1 zz.2.2.2.2.2.2.2.2.2.2.2.1 zz.2.2.2.2.2.2.2.2.2.2.2.2.1 zz.2.2.2.2.2.2.2.2.2.2.2.2.2.1 zz.2.2.2.2.2.2.2.2.2.2.2.2.2.2.1 zz.2.2.2.2.2.2.2.2.2.2.2.2.2.2.2.1 zz.2.2.2.2.2.2.2.2.2.2.2.2.2.2.2.2.1 zz.2.2.2.2.2.2.2.2.2.2.2.2.2.2.2.2.2) := by
  obtain ⟨zz_0, zz_1, zz_2, zz_3, zz_4, zz_5, zz_6, zz_7, zz_8, zz_9, zz_10, zz_11, zz_12, zz_13, zz_14, zz_15, zz_16, zz_17⟩ := zz
  refine xk_CV.of (cc := cX3_orders) (maxL := 8) (ret := none) (by decide) rfl (Nat.le_of_ble_eq_true rfl) ?_
  intro pr9 en9 s mm9 bl9 meth9 cd9 A ls H locs hx hb hr hml hts hown hlk hA hP hK hD hNE hS hl
  have hown : s.vm.findClass RX3 = some mm9.cls := hown
  have hl : lv_has ls 8 [(0, .ref (za 0))] := hl
  have hinX3 : ∀ w ∈ u_ws RX3 TX3 18, w ∈ wsX3_orders := by decide +kernel
  have hP : va_P G.1 vwCl (wMOc G za zz_0 zz_1 zz_2 zz_3 zz_4 zz_5 zz_6 zz_7 zz_8 zz_9 zz_10 zz_11 zz_12 zz_13 zz_14 zz_15 zz_16 zz_17) H := hP
  have hD : va_D A (wMOc G za zz_0 zz_1 zz_2 zz_3 zz_4 zz_5 zz_6 zz_7 zz_8 zz_9 zz_10 zz_11 zz_12 zz_13 zz_14 zz_15 zz_16 zz_17) := hD
  have h := (f_X3_orders_e zz_0 zz_1 zz_2 zz_3 zz_4 zz_5 zz_6 zz_7 zz_8 zz_9 zz_10 zz_11 zz_12 zz_13 zz_14 zz_15 zz_16 zz_17).symm.trans h
  refine lv_iconst (v := (0 : Int32)) hx hb dX3_orders_0 (by decide) ?_
  refine lv_istore_n (lv' := [(1, .int (0 : Int32)), (0, .ref (za 0))]) hx hb dX3_orders_1 rfl hl (by decide) rfl (fun ls hl => ?_)
  refine lv_iconst (v := (0 : Int32)) hx hb dX3_orders_2 (by decide) ?_
  refine lv_istore_n (lv' := [(2, .int (0 : Int32)), (1, .int (0 : Int32)), (0, .ref (za 0))]) hx hb dX3_orders_3 rfl hl (by decide) rfl (fun ls hl => ?_)
  obtain ⟨w2, hw2, h⟩ := sp_b h
  refine xk_jn G A s.heap (wMOc G za zz_0 zz_1 zz_2 zz_3 zz_4 zz_5 zz_6 zz_7 zz_8 w2 zz_10 zz_11 zz_12 zz_13 zz_14 zz_15 zz_16 zz_17) 8 [] 176 [] (fun H locs hP hD hS ls hl => ?_) (fun J1 => ?_)
  · obtain rfl := sp_s h
    exact xk_reV hx hb hr hlk hP hD hS dX3_orders_176
  · have h := hw2
    clear hw2
    refine xk_lp (α := Int32 × Int32 × xF) G A s.heap (fun a_1 => (wMOc G za zz_0 zz_1 zz_2 zz_3 zz_4 zz_5 zz_6 zz_7 zz_8 a_1.2.2 zz_10 zz_11 zz_12 zz_13 zz_14 zz_15 zz_16 zz_17)) 8 (fun a_1 => [(2, .int a_1.1), (1, .int a_1.2.1), (0, .ref (za 0))]) 4 (fun n a_1 => f_X3_orders_l4 zz_0 zz_2 zz_5 n a_1.1 a_1.2.1 a_1.2.2 = some w2) (fun a_1 h => ?_) (fun n ih_1 a_1 h H locs hP hD hS ls hl => ?_) (fun LL => ?_)
    · exact sp_n ((f_X3_orders_l4_z _ _ _ _ _ _).symm.trans h)
    · obtain ⟨x2_1, x1_1, zz9_1⟩ := a_1
      have h := (f_X3_orders_l4_s zz_0 zz_2 zz_5 n x2_1 x1_1 zz9_1).symm.trans h
      have hP : va_P G.1 vwCl (wMOc G za zz_0 zz_1 zz_2 zz_3 zz_4 zz_5 zz_6 zz_7 zz_8 zz9_1 zz_10 zz_11 zz_12 zz_13 zz_14 zz_15 zz_16 zz_17) H := hP
      have hD : va_D A (wMOc G za zz_0 zz_1 zz_2 zz_3 zz_4 zz_5 zz_6 zz_7 zz_8 zz9_1 zz_10 zz_11 zz_12 zz_13 zz_14 zz_15 zz_16 zz_17) := hD
      have hl : lv_has ls 8 [(2, .int x2_1), (1, .int x1_1), (0, .ref (za 0))] := hl
      refine lv_iload_n hx hb dX3_orders_4 rfl (lv_at hl 0 rfl) ?_
      refine lv_aload_n hx hb dX3_orders_5 rfl (lv_at hl 2 rfl) ?_
      refine va_get (D := G.1) (ci := 3) (v := .int zz_0) (C := RX3) (T := TX3) (N := 18) hx hb hts hinX3 hown hK hP 0 rfl rfl 0 (by decide) (hts (.fieldLink RX3 60 "LessonWeaveModel" "aims" "I") (by decide +kernel)) (fun _ h9 => h9) rfl dX3_orders_6 ?_
      refine lv_icmp_ge (tgt := 176) hx hb dX3_orders_9 (by decide) (fun c3 => ?_) (fun c3 => ?_)
      · have h := sp_t c3 h
        obtain rfl := sp_s h
        exact J1 _ _ hP hD hS _ (lv_sub hl [] rfl)
      · have h := sp_f c3 h
        refine lv_iconst (v := ((-1) : Int32)) hx hb dX3_orders_12 (by decide) ?_
        refine lv_istore_n (lv' := [(3, .int ((-1) : Int32)), (2, .int x2_1), (1, .int x1_1), (0, .ref (za 0))]) hx hb dX3_orders_13 rfl hl (by decide) rfl (fun ls hl => ?_)
        refine lv_aload_n hx hb dX3_orders_14 rfl (lv_at hl 3 rfl) ?_
        refine va_get (D := G.1) (ci := 3) (v := .int zz_0) (C := RX3) (T := TX3) (N := 18) hx hb hts hinX3 hown hK hP 0 rfl rfl 0 (by decide) (hts (.fieldLink RX3 60 "LessonWeaveModel" "aims" "I") (by decide +kernel)) (fun _ h9 => h9) rfl dX3_orders_15 ?_
        refine lv_iconst (v := (1 : Int32)) hx hb dX3_orders_18 (by decide) ?_
        refine lv_isub hx hb dX3_orders_19 ?_
        refine lv_istore (lv' := [(4, .int (zz_0 - (1 : Int32))), (3, .int ((-1) : Int32)), (2, .int x2_1), (1, .int x1_1), (0, .ref (za 0))]) hx hb dX3_orders_20 hl (by decide) rfl (fun ls hl => ?_)
        obtain ⟨w5, hw5, h⟩ := sp_b h
        refine xk_jn G A s.heap (wMOc G za zz_0 zz_1 zz_2 zz_3 zz_4 zz_5 zz_6 zz_7 zz_8 zz9_1 zz_10 zz_11 zz_12 zz_13 zz_14 zz_15 zz_16 zz_17) 8 [(3, .int w5), (2, .int x2_1), (1, .int x1_1), (0, .ref (za 0))] 157 [] (fun H locs hP hD hS ls hl => ?_) (fun J4 => ?_)
        · refine lv_aload_n hx hb dX3_orders_157 rfl (lv_at hl 3 rfl) ?_
          refine va_get (D := G.1) (ci := 3) (v := .ref (za 9)) (C := RX3) (T := TX3) (N := 18) hx hb hts hinX3 hown hK hP 0 rfl rfl 9 (by decide) (hts (.fieldLink RX3 35 "LessonWeaveModel" "order" "[I") (by decide +kernel)) (fun _ h9 => h9) rfl dX3_orders_158 ?_
          refine lv_iload_n hx hb dX3_orders_161 rfl (lv_at hl 1 rfl) ?_
          refine lv_iload_n hx hb dX3_orders_162 rfl (lv_at hl 0 rfl) ?_
          obtain ⟨hin27, h⟩ := sp_g h
          refine va_iast hx hb hK hP hD hS 9 0 rfl rfl hin27 dX3_orders_163 (fun H locs hP hD hS => ?_)
          have hP : va_P G.1 vwCl (wMOc G za zz_0 zz_1 zz_2 zz_3 zz_4 zz_5 zz_6 zz_7 zz_8 (upd zz9_1 x2_1.toNatClampNeg w5) zz_10 zz_11 zz_12 zz_13 zz_14 zz_15 zz_16 zz_17) H := hP
          have hD : va_D A (wMOc G za zz_0 zz_1 zz_2 zz_3 zz_4 zz_5 zz_6 zz_7 zz_8 (upd zz9_1 x2_1.toNatClampNeg w5) zz_10 zz_11 zz_12 zz_13 zz_14 zz_15 zz_16 zz_17) := hD
          refine lv_iload_n hx hb dX3_orders_164 rfl (lv_at hl 2 rfl) ?_
          refine lv_iconst (v := (1 : Int32)) hx hb dX3_orders_165 (by decide) ?_
          refine lv_iload_n hx hb dX3_orders_166 rfl (lv_at hl 0 rfl) ?_
          refine lv_ishl hx hb dX3_orders_167 ?_
          refine lv_ior hx hb dX3_orders_168 ?_
          refine lv_istore_n (lv' := [(1, .int (x1_1 ||| ((1 : Int32) <<< (w5 &&& 31)))), (3, .int w5), (2, .int x2_1), (0, .ref (za 0))]) hx hb dX3_orders_169 rfl hl (by decide) rfl (fun ls hl => ?_)
          refine lv_iinc (v := (x2_1 + (1 : Int32))) (lv' := [(2, .int (x2_1 + (1 : Int32))), (1, .int (x1_1 ||| ((1 : Int32) <<< (w5 &&& 31)))), (3, .int w5), (0, .ref (za 0))]) hx hb dX3_orders_170 hl (k := 2) rfl rfl (by decide) rfl (fun ls hl => ?_)
          refine lv_goto (tgt := 4) hx hb dX3_orders_173 (by decide) ?_
          exact ih_1 ((x2_1 + (1 : Int32)), (x1_1 ||| ((1 : Int32) <<< (w5 &&& 31))), (upd zz9_1 x2_1.toNatClampNeg w5)) h _ _ hP hD hS _ (lv_sub hl [0, 1, 3] rfl)
        · have h := hw5
          clear hw5
          refine xk_lp (α := Int32 × Int32) G A s.heap (fun a_4 => (wMOc G za zz_0 zz_1 zz_2 zz_3 zz_4 zz_5 zz_6 zz_7 zz_8 zz9_1 zz_10 zz_11 zz_12 zz_13 zz_14 zz_15 zz_16 zz_17)) 8 (fun a_4 => [(4, .int a_4.1), (3, .int a_4.2), (2, .int x2_1), (1, .int x1_1), (0, .ref (za 0))]) 22 (fun n a_4 => f_X3_orders_l22 zz_2 zz_5 x2_1 x1_1 zz9_1 n a_4.1 a_4.2 = some w5) (fun a_4 h => ?_) (fun n ih_4 a_4 h H locs hP hD hS ls hl => ?_) (fun LL => ?_)
          · exact sp_n ((f_X3_orders_l22_z _ _ _ _ _ _ _).symm.trans h)
          · obtain ⟨x4_4, x3_4⟩ := a_4
            have h := (f_X3_orders_l22_s zz_2 zz_5 x2_1 x1_1 zz9_1 n x4_4 x3_4).symm.trans h
            have hP : va_P G.1 vwCl (wMOc G za zz_0 zz_1 zz_2 zz_3 zz_4 zz_5 zz_6 zz_7 zz_8 zz9_1 zz_10 zz_11 zz_12 zz_13 zz_14 zz_15 zz_16 zz_17) H := hP
            have hD : va_D A (wMOc G za zz_0 zz_1 zz_2 zz_3 zz_4 zz_5 zz_6 zz_7 zz_8 zz9_1 zz_10 zz_11 zz_12 zz_13 zz_14 zz_15 zz_16 zz_17) := hD
            have hl : lv_has ls 8 [(4, .int x4_4), (3, .int x3_4), (2, .int x2_1), (1, .int x1_1), (0, .ref (za 0))] := hl
            refine lv_iload hx hb dX3_orders_22 (lv_at hl 0 rfl) ?_
            refine lv_if_lt (tgt := 157) hx hb dX3_orders_24 (by decide) (fun c6 => ?_) (fun c6 => ?_)
            · have h := sp_t c6 h
              obtain rfl := sp_s h
              exact J4 _ _ hP hD hS _ (lv_sub hl [1, 2, 3, 4] rfl)
            · have h := sp_f c6 h
              refine lv_iload_n hx hb dX3_orders_27 rfl (lv_at hl 3 rfl) ?_
              refine lv_iload hx hb dX3_orders_28 (lv_at hl 0 rfl) ?_
              refine lv_ishr hx hb dX3_orders_30 ?_
              refine lv_iconst (v := (1 : Int32)) hx hb dX3_orders_31 (by decide) ?_
              refine lv_iand hx hb dX3_orders_32 ?_
              obtain ⟨v7, hv7, h⟩ := sp_b h
              refine xk_jn G A s.heap (wMOc G za zz_0 zz_1 zz_2 zz_3 zz_4 zz_5 zz_6 zz_7 zz_8 zz9_1 zz_10 zz_11 zz_12 zz_13 zz_14 zz_15 zz_16 zz_17) 8 [(4, .int x4_4), (3, .int x3_4), (2, .int x2_1), (1, .int x1_1), (0, .ref (za 0))] 55 [.int v7] (fun H locs hP hD hS ls hl => ?_) (fun J7 => ?_)
              · refine lv_istore (lv' := [(5, .int v7), (4, .int x4_4), (3, .int x3_4), (2, .int x2_1), (1, .int x1_1), (0, .ref (za 0))]) hx hb dX3_orders_55 hl (by decide) rfl (fun ls hl => ?_)
                refine lv_iload_n hx hb dX3_orders_57 rfl (lv_at hl 3 rfl) ?_
                obtain ⟨v8, hv8, h⟩ := sp_b h
                refine xk_jn G A s.heap (wMOc G za zz_0 zz_1 zz_2 zz_3 zz_4 zz_5 zz_6 zz_7 zz_8 zz9_1 zz_10 zz_11 zz_12 zz_13 zz_14 zz_15 zz_16 zz_17) 8 [(5, .int v7), (4, .int x4_4), (3, .int x3_4), (2, .int x2_1), (1, .int x1_1), (0, .ref (za 0))] 89 [.int v8] (fun H locs hP hD hS ls hl => ?_) (fun J8 => ?_)
                · refine lv_istore (lv' := [(6, .int v8), (5, .int v7), (4, .int x4_4), (3, .int x3_4), (2, .int x2_1), (1, .int x1_1), (0, .ref (za 0))]) hx hb dX3_orders_89 hl (by decide) rfl (fun ls hl => ?_)
                  refine lv_iload_n hx hb dX3_orders_91 rfl (lv_at hl 3 rfl) ?_
                  refine lv_iconst (v := ((-1) : Int32)) hx hb dX3_orders_92 (by decide) ?_
                  obtain ⟨v9, hv9, h⟩ := sp_b h
                  refine xk_jn G A s.heap (wMOc G za zz_0 zz_1 zz_2 zz_3 zz_4 zz_5 zz_6 zz_7 zz_8 zz9_1 zz_10 zz_11 zz_12 zz_13 zz_14 zz_15 zz_16 zz_17) 8 [(6, .int v8), (5, .int v7), (4, .int x4_4), (3, .int x3_4), (2, .int x2_1), (1, .int x1_1), (0, .ref (za 0))] 127 [.int v9] (fun H locs hP hD hS ls hl => ?_) (fun J9 => ?_)
                  · refine lv_istore (lv' := [(7, .int v9), (6, .int v8), (5, .int v7), (4, .int x4_4), (3, .int x3_4), (2, .int x2_1), (1, .int x1_1), (0, .ref (za 0))]) hx hb dX3_orders_127 hl (by decide) rfl (fun ls hl => ?_)
                    refine lv_iload hx hb dX3_orders_129 (lv_at hl 2 rfl) ?_
                    refine lv_if_eq (tgt := 149) hx hb dX3_orders_131 (by decide) (fun c10 => ?_) (fun c10 => ?_)
                    · have h := sp_t c10 h
                      refine lv_iload_n hx hb dX3_orders_149 rfl (lv_at hl 4 rfl) ?_
                      refine lv_istore_n (lv' := [(3, .int x3_4), (7, .int v9), (6, .int v8), (5, .int v7), (4, .int x4_4), (2, .int x2_1), (1, .int x1_1), (0, .ref (za 0))]) hx hb dX3_orders_150 rfl hl (by decide) rfl (fun ls hl => ?_)
                      refine lv_iinc (v := (x4_4 + ((-1) : Int32))) (lv' := [(4, .int (x4_4 + ((-1) : Int32))), (3, .int x3_4), (7, .int v9), (6, .int v8), (5, .int v7), (2, .int x2_1), (1, .int x1_1), (0, .ref (za 0))]) hx hb dX3_orders_151 hl (k := 4) rfl rfl (by decide) rfl (fun ls hl => ?_)
                      refine lv_goto (tgt := 22) hx hb dX3_orders_154 (by decide) ?_
                      exact ih_4 ((x4_4 + ((-1) : Int32)), x3_4) h _ _ hP hD hS _ (lv_sub hl [0, 1, 5, 6, 7] rfl)
                    · have h := sp_f c10 h
                      refine lv_iload hx hb dX3_orders_134 (lv_at hl 1 rfl) ?_
                      refine lv_if_ne (tgt := 144) hx hb dX3_orders_136 (by decide) (fun c11 => ?_) (fun c11 => ?_)
                      · have h := sp_f c11 h
                        refine lv_iload hx hb dX3_orders_144 (lv_at hl 3 rfl) ?_
                        refine lv_goto (tgt := 150) hx hb dX3_orders_146 (by decide) ?_
                        refine lv_istore_n (lv' := [(3, .int x4_4), (7, .int v9), (6, .int v8), (5, .int v7), (4, .int x4_4), (2, .int x2_1), (1, .int x1_1), (0, .ref (za 0))]) hx hb dX3_orders_150 rfl hl (by decide) rfl (fun ls hl => ?_)
                        refine lv_iinc (v := (x4_4 + ((-1) : Int32))) (lv' := [(4, .int (x4_4 + ((-1) : Int32))), (3, .int x4_4), (7, .int v9), (6, .int v8), (5, .int v7), (2, .int x2_1), (1, .int x1_1), (0, .ref (za 0))]) hx hb dX3_orders_151 hl (k := 4) rfl rfl (by decide) rfl (fun ls hl => ?_)
                        refine lv_goto (tgt := 22) hx hb dX3_orders_154 (by decide) ?_
                        exact ih_4 ((x4_4 + ((-1) : Int32)), x4_4) h _ _ hP hD hS _ (lv_sub hl [0, 1, 5, 6, 7] rfl)
                      · have h := sp_t c11 h
                        refine lv_iload hx hb dX3_orders_139 (lv_at hl 0 rfl) ?_
                        refine lv_if_ne (tgt := 149) hx hb dX3_orders_141 (by decide) (fun c12 => ?_) (fun c12 => ?_)
                        · have h := sp_f c12 h
                          refine lv_iload_n hx hb dX3_orders_149 rfl (lv_at hl 4 rfl) ?_
                          refine lv_istore_n (lv' := [(3, .int x3_4), (7, .int v9), (6, .int v8), (5, .int v7), (4, .int x4_4), (2, .int x2_1), (1, .int x1_1), (0, .ref (za 0))]) hx hb dX3_orders_150 rfl hl (by decide) rfl (fun ls hl => ?_)
                          refine lv_iinc (v := (x4_4 + ((-1) : Int32))) (lv' := [(4, .int (x4_4 + ((-1) : Int32))), (3, .int x3_4), (7, .int v9), (6, .int v8), (5, .int v7), (2, .int x2_1), (1, .int x1_1), (0, .ref (za 0))]) hx hb dX3_orders_151 hl (k := 4) rfl rfl (by decide) rfl (fun ls hl => ?_)
                          refine lv_goto (tgt := 22) hx hb dX3_orders_154 (by decide) ?_
                          exact ih_4 ((x4_4 + ((-1) : Int32)), x3_4) h _ _ hP hD hS _ (lv_sub hl [0, 1, 5, 6, 7] rfl)
                        · have h := sp_t c12 h
                          refine lv_iload hx hb dX3_orders_144 (lv_at hl 3 rfl) ?_
                          refine lv_goto (tgt := 150) hx hb dX3_orders_146 (by decide) ?_
                          refine lv_istore_n (lv' := [(3, .int x4_4), (7, .int v9), (6, .int v8), (5, .int v7), (4, .int x4_4), (2, .int x2_1), (1, .int x1_1), (0, .ref (za 0))]) hx hb dX3_orders_150 rfl hl (by decide) rfl (fun ls hl => ?_)
                          refine lv_iinc (v := (x4_4 + ((-1) : Int32))) (lv' := [(4, .int (x4_4 + ((-1) : Int32))), (3, .int x4_4), (7, .int v9), (6, .int v8), (5, .int v7), (2, .int x2_1), (1, .int x1_1), (0, .ref (za 0))]) hx hb dX3_orders_151 hl (k := 4) rfl rfl (by decide) rfl (fun ls hl => ?_)
                          refine lv_goto (tgt := 22) hx hb dX3_orders_154 (by decide) ?_
                          exact ih_4 ((x4_4 + ((-1) : Int32)), x4_4) h _ _ hP hD hS _ (lv_sub hl [0, 1, 5, 6, 7] rfl)
                  · have h := hv9
                    clear hv9
                    refine lv_icmp_eq (tgt := 126) hx hb dX3_orders_93 (by decide) (fun c13 => ?_) (fun c13 => ?_)
                    · have h := sp_t c13 h
                      refine lv_iconst (v := (0 : Int32)) hx hb dX3_orders_126 (by decide) ?_
                      obtain rfl := sp_s h
                      exact J9 _ _ hP hD hS _ (lv_sub hl [0, 1, 2, 3, 4, 5, 6] rfl)
                    · have h := sp_f c13 h
                      refine lv_iload_n hx hb dX3_orders_96 rfl (lv_at hl 4 rfl) ?_
                      refine lv_if_le (tgt := 126) hx hb dX3_orders_97 (by decide) (fun c14 => ?_) (fun c14 => ?_)
                      · have h := sp_t c14 h
                        refine lv_iconst (v := (0 : Int32)) hx hb dX3_orders_126 (by decide) ?_
                        obtain rfl := sp_s h
                        exact J9 _ _ hP hD hS _ (lv_sub hl [0, 1, 2, 3, 4, 5, 6] rfl)
                      · have h := sp_f c14 h
                        refine lv_aload_n hx hb dX3_orders_100 rfl (lv_at hl 6 rfl) ?_
                        refine va_get (D := G.1) (ci := 3) (v := .ref (za 2)) (C := RX3) (T := TX3) (N := 18) hx hb hts hinX3 hown hK hP 0 rfl rfl 2 (by decide) (hts (.fieldLink RX3 13 "LessonWeaveModel" "kind" "[I") (by decide +kernel)) (fun _ h9 => h9) rfl dX3_orders_101 ?_
                        refine lv_iload_n hx hb dX3_orders_104 rfl (lv_at hl 3 rfl) ?_
                        obtain ⟨hin15, h⟩ := sp_g h
                        refine va_iald hx hb hK hP 2 0 rfl rfl hin15 dX3_orders_105 ?_
                        refine lv_aload_n hx hb dX3_orders_106 rfl (lv_at hl 6 rfl) ?_
                        refine va_get (D := G.1) (ci := 3) (v := .ref (za 2)) (C := RX3) (T := TX3) (N := 18) hx hb hts hinX3 hown hK hP 0 rfl rfl 2 (by decide) (hts (.fieldLink RX3 13 "LessonWeaveModel" "kind" "[I") (by decide +kernel)) (fun _ h9 => h9) rfl dX3_orders_107 ?_
                        refine lv_aload_n hx hb dX3_orders_110 rfl (lv_at hl 6 rfl) ?_
                        refine va_get (D := G.1) (ci := 3) (v := .ref (za 9)) (C := RX3) (T := TX3) (N := 18) hx hb hts hinX3 hown hK hP 0 rfl rfl 9 (by decide) (hts (.fieldLink RX3 35 "LessonWeaveModel" "order" "[I") (by decide +kernel)) (fun _ h9 => h9) rfl dX3_orders_111 ?_
                        refine lv_iload_n hx hb dX3_orders_114 rfl (lv_at hl 4 rfl) ?_
                        refine lv_iconst (v := (1 : Int32)) hx hb dX3_orders_115 (by decide) ?_
                        refine lv_isub hx hb dX3_orders_116 ?_
                        obtain ⟨hin16, h⟩ := sp_g h
                        refine va_iald hx hb hK hP 9 0 rfl rfl hin16 dX3_orders_117 ?_
                        obtain ⟨hin17, h⟩ := sp_g h
                        refine va_iald hx hb hK hP 2 0 rfl rfl hin17 dX3_orders_118 ?_
                        refine lv_icmp_ne (tgt := 126) hx hb dX3_orders_119 (by decide) (fun c18 => ?_) (fun c18 => ?_)
                        · have h := sp_f c18 h
                          refine lv_iconst (v := (0 : Int32)) hx hb dX3_orders_126 (by decide) ?_
                          obtain rfl := sp_s h
                          exact J9 _ _ hP hD hS _ (lv_sub hl [0, 1, 2, 3, 4, 5, 6] rfl)
                        · have h := sp_t c18 h
                          refine lv_iconst (v := (1 : Int32)) hx hb dX3_orders_122 (by decide) ?_
                          refine lv_goto (tgt := 127) hx hb dX3_orders_123 (by decide) ?_
                          obtain rfl := sp_s h
                          exact J9 _ _ hP hD hS _ (lv_sub hl [0, 1, 2, 3, 4, 5, 6] rfl)
                · have h := hv8
                  clear hv8
                  refine lv_if_le (tgt := 88) hx hb dX3_orders_58 (by decide) (fun c19 => ?_) (fun c19 => ?_)
                  · have h := sp_t c19 h
                    refine lv_iconst (v := (0 : Int32)) hx hb dX3_orders_88 (by decide) ?_
                    obtain rfl := sp_s h
                    exact J8 _ _ hP hD hS _ (lv_sub hl [0, 1, 2, 3, 4, 5] rfl)
                  · have h := sp_f c19 h
                    refine lv_aload_n hx hb dX3_orders_61 rfl (lv_at hl 5 rfl) ?_
                    refine va_get (D := G.1) (ci := 3) (v := .ref (za 2)) (C := RX3) (T := TX3) (N := 18) hx hb hts hinX3 hown hK hP 0 rfl rfl 2 (by decide) (hts (.fieldLink RX3 13 "LessonWeaveModel" "kind" "[I") (by decide +kernel)) (fun _ h9 => h9) rfl dX3_orders_62 ?_
                    refine lv_iload hx hb dX3_orders_65 (lv_at hl 1 rfl) ?_
                    obtain ⟨hin20, h⟩ := sp_g h
                    refine va_iald hx hb hK hP 2 0 rfl rfl hin20 dX3_orders_67 ?_
                    refine lv_aload_n hx hb dX3_orders_68 rfl (lv_at hl 5 rfl) ?_
                    refine va_get (D := G.1) (ci := 3) (v := .ref (za 2)) (C := RX3) (T := TX3) (N := 18) hx hb hts hinX3 hown hK hP 0 rfl rfl 2 (by decide) (hts (.fieldLink RX3 13 "LessonWeaveModel" "kind" "[I") (by decide +kernel)) (fun _ h9 => h9) rfl dX3_orders_69 ?_
                    refine lv_aload_n hx hb dX3_orders_72 rfl (lv_at hl 5 rfl) ?_
                    refine va_get (D := G.1) (ci := 3) (v := .ref (za 9)) (C := RX3) (T := TX3) (N := 18) hx hb hts hinX3 hown hK hP 0 rfl rfl 9 (by decide) (hts (.fieldLink RX3 35 "LessonWeaveModel" "order" "[I") (by decide +kernel)) (fun _ h9 => h9) rfl dX3_orders_73 ?_
                    refine lv_iload_n hx hb dX3_orders_76 rfl (lv_at hl 3 rfl) ?_
                    refine lv_iconst (v := (1 : Int32)) hx hb dX3_orders_77 (by decide) ?_
                    refine lv_isub hx hb dX3_orders_78 ?_
                    obtain ⟨hin21, h⟩ := sp_g h
                    refine va_iald hx hb hK hP 9 0 rfl rfl hin21 dX3_orders_79 ?_
                    obtain ⟨hin22, h⟩ := sp_g h
                    refine va_iald hx hb hK hP 2 0 rfl rfl hin22 dX3_orders_80 ?_
                    refine lv_icmp_ne (tgt := 88) hx hb dX3_orders_81 (by decide) (fun c23 => ?_) (fun c23 => ?_)
                    · have h := sp_f c23 h
                      refine lv_iconst (v := (0 : Int32)) hx hb dX3_orders_88 (by decide) ?_
                      obtain rfl := sp_s h
                      exact J8 _ _ hP hD hS _ (lv_sub hl [0, 1, 2, 3, 4, 5] rfl)
                    · have h := sp_t c23 h
                      refine lv_iconst (v := (1 : Int32)) hx hb dX3_orders_84 (by decide) ?_
                      refine lv_goto (tgt := 89) hx hb dX3_orders_85 (by decide) ?_
                      obtain rfl := sp_s h
                      exact J8 _ _ hP hD hS _ (lv_sub hl [0, 1, 2, 3, 4, 5] rfl)
              · have h := hv7
                clear hv7
                refine lv_if_ne (tgt := 54) hx hb dX3_orders_33 (by decide) (fun c24 => ?_) (fun c24 => ?_)
                · have h := sp_f c24 h
                  refine lv_iconst (v := (0 : Int32)) hx hb dX3_orders_54 (by decide) ?_
                  obtain rfl := sp_s h
                  exact J7 _ _ hP hD hS _ (lv_sub hl [0, 1, 2, 3, 4] rfl)
                · have h := sp_t c24 h
                  refine lv_aload_n hx hb dX3_orders_36 rfl (lv_at hl 4 rfl) ?_
                  refine va_get (D := G.1) (ci := 3) (v := .ref (za 5)) (C := RX3) (T := TX3) (N := 18) hx hb hts hinX3 hown hK hP 0 rfl rfl 5 (by decide) (hts (.fieldLink RX3 22 "LessonWeaveModel" "needs" "[I") (by decide +kernel)) (fun _ h9 => h9) rfl dX3_orders_37 ?_
                  refine lv_iload hx hb dX3_orders_40 (lv_at hl 0 rfl) ?_
                  obtain ⟨hin25, h⟩ := sp_g h
                  refine va_iald hx hb hK hP 5 0 rfl rfl hin25 dX3_orders_42 ?_
                  refine lv_iload_n hx hb dX3_orders_43 rfl (lv_at hl 3 rfl) ?_
                  refine lv_iconst (v := ((-1) : Int32)) hx hb dX3_orders_44 (by decide) ?_
                  refine lv_ixor hx hb dX3_orders_45 ?_
                  refine lv_iand hx hb dX3_orders_46 ?_
                  refine lv_if_ne (tgt := 54) hx hb dX3_orders_47 (by decide) (fun c26 => ?_) (fun c26 => ?_)
                  · have h := sp_f c26 h
                    refine lv_iconst (v := (0 : Int32)) hx hb dX3_orders_54 (by decide) ?_
                    obtain rfl := sp_s h
                    exact J7 _ _ hP hD hS _ (lv_sub hl [0, 1, 2, 3, 4] rfl)
                  · have h := sp_t c26 h
                    refine lv_iconst (v := (1 : Int32)) hx hb dX3_orders_50 (by decide) ?_
                    refine lv_goto (tgt := 55) hx hb dX3_orders_51 (by decide) ?_
                    obtain rfl := sp_s h
                    exact J7 _ _ hP hD hS _ (lv_sub hl [0, 1, 2, 3, 4] rfl)
          · exact LL 300 ((zz_0 - (1 : Int32)), ((-1) : Int32)) h _ _ hP hD hS _ (lv_sub hl [0, 1, 2, 3, 4] rfl)
    · exact LL 300 ((0 : Int32), (0 : Int32), zz_9) h _ _ hP hD hS _ (lv_sub hl [0, 1, 2] rfl)
def f_X3_ordered (zz : xMO) (i1 : Int32) : Option (Int32 × xF × Int32) :=
  Option.bind (f_X3_isIn i1 (0 : Int32) (zz.1 - (1 : Int32))) fun (o1 : Int32) =>
  Option.bind (
    if o1 = 0 then
      some (1 : Int32)
    else
      some (0 : Int32)) fun (v2 : Int32) =>
  Option.bind (f_X3_can (zz.1, zz.2.1, zz.2.2.1, zz.2.2.2.1, zz.2.2.2.2.1, zz.2.2.2.2.2.1, zz.2.2.2.2.2.2.1, zz.2.2.2.2.2.2.2.1, zz.2.2.2.2.2.2.2.2.1, zz.2.2.2.2.2.2.2.2.2.1, zz.2.2.2.2.2.2.2.2.2.2.1, zz.2.2.2.2.2.2.2.2.2.2.2.1, zz.2.2.2.2.2.2.2.2.2.2.2.2.1, zz.2.2.2.2.2.2.2.2.2.2.2.2.2.1, zz.2.2.2.2.2.2.2.2.2.2.2.2.2.2.1, zz.2.2.2.2.2.2.2.2.2.2.2.2.2.2.2.1, zz.2.2.2.2.2.2.2.2.2.2.2.2.2.2.2.2.1, zz.2.2.2.2.2.2.2.2.2.2.2.2.2.2.2.2.2) v2) fun (o3 : Int32 × Int32) =>
  if o3.1 = 0 then
    some ((0 : Int32), zz.2.2.2.2.2.2.2.2.2.1, o3.2)
  else
    Option.bind (f_X3_orders (zz.1, zz.2.1, zz.2.2.1, zz.2.2.2.1, zz.2.2.2.2.1, zz.2.2.2.2.2.1, zz.2.2.2.2.2.2.1, zz.2.2.2.2.2.2.2.1, zz.2.2.2.2.2.2.2.2.1, zz.2.2.2.2.2.2.2.2.2.1, zz.2.2.2.2.2.2.2.2.2.2.1, zz.2.2.2.2.2.2.2.2.2.2.2.1, zz.2.2.2.2.2.2.2.2.2.2.2.2.1, zz.2.2.2.2.2.2.2.2.2.2.2.2.2.1, zz.2.2.2.2.2.2.2.2.2.2.2.2.2.2.1, zz.2.2.2.2.2.2.2.2.2.2.2.2.2.2.2.1, zz.2.2.2.2.2.2.2.2.2.2.2.2.2.2.2.2.1, o3.2)) fun (o5 : xF) =>
    if i1 < 0 ∨ 12 ≤ i1.toNatClampNeg then none else
    some ((o5 i1.toNatClampNeg), o5, o3.2)
theorem f_X3_ordered_e (zz_0 : Int32) (zz_1 : xF) (zz_2 : xF) (zz_3 : xF) (zz_4 : xF) (zz_5 : xF) (zz_6 : xF) (zz_7 : xF) (zz_8 : xF) (zz_9 : xF) (zz_10 : xF) (zz_11 : xF) (zz_12 : xF) (zz_13 : xF) (zz_14 : xF) (zz_15 : xF) (zz_16 : Int32) (zz_17 : Int32) (i1 : Int32) : f_X3_ordered (zz_0, zz_1, zz_2, zz_3, zz_4, zz_5, zz_6, zz_7, zz_8, zz_9, zz_10, zz_11, zz_12, zz_13, zz_14, zz_15, zz_16, zz_17) i1 =
  Option.bind (f_X3_isIn i1 (0 : Int32) (zz_0 - (1 : Int32))) fun (o1 : Int32) =>
  Option.bind (
    if o1 = 0 then
      some (1 : Int32)
    else
      some (0 : Int32)) fun (v2 : Int32) =>
  Option.bind (f_X3_can (zz_0, zz_1, zz_2, zz_3, zz_4, zz_5, zz_6, zz_7, zz_8, zz_9, zz_10, zz_11, zz_12, zz_13, zz_14, zz_15, zz_16, zz_17) v2) fun (o3 : Int32 × Int32) =>
  if o3.1 = 0 then
    some ((0 : Int32), zz_9, o3.2)
  else
    Option.bind (f_X3_orders (zz_0, zz_1, zz_2, zz_3, zz_4, zz_5, zz_6, zz_7, zz_8, zz_9, zz_10, zz_11, zz_12, zz_13, zz_14, zz_15, zz_16, o3.2)) fun (o5 : xF) =>
    if i1 < 0 ∨ 12 ≤ i1.toNatClampNeg then none else
    some ((o5 i1.toNatClampNeg), o5, o3.2) := rfl
set_option maxHeartbeats 4000000 in
set_option maxRecDepth 100000 in
theorem c_X3_ordered (l : Launch) (G : xG) (za : (Nat → Nat)) (zz : xMO) (i1 : Int32) (o : Int32 × xF × Int32) (h : f_X3_ordered zz i1 = some o) : xk_CI l yX3_ordered wsX3_ordered ({ frames := 1, cells := 0, slots := 0, locals := 27 } : Room) 0 0 [.ref (za 0), .int i1] G (wMOc G za zz.1 zz.2.1 zz.2.2.1 zz.2.2.2.1 zz.2.2.2.2.1 zz.2.2.2.2.2.1 zz.2.2.2.2.2.2.1 zz.2.2.2.2.2.2.2.1 zz.2.2.2.2.2.2.2.2.1 zz.2.2.2.2.2.2.2.2.2.1 zz.2.2.2.2.2.2.2.2.2.2.1 zz.2.2.2.2.2.2.2.2.2.2.2.1 zz.2.2.2.2.2.2.2.2.2.2.2.2.1 zz.2.2.2.2.2.2.2.2.2.2.2.2.2.1 zz.2.2.2.2.2.2.2.2.2.2.2.2.2.2.1 zz.2.2.2.2.2.2.2.2.2.2.2.2.2.2.2.1 zz.2.2.2.2.2.2.2.2.2.2.2.2.2.2.2.2.1 zz.2.2.2.2.2.2.2.2.2.2.2.2.2.2.2.2.2) (wMOc G za zz.1 zz.2.1 zz.2.2.1 zz.2.2.2.1 zz.2.2.2.2.1 zz.2.2.2.2.2.1 zz.2.2.2.2.2.2.1 zz.2.2.2.2.2.2.2.1 zz.2.2.2.2.2.2.2.2.1 o.2.1 zz.2.2.2.2.2.2.2.2.2.2.1 zz.2.2.2.2.2.2.2.2.2.2.2.1 zz.2.2.2.2.2.2.2.2.2.2.2.2.1 zz.2.2.2.2.2.2.2.2.2.2.2.2.2.1 zz.2.2.2.2.2.2.2.2.2.2.2.2.2.2.1 zz.2.2.2.2.2.2.2.2.2.2.2.2.2.2.2.1 zz.2.2.2.2.2.2.2.2.2.2.2.2.2.2.2.2.1 o.2.2) o.1 := by
  obtain ⟨zz_0, zz_1, zz_2, zz_3, zz_4, zz_5, zz_6, zz_7, zz_8, zz_9, zz_10, zz_11, zz_12, zz_13, zz_14, zz_15, zz_16, zz_17⟩ := zz
  refine xk_CI.of (cc := cX3_ordered) (maxL := 2) (ret := (some .int)) (by decide) rfl (Nat.le_of_ble_eq_true rfl) ?_
  intro pr9 en9 s mm9 bl9 meth9 cd9 A ls H locs hx hb hr hml hts hown hlk hA hP hK hD hNE hS hl
  have hown : s.vm.findClass RX3 = some mm9.cls := hown
  have hl : lv_has ls 2 [(0, .ref (za 0)), (1, .int i1)] := hl
  have hinX3 : ∀ w ∈ u_ws RX3 TX3 18, w ∈ wsX3_ordered := by decide +kernel
  have hP : va_P G.1 vwCl (wMOc G za zz_0 zz_1 zz_2 zz_3 zz_4 zz_5 zz_6 zz_7 zz_8 zz_9 zz_10 zz_11 zz_12 zz_13 zz_14 zz_15 zz_16 zz_17) H := hP
  have hD : va_D A (wMOc G za zz_0 zz_1 zz_2 zz_3 zz_4 zz_5 zz_6 zz_7 zz_8 zz_9 zz_10 zz_11 zz_12 zz_13 zz_14 zz_15 zz_16 zz_17) := hD
  have h := (f_X3_ordered_e zz_0 zz_1 zz_2 zz_3 zz_4 zz_5 zz_6 zz_7 zz_8 zz_9 zz_10 zz_11 zz_12 zz_13 zz_14 zz_15 zz_16 zz_17 i1).symm.trans h
  refine lv_aload_n hx hb dX3_ordered_0 rfl (lv_at hl 0 rfl) ?_
  refine lv_iload_n hx hb dX3_ordered_1 rfl (lv_at hl 1 rfl) ?_
  refine lv_iconst (v := (0 : Int32)) hx hb dX3_ordered_2 (by decide) ?_
  refine lv_aload_n hx hb dX3_ordered_3 rfl (lv_at hl 0 rfl) ?_
  refine va_get (D := G.1) (ci := 3) (v := .int zz_0) (C := RX3) (T := TX3) (N := 18) hx hb hts hinX3 hown hK hP 0 rfl rfl 0 (by decide) (hts (.fieldLink RX3 60 "LessonWeaveModel" "aims" "I") (by decide +kernel)) (fun _ h9 => h9) rfl dX3_ordered_4 ?_
  refine lv_iconst (v := (1 : Int32)) hx hb dX3_ordered_7 (by decide) ?_
  refine lv_isub hx hb dX3_ordered_8 ?_
  obtain ⟨o1, ho1, h⟩ := sp_b h
  refine xk_ci (va_runS (As := [.int i1, .int (0 : Int32), .int (zz_0 - (1 : Int32))]) (rest := [.ref (za 0)]) ⟨hx, hb, hml, hown, hts⟩ (c_X3_isIn l G i1 (0 : Int32) (zz_0 - (1 : Int32)) o1 ho1 H.size) (va_cwS 3 hts gX3_ordered_X3_isIn rfl rfl rfl (by decide +kernel) ⟨Nat.le_of_ble_eq_true rfl, Nat.le_of_ble_eq_true rfl⟩) (xk_preS hK hNE (hP.sub (ws' := []) [] rfl) (hD.sub (ws' := []) [] (by decide) rfl)) rfl rfl hl.1 rfl (lv_room (Nat.le_of_ble_eq_true rfl)) dX3_ordered_9 ⟨Nat.le_of_ble_eq_true rfl, Nat.le_of_ble_eq_true rfl⟩) hP hD hS hA [] [0, 1, 2, 3, 4, 5, 6, 7, 8, 9, 10, 11, 12, 13, 14, 15] [0, 1, 2, 3, 4, 5, 6, 7, 8, 9, 10, 11, 12, 13, 14, 15] rfl rfl (by decide) (by decide) rfl (by decide) (fun H locs hP hD hS => ?_)
  have hP : va_P G.1 vwCl (wMOc G za zz_0 zz_1 zz_2 zz_3 zz_4 zz_5 zz_6 zz_7 zz_8 zz_9 zz_10 zz_11 zz_12 zz_13 zz_14 zz_15 zz_16 zz_17) H := hP
  have hD : va_D A (wMOc G za zz_0 zz_1 zz_2 zz_3 zz_4 zz_5 zz_6 zz_7 zz_8 zz_9 zz_10 zz_11 zz_12 zz_13 zz_14 zz_15 zz_16 zz_17) := hD
  obtain ⟨v2, hv2, h⟩ := sp_b h
  refine xk_jn G A s.heap (wMOc G za zz_0 zz_1 zz_2 zz_3 zz_4 zz_5 zz_6 zz_7 zz_8 zz_9 zz_10 zz_11 zz_12 zz_13 zz_14 zz_15 zz_16 zz_17) 2 [(0, .ref (za 0)), (1, .int i1)] 20 [.int v2, .ref (za 0)] (fun H locs hP hD hS ls hl => ?_) (fun J2 => ?_)
  · obtain ⟨o3, ho3, h⟩ := sp_b h
    refine xk_ci (va_runV (As := [.int v2]) (rest := []) ⟨hx, hb, hml, hown, hts⟩ (c_X3_can l G za (zz_0, zz_1, zz_2, zz_3, zz_4, zz_5, zz_6, zz_7, zz_8, zz_9, zz_10, zz_11, zz_12, zz_13, zz_14, zz_15, zz_16, zz_17) v2 o3 ho3 H.size) (cwV 1 hts gX3_ordered_X3_can rfl rfl rfl (by decide +kernel) ⟨Nat.le_of_ble_eq_true rfl, Nat.le_of_ble_eq_true rfl⟩) (xk_preV hK hNE (hP.sub (ws' := (wMOc G za zz_0 zz_1 zz_2 zz_3 zz_4 zz_5 zz_6 zz_7 zz_8 zz_9 zz_10 zz_11 zz_12 zz_13 zz_14 zz_15 zz_16 zz_17)) [0, 1, 2, 3, 4, 5, 6, 7, 8, 9, 10, 11, 12, 13, 14, 15] rfl) (hD.sub (ws' := (wMOc G za zz_0 zz_1 zz_2 zz_3 zz_4 zz_5 zz_6 zz_7 zz_8 zz_9 zz_10 zz_11 zz_12 zz_13 zz_14 zz_15 zz_16 zz_17)) [0, 1, 2, 3, 4, 5, 6, 7, 8, 9, 10, 11, 12, 13, 14, 15] (by decide) rfl) (ci := 3) rfl rfl) rfl rfl hl.1 rfl (lv_room (Nat.le_of_ble_eq_true rfl)) dX3_ordered_20 ⟨Nat.le_of_ble_eq_true rfl, Nat.le_of_ble_eq_true rfl⟩) hP hD hS hA [0, 1, 2, 3, 4, 5, 6, 7, 8, 9, 10, 11, 12, 13, 14, 15] [] [0, 1, 2, 3, 4, 5, 6, 7, 8, 9, 10, 11, 12, 13, 14, 15] rfl rfl (by decide) (by decide) rfl (by decide) (fun H locs hP hD hS => ?_)
    have hP : va_P G.1 vwCl (wMOc G za zz_0 zz_1 zz_2 zz_3 zz_4 zz_5 zz_6 zz_7 zz_8 zz_9 zz_10 zz_11 zz_12 zz_13 zz_14 zz_15 zz_16 o3.2) H := hP
    have hD : va_D A (wMOc G za zz_0 zz_1 zz_2 zz_3 zz_4 zz_5 zz_6 zz_7 zz_8 zz_9 zz_10 zz_11 zz_12 zz_13 zz_14 zz_15 zz_16 o3.2) := hD
    refine lv_if_ne (tgt := 28) hx hb dX3_ordered_23 (by decide) (fun c4 => ?_) (fun c4 => ?_)
    · have h := sp_f c4 h
      refine lv_aload_n hx hb dX3_ordered_28 rfl (lv_at hl 0 rfl) ?_
      obtain ⟨o5, ho5, h⟩ := sp_b h
      refine xk_cv (va_runV (As := []) (rest := []) ⟨hx, hb, hml, hown, hts⟩ (c_X3_orders l G za (zz_0, zz_1, zz_2, zz_3, zz_4, zz_5, zz_6, zz_7, zz_8, zz_9, zz_10, zz_11, zz_12, zz_13, zz_14, zz_15, zz_16, o3.2) o5 ho5 H.size) (cwV 0 hts gX3_ordered_X3_orders rfl rfl rfl (by decide +kernel) ⟨Nat.le_of_ble_eq_true rfl, Nat.le_of_ble_eq_true rfl⟩) (xk_preV hK hNE (hP.sub (ws' := (wMOc G za zz_0 zz_1 zz_2 zz_3 zz_4 zz_5 zz_6 zz_7 zz_8 zz_9 zz_10 zz_11 zz_12 zz_13 zz_14 zz_15 zz_16 o3.2)) [0, 1, 2, 3, 4, 5, 6, 7, 8, 9, 10, 11, 12, 13, 14, 15] rfl) (hD.sub (ws' := (wMOc G za zz_0 zz_1 zz_2 zz_3 zz_4 zz_5 zz_6 zz_7 zz_8 zz_9 zz_10 zz_11 zz_12 zz_13 zz_14 zz_15 zz_16 o3.2)) [0, 1, 2, 3, 4, 5, 6, 7, 8, 9, 10, 11, 12, 13, 14, 15] (by decide) rfl) (ci := 3) rfl rfl) rfl rfl hl.1 rfl (lv_room (Nat.le_of_ble_eq_true rfl)) dX3_ordered_29 ⟨Nat.le_of_ble_eq_true rfl, Nat.le_of_ble_eq_true rfl⟩) hP hD hS hA [0, 1, 2, 3, 4, 5, 6, 7, 8, 9, 10, 11, 12, 13, 14, 15] [] [0, 1, 2, 3, 4, 5, 6, 7, 8, 9, 10, 11, 12, 13, 14, 15] rfl rfl (by decide) (by decide) rfl (by decide) (fun H locs hP hD hS => ?_)
      have hP : va_P G.1 vwCl (wMOc G za zz_0 zz_1 zz_2 zz_3 zz_4 zz_5 zz_6 zz_7 zz_8 o5 zz_10 zz_11 zz_12 zz_13 zz_14 zz_15 zz_16 o3.2) H := hP
      have hD : va_D A (wMOc G za zz_0 zz_1 zz_2 zz_3 zz_4 zz_5 zz_6 zz_7 zz_8 o5 zz_10 zz_11 zz_12 zz_13 zz_14 zz_15 zz_16 o3.2) := hD
      refine lv_aload_n hx hb dX3_ordered_32 rfl (lv_at hl 0 rfl) ?_
      refine va_get (D := G.1) (ci := 3) (v := .ref (za 9)) (C := RX3) (T := TX3) (N := 18) hx hb hts hinX3 hown hK hP 0 rfl rfl 9 (by decide) (hts (.fieldLink RX3 35 "LessonWeaveModel" "order" "[I") (by decide +kernel)) (fun _ h9 => h9) rfl dX3_ordered_33 ?_
      refine lv_iload_n hx hb dX3_ordered_36 rfl (lv_at hl 1 rfl) ?_
      obtain ⟨hin6, h⟩ := sp_g h
      refine va_iald hx hb hK hP 9 0 rfl rfl hin6 dX3_ordered_37 ?_
      obtain rfl := sp_s h
      exact xk_reI hx hb hr hlk hP hD hS rfl dX3_ordered_38
    · have h := sp_t c4 h
      refine lv_iconst (v := (0 : Int32)) hx hb dX3_ordered_26 (by decide) ?_
      obtain rfl := sp_s h
      exact xk_reI hx hb hr hlk hP hD hS rfl dX3_ordered_27
  · have h := hv2
    clear hv2
    refine lv_if_eq (tgt := 19) hx hb dX3_ordered_12 (by decide) (fun c7 => ?_) (fun c7 => ?_)
    · have h := sp_t c7 h
      refine lv_iconst (v := (1 : Int32)) hx hb dX3_ordered_19 (by decide) ?_
      obtain rfl := sp_s h
      exact J2 _ _ hP hD hS _ (lv_sub hl [0, 1] rfl)
    · have h := sp_f c7 h
      refine lv_iconst (v := (0 : Int32)) hx hb dX3_ordered_15 (by decide) ?_
      refine lv_goto (tgt := 20) hx hb dX3_ordered_16 (by decide) ?_
      obtain rfl := sp_s h
      exact J2 _ _ hP hD hS _ (lv_sub hl [0, 1] rfl)
