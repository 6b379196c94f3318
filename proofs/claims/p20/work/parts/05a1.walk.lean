def f_X2_aims (lo : xF) (yy : xSY) (pp : xPL) (qq : xPL) : Option (Int32) :=
  some yy.1
theorem f_X2_aims_e (lo : xF) (yy_0 : Int32) (yy_1 : xF) (yy_2 : xF) (yy_3 : xF) (yy_4 : xF) (yy_5 : xF) (yy_6 : xF) (yy_7 : xF) (yy_8 : xF) (pp_0 : xF) (pp_1 : xF) (pp_2 : xF) (pp_3 : xF) (pp_4 : xF) (pp_5 : xF) (pp_6 : Int32) (pp_7 : Int32) (pp_8 : Int32) (qq_0 : xF) (qq_1 : xF) (qq_2 : xF) (qq_3 : xF) (qq_4 : xF) (qq_5 : xF) (qq_6 : Int32) (qq_7 : Int32) (qq_8 : Int32) : f_X2_aims lo (yy_0, yy_1, yy_2, yy_3, yy_4, yy_5, yy_6, yy_7, yy_8) (pp_0, pp_1, pp_2, pp_3, pp_4, pp_5, pp_6, pp_7, pp_8) (qq_0, qq_1, qq_2, qq_3, qq_4, qq_5, qq_6, qq_7, qq_8) =
  some yy_0 := rfl
set_option maxHeartbeats 8000000 in
set_option maxRecDepth 100000 in
theorem c_X2_aims (l : Launch) (G : xG) (xa : Nat) (la : Nat) (ya : (Nat → Nat)) (pa : (Nat → Nat)) (qa : (Nat → Nat)) (lo : xF) (yy : xSY) (pp : xPL) (qq : xPL) (o : Int32) (h : f_X2_aims lo yy pp qq = some o) : xk_CI l yX2_aims wsX2_aims ({ frames := 0, cells := 0, slots := 0, locals := 0 } : Room) 0 0 [.ref xa] G ((wXO xa (ya 0) la (pa 0) (qa 0)) ++ ((wLO G la lo) ++ ((wSYc G ya yy.1 yy.2.1 yy.2.2.1 yy.2.2.2.1 yy.2.2.2.2.1 yy.2.2.2.2.2.1 yy.2.2.2.2.2.2.1 yy.2.2.2.2.2.2.2.1 yy.2.2.2.2.2.2.2.2) ++ ((wPLc G pa pp.1 pp.2.1 pp.2.2.1 pp.2.2.2.1 pp.2.2.2.2.1 pp.2.2.2.2.2.1 pp.2.2.2.2.2.2.1 pp.2.2.2.2.2.2.2.1 pp.2.2.2.2.2.2.2.2) ++ ((wPLc G qa qq.1 qq.2.1 qq.2.2.1 qq.2.2.2.1 qq.2.2.2.2.1 qq.2.2.2.2.2.1 qq.2.2.2.2.2.2.1 qq.2.2.2.2.2.2.2.1 qq.2.2.2.2.2.2.2.2)))))) ((wXO xa (ya 0) la (pa 0) (qa 0)) ++ ((wLO G la lo) ++ ((wSYc G ya yy.1 yy.2.1 yy.2.2.1 yy.2.2.2.1 yy.2.2.2.2.1 yy.2.2.2.2.2.1 yy.2.2.2.2.2.2.1 yy.2.2.2.2.2.2.2.1 yy.2.2.2.2.2.2.2.2) ++ ((wPLc G pa pp.1 pp.2.1 pp.2.2.1 pp.2.2.2.1 pp.2.2.2.2.1 pp.2.2.2.2.2.1 pp.2.2.2.2.2.2.1 pp.2.2.2.2.2.2.2.1 pp.2.2.2.2.2.2.2.2) ++ ((wPLc G qa qq.1 qq.2.1 qq.2.2.1 qq.2.2.2.1 qq.2.2.2.2.1 qq.2.2.2.2.2.1 qq.2.2.2.2.2.2.1 qq.2.2.2.2.2.2.2.1 qq.2.2.2.2.2.2.2.2)))))) o := by
  obtain ⟨yy_0, yy_1, yy_2, yy_3, yy_4, yy_5, yy_6, yy_7, yy_8⟩ := yy
  obtain ⟨pp_0, pp_1, pp_2, pp_3, pp_4, pp_5, pp_6, pp_7, pp_8⟩ := pp
  obtain ⟨qq_0, qq_1, qq_2, qq_3, qq_4, qq_5, qq_6, qq_7, qq_8⟩ := qq
  refine xk_CI.of (cc := cX2_aims) (maxL := 1) (ret := (some .int)) (by decide) rfl (Nat.le_of_ble_eq_true rfl) ?_
  intro pr9 en9 s mm9 bl9 meth9 cd9 A ls H locs hx hb hr hml hts hown hlk hA hP hK hD hNE hS hl
  have hown : s.vm.findClass RX2 = some mm9.cls := hown
  have hl : lv_has ls 1 [(0, .ref xa)] := hl
  have hinX1 : ∀ w ∈ u_ws RX1 TX1 9, w ∈ wsX2_aims := by decide +kernel
  have hinX2 : ∀ w ∈ u_ws RX2 TX2 4, w ∈ wsX2_aims := by decide +kernel
  have hP : va_P G.1 vwCl ((wXO xa (ya 0) la (pa 0) (qa 0)) ++ ((wLO G la lo) ++ ((wSYc G ya yy_0 yy_1 yy_2 yy_3 yy_4 yy_5 yy_6 yy_7 yy_8) ++ ((wPLc G pa pp_0 pp_1 pp_2 pp_3 pp_4 pp_5 pp_6 pp_7 pp_8) ++ ((wPLc G qa qq_0 qq_1 qq_2 qq_3 qq_4 qq_5 qq_6 qq_7 qq_8)))))) H := hP
  have hD : va_D A ((wXO xa (ya 0) la (pa 0) (qa 0)) ++ ((wLO G la lo) ++ ((wSYc G ya yy_0 yy_1 yy_2 yy_3 yy_4 yy_5 yy_6 yy_7 yy_8) ++ ((wPLc G pa pp_0 pp_1 pp_2 pp_3 pp_4 pp_5 pp_6 pp_7 pp_8) ++ ((wPLc G qa qq_0 qq_1 qq_2 qq_3 qq_4 qq_5 qq_6 qq_7 qq_8)))))) := hD
  have h := (f_X2_aims_e lo yy_0 yy_1 yy_2 yy_3 yy_4 yy_5 yy_6 yy_7 yy_8 pp_0 pp_1 pp_2 pp_3 pp_4 pp_5 pp_6 pp_7 pp_8 qq_0 qq_1 qq_2 qq_3 qq_4 qq_5 qq_6 qq_7 qq_8).symm.trans h
  refine lv_aload_n hx hb dX2_aims_0 rfl (lv_at hl 0 rfl) ?_
  refine va_get (D := G.1) (ci := 2) (v := .ref (ya 0)) (C := RX2) (T := TX2) (N := 4) hx hb hts hinX2 hown hK hP 0 rfl rfl 0 (by decide) (hts (.fieldLink RX2 10 "LessonWeave" "syllabus" "LLessonWeave$Syllabus;") (by decide +kernel)) (fun _ h9 => h9) rfl dX2_aims_1 ?_
  refine va_getN (D := G.1) (ci := 1) (v := .int yy_0) (C := RX1) (T := TX1) (N := 9) hx hb hts hinX1 hown hK hP 2 rfl rfl 0 (by decide) (va_Nw.use rfl hNE.1) (fun _ h9 => h9) rfl dX2_aims_4 ?_
  obtain rfl := sp_s h
  exact xk_reI hx hb hr hlk hP hD hS rfl dX2_aims_7
def f_X2_laid (lo : xF) (yy : xSY) (pp : xPL) (qq : xPL) : Option (Int32) :=
  some pp.2.2.2.2.2.2.1
theorem f_X2_laid_e (lo : xF) (yy_0 : Int32) (yy_1 : xF) (yy_2 : xF) (yy_3 : xF) (yy_4 : xF) (yy_5 : xF) (yy_6 : xF) (yy_7 : xF) (yy_8 : xF) (pp_0 : xF) (pp_1 : xF) (pp_2 : xF) (pp_3 : xF) (pp_4 : xF) (pp_5 : xF) (pp_6 : Int32) (pp_7 : Int32) (pp_8 : Int32) (qq_0 : xF) (qq_1 : xF) (qq_2 : xF) (qq_3 : xF) (qq_4 : xF) (qq_5 : xF) (qq_6 : Int32) (qq_7 : Int32) (qq_8 : Int32) : f_X2_laid lo (yy_0, yy_1, yy_2, yy_3, yy_4, yy_5, yy_6, yy_7, yy_8) (pp_0, pp_1, pp_2, pp_3, pp_4, pp_5, pp_6, pp_7, pp_8) (qq_0, qq_1, qq_2, qq_3, qq_4, qq_5, qq_6, qq_7, qq_8) =
  some pp_6 := rfl
set_option maxHeartbeats 8000000 in
set_option maxRecDepth 100000 in
theorem c_X2_laid (l : Launch) (G : xG) (xa : Nat) (la : Nat) (ya : (Nat → Nat)) (pa : (Nat → Nat)) (qa : (Nat → Nat)) (lo : xF) (yy : xSY) (pp : xPL) (qq : xPL) (o : Int32) (h : f_X2_laid lo yy pp qq = some o) : xk_CI l yX2_laid wsX2_laid ({ frames := 0, cells := 0, slots := 0, locals := 0 } : Room) 0 0 [.ref xa] G ((wXO xa (ya 0) la (pa 0) (qa 0)) ++ ((wLO G la lo) ++ ((wSYc G ya yy.1 yy.2.1 yy.2.2.1 yy.2.2.2.1 yy.2.2.2.2.1 yy.2.2.2.2.2.1 yy.2.2.2.2.2.2.1 yy.2.2.2.2.2.2.2.1 yy.2.2.2.2.2.2.2.2) ++ ((wPLc G pa pp.1 pp.2.1 pp.2.2.1 pp.2.2.2.1 pp.2.2.2.2.1 pp.2.2.2.2.2.1 pp.2.2.2.2.2.2.1 pp.2.2.2.2.2.2.2.1 pp.2.2.2.2.2.2.2.2) ++ ((wPLc G qa qq.1 qq.2.1 qq.2.2.1 qq.2.2.2.1 qq.2.2.2.2.1 qq.2.2.2.2.2.1 qq.2.2.2.2.2.2.1 qq.2.2.2.2.2.2.2.1 qq.2.2.2.2.2.2.2.2)))))) ((wXO xa (ya 0) la (pa 0) (qa 0)) ++ ((wLO G la lo) ++ ((wSYc G ya yy.1 yy.2.1 yy.2.2.1 yy.2.2.2.1 yy.2.2.2.2.1 yy.2.2.2.2.2.1 yy.2.2.2.2.2.2.1 yy.2.2.2.2.2.2.2.1 yy.2.2.2.2.2.2.2.2) ++ ((wPLc G pa pp.1 pp.2.1 pp.2.2.1 pp.2.2.2.1 pp.2.2.2.2.1 pp.2.2.2.2.2.1 pp.2.2.2.2.2.2.1 pp.2.2.2.2.2.2.2.1 pp.2.2.2.2.2.2.2.2) ++ ((wPLc G qa qq.1 qq.2.1 qq.2.2.1 qq.2.2.2.1 qq.2.2.2.2.1 qq.2.2.2.2.2.1 qq.2.2.2.2.2.2.1 qq.2.2.2.2.2.2.2.1 qq.2.2.2.2.2.2.2.2)))))) o := by
  obtain ⟨yy_0, yy_1, yy_2, yy_3, yy_4, yy_5, yy_6, yy_7, yy_8⟩ := yy
  obtain ⟨pp_0, pp_1, pp_2, pp_3, pp_4, pp_5, pp_6, pp_7, pp_8⟩ := pp
  obtain ⟨qq_0, qq_1, qq_2, qq_3, qq_4, qq_5, qq_6, qq_7, qq_8⟩ := qq
  refine xk_CI.of (cc := cX2_laid) (maxL := 1) (ret := (some .int)) (by decide) rfl (Nat.le_of_ble_eq_true rfl) ?_
  intro pr9 en9 s mm9 bl9 meth9 cd9 A ls H locs hx hb hr hml hts hown hlk hA hP hK hD hNE hS hl
  have hown : s.vm.findClass RX2 = some mm9.cls := hown
  have hl : lv_has ls 1 [(0, .ref xa)] := hl
  have hinX0 : ∀ w ∈ u_ws RX0 TX0 9, w ∈ wsX2_laid := by decide +kernel
  have hinX2 : ∀ w ∈ u_ws RX2 TX2 4, w ∈ wsX2_laid := by decide +kernel
  have hP : va_P G.1 vwCl ((wXO xa (ya 0) la (pa 0) (qa 0)) ++ ((wLO G la lo) ++ ((wSYc G ya yy_0 yy_1 yy_2 yy_3 yy_4 yy_5 yy_6 yy_7 yy_8) ++ ((wPLc G pa pp_0 pp_1 pp_2 pp_3 pp_4 pp_5 pp_6 pp_7 pp_8) ++ ((wPLc G qa qq_0 qq_1 qq_2 qq_3 qq_4 qq_5 qq_6 qq_7 qq_8)))))) H := hP
  have hD : va_D A ((wXO xa (ya 0) la (pa 0) (qa 0)) ++ ((wLO G la lo) ++ ((wSYc G ya yy_0 yy_1 yy_2 yy_3 yy_4 yy_5 yy_6 yy_7 yy_8) ++ ((wPLc G pa pp_0 pp_1 pp_2 pp_3 pp_4 pp_5 pp_6 pp_7 pp_8) ++ ((wPLc G qa qq_0 qq_1 qq_2 qq_3 qq_4 qq_5 qq_6 qq_7 qq_8)))))) := hD
  have h := (f_X2_laid_e lo yy_0 yy_1 yy_2 yy_3 yy_4 yy_5 yy_6 yy_7 yy_8 pp_0 pp_1 pp_2 pp_3 pp_4 pp_5 pp_6 pp_7 pp_8 qq_0 qq_1 qq_2 qq_3 qq_4 qq_5 qq_6 qq_7 qq_8).symm.trans h
  refine lv_aload_n hx hb dX2_laid_0 rfl (lv_at hl 0 rfl) ?_
  refine va_get (D := G.1) (ci := 2) (v := .ref (pa 0)) (C := RX2) (T := TX2) (N := 4) hx hb hts hinX2 hown hK hP 0 rfl rfl 2 (by decide) (hts (.fieldLink RX2 23 "LessonWeave" "plan" "LLessonWeave$Plan;") (by decide +kernel)) (fun _ h9 => h9) rfl dX2_laid_1 ?_
  refine va_getN (D := G.1) (ci := 0) (v := .int pp_6) (C := RX0) (T := TX0) (N := 9) hx hb hts hinX0 hown hK hP 11 rfl rfl 6 (by decide) (va_Nw.use rfl hNE.2.2.2.2.2.2.2.2.2.2.2.2.2.2.2.1) (fun _ h9 => h9) rfl dX2_laid_4 ?_
  obtain rfl := sp_s h
  exact xk_reI hx hb hr hlk hP hD hS rfl dX2_laid_7
def f_X2_late (lo : xF) (yy : xSY) (pp : xPL) (qq : xPL) : Option (Int32) :=
  some pp.2.2.2.2.2.2.2.1
theorem f_X2_late_e (lo : xF) (yy_0 : Int32) (yy_1 : xF) (yy_2 : xF) (yy_3 : xF) (yy_4 : xF) (yy_5 : xF) (yy_6 : xF) (yy_7 : xF) (yy_8 : xF) (pp_0 : xF) (pp_1 : xF) (pp_2 : xF) (pp_3 : xF) (pp_4 : xF) (pp_5 : xF) (pp_6 : Int32) (pp_7 : Int32) (pp_8 : Int32) (qq_0 : xF) (qq_1 : xF) (qq_2 : xF) (qq_3 : xF) (qq_4 : xF) (qq_5 : xF) (qq_6 : Int32) (qq_7 : Int32) (qq_8 : Int32) : f_X2_late lo (yy_0, yy_1, yy_2, yy_3, yy_4, yy_5, yy_6, yy_7, yy_8) (pp_0, pp_1, pp_2, pp_3, pp_4, pp_5, pp_6, pp_7, pp_8) (qq_0, qq_1, qq_2, qq_3, qq_4, qq_5, qq_6, qq_7, qq_8) =
  some pp_7 := rfl
set_option maxHeartbeats 8000000 in
set_option maxRecDepth 100000 in
theorem c_X2_late (l : Launch) (G : xG) (xa : Nat) (la : Nat) (ya : (Nat → Nat)) (pa : (Nat → Nat)) (qa : (Nat → Nat)) (lo : xF) (yy : xSY) (pp : xPL) (qq : xPL) (o : Int32) (h : f_X2_late lo yy pp qq = some o) : xk_CI l yX2_late wsX2_late ({ frames := 0, cells := 0, slots := 0, locals := 0 } : Room) 0 0 [.ref xa] G ((wXO xa (ya 0) la (pa 0) (qa 0)) ++ ((wLO G la lo) ++ ((wSYc G ya yy.1 yy.2.1 yy.2.2.1 yy.2.2.2.1 yy.2.2.2.2.1 yy.2.2.2.2.2.1 yy.2.2.2.2.2.2.1 yy.2.2.2.2.2.2.2.1 yy.2.2.2.2.2.2.2.2) ++ ((wPLc G pa pp.1 pp.2.1 pp.2.2.1 pp.2.2.2.1 pp.2.2.2.2.1 pp.2.2.2.2.2.1 pp.2.2.2.2.2.2.1 pp.2.2.2.2.2.2.2.1 pp.2.2.2.2.2.2.2.2) ++ ((wPLc G qa qq.1 qq.2.1 qq.2.2.1 qq.2.2.2.1 qq.2.2.2.2.1 qq.2.2.2.2.2.1 qq.2.2.2.2.2.2.1 qq.2.2.2.2.2.2.2.1 qq.2.2.2.2.2.2.2.2)))))) ((wXO xa (ya 0) la (pa 0) (qa 0)) ++ ((wLO G la lo) ++ ((wSYc G ya yy.1 yy.2.1 yy.2.2.1 yy.2.2.2.1 yy.2.2.2.2.1 yy.2.2.2.2.2.1 yy.2.2.2.2.2.2.1 yy.2.2.2.2.2.2.2.1 yy.2.2.2.2.2.2.2.2) ++ ((wPLc G pa pp.1 pp.2.1 pp.2.2.1 pp.2.2.2.1 pp.2.2.2.2.1 pp.2.2.2.2.2.1 pp.2.2.2.2.2.2.1 pp.2.2.2.2.2.2.2.1 pp.2.2.2.2.2.2.2.2) ++ ((wPLc G qa qq.1 qq.2.1 qq.2.2.1 qq.2.2.2.1 qq.2.2.2.2.1 qq.2.2.2.2.2.1 qq.2.2.2.2.2.2.1 qq.2.2.2.2.2.2.2.1 qq.2.2.2.2.2.2.2.2)))))) o := by
  obtain ⟨yy_0, yy_1, yy_2, yy_3, yy_4, yy_5, yy_6, yy_7, yy_8⟩ := yy
  obtain ⟨pp_0, pp_1, pp_2, pp_3, pp_4, pp_5, pp_6, pp_7, pp_8⟩ := pp
  obtain ⟨qq_0, qq_1, qq_2, qq_3, qq_4, qq_5, qq_6, qq_7, qq_8⟩ := qq
  refine xk_CI.of (cc := cX2_late) (maxL := 1) (ret := (some .int)) (by decide) rfl (Nat.le_of_ble_eq_true rfl) ?_
  intro pr9 en9 s mm9 bl9 meth9 cd9 A ls H locs hx hb hr hml hts hown hlk hA hP hK hD hNE hS hl
  have hown : s.vm.findClass RX2 = some mm9.cls := hown
  have hl : lv_has ls 1 [(0, .ref xa)] := hl
  have hinX0 : ∀ w ∈ u_ws RX0 TX0 9, w ∈ wsX2_late := by decide +kernel
  have hinX2 : ∀ w ∈ u_ws RX2 TX2 4, w ∈ wsX2_late := by decide +kernel
  have hP : va_P G.1 vwCl ((wXO xa (ya 0) la (pa 0) (qa 0)) ++ ((wLO G la lo) ++ ((wSYc G ya yy_0 yy_1 yy_2 yy_3 yy_4 yy_5 yy_6 yy_7 yy_8) ++ ((wPLc G pa pp_0 pp_1 pp_2 pp_3 pp_4 pp_5 pp_6 pp_7 pp_8) ++ ((wPLc G qa qq_0 qq_1 qq_2 qq_3 qq_4 qq_5 qq_6 qq_7 qq_8)))))) H := hP
  have hD : va_D A ((wXO xa (ya 0) la (pa 0) (qa 0)) ++ ((wLO G la lo) ++ ((wSYc G ya yy_0 yy_1 yy_2 yy_3 yy_4 yy_5 yy_6 yy_7 yy_8) ++ ((wPLc G pa pp_0 pp_1 pp_2 pp_3 pp_4 pp_5 pp_6 pp_7 pp_8) ++ ((wPLc G qa qq_0 qq_1 qq_2 qq_3 qq_4 qq_5 qq_6 qq_7 qq_8)))))) := hD
  have h := (f_X2_late_e lo yy_0 yy_1 yy_2 yy_3 yy_4 yy_5 yy_6 yy_7 yy_8 pp_0 pp_1 pp_2 pp_3 pp_4 pp_5 pp_6 pp_7 pp_8 qq_0 qq_1 qq_2 qq_3 qq_4 qq_5 qq_6 qq_7 qq_8).symm.trans h
  refine lv_aload_n hx hb dX2_late_0 rfl (lv_at hl 0 rfl) ?_
  refine va_get (D := G.1) (ci := 2) (v := .ref (pa 0)) (C := RX2) (T := TX2) (N := 4) hx hb hts hinX2 hown hK hP 0 rfl rfl 2 (by decide) (hts (.fieldLink RX2 23 "LessonWeave" "plan" "LLessonWeave$Plan;") (by decide +kernel)) (fun _ h9 => h9) rfl dX2_late_1 ?_
  refine va_getN (D := G.1) (ci := 0) (v := .int pp_7) (C := RX0) (T := TX0) (N := 9) hx hb hts hinX0 hown hK hP 11 rfl rfl 7 (by decide) (va_Nw.use rfl hNE.2.2.2.2.2.2.2.2.2.2.2.2.2.2.2.2.1) (fun _ h9 => h9) rfl dX2_late_4 ?_
  obtain rfl := sp_s h
  exact xk_reI hx hb hr hlk hP hD hS rfl dX2_late_7
def f_X2_lastDay (lo : xF) (yy : xSY) (pp : xPL) (qq : xPL) : Option (Int32) :=
  some pp.2.2.2.2.2.2.2.2
theorem f_X2_lastDay_e (lo : xF) (yy_0 : Int32) (yy_1 : xF) (yy_2 : xF) (yy_3 : xF) (yy_4 : xF) (yy_5 : xF) (yy_6 : xF) (yy_7 : xF) (yy_8 : xF) (pp_0 : xF) (pp_1 : xF) (pp_2 : xF) (pp_3 : xF) (pp_4 : xF) (pp_5 : xF) (pp_6 : Int32) (pp_7 : Int32) (pp_8 : Int32) (qq_0 : xF) (qq_1 : xF) (qq_2 : xF) (qq_3 : xF) (qq_4 : xF) (qq_5 : xF) (qq_6 : Int32) (qq_7 : Int32) (qq_8 : Int32) : f_X2_lastDay lo (yy_0, yy_1, yy_2, yy_3, yy_4, yy_5, yy_6, yy_7, yy_8) (pp_0, pp_1, pp_2, pp_3, pp_4, pp_5, pp_6, pp_7, pp_8) (qq_0, qq_1, qq_2, qq_3, qq_4, qq_5, qq_6, qq_7, qq_8) =
  some pp_8 := rfl
set_option maxHeartbeats 8000000 in
set_option maxRecDepth 100000 in
theorem c_X2_lastDay (l : Launch) (G : xG) (xa : Nat) (la : Nat) (ya : (Nat → Nat)) (pa : (Nat → Nat)) (qa : (Nat → Nat)) (lo : xF) (yy : xSY) (pp : xPL) (qq : xPL) (o : Int32) (h : f_X2_lastDay lo yy pp qq = some o) : xk_CI l yX2_lastDay wsX2_lastDay ({ frames := 0, cells := 0, slots := 0, locals := 0 } : Room) 0 0 [.ref xa] G ((wXO xa (ya 0) la (pa 0) (qa 0)) ++ ((wLO G la lo) ++ ((wSYc G ya yy.1 yy.2.1 yy.2.2.1 yy.2.2.2.1 yy.2.2.2.2.1 yy.2.2.2.2.2.1 yy.2.2.2.2.2.2.1 yy.2.2.2.2.2.2.2.1 yy.2.2.2.2.2.2.2.2) ++ ((wPLc G pa pp.1 pp.2.1 pp.2.2.1 pp.2.2.2.1 pp.2.2.2.2.1 pp.2.2.2.2.2.1 pp.2.2.2.2.2.2.1 pp.2.2.2.2.2.2.2.1 pp.2.2.2.2.2.2.2.2) ++ ((wPLc G qa qq.1 qq.2.1 qq.2.2.1 qq.2.2.2.1 qq.2.2.2.2.1 qq.2.2.2.2.2.1 qq.2.2.2.2.2.2.1 qq.2.2.2.2.2.2.2.1 qq.2.2.2.2.2.2.2.2)))))) ((wXO xa (ya 0) la (pa 0) (qa 0)) ++ ((wLO G la lo) ++ ((wSYc G ya yy.1 yy.2.1 yy.2.2.1 yy.2.2.2.1 yy.2.2.2.2.1 yy.2.2.2.2.2.1 yy.2.2.2.2.2.2.1 yy.2.2.2.2.2.2.2.1 yy.2.2.2.2.2.2.2.2) ++ ((wPLc G pa pp.1 pp.2.1 pp.2.2.1 pp.2.2.2.1 pp.2.2.2.2.1 pp.2.2.2.2.2.1 pp.2.2.2.2.2.2.1 pp.2.2.2.2.2.2.2.1 pp.2.2.2.2.2.2.2.2) ++ ((wPLc G qa qq.1 qq.2.1 qq.2.2.1 qq.2.2.2.1 qq.2.2.2.2.1 qq.2.2.2.2.2.1 qq.2.2.2.2.2.2.1 qq.2.2.2.2.2.2.2.1 qq.2.2.2.2.2.2.2.2)))))) o := by
  obtain ⟨yy_0, yy_1, yy_2, yy_3, yy_4, yy_5, yy_6, yy_7, yy_8⟩ := yy
  obtain ⟨pp_0, pp_1, pp_2, pp_3, pp_4, pp_5, pp_6, pp_7, pp_8⟩ := pp
  obtain ⟨qq_0, qq_1, qq_2, qq_3, qq_4, qq_5, qq_6, qq_7, qq_8⟩ := qq
  refine xk_CI.of (cc := cX2_lastDay) (maxL := 1) (ret := (some .int)) (by decide) rfl (Nat.le_of_ble_eq_true rfl) ?_
  intro pr9 en9 s mm9 bl9 meth9 cd9 A ls H locs hx hb hr hml hts hown hlk hA hP hK hD hNE hS hl
  have hown : s.vm.findClass RX2 = some mm9.cls := hown
  have hl : lv_has ls 1 [(0, .ref xa)] := hl
  have hinX0 : ∀ w ∈ u_ws RX0 TX0 9, w ∈ wsX2_lastDay := by decide +kernel
  have hinX2 : ∀ w ∈ u_ws RX2 TX2 4, w ∈ wsX2_lastDay := by decide +kernel
  have hP : va_P G.1 vwCl ((wXO xa (ya 0) la (pa 0) (qa 0)) ++ ((wLO G la lo) ++ ((wSYc G ya yy_0 yy_1 yy_2 yy_3 yy_4 yy_5 yy_6 yy_7 yy_8) ++ ((wPLc G pa pp_0 pp_1 pp_2 pp_3 pp_4 pp_5 pp_6 pp_7 pp_8) ++ ((wPLc G qa qq_0 qq_1 qq_2 qq_3 qq_4 qq_5 qq_6 qq_7 qq_8)))))) H := hP
  have hD : va_D A ((wXO xa (ya 0) la (pa 0) (qa 0)) ++ ((wLO G la lo) ++ ((wSYc G ya yy_0 yy_1 yy_2 yy_3 yy_4 yy_5 yy_6 yy_7 yy_8) ++ ((wPLc G pa pp_0 pp_1 pp_2 pp_3 pp_4 pp_5 pp_6 pp_7 pp_8) ++ ((wPLc G qa qq_0 qq_1 qq_2 qq_3 qq_4 qq_5 qq_6 qq_7 qq_8)))))) := hD
  have h := (f_X2_lastDay_e lo yy_0 yy_1 yy_2 yy_3 yy_4 yy_5 yy_6 yy_7 yy_8 pp_0 pp_1 pp_2 pp_3 pp_4 pp_5 pp_6 pp_7 pp_8 qq_0 qq_1 qq_2 qq_3 qq_4 qq_5 qq_6 qq_7 qq_8).symm.trans h
  refine lv_aload_n hx hb dX2_lastDay_0 rfl (lv_at hl 0 rfl) ?_
  refine va_get (D := G.1) (ci := 2) (v := .ref (pa 0)) (C := RX2) (T := TX2) (N := 4) hx hb hts hinX2 hown hK hP 0 rfl rfl 2 (by decide) (hts (.fieldLink RX2 23 "LessonWeave" "plan" "LLessonWeave$Plan;") (by decide +kernel)) (fun _ h9 => h9) rfl dX2_lastDay_1 ?_
  refine va_getN (D := G.1) (ci := 0) (v := .int pp_8) (C := RX0) (T := TX0) (N := 9) hx hb hts hinX0 hown hK hP 11 rfl rfl 8 (by decide) (va_Nw.use rfl hNE.2.2.2.2.2.2.2.2.2.2.2.2.2.2.2.2.2.1) (fun _ h9 => h9) rfl dX2_lastDay_4 ?_
  obtain rfl := sp_s h
  exact xk_reI hx hb hr hlk hP hD hS rfl dX2_lastDay_7
theorem xf_p_5_0134_2 (g0 g1 g2 g3 g4 : va_W) : List.Perm (g0 ++ (g1 ++ (g2 ++ (g3 ++ (g4))))) ((g0 ++ (g1 ++ (g3 ++ (g4)))) ++ (g2)) := by
  have h1 : List.Perm (g0 ++ (g1 ++ (g2 ++ (g3 ++ (g4))))) (g0 ++ (g1 ++ (g3 ++ (g4 ++ (g2))))) := ((List.Perm.refl _).trans (xf_c _ ((List.Perm.refl _).trans (xf_c _ (((xf_c _ (List.Perm.refl _)).trans (xf_s2 _ _ _)).trans (xf_c _ ((xf_s1 _ _).trans (xf_c _ (List.Perm.refl _)))))))))
  exact h1.trans (show List.Perm (g0 ++ (g1 ++ (g3 ++ (g4 ++ (g2))))) ((g0 ++ (g1 ++ (g3 ++ (g4)))) ++ (g2)) from ((xf_c _ ((xf_c _ ((xf_c _ (List.Perm.refl _)).trans (List.Perm.of_eq (List.append_assoc _ _ _).symm))).trans (List.Perm.of_eq (List.append_assoc _ _ _).symm))).trans (List.Perm.of_eq (List.append_assoc _ _ _).symm)))
def f_X2_closedSets (lo : xF) (yy : xSY) (pp : xPL) (qq : xPL) : Option (Int32) :=
  Option.bind (f_X1_countClosed (yy.1, yy.2.1, yy.2.2.1, yy.2.2.2.1, yy.2.2.2.2.1, yy.2.2.2.2.2.1, yy.2.2.2.2.2.2.1, yy.2.2.2.2.2.2.2.1, yy.2.2.2.2.2.2.2.2)) fun (o1 : Int32) =>
  some o1
theorem f_X2_closedSets_e (lo : xF) (yy_0 : Int32) (yy_1 : xF) (yy_2 : xF) (yy_3 : xF) (yy_4 : xF) (yy_5 : xF) (yy_6 : xF) (yy_7 : xF) (yy_8 : xF) (pp_0 : xF) (pp_1 : xF) (pp_2 : xF) (pp_3 : xF) (pp_4 : xF) (pp_5 : xF) (pp_6 : Int32) (pp_7 : Int32) (pp_8 : Int32) (qq_0 : xF) (qq_1 : xF) (qq_2 : xF) (qq_3 : xF) (qq_4 : xF) (qq_5 : xF) (qq_6 : Int32) (qq_7 : Int32) (qq_8 : Int32) : f_X2_closedSets lo (yy_0, yy_1, yy_2, yy_3, yy_4, yy_5, yy_6, yy_7, yy_8) (pp_0, pp_1, pp_2, pp_3, pp_4, pp_5, pp_6, pp_7, pp_8) (qq_0, qq_1, qq_2, qq_3, qq_4, qq_5, qq_6, qq_7, qq_8) =
  Option.bind (f_X1_countClosed (yy_0, yy_1, yy_2, yy_3, yy_4, yy_5, yy_6, yy_7, yy_8)) fun (o1 : Int32) =>
  some o1 := rfl
set_option maxHeartbeats 8000000 in
set_option maxRecDepth 100000 in
theorem c_X2_closedSets (l : Launch) (G : xG) (xa : Nat) (la : Nat) (ya : (Nat → Nat)) (pa : (Nat → Nat)) (qa : (Nat → Nat)) (lo : xF) (yy : xSY) (pp : xPL) (qq : xPL) (o : Int32) (h : f_X2_closedSets lo yy pp qq = some o) : xk_CI l yX2_closedSets wsX2_closedSets ({ frames := 3, cells := 0, slots := 0, locals := 65 } : Room) 0 0 [.ref xa] G ((wXO xa (ya 0) la (pa 0) (qa 0)) ++ ((wLO G la lo) ++ ((wSYc G ya yy.1 yy.2.1 yy.2.2.1 yy.2.2.2.1 yy.2.2.2.2.1 yy.2.2.2.2.2.1 yy.2.2.2.2.2.2.1 yy.2.2.2.2.2.2.2.1 yy.2.2.2.2.2.2.2.2) ++ ((wPLc G pa pp.1 pp.2.1 pp.2.2.1 pp.2.2.2.1 pp.2.2.2.2.1 pp.2.2.2.2.2.1 pp.2.2.2.2.2.2.1 pp.2.2.2.2.2.2.2.1 pp.2.2.2.2.2.2.2.2) ++ ((wPLc G qa qq.1 qq.2.1 qq.2.2.1 qq.2.2.2.1 qq.2.2.2.2.1 qq.2.2.2.2.2.1 qq.2.2.2.2.2.2.1 qq.2.2.2.2.2.2.2.1 qq.2.2.2.2.2.2.2.2)))))) ((wXO xa (ya 0) la (pa 0) (qa 0)) ++ ((wLO G la lo) ++ ((wSYc G ya yy.1 yy.2.1 yy.2.2.1 yy.2.2.2.1 yy.2.2.2.2.1 yy.2.2.2.2.2.1 yy.2.2.2.2.2.2.1 yy.2.2.2.2.2.2.2.1 yy.2.2.2.2.2.2.2.2) ++ ((wPLc G pa pp.1 pp.2.1 pp.2.2.1 pp.2.2.2.1 pp.2.2.2.2.1 pp.2.2.2.2.2.1 pp.2.2.2.2.2.2.1 pp.2.2.2.2.2.2.2.1 pp.2.2.2.2.2.2.2.2) ++ ((wPLc G qa qq.1 qq.2.1 qq.2.2.1 qq.2.2.2.1 qq.2.2.2.2.1 qq.2.2.2.2.2.1 qq.2.2.2.2.2.2.1 qq.2.2.2.2.2.2.2.1 qq.2.2.2.2.2.2.2.2)))))) o := by
  obtain ⟨yy_0, yy_1, yy_2, yy_3, yy_4, yy_5, yy_6, yy_7, yy_8⟩ := yy
  obtain ⟨pp_0, pp_1, pp_2, pp_3, pp_4, pp_5, pp_6, pp_7, pp_8⟩ := pp
  obtain ⟨qq_0, qq_1, qq_2, qq_3, qq_4, qq_5, qq_6, qq_7, qq_8⟩ := qq
  refine xk_CI.of (cc := cX2_closedSets) (maxL := 1) (ret := (some .int)) (by decide) rfl (Nat.le_of_ble_eq_true rfl) ?_
  intro pr9 en9 s mm9 bl9 meth9 cd9 A ls H locs hx hb hr hml hts hown hlk hA hP hK hD hNE hS hl
  have hown : s.vm.findClass RX2 = some mm9.cls := hown
  have hl : lv_has ls 1 [(0, .ref xa)] := hl
  have hinX2 : ∀ w ∈ u_ws RX2 TX2 4, w ∈ wsX2_closedSets := by decide +kernel
  have hP : va_P G.1 vwCl ((wXO xa (ya 0) la (pa 0) (qa 0)) ++ ((wLO G la lo) ++ ((wSYc G ya yy_0 yy_1 yy_2 yy_3 yy_4 yy_5 yy_6 yy_7 yy_8) ++ ((wPLc G pa pp_0 pp_1 pp_2 pp_3 pp_4 pp_5 pp_6 pp_7 pp_8) ++ ((wPLc G qa qq_0 qq_1 qq_2 qq_3 qq_4 qq_5 qq_6 qq_7 qq_8)))))) H := hP
  have hD : va_D A ((wXO xa (ya 0) la (pa 0) (qa 0)) ++ ((wLO G la lo) ++ ((wSYc G ya yy_0 yy_1 yy_2 yy_3 yy_4 yy_5 yy_6 yy_7 yy_8) ++ ((wPLc G pa pp_0 pp_1 pp_2 pp_3 pp_4 pp_5 pp_6 pp_7 pp_8) ++ ((wPLc G qa qq_0 qq_1 qq_2 qq_3 qq_4 qq_5 qq_6 qq_7 qq_8)))))) := hD
  have h := (f_X2_closedSets_e lo yy_0 yy_1 yy_2 yy_3 yy_4 yy_5 yy_6 yy_7 yy_8 pp_0 pp_1 pp_2 pp_3 pp_4 pp_5 pp_6 pp_7 pp_8 qq_0 qq_1 qq_2 qq_3 qq_4 qq_5 qq_6 qq_7 qq_8).symm.trans h
  refine lv_aload_n hx hb dX2_closedSets_0 rfl (lv_at hl 0 rfl) ?_
  refine va_get (D := G.1) (ci := 2) (v := .ref (ya 0)) (C := RX2) (T := TX2) (N := 4) hx hb hts hinX2 hown hK hP 0 rfl rfl 0 (by decide) (hts (.fieldLink RX2 10 "LessonWeave" "syllabus" "LLessonWeave$Syllabus;") (by decide +kernel)) (fun _ h9 => h9) rfl dX2_closedSets_1 ?_
  obtain ⟨o1, ho1, h⟩ := sp_b h
  have hP9 : va_P G.1 vwCl (((wXO xa (ya 0) la (pa 0) (qa 0)) ++ ((wLO G la lo) ++ ((wPLc G pa pp_0 pp_1 pp_2 pp_3 pp_4 pp_5 pp_6 pp_7 pp_8) ++ ((wPLc G qa qq_0 qq_1 qq_2 qq_3 qq_4 qq_5 qq_6 qq_7 qq_8))))) ++ ((wSYc G ya yy_0 yy_1 yy_2 yy_3 yy_4 yy_5 yy_6 yy_7 yy_8))) H := xf_P (xf_p_5_0134_2 (wXO xa (ya 0) la (pa 0) (qa 0)) (wLO G la lo) (wSYc G ya yy_0 yy_1 yy_2 yy_3 yy_4 yy_5 yy_6 yy_7 yy_8) (wPLc G pa pp_0 pp_1 pp_2 pp_3 pp_4 pp_5 pp_6 pp_7 pp_8) (wPLc G qa qq_0 qq_1 qq_2 qq_3 qq_4 qq_5 qq_6 qq_7 qq_8)) hP
  have hD9 : va_D A (((wXO xa (ya 0) la (pa 0) (qa 0)) ++ ((wLO G la lo) ++ ((wPLc G pa pp_0 pp_1 pp_2 pp_3 pp_4 pp_5 pp_6 pp_7 pp_8) ++ ((wPLc G qa qq_0 qq_1 qq_2 qq_3 qq_4 qq_5 qq_6 qq_7 qq_8))))) ++ ((wSYc G ya yy_0 yy_1 yy_2 yy_3 yy_4 yy_5 yy_6 yy_7 yy_8))) := xf_D (xf_p_5_0134_2 (wXO xa (ya 0) la (pa 0) (qa 0)) (wLO G la lo) (wSYc G ya yy_0 yy_1 yy_2 yy_3 yy_4 yy_5 yy_6 yy_7 yy_8) (wPLc G pa pp_0 pp_1 pp_2 pp_3 pp_4 pp_5 pp_6 pp_7 pp_8) (wPLc G qa qq_0 qq_1 qq_2 qq_3 qq_4 qq_5 qq_6 qq_7 qq_8)) hD
  refine xf_ci (va_runV (As := []) (rest := []) ⟨hx, hb, hml, hown, hts⟩ (c_X1_countClosed l G ya (yy_0, yy_1, yy_2, yy_3, yy_4, yy_5, yy_6, yy_7, yy_8) o1 ho1 H.size) (cwV 0 hts gX2_closedSets_X1_countClosed rfl rfl rfl (by decide +kernel) ⟨(Nat.le_of_ble_eq_true rfl), (Nat.le_of_ble_eq_true rfl)⟩) (xk_preV hK hNE (xf_pr hP9) (xf_dr hD9) (ci := 1) rfl rfl) rfl rfl hl.1 rfl (lv_room (Nat.le_of_ble_eq_true rfl)) dX2_closedSets_4 ⟨(Nat.le_of_ble_eq_true rfl), (Nat.le_of_ble_eq_true rfl)⟩) hP9 hD9 hS hA (fun H locs hP hD hS => ?_)
  have hP : va_P G.1 vwCl ((wXO xa (ya 0) la (pa 0) (qa 0)) ++ ((wLO G la lo) ++ ((wSYc G ya yy_0 yy_1 yy_2 yy_3 yy_4 yy_5 yy_6 yy_7 yy_8) ++ ((wPLc G pa pp_0 pp_1 pp_2 pp_3 pp_4 pp_5 pp_6 pp_7 pp_8) ++ ((wPLc G qa qq_0 qq_1 qq_2 qq_3 qq_4 qq_5 qq_6 qq_7 qq_8)))))) H := xf_P (xf_p_5_0134_2 (wXO xa (ya 0) la (pa 0) (qa 0)) (wLO G la lo) (wSYc G ya yy_0 yy_1 yy_2 yy_3 yy_4 yy_5 yy_6 yy_7 yy_8) (wPLc G pa pp_0 pp_1 pp_2 pp_3 pp_4 pp_5 pp_6 pp_7 pp_8) (wPLc G qa qq_0 qq_1 qq_2 qq_3 qq_4 qq_5 qq_6 qq_7 qq_8)).symm (show va_P G.1 vwCl (((wXO xa (ya 0) la (pa 0) (qa 0)) ++ ((wLO G la lo) ++ ((wPLc G pa pp_0 pp_1 pp_2 pp_3 pp_4 pp_5 pp_6 pp_7 pp_8) ++ ((wPLc G qa qq_0 qq_1 qq_2 qq_3 qq_4 qq_5 qq_6 qq_7 qq_8))))) ++ ((wSYc G ya yy_0 yy_1 yy_2 yy_3 yy_4 yy_5 yy_6 yy_7 yy_8))) H from hP)
  have hD : va_D A ((wXO xa (ya 0) la (pa 0) (qa 0)) ++ ((wLO G la lo) ++ ((wSYc G ya yy_0 yy_1 yy_2 yy_3 yy_4 yy_5 yy_6 yy_7 yy_8) ++ ((wPLc G pa pp_0 pp_1 pp_2 pp_3 pp_4 pp_5 pp_6 pp_7 pp_8) ++ ((wPLc G qa qq_0 qq_1 qq_2 qq_3 qq_4 qq_5 qq_6 qq_7 qq_8)))))) := xf_D (xf_p_5_0134_2 (wXO xa (ya 0) la (pa 0) (qa 0)) (wLO G la lo) (wSYc G ya yy_0 yy_1 yy_2 yy_3 yy_4 yy_5 yy_6 yy_7 yy_8) (wPLc G pa pp_0 pp_1 pp_2 pp_3 pp_4 pp_5 pp_6 pp_7 pp_8) (wPLc G qa qq_0 qq_1 qq_2 qq_3 qq_4 qq_5 qq_6 qq_7 qq_8)).symm (show va_D A (((wXO xa (ya 0) la (pa 0) (qa 0)) ++ ((wLO G la lo) ++ ((wPLc G pa pp_0 pp_1 pp_2 pp_3 pp_4 pp_5 pp_6 pp_7 pp_8) ++ ((wPLc G qa qq_0 qq_1 qq_2 qq_3 qq_4 qq_5 qq_6 qq_7 qq_8))))) ++ ((wSYc G ya yy_0 yy_1 yy_2 yy_3 yy_4 yy_5 yy_6 yy_7 yy_8))) from hD)
  obtain rfl := sp_s h
  exact xk_reI hx hb hr hlk hP hD hS rfl dX2_closedSets_7
theorem xf_p_5_n_01234 (g0 g1 g2 g3 g4 : va_W) : List.Perm (g0 ++ (g1 ++ (g2 ++ (g3 ++ (g4))))) (([] : va_W) ++ (g0 ++ (g1 ++ (g2 ++ (g3 ++ (g4)))))) := by
  have h1 : List.Perm (g0 ++ (g1 ++ (g2 ++ (g3 ++ (g4))))) (g0 ++ (g1 ++ (g2 ++ (g3 ++ (g4))))) := (List.Perm.refl _)
  exact h1
theorem xf_p_5_n_01243 (g0 g1 g2 g3 g4 : va_W) : List.Perm (g0 ++ (g1 ++ (g2 ++ (g3 ++ (g4))))) (([] : va_W) ++ (g0 ++ (g1 ++ (g2 ++ (g4 ++ (g3)))))) := by
  have h1 : List.Perm (g0 ++ (g1 ++ (g2 ++ (g3 ++ (g4))))) (g0 ++ (g1 ++ (g2 ++ (g4 ++ (g3))))) := ((List.Perm.refl _).trans (xf_c _ ((List.Perm.refl _).trans (xf_c _ ((List.Perm.refl _).trans (xf_c _ ((xf_s1 _ _).trans (xf_c _ (List.Perm.refl _)))))))))
  exact h1
theorem xf_p_5_01243_n (g0 g1 g2 g3 g4 : va_W) : List.Perm (g0 ++ (g1 ++ (g2 ++ (g3 ++ (g4))))) ((g0 ++ (g1 ++ (g2 ++ (g4 ++ (g3))))) ++ ([] : va_W)) := by
  have h1 : List.Perm (g0 ++ (g1 ++ (g2 ++ (g3 ++ (g4))))) (g0 ++ (g1 ++ (g2 ++ (g4 ++ (g3))))) := ((List.Perm.refl _).trans (xf_c _ ((List.Perm.refl _).trans (xf_c _ ((List.Perm.refl _).trans (xf_c _ ((xf_s1 _ _).trans (xf_c _ (List.Perm.refl _)))))))))
  rw [List.append_nil]; exact h1
def f_X2_aim (lo : xF) (yy : xSY) (pp : xPL) (qq : xPL) (i1 : Int32) (i2 : Int32) (i3 : Int32) (i4 : Int32) : Option (Int32 × Int32 × xF × xF × xF × xF × xF × xF × xPL × xPL) :=
  Option.bind (f_X2_isWithin i1 (1 : Int32) (5 : Int32)) fun (o1 : Int32) =>
  if o1 = 0 then
    none
  else
    Option.bind (f_X2_isWithin i2 (0 : Int32) (3 : Int32)) fun (o3 : Int32) =>
    if o3 = 0 then
      none
    else
      Option.bind (f_X2_isWithin i3 (1 : Int32) (99 : Int32)) fun (o5 : Int32) =>
      if o5 = 0 then
        none
      else
        if i4 = ((-1) : Int32) then
          if yy.1 < (12 : Int32) then
            Option.bind (f_X1_add (yy.1, yy.2.1, yy.2.2.1, yy.2.2.2.1, yy.2.2.2.2.1, yy.2.2.2.2.2.1, yy.2.2.2.2.2.2.1, yy.2.2.2.2.2.2.2.1, yy.2.2.2.2.2.2.2.2) i1 i2 i3 i4) fun (o9 : Int32 × Int32 × xF × xF × xF × xF × xF × xF) =>
            Option.bind (f_X2_planAnew lo (o9.2.1, o9.2.2.1, o9.2.2.2.1, o9.2.2.2.2.1, o9.2.2.2.2.2.1, yy.2.2.2.2.2.1, o9.2.2.2.2.2.2.1, yy.2.2.2.2.2.2.2.1, o9.2.2.2.2.2.2.2) (pp.1, pp.2.1, pp.2.2.1, pp.2.2.2.1, pp.2.2.2.2.1, pp.2.2.2.2.2.1, pp.2.2.2.2.2.2.1, pp.2.2.2.2.2.2.2.1, pp.2.2.2.2.2.2.2.2) (qq.1, qq.2.1, qq.2.2.1, qq.2.2.2.1, qq.2.2.2.2.1, qq.2.2.2.2.2.1, qq.2.2.2.2.2.2.1, qq.2.2.2.2.2.2.2.1, qq.2.2.2.2.2.2.2.2)) fun (o10 : xPL × xPL) =>
            some (o9.1, o9.2.1, o9.2.2.1, o9.2.2.2.1, o9.2.2.2.2.1, o9.2.2.2.2.2.1, o9.2.2.2.2.2.2.1, o9.2.2.2.2.2.2.2, o10.1, o10.2)
          else
            none
        else
          Option.bind (f_X2_isWithin i4 (0 : Int32) (2 : Int32)) fun (o11 : Int32) =>
          if o11 = 0 then
            none
          else
            if yy.1 < (12 : Int32) then
              Option.bind (f_X1_add (yy.1, yy.2.1, yy.2.2.1, yy.2.2.2.1, yy.2.2.2.2.1, yy.2.2.2.2.2.1, yy.2.2.2.2.2.2.1, yy.2.2.2.2.2.2.2.1, yy.2.2.2.2.2.2.2.2) i1 i2 i3 i4) fun (o14 : Int32 × Int32 × xF × xF × xF × xF × xF × xF) =>
              Option.bind (f_X2_planAnew lo (o14.2.1, o14.2.2.1, o14.2.2.2.1, o14.2.2.2.2.1, o14.2.2.2.2.2.1, yy.2.2.2.2.2.1, o14.2.2.2.2.2.2.1, yy.2.2.2.2.2.2.2.1, o14.2.2.2.2.2.2.2) (pp.1, pp.2.1, pp.2.2.1, pp.2.2.2.1, pp.2.2.2.2.1, pp.2.2.2.2.2.1, pp.2.2.2.2.2.2.1, pp.2.2.2.2.2.2.2.1, pp.2.2.2.2.2.2.2.2) (qq.1, qq.2.1, qq.2.2.1, qq.2.2.2.1, qq.2.2.2.2.1, qq.2.2.2.2.2.1, qq.2.2.2.2.2.2.1, qq.2.2.2.2.2.2.2.1, qq.2.2.2.2.2.2.2.2)) fun (o15 : xPL × xPL) =>
              some (o14.1, o14.2.1, o14.2.2.1, o14.2.2.2.1, o14.2.2.2.2.1, o14.2.2.2.2.2.1, o14.2.2.2.2.2.2.1, o14.2.2.2.2.2.2.2, o15.1, o15.2)
            else
              none
theorem f_X2_aim_e (lo : xF) (yy_0 : Int32) (yy_1 : xF) (yy_2 : xF) (yy_3 : xF) (yy_4 : xF) (yy_5 : xF) (yy_6 : xF) (yy_7 : xF) (yy_8 : xF) (pp_0 : xF) (pp_1 : xF) (pp_2 : xF) (pp_3 : xF) (pp_4 : xF) (pp_5 : xF) (pp_6 : Int32) (pp_7 : Int32) (pp_8 : Int32) (qq_0 : xF) (qq_1 : xF) (qq_2 : xF) (qq_3 : xF) (qq_4 : xF) (qq_5 : xF) (qq_6 : Int32) (qq_7 : Int32) (qq_8 : Int32) (i1 : Int32) (i2 : Int32) (i3 : Int32) (i4 : Int32) : f_X2_aim lo (yy_0, yy_1, yy_2, yy_3, yy_4, yy_5, yy_6, yy_7, yy_8) (pp_0, pp_1, pp_2, pp_3, pp_4, pp_5, pp_6, pp_7, pp_8) (qq_0, qq_1, qq_2, qq_3, qq_4, qq_5, qq_6, qq_7, qq_8) i1 i2 i3 i4 =
  Option.bind (f_X2_isWithin i1 (1 : Int32) (5 : Int32)) fun (o1 : Int32) =>
  if o1 = 0 then
    none
  else
    Option.bind (f_X2_isWithin i2 (0 : Int32) (3 : Int32)) fun (o3 : Int32) =>
    if o3 = 0 then
      none
    else
      Option.bind (f_X2_isWithin i3 (1 : Int32) (99 : Int32)) fun (o5 : Int32) =>
      if o5 = 0 then
        none
      else
        if i4 = ((-1) : Int32) then
          if yy_0 < (12 : Int32) then
            Option.bind (f_X1_add (yy_0, yy_1, yy_2, yy_3, yy_4, yy_5, yy_6, yy_7, yy_8) i1 i2 i3 i4) fun (o9 : Int32 × Int32 × xF × xF × xF × xF × xF × xF) =>
            Option.bind (f_X2_planAnew lo (o9.2.1, o9.2.2.1, o9.2.2.2.1, o9.2.2.2.2.1, o9.2.2.2.2.2.1, yy_5, o9.2.2.2.2.2.2.1, yy_7, o9.2.2.2.2.2.2.2) (pp_0, pp_1, pp_2, pp_3, pp_4, pp_5, pp_6, pp_7, pp_8) (qq_0, qq_1, qq_2, qq_3, qq_4, qq_5, qq_6, qq_7, qq_8)) fun (o10 : xPL × xPL) =>
            some (o9.1, o9.2.1, o9.2.2.1, o9.2.2.2.1, o9.2.2.2.2.1, o9.2.2.2.2.2.1, o9.2.2.2.2.2.2.1, o9.2.2.2.2.2.2.2, o10.1, o10.2)
          else
            none
        else
          Option.bind (f_X2_isWithin i4 (0 : Int32) (2 : Int32)) fun (o11 : Int32) =>
          if o11 = 0 then
            none
          else
            if yy_0 < (12 : Int32) then
              Option.bind (f_X1_add (yy_0, yy_1, yy_2, yy_3, yy_4, yy_5, yy_6, yy_7, yy_8) i1 i2 i3 i4) fun (o14 : Int32 × Int32 × xF × xF × xF × xF × xF × xF) =>
              Option.bind (f_X2_planAnew lo (o14.2.1, o14.2.2.1, o14.2.2.2.1, o14.2.2.2.2.1, o14.2.2.2.2.2.1, yy_5, o14.2.2.2.2.2.2.1, yy_7, o14.2.2.2.2.2.2.2) (pp_0, pp_1, pp_2, pp_3, pp_4, pp_5, pp_6, pp_7, pp_8) (qq_0, qq_1, qq_2, qq_3, qq_4, qq_5, qq_6, qq_7, qq_8)) fun (o15 : xPL × xPL) =>
              some (o14.1, o14.2.1, o14.2.2.1, o14.2.2.2.1, o14.2.2.2.2.1, o14.2.2.2.2.2.1, o14.2.2.2.2.2.2.1, o14.2.2.2.2.2.2.2, o15.1, o15.2)
            else
              none := rfl
set_option maxHeartbeats 8000000 in
set_option maxRecDepth 100000 in
theorem c_X2_aim (l : Launch) (G : xG) (xa : Nat) (la : Nat) (ya : (Nat → Nat)) (pa : (Nat → Nat)) (qa : (Nat → Nat)) (lo : xF) (yy : xSY) (pp : xPL) (qq : xPL) (i1 : Int32) (i2 : Int32) (i3 : Int32) (i4 : Int32) (o : Int32 × Int32 × xF × xF × xF × xF × xF × xF × xPL × xPL) (h : f_X2_aim lo yy pp qq i1 i2 i3 i4 = some o) : xk_CI l yX2_aim wsX2_aim ({ frames := 6, cells := 0, slots := 0, locals := 139 } : Room) 0 0 [.ref xa, .int i1, .int i2, .int i3, .int i4] G ((wXO xa (ya 0) la (pa 0) (qa 0)) ++ ((wLO G la lo) ++ ((wSYc G ya yy.1 yy.2.1 yy.2.2.1 yy.2.2.2.1 yy.2.2.2.2.1 yy.2.2.2.2.2.1 yy.2.2.2.2.2.2.1 yy.2.2.2.2.2.2.2.1 yy.2.2.2.2.2.2.2.2) ++ ((wPLc G pa pp.1 pp.2.1 pp.2.2.1 pp.2.2.2.1 pp.2.2.2.2.1 pp.2.2.2.2.2.1 pp.2.2.2.2.2.2.1 pp.2.2.2.2.2.2.2.1 pp.2.2.2.2.2.2.2.2) ++ ((wPLc G qa qq.1 qq.2.1 qq.2.2.1 qq.2.2.2.1 qq.2.2.2.2.1 qq.2.2.2.2.2.1 qq.2.2.2.2.2.2.1 qq.2.2.2.2.2.2.2.1 qq.2.2.2.2.2.2.2.2)))))) ((wXO xa (ya 0) la (qa 0) (pa 0)) ++ ((wLO G la lo) ++ ((wSYc G ya o.2.1 o.2.2.1 o.2.2.2.1 o.2.2.2.2.1 o.2.2.2.2.2.1 yy.2.2.2.2.2.1 o.2.2.2.2.2.2.1 yy.2.2.2.2.2.2.2.1 o.2.2.2.2.2.2.2.1) ++ ((wPLc G qa o.2.2.2.2.2.2.2.2.1.1 o.2.2.2.2.2.2.2.2.1.2.1 o.2.2.2.2.2.2.2.2.1.2.2.1 o.2.2.2.2.2.2.2.2.1.2.2.2.1 o.2.2.2.2.2.2.2.2.1.2.2.2.2.1 o.2.2.2.2.2.2.2.2.1.2.2.2.2.2.1 o.2.2.2.2.2.2.2.2.1.2.2.2.2.2.2.1 o.2.2.2.2.2.2.2.2.1.2.2.2.2.2.2.2.1 o.2.2.2.2.2.2.2.2.1.2.2.2.2.2.2.2.2) ++ ((wPLc G pa o.2.2.2.2.2.2.2.2.2.1 o.2.2.2.2.2.2.2.2.2.2.1 o.2.2.2.2.2.2.2.2.2.2.2.1 o.2.2.2.2.2.2.2.2.2.2.2.2.1 o.2.2.2.2.2.2.2.2.2.2.2.2.2.1 o.2.2.2.2.2.2.2.2.2.2.2.2.2.2.1 o.2.2.2.2.2.2.2.2.2.2.2.2.2.2.2.1 o.2.2.2.2.2.2.2.2.2.2.2.2.2.2.2.2.1 o.2.2.2.2.2.2.2.2.2.2.2.2.2.2.2.2.2)))))) o.1 := by
  obtain ⟨yy_0, yy_1, yy_2, yy_3, yy_4, yy_5, yy_6, yy_7, yy_8⟩ := yy
  obtain ⟨pp_0, pp_1, pp_2, pp_3, pp_4, pp_5, pp_6, pp_7, pp_8⟩ := pp
  obtain ⟨qq_0, qq_1, qq_2, qq_3, qq_4, qq_5, qq_6, qq_7, qq_8⟩ := qq
  refine xk_CI.of (cc := cX2_aim) (maxL := 6) (ret := (some .int)) (by decide) rfl (Nat.le_of_ble_eq_true rfl) ?_
  intro pr9 en9 s mm9 bl9 meth9 cd9 A ls H locs hx hb hr hml hts hown hlk hA hP hK hD hNE hS hl
  have hown : s.vm.findClass RX2 = some mm9.cls := hown
  have hl : lv_has ls 6 [(0, .ref xa), (1, .int i1), (2, .int i2), (3, .int i3), (4, .int i4)] := hl
  have hinX1 : ∀ w ∈ u_ws RX1 TX1 9, w ∈ wsX2_aim := by decide +kernel
  have hinX2 : ∀ w ∈ u_ws RX2 TX2 4, w ∈ wsX2_aim := by decide +kernel
  have hP : va_P G.1 vwCl ((wXO xa (ya 0) la (pa 0) (qa 0)) ++ ((wLO G la lo) ++ ((wSYc G ya yy_0 yy_1 yy_2 yy_3 yy_4 yy_5 yy_6 yy_7 yy_8) ++ ((wPLc G pa pp_0 pp_1 pp_2 pp_3 pp_4 pp_5 pp_6 pp_7 pp_8) ++ ((wPLc G qa qq_0 qq_1 qq_2 qq_3 qq_4 qq_5 qq_6 qq_7 qq_8)))))) H := hP
  have hD : va_D A ((wXO xa (ya 0) la (pa 0) (qa 0)) ++ ((wLO G la lo) ++ ((wSYc G ya yy_0 yy_1 yy_2 yy_3 yy_4 yy_5 yy_6 yy_7 yy_8) ++ ((wPLc G pa pp_0 pp_1 pp_2 pp_3 pp_4 pp_5 pp_6 pp_7 pp_8) ++ ((wPLc G qa qq_0 qq_1 qq_2 qq_3 qq_4 qq_5 qq_6 qq_7 qq_8)))))) := hD
  have h := (f_X2_aim_e lo yy_0 yy_1 yy_2 yy_3 yy_4 yy_5 yy_6 yy_7 yy_8 pp_0 pp_1 pp_2 pp_3 pp_4 pp_5 pp_6 pp_7 pp_8 qq_0 qq_1 qq_2 qq_3 qq_4 qq_5 qq_6 qq_7 qq_8 i1 i2 i3 i4).symm.trans h
  refine lv_iload_n hx hb dX2_aim_0 rfl (lv_at hl 1 rfl) ?_
  refine lv_iconst (v := (1 : Int32)) hx hb dX2_aim_1 (by decide) ?_
  refine lv_iconst (v := (5 : Int32)) hx hb dX2_aim_2 (by decide) ?_
  obtain ⟨o1, ho1, h⟩ := sp_b h
  refine xf_ci0 (va_runS (As := [.int i1, .int (1 : Int32), .int (5 : Int32)]) (rest := []) ⟨hx, hb, hml, hown, hts⟩ (c_X2_isWithin l G i1 (1 : Int32) (5 : Int32) o1 ho1 H.size) (va_cwS 3 hts gX2_aim_X2_isWithin rfl rfl rfl (by decide +kernel) ⟨(Nat.le_of_ble_eq_true rfl), (Nat.le_of_ble_eq_true rfl)⟩) (xk_preS hK hNE (xf_p0 : va_P G.1 vwCl [] H) (xf_d0 : va_D A [])) rfl rfl hl.1 rfl (lv_room (Nat.le_of_ble_eq_true rfl)) dX2_aim_3 ⟨(Nat.le_of_ble_eq_true rfl), (Nat.le_of_ble_eq_true rfl)⟩) hP hD hS hA (fun H locs hP hD hS => ?_)
  refine lv_if_ne (tgt := 19) hx hb dX2_aim_6 (by decide) (fun c2 => ?_) (fun c2 => ?_)
  · have h := sp_f c2 h
    refine lv_iload_n hx hb dX2_aim_19 rfl (lv_at hl 2 rfl) ?_
    refine lv_iconst (v := (0 : Int32)) hx hb dX2_aim_20 (by decide) ?_
    refine lv_iconst (v := (3 : Int32)) hx hb dX2_aim_21 (by decide) ?_
    obtain ⟨o3, ho3, h⟩ := sp_b h
    refine xf_ci0 (va_runS (As := [.int i2, .int (0 : Int32), .int (3 : Int32)]) (rest := []) ⟨hx, hb, hml, hown, hts⟩ (c_X2_isWithin l G i2 (0 : Int32) (3 : Int32) o3 ho3 H.size) (va_cwS 3 hts gX2_aim_X2_isWithin rfl rfl rfl (by decide +kernel) ⟨(Nat.le_of_ble_eq_true rfl), (Nat.le_of_ble_eq_true rfl)⟩) (xk_preS hK hNE (xf_p0 : va_P G.1 vwCl [] H) (xf_d0 : va_D A [])) rfl rfl hl.1 rfl (lv_room (Nat.le_of_ble_eq_true rfl)) dX2_aim_22 ⟨(Nat.le_of_ble_eq_true rfl), (Nat.le_of_ble_eq_true rfl)⟩) hP hD hS hA (fun H locs hP hD hS => ?_)
    refine lv_if_ne (tgt := 38) hx hb dX2_aim_25 (by decide) (fun c4 => ?_) (fun c4 => ?_)
    · have h := sp_f c4 h
      refine lv_iload_n hx hb dX2_aim_38 rfl (lv_at hl 3 rfl) ?_
      refine lv_iconst (v := (1 : Int32)) hx hb dX2_aim_39 (by decide) ?_
      refine lv_bipush (v := (99 : Int32)) hx hb dX2_aim_40 (by decide) ?_
      obtain ⟨o5, ho5, h⟩ := sp_b h
      refine xf_ci0 (va_runS (As := [.int i3, .int (1 : Int32), .int (99 : Int32)]) (rest := []) ⟨hx, hb, hml, hown, hts⟩ (c_X2_isWithin l G i3 (1 : Int32) (99 : Int32) o5 ho5 H.size) (va_cwS 3 hts gX2_aim_X2_isWithin rfl rfl rfl (by decide +kernel) ⟨(Nat.le_of_ble_eq_true rfl), (Nat.le_of_ble_eq_true rfl)⟩) (xk_preS hK hNE (xf_p0 : va_P G.1 vwCl [] H) (xf_d0 : va_D A [])) rfl rfl hl.1 rfl (lv_room (Nat.le_of_ble_eq_true rfl)) dX2_aim_42 ⟨(Nat.le_of_ble_eq_true rfl), (Nat.le_of_ble_eq_true rfl)⟩) hP hD hS hA (fun H locs hP hD hS => ?_)
      refine lv_if_ne (tgt := 58) hx hb dX2_aim_45 (by decide) (fun c6 => ?_) (fun c6 => ?_)
      · have h := sp_f c6 h
        refine lv_iload hx hb dX2_aim_58 (lv_at hl 4 rfl) ?_
        refine lv_iconst (v := ((-1) : Int32)) hx hb dX2_aim_60 (by decide) ?_
        refine lv_icmp_eq (tgt := 84) hx hb dX2_aim_61 (by decide) (fun c7 => ?_) (fun c7 => ?_)
        · have h := sp_t c7 h
          refine lv_aload_n hx hb dX2_aim_84 rfl (lv_at hl 0 rfl) ?_
          refine va_get (D := G.1) (ci := 2) (v := .ref (ya 0)) (C := RX2) (T := TX2) (N := 4) hx hb hts hinX2 hown hK hP 0 rfl rfl 0 (by decide) (hts (.fieldLink RX2 10 "LessonWeave" "syllabus" "LLessonWeave$Syllabus;") (by decide +kernel)) (fun _ h9 => h9) rfl dX2_aim_85 ?_
          refine va_getN (D := G.1) (ci := 1) (v := .int yy_0) (C := RX1) (T := TX1) (N := 9) hx hb hts hinX1 hown hK hP 2 rfl rfl 0 (by decide) (va_Nw.use rfl hNE.1) (fun _ h9 => h9) rfl dX2_aim_88 ?_
          refine lv_bipush (v := (12 : Int32)) hx hb dX2_aim_91 (by decide) ?_
          refine lv_icmp_lt (tgt := 106) hx hb dX2_aim_93 (by decide) (fun c8 => ?_) (fun c8 => ?_)
          · have h := sp_t c8 h
            refine lv_aload_n hx hb dX2_aim_106 rfl (lv_at hl 0 rfl) ?_
            refine va_get (D := G.1) (ci := 2) (v := .ref (ya 0)) (C := RX2) (T := TX2) (N := 4) hx hb hts hinX2 hown hK hP 0 rfl rfl 0 (by decide) (hts (.fieldLink RX2 10 "LessonWeave" "syllabus" "LLessonWeave$Syllabus;") (by decide +kernel)) (fun _ h9 => h9) rfl dX2_aim_107 ?_
            refine lv_iload_n hx hb dX2_aim_110 rfl (lv_at hl 1 rfl) ?_
            refine lv_iload_n hx hb dX2_aim_111 rfl (lv_at hl 2 rfl) ?_
            refine lv_iload_n hx hb dX2_aim_112 rfl (lv_at hl 3 rfl) ?_
            refine lv_iload hx hb dX2_aim_113 (lv_at hl 4 rfl) ?_
            obtain ⟨o9, ho9, h⟩ := sp_b h
            have hP9 : va_P G.1 vwCl (((wXO xa (ya 0) la (pa 0) (qa 0)) ++ ((wLO G la lo) ++ ((wPLc G pa pp_0 pp_1 pp_2 pp_3 pp_4 pp_5 pp_6 pp_7 pp_8) ++ ((wPLc G qa qq_0 qq_1 qq_2 qq_3 qq_4 qq_5 qq_6 qq_7 qq_8))))) ++ ((wSYc G ya yy_0 yy_1 yy_2 yy_3 yy_4 yy_5 yy_6 yy_7 yy_8))) H := xf_P (xf_p_5_0134_2 (wXO xa (ya 0) la (pa 0) (qa 0)) (wLO G la lo) (wSYc G ya yy_0 yy_1 yy_2 yy_3 yy_4 yy_5 yy_6 yy_7 yy_8) (wPLc G pa pp_0 pp_1 pp_2 pp_3 pp_4 pp_5 pp_6 pp_7 pp_8) (wPLc G qa qq_0 qq_1 qq_2 qq_3 qq_4 qq_5 qq_6 qq_7 qq_8)) hP
            have hD9 : va_D A (((wXO xa (ya 0) la (pa 0) (qa 0)) ++ ((wLO G la lo) ++ ((wPLc G pa pp_0 pp_1 pp_2 pp_3 pp_4 pp_5 pp_6 pp_7 pp_8) ++ ((wPLc G qa qq_0 qq_1 qq_2 qq_3 qq_4 qq_5 qq_6 qq_7 qq_8))))) ++ ((wSYc G ya yy_0 yy_1 yy_2 yy_3 yy_4 yy_5 yy_6 yy_7 yy_8))) := xf_D (xf_p_5_0134_2 (wXO xa (ya 0) la (pa 0) (qa 0)) (wLO G la lo) (wSYc G ya yy_0 yy_1 yy_2 yy_3 yy_4 yy_5 yy_6 yy_7 yy_8) (wPLc G pa pp_0 pp_1 pp_2 pp_3 pp_4 pp_5 pp_6 pp_7 pp_8) (wPLc G qa qq_0 qq_1 qq_2 qq_3 qq_4 qq_5 qq_6 qq_7 qq_8)) hD
            refine xf_ci (va_runV (As := [.int i1, .int i2, .int i3, .int i4]) (rest := []) ⟨hx, hb, hml, hown, hts⟩ (c_X1_add l G ya (yy_0, yy_1, yy_2, yy_3, yy_4, yy_5, yy_6, yy_7, yy_8) i1 i2 i3 i4 o9 ho9 H.size) (cwV 4 hts gX2_aim_X1_add rfl rfl rfl (by decide +kernel) ⟨(Nat.le_of_ble_eq_true rfl), (Nat.le_of_ble_eq_true rfl)⟩) (xk_preV hK hNE (xf_pr hP9) (xf_dr hD9) (ci := 1) rfl rfl) rfl rfl hl.1 rfl (lv_room (Nat.le_of_ble_eq_true rfl)) dX2_aim_115 ⟨(Nat.le_of_ble_eq_true rfl), (Nat.le_of_ble_eq_true rfl)⟩) hP9 hD9 hS hA (fun H locs hP hD hS => ?_)
            have hP : va_P G.1 vwCl ((wXO xa (ya 0) la (pa 0) (qa 0)) ++ ((wLO G la lo) ++ ((wSYc G ya o9.2.1 o9.2.2.1 o9.2.2.2.1 o9.2.2.2.2.1 o9.2.2.2.2.2.1 yy_5 o9.2.2.2.2.2.2.1 yy_7 o9.2.2.2.2.2.2.2) ++ ((wPLc G pa pp_0 pp_1 pp_2 pp_3 pp_4 pp_5 pp_6 pp_7 pp_8) ++ ((wPLc G qa qq_0 qq_1 qq_2 qq_3 qq_4 qq_5 qq_6 qq_7 qq_8)))))) H := xf_P (xf_p_5_0134_2 (wXO xa (ya 0) la (pa 0) (qa 0)) (wLO G la lo) (wSYc G ya o9.2.1 o9.2.2.1 o9.2.2.2.1 o9.2.2.2.2.1 o9.2.2.2.2.2.1 yy_5 o9.2.2.2.2.2.2.1 yy_7 o9.2.2.2.2.2.2.2) (wPLc G pa pp_0 pp_1 pp_2 pp_3 pp_4 pp_5 pp_6 pp_7 pp_8) (wPLc G qa qq_0 qq_1 qq_2 qq_3 qq_4 qq_5 qq_6 qq_7 qq_8)).symm (show va_P G.1 vwCl (((wXO xa (ya 0) la (pa 0) (qa 0)) ++ ((wLO G la lo) ++ ((wPLc G pa pp_0 pp_1 pp_2 pp_3 pp_4 pp_5 pp_6 pp_7 pp_8) ++ ((wPLc G qa qq_0 qq_1 qq_2 qq_3 qq_4 qq_5 qq_6 qq_7 qq_8))))) ++ ((wSYc G ya o9.2.1 o9.2.2.1 o9.2.2.2.1 o9.2.2.2.2.1 o9.2.2.2.2.2.1 yy_5 o9.2.2.2.2.2.2.1 yy_7 o9.2.2.2.2.2.2.2))) H from hP)
            have hD : va_D A ((wXO xa (ya 0) la (pa 0) (qa 0)) ++ ((wLO G la lo) ++ ((wSYc G ya o9.2.1 o9.2.2.1 o9.2.2.2.1 o9.2.2.2.2.1 o9.2.2.2.2.2.1 yy_5 o9.2.2.2.2.2.2.1 yy_7 o9.2.2.2.2.2.2.2) ++ ((wPLc G pa pp_0 pp_1 pp_2 pp_3 pp_4 pp_5 pp_6 pp_7 pp_8) ++ ((wPLc G qa qq_0 qq_1 qq_2 qq_3 qq_4 qq_5 qq_6 qq_7 qq_8)))))) := xf_D (xf_p_5_0134_2 (wXO xa (ya 0) la (pa 0) (qa 0)) (wLO G la lo) (wSYc G ya o9.2.1 o9.2.2.1 o9.2.2.2.1 o9.2.2.2.2.1 o9.2.2.2.2.2.1 yy_5 o9.2.2.2.2.2.2.1 yy_7 o9.2.2.2.2.2.2.2) (wPLc G pa pp_0 pp_1 pp_2 pp_3 pp_4 pp_5 pp_6 pp_7 pp_8) (wPLc G qa qq_0 qq_1 qq_2 qq_3 qq_4 qq_5 qq_6 qq_7 qq_8)).symm (show va_D A (((wXO xa (ya 0) la (pa 0) (qa 0)) ++ ((wLO G la lo) ++ ((wPLc G pa pp_0 pp_1 pp_2 pp_3 pp_4 pp_5 pp_6 pp_7 pp_8) ++ ((wPLc G qa qq_0 qq_1 qq_2 qq_3 qq_4 qq_5 qq_6 qq_7 qq_8))))) ++ ((wSYc G ya o9.2.1 o9.2.2.1 o9.2.2.2.1 o9.2.2.2.2.1 o9.2.2.2.2.2.1 yy_5 o9.2.2.2.2.2.2.1 yy_7 o9.2.2.2.2.2.2.2))) from hD)
            refine lv_istore (lv' := [(5, .int o9.1), (0, .ref xa), (1, .int i1), (2, .int i2), (3, .int i3), (4, .int i4)]) hx hb dX2_aim_118 hl (by decide) rfl (fun ls hl => ?_)
            refine lv_aload_n hx hb dX2_aim_120 rfl (lv_at hl 1 rfl) ?_
            obtain ⟨o10, ho10, h⟩ := sp_b h
            have hP9 : va_P G.1 vwCl (([] : va_W) ++ ((wXO xa (ya 0) la (pa 0) (qa 0)) ++ ((wLO G la lo) ++ ((wSYc G ya o9.2.1 o9.2.2.1 o9.2.2.2.1 o9.2.2.2.2.1 o9.2.2.2.2.2.1 yy_5 o9.2.2.2.2.2.2.1 yy_7 o9.2.2.2.2.2.2.2) ++ ((wPLc G pa pp_0 pp_1 pp_2 pp_3 pp_4 pp_5 pp_6 pp_7 pp_8) ++ ((wPLc G qa qq_0 qq_1 qq_2 qq_3 qq_4 qq_5 qq_6 qq_7 qq_8))))))) H := xf_P (xf_p_5_n_01234 (wXO xa (ya 0) la (pa 0) (qa 0)) (wLO G la lo) (wSYc G ya o9.2.1 o9.2.2.1 o9.2.2.2.1 o9.2.2.2.2.1 o9.2.2.2.2.2.1 yy_5 o9.2.2.2.2.2.2.1 yy_7 o9.2.2.2.2.2.2.2) (wPLc G pa pp_0 pp_1 pp_2 pp_3 pp_4 pp_5 pp_6 pp_7 pp_8) (wPLc G qa qq_0 qq_1 qq_2 qq_3 qq_4 qq_5 qq_6 qq_7 qq_8)) hP
            have hD9 : va_D A (([] : va_W) ++ ((wXO xa (ya 0) la (pa 0) (qa 0)) ++ ((wLO G la lo) ++ ((wSYc G ya o9.2.1 o9.2.2.1 o9.2.2.2.1 o9.2.2.2.2.1 o9.2.2.2.2.2.1 yy_5 o9.2.2.2.2.2.2.1 yy_7 o9.2.2.2.2.2.2.2) ++ ((wPLc G pa pp_0 pp_1 pp_2 pp_3 pp_4 pp_5 pp_6 pp_7 pp_8) ++ ((wPLc G qa qq_0 qq_1 qq_2 qq_3 qq_4 qq_5 qq_6 qq_7 qq_8))))))) := xf_D (xf_p_5_n_01234 (wXO xa (ya 0) la (pa 0) (qa 0)) (wLO G la lo) (wSYc G ya o9.2.1 o9.2.2.1 o9.2.2.2.1 o9.2.2.2.2.1 o9.2.2.2.2.2.1 yy_5 o9.2.2.2.2.2.2.1 yy_7 o9.2.2.2.2.2.2.2) (wPLc G pa pp_0 pp_1 pp_2 pp_3 pp_4 pp_5 pp_6 pp_7 pp_8) (wPLc G qa qq_0 qq_1 qq_2 qq_3 qq_4 qq_5 qq_6 qq_7 qq_8)) hD
            refine xf_cv (va_runV (As := []) (rest := []) ⟨hx, hb, hml, hown, hts⟩ (c_X2_planAnew l G xa la ya pa qa lo (o9.2.1, o9.2.2.1, o9.2.2.2.1, o9.2.2.2.2.1, o9.2.2.2.2.2.1, yy_5, o9.2.2.2.2.2.2.1, yy_7, o9.2.2.2.2.2.2.2) (pp_0, pp_1, pp_2, pp_3, pp_4, pp_5, pp_6, pp_7, pp_8) (qq_0, qq_1, qq_2, qq_3, qq_4, qq_5, qq_6, qq_7, qq_8) o10 ho10 H.size) (cwV 0 hts gX2_aim_X2_planAnew rfl rfl rfl (by decide +kernel) ⟨(Nat.le_of_ble_eq_true rfl), (Nat.le_of_ble_eq_true rfl)⟩) (xk_preV hK hNE (xf_pr hP9) (xf_dr hD9) (ci := 2) rfl rfl) rfl rfl hl.1 rfl (lv_room (Nat.le_of_ble_eq_true rfl)) dX2_aim_121 ⟨(Nat.le_of_ble_eq_true rfl), (Nat.le_of_ble_eq_true rfl)⟩) hP9 hD9 hS hA (fun H locs hP hD hS => ?_)
            have hP : va_P G.1 vwCl ((wXO xa (ya 0) la (qa 0) (pa 0)) ++ ((wLO G la lo) ++ ((wSYc G ya o9.2.1 o9.2.2.1 o9.2.2.2.1 o9.2.2.2.2.1 o9.2.2.2.2.2.1 yy_5 o9.2.2.2.2.2.2.1 yy_7 o9.2.2.2.2.2.2.2) ++ ((wPLc G pa o10.2.1 o10.2.2.1 o10.2.2.2.1 o10.2.2.2.2.1 o10.2.2.2.2.2.1 o10.2.2.2.2.2.2.1 o10.2.2.2.2.2.2.2.1 o10.2.2.2.2.2.2.2.2.1 o10.2.2.2.2.2.2.2.2.2) ++ ((wPLc G qa o10.1.1 o10.1.2.1 o10.1.2.2.1 o10.1.2.2.2.1 o10.1.2.2.2.2.1 o10.1.2.2.2.2.2.1 o10.1.2.2.2.2.2.2.1 o10.1.2.2.2.2.2.2.2.1 o10.1.2.2.2.2.2.2.2.2)))))) H := xf_P (xf_p_5_n_01243 (wXO xa (ya 0) la (qa 0) (pa 0)) (wLO G la lo) (wSYc G ya o9.2.1 o9.2.2.1 o9.2.2.2.1 o9.2.2.2.2.1 o9.2.2.2.2.2.1 yy_5 o9.2.2.2.2.2.2.1 yy_7 o9.2.2.2.2.2.2.2) (wPLc G pa o10.2.1 o10.2.2.1 o10.2.2.2.1 o10.2.2.2.2.1 o10.2.2.2.2.2.1 o10.2.2.2.2.2.2.1 o10.2.2.2.2.2.2.2.1 o10.2.2.2.2.2.2.2.2.1 o10.2.2.2.2.2.2.2.2.2) (wPLc G qa o10.1.1 o10.1.2.1 o10.1.2.2.1 o10.1.2.2.2.1 o10.1.2.2.2.2.1 o10.1.2.2.2.2.2.1 o10.1.2.2.2.2.2.2.1 o10.1.2.2.2.2.2.2.2.1 o10.1.2.2.2.2.2.2.2.2)).symm (show va_P G.1 vwCl (([] : va_W) ++ ((wXO xa (ya 0) la (qa 0) (pa 0)) ++ ((wLO G la lo) ++ ((wSYc G ya o9.2.1 o9.2.2.1 o9.2.2.2.1 o9.2.2.2.2.1 o9.2.2.2.2.2.1 yy_5 o9.2.2.2.2.2.2.1 yy_7 o9.2.2.2.2.2.2.2) ++ ((wPLc G qa o10.1.1 o10.1.2.1 o10.1.2.2.1 o10.1.2.2.2.1 o10.1.2.2.2.2.1 o10.1.2.2.2.2.2.1 o10.1.2.2.2.2.2.2.1 o10.1.2.2.2.2.2.2.2.1 o10.1.2.2.2.2.2.2.2.2) ++ ((wPLc G pa o10.2.1 o10.2.2.1 o10.2.2.2.1 o10.2.2.2.2.1 o10.2.2.2.2.2.1 o10.2.2.2.2.2.2.1 o10.2.2.2.2.2.2.2.1 o10.2.2.2.2.2.2.2.2.1 o10.2.2.2.2.2.2.2.2.2))))))) H from hP)
            have hD : va_D A ((wXO xa (ya 0) la (qa 0) (pa 0)) ++ ((wLO G la lo) ++ ((wSYc G ya o9.2.1 o9.2.2.1 o9.2.2.2.1 o9.2.2.2.2.1 o9.2.2.2.2.2.1 yy_5 o9.2.2.2.2.2.2.1 yy_7 o9.2.2.2.2.2.2.2) ++ ((wPLc G pa o10.2.1 o10.2.2.1 o10.2.2.2.1 o10.2.2.2.2.1 o10.2.2.2.2.2.1 o10.2.2.2.2.2.2.1 o10.2.2.2.2.2.2.2.1 o10.2.2.2.2.2.2.2.2.1 o10.2.2.2.2.2.2.2.2.2) ++ ((wPLc G qa o10.1.1 o10.1.2.1 o10.1.2.2.1 o10.1.2.2.2.1 o10.1.2.2.2.2.1 o10.1.2.2.2.2.2.1 o10.1.2.2.2.2.2.2.1 o10.1.2.2.2.2.2.2.2.1 o10.1.2.2.2.2.2.2.2.2)))))) := xf_D (xf_p_5_n_01243 (wXO xa (ya 0) la (qa 0) (pa 0)) (wLO G la lo) (wSYc G ya o9.2.1 o9.2.2.1 o9.2.2.2.1 o9.2.2.2.2.1 o9.2.2.2.2.2.1 yy_5 o9.2.2.2.2.2.2.1 yy_7 o9.2.2.2.2.2.2.2) (wPLc G pa o10.2.1 o10.2.2.1 o10.2.2.2.1 o10.2.2.2.2.1 o10.2.2.2.2.2.1 o10.2.2.2.2.2.2.1 o10.2.2.2.2.2.2.2.1 o10.2.2.2.2.2.2.2.2.1 o10.2.2.2.2.2.2.2.2.2) (wPLc G qa o10.1.1 o10.1.2.1 o10.1.2.2.1 o10.1.2.2.2.1 o10.1.2.2.2.2.1 o10.1.2.2.2.2.2.1 o10.1.2.2.2.2.2.2.1 o10.1.2.2.2.2.2.2.2.1 o10.1.2.2.2.2.2.2.2.2)).symm (show va_D A (([] : va_W) ++ ((wXO xa (ya 0) la (qa 0) (pa 0)) ++ ((wLO G la lo) ++ ((wSYc G ya o9.2.1 o9.2.2.1 o9.2.2.2.1 o9.2.2.2.2.1 o9.2.2.2.2.2.1 yy_5 o9.2.2.2.2.2.2.1 yy_7 o9.2.2.2.2.2.2.2) ++ ((wPLc G qa o10.1.1 o10.1.2.1 o10.1.2.2.1 o10.1.2.2.2.1 o10.1.2.2.2.2.1 o10.1.2.2.2.2.2.1 o10.1.2.2.2.2.2.2.1 o10.1.2.2.2.2.2.2.2.1 o10.1.2.2.2.2.2.2.2.2) ++ ((wPLc G pa o10.2.1 o10.2.2.1 o10.2.2.2.1 o10.2.2.2.2.1 o10.2.2.2.2.2.1 o10.2.2.2.2.2.2.1 o10.2.2.2.2.2.2.2.1 o10.2.2.2.2.2.2.2.2.1 o10.2.2.2.2.2.2.2.2.2))))))) from hD)
            refine lv_iload hx hb dX2_aim_124 (lv_at hl 0 rfl) ?_
            obtain rfl := sp_s h
            have hP9 : va_P G.1 vwCl (((wXO xa (ya 0) la (qa 0) (pa 0)) ++ ((wLO G la lo) ++ ((wSYc G ya o9.2.1 o9.2.2.1 o9.2.2.2.1 o9.2.2.2.2.1 o9.2.2.2.2.2.1 yy_5 o9.2.2.2.2.2.2.1 yy_7 o9.2.2.2.2.2.2.2) ++ ((wPLc G qa o10.1.1 o10.1.2.1 o10.1.2.2.1 o10.1.2.2.2.1 o10.1.2.2.2.2.1 o10.1.2.2.2.2.2.1 o10.1.2.2.2.2.2.2.1 o10.1.2.2.2.2.2.2.2.1 o10.1.2.2.2.2.2.2.2.2) ++ ((wPLc G pa o10.2.1 o10.2.2.1 o10.2.2.2.1 o10.2.2.2.2.1 o10.2.2.2.2.2.1 o10.2.2.2.2.2.2.1 o10.2.2.2.2.2.2.2.1 o10.2.2.2.2.2.2.2.2.1 o10.2.2.2.2.2.2.2.2.2)))))) ++ ([] : va_W)) H := xf_P (xf_p_5_01243_n (wXO xa (ya 0) la (qa 0) (pa 0)) (wLO G la lo) (wSYc G ya o9.2.1 o9.2.2.1 o9.2.2.2.1 o9.2.2.2.2.1 o9.2.2.2.2.2.1 yy_5 o9.2.2.2.2.2.2.1 yy_7 o9.2.2.2.2.2.2.2) (wPLc G pa o10.2.1 o10.2.2.1 o10.2.2.2.1 o10.2.2.2.2.1 o10.2.2.2.2.2.1 o10.2.2.2.2.2.2.1 o10.2.2.2.2.2.2.2.1 o10.2.2.2.2.2.2.2.2.1 o10.2.2.2.2.2.2.2.2.2) (wPLc G qa o10.1.1 o10.1.2.1 o10.1.2.2.1 o10.1.2.2.2.1 o10.1.2.2.2.2.1 o10.1.2.2.2.2.2.1 o10.1.2.2.2.2.2.2.1 o10.1.2.2.2.2.2.2.2.1 o10.1.2.2.2.2.2.2.2.2)) hP
            have hD9 : va_D A (((wXO xa (ya 0) la (qa 0) (pa 0)) ++ ((wLO G la lo) ++ ((wSYc G ya o9.2.1 o9.2.2.1 o9.2.2.2.1 o9.2.2.2.2.1 o9.2.2.2.2.2.1 yy_5 o9.2.2.2.2.2.2.1 yy_7 o9.2.2.2.2.2.2.2) ++ ((wPLc G qa o10.1.1 o10.1.2.1 o10.1.2.2.1 o10.1.2.2.2.1 o10.1.2.2.2.2.1 o10.1.2.2.2.2.2.1 o10.1.2.2.2.2.2.2.1 o10.1.2.2.2.2.2.2.2.1 o10.1.2.2.2.2.2.2.2.2) ++ ((wPLc G pa o10.2.1 o10.2.2.1 o10.2.2.2.1 o10.2.2.2.2.1 o10.2.2.2.2.2.1 o10.2.2.2.2.2.2.1 o10.2.2.2.2.2.2.2.1 o10.2.2.2.2.2.2.2.2.1 o10.2.2.2.2.2.2.2.2.2)))))) ++ ([] : va_W)) := xf_D (xf_p_5_01243_n (wXO xa (ya 0) la (qa 0) (pa 0)) (wLO G la lo) (wSYc G ya o9.2.1 o9.2.2.1 o9.2.2.2.1 o9.2.2.2.2.1 o9.2.2.2.2.2.1 yy_5 o9.2.2.2.2.2.2.1 yy_7 o9.2.2.2.2.2.2.2) (wPLc G pa o10.2.1 o10.2.2.1 o10.2.2.2.1 o10.2.2.2.2.1 o10.2.2.2.2.2.1 o10.2.2.2.2.2.2.1 o10.2.2.2.2.2.2.2.1 o10.2.2.2.2.2.2.2.2.1 o10.2.2.2.2.2.2.2.2.2) (wPLc G qa o10.1.1 o10.1.2.1 o10.1.2.2.1 o10.1.2.2.2.1 o10.1.2.2.2.2.1 o10.1.2.2.2.2.2.1 o10.1.2.2.2.2.2.2.1 o10.1.2.2.2.2.2.2.2.1 o10.1.2.2.2.2.2.2.2.2)) hD
            exact xk_reI hx hb hr hlk (xf_pl hP9) (xf_dl hD9) hS rfl dX2_aim_126
          · have h := sp_f c8 h
            exact sp_n h
        · have h := sp_f c7 h
          refine lv_iload hx hb dX2_aim_64 (lv_at hl 4 rfl) ?_
          refine lv_iconst (v := (0 : Int32)) hx hb dX2_aim_66 (by decide) ?_
          refine lv_iconst (v := (2 : Int32)) hx hb dX2_aim_67 (by decide) ?_
          obtain ⟨o11, ho11, h⟩ := sp_b h
          refine xf_ci0 (va_runS (As := [.int i4, .int (0 : Int32), .int (2 : Int32)]) (rest := []) ⟨hx, hb, hml, hown, hts⟩ (c_X2_isWithin l G i4 (0 : Int32) (2 : Int32) o11 ho11 H.size) (va_cwS 3 hts gX2_aim_X2_isWithin rfl rfl rfl (by decide +kernel) ⟨(Nat.le_of_ble_eq_true rfl), (Nat.le_of_ble_eq_true rfl)⟩) (xk_preS hK hNE (xf_p0 : va_P G.1 vwCl [] H) (xf_d0 : va_D A [])) rfl rfl hl.1 rfl (lv_room (Nat.le_of_ble_eq_true rfl)) dX2_aim_68 ⟨(Nat.le_of_ble_eq_true rfl), (Nat.le_of_ble_eq_true rfl)⟩) hP hD hS hA (fun H locs hP hD hS => ?_)
          refine lv_if_ne (tgt := 84) hx hb dX2_aim_71 (by decide) (fun c12 => ?_) (fun c12 => ?_)
          · have h := sp_f c12 h
            refine lv_aload_n hx hb dX2_aim_84 rfl (lv_at hl 0 rfl) ?_
            refine va_get (D := G.1) (ci := 2) (v := .ref (ya 0)) (C := RX2) (T := TX2) (N := 4) hx hb hts hinX2 hown hK hP 0 rfl rfl 0 (by decide) (hts (.fieldLink RX2 10 "LessonWeave" "syllabus" "LLessonWeave$Syllabus;") (by decide +kernel)) (fun _ h9 => h9) rfl dX2_aim_85 ?_
            refine va_getN (D := G.1) (ci := 1) (v := .int yy_0) (C := RX1) (T := TX1) (N := 9) hx hb hts hinX1 hown hK hP 2 rfl rfl 0 (by decide) (va_Nw.use rfl hNE.1) (fun _ h9 => h9) rfl dX2_aim_88 ?_
            refine lv_bipush (v := (12 : Int32)) hx hb dX2_aim_91 (by decide) ?_
            refine lv_icmp_lt (tgt := 106) hx hb dX2_aim_93 (by decide) (fun c13 => ?_) (fun c13 => ?_)
            · have h := sp_t c13 h
              refine lv_aload_n hx hb dX2_aim_106 rfl (lv_at hl 0 rfl) ?_
              refine va_get (D := G.1) (ci := 2) (v := .ref (ya 0)) (C := RX2) (T := TX2) (N := 4) hx hb hts hinX2 hown hK hP 0 rfl rfl 0 (by decide) (hts (.fieldLink RX2 10 "LessonWeave" "syllabus" "LLessonWeave$Syllabus;") (by decide +kernel)) (fun _ h9 => h9) rfl dX2_aim_107 ?_
              refine lv_iload_n hx hb dX2_aim_110 rfl (lv_at hl 1 rfl) ?_
              refine lv_iload_n hx hb dX2_aim_111 rfl (lv_at hl 2 rfl) ?_
              refine lv_iload_n hx hb dX2_aim_112 rfl (lv_at hl 3 rfl) ?_
              refine lv_iload hx hb dX2_aim_113 (lv_at hl 4 rfl) ?_
              obtain ⟨o14, ho14, h⟩ := sp_b h
              have hP9 : va_P G.1 vwCl (((wXO xa (ya 0) la (pa 0) (qa 0)) ++ ((wLO G la lo) ++ ((wPLc G pa pp_0 pp_1 pp_2 pp_3 pp_4 pp_5 pp_6 pp_7 pp_8) ++ ((wPLc G qa qq_0 qq_1 qq_2 qq_3 qq_4 qq_5 qq_6 qq_7 qq_8))))) ++ ((wSYc G ya yy_0 yy_1 yy_2 yy_3 yy_4 yy_5 yy_6 yy_7 yy_8))) H := xf_P (xf_p_5_0134_2 (wXO xa (ya 0) la (pa 0) (qa 0)) (wLO G la lo) (wSYc G ya yy_0 yy_1 yy_2 yy_3 yy_4 yy_5 yy_6 yy_7 yy_8) (wPLc G pa pp_0 pp_1 pp_2 pp_3 pp_4 pp_5 pp_6 pp_7 pp_8) (wPLc G qa qq_0 qq_1 qq_2 qq_3 qq_4 qq_5 qq_6 qq_7 qq_8)) hP
              have hD9 : va_D A (((wXO xa (ya 0) la (pa 0) (qa 0)) ++ ((wLO G la lo) ++ ((wPLc G pa pp_0 pp_1 pp_2 pp_3 pp_4 pp_5 pp_6 pp_7 pp_8) ++ ((wPLc G qa qq_0 qq_1 qq_2 qq_3 qq_4 qq_5 qq_6 qq_7 qq_8))))) ++ ((wSYc G ya yy_0 yy_1 yy_2 yy_3 yy_4 yy_5 yy_6 yy_7 yy_8))) := xf_D (xf_p_5_0134_2 (wXO xa (ya 0) la (pa 0) (qa 0)) (wLO G la lo) (wSYc G ya yy_0 yy_1 yy_2 yy_3 yy_4 yy_5 yy_6 yy_7 yy_8) (wPLc G pa pp_0 pp_1 pp_2 pp_3 pp_4 pp_5 pp_6 pp_7 pp_8) (wPLc G qa qq_0 qq_1 qq_2 qq_3 qq_4 qq_5 qq_6 qq_7 qq_8)) hD
              refine xf_ci (va_runV (As := [.int i1, .int i2, .int i3, .int i4]) (rest := []) ⟨hx, hb, hml, hown, hts⟩ (c_X1_add l G ya (yy_0, yy_1, yy_2, yy_3, yy_4, yy_5, yy_6, yy_7, yy_8) i1 i2 i3 i4 o14 ho14 H.size) (cwV 4 hts gX2_aim_X1_add rfl rfl rfl (by decide +kernel) ⟨(Nat.le_of_ble_eq_true rfl), (Nat.le_of_ble_eq_true rfl)⟩) (xk_preV hK hNE (xf_pr hP9) (xf_dr hD9) (ci := 1) rfl rfl) rfl rfl hl.1 rfl (lv_room (Nat.le_of_ble_eq_true rfl)) dX2_aim_115 ⟨(Nat.le_of_ble_eq_true rfl), (Nat.le_of_ble_eq_true rfl)⟩) hP9 hD9 hS hA (fun H locs hP hD hS => ?_)
              have hP : va_P G.1 vwCl ((wXO xa (ya 0) la (pa 0) (qa 0)) ++ ((wLO G la lo) ++ ((wSYc G ya o14.2.1 o14.2.2.1 o14.2.2.2.1 o14.2.2.2.2.1 o14.2.2.2.2.2.1 yy_5 o14.2.2.2.2.2.2.1 yy_7 o14.2.2.2.2.2.2.2) ++ ((wPLc G pa pp_0 pp_1 pp_2 pp_3 pp_4 pp_5 pp_6 pp_7 pp_8) ++ ((wPLc G qa qq_0 qq_1 qq_2 qq_3 qq_4 qq_5 qq_6 qq_7 qq_8)))))) H := xf_P (xf_p_5_0134_2 (wXO xa (ya 0) la (pa 0) (qa 0)) (wLO G la lo) (wSYc G ya o14.2.1 o14.2.2.1 o14.2.2.2.1 o14.2.2.2.2.1 o14.2.2.2.2.2.1 yy_5 o14.2.2.2.2.2.2.1 yy_7 o14.2.2.2.2.2.2.2) (wPLc G pa pp_0 pp_1 pp_2 pp_3 pp_4 pp_5 pp_6 pp_7 pp_8) (wPLc G qa qq_0 qq_1 qq_2 qq_3 qq_4 qq_5 qq_6 qq_7 qq_8)).symm (show va_P G.1 vwCl (((wXO xa (ya 0) la (pa 0) (qa 0)) ++ ((wLO G la lo) ++ ((wPLc G pa pp_0 pp_1 pp_2 pp_3 pp_4 pp_5 pp_6 pp_7 pp_8) ++ ((wPLc G qa qq_0 qq_1 qq_2 qq_3 qq_4 qq_5 qq_6 qq_7 qq_8))))) ++ ((wSYc G ya o14.2.1 o14.2.2.1 o14.2.2.2.1 o14.2.2.2.2.1 o14.2.2.2.2.2.1 yy_5 o14.2.2.2.2.2.2.1 yy_7 o14.2.2.2.2.2.2.2))) H from hP)
              have hD : va_D A ((wXO xa (ya 0) la (pa 0) (qa 0)) ++ ((wLO G la lo) ++ ((wSYc G ya o14.2.1 o14.2.2.1 o14.2.2.2.1 o14.2.2.2.2.1 o14.2.2.2.2.2.1 yy_5 o14.2.2.2.2.2.2.1 yy_7 o14.2.2.2.2.2.2.2) ++ ((wPLc G pa pp_0 pp_1 pp_2 pp_3 pp_4 pp_5 pp_6 pp_7 pp_8) ++ ((wPLc G qa qq_0 qq_1 qq_2 qq_3 qq_4 qq_5 qq_6 qq_7 qq_8)))))) := xf_D (xf_p_5_0134_2 (wXO xa (ya 0) la (pa 0) (qa 0)) (wLO G la lo) (wSYc G ya o14.2.1 o14.2.2.1 o14.2.2.2.1 o14.2.2.2.2.1 o14.2.2.2.2.2.1 yy_5 o14.2.2.2.2.2.2.1 yy_7 o14.2.2.2.2.2.2.2) (wPLc G pa pp_0 pp_1 pp_2 pp_3 pp_4 pp_5 pp_6 pp_7 pp_8) (wPLc G qa qq_0 qq_1 qq_2 qq_3 qq_4 qq_5 qq_6 qq_7 qq_8)).symm (show va_D A (((wXO xa (ya 0) la (pa 0) (qa 0)) ++ ((wLO G la lo) ++ ((wPLc G pa pp_0 pp_1 pp_2 pp_3 pp_4 pp_5 pp_6 pp_7 pp_8) ++ ((wPLc G qa qq_0 qq_1 qq_2 qq_3 qq_4 qq_5 qq_6 qq_7 qq_8))))) ++ ((wSYc G ya o14.2.1 o14.2.2.1 o14.2.2.2.1 o14.2.2.2.2.1 o14.2.2.2.2.2.1 yy_5 o14.2.2.2.2.2.2.1 yy_7 o14.2.2.2.2.2.2.2))) from hD)
              refine lv_istore (lv' := [(5, .int o14.1), (0, .ref xa), (1, .int i1), (2, .int i2), (3, .int i3), (4, .int i4)]) hx hb dX2_aim_118 hl (by decide) rfl (fun ls hl => ?_)
              refine lv_aload_n hx hb dX2_aim_120 rfl (lv_at hl 1 rfl) ?_
              obtain ⟨o15, ho15, h⟩ := sp_b h
              have hP9 : va_P G.1 vwCl (([] : va_W) ++ ((wXO xa (ya 0) la (pa 0) (qa 0)) ++ ((wLO G la lo) ++ ((wSYc G ya o14.2.1 o14.2.2.1 o14.2.2.2.1 o14.2.2.2.2.1 o14.2.2.2.2.2.1 yy_5 o14.2.2.2.2.2.2.1 yy_7 o14.2.2.2.2.2.2.2) ++ ((wPLc G pa pp_0 pp_1 pp_2 pp_3 pp_4 pp_5 pp_6 pp_7 pp_8) ++ ((wPLc G qa qq_0 qq_1 qq_2 qq_3 qq_4 qq_5 qq_6 qq_7 qq_8))))))) H := xf_P (xf_p_5_n_01234 (wXO xa (ya 0) la (pa 0) (qa 0)) (wLO G la lo) (wSYc G ya o14.2.1 o14.2.2.1 o14.2.2.2.1 o14.2.2.2.2.1 o14.2.2.2.2.2.1 yy_5 o14.2.2.2.2.2.2.1 yy_7 o14.2.2.2.2.2.2.2) (wPLc G pa pp_0 pp_1 pp_2 pp_3 pp_4 pp_5 pp_6 pp_7 pp_8) (wPLc G qa qq_0 qq_1 qq_2 qq_3 qq_4 qq_5 qq_6 qq_7 qq_8)) hP
              have hD9 : va_D A (([] : va_W) ++ ((wXO xa (ya 0) la (pa 0) (qa 0)) ++ ((wLO G la lo) ++ ((wSYc G ya o14.2.1 o14.2.2.1 o14.2.2.2.1 o14.2.2.2.2.1 o14.2.2.2.2.2.1 yy_5 o14.2.2.2.2.2.2.1 yy_7 o14.2.2.2.2.2.2.2) ++ ((wPLc G pa pp_0 pp_1 pp_2 pp_3 pp_4 pp_5 pp_6 pp_7 pp_8) ++ ((wPLc G qa qq_0 qq_1 qq_2 qq_3 qq_4 qq_5 qq_6 qq_7 qq_8))))))) := xf_D (xf_p_5_n_01234 (wXO xa (ya 0) la (pa 0) (qa 0)) (wLO G la lo) (wSYc G ya o14.2.1 o14.2.2.1 o14.2.2.2.1 o14.2.2.2.2.1 o14.2.2.2.2.2.1 yy_5 o14.2.2.2.2.2.2.1 yy_7 o14.2.2.2.2.2.2.2) (wPLc G pa pp_0 pp_1 pp_2 pp_3 pp_4 pp_5 pp_6 pp_7 pp_8) (wPLc G qa qq_0 qq_1 qq_2 qq_3 qq_4 qq_5 qq_6 qq_7 qq_8)) hD
              refine xf_cv (va_runV (As := []) (rest := []) ⟨hx, hb, hml, hown, hts⟩ (c_X2_planAnew l G xa la ya pa qa lo (o14.2.1, o14.2.2.1, o14.2.2.2.1, o14.2.2.2.2.1, o14.2.2.2.2.2.1, yy_5, o14.2.2.2.2.2.2.1, yy_7, o14.2.2.2.2.2.2.2) (pp_0, pp_1, pp_2, pp_3, pp_4, pp_5, pp_6, pp_7, pp_8) (qq_0, qq_1, qq_2, qq_3, qq_4, qq_5, qq_6, qq_7, qq_8) o15 ho15 H.size) (cwV 0 hts gX2_aim_X2_planAnew rfl rfl rfl (by decide +kernel) ⟨(Nat.le_of_ble_eq_true rfl), (Nat.le_of_ble_eq_true rfl)⟩) (xk_preV hK hNE (xf_pr hP9) (xf_dr hD9) (ci := 2) rfl rfl) rfl rfl hl.1 rfl (lv_room (Nat.le_of_ble_eq_true rfl)) dX2_aim_121 ⟨(Nat.le_of_ble_eq_true rfl), (Nat.le_of_ble_eq_true rfl)⟩) hP9 hD9 hS hA (fun H locs hP hD hS => ?_)
              have hP : va_P G.1 vwCl ((wXO xa (ya 0) la (qa 0) (pa 0)) ++ ((wLO G la lo) ++ ((wSYc G ya o14.2.1 o14.2.2.1 o14.2.2.2.1 o14.2.2.2.2.1 o14.2.2.2.2.2.1 yy_5 o14.2.2.2.2.2.2.1 yy_7 o14.2.2.2.2.2.2.2) ++ ((wPLc G pa o15.2.1 o15.2.2.1 o15.2.2.2.1 o15.2.2.2.2.1 o15.2.2.2.2.2.1 o15.2.2.2.2.2.2.1 o15.2.2.2.2.2.2.2.1 o15.2.2.2.2.2.2.2.2.1 o15.2.2.2.2.2.2.2.2.2) ++ ((wPLc G qa o15.1.1 o15.1.2.1 o15.1.2.2.1 o15.1.2.2.2.1 o15.1.2.2.2.2.1 o15.1.2.2.2.2.2.1 o15.1.2.2.2.2.2.2.1 o15.1.2.2.2.2.2.2.2.1 o15.1.2.2.2.2.2.2.2.2)))))) H := xf_P (xf_p_5_n_01243 (wXO xa (ya 0) la (qa 0) (pa 0)) (wLO G la lo) (wSYc G ya o14.2.1 o14.2.2.1 o14.2.2.2.1 o14.2.2.2.2.1 o14.2.2.2.2.2.1 yy_5 o14.2.2.2.2.2.2.1 yy_7 o14.2.2.2.2.2.2.2) (wPLc G pa o15.2.1 o15.2.2.1 o15.2.2.2.1 o15.2.2.2.2.1 o15.2.2.2.2.2.1 o15.2.2.2.2.2.2.1 o15.2.2.2.2.2.2.2.1 o15.2.2.2.2.2.2.2.2.1 o15.2.2.2.2.2.2.2.2.2) (wPLc G qa o15.1.1 o15.1.2.1 o15.1.2.2.1 o15.1.2.2.2.1 o15.1.2.2.2.2.1 o15.1.2.2.2.2.2.1 o15.1.2.2.2.2.2.2.1 o15.1.2.2.2.2.2.2.2.1 o15.1.2.2.2.2.2.2.2.2)).symm (show va_P G.1 vwCl (([] : va_W) ++ ((wXO xa (ya 0) la (qa 0) (pa 0)) ++ ((wLO G la lo) ++ ((wSYc G ya o14.2.1 o14.2.2.1 o14.2.2.2.1 o14.2.2.2.2.1 o14.2.2.2.2.2.1 yy_5 o14.2.2.2.2.2.2.1 yy_7 o14.2.2.2.2.2.2.2) ++ ((wPLc G qa o15.1.1 o15.1.2.1 o15.1.2.2.1 o15.1.2.2.2.1 o15.1.2.2.2.2.1 o15.1.2.2.2.2.2.1 o15.1.2.2.2.2.2.2.1 o15.1.2.2.2.2.2.2.2.1 o15.1.2.2.2.2.2.2.2.2) ++ ((wPLc G pa o15.2.1 o15.2.2.1 o15.2.2.2.1 o15.2.2.2.2.1 o15.2.2.2.2.2.1 o15.2.2.2.2.2.2.1 o15.2.2.2.2.2.2.2.1 o15.2.2.2.2.2.2.2.2.1 o15.2.2.2.2.2.2.2.2.2))))))) H from hP)
              have hD : va_D A ((wXO xa (ya 0) la (qa 0) (pa 0)) ++ ((wLO G la lo) ++ ((wSYc G ya o14.2.1 o14.2.2.1 o14.2.2.2.1 o14.2.2.2.2.1 o14.2.2.2.2.2.1 yy_5 o14.2.2.2.2.2.2.1 yy_7 o14.2.2.2.2.2.2.2) ++ ((wPLc G pa o15.2.1 o15.2.2.1 o15.2.2.2.1 o15.2.2.2.2.1 o15.2.2.2.2.2.1 o15.2.2.2.2.2.2.1 o15.2.2.2.2.2.2.2.1 o15.2.2.2.2.2.2.2.2.1 o15.2.2.2.2.2.2.2.2.2) ++ ((wPLc G qa o15.1.1 o15.1.2.1 o15.1.2.2.1 o15.1.2.2.2.1 o15.1.2.2.2.2.1 o15.1.2.2.2.2.2.1 o15.1.2.2.2.2.2.2.1 o15.1.2.2.2.2.2.2.2.1 o15.1.2.2.2.2.2.2.2.2)))))) := xf_D (xf_p_5_n_01243 (wXO xa (ya 0) la (qa 0) (pa 0)) (wLO G la lo) (wSYc G ya o14.2.1 o14.2.2.1 o14.2.2.2.1 o14.2.2.2.2.1 o14.2.2.2.2.2.1 yy_5 o14.2.2.2.2.2.2.1 yy_7 o14.2.2.2.2.2.2.2) (wPLc G pa o15.2.1 o15.2.2.1 o15.2.2.2.1 o15.2.2.2.2.1 o15.2.2.2.2.2.1 o15.2.2.2.2.2.2.1 o15.2.2.2.2.2.2.2.1 o15.2.2.2.2.2.2.2.2.1 o15.2.2.2.2.2.2.2.2.2) (wPLc G qa o15.1.1 o15.1.2.1 o15.1.2.2.1 o15.1.2.2.2.1 o15.1.2.2.2.2.1 o15.1.2.2.2.2.2.1 o15.1.2.2.2.2.2.2.1 o15.1.2.2.2.2.2.2.2.1 o15.1.2.2.2.2.2.2.2.2)).symm (show va_D A (([] : va_W) ++ ((wXO xa (ya 0) la (qa 0) (pa 0)) ++ ((wLO G la lo) ++ ((wSYc G ya o14.2.1 o14.2.2.1 o14.2.2.2.1 o14.2.2.2.2.1 o14.2.2.2.2.2.1 yy_5 o14.2.2.2.2.2.2.1 yy_7 o14.2.2.2.2.2.2.2) ++ ((wPLc G qa o15.1.1 o15.1.2.1 o15.1.2.2.1 o15.1.2.2.2.1 o15.1.2.2.2.2.1 o15.1.2.2.2.2.2.1 o15.1.2.2.2.2.2.2.1 o15.1.2.2.2.2.2.2.2.1 o15.1.2.2.2.2.2.2.2.2) ++ ((wPLc G pa o15.2.1 o15.2.2.1 o15.2.2.2.1 o15.2.2.2.2.1 o15.2.2.2.2.2.1 o15.2.2.2.2.2.2.1 o15.2.2.2.2.2.2.2.1 o15.2.2.2.2.2.2.2.2.1 o15.2.2.2.2.2.2.2.2.2))))))) from hD)
              refine lv_iload hx hb dX2_aim_124 (lv_at hl 0 rfl) ?_
              obtain rfl := sp_s h
              have hP9 : va_P G.1 vwCl (((wXO xa (ya 0) la (qa 0) (pa 0)) ++ ((wLO G la lo) ++ ((wSYc G ya o14.2.1 o14.2.2.1 o14.2.2.2.1 o14.2.2.2.2.1 o14.2.2.2.2.2.1 yy_5 o14.2.2.2.2.2.2.1 yy_7 o14.2.2.2.2.2.2.2) ++ ((wPLc G qa o15.1.1 o15.1.2.1 o15.1.2.2.1 o15.1.2.2.2.1 o15.1.2.2.2.2.1 o15.1.2.2.2.2.2.1 o15.1.2.2.2.2.2.2.1 o15.1.2.2.2.2.2.2.2.1 o15.1.2.2.2.2.2.2.2.2) ++ ((wPLc G pa o15.2.1 o15.2.2.1 o15.2.2.2.1 o15.2.2.2.2.1 o15.2.2.2.2.2.1 o15.2.2.2.2.2.2.1 o15.2.2.2.2.2.2.2.1 o15.2.2.2.2.2.2.2.2.1 o15.2.2.2.2.2.2.2.2.2)))))) ++ ([] : va_W)) H := xf_P (xf_p_5_01243_n (wXO xa (ya 0) la (qa 0) (pa 0)) (wLO G la lo) (wSYc G ya o14.2.1 o14.2.2.1 o14.2.2.2.1 o14.2.2.2.2.1 o14.2.2.2.2.2.1 yy_5 o14.2.2.2.2.2.2.1 yy_7 o14.2.2.2.2.2.2.2) (wPLc G pa o15.2.1 o15.2.2.1 o15.2.2.2.1 o15.2.2.2.2.1 o15.2.2.2.2.2.1 o15.2.2.2.2.2.2.1 o15.2.2.2.2.2.2.2.1 o15.2.2.2.2.2.2.2.2.1 o15.2.2.2.2.2.2.2.2.2) (wPLc G qa o15.1.1 o15.1.2.1 o15.1.2.2.1 o15.1.2.2.2.1 o15.1.2.2.2.2.1 o15.1.2.2.2.2.2.1 o15.1.2.2.2.2.2.2.1 o15.1.2.2.2.2.2.2.2.1 o15.1.2.2.2.2.2.2.2.2)) hP
              have hD9 : va_D A (((wXO xa (ya 0) la (qa 0) (pa 0)) ++ ((wLO G la lo) ++ ((wSYc G ya o14.2.1 o14.2.2.1 o14.2.2.2.1 o14.2.2.2.2.1 o14.2.2.2.2.2.1 yy_5 o14.2.2.2.2.2.2.1 yy_7 o14.2.2.2.2.2.2.2) ++ ((wPLc G qa o15.1.1 o15.1.2.1 o15.1.2.2.1 o15.1.2.2.2.1 o15.1.2.2.2.2.1 o15.1.2.2.2.2.2.1 o15.1.2.2.2.2.2.2.1 o15.1.2.2.2.2.2.2.2.1 o15.1.2.2.2.2.2.2.2.2) ++ ((wPLc G pa o15.2.1 o15.2.2.1 o15.2.2.2.1 o15.2.2.2.2.1 o15.2.2.2.2.2.1 o15.2.2.2.2.2.2.1 o15.2.2.2.2.2.2.2.1 o15.2.2.2.2.2.2.2.2.1 o15.2.2.2.2.2.2.2.2.2)))))) ++ ([] : va_W)) := xf_D (xf_p_5_01243_n (wXO xa (ya 0) la (qa 0) (pa 0)) (wLO G la lo) (wSYc G ya o14.2.1 o14.2.2.1 o14.2.2.2.1 o14.2.2.2.2.1 o14.2.2.2.2.2.1 yy_5 o14.2.2.2.2.2.2.1 yy_7 o14.2.2.2.2.2.2.2) (wPLc G pa o15.2.1 o15.2.2.1 o15.2.2.2.1 o15.2.2.2.2.1 o15.2.2.2.2.2.1 o15.2.2.2.2.2.2.1 o15.2.2.2.2.2.2.2.1 o15.2.2.2.2.2.2.2.2.1 o15.2.2.2.2.2.2.2.2.2) (wPLc G qa o15.1.1 o15.1.2.1 o15.1.2.2.1 o15.1.2.2.2.1 o15.1.2.2.2.2.1 o15.1.2.2.2.2.2.1 o15.1.2.2.2.2.2.2.1 o15.1.2.2.2.2.2.2.2.1 o15.1.2.2.2.2.2.2.2.2)) hD
              exact xk_reI hx hb hr hlk (xf_pl hP9) (xf_dl hD9) hS rfl dX2_aim_126
            · have h := sp_f c13 h
              exact sp_n h
          · have h := sp_t c12 h
            exact sp_n h
      · have h := sp_t c6 h
        exact sp_n h
    · have h := sp_t c4 h
      exact sp_n h
  · have h := sp_t c2 h
    exact sp_n h
def f_X2_revisits (lo : xF) (yy : xSY) (pp : xPL) (qq : xPL) (i1 : Int32) (i2 : Int32) (i3 : Int32) : Option (Int32 × xF × xF × xPL × xPL) :=
  Option.bind (f_X2_isAim lo (yy.1, yy.2.1, yy.2.2.1, yy.2.2.2.1, yy.2.2.2.2.1, yy.2.2.2.2.2.1, yy.2.2.2.2.2.2.1, yy.2.2.2.2.2.2.2.1, yy.2.2.2.2.2.2.2.2) (pp.1, pp.2.1, pp.2.2.1, pp.2.2.2.1, pp.2.2.2.2.1, pp.2.2.2.2.2.1, pp.2.2.2.2.2.2.1, pp.2.2.2.2.2.2.2.1, pp.2.2.2.2.2.2.2.2) (qq.1, qq.2.1, qq.2.2.1, qq.2.2.2.1, qq.2.2.2.2.1, qq.2.2.2.2.2.1, qq.2.2.2.2.2.2.1, qq.2.2.2.2.2.2.2.1, qq.2.2.2.2.2.2.2.2) i1) fun (o1 : Int32) =>
  if o1 = 0 then
    none
  else
    Option.bind (f_X2_isWithin i2 (0 : Int32) (3 : Int32)) fun (o3 : Int32) =>
    if o3 = 0 then
      none
    else
      Option.bind (f_X2_isWithin i3 (1 : Int32) (20 : Int32)) fun (o5 : Int32) =>
      if o5 = 0 then
        none
      else
        if i1 < 0 ∨ 12 ≤ i1.toNatClampNeg then none else
        Option.bind (f_X2_planAnew lo (yy.1, yy.2.1, yy.2.2.1, yy.2.2.2.1, yy.2.2.2.2.1, (upd yy.2.2.2.2.2.1 i1.toNatClampNeg i2), (upd yy.2.2.2.2.2.2.1 i1.toNatClampNeg i3), yy.2.2.2.2.2.2.2.1, yy.2.2.2.2.2.2.2.2) (pp.1, pp.2.1, pp.2.2.1, pp.2.2.2.1, pp.2.2.2.2.1, pp.2.2.2.2.2.1, pp.2.2.2.2.2.2.1, pp.2.2.2.2.2.2.2.1, pp.2.2.2.2.2.2.2.2) (qq.1, qq.2.1, qq.2.2.1, qq.2.2.2.1, qq.2.2.2.2.1, qq.2.2.2.2.2.1, qq.2.2.2.2.2.2.1, qq.2.2.2.2.2.2.2.1, qq.2.2.2.2.2.2.2.2)) fun (o8 : xPL × xPL) =>
        some ((yy.2.2.2.2.2.1 i1.toNatClampNeg), (upd yy.2.2.2.2.2.1 i1.toNatClampNeg i2), (upd yy.2.2.2.2.2.2.1 i1.toNatClampNeg i3), o8.1, o8.2)
theorem f_X2_revisits_e (lo : xF) (yy_0 : Int32) (yy_1 : xF) (yy_2 : xF) (yy_3 : xF) (yy_4 : xF) (yy_5 : xF) (yy_6 : xF) (yy_7 : xF) (yy_8 : xF) (pp_0 : xF) (pp_1 : xF) (pp_2 : xF) (pp_3 : xF) (pp_4 : xF) (pp_5 : xF) (pp_6 : Int32) (pp_7 : Int32) (pp_8 : Int32) (qq_0 : xF) (qq_1 : xF) (qq_2 : xF) (qq_3 : xF) (qq_4 : xF) (qq_5 : xF) (qq_6 : Int32) (qq_7 : Int32) (qq_8 : Int32) (i1 : Int32) (i2 : Int32) (i3 : Int32) : f_X2_revisits lo (yy_0, yy_1, yy_2, yy_3, yy_4, yy_5, yy_6, yy_7, yy_8) (pp_0, pp_1, pp_2, pp_3, pp_4, pp_5, pp_6, pp_7, pp_8) (qq_0, qq_1, qq_2, qq_3, qq_4, qq_5, qq_6, qq_7, qq_8) i1 i2 i3 =
  Option.bind (f_X2_isAim lo (yy_0, yy_1, yy_2, yy_3, yy_4, yy_5, yy_6, yy_7, yy_8) (pp_0, pp_1, pp_2, pp_3, pp_4, pp_5, pp_6, pp_7, pp_8) (qq_0, qq_1, qq_2, qq_3, qq_4, qq_5, qq_6, qq_7, qq_8) i1) fun (o1 : Int32) =>
  if o1 = 0 then
    none
  else
    Option.bind (f_X2_isWithin i2 (0 : Int32) (3 : Int32)) fun (o3 : Int32) =>
    if o3 = 0 then
      none
    else
      Option.bind (f_X2_isWithin i3 (1 : Int32) (20 : Int32)) fun (o5 : Int32) =>
      if o5 = 0 then
        none
      else
        if i1 < 0 ∨ 12 ≤ i1.toNatClampNeg then none else
        Option.bind (f_X2_planAnew lo (yy_0, yy_1, yy_2, yy_3, yy_4, (upd yy_5 i1.toNatClampNeg i2), (upd yy_6 i1.toNatClampNeg i3), yy_7, yy_8) (pp_0, pp_1, pp_2, pp_3, pp_4, pp_5, pp_6, pp_7, pp_8) (qq_0, qq_1, qq_2, qq_3, qq_4, qq_5, qq_6, qq_7, qq_8)) fun (o8 : xPL × xPL) =>
        some ((yy_5 i1.toNatClampNeg), (upd yy_5 i1.toNatClampNeg i2), (upd yy_6 i1.toNatClampNeg i3), o8.1, o8.2) := rfl
set_option maxHeartbeats 8000000 in
set_option maxRecDepth 100000 in
theorem c_X2_revisits (l : Launch) (G : xG) (xa : Nat) (la : Nat) (ya : (Nat → Nat)) (pa : (Nat → Nat)) (qa : (Nat → Nat)) (lo : xF) (yy : xSY) (pp : xPL) (qq : xPL) (i1 : Int32) (i2 : Int32) (i3 : Int32) (o : Int32 × xF × xF × xPL × xPL) (h : f_X2_revisits lo yy pp qq i1 i2 i3 = some o) : xk_CI l yX2_revisits wsX2_revisits ({ frames := 6, cells := 0, slots := 0, locals := 139 } : Room) 0 0 [.ref xa, .int i1, .int i2, .int i3] G ((wXO xa (ya 0) la (pa 0) (qa 0)) ++ ((wLO G la lo) ++ ((wSYc G ya yy.1 yy.2.1 yy.2.2.1 yy.2.2.2.1 yy.2.2.2.2.1 yy.2.2.2.2.2.1 yy.2.2.2.2.2.2.1 yy.2.2.2.2.2.2.2.1 yy.2.2.2.2.2.2.2.2) ++ ((wPLc G pa pp.1 pp.2.1 pp.2.2.1 pp.2.2.2.1 pp.2.2.2.2.1 pp.2.2.2.2.2.1 pp.2.2.2.2.2.2.1 pp.2.2.2.2.2.2.2.1 pp.2.2.2.2.2.2.2.2) ++ ((wPLc G qa qq.1 qq.2.1 qq.2.2.1 qq.2.2.2.1 qq.2.2.2.2.1 qq.2.2.2.2.2.1 qq.2.2.2.2.2.2.1 qq.2.2.2.2.2.2.2.1 qq.2.2.2.2.2.2.2.2)))))) ((wXO xa (ya 0) la (qa 0) (pa 0)) ++ ((wLO G la lo) ++ ((wSYc G ya yy.1 yy.2.1 yy.2.2.1 yy.2.2.2.1 yy.2.2.2.2.1 o.2.1 o.2.2.1 yy.2.2.2.2.2.2.2.1 yy.2.2.2.2.2.2.2.2) ++ ((wPLc G qa o.2.2.2.1.1 o.2.2.2.1.2.1 o.2.2.2.1.2.2.1 o.2.2.2.1.2.2.2.1 o.2.2.2.1.2.2.2.2.1 o.2.2.2.1.2.2.2.2.2.1 o.2.2.2.1.2.2.2.2.2.2.1 o.2.2.2.1.2.2.2.2.2.2.2.1 o.2.2.2.1.2.2.2.2.2.2.2.2) ++ ((wPLc G pa o.2.2.2.2.1 o.2.2.2.2.2.1 o.2.2.2.2.2.2.1 o.2.2.2.2.2.2.2.1 o.2.2.2.2.2.2.2.2.1 o.2.2.2.2.2.2.2.2.2.1 o.2.2.2.2.2.2.2.2.2.2.1 o.2.2.2.2.2.2.2.2.2.2.2.1 o.2.2.2.2.2.2.2.2.2.2.2.2)))))) o.1 := by
  obtain ⟨yy_0, yy_1, yy_2, yy_3, yy_4, yy_5, yy_6, yy_7, yy_8⟩ := yy
  obtain ⟨pp_0, pp_1, pp_2, pp_3, pp_4, pp_5, pp_6, pp_7, pp_8⟩ := pp
  obtain ⟨qq_0, qq_1, qq_2, qq_3, qq_4, qq_5, qq_6, qq_7, qq_8⟩ := qq
  refine xk_CI.of (cc := cX2_revisits) (maxL := 5) (ret := (some .int)) (by decide) rfl (Nat.le_of_ble_eq_true rfl) ?_
  intro pr9 en9 s mm9 bl9 meth9 cd9 A ls H locs hx hb hr hml hts hown hlk hA hP hK hD hNE hS hl
  have hown : s.vm.findClass RX2 = some mm9.cls := hown
  have hl : lv_has ls 5 [(0, .ref xa), (1, .int i1), (2, .int i2), (3, .int i3)] := hl
  have hinX1 : ∀ w ∈ u_ws RX1 TX1 9, w ∈ wsX2_revisits := by decide +kernel
  have hinX2 : ∀ w ∈ u_ws RX2 TX2 4, w ∈ wsX2_revisits := by decide +kernel
  have hP : va_P G.1 vwCl ((wXO xa (ya 0) la (pa 0) (qa 0)) ++ ((wLO G la lo) ++ ((wSYc G ya yy_0 yy_1 yy_2 yy_3 yy_4 yy_5 yy_6 yy_7 yy_8) ++ ((wPLc G pa pp_0 pp_1 pp_2 pp_3 pp_4 pp_5 pp_6 pp_7 pp_8) ++ ((wPLc G qa qq_0 qq_1 qq_2 qq_3 qq_4 qq_5 qq_6 qq_7 qq_8)))))) H := hP
  have hD : va_D A ((wXO xa (ya 0) la (pa 0) (qa 0)) ++ ((wLO G la lo) ++ ((wSYc G ya yy_0 yy_1 yy_2 yy_3 yy_4 yy_5 yy_6 yy_7 yy_8) ++ ((wPLc G pa pp_0 pp_1 pp_2 pp_3 pp_4 pp_5 pp_6 pp_7 pp_8) ++ ((wPLc G qa qq_0 qq_1 qq_2 qq_3 qq_4 qq_5 qq_6 qq_7 qq_8)))))) := hD
  have h := (f_X2_revisits_e lo yy_0 yy_1 yy_2 yy_3 yy_4 yy_5 yy_6 yy_7 yy_8 pp_0 pp_1 pp_2 pp_3 pp_4 pp_5 pp_6 pp_7 pp_8 qq_0 qq_1 qq_2 qq_3 qq_4 qq_5 qq_6 qq_7 qq_8 i1 i2 i3).symm.trans h
  refine lv_aload_n hx hb dX2_revisits_0 rfl (lv_at hl 0 rfl) ?_
  refine lv_iload_n hx hb dX2_revisits_1 rfl (lv_at hl 1 rfl) ?_
  obtain ⟨o1, ho1, h⟩ := sp_b h
  have hP9 : va_P G.1 vwCl (([] : va_W) ++ ((wXO xa (ya 0) la (pa 0) (qa 0)) ++ ((wLO G la lo) ++ ((wSYc G ya yy_0 yy_1 yy_2 yy_3 yy_4 yy_5 yy_6 yy_7 yy_8) ++ ((wPLc G pa pp_0 pp_1 pp_2 pp_3 pp_4 pp_5 pp_6 pp_7 pp_8) ++ ((wPLc G qa qq_0 qq_1 qq_2 qq_3 qq_4 qq_5 qq_6 qq_7 qq_8))))))) H := xf_P (xf_p_5_n_01234 (wXO xa (ya 0) la (pa 0) (qa 0)) (wLO G la lo) (wSYc G ya yy_0 yy_1 yy_2 yy_3 yy_4 yy_5 yy_6 yy_7 yy_8) (wPLc G pa pp_0 pp_1 pp_2 pp_3 pp_4 pp_5 pp_6 pp_7 pp_8) (wPLc G qa qq_0 qq_1 qq_2 qq_3 qq_4 qq_5 qq_6 qq_7 qq_8)) hP
  have hD9 : va_D A (([] : va_W) ++ ((wXO xa (ya 0) la (pa 0) (qa 0)) ++ ((wLO G la lo) ++ ((wSYc G ya yy_0 yy_1 yy_2 yy_3 yy_4 yy_5 yy_6 yy_7 yy_8) ++ ((wPLc G pa pp_0 pp_1 pp_2 pp_3 pp_4 pp_5 pp_6 pp_7 pp_8) ++ ((wPLc G qa qq_0 qq_1 qq_2 qq_3 qq_4 qq_5 qq_6 qq_7 qq_8))))))) := xf_D (xf_p_5_n_01234 (wXO xa (ya 0) la (pa 0) (qa 0)) (wLO G la lo) (wSYc G ya yy_0 yy_1 yy_2 yy_3 yy_4 yy_5 yy_6 yy_7 yy_8) (wPLc G pa pp_0 pp_1 pp_2 pp_3 pp_4 pp_5 pp_6 pp_7 pp_8) (wPLc G qa qq_0 qq_1 qq_2 qq_3 qq_4 qq_5 qq_6 qq_7 qq_8)) hD
  refine xf_ci (va_runV (As := [.int i1]) (rest := []) ⟨hx, hb, hml, hown, hts⟩ (c_X2_isAim l G xa la ya pa qa lo (yy_0, yy_1, yy_2, yy_3, yy_4, yy_5, yy_6, yy_7, yy_8) (pp_0, pp_1, pp_2, pp_3, pp_4, pp_5, pp_6, pp_7, pp_8) (qq_0, qq_1, qq_2, qq_3, qq_4, qq_5, qq_6, qq_7, qq_8) i1 o1 ho1 H.size) (cwV 1 hts gX2_revisits_X2_isAim rfl rfl rfl (by decide +kernel) ⟨(Nat.le_of_ble_eq_true rfl), (Nat.le_of_ble_eq_true rfl)⟩) (xk_preV hK hNE (xf_pr hP9) (xf_dr hD9) (ci := 2) rfl rfl) rfl rfl hl.1 rfl (lv_room (Nat.le_of_ble_eq_true rfl)) dX2_revisits_2 ⟨(Nat.le_of_ble_eq_true rfl), (Nat.le_of_ble_eq_true rfl)⟩) hP9 hD9 hS hA (fun H locs hP hD hS => ?_)
  have hP : va_P G.1 vwCl ((wXO xa (ya 0) la (pa 0) (qa 0)) ++ ((wLO G la lo) ++ ((wSYc G ya yy_0 yy_1 yy_2 yy_3 yy_4 yy_5 yy_6 yy_7 yy_8) ++ ((wPLc G pa pp_0 pp_1 pp_2 pp_3 pp_4 pp_5 pp_6 pp_7 pp_8) ++ ((wPLc G qa qq_0 qq_1 qq_2 qq_3 qq_4 qq_5 qq_6 qq_7 qq_8)))))) H := xf_P (xf_p_5_n_01234 (wXO xa (ya 0) la (pa 0) (qa 0)) (wLO G la lo) (wSYc G ya yy_0 yy_1 yy_2 yy_3 yy_4 yy_5 yy_6 yy_7 yy_8) (wPLc G pa pp_0 pp_1 pp_2 pp_3 pp_4 pp_5 pp_6 pp_7 pp_8) (wPLc G qa qq_0 qq_1 qq_2 qq_3 qq_4 qq_5 qq_6 qq_7 qq_8)).symm (show va_P G.1 vwCl (([] : va_W) ++ ((wXO xa (ya 0) la (pa 0) (qa 0)) ++ ((wLO G la lo) ++ ((wSYc G ya yy_0 yy_1 yy_2 yy_3 yy_4 yy_5 yy_6 yy_7 yy_8) ++ ((wPLc G pa pp_0 pp_1 pp_2 pp_3 pp_4 pp_5 pp_6 pp_7 pp_8) ++ ((wPLc G qa qq_0 qq_1 qq_2 qq_3 qq_4 qq_5 qq_6 qq_7 qq_8))))))) H from hP)
  have hD : va_D A ((wXO xa (ya 0) la (pa 0) (qa 0)) ++ ((wLO G la lo) ++ ((wSYc G ya yy_0 yy_1 yy_2 yy_3 yy_4 yy_5 yy_6 yy_7 yy_8) ++ ((wPLc G pa pp_0 pp_1 pp_2 pp_3 pp_4 pp_5 pp_6 pp_7 pp_8) ++ ((wPLc G qa qq_0 qq_1 qq_2 qq_3 qq_4 qq_5 qq_6 qq_7 qq_8)))))) := xf_D (xf_p_5_n_01234 (wXO xa (ya 0) la (pa 0) (qa 0)) (wLO G la lo) (wSYc G ya yy_0 yy_1 yy_2 yy_3 yy_4 yy_5 yy_6 yy_7 yy_8) (wPLc G pa pp_0 pp_1 pp_2 pp_3 pp_4 pp_5 pp_6 pp_7 pp_8) (wPLc G qa qq_0 qq_1 qq_2 qq_3 qq_4 qq_5 qq_6 qq_7 qq_8)).symm (show va_D A (([] : va_W) ++ ((wXO xa (ya 0) la (pa 0) (qa 0)) ++ ((wLO G la lo) ++ ((wSYc G ya yy_0 yy_1 yy_2 yy_3 yy_4 yy_5 yy_6 yy_7 yy_8) ++ ((wPLc G pa pp_0 pp_1 pp_2 pp_3 pp_4 pp_5 pp_6 pp_7 pp_8) ++ ((wPLc G qa qq_0 qq_1 qq_2 qq_3 qq_4 qq_5 qq_6 qq_7 qq_8))))))) from hD)
  refine lv_if_ne (tgt := 18) hx hb dX2_revisits_5 (by decide) (fun c2 => ?_) (fun c2 => ?_)
  · have h := sp_f c2 h
    refine lv_iload_n hx hb dX2_revisits_18 rfl (lv_at hl 2 rfl) ?_
    refine lv_iconst (v := (0 : Int32)) hx hb dX2_revisits_19 (by decide) ?_
    refine lv_iconst (v := (3 : Int32)) hx hb dX2_revisits_20 (by decide) ?_
    obtain ⟨o3, ho3, h⟩ := sp_b h
    refine xf_ci0 (va_runS (As := [.int i2, .int (0 : Int32), .int (3 : Int32)]) (rest := []) ⟨hx, hb, hml, hown, hts⟩ (c_X2_isWithin l G i2 (0 : Int32) (3 : Int32) o3 ho3 H.size) (va_cwS 3 hts gX2_revisits_X2_isWithin rfl rfl rfl (by decide +kernel) ⟨(Nat.le_of_ble_eq_true rfl), (Nat.le_of_ble_eq_true rfl)⟩) (xk_preS hK hNE (xf_p0 : va_P G.1 vwCl [] H) (xf_d0 : va_D A [])) rfl rfl hl.1 rfl (lv_room (Nat.le_of_ble_eq_true rfl)) dX2_revisits_21 ⟨(Nat.le_of_ble_eq_true rfl), (Nat.le_of_ble_eq_true rfl)⟩) hP hD hS hA (fun H locs hP hD hS => ?_)
    refine lv_if_ne (tgt := 37) hx hb dX2_revisits_24 (by decide) (fun c4 => ?_) (fun c4 => ?_)
    · have h := sp_f c4 h
      refine lv_iload_n hx hb dX2_revisits_37 rfl (lv_at hl 3 rfl) ?_
      refine lv_iconst (v := (1 : Int32)) hx hb dX2_revisits_38 (by decide) ?_
      refine lv_bipush (v := (20 : Int32)) hx hb dX2_revisits_39 (by decide) ?_
      obtain ⟨o5, ho5, h⟩ := sp_b h
      refine xf_ci0 (va_runS (As := [.int i3, .int (1 : Int32), .int (20 : Int32)]) (rest := []) ⟨hx, hb, hml, hown, hts⟩ (c_X2_isWithin l G i3 (1 : Int32) (20 : Int32) o5 ho5 H.size) (va_cwS 3 hts gX2_revisits_X2_isWithin rfl rfl rfl (by decide +kernel) ⟨(Nat.le_of_ble_eq_true rfl), (Nat.le_of_ble_eq_true rfl)⟩) (xk_preS hK hNE (xf_p0 : va_P G.1 vwCl [] H) (xf_d0 : va_D A [])) rfl rfl hl.1 rfl (lv_room (Nat.le_of_ble_eq_true rfl)) dX2_revisits_41 ⟨(Nat.le_of_ble_eq_true rfl), (Nat.le_of_ble_eq_true rfl)⟩) hP hD hS hA (fun H locs hP hD hS => ?_)
      refine lv_if_ne (tgt := 57) hx hb dX2_revisits_44 (by decide) (fun c6 => ?_) (fun c6 => ?_)
      · have h := sp_f c6 h
        refine lv_aload_n hx hb dX2_revisits_57 rfl (lv_at hl 0 rfl) ?_
        refine va_get (D := G.1) (ci := 2) (v := .ref (ya 0)) (C := RX2) (T := TX2) (N := 4) hx hb hts hinX2 hown hK hP 0 rfl rfl 0 (by decide) (hts (.fieldLink RX2 10 "LessonWeave" "syllabus" "LLessonWeave$Syllabus;") (by decide +kernel)) (fun _ h9 => h9) rfl dX2_revisits_58 ?_
        refine va_getN (D := G.1) (ci := 1) (v := .ref (ya 5)) (C := RX1) (T := TX1) (N := 9) hx hb hts hinX1 hown hK hP 2 rfl rfl 5 (by decide) (va_Nw.use rfl hNE.2.2.2.2.2.1) (fun _ h9 => h9) rfl dX2_revisits_61 ?_
        refine lv_iload_n hx hb dX2_revisits_64 rfl (lv_at hl 1 rfl) ?_
        obtain ⟨hin7, h⟩ := sp_g h
        refine va_iald hx hb hK hP 7 0 rfl rfl hin7 dX2_revisits_65 ?_
        refine lv_istore (lv' := [(4, .int (yy_5 i1.toNatClampNeg)), (0, .ref xa), (1, .int i1), (2, .int i2), (3, .int i3)]) hx hb dX2_revisits_66 hl (by decide) rfl (fun ls hl => ?_)
        refine lv_aload_n hx hb dX2_revisits_68 rfl (lv_at hl 1 rfl) ?_
        refine va_get (D := G.1) (ci := 2) (v := .ref (ya 0)) (C := RX2) (T := TX2) (N := 4) hx hb hts hinX2 hown hK hP 0 rfl rfl 0 (by decide) (hts (.fieldLink RX2 10 "LessonWeave" "syllabus" "LLessonWeave$Syllabus;") (by decide +kernel)) (fun _ h9 => h9) rfl dX2_revisits_69 ?_
        refine va_getN (D := G.1) (ci := 1) (v := .ref (ya 5)) (C := RX1) (T := TX1) (N := 9) hx hb hts hinX1 hown hK hP 2 rfl rfl 5 (by decide) (va_Nw.use rfl hNE.2.2.2.2.2.1) (fun _ h9 => h9) rfl dX2_revisits_72 ?_
        refine lv_iload_n hx hb dX2_revisits_75 rfl (lv_at hl 2 rfl) ?_
        refine lv_iload_n hx hb dX2_revisits_76 rfl (lv_at hl 3 rfl) ?_
        refine va_iast hx hb hK hP hD hS 7 0 rfl rfl hin7 dX2_revisits_77 (fun H locs hP hD hS => ?_)
        have hP : va_P G.1 vwCl ((wXO xa (ya 0) la (pa 0) (qa 0)) ++ ((wLO G la lo) ++ ((wSYc G ya yy_0 yy_1 yy_2 yy_3 yy_4 (upd yy_5 i1.toNatClampNeg i2) yy_6 yy_7 yy_8) ++ ((wPLc G pa pp_0 pp_1 pp_2 pp_3 pp_4 pp_5 pp_6 pp_7 pp_8) ++ ((wPLc G qa qq_0 qq_1 qq_2 qq_3 qq_4 qq_5 qq_6 qq_7 qq_8)))))) H := hP
        have hD : va_D A ((wXO xa (ya 0) la (pa 0) (qa 0)) ++ ((wLO G la lo) ++ ((wSYc G ya yy_0 yy_1 yy_2 yy_3 yy_4 (upd yy_5 i1.toNatClampNeg i2) yy_6 yy_7 yy_8) ++ ((wPLc G pa pp_0 pp_1 pp_2 pp_3 pp_4 pp_5 pp_6 pp_7 pp_8) ++ ((wPLc G qa qq_0 qq_1 qq_2 qq_3 qq_4 qq_5 qq_6 qq_7 qq_8)))))) := hD
        refine lv_aload_n hx hb dX2_revisits_78 rfl (lv_at hl 1 rfl) ?_
        refine va_get (D := G.1) (ci := 2) (v := .ref (ya 0)) (C := RX2) (T := TX2) (N := 4) hx hb hts hinX2 hown hK hP 0 rfl rfl 0 (by decide) (hts (.fieldLink RX2 10 "LessonWeave" "syllabus" "LLessonWeave$Syllabus;") (by decide +kernel)) (fun _ h9 => h9) rfl dX2_revisits_79 ?_
        refine va_getN (D := G.1) (ci := 1) (v := .ref (ya 6)) (C := RX1) (T := TX1) (N := 9) hx hb hts hinX1 hown hK hP 2 rfl rfl 6 (by decide) (va_Nw.use rfl hNE.2.2.2.2.2.2.2.1) (fun _ h9 => h9) rfl dX2_revisits_82 ?_
        refine lv_iload_n hx hb dX2_revisits_85 rfl (lv_at hl 2 rfl) ?_
        refine lv_iload_n hx hb dX2_revisits_86 rfl (lv_at hl 4 rfl) ?_
        refine va_iast hx hb hK hP hD hS 8 0 rfl rfl hin7 dX2_revisits_87 (fun H locs hP hD hS => ?_)
        have hP : va_P G.1 vwCl ((wXO xa (ya 0) la (pa 0) (qa 0)) ++ ((wLO G la lo) ++ ((wSYc G ya yy_0 yy_1 yy_2 yy_3 yy_4 (upd yy_5 i1.toNatClampNeg i2) (upd yy_6 i1.toNatClampNeg i3) yy_7 yy_8) ++ ((wPLc G pa pp_0 pp_1 pp_2 pp_3 pp_4 pp_5 pp_6 pp_7 pp_8) ++ ((wPLc G qa qq_0 qq_1 qq_2 qq_3 qq_4 qq_5 qq_6 qq_7 qq_8)))))) H := hP
        have hD : va_D A ((wXO xa (ya 0) la (pa 0) (qa 0)) ++ ((wLO G la lo) ++ ((wSYc G ya yy_0 yy_1 yy_2 yy_3 yy_4 (upd yy_5 i1.toNatClampNeg i2) (upd yy_6 i1.toNatClampNeg i3) yy_7 yy_8) ++ ((wPLc G pa pp_0 pp_1 pp_2 pp_3 pp_4 pp_5 pp_6 pp_7 pp_8) ++ ((wPLc G qa qq_0 qq_1 qq_2 qq_3 qq_4 qq_5 qq_6 qq_7 qq_8)))))) := hD
        refine lv_aload_n hx hb dX2_revisits_88 rfl (lv_at hl 1 rfl) ?_
        obtain ⟨o8, ho8, h⟩ := sp_b h
        have hP9 : va_P G.1 vwCl (([] : va_W) ++ ((wXO xa (ya 0) la (pa 0) (qa 0)) ++ ((wLO G la lo) ++ ((wSYc G ya yy_0 yy_1 yy_2 yy_3 yy_4 (upd yy_5 i1.toNatClampNeg i2) (upd yy_6 i1.toNatClampNeg i3) yy_7 yy_8) ++ ((wPLc G pa pp_0 pp_1 pp_2 pp_3 pp_4 pp_5 pp_6 pp_7 pp_8) ++ ((wPLc G qa qq_0 qq_1 qq_2 qq_3 qq_4 qq_5 qq_6 qq_7 qq_8))))))) H := xf_P (xf_p_5_n_01234 (wXO xa (ya 0) la (pa 0) (qa 0)) (wLO G la lo) (wSYc G ya yy_0 yy_1 yy_2 yy_3 yy_4 (upd yy_5 i1.toNatClampNeg i2) (upd yy_6 i1.toNatClampNeg i3) yy_7 yy_8) (wPLc G pa pp_0 pp_1 pp_2 pp_3 pp_4 pp_5 pp_6 pp_7 pp_8) (wPLc G qa qq_0 qq_1 qq_2 qq_3 qq_4 qq_5 qq_6 qq_7 qq_8)) hP
        have hD9 : va_D A (([] : va_W) ++ ((wXO xa (ya 0) la (pa 0) (qa 0)) ++ ((wLO G la lo) ++ ((wSYc G ya yy_0 yy_1 yy_2 yy_3 yy_4 (upd yy_5 i1.toNatClampNeg i2) (upd yy_6 i1.toNatClampNeg i3) yy_7 yy_8) ++ ((wPLc G pa pp_0 pp_1 pp_2 pp_3 pp_4 pp_5 pp_6 pp_7 pp_8) ++ ((wPLc G qa qq_0 qq_1 qq_2 qq_3 qq_4 qq_5 qq_6 qq_7 qq_8))))))) := xf_D (xf_p_5_n_01234 (wXO xa (ya 0) la (pa 0) (qa 0)) (wLO G la lo) (wSYc G ya yy_0 yy_1 yy_2 yy_3 yy_4 (upd yy_5 i1.toNatClampNeg i2) (upd yy_6 i1.toNatClampNeg i3) yy_7 yy_8) (wPLc G pa pp_0 pp_1 pp_2 pp_3 pp_4 pp_5 pp_6 pp_7 pp_8) (wPLc G qa qq_0 qq_1 qq_2 qq_3 qq_4 qq_5 qq_6 qq_7 qq_8)) hD
        refine xf_cv (va_runV (As := []) (rest := []) ⟨hx, hb, hml, hown, hts⟩ (c_X2_planAnew l G xa la ya pa qa lo (yy_0, yy_1, yy_2, yy_3, yy_4, (upd yy_5 i1.toNatClampNeg i2), (upd yy_6 i1.toNatClampNeg i3), yy_7, yy_8) (pp_0, pp_1, pp_2, pp_3, pp_4, pp_5, pp_6, pp_7, pp_8) (qq_0, qq_1, qq_2, qq_3, qq_4, qq_5, qq_6, qq_7, qq_8) o8 ho8 H.size) (cwV 0 hts gX2_revisits_X2_planAnew rfl rfl rfl (by decide +kernel) ⟨(Nat.le_of_ble_eq_true rfl), (Nat.le_of_ble_eq_true rfl)⟩) (xk_preV hK hNE (xf_pr hP9) (xf_dr hD9) (ci := 2) rfl rfl) rfl rfl hl.1 rfl (lv_room (Nat.le_of_ble_eq_true rfl)) dX2_revisits_89 ⟨(Nat.le_of_ble_eq_true rfl), (Nat.le_of_ble_eq_true rfl)⟩) hP9 hD9 hS hA (fun H locs hP hD hS => ?_)
        have hP : va_P G.1 vwCl ((wXO xa (ya 0) la (qa 0) (pa 0)) ++ ((wLO G la lo) ++ ((wSYc G ya yy_0 yy_1 yy_2 yy_3 yy_4 (upd yy_5 i1.toNatClampNeg i2) (upd yy_6 i1.toNatClampNeg i3) yy_7 yy_8) ++ ((wPLc G pa o8.2.1 o8.2.2.1 o8.2.2.2.1 o8.2.2.2.2.1 o8.2.2.2.2.2.1 o8.2.2.2.2.2.2.1 o8.2.2.2.2.2.2.2.1 o8.2.2.2.2.2.2.2.2.1 o8.2.2.2.2.2.2.2.2.2) ++ ((wPLc G qa o8.1.1 o8.1.2.1 o8.1.2.2.1 o8.1.2.2.2.1 o8.1.2.2.2.2.1 o8.1.2.2.2.2.2.1 o8.1.2.2.2.2.2.2.1 o8.1.2.2.2.2.2.2.2.1 o8.1.2.2.2.2.2.2.2.2)))))) H := xf_P (xf_p_5_n_01243 (wXO xa (ya 0) la (qa 0) (pa 0)) (wLO G la lo) (wSYc G ya yy_0 yy_1 yy_2 yy_3 yy_4 (upd yy_5 i1.toNatClampNeg i2) (upd yy_6 i1.toNatClampNeg i3) yy_7 yy_8) (wPLc G pa o8.2.1 o8.2.2.1 o8.2.2.2.1 o8.2.2.2.2.1 o8.2.2.2.2.2.1 o8.2.2.2.2.2.2.1 o8.2.2.2.2.2.2.2.1 o8.2.2.2.2.2.2.2.2.1 o8.2.2.2.2.2.2.2.2.2) (wPLc G qa o8.1.1 o8.1.2.1 o8.1.2.2.1 o8.1.2.2.2.1 o8.1.2.2.2.2.1 o8.1.2.2.2.2.2.1 o8.1.2.2.2.2.2.2.1 o8.1.2.2.2.2.2.2.2.1 o8.1.2.2.2.2.2.2.2.2)).symm (show va_P G.1 vwCl (([] : va_W) ++ ((wXO xa (ya 0) la (qa 0) (pa 0)) ++ ((wLO G la lo) ++ ((wSYc G ya yy_0 yy_1 yy_2 yy_3 yy_4 (upd yy_5 i1.toNatClampNeg i2) (upd yy_6 i1.toNatClampNeg i3) yy_7 yy_8) ++ ((wPLc G qa o8.1.1 o8.1.2.1 o8.1.2.2.1 o8.1.2.2.2.1 o8.1.2.2.2.2.1 o8.1.2.2.2.2.2.1 o8.1.2.2.2.2.2.2.1 o8.1.2.2.2.2.2.2.2.1 o8.1.2.2.2.2.2.2.2.2) ++ ((wPLc G pa o8.2.1 o8.2.2.1 o8.2.2.2.1 o8.2.2.2.2.1 o8.2.2.2.2.2.1 o8.2.2.2.2.2.2.1 o8.2.2.2.2.2.2.2.1 o8.2.2.2.2.2.2.2.2.1 o8.2.2.2.2.2.2.2.2.2))))))) H from hP)
        have hD : va_D A ((wXO xa (ya 0) la (qa 0) (pa 0)) ++ ((wLO G la lo) ++ ((wSYc G ya yy_0 yy_1 yy_2 yy_3 yy_4 (upd yy_5 i1.toNatClampNeg i2) (upd yy_6 i1.toNatClampNeg i3) yy_7 yy_8) ++ ((wPLc G pa o8.2.1 o8.2.2.1 o8.2.2.2.1 o8.2.2.2.2.1 o8.2.2.2.2.2.1 o8.2.2.2.2.2.2.1 o8.2.2.2.2.2.2.2.1 o8.2.2.2.2.2.2.2.2.1 o8.2.2.2.2.2.2.2.2.2) ++ ((wPLc G qa o8.1.1 o8.1.2.1 o8.1.2.2.1 o8.1.2.2.2.1 o8.1.2.2.2.2.1 o8.1.2.2.2.2.2.1 o8.1.2.2.2.2.2.2.1 o8.1.2.2.2.2.2.2.2.1 o8.1.2.2.2.2.2.2.2.2)))))) := xf_D (xf_p_5_n_01243 (wXO xa (ya 0) la (qa 0) (pa 0)) (wLO G la lo) (wSYc G ya yy_0 yy_1 yy_2 yy_3 yy_4 (upd yy_5 i1.toNatClampNeg i2) (upd yy_6 i1.toNatClampNeg i3) yy_7 yy_8) (wPLc G pa o8.2.1 o8.2.2.1 o8.2.2.2.1 o8.2.2.2.2.1 o8.2.2.2.2.2.1 o8.2.2.2.2.2.2.1 o8.2.2.2.2.2.2.2.1 o8.2.2.2.2.2.2.2.2.1 o8.2.2.2.2.2.2.2.2.2) (wPLc G qa o8.1.1 o8.1.2.1 o8.1.2.2.1 o8.1.2.2.2.1 o8.1.2.2.2.2.1 o8.1.2.2.2.2.2.1 o8.1.2.2.2.2.2.2.1 o8.1.2.2.2.2.2.2.2.1 o8.1.2.2.2.2.2.2.2.2)).symm (show va_D A (([] : va_W) ++ ((wXO xa (ya 0) la (qa 0) (pa 0)) ++ ((wLO G la lo) ++ ((wSYc G ya yy_0 yy_1 yy_2 yy_3 yy_4 (upd yy_5 i1.toNatClampNeg i2) (upd yy_6 i1.toNatClampNeg i3) yy_7 yy_8) ++ ((wPLc G qa o8.1.1 o8.1.2.1 o8.1.2.2.1 o8.1.2.2.2.1 o8.1.2.2.2.2.1 o8.1.2.2.2.2.2.1 o8.1.2.2.2.2.2.2.1 o8.1.2.2.2.2.2.2.2.1 o8.1.2.2.2.2.2.2.2.2) ++ ((wPLc G pa o8.2.1 o8.2.2.1 o8.2.2.2.1 o8.2.2.2.2.1 o8.2.2.2.2.2.1 o8.2.2.2.2.2.2.1 o8.2.2.2.2.2.2.2.1 o8.2.2.2.2.2.2.2.2.1 o8.2.2.2.2.2.2.2.2.2))))))) from hD)
        refine lv_iload hx hb dX2_revisits_92 (lv_at hl 0 rfl) ?_
        obtain rfl := sp_s h
        have hP9 : va_P G.1 vwCl (((wXO xa (ya 0) la (qa 0) (pa 0)) ++ ((wLO G la lo) ++ ((wSYc G ya yy_0 yy_1 yy_2 yy_3 yy_4 (upd yy_5 i1.toNatClampNeg i2) (upd yy_6 i1.toNatClampNeg i3) yy_7 yy_8) ++ ((wPLc G qa o8.1.1 o8.1.2.1 o8.1.2.2.1 o8.1.2.2.2.1 o8.1.2.2.2.2.1 o8.1.2.2.2.2.2.1 o8.1.2.2.2.2.2.2.1 o8.1.2.2.2.2.2.2.2.1 o8.1.2.2.2.2.2.2.2.2) ++ ((wPLc G pa o8.2.1 o8.2.2.1 o8.2.2.2.1 o8.2.2.2.2.1 o8.2.2.2.2.2.1 o8.2.2.2.2.2.2.1 o8.2.2.2.2.2.2.2.1 o8.2.2.2.2.2.2.2.2.1 o8.2.2.2.2.2.2.2.2.2)))))) ++ ([] : va_W)) H := xf_P (xf_p_5_01243_n (wXO xa (ya 0) la (qa 0) (pa 0)) (wLO G la lo) (wSYc G ya yy_0 yy_1 yy_2 yy_3 yy_4 (upd yy_5 i1.toNatClampNeg i2) (upd yy_6 i1.toNatClampNeg i3) yy_7 yy_8) (wPLc G pa o8.2.1 o8.2.2.1 o8.2.2.2.1 o8.2.2.2.2.1 o8.2.2.2.2.2.1 o8.2.2.2.2.2.2.1 o8.2.2.2.2.2.2.2.1 o8.2.2.2.2.2.2.2.2.1 o8.2.2.2.2.2.2.2.2.2) (wPLc G qa o8.1.1 o8.1.2.1 o8.1.2.2.1 o8.1.2.2.2.1 o8.1.2.2.2.2.1 o8.1.2.2.2.2.2.1 o8.1.2.2.2.2.2.2.1 o8.1.2.2.2.2.2.2.2.1 o8.1.2.2.2.2.2.2.2.2)) hP
        have hD9 : va_D A (((wXO xa (ya 0) la (qa 0) (pa 0)) ++ ((wLO G la lo) ++ ((wSYc G ya yy_0 yy_1 yy_2 yy_3 yy_4 (upd yy_5 i1.toNatClampNeg i2) (upd yy_6 i1.toNatClampNeg i3) yy_7 yy_8) ++ ((wPLc G qa o8.1.1 o8.1.2.1 o8.1.2.2.1 o8.1.2.2.2.1 o8.1.2.2.2.2.1 o8.1.2.2.2.2.2.1 o8.1.2.2.2.2.2.2.1 o8.1.2.2.2.2.2.2.2.1 o8.1.2.2.2.2.2.2.2.2) ++ ((wPLc G pa o8.2.1 o8.2.2.1 o8.2.2.2.1 o8.2.2.2.2.1 o8.2.2.2.2.2.1 o8.2.2.2.2.2.2.1 o8.2.2.2.2.2.2.2.1 o8.2.2.2.2.2.2.2.2.1 o8.2.2.2.2.2.2.2.2.2)))))) ++ ([] : va_W)) := xf_D (xf_p_5_01243_n (wXO xa (ya 0) la (qa 0) (pa 0)) (wLO G la lo) (wSYc G ya yy_0 yy_1 yy_2 yy_3 yy_4 (upd yy_5 i1.toNatClampNeg i2) (upd yy_6 i1.toNatClampNeg i3) yy_7 yy_8) (wPLc G pa o8.2.1 o8.2.2.1 o8.2.2.2.1 o8.2.2.2.2.1 o8.2.2.2.2.2.1 o8.2.2.2.2.2.2.1 o8.2.2.2.2.2.2.2.1 o8.2.2.2.2.2.2.2.2.1 o8.2.2.2.2.2.2.2.2.2) (wPLc G qa o8.1.1 o8.1.2.1 o8.1.2.2.1 o8.1.2.2.2.1 o8.1.2.2.2.2.1 o8.1.2.2.2.2.2.1 o8.1.2.2.2.2.2.2.1 o8.1.2.2.2.2.2.2.2.1 o8.1.2.2.2.2.2.2.2.2)) hD
        exact xk_reI hx hb hr hlk (xf_pl hP9) (xf_dl hD9) hS rfl dX2_revisits_94
      · have h := sp_t c6 h
        exact sp_n h
    · have h := sp_t c4 h
      exact sp_n h
  · have h := sp_t c2 h
    exact sp_n h
