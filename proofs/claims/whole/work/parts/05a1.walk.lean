def f_X2_aims (lo : xF) (yy : xSY) (pp : xPL) (qq : xPL) : Option (Int32) :=
  some yy.1
theorem f_X2_aims_e (lo : xF) (yy_0 : Int32) (yy_1 : xF) (yy_2 : xF) (yy_3 : xF) (yy_4 : xF) (yy_5 : xF) (yy_6 : xF) (yy_7 : xF) (yy_8 : xF) (pp_0 : xF) (pp_1 : xF) (pp_2 : xF) (pp_3 : xF) (pp_4 : xF) (pp_5 : xF) (pp_6 : Int32) (pp_7 : Int32) (pp_8 : Int32) (qq_0 : xF) (qq_1 : xF) (qq_2 : xF) (qq_3 : xF) (qq_4 : xF) (qq_5 : xF) (qq_6 : Int32) (qq_7 : Int32) (qq_8 : Int32) : f_X2_aims lo (yy_0, yy_1, yy_2, yy_3, yy_4, yy_5, yy_6, yy_7, yy_8) (pp_0, pp_1, pp_2, pp_3, pp_4, pp_5, pp_6, pp_7, pp_8) (qq_0, qq_1, qq_2, qq_3, qq_4, qq_5, qq_6, qq_7, qq_8) =
  some yy_0 := rfl
set_option maxHeartbeats 4000000 in
set_option maxRecDepth 100000 in
theorem c_X2_aims (l : Launch) (G : xG) (xa : Nat) (la : Nat) (ya : (Nat → Nat)) (pa : (Nat → Nat)) (qa : (Nat → Nat)) (lo : xF) (yy : xSY) (pp : xPL) (qq : xPL) (o : Int32) (h : f_X2_aims lo yy pp qq = some o) : xk_CI l yX2_aims wsX2_aims ({ frames := 0, cells := 0, slots := 0, locals := 0 } : Room) 0 0 [.ref xa] G (wXO xa (ya 0) la (pa 0) (qa 0) ++ (wLO G la lo ++ (wSYc G ya yy.1 yy.2.1 yy.2.2.1 yy.2.2.2.1 yy.2.2.2.2.1 yy.2.2.2.2.2.1 yy.2.2.2.2.2.2.1 yy.2.2.2.2.2.2.2.1 yy.2.2.2.2.2.2.2.2 ++ (wPLc G pa pp.1 pp.2.1 pp.2.2.1 pp.2.2.2.1 pp.2.2.2.2.1 pp.2.2.2.2.2.1 pp.2.2.2.2.2.2.1 pp.2.2.2.2.2.2.2.1 pp.2.2.2.2.2.2.2.2 ++ (wPLc G qa qq.1 qq.2.1 qq.2.2.1 qq.2.2.2.1 qq.2.2.2.2.1 qq.2.2.2.2.2.1 qq.2.2.2.2.2.2.1 qq.2.2.2.2.2.2.2.1 qq.2.2.2.2.2.2.2.2))))) (wXO xa (ya 0) la (pa 0) (qa 0) ++ (wLO G la lo ++ (wSYc G ya yy.1 yy.2.1 yy.2.2.1 yy.2.2.2.1 yy.2.2.2.2.1 yy.2.2.2.2.2.1 yy.2.2.2.2.2.2.1 yy.2.2.2.2.2.2.2.1 yy.2.2.2.2.2.2.2.2 ++ (wPLc G pa pp.1 pp.2.1 pp.2.2.1 pp.2.2.2.1 pp.2.2.2.2.1 pp.2.2.2.2.2.1 pp.2.2.2.2.2.2.1 pp.2.2.2.2.2.2.2.1 pp.2.2.2.2.2.2.2.2 ++ (wPLc G qa qq.1 qq.2.1 qq.2.2.1 qq.2.2.2.1 qq.2.2.2.2.1 qq.2.2.2.2.2.1 qq.2.2.2.2.2.2.1 qq.2.2.2.2.2.2.2.1 qq.2.2.2.2.2.2.2.2))))) o := by
  obtain ⟨yy_0, yy_1, yy_2, yy_3, yy_4, yy_5, yy_6, yy_7, yy_8⟩ := yy
  obtain ⟨pp_0, pp_1, pp_2, pp_3, pp_4, pp_5, pp_6, pp_7, pp_8⟩ := pp
  obtain ⟨qq_0, qq_1, qq_2, qq_3, qq_4, qq_5, qq_6, qq_7, qq_8⟩ := qq
  refine xk_CI.of (cc := cX2_aims) (maxL := 1) (ret := (some .int)) (by decide) rfl (Nat.le_of_ble_eq_true rfl) ?_
  intro pr9 en9 s mm9 bl9 meth9 cd9 A ls H locs hx hb hr hml hts hown hlk hA hP hK hD hNE hS hl
  have hown : s.vm.findClass RX2 = some mm9.cls := hown
  have hl : lv_has ls 1 [(0, .ref xa)] := hl
  have hinX1 : ∀ w ∈ u_ws RX1 TX1 9, w ∈ wsX2_aims := by decide +kernel
  have hinX2 : ∀ w ∈ u_ws RX2 TX2 4, w ∈ wsX2_aims := by decide +kernel
  have hP : va_P G.1 vwCl (wXO xa (ya 0) la (pa 0) (qa 0) ++ (wLO G la lo ++ (wSYc G ya yy_0 yy_1 yy_2 yy_3 yy_4 yy_5 yy_6 yy_7 yy_8 ++ (wPLc G pa pp_0 pp_1 pp_2 pp_3 pp_4 pp_5 pp_6 pp_7 pp_8 ++ (wPLc G qa qq_0 qq_1 qq_2 qq_3 qq_4 qq_5 qq_6 qq_7 qq_8))))) H := hP
  have hD : va_D A (wXO xa (ya 0) la (pa 0) (qa 0) ++ (wLO G la lo ++ (wSYc G ya yy_0 yy_1 yy_2 yy_3 yy_4 yy_5 yy_6 yy_7 yy_8 ++ (wPLc G pa pp_0 pp_1 pp_2 pp_3 pp_4 pp_5 pp_6 pp_7 pp_8 ++ (wPLc G qa qq_0 qq_1 qq_2 qq_3 qq_4 qq_5 qq_6 qq_7 qq_8))))) := hD
  have h := (f_X2_aims_e lo yy_0 yy_1 yy_2 yy_3 yy_4 yy_5 yy_6 yy_7 yy_8 pp_0 pp_1 pp_2 pp_3 pp_4 pp_5 pp_6 pp_7 pp_8 qq_0 qq_1 qq_2 qq_3 qq_4 qq_5 qq_6 qq_7 qq_8).symm.trans h
  refine lv_aload_n hx hb dX2_aims_0 rfl (lv_at hl 0 rfl) ?_
  refine va_get (D := G.1) (ci := 2) (v := .ref (ya 0)) (C := RX2) (T := TX2) (N := 4) hx hb hts hinX2 hown hK hP 0 rfl rfl 0 (by decide) (hts (.fieldLink RX2 10 "LessonWeave" "syllabus" "LLessonWeave$Syllabus;") (by decide +kernel)) (fun _ h9 => h9) rfl dX2_aims_1 ?_
  refine va_getN (D := G.1) (ci := 1) (v := .int yy_0) (C := RX1) (T := TX1) (N := 9) hx hb hts hinX1 hown hK hP 2 rfl rfl 0 (by decide) (va_Nw.use rfl hNE.1) (fun _ h9 => h9) rfl dX2_aims_4 ?_
  obtain rfl := sp_s h
  exact xk_reI hx hb hr hlk hP hD hS rfl dX2_aims_7
def f_X2_laid (lo : xF) (yy : xSY) (pp : xPL) (qq : xPL) : Option (Int32) :=
  some pp.2.2.2.2.2.2.1
theorem f_X2_laid_e (lo : xF) (yy_0 : Int32) (yy_1 : xF) (yy_2 : xF) (yy_3 : xF) (yy_4 : xF) (yy_5 : xF) (yy_6 : xF) (yy_7 : xF) (yy_8 : xF) (pp_0 : xF) (pp_1 : xF) (pp_2 : xF) (pp_3 : xF) (pp_4 : xF) (pp_5 : xF) (pp_6 : Int32) (pp_7 : Int32) (pp_8 : Int32) (qq_0 : xF) (qq_1 : xF) (qq_2 : xF) (qq_3 : xF) (qq_4 : xF) (qq_5 : xF) (qq_6 : Int32) (qq_7 : Int32) (qq_8 : Int32) : f_X2_laid lo (yy_0, yy_1, yy_2, yy_3, yy_4, yy_5, yy_6, yy_7, yy_8) (pp_0, pp_1, pp_2, pp_3, pp_4, pp_5, pp_6, pp_7, pp_8) (qq_0, qq_1, qq_2, qq_3, qq_4, qq_5, qq_6, qq_7, qq_8) =
  some pp_6 := rfl
set_option maxHeartbeats 4000000 in
set_option maxRecDepth 100000 in
theorem c_X2_laid (l : Launch) (G : xG) (xa : Nat) (la : Nat) (ya : (Nat → Nat)) (pa : (Nat → Nat)) (qa : (Nat → Nat)) (lo : xF) (yy : xSY) (pp : xPL) (qq : xPL) (o : Int32) (h : f_X2_laid lo yy pp qq = some o) : xk_CI l yX2_laid wsX2_laid ({ frames := 0, cells := 0, slots := 0, locals := 0 } : Room) 0 0 [.ref xa] G (wXO xa (ya 0) la (pa 0) (qa 0) ++ (wLO G la lo ++ (wSYc G ya yy.1 yy.2.1 yy.2.2.1 yy.2.2.2.1 yy.2.2.2.2.1 yy.2.2.2.2.2.1 yy.2.2.2.2.2.2.1 yy.2.2.2.2.2.2.2.1 yy.2.2.2.2.2.2.2.2 ++ (wPLc G pa pp.1 pp.2.1 pp.2.2.1 pp.2.2.2.1 pp.2.2.2.2.1 pp.2.2.2.2.2.1 pp.2.2.2.2.2.2.1 pp.2.2.2.2.2.2.2.1 pp.2.2.2.2.2.2.2.2 ++ (wPLc G qa qq.1 qq.2.1 qq.2.2.1 qq.2.2.2.1 qq.2.2.2.2.1 qq.2.2.2.2.2.1 qq.2.2.2.2.2.2.1 qq.2.2.2.2.2.2.2.1 qq.2.2.2.2.2.2.2.2))))) (wXO xa (ya 0) la (pa 0) (qa 0) ++ (wLO G la lo ++ (wSYc G ya yy.1 yy.2.1 yy.2.2.1 yy.2.2.2.1 yy.2.2.2.2.1 yy.2.2.2.2.2.1 yy.2.2.2.2.2.2.1 yy.2.2.2.2.2.2.2.1 yy.2.2.2.2.2.2.2.2 ++ (wPLc G pa pp.1 pp.2.1 pp.2.2.1 pp.2.2.2.1 pp.2.2.2.2.1 pp.2.2.2.2.2.1 pp.2.2.2.2.2.2.1 pp.2.2.2.2.2.2.2.1 pp.2.2.2.2.2.2.2.2 ++ (wPLc G qa qq.1 qq.2.1 qq.2.2.1 qq.2.2.2.1 qq.2.2.2.2.1 qq.2.2.2.2.2.1 qq.2.2.2.2.2.2.1 qq.2.2.2.2.2.2.2.1 qq.2.2.2.2.2.2.2.2))))) o := by
  obtain ⟨yy_0, yy_1, yy_2, yy_3, yy_4, yy_5, yy_6, yy_7, yy_8⟩ := yy
  obtain ⟨pp_0, pp_1, pp_2, pp_3, pp_4, pp_5, pp_6, pp_7, pp_8⟩ := pp
  obtain ⟨qq_0, qq_1, qq_2, qq_3, qq_4, qq_5, qq_6, qq_7, qq_8⟩ := qq
  refine xk_CI.of (cc := cX2_laid) (maxL := 1) (ret := (some .int)) (by decide) rfl (Nat.le_of_ble_eq_true rfl) ?_
  intro pr9 en9 s mm9 bl9 meth9 cd9 A ls H locs hx hb hr hml hts hown hlk hA hP hK hD hNE hS hl
  have hown : s.vm.findClass RX2 = some mm9.cls := hown
  have hl : lv_has ls 1 [(0, .ref xa)] := hl
  have hinX0 : ∀ w ∈ u_ws RX0 TX0 9, w ∈ wsX2_laid := by decide +kernel
  have hinX2 : ∀ w ∈ u_ws RX2 TX2 4, w ∈ wsX2_laid := by decide +kernel
  have hP : va_P G.1 vwCl (wXO xa (ya 0) la (pa 0) (qa 0) ++ (wLO G la lo ++ (wSYc G ya yy_0 yy_1 yy_2 yy_3 yy_4 yy_5 yy_6 yy_7 yy_8 ++ (wPLc G pa pp_0 pp_1 pp_2 pp_3 pp_4 pp_5 pp_6 pp_7 pp_8 ++ (wPLc G qa qq_0 qq_1 qq_2 qq_3 qq_4 qq_5 qq_6 qq_7 qq_8))))) H := hP
  have hD : va_D A (wXO xa (ya 0) la (pa 0) (qa 0) ++ (wLO G la lo ++ (wSYc G ya yy_0 yy_1 yy_2 yy_3 yy_4 yy_5 yy_6 yy_7 yy_8 ++ (wPLc G pa pp_0 pp_1 pp_2 pp_3 pp_4 pp_5 pp_6 pp_7 pp_8 ++ (wPLc G qa qq_0 qq_1 qq_2 qq_3 qq_4 qq_5 qq_6 qq_7 qq_8))))) := hD
  have h := (f_X2_laid_e lo yy_0 yy_1 yy_2 yy_3 yy_4 yy_5 yy_6 yy_7 yy_8 pp_0 pp_1 pp_2 pp_3 pp_4 pp_5 pp_6 pp_7 pp_8 qq_0 qq_1 qq_2 qq_3 qq_4 qq_5 qq_6 qq_7 qq_8).symm.trans h
  refine lv_aload_n hx hb dX2_laid_0 rfl (lv_at hl 0 rfl) ?_
  refine va_get (D := G.1) (ci := 2) (v := .ref (pa 0)) (C := RX2) (T := TX2) (N := 4) hx hb hts hinX2 hown hK hP 0 rfl rfl 2 (by decide) (hts (.fieldLink RX2 23 "LessonWeave" "plan" "LLessonWeave$Plan;") (by decide +kernel)) (fun _ h9 => h9) rfl dX2_laid_1 ?_
  refine va_getN (D := G.1) (ci := 0) (v := .int pp_6) (C := RX0) (T := TX0) (N := 9) hx hb hts hinX0 hown hK hP 11 rfl rfl 6 (by decide) (va_Nw.use rfl hNE.2.2.2.2.2.2.2.2.2.2.2.2.2.2.2.1) (fun _ h9 => h9) rfl dX2_laid_4 ?_
  obtain rfl := sp_s h
  exact xk_reI hx hb hr hlk hP hD hS rfl dX2_laid_7
def f_X2_late (lo : xF) (yy : xSY) (pp : xPL) (qq : xPL) : Option (Int32) :=
  some pp.2.2.2.2.2.2.2.1
theorem f_X2_late_e (lo : xF) (yy_0 : Int32) (yy_1 : xF) (yy_2 : xF) (yy_3 : xF) (yy_4 : xF) (yy_5 : xF) (yy_6 : xF) (yy_7 : xF) (yy_8 : xF) (pp_0 : xF) (pp_1 : xF) (pp_2 : xF) (pp_3 : xF) (pp_4 : xF) (pp_5 : xF) (pp_6 : Int32) (pp_7 : Int32) (pp_8 : Int32) (qq_0 : xF) (qq_1 : xF) (qq_2 : xF) (qq_3 : xF) (qq_4 : xF) (qq_5 : xF) (qq_6 : Int32) (qq_7 : Int32) (qq_8 : Int32) : f_X2_late lo (yy_0, yy_1, yy_2, yy_3, yy_4, yy_5, yy_6, yy_7, yy_8) (pp_0, pp_1, pp_2, pp_3, pp_4, pp_5, pp_6, pp_7, pp_8) (qq_0, qq_1, qq_2, qq_3, qq_4, qq_5, qq_6, qq_7, qq_8) =
  some pp_7 := rfl
set_option maxHeartbeats 4000000 in
set_option maxRecDepth 100000 in
theorem c_X2_late (l : Launch) (G : xG) (xa : Nat) (la : Nat) (ya : (Nat → Nat)) (pa : (Nat → Nat)) (qa : (Nat → Nat)) (lo : xF) (yy : xSY) (pp : xPL) (qq : xPL) (o : Int32) (h : f_X2_late lo yy pp qq = some o) : xk_CI l yX2_late wsX2_late ({ frames := 0, cells := 0, slots := 0, locals := 0 } : Room) 0 0 [.ref xa] G (wXO xa (ya 0) la (pa 0) (qa 0) ++ (wLO G la lo ++ (wSYc G ya yy.1 yy.2.1 yy.2.2.1 yy.2.2.2.1 yy.2.2.2.2.1 yy.2.2.2.2.2.1 yy.2.2.2.2.2.2.1 yy.2.2.2.2.2.2.2.1 yy.2.2.2.2.2.2.2.2 ++ (wPLc G pa pp.1 pp.2.1 pp.2.2.1 pp.2.2.2.1 pp.2.2.2.2.1 pp.2.2.2.2.2.1 pp.2.2.2.2.2.2.1 pp.2.2.2.2.2.2.2.1 pp.2.2.2.2.2.2.2.2 ++ (wPLc G qa qq.1 qq.2.1 qq.2.2.1 qq.2.2.2.1 qq.2.2.2.2.1 qq.2.2.2.2.2.1 qq.2.2.2.2.2.2.1 qq.2.2.2.2.2.2.2.1 qq.2.2.2.2.2.2.2.2))))) (wXO xa (ya 0) la (pa 0) (qa 0) ++ (wLO G la lo ++ (wSYc G ya yy.1 yy.2.1 yy.2.2.1 yy.2.2.2.1 yy.2.2.2.2.1 yy.2.2.2.2.2.1 yy.2.2.2.2.2.2.1 yy.2.2.2.2.2.2.2.1 yy.2.2.2.2.2.2.2.2 ++ (wPLc G pa pp.1 pp.2.1 pp.2.2.1 pp.2.2.2.1 pp.2.2.2.2.1 pp.2.2.2.2.2.1 pp.2.2.2.2.2.2.1 pp.2.2.2.2.2.2.2.1 pp.2.2.2.2.2.2.2.2 ++ (wPLc G qa qq.1 qq.2.1 qq.2.2.1 qq.2.2.2.1 qq.2.2.2.2.1 qq.2.2.2.2.2.1 qq.2.2.2.2.2.2.1 qq.2.2.2.2.2.2.2.1 qq.2.2.2.2.2.2.2.2))))) o := by
  obtain ⟨yy_0, yy_1, yy_2, yy_3, yy_4, yy_5, yy_6, yy_7, yy_8⟩ := yy
  obtain ⟨pp_0, pp_1, pp_2, pp_3, pp_4, pp_5, pp_6, pp_7, pp_8⟩ := pp
  obtain ⟨qq_0, qq_1, qq_2, qq_3, qq_4, qq_5, qq_6, qq_7, qq_8⟩ := qq
  refine xk_CI.of (cc := cX2_late) (maxL := 1) (ret := (some .int)) (by decide) rfl (Nat.le_of_ble_eq_true rfl) ?_
  intro pr9 en9 s mm9 bl9 meth9 cd9 A ls H locs hx hb hr hml hts hown hlk hA hP hK hD hNE hS hl
  have hown : s.vm.findClass RX2 = some mm9.cls := hown
  have hl : lv_has ls 1 [(0, .ref xa)] := hl
  have hinX0 : ∀ w ∈ u_ws RX0 TX0 9, w ∈ wsX2_late := by decide +kernel
  have hinX2 : ∀ w ∈ u_ws RX2 TX2 4, w ∈ wsX2_late := by decide +kernel
  have hP : va_P G.1 vwCl (wXO xa (ya 0) la (pa 0) (qa 0) ++ (wLO G la lo ++ (wSYc G ya yy_0 yy_1 yy_2 yy_3 yy_4 yy_5 yy_6 yy_7 yy_8 ++ (wPLc G pa pp_0 pp_1 pp_2 pp_3 pp_4 pp_5 pp_6 pp_7 pp_8 ++ (wPLc G qa qq_0 qq_1 qq_2 qq_3 qq_4 qq_5 qq_6 qq_7 qq_8))))) H := hP
  have hD : va_D A (wXO xa (ya 0) la (pa 0) (qa 0) ++ (wLO G la lo ++ (wSYc G ya yy_0 yy_1 yy_2 yy_3 yy_4 yy_5 yy_6 yy_7 yy_8 ++ (wPLc G pa pp_0 pp_1 pp_2 pp_3 pp_4 pp_5 pp_6 pp_7 pp_8 ++ (wPLc G qa qq_0 qq_1 qq_2 qq_3 qq_4 qq_5 qq_6 qq_7 qq_8))))) := hD
  have h := (f_X2_late_e lo yy_0 yy_1 yy_2 yy_3 yy_4 yy_5 yy_6 yy_7 yy_8 pp_0 pp_1 pp_2 pp_3 pp_4 pp_5 pp_6 pp_7 pp_8 qq_0 qq_1 qq_2 qq_3 qq_4 qq_5 qq_6 qq_7 qq_8).symm.trans h
  refine lv_aload_n hx hb dX2_late_0 rfl (lv_at hl 0 rfl) ?_
  refine va_get (D := G.1) (ci := 2) (v := .ref (pa 0)) (C := RX2) (T := TX2) (N := 4) hx hb hts hinX2 hown hK hP 0 rfl rfl 2 (by decide) (hts (.fieldLink RX2 23 "LessonWeave" "plan" "LLessonWeave$Plan;") (by decide +kernel)) (fun _ h9 => h9) rfl dX2_late_1 ?_
  refine va_getN (D := G.1) (ci := 0) (v := .int pp_7) (C := RX0) (T := TX0) (N := 9) hx hb hts hinX0 hown hK hP 11 rfl rfl 7 (by decide) (va_Nw.use rfl hNE.2.2.2.2.2.2.2.2.2.2.2.2.2.2.2.2.1) (fun _ h9 => h9) rfl dX2_late_4 ?_
  obtain rfl := sp_s h
  exact xk_reI hx hb hr hlk hP hD hS rfl dX2_late_7
def f_X2_lastDay (lo : xF) (yy : xSY) (pp : xPL) (qq : xPL) : Option (Int32) :=
  some pp.2.2.2.2.2.2.2.2
theorem f_X2_lastDay_e (lo : xF) (yy_0 : Int32) (yy_1 : xF) (yy_2 : xF) (yy_3 : xF) (yy_4 : xF) (yy_5 : xF) (yy_6 : xF) (yy_7 : xF) (yy_8 : xF) (pp_0 : xF) (pp_1 : xF) (pp_2 : xF) (pp_3 : xF) (pp_4 : xF) (pp_5 : xF) (pp_6 : Int32) (pp_7 : Int32) (pp_8 : Int32) (qq_0 : xF) (qq_1 : xF) (qq_2 : xF) (qq_3 : xF) (qq_4 : xF) (qq_5 : xF) (qq_6 : Int32) (qq_7 : Int32) (qq_8 : Int32) : f_X2_lastDay lo (yy_0, yy_1, yy_2, yy_3, yy_4, yy_5, yy_6, yy_7, yy_8) (pp_0, pp_1, pp_2, pp_3, pp_4, pp_5, pp_6, pp_7, pp_8) (qq_0, qq_1, qq_2, qq_3, qq_4, qq_5, qq_6, qq_7, qq_8) =
  some pp_8 := rfl
set_option maxHeartbeats 4000000 in
set_option maxRecDepth 100000 in
theorem c_X2_lastDay (l : Launch) (G : xG) (xa : Nat) (la : Nat) (ya : (Nat → Nat)) (pa : (Nat → Nat)) (qa : (Nat → Nat)) (lo : xF) (yy : xSY) (pp : xPL) (qq : xPL) (o : Int32) (h : f_X2_lastDay lo yy pp qq = some o) : xk_CI l yX2_lastDay wsX2_lastDay ({ frames := 0, cells := 0, slots := 0, locals := 0 } : Room) 0 0 [.ref xa] G (wXO xa (ya 0) la (pa 0) (qa 0) ++ (wLO G la lo ++ (wSYc G ya yy.1 yy.2.1 yy.2.2.1 yy.2.2.2.1 yy.2.2.2.2.1 yy.2.2.2.2.2.1 yy.2.2.2.2.2.2.1 yy.2.2.2.2.2.2.2.1 yy.2.2.2.2.2.2.2.2 ++ (wPLc G pa pp.1 pp.2.1 pp.2.2.1 pp.2.2.2.1 pp.2.2.2.2.1 pp.2.2.2.2.2.1 pp.2.2.2.2.2.2.1 pp.2.2.2.2.2.2.2.1 pp.2.2.2.2.2.2.2.2 ++ (wPLc G qa qq.1 qq.2.1 qq.2.2.1 qq.2.2.2.1 qq.2.2.2.2.1 qq.2.2.2.2.2.1 qq.2.2.2.2.2.2.1 qq.2.2.2.2.2.2.2.1 qq.2.2.2.2.2.2.2.2))))) (wXO xa (ya 0) la (pa 0) (qa 0) ++ (wLO G la lo ++ (wSYc G ya yy.1 yy.2.1 yy.2.2.1 yy.2.2.2.1 yy.2.2.2.2.1 yy.2.2.2.2.2.1 yy.2.2.2.2.2.2.1 yy.2.2.2.2.2.2.2.1 yy.2.2.2.2.2.2.2.2 ++ (wPLc G pa pp.1 pp.2.1 pp.2.2.1 pp.2.2.2.1 pp.2.2.2.2.1 pp.2.2.2.2.2.1 pp.2.2.2.2.2.2.1 pp.2.2.2.2.2.2.2.1 pp.2.2.2.2.2.2.2.2 ++ (wPLc G qa qq.1 qq.2.1 qq.2.2.1 qq.2.2.2.1 qq.2.2.2.2.1 qq.2.2.2.2.2.1 qq.2.2.2.2.2.2.1 qq.2.2.2.2.2.2.2.1 qq.2.2.2.2.2.2.2.2))))) o := by
  obtain ⟨yy_0, yy_1, yy_2, yy_3, yy_4, yy_5, yy_6, yy_7, yy_8⟩ := yy
  obtain ⟨pp_0, pp_1, pp_2, pp_3, pp_4, pp_5, pp_6, pp_7, pp_8⟩ := pp
  obtain ⟨qq_0, qq_1, qq_2, qq_3, qq_4, qq_5, qq_6, qq_7, qq_8⟩ := qq
  refine xk_CI.of (cc := cX2_lastDay) (maxL := 1) (ret := (some .int)) (by decide) rfl (Nat.le_of_ble_eq_true rfl) ?_
  intro pr9 en9 s mm9 bl9 meth9 cd9 A ls H locs hx hb hr hml hts hown hlk hA hP hK hD hNE hS hl
  have hown : s.vm.findClass RX2 = some mm9.cls := hown
  have hl : lv_has ls 1 [(0, .ref xa)] := hl
  have hinX0 : ∀ w ∈ u_ws RX0 TX0 9, w ∈ wsX2_lastDay := by decide +kernel
  have hinX2 : ∀ w ∈ u_ws RX2 TX2 4, w ∈ wsX2_lastDay := by decide +kernel
  have hP : va_P G.1 vwCl (wXO xa (ya 0) la (pa 0) (qa 0) ++ (wLO G la lo ++ (wSYc G ya yy_0 yy_1 yy_2 yy_3 yy_4 yy_5 yy_6 yy_7 yy_8 ++ (wPLc G pa pp_0 pp_1 pp_2 pp_3 pp_4 pp_5 pp_6 pp_7 pp_8 ++ (wPLc G qa qq_0 qq_1 qq_2 qq_3 qq_4 qq_5 qq_6 qq_7 qq_8))))) H := hP
  have hD : va_D A (wXO xa (ya 0) la (pa 0) (qa 0) ++ (wLO G la lo ++ (wSYc G ya yy_0 yy_1 yy_2 yy_3 yy_4 yy_5 yy_6 yy_7 yy_8 ++ (wPLc G pa pp_0 pp_1 pp_2 pp_3 pp_4 pp_5 pp_6 pp_7 pp_8 ++ (wPLc G qa qq_0 qq_1 qq_2 qq_3 qq_4 qq_5 qq_6 qq_7 qq_8))))) := hD
  have h := (f_X2_lastDay_e lo yy_0 yy_1 yy_2 yy_3 yy_4 yy_5 yy_6 yy_7 yy_8 pp_0 pp_1 pp_2 pp_3 pp_4 pp_5 pp_6 pp_7 pp_8 qq_0 qq_1 qq_2 qq_3 qq_4 qq_5 qq_6 qq_7 qq_8).symm.trans h
  refine lv_aload_n hx hb dX2_lastDay_0 rfl (lv_at hl 0 rfl) ?_
  refine va_get (D := G.1) (ci := 2) (v := .ref (pa 0)) (C := RX2) (T := TX2) (N := 4) hx hb hts hinX2 hown hK hP 0 rfl rfl 2 (by decide) (hts (.fieldLink RX2 23 "LessonWeave" "plan" "LLessonWeave$Plan;") (by decide +kernel)) (fun _ h9 => h9) rfl dX2_lastDay_1 ?_
  refine va_getN (D := G.1) (ci := 0) (v := .int pp_8) (C := RX0) (T := TX0) (N := 9) hx hb hts hinX0 hown hK hP 11 rfl rfl 8 (by decide) (va_Nw.use rfl hNE.2.2.2.2.2.2.2.2.2.2.2.2.2.2.2.2.2.1) (fun _ h9 => h9) rfl dX2_lastDay_4 ?_
  obtain rfl := sp_s h
  exact xk_reI hx hb hr hlk hP hD hS rfl dX2_lastDay_7
def f_X2_closedSets (lo : xF) (yy : xSY) (pp : xPL) (qq : xPL) : Option (Int32) :=
  Option.bind (f_X1_countClosed (yy.1, yy.2.1, yy.2.2.1, yy.2.2.2.1, yy.2.2.2.2.1, yy.2.2.2.2.2.1, yy.2.2.2.2.2.2.1, yy.2.2.2.2.2.2.2.1, yy.2.2.2.2.2.2.2.2)) fun (o1 : Int32) =>
  some o1
theorem f_X2_closedSets_e (lo : xF) (yy_0 : Int32) (yy_1 : xF) (yy_2 : xF) (yy_3 : xF) (yy_4 : xF) (yy_5 : xF) (yy_6 : xF) (yy_7 : xF) (yy_8 : xF) (pp_0 : xF) (pp_1 : xF) (pp_2 : xF) (pp_3 : xF) (pp_4 : xF) (pp_5 : xF) (pp_6 : Int32) (pp_7 : Int32) (pp_8 : Int32) (qq_0 : xF) (qq_1 : xF) (qq_2 : xF) (qq_3 : xF) (qq_4 : xF) (qq_5 : xF) (qq_6 : Int32) (qq_7 : Int32) (qq_8 : Int32) : f_X2_closedSets lo (yy_0, yy_1, yy_2, yy_3, yy_4, yy_5, yy_6, yy_7, yy_8) (pp_0, pp_1, pp_2, pp_3, pp_4, pp_5, pp_6, pp_7, pp_8) (qq_0, qq_1, qq_2, qq_3, qq_4, qq_5, qq_6, qq_7, qq_8) =
  Option.bind (f_X1_countClosed (yy_0, yy_1, yy_2, yy_3, yy_4, yy_5, yy_6, yy_7, yy_8)) fun (o1 : Int32) =>
  some o1 := rfl
set_option maxHeartbeats 4000000 in
set_option maxRecDepth 100000 in
theorem c_X2_closedSets (l : Launch) (G : xG) (xa : Nat) (la : Nat) (ya : (Nat → Nat)) (pa : (Nat → Nat)) (qa : (Nat → Nat)) (lo : xF) (yy : xSY) (pp : xPL) (qq : xPL) (o : Int32) (h : f_X2_closedSets lo yy pp qq = some o) : xk_CI l yX2_closedSets wsX2_closedSets ({ frames := 3, cells := 0, slots := 0, locals := 65 } : Room) 0 0 [.ref xa] G (wXO xa (ya 0) la (pa 0) (qa 0) ++ (wLO G la lo ++ (wSYc G ya yy.1 yy.2.1 yy.2.2.1 yy.2.2.2.1 yy.2.2.2.2.1 yy.2.2.2.2.2.1 yy.2.2.2.2.2.2.1 yy.2.2.2.2.2.2.2.1 yy.2.2.2.2.2.2.2.2 ++ (wPLc G pa pp.1 pp.2.1 pp.2.2.1 pp.2.2.2.1 pp.2.2.2.2.1 pp.2.2.2.2.2.1 pp.2.2.2.2.2.2.1 pp.2.2.2.2.2.2.2.1 pp.2.2.2.2.2.2.2.2 ++ (wPLc G qa qq.1 qq.2.1 qq.2.2.1 qq.2.2.2.1 qq.2.2.2.2.1 qq.2.2.2.2.2.1 qq.2.2.2.2.2.2.1 qq.2.2.2.2.2.2.2.1 qq.2.2.2.2.2.2.2.2))))) (wXO xa (ya 0) la (pa 0) (qa 0) ++ (wLO G la lo ++ (wSYc G ya yy.1 yy.2.1 yy.2.2.1 yy.2.2.2.1 yy.2.2.2.2.1 yy.2.2.2.2.2.1 yy.2.2.2.2.2.2.1 yy.2.2.2.2.2.2.2.1 yy.2.2.2.2.2.2.2.2 ++ (wPLc G pa pp.1 pp.2.1 pp.2.2.1 pp.2.2.2.1 pp.2.2.2.2.1 pp.2.2.2.2.2.1 pp.2.2.2.2.2.2.1 pp.2.2.2.2.2.2.2.1 pp.2.2.2.2.2.2.2.2 ++ (wPLc G qa qq.1 qq.2.1 qq.2.2.1 qq.2.2.2.1 qq.2.2.2.2.1 qq.2.2.2.2.2.1 qq.2.2.2.2.2.2.1 qq.2.2.2.2.2.2.2.1 qq.2.2.2.2.2.2.2.2))))) o := by
  obtain ⟨yy_0, yy_1, yy_2, yy_3, yy_4, yy_5, yy_6, yy_7, yy_8⟩ := yy
  obtain ⟨pp_0, pp_1, pp_2, pp_3, pp_4, pp_5, pp_6, pp_7, pp_8⟩ := pp
  obtain ⟨qq_0, qq_1, qq_2, qq_3, qq_4, qq_5, qq_6, qq_7, qq_8⟩ := qq
  refine xk_CI.of (cc := cX2_closedSets) (maxL := 1) (ret := (some .int)) (by decide) rfl (Nat.le_of_ble_eq_true rfl) ?_
  intro pr9 en9 s mm9 bl9 meth9 cd9 A ls H locs hx hb hr hml hts hown hlk hA hP hK hD hNE hS hl
  have hown : s.vm.findClass RX2 = some mm9.cls := hown
  have hl : lv_has ls 1 [(0, .ref xa)] := hl
  have hinX2 : ∀ w ∈ u_ws RX2 TX2 4, w ∈ wsX2_closedSets := by decide +kernel
  have hP : va_P G.1 vwCl (wXO xa (ya 0) la (pa 0) (qa 0) ++ (wLO G la lo ++ (wSYc G ya yy_0 yy_1 yy_2 yy_3 yy_4 yy_5 yy_6 yy_7 yy_8 ++ (wPLc G pa pp_0 pp_1 pp_2 pp_3 pp_4 pp_5 pp_6 pp_7 pp_8 ++ (wPLc G qa qq_0 qq_1 qq_2 qq_3 qq_4 qq_5 qq_6 qq_7 qq_8))))) H := hP
  have hD : va_D A (wXO xa (ya 0) la (pa 0) (qa 0) ++ (wLO G la lo ++ (wSYc G ya yy_0 yy_1 yy_2 yy_3 yy_4 yy_5 yy_6 yy_7 yy_8 ++ (wPLc G pa pp_0 pp_1 pp_2 pp_3 pp_4 pp_5 pp_6 pp_7 pp_8 ++ (wPLc G qa qq_0 qq_1 qq_2 qq_3 qq_4 qq_5 qq_6 qq_7 qq_8))))) := hD
  have h := (f_X2_closedSets_e lo yy_0 yy_1 yy_2 yy_3 yy_4 yy_5 yy_6 yy_7 yy_8 pp_0 pp_1 pp_2 pp_3 pp_4 pp_5 pp_6 pp_7 pp_8 qq_0 qq_1 qq_2 qq_3 qq_4 qq_5 qq_6 qq_7 qq_8).symm.trans h
  refine lv_aload_n hx hb dX2_closedSets_0 rfl (lv_at hl 0 rfl) ?_
  refine va_get (D := G.1) (ci := 2) (v := .ref (ya 0)) (C := RX2) (T := TX2) (N := 4) hx hb hts hinX2 hown hK hP 0 rfl rfl 0 (by decide) (hts (.fieldLink RX2 10 "LessonWeave" "syllabus" "LLessonWeave$Syllabus;") (by decide +kernel)) (fun _ h9 => h9) rfl dX2_closedSets_1 ?_
  obtain ⟨o1, ho1, h⟩ := sp_b h
  refine xk_ci (va_runV (As := []) (rest := []) ⟨hx, hb, hml, hown, hts⟩ (c_X1_countClosed l G ya (yy_0, yy_1, yy_2, yy_3, yy_4, yy_5, yy_6, yy_7, yy_8) o1 ho1 H.size) (cwV 0 hts gX2_closedSets_X1_countClosed rfl rfl rfl (by decide +kernel) ⟨Nat.le_of_ble_eq_true rfl, Nat.le_of_ble_eq_true rfl⟩) (xk_preV hK hNE (hP.sub (ws' := (wSYc G ya yy_0 yy_1 yy_2 yy_3 yy_4 yy_5 yy_6 yy_7 yy_8)) [2, 3, 4, 5, 6, 7, 8, 9, 10] rfl) (hD.sub (ws' := (wSYc G ya yy_0 yy_1 yy_2 yy_3 yy_4 yy_5 yy_6 yy_7 yy_8)) [2, 3, 4, 5, 6, 7, 8, 9, 10] (by decide) rfl) (ci := 1) rfl rfl) rfl rfl hl.1 rfl (lv_room (Nat.le_of_ble_eq_true rfl)) dX2_closedSets_4 ⟨Nat.le_of_ble_eq_true rfl, Nat.le_of_ble_eq_true rfl⟩) hP hD hS hA [2, 3, 4, 5, 6, 7, 8, 9, 10] [0, 1, 11, 12, 13, 14, 15, 16, 17, 18, 19, 20, 21, 22, 23, 24] [0, 1, 16, 17, 18, 19, 20, 21, 22, 23, 24, 2, 3, 4, 5, 6, 7, 8, 9, 10, 11, 12, 13, 14, 15] rfl rfl (by decide) (by decide) rfl (by decide) (fun H locs hP hD hS => ?_)
  have hP : va_P G.1 vwCl (wXO xa (ya 0) la (pa 0) (qa 0) ++ (wLO G la lo ++ (wSYc G ya yy_0 yy_1 yy_2 yy_3 yy_4 yy_5 yy_6 yy_7 yy_8 ++ (wPLc G pa pp_0 pp_1 pp_2 pp_3 pp_4 pp_5 pp_6 pp_7 pp_8 ++ (wPLc G qa qq_0 qq_1 qq_2 qq_3 qq_4 qq_5 qq_6 qq_7 qq_8))))) H := hP
  have hD : va_D A (wXO xa (ya 0) la (pa 0) (qa 0) ++ (wLO G la lo ++ (wSYc G ya yy_0 yy_1 yy_2 yy_3 yy_4 yy_5 yy_6 yy_7 yy_8 ++ (wPLc G pa pp_0 pp_1 pp_2 pp_3 pp_4 pp_5 pp_6 pp_7 pp_8 ++ (wPLc G qa qq_0 qq_1 qq_2 qq_3 qq_4 qq_5 qq_6 qq_7 qq_8))))) := hD
  obtain rfl := sp_s h
  exact xk_reI hx hb hr hlk hP hD hS rfl dX2_closedSets_7
def f_X2_aim (lo : xF) (yy : xSY) (pp : xPL) (qq : xPL) (i1 : Int32) (i2 : Int32) (i3 : Int32) (i4 : Int32) : Option (Nat × Int32 × Int32 × xF × xF × xF × xF × xF × xF × xPL × xPL) :=
  Option.bind (f_X2_isWithin i1 (1 : Int32) (5 : Int32)) fun (o1 : Int32) =>
  if o1 = 0 then
    some (1, (0 : Int32), yy.1, yy.2.1, yy.2.2.1, yy.2.2.2.1, yy.2.2.2.2.1, yy.2.2.2.2.2.2.1, yy.2.2.2.2.2.2.2.2, (pp.1, pp.2.1, pp.2.2.1, pp.2.2.2.1, pp.2.2.2.2.1, pp.2.2.2.2.2.1, pp.2.2.2.2.2.2.1, pp.2.2.2.2.2.2.2.1, pp.2.2.2.2.2.2.2.2), (qq.1, qq.2.1, qq.2.2.1, qq.2.2.2.1, qq.2.2.2.2.1, qq.2.2.2.2.2.1, qq.2.2.2.2.2.2.1, qq.2.2.2.2.2.2.2.1, qq.2.2.2.2.2.2.2.2))
  else
    Option.bind (f_X2_isWithin i2 (0 : Int32) (3 : Int32)) fun (o3 : Int32) =>
    if o3 = 0 then
      some (1, (0 : Int32), yy.1, yy.2.1, yy.2.2.1, yy.2.2.2.1, yy.2.2.2.2.1, yy.2.2.2.2.2.2.1, yy.2.2.2.2.2.2.2.2, (pp.1, pp.2.1, pp.2.2.1, pp.2.2.2.1, pp.2.2.2.2.1, pp.2.2.2.2.2.1, pp.2.2.2.2.2.2.1, pp.2.2.2.2.2.2.2.1, pp.2.2.2.2.2.2.2.2), (qq.1, qq.2.1, qq.2.2.1, qq.2.2.2.1, qq.2.2.2.2.1, qq.2.2.2.2.2.1, qq.2.2.2.2.2.2.1, qq.2.2.2.2.2.2.2.1, qq.2.2.2.2.2.2.2.2))
    else
      Option.bind (f_X2_isWithin i3 (1 : Int32) (99 : Int32)) fun (o5 : Int32) =>
      if o5 = 0 then
        some (1, (0 : Int32), yy.1, yy.2.1, yy.2.2.1, yy.2.2.2.1, yy.2.2.2.2.1, yy.2.2.2.2.2.2.1, yy.2.2.2.2.2.2.2.2, (pp.1, pp.2.1, pp.2.2.1, pp.2.2.2.1, pp.2.2.2.2.1, pp.2.2.2.2.2.1, pp.2.2.2.2.2.2.1, pp.2.2.2.2.2.2.2.1, pp.2.2.2.2.2.2.2.2), (qq.1, qq.2.1, qq.2.2.1, qq.2.2.2.1, qq.2.2.2.2.1, qq.2.2.2.2.2.1, qq.2.2.2.2.2.2.1, qq.2.2.2.2.2.2.2.1, qq.2.2.2.2.2.2.2.2))
      else
        if i4 = ((-1) : Int32) then
          if yy.1 < (12 : Int32) then
            Option.bind (f_X1_add (yy.1, yy.2.1, yy.2.2.1, yy.2.2.2.1, yy.2.2.2.2.1, yy.2.2.2.2.2.1, yy.2.2.2.2.2.2.1, yy.2.2.2.2.2.2.2.1, yy.2.2.2.2.2.2.2.2) i1 i2 i3 i4) fun (o9 : Int32 × Int32 × xF × xF × xF × xF × xF × xF) =>
            Option.bind (f_X2_planAnew lo (o9.2.1, o9.2.2.1, o9.2.2.2.1, o9.2.2.2.2.1, o9.2.2.2.2.2.1, yy.2.2.2.2.2.1, o9.2.2.2.2.2.2.1, yy.2.2.2.2.2.2.2.1, o9.2.2.2.2.2.2.2) (pp.1, pp.2.1, pp.2.2.1, pp.2.2.2.1, pp.2.2.2.2.1, pp.2.2.2.2.2.1, pp.2.2.2.2.2.2.1, pp.2.2.2.2.2.2.2.1, pp.2.2.2.2.2.2.2.2) (qq.1, qq.2.1, qq.2.2.1, qq.2.2.2.1, qq.2.2.2.2.1, qq.2.2.2.2.2.1, qq.2.2.2.2.2.2.1, qq.2.2.2.2.2.2.2.1, qq.2.2.2.2.2.2.2.2)) fun (o10 : xPL × xPL) =>
            some (0, o9.1, o9.2.1, o9.2.2.1, o9.2.2.2.1, o9.2.2.2.2.1, o9.2.2.2.2.2.1, o9.2.2.2.2.2.2.1, o9.2.2.2.2.2.2.2, o10.1, o10.2)
          else
            some (2, (0 : Int32), yy.1, yy.2.1, yy.2.2.1, yy.2.2.2.1, yy.2.2.2.2.1, yy.2.2.2.2.2.2.1, yy.2.2.2.2.2.2.2.2, (pp.1, pp.2.1, pp.2.2.1, pp.2.2.2.1, pp.2.2.2.2.1, pp.2.2.2.2.2.1, pp.2.2.2.2.2.2.1, pp.2.2.2.2.2.2.2.1, pp.2.2.2.2.2.2.2.2), (qq.1, qq.2.1, qq.2.2.1, qq.2.2.2.1, qq.2.2.2.2.1, qq.2.2.2.2.2.1, qq.2.2.2.2.2.2.1, qq.2.2.2.2.2.2.2.1, qq.2.2.2.2.2.2.2.2))
        else
          Option.bind (f_X2_isWithin i4 (0 : Int32) (2 : Int32)) fun (o11 : Int32) =>
          if o11 = 0 then
            some (1, (0 : Int32), yy.1, yy.2.1, yy.2.2.1, yy.2.2.2.1, yy.2.2.2.2.1, yy.2.2.2.2.2.2.1, yy.2.2.2.2.2.2.2.2, (pp.1, pp.2.1, pp.2.2.1, pp.2.2.2.1, pp.2.2.2.2.1, pp.2.2.2.2.2.1, pp.2.2.2.2.2.2.1, pp.2.2.2.2.2.2.2.1, pp.2.2.2.2.2.2.2.2), (qq.1, qq.2.1, qq.2.2.1, qq.2.2.2.1, qq.2.2.2.2.1, qq.2.2.2.2.2.1, qq.2.2.2.2.2.2.1, qq.2.2.2.2.2.2.2.1, qq.2.2.2.2.2.2.2.2))
          else
            if yy.1 < (12 : Int32) then
              Option.bind (f_X1_add (yy.1, yy.2.1, yy.2.2.1, yy.2.2.2.1, yy.2.2.2.2.1, yy.2.2.2.2.2.1, yy.2.2.2.2.2.2.1, yy.2.2.2.2.2.2.2.1, yy.2.2.2.2.2.2.2.2) i1 i2 i3 i4) fun (o14 : Int32 × Int32 × xF × xF × xF × xF × xF × xF) =>
              Option.bind (f_X2_planAnew lo (o14.2.1, o14.2.2.1, o14.2.2.2.1, o14.2.2.2.2.1, o14.2.2.2.2.2.1, yy.2.2.2.2.2.1, o14.2.2.2.2.2.2.1, yy.2.2.2.2.2.2.2.1, o14.2.2.2.2.2.2.2) (pp.1, pp.2.1, pp.2.2.1, pp.2.2.2.1, pp.2.2.2.2.1, pp.2.2.2.2.2.1, pp.2.2.2.2.2.2.1, pp.2.2.2.2.2.2.2.1, pp.2.2.2.2.2.2.2.2) (qq.1, qq.2.1, qq.2.2.1, qq.2.2.2.1, qq.2.2.2.2.1, qq.2.2.2.2.2.1, qq.2.2.2.2.2.2.1, qq.2.2.2.2.2.2.2.1, qq.2.2.2.2.2.2.2.2)) fun (o15 : xPL × xPL) =>
              some (0, o14.1, o14.2.1, o14.2.2.1, o14.2.2.2.1, o14.2.2.2.2.1, o14.2.2.2.2.2.1, o14.2.2.2.2.2.2.1, o14.2.2.2.2.2.2.2, o15.1, o15.2)
            else
              some (2, (0 : Int32), yy.1, yy.2.1, yy.2.2.1, yy.2.2.2.1, yy.2.2.2.2.1, yy.2.2.2.2.2.2.1, yy.2.2.2.2.2.2.2.2, (pp.1, pp.2.1, pp.2.2.1, pp.2.2.2.1, pp.2.2.2.2.1, pp.2.2.2.2.2.1, pp.2.2.2.2.2.2.1, pp.2.2.2.2.2.2.2.1, pp.2.2.2.2.2.2.2.2), (qq.1, qq.2.1, qq.2.2.1, qq.2.2.2.1, qq.2.2.2.2.1, qq.2.2.2.2.2.1, qq.2.2.2.2.2.2.1, qq.2.2.2.2.2.2.2.1, qq.2.2.2.2.2.2.2.2))
theorem f_X2_aim_e (lo : xF) (yy_0 : Int32) (yy_1 : xF) (yy_2 : xF) (yy_3 : xF) (yy_4 : xF) (yy_5 : xF) (yy_6 : xF) (yy_7 : xF) (yy_8 : xF) (pp_0 : xF) (pp_1 : xF) (pp_2 : xF) (pp_3 : xF) (pp_4 : xF) (pp_5 : xF) (pp_6 : Int32) (pp_7 : Int32) (pp_8 : Int32) (qq_0 : xF) (qq_1 : xF) (qq_2 : xF) (qq_3 : xF) (qq_4 : xF) (qq_5 : xF) (qq_6 : Int32) (qq_7 : Int32) (qq_8 : Int32) (i1 : Int32) (i2 : Int32) (i3 : Int32) (i4 : Int32) : f_X2_aim lo (yy_0, yy_1, yy_2, yy_3, yy_4, yy_5, yy_6, yy_7, yy_8) (pp_0, pp_1, pp_2, pp_3, pp_4, pp_5, pp_6, pp_7, pp_8) (qq_0, qq_1, qq_2, qq_3, qq_4, qq_5, qq_6, qq_7, qq_8) i1 i2 i3 i4 =
  Option.bind (f_X2_isWithin i1 (1 : Int32) (5 : Int32)) fun (o1 : Int32) =>
  if o1 = 0 then
    some (1, (0 : Int32), yy_0, yy_1, yy_2, yy_3, yy_4, yy_6, yy_8, (pp_0, pp_1, pp_2, pp_3, pp_4, pp_5, pp_6, pp_7, pp_8), (qq_0, qq_1, qq_2, qq_3, qq_4, qq_5, qq_6, qq_7, qq_8))
  else
    Option.bind (f_X2_isWithin i2 (0 : Int32) (3 : Int32)) fun (o3 : Int32) =>
    if o3 = 0 then
      some (1, (0 : Int32), yy_0, yy_1, yy_2, yy_3, yy_4, yy_6, yy_8, (pp_0, pp_1, pp_2, pp_3, pp_4, pp_5, pp_6, pp_7, pp_8), (qq_0, qq_1, qq_2, qq_3, qq_4, qq_5, qq_6, qq_7, qq_8))
    else
      Option.bind (f_X2_isWithin i3 (1 : Int32) (99 : Int32)) fun (o5 : Int32) =>
      if o5 = 0 then
        some (1, (0 : Int32), yy_0, yy_1, yy_2, yy_3, yy_4, yy_6, yy_8, (pp_0, pp_1, pp_2, pp_3, pp_4, pp_5, pp_6, pp_7, pp_8), (qq_0, qq_1, qq_2, qq_3, qq_4, qq_5, qq_6, qq_7, qq_8))
      else
        if i4 = ((-1) : Int32) then
          if yy_0 < (12 : Int32) then
            Option.bind (f_X1_add (yy_0, yy_1, yy_2, yy_3, yy_4, yy_5, yy_6, yy_7, yy_8) i1 i2 i3 i4) fun (o9 : Int32 × Int32 × xF × xF × xF × xF × xF × xF) =>
            Option.bind (f_X2_planAnew lo (o9.2.1, o9.2.2.1, o9.2.2.2.1, o9.2.2.2.2.1, o9.2.2.2.2.2.1, yy_5, o9.2.2.2.2.2.2.1, yy_7, o9.2.2.2.2.2.2.2) (pp_0, pp_1, pp_2, pp_3, pp_4, pp_5, pp_6, pp_7, pp_8) (qq_0, qq_1, qq_2, qq_3, qq_4, qq_5, qq_6, qq_7, qq_8)) fun (o10 : xPL × xPL) =>
            some (0, o9.1, o9.2.1, o9.2.2.1, o9.2.2.2.1, o9.2.2.2.2.1, o9.2.2.2.2.2.1, o9.2.2.2.2.2.2.1, o9.2.2.2.2.2.2.2, o10.1, o10.2)
          else
            some (2, (0 : Int32), yy_0, yy_1, yy_2, yy_3, yy_4, yy_6, yy_8, (pp_0, pp_1, pp_2, pp_3, pp_4, pp_5, pp_6, pp_7, pp_8), (qq_0, qq_1, qq_2, qq_3, qq_4, qq_5, qq_6, qq_7, qq_8))
        else
          Option.bind (f_X2_isWithin i4 (0 : Int32) (2 : Int32)) fun (o11 : Int32) =>
          if o11 = 0 then
            some (1, (0 : Int32), yy_0, yy_1, yy_2, yy_3, yy_4, yy_6, yy_8, (pp_0, pp_1, pp_2, pp_3, pp_4, pp_5, pp_6, pp_7, pp_8), (qq_0, qq_1, qq_2, qq_3, qq_4, qq_5, qq_6, qq_7, qq_8))
          else
            if yy_0 < (12 : Int32) then
              Option.bind (f_X1_add (yy_0, yy_1, yy_2, yy_3, yy_4, yy_5, yy_6, yy_7, yy_8) i1 i2 i3 i4) fun (o14 : Int32 × Int32 × xF × xF × xF × xF × xF × xF) =>
              Option.bind (f_X2_planAnew lo (o14.2.1, o14.2.2.1, o14.2.2.2.1, o14.2.2.2.2.1, o14.2.2.2.2.2.1, yy_5, o14.2.2.2.2.2.2.1, yy_7, o14.2.2.2.2.2.2.2) (pp_0, pp_1, pp_2, pp_3, pp_4, pp_5, pp_6, pp_7, pp_8) (qq_0, qq_1, qq_2, qq_3, qq_4, qq_5, qq_6, qq_7, qq_8)) fun (o15 : xPL × xPL) =>
              some (0, o14.1, o14.2.1, o14.2.2.1, o14.2.2.2.1, o14.2.2.2.2.1, o14.2.2.2.2.2.1, o14.2.2.2.2.2.2.1, o14.2.2.2.2.2.2.2, o15.1, o15.2)
            else
              some (2, (0 : Int32), yy_0, yy_1, yy_2, yy_3, yy_4, yy_6, yy_8, (pp_0, pp_1, pp_2, pp_3, pp_4, pp_5, pp_6, pp_7, pp_8), (qq_0, qq_1, qq_2, qq_3, qq_4, qq_5, qq_6, qq_7, qq_8)) := rfl
set_option maxHeartbeats 4000000 in
set_option maxRecDepth 100000 in
theorem c_X2_aim (l : Launch) (hl9 : l.stackTraces = false) (G : xG) (xa : Nat) (la : Nat) (ya : (Nat → Nat)) (pa : (Nat → Nat)) (qa : (Nat → Nat)) (lo : xF) (yy : xSY) (pp : xPL) (qq : xPL) (i1 : Int32) (i2 : Int32) (i3 : Int32) (i4 : Int32) (o : Nat × Int32 × Int32 × xF × xF × xF × xF × xF × xF × xPL × xPL) (h : f_X2_aim lo yy pp qq i1 i2 i3 i4 = some o) : xk_CX l yX2_aim wsX2_aim ({ frames := 6, cells := 1, slots := 6, locals := 139 } : Room) [.ref xa, .int i1, .int i2, .int i3, .int i4] G (wXO xa (ya 0) la (pa 0) (qa 0) ++ (wLO G la lo ++ (wSYc G ya yy.1 yy.2.1 yy.2.2.1 yy.2.2.2.1 yy.2.2.2.2.1 yy.2.2.2.2.2.1 yy.2.2.2.2.2.2.1 yy.2.2.2.2.2.2.2.1 yy.2.2.2.2.2.2.2.2 ++ (wPLc G pa pp.1 pp.2.1 pp.2.2.1 pp.2.2.2.1 pp.2.2.2.2.1 pp.2.2.2.2.2.1 pp.2.2.2.2.2.2.1 pp.2.2.2.2.2.2.2.1 pp.2.2.2.2.2.2.2.2 ++ (wPLc G qa qq.1 qq.2.1 qq.2.2.1 qq.2.2.2.1 qq.2.2.2.2.1 qq.2.2.2.2.2.1 qq.2.2.2.2.2.2.1 qq.2.2.2.2.2.2.2.1 qq.2.2.2.2.2.2.2.2))))) (wXO xa (ya 0) la (qa 0) (pa 0) ++ (wLO G la lo ++ (wSYc G ya o.2.2.1 o.2.2.2.1 o.2.2.2.2.1 o.2.2.2.2.2.1 o.2.2.2.2.2.2.1 yy.2.2.2.2.2.1 o.2.2.2.2.2.2.2.1 yy.2.2.2.2.2.2.2.1 o.2.2.2.2.2.2.2.2.1 ++ (wPLc G qa o.2.2.2.2.2.2.2.2.2.1.1 o.2.2.2.2.2.2.2.2.2.1.2.1 o.2.2.2.2.2.2.2.2.2.1.2.2.1 o.2.2.2.2.2.2.2.2.2.1.2.2.2.1 o.2.2.2.2.2.2.2.2.2.1.2.2.2.2.1 o.2.2.2.2.2.2.2.2.2.1.2.2.2.2.2.1 o.2.2.2.2.2.2.2.2.2.1.2.2.2.2.2.2.1 o.2.2.2.2.2.2.2.2.2.1.2.2.2.2.2.2.2.1 o.2.2.2.2.2.2.2.2.2.1.2.2.2.2.2.2.2.2 ++ (wPLc G pa o.2.2.2.2.2.2.2.2.2.2.1 o.2.2.2.2.2.2.2.2.2.2.2.1 o.2.2.2.2.2.2.2.2.2.2.2.2.1 o.2.2.2.2.2.2.2.2.2.2.2.2.2.1 o.2.2.2.2.2.2.2.2.2.2.2.2.2.2.1 o.2.2.2.2.2.2.2.2.2.2.2.2.2.2.2.1 o.2.2.2.2.2.2.2.2.2.2.2.2.2.2.2.2.1 o.2.2.2.2.2.2.2.2.2.2.2.2.2.2.2.2.2.1 o.2.2.2.2.2.2.2.2.2.2.2.2.2.2.2.2.2.2))))) o.1 o.2.1 := by
  obtain ⟨yy_0, yy_1, yy_2, yy_3, yy_4, yy_5, yy_6, yy_7, yy_8⟩ := yy
  obtain ⟨pp_0, pp_1, pp_2, pp_3, pp_4, pp_5, pp_6, pp_7, pp_8⟩ := pp
  obtain ⟨qq_0, qq_1, qq_2, qq_3, qq_4, qq_5, qq_6, qq_7, qq_8⟩ := qq
  refine xk_CX.of (cc := cX2_aim) (maxL := 6) (ret := (some .int)) (by decide) rfl (Nat.le_of_ble_eq_true rfl) ?_
  intro pr9 en9 s mm9 bl9 meth9 cd9 A ls H locs hx hb hr hml hts hown hlk hA hP hK hD hNE hS hl hXB hSR hZX hxt
  have hown : s.vm.findClass RX2 = some mm9.cls := hown
  have hl : lv_has ls 6 [(0, .ref xa), (1, .int i1), (2, .int i2), (3, .int i3), (4, .int i4)] := hl
  have hinX1 : ∀ w ∈ u_ws RX1 TX1 9, w ∈ wsX2_aim := by decide +kernel
  have hinX2 : ∀ w ∈ u_ws RX2 TX2 4, w ∈ wsX2_aim := by decide +kernel
  have hwIAE : ∀ w ∈ (vx_atS RX2 38 "java/lang/IllegalArgumentException" xk_NM).filter goodWord, w.before _ s = true := fun w hw => hts w (List.mem_cons_of_mem _ (List.mem_append_left _ (List.mem_append_right _ hw)))
  have hwISE : ∀ w ∈ (vx_atS RX2 55 "java/lang/IllegalStateException" xk_NM).filter goodWord, w.before _ s = true := fun w hw => hts w (List.mem_cons_of_mem _ (List.mem_append_right _ hw))
  have hP : va_P G.1 vwCl (wXO xa (ya 0) la (pa 0) (qa 0) ++ (wLO G la lo ++ (wSYc G ya yy_0 yy_1 yy_2 yy_3 yy_4 yy_5 yy_6 yy_7 yy_8 ++ (wPLc G pa pp_0 pp_1 pp_2 pp_3 pp_4 pp_5 pp_6 pp_7 pp_8 ++ (wPLc G qa qq_0 qq_1 qq_2 qq_3 qq_4 qq_5 qq_6 qq_7 qq_8))))) H := hP
  have hD : va_D A (wXO xa (ya 0) la (pa 0) (qa 0) ++ (wLO G la lo ++ (wSYc G ya yy_0 yy_1 yy_2 yy_3 yy_4 yy_5 yy_6 yy_7 yy_8 ++ (wPLc G pa pp_0 pp_1 pp_2 pp_3 pp_4 pp_5 pp_6 pp_7 pp_8 ++ (wPLc G qa qq_0 qq_1 qq_2 qq_3 qq_4 qq_5 qq_6 qq_7 qq_8))))) := hD
  have h := (f_X2_aim_e lo yy_0 yy_1 yy_2 yy_3 yy_4 yy_5 yy_6 yy_7 yy_8 pp_0 pp_1 pp_2 pp_3 pp_4 pp_5 pp_6 pp_7 pp_8 qq_0 qq_1 qq_2 qq_3 qq_4 qq_5 qq_6 qq_7 qq_8 i1 i2 i3 i4).symm.trans h
  refine lv_iload_n hx hb dX2_aim_0 rfl (lv_at hl 1 rfl) ?_
  refine lv_iconst (v := (1 : Int32)) hx hb dX2_aim_1 (by decide) ?_
  refine lv_iconst (v := (5 : Int32)) hx hb dX2_aim_2 (by decide) ?_
  obtain ⟨o1, ho1, h⟩ := sp_b h
  refine xk_ci (va_runS (As := [.int i1, .int (1 : Int32), .int (5 : Int32)]) (rest := []) ⟨hx, hb, hml, hown, hts⟩ (c_X2_isWithin l G i1 (1 : Int32) (5 : Int32) o1 ho1 H.size) (va_cwS 3 hts gX2_aim_X2_isWithin rfl rfl rfl (by decide +kernel) ⟨Nat.le_of_ble_eq_true rfl, Nat.le_of_ble_eq_true rfl⟩) (xk_preS hK hNE (hP.sub (ws' := []) [] rfl) (hD.sub (ws' := []) [] (by decide) rfl)) rfl rfl hl.1 rfl (lv_room (Nat.le_of_ble_eq_true rfl)) dX2_aim_3 ⟨Nat.le_of_ble_eq_true rfl, Nat.le_of_ble_eq_true rfl⟩) hP hD hS hA [] [0, 1, 2, 3, 4, 5, 6, 7, 8, 9, 10, 11, 12, 13, 14, 15, 16, 17, 18, 19, 20, 21, 22, 23, 24] [0, 1, 2, 3, 4, 5, 6, 7, 8, 9, 10, 11, 12, 13, 14, 15, 16, 17, 18, 19, 20, 21, 22, 23, 24] rfl rfl (by decide) (by decide) rfl (by decide) (fun H locs hP hD hS => ?_)
  have hP : va_P G.1 vwCl (wXO xa (ya 0) la (pa 0) (qa 0) ++ (wLO G la lo ++ (wSYc G ya yy_0 yy_1 yy_2 yy_3 yy_4 yy_5 yy_6 yy_7 yy_8 ++ (wPLc G pa pp_0 pp_1 pp_2 pp_3 pp_4 pp_5 pp_6 pp_7 pp_8 ++ (wPLc G qa qq_0 qq_1 qq_2 qq_3 qq_4 qq_5 qq_6 qq_7 qq_8))))) H := hP
  have hD : va_D A (wXO xa (ya 0) la (pa 0) (qa 0) ++ (wLO G la lo ++ (wSYc G ya yy_0 yy_1 yy_2 yy_3 yy_4 yy_5 yy_6 yy_7 yy_8 ++ (wPLc G pa pp_0 pp_1 pp_2 pp_3 pp_4 pp_5 pp_6 pp_7 pp_8 ++ (wPLc G qa qq_0 qq_1 qq_2 qq_3 qq_4 qq_5 qq_6 qq_7 qq_8))))) := hD
  refine lv_if_ne (tgt := 19) hx hb dX2_aim_6 (by decide) (fun c2 => ?_) (fun c2 => ?_)
  · have h := sp_f c2 h
    refine lv_iload_n hx hb dX2_aim_19 rfl (lv_at hl 2 rfl) ?_
    refine lv_iconst (v := (0 : Int32)) hx hb dX2_aim_20 (by decide) ?_
    refine lv_iconst (v := (3 : Int32)) hx hb dX2_aim_21 (by decide) ?_
    obtain ⟨o3, ho3, h⟩ := sp_b h
    refine xk_ci (va_runS (As := [.int i2, .int (0 : Int32), .int (3 : Int32)]) (rest := []) ⟨hx, hb, hml, hown, hts⟩ (c_X2_isWithin l G i2 (0 : Int32) (3 : Int32) o3 ho3 H.size) (va_cwS 3 hts gX2_aim_X2_isWithin rfl rfl rfl (by decide +kernel) ⟨Nat.le_of_ble_eq_true rfl, Nat.le_of_ble_eq_true rfl⟩) (xk_preS hK hNE (hP.sub (ws' := []) [] rfl) (hD.sub (ws' := []) [] (by decide) rfl)) rfl rfl hl.1 rfl (lv_room (Nat.le_of_ble_eq_true rfl)) dX2_aim_22 ⟨Nat.le_of_ble_eq_true rfl, Nat.le_of_ble_eq_true rfl⟩) hP hD hS hA [] [0, 1, 2, 3, 4, 5, 6, 7, 8, 9, 10, 11, 12, 13, 14, 15, 16, 17, 18, 19, 20, 21, 22, 23, 24] [0, 1, 2, 3, 4, 5, 6, 7, 8, 9, 10, 11, 12, 13, 14, 15, 16, 17, 18, 19, 20, 21, 22, 23, 24] rfl rfl (by decide) (by decide) rfl (by decide) (fun H locs hP hD hS => ?_)
    have hP : va_P G.1 vwCl (wXO xa (ya 0) la (pa 0) (qa 0) ++ (wLO G la lo ++ (wSYc G ya yy_0 yy_1 yy_2 yy_3 yy_4 yy_5 yy_6 yy_7 yy_8 ++ (wPLc G pa pp_0 pp_1 pp_2 pp_3 pp_4 pp_5 pp_6 pp_7 pp_8 ++ (wPLc G qa qq_0 qq_1 qq_2 qq_3 qq_4 qq_5 qq_6 qq_7 qq_8))))) H := hP
    have hD : va_D A (wXO xa (ya 0) la (pa 0) (qa 0) ++ (wLO G la lo ++ (wSYc G ya yy_0 yy_1 yy_2 yy_3 yy_4 yy_5 yy_6 yy_7 yy_8 ++ (wPLc G pa pp_0 pp_1 pp_2 pp_3 pp_4 pp_5 pp_6 pp_7 pp_8 ++ (wPLc G qa qq_0 qq_1 qq_2 qq_3 qq_4 qq_5 qq_6 qq_7 qq_8))))) := hD
    refine lv_if_ne (tgt := 38) hx hb dX2_aim_25 (by decide) (fun c4 => ?_) (fun c4 => ?_)
    · have h := sp_f c4 h
      refine lv_iload_n hx hb dX2_aim_38 rfl (lv_at hl 3 rfl) ?_
      refine lv_iconst (v := (1 : Int32)) hx hb dX2_aim_39 (by decide) ?_
      refine lv_bipush (v := (99 : Int32)) hx hb dX2_aim_40 (by decide) ?_
      obtain ⟨o5, ho5, h⟩ := sp_b h
      refine xk_ci (va_runS (As := [.int i3, .int (1 : Int32), .int (99 : Int32)]) (rest := []) ⟨hx, hb, hml, hown, hts⟩ (c_X2_isWithin l G i3 (1 : Int32) (99 : Int32) o5 ho5 H.size) (va_cwS 3 hts gX2_aim_X2_isWithin rfl rfl rfl (by decide +kernel) ⟨Nat.le_of_ble_eq_true rfl, Nat.le_of_ble_eq_true rfl⟩) (xk_preS hK hNE (hP.sub (ws' := []) [] rfl) (hD.sub (ws' := []) [] (by decide) rfl)) rfl rfl hl.1 rfl (lv_room (Nat.le_of_ble_eq_true rfl)) dX2_aim_42 ⟨Nat.le_of_ble_eq_true rfl, Nat.le_of_ble_eq_true rfl⟩) hP hD hS hA [] [0, 1, 2, 3, 4, 5, 6, 7, 8, 9, 10, 11, 12, 13, 14, 15, 16, 17, 18, 19, 20, 21, 22, 23, 24] [0, 1, 2, 3, 4, 5, 6, 7, 8, 9, 10, 11, 12, 13, 14, 15, 16, 17, 18, 19, 20, 21, 22, 23, 24] rfl rfl (by decide) (by decide) rfl (by decide) (fun H locs hP hD hS => ?_)
      have hP : va_P G.1 vwCl (wXO xa (ya 0) la (pa 0) (qa 0) ++ (wLO G la lo ++ (wSYc G ya yy_0 yy_1 yy_2 yy_3 yy_4 yy_5 yy_6 yy_7 yy_8 ++ (wPLc G pa pp_0 pp_1 pp_2 pp_3 pp_4 pp_5 pp_6 pp_7 pp_8 ++ (wPLc G qa qq_0 qq_1 qq_2 qq_3 qq_4 qq_5 qq_6 qq_7 qq_8))))) H := hP
      have hD : va_D A (wXO xa (ya 0) la (pa 0) (qa 0) ++ (wLO G la lo ++ (wSYc G ya yy_0 yy_1 yy_2 yy_3 yy_4 yy_5 yy_6 yy_7 yy_8 ++ (wPLc G pa pp_0 pp_1 pp_2 pp_3 pp_4 pp_5 pp_6 pp_7 pp_8 ++ (wPLc G qa qq_0 qq_1 qq_2 qq_3 qq_4 qq_5 qq_6 qq_7 qq_8))))) := hD
      refine lv_if_ne (tgt := 58) hx hb dX2_aim_45 (by decide) (fun c6 => ?_) (fun c6 => ?_)
      · have h := sp_f c6 h
        refine lv_iload hx hb dX2_aim_58 (lv_at hl 4 rfl) ?_
        refine lv_iconst (v := ((-1) : Int32)) hx hb dX2_aim_60 (by decide) ?_
        refine lv_icmp_eq (tgt := 84) hx hb dX2_aim_61 (by decide) (fun c7 => ?_) (fun c7 => ?_)
        · have h := sp_t c7 h
          refine lv_aload_n hx hb dX2_aim_84 rfl (lv_at hl 0 rfl) ?_
          refine va_get (D := G.1) (ci := 2) (v := .ref (ya 0)) (C := RX2) (T := TX2) (N := 4) hx hb hts hinX2 hown hK hP 0 rfl rfl 0 (by decide) (hts (.fieldLink RX2 10 "LessonWeave" "syllabus" "LLessonWeave$Syllabus;") (by decide +kernel)) (fun _ h9 => h9) rfl dX2_aim_85 ?_
          refine va_getN (D := G.1) (ci := 1) (v := .int yy_0) (C := RX1) (T := TX1) (N := 9) hx hb hts hinX1 hown hK hP 2 rfl rfl 0 (by decide) (va_Nw.use rfl hNE.1) (fun _ h9 => h9) rfl dX2_aim_88 ?_
          refine lv_bipush (v := (12 : Int32)) hx hb dX2_aim_91 (by decide) ?_
          refine lv_icmp_lt (tgt := 106) hx hb dX2_aim_93 (by decide) (fun c8 => ?_) (fun c8 => ?_)
          · have h := sp_t c8 h
            refine lv_aload_n hx hb dX2_aim_106 rfl (lv_at hl 0 rfl) ?_
            refine va_get (D := G.1) (ci := 2) (v := .ref (ya 0)) (C := RX2) (T := TX2) (N := 4) hx hb hts hinX2 hown hK hP 0 rfl rfl 0 (by decide) (hts (.fieldLink RX2 10 "LessonWeave" "syllabus" "LLessonWeave$Syllabus;") (by decide +kernel)) (fun _ h9 => h9) rfl dX2_aim_107 ?_
            refine lv_iload_n hx hb dX2_aim_110 rfl (lv_at hl 1 rfl) ?_
            refine lv_iload_n hx hb dX2_aim_111 rfl (lv_at hl 2 rfl) ?_
            refine lv_iload_n hx hb dX2_aim_112 rfl (lv_at hl 3 rfl) ?_
            refine lv_iload hx hb dX2_aim_113 (lv_at hl 4 rfl) ?_
            obtain ⟨o9, ho9, h⟩ := sp_b h
            refine xk_ci (va_runV (As := [.int i1, .int i2, .int i3, .int i4]) (rest := []) ⟨hx, hb, hml, hown, hts⟩ (c_X1_add l G ya (yy_0, yy_1, yy_2, yy_3, yy_4, yy_5, yy_6, yy_7, yy_8) i1 i2 i3 i4 o9 ho9 H.size) (cwV 4 hts gX2_aim_X1_add rfl rfl rfl (by decide +kernel) ⟨Nat.le_of_ble_eq_true rfl, Nat.le_of_ble_eq_true rfl⟩) (xk_preV hK hNE (hP.sub (ws' := (wSYc G ya yy_0 yy_1 yy_2 yy_3 yy_4 yy_5 yy_6 yy_7 yy_8)) [2, 3, 4, 5, 6, 7, 8, 9, 10] rfl) (hD.sub (ws' := (wSYc G ya yy_0 yy_1 yy_2 yy_3 yy_4 yy_5 yy_6 yy_7 yy_8)) [2, 3, 4, 5, 6, 7, 8, 9, 10] (by decide) rfl) (ci := 1) rfl rfl) rfl rfl hl.1 rfl (lv_room (Nat.le_of_ble_eq_true rfl)) dX2_aim_115 ⟨Nat.le_of_ble_eq_true rfl, Nat.le_of_ble_eq_true rfl⟩) hP hD hS hA [2, 3, 4, 5, 6, 7, 8, 9, 10] [0, 1, 11, 12, 13, 14, 15, 16, 17, 18, 19, 20, 21, 22, 23, 24] [0, 1, 16, 17, 18, 19, 20, 21, 22, 23, 24, 2, 3, 4, 5, 6, 7, 8, 9, 10, 11, 12, 13, 14, 15] rfl rfl (by decide) (by decide) rfl (by decide) (fun H locs hP hD hS => ?_)
            have hP : va_P G.1 vwCl (wXO xa (ya 0) la (pa 0) (qa 0) ++ (wLO G la lo ++ (wSYc G ya o9.2.1 o9.2.2.1 o9.2.2.2.1 o9.2.2.2.2.1 o9.2.2.2.2.2.1 yy_5 o9.2.2.2.2.2.2.1 yy_7 o9.2.2.2.2.2.2.2 ++ (wPLc G pa pp_0 pp_1 pp_2 pp_3 pp_4 pp_5 pp_6 pp_7 pp_8 ++ (wPLc G qa qq_0 qq_1 qq_2 qq_3 qq_4 qq_5 qq_6 qq_7 qq_8))))) H := hP
            have hD : va_D A (wXO xa (ya 0) la (pa 0) (qa 0) ++ (wLO G la lo ++ (wSYc G ya o9.2.1 o9.2.2.1 o9.2.2.2.1 o9.2.2.2.2.1 o9.2.2.2.2.2.1 yy_5 o9.2.2.2.2.2.2.1 yy_7 o9.2.2.2.2.2.2.2 ++ (wPLc G pa pp_0 pp_1 pp_2 pp_3 pp_4 pp_5 pp_6 pp_7 pp_8 ++ (wPLc G qa qq_0 qq_1 qq_2 qq_3 qq_4 qq_5 qq_6 qq_7 qq_8))))) := hD
            refine lv_istore (lv' := [(5, .int o9.1), (0, .ref xa), (1, .int i1), (2, .int i2), (3, .int i3), (4, .int i4)]) hx hb dX2_aim_118 hl (by decide) rfl (fun ls hl => ?_)
            refine lv_aload_n hx hb dX2_aim_120 rfl (lv_at hl 1 rfl) ?_
            obtain ⟨o10, ho10, h⟩ := sp_b h
            refine xk_cv (va_runV (As := []) (rest := []) ⟨hx, hb, hml, hown, hts⟩ (c_X2_planAnew l G xa la ya pa qa lo (o9.2.1, o9.2.2.1, o9.2.2.2.1, o9.2.2.2.2.1, o9.2.2.2.2.2.1, yy_5, o9.2.2.2.2.2.2.1, yy_7, o9.2.2.2.2.2.2.2) (pp_0, pp_1, pp_2, pp_3, pp_4, pp_5, pp_6, pp_7, pp_8) (qq_0, qq_1, qq_2, qq_3, qq_4, qq_5, qq_6, qq_7, qq_8) o10 ho10 H.size) (cwV 0 hts gX2_aim_X2_planAnew rfl rfl rfl (by decide +kernel) ⟨Nat.le_of_ble_eq_true rfl, Nat.le_of_ble_eq_true rfl⟩) (xk_preV hK hNE (hP.sub (ws' := (wXO xa (ya 0) la (pa 0) (qa 0) ++ (wLO G la lo ++ (wSYc G ya o9.2.1 o9.2.2.1 o9.2.2.2.1 o9.2.2.2.2.1 o9.2.2.2.2.2.1 yy_5 o9.2.2.2.2.2.2.1 yy_7 o9.2.2.2.2.2.2.2 ++ (wPLc G pa pp_0 pp_1 pp_2 pp_3 pp_4 pp_5 pp_6 pp_7 pp_8 ++ (wPLc G qa qq_0 qq_1 qq_2 qq_3 qq_4 qq_5 qq_6 qq_7 qq_8)))))) [0, 1, 2, 3, 4, 5, 6, 7, 8, 9, 10, 11, 12, 13, 14, 15, 16, 17, 18, 19, 20, 21, 22, 23, 24] rfl) (hD.sub (ws' := (wXO xa (ya 0) la (pa 0) (qa 0) ++ (wLO G la lo ++ (wSYc G ya o9.2.1 o9.2.2.1 o9.2.2.2.1 o9.2.2.2.2.1 o9.2.2.2.2.2.1 yy_5 o9.2.2.2.2.2.2.1 yy_7 o9.2.2.2.2.2.2.2 ++ (wPLc G pa pp_0 pp_1 pp_2 pp_3 pp_4 pp_5 pp_6 pp_7 pp_8 ++ (wPLc G qa qq_0 qq_1 qq_2 qq_3 qq_4 qq_5 qq_6 qq_7 qq_8)))))) [0, 1, 2, 3, 4, 5, 6, 7, 8, 9, 10, 11, 12, 13, 14, 15, 16, 17, 18, 19, 20, 21, 22, 23, 24] (by decide) rfl) (ci := 2) rfl rfl) rfl rfl hl.1 rfl (lv_room (Nat.le_of_ble_eq_true rfl)) dX2_aim_121 ⟨Nat.le_of_ble_eq_true rfl, Nat.le_of_ble_eq_true rfl⟩) hP hD hS hA [0, 1, 2, 3, 4, 5, 6, 7, 8, 9, 10, 11, 12, 13, 14, 15, 16, 17, 18, 19, 20, 21, 22, 23, 24] [] [0, 1, 2, 3, 4, 5, 6, 7, 8, 9, 10, 18, 19, 20, 21, 22, 23, 24, 11, 12, 13, 14, 15, 16, 17] rfl rfl (by decide) (by decide) rfl (by decide) (fun H locs hP hD hS => ?_)
            have hP : va_P G.1 vwCl (wXO xa (ya 0) la (qa 0) (pa 0) ++ (wLO G la lo ++ (wSYc G ya o9.2.1 o9.2.2.1 o9.2.2.2.1 o9.2.2.2.2.1 o9.2.2.2.2.2.1 yy_5 o9.2.2.2.2.2.2.1 yy_7 o9.2.2.2.2.2.2.2 ++ (wPLc G pa o10.2.1 o10.2.2.1 o10.2.2.2.1 o10.2.2.2.2.1 o10.2.2.2.2.2.1 o10.2.2.2.2.2.2.1 o10.2.2.2.2.2.2.2.1 o10.2.2.2.2.2.2.2.2.1 o10.2.2.2.2.2.2.2.2.2 ++ (wPLc G qa o10.1.1 o10.1.2.1 o10.1.2.2.1 o10.1.2.2.2.1 o10.1.2.2.2.2.1 o10.1.2.2.2.2.2.1 o10.1.2.2.2.2.2.2.1 o10.1.2.2.2.2.2.2.2.1 o10.1.2.2.2.2.2.2.2.2))))) H := hP
            have hD : va_D A (wXO xa (ya 0) la (qa 0) (pa 0) ++ (wLO G la lo ++ (wSYc G ya o9.2.1 o9.2.2.1 o9.2.2.2.1 o9.2.2.2.2.1 o9.2.2.2.2.2.1 yy_5 o9.2.2.2.2.2.2.1 yy_7 o9.2.2.2.2.2.2.2 ++ (wPLc G pa o10.2.1 o10.2.2.1 o10.2.2.2.1 o10.2.2.2.2.1 o10.2.2.2.2.2.1 o10.2.2.2.2.2.2.1 o10.2.2.2.2.2.2.2.1 o10.2.2.2.2.2.2.2.2.1 o10.2.2.2.2.2.2.2.2.2 ++ (wPLc G qa o10.1.1 o10.1.2.1 o10.1.2.2.1 o10.1.2.2.2.1 o10.1.2.2.2.2.1 o10.1.2.2.2.2.2.1 o10.1.2.2.2.2.2.2.1 o10.1.2.2.2.2.2.2.2.1 o10.1.2.2.2.2.2.2.2.2))))) := hD
            refine lv_iload hx hb dX2_aim_124 (lv_at hl 0 rfl) ?_
            obtain rfl := sp_s h
            exact xk_reX hx hb hr hlk (hP.sub (ws' := (wXO xa (ya 0) la (qa 0) (pa 0) ++ (wLO G la lo ++ (wSYc G ya o9.2.1 o9.2.2.1 o9.2.2.2.1 o9.2.2.2.2.1 o9.2.2.2.2.2.1 yy_5 o9.2.2.2.2.2.2.1 yy_7 o9.2.2.2.2.2.2.2 ++ (wPLc G qa o10.1.1 o10.1.2.1 o10.1.2.2.1 o10.1.2.2.2.1 o10.1.2.2.2.2.1 o10.1.2.2.2.2.2.1 o10.1.2.2.2.2.2.2.1 o10.1.2.2.2.2.2.2.2.1 o10.1.2.2.2.2.2.2.2.2 ++ (wPLc G pa o10.2.1 o10.2.2.1 o10.2.2.2.1 o10.2.2.2.2.1 o10.2.2.2.2.2.1 o10.2.2.2.2.2.2.1 o10.2.2.2.2.2.2.2.1 o10.2.2.2.2.2.2.2.2.1 o10.2.2.2.2.2.2.2.2.2)))))) [0, 1, 2, 3, 4, 5, 6, 7, 8, 9, 10, 18, 19, 20, 21, 22, 23, 24, 11, 12, 13, 14, 15, 16, 17] rfl) (hD.sub (ws' := (wXO xa (ya 0) la (qa 0) (pa 0) ++ (wLO G la lo ++ (wSYc G ya o9.2.1 o9.2.2.1 o9.2.2.2.1 o9.2.2.2.2.1 o9.2.2.2.2.2.1 yy_5 o9.2.2.2.2.2.2.1 yy_7 o9.2.2.2.2.2.2.2 ++ (wPLc G qa o10.1.1 o10.1.2.1 o10.1.2.2.1 o10.1.2.2.2.1 o10.1.2.2.2.2.1 o10.1.2.2.2.2.2.1 o10.1.2.2.2.2.2.2.1 o10.1.2.2.2.2.2.2.2.1 o10.1.2.2.2.2.2.2.2.2 ++ (wPLc G pa o10.2.1 o10.2.2.1 o10.2.2.2.1 o10.2.2.2.2.1 o10.2.2.2.2.2.1 o10.2.2.2.2.2.2.1 o10.2.2.2.2.2.2.2.1 o10.2.2.2.2.2.2.2.2.1 o10.2.2.2.2.2.2.2.2.2)))))) [0, 1, 2, 3, 4, 5, 6, 7, 8, 9, 10, 18, 19, 20, 21, 22, 23, 24, 11, 12, 13, 14, 15, 16, 17] (by decide) rfl) hS rfl rfl dX2_aim_126 (Nat.zero_le _) (Nat.zero_le _)
          · have h := sp_f c8 h
            obtain rfl := sp_s h
            exact xk_throw (text := "there are 12 aims already") hx hb hl9 hown xk_ft_ISE (hts (.classLink RX2 51 "java/lang/IllegalStateException") (by decide +kernel)) (hts (.initialized "java/lang/IllegalStateException") (by decide +kernel)) (hSR.2.2.2.2.1) hwISE hXB (hXB.2.2.2.2.1) xk_ng_ISE xk_gd_ISE hZX hP hD hS (hl.1.trans hml.symm) dX2_aim_96 dX2_aim_99 dX2_aim_100 dX2_aim_102 dX2_aim_105 hxt (by decide) (by decide) (Nat.le_refl _) (Nat.le_refl _) hlk (show ¬ (2 : Nat) = 0 by decide) rfl (Nat.le_refl _) (Nat.le_refl _)
        · have h := sp_f c7 h
          refine lv_iload hx hb dX2_aim_64 (lv_at hl 4 rfl) ?_
          refine lv_iconst (v := (0 : Int32)) hx hb dX2_aim_66 (by decide) ?_
          refine lv_iconst (v := (2 : Int32)) hx hb dX2_aim_67 (by decide) ?_
          obtain ⟨o11, ho11, h⟩ := sp_b h
          refine xk_ci (va_runS (As := [.int i4, .int (0 : Int32), .int (2 : Int32)]) (rest := []) ⟨hx, hb, hml, hown, hts⟩ (c_X2_isWithin l G i4 (0 : Int32) (2 : Int32) o11 ho11 H.size) (va_cwS 3 hts gX2_aim_X2_isWithin rfl rfl rfl (by decide +kernel) ⟨Nat.le_of_ble_eq_true rfl, Nat.le_of_ble_eq_true rfl⟩) (xk_preS hK hNE (hP.sub (ws' := []) [] rfl) (hD.sub (ws' := []) [] (by decide) rfl)) rfl rfl hl.1 rfl (lv_room (Nat.le_of_ble_eq_true rfl)) dX2_aim_68 ⟨Nat.le_of_ble_eq_true rfl, Nat.le_of_ble_eq_true rfl⟩) hP hD hS hA [] [0, 1, 2, 3, 4, 5, 6, 7, 8, 9, 10, 11, 12, 13, 14, 15, 16, 17, 18, 19, 20, 21, 22, 23, 24] [0, 1, 2, 3, 4, 5, 6, 7, 8, 9, 10, 11, 12, 13, 14, 15, 16, 17, 18, 19, 20, 21, 22, 23, 24] rfl rfl (by decide) (by decide) rfl (by decide) (fun H locs hP hD hS => ?_)
          have hP : va_P G.1 vwCl (wXO xa (ya 0) la (pa 0) (qa 0) ++ (wLO G la lo ++ (wSYc G ya yy_0 yy_1 yy_2 yy_3 yy_4 yy_5 yy_6 yy_7 yy_8 ++ (wPLc G pa pp_0 pp_1 pp_2 pp_3 pp_4 pp_5 pp_6 pp_7 pp_8 ++ (wPLc G qa qq_0 qq_1 qq_2 qq_3 qq_4 qq_5 qq_6 qq_7 qq_8))))) H := hP
          have hD : va_D A (wXO xa (ya 0) la (pa 0) (qa 0) ++ (wLO G la lo ++ (wSYc G ya yy_0 yy_1 yy_2 yy_3 yy_4 yy_5 yy_6 yy_7 yy_8 ++ (wPLc G pa pp_0 pp_1 pp_2 pp_3 pp_4 pp_5 pp_6 pp_7 pp_8 ++ (wPLc G qa qq_0 qq_1 qq_2 qq_3 qq_4 qq_5 qq_6 qq_7 qq_8))))) := hD
          refine lv_if_ne (tgt := 84) hx hb dX2_aim_71 (by decide) (fun c12 => ?_) (fun c12 => ?_)
          · have h := sp_f c12 h
            refine lv_aload_n hx hb dX2_aim_84 rfl (lv_at hl 0 rfl) ?_
            refine va_get (D := G.1) (ci := 2) (v := .ref (ya 0)) (C := RX2) (T := TX2) (N := 4) hx hb hts hinX2 hown hK hP 0 rfl rfl 0 (by decide) (hts (.fieldLink RX2 10 "LessonWeave" "syllabus" "LLessonWeave$Syllabus;") (by decide +kernel)) (fun _ h9 => h9) rfl dX2_aim_85 ?_
            refine va_getN (D := G.1) (ci := 1) (v := .int yy_0) (C := RX1) (T := TX1) (N := 9) hx hb hts hinX1 hown hK hP 2 rfl rfl 0 (by decide) (va_Nw.use rfl hNE.1) (fun _ h9 => h9) rfl dX2_aim_88 ?_
            refine lv_bipush (v := (12 : Int32)) hx hb dX2_aim_91 (by decide) ?_
            refine lv_icmp_lt (tgt := 106) hx hb dX2_aim_93 (by decide) (fun c13 => ?_) (fun c13 => ?_)
            · have h := sp_t c13 h
              refine lv_aload_n hx hb dX2_aim_106 rfl (lv_at hl 0 rfl) ?_
              refine va_get (D := G.1) (ci := 2) (v := .ref (ya 0)) (C := RX2) (T := TX2) (N := 4) hx hb hts hinX2 hown hK hP 0 rfl rfl 0 (by decide) (hts (.fieldLink RX2 10 "LessonWeave" "syllabus" "LLessonWeave$Syllabus;") (by decide +kernel)) (fun _ h9 => h9) rfl dX2_aim_107 ?_
              refine lv_iload_n hx hb dX2_aim_110 rfl (lv_at hl 1 rfl) ?_
              refine lv_iload_n hx hb dX2_aim_111 rfl (lv_at hl 2 rfl) ?_
              refine lv_iload_n hx hb dX2_aim_112 rfl (lv_at hl 3 rfl) ?_
              refine lv_iload hx hb dX2_aim_113 (lv_at hl 4 rfl) ?_
              obtain ⟨o14, ho14, h⟩ := sp_b h
              refine xk_ci (va_runV (As := [.int i1, .int i2, .int i3, .int i4]) (rest := []) ⟨hx, hb, hml, hown, hts⟩ (c_X1_add l G ya (yy_0, yy_1, yy_2, yy_3, yy_4, yy_5, yy_6, yy_7, yy_8) i1 i2 i3 i4 o14 ho14 H.size) (cwV 4 hts gX2_aim_X1_add rfl rfl rfl (by decide +kernel) ⟨Nat.le_of_ble_eq_true rfl, Nat.le_of_ble_eq_true rfl⟩) (xk_preV hK hNE (hP.sub (ws' := (wSYc G ya yy_0 yy_1 yy_2 yy_3 yy_4 yy_5 yy_6 yy_7 yy_8)) [2, 3, 4, 5, 6, 7, 8, 9, 10] rfl) (hD.sub (ws' := (wSYc G ya yy_0 yy_1 yy_2 yy_3 yy_4 yy_5 yy_6 yy_7 yy_8)) [2, 3, 4, 5, 6, 7, 8, 9, 10] (by decide) rfl) (ci := 1) rfl rfl) rfl rfl hl.1 rfl (lv_room (Nat.le_of_ble_eq_true rfl)) dX2_aim_115 ⟨Nat.le_of_ble_eq_true rfl, Nat.le_of_ble_eq_true rfl⟩) hP hD hS hA [2, 3, 4, 5, 6, 7, 8, 9, 10] [0, 1, 11, 12, 13, 14, 15, 16, 17, 18, 19, 20, 21, 22, 23, 24] [0, 1, 16, 17, 18, 19, 20, 21, 22, 23, 24, 2, 3, 4, 5, 6, 7, 8, 9, 10, 11, 12, 13, 14, 15] rfl rfl (by decide) (by decide) rfl (by decide) (fun H locs hP hD hS => ?_)
              have hP : va_P G.1 vwCl (wXO xa (ya 0) la (pa 0) (qa 0) ++ (wLO G la lo ++ (wSYc G ya o14.2.1 o14.2.2.1 o14.2.2.2.1 o14.2.2.2.2.1 o14.2.2.2.2.2.1 yy_5 o14.2.2.2.2.2.2.1 yy_7 o14.2.2.2.2.2.2.2 ++ (wPLc G pa pp_0 pp_1 pp_2 pp_3 pp_4 pp_5 pp_6 pp_7 pp_8 ++ (wPLc G qa qq_0 qq_1 qq_2 qq_3 qq_4 qq_5 qq_6 qq_7 qq_8))))) H := hP
              have hD : va_D A (wXO xa (ya 0) la (pa 0) (qa 0) ++ (wLO G la lo ++ (wSYc G ya o14.2.1 o14.2.2.1 o14.2.2.2.1 o14.2.2.2.2.1 o14.2.2.2.2.2.1 yy_5 o14.2.2.2.2.2.2.1 yy_7 o14.2.2.2.2.2.2.2 ++ (wPLc G pa pp_0 pp_1 pp_2 pp_3 pp_4 pp_5 pp_6 pp_7 pp_8 ++ (wPLc G qa qq_0 qq_1 qq_2 qq_3 qq_4 qq_5 qq_6 qq_7 qq_8))))) := hD
              refine lv_istore (lv' := [(5, .int o14.1), (0, .ref xa), (1, .int i1), (2, .int i2), (3, .int i3), (4, .int i4)]) hx hb dX2_aim_118 hl (by decide) rfl (fun ls hl => ?_)
              refine lv_aload_n hx hb dX2_aim_120 rfl (lv_at hl 1 rfl) ?_
              obtain ⟨o15, ho15, h⟩ := sp_b h
              refine xk_cv (va_runV (As := []) (rest := []) ⟨hx, hb, hml, hown, hts⟩ (c_X2_planAnew l G xa la ya pa qa lo (o14.2.1, o14.2.2.1, o14.2.2.2.1, o14.2.2.2.2.1, o14.2.2.2.2.2.1, yy_5, o14.2.2.2.2.2.2.1, yy_7, o14.2.2.2.2.2.2.2) (pp_0, pp_1, pp_2, pp_3, pp_4, pp_5, pp_6, pp_7, pp_8) (qq_0, qq_1, qq_2, qq_3, qq_4, qq_5, qq_6, qq_7, qq_8) o15 ho15 H.size) (cwV 0 hts gX2_aim_X2_planAnew rfl rfl rfl (by decide +kernel) ⟨Nat.le_of_ble_eq_true rfl, Nat.le_of_ble_eq_true rfl⟩) (xk_preV hK hNE (hP.sub (ws' := (wXO xa (ya 0) la (pa 0) (qa 0) ++ (wLO G la lo ++ (wSYc G ya o14.2.1 o14.2.2.1 o14.2.2.2.1 o14.2.2.2.2.1 o14.2.2.2.2.2.1 yy_5 o14.2.2.2.2.2.2.1 yy_7 o14.2.2.2.2.2.2.2 ++ (wPLc G pa pp_0 pp_1 pp_2 pp_3 pp_4 pp_5 pp_6 pp_7 pp_8 ++ (wPLc G qa qq_0 qq_1 qq_2 qq_3 qq_4 qq_5 qq_6 qq_7 qq_8)))))) [0, 1, 2, 3, 4, 5, 6, 7, 8, 9, 10, 11, 12, 13, 14, 15, 16, 17, 18, 19, 20, 21, 22, 23, 24] rfl) (hD.sub (ws' := (wXO xa (ya 0) la (pa 0) (qa 0) ++ (wLO G la lo ++ (wSYc G ya o14.2.1 o14.2.2.1 o14.2.2.2.1 o14.2.2.2.2.1 o14.2.2.2.2.2.1 yy_5 o14.2.2.2.2.2.2.1 yy_7 o14.2.2.2.2.2.2.2 ++ (wPLc G pa pp_0 pp_1 pp_2 pp_3 pp_4 pp_5 pp_6 pp_7 pp_8 ++ (wPLc G qa qq_0 qq_1 qq_2 qq_3 qq_4 qq_5 qq_6 qq_7 qq_8)))))) [0, 1, 2, 3, 4, 5, 6, 7, 8, 9, 10, 11, 12, 13, 14, 15, 16, 17, 18, 19, 20, 21, 22, 23, 24] (by decide) rfl) (ci := 2) rfl rfl) rfl rfl hl.1 rfl (lv_room (Nat.le_of_ble_eq_true rfl)) dX2_aim_121 ⟨Nat.le_of_ble_eq_true rfl, Nat.le_of_ble_eq_true rfl⟩) hP hD hS hA [0, 1, 2, 3, 4, 5, 6, 7, 8, 9, 10, 11, 12, 13, 14, 15, 16, 17, 18, 19, 20, 21, 22, 23, 24] [] [0, 1, 2, 3, 4, 5, 6, 7, 8, 9, 10, 18, 19, 20, 21, 22, 23, 24, 11, 12, 13, 14, 15, 16, 17] rfl rfl (by decide) (by decide) rfl (by decide) (fun H locs hP hD hS => ?_)
              have hP : va_P G.1 vwCl (wXO xa (ya 0) la (qa 0) (pa 0) ++ (wLO G la lo ++ (wSYc G ya o14.2.1 o14.2.2.1 o14.2.2.2.1 o14.2.2.2.2.1 o14.2.2.2.2.2.1 yy_5 o14.2.2.2.2.2.2.1 yy_7 o14.2.2.2.2.2.2.2 ++ (wPLc G pa o15.2.1 o15.2.2.1 o15.2.2.2.1 o15.2.2.2.2.1 o15.2.2.2.2.2.1 o15.2.2.2.2.2.2.1 o15.2.2.2.2.2.2.2.1 o15.2.2.2.2.2.2.2.2.1 o15.2.2.2.2.2.2.2.2.2 ++ (wPLc G qa o15.1.1 o15.1.2.1 o15.1.2.2.1 o15.1.2.2.2.1 o15.1.2.2.2.2.1 o15.1.2.2.2.2.2.1 o15.1.2.2.2.2.2.2.1 o15.1.2.2.2.2.2.2.2.1 o15.1.2.2.2.2.2.2.2.2))))) H := hP
              have hD : va_D A (wXO xa (ya 0) la (qa 0) (pa 0) ++ (wLO G la lo ++ (wSYc G ya o14.2.1 o14.2.2.1 o14.2.2.2.1 o14.2.2.2.2.1 o14.2.2.2.2.2.1 yy_5 o14.2.2.2.2.2.2.1 yy_7 o14.2.2.2.2.2.2.2 ++ (wPLc G pa o15.2.1 o15.2.2.1 o15.2.2.2.1 o15.2.2.2.2.1 o15.2.2.2.2.2.1 o15.2.2.2.2.2.2.1 o15.2.2.2.2.2.2.2.1 o15.2.2.2.2.2.2.2.2.1 o15.2.2.2.2.2.2.2.2.2 ++ (wPLc G qa o15.1.1 o15.1.2.1 o15.1.2.2.1 o15.1.2.2.2.1 o15.1.2.2.2.2.1 o15.1.2.2.2.2.2.1 o15.1.2.2.2.2.2.2.1 o15.1.2.2.2.2.2.2.2.1 o15.1.2.2.2.2.2.2.2.2))))) := hD
              refine lv_iload hx hb dX2_aim_124 (lv_at hl 0 rfl) ?_
              obtain rfl := sp_s h
              exact xk_reX hx hb hr hlk (hP.sub (ws' := (wXO xa (ya 0) la (qa 0) (pa 0) ++ (wLO G la lo ++ (wSYc G ya o14.2.1 o14.2.2.1 o14.2.2.2.1 o14.2.2.2.2.1 o14.2.2.2.2.2.1 yy_5 o14.2.2.2.2.2.2.1 yy_7 o14.2.2.2.2.2.2.2 ++ (wPLc G qa o15.1.1 o15.1.2.1 o15.1.2.2.1 o15.1.2.2.2.1 o15.1.2.2.2.2.1 o15.1.2.2.2.2.2.1 o15.1.2.2.2.2.2.2.1 o15.1.2.2.2.2.2.2.2.1 o15.1.2.2.2.2.2.2.2.2 ++ (wPLc G pa o15.2.1 o15.2.2.1 o15.2.2.2.1 o15.2.2.2.2.1 o15.2.2.2.2.2.1 o15.2.2.2.2.2.2.1 o15.2.2.2.2.2.2.2.1 o15.2.2.2.2.2.2.2.2.1 o15.2.2.2.2.2.2.2.2.2)))))) [0, 1, 2, 3, 4, 5, 6, 7, 8, 9, 10, 18, 19, 20, 21, 22, 23, 24, 11, 12, 13, 14, 15, 16, 17] rfl) (hD.sub (ws' := (wXO xa (ya 0) la (qa 0) (pa 0) ++ (wLO G la lo ++ (wSYc G ya o14.2.1 o14.2.2.1 o14.2.2.2.1 o14.2.2.2.2.1 o14.2.2.2.2.2.1 yy_5 o14.2.2.2.2.2.2.1 yy_7 o14.2.2.2.2.2.2.2 ++ (wPLc G qa o15.1.1 o15.1.2.1 o15.1.2.2.1 o15.1.2.2.2.1 o15.1.2.2.2.2.1 o15.1.2.2.2.2.2.1 o15.1.2.2.2.2.2.2.1 o15.1.2.2.2.2.2.2.2.1 o15.1.2.2.2.2.2.2.2.2 ++ (wPLc G pa o15.2.1 o15.2.2.1 o15.2.2.2.1 o15.2.2.2.2.1 o15.2.2.2.2.2.1 o15.2.2.2.2.2.2.1 o15.2.2.2.2.2.2.2.1 o15.2.2.2.2.2.2.2.2.1 o15.2.2.2.2.2.2.2.2.2)))))) [0, 1, 2, 3, 4, 5, 6, 7, 8, 9, 10, 18, 19, 20, 21, 22, 23, 24, 11, 12, 13, 14, 15, 16, 17] (by decide) rfl) hS rfl rfl dX2_aim_126 (Nat.zero_le _) (Nat.zero_le _)
            · have h := sp_f c13 h
              obtain rfl := sp_s h
              exact xk_throw (text := "there are 12 aims already") hx hb hl9 hown xk_ft_ISE (hts (.classLink RX2 51 "java/lang/IllegalStateException") (by decide +kernel)) (hts (.initialized "java/lang/IllegalStateException") (by decide +kernel)) (hSR.2.2.2.2.1) hwISE hXB (hXB.2.2.2.2.1) xk_ng_ISE xk_gd_ISE hZX hP hD hS (hl.1.trans hml.symm) dX2_aim_96 dX2_aim_99 dX2_aim_100 dX2_aim_102 dX2_aim_105 hxt (by decide) (by decide) (Nat.le_refl _) (Nat.le_refl _) hlk (show ¬ (2 : Nat) = 0 by decide) rfl (Nat.le_refl _) (Nat.le_refl _)
          · have h := sp_t c12 h
            obtain rfl := sp_s h
            exact xk_throw (text := "a kit is 0 to 2, or NONE") hx hb hl9 hown xk_ft_IAE (hts (.classLink RX2 34 "java/lang/IllegalArgumentException") (by decide +kernel)) (hts (.initialized "java/lang/IllegalArgumentException") (by decide +kernel)) (hSR.2.2.2.1) hwIAE hXB (hXB.2.2.2.1) xk_ng_IAE xk_gd_IAE hZX hP hD hS (hl.1.trans hml.symm) dX2_aim_74 dX2_aim_77 dX2_aim_78 dX2_aim_80 dX2_aim_83 hxt (by decide) (by decide) (Nat.le_refl _) (Nat.le_refl _) hlk (show ¬ (1 : Nat) = 0 by decide) rfl (Nat.le_refl _) (Nat.le_refl _)
      · have h := sp_t c6 h
        obtain rfl := sp_s h
        exact xk_throw (text := "a worth is 1 to 99") hx hb hl9 hown xk_ft_IAE (hts (.classLink RX2 34 "java/lang/IllegalArgumentException") (by decide +kernel)) (hts (.initialized "java/lang/IllegalArgumentException") (by decide +kernel)) (hSR.2.2.1) hwIAE hXB (hXB.2.2.2.1) xk_ng_IAE xk_gd_IAE hZX hP hD hS (hl.1.trans hml.symm) dX2_aim_48 dX2_aim_51 dX2_aim_52 dX2_aim_54 dX2_aim_57 hxt (by decide) (by decide) (Nat.le_refl _) (Nat.le_refl _) hlk (show ¬ (1 : Nat) = 0 by decide) rfl (Nat.le_refl _) (Nat.le_refl _)
    · have h := sp_t c4 h
      obtain rfl := sp_s h
      exact xk_throw (text := "a kind is 0 to 3") hx hb hl9 hown xk_ft_IAE (hts (.classLink RX2 34 "java/lang/IllegalArgumentException") (by decide +kernel)) (hts (.initialized "java/lang/IllegalArgumentException") (by decide +kernel)) (hSR.2.1) hwIAE hXB (hXB.2.2.2.1) xk_ng_IAE xk_gd_IAE hZX hP hD hS (hl.1.trans hml.symm) dX2_aim_28 dX2_aim_31 dX2_aim_32 dX2_aim_34 dX2_aim_37 hxt (by decide) (by decide) (Nat.le_refl _) (Nat.le_refl _) hlk (show ¬ (1 : Nat) = 0 by decide) rfl (Nat.le_refl _) (Nat.le_refl _)
  · have h := sp_t c2 h
    obtain rfl := sp_s h
    exact xk_throw (text := "an aim has 1 to 5 lessons") hx hb hl9 hown xk_ft_IAE (hts (.classLink RX2 34 "java/lang/IllegalArgumentException") (by decide +kernel)) (hts (.initialized "java/lang/IllegalArgumentException") (by decide +kernel)) (hSR.1) hwIAE hXB (hXB.2.2.2.1) xk_ng_IAE xk_gd_IAE hZX hP hD hS (hl.1.trans hml.symm) dX2_aim_9 dX2_aim_12 dX2_aim_13 dX2_aim_15 dX2_aim_18 hxt (by decide) (by decide) (Nat.le_refl _) (Nat.le_refl _) hlk (show ¬ (1 : Nat) = 0 by decide) rfl (Nat.le_refl _) (Nat.le_refl _)
