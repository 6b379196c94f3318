def f_X2_aims (lo : xF) (yy : xSY) (pp : xPL) (qq : xPL) : Option (Int32) :=
  some yy.1
theorem f_X2_aims_e (lo : xF) (yy_0 : Int32) (yy_1 : xF) (yy_2 : xF) (yy_3 : xF) (yy_4 : xF) (yy_5 : xF) (yy_6 : xF) (yy_7 : xF) (yy_8 : xF) (pp_0 : xF) (pp_1 : xF) (pp_2 : xF) (pp_3 : xF) (pp_4 : xF) (pp_5 : xF) (pp_6 : Int32) (pp_7 : Int32) (pp_8 : Int32) (qq_0 : xF) (qq_1 : xF) (qq_2 : xF) (qq_3 : xF) (qq_4 : xF) (qq_5 : xF) (qq_6 : Int32) (qq_7 : Int32) (qq_8 : Int32) : f_X2_aims lo (yy_0, yy_1, yy_2, yy_3, yy_4, yy_5, yy_6, yy_7, yy_8) (pp_0, pp_1, pp_2, pp_3, pp_4, pp_5, pp_6, pp_7, pp_8) (qq_0, qq_1, qq_2, qq_3, qq_4, qq_5, qq_6, qq_7, qq_8) =
  some yy_0 := rfl
def f_X2_laid (lo : xF) (yy : xSY) (pp : xPL) (qq : xPL) : Option (Int32) :=
  some pp.2.2.2.2.2.2.1
theorem f_X2_laid_e (lo : xF) (yy_0 : Int32) (yy_1 : xF) (yy_2 : xF) (yy_3 : xF) (yy_4 : xF) (yy_5 : xF) (yy_6 : xF) (yy_7 : xF) (yy_8 : xF) (pp_0 : xF) (pp_1 : xF) (pp_2 : xF) (pp_3 : xF) (pp_4 : xF) (pp_5 : xF) (pp_6 : Int32) (pp_7 : Int32) (pp_8 : Int32) (qq_0 : xF) (qq_1 : xF) (qq_2 : xF) (qq_3 : xF) (qq_4 : xF) (qq_5 : xF) (qq_6 : Int32) (qq_7 : Int32) (qq_8 : Int32) : f_X2_laid lo (yy_0, yy_1, yy_2, yy_3, yy_4, yy_5, yy_6, yy_7, yy_8) (pp_0, pp_1, pp_2, pp_3, pp_4, pp_5, pp_6, pp_7, pp_8) (qq_0, qq_1, qq_2, qq_3, qq_4, qq_5, qq_6, qq_7, qq_8) =
  some pp_6 := rfl
def f_X2_late (lo : xF) (yy : xSY) (pp : xPL) (qq : xPL) : Option (Int32) :=
  some pp.2.2.2.2.2.2.2.1
theorem f_X2_late_e (lo : xF) (yy_0 : Int32) (yy_1 : xF) (yy_2 : xF) (yy_3 : xF) (yy_4 : xF) (yy_5 : xF) (yy_6 : xF) (yy_7 : xF) (yy_8 : xF) (pp_0 : xF) (pp_1 : xF) (pp_2 : xF) (pp_3 : xF) (pp_4 : xF) (pp_5 : xF) (pp_6 : Int32) (pp_7 : Int32) (pp_8 : Int32) (qq_0 : xF) (qq_1 : xF) (qq_2 : xF) (qq_3 : xF) (qq_4 : xF) (qq_5 : xF) (qq_6 : Int32) (qq_7 : Int32) (qq_8 : Int32) : f_X2_late lo (yy_0, yy_1, yy_2, yy_3, yy_4, yy_5, yy_6, yy_7, yy_8) (pp_0, pp_1, pp_2, pp_3, pp_4, pp_5, pp_6, pp_7, pp_8) (qq_0, qq_1, qq_2, qq_3, qq_4, qq_5, qq_6, qq_7, qq_8) =
  some pp_7 := rfl
def f_X2_lastDay (lo : xF) (yy : xSY) (pp : xPL) (qq : xPL) : Option (Int32) :=
  some pp.2.2.2.2.2.2.2.2
theorem f_X2_lastDay_e (lo : xF) (yy_0 : Int32) (yy_1 : xF) (yy_2 : xF) (yy_3 : xF) (yy_4 : xF) (yy_5 : xF) (yy_6 : xF) (yy_7 : xF) (yy_8 : xF) (pp_0 : xF) (pp_1 : xF) (pp_2 : xF) (pp_3 : xF) (pp_4 : xF) (pp_5 : xF) (pp_6 : Int32) (pp_7 : Int32) (pp_8 : Int32) (qq_0 : xF) (qq_1 : xF) (qq_2 : xF) (qq_3 : xF) (qq_4 : xF) (qq_5 : xF) (qq_6 : Int32) (qq_7 : Int32) (qq_8 : Int32) : f_X2_lastDay lo (yy_0, yy_1, yy_2, yy_3, yy_4, yy_5, yy_6, yy_7, yy_8) (pp_0, pp_1, pp_2, pp_3, pp_4, pp_5, pp_6, pp_7, pp_8) (qq_0, qq_1, qq_2, qq_3, qq_4, qq_5, qq_6, qq_7, qq_8) =
  some pp_8 := rfl
def f_X2_closedSets (lo : xF) (yy : xSY) (pp : xPL) (qq : xPL) : Option (Int32) :=
  Option.bind (f_X1_countClosed (yy.1, yy.2.1, yy.2.2.1, yy.2.2.2.1, yy.2.2.2.2.1, yy.2.2.2.2.2.1, yy.2.2.2.2.2.2.1, yy.2.2.2.2.2.2.2.1, yy.2.2.2.2.2.2.2.2)) fun (o1 : Int32) =>
  some o1
theorem f_X2_closedSets_e (lo : xF) (yy_0 : Int32) (yy_1 : xF) (yy_2 : xF) (yy_3 : xF) (yy_4 : xF) (yy_5 : xF) (yy_6 : xF) (yy_7 : xF) (yy_8 : xF) (pp_0 : xF) (pp_1 : xF) (pp_2 : xF) (pp_3 : xF) (pp_4 : xF) (pp_5 : xF) (pp_6 : Int32) (pp_7 : Int32) (pp_8 : Int32) (qq_0 : xF) (qq_1 : xF) (qq_2 : xF) (qq_3 : xF) (qq_4 : xF) (qq_5 : xF) (qq_6 : Int32) (qq_7 : Int32) (qq_8 : Int32) : f_X2_closedSets lo (yy_0, yy_1, yy_2, yy_3, yy_4, yy_5, yy_6, yy_7, yy_8) (pp_0, pp_1, pp_2, pp_3, pp_4, pp_5, pp_6, pp_7, pp_8) (qq_0, qq_1, qq_2, qq_3, qq_4, qq_5, qq_6, qq_7, qq_8) =
  Option.bind (f_X1_countClosed (yy_0, yy_1, yy_2, yy_3, yy_4, yy_5, yy_6, yy_7, yy_8)) fun (o1 : Int32) =>
  some o1 := rfl
def f_X2_aim (lo : xF) (yy : xSY) (pp : xPL) (qq : xPL) (i1 : Int32) (i2 : Int32) (i3 : Int32) (i4 : Int32) : Option (Int32 × Int32 × xF × xF × xF × xF × xF × xF × xPL × xPL) :=
  Option.bind (f_X2_isWithin i1 (1 : Int32) (5 : Int32)) fun (o1 : Int32) =>
  if o1 = 0 then
    none
  else
    Option.bind (f_X2_isWithin i2 (0 : Int32) (3 : Int32)) fun (o3 : Int32) =>
    if o3 = 0 then
      none
    else
      Option.bind (f_X2_isWithin i3 (1 : Int32) (99 : Int32)) fun (o5 : Int32) =>
      if o5 = 0 then
        none
      else
        if i4 = ((-1) : Int32) then
          if yy.1 < (12 : Int32) then
            Option.bind (f_X1_add (yy.1, yy.2.1, yy.2.2.1, yy.2.2.2.1, yy.2.2.2.2.1, yy.2.2.2.2.2.1, yy.2.2.2.2.2.2.1, yy.2.2.2.2.2.2.2.1, yy.2.2.2.2.2.2.2.2) i1 i2 i3 i4) fun (o9 : Int32 × Int32 × xF × xF × xF × xF × xF × xF) =>
            Option.bind (f_X2_planAnew lo (o9.2.1, o9.2.2.1, o9.2.2.2.1, o9.2.2.2.2.1, o9.2.2.2.2.2.1, yy.2.2.2.2.2.1, o9.2.2.2.2.2.2.1, yy.2.2.2.2.2.2.2.1, o9.2.2.2.2.2.2.2) (pp.1, pp.2.1, pp.2.2.1, pp.2.2.2.1, pp.2.2.2.2.1, pp.2.2.2.2.2.1, pp.2.2.2.2.2.2.1, pp.2.2.2.2.2.2.2.1, pp.2.2.2.2.2.2.2.2) (qq.1, qq.2.1, qq.2.2.1, qq.2.2.2.1, qq.2.2.2.2.1, qq.2.2.2.2.2.1, qq.2.2.2.2.2.2.1, qq.2.2.2.2.2.2.2.1, qq.2.2.2.2.2.2.2.2)) fun (o10 : xPL × xPL) =>
            some (o9.1, o9.2.1, o9.2.2.1, o9.2.2.2.1, o9.2.2.2.2.1, o9.2.2.2.2.2.1, o9.2.2.2.2.2.2.1, o9.2.2.2.2.2.2.2, o10.1, o10.2)
          else
            none
        else
          Option.bind (f_X2_isWithin i4 (0 : Int32) (2 : Int32)) fun (o11 : Int32) =>
          if o11 = 0 then
            none
          else
            if yy.1 < (12 : Int32) then
              Option.bind (f_X1_add (yy.1, yy.2.1, yy.2.2.1, yy.2.2.2.1, yy.2.2.2.2.1, yy.2.2.2.2.2.1, yy.2.2.2.2.2.2.1, yy.2.2.2.2.2.2.2.1, yy.2.2.2.2.2.2.2.2) i1 i2 i3 i4) fun (o14 : Int32 × Int32 × xF × xF × xF × xF × xF × xF) =>
              Option.bind (f_X2_planAnew lo (o14.2.1, o14.2.2.1, o14.2.2.2.1, o14.2.2.2.2.1, o14.2.2.2.2.2.1, yy.2.2.2.2.2.1, o14.2.2.2.2.2.2.1, yy.2.2.2.2.2.2.2.1, o14.2.2.2.2.2.2.2) (pp.1, pp.2.1, pp.2.2.1, pp.2.2.2.1, pp.2.2.2.2.1, pp.2.2.2.2.2.1, pp.2.2.2.2.2.2.1, pp.2.2.2.2.2.2.2.1, pp.2.2.2.2.2.2.2.2) (qq.1, qq.2.1, qq.2.2.1, qq.2.2.2.1, qq.2.2.2.2.1, qq.2.2.2.2.2.1, qq.2.2.2.2.2.2.1, qq.2.2.2.2.2.2.2.1, qq.2.2.2.2.2.2.2.2)) fun (o15 : xPL × xPL) =>
              some (o14.1, o14.2.1, o14.2.2.1, o14.2.2.2.1, o14.2.2.2.2.1, o14.2.2.2.2.2.1, o14.2.2.2.2.2.2.1, o14.2.2.2.2.2.2.2, o15.1, o15.2)
            else
              none
theorem f_X2_aim_e (lo : xF) (yy_0 : Int32) (yy_1 : xF) (yy_2 : xF) (yy_3 : xF) (yy_4 : xF) (yy_5 : xF) (yy_6 : xF) (yy_7 : xF) (yy_8 : xF) (pp_0 : xF) (pp_1 : xF) (pp_2 : xF) (pp_3 : xF) (pp_4 : xF) (pp_5 : xF) (pp_6 : Int32) (pp_7 : Int32) (pp_8 : Int32) (qq_0 : xF) (qq_1 : xF) (qq_2 : xF) (qq_3 : xF) (qq_4 : xF) (qq_5 : xF) (qq_6 : Int32) (qq_7 : Int32) (qq_8 : Int32) (i1 : Int32) (i2 : Int32) (i3 : Int32) (i4 : Int32) : f_X2_aim lo (yy_0, yy_1, yy_2, yy_3, yy_4, yy_5, yy_6, yy_7, yy_8) (pp_0, pp_1, pp_2, pp_3, pp_4, pp_5, pp_6, pp_7, pp_8) (qq_0, qq_1, qq_2, qq_3, qq_4, qq_5, qq_6, qq_7, qq_8) i1 i2 i3 i4 =
  Option.bind (f_X2_isWithin i1 (1 : Int32) (5 : Int32)) fun (o1 : Int32) =>
  if o1 = 0 then
    none
  else
    Option.bind (f_X2_isWithin i2 (0 : Int32) (3 : Int32)) fun (o3 : Int32) =>
    if o3 = 0 then
      none
    else
      Option.bind (f_X2_isWithin i3 (1 : Int32) (99 : Int32)) fun (o5 : Int32) =>
      if o5 = 0 then
        none
      else
        if i4 = ((-1) : Int32) then
          if yy_0 < (12 : Int32) then
            Option.bind (f_X1_add (yy_0, yy_1, yy_2, yy_3, yy_4, yy_5, yy_6, yy_7, yy_8) i1 i2 i3 i4) fun (o9 : Int32 × Int32 × xF × xF × xF × xF × xF × xF) =>
            Option.bind (f_X2_planAnew lo (o9.2.1, o9.2.2.1, o9.2.2.2.1, o9.2.2.2.2.1, o9.2.2.2.2.2.1, yy_5, o9.2.2.2.2.2.2.1, yy_7, o9.2.2.2.2.2.2.2) (pp_0, pp_1, pp_2, pp_3, pp_4, pp_5, pp_6, pp_7, pp_8) (qq_0, qq_1, qq_2, qq_3, qq_4, qq_5, qq_6, qq_7, qq_8)) fun (o10 : xPL × xPL) =>
            some (o9.1, o9.2.1, o9.2.2.1, o9.2.2.2.1, o9.2.2.2.2.1, o9.2.2.2.2.2.1, o9.2.2.2.2.2.2.1, o9.2.2.2.2.2.2.2, o10.1, o10.2)
          else
            none
        else
          Option.bind (f_X2_isWithin i4 (0 : Int32) (2 : Int32)) fun (o11 : Int32) =>
          if o11 = 0 then
            none
          else
            if yy_0 < (12 : Int32) then
              Option.bind (f_X1_add (yy_0, yy_1, yy_2, yy_3, yy_4, yy_5, yy_6, yy_7, yy_8) i1 i2 i3 i4) fun (o14 : Int32 × Int32 × xF × xF × xF × xF × xF × xF) =>
              Option.bind (f_X2_planAnew lo (o14.2.1, o14.2.2.1, o14.2.2.2.1, o14.2.2.2.2.1, o14.2.2.2.2.2.1, yy_5, o14.2.2.2.2.2.2.1, yy_7, o14.2.2.2.2.2.2.2) (pp_0, pp_1, pp_2, pp_3, pp_4, pp_5, pp_6, pp_7, pp_8) (qq_0, qq_1, qq_2, qq_3, qq_4, qq_5, qq_6, qq_7, qq_8)) fun (o15 : xPL × xPL) =>
              some (o14.1, o14.2.1, o14.2.2.1, o14.2.2.2.1, o14.2.2.2.2.1, o14.2.2.2.2.2.1, o14.2.2.2.2.2.2.1, o14.2.2.2.2.2.2.2, o15.1, o15.2)
            else
              none := rfl
def f_X2_revisits (lo : xF) (yy : xSY) (pp : xPL) (qq : xPL) (i1 : Int32) (i2 : Int32) (i3 : Int32) : Option (Int32 × xF × xF × xPL × xPL) :=
  Option.bind (f_X2_isAim lo (yy.1, yy.2.1, yy.2.2.1, yy.2.2.2.1, yy.2.2.2.2.1, yy.2.2.2.2.2.1, yy.2.2.2.2.2.2.1, yy.2.2.2.2.2.2.2.1, yy.2.2.2.2.2.2.2.2) (pp.1, pp.2.1, pp.2.2.1, pp.2.2.2.1, pp.2.2.2.2.1, pp.2.2.2.2.2.1, pp.2.2.2.2.2.2.1, pp.2.2.2.2.2.2.2.1, pp.2.2.2.2.2.2.2.2) (qq.1, qq.2.1, qq.2.2.1, qq.2.2.2.1, qq.2.2.2.2.1, qq.2.2.2.2.2.1, qq.2.2.2.2.2.2.1, qq.2.2.2.2.2.2.2.1, qq.2.2.2.2.2.2.2.2) i1) fun (o1 : Int32) =>
  if o1 = 0 then
    none
  else
    Option.bind (f_X2_isWithin i2 (0 : Int32) (3 : Int32)) fun (o3 : Int32) =>
    if o3 = 0 then
      none
    else
      Option.bind (f_X2_isWithin i3 (1 : Int32) (20 : Int32)) fun (o5 : Int32) =>
      if o5 = 0 then
        none
      else
        if i1 < 0 ∨ 12 ≤ i1.toNatClampNeg then none else
        Option.bind (f_X2_planAnew lo (yy.1, yy.2.1, yy.2.2.1, yy.2.2.2.1, yy.2.2.2.2.1, (upd yy.2.2.2.2.2.1 i1.toNatClampNeg i2), (upd yy.2.2.2.2.2.2.1 i1.toNatClampNeg i3), yy.2.2.2.2.2.2.2.1, yy.2.2.2.2.2.2.2.2) (pp.1, pp.2.1, pp.2.2.1, pp.2.2.2.1, pp.2.2.2.2.1, pp.2.2.2.2.2.1, pp.2.2.2.2.2.2.1, pp.2.2.2.2.2.2.2.1, pp.2.2.2.2.2.2.2.2) (qq.1, qq.2.1, qq.2.2.1, qq.2.2.2.1, qq.2.2.2.2.1, qq.2.2.2.2.2.1, qq.2.2.2.2.2.2.1, qq.2.2.2.2.2.2.2.1, qq.2.2.2.2.2.2.2.2)) fun (o8 : xPL × xPL) =>
        some ((yy.2.2.2.2.2.1 i1.toNatClampNeg), (upd yy.2.2.2.2.2.1 i1.toNatClampNeg i2), (upd yy.2.2.2.2.2.2.1 i1.toNatClampNeg i3), o8.1, o8.2)
theorem f_X2_revisits_e (lo : xF) (yy_0 : Int32) (yy_1 : xF) (yy_2 : xF) (yy_3 : xF) (yy_4 : xF) (yy_5 : xF) (yy_6 : xF) (yy_7 : xF) (yy_8 : xF) (pp_0 : xF) (pp_1 : xF) (pp_2 : xF) (pp_3 : xF) (pp_4 : xF) (pp_5 : xF) (pp_6 : Int32) (pp_7 : Int32) (pp_8 : Int32) (qq_0 : xF) (qq_1 : xF) (qq_2 : xF) (qq_3 : xF) (qq_4 : xF) (qq_5 : xF) (qq_6 : Int32) (qq_7 : Int32) (qq_8 : Int32) (i1 : Int32) (i2 : Int32) (i3 : Int32) : f_X2_revisits lo (yy_0, yy_1, yy_2, yy_3, yy_4, yy_5, yy_6, yy_7, yy_8) (pp_0, pp_1, pp_2, pp_3, pp_4, pp_5, pp_6, pp_7, pp_8) (qq_0, qq_1, qq_2, qq_3, qq_4, qq_5, qq_6, qq_7, qq_8) i1 i2 i3 =
  Option.bind (f_X2_isAim lo (yy_0, yy_1, yy_2, yy_3, yy_4, yy_5, yy_6, yy_7, yy_8) (pp_0, pp_1, pp_2, pp_3, pp_4, pp_5, pp_6, pp_7, pp_8) (qq_0, qq_1, qq_2, qq_3, qq_4, qq_5, qq_6, qq_7, qq_8) i1) fun (o1 : Int32) =>
  if o1 = 0 then
    none
  else
    Option.bind (f_X2_isWithin i2 (0 : Int32) (3 : Int32)) fun (o3 : Int32) =>
    if o3 = 0 then
      none
    else
      Option.bind (f_X2_isWithin i3 (1 : Int32) (20 : Int32)) fun (o5 : Int32) =>
      if o5 = 0 then
        none
      else
        if i1 < 0 ∨ 12 ≤ i1.toNatClampNeg then none else
        Option.bind (f_X2_planAnew lo (yy_0, yy_1, yy_2, yy_3, yy_4, (upd yy_5 i1.toNatClampNeg i2), (upd yy_6 i1.toNatClampNeg i3), yy_7, yy_8) (pp_0, pp_1, pp_2, pp_3, pp_4, pp_5, pp_6, pp_7, pp_8) (qq_0, qq_1, qq_2, qq_3, qq_4, qq_5, qq_6, qq_7, qq_8)) fun (o8 : xPL × xPL) =>
        some ((yy_5 i1.toNatClampNeg), (upd yy_5 i1.toNatClampNeg i2), (upd yy_6 i1.toNatClampNeg i3), o8.1, o8.2) := rfl
def f_X2_allNeeds (lo : xF) (yy : xSY) (pp : xPL) (qq : xPL) (i1 : Int32) : Option (Int32) :=
  Option.bind (f_X2_isAim lo (yy.1, yy.2.1, yy.2.2.1, yy.2.2.2.1, yy.2.2.2.2.1, yy.2.2.2.2.2.1, yy.2.2.2.2.2.2.1, yy.2.2.2.2.2.2.2.1, yy.2.2.2.2.2.2.2.2) (pp.1, pp.2.1, pp.2.2.1, pp.2.2.2.1, pp.2.2.2.2.1, pp.2.2.2.2.2.1, pp.2.2.2.2.2.2.1, pp.2.2.2.2.2.2.2.1, pp.2.2.2.2.2.2.2.2) (qq.1, qq.2.1, qq.2.2.1, qq.2.2.2.1, qq.2.2.2.2.1, qq.2.2.2.2.2.1, qq.2.2.2.2.2.2.1, qq.2.2.2.2.2.2.2.1, qq.2.2.2.2.2.2.2.2) i1) fun (o1 : Int32) =>
  if o1 = 0 then
    none
  else
    Option.bind (f_X1_reach (yy.1, yy.2.1, yy.2.2.1, yy.2.2.2.1, yy.2.2.2.2.1, yy.2.2.2.2.2.1, yy.2.2.2.2.2.2.1, yy.2.2.2.2.2.2.2.1, yy.2.2.2.2.2.2.2.2) i1) fun (o3 : Int32) =>
    some o3
theorem f_X2_allNeeds_e (lo : xF) (yy_0 : Int32) (yy_1 : xF) (yy_2 : xF) (yy_3 : xF) (yy_4 : xF) (yy_5 : xF) (yy_6 : xF) (yy_7 : xF) (yy_8 : xF) (pp_0 : xF) (pp_1 : xF) (pp_2 : xF) (pp_3 : xF) (pp_4 : xF) (pp_5 : xF) (pp_6 : Int32) (pp_7 : Int32) (pp_8 : Int32) (qq_0 : xF) (qq_1 : xF) (qq_2 : xF) (qq_3 : xF) (qq_4 : xF) (qq_5 : xF) (qq_6 : Int32) (qq_7 : Int32) (qq_8 : Int32) (i1 : Int32) : f_X2_allNeeds lo (yy_0, yy_1, yy_2, yy_3, yy_4, yy_5, yy_6, yy_7, yy_8) (pp_0, pp_1, pp_2, pp_3, pp_4, pp_5, pp_6, pp_7, pp_8) (qq_0, qq_1, qq_2, qq_3, qq_4, qq_5, qq_6, qq_7, qq_8) i1 =
  Option.bind (f_X2_isAim lo (yy_0, yy_1, yy_2, yy_3, yy_4, yy_5, yy_6, yy_7, yy_8) (pp_0, pp_1, pp_2, pp_3, pp_4, pp_5, pp_6, pp_7, pp_8) (qq_0, qq_1, qq_2, qq_3, qq_4, qq_5, qq_6, qq_7, qq_8) i1) fun (o1 : Int32) =>
  if o1 = 0 then
    none
  else
    Option.bind (f_X1_reach (yy_0, yy_1, yy_2, yy_3, yy_4, yy_5, yy_6, yy_7, yy_8) i1) fun (o3 : Int32) =>
    some o3 := rfl
def f_X2_ordered (lo : xF) (yy : xSY) (pp : xPL) (qq : xPL) (i1 : Int32) : Option (Int32) :=
  Option.bind (f_X2_isWithin i1 (0 : Int32) (yy.1 - (1 : Int32))) fun (o1 : Int32) =>
  if o1 = 0 then
    none
  else
    if i1 < 0 ∨ 12 ≤ i1.toNatClampNeg then none else
    some (yy.2.2.2.2.2.2.2.2 i1.toNatClampNeg)
theorem f_X2_ordered_e (lo : xF) (yy_0 : Int32) (yy_1 : xF) (yy_2 : xF) (yy_3 : xF) (yy_4 : xF) (yy_5 : xF) (yy_6 : xF) (yy_7 : xF) (yy_8 : xF) (pp_0 : xF) (pp_1 : xF) (pp_2 : xF) (pp_3 : xF) (pp_4 : xF) (pp_5 : xF) (pp_6 : Int32) (pp_7 : Int32) (pp_8 : Int32) (qq_0 : xF) (qq_1 : xF) (qq_2 : xF) (qq_3 : xF) (qq_4 : xF) (qq_5 : xF) (qq_6 : Int32) (qq_7 : Int32) (qq_8 : Int32) (i1 : Int32) : f_X2_ordered lo (yy_0, yy_1, yy_2, yy_3, yy_4, yy_5, yy_6, yy_7, yy_8) (pp_0, pp_1, pp_2, pp_3, pp_4, pp_5, pp_6, pp_7, pp_8) (qq_0, qq_1, qq_2, qq_3, qq_4, qq_5, qq_6, qq_7, qq_8) i1 =
  Option.bind (f_X2_isWithin i1 (0 : Int32) (yy_0 - (1 : Int32))) fun (o1 : Int32) =>
  if o1 = 0 then
    none
  else
    if i1 < 0 ∨ 12 ≤ i1.toNatClampNeg then none else
    some (yy_8 i1.toNatClampNeg) := rfl
def f_X2_lose (lo : xF) (yy : xSY) (pp : xPL) (qq : xPL) (i1 : Int32) : Option (Int32 × xF × xPL × xPL) :=
  Option.bind (f_X2_isDay i1) fun (o1 : Int32) =>
  if o1 = 0 then
    none
  else
    if i1 < 0 ∨ 100 ≤ i1.toNatClampNeg then none else
    if (lo i1.toNatClampNeg) = 0 then
      Option.bind (f_X2_planAnew (upd lo i1.toNatClampNeg (1 : Int32)) (yy.1, yy.2.1, yy.2.2.1, yy.2.2.2.1, yy.2.2.2.2.1, yy.2.2.2.2.2.1, yy.2.2.2.2.2.2.1, yy.2.2.2.2.2.2.2.1, yy.2.2.2.2.2.2.2.2) (pp.1, pp.2.1, pp.2.2.1, pp.2.2.2.1, pp.2.2.2.2.1, pp.2.2.2.2.2.1, pp.2.2.2.2.2.2.1, pp.2.2.2.2.2.2.2.1, pp.2.2.2.2.2.2.2.2) (qq.1, qq.2.1, qq.2.2.1, qq.2.2.2.1, qq.2.2.2.2.1, qq.2.2.2.2.2.1, qq.2.2.2.2.2.2.1, qq.2.2.2.2.2.2.2.1, qq.2.2.2.2.2.2.2.2)) fun (o5 : xPL × xPL) =>
      Option.bind (f_X0_movedSince o5.1 o5.2) fun (o6 : Int32) =>
      some (o6, (upd lo i1.toNatClampNeg (1 : Int32)), o5.1, o5.2)
    else
      none
theorem f_X2_lose_e (lo : xF) (yy_0 : Int32) (yy_1 : xF) (yy_2 : xF) (yy_3 : xF) (yy_4 : xF) (yy_5 : xF) (yy_6 : xF) (yy_7 : xF) (yy_8 : xF) (pp_0 : xF) (pp_1 : xF) (pp_2 : xF) (pp_3 : xF) (pp_4 : xF) (pp_5 : xF) (pp_6 : Int32) (pp_7 : Int32) (pp_8 : Int32) (qq_0 : xF) (qq_1 : xF) (qq_2 : xF) (qq_3 : xF) (qq_4 : xF) (qq_5 : xF) (qq_6 : Int32) (qq_7 : Int32) (qq_8 : Int32) (i1 : Int32) : f_X2_lose lo (yy_0, yy_1, yy_2, yy_3, yy_4, yy_5, yy_6, yy_7, yy_8) (pp_0, pp_1, pp_2, pp_3, pp_4, pp_5, pp_6, pp_7, pp_8) (qq_0, qq_1, qq_2, qq_3, qq_4, qq_5, qq_6, qq_7, qq_8) i1 =
  Option.bind (f_X2_isDay i1) fun (o1 : Int32) =>
  if o1 = 0 then
    none
  else
    if i1 < 0 ∨ 100 ≤ i1.toNatClampNeg then none else
    if (lo i1.toNatClampNeg) = 0 then
      Option.bind (f_X2_planAnew (upd lo i1.toNatClampNeg (1 : Int32)) (yy_0, yy_1, yy_2, yy_3, yy_4, yy_5, yy_6, yy_7, yy_8) (pp_0, pp_1, pp_2, pp_3, pp_4, pp_5, pp_6, pp_7, pp_8) (qq_0, qq_1, qq_2, qq_3, qq_4, qq_5, qq_6, qq_7, qq_8)) fun (o5 : xPL × xPL) =>
      Option.bind (f_X0_movedSince o5.1 o5.2) fun (o6 : Int32) =>
      some (o6, (upd lo i1.toNatClampNeg (1 : Int32)), o5.1, o5.2)
    else
      none := rfl
def f_X2_on (lo : xF) (yy : xSY) (pp : xPL) (qq : xPL) (i1 : Int32) : Option (Int32) :=
  Option.bind (f_X2_isDay i1) fun (o1 : Int32) =>
  if o1 = 0 then
    none
  else
    if i1 < 0 ∨ 100 ≤ i1.toNatClampNeg then none else
    some (pp.1 i1.toNatClampNeg)
theorem f_X2_on_e (lo : xF) (yy_0 : Int32) (yy_1 : xF) (yy_2 : xF) (yy_3 : xF) (yy_4 : xF) (yy_5 : xF) (yy_6 : xF) (yy_7 : xF) (yy_8 : xF) (pp_0 : xF) (pp_1 : xF) (pp_2 : xF) (pp_3 : xF) (pp_4 : xF) (pp_5 : xF) (pp_6 : Int32) (pp_7 : Int32) (pp_8 : Int32) (qq_0 : xF) (qq_1 : xF) (qq_2 : xF) (qq_3 : xF) (qq_4 : xF) (qq_5 : xF) (qq_6 : Int32) (qq_7 : Int32) (qq_8 : Int32) (i1 : Int32) : f_X2_on lo (yy_0, yy_1, yy_2, yy_3, yy_4, yy_5, yy_6, yy_7, yy_8) (pp_0, pp_1, pp_2, pp_3, pp_4, pp_5, pp_6, pp_7, pp_8) (qq_0, qq_1, qq_2, qq_3, qq_4, qq_5, qq_6, qq_7, qq_8) i1 =
  Option.bind (f_X2_isDay i1) fun (o1 : Int32) =>
  if o1 = 0 then
    none
  else
    if i1 < 0 ∨ 100 ≤ i1.toNatClampNeg then none else
    some (pp_0 i1.toNatClampNeg) := rfl
def f_X2_lessonDay (lo : xF) (yy : xSY) (pp : xPL) (qq : xPL) (i1 : Int32) (i2 : Int32) : Option (Int32) :=
  Option.bind (f_X2_isAim lo (yy.1, yy.2.1, yy.2.2.1, yy.2.2.2.1, yy.2.2.2.2.1, yy.2.2.2.2.2.1, yy.2.2.2.2.2.2.1, yy.2.2.2.2.2.2.2.1, yy.2.2.2.2.2.2.2.2) (pp.1, pp.2.1, pp.2.2.1, pp.2.2.2.1, pp.2.2.2.2.1, pp.2.2.2.2.2.1, pp.2.2.2.2.2.2.1, pp.2.2.2.2.2.2.2.1, pp.2.2.2.2.2.2.2.2) (qq.1, qq.2.1, qq.2.2.1, qq.2.2.2.1, qq.2.2.2.2.1, qq.2.2.2.2.2.1, qq.2.2.2.2.2.2.1, qq.2.2.2.2.2.2.2.1, qq.2.2.2.2.2.2.2.2) i1) fun (o1 : Int32) =>
  if o1 = 0 then
    none
  else
    if i1 < 0 ∨ 12 ≤ i1.toNatClampNeg then none else
    Option.bind (f_X2_isWithin i2 (0 : Int32) ((yy.2.1 i1.toNatClampNeg) - (1 : Int32))) fun (o4 : Int32) =>
    if o4 = 0 then
      none
    else
      if ((i1 * (5 : Int32)) + i2) < 0 ∨ 60 ≤ ((i1 * (5 : Int32)) + i2).toNatClampNeg then none else
      some (pp.2.1 ((i1 * (5 : Int32)) + i2).toNatClampNeg)
theorem f_X2_lessonDay_e (lo : xF) (yy_0 : Int32) (yy_1 : xF) (yy_2 : xF) (yy_3 : xF) (yy_4 : xF) (yy_5 : xF) (yy_6 : xF) (yy_7 : xF) (yy_8 : xF) (pp_0 : xF) (pp_1 : xF) (pp_2 : xF) (pp_3 : xF) (pp_4 : xF) (pp_5 : xF) (pp_6 : Int32) (pp_7 : Int32) (pp_8 : Int32) (qq_0 : xF) (qq_1 : xF) (qq_2 : xF) (qq_3 : xF) (qq_4 : xF) (qq_5 : xF) (qq_6 : Int32) (qq_7 : Int32) (qq_8 : Int32) (i1 : Int32) (i2 : Int32) : f_X2_lessonDay lo (yy_0, yy_1, yy_2, yy_3, yy_4, yy_5, yy_6, yy_7, yy_8) (pp_0, pp_1, pp_2, pp_3, pp_4, pp_5, pp_6, pp_7, pp_8) (qq_0, qq_1, qq_2, qq_3, qq_4, qq_5, qq_6, qq_7, qq_8) i1 i2 =
  Option.bind (f_X2_isAim lo (yy_0, yy_1, yy_2, yy_3, yy_4, yy_5, yy_6, yy_7, yy_8) (pp_0, pp_1, pp_2, pp_3, pp_4, pp_5, pp_6, pp_7, pp_8) (qq_0, qq_1, qq_2, qq_3, qq_4, qq_5, qq_6, qq_7, qq_8) i1) fun (o1 : Int32) =>
  if o1 = 0 then
    none
  else
    if i1 < 0 ∨ 12 ≤ i1.toNatClampNeg then none else
    Option.bind (f_X2_isWithin i2 (0 : Int32) ((yy_1 i1.toNatClampNeg) - (1 : Int32))) fun (o4 : Int32) =>
    if o4 = 0 then
      none
    else
      if ((i1 * (5 : Int32)) + i2) < 0 ∨ 60 ≤ ((i1 * (5 : Int32)) + i2).toNatClampNeg then none else
      some (pp_1 ((i1 * (5 : Int32)) + i2).toNatClampNeg) := rfl
def f_X2_revisitDay (lo : xF) (yy : xSY) (pp : xPL) (qq : xPL) (i1 : Int32) (i2 : Int32) : Option (Int32) :=
  Option.bind (f_X2_isAim lo (yy.1, yy.2.1, yy.2.2.1, yy.2.2.2.1, yy.2.2.2.2.1, yy.2.2.2.2.2.1, yy.2.2.2.2.2.2.1, yy.2.2.2.2.2.2.2.1, yy.2.2.2.2.2.2.2.2) (pp.1, pp.2.1, pp.2.2.1, pp.2.2.2.1, pp.2.2.2.2.1, pp.2.2.2.2.2.1, pp.2.2.2.2.2.2.1, pp.2.2.2.2.2.2.2.1, pp.2.2.2.2.2.2.2.2) (qq.1, qq.2.1, qq.2.2.1, qq.2.2.2.1, qq.2.2.2.2.1, qq.2.2.2.2.2.1, qq.2.2.2.2.2.2.1, qq.2.2.2.2.2.2.2.1, qq.2.2.2.2.2.2.2.2) i1) fun (o1 : Int32) =>
  if o1 = 0 then
    none
  else
    if i1 < 0 ∨ 12 ≤ i1.toNatClampNeg then none else
    Option.bind (f_X2_isWithin i2 (0 : Int32) ((yy.2.2.2.2.2.1 i1.toNatClampNeg) - (1 : Int32))) fun (o4 : Int32) =>
    if o4 = 0 then
      none
    else
      if ((i1 * (3 : Int32)) + i2) < 0 ∨ 36 ≤ ((i1 * (3 : Int32)) + i2).toNatClampNeg then none else
      some (pp.2.2.1 ((i1 * (3 : Int32)) + i2).toNatClampNeg)
theorem f_X2_revisitDay_e (lo : xF) (yy_0 : Int32) (yy_1 : xF) (yy_2 : xF) (yy_3 : xF) (yy_4 : xF) (yy_5 : xF) (yy_6 : xF) (yy_7 : xF) (yy_8 : xF) (pp_0 : xF) (pp_1 : xF) (pp_2 : xF) (pp_3 : xF) (pp_4 : xF) (pp_5 : xF) (pp_6 : Int32) (pp_7 : Int32) (pp_8 : Int32) (qq_0 : xF) (qq_1 : xF) (qq_2 : xF) (qq_3 : xF) (qq_4 : xF) (qq_5 : xF) (qq_6 : Int32) (qq_7 : Int32) (qq_8 : Int32) (i1 : Int32) (i2 : Int32) : f_X2_revisitDay lo (yy_0, yy_1, yy_2, yy_3, yy_4, yy_5, yy_6, yy_7, yy_8) (pp_0, pp_1, pp_2, pp_3, pp_4, pp_5, pp_6, pp_7, pp_8) (qq_0, qq_1, qq_2, qq_3, qq_4, qq_5, qq_6, qq_7, qq_8) i1 i2 =
  Option.bind (f_X2_isAim lo (yy_0, yy_1, yy_2, yy_3, yy_4, yy_5, yy_6, yy_7, yy_8) (pp_0, pp_1, pp_2, pp_3, pp_4, pp_5, pp_6, pp_7, pp_8) (qq_0, qq_1, qq_2, qq_3, qq_4, qq_5, qq_6, qq_7, qq_8) i1) fun (o1 : Int32) =>
  if o1 = 0 then
    none
  else
    if i1 < 0 ∨ 12 ≤ i1.toNatClampNeg then none else
    Option.bind (f_X2_isWithin i2 (0 : Int32) ((yy_5 i1.toNatClampNeg) - (1 : Int32))) fun (o4 : Int32) =>
    if o4 = 0 then
      none
    else
      if ((i1 * (3 : Int32)) + i2) < 0 ∨ 36 ≤ ((i1 * (3 : Int32)) + i2).toNatClampNeg then none else
      some (pp_2 ((i1 * (3 : Int32)) + i2).toNatClampNeg) := rfl
def f_X2_worthwhile (lo : xF) (yy : xSY) (pp : xPL) (qq : xPL) (i1 : Int32) : Option (Int32) :=
  Option.bind (f_X2_isWithin i1 (0 : Int32) (99 : Int32)) fun (o1 : Int32) =>
  if o1 = 0 then
    none
  else
    Option.bind (f_X1_bestSet (yy.1, yy.2.1, yy.2.2.1, yy.2.2.2.1, yy.2.2.2.2.1, yy.2.2.2.2.2.1, yy.2.2.2.2.2.2.1, yy.2.2.2.2.2.2.2.1, yy.2.2.2.2.2.2.2.2) i1) fun (o3 : Int32) =>
    some o3
theorem f_X2_worthwhile_e (lo : xF) (yy_0 : Int32) (yy_1 : xF) (yy_2 : xF) (yy_3 : xF) (yy_4 : xF) (yy_5 : xF) (yy_6 : xF) (yy_7 : xF) (yy_8 : xF) (pp_0 : xF) (pp_1 : xF) (pp_2 : xF) (pp_3 : xF) (pp_4 : xF) (pp_5 : xF) (pp_6 : Int32) (pp_7 : Int32) (pp_8 : Int32) (qq_0 : xF) (qq_1 : xF) (qq_2 : xF) (qq_3 : xF) (qq_4 : xF) (qq_5 : xF) (qq_6 : Int32) (qq_7 : Int32) (qq_8 : Int32) (i1 : Int32) : f_X2_worthwhile lo (yy_0, yy_1, yy_2, yy_3, yy_4, yy_5, yy_6, yy_7, yy_8) (pp_0, pp_1, pp_2, pp_3, pp_4, pp_5, pp_6, pp_7, pp_8) (qq_0, qq_1, qq_2, qq_3, qq_4, qq_5, qq_6, qq_7, qq_8) i1 =
  Option.bind (f_X2_isWithin i1 (0 : Int32) (99 : Int32)) fun (o1 : Int32) =>
  if o1 = 0 then
    none
  else
    Option.bind (f_X1_bestSet (yy_0, yy_1, yy_2, yy_3, yy_4, yy_5, yy_6, yy_7, yy_8) i1) fun (o3 : Int32) =>
    some o3 := rfl
def f_X2_bestNet (lo : xF) (yy : xSY) (pp : xPL) (qq : xPL) (i1 : Int32) : Option (Int32) :=
  Option.bind (f_X2_isWithin i1 (0 : Int32) (99 : Int32)) fun (o1 : Int32) =>
  if o1 = 0 then
    none
  else
    Option.bind (f_X1_bestSet (yy.1, yy.2.1, yy.2.2.1, yy.2.2.2.1, yy.2.2.2.2.1, yy.2.2.2.2.2.1, yy.2.2.2.2.2.2.1, yy.2.2.2.2.2.2.2.1, yy.2.2.2.2.2.2.2.2) i1) fun (o3 : Int32) =>
    Option.bind (f_X1_netOf (yy.1, yy.2.1, yy.2.2.1, yy.2.2.2.1, yy.2.2.2.2.1, yy.2.2.2.2.2.1, yy.2.2.2.2.2.2.1, yy.2.2.2.2.2.2.2.1, yy.2.2.2.2.2.2.2.2) o3 i1) fun (o4 : Int32) =>
    some o4
theorem f_X2_bestNet_e (lo : xF) (yy_0 : Int32) (yy_1 : xF) (yy_2 : xF) (yy_3 : xF) (yy_4 : xF) (yy_5 : xF) (yy_6 : xF) (yy_7 : xF) (yy_8 : xF) (pp_0 : xF) (pp_1 : xF) (pp_2 : xF) (pp_3 : xF) (pp_4 : xF) (pp_5 : xF) (pp_6 : Int32) (pp_7 : Int32) (pp_8 : Int32) (qq_0 : xF) (qq_1 : xF) (qq_2 : xF) (qq_3 : xF) (qq_4 : xF) (qq_5 : xF) (qq_6 : Int32) (qq_7 : Int32) (qq_8 : Int32) (i1 : Int32) : f_X2_bestNet lo (yy_0, yy_1, yy_2, yy_3, yy_4, yy_5, yy_6, yy_7, yy_8) (pp_0, pp_1, pp_2, pp_3, pp_4, pp_5, pp_6, pp_7, pp_8) (qq_0, qq_1, qq_2, qq_3, qq_4, qq_5, qq_6, qq_7, qq_8) i1 =
  Option.bind (f_X2_isWithin i1 (0 : Int32) (99 : Int32)) fun (o1 : Int32) =>
  if o1 = 0 then
    none
  else
    Option.bind (f_X1_bestSet (yy_0, yy_1, yy_2, yy_3, yy_4, yy_5, yy_6, yy_7, yy_8) i1) fun (o3 : Int32) =>
    Option.bind (f_X1_netOf (yy_0, yy_1, yy_2, yy_3, yy_4, yy_5, yy_6, yy_7, yy_8) o3 i1) fun (o4 : Int32) =>
    some o4 := rfl
def f_X2_need (lo : xF) (yy : xSY) (pp : xPL) (qq : xPL) (i1 : Int32) (i2 : Int32) : Option (Nat × Int32 × xF × xF × xPL × xPL) :=
  Option.bind (f_X2_isAim lo (yy.1, yy.2.1, yy.2.2.1, yy.2.2.2.1, yy.2.2.2.2.1, yy.2.2.2.2.2.1, yy.2.2.2.2.2.2.1, yy.2.2.2.2.2.2.2.1, yy.2.2.2.2.2.2.2.2) (pp.1, pp.2.1, pp.2.2.1, pp.2.2.2.1, pp.2.2.2.2.1, pp.2.2.2.2.2.1, pp.2.2.2.2.2.2.1, pp.2.2.2.2.2.2.2.1, pp.2.2.2.2.2.2.2.2) (qq.1, qq.2.1, qq.2.2.1, qq.2.2.2.1, qq.2.2.2.2.1, qq.2.2.2.2.2.1, qq.2.2.2.2.2.2.1, qq.2.2.2.2.2.2.2.1, qq.2.2.2.2.2.2.2.2) i1) fun (o1 : Int32) =>
  if o1 = 0 then
    some (3, (0 : Int32), yy.2.2.2.2.2.2.2.1, yy.2.2.2.2.2.2.2.2, (pp.1, pp.2.1, pp.2.2.1, pp.2.2.2.1, pp.2.2.2.2.1, pp.2.2.2.2.2.1, pp.2.2.2.2.2.2.1, pp.2.2.2.2.2.2.2.1, pp.2.2.2.2.2.2.2.2), (qq.1, qq.2.1, qq.2.2.1, qq.2.2.2.1, qq.2.2.2.2.1, qq.2.2.2.2.2.1, qq.2.2.2.2.2.2.1, qq.2.2.2.2.2.2.2.1, qq.2.2.2.2.2.2.2.2))
  else
    Option.bind (f_X2_isAim lo (yy.1, yy.2.1, yy.2.2.1, yy.2.2.2.1, yy.2.2.2.2.1, yy.2.2.2.2.2.1, yy.2.2.2.2.2.2.1, yy.2.2.2.2.2.2.2.1, yy.2.2.2.2.2.2.2.2) (pp.1, pp.2.1, pp.2.2.1, pp.2.2.2.1, pp.2.2.2.2.1, pp.2.2.2.2.2.1, pp.2.2.2.2.2.2.1, pp.2.2.2.2.2.2.2.1, pp.2.2.2.2.2.2.2.2) (qq.1, qq.2.1, qq.2.2.1, qq.2.2.2.1, qq.2.2.2.2.1, qq.2.2.2.2.2.1, qq.2.2.2.2.2.2.1, qq.2.2.2.2.2.2.2.1, qq.2.2.2.2.2.2.2.2) i2) fun (o3 : Int32) =>
    if o3 = 0 then
      some (3, (0 : Int32), yy.2.2.2.2.2.2.2.1, yy.2.2.2.2.2.2.2.2, (pp.1, pp.2.1, pp.2.2.1, pp.2.2.2.1, pp.2.2.2.2.1, pp.2.2.2.2.2.1, pp.2.2.2.2.2.2.1, pp.2.2.2.2.2.2.2.1, pp.2.2.2.2.2.2.2.2), (qq.1, qq.2.1, qq.2.2.1, qq.2.2.2.1, qq.2.2.2.2.1, qq.2.2.2.2.2.1, qq.2.2.2.2.2.2.1, qq.2.2.2.2.2.2.2.1, qq.2.2.2.2.2.2.2.2))
    else
      if i1 = i2 then
        some (1, (0 : Int32), yy.2.2.2.2.2.2.2.1, yy.2.2.2.2.2.2.2.2, (pp.1, pp.2.1, pp.2.2.1, pp.2.2.2.1, pp.2.2.2.2.1, pp.2.2.2.2.2.1, pp.2.2.2.2.2.2.1, pp.2.2.2.2.2.2.2.1, pp.2.2.2.2.2.2.2.2), (qq.1, qq.2.1, qq.2.2.1, qq.2.2.2.1, qq.2.2.2.2.1, qq.2.2.2.2.2.1, qq.2.2.2.2.2.2.1, qq.2.2.2.2.2.2.2.1, qq.2.2.2.2.2.2.2.2))
      else
        if i1 < 0 ∨ 12 ≤ i1.toNatClampNeg then none else
        Option.bind (f_X2_has (yy.2.2.2.2.2.2.2.1 i1.toNatClampNeg) i2) fun (o7 : Int32) =>
        if o7 = 0 then
          Option.bind (f_X1_reach (yy.1, yy.2.1, yy.2.2.1, yy.2.2.2.1, yy.2.2.2.2.1, yy.2.2.2.2.2.1, yy.2.2.2.2.2.2.1, yy.2.2.2.2.2.2.2.1, yy.2.2.2.2.2.2.2.2) i2) fun (o9 : Int32) =>
          Option.bind (f_X2_has o9 i1) fun (o10 : Int32) =>
          if o10 = 0 then
            Option.bind (f_X1_setNeeds (yy.1, yy.2.1, yy.2.2.1, yy.2.2.2.1, yy.2.2.2.2.1, yy.2.2.2.2.2.1, yy.2.2.2.2.2.2.1, yy.2.2.2.2.2.2.2.1, yy.2.2.2.2.2.2.2.2) i1 ((yy.2.2.2.2.2.2.2.1 i1.toNatClampNeg) ||| ((1 : Int32) <<< (i2 &&& 31)))) fun (o12 : xF × xF) =>
            Option.bind (f_X2_planAnew lo (yy.1, yy.2.1, yy.2.2.1, yy.2.2.2.1, yy.2.2.2.2.1, yy.2.2.2.2.2.1, yy.2.2.2.2.2.2.1, o12.1, o12.2) (pp.1, pp.2.1, pp.2.2.1, pp.2.2.2.1, pp.2.2.2.2.1, pp.2.2.2.2.2.1, pp.2.2.2.2.2.2.1, pp.2.2.2.2.2.2.2.1, pp.2.2.2.2.2.2.2.2) (qq.1, qq.2.1, qq.2.2.1, qq.2.2.2.1, qq.2.2.2.2.1, qq.2.2.2.2.2.1, qq.2.2.2.2.2.2.1, qq.2.2.2.2.2.2.2.1, qq.2.2.2.2.2.2.2.2)) fun (o13 : xPL × xPL) =>
            Option.bind (f_J6_bitCount_0f7a4 (o12.1 i1.toNatClampNeg)) fun (o14 : Int32) =>
            some (0, o14, o12.1, o12.2, o13.1, o13.2)
          else
            some (2, (0 : Int32), yy.2.2.2.2.2.2.2.1, yy.2.2.2.2.2.2.2.2, (pp.1, pp.2.1, pp.2.2.1, pp.2.2.2.1, pp.2.2.2.2.1, pp.2.2.2.2.2.1, pp.2.2.2.2.2.2.1, pp.2.2.2.2.2.2.2.1, pp.2.2.2.2.2.2.2.2), (qq.1, qq.2.1, qq.2.2.1, qq.2.2.2.1, qq.2.2.2.2.1, qq.2.2.2.2.2.1, qq.2.2.2.2.2.2.1, qq.2.2.2.2.2.2.2.1, qq.2.2.2.2.2.2.2.2))
        else
          some (2, (0 : Int32), yy.2.2.2.2.2.2.2.1, yy.2.2.2.2.2.2.2.2, (pp.1, pp.2.1, pp.2.2.1, pp.2.2.2.1, pp.2.2.2.2.1, pp.2.2.2.2.2.1, pp.2.2.2.2.2.2.1, pp.2.2.2.2.2.2.2.1, pp.2.2.2.2.2.2.2.2), (qq.1, qq.2.1, qq.2.2.1, qq.2.2.2.1, qq.2.2.2.2.1, qq.2.2.2.2.2.1, qq.2.2.2.2.2.2.1, qq.2.2.2.2.2.2.2.1, qq.2.2.2.2.2.2.2.2))
theorem f_X2_need_e (lo : xF) (yy_0 : Int32) (yy_1 : xF) (yy_2 : xF) (yy_3 : xF) (yy_4 : xF) (yy_5 : xF) (yy_6 : xF) (yy_7 : xF) (yy_8 : xF) (pp_0 : xF) (pp_1 : xF) (pp_2 : xF) (pp_3 : xF) (pp_4 : xF) (pp_5 : xF) (pp_6 : Int32) (pp_7 : Int32) (pp_8 : Int32) (qq_0 : xF) (qq_1 : xF) (qq_2 : xF) (qq_3 : xF) (qq_4 : xF) (qq_5 : xF) (qq_6 : Int32) (qq_7 : Int32) (qq_8 : Int32) (i1 : Int32) (i2 : Int32) : f_X2_need lo (yy_0, yy_1, yy_2, yy_3, yy_4, yy_5, yy_6, yy_7, yy_8) (pp_0, pp_1, pp_2, pp_3, pp_4, pp_5, pp_6, pp_7, pp_8) (qq_0, qq_1, qq_2, qq_3, qq_4, qq_5, qq_6, qq_7, qq_8) i1 i2 =
  Option.bind (f_X2_isAim lo (yy_0, yy_1, yy_2, yy_3, yy_4, yy_5, yy_6, yy_7, yy_8) (pp_0, pp_1, pp_2, pp_3, pp_4, pp_5, pp_6, pp_7, pp_8) (qq_0, qq_1, qq_2, qq_3, qq_4, qq_5, qq_6, qq_7, qq_8) i1) fun (o1 : Int32) =>
  if o1 = 0 then
    some (3, (0 : Int32), yy_7, yy_8, (pp_0, pp_1, pp_2, pp_3, pp_4, pp_5, pp_6, pp_7, pp_8), (qq_0, qq_1, qq_2, qq_3, qq_4, qq_5, qq_6, qq_7, qq_8))
  else
    Option.bind (f_X2_isAim lo (yy_0, yy_1, yy_2, yy_3, yy_4, yy_5, yy_6, yy_7, yy_8) (pp_0, pp_1, pp_2, pp_3, pp_4, pp_5, pp_6, pp_7, pp_8) (qq_0, qq_1, qq_2, qq_3, qq_4, qq_5, qq_6, qq_7, qq_8) i2) fun (o3 : Int32) =>
    if o3 = 0 then
      some (3, (0 : Int32), yy_7, yy_8, (pp_0, pp_1, pp_2, pp_3, pp_4, pp_5, pp_6, pp_7, pp_8), (qq_0, qq_1, qq_2, qq_3, qq_4, qq_5, qq_6, qq_7, qq_8))
    else
      if i1 = i2 then
        some (1, (0 : Int32), yy_7, yy_8, (pp_0, pp_1, pp_2, pp_3, pp_4, pp_5, pp_6, pp_7, pp_8), (qq_0, qq_1, qq_2, qq_3, qq_4, qq_5, qq_6, qq_7, qq_8))
      else
        if i1 < 0 ∨ 12 ≤ i1.toNatClampNeg then none else
        Option.bind (f_X2_has (yy_7 i1.toNatClampNeg) i2) fun (o7 : Int32) =>
        if o7 = 0 then
          Option.bind (f_X1_reach (yy_0, yy_1, yy_2, yy_3, yy_4, yy_5, yy_6, yy_7, yy_8) i2) fun (o9 : Int32) =>
          Option.bind (f_X2_has o9 i1) fun (o10 : Int32) =>
          if o10 = 0 then
            Option.bind (f_X1_setNeeds (yy_0, yy_1, yy_2, yy_3, yy_4, yy_5, yy_6, yy_7, yy_8) i1 ((yy_7 i1.toNatClampNeg) ||| ((1 : Int32) <<< (i2 &&& 31)))) fun (o12 : xF × xF) =>
            Option.bind (f_X2_planAnew lo (yy_0, yy_1, yy_2, yy_3, yy_4, yy_5, yy_6, o12.1, o12.2) (pp_0, pp_1, pp_2, pp_3, pp_4, pp_5, pp_6, pp_7, pp_8) (qq_0, qq_1, qq_2, qq_3, qq_4, qq_5, qq_6, qq_7, qq_8)) fun (o13 : xPL × xPL) =>
            Option.bind (f_J6_bitCount_0f7a4 (o12.1 i1.toNatClampNeg)) fun (o14 : Int32) =>
            some (0, o14, o12.1, o12.2, o13.1, o13.2)
          else
            some (2, (0 : Int32), yy_7, yy_8, (pp_0, pp_1, pp_2, pp_3, pp_4, pp_5, pp_6, pp_7, pp_8), (qq_0, qq_1, qq_2, qq_3, qq_4, qq_5, qq_6, qq_7, qq_8))
        else
          some (2, (0 : Int32), yy_7, yy_8, (pp_0, pp_1, pp_2, pp_3, pp_4, pp_5, pp_6, pp_7, pp_8), (qq_0, qq_1, qq_2, qq_3, qq_4, qq_5, qq_6, qq_7, qq_8)) := rfl
def f_X2_free (lo : xF) (yy : xSY) (pp : xPL) (qq : xPL) (i1 : Int32) (i2 : Int32) : Option (Nat × Int32 × xF × xF × xPL × xPL) :=
  Option.bind (f_X2_isAim lo (yy.1, yy.2.1, yy.2.2.1, yy.2.2.2.1, yy.2.2.2.2.1, yy.2.2.2.2.2.1, yy.2.2.2.2.2.2.1, yy.2.2.2.2.2.2.2.1, yy.2.2.2.2.2.2.2.2) (pp.1, pp.2.1, pp.2.2.1, pp.2.2.2.1, pp.2.2.2.2.1, pp.2.2.2.2.2.1, pp.2.2.2.2.2.2.1, pp.2.2.2.2.2.2.2.1, pp.2.2.2.2.2.2.2.2) (qq.1, qq.2.1, qq.2.2.1, qq.2.2.2.1, qq.2.2.2.2.1, qq.2.2.2.2.2.1, qq.2.2.2.2.2.2.1, qq.2.2.2.2.2.2.2.1, qq.2.2.2.2.2.2.2.2) i1) fun (o1 : Int32) =>
  if o1 = 0 then
    some (3, (0 : Int32), yy.2.2.2.2.2.2.2.1, yy.2.2.2.2.2.2.2.2, (pp.1, pp.2.1, pp.2.2.1, pp.2.2.2.1, pp.2.2.2.2.1, pp.2.2.2.2.2.1, pp.2.2.2.2.2.2.1, pp.2.2.2.2.2.2.2.1, pp.2.2.2.2.2.2.2.2), (qq.1, qq.2.1, qq.2.2.1, qq.2.2.2.1, qq.2.2.2.2.1, qq.2.2.2.2.2.1, qq.2.2.2.2.2.2.1, qq.2.2.2.2.2.2.2.1, qq.2.2.2.2.2.2.2.2))
  else
    Option.bind (f_X2_isAim lo (yy.1, yy.2.1, yy.2.2.1, yy.2.2.2.1, yy.2.2.2.2.1, yy.2.2.2.2.2.1, yy.2.2.2.2.2.2.1, yy.2.2.2.2.2.2.2.1, yy.2.2.2.2.2.2.2.2) (pp.1, pp.2.1, pp.2.2.1, pp.2.2.2.1, pp.2.2.2.2.1, pp.2.2.2.2.2.1, pp.2.2.2.2.2.2.1, pp.2.2.2.2.2.2.2.1, pp.2.2.2.2.2.2.2.2) (qq.1, qq.2.1, qq.2.2.1, qq.2.2.2.1, qq.2.2.2.2.1, qq.2.2.2.2.2.1, qq.2.2.2.2.2.2.1, qq.2.2.2.2.2.2.2.1, qq.2.2.2.2.2.2.2.2) i2) fun (o3 : Int32) =>
    if o3 = 0 then
      some (3, (0 : Int32), yy.2.2.2.2.2.2.2.1, yy.2.2.2.2.2.2.2.2, (pp.1, pp.2.1, pp.2.2.1, pp.2.2.2.1, pp.2.2.2.2.1, pp.2.2.2.2.2.1, pp.2.2.2.2.2.2.1, pp.2.2.2.2.2.2.2.1, pp.2.2.2.2.2.2.2.2), (qq.1, qq.2.1, qq.2.2.1, qq.2.2.2.1, qq.2.2.2.2.1, qq.2.2.2.2.2.1, qq.2.2.2.2.2.2.1, qq.2.2.2.2.2.2.2.1, qq.2.2.2.2.2.2.2.2))
    else
      if i1 < 0 ∨ 12 ≤ i1.toNatClampNeg then none else
      Option.bind (f_X2_has (yy.2.2.2.2.2.2.2.1 i1.toNatClampNeg) i2) fun (o6 : Int32) =>
      if o6 = 0 then
        some (4, (0 : Int32), yy.2.2.2.2.2.2.2.1, yy.2.2.2.2.2.2.2.2, (pp.1, pp.2.1, pp.2.2.1, pp.2.2.2.1, pp.2.2.2.2.1, pp.2.2.2.2.2.1, pp.2.2.2.2.2.2.1, pp.2.2.2.2.2.2.2.1, pp.2.2.2.2.2.2.2.2), (qq.1, qq.2.1, qq.2.2.1, qq.2.2.2.1, qq.2.2.2.2.1, qq.2.2.2.2.2.1, qq.2.2.2.2.2.2.1, qq.2.2.2.2.2.2.2.1, qq.2.2.2.2.2.2.2.2))
      else
        Option.bind (f_X1_setNeeds (yy.1, yy.2.1, yy.2.2.1, yy.2.2.2.1, yy.2.2.2.2.1, yy.2.2.2.2.2.1, yy.2.2.2.2.2.2.1, yy.2.2.2.2.2.2.2.1, yy.2.2.2.2.2.2.2.2) i1 ((yy.2.2.2.2.2.2.2.1 i1.toNatClampNeg) &&& (((1 : Int32) <<< (i2 &&& 31)) ^^^ ((-1) : Int32)))) fun (o8 : xF × xF) =>
        Option.bind (f_X2_planAnew lo (yy.1, yy.2.1, yy.2.2.1, yy.2.2.2.1, yy.2.2.2.2.1, yy.2.2.2.2.2.1, yy.2.2.2.2.2.2.1, o8.1, o8.2) (pp.1, pp.2.1, pp.2.2.1, pp.2.2.2.1, pp.2.2.2.2.1, pp.2.2.2.2.2.1, pp.2.2.2.2.2.2.1, pp.2.2.2.2.2.2.2.1, pp.2.2.2.2.2.2.2.2) (qq.1, qq.2.1, qq.2.2.1, qq.2.2.2.1, qq.2.2.2.2.1, qq.2.2.2.2.2.1, qq.2.2.2.2.2.2.1, qq.2.2.2.2.2.2.2.1, qq.2.2.2.2.2.2.2.2)) fun (o9 : xPL × xPL) =>
        Option.bind (f_J6_bitCount_0f7a4 (o8.1 i1.toNatClampNeg)) fun (o10 : Int32) =>
        some (0, o10, o8.1, o8.2, o9.1, o9.2)
theorem f_X2_free_e (lo : xF) (yy_0 : Int32) (yy_1 : xF) (yy_2 : xF) (yy_3 : xF) (yy_4 : xF) (yy_5 : xF) (yy_6 : xF) (yy_7 : xF) (yy_8 : xF) (pp_0 : xF) (pp_1 : xF) (pp_2 : xF) (pp_3 : xF) (pp_4 : xF) (pp_5 : xF) (pp_6 : Int32) (pp_7 : Int32) (pp_8 : Int32) (qq_0 : xF) (qq_1 : xF) (qq_2 : xF) (qq_3 : xF) (qq_4 : xF) (qq_5 : xF) (qq_6 : Int32) (qq_7 : Int32) (qq_8 : Int32) (i1 : Int32) (i2 : Int32) : f_X2_free lo (yy_0, yy_1, yy_2, yy_3, yy_4, yy_5, yy_6, yy_7, yy_8) (pp_0, pp_1, pp_2, pp_3, pp_4, pp_5, pp_6, pp_7, pp_8) (qq_0, qq_1, qq_2, qq_3, qq_4, qq_5, qq_6, qq_7, qq_8) i1 i2 =
  Option.bind (f_X2_isAim lo (yy_0, yy_1, yy_2, yy_3, yy_4, yy_5, yy_6, yy_7, yy_8) (pp_0, pp_1, pp_2, pp_3, pp_4, pp_5, pp_6, pp_7, pp_8) (qq_0, qq_1, qq_2, qq_3, qq_4, qq_5, qq_6, qq_7, qq_8) i1) fun (o1 : Int32) =>
  if o1 = 0 then
    some (3, (0 : Int32), yy_7, yy_8, (pp_0, pp_1, pp_2, pp_3, pp_4, pp_5, pp_6, pp_7, pp_8), (qq_0, qq_1, qq_2, qq_3, qq_4, qq_5, qq_6, qq_7, qq_8))
  else
    Option.bind (f_X2_isAim lo (yy_0, yy_1, yy_2, yy_3, yy_4, yy_5, yy_6, yy_7, yy_8) (pp_0, pp_1, pp_2, pp_3, pp_4, pp_5, pp_6, pp_7, pp_8) (qq_0, qq_1, qq_2, qq_3, qq_4, qq_5, qq_6, qq_7, qq_8) i2) fun (o3 : Int32) =>
    if o3 = 0 then
      some (3, (0 : Int32), yy_7, yy_8, (pp_0, pp_1, pp_2, pp_3, pp_4, pp_5, pp_6, pp_7, pp_8), (qq_0, qq_1, qq_2, qq_3, qq_4, qq_5, qq_6, qq_7, qq_8))
    else
      if i1 < 0 ∨ 12 ≤ i1.toNatClampNeg then none else
      Option.bind (f_X2_has (yy_7 i1.toNatClampNeg) i2) fun (o6 : Int32) =>
      if o6 = 0 then
        some (4, (0 : Int32), yy_7, yy_8, (pp_0, pp_1, pp_2, pp_3, pp_4, pp_5, pp_6, pp_7, pp_8), (qq_0, qq_1, qq_2, qq_3, qq_4, qq_5, qq_6, qq_7, qq_8))
      else
        Option.bind (f_X1_setNeeds (yy_0, yy_1, yy_2, yy_3, yy_4, yy_5, yy_6, yy_7, yy_8) i1 ((yy_7 i1.toNatClampNeg) &&& (((1 : Int32) <<< (i2 &&& 31)) ^^^ ((-1) : Int32)))) fun (o8 : xF × xF) =>
        Option.bind (f_X2_planAnew lo (yy_0, yy_1, yy_2, yy_3, yy_4, yy_5, yy_6, o8.1, o8.2) (pp_0, pp_1, pp_2, pp_3, pp_4, pp_5, pp_6, pp_7, pp_8) (qq_0, qq_1, qq_2, qq_3, qq_4, qq_5, qq_6, qq_7, qq_8)) fun (o9 : xPL × xPL) =>
        Option.bind (f_J6_bitCount_0f7a4 (o8.1 i1.toNatClampNeg)) fun (o10 : Int32) =>
        some (0, o10, o8.1, o8.2, o9.1, o9.2) := rfl
def f_L_isIn (i0 : Int32) (i1 : Int32) : Option (Int32) :=
  if ((i0 >>> (i1 &&& 31)) &&& (1 : Int32)) = (1 : Int32) then
    some (1 : Int32)
  else
    some (0 : Int32)
theorem f_L_isIn_e (i0 : Int32) (i1 : Int32) : f_L_isIn i0 i1 =
  if ((i0 >>> (i1 &&& 31)) &&& (1 : Int32)) = (1 : Int32) then
    some (1 : Int32)
  else
    some (0 : Int32) := rfl
def f_L_size_l4  : Nat → Int32 → Int32 → Option (Int32)
  | 0, _, _ => none
  | k9 + 1, x2_1, x1_1 =>
    if x2_1 = 0 then
      some x1_1
    else
      f_L_size_l4  k9 (x2_1 &&& (x2_1 - (1 : Int32))) (x1_1 + (1 : Int32))
theorem f_L_size_l4_z  (x2_1 : Int32) (x1_1 : Int32) : f_L_size_l4  0 x2_1 x1_1 = none := rfl
theorem f_L_size_l4_s  (k9 : Nat) (x2_1 : Int32) (x1_1 : Int32) : f_L_size_l4  (k9 + 1) x2_1 x1_1 =
    if x2_1 = 0 then
      some x1_1
    else
      f_L_size_l4  k9 (x2_1 &&& (x2_1 - (1 : Int32))) (x1_1 + (1 : Int32)) := rfl
def f_L_size (i0 : Int32) : Option (Int32) :=
  Option.bind (f_L_size_l4  300 i0 (0 : Int32)) fun (w2 : Int32) =>
  some w2
theorem f_L_size_e (i0 : Int32) : f_L_size i0 =
  Option.bind (f_L_size_l4  300 i0 (0 : Int32)) fun (w2 : Int32) =>
  some w2 := rfl
def f_L_isLost (kl : (Nat → Int64)) (i1 : Int32) : Option (Int32) :=
  if (i1 / (50 : Int32)) < 0 ∨ 2 ≤ (i1 / (50 : Int32)).toNatClampNeg then none else
  if (((kl (i1 / (50 : Int32)).toNatClampNeg) >>> ((i1 - i1 / (50 : Int32) * (50 : Int32)).toInt64 &&& 63)) &&& (1 : Int64)) = (1 : Int64) then
    some (1 : Int32)
  else
    some (0 : Int32)
theorem f_L_isLost_e (kl : (Nat → Int64)) (i1 : Int32) : f_L_isLost kl i1 =
  if (i1 / (50 : Int32)) < 0 ∨ 2 ≤ (i1 / (50 : Int32)).toNatClampNeg then none else
  if (((kl (i1 / (50 : Int32)).toNatClampNeg) >>> ((i1 - i1 / (50 : Int32) * (50 : Int32)).toInt64 &&& 63)) &&& (1 : Int64)) = (1 : Int64) then
    some (1 : Int32)
  else
    some (0 : Int32) := rfl
def f_L_thing_l5 (ke : xF) (kv : xF) (i2 : Int32) : Nat → Int32 → Int32 → Option (Int32)
  | 0, _, _ => none
  | k9 + 1, x4_1, x3_1 =>
    if (96 : Int32) ≤ x4_1 then
      some x3_1
    else
      Option.bind (
        if (60 : Int32) ≤ x4_1 then
          if (x4_1 - (60 : Int32)) < 0 ∨ 36 ≤ (x4_1 - (60 : Int32)).toNatClampNeg then none else
          some (kv (x4_1 - (60 : Int32)).toNatClampNeg)
        else
          if x4_1 < 0 ∨ 60 ≤ x4_1.toNatClampNeg then none else
          some (ke x4_1.toNatClampNeg)) fun (v4 : Int32) =>
      Option.bind (
        if v4 = i2 then
          some (1 : Int32)
        else
          some (0 : Int32)) fun (v5 : Int32) =>
      if v5 = 0 then
        f_L_thing_l5 ke kv i2 k9 (x4_1 + (1 : Int32)) x3_1
      else
        if x3_1 = ((-1) : Int32) then
          if (60 : Int32) ≤ x4_1 then
            f_L_thing_l5 ke kv i2 k9 (x4_1 + (1 : Int32)) ((100 : Int32) + ((x4_1 - (60 : Int32)) / (3 : Int32)))
          else
            f_L_thing_l5 ke kv i2 k9 (x4_1 + (1 : Int32)) (x4_1 / (5 : Int32))
        else
          f_L_thing_l5 ke kv i2 k9 (x4_1 + (1 : Int32)) ((-2) : Int32)
theorem f_L_thing_l5_z (ke : xF) (kv : xF) (i2 : Int32) (x4_1 : Int32) (x3_1 : Int32) : f_L_thing_l5 ke kv i2 0 x4_1 x3_1 = none := rfl
theorem f_L_thing_l5_s (ke : xF) (kv : xF) (i2 : Int32) (k9 : Nat) (x4_1 : Int32) (x3_1 : Int32) : f_L_thing_l5 ke kv i2 (k9 + 1) x4_1 x3_1 =
    if (96 : Int32) ≤ x4_1 then
      some x3_1
    else
      Option.bind (
        if (60 : Int32) ≤ x4_1 then
          if (x4_1 - (60 : Int32)) < 0 ∨ 36 ≤ (x4_1 - (60 : Int32)).toNatClampNeg then none else
          some (kv (x4_1 - (60 : Int32)).toNatClampNeg)
        else
          if x4_1 < 0 ∨ 60 ≤ x4_1.toNatClampNeg then none else
          some (ke x4_1.toNatClampNeg)) fun (v4 : Int32) =>
      Option.bind (
        if v4 = i2 then
          some (1 : Int32)
        else
          some (0 : Int32)) fun (v5 : Int32) =>
      if v5 = 0 then
        f_L_thing_l5 ke kv i2 k9 (x4_1 + (1 : Int32)) x3_1
      else
        if x3_1 = ((-1) : Int32) then
          if (60 : Int32) ≤ x4_1 then
            f_L_thing_l5 ke kv i2 k9 (x4_1 + (1 : Int32)) ((100 : Int32) + ((x4_1 - (60 : Int32)) / (3 : Int32)))
          else
            f_L_thing_l5 ke kv i2 k9 (x4_1 + (1 : Int32)) (x4_1 / (5 : Int32))
        else
          f_L_thing_l5 ke kv i2 k9 (x4_1 + (1 : Int32)) ((-2) : Int32) := rfl
def f_L_thing (ke : xF) (kv : xF) (i2 : Int32) : Option (Int32) :=
  Option.bind (f_L_thing_l5 ke kv i2 300 (0 : Int32) ((-1) : Int32)) fun (w2 : Int32) =>
  some w2
theorem f_L_thing_e (ke : xF) (kv : xF) (i2 : Int32) : f_L_thing ke kv i2 =
  Option.bind (f_L_thing_l5 ke kv i2 300 (0 : Int32) ((-1) : Int32)) fun (w2 : Int32) =>
  some w2 := rfl
def f_L_net_l6 (ka : xF) (kc : xF) (i2 : Int32) (i3 : Int32) : Nat → Int32 → Int32 → Option (Int32)
  | 0, _, _ => none
  | k9 + 1, x5_1, x4_1 =>
    if (kc (0 : Int32).toNatClampNeg) ≤ x5_1 then
      some x4_1
    else
      Option.bind (f_L_isIn i2 x5_1) fun (o4 : Int32) =>
      Option.bind (
        if o4 = 0 then
          some (0 : Int32)
        else
          if (((5 : Int32) * x5_1) + (2 : Int32)) < 0 ∨ 60 ≤ (((5 : Int32) * x5_1) + (2 : Int32)).toNatClampNeg then none else
          if ((5 : Int32) * x5_1) < 0 ∨ 60 ≤ ((5 : Int32) * x5_1).toNatClampNeg then none else
          some ((ka (((5 : Int32) * x5_1) + (2 : Int32)).toNatClampNeg) - (i3 * (ka ((5 : Int32) * x5_1).toNatClampNeg)))) fun (v5 : Int32) =>
      f_L_net_l6 ka kc i2 i3 k9 (x5_1 + (1 : Int32)) (x4_1 + v5)
theorem f_L_net_l6_z (ka : xF) (kc : xF) (i2 : Int32) (i3 : Int32) (x5_1 : Int32) (x4_1 : Int32) : f_L_net_l6 ka kc i2 i3 0 x5_1 x4_1 = none := rfl
theorem f_L_net_l6_s (ka : xF) (kc : xF) (i2 : Int32) (i3 : Int32) (k9 : Nat) (x5_1 : Int32) (x4_1 : Int32) : f_L_net_l6 ka kc i2 i3 (k9 + 1) x5_1 x4_1 =
    if (kc (0 : Int32).toNatClampNeg) ≤ x5_1 then
      some x4_1
    else
      Option.bind (f_L_isIn i2 x5_1) fun (o4 : Int32) =>
      Option.bind (
        if o4 = 0 then
          some (0 : Int32)
        else
          if (((5 : Int32) * x5_1) + (2 : Int32)) < 0 ∨ 60 ≤ (((5 : Int32) * x5_1) + (2 : Int32)).toNatClampNeg then none else
          if ((5 : Int32) * x5_1) < 0 ∨ 60 ≤ ((5 : Int32) * x5_1).toNatClampNeg then none else
          some ((ka (((5 : Int32) * x5_1) + (2 : Int32)).toNatClampNeg) - (i3 * (ka ((5 : Int32) * x5_1).toNatClampNeg)))) fun (v5 : Int32) =>
      f_L_net_l6 ka kc i2 i3 k9 (x5_1 + (1 : Int32)) (x4_1 + v5) := rfl
def f_L_net (ka : xF) (kc : xF) (i2 : Int32) (i3 : Int32) : Option (Int32) :=
  Option.bind (f_L_net_l6 ka kc i2 i3 300 (0 : Int32) (0 : Int32)) fun (w2 : Int32) =>
  some w2
theorem f_L_net_e (ka : xF) (kc : xF) (i2 : Int32) (i3 : Int32) : f_L_net ka kc i2 i3 =
  Option.bind (f_L_net_l6 ka kc i2 i3 300 (0 : Int32) (0 : Int32)) fun (w2 : Int32) =>
  some w2 := rfl
def f_L_isClosed_l17 (ka : xF) (kc : xF) (i2 : Int32) : Nat → Int32 → Int32 → Option (Int32)
  | 0, _, _ => none
  | k9 + 1, x4_2, x3_2 =>
    if (kc (0 : Int32).toNatClampNeg) ≤ x4_2 then
      some x3_2
    else
      if x3_2 = 0 then
        f_L_isClosed_l17 ka kc i2 k9 (x4_2 + (1 : Int32)) (0 : Int32)
      else
        Option.bind (f_L_isIn i2 x4_2) fun (o6 : Int32) =>
        if o6 = 0 then
          f_L_isClosed_l17 ka kc i2 k9 (x4_2 + (1 : Int32)) (1 : Int32)
        else
          if (((5 : Int32) * x4_2) + (4 : Int32)) < 0 ∨ 60 ≤ (((5 : Int32) * x4_2) + (4 : Int32)).toNatClampNeg then none else
          if ((ka (((5 : Int32) * x4_2) + (4 : Int32)).toNatClampNeg) &&& (i2 ^^^ ((-1) : Int32))) = 0 then
            f_L_isClosed_l17 ka kc i2 k9 (x4_2 + (1 : Int32)) (1 : Int32)
          else
            f_L_isClosed_l17 ka kc i2 k9 (x4_2 + (1 : Int32)) (0 : Int32)
theorem f_L_isClosed_l17_z (ka : xF) (kc : xF) (i2 : Int32) (x4_2 : Int32) (x3_2 : Int32) : f_L_isClosed_l17 ka kc i2 0 x4_2 x3_2 = none := rfl
theorem f_L_isClosed_l17_s (ka : xF) (kc : xF) (i2 : Int32) (k9 : Nat) (x4_2 : Int32) (x3_2 : Int32) : f_L_isClosed_l17 ka kc i2 (k9 + 1) x4_2 x3_2 =
    if (kc (0 : Int32).toNatClampNeg) ≤ x4_2 then
      some x3_2
    else
      if x3_2 = 0 then
        f_L_isClosed_l17 ka kc i2 k9 (x4_2 + (1 : Int32)) (0 : Int32)
      else
        Option.bind (f_L_isIn i2 x4_2) fun (o6 : Int32) =>
        if o6 = 0 then
          f_L_isClosed_l17 ka kc i2 k9 (x4_2 + (1 : Int32)) (1 : Int32)
        else
          if (((5 : Int32) * x4_2) + (4 : Int32)) < 0 ∨ 60 ≤ (((5 : Int32) * x4_2) + (4 : Int32)).toNatClampNeg then none else
          if ((ka (((5 : Int32) * x4_2) + (4 : Int32)).toNatClampNeg) &&& (i2 ^^^ ((-1) : Int32))) = 0 then
            f_L_isClosed_l17 ka kc i2 k9 (x4_2 + (1 : Int32)) (1 : Int32)
          else
            f_L_isClosed_l17 ka kc i2 k9 (x4_2 + (1 : Int32)) (0 : Int32) := rfl
def f_L_isClosed (ka : xF) (kc : xF) (i2 : Int32) : Option (Int32) :=
  Option.bind (
    if (i2 >>> ((kc (0 : Int32).toNatClampNeg) &&& 31)) = 0 then
      some (1 : Int32)
    else
      some (0 : Int32)) fun (v1 : Int32) =>
  Option.bind (f_L_isClosed_l17 ka kc i2 300 (0 : Int32) v1) fun (w3 : Int32) =>
  if w3 &&& 1 = w3 then some w3 else none
theorem f_L_isClosed_e (ka : xF) (kc : xF) (i2 : Int32) : f_L_isClosed ka kc i2 =
  Option.bind (
    if (i2 >>> ((kc (0 : Int32).toNatClampNeg) &&& 31)) = 0 then
      some (1 : Int32)
    else
      some (0 : Int32)) fun (v1 : Int32) =>
  Option.bind (f_L_isClosed_l17 ka kc i2 300 (0 : Int32) v1) fun (w3 : Int32) =>
  if w3 &&& 1 = w3 then some w3 else none := rfl
def f_L_isBusy_l10 (ka : xF) (ke : xF) (kp : xF) (i6 : Int32) : Nat → Int32 → Int32 → Option (Int32)
  | 0, _, _ => none
  | k9 + 1, x9_1, x8_1 =>
    if x9_1 < 0 then
      some x8_1
    else
      if x9_1 < 0 ∨ 12 ≤ x9_1.toNatClampNeg then none else
      if ((5 : Int32) * (kp x9_1.toNatClampNeg)) < 0 ∨ 60 ≤ ((5 : Int32) * (kp x9_1.toNatClampNeg)).toNatClampNeg then none else
      if ((((5 : Int32) * (kp x9_1.toNatClampNeg)) + (ka ((5 : Int32) * (kp x9_1.toNatClampNeg)).toNatClampNeg)) - (1 : Int32)) < 0 ∨ 60 ≤ ((((5 : Int32) * (kp x9_1.toNatClampNeg)) + (ka ((5 : Int32) * (kp x9_1.toNatClampNeg)).toNatClampNeg)) - (1 : Int32)).toNatClampNeg then none else
      if (ke ((((5 : Int32) * (kp x9_1.toNatClampNeg)) + (ka ((5 : Int32) * (kp x9_1.toNatClampNeg)).toNatClampNeg)) - (1 : Int32)).toNatClampNeg) < 0 then
        f_L_isBusy_l10 ka ke kp i6 k9 (x9_1 + ((-1) : Int32)) (kp x9_1.toNatClampNeg)
      else
        if (ke ((((5 : Int32) * (kp x9_1.toNatClampNeg)) + (ka ((5 : Int32) * (kp x9_1.toNatClampNeg)).toNatClampNeg)) - (1 : Int32)).toNatClampNeg) < i6 then
          f_L_isBusy_l10 ka ke kp i6 k9 (x9_1 + ((-1) : Int32)) x8_1
        else
          f_L_isBusy_l10 ka ke kp i6 k9 (x9_1 + ((-1) : Int32)) (kp x9_1.toNatClampNeg)
theorem f_L_isBusy_l10_z (ka : xF) (ke : xF) (kp : xF) (i6 : Int32) (x9_1 : Int32) (x8_1 : Int32) : f_L_isBusy_l10 ka ke kp i6 0 x9_1 x8_1 = none := rfl
theorem f_L_isBusy_l10_s (ka : xF) (ke : xF) (kp : xF) (i6 : Int32) (k9 : Nat) (x9_1 : Int32) (x8_1 : Int32) : f_L_isBusy_l10 ka ke kp i6 (k9 + 1) x9_1 x8_1 =
    if x9_1 < 0 then
      some x8_1
    else
      if x9_1 < 0 ∨ 12 ≤ x9_1.toNatClampNeg then none else
      if ((5 : Int32) * (kp x9_1.toNatClampNeg)) < 0 ∨ 60 ≤ ((5 : Int32) * (kp x9_1.toNatClampNeg)).toNatClampNeg then none else
      if ((((5 : Int32) * (kp x9_1.toNatClampNeg)) + (ka ((5 : Int32) * (kp x9_1.toNatClampNeg)).toNatClampNeg)) - (1 : Int32)) < 0 ∨ 60 ≤ ((((5 : Int32) * (kp x9_1.toNatClampNeg)) + (ka ((5 : Int32) * (kp x9_1.toNatClampNeg)).toNatClampNeg)) - (1 : Int32)).toNatClampNeg then none else
      if (ke ((((5 : Int32) * (kp x9_1.toNatClampNeg)) + (ka ((5 : Int32) * (kp x9_1.toNatClampNeg)).toNatClampNeg)) - (1 : Int32)).toNatClampNeg) < 0 then
        f_L_isBusy_l10 ka ke kp i6 k9 (x9_1 + ((-1) : Int32)) (kp x9_1.toNatClampNeg)
      else
        if (ke ((((5 : Int32) * (kp x9_1.toNatClampNeg)) + (ka ((5 : Int32) * (kp x9_1.toNatClampNeg)).toNatClampNeg)) - (1 : Int32)).toNatClampNeg) < i6 then
          f_L_isBusy_l10 ka ke kp i6 k9 (x9_1 + ((-1) : Int32)) x8_1
        else
          f_L_isBusy_l10 ka ke kp i6 k9 (x9_1 + ((-1) : Int32)) (kp x9_1.toNatClampNeg) := rfl
def f_L_isBusy_l108 (kr : xF) (kv : xF) (i6 : Int32) (x11_9 : Int32) : Nat → Int32 → Int32 → Int32 → Int32 → Option (Int32 × Int32)
  | 0, _, _, _, _ => none
  | k9 + 1, x13_14, x12_14, x10_14, x9_14 =>
    if ((2 : Int32) * x11_9) < 0 ∨ 24 ≤ ((2 : Int32) * x11_9).toNatClampNeg then none else
    if (kr ((2 : Int32) * x11_9).toNatClampNeg) ≤ x13_14 then
      some (x10_14, x9_14)
    else
      if x12_14 < 0 then
        some (x10_14, x9_14)
      else
        if i6 ≤ x12_14 then
          some (x10_14, x9_14)
        else
          if (((3 : Int32) * x11_9) + x13_14) < 0 ∨ 36 ≤ (((3 : Int32) * x11_9) + x13_14).toNatClampNeg then none else
          if (((2 : Int32) * x11_9) + (1 : Int32)) < 0 ∨ 24 ≤ (((2 : Int32) * x11_9) + (1 : Int32)).toNatClampNeg then none else
          Option.bind (
            if (kv (((3 : Int32) * x11_9) + x13_14).toNatClampNeg) < 0 then
              if i6 < (x12_14 + ((kr (((2 : Int32) * x11_9) + (1 : Int32)).toNatClampNeg) <<< (x13_14 &&& 31))) then
                some (0 : Int32)
              else
                if x9_14 < (x12_14 + ((2 : Int32) * ((kr (((2 : Int32) * x11_9) + (1 : Int32)).toNatClampNeg) <<< (x13_14 &&& 31)))) then
                  some (0 : Int32)
                else
                  some (1 : Int32)
            else
              if (kv (((3 : Int32) * x11_9) + x13_14).toNatClampNeg) < i6 then
                some (0 : Int32)
              else
                if i6 < (x12_14 + ((kr (((2 : Int32) * x11_9) + (1 : Int32)).toNatClampNeg) <<< (x13_14 &&& 31))) then
                  some (0 : Int32)
                else
                  if x9_14 < (x12_14 + ((2 : Int32) * ((kr (((2 : Int32) * x11_9) + (1 : Int32)).toNatClampNeg) <<< (x13_14 &&& 31)))) then
                    some (0 : Int32)
                  else
                    some (1 : Int32)) fun (v22 : Int32) =>
          Option.bind (
            if v22 = 0 then
              some x10_14
            else
              some x11_9) fun (v23 : Int32) =>
          Option.bind (
            if v22 = 0 then
              some x9_14
            else
              some (x12_14 + ((2 : Int32) * ((kr (((2 : Int32) * x11_9) + (1 : Int32)).toNatClampNeg) <<< (x13_14 &&& 31))))) fun (v24 : Int32) =>
          f_L_isBusy_l108 kr kv i6 x11_9 k9 (x13_14 + (1 : Int32)) (kv (((3 : Int32) * x11_9) + x13_14).toNatClampNeg) v23 v24
theorem f_L_isBusy_l108_z (kr : xF) (kv : xF) (i6 : Int32) (x11_9 : Int32) (x13_14 : Int32) (x12_14 : Int32) (x10_14 : Int32) (x9_14 : Int32) : f_L_isBusy_l108 kr kv i6 x11_9 0 x13_14 x12_14 x10_14 x9_14 = none := rfl
theorem f_L_isBusy_l108_s (kr : xF) (kv : xF) (i6 : Int32) (x11_9 : Int32) (k9 : Nat) (x13_14 : Int32) (x12_14 : Int32) (x10_14 : Int32) (x9_14 : Int32) : f_L_isBusy_l108 kr kv i6 x11_9 (k9 + 1) x13_14 x12_14 x10_14 x9_14 =
    if ((2 : Int32) * x11_9) < 0 ∨ 24 ≤ ((2 : Int32) * x11_9).toNatClampNeg then none else
    if (kr ((2 : Int32) * x11_9).toNatClampNeg) ≤ x13_14 then
      some (x10_14, x9_14)
    else
      if x12_14 < 0 then
        some (x10_14, x9_14)
      else
        if i6 ≤ x12_14 then
          some (x10_14, x9_14)
        else
          if (((3 : Int32) * x11_9) + x13_14) < 0 ∨ 36 ≤ (((3 : Int32) * x11_9) + x13_14).toNatClampNeg then none else
          if (((2 : Int32) * x11_9) + (1 : Int32)) < 0 ∨ 24 ≤ (((2 : Int32) * x11_9) + (1 : Int32)).toNatClampNeg then none else
          Option.bind (
            if (kv (((3 : Int32) * x11_9) + x13_14).toNatClampNeg) < 0 then
              if i6 < (x12_14 + ((kr (((2 : Int32) * x11_9) + (1 : Int32)).toNatClampNeg) <<< (x13_14 &&& 31))) then
                some (0 : Int32)
              else
                if x9_14 < (x12_14 + ((2 : Int32) * ((kr (((2 : Int32) * x11_9) + (1 : Int32)).toNatClampNeg) <<< (x13_14 &&& 31)))) then
                  some (0 : Int32)
                else
                  some (1 : Int32)
            else
              if (kv (((3 : Int32) * x11_9) + x13_14).toNatClampNeg) < i6 then
                some (0 : Int32)
              else
                if i6 < (x12_14 + ((kr (((2 : Int32) * x11_9) + (1 : Int32)).toNatClampNeg) <<< (x13_14 &&& 31))) then
                  some (0 : Int32)
                else
                  if x9_14 < (x12_14 + ((2 : Int32) * ((kr (((2 : Int32) * x11_9) + (1 : Int32)).toNatClampNeg) <<< (x13_14 &&& 31)))) then
                    some (0 : Int32)
                  else
                    some (1 : Int32)) fun (v22 : Int32) =>
          Option.bind (
            if v22 = 0 then
              some x10_14
            else
              some x11_9) fun (v23 : Int32) =>
          Option.bind (
            if v22 = 0 then
              some x9_14
            else
              some (x12_14 + ((2 : Int32) * ((kr (((2 : Int32) * x11_9) + (1 : Int32)).toNatClampNeg) <<< (x13_14 &&& 31))))) fun (v24 : Int32) =>
          f_L_isBusy_l108 kr kv i6 x11_9 k9 (x13_14 + (1 : Int32)) (kv (((3 : Int32) * x11_9) + x13_14).toNatClampNeg) v23 v24 := rfl
def f_L_isBusy_l83 (ka : xF) (kr : xF) (ke : xF) (kv : xF) (i6 : Int32) : Nat → Int32 → Int32 → Int32 → Option (Int32)
  | 0, _, _, _ => none
  | k9 + 1, x11_9, x10_9, x9_9 =>
    if x11_9 < 0 then
      some x10_9
    else
      if ((5 : Int32) * x11_9) < 0 ∨ 60 ≤ ((5 : Int32) * x11_9).toNatClampNeg then none else
      if ((((5 : Int32) * x11_9) + (ka ((5 : Int32) * x11_9).toNatClampNeg)) - (1 : Int32)) < 0 ∨ 60 ≤ ((((5 : Int32) * x11_9) + (ka ((5 : Int32) * x11_9).toNatClampNeg)) - (1 : Int32)).toNatClampNeg then none else
      Option.bind (f_L_isBusy_l108 kr kv i6 x11_9 300 (0 : Int32) (ke ((((5 : Int32) * x11_9) + (ka ((5 : Int32) * x11_9).toNatClampNeg)) - (1 : Int32)).toNatClampNeg) x10_9 x9_9) fun (w15 : Int32 × Int32) =>
      f_L_isBusy_l83 ka kr ke kv i6 k9 (x11_9 + ((-1) : Int32)) w15.1 w15.2
theorem f_L_isBusy_l83_z (ka : xF) (kr : xF) (ke : xF) (kv : xF) (i6 : Int32) (x11_9 : Int32) (x10_9 : Int32) (x9_9 : Int32) : f_L_isBusy_l83 ka kr ke kv i6 0 x11_9 x10_9 x9_9 = none := rfl
theorem f_L_isBusy_l83_s (ka : xF) (kr : xF) (ke : xF) (kv : xF) (i6 : Int32) (k9 : Nat) (x11_9 : Int32) (x10_9 : Int32) (x9_9 : Int32) : f_L_isBusy_l83 ka kr ke kv i6 (k9 + 1) x11_9 x10_9 x9_9 =
    if x11_9 < 0 then
      some x10_9
    else
      if ((5 : Int32) * x11_9) < 0 ∨ 60 ≤ ((5 : Int32) * x11_9).toNatClampNeg then none else
      if ((((5 : Int32) * x11_9) + (ka ((5 : Int32) * x11_9).toNatClampNeg)) - (1 : Int32)) < 0 ∨ 60 ≤ ((((5 : Int32) * x11_9) + (ka ((5 : Int32) * x11_9).toNatClampNeg)) - (1 : Int32)).toNatClampNeg then none else
      Option.bind (f_L_isBusy_l108 kr kv i6 x11_9 300 (0 : Int32) (ke ((((5 : Int32) * x11_9) + (ka ((5 : Int32) * x11_9).toNatClampNeg)) - (1 : Int32)).toNatClampNeg) x10_9 x9_9) fun (w15 : Int32 × Int32) =>
      f_L_isBusy_l83 ka kr ke kv i6 k9 (x11_9 + ((-1) : Int32)) w15.1 w15.2 := rfl
def f_L_isBusy_l265 (ka : xF) (ke : xF) (kv : xF) (i6 : Int32) (w2 : Int32) : Nat → Int32 → Int32 → Option (Int32)
  | 0, _, _ => none
  | k9 + 1, x12_34, x11_34 =>
    if i6 ≤ x12_34 then
      some x11_34
    else
      if w2 < 0 then
        some x11_34
      else
        Option.bind (f_L_thing ke kv x12_34) fun (o38 : Int32) =>
        if x11_34 = 0 then
          if o38 < 0 then
            f_L_isBusy_l265 ka ke kv i6 w2 k9 (x12_34 + (1 : Int32)) (0 : Int32)
          else
            if (100 : Int32) ≤ o38 then
              f_L_isBusy_l265 ka ke kv i6 w2 k9 (x12_34 + (1 : Int32)) (0 : Int32)
            else
              if o38 = w2 then
                f_L_isBusy_l265 ka ke kv i6 w2 k9 (x12_34 + (1 : Int32)) (0 : Int32)
              else
                if (((5 : Int32) * w2) + (3 : Int32)) < 0 ∨ 60 ≤ (((5 : Int32) * w2) + (3 : Int32)).toNatClampNeg then none else
                if (ka (((5 : Int32) * w2) + (3 : Int32)).toNatClampNeg) < 0 then
                  f_L_isBusy_l265 ka ke kv i6 w2 k9 (x12_34 + (1 : Int32)) (0 : Int32)
                else
                  if (((5 : Int32) * o38) + (3 : Int32)) < 0 ∨ 60 ≤ (((5 : Int32) * o38) + (3 : Int32)).toNatClampNeg then none else
                  if (ka (((5 : Int32) * o38) + (3 : Int32)).toNatClampNeg) = (ka (((5 : Int32) * w2) + (3 : Int32)).toNatClampNeg) then
                    f_L_isBusy_l265 ka ke kv i6 w2 k9 (x12_34 + (1 : Int32)) (1 : Int32)
                  else
                    f_L_isBusy_l265 ka ke kv i6 w2 k9 (x12_34 + (1 : Int32)) (0 : Int32)
        else
          f_L_isBusy_l265 ka ke kv i6 w2 k9 (x12_34 + (1 : Int32)) (1 : Int32)
theorem f_L_isBusy_l265_z (ka : xF) (ke : xF) (kv : xF) (i6 : Int32) (w2 : Int32) (x12_34 : Int32) (x11_34 : Int32) : f_L_isBusy_l265 ka ke kv i6 w2 0 x12_34 x11_34 = none := rfl
theorem f_L_isBusy_l265_s (ka : xF) (ke : xF) (kv : xF) (i6 : Int32) (w2 : Int32) (k9 : Nat) (x12_34 : Int32) (x11_34 : Int32) : f_L_isBusy_l265 ka ke kv i6 w2 (k9 + 1) x12_34 x11_34 =
    if i6 ≤ x12_34 then
      some x11_34
    else
      if w2 < 0 then
        some x11_34
      else
        Option.bind (f_L_thing ke kv x12_34) fun (o38 : Int32) =>
        if x11_34 = 0 then
          if o38 < 0 then
            f_L_isBusy_l265 ka ke kv i6 w2 k9 (x12_34 + (1 : Int32)) (0 : Int32)
          else
            if (100 : Int32) ≤ o38 then
              f_L_isBusy_l265 ka ke kv i6 w2 k9 (x12_34 + (1 : Int32)) (0 : Int32)
            else
              if o38 = w2 then
                f_L_isBusy_l265 ka ke kv i6 w2 k9 (x12_34 + (1 : Int32)) (0 : Int32)
              else
                if (((5 : Int32) * w2) + (3 : Int32)) < 0 ∨ 60 ≤ (((5 : Int32) * w2) + (3 : Int32)).toNatClampNeg then none else
                if (ka (((5 : Int32) * w2) + (3 : Int32)).toNatClampNeg) < 0 then
                  f_L_isBusy_l265 ka ke kv i6 w2 k9 (x12_34 + (1 : Int32)) (0 : Int32)
                else
                  if (((5 : Int32) * o38) + (3 : Int32)) < 0 ∨ 60 ≤ (((5 : Int32) * o38) + (3 : Int32)).toNatClampNeg then none else
                  if (ka (((5 : Int32) * o38) + (3 : Int32)).toNatClampNeg) = (ka (((5 : Int32) * w2) + (3 : Int32)).toNatClampNeg) then
                    f_L_isBusy_l265 ka ke kv i6 w2 k9 (x12_34 + (1 : Int32)) (1 : Int32)
                  else
                    f_L_isBusy_l265 ka ke kv i6 w2 k9 (x12_34 + (1 : Int32)) (0 : Int32)
        else
          f_L_isBusy_l265 ka ke kv i6 w2 k9 (x12_34 + (1 : Int32)) (1 : Int32) := rfl
def f_L_isBusy (ka : xF) (kr : xF) (kc : xF) (ke : xF) (kv : xF) (kp : xF) (i6 : Int32) (i7 : Int32) : Option (Int32) :=
  Option.bind (f_L_isBusy_l10 ka ke kp i6 300 ((kc (0 : Int32).toNatClampNeg) - (1 : Int32)) ((-1) : Int32)) fun (w2 : Int32) =>
  Option.bind (f_L_isBusy_l83 ka kr ke kv i6 300 ((kc (0 : Int32).toNatClampNeg) - (1 : Int32)) ((-1) : Int32) (1000 : Int32)) fun (w10 : Int32) =>
  Option.bind (
    if (2 : Int32) ≤ i6 then
      some (i6 - (2 : Int32))
    else
      some (0 : Int32)) fun (v33 : Int32) =>
  Option.bind (f_L_isBusy_l265 ka ke kv i6 w2 300 v33 (0 : Int32)) fun (w35 : Int32) =>
  Option.bind (
    if w10 < 0 then
      if w2 < 0 then
        some ((-1) : Int32)
      else
        if w35 = 0 then
          some w2
        else
          some ((-1) : Int32)
    else
      some ((100 : Int32) + w10)) fun (v47 : Int32) =>
  if i7 = v47 then
    some (1 : Int32)
  else
    some (0 : Int32)
theorem f_L_isBusy_e (ka : xF) (kr : xF) (kc : xF) (ke : xF) (kv : xF) (kp : xF) (i6 : Int32) (i7 : Int32) : f_L_isBusy ka kr kc ke kv kp i6 i7 =
  Option.bind (f_L_isBusy_l10 ka ke kp i6 300 ((kc (0 : Int32).toNatClampNeg) - (1 : Int32)) ((-1) : Int32)) fun (w2 : Int32) =>
  Option.bind (f_L_isBusy_l83 ka kr ke kv i6 300 ((kc (0 : Int32).toNatClampNeg) - (1 : Int32)) ((-1) : Int32) (1000 : Int32)) fun (w10 : Int32) =>
  Option.bind (
    if (2 : Int32) ≤ i6 then
      some (i6 - (2 : Int32))
    else
      some (0 : Int32)) fun (v33 : Int32) =>
  Option.bind (f_L_isBusy_l265 ka ke kv i6 w2 300 v33 (0 : Int32)) fun (w35 : Int32) =>
  Option.bind (
    if w10 < 0 then
      if w2 < 0 then
        some ((-1) : Int32)
      else
        if w35 = 0 then
          some w2
        else
          some ((-1) : Int32)
    else
      some ((100 : Int32) + w10)) fun (v47 : Int32) =>
  if i7 = v47 then
    some (1 : Int32)
  else
    some (0 : Int32) := rfl
def f_L_asks_l3 (lo : xF) (yy_0 : Int32) (yy_1 : xF) (yy_2 : xF) (yy_3 : xF) (yy_4 : xF) (yy_5 : xF) (yy_6 : xF) (yy_7 : xF) (yy_8 : xF) (pp_0 : xF) (pp_1 : xF) (pp_2 : xF) (pp_3 : xF) (pp_4 : xF) (pp_5 : xF) (pp_6 : Int32) (pp_7 : Int32) (pp_8 : Int32) (qq_0 : xF) (qq_1 : xF) (qq_2 : xF) (qq_3 : xF) (qq_4 : xF) (qq_5 : xF) (qq_6 : Int32) (qq_7 : Int32) (qq_8 : Int32) (ka : xF) (kc : xF) : Nat → Int32 → xF → Option (xF)
  | 0, _, _ => none
  | k9 + 1, x7_1, ke0_1 =>
    if (60 : Int32) ≤ x7_1 then
      some ke0_1
    else
      if (kc (0 : Int32).toNatClampNeg) ≤ (x7_1 / (5 : Int32)) then
        if x7_1 < 0 ∨ 60 ≤ x7_1.toNatClampNeg then none else
        f_L_asks_l3 lo yy_0 yy_1 yy_2 yy_3 yy_4 yy_5 yy_6 yy_7 yy_8 pp_0 pp_1 pp_2 pp_3 pp_4 pp_5 pp_6 pp_7 pp_8 qq_0 qq_1 qq_2 qq_3 qq_4 qq_5 qq_6 qq_7 qq_8 ka kc k9 (x7_1 + (1 : Int32)) (upd ke0_1 x7_1.toNatClampNeg ((-1) : Int32))
      else
        if ((5 : Int32) * (x7_1 / (5 : Int32))) < 0 ∨ 60 ≤ ((5 : Int32) * (x7_1 / (5 : Int32))).toNatClampNeg then none else
        if (ka ((5 : Int32) * (x7_1 / (5 : Int32))).toNatClampNeg) ≤ (x7_1 - x7_1 / (5 : Int32) * (5 : Int32)) then
          if x7_1 < 0 ∨ 60 ≤ x7_1.toNatClampNeg then none else
          f_L_asks_l3 lo yy_0 yy_1 yy_2 yy_3 yy_4 yy_5 yy_6 yy_7 yy_8 pp_0 pp_1 pp_2 pp_3 pp_4 pp_5 pp_6 pp_7 pp_8 qq_0 qq_1 qq_2 qq_3 qq_4 qq_5 qq_6 qq_7 qq_8 ka kc k9 (x7_1 + (1 : Int32)) (upd ke0_1 x7_1.toNatClampNeg ((-1) : Int32))
        else
          Option.bind (f_X2_lessonDay lo (yy_0, yy_1, yy_2, yy_3, yy_4, yy_5, yy_6, yy_7, yy_8) (pp_0, pp_1, pp_2, pp_3, pp_4, pp_5, pp_6, pp_7, pp_8) (qq_0, qq_1, qq_2, qq_3, qq_4, qq_5, qq_6, qq_7, qq_8) (x7_1 / (5 : Int32)) (x7_1 - x7_1 / (5 : Int32) * (5 : Int32))) fun (o9 : Int32) =>
          if x7_1 < 0 ∨ 60 ≤ x7_1.toNatClampNeg then none else
          f_L_asks_l3 lo yy_0 yy_1 yy_2 yy_3 yy_4 yy_5 yy_6 yy_7 yy_8 pp_0 pp_1 pp_2 pp_3 pp_4 pp_5 pp_6 pp_7 pp_8 qq_0 qq_1 qq_2 qq_3 qq_4 qq_5 qq_6 qq_7 qq_8 ka kc k9 (x7_1 + (1 : Int32)) (upd ke0_1 x7_1.toNatClampNeg o9)
theorem f_L_asks_l3_z (lo : xF) (yy_0 : Int32) (yy_1 : xF) (yy_2 : xF) (yy_3 : xF) (yy_4 : xF) (yy_5 : xF) (yy_6 : xF) (yy_7 : xF) (yy_8 : xF) (pp_0 : xF) (pp_1 : xF) (pp_2 : xF) (pp_3 : xF) (pp_4 : xF) (pp_5 : xF) (pp_6 : Int32) (pp_7 : Int32) (pp_8 : Int32) (qq_0 : xF) (qq_1 : xF) (qq_2 : xF) (qq_3 : xF) (qq_4 : xF) (qq_5 : xF) (qq_6 : Int32) (qq_7 : Int32) (qq_8 : Int32) (ka : xF) (kc : xF) (x7_1 : Int32) (ke0_1 : xF) : f_L_asks_l3 lo yy_0 yy_1 yy_2 yy_3 yy_4 yy_5 yy_6 yy_7 yy_8 pp_0 pp_1 pp_2 pp_3 pp_4 pp_5 pp_6 pp_7 pp_8 qq_0 qq_1 qq_2 qq_3 qq_4 qq_5 qq_6 qq_7 qq_8 ka kc 0 x7_1 ke0_1 = none := rfl
theorem f_L_asks_l3_s (lo : xF) (yy_0 : Int32) (yy_1 : xF) (yy_2 : xF) (yy_3 : xF) (yy_4 : xF) (yy_5 : xF) (yy_6 : xF) (yy_7 : xF) (yy_8 : xF) (pp_0 : xF) (pp_1 : xF) (pp_2 : xF) (pp_3 : xF) (pp_4 : xF) (pp_5 : xF) (pp_6 : Int32) (pp_7 : Int32) (pp_8 : Int32) (qq_0 : xF) (qq_1 : xF) (qq_2 : xF) (qq_3 : xF) (qq_4 : xF) (qq_5 : xF) (qq_6 : Int32) (qq_7 : Int32) (qq_8 : Int32) (ka : xF) (kc : xF) (k9 : Nat) (x7_1 : Int32) (ke0_1 : xF) : f_L_asks_l3 lo yy_0 yy_1 yy_2 yy_3 yy_4 yy_5 yy_6 yy_7 yy_8 pp_0 pp_1 pp_2 pp_3 pp_4 pp_5 pp_6 pp_7 pp_8 qq_0 qq_1 qq_2 qq_3 qq_4 qq_5 qq_6 qq_7 qq_8 ka kc (k9 + 1) x7_1 ke0_1 =
    if (60 : Int32) ≤ x7_1 then
      some ke0_1
    else
      if (kc (0 : Int32).toNatClampNeg) ≤ (x7_1 / (5 : Int32)) then
        if x7_1 < 0 ∨ 60 ≤ x7_1.toNatClampNeg then none else
        f_L_asks_l3 lo yy_0 yy_1 yy_2 yy_3 yy_4 yy_5 yy_6 yy_7 yy_8 pp_0 pp_1 pp_2 pp_3 pp_4 pp_5 pp_6 pp_7 pp_8 qq_0 qq_1 qq_2 qq_3 qq_4 qq_5 qq_6 qq_7 qq_8 ka kc k9 (x7_1 + (1 : Int32)) (upd ke0_1 x7_1.toNatClampNeg ((-1) : Int32))
      else
        if ((5 : Int32) * (x7_1 / (5 : Int32))) < 0 ∨ 60 ≤ ((5 : Int32) * (x7_1 / (5 : Int32))).toNatClampNeg then none else
        if (ka ((5 : Int32) * (x7_1 / (5 : Int32))).toNatClampNeg) ≤ (x7_1 - x7_1 / (5 : Int32) * (5 : Int32)) then
          if x7_1 < 0 ∨ 60 ≤ x7_1.toNatClampNeg then none else
          f_L_asks_l3 lo yy_0 yy_1 yy_2 yy_3 yy_4 yy_5 yy_6 yy_7 yy_8 pp_0 pp_1 pp_2 pp_3 pp_4 pp_5 pp_6 pp_7 pp_8 qq_0 qq_1 qq_2 qq_3 qq_4 qq_5 qq_6 qq_7 qq_8 ka kc k9 (x7_1 + (1 : Int32)) (upd ke0_1 x7_1.toNatClampNeg ((-1) : Int32))
        else
          Option.bind (f_X2_lessonDay lo (yy_0, yy_1, yy_2, yy_3, yy_4, yy_5, yy_6, yy_7, yy_8) (pp_0, pp_1, pp_2, pp_3, pp_4, pp_5, pp_6, pp_7, pp_8) (qq_0, qq_1, qq_2, qq_3, qq_4, qq_5, qq_6, qq_7, qq_8) (x7_1 / (5 : Int32)) (x7_1 - x7_1 / (5 : Int32) * (5 : Int32))) fun (o9 : Int32) =>
          if x7_1 < 0 ∨ 60 ≤ x7_1.toNatClampNeg then none else
          f_L_asks_l3 lo yy_0 yy_1 yy_2 yy_3 yy_4 yy_5 yy_6 yy_7 yy_8 pp_0 pp_1 pp_2 pp_3 pp_4 pp_5 pp_6 pp_7 pp_8 qq_0 qq_1 qq_2 qq_3 qq_4 qq_5 qq_6 qq_7 qq_8 ka kc k9 (x7_1 + (1 : Int32)) (upd ke0_1 x7_1.toNatClampNeg o9) := rfl
def f_L_asks_l65 (lo : xF) (yy_0 : Int32) (yy_1 : xF) (yy_2 : xF) (yy_3 : xF) (yy_4 : xF) (yy_5 : xF) (yy_6 : xF) (yy_7 : xF) (yy_8 : xF) (pp_0 : xF) (pp_1 : xF) (pp_2 : xF) (pp_3 : xF) (pp_4 : xF) (pp_5 : xF) (pp_6 : Int32) (pp_7 : Int32) (pp_8 : Int32) (qq_0 : xF) (qq_1 : xF) (qq_2 : xF) (qq_3 : xF) (qq_4 : xF) (qq_5 : xF) (qq_6 : Int32) (qq_7 : Int32) (qq_8 : Int32) (kr : xF) (kc : xF) : Nat → Int32 → xF → Option (xF)
  | 0, _, _ => none
  | k9 + 1, x7_11, kv0_11 =>
    if (36 : Int32) ≤ x7_11 then
      some kv0_11
    else
      if (kc (0 : Int32).toNatClampNeg) ≤ (x7_11 / (3 : Int32)) then
        if x7_11 < 0 ∨ 36 ≤ x7_11.toNatClampNeg then none else
        f_L_asks_l65 lo yy_0 yy_1 yy_2 yy_3 yy_4 yy_5 yy_6 yy_7 yy_8 pp_0 pp_1 pp_2 pp_3 pp_4 pp_5 pp_6 pp_7 pp_8 qq_0 qq_1 qq_2 qq_3 qq_4 qq_5 qq_6 qq_7 qq_8 kr kc k9 (x7_11 + (1 : Int32)) (upd kv0_11 x7_11.toNatClampNeg ((-1) : Int32))
      else
        if ((2 : Int32) * (x7_11 / (3 : Int32))) < 0 ∨ 24 ≤ ((2 : Int32) * (x7_11 / (3 : Int32))).toNatClampNeg then none else
        if (kr ((2 : Int32) * (x7_11 / (3 : Int32))).toNatClampNeg) ≤ (x7_11 - x7_11 / (3 : Int32) * (3 : Int32)) then
          if x7_11 < 0 ∨ 36 ≤ x7_11.toNatClampNeg then none else
          f_L_asks_l65 lo yy_0 yy_1 yy_2 yy_3 yy_4 yy_5 yy_6 yy_7 yy_8 pp_0 pp_1 pp_2 pp_3 pp_4 pp_5 pp_6 pp_7 pp_8 qq_0 qq_1 qq_2 qq_3 qq_4 qq_5 qq_6 qq_7 qq_8 kr kc k9 (x7_11 + (1 : Int32)) (upd kv0_11 x7_11.toNatClampNeg ((-1) : Int32))
        else
          Option.bind (f_X2_revisitDay lo (yy_0, yy_1, yy_2, yy_3, yy_4, yy_5, yy_6, yy_7, yy_8) (pp_0, pp_1, pp_2, pp_3, pp_4, pp_5, pp_6, pp_7, pp_8) (qq_0, qq_1, qq_2, qq_3, qq_4, qq_5, qq_6, qq_7, qq_8) (x7_11 / (3 : Int32)) (x7_11 - x7_11 / (3 : Int32) * (3 : Int32))) fun (o19 : Int32) =>
          if x7_11 < 0 ∨ 36 ≤ x7_11.toNatClampNeg then none else
          f_L_asks_l65 lo yy_0 yy_1 yy_2 yy_3 yy_4 yy_5 yy_6 yy_7 yy_8 pp_0 pp_1 pp_2 pp_3 pp_4 pp_5 pp_6 pp_7 pp_8 qq_0 qq_1 qq_2 qq_3 qq_4 qq_5 qq_6 qq_7 qq_8 kr kc k9 (x7_11 + (1 : Int32)) (upd kv0_11 x7_11.toNatClampNeg o19)
theorem f_L_asks_l65_z (lo : xF) (yy_0 : Int32) (yy_1 : xF) (yy_2 : xF) (yy_3 : xF) (yy_4 : xF) (yy_5 : xF) (yy_6 : xF) (yy_7 : xF) (yy_8 : xF) (pp_0 : xF) (pp_1 : xF) (pp_2 : xF) (pp_3 : xF) (pp_4 : xF) (pp_5 : xF) (pp_6 : Int32) (pp_7 : Int32) (pp_8 : Int32) (qq_0 : xF) (qq_1 : xF) (qq_2 : xF) (qq_3 : xF) (qq_4 : xF) (qq_5 : xF) (qq_6 : Int32) (qq_7 : Int32) (qq_8 : Int32) (kr : xF) (kc : xF) (x7_11 : Int32) (kv0_11 : xF) : f_L_asks_l65 lo yy_0 yy_1 yy_2 yy_3 yy_4 yy_5 yy_6 yy_7 yy_8 pp_0 pp_1 pp_2 pp_3 pp_4 pp_5 pp_6 pp_7 pp_8 qq_0 qq_1 qq_2 qq_3 qq_4 qq_5 qq_6 qq_7 qq_8 kr kc 0 x7_11 kv0_11 = none := rfl
theorem f_L_asks_l65_s (lo : xF) (yy_0 : Int32) (yy_1 : xF) (yy_2 : xF) (yy_3 : xF) (yy_4 : xF) (yy_5 : xF) (yy_6 : xF) (yy_7 : xF) (yy_8 : xF) (pp_0 : xF) (pp_1 : xF) (pp_2 : xF) (pp_3 : xF) (pp_4 : xF) (pp_5 : xF) (pp_6 : Int32) (pp_7 : Int32) (pp_8 : Int32) (qq_0 : xF) (qq_1 : xF) (qq_2 : xF) (qq_3 : xF) (qq_4 : xF) (qq_5 : xF) (qq_6 : Int32) (qq_7 : Int32) (qq_8 : Int32) (kr : xF) (kc : xF) (k9 : Nat) (x7_11 : Int32) (kv0_11 : xF) : f_L_asks_l65 lo yy_0 yy_1 yy_2 yy_3 yy_4 yy_5 yy_6 yy_7 yy_8 pp_0 pp_1 pp_2 pp_3 pp_4 pp_5 pp_6 pp_7 pp_8 qq_0 qq_1 qq_2 qq_3 qq_4 qq_5 qq_6 qq_7 qq_8 kr kc (k9 + 1) x7_11 kv0_11 =
    if (36 : Int32) ≤ x7_11 then
      some kv0_11
    else
      if (kc (0 : Int32).toNatClampNeg) ≤ (x7_11 / (3 : Int32)) then
        if x7_11 < 0 ∨ 36 ≤ x7_11.toNatClampNeg then none else
        f_L_asks_l65 lo yy_0 yy_1 yy_2 yy_3 yy_4 yy_5 yy_6 yy_7 yy_8 pp_0 pp_1 pp_2 pp_3 pp_4 pp_5 pp_6 pp_7 pp_8 qq_0 qq_1 qq_2 qq_3 qq_4 qq_5 qq_6 qq_7 qq_8 kr kc k9 (x7_11 + (1 : Int32)) (upd kv0_11 x7_11.toNatClampNeg ((-1) : Int32))
      else
        if ((2 : Int32) * (x7_11 / (3 : Int32))) < 0 ∨ 24 ≤ ((2 : Int32) * (x7_11 / (3 : Int32))).toNatClampNeg then none else
        if (kr ((2 : Int32) * (x7_11 / (3 : Int32))).toNatClampNeg) ≤ (x7_11 - x7_11 / (3 : Int32) * (3 : Int32)) then
          if x7_11 < 0 ∨ 36 ≤ x7_11.toNatClampNeg then none else
          f_L_asks_l65 lo yy_0 yy_1 yy_2 yy_3 yy_4 yy_5 yy_6 yy_7 yy_8 pp_0 pp_1 pp_2 pp_3 pp_4 pp_5 pp_6 pp_7 pp_8 qq_0 qq_1 qq_2 qq_3 qq_4 qq_5 qq_6 qq_7 qq_8 kr kc k9 (x7_11 + (1 : Int32)) (upd kv0_11 x7_11.toNatClampNeg ((-1) : Int32))
        else
          Option.bind (f_X2_revisitDay lo (yy_0, yy_1, yy_2, yy_3, yy_4, yy_5, yy_6, yy_7, yy_8) (pp_0, pp_1, pp_2, pp_3, pp_4, pp_5, pp_6, pp_7, pp_8) (qq_0, qq_1, qq_2, qq_3, qq_4, qq_5, qq_6, qq_7, qq_8) (x7_11 / (3 : Int32)) (x7_11 - x7_11 / (3 : Int32) * (3 : Int32))) fun (o19 : Int32) =>
          if x7_11 < 0 ∨ 36 ≤ x7_11.toNatClampNeg then none else
          f_L_asks_l65 lo yy_0 yy_1 yy_2 yy_3 yy_4 yy_5 yy_6 yy_7 yy_8 pp_0 pp_1 pp_2 pp_3 pp_4 pp_5 pp_6 pp_7 pp_8 qq_0 qq_1 qq_2 qq_3 qq_4 qq_5 qq_6 qq_7 qq_8 kr kc k9 (x7_11 + (1 : Int32)) (upd kv0_11 x7_11.toNatClampNeg o19) := rfl
def f_L_asks_l127 (lo : xF) (yy_0 : Int32) (yy_1 : xF) (yy_2 : xF) (yy_3 : xF) (yy_4 : xF) (yy_5 : xF) (yy_6 : xF) (yy_7 : xF) (yy_8 : xF) (pp_0 : xF) (pp_1 : xF) (pp_2 : xF) (pp_3 : xF) (pp_4 : xF) (pp_5 : xF) (pp_6 : Int32) (pp_7 : Int32) (pp_8 : Int32) (qq_0 : xF) (qq_1 : xF) (qq_2 : xF) (qq_3 : xF) (qq_4 : xF) (qq_5 : xF) (qq_6 : Int32) (qq_7 : Int32) (qq_8 : Int32) (kc : xF) : Nat → Int32 → xF → Option (xF)
  | 0, _, _ => none
  | k9 + 1, x7_21, kp0_21 =>
    if (kc (0 : Int32).toNatClampNeg) ≤ x7_21 then
      some kp0_21
    else
      Option.bind (f_X2_ordered lo (yy_0, yy_1, yy_2, yy_3, yy_4, yy_5, yy_6, yy_7, yy_8) (pp_0, pp_1, pp_2, pp_3, pp_4, pp_5, pp_6, pp_7, pp_8) (qq_0, qq_1, qq_2, qq_3, qq_4, qq_5, qq_6, qq_7, qq_8) x7_21) fun (o24 : Int32) =>
      if x7_21 < 0 ∨ 12 ≤ x7_21.toNatClampNeg then none else
      f_L_asks_l127 lo yy_0 yy_1 yy_2 yy_3 yy_4 yy_5 yy_6 yy_7 yy_8 pp_0 pp_1 pp_2 pp_3 pp_4 pp_5 pp_6 pp_7 pp_8 qq_0 qq_1 qq_2 qq_3 qq_4 qq_5 qq_6 qq_7 qq_8 kc k9 (x7_21 + (1 : Int32)) (upd kp0_21 x7_21.toNatClampNeg o24)
theorem f_L_asks_l127_z (lo : xF) (yy_0 : Int32) (yy_1 : xF) (yy_2 : xF) (yy_3 : xF) (yy_4 : xF) (yy_5 : xF) (yy_6 : xF) (yy_7 : xF) (yy_8 : xF) (pp_0 : xF) (pp_1 : xF) (pp_2 : xF) (pp_3 : xF) (pp_4 : xF) (pp_5 : xF) (pp_6 : Int32) (pp_7 : Int32) (pp_8 : Int32) (qq_0 : xF) (qq_1 : xF) (qq_2 : xF) (qq_3 : xF) (qq_4 : xF) (qq_5 : xF) (qq_6 : Int32) (qq_7 : Int32) (qq_8 : Int32) (kc : xF) (x7_21 : Int32) (kp0_21 : xF) : f_L_asks_l127 lo yy_0 yy_1 yy_2 yy_3 yy_4 yy_5 yy_6 yy_7 yy_8 pp_0 pp_1 pp_2 pp_3 pp_4 pp_5 pp_6 pp_7 pp_8 qq_0 qq_1 qq_2 qq_3 qq_4 qq_5 qq_6 qq_7 qq_8 kc 0 x7_21 kp0_21 = none := rfl
theorem f_L_asks_l127_s (lo : xF) (yy_0 : Int32) (yy_1 : xF) (yy_2 : xF) (yy_3 : xF) (yy_4 : xF) (yy_5 : xF) (yy_6 : xF) (yy_7 : xF) (yy_8 : xF) (pp_0 : xF) (pp_1 : xF) (pp_2 : xF) (pp_3 : xF) (pp_4 : xF) (pp_5 : xF) (pp_6 : Int32) (pp_7 : Int32) (pp_8 : Int32) (qq_0 : xF) (qq_1 : xF) (qq_2 : xF) (qq_3 : xF) (qq_4 : xF) (qq_5 : xF) (qq_6 : Int32) (qq_7 : Int32) (qq_8 : Int32) (kc : xF) (k9 : Nat) (x7_21 : Int32) (kp0_21 : xF) : f_L_asks_l127 lo yy_0 yy_1 yy_2 yy_3 yy_4 yy_5 yy_6 yy_7 yy_8 pp_0 pp_1 pp_2 pp_3 pp_4 pp_5 pp_6 pp_7 pp_8 qq_0 qq_1 qq_2 qq_3 qq_4 qq_5 qq_6 qq_7 qq_8 kc (k9 + 1) x7_21 kp0_21 =
    if (kc (0 : Int32).toNatClampNeg) ≤ x7_21 then
      some kp0_21
    else
      Option.bind (f_X2_ordered lo (yy_0, yy_1, yy_2, yy_3, yy_4, yy_5, yy_6, yy_7, yy_8) (pp_0, pp_1, pp_2, pp_3, pp_4, pp_5, pp_6, pp_7, pp_8) (qq_0, qq_1, qq_2, qq_3, qq_4, qq_5, qq_6, qq_7, qq_8) x7_21) fun (o24 : Int32) =>
      if x7_21 < 0 ∨ 12 ≤ x7_21.toNatClampNeg then none else
      f_L_asks_l127 lo yy_0 yy_1 yy_2 yy_3 yy_4 yy_5 yy_6 yy_7 yy_8 pp_0 pp_1 pp_2 pp_3 pp_4 pp_5 pp_6 pp_7 pp_8 qq_0 qq_1 qq_2 qq_3 qq_4 qq_5 qq_6 qq_7 qq_8 kc k9 (x7_21 + (1 : Int32)) (upd kp0_21 x7_21.toNatClampNeg o24) := rfl
def f_L_asks (lo : xF) (yy : xSY) (pp : xPL) (qq : xPL) (ka : xF) (kr : xF) (kc : xF) (ke : xF) (kv : xF) (kp : xF) : Option (xF × xF × xF) :=
  Option.bind (f_L_asks_l3 lo yy.1 yy.2.1 yy.2.2.1 yy.2.2.2.1 yy.2.2.2.2.1 yy.2.2.2.2.2.1 yy.2.2.2.2.2.2.1 yy.2.2.2.2.2.2.2.1 yy.2.2.2.2.2.2.2.2 pp.1 pp.2.1 pp.2.2.1 pp.2.2.2.1 pp.2.2.2.2.1 pp.2.2.2.2.2.1 pp.2.2.2.2.2.2.1 pp.2.2.2.2.2.2.2.1 pp.2.2.2.2.2.2.2.2 qq.1 qq.2.1 qq.2.2.1 qq.2.2.2.1 qq.2.2.2.2.1 qq.2.2.2.2.2.1 qq.2.2.2.2.2.2.1 qq.2.2.2.2.2.2.2.1 qq.2.2.2.2.2.2.2.2 ka kc 300 (0 : Int32) ke) fun (w2 : xF) =>
  Option.bind (f_L_asks_l65 lo yy.1 yy.2.1 yy.2.2.1 yy.2.2.2.1 yy.2.2.2.2.1 yy.2.2.2.2.2.1 yy.2.2.2.2.2.2.1 yy.2.2.2.2.2.2.2.1 yy.2.2.2.2.2.2.2.2 pp.1 pp.2.1 pp.2.2.1 pp.2.2.2.1 pp.2.2.2.2.1 pp.2.2.2.2.2.1 pp.2.2.2.2.2.2.1 pp.2.2.2.2.2.2.2.1 pp.2.2.2.2.2.2.2.2 qq.1 qq.2.1 qq.2.2.1 qq.2.2.2.1 qq.2.2.2.2.1 qq.2.2.2.2.2.1 qq.2.2.2.2.2.2.1 qq.2.2.2.2.2.2.2.1 qq.2.2.2.2.2.2.2.2 kr kc 300 (0 : Int32) kv) fun (w12 : xF) =>
  Option.bind (f_L_asks_l127 lo yy.1 yy.2.1 yy.2.2.1 yy.2.2.2.1 yy.2.2.2.2.1 yy.2.2.2.2.2.1 yy.2.2.2.2.2.2.1 yy.2.2.2.2.2.2.2.1 yy.2.2.2.2.2.2.2.2 pp.1 pp.2.1 pp.2.2.1 pp.2.2.2.1 pp.2.2.2.2.1 pp.2.2.2.2.2.1 pp.2.2.2.2.2.2.1 pp.2.2.2.2.2.2.2.1 pp.2.2.2.2.2.2.2.2 qq.1 qq.2.1 qq.2.2.1 qq.2.2.2.1 qq.2.2.2.2.1 qq.2.2.2.2.2.1 qq.2.2.2.2.2.2.1 qq.2.2.2.2.2.2.2.1 qq.2.2.2.2.2.2.2.2 kc 300 (0 : Int32) kp) fun (w22 : xF) =>
  some (w2, w12, w22)
theorem f_L_asks_e (lo : xF) (yy_0 : Int32) (yy_1 : xF) (yy_2 : xF) (yy_3 : xF) (yy_4 : xF) (yy_5 : xF) (yy_6 : xF) (yy_7 : xF) (yy_8 : xF) (pp_0 : xF) (pp_1 : xF) (pp_2 : xF) (pp_3 : xF) (pp_4 : xF) (pp_5 : xF) (pp_6 : Int32) (pp_7 : Int32) (pp_8 : Int32) (qq_0 : xF) (qq_1 : xF) (qq_2 : xF) (qq_3 : xF) (qq_4 : xF) (qq_5 : xF) (qq_6 : Int32) (qq_7 : Int32) (qq_8 : Int32) (ka : xF) (kr : xF) (kc : xF) (ke : xF) (kv : xF) (kp : xF) : f_L_asks lo (yy_0, yy_1, yy_2, yy_3, yy_4, yy_5, yy_6, yy_7, yy_8) (pp_0, pp_1, pp_2, pp_3, pp_4, pp_5, pp_6, pp_7, pp_8) (qq_0, qq_1, qq_2, qq_3, qq_4, qq_5, qq_6, qq_7, qq_8) ka kr kc ke kv kp =
  Option.bind (f_L_asks_l3 lo yy_0 yy_1 yy_2 yy_3 yy_4 yy_5 yy_6 yy_7 yy_8 pp_0 pp_1 pp_2 pp_3 pp_4 pp_5 pp_6 pp_7 pp_8 qq_0 qq_1 qq_2 qq_3 qq_4 qq_5 qq_6 qq_7 qq_8 ka kc 300 (0 : Int32) ke) fun (w2 : xF) =>
  Option.bind (f_L_asks_l65 lo yy_0 yy_1 yy_2 yy_3 yy_4 yy_5 yy_6 yy_7 yy_8 pp_0 pp_1 pp_2 pp_3 pp_4 pp_5 pp_6 pp_7 pp_8 qq_0 qq_1 qq_2 qq_3 qq_4 qq_5 qq_6 qq_7 qq_8 kr kc 300 (0 : Int32) kv) fun (w12 : xF) =>
  Option.bind (f_L_asks_l127 lo yy_0 yy_1 yy_2 yy_3 yy_4 yy_5 yy_6 yy_7 yy_8 pp_0 pp_1 pp_2 pp_3 pp_4 pp_5 pp_6 pp_7 pp_8 qq_0 qq_1 qq_2 qq_3 qq_4 qq_5 qq_6 qq_7 qq_8 kc 300 (0 : Int32) kp) fun (w22 : xF) =>
  some (w2, w12, w22) := rfl
def f_L_isOrder_l129 (ka : xF) (kc : xF) (x4_3 : Int32) (x3_3 : Int32) (o7 : Int32) (v9 : Int32) : Nat → Int32 → Int32 → Option (Int32)
  | 0, _, _ => none
  | k9 + 1, x9_10, x5_10 =>
    if (kc (0 : Int32).toNatClampNeg) ≤ x9_10 then
      some x5_10
    else
      if x5_10 = 0 then
        some x5_10
      else
        Option.bind (
          if x9_10 = o7 then
            some (0 : Int32)
          else
            Option.bind (f_L_isIn x3_3 x9_10) fun (o25 : Int32) =>
            if o25 = 0 then
              if (((5 : Int32) * x9_10) + (4 : Int32)) < 0 ∨ 60 ≤ (((5 : Int32) * x9_10) + (4 : Int32)).toNatClampNeg then none else
              if ((ka (((5 : Int32) * x9_10) + (4 : Int32)).toNatClampNeg) &&& (x3_3 ^^^ ((-1) : Int32))) = 0 then
                some (1 : Int32)
              else
                some (0 : Int32)
            else
              some (0 : Int32)) fun (v14 : Int32) =>
        Option.bind (
          if x4_3 < 0 then
            some (0 : Int32)
          else
            if (((5 : Int32) * x9_10) + (1 : Int32)) < 0 ∨ 60 ≤ (((5 : Int32) * x9_10) + (1 : Int32)).toNatClampNeg then none else
            if (((5 : Int32) * x4_3) + (1 : Int32)) < 0 ∨ 60 ≤ (((5 : Int32) * x4_3) + (1 : Int32)).toNatClampNeg then none else
            if (ka (((5 : Int32) * x9_10) + (1 : Int32)).toNatClampNeg) = (ka (((5 : Int32) * x4_3) + (1 : Int32)).toNatClampNeg) then
              some (1 : Int32)
            else
              some (0 : Int32)) fun (v15 : Int32) =>
        if v14 = 0 then
          f_L_isOrder_l129 ka kc x4_3 x3_3 o7 v9 k9 (x9_10 + (1 : Int32)) (1 : Int32)
        else
          if v15 = v9 then
            if x9_10 ≤ o7 then
              f_L_isOrder_l129 ka kc x4_3 x3_3 o7 v9 k9 (x9_10 + (1 : Int32)) (0 : Int32)
            else
              f_L_isOrder_l129 ka kc x4_3 x3_3 o7 v9 k9 (x9_10 + (1 : Int32)) (1 : Int32)
          else
            if v9 = 0 then
              f_L_isOrder_l129 ka kc x4_3 x3_3 o7 v9 k9 (x9_10 + (1 : Int32)) (0 : Int32)
            else
              f_L_isOrder_l129 ka kc x4_3 x3_3 o7 v9 k9 (x9_10 + (1 : Int32)) (1 : Int32)
theorem f_L_isOrder_l129_z (ka : xF) (kc : xF) (x4_3 : Int32) (x3_3 : Int32) (o7 : Int32) (v9 : Int32) (x9_10 : Int32) (x5_10 : Int32) : f_L_isOrder_l129 ka kc x4_3 x3_3 o7 v9 0 x9_10 x5_10 = none := rfl
theorem f_L_isOrder_l129_s (ka : xF) (kc : xF) (x4_3 : Int32) (x3_3 : Int32) (o7 : Int32) (v9 : Int32) (k9 : Nat) (x9_10 : Int32) (x5_10 : Int32) : f_L_isOrder_l129 ka kc x4_3 x3_3 o7 v9 (k9 + 1) x9_10 x5_10 =
    if (kc (0 : Int32).toNatClampNeg) ≤ x9_10 then
      some x5_10
    else
      if x5_10 = 0 then
        some x5_10
      else
        Option.bind (
          if x9_10 = o7 then
            some (0 : Int32)
          else
            Option.bind (f_L_isIn x3_3 x9_10) fun (o25 : Int32) =>
            if o25 = 0 then
              if (((5 : Int32) * x9_10) + (4 : Int32)) < 0 ∨ 60 ≤ (((5 : Int32) * x9_10) + (4 : Int32)).toNatClampNeg then none else
              if ((ka (((5 : Int32) * x9_10) + (4 : Int32)).toNatClampNeg) &&& (x3_3 ^^^ ((-1) : Int32))) = 0 then
                some (1 : Int32)
              else
                some (0 : Int32)
            else
              some (0 : Int32)) fun (v14 : Int32) =>
        Option.bind (
          if x4_3 < 0 then
            some (0 : Int32)
          else
            if (((5 : Int32) * x9_10) + (1 : Int32)) < 0 ∨ 60 ≤ (((5 : Int32) * x9_10) + (1 : Int32)).toNatClampNeg then none else
            if (((5 : Int32) * x4_3) + (1 : Int32)) < 0 ∨ 60 ≤ (((5 : Int32) * x4_3) + (1 : Int32)).toNatClampNeg then none else
            if (ka (((5 : Int32) * x9_10) + (1 : Int32)).toNatClampNeg) = (ka (((5 : Int32) * x4_3) + (1 : Int32)).toNatClampNeg) then
              some (1 : Int32)
            else
              some (0 : Int32)) fun (v15 : Int32) =>
        if v14 = 0 then
          f_L_isOrder_l129 ka kc x4_3 x3_3 o7 v9 k9 (x9_10 + (1 : Int32)) (1 : Int32)
        else
          if v15 = v9 then
            if x9_10 ≤ o7 then
              f_L_isOrder_l129 ka kc x4_3 x3_3 o7 v9 k9 (x9_10 + (1 : Int32)) (0 : Int32)
            else
              f_L_isOrder_l129 ka kc x4_3 x3_3 o7 v9 k9 (x9_10 + (1 : Int32)) (1 : Int32)
          else
            if v9 = 0 then
              f_L_isOrder_l129 ka kc x4_3 x3_3 o7 v9 k9 (x9_10 + (1 : Int32)) (0 : Int32)
            else
              f_L_isOrder_l129 ka kc x4_3 x3_3 o7 v9 k9 (x9_10 + (1 : Int32)) (1 : Int32) := rfl
def f_L_isOrder_l25 (lo : xF) (yy_0 : Int32) (yy_1 : xF) (yy_2 : xF) (yy_3 : xF) (yy_4 : xF) (yy_5 : xF) (yy_6 : xF) (yy_7 : xF) (yy_8 : xF) (pp_0 : xF) (pp_1 : xF) (pp_2 : xF) (pp_3 : xF) (pp_4 : xF) (pp_5 : xF) (pp_6 : Int32) (pp_7 : Int32) (pp_8 : Int32) (qq_0 : xF) (qq_1 : xF) (qq_2 : xF) (qq_3 : xF) (qq_4 : xF) (qq_5 : xF) (qq_6 : Int32) (qq_7 : Int32) (qq_8 : Int32) (ka : xF) (kc : xF) : Nat → Int32 → Int32 → Int32 → Int32 → Option (Int32)
  | 0, _, _, _, _ => none
  | k9 + 1, x6_3, x5_3, x4_3, x3_3 =>
    if (kc (0 : Int32).toNatClampNeg) ≤ x6_3 then
      some x5_3
    else
      if x5_3 = 0 then
        some x5_3
      else
        Option.bind (f_X2_ordered lo (yy_0, yy_1, yy_2, yy_3, yy_4, yy_5, yy_6, yy_7, yy_8) (pp_0, pp_1, pp_2, pp_3, pp_4, pp_5, pp_6, pp_7, pp_8) (qq_0, qq_1, qq_2, qq_3, qq_4, qq_5, qq_6, qq_7, qq_8) x6_3) fun (o7 : Int32) =>
        Option.bind (
          if o7 < 0 then
            some (0 : Int32)
          else
            if (kc (0 : Int32).toNatClampNeg) ≤ o7 then
              some (0 : Int32)
            else
              Option.bind (f_L_isIn x3_3 o7) fun (o38 : Int32) =>
              if o38 = 0 then
                if (((5 : Int32) * o7) + (4 : Int32)) < 0 ∨ 60 ≤ (((5 : Int32) * o7) + (4 : Int32)).toNatClampNeg then none else
                if ((ka (((5 : Int32) * o7) + (4 : Int32)).toNatClampNeg) &&& (x3_3 ^^^ ((-1) : Int32))) = 0 then
                  some (1 : Int32)
                else
                  some (0 : Int32)
              else
                some (0 : Int32)) fun (v8 : Int32) =>
        Option.bind (
          if v8 = 0 then
            some (0 : Int32)
          else
            if x4_3 < 0 then
              some (0 : Int32)
            else
              if (((5 : Int32) * o7) + (1 : Int32)) < 0 ∨ 60 ≤ (((5 : Int32) * o7) + (1 : Int32)).toNatClampNeg then none else
              if (((5 : Int32) * x4_3) + (1 : Int32)) < 0 ∨ 60 ≤ (((5 : Int32) * x4_3) + (1 : Int32)).toNatClampNeg then none else
              if (ka (((5 : Int32) * o7) + (1 : Int32)).toNatClampNeg) = (ka (((5 : Int32) * x4_3) + (1 : Int32)).toNatClampNeg) then
                some (1 : Int32)
              else
                some (0 : Int32)) fun (v9 : Int32) =>
        Option.bind (f_L_isOrder_l129 ka kc x4_3 x3_3 o7 v9 300 (0 : Int32) v8) fun (w11 : Int32) =>
        Option.bind (
          if w11 = 0 then
            some (0 : Int32)
          else
            some ((1 : Int32) <<< (o7 &&& 31))) fun (v29 : Int32) =>
        f_L_isOrder_l25 lo yy_0 yy_1 yy_2 yy_3 yy_4 yy_5 yy_6 yy_7 yy_8 pp_0 pp_1 pp_2 pp_3 pp_4 pp_5 pp_6 pp_7 pp_8 qq_0 qq_1 qq_2 qq_3 qq_4 qq_5 qq_6 qq_7 qq_8 ka kc k9 (x6_3 + (1 : Int32)) w11 o7 (x3_3 ||| v29)
theorem f_L_isOrder_l25_z (lo : xF) (yy_0 : Int32) (yy_1 : xF) (yy_2 : xF) (yy_3 : xF) (yy_4 : xF) (yy_5 : xF) (yy_6 : xF) (yy_7 : xF) (yy_8 : xF) (pp_0 : xF) (pp_1 : xF) (pp_2 : xF) (pp_3 : xF) (pp_4 : xF) (pp_5 : xF) (pp_6 : Int32) (pp_7 : Int32) (pp_8 : Int32) (qq_0 : xF) (qq_1 : xF) (qq_2 : xF) (qq_3 : xF) (qq_4 : xF) (qq_5 : xF) (qq_6 : Int32) (qq_7 : Int32) (qq_8 : Int32) (ka : xF) (kc : xF) (x6_3 : Int32) (x5_3 : Int32) (x4_3 : Int32) (x3_3 : Int32) : f_L_isOrder_l25 lo yy_0 yy_1 yy_2 yy_3 yy_4 yy_5 yy_6 yy_7 yy_8 pp_0 pp_1 pp_2 pp_3 pp_4 pp_5 pp_6 pp_7 pp_8 qq_0 qq_1 qq_2 qq_3 qq_4 qq_5 qq_6 qq_7 qq_8 ka kc 0 x6_3 x5_3 x4_3 x3_3 = none := rfl
theorem f_L_isOrder_l25_s (lo : xF) (yy_0 : Int32) (yy_1 : xF) (yy_2 : xF) (yy_3 : xF) (yy_4 : xF) (yy_5 : xF) (yy_6 : xF) (yy_7 : xF) (yy_8 : xF) (pp_0 : xF) (pp_1 : xF) (pp_2 : xF) (pp_3 : xF) (pp_4 : xF) (pp_5 : xF) (pp_6 : Int32) (pp_7 : Int32) (pp_8 : Int32) (qq_0 : xF) (qq_1 : xF) (qq_2 : xF) (qq_3 : xF) (qq_4 : xF) (qq_5 : xF) (qq_6 : Int32) (qq_7 : Int32) (qq_8 : Int32) (ka : xF) (kc : xF) (k9 : Nat) (x6_3 : Int32) (x5_3 : Int32) (x4_3 : Int32) (x3_3 : Int32) : f_L_isOrder_l25 lo yy_0 yy_1 yy_2 yy_3 yy_4 yy_5 yy_6 yy_7 yy_8 pp_0 pp_1 pp_2 pp_3 pp_4 pp_5 pp_6 pp_7 pp_8 qq_0 qq_1 qq_2 qq_3 qq_4 qq_5 qq_6 qq_7 qq_8 ka kc (k9 + 1) x6_3 x5_3 x4_3 x3_3 =
    if (kc (0 : Int32).toNatClampNeg) ≤ x6_3 then
      some x5_3
    else
      if x5_3 = 0 then
        some x5_3
      else
        Option.bind (f_X2_ordered lo (yy_0, yy_1, yy_2, yy_3, yy_4, yy_5, yy_6, yy_7, yy_8) (pp_0, pp_1, pp_2, pp_3, pp_4, pp_5, pp_6, pp_7, pp_8) (qq_0, qq_1, qq_2, qq_3, qq_4, qq_5, qq_6, qq_7, qq_8) x6_3) fun (o7 : Int32) =>
        Option.bind (
          if o7 < 0 then
            some (0 : Int32)
          else
            if (kc (0 : Int32).toNatClampNeg) ≤ o7 then
              some (0 : Int32)
            else
              Option.bind (f_L_isIn x3_3 o7) fun (o38 : Int32) =>
              if o38 = 0 then
                if (((5 : Int32) * o7) + (4 : Int32)) < 0 ∨ 60 ≤ (((5 : Int32) * o7) + (4 : Int32)).toNatClampNeg then none else
                if ((ka (((5 : Int32) * o7) + (4 : Int32)).toNatClampNeg) &&& (x3_3 ^^^ ((-1) : Int32))) = 0 then
                  some (1 : Int32)
                else
                  some (0 : Int32)
              else
                some (0 : Int32)) fun (v8 : Int32) =>
        Option.bind (
          if v8 = 0 then
            some (0 : Int32)
          else
            if x4_3 < 0 then
              some (0 : Int32)
            else
              if (((5 : Int32) * o7) + (1 : Int32)) < 0 ∨ 60 ≤ (((5 : Int32) * o7) + (1 : Int32)).toNatClampNeg then none else
              if (((5 : Int32) * x4_3) + (1 : Int32)) < 0 ∨ 60 ≤ (((5 : Int32) * x4_3) + (1 : Int32)).toNatClampNeg then none else
              if (ka (((5 : Int32) * o7) + (1 : Int32)).toNatClampNeg) = (ka (((5 : Int32) * x4_3) + (1 : Int32)).toNatClampNeg) then
                some (1 : Int32)
              else
                some (0 : Int32)) fun (v9 : Int32) =>
        Option.bind (f_L_isOrder_l129 ka kc x4_3 x3_3 o7 v9 300 (0 : Int32) v8) fun (w11 : Int32) =>
        Option.bind (
          if w11 = 0 then
            some (0 : Int32)
          else
            some ((1 : Int32) <<< (o7 &&& 31))) fun (v29 : Int32) =>
        f_L_isOrder_l25 lo yy_0 yy_1 yy_2 yy_3 yy_4 yy_5 yy_6 yy_7 yy_8 pp_0 pp_1 pp_2 pp_3 pp_4 pp_5 pp_6 pp_7 pp_8 qq_0 qq_1 qq_2 qq_3 qq_4 qq_5 qq_6 qq_7 qq_8 ka kc k9 (x6_3 + (1 : Int32)) w11 o7 (x3_3 ||| v29) := rfl
def f_L_isOrder_l314 (lo : xF) (yy_0 : Int32) (yy_1 : xF) (yy_2 : xF) (yy_3 : xF) (yy_4 : xF) (yy_5 : xF) (yy_6 : xF) (yy_7 : xF) (yy_8 : xF) (pp_0 : xF) (pp_1 : xF) (pp_2 : xF) (pp_3 : xF) (pp_4 : xF) (pp_5 : xF) (pp_6 : Int32) (pp_7 : Int32) (pp_8 : Int32) (qq_0 : xF) (qq_1 : xF) (qq_2 : xF) (qq_3 : xF) (qq_4 : xF) (qq_5 : xF) (qq_6 : Int32) (qq_7 : Int32) (qq_8 : Int32) (ka : xF) (kc : xF) (x6_42 : Int32) : Nat → Int32 → Int32 → Option (Int32)
  | 0, _, _ => none
  | k9 + 1, x9_48, x8_48 =>
    if (kc (0 : Int32).toNatClampNeg) ≤ x9_48 then
      some x8_48
    else
      Option.bind (f_L_isIn (ka (((5 : Int32) * x6_42) + (4 : Int32)).toNatClampNeg) x9_48) fun (o51 : Int32) =>
      Option.bind (
        if o51 = 0 then
          some (0 : Int32)
        else
          Option.bind (f_X2_allNeeds lo (yy_0, yy_1, yy_2, yy_3, yy_4, yy_5, yy_6, yy_7, yy_8) (pp_0, pp_1, pp_2, pp_3, pp_4, pp_5, pp_6, pp_7, pp_8) (qq_0, qq_1, qq_2, qq_3, qq_4, qq_5, qq_6, qq_7, qq_8) x9_48) fun (o54 : Int32) =>
          some o54) fun (v52 : Int32) =>
      f_L_isOrder_l314 lo yy_0 yy_1 yy_2 yy_3 yy_4 yy_5 yy_6 yy_7 yy_8 pp_0 pp_1 pp_2 pp_3 pp_4 pp_5 pp_6 pp_7 pp_8 qq_0 qq_1 qq_2 qq_3 qq_4 qq_5 qq_6 qq_7 qq_8 ka kc x6_42 k9 (x9_48 + (1 : Int32)) (x8_48 ||| v52)
theorem f_L_isOrder_l314_z (lo : xF) (yy_0 : Int32) (yy_1 : xF) (yy_2 : xF) (yy_3 : xF) (yy_4 : xF) (yy_5 : xF) (yy_6 : xF) (yy_7 : xF) (yy_8 : xF) (pp_0 : xF) (pp_1 : xF) (pp_2 : xF) (pp_3 : xF) (pp_4 : xF) (pp_5 : xF) (pp_6 : Int32) (pp_7 : Int32) (pp_8 : Int32) (qq_0 : xF) (qq_1 : xF) (qq_2 : xF) (qq_3 : xF) (qq_4 : xF) (qq_5 : xF) (qq_6 : Int32) (qq_7 : Int32) (qq_8 : Int32) (ka : xF) (kc : xF) (x6_42 : Int32) (x9_48 : Int32) (x8_48 : Int32) : f_L_isOrder_l314 lo yy_0 yy_1 yy_2 yy_3 yy_4 yy_5 yy_6 yy_7 yy_8 pp_0 pp_1 pp_2 pp_3 pp_4 pp_5 pp_6 pp_7 pp_8 qq_0 qq_1 qq_2 qq_3 qq_4 qq_5 qq_6 qq_7 qq_8 ka kc x6_42 0 x9_48 x8_48 = none := rfl
theorem f_L_isOrder_l314_s (lo : xF) (yy_0 : Int32) (yy_1 : xF) (yy_2 : xF) (yy_3 : xF) (yy_4 : xF) (yy_5 : xF) (yy_6 : xF) (yy_7 : xF) (yy_8 : xF) (pp_0 : xF) (pp_1 : xF) (pp_2 : xF) (pp_3 : xF) (pp_4 : xF) (pp_5 : xF) (pp_6 : Int32) (pp_7 : Int32) (pp_8 : Int32) (qq_0 : xF) (qq_1 : xF) (qq_2 : xF) (qq_3 : xF) (qq_4 : xF) (qq_5 : xF) (qq_6 : Int32) (qq_7 : Int32) (qq_8 : Int32) (ka : xF) (kc : xF) (x6_42 : Int32) (k9 : Nat) (x9_48 : Int32) (x8_48 : Int32) : f_L_isOrder_l314 lo yy_0 yy_1 yy_2 yy_3 yy_4 yy_5 yy_6 yy_7 yy_8 pp_0 pp_1 pp_2 pp_3 pp_4 pp_5 pp_6 pp_7 pp_8 qq_0 qq_1 qq_2 qq_3 qq_4 qq_5 qq_6 qq_7 qq_8 ka kc x6_42 (k9 + 1) x9_48 x8_48 =
    if (kc (0 : Int32).toNatClampNeg) ≤ x9_48 then
      some x8_48
    else
      Option.bind (f_L_isIn (ka (((5 : Int32) * x6_42) + (4 : Int32)).toNatClampNeg) x9_48) fun (o51 : Int32) =>
      Option.bind (
        if o51 = 0 then
          some (0 : Int32)
        else
          Option.bind (f_X2_allNeeds lo (yy_0, yy_1, yy_2, yy_3, yy_4, yy_5, yy_6, yy_7, yy_8) (pp_0, pp_1, pp_2, pp_3, pp_4, pp_5, pp_6, pp_7, pp_8) (qq_0, qq_1, qq_2, qq_3, qq_4, qq_5, qq_6, qq_7, qq_8) x9_48) fun (o54 : Int32) =>
          some o54) fun (v52 : Int32) =>
      f_L_isOrder_l314 lo yy_0 yy_1 yy_2 yy_3 yy_4 yy_5 yy_6 yy_7 yy_8 pp_0 pp_1 pp_2 pp_3 pp_4 pp_5 pp_6 pp_7 pp_8 qq_0 qq_1 qq_2 qq_3 qq_4 qq_5 qq_6 qq_7 qq_8 ka kc x6_42 k9 (x9_48 + (1 : Int32)) (x8_48 ||| v52) := rfl
def f_L_isOrder_l280 (lo : xF) (yy_0 : Int32) (yy_1 : xF) (yy_2 : xF) (yy_3 : xF) (yy_4 : xF) (yy_5 : xF) (yy_6 : xF) (yy_7 : xF) (yy_8 : xF) (pp_0 : xF) (pp_1 : xF) (pp_2 : xF) (pp_3 : xF) (pp_4 : xF) (pp_5 : xF) (pp_6 : Int32) (pp_7 : Int32) (pp_8 : Int32) (qq_0 : xF) (qq_1 : xF) (qq_2 : xF) (qq_3 : xF) (qq_4 : xF) (qq_5 : xF) (qq_6 : Int32) (qq_7 : Int32) (qq_8 : Int32) (ka : xF) (kc : xF) : Nat → Int32 → Int32 → Option (Int32)
  | 0, _, _ => none
  | k9 + 1, x6_42, x5_42 =>
    if (kc (0 : Int32).toNatClampNeg) ≤ x6_42 then
      some x5_42
    else
      if x5_42 = 0 then
        some x5_42
      else
        Option.bind (f_X2_allNeeds lo (yy_0, yy_1, yy_2, yy_3, yy_4, yy_5, yy_6, yy_7, yy_8) (pp_0, pp_1, pp_2, pp_3, pp_4, pp_5, pp_6, pp_7, pp_8) (qq_0, qq_1, qq_2, qq_3, qq_4, qq_5, qq_6, qq_7, qq_8) x6_42) fun (o46 : Int32) =>
        if (((5 : Int32) * x6_42) + (4 : Int32)) < 0 ∨ 60 ≤ (((5 : Int32) * x6_42) + (4 : Int32)).toNatClampNeg then none else
        Option.bind (f_L_isOrder_l314 lo yy_0 yy_1 yy_2 yy_3 yy_4 yy_5 yy_6 yy_7 yy_8 pp_0 pp_1 pp_2 pp_3 pp_4 pp_5 pp_6 pp_7 pp_8 qq_0 qq_1 qq_2 qq_3 qq_4 qq_5 qq_6 qq_7 qq_8 ka kc x6_42 300 (0 : Int32) (ka (((5 : Int32) * x6_42) + (4 : Int32)).toNatClampNeg)) fun (w49 : Int32) =>
        if o46 = w49 then
          Option.bind (f_L_isIn o46 x6_42) fun (o56 : Int32) =>
          if o56 = 0 then
            f_L_isOrder_l280 lo yy_0 yy_1 yy_2 yy_3 yy_4 yy_5 yy_6 yy_7 yy_8 pp_0 pp_1 pp_2 pp_3 pp_4 pp_5 pp_6 pp_7 pp_8 qq_0 qq_1 qq_2 qq_3 qq_4 qq_5 qq_6 qq_7 qq_8 ka kc k9 (x6_42 + (1 : Int32)) (1 : Int32)
          else
            f_L_isOrder_l280 lo yy_0 yy_1 yy_2 yy_3 yy_4 yy_5 yy_6 yy_7 yy_8 pp_0 pp_1 pp_2 pp_3 pp_4 pp_5 pp_6 pp_7 pp_8 qq_0 qq_1 qq_2 qq_3 qq_4 qq_5 qq_6 qq_7 qq_8 ka kc k9 (x6_42 + (1 : Int32)) (0 : Int32)
        else
          f_L_isOrder_l280 lo yy_0 yy_1 yy_2 yy_3 yy_4 yy_5 yy_6 yy_7 yy_8 pp_0 pp_1 pp_2 pp_3 pp_4 pp_5 pp_6 pp_7 pp_8 qq_0 qq_1 qq_2 qq_3 qq_4 qq_5 qq_6 qq_7 qq_8 ka kc k9 (x6_42 + (1 : Int32)) (0 : Int32)
theorem f_L_isOrder_l280_z (lo : xF) (yy_0 : Int32) (yy_1 : xF) (yy_2 : xF) (yy_3 : xF) (yy_4 : xF) (yy_5 : xF) (yy_6 : xF) (yy_7 : xF) (yy_8 : xF) (pp_0 : xF) (pp_1 : xF) (pp_2 : xF) (pp_3 : xF) (pp_4 : xF) (pp_5 : xF) (pp_6 : Int32) (pp_7 : Int32) (pp_8 : Int32) (qq_0 : xF) (qq_1 : xF) (qq_2 : xF) (qq_3 : xF) (qq_4 : xF) (qq_5 : xF) (qq_6 : Int32) (qq_7 : Int32) (qq_8 : Int32) (ka : xF) (kc : xF) (x6_42 : Int32) (x5_42 : Int32) : f_L_isOrder_l280 lo yy_0 yy_1 yy_2 yy_3 yy_4 yy_5 yy_6 yy_7 yy_8 pp_0 pp_1 pp_2 pp_3 pp_4 pp_5 pp_6 pp_7 pp_8 qq_0 qq_1 qq_2 qq_3 qq_4 qq_5 qq_6 qq_7 qq_8 ka kc 0 x6_42 x5_42 = none := rfl
theorem f_L_isOrder_l280_s (lo : xF) (yy_0 : Int32) (yy_1 : xF) (yy_2 : xF) (yy_3 : xF) (yy_4 : xF) (yy_5 : xF) (yy_6 : xF) (yy_7 : xF) (yy_8 : xF) (pp_0 : xF) (pp_1 : xF) (pp_2 : xF) (pp_3 : xF) (pp_4 : xF) (pp_5 : xF) (pp_6 : Int32) (pp_7 : Int32) (pp_8 : Int32) (qq_0 : xF) (qq_1 : xF) (qq_2 : xF) (qq_3 : xF) (qq_4 : xF) (qq_5 : xF) (qq_6 : Int32) (qq_7 : Int32) (qq_8 : Int32) (ka : xF) (kc : xF) (k9 : Nat) (x6_42 : Int32) (x5_42 : Int32) : f_L_isOrder_l280 lo yy_0 yy_1 yy_2 yy_3 yy_4 yy_5 yy_6 yy_7 yy_8 pp_0 pp_1 pp_2 pp_3 pp_4 pp_5 pp_6 pp_7 pp_8 qq_0 qq_1 qq_2 qq_3 qq_4 qq_5 qq_6 qq_7 qq_8 ka kc (k9 + 1) x6_42 x5_42 =
    if (kc (0 : Int32).toNatClampNeg) ≤ x6_42 then
      some x5_42
    else
      if x5_42 = 0 then
        some x5_42
      else
        Option.bind (f_X2_allNeeds lo (yy_0, yy_1, yy_2, yy_3, yy_4, yy_5, yy_6, yy_7, yy_8) (pp_0, pp_1, pp_2, pp_3, pp_4, pp_5, pp_6, pp_7, pp_8) (qq_0, qq_1, qq_2, qq_3, qq_4, qq_5, qq_6, qq_7, qq_8) x6_42) fun (o46 : Int32) =>
        if (((5 : Int32) * x6_42) + (4 : Int32)) < 0 ∨ 60 ≤ (((5 : Int32) * x6_42) + (4 : Int32)).toNatClampNeg then none else
        Option.bind (f_L_isOrder_l314 lo yy_0 yy_1 yy_2 yy_3 yy_4 yy_5 yy_6 yy_7 yy_8 pp_0 pp_1 pp_2 pp_3 pp_4 pp_5 pp_6 pp_7 pp_8 qq_0 qq_1 qq_2 qq_3 qq_4 qq_5 qq_6 qq_7 qq_8 ka kc x6_42 300 (0 : Int32) (ka (((5 : Int32) * x6_42) + (4 : Int32)).toNatClampNeg)) fun (w49 : Int32) =>
        if o46 = w49 then
          Option.bind (f_L_isIn o46 x6_42) fun (o56 : Int32) =>
          if o56 = 0 then
            f_L_isOrder_l280 lo yy_0 yy_1 yy_2 yy_3 yy_4 yy_5 yy_6 yy_7 yy_8 pp_0 pp_1 pp_2 pp_3 pp_4 pp_5 pp_6 pp_7 pp_8 qq_0 qq_1 qq_2 qq_3 qq_4 qq_5 qq_6 qq_7 qq_8 ka kc k9 (x6_42 + (1 : Int32)) (1 : Int32)
          else
            f_L_isOrder_l280 lo yy_0 yy_1 yy_2 yy_3 yy_4 yy_5 yy_6 yy_7 yy_8 pp_0 pp_1 pp_2 pp_3 pp_4 pp_5 pp_6 pp_7 pp_8 qq_0 qq_1 qq_2 qq_3 qq_4 qq_5 qq_6 qq_7 qq_8 ka kc k9 (x6_42 + (1 : Int32)) (0 : Int32)
        else
          f_L_isOrder_l280 lo yy_0 yy_1 yy_2 yy_3 yy_4 yy_5 yy_6 yy_7 yy_8 pp_0 pp_1 pp_2 pp_3 pp_4 pp_5 pp_6 pp_7 pp_8 qq_0 qq_1 qq_2 qq_3 qq_4 qq_5 qq_6 qq_7 qq_8 ka kc k9 (x6_42 + (1 : Int32)) (0 : Int32) := rfl
def f_L_isOrder (lo : xF) (yy : xSY) (pp : xPL) (qq : xPL) (ka : xF) (kc : xF) : Option (Int32) :=
  Option.bind (f_X2_aims lo (yy.1, yy.2.1, yy.2.2.1, yy.2.2.2.1, yy.2.2.2.2.1, yy.2.2.2.2.2.1, yy.2.2.2.2.2.2.1, yy.2.2.2.2.2.2.2.1, yy.2.2.2.2.2.2.2.2) (pp.1, pp.2.1, pp.2.2.1, pp.2.2.2.1, pp.2.2.2.2.1, pp.2.2.2.2.2.1, pp.2.2.2.2.2.2.1, pp.2.2.2.2.2.2.2.1, pp.2.2.2.2.2.2.2.2) (qq.1, qq.2.1, qq.2.2.1, qq.2.2.2.1, qq.2.2.2.2.1, qq.2.2.2.2.2.1, qq.2.2.2.2.2.2.1, qq.2.2.2.2.2.2.2.1, qq.2.2.2.2.2.2.2.2)) fun (o1 : Int32) =>
  Option.bind (
    if o1 = (kc (0 : Int32).toNatClampNeg) then
      some (1 : Int32)
    else
      some (0 : Int32)) fun (v2 : Int32) =>
  Option.bind (f_L_isOrder_l25 lo yy.1 yy.2.1 yy.2.2.1 yy.2.2.2.1 yy.2.2.2.2.1 yy.2.2.2.2.2.1 yy.2.2.2.2.2.2.1 yy.2.2.2.2.2.2.2.1 yy.2.2.2.2.2.2.2.2 pp.1 pp.2.1 pp.2.2.1 pp.2.2.2.1 pp.2.2.2.2.1 pp.2.2.2.2.2.1 pp.2.2.2.2.2.2.1 pp.2.2.2.2.2.2.2.1 pp.2.2.2.2.2.2.2.2 qq.1 qq.2.1 qq.2.2.1 qq.2.2.2.1 qq.2.2.2.2.1 qq.2.2.2.2.2.1 qq.2.2.2.2.2.2.1 qq.2.2.2.2.2.2.2.1 qq.2.2.2.2.2.2.2.2 ka kc 300 (0 : Int32) v2 ((-1) : Int32) (0 : Int32)) fun (w4 : Int32) =>
  Option.bind (f_L_isOrder_l280 lo yy.1 yy.2.1 yy.2.2.1 yy.2.2.2.1 yy.2.2.2.2.1 yy.2.2.2.2.2.1 yy.2.2.2.2.2.2.1 yy.2.2.2.2.2.2.2.1 yy.2.2.2.2.2.2.2.2 pp.1 pp.2.1 pp.2.2.1 pp.2.2.2.1 pp.2.2.2.2.1 pp.2.2.2.2.2.1 pp.2.2.2.2.2.2.1 pp.2.2.2.2.2.2.2.1 pp.2.2.2.2.2.2.2.2 qq.1 qq.2.1 qq.2.2.1 qq.2.2.2.1 qq.2.2.2.2.1 qq.2.2.2.2.2.1 qq.2.2.2.2.2.2.1 qq.2.2.2.2.2.2.2.1 qq.2.2.2.2.2.2.2.2 ka kc 300 (0 : Int32) w4) fun (w43 : Int32) =>
  if w43 &&& 1 = w43 then some w43 else none
theorem f_L_isOrder_e (lo : xF) (yy_0 : Int32) (yy_1 : xF) (yy_2 : xF) (yy_3 : xF) (yy_4 : xF) (yy_5 : xF) (yy_6 : xF) (yy_7 : xF) (yy_8 : xF) (pp_0 : xF) (pp_1 : xF) (pp_2 : xF) (pp_3 : xF) (pp_4 : xF) (pp_5 : xF) (pp_6 : Int32) (pp_7 : Int32) (pp_8 : Int32) (qq_0 : xF) (qq_1 : xF) (qq_2 : xF) (qq_3 : xF) (qq_4 : xF) (qq_5 : xF) (qq_6 : Int32) (qq_7 : Int32) (qq_8 : Int32) (ka : xF) (kc : xF) : f_L_isOrder lo (yy_0, yy_1, yy_2, yy_3, yy_4, yy_5, yy_6, yy_7, yy_8) (pp_0, pp_1, pp_2, pp_3, pp_4, pp_5, pp_6, pp_7, pp_8) (qq_0, qq_1, qq_2, qq_3, qq_4, qq_5, qq_6, qq_7, qq_8) ka kc =
  Option.bind (f_X2_aims lo (yy_0, yy_1, yy_2, yy_3, yy_4, yy_5, yy_6, yy_7, yy_8) (pp_0, pp_1, pp_2, pp_3, pp_4, pp_5, pp_6, pp_7, pp_8) (qq_0, qq_1, qq_2, qq_3, qq_4, qq_5, qq_6, qq_7, qq_8)) fun (o1 : Int32) =>
  Option.bind (
    if o1 = (kc (0 : Int32).toNatClampNeg) then
      some (1 : Int32)
    else
      some (0 : Int32)) fun (v2 : Int32) =>
  Option.bind (f_L_isOrder_l25 lo yy_0 yy_1 yy_2 yy_3 yy_4 yy_5 yy_6 yy_7 yy_8 pp_0 pp_1 pp_2 pp_3 pp_4 pp_5 pp_6 pp_7 pp_8 qq_0 qq_1 qq_2 qq_3 qq_4 qq_5 qq_6 qq_7 qq_8 ka kc 300 (0 : Int32) v2 ((-1) : Int32) (0 : Int32)) fun (w4 : Int32) =>
  Option.bind (f_L_isOrder_l280 lo yy_0 yy_1 yy_2 yy_3 yy_4 yy_5 yy_6 yy_7 yy_8 pp_0 pp_1 pp_2 pp_3 pp_4 pp_5 pp_6 pp_7 pp_8 qq_0 qq_1 qq_2 qq_3 qq_4 qq_5 qq_6 qq_7 qq_8 ka kc 300 (0 : Int32) w4) fun (w43 : Int32) =>
  if w43 &&& 1 = w43 then some w43 else none := rfl
def f_L_isWorth_l55 (ka : xF) (kc : xF) (i3 : Int32) (o1 : Int32) (o2 : Int32) : Nat → Int32 → Int32 → Int32 → Option (Int32 × Int32)
  | 0, _, _, _ => none
  | k9 + 1, x8_5, x7_5, x6_5 =>
    if ((1 : Int32) <<< ((kc (0 : Int32).toNatClampNeg) &&& 31)) ≤ x8_5 then
      some (x7_5, x6_5)
    else
      Option.bind (f_L_isClosed ka kc x8_5) fun (o8 : Int32) =>
      Option.bind (
        if o8 = 0 then
          some (0 : Int32)
        else
          some (1 : Int32)) fun (v9 : Int32) =>
      Option.bind (f_L_net ka kc x8_5 i3) fun (o10 : Int32) =>
      if x7_5 = 0 then
        f_L_isWorth_l55 ka kc i3 o1 o2 k9 (x8_5 + (1 : Int32)) (0 : Int32) (x6_5 + v9)
      else
        if o8 = 0 then
          f_L_isWorth_l55 ka kc i3 o1 o2 k9 (x8_5 + (1 : Int32)) (1 : Int32) (x6_5 + v9)
        else
          if x8_5 = o1 then
            f_L_isWorth_l55 ka kc i3 o1 o2 k9 (x8_5 + (1 : Int32)) (1 : Int32) (x6_5 + v9)
          else
            if o10 < o2 then
              f_L_isWorth_l55 ka kc i3 o1 o2 k9 (x8_5 + (1 : Int32)) (1 : Int32) (x6_5 + v9)
            else
              if o10 = o2 then
                Option.bind (f_L_size x8_5) fun (o16 : Int32) =>
                Option.bind (f_L_size o1) fun (o17 : Int32) =>
                if o16 ≤ o17 then
                  f_L_isWorth_l55 ka kc i3 o1 o2 k9 (x8_5 + (1 : Int32)) (0 : Int32) (x6_5 + v9)
                else
                  f_L_isWorth_l55 ka kc i3 o1 o2 k9 (x8_5 + (1 : Int32)) (1 : Int32) (x6_5 + v9)
              else
                f_L_isWorth_l55 ka kc i3 o1 o2 k9 (x8_5 + (1 : Int32)) (0 : Int32) (x6_5 + v9)
theorem f_L_isWorth_l55_z (ka : xF) (kc : xF) (i3 : Int32) (o1 : Int32) (o2 : Int32) (x8_5 : Int32) (x7_5 : Int32) (x6_5 : Int32) : f_L_isWorth_l55 ka kc i3 o1 o2 0 x8_5 x7_5 x6_5 = none := rfl
theorem f_L_isWorth_l55_s (ka : xF) (kc : xF) (i3 : Int32) (o1 : Int32) (o2 : Int32) (k9 : Nat) (x8_5 : Int32) (x7_5 : Int32) (x6_5 : Int32) : f_L_isWorth_l55 ka kc i3 o1 o2 (k9 + 1) x8_5 x7_5 x6_5 =
    if ((1 : Int32) <<< ((kc (0 : Int32).toNatClampNeg) &&& 31)) ≤ x8_5 then
      some (x7_5, x6_5)
    else
      Option.bind (f_L_isClosed ka kc x8_5) fun (o8 : Int32) =>
      Option.bind (
        if o8 = 0 then
          some (0 : Int32)
        else
          some (1 : Int32)) fun (v9 : Int32) =>
      Option.bind (f_L_net ka kc x8_5 i3) fun (o10 : Int32) =>
      if x7_5 = 0 then
        f_L_isWorth_l55 ka kc i3 o1 o2 k9 (x8_5 + (1 : Int32)) (0 : Int32) (x6_5 + v9)
      else
        if o8 = 0 then
          f_L_isWorth_l55 ka kc i3 o1 o2 k9 (x8_5 + (1 : Int32)) (1 : Int32) (x6_5 + v9)
        else
          if x8_5 = o1 then
            f_L_isWorth_l55 ka kc i3 o1 o2 k9 (x8_5 + (1 : Int32)) (1 : Int32) (x6_5 + v9)
          else
            if o10 < o2 then
              f_L_isWorth_l55 ka kc i3 o1 o2 k9 (x8_5 + (1 : Int32)) (1 : Int32) (x6_5 + v9)
            else
              if o10 = o2 then
                Option.bind (f_L_size x8_5) fun (o16 : Int32) =>
                Option.bind (f_L_size o1) fun (o17 : Int32) =>
                if o16 ≤ o17 then
                  f_L_isWorth_l55 ka kc i3 o1 o2 k9 (x8_5 + (1 : Int32)) (0 : Int32) (x6_5 + v9)
                else
                  f_L_isWorth_l55 ka kc i3 o1 o2 k9 (x8_5 + (1 : Int32)) (1 : Int32) (x6_5 + v9)
              else
                f_L_isWorth_l55 ka kc i3 o1 o2 k9 (x8_5 + (1 : Int32)) (0 : Int32) (x6_5 + v9) := rfl
def f_L_isWorth (lo : xF) (yy : xSY) (pp : xPL) (qq : xPL) (ka : xF) (kc : xF) (i3 : Int32) : Option (Int32) :=
  Option.bind (f_X2_worthwhile lo (yy.1, yy.2.1, yy.2.2.1, yy.2.2.2.1, yy.2.2.2.2.1, yy.2.2.2.2.2.1, yy.2.2.2.2.2.2.1, yy.2.2.2.2.2.2.2.1, yy.2.2.2.2.2.2.2.2) (pp.1, pp.2.1, pp.2.2.1, pp.2.2.2.1, pp.2.2.2.2.1, pp.2.2.2.2.2.1, pp.2.2.2.2.2.2.1, pp.2.2.2.2.2.2.2.1, pp.2.2.2.2.2.2.2.2) (qq.1, qq.2.1, qq.2.2.1, qq.2.2.2.1, qq.2.2.2.2.1, qq.2.2.2.2.2.1, qq.2.2.2.2.2.2.1, qq.2.2.2.2.2.2.2.1, qq.2.2.2.2.2.2.2.2) i3) fun (o1 : Int32) =>
  Option.bind (f_L_net ka kc o1 i3) fun (o2 : Int32) =>
  Option.bind (f_L_isClosed ka kc o1) fun (o3 : Int32) =>
  Option.bind (
    if o3 = 0 then
      some (0 : Int32)
    else
      Option.bind (f_X2_bestNet lo (yy.1, yy.2.1, yy.2.2.1, yy.2.2.2.1, yy.2.2.2.2.1, yy.2.2.2.2.2.1, yy.2.2.2.2.2.2.1, yy.2.2.2.2.2.2.2.1, yy.2.2.2.2.2.2.2.2) (pp.1, pp.2.1, pp.2.2.1, pp.2.2.2.1, pp.2.2.2.2.1, pp.2.2.2.2.2.1, pp.2.2.2.2.2.2.1, pp.2.2.2.2.2.2.2.1, pp.2.2.2.2.2.2.2.2) (qq.1, qq.2.1, qq.2.2.1, qq.2.2.2.1, qq.2.2.2.2.1, qq.2.2.2.2.2.1, qq.2.2.2.2.2.2.1, qq.2.2.2.2.2.2.2.1, qq.2.2.2.2.2.2.2.2) i3) fun (o24 : Int32) =>
      if o24 = o2 then
        if o2 < 0 then
          some (0 : Int32)
        else
          some (1 : Int32)
      else
        some (0 : Int32)) fun (v4 : Int32) =>
  Option.bind (f_L_isWorth_l55 ka kc i3 o1 o2 5000 (0 : Int32) v4 (0 : Int32)) fun (w6 : Int32 × Int32) =>
  if w6.1 = 0 then
    some (0 : Int32)
  else
    Option.bind (f_X2_closedSets lo (yy.1, yy.2.1, yy.2.2.1, yy.2.2.2.1, yy.2.2.2.2.1, yy.2.2.2.2.2.1, yy.2.2.2.2.2.2.1, yy.2.2.2.2.2.2.2.1, yy.2.2.2.2.2.2.2.2) (pp.1, pp.2.1, pp.2.2.1, pp.2.2.2.1, pp.2.2.2.2.1, pp.2.2.2.2.2.1, pp.2.2.2.2.2.2.1, pp.2.2.2.2.2.2.2.1, pp.2.2.2.2.2.2.2.2) (qq.1, qq.2.1, qq.2.2.1, qq.2.2.2.1, qq.2.2.2.2.1, qq.2.2.2.2.2.1, qq.2.2.2.2.2.2.1, qq.2.2.2.2.2.2.2.1, qq.2.2.2.2.2.2.2.2)) fun (o21 : Int32) =>
    if o21 = w6.2 then
      some (1 : Int32)
    else
      some (0 : Int32)
theorem f_L_isWorth_e (lo : xF) (yy_0 : Int32) (yy_1 : xF) (yy_2 : xF) (yy_3 : xF) (yy_4 : xF) (yy_5 : xF) (yy_6 : xF) (yy_7 : xF) (yy_8 : xF) (pp_0 : xF) (pp_1 : xF) (pp_2 : xF) (pp_3 : xF) (pp_4 : xF) (pp_5 : xF) (pp_6 : Int32) (pp_7 : Int32) (pp_8 : Int32) (qq_0 : xF) (qq_1 : xF) (qq_2 : xF) (qq_3 : xF) (qq_4 : xF) (qq_5 : xF) (qq_6 : Int32) (qq_7 : Int32) (qq_8 : Int32) (ka : xF) (kc : xF) (i3 : Int32) : f_L_isWorth lo (yy_0, yy_1, yy_2, yy_3, yy_4, yy_5, yy_6, yy_7, yy_8) (pp_0, pp_1, pp_2, pp_3, pp_4, pp_5, pp_6, pp_7, pp_8) (qq_0, qq_1, qq_2, qq_3, qq_4, qq_5, qq_6, qq_7, qq_8) ka kc i3 =
  Option.bind (f_X2_worthwhile lo (yy_0, yy_1, yy_2, yy_3, yy_4, yy_5, yy_6, yy_7, yy_8) (pp_0, pp_1, pp_2, pp_3, pp_4, pp_5, pp_6, pp_7, pp_8) (qq_0, qq_1, qq_2, qq_3, qq_4, qq_5, qq_6, qq_7, qq_8) i3) fun (o1 : Int32) =>
  Option.bind (f_L_net ka kc o1 i3) fun (o2 : Int32) =>
  Option.bind (f_L_isClosed ka kc o1) fun (o3 : Int32) =>
  Option.bind (
    if o3 = 0 then
      some (0 : Int32)
    else
      Option.bind (f_X2_bestNet lo (yy_0, yy_1, yy_2, yy_3, yy_4, yy_5, yy_6, yy_7, yy_8) (pp_0, pp_1, pp_2, pp_3, pp_4, pp_5, pp_6, pp_7, pp_8) (qq_0, qq_1, qq_2, qq_3, qq_4, qq_5, qq_6, qq_7, qq_8) i3) fun (o24 : Int32) =>
      if o24 = o2 then
        if o2 < 0 then
          some (0 : Int32)
        else
          some (1 : Int32)
      else
        some (0 : Int32)) fun (v4 : Int32) =>
  Option.bind (f_L_isWorth_l55 ka kc i3 o1 o2 5000 (0 : Int32) v4 (0 : Int32)) fun (w6 : Int32 × Int32) =>
  if w6.1 = 0 then
    some (0 : Int32)
  else
    Option.bind (f_X2_closedSets lo (yy_0, yy_1, yy_2, yy_3, yy_4, yy_5, yy_6, yy_7, yy_8) (pp_0, pp_1, pp_2, pp_3, pp_4, pp_5, pp_6, pp_7, pp_8) (qq_0, qq_1, qq_2, qq_3, qq_4, qq_5, qq_6, qq_7, qq_8)) fun (o21 : Int32) =>
    if o21 = w6.2 then
      some (1 : Int32)
    else
      some (0 : Int32) := rfl
def f_L_isPlan_l43 (lo : xF) (yy_0 : Int32) (yy_1 : xF) (yy_2 : xF) (yy_3 : xF) (yy_4 : xF) (yy_5 : xF) (yy_6 : xF) (yy_7 : xF) (yy_8 : xF) (pp_0 : xF) (pp_1 : xF) (pp_2 : xF) (pp_3 : xF) (pp_4 : xF) (pp_5 : xF) (pp_6 : Int32) (pp_7 : Int32) (pp_8 : Int32) (qq_0 : xF) (qq_1 : xF) (qq_2 : xF) (qq_3 : xF) (qq_4 : xF) (qq_5 : xF) (qq_6 : Int32) (qq_7 : Int32) (qq_8 : Int32) (ka : xF) (kr : xF) (kc : xF) (kl : (Nat → Int64)) (o4 : xF × xF × xF) : Nat → Int32 → Int32 → Int32 → Option (Option (Int32 × Int32))
  | 0, _, _, _ => none
  | k9 + 1, x11_5, x10_5, x8_5 =>
    if (100 : Int32) ≤ x11_5 then
      some (some (x10_5, x8_5))
    else
      Option.bind (f_L_thing o4.1 o4.2.1 x11_5) fun (o8 : Int32) =>
      Option.bind (
        if 0 ≤ o8 then
          some (1 : Int32)
        else
          some (0 : Int32)) fun (v9 : Int32) =>
      Option.bind (
        if 0 ≤ o8 then
          some x11_5
        else
          some x10_5) fun (v10 : Int32) =>
      Option.bind (f_X2_on lo (yy_0, yy_1, yy_2, yy_3, yy_4, yy_5, yy_6, yy_7, yy_8) (pp_0, pp_1, pp_2, pp_3, pp_4, pp_5, pp_6, pp_7, pp_8) (qq_0, qq_1, qq_2, qq_3, qq_4, qq_5, qq_6, qq_7, qq_8) x11_5) fun (o11 : Int32) =>
      if o11 = o8 then
        if o8 < 0 then
          Option.bind (f_L_isLost kl x11_5) fun (o14 : Int32) =>
          if o14 = 0 then
            Option.bind (f_L_isBusy ka kr kc o4.1 o4.2.1 o4.2.2 x11_5 o8) fun (o16 : Int32) =>
            if o16 = 0 then
              some none
            else
              f_L_isPlan_l43 lo yy_0 yy_1 yy_2 yy_3 yy_4 yy_5 yy_6 yy_7 yy_8 pp_0 pp_1 pp_2 pp_3 pp_4 pp_5 pp_6 pp_7 pp_8 qq_0 qq_1 qq_2 qq_3 qq_4 qq_5 qq_6 qq_7 qq_8 ka kr kc kl o4 k9 (x11_5 + (1 : Int32)) v10 (x8_5 + v9)
          else
            f_L_isPlan_l43 lo yy_0 yy_1 yy_2 yy_3 yy_4 yy_5 yy_6 yy_7 yy_8 pp_0 pp_1 pp_2 pp_3 pp_4 pp_5 pp_6 pp_7 pp_8 qq_0 qq_1 qq_2 qq_3 qq_4 qq_5 qq_6 qq_7 qq_8 ka kr kc kl o4 k9 (x11_5 + (1 : Int32)) v10 (x8_5 + v9)
        else
          Option.bind (f_L_isLost kl x11_5) fun (o18 : Int32) =>
          if o18 = 0 then
            Option.bind (f_L_isLost kl x11_5) fun (o20 : Int32) =>
            if o20 = 0 then
              Option.bind (f_L_isBusy ka kr kc o4.1 o4.2.1 o4.2.2 x11_5 o8) fun (o22 : Int32) =>
              if o22 = 0 then
                some none
              else
                f_L_isPlan_l43 lo yy_0 yy_1 yy_2 yy_3 yy_4 yy_5 yy_6 yy_7 yy_8 pp_0 pp_1 pp_2 pp_3 pp_4 pp_5 pp_6 pp_7 pp_8 qq_0 qq_1 qq_2 qq_3 qq_4 qq_5 qq_6 qq_7 qq_8 ka kr kc kl o4 k9 (x11_5 + (1 : Int32)) v10 (x8_5 + v9)
            else
              f_L_isPlan_l43 lo yy_0 yy_1 yy_2 yy_3 yy_4 yy_5 yy_6 yy_7 yy_8 pp_0 pp_1 pp_2 pp_3 pp_4 pp_5 pp_6 pp_7 pp_8 qq_0 qq_1 qq_2 qq_3 qq_4 qq_5 qq_6 qq_7 qq_8 ka kr kc kl o4 k9 (x11_5 + (1 : Int32)) v10 (x8_5 + v9)
          else
            some none
      else
        some none
theorem f_L_isPlan_l43_z (lo : xF) (yy_0 : Int32) (yy_1 : xF) (yy_2 : xF) (yy_3 : xF) (yy_4 : xF) (yy_5 : xF) (yy_6 : xF) (yy_7 : xF) (yy_8 : xF) (pp_0 : xF) (pp_1 : xF) (pp_2 : xF) (pp_3 : xF) (pp_4 : xF) (pp_5 : xF) (pp_6 : Int32) (pp_7 : Int32) (pp_8 : Int32) (qq_0 : xF) (qq_1 : xF) (qq_2 : xF) (qq_3 : xF) (qq_4 : xF) (qq_5 : xF) (qq_6 : Int32) (qq_7 : Int32) (qq_8 : Int32) (ka : xF) (kr : xF) (kc : xF) (kl : (Nat → Int64)) (o4 : xF × xF × xF) (x11_5 : Int32) (x10_5 : Int32) (x8_5 : Int32) : f_L_isPlan_l43 lo yy_0 yy_1 yy_2 yy_3 yy_4 yy_5 yy_6 yy_7 yy_8 pp_0 pp_1 pp_2 pp_3 pp_4 pp_5 pp_6 pp_7 pp_8 qq_0 qq_1 qq_2 qq_3 qq_4 qq_5 qq_6 qq_7 qq_8 ka kr kc kl o4 0 x11_5 x10_5 x8_5 = none := rfl
theorem f_L_isPlan_l43_s (lo : xF) (yy_0 : Int32) (yy_1 : xF) (yy_2 : xF) (yy_3 : xF) (yy_4 : xF) (yy_5 : xF) (yy_6 : xF) (yy_7 : xF) (yy_8 : xF) (pp_0 : xF) (pp_1 : xF) (pp_2 : xF) (pp_3 : xF) (pp_4 : xF) (pp_5 : xF) (pp_6 : Int32) (pp_7 : Int32) (pp_8 : Int32) (qq_0 : xF) (qq_1 : xF) (qq_2 : xF) (qq_3 : xF) (qq_4 : xF) (qq_5 : xF) (qq_6 : Int32) (qq_7 : Int32) (qq_8 : Int32) (ka : xF) (kr : xF) (kc : xF) (kl : (Nat → Int64)) (o4 : xF × xF × xF) (k9 : Nat) (x11_5 : Int32) (x10_5 : Int32) (x8_5 : Int32) : f_L_isPlan_l43 lo yy_0 yy_1 yy_2 yy_3 yy_4 yy_5 yy_6 yy_7 yy_8 pp_0 pp_1 pp_2 pp_3 pp_4 pp_5 pp_6 pp_7 pp_8 qq_0 qq_1 qq_2 qq_3 qq_4 qq_5 qq_6 qq_7 qq_8 ka kr kc kl o4 (k9 + 1) x11_5 x10_5 x8_5 =
    if (100 : Int32) ≤ x11_5 then
      some (some (x10_5, x8_5))
    else
      Option.bind (f_L_thing o4.1 o4.2.1 x11_5) fun (o8 : Int32) =>
      Option.bind (
        if 0 ≤ o8 then
          some (1 : Int32)
        else
          some (0 : Int32)) fun (v9 : Int32) =>
      Option.bind (
        if 0 ≤ o8 then
          some x11_5
        else
          some x10_5) fun (v10 : Int32) =>
      Option.bind (f_X2_on lo (yy_0, yy_1, yy_2, yy_3, yy_4, yy_5, yy_6, yy_7, yy_8) (pp_0, pp_1, pp_2, pp_3, pp_4, pp_5, pp_6, pp_7, pp_8) (qq_0, qq_1, qq_2, qq_3, qq_4, qq_5, qq_6, qq_7, qq_8) x11_5) fun (o11 : Int32) =>
      if o11 = o8 then
        if o8 < 0 then
          Option.bind (f_L_isLost kl x11_5) fun (o14 : Int32) =>
          if o14 = 0 then
            Option.bind (f_L_isBusy ka kr kc o4.1 o4.2.1 o4.2.2 x11_5 o8) fun (o16 : Int32) =>
            if o16 = 0 then
              some none
            else
              f_L_isPlan_l43 lo yy_0 yy_1 yy_2 yy_3 yy_4 yy_5 yy_6 yy_7 yy_8 pp_0 pp_1 pp_2 pp_3 pp_4 pp_5 pp_6 pp_7 pp_8 qq_0 qq_1 qq_2 qq_3 qq_4 qq_5 qq_6 qq_7 qq_8 ka kr kc kl o4 k9 (x11_5 + (1 : Int32)) v10 (x8_5 + v9)
          else
            f_L_isPlan_l43 lo yy_0 yy_1 yy_2 yy_3 yy_4 yy_5 yy_6 yy_7 yy_8 pp_0 pp_1 pp_2 pp_3 pp_4 pp_5 pp_6 pp_7 pp_8 qq_0 qq_1 qq_2 qq_3 qq_4 qq_5 qq_6 qq_7 qq_8 ka kr kc kl o4 k9 (x11_5 + (1 : Int32)) v10 (x8_5 + v9)
        else
          Option.bind (f_L_isLost kl x11_5) fun (o18 : Int32) =>
          if o18 = 0 then
            Option.bind (f_L_isLost kl x11_5) fun (o20 : Int32) =>
            if o20 = 0 then
              Option.bind (f_L_isBusy ka kr kc o4.1 o4.2.1 o4.2.2 x11_5 o8) fun (o22 : Int32) =>
              if o22 = 0 then
                some none
              else
                f_L_isPlan_l43 lo yy_0 yy_1 yy_2 yy_3 yy_4 yy_5 yy_6 yy_7 yy_8 pp_0 pp_1 pp_2 pp_3 pp_4 pp_5 pp_6 pp_7 pp_8 qq_0 qq_1 qq_2 qq_3 qq_4 qq_5 qq_6 qq_7 qq_8 ka kr kc kl o4 k9 (x11_5 + (1 : Int32)) v10 (x8_5 + v9)
            else
              f_L_isPlan_l43 lo yy_0 yy_1 yy_2 yy_3 yy_4 yy_5 yy_6 yy_7 yy_8 pp_0 pp_1 pp_2 pp_3 pp_4 pp_5 pp_6 pp_7 pp_8 qq_0 qq_1 qq_2 qq_3 qq_4 qq_5 qq_6 qq_7 qq_8 ka kr kc kl o4 k9 (x11_5 + (1 : Int32)) v10 (x8_5 + v9)
          else
            some none
      else
        some none := rfl
def f_L_isPlan_l173 (ka : xF) (o4 : xF × xF × xF) (x13_27 : Int32) : Nat → Int32 → Int32 → Int32 → Option (Option (Int32 × Int32))
  | 0, _, _, _ => none
  | k9 + 1, x14_30, x12_30, x11_30 =>
    if x13_27 < 0 ∨ 12 ≤ x13_27.toNatClampNeg then none else
    if ((5 : Int32) * (o4.2.2 x13_27.toNatClampNeg)) < 0 ∨ 60 ≤ ((5 : Int32) * (o4.2.2 x13_27.toNatClampNeg)).toNatClampNeg then none else
    if (ka ((5 : Int32) * (o4.2.2 x13_27.toNatClampNeg)).toNatClampNeg) ≤ x14_30 then
      some (some (x12_30, x11_30))
    else
      if (((5 : Int32) * (o4.2.2 x13_27.toNatClampNeg)) + x14_30) < 0 ∨ 60 ≤ (((5 : Int32) * (o4.2.2 x13_27.toNatClampNeg)) + x14_30).toNatClampNeg then none else
      if (o4.1 (((5 : Int32) * (o4.2.2 x13_27.toNatClampNeg)) + x14_30).toNatClampNeg) < 0 then
        Option.bind (
          if x12_30 = 0 then
            if 0 ≤ (o4.1 (((5 : Int32) * (o4.2.2 x13_27.toNatClampNeg)) + x14_30).toNatClampNeg) then
              some (0 : Int32)
            else
              some (1 : Int32)
          else
            some (1 : Int32)) fun (v37 : Int32) =>
        if 0 ≤ (o4.1 (((5 : Int32) * (o4.2.2 x13_27.toNatClampNeg)) + x14_30).toNatClampNeg) then
          f_L_isPlan_l173 ka o4 x13_27 k9 (x14_30 + (1 : Int32)) v37 (o4.1 (((5 : Int32) * (o4.2.2 x13_27.toNatClampNeg)) + x14_30).toNatClampNeg)
        else
          f_L_isPlan_l173 ka o4 x13_27 k9 (x14_30 + (1 : Int32)) v37 x11_30
      else
        if x12_30 = 0 then
          if x11_30 < (o4.1 (((5 : Int32) * (o4.2.2 x13_27.toNatClampNeg)) + x14_30).toNatClampNeg) then
            Option.bind (
              if 0 ≤ (o4.1 (((5 : Int32) * (o4.2.2 x13_27.toNatClampNeg)) + x14_30).toNatClampNeg) then
                some (0 : Int32)
              else
                some (1 : Int32)) fun (v44 : Int32) =>
            if 0 ≤ (o4.1 (((5 : Int32) * (o4.2.2 x13_27.toNatClampNeg)) + x14_30).toNatClampNeg) then
              f_L_isPlan_l173 ka o4 x13_27 k9 (x14_30 + (1 : Int32)) v44 (o4.1 (((5 : Int32) * (o4.2.2 x13_27.toNatClampNeg)) + x14_30).toNatClampNeg)
            else
              f_L_isPlan_l173 ka o4 x13_27 k9 (x14_30 + (1 : Int32)) v44 x11_30
          else
            some none
        else
          some none
theorem f_L_isPlan_l173_z (ka : xF) (o4 : xF × xF × xF) (x13_27 : Int32) (x14_30 : Int32) (x12_30 : Int32) (x11_30 : Int32) : f_L_isPlan_l173 ka o4 x13_27 0 x14_30 x12_30 x11_30 = none := rfl
theorem f_L_isPlan_l173_s (ka : xF) (o4 : xF × xF × xF) (x13_27 : Int32) (k9 : Nat) (x14_30 : Int32) (x12_30 : Int32) (x11_30 : Int32) : f_L_isPlan_l173 ka o4 x13_27 (k9 + 1) x14_30 x12_30 x11_30 =
    if x13_27 < 0 ∨ 12 ≤ x13_27.toNatClampNeg then none else
    if ((5 : Int32) * (o4.2.2 x13_27.toNatClampNeg)) < 0 ∨ 60 ≤ ((5 : Int32) * (o4.2.2 x13_27.toNatClampNeg)).toNatClampNeg then none else
    if (ka ((5 : Int32) * (o4.2.2 x13_27.toNatClampNeg)).toNatClampNeg) ≤ x14_30 then
      some (some (x12_30, x11_30))
    else
      if (((5 : Int32) * (o4.2.2 x13_27.toNatClampNeg)) + x14_30) < 0 ∨ 60 ≤ (((5 : Int32) * (o4.2.2 x13_27.toNatClampNeg)) + x14_30).toNatClampNeg then none else
      if (o4.1 (((5 : Int32) * (o4.2.2 x13_27.toNatClampNeg)) + x14_30).toNatClampNeg) < 0 then
        Option.bind (
          if x12_30 = 0 then
            if 0 ≤ (o4.1 (((5 : Int32) * (o4.2.2 x13_27.toNatClampNeg)) + x14_30).toNatClampNeg) then
              some (0 : Int32)
            else
              some (1 : Int32)
          else
            some (1 : Int32)) fun (v37 : Int32) =>
        if 0 ≤ (o4.1 (((5 : Int32) * (o4.2.2 x13_27.toNatClampNeg)) + x14_30).toNatClampNeg) then
          f_L_isPlan_l173 ka o4 x13_27 k9 (x14_30 + (1 : Int32)) v37 (o4.1 (((5 : Int32) * (o4.2.2 x13_27.toNatClampNeg)) + x14_30).toNatClampNeg)
        else
          f_L_isPlan_l173 ka o4 x13_27 k9 (x14_30 + (1 : Int32)) v37 x11_30
      else
        if x12_30 = 0 then
          if x11_30 < (o4.1 (((5 : Int32) * (o4.2.2 x13_27.toNatClampNeg)) + x14_30).toNatClampNeg) then
            Option.bind (
              if 0 ≤ (o4.1 (((5 : Int32) * (o4.2.2 x13_27.toNatClampNeg)) + x14_30).toNatClampNeg) then
                some (0 : Int32)
              else
                some (1 : Int32)) fun (v44 : Int32) =>
            if 0 ≤ (o4.1 (((5 : Int32) * (o4.2.2 x13_27.toNatClampNeg)) + x14_30).toNatClampNeg) then
              f_L_isPlan_l173 ka o4 x13_27 k9 (x14_30 + (1 : Int32)) v44 (o4.1 (((5 : Int32) * (o4.2.2 x13_27.toNatClampNeg)) + x14_30).toNatClampNeg)
            else
              f_L_isPlan_l173 ka o4 x13_27 k9 (x14_30 + (1 : Int32)) v44 x11_30
          else
            some none
        else
          some none := rfl
def f_L_isPlan_l162 (ka : xF) (kc : xF) (o4 : xF × xF × xF) : Nat → Int32 → Int32 → Int32 → Option (Option (Unit))
  | 0, _, _, _ => none
  | k9 + 1, x13_27, x12_27, x11_27 =>
    if (kc (0 : Int32).toNatClampNeg) ≤ x13_27 then
      some (some ())
    else
      Option.bind (f_L_isPlan_l173 ka o4 x13_27 300 (0 : Int32) x12_27 x11_27) fun (w31 : Option (Int32 × Int32)) => xf_om w31 (some none) fun (v47 : Int32 × Int32) =>
      f_L_isPlan_l162 ka kc o4 k9 (x13_27 + (1 : Int32)) v47.1 v47.2
theorem f_L_isPlan_l162_z (ka : xF) (kc : xF) (o4 : xF × xF × xF) (x13_27 : Int32) (x12_27 : Int32) (x11_27 : Int32) : f_L_isPlan_l162 ka kc o4 0 x13_27 x12_27 x11_27 = none := rfl
theorem f_L_isPlan_l162_s (ka : xF) (kc : xF) (o4 : xF × xF × xF) (k9 : Nat) (x13_27 : Int32) (x12_27 : Int32) (x11_27 : Int32) : f_L_isPlan_l162 ka kc o4 (k9 + 1) x13_27 x12_27 x11_27 =
    if (kc (0 : Int32).toNatClampNeg) ≤ x13_27 then
      some (some ())
    else
      Option.bind (f_L_isPlan_l173 ka o4 x13_27 300 (0 : Int32) x12_27 x11_27) fun (w31 : Option (Int32 × Int32)) => xf_om w31 (some none) fun (v47 : Int32 × Int32) =>
      f_L_isPlan_l162 ka kc o4 k9 (x13_27 + (1 : Int32)) v47.1 v47.2 := rfl
def f_L_isPlan_l296 (kr : xF) (o4 : xF × xF × xF) (x13_49 : Int32) : Nat → Int32 → Int32 → Int32 → Option (Option (Int32))
  | 0, _, _, _ => none
  | k9 + 1, x15_54, x14_54, x9_54 =>
    if ((2 : Int32) * x13_49) < 0 ∨ 24 ≤ ((2 : Int32) * x13_49).toNatClampNeg then none else
    if (kr ((2 : Int32) * x13_49).toNatClampNeg) ≤ x15_54 then
      some (some x9_54)
    else
      if (((3 : Int32) * x13_49) + x15_54) < 0 ∨ 36 ≤ (((3 : Int32) * x13_49) + x15_54).toNatClampNeg then none else
      if (((2 : Int32) * x13_49) + (1 : Int32)) < 0 ∨ 24 ≤ (((2 : Int32) * x13_49) + (1 : Int32)).toNatClampNeg then none else
      if (o4.2.1 (((3 : Int32) * x13_49) + x15_54).toNatClampNeg) < 0 then
        f_L_isPlan_l296 kr o4 x13_49 k9 (x15_54 + (1 : Int32)) (o4.2.1 (((3 : Int32) * x13_49) + x15_54).toNatClampNeg) (x9_54 + (0 : Int32))
      else
        if x14_54 < 0 then
          some none
        else
          if (x14_54 + ((kr (((2 : Int32) * x13_49) + (1 : Int32)).toNatClampNeg) <<< (x15_54 &&& 31))) ≤ (o4.2.1 (((3 : Int32) * x13_49) + x15_54).toNatClampNeg) then
            Option.bind (
              if (o4.2.1 (((3 : Int32) * x13_49) + x15_54).toNatClampNeg) < (x14_54 + ((2 : Int32) * ((kr (((2 : Int32) * x13_49) + (1 : Int32)).toNatClampNeg) <<< (x15_54 &&& 31)))) then
                some (0 : Int32)
              else
                some (1 : Int32)) fun (v65 : Int32) =>
            f_L_isPlan_l296 kr o4 x13_49 k9 (x15_54 + (1 : Int32)) (o4.2.1 (((3 : Int32) * x13_49) + x15_54).toNatClampNeg) (x9_54 + v65)
          else
            some none
theorem f_L_isPlan_l296_z (kr : xF) (o4 : xF × xF × xF) (x13_49 : Int32) (x15_54 : Int32) (x14_54 : Int32) (x9_54 : Int32) : f_L_isPlan_l296 kr o4 x13_49 0 x15_54 x14_54 x9_54 = none := rfl
theorem f_L_isPlan_l296_s (kr : xF) (o4 : xF × xF × xF) (x13_49 : Int32) (k9 : Nat) (x15_54 : Int32) (x14_54 : Int32) (x9_54 : Int32) : f_L_isPlan_l296 kr o4 x13_49 (k9 + 1) x15_54 x14_54 x9_54 =
    if ((2 : Int32) * x13_49) < 0 ∨ 24 ≤ ((2 : Int32) * x13_49).toNatClampNeg then none else
    if (kr ((2 : Int32) * x13_49).toNatClampNeg) ≤ x15_54 then
      some (some x9_54)
    else
      if (((3 : Int32) * x13_49) + x15_54) < 0 ∨ 36 ≤ (((3 : Int32) * x13_49) + x15_54).toNatClampNeg then none else
      if (((2 : Int32) * x13_49) + (1 : Int32)) < 0 ∨ 24 ≤ (((2 : Int32) * x13_49) + (1 : Int32)).toNatClampNeg then none else
      if (o4.2.1 (((3 : Int32) * x13_49) + x15_54).toNatClampNeg) < 0 then
        f_L_isPlan_l296 kr o4 x13_49 k9 (x15_54 + (1 : Int32)) (o4.2.1 (((3 : Int32) * x13_49) + x15_54).toNatClampNeg) (x9_54 + (0 : Int32))
      else
        if x14_54 < 0 then
          some none
        else
          if (x14_54 + ((kr (((2 : Int32) * x13_49) + (1 : Int32)).toNatClampNeg) <<< (x15_54 &&& 31))) ≤ (o4.2.1 (((3 : Int32) * x13_49) + x15_54).toNatClampNeg) then
            Option.bind (
              if (o4.2.1 (((3 : Int32) * x13_49) + x15_54).toNatClampNeg) < (x14_54 + ((2 : Int32) * ((kr (((2 : Int32) * x13_49) + (1 : Int32)).toNatClampNeg) <<< (x15_54 &&& 31)))) then
                some (0 : Int32)
              else
                some (1 : Int32)) fun (v65 : Int32) =>
            f_L_isPlan_l296 kr o4 x13_49 k9 (x15_54 + (1 : Int32)) (o4.2.1 (((3 : Int32) * x13_49) + x15_54).toNatClampNeg) (x9_54 + v65)
          else
            some none := rfl
def f_L_isPlan_l267 (ka : xF) (kr : xF) (kc : xF) (o4 : xF × xF × xF) : Nat → Int32 → Int32 → Option (Option (Int32))
  | 0, _, _ => none
  | k9 + 1, x13_49, x9_49 =>
    if (kc (0 : Int32).toNatClampNeg) ≤ x13_49 then
      some (some x9_49)
    else
      if ((5 : Int32) * x13_49) < 0 ∨ 60 ≤ ((5 : Int32) * x13_49).toNatClampNeg then none else
      if ((((5 : Int32) * x13_49) + (ka ((5 : Int32) * x13_49).toNatClampNeg)) - (1 : Int32)) < 0 ∨ 60 ≤ ((((5 : Int32) * x13_49) + (ka ((5 : Int32) * x13_49).toNatClampNeg)) - (1 : Int32)).toNatClampNeg then none else
      Option.bind (f_L_isPlan_l296 kr o4 x13_49 300 (0 : Int32) (o4.1 ((((5 : Int32) * x13_49) + (ka ((5 : Int32) * x13_49).toNatClampNeg)) - (1 : Int32)).toNatClampNeg) x9_49) fun (w55 : Option (Int32)) => xf_om w55 (some none) fun (v67 : Int32) =>
      f_L_isPlan_l267 ka kr kc o4 k9 (x13_49 + (1 : Int32)) v67
theorem f_L_isPlan_l267_z (ka : xF) (kr : xF) (kc : xF) (o4 : xF × xF × xF) (x13_49 : Int32) (x9_49 : Int32) : f_L_isPlan_l267 ka kr kc o4 0 x13_49 x9_49 = none := rfl
theorem f_L_isPlan_l267_s (ka : xF) (kr : xF) (kc : xF) (o4 : xF × xF × xF) (k9 : Nat) (x13_49 : Int32) (x9_49 : Int32) : f_L_isPlan_l267 ka kr kc o4 (k9 + 1) x13_49 x9_49 =
    if (kc (0 : Int32).toNatClampNeg) ≤ x13_49 then
      some (some x9_49)
    else
      if ((5 : Int32) * x13_49) < 0 ∨ 60 ≤ ((5 : Int32) * x13_49).toNatClampNeg then none else
      if ((((5 : Int32) * x13_49) + (ka ((5 : Int32) * x13_49).toNatClampNeg)) - (1 : Int32)) < 0 ∨ 60 ≤ ((((5 : Int32) * x13_49) + (ka ((5 : Int32) * x13_49).toNatClampNeg)) - (1 : Int32)).toNatClampNeg then none else
      Option.bind (f_L_isPlan_l296 kr o4 x13_49 300 (0 : Int32) (o4.1 ((((5 : Int32) * x13_49) + (ka ((5 : Int32) * x13_49).toNatClampNeg)) - (1 : Int32)).toNatClampNeg) x9_49) fun (w55 : Option (Int32)) => xf_om w55 (some none) fun (v67 : Int32) =>
      f_L_isPlan_l267 ka kr kc o4 k9 (x13_49 + (1 : Int32)) v67 := rfl
def f_L_isPlan (lo : xF) (yy : xSY) (pp : xPL) (qq : xPL) (ka : xF) (kr : xF) (kc : xF) (kl : (Nat → Int64)) : Option (Int32) :=
  Option.bind (f_L_asks lo (yy.1, yy.2.1, yy.2.2.1, yy.2.2.2.1, yy.2.2.2.2.1, yy.2.2.2.2.2.1, yy.2.2.2.2.2.2.1, yy.2.2.2.2.2.2.2.1, yy.2.2.2.2.2.2.2.2) (pp.1, pp.2.1, pp.2.2.1, pp.2.2.2.1, pp.2.2.2.2.1, pp.2.2.2.2.2.1, pp.2.2.2.2.2.2.1, pp.2.2.2.2.2.2.2.1, pp.2.2.2.2.2.2.2.2) (qq.1, qq.2.1, qq.2.2.1, qq.2.2.2.1, qq.2.2.2.2.1, qq.2.2.2.2.2.1, qq.2.2.2.2.2.2.1, qq.2.2.2.2.2.2.2.1, qq.2.2.2.2.2.2.2.2) ka kr kc (fun _ => (0 : Int32)) (fun _ => (0 : Int32)) (fun _ => (0 : Int32))) fun (o4 : xF × xF × xF) =>
  Option.bind (f_L_isPlan_l43 lo yy.1 yy.2.1 yy.2.2.1 yy.2.2.2.1 yy.2.2.2.2.1 yy.2.2.2.2.2.1 yy.2.2.2.2.2.2.1 yy.2.2.2.2.2.2.2.1 yy.2.2.2.2.2.2.2.2 pp.1 pp.2.1 pp.2.2.1 pp.2.2.2.1 pp.2.2.2.2.1 pp.2.2.2.2.2.1 pp.2.2.2.2.2.2.1 pp.2.2.2.2.2.2.2.1 pp.2.2.2.2.2.2.2.2 qq.1 qq.2.1 qq.2.2.1 qq.2.2.2.1 qq.2.2.2.2.1 qq.2.2.2.2.2.1 qq.2.2.2.2.2.2.1 qq.2.2.2.2.2.2.2.1 qq.2.2.2.2.2.2.2.2 ka kr kc kl o4 300 (0 : Int32) ((-1) : Int32) (0 : Int32)) fun (w6 : Option (Int32 × Int32)) => xf_om w6 (some (0 : Int32)) fun (v26 : Int32 × Int32) =>
  Option.bind (f_L_isPlan_l162 ka kc o4 300 (0 : Int32) (0 : Int32) ((-1) : Int32)) fun (w28 : Option (Unit)) => xf_om w28 (some (0 : Int32)) fun (v48 : Unit) =>
  Option.bind (f_L_isPlan_l267 ka kr kc o4 300 (0 : Int32) (0 : Int32)) fun (w50 : Option (Int32)) => xf_om w50 (some (0 : Int32)) fun (v68 : Int32) =>
  Option.bind (f_X2_laid lo (yy.1, yy.2.1, yy.2.2.1, yy.2.2.2.1, yy.2.2.2.2.1, yy.2.2.2.2.2.1, yy.2.2.2.2.2.2.1, yy.2.2.2.2.2.2.2.1, yy.2.2.2.2.2.2.2.2) (pp.1, pp.2.1, pp.2.2.1, pp.2.2.2.1, pp.2.2.2.2.1, pp.2.2.2.2.2.1, pp.2.2.2.2.2.2.1, pp.2.2.2.2.2.2.2.1, pp.2.2.2.2.2.2.2.2) (qq.1, qq.2.1, qq.2.2.1, qq.2.2.2.1, qq.2.2.2.2.1, qq.2.2.2.2.2.1, qq.2.2.2.2.2.2.1, qq.2.2.2.2.2.2.2.1, qq.2.2.2.2.2.2.2.2)) fun (o69 : Int32) =>
  if o69 = v26.2 then
    Option.bind (f_X2_late lo (yy.1, yy.2.1, yy.2.2.1, yy.2.2.2.1, yy.2.2.2.2.1, yy.2.2.2.2.2.1, yy.2.2.2.2.2.2.1, yy.2.2.2.2.2.2.2.1, yy.2.2.2.2.2.2.2.2) (pp.1, pp.2.1, pp.2.2.1, pp.2.2.2.1, pp.2.2.2.2.1, pp.2.2.2.2.2.1, pp.2.2.2.2.2.2.1, pp.2.2.2.2.2.2.2.1, pp.2.2.2.2.2.2.2.2) (qq.1, qq.2.1, qq.2.2.1, qq.2.2.2.1, qq.2.2.2.2.1, qq.2.2.2.2.2.1, qq.2.2.2.2.2.2.1, qq.2.2.2.2.2.2.2.1, qq.2.2.2.2.2.2.2.2)) fun (o71 : Int32) =>
    if o71 = v68 then
      Option.bind (f_X2_lastDay lo (yy.1, yy.2.1, yy.2.2.1, yy.2.2.2.1, yy.2.2.2.2.1, yy.2.2.2.2.2.1, yy.2.2.2.2.2.2.1, yy.2.2.2.2.2.2.2.1, yy.2.2.2.2.2.2.2.2) (pp.1, pp.2.1, pp.2.2.1, pp.2.2.2.1, pp.2.2.2.2.1, pp.2.2.2.2.2.1, pp.2.2.2.2.2.2.1, pp.2.2.2.2.2.2.2.1, pp.2.2.2.2.2.2.2.2) (qq.1, qq.2.1, qq.2.2.1, qq.2.2.2.1, qq.2.2.2.2.1, qq.2.2.2.2.2.1, qq.2.2.2.2.2.2.1, qq.2.2.2.2.2.2.2.1, qq.2.2.2.2.2.2.2.2)) fun (o73 : Int32) =>
      if o73 = v26.1 then
        some (1 : Int32)
      else
        some (0 : Int32)
    else
      some (0 : Int32)
  else
    some (0 : Int32)
theorem f_L_isPlan_e (lo : xF) (yy_0 : Int32) (yy_1 : xF) (yy_2 : xF) (yy_3 : xF) (yy_4 : xF) (yy_5 : xF) (yy_6 : xF) (yy_7 : xF) (yy_8 : xF) (pp_0 : xF) (pp_1 : xF) (pp_2 : xF) (pp_3 : xF) (pp_4 : xF) (pp_5 : xF) (pp_6 : Int32) (pp_7 : Int32) (pp_8 : Int32) (qq_0 : xF) (qq_1 : xF) (qq_2 : xF) (qq_3 : xF) (qq_4 : xF) (qq_5 : xF) (qq_6 : Int32) (qq_7 : Int32) (qq_8 : Int32) (ka : xF) (kr : xF) (kc : xF) (kl : (Nat → Int64)) : f_L_isPlan lo (yy_0, yy_1, yy_2, yy_3, yy_4, yy_5, yy_6, yy_7, yy_8) (pp_0, pp_1, pp_2, pp_3, pp_4, pp_5, pp_6, pp_7, pp_8) (qq_0, qq_1, qq_2, qq_3, qq_4, qq_5, qq_6, qq_7, qq_8) ka kr kc kl =
  Option.bind (f_L_asks lo (yy_0, yy_1, yy_2, yy_3, yy_4, yy_5, yy_6, yy_7, yy_8) (pp_0, pp_1, pp_2, pp_3, pp_4, pp_5, pp_6, pp_7, pp_8) (qq_0, qq_1, qq_2, qq_3, qq_4, qq_5, qq_6, qq_7, qq_8) ka kr kc (fun _ => (0 : Int32)) (fun _ => (0 : Int32)) (fun _ => (0 : Int32))) fun (o4 : xF × xF × xF) =>
  Option.bind (f_L_isPlan_l43 lo yy_0 yy_1 yy_2 yy_3 yy_4 yy_5 yy_6 yy_7 yy_8 pp_0 pp_1 pp_2 pp_3 pp_4 pp_5 pp_6 pp_7 pp_8 qq_0 qq_1 qq_2 qq_3 qq_4 qq_5 qq_6 qq_7 qq_8 ka kr kc kl o4 300 (0 : Int32) ((-1) : Int32) (0 : Int32)) fun (w6 : Option (Int32 × Int32)) => xf_om w6 (some (0 : Int32)) fun (v26 : Int32 × Int32) =>
  Option.bind (f_L_isPlan_l162 ka kc o4 300 (0 : Int32) (0 : Int32) ((-1) : Int32)) fun (w28 : Option (Unit)) => xf_om w28 (some (0 : Int32)) fun (v48 : Unit) =>
  Option.bind (f_L_isPlan_l267 ka kr kc o4 300 (0 : Int32) (0 : Int32)) fun (w50 : Option (Int32)) => xf_om w50 (some (0 : Int32)) fun (v68 : Int32) =>
  Option.bind (f_X2_laid lo (yy_0, yy_1, yy_2, yy_3, yy_4, yy_5, yy_6, yy_7, yy_8) (pp_0, pp_1, pp_2, pp_3, pp_4, pp_5, pp_6, pp_7, pp_8) (qq_0, qq_1, qq_2, qq_3, qq_4, qq_5, qq_6, qq_7, qq_8)) fun (o69 : Int32) =>
  if o69 = v26.2 then
    Option.bind (f_X2_late lo (yy_0, yy_1, yy_2, yy_3, yy_4, yy_5, yy_6, yy_7, yy_8) (pp_0, pp_1, pp_2, pp_3, pp_4, pp_5, pp_6, pp_7, pp_8) (qq_0, qq_1, qq_2, qq_3, qq_4, qq_5, qq_6, qq_7, qq_8)) fun (o71 : Int32) =>
    if o71 = v68 then
      Option.bind (f_X2_lastDay lo (yy_0, yy_1, yy_2, yy_3, yy_4, yy_5, yy_6, yy_7, yy_8) (pp_0, pp_1, pp_2, pp_3, pp_4, pp_5, pp_6, pp_7, pp_8) (qq_0, qq_1, qq_2, qq_3, qq_4, qq_5, qq_6, qq_7, qq_8)) fun (o73 : Int32) =>
      if o73 = v26.1 then
        some (1 : Int32)
      else
        some (0 : Int32)
    else
      some (0 : Int32)
  else
    some (0 : Int32) := rfl
def f_L_loses_l44 (yy_0 : Int32) (yy_1 : xF) (yy_2 : xF) (yy_3 : xF) (yy_4 : xF) (yy_5 : xF) (yy_6 : xF) (yy_7 : xF) (yy_8 : xF) (i5 : Int32) (o4 : xF × xF × xF) (o5 : Int32 × xF × xPL × xPL) : Nat → Int32 → Int32 → Int32 → Option (Int32 × Int32)
  | 0, _, _, _ => none
  | k9 + 1, x11_6, x10_6, x9_6 =>
    if (60 : Int32) ≤ x11_6 then
      some (x10_6, x9_6)
    else
      if x11_6 < 0 ∨ 60 ≤ x11_6.toNatClampNeg then none else
      Option.bind (
        if 0 ≤ (o4.1 x11_6.toNatClampNeg) then
          Option.bind (f_X2_lessonDay o5.2.1 (yy_0, yy_1, yy_2, yy_3, yy_4, yy_5, yy_6, yy_7, yy_8) o5.2.2.1 o5.2.2.2 (x11_6 / (5 : Int32)) (x11_6 - x11_6 / (5 : Int32) * (5 : Int32))) fun (o18 : Int32) =>
          some o18
        else
          some ((-1) : Int32)) fun (v10 : Int32) =>
      Option.bind (
        if v10 = (o4.1 x11_6.toNatClampNeg) then
          some (0 : Int32)
        else
          some (1 : Int32)) fun (v11 : Int32) =>
      if x10_6 = 0 then
        f_L_loses_l44 yy_0 yy_1 yy_2 yy_3 yy_4 yy_5 yy_6 yy_7 yy_8 i5 o4 o5 k9 (x11_6 + (1 : Int32)) (0 : Int32) (x9_6 + v11)
      else
        if (o4.1 x11_6.toNatClampNeg) < 0 then
          f_L_loses_l44 yy_0 yy_1 yy_2 yy_3 yy_4 yy_5 yy_6 yy_7 yy_8 i5 o4 o5 k9 (x11_6 + (1 : Int32)) (1 : Int32) (x9_6 + v11)
        else
          if i5 ≤ (o4.1 x11_6.toNatClampNeg) then
            f_L_loses_l44 yy_0 yy_1 yy_2 yy_3 yy_4 yy_5 yy_6 yy_7 yy_8 i5 o4 o5 k9 (x11_6 + (1 : Int32)) (1 : Int32) (x9_6 + v11)
          else
            if v10 = (o4.1 x11_6.toNatClampNeg) then
              f_L_loses_l44 yy_0 yy_1 yy_2 yy_3 yy_4 yy_5 yy_6 yy_7 yy_8 i5 o4 o5 k9 (x11_6 + (1 : Int32)) (1 : Int32) (x9_6 + v11)
            else
              f_L_loses_l44 yy_0 yy_1 yy_2 yy_3 yy_4 yy_5 yy_6 yy_7 yy_8 i5 o4 o5 k9 (x11_6 + (1 : Int32)) (0 : Int32) (x9_6 + v11)
theorem f_L_loses_l44_z (yy_0 : Int32) (yy_1 : xF) (yy_2 : xF) (yy_3 : xF) (yy_4 : xF) (yy_5 : xF) (yy_6 : xF) (yy_7 : xF) (yy_8 : xF) (i5 : Int32) (o4 : xF × xF × xF) (o5 : Int32 × xF × xPL × xPL) (x11_6 : Int32) (x10_6 : Int32) (x9_6 : Int32) : f_L_loses_l44 yy_0 yy_1 yy_2 yy_3 yy_4 yy_5 yy_6 yy_7 yy_8 i5 o4 o5 0 x11_6 x10_6 x9_6 = none := rfl
theorem f_L_loses_l44_s (yy_0 : Int32) (yy_1 : xF) (yy_2 : xF) (yy_3 : xF) (yy_4 : xF) (yy_5 : xF) (yy_6 : xF) (yy_7 : xF) (yy_8 : xF) (i5 : Int32) (o4 : xF × xF × xF) (o5 : Int32 × xF × xPL × xPL) (k9 : Nat) (x11_6 : Int32) (x10_6 : Int32) (x9_6 : Int32) : f_L_loses_l44 yy_0 yy_1 yy_2 yy_3 yy_4 yy_5 yy_6 yy_7 yy_8 i5 o4 o5 (k9 + 1) x11_6 x10_6 x9_6 =
    if (60 : Int32) ≤ x11_6 then
      some (x10_6, x9_6)
    else
      if x11_6 < 0 ∨ 60 ≤ x11_6.toNatClampNeg then none else
      Option.bind (
        if 0 ≤ (o4.1 x11_6.toNatClampNeg) then
          Option.bind (f_X2_lessonDay o5.2.1 (yy_0, yy_1, yy_2, yy_3, yy_4, yy_5, yy_6, yy_7, yy_8) o5.2.2.1 o5.2.2.2 (x11_6 / (5 : Int32)) (x11_6 - x11_6 / (5 : Int32) * (5 : Int32))) fun (o18 : Int32) =>
          some o18
        else
          some ((-1) : Int32)) fun (v10 : Int32) =>
      Option.bind (
        if v10 = (o4.1 x11_6.toNatClampNeg) then
          some (0 : Int32)
        else
          some (1 : Int32)) fun (v11 : Int32) =>
      if x10_6 = 0 then
        f_L_loses_l44 yy_0 yy_1 yy_2 yy_3 yy_4 yy_5 yy_6 yy_7 yy_8 i5 o4 o5 k9 (x11_6 + (1 : Int32)) (0 : Int32) (x9_6 + v11)
      else
        if (o4.1 x11_6.toNatClampNeg) < 0 then
          f_L_loses_l44 yy_0 yy_1 yy_2 yy_3 yy_4 yy_5 yy_6 yy_7 yy_8 i5 o4 o5 k9 (x11_6 + (1 : Int32)) (1 : Int32) (x9_6 + v11)
        else
          if i5 ≤ (o4.1 x11_6.toNatClampNeg) then
            f_L_loses_l44 yy_0 yy_1 yy_2 yy_3 yy_4 yy_5 yy_6 yy_7 yy_8 i5 o4 o5 k9 (x11_6 + (1 : Int32)) (1 : Int32) (x9_6 + v11)
          else
            if v10 = (o4.1 x11_6.toNatClampNeg) then
              f_L_loses_l44 yy_0 yy_1 yy_2 yy_3 yy_4 yy_5 yy_6 yy_7 yy_8 i5 o4 o5 k9 (x11_6 + (1 : Int32)) (1 : Int32) (x9_6 + v11)
            else
              f_L_loses_l44 yy_0 yy_1 yy_2 yy_3 yy_4 yy_5 yy_6 yy_7 yy_8 i5 o4 o5 k9 (x11_6 + (1 : Int32)) (0 : Int32) (x9_6 + v11) := rfl
def f_L_loses_l146 (yy_0 : Int32) (yy_1 : xF) (yy_2 : xF) (yy_3 : xF) (yy_4 : xF) (yy_5 : xF) (yy_6 : xF) (yy_7 : xF) (yy_8 : xF) (i5 : Int32) (o4 : xF × xF × xF) (o5 : Int32 × xF × xPL × xPL) : Nat → Int32 → Int32 → Int32 → Option (Int32 × Int32)
  | 0, _, _, _ => none
  | k9 + 1, x11_19, x10_19, x9_19 =>
    if (36 : Int32) ≤ x11_19 then
      some (x10_19, x9_19)
    else
      if x11_19 < 0 ∨ 36 ≤ x11_19.toNatClampNeg then none else
      Option.bind (
        if 0 ≤ (o4.2.1 x11_19.toNatClampNeg) then
          Option.bind (f_X2_revisitDay o5.2.1 (yy_0, yy_1, yy_2, yy_3, yy_4, yy_5, yy_6, yy_7, yy_8) o5.2.2.1 o5.2.2.2 (x11_19 / (3 : Int32)) (x11_19 - x11_19 / (3 : Int32) * (3 : Int32))) fun (o31 : Int32) =>
          some o31
        else
          some ((-1) : Int32)) fun (v23 : Int32) =>
      Option.bind (
        if v23 = (o4.2.1 x11_19.toNatClampNeg) then
          some (0 : Int32)
        else
          some (1 : Int32)) fun (v24 : Int32) =>
      if x10_19 = 0 then
        f_L_loses_l146 yy_0 yy_1 yy_2 yy_3 yy_4 yy_5 yy_6 yy_7 yy_8 i5 o4 o5 k9 (x11_19 + (1 : Int32)) (0 : Int32) (x9_19 + v24)
      else
        if (o4.2.1 x11_19.toNatClampNeg) < 0 then
          f_L_loses_l146 yy_0 yy_1 yy_2 yy_3 yy_4 yy_5 yy_6 yy_7 yy_8 i5 o4 o5 k9 (x11_19 + (1 : Int32)) (1 : Int32) (x9_19 + v24)
        else
          if i5 ≤ (o4.2.1 x11_19.toNatClampNeg) then
            f_L_loses_l146 yy_0 yy_1 yy_2 yy_3 yy_4 yy_5 yy_6 yy_7 yy_8 i5 o4 o5 k9 (x11_19 + (1 : Int32)) (1 : Int32) (x9_19 + v24)
          else
            if v23 = (o4.2.1 x11_19.toNatClampNeg) then
              f_L_loses_l146 yy_0 yy_1 yy_2 yy_3 yy_4 yy_5 yy_6 yy_7 yy_8 i5 o4 o5 k9 (x11_19 + (1 : Int32)) (1 : Int32) (x9_19 + v24)
            else
              f_L_loses_l146 yy_0 yy_1 yy_2 yy_3 yy_4 yy_5 yy_6 yy_7 yy_8 i5 o4 o5 k9 (x11_19 + (1 : Int32)) (0 : Int32) (x9_19 + v24)
theorem f_L_loses_l146_z (yy_0 : Int32) (yy_1 : xF) (yy_2 : xF) (yy_3 : xF) (yy_4 : xF) (yy_5 : xF) (yy_6 : xF) (yy_7 : xF) (yy_8 : xF) (i5 : Int32) (o4 : xF × xF × xF) (o5 : Int32 × xF × xPL × xPL) (x11_19 : Int32) (x10_19 : Int32) (x9_19 : Int32) : f_L_loses_l146 yy_0 yy_1 yy_2 yy_3 yy_4 yy_5 yy_6 yy_7 yy_8 i5 o4 o5 0 x11_19 x10_19 x9_19 = none := rfl
theorem f_L_loses_l146_s (yy_0 : Int32) (yy_1 : xF) (yy_2 : xF) (yy_3 : xF) (yy_4 : xF) (yy_5 : xF) (yy_6 : xF) (yy_7 : xF) (yy_8 : xF) (i5 : Int32) (o4 : xF × xF × xF) (o5 : Int32 × xF × xPL × xPL) (k9 : Nat) (x11_19 : Int32) (x10_19 : Int32) (x9_19 : Int32) : f_L_loses_l146 yy_0 yy_1 yy_2 yy_3 yy_4 yy_5 yy_6 yy_7 yy_8 i5 o4 o5 (k9 + 1) x11_19 x10_19 x9_19 =
    if (36 : Int32) ≤ x11_19 then
      some (x10_19, x9_19)
    else
      if x11_19 < 0 ∨ 36 ≤ x11_19.toNatClampNeg then none else
      Option.bind (
        if 0 ≤ (o4.2.1 x11_19.toNatClampNeg) then
          Option.bind (f_X2_revisitDay o5.2.1 (yy_0, yy_1, yy_2, yy_3, yy_4, yy_5, yy_6, yy_7, yy_8) o5.2.2.1 o5.2.2.2 (x11_19 / (3 : Int32)) (x11_19 - x11_19 / (3 : Int32) * (3 : Int32))) fun (o31 : Int32) =>
          some o31
        else
          some ((-1) : Int32)) fun (v23 : Int32) =>
      Option.bind (
        if v23 = (o4.2.1 x11_19.toNatClampNeg) then
          some (0 : Int32)
        else
          some (1 : Int32)) fun (v24 : Int32) =>
      if x10_19 = 0 then
        f_L_loses_l146 yy_0 yy_1 yy_2 yy_3 yy_4 yy_5 yy_6 yy_7 yy_8 i5 o4 o5 k9 (x11_19 + (1 : Int32)) (0 : Int32) (x9_19 + v24)
      else
        if (o4.2.1 x11_19.toNatClampNeg) < 0 then
          f_L_loses_l146 yy_0 yy_1 yy_2 yy_3 yy_4 yy_5 yy_6 yy_7 yy_8 i5 o4 o5 k9 (x11_19 + (1 : Int32)) (1 : Int32) (x9_19 + v24)
        else
          if i5 ≤ (o4.2.1 x11_19.toNatClampNeg) then
            f_L_loses_l146 yy_0 yy_1 yy_2 yy_3 yy_4 yy_5 yy_6 yy_7 yy_8 i5 o4 o5 k9 (x11_19 + (1 : Int32)) (1 : Int32) (x9_19 + v24)
          else
            if v23 = (o4.2.1 x11_19.toNatClampNeg) then
              f_L_loses_l146 yy_0 yy_1 yy_2 yy_3 yy_4 yy_5 yy_6 yy_7 yy_8 i5 o4 o5 k9 (x11_19 + (1 : Int32)) (1 : Int32) (x9_19 + v24)
            else
              f_L_loses_l146 yy_0 yy_1 yy_2 yy_3 yy_4 yy_5 yy_6 yy_7 yy_8 i5 o4 o5 k9 (x11_19 + (1 : Int32)) (0 : Int32) (x9_19 + v24) := rfl
def f_L_loses (lo : xF) (yy : xSY) (pp : xPL) (qq : xPL) (ka : xF) (kr : xF) (kc : xF) (kl : (Nat → Int64)) (i5 : Int32) : Option (Int32 × xF × xPL × xPL × (Nat → Int64)) :=
  Option.bind (f_L_asks lo (yy.1, yy.2.1, yy.2.2.1, yy.2.2.2.1, yy.2.2.2.2.1, yy.2.2.2.2.2.1, yy.2.2.2.2.2.2.1, yy.2.2.2.2.2.2.2.1, yy.2.2.2.2.2.2.2.2) (pp.1, pp.2.1, pp.2.2.1, pp.2.2.2.1, pp.2.2.2.2.1, pp.2.2.2.2.2.1, pp.2.2.2.2.2.2.1, pp.2.2.2.2.2.2.2.1, pp.2.2.2.2.2.2.2.2) (qq.1, qq.2.1, qq.2.2.1, qq.2.2.2.1, qq.2.2.2.2.1, qq.2.2.2.2.2.1, qq.2.2.2.2.2.2.1, qq.2.2.2.2.2.2.2.1, qq.2.2.2.2.2.2.2.2) ka kr kc (fun _ => (0 : Int32)) (fun _ => (0 : Int32)) (fun _ => (0 : Int32))) fun (o4 : xF × xF × xF) =>
  Option.bind (f_X2_lose lo (yy.1, yy.2.1, yy.2.2.1, yy.2.2.2.1, yy.2.2.2.2.1, yy.2.2.2.2.2.1, yy.2.2.2.2.2.2.1, yy.2.2.2.2.2.2.2.1, yy.2.2.2.2.2.2.2.2) (pp.1, pp.2.1, pp.2.2.1, pp.2.2.2.1, pp.2.2.2.2.1, pp.2.2.2.2.2.1, pp.2.2.2.2.2.2.1, pp.2.2.2.2.2.2.2.1, pp.2.2.2.2.2.2.2.2) (qq.1, qq.2.1, qq.2.2.1, qq.2.2.2.1, qq.2.2.2.2.1, qq.2.2.2.2.2.1, qq.2.2.2.2.2.2.1, qq.2.2.2.2.2.2.2.1, qq.2.2.2.2.2.2.2.2) i5) fun (o5 : Int32 × xF × xPL × xPL) =>
  Option.bind (f_L_loses_l44 yy.1 yy.2.1 yy.2.2.1 yy.2.2.2.1 yy.2.2.2.2.1 yy.2.2.2.2.2.1 yy.2.2.2.2.2.2.1 yy.2.2.2.2.2.2.2.1 yy.2.2.2.2.2.2.2.2 i5 o4 o5 300 (0 : Int32) (1 : Int32) (0 : Int32)) fun (w7 : Int32 × Int32) =>
  Option.bind (f_L_loses_l146 yy.1 yy.2.1 yy.2.2.1 yy.2.2.2.1 yy.2.2.2.2.1 yy.2.2.2.2.2.1 yy.2.2.2.2.2.2.1 yy.2.2.2.2.2.2.2.1 yy.2.2.2.2.2.2.2.2 i5 o4 o5 300 (0 : Int32) w7.1 w7.2) fun (w20 : Int32 × Int32) =>
  if (i5 / (50 : Int32)) < 0 ∨ 2 ≤ (i5 / (50 : Int32)).toNatClampNeg then none else
  if w20.1 = 0 then
    some ((0 : Int32), o5.2.1, o5.2.2.1, o5.2.2.2, (vp_updL kl (i5 / (50 : Int32)).toNatClampNeg ((kl (i5 / (50 : Int32)).toNatClampNeg) ||| ((1 : Int64) <<< ((i5 - i5 / (50 : Int32) * (50 : Int32)).toInt64 &&& 63)))))
  else
    if o5.1 = w20.2 then
      Option.bind (f_X2_on o5.2.1 (yy.1, yy.2.1, yy.2.2.1, yy.2.2.2.1, yy.2.2.2.2.1, yy.2.2.2.2.2.1, yy.2.2.2.2.2.2.1, yy.2.2.2.2.2.2.2.1, yy.2.2.2.2.2.2.2.2) o5.2.2.1 o5.2.2.2 i5) fun (o35 : Int32) =>
      if o35 = ((-1) : Int32) then
        some ((1 : Int32), o5.2.1, o5.2.2.1, o5.2.2.2, (vp_updL kl (i5 / (50 : Int32)).toNatClampNeg ((kl (i5 / (50 : Int32)).toNatClampNeg) ||| ((1 : Int64) <<< ((i5 - i5 / (50 : Int32) * (50 : Int32)).toInt64 &&& 63)))))
      else
        some ((0 : Int32), o5.2.1, o5.2.2.1, o5.2.2.2, (vp_updL kl (i5 / (50 : Int32)).toNatClampNeg ((kl (i5 / (50 : Int32)).toNatClampNeg) ||| ((1 : Int64) <<< ((i5 - i5 / (50 : Int32) * (50 : Int32)).toInt64 &&& 63)))))
    else
      some ((0 : Int32), o5.2.1, o5.2.2.1, o5.2.2.2, (vp_updL kl (i5 / (50 : Int32)).toNatClampNeg ((kl (i5 / (50 : Int32)).toNatClampNeg) ||| ((1 : Int64) <<< ((i5 - i5 / (50 : Int32) * (50 : Int32)).toInt64 &&& 63)))))
theorem f_L_loses_e (lo : xF) (yy_0 : Int32) (yy_1 : xF) (yy_2 : xF) (yy_3 : xF) (yy_4 : xF) (yy_5 : xF) (yy_6 : xF) (yy_7 : xF) (yy_8 : xF) (pp_0 : xF) (pp_1 : xF) (pp_2 : xF) (pp_3 : xF) (pp_4 : xF) (pp_5 : xF) (pp_6 : Int32) (pp_7 : Int32) (pp_8 : Int32) (qq_0 : xF) (qq_1 : xF) (qq_2 : xF) (qq_3 : xF) (qq_4 : xF) (qq_5 : xF) (qq_6 : Int32) (qq_7 : Int32) (qq_8 : Int32) (ka : xF) (kr : xF) (kc : xF) (kl : (Nat → Int64)) (i5 : Int32) : f_L_loses lo (yy_0, yy_1, yy_2, yy_3, yy_4, yy_5, yy_6, yy_7, yy_8) (pp_0, pp_1, pp_2, pp_3, pp_4, pp_5, pp_6, pp_7, pp_8) (qq_0, qq_1, qq_2, qq_3, qq_4, qq_5, qq_6, qq_7, qq_8) ka kr kc kl i5 =
  Option.bind (f_L_asks lo (yy_0, yy_1, yy_2, yy_3, yy_4, yy_5, yy_6, yy_7, yy_8) (pp_0, pp_1, pp_2, pp_3, pp_4, pp_5, pp_6, pp_7, pp_8) (qq_0, qq_1, qq_2, qq_3, qq_4, qq_5, qq_6, qq_7, qq_8) ka kr kc (fun _ => (0 : Int32)) (fun _ => (0 : Int32)) (fun _ => (0 : Int32))) fun (o4 : xF × xF × xF) =>
  Option.bind (f_X2_lose lo (yy_0, yy_1, yy_2, yy_3, yy_4, yy_5, yy_6, yy_7, yy_8) (pp_0, pp_1, pp_2, pp_3, pp_4, pp_5, pp_6, pp_7, pp_8) (qq_0, qq_1, qq_2, qq_3, qq_4, qq_5, qq_6, qq_7, qq_8) i5) fun (o5 : Int32 × xF × xPL × xPL) =>
  Option.bind (f_L_loses_l44 yy_0 yy_1 yy_2 yy_3 yy_4 yy_5 yy_6 yy_7 yy_8 i5 o4 o5 300 (0 : Int32) (1 : Int32) (0 : Int32)) fun (w7 : Int32 × Int32) =>
  Option.bind (f_L_loses_l146 yy_0 yy_1 yy_2 yy_3 yy_4 yy_5 yy_6 yy_7 yy_8 i5 o4 o5 300 (0 : Int32) w7.1 w7.2) fun (w20 : Int32 × Int32) =>
  if (i5 / (50 : Int32)) < 0 ∨ 2 ≤ (i5 / (50 : Int32)).toNatClampNeg then none else
  if w20.1 = 0 then
    some ((0 : Int32), o5.2.1, o5.2.2.1, o5.2.2.2, (vp_updL kl (i5 / (50 : Int32)).toNatClampNeg ((kl (i5 / (50 : Int32)).toNatClampNeg) ||| ((1 : Int64) <<< ((i5 - i5 / (50 : Int32) * (50 : Int32)).toInt64 &&& 63)))))
  else
    if o5.1 = w20.2 then
      Option.bind (f_X2_on o5.2.1 (yy_0, yy_1, yy_2, yy_3, yy_4, yy_5, yy_6, yy_7, yy_8) o5.2.2.1 o5.2.2.2 i5) fun (o35 : Int32) =>
      if o35 = ((-1) : Int32) then
        some ((1 : Int32), o5.2.1, o5.2.2.1, o5.2.2.2, (vp_updL kl (i5 / (50 : Int32)).toNatClampNeg ((kl (i5 / (50 : Int32)).toNatClampNeg) ||| ((1 : Int64) <<< ((i5 - i5 / (50 : Int32) * (50 : Int32)).toInt64 &&& 63)))))
      else
        some ((0 : Int32), o5.2.1, o5.2.2.1, o5.2.2.2, (vp_updL kl (i5 / (50 : Int32)).toNatClampNeg ((kl (i5 / (50 : Int32)).toNatClampNeg) ||| ((1 : Int64) <<< ((i5 - i5 / (50 : Int32) * (50 : Int32)).toInt64 &&& 63)))))
    else
      some ((0 : Int32), o5.2.1, o5.2.2.1, o5.2.2.2, (vp_updL kl (i5 / (50 : Int32)).toNatClampNeg ((kl (i5 / (50 : Int32)).toNatClampNeg) ||| ((1 : Int64) <<< ((i5 - i5 / (50 : Int32) * (50 : Int32)).toInt64 &&& 63))))) := rfl
def f_L_draw (L9 : Nat) (xs : xF) (i1 : Int32) (i2 : Int32) : Option (Int32) :=
  Option.bind (
    if (nI L9) ≤ i1 then
      some (((735692263 : Int32) * (i1 + (107 : Int32))) + (1552020391 : Int32))
    else
      if i1 < 0 ∨ L9 ≤ i1.toNatClampNeg then none else
      some (xs i1.toNatClampNeg)) fun (v1 : Int32) =>
  if i2 = 0 then none else
  some ((v1 &&& (2147483647 : Int32)) - (v1 &&& (2147483647 : Int32)) / i2 * i2)
theorem f_L_draw_e (L9 : Nat) (xs : xF) (i1 : Int32) (i2 : Int32) : f_L_draw L9 xs i1 i2 =
  Option.bind (
    if (nI L9) ≤ i1 then
      some (((735692263 : Int32) * (i1 + (107 : Int32))) + (1552020391 : Int32))
    else
      if i1 < 0 ∨ L9 ≤ i1.toNatClampNeg then none else
      some (xs i1.toNatClampNeg)) fun (v1 : Int32) =>
  if i2 = 0 then none else
  some ((v1 &&& (2147483647 : Int32)) - (v1 &&& (2147483647 : Int32)) / i2 * i2) := rfl
def f_L_needs (lo : xF) (yy : xSY) (pp : xPL) (qq : xPL) (i1 : Int32) (i2 : Int32) : Option (Int32 × xF × xF × xPL × xPL) :=
  Option.bind (f_X2_need lo (yy.1, yy.2.1, yy.2.2.1, yy.2.2.2.1, yy.2.2.2.2.1, yy.2.2.2.2.2.1, yy.2.2.2.2.2.2.1, yy.2.2.2.2.2.2.2.1, yy.2.2.2.2.2.2.2.2) (pp.1, pp.2.1, pp.2.2.1, pp.2.2.2.1, pp.2.2.2.2.1, pp.2.2.2.2.2.1, pp.2.2.2.2.2.2.1, pp.2.2.2.2.2.2.2.1, pp.2.2.2.2.2.2.2.2) (qq.1, qq.2.1, qq.2.2.1, qq.2.2.2.1, qq.2.2.2.2.1, qq.2.2.2.2.2.1, qq.2.2.2.2.2.2.1, qq.2.2.2.2.2.2.2.1, qq.2.2.2.2.2.2.2.2) i1 i2) fun (o1 : Nat × Int32 × xF × xF × xPL × xPL) =>
  if o1.1 = 0 then
    some (o1.2.1, o1.2.2.1, o1.2.2.2.1, o1.2.2.2.2.1, o1.2.2.2.2.2)
  else
    if o1.1 = 2 then
      some (((-8) : Int32), yy.2.2.2.2.2.2.2.1, yy.2.2.2.2.2.2.2.2, (pp.1, pp.2.1, pp.2.2.1, pp.2.2.2.1, pp.2.2.2.2.1, pp.2.2.2.2.2.1, pp.2.2.2.2.2.2.1, pp.2.2.2.2.2.2.2.1, pp.2.2.2.2.2.2.2.2), (qq.1, qq.2.1, qq.2.2.1, qq.2.2.2.1, qq.2.2.2.2.1, qq.2.2.2.2.2.1, qq.2.2.2.2.2.2.1, qq.2.2.2.2.2.2.2.1, qq.2.2.2.2.2.2.2.2))
    else
      none
theorem f_L_needs_e (lo : xF) (yy_0 : Int32) (yy_1 : xF) (yy_2 : xF) (yy_3 : xF) (yy_4 : xF) (yy_5 : xF) (yy_6 : xF) (yy_7 : xF) (yy_8 : xF) (pp_0 : xF) (pp_1 : xF) (pp_2 : xF) (pp_3 : xF) (pp_4 : xF) (pp_5 : xF) (pp_6 : Int32) (pp_7 : Int32) (pp_8 : Int32) (qq_0 : xF) (qq_1 : xF) (qq_2 : xF) (qq_3 : xF) (qq_4 : xF) (qq_5 : xF) (qq_6 : Int32) (qq_7 : Int32) (qq_8 : Int32) (i1 : Int32) (i2 : Int32) : f_L_needs lo (yy_0, yy_1, yy_2, yy_3, yy_4, yy_5, yy_6, yy_7, yy_8) (pp_0, pp_1, pp_2, pp_3, pp_4, pp_5, pp_6, pp_7, pp_8) (qq_0, qq_1, qq_2, qq_3, qq_4, qq_5, qq_6, qq_7, qq_8) i1 i2 =
  Option.bind (f_X2_need lo (yy_0, yy_1, yy_2, yy_3, yy_4, yy_5, yy_6, yy_7, yy_8) (pp_0, pp_1, pp_2, pp_3, pp_4, pp_5, pp_6, pp_7, pp_8) (qq_0, qq_1, qq_2, qq_3, qq_4, qq_5, qq_6, qq_7, qq_8) i1 i2) fun (o1 : Nat × Int32 × xF × xF × xPL × xPL) =>
  if o1.1 = 0 then
    some (o1.2.1, o1.2.2.1, o1.2.2.2.1, o1.2.2.2.2.1, o1.2.2.2.2.2)
  else
    if o1.1 = 2 then
      some (((-8) : Int32), yy_7, yy_8, (pp_0, pp_1, pp_2, pp_3, pp_4, pp_5, pp_6, pp_7, pp_8), (qq_0, qq_1, qq_2, qq_3, qq_4, qq_5, qq_6, qq_7, qq_8))
    else
      none := rfl
def f_L_frees (lo : xF) (yy : xSY) (pp : xPL) (qq : xPL) (i1 : Int32) (i2 : Int32) : Option (Int32 × xF × xF × xPL × xPL) :=
  Option.bind (f_X2_free lo (yy.1, yy.2.1, yy.2.2.1, yy.2.2.2.1, yy.2.2.2.2.1, yy.2.2.2.2.2.1, yy.2.2.2.2.2.2.1, yy.2.2.2.2.2.2.2.1, yy.2.2.2.2.2.2.2.2) (pp.1, pp.2.1, pp.2.2.1, pp.2.2.2.1, pp.2.2.2.2.1, pp.2.2.2.2.2.1, pp.2.2.2.2.2.2.1, pp.2.2.2.2.2.2.2.1, pp.2.2.2.2.2.2.2.2) (qq.1, qq.2.1, qq.2.2.1, qq.2.2.2.1, qq.2.2.2.2.1, qq.2.2.2.2.2.1, qq.2.2.2.2.2.2.1, qq.2.2.2.2.2.2.2.1, qq.2.2.2.2.2.2.2.2) i1 i2) fun (o1 : Nat × Int32 × xF × xF × xPL × xPL) =>
  if o1.1 = 0 then
    some (o1.2.1, o1.2.2.1, o1.2.2.2.1, o1.2.2.2.2.1, o1.2.2.2.2.2)
  else
    if o1.1 = 4 then
      some (((-9) : Int32), yy.2.2.2.2.2.2.2.1, yy.2.2.2.2.2.2.2.2, (pp.1, pp.2.1, pp.2.2.1, pp.2.2.2.1, pp.2.2.2.2.1, pp.2.2.2.2.2.1, pp.2.2.2.2.2.2.1, pp.2.2.2.2.2.2.2.1, pp.2.2.2.2.2.2.2.2), (qq.1, qq.2.1, qq.2.2.1, qq.2.2.2.1, qq.2.2.2.2.1, qq.2.2.2.2.2.1, qq.2.2.2.2.2.2.1, qq.2.2.2.2.2.2.2.1, qq.2.2.2.2.2.2.2.2))
    else
      none
theorem f_L_frees_e (lo : xF) (yy_0 : Int32) (yy_1 : xF) (yy_2 : xF) (yy_3 : xF) (yy_4 : xF) (yy_5 : xF) (yy_6 : xF) (yy_7 : xF) (yy_8 : xF) (pp_0 : xF) (pp_1 : xF) (pp_2 : xF) (pp_3 : xF) (pp_4 : xF) (pp_5 : xF) (pp_6 : Int32) (pp_7 : Int32) (pp_8 : Int32) (qq_0 : xF) (qq_1 : xF) (qq_2 : xF) (qq_3 : xF) (qq_4 : xF) (qq_5 : xF) (qq_6 : Int32) (qq_7 : Int32) (qq_8 : Int32) (i1 : Int32) (i2 : Int32) : f_L_frees lo (yy_0, yy_1, yy_2, yy_3, yy_4, yy_5, yy_6, yy_7, yy_8) (pp_0, pp_1, pp_2, pp_3, pp_4, pp_5, pp_6, pp_7, pp_8) (qq_0, qq_1, qq_2, qq_3, qq_4, qq_5, qq_6, qq_7, qq_8) i1 i2 =
  Option.bind (f_X2_free lo (yy_0, yy_1, yy_2, yy_3, yy_4, yy_5, yy_6, yy_7, yy_8) (pp_0, pp_1, pp_2, pp_3, pp_4, pp_5, pp_6, pp_7, pp_8) (qq_0, qq_1, qq_2, qq_3, qq_4, qq_5, qq_6, qq_7, qq_8) i1 i2) fun (o1 : Nat × Int32 × xF × xF × xPL × xPL) =>
  if o1.1 = 0 then
    some (o1.2.1, o1.2.2.1, o1.2.2.2.1, o1.2.2.2.2.1, o1.2.2.2.2.2)
  else
    if o1.1 = 4 then
      some (((-9) : Int32), yy_7, yy_8, (pp_0, pp_1, pp_2, pp_3, pp_4, pp_5, pp_6, pp_7, pp_8), (qq_0, qq_1, qq_2, qq_3, qq_4, qq_5, qq_6, qq_7, qq_8))
    else
      none := rfl
def f_L_step (lo : xF) (yy : xSY) (pp : xPL) (qq : xPL) (ka : xF) (kr : xF) (kc : xF) (kl : (Nat → Int64)) (i1 : Int32) (i2 : Int32) (i3 : Int32) : Option (Int32 × xF × xSY × xPL × xPL × xF × xF × xF × (Nat → Int64)) :=
  if i1 < (3 : Int32) then
    if (kc (0 : Int32).toNatClampNeg) = (12 : Int32) then
      some ((1 : Int32), lo, (yy.1, yy.2.1, yy.2.2.1, yy.2.2.2.1, yy.2.2.2.2.1, yy.2.2.2.2.2.1, yy.2.2.2.2.2.2.1, yy.2.2.2.2.2.2.2.1, yy.2.2.2.2.2.2.2.2), (pp.1, pp.2.1, pp.2.2.1, pp.2.2.2.1, pp.2.2.2.2.1, pp.2.2.2.2.2.1, pp.2.2.2.2.2.2.1, pp.2.2.2.2.2.2.2.1, pp.2.2.2.2.2.2.2.2), (qq.1, qq.2.1, qq.2.2.1, qq.2.2.2.1, qq.2.2.2.2.1, qq.2.2.2.2.2.1, qq.2.2.2.2.2.2.1, qq.2.2.2.2.2.2.2.1, qq.2.2.2.2.2.2.2.2), ka, kr, kc, kl)
    else
      if ((5 : Int32) * (kc (0 : Int32).toNatClampNeg)) < 0 ∨ 60 ≤ ((5 : Int32) * (kc (0 : Int32).toNatClampNeg)).toNatClampNeg then none else
      if (((5 : Int32) * (kc (0 : Int32).toNatClampNeg)) + (1 : Int32)) < 0 ∨ 60 ≤ (((5 : Int32) * (kc (0 : Int32).toNatClampNeg)) + (1 : Int32)).toNatClampNeg then none else
      Option.bind (
        if (i3 - i3 / (3 : Int32) * (3 : Int32)) = 0 then
          some (99 : Int32)
        else
          some (20 : Int32)) fun (v5 : Int32) =>
      if v5 = 0 then none else
      if (((5 : Int32) * (kc (0 : Int32).toNatClampNeg)) + (2 : Int32)) < 0 ∨ 60 ≤ (((5 : Int32) * (kc (0 : Int32).toNatClampNeg)) + (2 : Int32)).toNatClampNeg then none else
      if (((5 : Int32) * (kc (0 : Int32).toNatClampNeg)) + (3 : Int32)) < 0 ∨ 60 ≤ (((5 : Int32) * (kc (0 : Int32).toNatClampNeg)) + (3 : Int32)).toNatClampNeg then none else
      if (((2 : Int32) * (kc (0 : Int32).toNatClampNeg)) + (1 : Int32)) < 0 ∨ 24 ≤ (((2 : Int32) * (kc (0 : Int32).toNatClampNeg)) + (1 : Int32)).toNatClampNeg then none else
      Option.bind (f_X2_aim lo (yy.1, yy.2.1, yy.2.2.1, yy.2.2.2.1, yy.2.2.2.2.1, yy.2.2.2.2.2.1, yy.2.2.2.2.2.2.1, yy.2.2.2.2.2.2.2.1, yy.2.2.2.2.2.2.2.2) (pp.1, pp.2.1, pp.2.2.1, pp.2.2.2.1, pp.2.2.2.2.1, pp.2.2.2.2.2.1, pp.2.2.2.2.2.2.1, pp.2.2.2.2.2.2.2.1, pp.2.2.2.2.2.2.2.2) (qq.1, qq.2.1, qq.2.2.1, qq.2.2.2.1, qq.2.2.2.2.1, qq.2.2.2.2.2.1, qq.2.2.2.2.2.2.1, qq.2.2.2.2.2.2.2.1, qq.2.2.2.2.2.2.2.2) ((upd (upd (upd (upd ka ((5 : Int32) * (kc (0 : Int32).toNatClampNeg)).toNatClampNeg ((1 : Int32) + (i2 - i2 / (5 : Int32) * (5 : Int32)))) (((5 : Int32) * (kc (0 : Int32).toNatClampNeg)) + (1 : Int32)).toNatClampNeg ((i2 / (5 : Int32)) - (i2 / (5 : Int32)) / (3 : Int32) * (3 : Int32))) (((5 : Int32) * (kc (0 : Int32).toNatClampNeg)) + (2 : Int32)).toNatClampNeg ((1 : Int32) + (i3 - i3 / v5 * v5))) (((5 : Int32) * (kc (0 : Int32).toNatClampNeg)) + (3 : Int32)).toNatClampNeg (((i2 / (15 : Int32)) - (i2 / (15 : Int32)) / (4 : Int32) * (4 : Int32)) - (1 : Int32))) ((5 : Int32) * (kc (0 : Int32).toNatClampNeg)).toNatClampNeg) ((upd (upd (upd (upd ka ((5 : Int32) * (kc (0 : Int32).toNatClampNeg)).toNatClampNeg ((1 : Int32) + (i2 - i2 / (5 : Int32) * (5 : Int32)))) (((5 : Int32) * (kc (0 : Int32).toNatClampNeg)) + (1 : Int32)).toNatClampNeg ((i2 / (5 : Int32)) - (i2 / (5 : Int32)) / (3 : Int32) * (3 : Int32))) (((5 : Int32) * (kc (0 : Int32).toNatClampNeg)) + (2 : Int32)).toNatClampNeg ((1 : Int32) + (i3 - i3 / v5 * v5))) (((5 : Int32) * (kc (0 : Int32).toNatClampNeg)) + (3 : Int32)).toNatClampNeg (((i2 / (15 : Int32)) - (i2 / (15 : Int32)) / (4 : Int32) * (4 : Int32)) - (1 : Int32))) (((5 : Int32) * (kc (0 : Int32).toNatClampNeg)) + (1 : Int32)).toNatClampNeg) ((upd (upd (upd (upd ka ((5 : Int32) * (kc (0 : Int32).toNatClampNeg)).toNatClampNeg ((1 : Int32) + (i2 - i2 / (5 : Int32) * (5 : Int32)))) (((5 : Int32) * (kc (0 : Int32).toNatClampNeg)) + (1 : Int32)).toNatClampNeg ((i2 / (5 : Int32)) - (i2 / (5 : Int32)) / (3 : Int32) * (3 : Int32))) (((5 : Int32) * (kc (0 : Int32).toNatClampNeg)) + (2 : Int32)).toNatClampNeg ((1 : Int32) + (i3 - i3 / v5 * v5))) (((5 : Int32) * (kc (0 : Int32).toNatClampNeg)) + (3 : Int32)).toNatClampNeg (((i2 / (15 : Int32)) - (i2 / (15 : Int32)) / (4 : Int32) * (4 : Int32)) - (1 : Int32))) (((5 : Int32) * (kc (0 : Int32).toNatClampNeg)) + (2 : Int32)).toNatClampNeg) ((upd (upd (upd (upd ka ((5 : Int32) * (kc (0 : Int32).toNatClampNeg)).toNatClampNeg ((1 : Int32) + (i2 - i2 / (5 : Int32) * (5 : Int32)))) (((5 : Int32) * (kc (0 : Int32).toNatClampNeg)) + (1 : Int32)).toNatClampNeg ((i2 / (5 : Int32)) - (i2 / (5 : Int32)) / (3 : Int32) * (3 : Int32))) (((5 : Int32) * (kc (0 : Int32).toNatClampNeg)) + (2 : Int32)).toNatClampNeg ((1 : Int32) + (i3 - i3 / v5 * v5))) (((5 : Int32) * (kc (0 : Int32).toNatClampNeg)) + (3 : Int32)).toNatClampNeg (((i2 / (15 : Int32)) - (i2 / (15 : Int32)) / (4 : Int32) * (4 : Int32)) - (1 : Int32))) (((5 : Int32) * (kc (0 : Int32).toNatClampNeg)) + (3 : Int32)).toNatClampNeg)) fun (o10 : Int32 × Int32 × xF × xF × xF × xF × xF × xF × xPL × xPL) =>
      if o10.1 = (((upd kc (0 : Int32).toNatClampNeg ((kc (0 : Int32).toNatClampNeg) + (1 : Int32))) (0 : Int32).toNatClampNeg) - (1 : Int32)) then
        some ((1 : Int32), lo, (o10.2.1, o10.2.2.1, o10.2.2.2.1, o10.2.2.2.2.1, o10.2.2.2.2.2.1, yy.2.2.2.2.2.1, o10.2.2.2.2.2.2.1, yy.2.2.2.2.2.2.2.1, o10.2.2.2.2.2.2.2.1), o10.2.2.2.2.2.2.2.2.1, o10.2.2.2.2.2.2.2.2.2, (upd (upd (upd (upd ka ((5 : Int32) * (kc (0 : Int32).toNatClampNeg)).toNatClampNeg ((1 : Int32) + (i2 - i2 / (5 : Int32) * (5 : Int32)))) (((5 : Int32) * (kc (0 : Int32).toNatClampNeg)) + (1 : Int32)).toNatClampNeg ((i2 / (5 : Int32)) - (i2 / (5 : Int32)) / (3 : Int32) * (3 : Int32))) (((5 : Int32) * (kc (0 : Int32).toNatClampNeg)) + (2 : Int32)).toNatClampNeg ((1 : Int32) + (i3 - i3 / v5 * v5))) (((5 : Int32) * (kc (0 : Int32).toNatClampNeg)) + (3 : Int32)).toNatClampNeg (((i2 / (15 : Int32)) - (i2 / (15 : Int32)) / (4 : Int32) * (4 : Int32)) - (1 : Int32))), (upd kr (((2 : Int32) * (kc (0 : Int32).toNatClampNeg)) + (1 : Int32)).toNatClampNeg (1 : Int32)), (upd kc (0 : Int32).toNatClampNeg ((kc (0 : Int32).toNatClampNeg) + (1 : Int32))), kl)
      else
        some ((0 : Int32), lo, (o10.2.1, o10.2.2.1, o10.2.2.2.1, o10.2.2.2.2.1, o10.2.2.2.2.2.1, yy.2.2.2.2.2.1, o10.2.2.2.2.2.2.1, yy.2.2.2.2.2.2.2.1, o10.2.2.2.2.2.2.2.1), o10.2.2.2.2.2.2.2.2.1, o10.2.2.2.2.2.2.2.2.2, (upd (upd (upd (upd ka ((5 : Int32) * (kc (0 : Int32).toNatClampNeg)).toNatClampNeg ((1 : Int32) + (i2 - i2 / (5 : Int32) * (5 : Int32)))) (((5 : Int32) * (kc (0 : Int32).toNatClampNeg)) + (1 : Int32)).toNatClampNeg ((i2 / (5 : Int32)) - (i2 / (5 : Int32)) / (3 : Int32) * (3 : Int32))) (((5 : Int32) * (kc (0 : Int32).toNatClampNeg)) + (2 : Int32)).toNatClampNeg ((1 : Int32) + (i3 - i3 / v5 * v5))) (((5 : Int32) * (kc (0 : Int32).toNatClampNeg)) + (3 : Int32)).toNatClampNeg (((i2 / (15 : Int32)) - (i2 / (15 : Int32)) / (4 : Int32) * (4 : Int32)) - (1 : Int32))), (upd kr (((2 : Int32) * (kc (0 : Int32).toNatClampNeg)) + (1 : Int32)).toNatClampNeg (1 : Int32)), (upd kc (0 : Int32).toNatClampNeg ((kc (0 : Int32).toNatClampNeg) + (1 : Int32))), kl)
  else
    if (kc (0 : Int32).toNatClampNeg) = 0 then
      if (kc (0 : Int32).toNatClampNeg) = (12 : Int32) then
        some ((1 : Int32), lo, (yy.1, yy.2.1, yy.2.2.1, yy.2.2.2.1, yy.2.2.2.2.1, yy.2.2.2.2.2.1, yy.2.2.2.2.2.2.1, yy.2.2.2.2.2.2.2.1, yy.2.2.2.2.2.2.2.2), (pp.1, pp.2.1, pp.2.2.1, pp.2.2.2.1, pp.2.2.2.2.1, pp.2.2.2.2.2.1, pp.2.2.2.2.2.2.1, pp.2.2.2.2.2.2.2.1, pp.2.2.2.2.2.2.2.2), (qq.1, qq.2.1, qq.2.2.1, qq.2.2.2.1, qq.2.2.2.2.1, qq.2.2.2.2.2.1, qq.2.2.2.2.2.2.1, qq.2.2.2.2.2.2.2.1, qq.2.2.2.2.2.2.2.2), ka, kr, kc, kl)
      else
        if ((5 : Int32) * (kc (0 : Int32).toNatClampNeg)) < 0 ∨ 60 ≤ ((5 : Int32) * (kc (0 : Int32).toNatClampNeg)).toNatClampNeg then none else
        if (((5 : Int32) * (kc (0 : Int32).toNatClampNeg)) + (1 : Int32)) < 0 ∨ 60 ≤ (((5 : Int32) * (kc (0 : Int32).toNatClampNeg)) + (1 : Int32)).toNatClampNeg then none else
        Option.bind (
          if (i3 - i3 / (3 : Int32) * (3 : Int32)) = 0 then
            some (99 : Int32)
          else
            some (20 : Int32)) fun (v57 : Int32) =>
        if v57 = 0 then none else
        if (((5 : Int32) * (kc (0 : Int32).toNatClampNeg)) + (2 : Int32)) < 0 ∨ 60 ≤ (((5 : Int32) * (kc (0 : Int32).toNatClampNeg)) + (2 : Int32)).toNatClampNeg then none else
        if (((5 : Int32) * (kc (0 : Int32).toNatClampNeg)) + (3 : Int32)) < 0 ∨ 60 ≤ (((5 : Int32) * (kc (0 : Int32).toNatClampNeg)) + (3 : Int32)).toNatClampNeg then none else
        if (((2 : Int32) * (kc (0 : Int32).toNatClampNeg)) + (1 : Int32)) < 0 ∨ 24 ≤ (((2 : Int32) * (kc (0 : Int32).toNatClampNeg)) + (1 : Int32)).toNatClampNeg then none else
        Option.bind (f_X2_aim lo (yy.1, yy.2.1, yy.2.2.1, yy.2.2.2.1, yy.2.2.2.2.1, yy.2.2.2.2.2.1, yy.2.2.2.2.2.2.1, yy.2.2.2.2.2.2.2.1, yy.2.2.2.2.2.2.2.2) (pp.1, pp.2.1, pp.2.2.1, pp.2.2.2.1, pp.2.2.2.2.1, pp.2.2.2.2.2.1, pp.2.2.2.2.2.2.1, pp.2.2.2.2.2.2.2.1, pp.2.2.2.2.2.2.2.2) (qq.1, qq.2.1, qq.2.2.1, qq.2.2.2.1, qq.2.2.2.2.1, qq.2.2.2.2.2.1, qq.2.2.2.2.2.2.1, qq.2.2.2.2.2.2.2.1, qq.2.2.2.2.2.2.2.2) ((upd (upd (upd (upd ka ((5 : Int32) * (kc (0 : Int32).toNatClampNeg)).toNatClampNeg ((1 : Int32) + (i2 - i2 / (5 : Int32) * (5 : Int32)))) (((5 : Int32) * (kc (0 : Int32).toNatClampNeg)) + (1 : Int32)).toNatClampNeg ((i2 / (5 : Int32)) - (i2 / (5 : Int32)) / (3 : Int32) * (3 : Int32))) (((5 : Int32) * (kc (0 : Int32).toNatClampNeg)) + (2 : Int32)).toNatClampNeg ((1 : Int32) + (i3 - i3 / v57 * v57))) (((5 : Int32) * (kc (0 : Int32).toNatClampNeg)) + (3 : Int32)).toNatClampNeg (((i2 / (15 : Int32)) - (i2 / (15 : Int32)) / (4 : Int32) * (4 : Int32)) - (1 : Int32))) ((5 : Int32) * (kc (0 : Int32).toNatClampNeg)).toNatClampNeg) ((upd (upd (upd (upd ka ((5 : Int32) * (kc (0 : Int32).toNatClampNeg)).toNatClampNeg ((1 : Int32) + (i2 - i2 / (5 : Int32) * (5 : Int32)))) (((5 : Int32) * (kc (0 : Int32).toNatClampNeg)) + (1 : Int32)).toNatClampNeg ((i2 / (5 : Int32)) - (i2 / (5 : Int32)) / (3 : Int32) * (3 : Int32))) (((5 : Int32) * (kc (0 : Int32).toNatClampNeg)) + (2 : Int32)).toNatClampNeg ((1 : Int32) + (i3 - i3 / v57 * v57))) (((5 : Int32) * (kc (0 : Int32).toNatClampNeg)) + (3 : Int32)).toNatClampNeg (((i2 / (15 : Int32)) - (i2 / (15 : Int32)) / (4 : Int32) * (4 : Int32)) - (1 : Int32))) (((5 : Int32) * (kc (0 : Int32).toNatClampNeg)) + (1 : Int32)).toNatClampNeg) ((upd (upd (upd (upd ka ((5 : Int32) * (kc (0 : Int32).toNatClampNeg)).toNatClampNeg ((1 : Int32) + (i2 - i2 / (5 : Int32) * (5 : Int32)))) (((5 : Int32) * (kc (0 : Int32).toNatClampNeg)) + (1 : Int32)).toNatClampNeg ((i2 / (5 : Int32)) - (i2 / (5 : Int32)) / (3 : Int32) * (3 : Int32))) (((5 : Int32) * (kc (0 : Int32).toNatClampNeg)) + (2 : Int32)).toNatClampNeg ((1 : Int32) + (i3 - i3 / v57 * v57))) (((5 : Int32) * (kc (0 : Int32).toNatClampNeg)) + (3 : Int32)).toNatClampNeg (((i2 / (15 : Int32)) - (i2 / (15 : Int32)) / (4 : Int32) * (4 : Int32)) - (1 : Int32))) (((5 : Int32) * (kc (0 : Int32).toNatClampNeg)) + (2 : Int32)).toNatClampNeg) ((upd (upd (upd (upd ka ((5 : Int32) * (kc (0 : Int32).toNatClampNeg)).toNatClampNeg ((1 : Int32) + (i2 - i2 / (5 : Int32) * (5 : Int32)))) (((5 : Int32) * (kc (0 : Int32).toNatClampNeg)) + (1 : Int32)).toNatClampNeg ((i2 / (5 : Int32)) - (i2 / (5 : Int32)) / (3 : Int32) * (3 : Int32))) (((5 : Int32) * (kc (0 : Int32).toNatClampNeg)) + (2 : Int32)).toNatClampNeg ((1 : Int32) + (i3 - i3 / v57 * v57))) (((5 : Int32) * (kc (0 : Int32).toNatClampNeg)) + (3 : Int32)).toNatClampNeg (((i2 / (15 : Int32)) - (i2 / (15 : Int32)) / (4 : Int32) * (4 : Int32)) - (1 : Int32))) (((5 : Int32) * (kc (0 : Int32).toNatClampNeg)) + (3 : Int32)).toNatClampNeg)) fun (o62 : Int32 × Int32 × xF × xF × xF × xF × xF × xF × xPL × xPL) =>
        if o62.1 = (((upd kc (0 : Int32).toNatClampNeg ((kc (0 : Int32).toNatClampNeg) + (1 : Int32))) (0 : Int32).toNatClampNeg) - (1 : Int32)) then
          some ((1 : Int32), lo, (o62.2.1, o62.2.2.1, o62.2.2.2.1, o62.2.2.2.2.1, o62.2.2.2.2.2.1, yy.2.2.2.2.2.1, o62.2.2.2.2.2.2.1, yy.2.2.2.2.2.2.2.1, o62.2.2.2.2.2.2.2.1), o62.2.2.2.2.2.2.2.2.1, o62.2.2.2.2.2.2.2.2.2, (upd (upd (upd (upd ka ((5 : Int32) * (kc (0 : Int32).toNatClampNeg)).toNatClampNeg ((1 : Int32) + (i2 - i2 / (5 : Int32) * (5 : Int32)))) (((5 : Int32) * (kc (0 : Int32).toNatClampNeg)) + (1 : Int32)).toNatClampNeg ((i2 / (5 : Int32)) - (i2 / (5 : Int32)) / (3 : Int32) * (3 : Int32))) (((5 : Int32) * (kc (0 : Int32).toNatClampNeg)) + (2 : Int32)).toNatClampNeg ((1 : Int32) + (i3 - i3 / v57 * v57))) (((5 : Int32) * (kc (0 : Int32).toNatClampNeg)) + (3 : Int32)).toNatClampNeg (((i2 / (15 : Int32)) - (i2 / (15 : Int32)) / (4 : Int32) * (4 : Int32)) - (1 : Int32))), (upd kr (((2 : Int32) * (kc (0 : Int32).toNatClampNeg)) + (1 : Int32)).toNatClampNeg (1 : Int32)), (upd kc (0 : Int32).toNatClampNeg ((kc (0 : Int32).toNatClampNeg) + (1 : Int32))), kl)
        else
          some ((0 : Int32), lo, (o62.2.1, o62.2.2.1, o62.2.2.2.1, o62.2.2.2.2.1, o62.2.2.2.2.2.1, yy.2.2.2.2.2.1, o62.2.2.2.2.2.2.1, yy.2.2.2.2.2.2.2.1, o62.2.2.2.2.2.2.2.1), o62.2.2.2.2.2.2.2.2.1, o62.2.2.2.2.2.2.2.2.2, (upd (upd (upd (upd ka ((5 : Int32) * (kc (0 : Int32).toNatClampNeg)).toNatClampNeg ((1 : Int32) + (i2 - i2 / (5 : Int32) * (5 : Int32)))) (((5 : Int32) * (kc (0 : Int32).toNatClampNeg)) + (1 : Int32)).toNatClampNeg ((i2 / (5 : Int32)) - (i2 / (5 : Int32)) / (3 : Int32) * (3 : Int32))) (((5 : Int32) * (kc (0 : Int32).toNatClampNeg)) + (2 : Int32)).toNatClampNeg ((1 : Int32) + (i3 - i3 / v57 * v57))) (((5 : Int32) * (kc (0 : Int32).toNatClampNeg)) + (3 : Int32)).toNatClampNeg (((i2 / (15 : Int32)) - (i2 / (15 : Int32)) / (4 : Int32) * (4 : Int32)) - (1 : Int32))), (upd kr (((2 : Int32) * (kc (0 : Int32).toNatClampNeg)) + (1 : Int32)).toNatClampNeg (1 : Int32)), (upd kc (0 : Int32).toNatClampNeg ((kc (0 : Int32).toNatClampNeg) + (1 : Int32))), kl)
    else
      if (kc (0 : Int32).toNatClampNeg) = 0 then none else
      if (7 : Int32) ≤ i1 then
        if i1 = (7 : Int32) then
          if (((5 : Int32) * (i2 - i2 / (kc (0 : Int32).toNatClampNeg) * (kc (0 : Int32).toNatClampNeg))) + (4 : Int32)) < 0 ∨ 60 ≤ (((5 : Int32) * (i2 - i2 / (kc (0 : Int32).toNatClampNeg) * (kc (0 : Int32).toNatClampNeg))) + (4 : Int32)).toNatClampNeg then none else
          Option.bind (f_L_isIn (ka (((5 : Int32) * (i2 - i2 / (kc (0 : Int32).toNatClampNeg) * (kc (0 : Int32).toNatClampNeg))) + (4 : Int32)).toNatClampNeg) (i3 - i3 / (kc (0 : Int32).toNatClampNeg) * (kc (0 : Int32).toNatClampNeg))) fun (o33 : Int32) =>
          Option.bind (f_L_frees lo (yy.1, yy.2.1, yy.2.2.1, yy.2.2.2.1, yy.2.2.2.2.1, yy.2.2.2.2.2.1, yy.2.2.2.2.2.2.1, yy.2.2.2.2.2.2.2.1, yy.2.2.2.2.2.2.2.2) (pp.1, pp.2.1, pp.2.2.1, pp.2.2.2.1, pp.2.2.2.2.1, pp.2.2.2.2.2.1, pp.2.2.2.2.2.2.1, pp.2.2.2.2.2.2.2.1, pp.2.2.2.2.2.2.2.2) (qq.1, qq.2.1, qq.2.2.1, qq.2.2.2.1, qq.2.2.2.2.1, qq.2.2.2.2.2.1, qq.2.2.2.2.2.2.1, qq.2.2.2.2.2.2.2.1, qq.2.2.2.2.2.2.2.2) (i2 - i2 / (kc (0 : Int32).toNatClampNeg) * (kc (0 : Int32).toNatClampNeg)) (i3 - i3 / (kc (0 : Int32).toNatClampNeg) * (kc (0 : Int32).toNatClampNeg))) fun (o34 : Int32 × xF × xF × xPL × xPL) =>
          Option.bind (
            if o33 = 0 then
              some ((-9) : Int32)
            else
              Option.bind (f_L_size ((upd ka (((5 : Int32) * (i2 - i2 / (kc (0 : Int32).toNatClampNeg) * (kc (0 : Int32).toNatClampNeg))) + (4 : Int32)).toNatClampNeg ((ka (((5 : Int32) * (i2 - i2 / (kc (0 : Int32).toNatClampNeg) * (kc (0 : Int32).toNatClampNeg))) + (4 : Int32)).toNatClampNeg) &&& (((1 : Int32) <<< ((i3 - i3 / (kc (0 : Int32).toNatClampNeg) * (kc (0 : Int32).toNatClampNeg)) &&& 31)) ^^^ ((-1) : Int32)))) (((5 : Int32) * (i2 - i2 / (kc (0 : Int32).toNatClampNeg) * (kc (0 : Int32).toNatClampNeg))) + (4 : Int32)).toNatClampNeg)) fun (o38 : Int32) =>
              some o38) fun (v35 : Int32) =>
          if o34.1 = v35 then
            some ((1 : Int32), lo, (yy.1, yy.2.1, yy.2.2.1, yy.2.2.2.1, yy.2.2.2.2.1, yy.2.2.2.2.2.1, yy.2.2.2.2.2.2.1, o34.2.1, o34.2.2.1), o34.2.2.2.1, o34.2.2.2.2, (upd ka (((5 : Int32) * (i2 - i2 / (kc (0 : Int32).toNatClampNeg) * (kc (0 : Int32).toNatClampNeg))) + (4 : Int32)).toNatClampNeg ((ka (((5 : Int32) * (i2 - i2 / (kc (0 : Int32).toNatClampNeg) * (kc (0 : Int32).toNatClampNeg))) + (4 : Int32)).toNatClampNeg) &&& (((1 : Int32) <<< ((i3 - i3 / (kc (0 : Int32).toNatClampNeg) * (kc (0 : Int32).toNatClampNeg)) &&& 31)) ^^^ ((-1) : Int32)))), kr, kc, kl)
          else
            some ((0 : Int32), lo, (yy.1, yy.2.1, yy.2.2.1, yy.2.2.2.1, yy.2.2.2.2.1, yy.2.2.2.2.2.1, yy.2.2.2.2.2.2.1, o34.2.1, o34.2.2.1), o34.2.2.2.1, o34.2.2.2.2, (upd ka (((5 : Int32) * (i2 - i2 / (kc (0 : Int32).toNatClampNeg) * (kc (0 : Int32).toNatClampNeg))) + (4 : Int32)).toNatClampNeg ((ka (((5 : Int32) * (i2 - i2 / (kc (0 : Int32).toNatClampNeg) * (kc (0 : Int32).toNatClampNeg))) + (4 : Int32)).toNatClampNeg) &&& (((1 : Int32) <<< ((i3 - i3 / (kc (0 : Int32).toNatClampNeg) * (kc (0 : Int32).toNatClampNeg)) &&& 31)) ^^^ ((-1) : Int32)))), kr, kc, kl)
        else
          if (11 : Int32) ≤ i1 then
            Option.bind (
              if (i2 - i2 / (3 : Int32) * (3 : Int32)) = 0 then
                some (100 : Int32)
              else
                some (30 : Int32)) fun (v18 : Int32) =>
            if v18 = 0 then none else
            Option.bind (f_L_isLost kl (i3 - i3 / v18 * v18)) fun (o20 : Int32) =>
            if o20 = 0 then
              Option.bind (f_L_loses lo (yy.1, yy.2.1, yy.2.2.1, yy.2.2.2.1, yy.2.2.2.2.1, yy.2.2.2.2.2.1, yy.2.2.2.2.2.2.1, yy.2.2.2.2.2.2.2.1, yy.2.2.2.2.2.2.2.2) (pp.1, pp.2.1, pp.2.2.1, pp.2.2.2.1, pp.2.2.2.2.1, pp.2.2.2.2.2.1, pp.2.2.2.2.2.2.1, pp.2.2.2.2.2.2.2.1, pp.2.2.2.2.2.2.2.2) (qq.1, qq.2.1, qq.2.2.1, qq.2.2.2.1, qq.2.2.2.2.1, qq.2.2.2.2.2.1, qq.2.2.2.2.2.2.1, qq.2.2.2.2.2.2.2.1, qq.2.2.2.2.2.2.2.2) ka kr kc kl (i3 - i3 / v18 * v18)) fun (o22 : Int32 × xF × xPL × xPL × (Nat → Int64)) =>
              if o22.1 = 0 then
                some ((0 : Int32), o22.2.1, (yy.1, yy.2.1, yy.2.2.1, yy.2.2.2.1, yy.2.2.2.2.1, yy.2.2.2.2.2.1, yy.2.2.2.2.2.2.1, yy.2.2.2.2.2.2.2.1, yy.2.2.2.2.2.2.2.2), o22.2.2.1, o22.2.2.2.1, ka, kr, kc, o22.2.2.2.2)
              else
                some ((1 : Int32), o22.2.1, (yy.1, yy.2.1, yy.2.2.1, yy.2.2.2.1, yy.2.2.2.2.1, yy.2.2.2.2.2.1, yy.2.2.2.2.2.2.1, yy.2.2.2.2.2.2.2.1, yy.2.2.2.2.2.2.2.2), o22.2.2.1, o22.2.2.2.1, ka, kr, kc, o22.2.2.2.2)
            else
              some ((1 : Int32), lo, (yy.1, yy.2.1, yy.2.2.1, yy.2.2.2.1, yy.2.2.2.2.1, yy.2.2.2.2.2.1, yy.2.2.2.2.2.2.1, yy.2.2.2.2.2.2.2.1, yy.2.2.2.2.2.2.2.2), (pp.1, pp.2.1, pp.2.2.1, pp.2.2.2.1, pp.2.2.2.2.1, pp.2.2.2.2.2.1, pp.2.2.2.2.2.2.1, pp.2.2.2.2.2.2.2.1, pp.2.2.2.2.2.2.2.2), (qq.1, qq.2.1, qq.2.2.1, qq.2.2.2.1, qq.2.2.2.2.1, qq.2.2.2.2.2.1, qq.2.2.2.2.2.2.1, qq.2.2.2.2.2.2.2.1, qq.2.2.2.2.2.2.2.2), ka, kr, kc, kl)
          else
            if ((2 : Int32) * (i2 - i2 / (kc (0 : Int32).toNatClampNeg) * (kc (0 : Int32).toNatClampNeg))) < 0 ∨ 24 ≤ ((2 : Int32) * (i2 - i2 / (kc (0 : Int32).toNatClampNeg) * (kc (0 : Int32).toNatClampNeg))).toNatClampNeg then none else
            Option.bind (
              if (i2 - i2 / (3 : Int32) * (3 : Int32)) = 0 then
                some (20 : Int32)
              else
                some (6 : Int32)) fun (v26 : Int32) =>
            if v26 = 0 then none else
            if (((2 : Int32) * (i2 - i2 / (kc (0 : Int32).toNatClampNeg) * (kc (0 : Int32).toNatClampNeg))) + (1 : Int32)) < 0 ∨ 24 ≤ (((2 : Int32) * (i2 - i2 / (kc (0 : Int32).toNatClampNeg) * (kc (0 : Int32).toNatClampNeg))) + (1 : Int32)).toNatClampNeg then none else
            Option.bind (f_X2_revisits lo (yy.1, yy.2.1, yy.2.2.1, yy.2.2.2.1, yy.2.2.2.2.1, yy.2.2.2.2.2.1, yy.2.2.2.2.2.2.1, yy.2.2.2.2.2.2.2.1, yy.2.2.2.2.2.2.2.2) (pp.1, pp.2.1, pp.2.2.1, pp.2.2.2.1, pp.2.2.2.2.1, pp.2.2.2.2.2.1, pp.2.2.2.2.2.2.1, pp.2.2.2.2.2.2.2.1, pp.2.2.2.2.2.2.2.2) (qq.1, qq.2.1, qq.2.2.1, qq.2.2.2.1, qq.2.2.2.2.1, qq.2.2.2.2.2.1, qq.2.2.2.2.2.2.1, qq.2.2.2.2.2.2.2.1, qq.2.2.2.2.2.2.2.2) (i2 - i2 / (kc (0 : Int32).toNatClampNeg) * (kc (0 : Int32).toNatClampNeg)) ((upd (upd kr ((2 : Int32) * (i2 - i2 / (kc (0 : Int32).toNatClampNeg) * (kc (0 : Int32).toNatClampNeg))).toNatClampNeg (i3 - i3 / (4 : Int32) * (4 : Int32))) (((2 : Int32) * (i2 - i2 / (kc (0 : Int32).toNatClampNeg) * (kc (0 : Int32).toNatClampNeg))) + (1 : Int32)).toNatClampNeg ((1 : Int32) + ((i3 / (4 : Int32)) - (i3 / (4 : Int32)) / v26 * v26))) ((2 : Int32) * (i2 - i2 / (kc (0 : Int32).toNatClampNeg) * (kc (0 : Int32).toNatClampNeg))).toNatClampNeg) ((upd (upd kr ((2 : Int32) * (i2 - i2 / (kc (0 : Int32).toNatClampNeg) * (kc (0 : Int32).toNatClampNeg))).toNatClampNeg (i3 - i3 / (4 : Int32) * (4 : Int32))) (((2 : Int32) * (i2 - i2 / (kc (0 : Int32).toNatClampNeg) * (kc (0 : Int32).toNatClampNeg))) + (1 : Int32)).toNatClampNeg ((1 : Int32) + ((i3 / (4 : Int32)) - (i3 / (4 : Int32)) / v26 * v26))) (((2 : Int32) * (i2 - i2 / (kc (0 : Int32).toNatClampNeg) * (kc (0 : Int32).toNatClampNeg))) + (1 : Int32)).toNatClampNeg)) fun (o29 : Int32 × xF × xF × xPL × xPL) =>
            if o29.1 = (kr ((2 : Int32) * (i2 - i2 / (kc (0 : Int32).toNatClampNeg) * (kc (0 : Int32).toNatClampNeg))).toNatClampNeg) then
              some ((1 : Int32), lo, (yy.1, yy.2.1, yy.2.2.1, yy.2.2.2.1, yy.2.2.2.2.1, o29.2.1, o29.2.2.1, yy.2.2.2.2.2.2.2.1, yy.2.2.2.2.2.2.2.2), o29.2.2.2.1, o29.2.2.2.2, ka, (upd (upd kr ((2 : Int32) * (i2 - i2 / (kc (0 : Int32).toNatClampNeg) * (kc (0 : Int32).toNatClampNeg))).toNatClampNeg (i3 - i3 / (4 : Int32) * (4 : Int32))) (((2 : Int32) * (i2 - i2 / (kc (0 : Int32).toNatClampNeg) * (kc (0 : Int32).toNatClampNeg))) + (1 : Int32)).toNatClampNeg ((1 : Int32) + ((i3 / (4 : Int32)) - (i3 / (4 : Int32)) / v26 * v26))), kc, kl)
            else
              some ((0 : Int32), lo, (yy.1, yy.2.1, yy.2.2.1, yy.2.2.2.1, yy.2.2.2.2.1, o29.2.1, o29.2.2.1, yy.2.2.2.2.2.2.2.1, yy.2.2.2.2.2.2.2.2), o29.2.2.2.1, o29.2.2.2.2, ka, (upd (upd kr ((2 : Int32) * (i2 - i2 / (kc (0 : Int32).toNatClampNeg) * (kc (0 : Int32).toNatClampNeg))).toNatClampNeg (i3 - i3 / (4 : Int32) * (4 : Int32))) (((2 : Int32) * (i2 - i2 / (kc (0 : Int32).toNatClampNeg) * (kc (0 : Int32).toNatClampNeg))) + (1 : Int32)).toNatClampNeg ((1 : Int32) + ((i3 / (4 : Int32)) - (i3 / (4 : Int32)) / v26 * v26))), kc, kl)
      else
        if (i2 - i2 / (kc (0 : Int32).toNatClampNeg) * (kc (0 : Int32).toNatClampNeg)) = (i3 - i3 / (kc (0 : Int32).toNatClampNeg) * (kc (0 : Int32).toNatClampNeg)) then
          some ((1 : Int32), lo, (yy.1, yy.2.1, yy.2.2.1, yy.2.2.2.1, yy.2.2.2.2.1, yy.2.2.2.2.2.1, yy.2.2.2.2.2.2.1, yy.2.2.2.2.2.2.2.1, yy.2.2.2.2.2.2.2.2), (pp.1, pp.2.1, pp.2.2.1, pp.2.2.2.1, pp.2.2.2.2.1, pp.2.2.2.2.2.1, pp.2.2.2.2.2.2.1, pp.2.2.2.2.2.2.2.1, pp.2.2.2.2.2.2.2.2), (qq.1, qq.2.1, qq.2.2.1, qq.2.2.2.1, qq.2.2.2.2.1, qq.2.2.2.2.2.1, qq.2.2.2.2.2.2.1, qq.2.2.2.2.2.2.2.1, qq.2.2.2.2.2.2.2.2), ka, kr, kc, kl)
        else
          if (((5 : Int32) * (i2 - i2 / (kc (0 : Int32).toNatClampNeg) * (kc (0 : Int32).toNatClampNeg))) + (4 : Int32)) < 0 ∨ 60 ≤ (((5 : Int32) * (i2 - i2 / (kc (0 : Int32).toNatClampNeg) * (kc (0 : Int32).toNatClampNeg))) + (4 : Int32)).toNatClampNeg then none else
          Option.bind (f_L_isIn (ka (((5 : Int32) * (i2 - i2 / (kc (0 : Int32).toNatClampNeg) * (kc (0 : Int32).toNatClampNeg))) + (4 : Int32)).toNatClampNeg) (i3 - i3 / (kc (0 : Int32).toNatClampNeg) * (kc (0 : Int32).toNatClampNeg))) fun (o41 : Int32) =>
          Option.bind (
            if o41 = 0 then
              Option.bind (f_X2_allNeeds lo (yy.1, yy.2.1, yy.2.2.1, yy.2.2.2.1, yy.2.2.2.2.1, yy.2.2.2.2.2.1, yy.2.2.2.2.2.2.1, yy.2.2.2.2.2.2.2.1, yy.2.2.2.2.2.2.2.2) (pp.1, pp.2.1, pp.2.2.1, pp.2.2.2.1, pp.2.2.2.2.1, pp.2.2.2.2.2.1, pp.2.2.2.2.2.2.1, pp.2.2.2.2.2.2.2.1, pp.2.2.2.2.2.2.2.2) (qq.1, qq.2.1, qq.2.2.1, qq.2.2.2.1, qq.2.2.2.2.1, qq.2.2.2.2.2.1, qq.2.2.2.2.2.2.1, qq.2.2.2.2.2.2.2.1, qq.2.2.2.2.2.2.2.2) (i3 - i3 / (kc (0 : Int32).toNatClampNeg) * (kc (0 : Int32).toNatClampNeg))) fun (o51 : Int32) =>
              Option.bind (f_L_isIn o51 (i2 - i2 / (kc (0 : Int32).toNatClampNeg) * (kc (0 : Int32).toNatClampNeg))) fun (o52 : Int32) =>
              if o52 = 0 then
                some (1 : Int32)
              else
                some (0 : Int32)
            else
              some (0 : Int32)) fun (v42 : Int32) =>
          Option.bind (
            if v42 = 0 then
              some (0 : Int32)
            else
              some ((1 : Int32) <<< ((i3 - i3 / (kc (0 : Int32).toNatClampNeg) * (kc (0 : Int32).toNatClampNeg)) &&& 31))) fun (v43 : Int32) =>
          Option.bind (f_L_needs lo (yy.1, yy.2.1, yy.2.2.1, yy.2.2.2.1, yy.2.2.2.2.1, yy.2.2.2.2.2.1, yy.2.2.2.2.2.2.1, yy.2.2.2.2.2.2.2.1, yy.2.2.2.2.2.2.2.2) (pp.1, pp.2.1, pp.2.2.1, pp.2.2.2.1, pp.2.2.2.2.1, pp.2.2.2.2.2.1, pp.2.2.2.2.2.2.1, pp.2.2.2.2.2.2.2.1, pp.2.2.2.2.2.2.2.2) (qq.1, qq.2.1, qq.2.2.1, qq.2.2.2.1, qq.2.2.2.2.1, qq.2.2.2.2.2.1, qq.2.2.2.2.2.2.1, qq.2.2.2.2.2.2.2.1, qq.2.2.2.2.2.2.2.2) (i2 - i2 / (kc (0 : Int32).toNatClampNeg) * (kc (0 : Int32).toNatClampNeg)) (i3 - i3 / (kc (0 : Int32).toNatClampNeg) * (kc (0 : Int32).toNatClampNeg))) fun (o44 : Int32 × xF × xF × xPL × xPL) =>
          Option.bind (
            if v42 = 0 then
              some ((-8) : Int32)
            else
              Option.bind (f_L_size ((upd ka (((5 : Int32) * (i2 - i2 / (kc (0 : Int32).toNatClampNeg) * (kc (0 : Int32).toNatClampNeg))) + (4 : Int32)).toNatClampNeg ((ka (((5 : Int32) * (i2 - i2 / (kc (0 : Int32).toNatClampNeg) * (kc (0 : Int32).toNatClampNeg))) + (4 : Int32)).toNatClampNeg) ||| v43)) (((5 : Int32) * (i2 - i2 / (kc (0 : Int32).toNatClampNeg) * (kc (0 : Int32).toNatClampNeg))) + (4 : Int32)).toNatClampNeg)) fun (o48 : Int32) =>
              some o48) fun (v45 : Int32) =>
          if o44.1 = v45 then
            some ((1 : Int32), lo, (yy.1, yy.2.1, yy.2.2.1, yy.2.2.2.1, yy.2.2.2.2.1, yy.2.2.2.2.2.1, yy.2.2.2.2.2.2.1, o44.2.1, o44.2.2.1), o44.2.2.2.1, o44.2.2.2.2, (upd ka (((5 : Int32) * (i2 - i2 / (kc (0 : Int32).toNatClampNeg) * (kc (0 : Int32).toNatClampNeg))) + (4 : Int32)).toNatClampNeg ((ka (((5 : Int32) * (i2 - i2 / (kc (0 : Int32).toNatClampNeg) * (kc (0 : Int32).toNatClampNeg))) + (4 : Int32)).toNatClampNeg) ||| v43)), kr, kc, kl)
          else
            some ((0 : Int32), lo, (yy.1, yy.2.1, yy.2.2.1, yy.2.2.2.1, yy.2.2.2.2.1, yy.2.2.2.2.2.1, yy.2.2.2.2.2.2.1, o44.2.1, o44.2.2.1), o44.2.2.2.1, o44.2.2.2.2, (upd ka (((5 : Int32) * (i2 - i2 / (kc (0 : Int32).toNatClampNeg) * (kc (0 : Int32).toNatClampNeg))) + (4 : Int32)).toNatClampNeg ((ka (((5 : Int32) * (i2 - i2 / (kc (0 : Int32).toNatClampNeg) * (kc (0 : Int32).toNatClampNeg))) + (4 : Int32)).toNatClampNeg) ||| v43)), kr, kc, kl)
theorem f_L_step_e (lo : xF) (yy_0 : Int32) (yy_1 : xF) (yy_2 : xF) (yy_3 : xF) (yy_4 : xF) (yy_5 : xF) (yy_6 : xF) (yy_7 : xF) (yy_8 : xF) (pp_0 : xF) (pp_1 : xF) (pp_2 : xF) (pp_3 : xF) (pp_4 : xF) (pp_5 : xF) (pp_6 : Int32) (pp_7 : Int32) (pp_8 : Int32) (qq_0 : xF) (qq_1 : xF) (qq_2 : xF) (qq_3 : xF) (qq_4 : xF) (qq_5 : xF) (qq_6 : Int32) (qq_7 : Int32) (qq_8 : Int32) (ka : xF) (kr : xF) (kc : xF) (kl : (Nat → Int64)) (i1 : Int32) (i2 : Int32) (i3 : Int32) : f_L_step lo (yy_0, yy_1, yy_2, yy_3, yy_4, yy_5, yy_6, yy_7, yy_8) (pp_0, pp_1, pp_2, pp_3, pp_4, pp_5, pp_6, pp_7, pp_8) (qq_0, qq_1, qq_2, qq_3, qq_4, qq_5, qq_6, qq_7, qq_8) ka kr kc kl i1 i2 i3 =
  if i1 < (3 : Int32) then
    if (kc (0 : Int32).toNatClampNeg) = (12 : Int32) then
      some ((1 : Int32), lo, (yy_0, yy_1, yy_2, yy_3, yy_4, yy_5, yy_6, yy_7, yy_8), (pp_0, pp_1, pp_2, pp_3, pp_4, pp_5, pp_6, pp_7, pp_8), (qq_0, qq_1, qq_2, qq_3, qq_4, qq_5, qq_6, qq_7, qq_8), ka, kr, kc, kl)
    else
      if ((5 : Int32) * (kc (0 : Int32).toNatClampNeg)) < 0 ∨ 60 ≤ ((5 : Int32) * (kc (0 : Int32).toNatClampNeg)).toNatClampNeg then none else
      if (((5 : Int32) * (kc (0 : Int32).toNatClampNeg)) + (1 : Int32)) < 0 ∨ 60 ≤ (((5 : Int32) * (kc (0 : Int32).toNatClampNeg)) + (1 : Int32)).toNatClampNeg then none else
      Option.bind (
        if (i3 - i3 / (3 : Int32) * (3 : Int32)) = 0 then
          some (99 : Int32)
        else
          some (20 : Int32)) fun (v5 : Int32) =>
      if v5 = 0 then none else
      if (((5 : Int32) * (kc (0 : Int32).toNatClampNeg)) + (2 : Int32)) < 0 ∨ 60 ≤ (((5 : Int32) * (kc (0 : Int32).toNatClampNeg)) + (2 : Int32)).toNatClampNeg then none else
      if (((5 : Int32) * (kc (0 : Int32).toNatClampNeg)) + (3 : Int32)) < 0 ∨ 60 ≤ (((5 : Int32) * (kc (0 : Int32).toNatClampNeg)) + (3 : Int32)).toNatClampNeg then none else
      if (((2 : Int32) * (kc (0 : Int32).toNatClampNeg)) + (1 : Int32)) < 0 ∨ 24 ≤ (((2 : Int32) * (kc (0 : Int32).toNatClampNeg)) + (1 : Int32)).toNatClampNeg then none else
      Option.bind (f_X2_aim lo (yy_0, yy_1, yy_2, yy_3, yy_4, yy_5, yy_6, yy_7, yy_8) (pp_0, pp_1, pp_2, pp_3, pp_4, pp_5, pp_6, pp_7, pp_8) (qq_0, qq_1, qq_2, qq_3, qq_4, qq_5, qq_6, qq_7, qq_8) ((upd (upd (upd (upd ka ((5 : Int32) * (kc (0 : Int32).toNatClampNeg)).toNatClampNeg ((1 : Int32) + (i2 - i2 / (5 : Int32) * (5 : Int32)))) (((5 : Int32) * (kc (0 : Int32).toNatClampNeg)) + (1 : Int32)).toNatClampNeg ((i2 / (5 : Int32)) - (i2 / (5 : Int32)) / (3 : Int32) * (3 : Int32))) (((5 : Int32) * (kc (0 : Int32).toNatClampNeg)) + (2 : Int32)).toNatClampNeg ((1 : Int32) + (i3 - i3 / v5 * v5))) (((5 : Int32) * (kc (0 : Int32).toNatClampNeg)) + (3 : Int32)).toNatClampNeg (((i2 / (15 : Int32)) - (i2 / (15 : Int32)) / (4 : Int32) * (4 : Int32)) - (1 : Int32))) ((5 : Int32) * (kc (0 : Int32).toNatClampNeg)).toNatClampNeg) ((upd (upd (upd (upd ka ((5 : Int32) * (kc (0 : Int32).toNatClampNeg)).toNatClampNeg ((1 : Int32) + (i2 - i2 / (5 : Int32) * (5 : Int32)))) (((5 : Int32) * (kc (0 : Int32).toNatClampNeg)) + (1 : Int32)).toNatClampNeg ((i2 / (5 : Int32)) - (i2 / (5 : Int32)) / (3 : Int32) * (3 : Int32))) (((5 : Int32) * (kc (0 : Int32).toNatClampNeg)) + (2 : Int32)).toNatClampNeg ((1 : Int32) + (i3 - i3 / v5 * v5))) (((5 : Int32) * (kc (0 : Int32).toNatClampNeg)) + (3 : Int32)).toNatClampNeg (((i2 / (15 : Int32)) - (i2 / (15 : Int32)) / (4 : Int32) * (4 : Int32)) - (1 : Int32))) (((5 : Int32) * (kc (0 : Int32).toNatClampNeg)) + (1 : Int32)).toNatClampNeg) ((upd (upd (upd (upd ka ((5 : Int32) * (kc (0 : Int32).toNatClampNeg)).toNatClampNeg ((1 : Int32) + (i2 - i2 / (5 : Int32) * (5 : Int32)))) (((5 : Int32) * (kc (0 : Int32).toNatClampNeg)) + (1 : Int32)).toNatClampNeg ((i2 / (5 : Int32)) - (i2 / (5 : Int32)) / (3 : Int32) * (3 : Int32))) (((5 : Int32) * (kc (0 : Int32).toNatClampNeg)) + (2 : Int32)).toNatClampNeg ((1 : Int32) + (i3 - i3 / v5 * v5))) (((5 : Int32) * (kc (0 : Int32).toNatClampNeg)) + (3 : Int32)).toNatClampNeg (((i2 / (15 : Int32)) - (i2 / (15 : Int32)) / (4 : Int32) * (4 : Int32)) - (1 : Int32))) (((5 : Int32) * (kc (0 : Int32).toNatClampNeg)) + (2 : Int32)).toNatClampNeg) ((upd (upd (upd (upd ka ((5 : Int32) * (kc (0 : Int32).toNatClampNeg)).toNatClampNeg ((1 : Int32) + (i2 - i2 / (5 : Int32) * (5 : Int32)))) (((5 : Int32) * (kc (0 : Int32).toNatClampNeg)) + (1 : Int32)).toNatClampNeg ((i2 / (5 : Int32)) - (i2 / (5 : Int32)) / (3 : Int32) * (3 : Int32))) (((5 : Int32) * (kc (0 : Int32).toNatClampNeg)) + (2 : Int32)).toNatClampNeg ((1 : Int32) + (i3 - i3 / v5 * v5))) (((5 : Int32) * (kc (0 : Int32).toNatClampNeg)) + (3 : Int32)).toNatClampNeg (((i2 / (15 : Int32)) - (i2 / (15 : Int32)) / (4 : Int32) * (4 : Int32)) - (1 : Int32))) (((5 : Int32) * (kc (0 : Int32).toNatClampNeg)) + (3 : Int32)).toNatClampNeg)) fun (o10 : Int32 × Int32 × xF × xF × xF × xF × xF × xF × xPL × xPL) =>
      if o10.1 = (((upd kc (0 : Int32).toNatClampNeg ((kc (0 : Int32).toNatClampNeg) + (1 : Int32))) (0 : Int32).toNatClampNeg) - (1 : Int32)) then
        some ((1 : Int32), lo, (o10.2.1, o10.2.2.1, o10.2.2.2.1, o10.2.2.2.2.1, o10.2.2.2.2.2.1, yy_5, o10.2.2.2.2.2.2.1, yy_7, o10.2.2.2.2.2.2.2.1), o10.2.2.2.2.2.2.2.2.1, o10.2.2.2.2.2.2.2.2.2, (upd (upd (upd (upd ka ((5 : Int32) * (kc (0 : Int32).toNatClampNeg)).toNatClampNeg ((1 : Int32) + (i2 - i2 / (5 : Int32) * (5 : Int32)))) (((5 : Int32) * (kc (0 : Int32).toNatClampNeg)) + (1 : Int32)).toNatClampNeg ((i2 / (5 : Int32)) - (i2 / (5 : Int32)) / (3 : Int32) * (3 : Int32))) (((5 : Int32) * (kc (0 : Int32).toNatClampNeg)) + (2 : Int32)).toNatClampNeg ((1 : Int32) + (i3 - i3 / v5 * v5))) (((5 : Int32) * (kc (0 : Int32).toNatClampNeg)) + (3 : Int32)).toNatClampNeg (((i2 / (15 : Int32)) - (i2 / (15 : Int32)) / (4 : Int32) * (4 : Int32)) - (1 : Int32))), (upd kr (((2 : Int32) * (kc (0 : Int32).toNatClampNeg)) + (1 : Int32)).toNatClampNeg (1 : Int32)), (upd kc (0 : Int32).toNatClampNeg ((kc (0 : Int32).toNatClampNeg) + (1 : Int32))), kl)
      else
        some ((0 : Int32), lo, (o10.2.1, o10.2.2.1, o10.2.2.2.1, o10.2.2.2.2.1, o10.2.2.2.2.2.1, yy_5, o10.2.2.2.2.2.2.1, yy_7, o10.2.2.2.2.2.2.2.1), o10.2.2.2.2.2.2.2.2.1, o10.2.2.2.2.2.2.2.2.2, (upd (upd (upd (upd ka ((5 : Int32) * (kc (0 : Int32).toNatClampNeg)).toNatClampNeg ((1 : Int32) + (i2 - i2 / (5 : Int32) * (5 : Int32)))) (((5 : Int32) * (kc (0 : Int32).toNatClampNeg)) + (1 : Int32)).toNatClampNeg ((i2 / (5 : Int32)) - (i2 / (5 : Int32)) / (3 : Int32) * (3 : Int32))) (((5 : Int32) * (kc (0 : Int32).toNatClampNeg)) + (2 : Int32)).toNatClampNeg ((1 : Int32) + (i3 - i3 / v5 * v5))) (((5 : Int32) * (kc (0 : Int32).toNatClampNeg)) + (3 : Int32)).toNatClampNeg (((i2 / (15 : Int32)) - (i2 / (15 : Int32)) / (4 : Int32) * (4 : Int32)) - (1 : Int32))), (upd kr (((2 : Int32) * (kc (0 : Int32).toNatClampNeg)) + (1 : Int32)).toNatClampNeg (1 : Int32)), (upd kc (0 : Int32).toNatClampNeg ((kc (0 : Int32).toNatClampNeg) + (1 : Int32))), kl)
  else
    if (kc (0 : Int32).toNatClampNeg) = 0 then
      if (kc (0 : Int32).toNatClampNeg) = (12 : Int32) then
        some ((1 : Int32), lo, (yy_0, yy_1, yy_2, yy_3, yy_4, yy_5, yy_6, yy_7, yy_8), (pp_0, pp_1, pp_2, pp_3, pp_4, pp_5, pp_6, pp_7, pp_8), (qq_0, qq_1, qq_2, qq_3, qq_4, qq_5, qq_6, qq_7, qq_8), ka, kr, kc, kl)
      else
        if ((5 : Int32) * (kc (0 : Int32).toNatClampNeg)) < 0 ∨ 60 ≤ ((5 : Int32) * (kc (0 : Int32).toNatClampNeg)).toNatClampNeg then none else
        if (((5 : Int32) * (kc (0 : Int32).toNatClampNeg)) + (1 : Int32)) < 0 ∨ 60 ≤ (((5 : Int32) * (kc (0 : Int32).toNatClampNeg)) + (1 : Int32)).toNatClampNeg then none else
        Option.bind (
          if (i3 - i3 / (3 : Int32) * (3 : Int32)) = 0 then
            some (99 : Int32)
          else
            some (20 : Int32)) fun (v57 : Int32) =>
        if v57 = 0 then none else
        if (((5 : Int32) * (kc (0 : Int32).toNatClampNeg)) + (2 : Int32)) < 0 ∨ 60 ≤ (((5 : Int32) * (kc (0 : Int32).toNatClampNeg)) + (2 : Int32)).toNatClampNeg then none else
        if (((5 : Int32) * (kc (0 : Int32).toNatClampNeg)) + (3 : Int32)) < 0 ∨ 60 ≤ (((5 : Int32) * (kc (0 : Int32).toNatClampNeg)) + (3 : Int32)).toNatClampNeg then none else
        if (((2 : Int32) * (kc (0 : Int32).toNatClampNeg)) + (1 : Int32)) < 0 ∨ 24 ≤ (((2 : Int32) * (kc (0 : Int32).toNatClampNeg)) + (1 : Int32)).toNatClampNeg then none else
        Option.bind (f_X2_aim lo (yy_0, yy_1, yy_2, yy_3, yy_4, yy_5, yy_6, yy_7, yy_8) (pp_0, pp_1, pp_2, pp_3, pp_4, pp_5, pp_6, pp_7, pp_8) (qq_0, qq_1, qq_2, qq_3, qq_4, qq_5, qq_6, qq_7, qq_8) ((upd (upd (upd (upd ka ((5 : Int32) * (kc (0 : Int32).toNatClampNeg)).toNatClampNeg ((1 : Int32) + (i2 - i2 / (5 : Int32) * (5 : Int32)))) (((5 : Int32) * (kc (0 : Int32).toNatClampNeg)) + (1 : Int32)).toNatClampNeg ((i2 / (5 : Int32)) - (i2 / (5 : Int32)) / (3 : Int32) * (3 : Int32))) (((5 : Int32) * (kc (0 : Int32).toNatClampNeg)) + (2 : Int32)).toNatClampNeg ((1 : Int32) + (i3 - i3 / v57 * v57))) (((5 : Int32) * (kc (0 : Int32).toNatClampNeg)) + (3 : Int32)).toNatClampNeg (((i2 / (15 : Int32)) - (i2 / (15 : Int32)) / (4 : Int32) * (4 : Int32)) - (1 : Int32))) ((5 : Int32) * (kc (0 : Int32).toNatClampNeg)).toNatClampNeg) ((upd (upd (upd (upd ka ((5 : Int32) * (kc (0 : Int32).toNatClampNeg)).toNatClampNeg ((1 : Int32) + (i2 - i2 / (5 : Int32) * (5 : Int32)))) (((5 : Int32) * (kc (0 : Int32).toNatClampNeg)) + (1 : Int32)).toNatClampNeg ((i2 / (5 : Int32)) - (i2 / (5 : Int32)) / (3 : Int32) * (3 : Int32))) (((5 : Int32) * (kc (0 : Int32).toNatClampNeg)) + (2 : Int32)).toNatClampNeg ((1 : Int32) + (i3 - i3 / v57 * v57))) (((5 : Int32) * (kc (0 : Int32).toNatClampNeg)) + (3 : Int32)).toNatClampNeg (((i2 / (15 : Int32)) - (i2 / (15 : Int32)) / (4 : Int32) * (4 : Int32)) - (1 : Int32))) (((5 : Int32) * (kc (0 : Int32).toNatClampNeg)) + (1 : Int32)).toNatClampNeg) ((upd (upd (upd (upd ka ((5 : Int32) * (kc (0 : Int32).toNatClampNeg)).toNatClampNeg ((1 : Int32) + (i2 - i2 / (5 : Int32) * (5 : Int32)))) (((5 : Int32) * (kc (0 : Int32).toNatClampNeg)) + (1 : Int32)).toNatClampNeg ((i2 / (5 : Int32)) - (i2 / (5 : Int32)) / (3 : Int32) * (3 : Int32))) (((5 : Int32) * (kc (0 : Int32).toNatClampNeg)) + (2 : Int32)).toNatClampNeg ((1 : Int32) + (i3 - i3 / v57 * v57))) (((5 : Int32) * (kc (0 : Int32).toNatClampNeg)) + (3 : Int32)).toNatClampNeg (((i2 / (15 : Int32)) - (i2 / (15 : Int32)) / (4 : Int32) * (4 : Int32)) - (1 : Int32))) (((5 : Int32) * (kc (0 : Int32).toNatClampNeg)) + (2 : Int32)).toNatClampNeg) ((upd (upd (upd (upd ka ((5 : Int32) * (kc (0 : Int32).toNatClampNeg)).toNatClampNeg ((1 : Int32) + (i2 - i2 / (5 : Int32) * (5 : Int32)))) (((5 : Int32) * (kc (0 : Int32).toNatClampNeg)) + (1 : Int32)).toNatClampNeg ((i2 / (5 : Int32)) - (i2 / (5 : Int32)) / (3 : Int32) * (3 : Int32))) (((5 : Int32) * (kc (0 : Int32).toNatClampNeg)) + (2 : Int32)).toNatClampNeg ((1 : Int32) + (i3 - i3 / v57 * v57))) (((5 : Int32) * (kc (0 : Int32).toNatClampNeg)) + (3 : Int32)).toNatClampNeg (((i2 / (15 : Int32)) - (i2 / (15 : Int32)) / (4 : Int32) * (4 : Int32)) - (1 : Int32))) (((5 : Int32) * (kc (0 : Int32).toNatClampNeg)) + (3 : Int32)).toNatClampNeg)) fun (o62 : Int32 × Int32 × xF × xF × xF × xF × xF × xF × xPL × xPL) =>
        if o62.1 = (((upd kc (0 : Int32).toNatClampNeg ((kc (0 : Int32).toNatClampNeg) + (1 : Int32))) (0 : Int32).toNatClampNeg) - (1 : Int32)) then
          some ((1 : Int32), lo, (o62.2.1, o62.2.2.1, o62.2.2.2.1, o62.2.2.2.2.1, o62.2.2.2.2.2.1, yy_5, o62.2.2.2.2.2.2.1, yy_7, o62.2.2.2.2.2.2.2.1), o62.2.2.2.2.2.2.2.2.1, o62.2.2.2.2.2.2.2.2.2, (upd (upd (upd (upd ka ((5 : Int32) * (kc (0 : Int32).toNatClampNeg)).toNatClampNeg ((1 : Int32) + (i2 - i2 / (5 : Int32) * (5 : Int32)))) (((5 : Int32) * (kc (0 : Int32).toNatClampNeg)) + (1 : Int32)).toNatClampNeg ((i2 / (5 : Int32)) - (i2 / (5 : Int32)) / (3 : Int32) * (3 : Int32))) (((5 : Int32) * (kc (0 : Int32).toNatClampNeg)) + (2 : Int32)).toNatClampNeg ((1 : Int32) + (i3 - i3 / v57 * v57))) (((5 : Int32) * (kc (0 : Int32).toNatClampNeg)) + (3 : Int32)).toNatClampNeg (((i2 / (15 : Int32)) - (i2 / (15 : Int32)) / (4 : Int32) * (4 : Int32)) - (1 : Int32))), (upd kr (((2 : Int32) * (kc (0 : Int32).toNatClampNeg)) + (1 : Int32)).toNatClampNeg (1 : Int32)), (upd kc (0 : Int32).toNatClampNeg ((kc (0 : Int32).toNatClampNeg) + (1 : Int32))), kl)
        else
          some ((0 : Int32), lo, (o62.2.1, o62.2.2.1, o62.2.2.2.1, o62.2.2.2.2.1, o62.2.2.2.2.2.1, yy_5, o62.2.2.2.2.2.2.1, yy_7, o62.2.2.2.2.2.2.2.1), o62.2.2.2.2.2.2.2.2.1, o62.2.2.2.2.2.2.2.2.2, (upd (upd (upd (upd ka ((5 : Int32) * (kc (0 : Int32).toNatClampNeg)).toNatClampNeg ((1 : Int32) + (i2 - i2 / (5 : Int32) * (5 : Int32)))) (((5 : Int32) * (kc (0 : Int32).toNatClampNeg)) + (1 : Int32)).toNatClampNeg ((i2 / (5 : Int32)) - (i2 / (5 : Int32)) / (3 : Int32) * (3 : Int32))) (((5 : Int32) * (kc (0 : Int32).toNatClampNeg)) + (2 : Int32)).toNatClampNeg ((1 : Int32) + (i3 - i3 / v57 * v57))) (((5 : Int32) * (kc (0 : Int32).toNatClampNeg)) + (3 : Int32)).toNatClampNeg (((i2 / (15 : Int32)) - (i2 / (15 : Int32)) / (4 : Int32) * (4 : Int32)) - (1 : Int32))), (upd kr (((2 : Int32) * (kc (0 : Int32).toNatClampNeg)) + (1 : Int32)).toNatClampNeg (1 : Int32)), (upd kc (0 : Int32).toNatClampNeg ((kc (0 : Int32).toNatClampNeg) + (1 : Int32))), kl)
    else
      if (kc (0 : Int32).toNatClampNeg) = 0 then none else
      if (7 : Int32) ≤ i1 then
        if i1 = (7 : Int32) then
          if (((5 : Int32) * (i2 - i2 / (kc (0 : Int32).toNatClampNeg) * (kc (0 : Int32).toNatClampNeg))) + (4 : Int32)) < 0 ∨ 60 ≤ (((5 : Int32) * (i2 - i2 / (kc (0 : Int32).toNatClampNeg) * (kc (0 : Int32).toNatClampNeg))) + (4 : Int32)).toNatClampNeg then none else
          Option.bind (f_L_isIn (ka (((5 : Int32) * (i2 - i2 / (kc (0 : Int32).toNatClampNeg) * (kc (0 : Int32).toNatClampNeg))) + (4 : Int32)).toNatClampNeg) (i3 - i3 / (kc (0 : Int32).toNatClampNeg) * (kc (0 : Int32).toNatClampNeg))) fun (o33 : Int32) =>
          Option.bind (f_L_frees lo (yy_0, yy_1, yy_2, yy_3, yy_4, yy_5, yy_6, yy_7, yy_8) (pp_0, pp_1, pp_2, pp_3, pp_4, pp_5, pp_6, pp_7, pp_8) (qq_0, qq_1, qq_2, qq_3, qq_4, qq_5, qq_6, qq_7, qq_8) (i2 - i2 / (kc (0 : Int32).toNatClampNeg) * (kc (0 : Int32).toNatClampNeg)) (i3 - i3 / (kc (0 : Int32).toNatClampNeg) * (kc (0 : Int32).toNatClampNeg))) fun (o34 : Int32 × xF × xF × xPL × xPL) =>
          Option.bind (
            if o33 = 0 then
              some ((-9) : Int32)
            else
              Option.bind (f_L_size ((upd ka (((5 : Int32) * (i2 - i2 / (kc (0 : Int32).toNatClampNeg) * (kc (0 : Int32).toNatClampNeg))) + (4 : Int32)).toNatClampNeg ((ka (((5 : Int32) * (i2 - i2 / (kc (0 : Int32).toNatClampNeg) * (kc (0 : Int32).toNatClampNeg))) + (4 : Int32)).toNatClampNeg) &&& (((1 : Int32) <<< ((i3 - i3 / (kc (0 : Int32).toNatClampNeg) * (kc (0 : Int32).toNatClampNeg)) &&& 31)) ^^^ ((-1) : Int32)))) (((5 : Int32) * (i2 - i2 / (kc (0 : Int32).toNatClampNeg) * (kc (0 : Int32).toNatClampNeg))) + (4 : Int32)).toNatClampNeg)) fun (o38 : Int32) =>
              some o38) fun (v35 : Int32) =>
          if o34.1 = v35 then
            some ((1 : Int32), lo, (yy_0, yy_1, yy_2, yy_3, yy_4, yy_5, yy_6, o34.2.1, o34.2.2.1), o34.2.2.2.1, o34.2.2.2.2, (upd ka (((5 : Int32) * (i2 - i2 / (kc (0 : Int32).toNatClampNeg) * (kc (0 : Int32).toNatClampNeg))) + (4 : Int32)).toNatClampNeg ((ka (((5 : Int32) * (i2 - i2 / (kc (0 : Int32).toNatClampNeg) * (kc (0 : Int32).toNatClampNeg))) + (4 : Int32)).toNatClampNeg) &&& (((1 : Int32) <<< ((i3 - i3 / (kc (0 : Int32).toNatClampNeg) * (kc (0 : Int32).toNatClampNeg)) &&& 31)) ^^^ ((-1) : Int32)))), kr, kc, kl)
          else
            some ((0 : Int32), lo, (yy_0, yy_1, yy_2, yy_3, yy_4, yy_5, yy_6, o34.2.1, o34.2.2.1), o34.2.2.2.1, o34.2.2.2.2, (upd ka (((5 : Int32) * (i2 - i2 / (kc (0 : Int32).toNatClampNeg) * (kc (0 : Int32).toNatClampNeg))) + (4 : Int32)).toNatClampNeg ((ka (((5 : Int32) * (i2 - i2 / (kc (0 : Int32).toNatClampNeg) * (kc (0 : Int32).toNatClampNeg))) + (4 : Int32)).toNatClampNeg) &&& (((1 : Int32) <<< ((i3 - i3 / (kc (0 : Int32).toNatClampNeg) * (kc (0 : Int32).toNatClampNeg)) &&& 31)) ^^^ ((-1) : Int32)))), kr, kc, kl)
        else
          if (11 : Int32) ≤ i1 then
            Option.bind (
              if (i2 - i2 / (3 : Int32) * (3 : Int32)) = 0 then
                some (100 : Int32)
              else
                some (30 : Int32)) fun (v18 : Int32) =>
            if v18 = 0 then none else
            Option.bind (f_L_isLost kl (i3 - i3 / v18 * v18)) fun (o20 : Int32) =>
            if o20 = 0 then
              Option.bind (f_L_loses lo (yy_0, yy_1, yy_2, yy_3, yy_4, yy_5, yy_6, yy_7, yy_8) (pp_0, pp_1, pp_2, pp_3, pp_4, pp_5, pp_6, pp_7, pp_8) (qq_0, qq_1, qq_2, qq_3, qq_4, qq_5, qq_6, qq_7, qq_8) ka kr kc kl (i3 - i3 / v18 * v18)) fun (o22 : Int32 × xF × xPL × xPL × (Nat → Int64)) =>
              if o22.1 = 0 then
                some ((0 : Int32), o22.2.1, (yy_0, yy_1, yy_2, yy_3, yy_4, yy_5, yy_6, yy_7, yy_8), o22.2.2.1, o22.2.2.2.1, ka, kr, kc, o22.2.2.2.2)
              else
                some ((1 : Int32), o22.2.1, (yy_0, yy_1, yy_2, yy_3, yy_4, yy_5, yy_6, yy_7, yy_8), o22.2.2.1, o22.2.2.2.1, ka, kr, kc, o22.2.2.2.2)
            else
              some ((1 : Int32), lo, (yy_0, yy_1, yy_2, yy_3, yy_4, yy_5, yy_6, yy_7, yy_8), (pp_0, pp_1, pp_2, pp_3, pp_4, pp_5, pp_6, pp_7, pp_8), (qq_0, qq_1, qq_2, qq_3, qq_4, qq_5, qq_6, qq_7, qq_8), ka, kr, kc, kl)
          else
            if ((2 : Int32) * (i2 - i2 / (kc (0 : Int32).toNatClampNeg) * (kc (0 : Int32).toNatClampNeg))) < 0 ∨ 24 ≤ ((2 : Int32) * (i2 - i2 / (kc (0 : Int32).toNatClampNeg) * (kc (0 : Int32).toNatClampNeg))).toNatClampNeg then none else
            Option.bind (
              if (i2 - i2 / (3 : Int32) * (3 : Int32)) = 0 then
                some (20 : Int32)
              else
                some (6 : Int32)) fun (v26 : Int32) =>
            if v26 = 0 then none else
            if (((2 : Int32) * (i2 - i2 / (kc (0 : Int32).toNatClampNeg) * (kc (0 : Int32).toNatClampNeg))) + (1 : Int32)) < 0 ∨ 24 ≤ (((2 : Int32) * (i2 - i2 / (kc (0 : Int32).toNatClampNeg) * (kc (0 : Int32).toNatClampNeg))) + (1 : Int32)).toNatClampNeg then none else
            Option.bind (f_X2_revisits lo (yy_0, yy_1, yy_2, yy_3, yy_4, yy_5, yy_6, yy_7, yy_8) (pp_0, pp_1, pp_2, pp_3, pp_4, pp_5, pp_6, pp_7, pp_8) (qq_0, qq_1, qq_2, qq_3, qq_4, qq_5, qq_6, qq_7, qq_8) (i2 - i2 / (kc (0 : Int32).toNatClampNeg) * (kc (0 : Int32).toNatClampNeg)) ((upd (upd kr ((2 : Int32) * (i2 - i2 / (kc (0 : Int32).toNatClampNeg) * (kc (0 : Int32).toNatClampNeg))).toNatClampNeg (i3 - i3 / (4 : Int32) * (4 : Int32))) (((2 : Int32) * (i2 - i2 / (kc (0 : Int32).toNatClampNeg) * (kc (0 : Int32).toNatClampNeg))) + (1 : Int32)).toNatClampNeg ((1 : Int32) + ((i3 / (4 : Int32)) - (i3 / (4 : Int32)) / v26 * v26))) ((2 : Int32) * (i2 - i2 / (kc (0 : Int32).toNatClampNeg) * (kc (0 : Int32).toNatClampNeg))).toNatClampNeg) ((upd (upd kr ((2 : Int32) * (i2 - i2 / (kc (0 : Int32).toNatClampNeg) * (kc (0 : Int32).toNatClampNeg))).toNatClampNeg (i3 - i3 / (4 : Int32) * (4 : Int32))) (((2 : Int32) * (i2 - i2 / (kc (0 : Int32).toNatClampNeg) * (kc (0 : Int32).toNatClampNeg))) + (1 : Int32)).toNatClampNeg ((1 : Int32) + ((i3 / (4 : Int32)) - (i3 / (4 : Int32)) / v26 * v26))) (((2 : Int32) * (i2 - i2 / (kc (0 : Int32).toNatClampNeg) * (kc (0 : Int32).toNatClampNeg))) + (1 : Int32)).toNatClampNeg)) fun (o29 : Int32 × xF × xF × xPL × xPL) =>
            if o29.1 = (kr ((2 : Int32) * (i2 - i2 / (kc (0 : Int32).toNatClampNeg) * (kc (0 : Int32).toNatClampNeg))).toNatClampNeg) then
              some ((1 : Int32), lo, (yy_0, yy_1, yy_2, yy_3, yy_4, o29.2.1, o29.2.2.1, yy_7, yy_8), o29.2.2.2.1, o29.2.2.2.2, ka, (upd (upd kr ((2 : Int32) * (i2 - i2 / (kc (0 : Int32).toNatClampNeg) * (kc (0 : Int32).toNatClampNeg))).toNatClampNeg (i3 - i3 / (4 : Int32) * (4 : Int32))) (((2 : Int32) * (i2 - i2 / (kc (0 : Int32).toNatClampNeg) * (kc (0 : Int32).toNatClampNeg))) + (1 : Int32)).toNatClampNeg ((1 : Int32) + ((i3 / (4 : Int32)) - (i3 / (4 : Int32)) / v26 * v26))), kc, kl)
            else
              some ((0 : Int32), lo, (yy_0, yy_1, yy_2, yy_3, yy_4, o29.2.1, o29.2.2.1, yy_7, yy_8), o29.2.2.2.1, o29.2.2.2.2, ka, (upd (upd kr ((2 : Int32) * (i2 - i2 / (kc (0 : Int32).toNatClampNeg) * (kc (0 : Int32).toNatClampNeg))).toNatClampNeg (i3 - i3 / (4 : Int32) * (4 : Int32))) (((2 : Int32) * (i2 - i2 / (kc (0 : Int32).toNatClampNeg) * (kc (0 : Int32).toNatClampNeg))) + (1 : Int32)).toNatClampNeg ((1 : Int32) + ((i3 / (4 : Int32)) - (i3 / (4 : Int32)) / v26 * v26))), kc, kl)
      else
        if (i2 - i2 / (kc (0 : Int32).toNatClampNeg) * (kc (0 : Int32).toNatClampNeg)) = (i3 - i3 / (kc (0 : Int32).toNatClampNeg) * (kc (0 : Int32).toNatClampNeg)) then
          some ((1 : Int32), lo, (yy_0, yy_1, yy_2, yy_3, yy_4, yy_5, yy_6, yy_7, yy_8), (pp_0, pp_1, pp_2, pp_3, pp_4, pp_5, pp_6, pp_7, pp_8), (qq_0, qq_1, qq_2, qq_3, qq_4, qq_5, qq_6, qq_7, qq_8), ka, kr, kc, kl)
        else
          if (((5 : Int32) * (i2 - i2 / (kc (0 : Int32).toNatClampNeg) * (kc (0 : Int32).toNatClampNeg))) + (4 : Int32)) < 0 ∨ 60 ≤ (((5 : Int32) * (i2 - i2 / (kc (0 : Int32).toNatClampNeg) * (kc (0 : Int32).toNatClampNeg))) + (4 : Int32)).toNatClampNeg then none else
          Option.bind (f_L_isIn (ka (((5 : Int32) * (i2 - i2 / (kc (0 : Int32).toNatClampNeg) * (kc (0 : Int32).toNatClampNeg))) + (4 : Int32)).toNatClampNeg) (i3 - i3 / (kc (0 : Int32).toNatClampNeg) * (kc (0 : Int32).toNatClampNeg))) fun (o41 : Int32) =>
          Option.bind (
            if o41 = 0 then
              Option.bind (f_X2_allNeeds lo (yy_0, yy_1, yy_2, yy_3, yy_4, yy_5, yy_6, yy_7, yy_8) (pp_0, pp_1, pp_2, pp_3, pp_4, pp_5, pp_6, pp_7, pp_8) (qq_0, qq_1, qq_2, qq_3, qq_4, qq_5, qq_6, qq_7, qq_8) (i3 - i3 / (kc (0 : Int32).toNatClampNeg) * (kc (0 : Int32).toNatClampNeg))) fun (o51 : Int32) =>
              Option.bind (f_L_isIn o51 (i2 - i2 / (kc (0 : Int32).toNatClampNeg) * (kc (0 : Int32).toNatClampNeg))) fun (o52 : Int32) =>
              if o52 = 0 then
                some (1 : Int32)
              else
                some (0 : Int32)
            else
              some (0 : Int32)) fun (v42 : Int32) =>
          Option.bind (
            if v42 = 0 then
              some (0 : Int32)
            else
              some ((1 : Int32) <<< ((i3 - i3 / (kc (0 : Int32).toNatClampNeg) * (kc (0 : Int32).toNatClampNeg)) &&& 31))) fun (v43 : Int32) =>
          Option.bind (f_L_needs lo (yy_0, yy_1, yy_2, yy_3, yy_4, yy_5, yy_6, yy_7, yy_8) (pp_0, pp_1, pp_2, pp_3, pp_4, pp_5, pp_6, pp_7, pp_8) (qq_0, qq_1, qq_2, qq_3, qq_4, qq_5, qq_6, qq_7, qq_8) (i2 - i2 / (kc (0 : Int32).toNatClampNeg) * (kc (0 : Int32).toNatClampNeg)) (i3 - i3 / (kc (0 : Int32).toNatClampNeg) * (kc (0 : Int32).toNatClampNeg))) fun (o44 : Int32 × xF × xF × xPL × xPL) =>
          Option.bind (
            if v42 = 0 then
              some ((-8) : Int32)
            else
              Option.bind (f_L_size ((upd ka (((5 : Int32) * (i2 - i2 / (kc (0 : Int32).toNatClampNeg) * (kc (0 : Int32).toNatClampNeg))) + (4 : Int32)).toNatClampNeg ((ka (((5 : Int32) * (i2 - i2 / (kc (0 : Int32).toNatClampNeg) * (kc (0 : Int32).toNatClampNeg))) + (4 : Int32)).toNatClampNeg) ||| v43)) (((5 : Int32) * (i2 - i2 / (kc (0 : Int32).toNatClampNeg) * (kc (0 : Int32).toNatClampNeg))) + (4 : Int32)).toNatClampNeg)) fun (o48 : Int32) =>
              some o48) fun (v45 : Int32) =>
          if o44.1 = v45 then
            some ((1 : Int32), lo, (yy_0, yy_1, yy_2, yy_3, yy_4, yy_5, yy_6, o44.2.1, o44.2.2.1), o44.2.2.2.1, o44.2.2.2.2, (upd ka (((5 : Int32) * (i2 - i2 / (kc (0 : Int32).toNatClampNeg) * (kc (0 : Int32).toNatClampNeg))) + (4 : Int32)).toNatClampNeg ((ka (((5 : Int32) * (i2 - i2 / (kc (0 : Int32).toNatClampNeg) * (kc (0 : Int32).toNatClampNeg))) + (4 : Int32)).toNatClampNeg) ||| v43)), kr, kc, kl)
          else
            some ((0 : Int32), lo, (yy_0, yy_1, yy_2, yy_3, yy_4, yy_5, yy_6, o44.2.1, o44.2.2.1), o44.2.2.2.1, o44.2.2.2.2, (upd ka (((5 : Int32) * (i2 - i2 / (kc (0 : Int32).toNatClampNeg) * (kc (0 : Int32).toNatClampNeg))) + (4 : Int32)).toNatClampNeg ((ka (((5 : Int32) * (i2 - i2 / (kc (0 : Int32).toNatClampNeg) * (kc (0 : Int32).toNatClampNeg))) + (4 : Int32)).toNatClampNeg) ||| v43)), kr, kc, kl) := rfl
