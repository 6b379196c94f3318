def f_X3_plans_l11  : Nat → Int32 → xF → xF → Option (xF × xF)
  | 0, _, _, _ => none
  | k9 + 1, x1_2, zz13_2, zz14_2 =>
    if (12 : Int32) ≤ x1_2 then
      some (zz13_2, zz14_2)
    else
      if x1_2 < 0 ∨ 12 ≤ x1_2.toNatClampNeg then none else
      f_X3_plans_l11  k9 (x1_2 + (1 : Int32)) (upd zz13_2 x1_2.toNatClampNeg (0 : Int32)) (upd zz14_2 x1_2.toNatClampNeg (0 : Int32))
theorem f_X3_plans_l11_z  (x1_2 : Int32) (zz13_2 : xF) (zz14_2 : xF) : f_X3_plans_l11  0 x1_2 zz13_2 zz14_2 = none := rfl
theorem f_X3_plans_l11_s  (k9 : Nat) (x1_2 : Int32) (zz13_2 : xF) (zz14_2 : xF) : f_X3_plans_l11  (k9 + 1) x1_2 zz13_2 zz14_2 =
    if (12 : Int32) ≤ x1_2 then
      some (zz13_2, zz14_2)
    else
      if x1_2 < 0 ∨ 12 ≤ x1_2.toNatClampNeg then none else
      f_X3_plans_l11  k9 (x1_2 + (1 : Int32)) (upd zz13_2 x1_2.toNatClampNeg (0 : Int32)) (upd zz14_2 x1_2.toNatClampNeg (0 : Int32)) := rfl
def f_X3_plans_l39  : Nat → Int32 → xF → Option (xF)
  | 0, _, _ => none
  | k9 + 1, x1_6, zz11_6 =>
    if (60 : Int32) ≤ x1_6 then
      some zz11_6
    else
      if x1_6 < 0 ∨ 60 ≤ x1_6.toNatClampNeg then none else
      f_X3_plans_l39  k9 (x1_6 + (1 : Int32)) (upd zz11_6 x1_6.toNatClampNeg ((-1) : Int32))
theorem f_X3_plans_l39_z  (x1_6 : Int32) (zz11_6 : xF) : f_X3_plans_l39  0 x1_6 zz11_6 = none := rfl
theorem f_X3_plans_l39_s  (k9 : Nat) (x1_6 : Int32) (zz11_6 : xF) : f_X3_plans_l39  (k9 + 1) x1_6 zz11_6 =
    if (60 : Int32) ≤ x1_6 then
      some zz11_6
    else
      if x1_6 < 0 ∨ 60 ≤ x1_6.toNatClampNeg then none else
      f_X3_plans_l39  k9 (x1_6 + (1 : Int32)) (upd zz11_6 x1_6.toNatClampNeg ((-1) : Int32)) := rfl
def f_X3_plans_l60  : Nat → Int32 → xF → Option (xF)
  | 0, _, _ => none
  | k9 + 1, x1_10, zz12_10 =>
    if (36 : Int32) ≤ x1_10 then
      some zz12_10
    else
      if x1_10 < 0 ∨ 36 ≤ x1_10.toNatClampNeg then none else
      f_X3_plans_l60  k9 (x1_10 + (1 : Int32)) (upd zz12_10 x1_10.toNatClampNeg ((-1) : Int32))
theorem f_X3_plans_l60_z  (x1_10 : Int32) (zz12_10 : xF) : f_X3_plans_l60  0 x1_10 zz12_10 = none := rfl
theorem f_X3_plans_l60_s  (k9 : Nat) (x1_10 : Int32) (zz12_10 : xF) : f_X3_plans_l60  (k9 + 1) x1_10 zz12_10 =
    if (36 : Int32) ≤ x1_10 then
      some zz12_10
    else
      if x1_10 < 0 ∨ 36 ≤ x1_10.toNatClampNeg then none else
      f_X3_plans_l60  k9 (x1_10 + (1 : Int32)) (upd zz12_10 x1_10.toNatClampNeg ((-1) : Int32)) := rfl
def f_X3_plans_l81 (zz_0 : Int32) (zz_1 : xF) (zz_2 : xF) (zz_3 : xF) (zz_4 : xF) (zz_5 : xF) (zz_6 : xF) (zz_7 : xF) (zz_8 : xF) (zz_15 : xF) (zz_17 : Int32) (o1 : xF) : Nat → Int32 → xF → xF → xF → xF → xF → Int32 → Option (xF × xF × xF × xF × xF × Int32)
  | 0, _, _, _, _, _, _, _ => none
  | k9 + 1, x1_14, zz10_14, zz11_14, zz12_14, zz13_14, zz14_14, zz16_14 =>
    if (100 : Int32) ≤ x1_14 then
      some (zz10_14, zz11_14, zz12_14, zz13_14, zz14_14, zz16_14)
    else
      if x1_14 < 0 ∨ 100 ≤ x1_14.toNatClampNeg then none else
      Option.bind (
        if (zz_8 x1_14.toNatClampNeg) = 0 then
          Option.bind (f_X3_revisitFor (zz_0, zz_1, zz_2, zz_3, zz_4, zz_5, zz_6, zz_7, zz_8, o1, (upd zz10_14 x1_14.toNatClampNeg ((-1) : Int32)), zz11_14, zz12_14, zz13_14, zz14_14, zz_15, zz16_14, zz_17) x1_14) fun (o34 : Int32) =>
          some o34
        else
          some ((-1) : Int32)) fun (v18 : Int32) =>
      Option.bind (
        if (zz_8 x1_14.toNatClampNeg) = 0 then
          Option.bind (f_X3_nextAim (zz_0, zz_1, zz_2, zz_3, zz_4, zz_5, zz_6, zz_7, zz_8, o1, (upd zz10_14 x1_14.toNatClampNeg ((-1) : Int32)), zz11_14, zz12_14, zz13_14, zz14_14, zz_15, zz16_14, zz_17)) fun (o32 : Int32) =>
          some o32
        else
          some ((-1) : Int32)) fun (v19 : Int32) =>
      if v18 = ((-1) : Int32) then
        if v19 = ((-1) : Int32) then
          f_X3_plans_l81 zz_0 zz_1 zz_2 zz_3 zz_4 zz_5 zz_6 zz_7 zz_8 zz_15 zz_17 o1 k9 (x1_14 + (1 : Int32)) (upd zz10_14 x1_14.toNatClampNeg ((-1) : Int32)) zz11_14 zz12_14 zz13_14 zz14_14 zz16_14
        else
          Option.bind (f_X3_isHeld (zz_0, zz_1, zz_2, zz_3, zz_4, zz_5, zz_6, zz_7, zz_8, o1, (upd zz10_14 x1_14.toNatClampNeg ((-1) : Int32)), zz11_14, zz12_14, zz13_14, zz14_14, zz_15, zz16_14, zz_17) v19 x1_14) fun (o22 : Int32) =>
          if o22 = 0 then
            if v19 < 0 ∨ 12 ≤ v19.toNatClampNeg then none else
            if (((5 : Int32) * v19) + (zz13_14 v19.toNatClampNeg)) < 0 ∨ 60 ≤ (((5 : Int32) * v19) + (zz13_14 v19.toNatClampNeg)).toNatClampNeg then none else
            f_X3_plans_l81 zz_0 zz_1 zz_2 zz_3 zz_4 zz_5 zz_6 zz_7 zz_8 zz_15 zz_17 o1 k9 (x1_14 + (1 : Int32)) (upd (upd zz10_14 x1_14.toNatClampNeg ((-1) : Int32)) x1_14.toNatClampNeg v19) (upd zz11_14 (((5 : Int32) * v19) + (zz13_14 v19.toNatClampNeg)).toNatClampNeg x1_14) zz12_14 (upd zz13_14 v19.toNatClampNeg ((zz13_14 v19.toNatClampNeg) + (1 : Int32))) zz14_14 zz16_14
          else
            f_X3_plans_l81 zz_0 zz_1 zz_2 zz_3 zz_4 zz_5 zz_6 zz_7 zz_8 zz_15 zz_17 o1 k9 (x1_14 + (1 : Int32)) (upd zz10_14 x1_14.toNatClampNeg ((-1) : Int32)) zz11_14 zz12_14 zz13_14 zz14_14 zz16_14
      else
        Option.bind (f_X3_lateFrom (zz_0, zz_1, zz_2, zz_3, zz_4, zz_5, zz_6, zz_7, zz_8, o1, (upd zz10_14 x1_14.toNatClampNeg ((-1) : Int32)), zz11_14, zz12_14, zz13_14, zz14_14, zz_15, zz16_14, zz_17) v18) fun (o26 : Int32) =>
        Option.bind (
          if x1_14 < o26 then
            some (0 : Int32)
          else
            some (1 : Int32)) fun (v27 : Int32) =>
        if v18 < 0 ∨ 12 ≤ v18.toNatClampNeg then none else
        if (((3 : Int32) * v18) + (zz14_14 v18.toNatClampNeg)) < 0 ∨ 36 ≤ (((3 : Int32) * v18) + (zz14_14 v18.toNatClampNeg)).toNatClampNeg then none else
        f_X3_plans_l81 zz_0 zz_1 zz_2 zz_3 zz_4 zz_5 zz_6 zz_7 zz_8 zz_15 zz_17 o1 k9 (x1_14 + (1 : Int32)) (upd (upd zz10_14 x1_14.toNatClampNeg ((-1) : Int32)) x1_14.toNatClampNeg ((100 : Int32) + v18)) zz11_14 (upd zz12_14 (((3 : Int32) * v18) + (zz14_14 v18.toNatClampNeg)).toNatClampNeg x1_14) zz13_14 (upd zz14_14 v18.toNatClampNeg ((zz14_14 v18.toNatClampNeg) + (1 : Int32))) (zz16_14 + v27)
theorem f_X3_plans_l81_z (zz_0 : Int32) (zz_1 : xF) (zz_2 : xF) (zz_3 : xF) (zz_4 : xF) (zz_5 : xF) (zz_6 : xF) (zz_7 : xF) (zz_8 : xF) (zz_15 : xF) (zz_17 : Int32) (o1 : xF) (x1_14 : Int32) (zz10_14 : xF) (zz11_14 : xF) (zz12_14 : xF) (zz13_14 : xF) (zz14_14 : xF) (zz16_14 : Int32) : f_X3_plans_l81 zz_0 zz_1 zz_2 zz_3 zz_4 zz_5 zz_6 zz_7 zz_8 zz_15 zz_17 o1 0 x1_14 zz10_14 zz11_14 zz12_14 zz13_14 zz14_14 zz16_14 = none := rfl
theorem f_X3_plans_l81_s (zz_0 : Int32) (zz_1 : xF) (zz_2 : xF) (zz_3 : xF) (zz_4 : xF) (zz_5 : xF) (zz_6 : xF) (zz_7 : xF) (zz_8 : xF) (zz_15 : xF) (zz_17 : Int32) (o1 : xF) (k9 : Nat) (x1_14 : Int32) (zz10_14 : xF) (zz11_14 : xF) (zz12_14 : xF) (zz13_14 : xF) (zz14_14 : xF) (zz16_14 : Int32) : f_X3_plans_l81 zz_0 zz_1 zz_2 zz_3 zz_4 zz_5 zz_6 zz_7 zz_8 zz_15 zz_17 o1 (k9 + 1) x1_14 zz10_14 zz11_14 zz12_14 zz13_14 zz14_14 zz16_14 =
    if (100 : Int32) ≤ x1_14 then
      some (zz10_14, zz11_14, zz12_14, zz13_14, zz14_14, zz16_14)
    else
      if x1_14 < 0 ∨ 100 ≤ x1_14.toNatClampNeg then none else
      Option.bind (
        if (zz_8 x1_14.toNatClampNeg) = 0 then
          Option.bind (f_X3_revisitFor (zz_0, zz_1, zz_2, zz_3, zz_4, zz_5, zz_6, zz_7, zz_8, o1, (upd zz10_14 x1_14.toNatClampNeg ((-1) : Int32)), zz11_14, zz12_14, zz13_14, zz14_14, zz_15, zz16_14, zz_17) x1_14) fun (o34 : Int32) =>
          some o34
        else
          some ((-1) : Int32)) fun (v18 : Int32) =>
      Option.bind (
        if (zz_8 x1_14.toNatClampNeg) = 0 then
          Option.bind (f_X3_nextAim (zz_0, zz_1, zz_2, zz_3, zz_4, zz_5, zz_6, zz_7, zz_8, o1, (upd zz10_14 x1_14.toNatClampNeg ((-1) : Int32)), zz11_14, zz12_14, zz13_14, zz14_14, zz_15, zz16_14, zz_17)) fun (o32 : Int32) =>
          some o32
        else
          some ((-1) : Int32)) fun (v19 : Int32) =>
      if v18 = ((-1) : Int32) then
        if v19 = ((-1) : Int32) then
          f_X3_plans_l81 zz_0 zz_1 zz_2 zz_3 zz_4 zz_5 zz_6 zz_7 zz_8 zz_15 zz_17 o1 k9 (x1_14 + (1 : Int32)) (upd zz10_14 x1_14.toNatClampNeg ((-1) : Int32)) zz11_14 zz12_14 zz13_14 zz14_14 zz16_14
        else
          Option.bind (f_X3_isHeld (zz_0, zz_1, zz_2, zz_3, zz_4, zz_5, zz_6, zz_7, zz_8, o1, (upd zz10_14 x1_14.toNatClampNeg ((-1) : Int32)), zz11_14, zz12_14, zz13_14, zz14_14, zz_15, zz16_14, zz_17) v19 x1_14) fun (o22 : Int32) =>
          if o22 = 0 then
            if v19 < 0 ∨ 12 ≤ v19.toNatClampNeg then none else
            if (((5 : Int32) * v19) + (zz13_14 v19.toNatClampNeg)) < 0 ∨ 60 ≤ (((5 : Int32) * v19) + (zz13_14 v19.toNatClampNeg)).toNatClampNeg then none else
            f_X3_plans_l81 zz_0 zz_1 zz_2 zz_3 zz_4 zz_5 zz_6 zz_7 zz_8 zz_15 zz_17 o1 k9 (x1_14 + (1 : Int32)) (upd (upd zz10_14 x1_14.toNatClampNeg ((-1) : Int32)) x1_14.toNatClampNeg v19) (upd zz11_14 (((5 : Int32) * v19) + (zz13_14 v19.toNatClampNeg)).toNatClampNeg x1_14) zz12_14 (upd zz13_14 v19.toNatClampNeg ((zz13_14 v19.toNatClampNeg) + (1 : Int32))) zz14_14 zz16_14
          else
            f_X3_plans_l81 zz_0 zz_1 zz_2 zz_3 zz_4 zz_5 zz_6 zz_7 zz_8 zz_15 zz_17 o1 k9 (x1_14 + (1 : Int32)) (upd zz10_14 x1_14.toNatClampNeg ((-1) : Int32)) zz11_14 zz12_14 zz13_14 zz14_14 zz16_14
      else
        Option.bind (f_X3_lateFrom (zz_0, zz_1, zz_2, zz_3, zz_4, zz_5, zz_6, zz_7, zz_8, o1, (upd zz10_14 x1_14.toNatClampNeg ((-1) : Int32)), zz11_14, zz12_14, zz13_14, zz14_14, zz_15, zz16_14, zz_17) v18) fun (o26 : Int32) =>
        Option.bind (
          if x1_14 < o26 then
            some (0 : Int32)
          else
            some (1 : Int32)) fun (v27 : Int32) =>
        if v18 < 0 ∨ 12 ≤ v18.toNatClampNeg then none else
        if (((3 : Int32) * v18) + (zz14_14 v18.toNatClampNeg)) < 0 ∨ 36 ≤ (((3 : Int32) * v18) + (zz14_14 v18.toNatClampNeg)).toNatClampNeg then none else
        f_X3_plans_l81 zz_0 zz_1 zz_2 zz_3 zz_4 zz_5 zz_6 zz_7 zz_8 zz_15 zz_17 o1 k9 (x1_14 + (1 : Int32)) (upd (upd zz10_14 x1_14.toNatClampNeg ((-1) : Int32)) x1_14.toNatClampNeg ((100 : Int32) + v18)) zz11_14 (upd zz12_14 (((3 : Int32) * v18) + (zz14_14 v18.toNatClampNeg)).toNatClampNeg x1_14) zz13_14 (upd zz14_14 v18.toNatClampNeg ((zz14_14 v18.toNatClampNeg) + (1 : Int32))) (zz16_14 + v27) := rfl
def f_X3_plans (zz : xMO) : Option (xF × xF × xF × xF × xF × xF × Int32) :=
  Option.bind (f_X3_orders (zz.1, zz.2.1, zz.2.2.1, zz.2.2.2.1, zz.2.2.2.2.1, zz.2.2.2.2.2.1, zz.2.2.2.2.2.2.1, zz.2.2.2.2.2.2.2.1, zz.2.2.2.2.2.2.2.2.1, zz.2.2.2.2.2.2.2.2.2.1, zz.2.2.2.2.2.2.2.2.2.2.1, zz.2.2.2.2.2.2.2.2.2.2.2.1, zz.2.2.2.2.2.2.2.2.2.2.2.2.1, zz.2.2.2.2.2.2.2.2.2.2.2.2.2.1, zz.2.2.2.2.2.2.2.2.2.2.2.2.2.2.1, zz.2.2.2.2.2.2.2.2.2.2.2.2.2.2.2.1, zz.2.2.2.2.2.2.2.2.2.2.2.2.2.2.2.2.1, zz.2.2.2.2.2.2.2.2.2.2.2.2.2.2.2.2.2)) fun (o1 : xF) =>
  Option.bind (f_X3_plans_l11  300 (0 : Int32) zz.2.2.2.2.2.2.2.2.2.2.2.2.2.1 zz.2.2.2.2.2.2.2.2.2.2.2.2.2.2.1) fun (w3 : xF × xF) =>
  Option.bind (f_X3_plans_l39  300 (0 : Int32) zz.2.2.2.2.2.2.2.2.2.2.2.1) fun (w7 : xF) =>
  Option.bind (f_X3_plans_l60  300 (0 : Int32) zz.2.2.2.2.2.2.2.2.2.2.2.2.1) fun (w11 : xF) =>
  Option.bind (f_X3_plans_l81 zz.1 zz.2.1 zz.2.2.1 zz.2.2.2.1 zz.2.2.2.2.1 zz.2.2.2.2.2.1 zz.2.2.2.2.2.2.1 zz.2.2.2.2.2.2.2.1 zz.2.2.2.2.2.2.2.2.1 zz.2.2.2.2.2.2.2.2.2.2.2.2.2.2.2.1 zz.2.2.2.2.2.2.2.2.2.2.2.2.2.2.2.2.2 o1 300 (0 : Int32) zz.2.2.2.2.2.2.2.2.2.2.1 w7 w11 w3.1 w3.2 (0 : Int32)) fun (w15 : xF × xF × xF × xF × xF × Int32) =>
  some (o1, w15.1, w15.2.1, w15.2.2.1, w15.2.2.2.1, w15.2.2.2.2.1, w15.2.2.2.2.2)
theorem f_X3_plans_e (zz_0 : Int32) (zz_1 : xF) (zz_2 : xF) (zz_3 : xF) (zz_4 : xF) (zz_5 : xF) (zz_6 : xF) (zz_7 : xF) (zz_8 : xF) (zz_9 : xF) (zz_10 : xF) (zz_11 : xF) (zz_12 : xF) (zz_13 : xF) (zz_14 : xF) (zz_15 : xF) (zz_16 : Int32) (zz_17 : Int32) : f_X3_plans (zz_0, zz_1, zz_2, zz_3, zz_4, zz_5, zz_6, zz_7, zz_8, zz_9, zz_10, zz_11, zz_12, zz_13, zz_14, zz_15, zz_16, zz_17) =
  Option.bind (f_X3_orders (zz_0, zz_1, zz_2, zz_3, zz_4, zz_5, zz_6, zz_7, zz_8, zz_9, zz_10, zz_11, zz_12, zz_13, zz_14, zz_15, zz_16, zz_17)) fun (o1 : xF) =>
  Option.bind (f_X3_plans_l11  300 (0 : Int32) zz_13 zz_14) fun (w3 : xF × xF) =>
  Option.bind (f_X3_plans_l39  300 (0 : Int32) zz_11) fun (w7 : xF) =>
  Option.bind (f_X3_plans_l60  300 (0 : Int32) zz_12) fun (w11 : xF) =>
  Option.bind (f_X3_plans_l81 zz_0 zz_1 zz_2 zz_3 zz_4 zz_5 zz_6 zz_7 zz_8 zz_15 zz_17 o1 300 (0 : Int32) zz_10 w7 w11 w3.1 w3.2 (0 : Int32)) fun (w15 : xF × xF × xF × xF × xF × Int32) =>
  some (o1, w15.1, w15.2.1, w15.2.2.1, w15.2.2.2.1, w15.2.2.2.2.1, w15.2.2.2.2.2) := rfl
set_option maxHeartbeats 4000000 in
set_option maxRecDepth 100000 in
theorem c_X3_plans (l : Launch) (G : xG) (za : (Nat → Nat)) (zz : xMO) (o : xF × xF × xF × xF × xF × xF × Int32) (h : f_X3_plans zz = some o) : xk_CV l yX3_plans wsX3_plans ({ frames := 3, cells := 0, slots := 0, locals := 67 } : Room) 0 0 [.ref (za 0)] G (wMOc G za zz.1 zz.2.1 zz.2.2.1 zz.2.2.2.1 zz.2.2.2.2.1 zz.2.2.2.2.2.1 zz.2.2.2.2.2.2.1 zz.2.2.2.2.2.2.2.1 zz.2.2.2.2.2.2.2.2.1 zz.2.2.2.2.2.2.2.2.2.1 zz.2.2.2.2.2.2.2.2.2.2.1 zz.2.2.2.2.2.2.2.2.2.2.2.1 zz.2.2.2.2.2.2.2.2.2.2.2.2.1 zz.2.2.2.2.2.2.2.2.2.2.2.2.2.1 zz.2.2.2.2.2.2.2.2.2.2.2.2.2.2.1 zz.2.2.2.2.2.2.2.2.2.2.2.2.2.2.2.1 zz.2.2.2.2.2.2.2.2.2.2.2.2.2.2.2.2.1 zz.2.2.2.2.2.2.2.2.2.2.2.2.2.2.2.2.2) (wMOc G za zz.1 zz.2.1 zz.2.2.1 zz.2.2.2.1 zz.2.2.2.2.1 zz.2.2.2.2.2.1 zz.2.2.2.2.2.2.1 zz.2.2.2.2.2.2.2.1 zz.2.2.2.2.2.2.2.2.1 o.1 o.2.1 o.2.2.1 o.2.2.2.1 o.2.2.2.2.1 o.2.2.2.2.2.1 zz.2.2.2.2.2.2.2.2.2.2.2.2.2.2.2.1 o.2.2.2.2.2.2 zz.2.2.2.2.2.2.2.2.2.2.2.2.2.2.2.2.2) := by
  obtain ⟨zz_0, zz_1, zz_2, zz_3, zz_4, zz_5, zz_6, zz_7, zz_8, zz_9, zz_10, zz_11, zz_12, zz_13, zz_14, zz_15, zz_16, zz_17⟩ := zz
  refine xk_CV.of (cc := cX3_plans) (maxL := 4) (ret := none) (by decide) rfl (Nat.le_of_ble_eq_true rfl) ?_
  intro pr9 en9 s mm9 bl9 meth9 cd9 A ls H locs hx hb hr hml hts hown hlk hA hP hK hD hNE hS hl
  have hown : s.vm.findClass RX3 = some mm9.cls := hown
  have hl : lv_has ls 4 [(0, .ref (za 0))] := hl
  have hinX3 : ∀ w ∈ u_ws RX3 TX3 18, w ∈ wsX3_plans := by decide +kernel
  have hP : va_P G.1 vwCl (wMOc G za zz_0 zz_1 zz_2 zz_3 zz_4 zz_5 zz_6 zz_7 zz_8 zz_9 zz_10 zz_11 zz_12 zz_13 zz_14 zz_15 zz_16 zz_17) H := hP
  have hD : va_D A (wMOc G za zz_0 zz_1 zz_2 zz_3 zz_4 zz_5 zz_6 zz_7 zz_8 zz_9 zz_10 zz_11 zz_12 zz_13 zz_14 zz_15 zz_16 zz_17) := hD
  have h := (f_X3_plans_e zz_0 zz_1 zz_2 zz_3 zz_4 zz_5 zz_6 zz_7 zz_8 zz_9 zz_10 zz_11 zz_12 zz_13 zz_14 zz_15 zz_16 zz_17).symm.trans h
  refine lv_aload_n hx hb dX3_plans_0 rfl (lv_at hl 0 rfl) ?_
  obtain ⟨o1, ho1, h⟩ := sp_b h
  refine xk_cv (va_runV (As := []) (rest := []) ⟨hx, hb, hml, hown, hts⟩ (c_X3_orders l G za (zz_0, zz_1, zz_2, zz_3, zz_4, zz_5, zz_6, zz_7, zz_8, zz_9, zz_10, zz_11, zz_12, zz_13, zz_14, zz_15, zz_16, zz_17) o1 ho1 H.size) (cwV 0 hts gX3_plans_X3_orders rfl rfl rfl (by decide +kernel) ⟨Nat.le_of_ble_eq_true rfl, Nat.le_of_ble_eq_true rfl⟩) (xk_preV hK hNE (hP.sub (ws' := (wMOc G za zz_0 zz_1 zz_2 zz_3 zz_4 zz_5 zz_6 zz_7 zz_8 zz_9 zz_10 zz_11 zz_12 zz_13 zz_14 zz_15 zz_16 zz_17)) [0, 1, 2, 3, 4, 5, 6, 7, 8, 9, 10, 11, 12, 13, 14, 15] rfl) (hD.sub (ws' := (wMOc G za zz_0 zz_1 zz_2 zz_3 zz_4 zz_5 zz_6 zz_7 zz_8 zz_9 zz_10 zz_11 zz_12 zz_13 zz_14 zz_15 zz_16 zz_17)) [0, 1, 2, 3, 4, 5, 6, 7, 8, 9, 10, 11, 12, 13, 14, 15] (by decide) rfl) (ci := 3) rfl rfl) rfl rfl hl.1 rfl (lv_room (Nat.le_of_ble_eq_true rfl)) dX3_plans_1 ⟨Nat.le_of_ble_eq_true rfl, Nat.le_of_ble_eq_true rfl⟩) hP hD hS hA [0, 1, 2, 3, 4, 5, 6, 7, 8, 9, 10, 11, 12, 13, 14, 15] [] [0, 1, 2, 3, 4, 5, 6, 7, 8, 9, 10, 11, 12, 13, 14, 15] rfl rfl (by decide) (by decide) rfl (by decide) (fun H locs hP hD hS => ?_)
  have hP : va_P G.1 vwCl (wMOc G za zz_0 zz_1 zz_2 zz_3 zz_4 zz_5 zz_6 zz_7 zz_8 o1 zz_10 zz_11 zz_12 zz_13 zz_14 zz_15 zz_16 zz_17) H := hP
  have hD : va_D A (wMOc G za zz_0 zz_1 zz_2 zz_3 zz_4 zz_5 zz_6 zz_7 zz_8 o1 zz_10 zz_11 zz_12 zz_13 zz_14 zz_15 zz_16 zz_17) := hD
  refine lv_aload_n hx hb dX3_plans_4 rfl (lv_at hl 0 rfl) ?_
  refine lv_iconst (v := (0 : Int32)) hx hb dX3_plans_5 (by decide) ?_
  refine va_put (D := G.1) (ci := 3) (v := .int (0 : Int32)) (ty := .int) (C := RX3) (T := TX3) (N := 18) hx hb hts hinX3 tyX3 tyX3_ok nmX3 hown hK hP hD hS 0 rfl rfl 16 (by decide) (hts (.fieldLink RX3 94 "LessonWeaveModel" "late" "I") (by decide +kernel)) (fun _ h9 => h9) rfl (by decide +kernel) rfl rfl (Nat.le_of_ble_eq_true rfl) dX3_plans_6 (fun H locs hP hD hS => ?_)
  have hP : va_P G.1 vwCl (wMOc G za zz_0 zz_1 zz_2 zz_3 zz_4 zz_5 zz_6 zz_7 zz_8 o1 zz_10 zz_11 zz_12 zz_13 zz_14 zz_15 (0 : Int32) zz_17) H := hP
  have hD : va_D A (wMOc G za zz_0 zz_1 zz_2 zz_3 zz_4 zz_5 zz_6 zz_7 zz_8 o1 zz_10 zz_11 zz_12 zz_13 zz_14 zz_15 (0 : Int32) zz_17) := hD
  refine lv_iconst (v := (0 : Int32)) hx hb dX3_plans_9 (by decide) ?_
  refine lv_istore_n (lv' := [(1, .int (0 : Int32)), (0, .ref (za 0))]) hx hb dX3_plans_10 rfl hl (by decide) rfl (fun ls hl => ?_)
  obtain ⟨w3, hw3, h⟩ := sp_b h
  refine xk_jn G A s.heap (wMOc G za zz_0 zz_1 zz_2 zz_3 zz_4 zz_5 zz_6 zz_7 zz_8 o1 zz_10 zz_11 zz_12 w3.1 w3.2 zz_15 (0 : Int32) zz_17) 4 [(0, .ref (za 0))] 37 [] (fun H locs hP hD hS ls hl => ?_) (fun J2 => ?_)
  · refine lv_iconst (v := (0 : Int32)) hx hb dX3_plans_37 (by decide) ?_
    refine lv_istore_n (lv' := [(1, .int (0 : Int32)), (0, .ref (za 0))]) hx hb dX3_plans_38 rfl hl (by decide) rfl (fun ls hl => ?_)
    obtain ⟨w7, hw7, h⟩ := sp_b h
    refine xk_jn G A s.heap (wMOc G za zz_0 zz_1 zz_2 zz_3 zz_4 zz_5 zz_6 zz_7 zz_8 o1 zz_10 w7 zz_12 w3.1 w3.2 zz_15 (0 : Int32) zz_17) 4 [(0, .ref (za 0))] 58 [] (fun H locs hP hD hS ls hl => ?_) (fun J6 => ?_)
    · refine lv_iconst (v := (0 : Int32)) hx hb dX3_plans_58 (by decide) ?_
      refine lv_istore_n (lv' := [(1, .int (0 : Int32)), (0, .ref (za 0))]) hx hb dX3_plans_59 rfl hl (by decide) rfl (fun ls hl => ?_)
      obtain ⟨w11, hw11, h⟩ := sp_b h
      refine xk_jn G A s.heap (wMOc G za zz_0 zz_1 zz_2 zz_3 zz_4 zz_5 zz_6 zz_7 zz_8 o1 zz_10 w7 w11 w3.1 w3.2 zz_15 (0 : Int32) zz_17) 4 [(0, .ref (za 0))] 79 [] (fun H locs hP hD hS ls hl => ?_) (fun J10 => ?_)
      · refine lv_iconst (v := (0 : Int32)) hx hb dX3_plans_79 (by decide) ?_
        refine lv_istore_n (lv' := [(1, .int (0 : Int32)), (0, .ref (za 0))]) hx hb dX3_plans_80 rfl hl (by decide) rfl (fun ls hl => ?_)
        obtain ⟨w15, hw15, h⟩ := sp_b h
        refine xk_jn G A s.heap (wMOc G za zz_0 zz_1 zz_2 zz_3 zz_4 zz_5 zz_6 zz_7 zz_8 o1 w15.1 w15.2.1 w15.2.2.1 w15.2.2.2.1 w15.2.2.2.2.1 zz_15 w15.2.2.2.2.2 zz_17) 4 [] 251 [] (fun H locs hP hD hS ls hl => ?_) (fun J14 => ?_)
        · obtain rfl := sp_s h
          exact xk_reV hx hb hr hlk hP hD hS dX3_plans_251
        · have h := hw15
          clear hw15
          refine xk_lp (α := Int32 × xF × xF × xF × xF × xF × Int32) G A s.heap (fun a_14 => (wMOc G za zz_0 zz_1 zz_2 zz_3 zz_4 zz_5 zz_6 zz_7 zz_8 o1 a_14.2.1 a_14.2.2.1 a_14.2.2.2.1 a_14.2.2.2.2.1 a_14.2.2.2.2.2.1 zz_15 a_14.2.2.2.2.2.2 zz_17)) 4 (fun a_14 => [(1, .int a_14.1), (0, .ref (za 0))]) 81 (fun n a_14 => f_X3_plans_l81 zz_0 zz_1 zz_2 zz_3 zz_4 zz_5 zz_6 zz_7 zz_8 zz_15 zz_17 o1 n a_14.1 a_14.2.1 a_14.2.2.1 a_14.2.2.2.1 a_14.2.2.2.2.1 a_14.2.2.2.2.2.1 a_14.2.2.2.2.2.2 = some w15) (fun a_14 h => ?_) (fun n ih_14 a_14 h H locs hP hD hS ls hl => ?_) (fun LL => ?_)
          · exact sp_n ((f_X3_plans_l81_z _ _ _ _ _ _ _ _ _ _ _ _ _ _ _ _ _ _ _).symm.trans h)
          · obtain ⟨x1_14, zz10_14, zz11_14, zz12_14, zz13_14, zz14_14, zz16_14⟩ := a_14
            have h := (f_X3_plans_l81_s zz_0 zz_1 zz_2 zz_3 zz_4 zz_5 zz_6 zz_7 zz_8 zz_15 zz_17 o1 n x1_14 zz10_14 zz11_14 zz12_14 zz13_14 zz14_14 zz16_14).symm.trans h
            have hP : va_P G.1 vwCl (wMOc G za zz_0 zz_1 zz_2 zz_3 zz_4 zz_5 zz_6 zz_7 zz_8 o1 zz10_14 zz11_14 zz12_14 zz13_14 zz14_14 zz_15 zz16_14 zz_17) H := hP
            have hD : va_D A (wMOc G za zz_0 zz_1 zz_2 zz_3 zz_4 zz_5 zz_6 zz_7 zz_8 o1 zz10_14 zz11_14 zz12_14 zz13_14 zz14_14 zz_15 zz16_14 zz_17) := hD
            have hl : lv_has ls 4 [(1, .int x1_14), (0, .ref (za 0))] := hl
            refine lv_iload_n hx hb dX3_plans_81 rfl (lv_at hl 0 rfl) ?_
            refine lv_bipush (v := (100 : Int32)) hx hb dX3_plans_82 (by decide) ?_
            refine lv_icmp_ge (tgt := 251) hx hb dX3_plans_84 (by decide) (fun c16 => ?_) (fun c16 => ?_)
            · have h := sp_t c16 h
              obtain rfl := sp_s h
              exact J14 _ _ hP hD hS _ (lv_sub hl [] rfl)
            · have h := sp_f c16 h
              refine lv_aload_n hx hb dX3_plans_87 rfl (lv_at hl 1 rfl) ?_
              refine va_get (D := G.1) (ci := 3) (v := .ref (za 10)) (C := RX3) (T := TX3) (N := 18) hx hb hts hinX3 hown hK hP 0 rfl rfl 10 (by decide) (hts (.fieldLink RX3 38 "LessonWeaveModel" "things" "[I") (by decide +kernel)) (fun _ h9 => h9) rfl dX3_plans_88 ?_
              refine lv_iload_n hx hb dX3_plans_91 rfl (lv_at hl 0 rfl) ?_
              refine lv_iconst (v := ((-1) : Int32)) hx hb dX3_plans_92 (by decide) ?_
              obtain ⟨hin17, h⟩ := sp_g h
              refine va_iast hx hb hK hP hD hS 10 0 rfl rfl hin17 dX3_plans_93 (fun H locs hP hD hS => ?_)
              have hP : va_P G.1 vwCl (wMOc G za zz_0 zz_1 zz_2 zz_3 zz_4 zz_5 zz_6 zz_7 zz_8 o1 (upd zz10_14 x1_14.toNatClampNeg ((-1) : Int32)) zz11_14 zz12_14 zz13_14 zz14_14 zz_15 zz16_14 zz_17) H := hP
              have hD : va_D A (wMOc G za zz_0 zz_1 zz_2 zz_3 zz_4 zz_5 zz_6 zz_7 zz_8 o1 (upd zz10_14 x1_14.toNatClampNeg ((-1) : Int32)) zz11_14 zz12_14 zz13_14 zz14_14 zz_15 zz16_14 zz_17) := hD
              refine lv_aload_n hx hb dX3_plans_94 rfl (lv_at hl 1 rfl) ?_
              refine va_get (D := G.1) (ci := 3) (v := .ref (za 8)) (C := RX3) (T := TX3) (N := 18) hx hb hts hinX3 hown hK hP 0 rfl rfl 8 (by decide) (hts (.fieldLink RX3 31 "LessonWeaveModel" "isLost" "[Z") (by decide +kernel)) (fun _ h9 => h9) rfl dX3_plans_95 ?_
              refine lv_iload_n hx hb dX3_plans_98 rfl (lv_at hl 0 rfl) ?_
              refine va_zald hx hb hK hP 8 1 rfl rfl hin17 dX3_plans_99 ?_
              obtain ⟨v18, hv18, h⟩ := sp_b h
              refine xk_jn G A s.heap (wMOc G za zz_0 zz_1 zz_2 zz_3 zz_4 zz_5 zz_6 zz_7 zz_8 o1 (upd zz10_14 x1_14.toNatClampNeg ((-1) : Int32)) zz11_14 zz12_14 zz13_14 zz14_14 zz_15 zz16_14 zz_17) 4 [(1, .int x1_14), (0, .ref (za 0))] 112 [.int v18] (fun H locs hP hD hS ls hl => ?_) (fun J18 => ?_)
              · refine lv_istore_n (lv' := [(2, .int v18), (1, .int x1_14), (0, .ref (za 0))]) hx hb dX3_plans_112 rfl hl (by decide) rfl (fun ls hl => ?_)
                refine lv_aload_n hx hb dX3_plans_113 rfl (lv_at hl 2 rfl) ?_
                refine va_get (D := G.1) (ci := 3) (v := .ref (za 8)) (C := RX3) (T := TX3) (N := 18) hx hb hts hinX3 hown hK hP 0 rfl rfl 8 (by decide) (hts (.fieldLink RX3 31 "LessonWeaveModel" "isLost" "[Z") (by decide +kernel)) (fun _ h9 => h9) rfl dX3_plans_114 ?_
                refine lv_iload_n hx hb dX3_plans_117 rfl (lv_at hl 1 rfl) ?_
                refine va_zald hx hb hK hP 8 1 rfl rfl hin17 dX3_plans_118 ?_
                obtain ⟨v19, hv19, h⟩ := sp_b h
                refine xk_jn G A s.heap (wMOc G za zz_0 zz_1 zz_2 zz_3 zz_4 zz_5 zz_6 zz_7 zz_8 o1 (upd zz10_14 x1_14.toNatClampNeg ((-1) : Int32)) zz11_14 zz12_14 zz13_14 zz14_14 zz_15 zz16_14 zz_17) 4 [(2, .int v18), (1, .int x1_14), (0, .ref (za 0))] 130 [.int v19] (fun H locs hP hD hS ls hl => ?_) (fun J19 => ?_)
                · refine lv_istore_n (lv' := [(3, .int v19), (2, .int v18), (1, .int x1_14), (0, .ref (za 0))]) hx hb dX3_plans_130 rfl hl (by decide) rfl (fun ls hl => ?_)
                  refine lv_iload_n hx hb dX3_plans_131 rfl (lv_at hl 1 rfl) ?_
                  refine lv_iconst (v := ((-1) : Int32)) hx hb dX3_plans_132 (by decide) ?_
                  refine lv_icmp_eq (tgt := 198) hx hb dX3_plans_133 (by decide) (fun c20 => ?_) (fun c20 => ?_)
                  · have h := sp_t c20 h
                    refine lv_iload_n hx hb dX3_plans_198 rfl (lv_at hl 0 rfl) ?_
                    refine lv_iconst (v := ((-1) : Int32)) hx hb dX3_plans_199 (by decide) ?_
                    refine lv_icmp_eq (tgt := 245) hx hb dX3_plans_200 (by decide) (fun c21 => ?_) (fun c21 => ?_)
                    · have h := sp_t c21 h
                      refine lv_iinc (v := (x1_14 + (1 : Int32))) (lv' := [(1, .int (x1_14 + (1 : Int32))), (3, .int v19), (2, .int v18), (0, .ref (za 0))]) hx hb dX3_plans_245 hl (k := 2) rfl rfl (by decide) rfl (fun ls hl => ?_)
                      refine lv_goto (tgt := 81) hx hb dX3_plans_248 (by decide) ?_
                      exact ih_14 ((x1_14 + (1 : Int32)), (upd zz10_14 x1_14.toNatClampNeg ((-1) : Int32)), zz11_14, zz12_14, zz13_14, zz14_14, zz16_14) h _ _ hP hD hS _ (lv_sub hl [0, 3] rfl)
                    · have h := sp_f c21 h
                      refine lv_aload_n hx hb dX3_plans_203 rfl (lv_at hl 3 rfl) ?_
                      refine lv_iload_n hx hb dX3_plans_204 rfl (lv_at hl 0 rfl) ?_
                      refine lv_iload_n hx hb dX3_plans_205 rfl (lv_at hl 2 rfl) ?_
                      obtain ⟨o22, ho22, h⟩ := sp_b h
                      refine xk_ci (va_runV (As := [.int v19, .int x1_14]) (rest := []) ⟨hx, hb, hml, hown, hts⟩ (c_X3_isHeld l G za (zz_0, zz_1, zz_2, zz_3, zz_4, zz_5, zz_6, zz_7, zz_8, o1, (upd zz10_14 x1_14.toNatClampNeg ((-1) : Int32)), zz11_14, zz12_14, zz13_14, zz14_14, zz_15, zz16_14, zz_17) v19 x1_14 o22 ho22 H.size) (cwV 2 hts gX3_plans_X3_isHeld rfl rfl rfl (by decide +kernel) ⟨Nat.le_of_ble_eq_true rfl, Nat.le_of_ble_eq_true rfl⟩) (xk_preV hK hNE (hP.sub (ws' := (wMOc G za zz_0 zz_1 zz_2 zz_3 zz_4 zz_5 zz_6 zz_7 zz_8 o1 (upd zz10_14 x1_14.toNatClampNeg ((-1) : Int32)) zz11_14 zz12_14 zz13_14 zz14_14 zz_15 zz16_14 zz_17)) [0, 1, 2, 3, 4, 5, 6, 7, 8, 9, 10, 11, 12, 13, 14, 15] rfl) (hD.sub (ws' := (wMOc G za zz_0 zz_1 zz_2 zz_3 zz_4 zz_5 zz_6 zz_7 zz_8 o1 (upd zz10_14 x1_14.toNatClampNeg ((-1) : Int32)) zz11_14 zz12_14 zz13_14 zz14_14 zz_15 zz16_14 zz_17)) [0, 1, 2, 3, 4, 5, 6, 7, 8, 9, 10, 11, 12, 13, 14, 15] (by decide) rfl) (ci := 3) rfl rfl) rfl rfl hl.1 rfl (lv_room (Nat.le_of_ble_eq_true rfl)) dX3_plans_206 ⟨Nat.le_of_ble_eq_true rfl, Nat.le_of_ble_eq_true rfl⟩) hP hD hS hA [0, 1, 2, 3, 4, 5, 6, 7, 8, 9, 10, 11, 12, 13, 14, 15] [] [0, 1, 2, 3, 4, 5, 6, 7, 8, 9, 10, 11, 12, 13, 14, 15] rfl rfl (by decide) (by decide) rfl (by decide) (fun H locs hP hD hS => ?_)
                      have hP : va_P G.1 vwCl (wMOc G za zz_0 zz_1 zz_2 zz_3 zz_4 zz_5 zz_6 zz_7 zz_8 o1 (upd zz10_14 x1_14.toNatClampNeg ((-1) : Int32)) zz11_14 zz12_14 zz13_14 zz14_14 zz_15 zz16_14 zz_17) H := hP
                      have hD : va_D A (wMOc G za zz_0 zz_1 zz_2 zz_3 zz_4 zz_5 zz_6 zz_7 zz_8 o1 (upd zz10_14 x1_14.toNatClampNeg ((-1) : Int32)) zz11_14 zz12_14 zz13_14 zz14_14 zz_15 zz16_14 zz_17) := hD
                      refine lv_if_ne (tgt := 245) hx hb dX3_plans_209 (by decide) (fun c23 => ?_) (fun c23 => ?_)
                      · have h := sp_f c23 h
                        refine lv_iinc (v := (x1_14 + (1 : Int32))) (lv' := [(1, .int (x1_14 + (1 : Int32))), (3, .int v19), (2, .int v18), (0, .ref (za 0))]) hx hb dX3_plans_245 hl (k := 2) rfl rfl (by decide) rfl (fun ls hl => ?_)
                        refine lv_goto (tgt := 81) hx hb dX3_plans_248 (by decide) ?_
                        exact ih_14 ((x1_14 + (1 : Int32)), (upd zz10_14 x1_14.toNatClampNeg ((-1) : Int32)), zz11_14, zz12_14, zz13_14, zz14_14, zz16_14) h _ _ hP hD hS _ (lv_sub hl [0, 3] rfl)
                      · have h := sp_t c23 h
                        refine lv_aload_n hx hb dX3_plans_212 rfl (lv_at hl 3 rfl) ?_
                        refine va_get (D := G.1) (ci := 3) (v := .ref (za 10)) (C := RX3) (T := TX3) (N := 18) hx hb hts hinX3 hown hK hP 0 rfl rfl 10 (by decide) (hts (.fieldLink RX3 38 "LessonWeaveModel" "things" "[I") (by decide +kernel)) (fun _ h9 => h9) rfl dX3_plans_213 ?_
                        refine lv_iload_n hx hb dX3_plans_216 rfl (lv_at hl 2 rfl) ?_
                        refine lv_iload_n hx hb dX3_plans_217 rfl (lv_at hl 0 rfl) ?_
                        refine va_iast hx hb hK hP hD hS 10 0 rfl rfl hin17 dX3_plans_218 (fun H locs hP hD hS => ?_)
                        have hP : va_P G.1 vwCl (wMOc G za zz_0 zz_1 zz_2 zz_3 zz_4 zz_5 zz_6 zz_7 zz_8 o1 (upd (upd zz10_14 x1_14.toNatClampNeg ((-1) : Int32)) x1_14.toNatClampNeg v19) zz11_14 zz12_14 zz13_14 zz14_14 zz_15 zz16_14 zz_17) H := hP
                        have hD : va_D A (wMOc G za zz_0 zz_1 zz_2 zz_3 zz_4 zz_5 zz_6 zz_7 zz_8 o1 (upd (upd zz10_14 x1_14.toNatClampNeg ((-1) : Int32)) x1_14.toNatClampNeg v19) zz11_14 zz12_14 zz13_14 zz14_14 zz_15 zz16_14 zz_17) := hD
                        refine lv_aload_n hx hb dX3_plans_219 rfl (lv_at hl 3 rfl) ?_
                        refine va_get (D := G.1) (ci := 3) (v := .ref (za 11)) (C := RX3) (T := TX3) (N := 18) hx hb hts hinX3 hown hK hP 0 rfl rfl 11 (by decide) (hts (.fieldLink RX3 41 "LessonWeaveModel" "lessonOn" "[I") (by decide +kernel)) (fun _ h9 => h9) rfl dX3_plans_220 ?_
                        refine lv_iconst (v := (5 : Int32)) hx hb dX3_plans_223 (by decide) ?_
                        refine lv_iload_n hx hb dX3_plans_224 rfl (lv_at hl 0 rfl) ?_
                        refine lv_imul hx hb dX3_plans_225 ?_
                        refine lv_aload_n hx hb dX3_plans_226 rfl (lv_at hl 3 rfl) ?_
                        refine va_get (D := G.1) (ci := 3) (v := .ref (za 13)) (C := RX3) (T := TX3) (N := 18) hx hb hts hinX3 hown hK hP 0 rfl rfl 13 (by decide) (hts (.fieldLink RX3 47 "LessonWeaveModel" "lessonsLaid" "[I") (by decide +kernel)) (fun _ h9 => h9) rfl dX3_plans_227 ?_
                        refine lv_iload_n hx hb dX3_plans_230 rfl (lv_at hl 0 rfl) ?_
                        obtain ⟨hin24, h⟩ := sp_g h
                        refine va_iald hx hb hK hP 13 0 rfl rfl hin24 dX3_plans_231 ?_
                        refine lv_iadd hx hb dX3_plans_232 ?_
                        refine lv_iload_n hx hb dX3_plans_233 rfl (lv_at hl 2 rfl) ?_
                        obtain ⟨hin25, h⟩ := sp_g h
                        refine va_iast hx hb hK hP hD hS 11 0 rfl rfl hin25 dX3_plans_234 (fun H locs hP hD hS => ?_)
                        have hP : va_P G.1 vwCl (wMOc G za zz_0 zz_1 zz_2 zz_3 zz_4 zz_5 zz_6 zz_7 zz_8 o1 (upd (upd zz10_14 x1_14.toNatClampNeg ((-1) : Int32)) x1_14.toNatClampNeg v19) (upd zz11_14 (((5 : Int32) * v19) + (zz13_14 v19.toNatClampNeg)).toNatClampNeg x1_14) zz12_14 zz13_14 zz14_14 zz_15 zz16_14 zz_17) H := hP
                        have hD : va_D A (wMOc G za zz_0 zz_1 zz_2 zz_3 zz_4 zz_5 zz_6 zz_7 zz_8 o1 (upd (upd zz10_14 x1_14.toNatClampNeg ((-1) : Int32)) x1_14.toNatClampNeg v19) (upd zz11_14 (((5 : Int32) * v19) + (zz13_14 v19.toNatClampNeg)).toNatClampNeg x1_14) zz12_14 zz13_14 zz14_14 zz_15 zz16_14 zz_17) := hD
                        refine lv_aload_n hx hb dX3_plans_235 rfl (lv_at hl 3 rfl) ?_
                        refine va_get (D := G.1) (ci := 3) (v := .ref (za 13)) (C := RX3) (T := TX3) (N := 18) hx hb hts hinX3 hown hK hP 0 rfl rfl 13 (by decide) (hts (.fieldLink RX3 47 "LessonWeaveModel" "lessonsLaid" "[I") (by decide +kernel)) (fun _ h9 => h9) rfl dX3_plans_236 ?_
                        refine lv_iload_n hx hb dX3_plans_239 rfl (lv_at hl 0 rfl) ?_
                        refine lv_dup2_11 hx hb dX3_plans_240 rfl rfl ?_
                        refine va_iald hx hb hK hP 13 0 rfl rfl hin24 dX3_plans_241 ?_
                        refine lv_iconst (v := (1 : Int32)) hx hb dX3_plans_242 (by decide) ?_
                        refine lv_iadd hx hb dX3_plans_243 ?_
                        refine va_iast hx hb hK hP hD hS 13 0 rfl rfl hin24 dX3_plans_244 (fun H locs hP hD hS => ?_)
                        have hP : va_P G.1 vwCl (wMOc G za zz_0 zz_1 zz_2 zz_3 zz_4 zz_5 zz_6 zz_7 zz_8 o1 (upd (upd zz10_14 x1_14.toNatClampNeg ((-1) : Int32)) x1_14.toNatClampNeg v19) (upd zz11_14 (((5 : Int32) * v19) + (zz13_14 v19.toNatClampNeg)).toNatClampNeg x1_14) zz12_14 (upd zz13_14 v19.toNatClampNeg ((zz13_14 v19.toNatClampNeg) + (1 : Int32))) zz14_14 zz_15 zz16_14 zz_17) H := hP
                        have hD : va_D A (wMOc G za zz_0 zz_1 zz_2 zz_3 zz_4 zz_5 zz_6 zz_7 zz_8 o1 (upd (upd zz10_14 x1_14.toNatClampNeg ((-1) : Int32)) x1_14.toNatClampNeg v19) (upd zz11_14 (((5 : Int32) * v19) + (zz13_14 v19.toNatClampNeg)).toNatClampNeg x1_14) zz12_14 (upd zz13_14 v19.toNatClampNeg ((zz13_14 v19.toNatClampNeg) + (1 : Int32))) zz14_14 zz_15 zz16_14 zz_17) := hD
                        refine lv_iinc (v := (x1_14 + (1 : Int32))) (lv' := [(1, .int (x1_14 + (1 : Int32))), (3, .int v19), (2, .int v18), (0, .ref (za 0))]) hx hb dX3_plans_245 hl (k := 2) rfl rfl (by decide) rfl (fun ls hl => ?_)
                        refine lv_goto (tgt := 81) hx hb dX3_plans_248 (by decide) ?_
                        exact ih_14 ((x1_14 + (1 : Int32)), (upd (upd zz10_14 x1_14.toNatClampNeg ((-1) : Int32)) x1_14.toNatClampNeg v19), (upd zz11_14 (((5 : Int32) * v19) + (zz13_14 v19.toNatClampNeg)).toNatClampNeg x1_14), zz12_14, (upd zz13_14 v19.toNatClampNeg ((zz13_14 v19.toNatClampNeg) + (1 : Int32))), zz14_14, zz16_14) h _ _ hP hD hS _ (lv_sub hl [0, 3] rfl)
                  · have h := sp_f c20 h
                    refine lv_aload_n hx hb dX3_plans_136 rfl (lv_at hl 3 rfl) ?_
                    refine lv_dup hx hb dX3_plans_137 rfl ?_
                    refine va_get (D := G.1) (ci := 3) (v := .int zz16_14) (C := RX3) (T := TX3) (N := 18) hx hb hts hinX3 hown hK hP 0 rfl rfl 16 (by decide) (hts (.fieldLink RX3 94 "LessonWeaveModel" "late" "I") (by decide +kernel)) (fun _ h9 => h9) rfl dX3_plans_138 ?_
                    refine lv_iload_n hx hb dX3_plans_141 rfl (lv_at hl 2 rfl) ?_
                    refine lv_aload_n hx hb dX3_plans_142 rfl (lv_at hl 3 rfl) ?_
                    refine lv_iload_n hx hb dX3_plans_143 rfl (lv_at hl 1 rfl) ?_
                    obtain ⟨o26, ho26, h⟩ := sp_b h
                    refine xk_ci (va_runV (As := [.int v18]) (rest := [.int x1_14, .int zz16_14, .ref (za 0)]) ⟨hx, hb, hml, hown, hts⟩ (c_X3_lateFrom l G za (zz_0, zz_1, zz_2, zz_3, zz_4, zz_5, zz_6, zz_7, zz_8, o1, (upd zz10_14 x1_14.toNatClampNeg ((-1) : Int32)), zz11_14, zz12_14, zz13_14, zz14_14, zz_15, zz16_14, zz_17) v18 o26 ho26 H.size) (cwV 1 hts gX3_plans_X3_lateFrom rfl rfl rfl (by decide +kernel) ⟨Nat.le_of_ble_eq_true rfl, Nat.le_of_ble_eq_true rfl⟩) (xk_preV hK hNE (hP.sub (ws' := (wMOc G za zz_0 zz_1 zz_2 zz_3 zz_4 zz_5 zz_6 zz_7 zz_8 o1 (upd zz10_14 x1_14.toNatClampNeg ((-1) : Int32)) zz11_14 zz12_14 zz13_14 zz14_14 zz_15 zz16_14 zz_17)) [0, 1, 2, 3, 4, 5, 6, 7, 8, 9, 10, 11, 12, 13, 14, 15] rfl) (hD.sub (ws' := (wMOc G za zz_0 zz_1 zz_2 zz_3 zz_4 zz_5 zz_6 zz_7 zz_8 o1 (upd zz10_14 x1_14.toNatClampNeg ((-1) : Int32)) zz11_14 zz12_14 zz13_14 zz14_14 zz_15 zz16_14 zz_17)) [0, 1, 2, 3, 4, 5, 6, 7, 8, 9, 10, 11, 12, 13, 14, 15] (by decide) rfl) (ci := 3) rfl rfl) rfl rfl hl.1 rfl (lv_room (Nat.le_of_ble_eq_true rfl)) dX3_plans_144 ⟨Nat.le_of_ble_eq_true rfl, Nat.le_of_ble_eq_true rfl⟩) hP hD hS hA [0, 1, 2, 3, 4, 5, 6, 7, 8, 9, 10, 11, 12, 13, 14, 15] [] [0, 1, 2, 3, 4, 5, 6, 7, 8, 9, 10, 11, 12, 13, 14, 15] rfl rfl (by decide) (by decide) rfl (by decide) (fun H locs hP hD hS => ?_)
                    have hP : va_P G.1 vwCl (wMOc G za zz_0 zz_1 zz_2 zz_3 zz_4 zz_5 zz_6 zz_7 zz_8 o1 (upd zz10_14 x1_14.toNatClampNeg ((-1) : Int32)) zz11_14 zz12_14 zz13_14 zz14_14 zz_15 zz16_14 zz_17) H := hP
                    have hD : va_D A (wMOc G za zz_0 zz_1 zz_2 zz_3 zz_4 zz_5 zz_6 zz_7 zz_8 o1 (upd zz10_14 x1_14.toNatClampNeg ((-1) : Int32)) zz11_14 zz12_14 zz13_14 zz14_14 zz_15 zz16_14 zz_17) := hD
                    obtain ⟨v27, hv27, h⟩ := sp_b h
                    refine xk_jn G A s.heap (wMOc G za zz_0 zz_1 zz_2 zz_3 zz_4 zz_5 zz_6 zz_7 zz_8 o1 (upd zz10_14 x1_14.toNatClampNeg ((-1) : Int32)) zz11_14 zz12_14 zz13_14 zz14_14 zz_15 zz16_14 zz_17) 4 [(2, .int v18), (1, .int x1_14), (0, .ref (za 0))] 155 [.int v27, .int zz16_14, .ref (za 0)] (fun H locs hP hD hS ls hl => ?_) (fun J27 => ?_)
                    · refine lv_iadd hx hb dX3_plans_155 ?_
                      refine va_put (D := G.1) (ci := 3) (v := .int (zz16_14 + v27)) (ty := .int) (C := RX3) (T := TX3) (N := 18) hx hb hts hinX3 tyX3 tyX3_ok nmX3 hown hK hP hD hS 0 rfl rfl 16 (by decide) (hts (.fieldLink RX3 94 "LessonWeaveModel" "late" "I") (by decide +kernel)) (fun _ h9 => h9) rfl (by decide +kernel) rfl rfl (Nat.le_of_ble_eq_true rfl) dX3_plans_156 (fun H locs hP hD hS => ?_)
                      have hP : va_P G.1 vwCl (wMOc G za zz_0 zz_1 zz_2 zz_3 zz_4 zz_5 zz_6 zz_7 zz_8 o1 (upd zz10_14 x1_14.toNatClampNeg ((-1) : Int32)) zz11_14 zz12_14 zz13_14 zz14_14 zz_15 (zz16_14 + v27) zz_17) H := hP
                      have hD : va_D A (wMOc G za zz_0 zz_1 zz_2 zz_3 zz_4 zz_5 zz_6 zz_7 zz_8 o1 (upd zz10_14 x1_14.toNatClampNeg ((-1) : Int32)) zz11_14 zz12_14 zz13_14 zz14_14 zz_15 (zz16_14 + v27) zz_17) := hD
                      refine lv_aload_n hx hb dX3_plans_159 rfl (lv_at hl 2 rfl) ?_
                      refine va_get (D := G.1) (ci := 3) (v := .ref (za 10)) (C := RX3) (T := TX3) (N := 18) hx hb hts hinX3 hown hK hP 0 rfl rfl 10 (by decide) (hts (.fieldLink RX3 38 "LessonWeaveModel" "things" "[I") (by decide +kernel)) (fun _ h9 => h9) rfl dX3_plans_160 ?_
                      refine lv_iload_n hx hb dX3_plans_163 rfl (lv_at hl 1 rfl) ?_
                      refine lv_bipush (v := (100 : Int32)) hx hb dX3_plans_164 (by decide) ?_
                      refine lv_iload_n hx hb dX3_plans_166 rfl (lv_at hl 0 rfl) ?_
                      refine lv_iadd hx hb dX3_plans_167 ?_
                      refine va_iast hx hb hK hP hD hS 10 0 rfl rfl hin17 dX3_plans_168 (fun H locs hP hD hS => ?_)
                      have hP : va_P G.1 vwCl (wMOc G za zz_0 zz_1 zz_2 zz_3 zz_4 zz_5 zz_6 zz_7 zz_8 o1 (upd (upd zz10_14 x1_14.toNatClampNeg ((-1) : Int32)) x1_14.toNatClampNeg ((100 : Int32) + v18)) zz11_14 zz12_14 zz13_14 zz14_14 zz_15 (zz16_14 + v27) zz_17) H := hP
                      have hD : va_D A (wMOc G za zz_0 zz_1 zz_2 zz_3 zz_4 zz_5 zz_6 zz_7 zz_8 o1 (upd (upd zz10_14 x1_14.toNatClampNeg ((-1) : Int32)) x1_14.toNatClampNeg ((100 : Int32) + v18)) zz11_14 zz12_14 zz13_14 zz14_14 zz_15 (zz16_14 + v27) zz_17) := hD
                      refine lv_aload_n hx hb dX3_plans_169 rfl (lv_at hl 2 rfl) ?_
                      refine va_get (D := G.1) (ci := 3) (v := .ref (za 12)) (C := RX3) (T := TX3) (N := 18) hx hb hts hinX3 hown hK hP 0 rfl rfl 12 (by decide) (hts (.fieldLink RX3 44 "LessonWeaveModel" "revisitOn" "[I") (by decide +kernel)) (fun _ h9 => h9) rfl dX3_plans_170 ?_
                      refine lv_iconst (v := (3 : Int32)) hx hb dX3_plans_173 (by decide) ?_
                      refine lv_iload_n hx hb dX3_plans_174 rfl (lv_at hl 0 rfl) ?_
                      refine lv_imul hx hb dX3_plans_175 ?_
                      refine lv_aload_n hx hb dX3_plans_176 rfl (lv_at hl 2 rfl) ?_
                      refine va_get (D := G.1) (ci := 3) (v := .ref (za 14)) (C := RX3) (T := TX3) (N := 18) hx hb hts hinX3 hown hK hP 0 rfl rfl 14 (by decide) (hts (.fieldLink RX3 50 "LessonWeaveModel" "revisitsLaid" "[I") (by decide +kernel)) (fun _ h9 => h9) rfl dX3_plans_177 ?_
                      refine lv_iload_n hx hb dX3_plans_180 rfl (lv_at hl 0 rfl) ?_
                      obtain ⟨hin28, h⟩ := sp_g h
                      refine va_iald hx hb hK hP 14 0 rfl rfl hin28 dX3_plans_181 ?_
                      refine lv_iadd hx hb dX3_plans_182 ?_
                      refine lv_iload_n hx hb dX3_plans_183 rfl (lv_at hl 1 rfl) ?_
                      obtain ⟨hin29, h⟩ := sp_g h
                      refine va_iast hx hb hK hP hD hS 12 0 rfl rfl hin29 dX3_plans_184 (fun H locs hP hD hS => ?_)
                      have hP : va_P G.1 vwCl (wMOc G za zz_0 zz_1 zz_2 zz_3 zz_4 zz_5 zz_6 zz_7 zz_8 o1 (upd (upd zz10_14 x1_14.toNatClampNeg ((-1) : Int32)) x1_14.toNatClampNeg ((100 : Int32) + v18)) zz11_14 (upd zz12_14 (((3 : Int32) * v18) + (zz14_14 v18.toNatClampNeg)).toNatClampNeg x1_14) zz13_14 zz14_14 zz_15 (zz16_14 + v27) zz_17) H := hP
                      have hD : va_D A (wMOc G za zz_0 zz_1 zz_2 zz_3 zz_4 zz_5 zz_6 zz_7 zz_8 o1 (upd (upd zz10_14 x1_14.toNatClampNeg ((-1) : Int32)) x1_14.toNatClampNeg ((100 : Int32) + v18)) zz11_14 (upd zz12_14 (((3 : Int32) * v18) + (zz14_14 v18.toNatClampNeg)).toNatClampNeg x1_14) zz13_14 zz14_14 zz_15 (zz16_14 + v27) zz_17) := hD
                      refine lv_aload_n hx hb dX3_plans_185 rfl (lv_at hl 2 rfl) ?_
                      refine va_get (D := G.1) (ci := 3) (v := .ref (za 14)) (C := RX3) (T := TX3) (N := 18) hx hb hts hinX3 hown hK hP 0 rfl rfl 14 (by decide) (hts (.fieldLink RX3 50 "LessonWeaveModel" "revisitsLaid" "[I") (by decide +kernel)) (fun _ h9 => h9) rfl dX3_plans_186 ?_
                      refine lv_iload_n hx hb dX3_plans_189 rfl (lv_at hl 0 rfl) ?_
                      refine lv_dup2_11 hx hb dX3_plans_190 rfl rfl ?_
                      refine va_iald hx hb hK hP 14 0 rfl rfl hin28 dX3_plans_191 ?_
                      refine lv_iconst (v := (1 : Int32)) hx hb dX3_plans_192 (by decide) ?_
                      refine lv_iadd hx hb dX3_plans_193 ?_
                      refine va_iast hx hb hK hP hD hS 14 0 rfl rfl hin28 dX3_plans_194 (fun H locs hP hD hS => ?_)
                      have hP : va_P G.1 vwCl (wMOc G za zz_0 zz_1 zz_2 zz_3 zz_4 zz_5 zz_6 zz_7 zz_8 o1 (upd (upd zz10_14 x1_14.toNatClampNeg ((-1) : Int32)) x1_14.toNatClampNeg ((100 : Int32) + v18)) zz11_14 (upd zz12_14 (((3 : Int32) * v18) + (zz14_14 v18.toNatClampNeg)).toNatClampNeg x1_14) zz13_14 (upd zz14_14 v18.toNatClampNeg ((zz14_14 v18.toNatClampNeg) + (1 : Int32))) zz_15 (zz16_14 + v27) zz_17) H := hP
                      have hD : va_D A (wMOc G za zz_0 zz_1 zz_2 zz_3 zz_4 zz_5 zz_6 zz_7 zz_8 o1 (upd (upd zz10_14 x1_14.toNatClampNeg ((-1) : Int32)) x1_14.toNatClampNeg ((100 : Int32) + v18)) zz11_14 (upd zz12_14 (((3 : Int32) * v18) + (zz14_14 v18.toNatClampNeg)).toNatClampNeg x1_14) zz13_14 (upd zz14_14 v18.toNatClampNeg ((zz14_14 v18.toNatClampNeg) + (1 : Int32))) zz_15 (zz16_14 + v27) zz_17) := hD
                      refine lv_goto (tgt := 245) hx hb dX3_plans_195 (by decide) ?_
                      refine lv_iinc (v := (x1_14 + (1 : Int32))) (lv' := [(1, .int (x1_14 + (1 : Int32))), (2, .int v18), (0, .ref (za 0))]) hx hb dX3_plans_245 hl (k := 1) rfl rfl (by decide) rfl (fun ls hl => ?_)
                      refine lv_goto (tgt := 81) hx hb dX3_plans_248 (by decide) ?_
                      exact ih_14 ((x1_14 + (1 : Int32)), (upd (upd zz10_14 x1_14.toNatClampNeg ((-1) : Int32)) x1_14.toNatClampNeg ((100 : Int32) + v18)), zz11_14, (upd zz12_14 (((3 : Int32) * v18) + (zz14_14 v18.toNatClampNeg)).toNatClampNeg x1_14), zz13_14, (upd zz14_14 v18.toNatClampNeg ((zz14_14 v18.toNatClampNeg) + (1 : Int32))), (zz16_14 + v27)) h _ _ hP hD hS _ (lv_sub hl [0, 2] rfl)
                    · have h := hv27
                      clear hv27
                      refine lv_icmp_lt (tgt := 154) hx hb dX3_plans_147 (by decide) (fun c30 => ?_) (fun c30 => ?_)
                      · have h := sp_t c30 h
                        refine lv_iconst (v := (0 : Int32)) hx hb dX3_plans_154 (by decide) ?_
                        obtain rfl := sp_s h
                        exact J27 _ _ hP hD hS _ (lv_sub hl [1, 2, 3] rfl)
                      · have h := sp_f c30 h
                        refine lv_iconst (v := (1 : Int32)) hx hb dX3_plans_150 (by decide) ?_
                        refine lv_goto (tgt := 155) hx hb dX3_plans_151 (by decide) ?_
                        obtain rfl := sp_s h
                        exact J27 _ _ hP hD hS _ (lv_sub hl [1, 2, 3] rfl)
                · have h := hv19
                  clear hv19
                  refine lv_if_eq (tgt := 126) hx hb dX3_plans_119 (by decide) (fun c31 => ?_) (fun c31 => ?_)
                  · have h := sp_t c31 h
                    refine lv_aload_n hx hb dX3_plans_126 rfl (lv_at hl 2 rfl) ?_
                    obtain ⟨o32, ho32, h⟩ := sp_b h
                    refine xk_ci (va_runV (As := []) (rest := []) ⟨hx, hb, hml, hown, hts⟩ (c_X3_nextAim l G za (zz_0, zz_1, zz_2, zz_3, zz_4, zz_5, zz_6, zz_7, zz_8, o1, (upd zz10_14 x1_14.toNatClampNeg ((-1) : Int32)), zz11_14, zz12_14, zz13_14, zz14_14, zz_15, zz16_14, zz_17) o32 ho32 H.size) (cwV 0 hts gX3_plans_X3_nextAim rfl rfl rfl (by decide +kernel) ⟨Nat.le_of_ble_eq_true rfl, Nat.le_of_ble_eq_true rfl⟩) (xk_preV hK hNE (hP.sub (ws' := (wMOc G za zz_0 zz_1 zz_2 zz_3 zz_4 zz_5 zz_6 zz_7 zz_8 o1 (upd zz10_14 x1_14.toNatClampNeg ((-1) : Int32)) zz11_14 zz12_14 zz13_14 zz14_14 zz_15 zz16_14 zz_17)) [0, 1, 2, 3, 4, 5, 6, 7, 8, 9, 10, 11, 12, 13, 14, 15] rfl) (hD.sub (ws' := (wMOc G za zz_0 zz_1 zz_2 zz_3 zz_4 zz_5 zz_6 zz_7 zz_8 o1 (upd zz10_14 x1_14.toNatClampNeg ((-1) : Int32)) zz11_14 zz12_14 zz13_14 zz14_14 zz_15 zz16_14 zz_17)) [0, 1, 2, 3, 4, 5, 6, 7, 8, 9, 10, 11, 12, 13, 14, 15] (by decide) rfl) (ci := 3) rfl rfl) rfl rfl hl.1 rfl (lv_room (Nat.le_of_ble_eq_true rfl)) dX3_plans_127 ⟨Nat.le_of_ble_eq_true rfl, Nat.le_of_ble_eq_true rfl⟩) hP hD hS hA [0, 1, 2, 3, 4, 5, 6, 7, 8, 9, 10, 11, 12, 13, 14, 15] [] [0, 1, 2, 3, 4, 5, 6, 7, 8, 9, 10, 11, 12, 13, 14, 15] rfl rfl (by decide) (by decide) rfl (by decide) (fun H locs hP hD hS => ?_)
                    have hP : va_P G.1 vwCl (wMOc G za zz_0 zz_1 zz_2 zz_3 zz_4 zz_5 zz_6 zz_7 zz_8 o1 (upd zz10_14 x1_14.toNatClampNeg ((-1) : Int32)) zz11_14 zz12_14 zz13_14 zz14_14 zz_15 zz16_14 zz_17) H := hP
                    have hD : va_D A (wMOc G za zz_0 zz_1 zz_2 zz_3 zz_4 zz_5 zz_6 zz_7 zz_8 o1 (upd zz10_14 x1_14.toNatClampNeg ((-1) : Int32)) zz11_14 zz12_14 zz13_14 zz14_14 zz_15 zz16_14 zz_17) := hD
                    obtain rfl := sp_s h
                    exact J19 _ _ hP hD hS _ (lv_sub hl [0, 1, 2] rfl)
                  · have h := sp_f c31 h
                    refine lv_iconst (v := ((-1) : Int32)) hx hb dX3_plans_122 (by decide) ?_
                    refine lv_goto (tgt := 130) hx hb dX3_plans_123 (by decide) ?_
                    obtain rfl := sp_s h
                    exact J19 _ _ hP hD hS _ (lv_sub hl [0, 1, 2] rfl)
              · have h := hv18
                clear hv18
                refine lv_if_eq (tgt := 107) hx hb dX3_plans_100 (by decide) (fun c33 => ?_) (fun c33 => ?_)
                · have h := sp_t c33 h
                  refine lv_aload_n hx hb dX3_plans_107 rfl (lv_at hl 1 rfl) ?_
                  refine lv_iload_n hx hb dX3_plans_108 rfl (lv_at hl 0 rfl) ?_
                  obtain ⟨o34, ho34, h⟩ := sp_b h
                  refine xk_ci (va_runV (As := [.int x1_14]) (rest := []) ⟨hx, hb, hml, hown, hts⟩ (c_X3_revisitFor l G za (zz_0, zz_1, zz_2, zz_3, zz_4, zz_5, zz_6, zz_7, zz_8, o1, (upd zz10_14 x1_14.toNatClampNeg ((-1) : Int32)), zz11_14, zz12_14, zz13_14, zz14_14, zz_15, zz16_14, zz_17) x1_14 o34 ho34 H.size) (cwV 1 hts gX3_plans_X3_revisitFor rfl rfl rfl (by decide +kernel) ⟨Nat.le_of_ble_eq_true rfl, Nat.le_of_ble_eq_true rfl⟩) (xk_preV hK hNE (hP.sub (ws' := (wMOc G za zz_0 zz_1 zz_2 zz_3 zz_4 zz_5 zz_6 zz_7 zz_8 o1 (upd zz10_14 x1_14.toNatClampNeg ((-1) : Int32)) zz11_14 zz12_14 zz13_14 zz14_14 zz_15 zz16_14 zz_17)) [0, 1, 2, 3, 4, 5, 6, 7, 8, 9, 10, 11, 12, 13, 14, 15] rfl) (hD.sub (ws' := (wMOc G za zz_0 zz_1 zz_2 zz_3 zz_4 zz_5 zz_6 zz_7 zz_8 o1 (upd zz10_14 x1_14.toNatClampNeg ((-1) : Int32)) zz11_14 zz12_14 zz13_14 zz14_14 zz_15 zz16_14 zz_17)) [0, 1, 2, 3, 4, 5, 6, 7, 8, 9, 10, 11, 12, 13, 14, 15] (by decide) rfl) (ci := 3) rfl rfl) rfl rfl hl.1 rfl (lv_room (Nat.le_of_ble_eq_true rfl)) dX3_plans_109 ⟨Nat.le_of_ble_eq_true rfl, Nat.le_of_ble_eq_true rfl⟩) hP hD hS hA [0, 1, 2, 3, 4, 5, 6, 7, 8, 9, 10, 11, 12, 13, 14, 15] [] [0, 1, 2, 3, 4, 5, 6, 7, 8, 9, 10, 11, 12, 13, 14, 15] rfl rfl (by decide) (by decide) rfl (by decide) (fun H locs hP hD hS => ?_)
                  have hP : va_P G.1 vwCl (wMOc G za zz_0 zz_1 zz_2 zz_3 zz_4 zz_5 zz_6 zz_7 zz_8 o1 (upd zz10_14 x1_14.toNatClampNeg ((-1) : Int32)) zz11_14 zz12_14 zz13_14 zz14_14 zz_15 zz16_14 zz_17) H := hP
                  have hD : va_D A (wMOc G za zz_0 zz_1 zz_2 zz_3 zz_4 zz_5 zz_6 zz_7 zz_8 o1 (upd zz10_14 x1_14.toNatClampNeg ((-1) : Int32)) zz11_14 zz12_14 zz13_14 zz14_14 zz_15 zz16_14 zz_17) := hD
                  obtain rfl := sp_s h
                  exact J18 _ _ hP hD hS _ (lv_sub hl [0, 1] rfl)
                · have h := sp_f c33 h
                  refine lv_iconst (v := ((-1) : Int32)) hx hb dX3_plans_103 (by decide) ?_
                  refine lv_goto (tgt := 112) hx hb dX3_plans_104 (by decide) ?_
                  obtain rfl := sp_s h
                  exact J18 _ _ hP hD hS _ (lv_sub hl [0, 1] rfl)
          · exact LL 300 ((0 : Int32), zz_10, w7, w11, w3.1, w3.2, (0 : Int32)) h _ _ hP hD hS _ (lv_sub hl [0, 1] rfl)
      · have h := hw11
        clear hw11
        refine xk_lp (α := Int32 × xF) G A s.heap (fun a_10 => (wMOc G za zz_0 zz_1 zz_2 zz_3 zz_4 zz_5 zz_6 zz_7 zz_8 o1 zz_10 w7 a_10.2 w3.1 w3.2 zz_15 (0 : Int32) zz_17)) 4 (fun a_10 => [(1, .int a_10.1), (0, .ref (za 0))]) 60 (fun n a_10 => f_X3_plans_l60  n a_10.1 a_10.2 = some w11) (fun a_10 h => ?_) (fun n ih_10 a_10 h H locs hP hD hS ls hl => ?_) (fun LL => ?_)
        · exact sp_n ((f_X3_plans_l60_z _ _).symm.trans h)
        · obtain ⟨x1_10, zz12_10⟩ := a_10
          have h := (f_X3_plans_l60_s  n x1_10 zz12_10).symm.trans h
          have hP : va_P G.1 vwCl (wMOc G za zz_0 zz_1 zz_2 zz_3 zz_4 zz_5 zz_6 zz_7 zz_8 o1 zz_10 w7 zz12_10 w3.1 w3.2 zz_15 (0 : Int32) zz_17) H := hP
          have hD : va_D A (wMOc G za zz_0 zz_1 zz_2 zz_3 zz_4 zz_5 zz_6 zz_7 zz_8 o1 zz_10 w7 zz12_10 w3.1 w3.2 zz_15 (0 : Int32) zz_17) := hD
          have hl : lv_has ls 4 [(1, .int x1_10), (0, .ref (za 0))] := hl
          refine lv_iload_n hx hb dX3_plans_60 rfl (lv_at hl 0 rfl) ?_
          refine lv_bipush (v := (36 : Int32)) hx hb dX3_plans_61 (by decide) ?_
          refine lv_icmp_ge (tgt := 79) hx hb dX3_plans_63 (by decide) (fun c12 => ?_) (fun c12 => ?_)
          · have h := sp_t c12 h
            obtain rfl := sp_s h
            exact J10 _ _ hP hD hS _ (lv_sub hl [1] rfl)
          · have h := sp_f c12 h
            refine lv_aload_n hx hb dX3_plans_66 rfl (lv_at hl 1 rfl) ?_
            refine va_get (D := G.1) (ci := 3) (v := .ref (za 12)) (C := RX3) (T := TX3) (N := 18) hx hb hts hinX3 hown hK hP 0 rfl rfl 12 (by decide) (hts (.fieldLink RX3 44 "LessonWeaveModel" "revisitOn" "[I") (by decide +kernel)) (fun _ h9 => h9) rfl dX3_plans_67 ?_
            refine lv_iload_n hx hb dX3_plans_70 rfl (lv_at hl 0 rfl) ?_
            refine lv_iconst (v := ((-1) : Int32)) hx hb dX3_plans_71 (by decide) ?_
            obtain ⟨hin13, h⟩ := sp_g h
            refine va_iast hx hb hK hP hD hS 12 0 rfl rfl hin13 dX3_plans_72 (fun H locs hP hD hS => ?_)
            have hP : va_P G.1 vwCl (wMOc G za zz_0 zz_1 zz_2 zz_3 zz_4 zz_5 zz_6 zz_7 zz_8 o1 zz_10 w7 (upd zz12_10 x1_10.toNatClampNeg ((-1) : Int32)) w3.1 w3.2 zz_15 (0 : Int32) zz_17) H := hP
            have hD : va_D A (wMOc G za zz_0 zz_1 zz_2 zz_3 zz_4 zz_5 zz_6 zz_7 zz_8 o1 zz_10 w7 (upd zz12_10 x1_10.toNatClampNeg ((-1) : Int32)) w3.1 w3.2 zz_15 (0 : Int32) zz_17) := hD
            refine lv_iinc (v := (x1_10 + (1 : Int32))) (lv' := [(1, .int (x1_10 + (1 : Int32))), (0, .ref (za 0))]) hx hb dX3_plans_73 hl (k := 0) rfl rfl (by decide) rfl (fun ls hl => ?_)
            refine lv_goto (tgt := 60) hx hb dX3_plans_76 (by decide) ?_
            exact ih_10 ((x1_10 + (1 : Int32)), (upd zz12_10 x1_10.toNatClampNeg ((-1) : Int32))) h _ _ hP hD hS _ (lv_sub hl [0, 1] rfl)
        · exact LL 300 ((0 : Int32), zz_12) h _ _ hP hD hS _ (lv_sub hl [0, 1] rfl)
    · have h := hw7
      clear hw7
      refine xk_lp (α := Int32 × xF) G A s.heap (fun a_6 => (wMOc G za zz_0 zz_1 zz_2 zz_3 zz_4 zz_5 zz_6 zz_7 zz_8 o1 zz_10 a_6.2 zz_12 w3.1 w3.2 zz_15 (0 : Int32) zz_17)) 4 (fun a_6 => [(1, .int a_6.1), (0, .ref (za 0))]) 39 (fun n a_6 => f_X3_plans_l39  n a_6.1 a_6.2 = some w7) (fun a_6 h => ?_) (fun n ih_6 a_6 h H locs hP hD hS ls hl => ?_) (fun LL => ?_)
      · exact sp_n ((f_X3_plans_l39_z _ _).symm.trans h)
      · obtain ⟨x1_6, zz11_6⟩ := a_6
        have h := (f_X3_plans_l39_s  n x1_6 zz11_6).symm.trans h
        have hP : va_P G.1 vwCl (wMOc G za zz_0 zz_1 zz_2 zz_3 zz_4 zz_5 zz_6 zz_7 zz_8 o1 zz_10 zz11_6 zz_12 w3.1 w3.2 zz_15 (0 : Int32) zz_17) H := hP
        have hD : va_D A (wMOc G za zz_0 zz_1 zz_2 zz_3 zz_4 zz_5 zz_6 zz_7 zz_8 o1 zz_10 zz11_6 zz_12 w3.1 w3.2 zz_15 (0 : Int32) zz_17) := hD
        have hl : lv_has ls 4 [(1, .int x1_6), (0, .ref (za 0))] := hl
        refine lv_iload_n hx hb dX3_plans_39 rfl (lv_at hl 0 rfl) ?_
        refine lv_bipush (v := (60 : Int32)) hx hb dX3_plans_40 (by decide) ?_
        refine lv_icmp_ge (tgt := 58) hx hb dX3_plans_42 (by decide) (fun c8 => ?_) (fun c8 => ?_)
        · have h := sp_t c8 h
          obtain rfl := sp_s h
          exact J6 _ _ hP hD hS _ (lv_sub hl [1] rfl)
        · have h := sp_f c8 h
          refine lv_aload_n hx hb dX3_plans_45 rfl (lv_at hl 1 rfl) ?_
          refine va_get (D := G.1) (ci := 3) (v := .ref (za 11)) (C := RX3) (T := TX3) (N := 18) hx hb hts hinX3 hown hK hP 0 rfl rfl 11 (by decide) (hts (.fieldLink RX3 41 "LessonWeaveModel" "lessonOn" "[I") (by decide +kernel)) (fun _ h9 => h9) rfl dX3_plans_46 ?_
          refine lv_iload_n hx hb dX3_plans_49 rfl (lv_at hl 0 rfl) ?_
          refine lv_iconst (v := ((-1) : Int32)) hx hb dX3_plans_50 (by decide) ?_
          obtain ⟨hin9, h⟩ := sp_g h
          refine va_iast hx hb hK hP hD hS 11 0 rfl rfl hin9 dX3_plans_51 (fun H locs hP hD hS => ?_)
          have hP : va_P G.1 vwCl (wMOc G za zz_0 zz_1 zz_2 zz_3 zz_4 zz_5 zz_6 zz_7 zz_8 o1 zz_10 (upd zz11_6 x1_6.toNatClampNeg ((-1) : Int32)) zz_12 w3.1 w3.2 zz_15 (0 : Int32) zz_17) H := hP
          have hD : va_D A (wMOc G za zz_0 zz_1 zz_2 zz_3 zz_4 zz_5 zz_6 zz_7 zz_8 o1 zz_10 (upd zz11_6 x1_6.toNatClampNeg ((-1) : Int32)) zz_12 w3.1 w3.2 zz_15 (0 : Int32) zz_17) := hD
          refine lv_iinc (v := (x1_6 + (1 : Int32))) (lv' := [(1, .int (x1_6 + (1 : Int32))), (0, .ref (za 0))]) hx hb dX3_plans_52 hl (k := 0) rfl rfl (by decide) rfl (fun ls hl => ?_)
          refine lv_goto (tgt := 39) hx hb dX3_plans_55 (by decide) ?_
          exact ih_6 ((x1_6 + (1 : Int32)), (upd zz11_6 x1_6.toNatClampNeg ((-1) : Int32))) h _ _ hP hD hS _ (lv_sub hl [0, 1] rfl)
      · exact LL 300 ((0 : Int32), zz_11) h _ _ hP hD hS _ (lv_sub hl [0, 1] rfl)
  · have h := hw3
    clear hw3
    refine xk_lp (α := Int32 × xF × xF) G A s.heap (fun a_2 => (wMOc G za zz_0 zz_1 zz_2 zz_3 zz_4 zz_5 zz_6 zz_7 zz_8 o1 zz_10 zz_11 zz_12 a_2.2.1 a_2.2.2 zz_15 (0 : Int32) zz_17)) 4 (fun a_2 => [(1, .int a_2.1), (0, .ref (za 0))]) 11 (fun n a_2 => f_X3_plans_l11  n a_2.1 a_2.2.1 a_2.2.2 = some w3) (fun a_2 h => ?_) (fun n ih_2 a_2 h H locs hP hD hS ls hl => ?_) (fun LL => ?_)
    · exact sp_n ((f_X3_plans_l11_z _ _ _).symm.trans h)
    · obtain ⟨x1_2, zz13_2, zz14_2⟩ := a_2
      have h := (f_X3_plans_l11_s  n x1_2 zz13_2 zz14_2).symm.trans h
      have hP : va_P G.1 vwCl (wMOc G za zz_0 zz_1 zz_2 zz_3 zz_4 zz_5 zz_6 zz_7 zz_8 o1 zz_10 zz_11 zz_12 zz13_2 zz14_2 zz_15 (0 : Int32) zz_17) H := hP
      have hD : va_D A (wMOc G za zz_0 zz_1 zz_2 zz_3 zz_4 zz_5 zz_6 zz_7 zz_8 o1 zz_10 zz_11 zz_12 zz13_2 zz14_2 zz_15 (0 : Int32) zz_17) := hD
      have hl : lv_has ls 4 [(1, .int x1_2), (0, .ref (za 0))] := hl
      refine lv_iload_n hx hb dX3_plans_11 rfl (lv_at hl 0 rfl) ?_
      refine lv_bipush (v := (12 : Int32)) hx hb dX3_plans_12 (by decide) ?_
      refine lv_icmp_ge (tgt := 37) hx hb dX3_plans_14 (by decide) (fun c4 => ?_) (fun c4 => ?_)
      · have h := sp_t c4 h
        obtain rfl := sp_s h
        exact J2 _ _ hP hD hS _ (lv_sub hl [1] rfl)
      · have h := sp_f c4 h
        refine lv_aload_n hx hb dX3_plans_17 rfl (lv_at hl 1 rfl) ?_
        refine va_get (D := G.1) (ci := 3) (v := .ref (za 13)) (C := RX3) (T := TX3) (N := 18) hx hb hts hinX3 hown hK hP 0 rfl rfl 13 (by decide) (hts (.fieldLink RX3 47 "LessonWeaveModel" "lessonsLaid" "[I") (by decide +kernel)) (fun _ h9 => h9) rfl dX3_plans_18 ?_
        refine lv_iload_n hx hb dX3_plans_21 rfl (lv_at hl 0 rfl) ?_
        refine lv_iconst (v := (0 : Int32)) hx hb dX3_plans_22 (by decide) ?_
        obtain ⟨hin5, h⟩ := sp_g h
        refine va_iast hx hb hK hP hD hS 13 0 rfl rfl hin5 dX3_plans_23 (fun H locs hP hD hS => ?_)
        have hP : va_P G.1 vwCl (wMOc G za zz_0 zz_1 zz_2 zz_3 zz_4 zz_5 zz_6 zz_7 zz_8 o1 zz_10 zz_11 zz_12 (upd zz13_2 x1_2.toNatClampNeg (0 : Int32)) zz14_2 zz_15 (0 : Int32) zz_17) H := hP
        have hD : va_D A (wMOc G za zz_0 zz_1 zz_2 zz_3 zz_4 zz_5 zz_6 zz_7 zz_8 o1 zz_10 zz_11 zz_12 (upd zz13_2 x1_2.toNatClampNeg (0 : Int32)) zz14_2 zz_15 (0 : Int32) zz_17) := hD
        refine lv_aload_n hx hb dX3_plans_24 rfl (lv_at hl 1 rfl) ?_
        refine va_get (D := G.1) (ci := 3) (v := .ref (za 14)) (C := RX3) (T := TX3) (N := 18) hx hb hts hinX3 hown hK hP 0 rfl rfl 14 (by decide) (hts (.fieldLink RX3 50 "LessonWeaveModel" "revisitsLaid" "[I") (by decide +kernel)) (fun _ h9 => h9) rfl dX3_plans_25 ?_
        refine lv_iload_n hx hb dX3_plans_28 rfl (lv_at hl 0 rfl) ?_
        refine lv_iconst (v := (0 : Int32)) hx hb dX3_plans_29 (by decide) ?_
        refine va_iast hx hb hK hP hD hS 14 0 rfl rfl hin5 dX3_plans_30 (fun H locs hP hD hS => ?_)
        have hP : va_P G.1 vwCl (wMOc G za zz_0 zz_1 zz_2 zz_3 zz_4 zz_5 zz_6 zz_7 zz_8 o1 zz_10 zz_11 zz_12 (upd zz13_2 x1_2.toNatClampNeg (0 : Int32)) (upd zz14_2 x1_2.toNatClampNeg (0 : Int32)) zz_15 (0 : Int32) zz_17) H := hP
        have hD : va_D A (wMOc G za zz_0 zz_1 zz_2 zz_3 zz_4 zz_5 zz_6 zz_7 zz_8 o1 zz_10 zz_11 zz_12 (upd zz13_2 x1_2.toNatClampNeg (0 : Int32)) (upd zz14_2 x1_2.toNatClampNeg (0 : Int32)) zz_15 (0 : Int32) zz_17) := hD
        refine lv_iinc (v := (x1_2 + (1 : Int32))) (lv' := [(1, .int (x1_2 + (1 : Int32))), (0, .ref (za 0))]) hx hb dX3_plans_31 hl (k := 0) rfl rfl (by decide) rfl (fun ls hl => ?_)
        refine lv_goto (tgt := 11) hx hb dX3_plans_34 (by decide) ?_
        exact ih_2 ((x1_2 + (1 : Int32)), (upd zz13_2 x1_2.toNatClampNeg (0 : Int32)), (upd zz14_2 x1_2.toNatClampNeg (0 : Int32))) h _ _ hP hD hS _ (lv_sub hl [0, 1] rfl)
    · exact LL 300 ((0 : Int32), zz_13, zz_14) h _ _ hP hD hS _ (lv_sub hl [0, 1] rfl)
