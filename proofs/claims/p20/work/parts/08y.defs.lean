def f_yr (L9 : Nat) (xs : xF) (i1 : Int32) : Nat → Int32 → xF → xSY → xPL → xPL → xF → xF → xF → (Nat → Int64) → Option Int32
  | 0 => fun _ _ _ _ _ _ _ _ _ => none
  | k9 + 1 => fun i7 lo yy pp qq ka kr kc kl =>
    if (36 : Int32) ≤ i7 then
      Option.bind (f_L_isPlan lo (yy.1, yy.2.1, yy.2.2.1, yy.2.2.2.1, yy.2.2.2.2.1, yy.2.2.2.2.2.1, yy.2.2.2.2.2.2.1, yy.2.2.2.2.2.2.2.1, yy.2.2.2.2.2.2.2.2) (pp.1, pp.2.1, pp.2.2.1, pp.2.2.2.1, pp.2.2.2.2.1, pp.2.2.2.2.2.1, pp.2.2.2.2.2.2.1, pp.2.2.2.2.2.2.2.1, pp.2.2.2.2.2.2.2.2) (qq.1, qq.2.1, qq.2.2.1, qq.2.2.2.1, qq.2.2.2.2.1, qq.2.2.2.2.2.1, qq.2.2.2.2.2.2.1, qq.2.2.2.2.2.2.2.1, qq.2.2.2.2.2.2.2.2) ka kr kc kl) fun (o2 : Int32) =>
      if o2 = 0 then
        some (0 : Int32)
      else
        Option.bind (f_L_isWorth lo (yy.1, yy.2.1, yy.2.2.1, yy.2.2.2.1, yy.2.2.2.2.1, yy.2.2.2.2.2.1, yy.2.2.2.2.2.2.1, yy.2.2.2.2.2.2.2.1, yy.2.2.2.2.2.2.2.2) (pp.1, pp.2.1, pp.2.2.1, pp.2.2.2.1, pp.2.2.2.2.1, pp.2.2.2.2.2.1, pp.2.2.2.2.2.2.1, pp.2.2.2.2.2.2.2.1, pp.2.2.2.2.2.2.2.2) (qq.1, qq.2.1, qq.2.2.1, qq.2.2.2.1, qq.2.2.2.2.1, qq.2.2.2.2.2.1, qq.2.2.2.2.2.2.1, qq.2.2.2.2.2.2.2.1, qq.2.2.2.2.2.2.2.2) ka kc (99 : Int32)) fun (o4 : Int32) =>
        if o4 = 0 then
          some (0 : Int32)
        else
          Option.bind (f_L_isWorth lo (yy.1, yy.2.1, yy.2.2.1, yy.2.2.2.1, yy.2.2.2.2.1, yy.2.2.2.2.2.1, yy.2.2.2.2.2.2.1, yy.2.2.2.2.2.2.2.1, yy.2.2.2.2.2.2.2.2) (pp.1, pp.2.1, pp.2.2.1, pp.2.2.2.1, pp.2.2.2.2.1, pp.2.2.2.2.2.1, pp.2.2.2.2.2.2.1, pp.2.2.2.2.2.2.2.1, pp.2.2.2.2.2.2.2.2) (qq.1, qq.2.1, qq.2.2.1, qq.2.2.2.1, qq.2.2.2.2.1, qq.2.2.2.2.2.1, qq.2.2.2.2.2.2.1, qq.2.2.2.2.2.2.2.1, qq.2.2.2.2.2.2.2.2) ka kc (0 : Int32)) fun (o6 : Int32) =>
          if o6 = 0 then
            some (0 : Int32)
          else
            some (1 : Int32)
    else
      Option.bind (f_L_draw L9 xs ((i1 + ((3 : Int32) * i7)) + (1 : Int32)) (1073741824 : Int32)) fun (o8 : Int32) =>
      Option.bind (f_L_draw L9 xs ((i1 + ((3 : Int32) * i7)) + (2 : Int32)) (1073741824 : Int32)) fun (o9 : Int32) =>
      Option.bind (
        if (5 : Int32) ≤ i7 then
          Option.bind (f_L_draw L9 xs (i1 + ((3 : Int32) * i7)) (14 : Int32)) fun (o35 : Int32) =>
          some o35
        else
          some (0 : Int32)) fun (v10 : Int32) =>
      Option.bind (f_L_step lo (yy.1, yy.2.1, yy.2.2.1, yy.2.2.2.1, yy.2.2.2.2.1, yy.2.2.2.2.2.1, yy.2.2.2.2.2.2.1, yy.2.2.2.2.2.2.2.1, yy.2.2.2.2.2.2.2.2) (pp.1, pp.2.1, pp.2.2.1, pp.2.2.2.1, pp.2.2.2.2.1, pp.2.2.2.2.2.1, pp.2.2.2.2.2.2.1, pp.2.2.2.2.2.2.2.1, pp.2.2.2.2.2.2.2.2) (qq.1, qq.2.1, qq.2.2.1, qq.2.2.2.1, qq.2.2.2.2.1, qq.2.2.2.2.2.1, qq.2.2.2.2.2.2.1, qq.2.2.2.2.2.2.2.1, qq.2.2.2.2.2.2.2.2) ka kr kc kl v10 o8 o9) fun (o11 : Int32 × xF × xSY × xPL × xPL × xF × xF × xF × (Nat → Int64)) =>
      if o11.1 = 0 then
        some (0 : Int32)
      else
        if i7 ≤ (3 : Int32) then
          if (i7 - i7 / (4 : Int32) * (4 : Int32)) = (3 : Int32) then
            Option.bind (f_L_isPlan o11.2.1 o11.2.2.1 o11.2.2.2.1 o11.2.2.2.2.1 o11.2.2.2.2.2.1 o11.2.2.2.2.2.2.1 o11.2.2.2.2.2.2.2.1 o11.2.2.2.2.2.2.2.2) fun (o18 : Int32) =>
            if o18 = 0 then
              some (0 : Int32)
            else
              if (i7 - i7 / (6 : Int32) * (6 : Int32)) = (5 : Int32) then
                Option.bind (f_L_isWorth o11.2.1 o11.2.2.1 o11.2.2.2.1 o11.2.2.2.2.1 o11.2.2.2.2.2.1 o11.2.2.2.2.2.2.2.1 ((o8 / (9 : Int32)) - (o8 / (9 : Int32)) / (30 : Int32) * (30 : Int32))) fun (o21 : Int32) =>
                if o21 = 0 then
                  some (0 : Int32)
                else
                  f_yr L9 xs i1 k9 (i7 + (1 : Int32)) o11.2.1 o11.2.2.1 o11.2.2.2.1 o11.2.2.2.2.1 o11.2.2.2.2.2.1 o11.2.2.2.2.2.2.1 o11.2.2.2.2.2.2.2.1 o11.2.2.2.2.2.2.2.2
              else
                f_yr L9 xs i1 k9 (i7 + (1 : Int32)) o11.2.1 o11.2.2.1 o11.2.2.2.1 o11.2.2.2.2.1 o11.2.2.2.2.2.1 o11.2.2.2.2.2.2.1 o11.2.2.2.2.2.2.2.1 o11.2.2.2.2.2.2.2.2
          else
            if (i7 - i7 / (6 : Int32) * (6 : Int32)) = (5 : Int32) then
              Option.bind (f_L_isWorth o11.2.1 o11.2.2.1 o11.2.2.2.1 o11.2.2.2.2.1 o11.2.2.2.2.2.1 o11.2.2.2.2.2.2.2.1 ((o8 / (9 : Int32)) - (o8 / (9 : Int32)) / (30 : Int32) * (30 : Int32))) fun (o16 : Int32) =>
              if o16 = 0 then
                some (0 : Int32)
              else
                f_yr L9 xs i1 k9 (i7 + (1 : Int32)) o11.2.1 o11.2.2.1 o11.2.2.2.1 o11.2.2.2.2.1 o11.2.2.2.2.2.1 o11.2.2.2.2.2.2.1 o11.2.2.2.2.2.2.2.1 o11.2.2.2.2.2.2.2.2
            else
              f_yr L9 xs i1 k9 (i7 + (1 : Int32)) o11.2.1 o11.2.2.1 o11.2.2.2.1 o11.2.2.2.2.1 o11.2.2.2.2.2.1 o11.2.2.2.2.2.2.1 o11.2.2.2.2.2.2.2.1 o11.2.2.2.2.2.2.2.2
        else
          Option.bind (f_L_isOrder o11.2.1 o11.2.2.1 o11.2.2.2.1 o11.2.2.2.2.1 o11.2.2.2.2.2.1 o11.2.2.2.2.2.2.2.1) fun (o23 : Int32) =>
          if o23 = 0 then
            some (0 : Int32)
          else
            if (i7 - i7 / (4 : Int32) * (4 : Int32)) = (3 : Int32) then
              Option.bind (f_L_isPlan o11.2.1 o11.2.2.1 o11.2.2.2.1 o11.2.2.2.2.1 o11.2.2.2.2.2.1 o11.2.2.2.2.2.2.1 o11.2.2.2.2.2.2.2.1 o11.2.2.2.2.2.2.2.2) fun (o29 : Int32) =>
              if o29 = 0 then
                some (0 : Int32)
              else
                if (i7 - i7 / (6 : Int32) * (6 : Int32)) = (5 : Int32) then
                  Option.bind (f_L_isWorth o11.2.1 o11.2.2.1 o11.2.2.2.1 o11.2.2.2.2.1 o11.2.2.2.2.2.1 o11.2.2.2.2.2.2.2.1 ((o8 / (9 : Int32)) - (o8 / (9 : Int32)) / (30 : Int32) * (30 : Int32))) fun (o32 : Int32) =>
                  if o32 = 0 then
                    some (0 : Int32)
                  else
                    f_yr L9 xs i1 k9 (i7 + (1 : Int32)) o11.2.1 o11.2.2.1 o11.2.2.2.1 o11.2.2.2.2.1 o11.2.2.2.2.2.1 o11.2.2.2.2.2.2.1 o11.2.2.2.2.2.2.2.1 o11.2.2.2.2.2.2.2.2
                else
                  f_yr L9 xs i1 k9 (i7 + (1 : Int32)) o11.2.1 o11.2.2.1 o11.2.2.2.1 o11.2.2.2.2.1 o11.2.2.2.2.2.1 o11.2.2.2.2.2.2.1 o11.2.2.2.2.2.2.2.1 o11.2.2.2.2.2.2.2.2
            else
              if (i7 - i7 / (6 : Int32) * (6 : Int32)) = (5 : Int32) then
                Option.bind (f_L_isWorth o11.2.1 o11.2.2.1 o11.2.2.2.1 o11.2.2.2.2.1 o11.2.2.2.2.2.1 o11.2.2.2.2.2.2.2.1 ((o8 / (9 : Int32)) - (o8 / (9 : Int32)) / (30 : Int32) * (30 : Int32))) fun (o27 : Int32) =>
                if o27 = 0 then
                  some (0 : Int32)
                else
                  f_yr L9 xs i1 k9 (i7 + (1 : Int32)) o11.2.1 o11.2.2.1 o11.2.2.2.1 o11.2.2.2.2.1 o11.2.2.2.2.2.1 o11.2.2.2.2.2.2.1 o11.2.2.2.2.2.2.2.1 o11.2.2.2.2.2.2.2.2
              else
                f_yr L9 xs i1 k9 (i7 + (1 : Int32)) o11.2.1 o11.2.2.1 o11.2.2.2.1 o11.2.2.2.2.1 o11.2.2.2.2.2.1 o11.2.2.2.2.2.2.1 o11.2.2.2.2.2.2.2.1 o11.2.2.2.2.2.2.2.2
theorem f_yr_z (L9 : Nat) (xs : xF) (i1 : Int32) (i7 : Int32) (lo : xF) (yy : xSY) (pp : xPL) (qq : xPL) (ka : xF) (kr : xF) (kc : xF) (kl : (Nat → Int64)) : f_yr L9 xs i1 0 i7 lo yy pp qq ka kr kc kl = none := rfl
theorem f_yr_s (L9 : Nat) (xs : xF) (i1 : Int32) (k9 : Nat) (i7 : Int32) (lo : xF) (yy_0 : Int32) (yy_1 : xF) (yy_2 : xF) (yy_3 : xF) (yy_4 : xF) (yy_5 : xF) (yy_6 : xF) (yy_7 : xF) (yy_8 : xF) (pp_0 : xF) (pp_1 : xF) (pp_2 : xF) (pp_3 : xF) (pp_4 : xF) (pp_5 : xF) (pp_6 : Int32) (pp_7 : Int32) (pp_8 : Int32) (qq_0 : xF) (qq_1 : xF) (qq_2 : xF) (qq_3 : xF) (qq_4 : xF) (qq_5 : xF) (qq_6 : Int32) (qq_7 : Int32) (qq_8 : Int32) (ka : xF) (kr : xF) (kc : xF) (kl : (Nat → Int64)) : f_yr L9 xs i1 (k9 + 1) i7 lo (yy_0, yy_1, yy_2, yy_3, yy_4, yy_5, yy_6, yy_7, yy_8) (pp_0, pp_1, pp_2, pp_3, pp_4, pp_5, pp_6, pp_7, pp_8) (qq_0, qq_1, qq_2, qq_3, qq_4, qq_5, qq_6, qq_7, qq_8) ka kr kc kl =
    if (36 : Int32) ≤ i7 then
      Option.bind (f_L_isPlan lo (yy_0, yy_1, yy_2, yy_3, yy_4, yy_5, yy_6, yy_7, yy_8) (pp_0, pp_1, pp_2, pp_3, pp_4, pp_5, pp_6, pp_7, pp_8) (qq_0, qq_1, qq_2, qq_3, qq_4, qq_5, qq_6, qq_7, qq_8) ka kr kc kl) fun (o2 : Int32) =>
      if o2 = 0 then
        some (0 : Int32)
      else
        Option.bind (f_L_isWorth lo (yy_0, yy_1, yy_2, yy_3, yy_4, yy_5, yy_6, yy_7, yy_8) (pp_0, pp_1, pp_2, pp_3, pp_4, pp_5, pp_6, pp_7, pp_8) (qq_0, qq_1, qq_2, qq_3, qq_4, qq_5, qq_6, qq_7, qq_8) ka kc (99 : Int32)) fun (o4 : Int32) =>
        if o4 = 0 then
          some (0 : Int32)
        else
          Option.bind (f_L_isWorth lo (yy_0, yy_1, yy_2, yy_3, yy_4, yy_5, yy_6, yy_7, yy_8) (pp_0, pp_1, pp_2, pp_3, pp_4, pp_5, pp_6, pp_7, pp_8) (qq_0, qq_1, qq_2, qq_3, qq_4, qq_5, qq_6, qq_7, qq_8) ka kc (0 : Int32)) fun (o6 : Int32) =>
          if o6 = 0 then
            some (0 : Int32)
          else
            some (1 : Int32)
    else
      Option.bind (f_L_draw L9 xs ((i1 + ((3 : Int32) * i7)) + (1 : Int32)) (1073741824 : Int32)) fun (o8 : Int32) =>
      Option.bind (f_L_draw L9 xs ((i1 + ((3 : Int32) * i7)) + (2 : Int32)) (1073741824 : Int32)) fun (o9 : Int32) =>
      Option.bind (
        if (5 : Int32) ≤ i7 then
          Option.bind (f_L_draw L9 xs (i1 + ((3 : Int32) * i7)) (14 : Int32)) fun (o35 : Int32) =>
          some o35
        else
          some (0 : Int32)) fun (v10 : Int32) =>
      Option.bind (f_L_step lo (yy_0, yy_1, yy_2, yy_3, yy_4, yy_5, yy_6, yy_7, yy_8) (pp_0, pp_1, pp_2, pp_3, pp_4, pp_5, pp_6, pp_7, pp_8) (qq_0, qq_1, qq_2, qq_3, qq_4, qq_5, qq_6, qq_7, qq_8) ka kr kc kl v10 o8 o9) fun (o11 : Int32 × xF × xSY × xPL × xPL × xF × xF × xF × (Nat → Int64)) =>
      if o11.1 = 0 then
        some (0 : Int32)
      else
        if i7 ≤ (3 : Int32) then
          if (i7 - i7 / (4 : Int32) * (4 : Int32)) = (3 : Int32) then
            Option.bind (f_L_isPlan o11.2.1 o11.2.2.1 o11.2.2.2.1 o11.2.2.2.2.1 o11.2.2.2.2.2.1 o11.2.2.2.2.2.2.1 o11.2.2.2.2.2.2.2.1 o11.2.2.2.2.2.2.2.2) fun (o18 : Int32) =>
            if o18 = 0 then
              some (0 : Int32)
            else
              if (i7 - i7 / (6 : Int32) * (6 : Int32)) = (5 : Int32) then
                Option.bind (f_L_isWorth o11.2.1 o11.2.2.1 o11.2.2.2.1 o11.2.2.2.2.1 o11.2.2.2.2.2.1 o11.2.2.2.2.2.2.2.1 ((o8 / (9 : Int32)) - (o8 / (9 : Int32)) / (30 : Int32) * (30 : Int32))) fun (o21 : Int32) =>
                if o21 = 0 then
                  some (0 : Int32)
                else
                  f_yr L9 xs i1 k9 (i7 + (1 : Int32)) o11.2.1 o11.2.2.1 o11.2.2.2.1 o11.2.2.2.2.1 o11.2.2.2.2.2.1 o11.2.2.2.2.2.2.1 o11.2.2.2.2.2.2.2.1 o11.2.2.2.2.2.2.2.2
              else
                f_yr L9 xs i1 k9 (i7 + (1 : Int32)) o11.2.1 o11.2.2.1 o11.2.2.2.1 o11.2.2.2.2.1 o11.2.2.2.2.2.1 o11.2.2.2.2.2.2.1 o11.2.2.2.2.2.2.2.1 o11.2.2.2.2.2.2.2.2
          else
            if (i7 - i7 / (6 : Int32) * (6 : Int32)) = (5 : Int32) then
              Option.bind (f_L_isWorth o11.2.1 o11.2.2.1 o11.2.2.2.1 o11.2.2.2.2.1 o11.2.2.2.2.2.1 o11.2.2.2.2.2.2.2.1 ((o8 / (9 : Int32)) - (o8 / (9 : Int32)) / (30 : Int32) * (30 : Int32))) fun (o16 : Int32) =>
              if o16 = 0 then
                some (0 : Int32)
              else
                f_yr L9 xs i1 k9 (i7 + (1 : Int32)) o11.2.1 o11.2.2.1 o11.2.2.2.1 o11.2.2.2.2.1 o11.2.2.2.2.2.1 o11.2.2.2.2.2.2.1 o11.2.2.2.2.2.2.2.1 o11.2.2.2.2.2.2.2.2
            else
              f_yr L9 xs i1 k9 (i7 + (1 : Int32)) o11.2.1 o11.2.2.1 o11.2.2.2.1 o11.2.2.2.2.1 o11.2.2.2.2.2.1 o11.2.2.2.2.2.2.1 o11.2.2.2.2.2.2.2.1 o11.2.2.2.2.2.2.2.2
        else
          Option.bind (f_L_isOrder o11.2.1 o11.2.2.1 o11.2.2.2.1 o11.2.2.2.2.1 o11.2.2.2.2.2.1 o11.2.2.2.2.2.2.2.1) fun (o23 : Int32) =>
          if o23 = 0 then
            some (0 : Int32)
          else
            if (i7 - i7 / (4 : Int32) * (4 : Int32)) = (3 : Int32) then
              Option.bind (f_L_isPlan o11.2.1 o11.2.2.1 o11.2.2.2.1 o11.2.2.2.2.1 o11.2.2.2.2.2.1 o11.2.2.2.2.2.2.1 o11.2.2.2.2.2.2.2.1 o11.2.2.2.2.2.2.2.2) fun (o29 : Int32) =>
              if o29 = 0 then
                some (0 : Int32)
              else
                if (i7 - i7 / (6 : Int32) * (6 : Int32)) = (5 : Int32) then
                  Option.bind (f_L_isWorth o11.2.1 o11.2.2.1 o11.2.2.2.1 o11.2.2.2.2.1 o11.2.2.2.2.2.1 o11.2.2.2.2.2.2.2.1 ((o8 / (9 : Int32)) - (o8 / (9 : Int32)) / (30 : Int32) * (30 : Int32))) fun (o32 : Int32) =>
                  if o32 = 0 then
                    some (0 : Int32)
                  else
                    f_yr L9 xs i1 k9 (i7 + (1 : Int32)) o11.2.1 o11.2.2.1 o11.2.2.2.1 o11.2.2.2.2.1 o11.2.2.2.2.2.1 o11.2.2.2.2.2.2.1 o11.2.2.2.2.2.2.2.1 o11.2.2.2.2.2.2.2.2
                else
                  f_yr L9 xs i1 k9 (i7 + (1 : Int32)) o11.2.1 o11.2.2.1 o11.2.2.2.1 o11.2.2.2.2.1 o11.2.2.2.2.2.1 o11.2.2.2.2.2.2.1 o11.2.2.2.2.2.2.2.1 o11.2.2.2.2.2.2.2.2
            else
              if (i7 - i7 / (6 : Int32) * (6 : Int32)) = (5 : Int32) then
                Option.bind (f_L_isWorth o11.2.1 o11.2.2.1 o11.2.2.2.1 o11.2.2.2.2.1 o11.2.2.2.2.2.1 o11.2.2.2.2.2.2.2.1 ((o8 / (9 : Int32)) - (o8 / (9 : Int32)) / (30 : Int32) * (30 : Int32))) fun (o27 : Int32) =>
                if o27 = 0 then
                  some (0 : Int32)
                else
                  f_yr L9 xs i1 k9 (i7 + (1 : Int32)) o11.2.1 o11.2.2.1 o11.2.2.2.1 o11.2.2.2.2.1 o11.2.2.2.2.2.1 o11.2.2.2.2.2.2.1 o11.2.2.2.2.2.2.2.1 o11.2.2.2.2.2.2.2.2
              else
                f_yr L9 xs i1 k9 (i7 + (1 : Int32)) o11.2.1 o11.2.2.1 o11.2.2.2.1 o11.2.2.2.2.1 o11.2.2.2.2.2.1 o11.2.2.2.2.2.2.1 o11.2.2.2.2.2.2.2.1 o11.2.2.2.2.2.2.2.2 := rfl
