def f_L_year (L9 : Nat) (xs : xF) (i1 : Int32) (p0 : xPL) : Option Int32 := f_yr L9 xs i1 37 (0 : Int32) (fun _ => (0 : Int32)) xk_y0 p0 p0 (fun _ => (0 : Int32)) (fun _ => (0 : Int32)) (fun _ => (0 : Int32)) (fun _ => (0 : Int64))
set_option maxHeartbeats 8000000 in
set_option maxRecDepth 100000 in
theorem c_L_year (l : Launch) (hl9 : l.stackTraces = false) (G : xG) (b9 L9 : Nat) (xs : xF) (i1 : Int32) (p0 : xPL) (o : Int32) (h0 : f_X0_clear xk_p0 = some p0) (h : f_L_year L9 xs i1 p0 = some o) : xk_CE l yL_year wsL_year ({ frames := 9, cells := 254, slots := 8878, locals := 222 } : Room) 254 8878 [.ref b9, .int i1] G [] (fun (_ : Unit) => []) o b9 L9 xs := by
  refine xk_CE.of (cc := cL_year) (maxL := 10) (ret := (some .boolean)) (by decide) rfl (Nat.le_of_ble_eq_true rfl) ?_
  intro pr9 en9 s mm9 bl9 meth9 cd9 A ls H locs hx hb hr hml hts hown hlk hA hP hK hD hNE hS hl hXB hSR hZX hX hbl hbA
  have hown : s.vm.findClass RL = some mm9.cls := hown
  have hl : lv_has ls 10 [(0, .ref b9), (1, .int i1)] := hl
  have hinX2 : ∀ w ∈ u_ws RX2 TX2 4, w ∈ wsL_year := by decide +kernel
  refine va_new (D := G.1) (ci := 2) (fs := [.null, .null, .null, .null]) (C := RX2) (T := TX2) (N := 4) hx hb hts hinX2 tyX2 tyX2_ok hown (hts (.classLink RL 11 RX2) (by decide +kernel)) (hts (.instantiable RX2 4) (by decide +kernel)) (hts (.initialized RX2) (by decide +kernel)) hK hP hD hS hA rfl xk_fsX2 (Nat.le_of_ble_eq_true rfl) (Nat.le_of_ble_eq_true rfl) dL_year_0 (fun xa H hP hD hS => ?_)
  have hP : va_P G.1 vwCl [(xa, .inr (2, [.null, .null, .null, .null]))] H := hP
  have hD : va_D A [(xa, .inr (2, [.null, .null, .null, .null]))] := hD
  refine lv_dup hx hb dL_year_3 rfl ?_
  refine xk_cn (va_runI (As := []) (rest := [.ref xa]) ⟨hx, hb, hml, hown, hts⟩ (c_X2_init l G xa p0 h0 H.size) (cwI 0 hts gL_year_X2_init rfl rfl rfl (hts (.initialized RX2) (by decide +kernel)) (hts (.methodLink RL 116 yX2_init) (by decide +kernel)) (hts (.instanceMethod yX2_init) (by decide +kernel)) rfl (by decide +kernel) ⟨(Nat.le_of_ble_eq_true rfl), (Nat.le_of_ble_eq_true rfl)⟩) (xk_preS hK hNE (hP.sub (ws' := [(xa, .inr (2, [.null, .null, .null, .null]))]) [0] rfl) (hD.sub (ws' := [(xa, .inr (2, [.null, .null, .null, .null]))]) [0] (by decide) rfl)) rfl rfl hl.1 rfl (lv_room (Nat.le_of_ble_eq_true rfl)) dL_year_4 ⟨(Nat.le_of_ble_eq_true rfl), (Nat.le_of_ble_eq_true rfl)⟩) hP hD hS hA [0] [] rfl rfl (by decide) (by decide) (fun u H locs hP hD hS => ?_)
  obtain ⟨y0, la, p1, q1, uy, up, uq⟩ := u
  have hP : va_P G.1 vwCl (xk_W2 G xa p0 (y0, la, p1, q1, uy, up, uq)) H := hP
  have hD : va_D A (xk_W2 G xa p0 (y0, la, p1, q1, uy, up, uq)) := hD
  refine lv_astore_n (lv' := [(2, .ref xa), (0, .ref b9), (1, .int i1)]) hx hb dL_year_7 rfl hl (by decide) rfl (fun ls hl => ?_)
  refine lv_bipush (v := (60 : Int32)) hx hb dL_year_8 (by decide) ?_
  refine xk_newI 60 hx hb (hts (.arrayClass .int) (by decide +kernel)) hK hP hD hS hA (by decide) rfl (Nat.le_of_ble_eq_true rfl) (Nat.le_of_ble_eq_true rfl) (Nat.le_of_ble_eq_true rfl) dL_year_10 (fun aka H hP hD hS => ?_)
  refine lv_astore_n (lv' := [(3, .ref aka), (2, .ref xa), (0, .ref b9), (1, .int i1)]) hx hb dL_year_12 rfl hl (by decide) rfl (fun ls hl => ?_)
  refine lv_bipush (v := (24 : Int32)) hx hb dL_year_13 (by decide) ?_
  refine xk_newI 24 hx hb (hts (.arrayClass .int) (by decide +kernel)) hK hP hD hS hA (by decide) rfl (Nat.le_of_ble_eq_true rfl) (Nat.le_of_ble_eq_true rfl) (Nat.le_of_ble_eq_true rfl) dL_year_15 (fun akr H hP hD hS => ?_)
  refine lv_astore (lv' := [(4, .ref akr), (3, .ref aka), (2, .ref xa), (0, .ref b9), (1, .int i1)]) hx hb dL_year_17 hl (by decide) rfl (fun ls hl => ?_)
  refine lv_iconst (v := (1 : Int32)) hx hb dL_year_19 (by decide) ?_
  refine xk_newI 1 hx hb (hts (.arrayClass .int) (by decide +kernel)) hK hP hD hS hA (by decide) rfl (Nat.le_of_ble_eq_true rfl) (Nat.le_of_ble_eq_true rfl) (Nat.le_of_ble_eq_true rfl) dL_year_20 (fun akc H hP hD hS => ?_)
  refine lv_astore (lv' := [(5, .ref akc), (4, .ref akr), (3, .ref aka), (2, .ref xa), (0, .ref b9), (1, .int i1)]) hx hb dL_year_22 hl (by decide) rfl (fun ls hl => ?_)
  refine lv_iconst (v := (2 : Int32)) hx hb dL_year_24 (by decide) ?_
  refine xk_newJ 2 hx hb (hts (.arrayClass .long) (by decide +kernel)) hK hP hD hS hA (by decide) rfl (Nat.le_of_ble_eq_true rfl) (Nat.le_of_ble_eq_true rfl) (Nat.le_of_ble_eq_true rfl) dL_year_25 (fun akl H hP hD hS => ?_)
  refine lv_astore (lv' := [(6, .ref akl), (5, .ref akc), (4, .ref akr), (3, .ref aka), (2, .ref xa), (0, .ref b9), (1, .int i1)]) hx hb dL_year_27 hl (by decide) rfl (fun ls hl => ?_)
  refine lv_iconst (v := (0 : Int32)) hx hb dL_year_29 (by decide) ?_
  refine lv_istore (lv' := [(7, .int (0 : Int32)), (6, .ref akl), (5, .ref akc), (4, .ref akr), (3, .ref aka), (2, .ref xa), (0, .ref b9), (1, .int i1)]) hx hb dL_year_30 hl (by decide) rfl (fun ls hl => ?_)
  exact year_loop hl9 G A hx hb hr hml hts hown hlk hA hK hNE hXB hSR hZX hX hbl hbA xa la aka akr akc akl (xk_c y0 uy) 37 _ _ (by decide) (by decide) (xk_c p1 up) (xk_c q1 uq) 0 (fun _ => 0) xk_y0 p0 p0 (fun _ => (0 : Int32)) (fun _ => (0 : Int32)) (fun _ => (0 : Int32)) (fun _ => (0 : Int64)) _ _ h (hP.sub [0, 10, 1, 2, 3, 4, 5, 6, 7, 8, 9, 11, 12, 13, 14, 15, 16, 17, 18, 19, 20, 21, 22, 23, 24, 25, 26, 27, 28] rfl) (hD.sub [0, 10, 1, 2, 3, 4, 5, 6, 7, 8, 9, 11, 12, 13, 14, 15, 16, 17, 18, 19, 20, 21, 22, 23, 24, 25, 26, 27, 28] (by decide) rfl) hS ls (lv_sub hl [0, 1, 2, 3, 4, 5, 7, 6] rfl)
